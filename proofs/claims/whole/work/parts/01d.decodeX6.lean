theorem dX6_init_0 : decode cX6_init 0 = .ok (.aload_n 0, 1) := by decide +kernel
theorem dX6_init_1 : decode cX6_init 1 = .ok (.invokespecial 3, 3) := by decide +kernel
theorem dX6_init_4 : decode cX6_init 4 = .ok (.aload_n 0, 1) := by decide +kernel
theorem dX6_init_5 : decode cX6_init 5 = .ok (.sipush 169, 3) := by decide +kernel
theorem dX6_init_8 : decode cX6_init 8 = .ok (.newarray .int, 2) := by decide +kernel
theorem dX6_init_10 : decode cX6_init 10 = .ok (.putfield 9, 3) := by decide +kernel
theorem dX6_init_13 : decode cX6_init 13 = .ok (.aload_n 0, 1) := by decide +kernel
theorem dX6_init_14 : decode cX6_init 14 = .ok (.sipush 169, 3) := by decide +kernel
theorem dX6_init_17 : decode cX6_init 17 = .ok (.newarray .int, 2) := by decide +kernel
theorem dX6_init_19 : decode cX6_init 19 = .ok (.putfield 13, 3) := by decide +kernel
theorem dX6_init_22 : decode cX6_init 22 = .ok (.aload_n 0, 1) := by decide +kernel
theorem dX6_init_23 : decode cX6_init 23 = .ok (.sipush 169, 3) := by decide +kernel
theorem dX6_init_26 : decode cX6_init 26 = .ok (.newarray .int, 2) := by decide +kernel
theorem dX6_init_28 : decode cX6_init 28 = .ok (.putfield 16, 3) := by decide +kernel
theorem dX6_init_31 : decode cX6_init 31 = .ok (.aload_n 0, 1) := by decide +kernel
theorem dX6_init_32 : decode cX6_init 32 = .ok (.sipush 1352, 3) := by decide +kernel
theorem dX6_init_35 : decode cX6_init 35 = .ok (.newarray .int, 2) := by decide +kernel
theorem dX6_init_37 : decode cX6_init 37 = .ok (.putfield 19, 3) := by decide +kernel
theorem dX6_init_40 : decode cX6_init 40 = .ok (.aload_n 0, 1) := by decide +kernel
theorem dX6_init_41 : decode cX6_init 41 = .ok (.bipush 30, 2) := by decide +kernel
theorem dX6_init_43 : decode cX6_init 43 = .ok (.newarray .char, 2) := by decide +kernel
theorem dX6_init_45 : decode cX6_init 45 = .ok (.putfield 22, 3) := by decide +kernel
theorem dX6_init_48 : decode cX6_init 48 = .ok (.aload_n 0, 1) := by decide +kernel
theorem dX6_init_49 : decode cX6_init 49 = .ok (.bipush 60, 2) := by decide +kernel
theorem dX6_init_51 : decode cX6_init 51 = .ok (.newarray .char, 2) := by decide +kernel
theorem dX6_init_53 : decode cX6_init 53 = .ok (.putfield 26, 3) := by decide +kernel
theorem dX6_init_56 : decode cX6_init 56 = .ok (.aload_n 0, 1) := by decide +kernel
theorem dX6_init_57 : decode cX6_init 57 = .ok (.iconst (-1), 1) := by decide +kernel
theorem dX6_init_58 : decode cX6_init 58 = .ok (.putfield 29, 3) := by decide +kernel
theorem dX6_init_61 : decode cX6_init 61 = .ok (.aload_n 0, 1) := by decide +kernel
theorem dX6_init_62 : decode cX6_init 62 = .ok (.iconst (-1), 1) := by decide +kernel
theorem dX6_init_63 : decode cX6_init 63 = .ok (.putfield 33, 3) := by decide +kernel
theorem dX6_init_66 : decode cX6_init 66 = .ok (.aload_n 0, 1) := by decide +kernel
theorem dX6_init_67 : decode cX6_init 67 = .ok (.sipush 180, 3) := by decide +kernel
theorem dX6_init_70 : decode cX6_init 70 = .ok (.newarray .int, 2) := by decide +kernel
theorem dX6_init_72 : decode cX6_init 72 = .ok (.putfield 36, 3) := by decide +kernel
theorem dX6_init_75 : decode cX6_init 75 = .ok (.aload_n 0, 1) := by decide +kernel
theorem dX6_init_76 : decode cX6_init 76 = .ok (.getfield 9, 3) := by decide +kernel
theorem dX6_init_79 : decode cX6_init 79 = .ok (.iconst 2, 1) := by decide +kernel
theorem dX6_init_80 : decode cX6_init 80 = .ok (.sipush 200, 3) := by decide +kernel
theorem dX6_init_83 : decode cX6_init 83 = .ok (.iastore, 1) := by decide +kernel
theorem dX6_init_84 : decode cX6_init 84 = .ok (.aload_n 0, 1) := by decide +kernel
theorem dX6_init_85 : decode cX6_init 85 = .ok (.getfield 9, 3) := by decide +kernel
theorem dX6_init_88 : decode cX6_init 88 = .ok (.iconst 3, 1) := by decide +kernel
theorem dX6_init_89 : decode cX6_init 89 = .ok (.bipush 50, 2) := by decide +kernel
theorem dX6_init_91 : decode cX6_init 91 = .ok (.iastore, 1) := by decide +kernel
theorem dX6_init_92 : decode cX6_init 92 = .ok (.iconst 0, 1) := by decide +kernel
theorem dX6_init_93 : decode cX6_init 93 = .ok (.istore_n 1, 1) := by decide +kernel
theorem dX6_init_94 : decode cX6_init 94 = .ok (.iload_n 1, 1) := by decide +kernel
theorem dX6_init_95 : decode cX6_init 95 = .ok (.bipush 12, 2) := by decide +kernel
theorem dX6_init_97 : decode cX6_init 97 = .ok (.if_icmp .ge 23, 3) := by decide +kernel
theorem dX6_init_100 : decode cX6_init 100 = .ok (.aload_n 0, 1) := by decide +kernel
theorem dX6_init_101 : decode cX6_init 101 = .ok (.getfield 9, 3) := by decide +kernel
theorem dX6_init_104 : decode cX6_init 104 = .ok (.bipush 9, 2) := by decide +kernel
theorem dX6_init_106 : decode cX6_init 106 = .ok (.iload_n 1, 1) := by decide +kernel
theorem dX6_init_107 : decode cX6_init 107 = .ok (.iadd, 1) := by decide +kernel
theorem dX6_init_108 : decode cX6_init 108 = .ok (.iload_n 1, 1) := by decide +kernel
theorem dX6_init_109 : decode cX6_init 109 = .ok (.iconst 2, 1) := by decide +kernel
theorem dX6_init_110 : decode cX6_init 110 = .ok (.idiv, 1) := by decide +kernel
theorem dX6_init_111 : decode cX6_init 111 = .ok (.iconst 1, 1) := by decide +kernel
theorem dX6_init_112 : decode cX6_init 112 = .ok (.iadd, 1) := by decide +kernel
theorem dX6_init_113 : decode cX6_init 113 = .ok (.iastore, 1) := by decide +kernel
theorem dX6_init_114 : decode cX6_init 114 = .ok (.iinc 1 1, 3) := by decide +kernel
theorem dX6_init_117 : decode cX6_init 117 = .ok (.goto (-23), 3) := by decide +kernel
theorem dX6_init_120 : decode cX6_init 120 = .ok (.return_, 1) := by decide +kernel
theorem dX6_thrown_0 : decode cX6_thrown 0 = .ok (.aload_n 0, 1) := by decide +kernel
theorem dX6_thrown_1 : decode cX6_thrown 1 = .ok (.getfield 39, 3) := by decide +kernel
theorem dX6_thrown_4 : decode cX6_thrown 4 = .ok (.ireturn, 1) := by decide +kernel
theorem dX6_in_0 : decode cX6_in 0 = .ok (.iload_n 0, 1) := by decide +kernel
theorem dX6_in_1 : decode cX6_in 1 = .ok (.iload_n 1, 1) := by decide +kernel
theorem dX6_in_2 : decode cX6_in 2 = .ok (.if_icmp .lt 12, 3) := by decide +kernel
theorem dX6_in_5 : decode cX6_in 5 = .ok (.iload_n 0, 1) := by decide +kernel
theorem dX6_in_6 : decode cX6_in 6 = .ok (.iload_n 2, 1) := by decide +kernel
theorem dX6_in_7 : decode cX6_in 7 = .ok (.if_icmp .gt 7, 3) := by decide +kernel
theorem dX6_in_10 : decode cX6_in 10 = .ok (.iconst 1, 1) := by decide +kernel
theorem dX6_in_11 : decode cX6_in 11 = .ok (.goto 4, 3) := by decide +kernel
theorem dX6_in_14 : decode cX6_in 14 = .ok (.iconst 0, 1) := by decide +kernel
theorem dX6_in_15 : decode cX6_in 15 = .ok (.ireturn, 1) := by decide +kernel
theorem dX6_keep_0 : decode cX6_keep 0 = .ok (.aload_n 0, 1) := by decide +kernel
theorem dX6_keep_1 : decode cX6_keep 1 = .ok (.iconst 0, 1) := by decide +kernel
theorem dX6_keep_2 : decode cX6_keep 2 = .ok (.putfield 39, 3) := by decide +kernel
theorem dX6_keep_5 : decode cX6_keep 5 = .ok (.aload_n 0, 1) := by decide +kernel
theorem dX6_keep_6 : decode cX6_keep 6 = .ok (.getfield 9, 3) := by decide +kernel
theorem dX6_keep_9 : decode cX6_keep 9 = .ok (.iconst 0, 1) := by decide +kernel
theorem dX6_keep_10 : decode cX6_keep 10 = .ok (.aload_n 0, 1) := by decide +kernel
theorem dX6_keep_11 : decode cX6_keep 11 = .ok (.getfield 13, 3) := by decide +kernel
theorem dX6_keep_14 : decode cX6_keep 14 = .ok (.iconst 0, 1) := by decide +kernel
theorem dX6_keep_15 : decode cX6_keep 15 = .ok (.sipush 169, 3) := by decide +kernel
theorem dX6_keep_18 : decode cX6_keep 18 = .ok (.invokestatic 42, 3) := by decide +kernel
theorem dX6_keep_21 : decode cX6_keep 21 = .ok (.return_, 1) := by decide +kernel
theorem dX6_ends_0 : decode cX6_ends 0 = .ok (.aload_n 0, 1) := by decide +kernel
theorem dX6_ends_1 : decode cX6_ends 1 = .ok (.getfield 39, 3) := by decide +kernel
theorem dX6_ends_4 : decode cX6_ends 4 = .ok (.ifCond .le 21, 3) := by decide +kernel
theorem dX6_ends_7 : decode cX6_ends 7 = .ok (.aload_n 0, 1) := by decide +kernel
theorem dX6_ends_8 : decode cX6_ends 8 = .ok (.getfield 13, 3) := by decide +kernel
theorem dX6_ends_11 : decode cX6_ends 11 = .ok (.iconst 0, 1) := by decide +kernel
theorem dX6_ends_12 : decode cX6_ends 12 = .ok (.aload_n 0, 1) := by decide +kernel
theorem dX6_ends_13 : decode cX6_ends 13 = .ok (.getfield 9, 3) := by decide +kernel
theorem dX6_ends_16 : decode cX6_ends 16 = .ok (.iconst 0, 1) := by decide +kernel
theorem dX6_ends_17 : decode cX6_ends 17 = .ok (.sipush 169, 3) := by decide +kernel
theorem dX6_ends_20 : decode cX6_ends 20 = .ok (.invokestatic 42, 3) := by decide +kernel
theorem dX6_ends_23 : decode cX6_ends 23 = .ok (.iconst 0, 1) := by decide +kernel
theorem dX6_ends_24 : decode cX6_ends 24 = .ok (.ireturn, 1) := by decide +kernel
theorem dX6_ends_25 : decode cX6_ends 25 = .ok (.aload_n 0, 1) := by decide +kernel
theorem dX6_ends_26 : decode cX6_ends 26 = .ok (.getfield 48, 3) := by decide +kernel
theorem dX6_ends_29 : decode cX6_ends 29 = .ok (.bipush 8, 2) := by decide +kernel
theorem dX6_ends_31 : decode cX6_ends 31 = .ok (.if_icmp .ne 31, 3) := by decide +kernel
theorem dX6_ends_34 : decode cX6_ends 34 = .ok (.aload_n 0, 1) := by decide +kernel
theorem dX6_ends_35 : decode cX6_ends 35 = .ok (.getfield 19, 3) := by decide +kernel
theorem dX6_ends_38 : decode cX6_ends 38 = .ok (.sipush 169, 3) := by decide +kernel
theorem dX6_ends_41 : decode cX6_ends 41 = .ok (.aload_n 0, 1) := by decide +kernel
theorem dX6_ends_42 : decode cX6_ends 42 = .ok (.getfield 19, 3) := by decide +kernel
theorem dX6_ends_45 : decode cX6_ends 45 = .ok (.iconst 0, 1) := by decide +kernel
theorem dX6_ends_46 : decode cX6_ends 46 = .ok (.sipush 1183, 3) := by decide +kernel
theorem dX6_ends_49 : decode cX6_ends 49 = .ok (.invokestatic 42, 3) := by decide +kernel
theorem dX6_ends_52 : decode cX6_ends 52 = .ok (.aload_n 0, 1) := by decide +kernel
theorem dX6_ends_53 : decode cX6_ends 53 = .ok (.dup, 1) := by decide +kernel
theorem dX6_ends_54 : decode cX6_ends 54 = .ok (.getfield 48, 3) := by decide +kernel
theorem dX6_ends_57 : decode cX6_ends 57 = .ok (.iconst 1, 1) := by decide +kernel
theorem dX6_ends_58 : decode cX6_ends 58 = .ok (.isub, 1) := by decide +kernel
theorem dX6_ends_59 : decode cX6_ends 59 = .ok (.putfield 48, 3) := by decide +kernel
theorem dX6_ends_62 : decode cX6_ends 62 = .ok (.aload_n 0, 1) := by decide +kernel
theorem dX6_ends_63 : decode cX6_ends 63 = .ok (.getfield 13, 3) := by decide +kernel
theorem dX6_ends_66 : decode cX6_ends 66 = .ok (.iconst 0, 1) := by decide +kernel
theorem dX6_ends_67 : decode cX6_ends 67 = .ok (.aload_n 0, 1) := by decide +kernel
theorem dX6_ends_68 : decode cX6_ends 68 = .ok (.getfield 19, 3) := by decide +kernel
theorem dX6_ends_71 : decode cX6_ends 71 = .ok (.sipush 169, 3) := by decide +kernel
theorem dX6_ends_74 : decode cX6_ends 74 = .ok (.aload_n 0, 1) := by decide +kernel
theorem dX6_ends_75 : decode cX6_ends 75 = .ok (.getfield 48, 3) := by decide +kernel
theorem dX6_ends_78 : decode cX6_ends 78 = .ok (.imul, 1) := by decide +kernel
theorem dX6_ends_79 : decode cX6_ends 79 = .ok (.sipush 169, 3) := by decide +kernel
theorem dX6_ends_82 : decode cX6_ends 82 = .ok (.invokestatic 42, 3) := by decide +kernel
theorem dX6_ends_85 : decode cX6_ends 85 = .ok (.aload_n 0, 1) := by decide +kernel
theorem dX6_ends_86 : decode cX6_ends 86 = .ok (.dup, 1) := by decide +kernel
theorem dX6_ends_87 : decode cX6_ends 87 = .ok (.getfield 48, 3) := by decide +kernel
theorem dX6_ends_90 : decode cX6_ends 90 = .ok (.iconst 1, 1) := by decide +kernel
theorem dX6_ends_91 : decode cX6_ends 91 = .ok (.iadd, 1) := by decide +kernel
theorem dX6_ends_92 : decode cX6_ends 92 = .ok (.putfield 48, 3) := by decide +kernel
theorem dX6_ends_95 : decode cX6_ends 95 = .ok (.iload_n 1, 1) := by decide +kernel
theorem dX6_ends_96 : decode cX6_ends 96 = .ok (.ireturn, 1) := by decide +kernel
theorem dX6_fails_0 : decode cX6_fails 0 = .ok (.aload_n 0, 1) := by decide +kernel
theorem dX6_fails_1 : decode cX6_fails 1 = .ok (.iload_n 1, 1) := by decide +kernel
theorem dX6_fails_2 : decode cX6_fails 2 = .ok (.putfield 39, 3) := by decide +kernel
theorem dX6_fails_5 : decode cX6_fails 5 = .ok (.iconst 0, 1) := by decide +kernel
theorem dX6_fails_6 : decode cX6_fails 6 = .ok (.ireturn, 1) := by decide +kernel
theorem dX6_isThere_0 : decode cX6_isThere 0 = .ok (.aload_n 0, 1) := by decide +kernel
theorem dX6_isThere_1 : decode cX6_isThere 1 = .ok (.iload_n 1, 1) := by decide +kernel
theorem dX6_isThere_2 : decode cX6_isThere 2 = .ok (.ifCond .eq 7, 3) := by decide +kernel
theorem dX6_isThere_5 : decode cX6_isThere 5 = .ok (.iconst 0, 1) := by decide +kernel
theorem dX6_isThere_6 : decode cX6_isThere 6 = .ok (.goto 4, 3) := by decide +kernel
theorem dX6_isThere_9 : decode cX6_isThere 9 = .ok (.iconst 1, 1) := by decide +kernel
theorem dX6_isThere_10 : decode cX6_isThere 10 = .ok (.putfield 39, 3) := by decide +kernel
theorem dX6_isThere_13 : decode cX6_isThere 13 = .ok (.iload_n 1, 1) := by decide +kernel
theorem dX6_isThere_14 : decode cX6_isThere 14 = .ok (.ireturn, 1) := by decide +kernel
theorem dX6_isCard_0 : decode cX6_isCard 0 = .ok (.iload_n 1, 1) := by decide +kernel
theorem dX6_isCard_1 : decode cX6_isCard 1 = .ok (.iconst 0, 1) := by decide +kernel
theorem dX6_isCard_2 : decode cX6_isCard 2 = .ok (.aload_n 0, 1) := by decide +kernel
theorem dX6_isCard_3 : decode cX6_isCard 3 = .ok (.getfield 9, 3) := by decide +kernel
theorem dX6_isCard_6 : decode cX6_isCard 6 = .ok (.iconst 0, 1) := by decide +kernel
theorem dX6_isCard_7 : decode cX6_isCard 7 = .ok (.iaload, 1) := by decide +kernel
theorem dX6_isCard_8 : decode cX6_isCard 8 = .ok (.iconst 1, 1) := by decide +kernel
theorem dX6_isCard_9 : decode cX6_isCard 9 = .ok (.isub, 1) := by decide +kernel
theorem dX6_isCard_10 : decode cX6_isCard 10 = .ok (.invokestatic 51, 3) := by decide +kernel
theorem dX6_isCard_13 : decode cX6_isCard 13 = .ok (.ireturn, 1) := by decide +kernel
theorem dX6_isStation_0 : decode cX6_isStation 0 = .ok (.iload_n 0, 1) := by decide +kernel
theorem dX6_isStation_1 : decode cX6_isStation 1 = .ok (.iconst 0, 1) := by decide +kernel
theorem dX6_isStation_2 : decode cX6_isStation 2 = .ok (.bipush 11, 2) := by decide +kernel
theorem dX6_isStation_4 : decode cX6_isStation 4 = .ok (.invokestatic 51, 3) := by decide +kernel
theorem dX6_isStation_7 : decode cX6_isStation 7 = .ok (.ireturn, 1) := by decide +kernel
theorem dX6_of_0 : decode cX6_of 0 = .ok (.aload_n 0, 1) := by decide +kernel
theorem dX6_of_1 : decode cX6_of 1 = .ok (.getfield 9, 3) := by decide +kernel
theorem dX6_of_4 : decode cX6_of 4 = .ok (.bipush 33, 2) := by decide +kernel
theorem dX6_of_6 : decode cX6_of 6 = .ok (.bipush 17, 2) := by decide +kernel
theorem dX6_of_8 : decode cX6_of 8 = .ok (.iload_n 1, 1) := by decide +kernel
theorem dX6_of_9 : decode cX6_of 9 = .ok (.imul, 1) := by decide +kernel
theorem dX6_of_10 : decode cX6_of 10 = .ok (.iadd, 1) := by decide +kernel
theorem dX6_of_11 : decode cX6_of 11 = .ok (.iload_n 2, 1) := by decide +kernel
theorem dX6_of_12 : decode cX6_of 12 = .ok (.iadd, 1) := by decide +kernel
theorem dX6_of_13 : decode cX6_of 13 = .ok (.iaload, 1) := by decide +kernel
theorem dX6_of_14 : decode cX6_of 14 = .ok (.ireturn, 1) := by decide +kernel
theorem dX6_sets_0 : decode cX6_sets 0 = .ok (.aload_n 0, 1) := by decide +kernel
theorem dX6_sets_1 : decode cX6_sets 1 = .ok (.getfield 9, 3) := by decide +kernel
theorem dX6_sets_4 : decode cX6_sets 4 = .ok (.bipush 33, 2) := by decide +kernel
theorem dX6_sets_6 : decode cX6_sets 6 = .ok (.bipush 17, 2) := by decide +kernel
theorem dX6_sets_8 : decode cX6_sets 8 = .ok (.iload_n 1, 1) := by decide +kernel
theorem dX6_sets_9 : decode cX6_sets 9 = .ok (.imul, 1) := by decide +kernel
theorem dX6_sets_10 : decode cX6_sets 10 = .ok (.iadd, 1) := by decide +kernel
theorem dX6_sets_11 : decode cX6_sets 11 = .ok (.iload_n 2, 1) := by decide +kernel
theorem dX6_sets_12 : decode cX6_sets 12 = .ok (.iadd, 1) := by decide +kernel
theorem dX6_sets_13 : decode cX6_sets 13 = .ok (.iload_n 3, 1) := by decide +kernel
theorem dX6_sets_14 : decode cX6_sets 14 = .ok (.iastore, 1) := by decide +kernel
theorem dX6_sets_15 : decode cX6_sets 15 = .ok (.return_, 1) := by decide +kernel
theorem dX6_today_0 : decode cX6_today 0 = .ok (.aload_n 0, 1) := by decide +kernel
theorem dX6_today_1 : decode cX6_today 1 = .ok (.getfield 9, 3) := by decide +kernel
theorem dX6_today_4 : decode cX6_today 4 = .ok (.iconst 1, 1) := by decide +kernel
theorem dX6_today_5 : decode cX6_today 5 = .ok (.iaload, 1) := by decide +kernel
theorem dX6_today_6 : decode cX6_today 6 = .ok (.sipush 1440, 3) := by decide +kernel
theorem dX6_today_9 : decode cX6_today 9 = .ok (.idiv, 1) := by decide +kernel
theorem dX6_today_10 : decode cX6_today 10 = .ok (.ireturn, 1) := by decide +kernel
theorem dX6_zones_0 : decode cX6_zones 0 = .ok (.iconst 0, 1) := by decide +kernel
theorem dX6_zones_1 : decode cX6_zones 1 = .ok (.istore_n 3, 1) := by decide +kernel
theorem dX6_zones_2 : decode cX6_zones 2 = .ok (.iload_n 1, 1) := by decide +kernel
theorem dX6_zones_3 : decode cX6_zones 3 = .ok (.iload_n 2, 1) := by decide +kernel
theorem dX6_zones_4 : decode cX6_zones 4 = .ok (.invokestatic 55, 3) := by decide +kernel
theorem dX6_zones_7 : decode cX6_zones 7 = .ok (.istore 4, 2) := by decide +kernel
theorem dX6_zones_9 : decode cX6_zones 9 = .ok (.iload 4, 2) := by decide +kernel
theorem dX6_zones_11 : decode cX6_zones 11 = .ok (.iload_n 1, 1) := by decide +kernel
theorem dX6_zones_12 : decode cX6_zones 12 = .ok (.iload_n 2, 1) := by decide +kernel
theorem dX6_zones_13 : decode cX6_zones 13 = .ok (.invokestatic 61, 3) := by decide +kernel
theorem dX6_zones_16 : decode cX6_zones 16 = .ok (.if_icmp .gt 24, 3) := by decide +kernel
theorem dX6_zones_19 : decode cX6_zones 19 = .ok (.iload_n 3, 1) := by decide +kernel
theorem dX6_zones_20 : decode cX6_zones 20 = .ok (.iconst 1, 1) := by decide +kernel
theorem dX6_zones_21 : decode cX6_zones 21 = .ok (.aload_n 0, 1) := by decide +kernel
theorem dX6_zones_22 : decode cX6_zones 22 = .ok (.getfield 9, 3) := by decide +kernel
theorem dX6_zones_25 : decode cX6_zones 25 = .ok (.bipush 9, 2) := by decide +kernel
theorem dX6_zones_27 : decode cX6_zones 27 = .ok (.iload 4, 2) := by decide +kernel
theorem dX6_zones_29 : decode cX6_zones 29 = .ok (.iadd, 1) := by decide +kernel
theorem dX6_zones_30 : decode cX6_zones 30 = .ok (.iaload, 1) := by decide +kernel
theorem dX6_zones_31 : decode cX6_zones 31 = .ok (.ishl, 1) := by decide +kernel
theorem dX6_zones_32 : decode cX6_zones 32 = .ok (.ior, 1) := by decide +kernel
theorem dX6_zones_33 : decode cX6_zones 33 = .ok (.istore_n 3, 1) := by decide +kernel
theorem dX6_zones_34 : decode cX6_zones 34 = .ok (.iinc 4 1, 3) := by decide +kernel
theorem dX6_zones_37 : decode cX6_zones 37 = .ok (.goto (-28), 3) := by decide +kernel
theorem dX6_zones_40 : decode cX6_zones 40 = .ok (.iconst 0, 1) := by decide +kernel
theorem dX6_zones_41 : decode cX6_zones 41 = .ok (.istore 4, 2) := by decide +kernel
theorem dX6_zones_43 : decode cX6_zones 43 = .ok (.iconst 1, 1) := by decide +kernel
theorem dX6_zones_44 : decode cX6_zones 44 = .ok (.istore 5, 2) := by decide +kernel
theorem dX6_zones_46 : decode cX6_zones 46 = .ok (.iload 5, 2) := by decide +kernel
theorem dX6_zones_48 : decode cX6_zones 48 = .ok (.bipush 6, 2) := by decide +kernel
theorem dX6_zones_50 : decode cX6_zones 50 = .ok (.if_icmp .gt 20, 3) := by decide +kernel
theorem dX6_zones_53 : decode cX6_zones 53 = .ok (.iload 4, 2) := by decide +kernel
theorem dX6_zones_55 : decode cX6_zones 55 = .ok (.iload_n 3, 1) := by decide +kernel
theorem dX6_zones_56 : decode cX6_zones 56 = .ok (.iload 5, 2) := by decide +kernel
theorem dX6_zones_58 : decode cX6_zones 58 = .ok (.ishr, 1) := by decide +kernel
theorem dX6_zones_59 : decode cX6_zones 59 = .ok (.iconst 1, 1) := by decide +kernel
theorem dX6_zones_60 : decode cX6_zones 60 = .ok (.iand, 1) := by decide +kernel
theorem dX6_zones_61 : decode cX6_zones 61 = .ok (.iadd, 1) := by decide +kernel
theorem dX6_zones_62 : decode cX6_zones 62 = .ok (.istore 4, 2) := by decide +kernel
theorem dX6_zones_64 : decode cX6_zones 64 = .ok (.iinc 5 1, 3) := by decide +kernel
theorem dX6_zones_67 : decode cX6_zones 67 = .ok (.goto (-21), 3) := by decide +kernel
theorem dX6_zones_70 : decode cX6_zones 70 = .ok (.iload 4, 2) := by decide +kernel
theorem dX6_zones_72 : decode cX6_zones 72 = .ok (.ireturn, 1) := by decide +kernel
theorem dX6_price_0 : decode cX6_price 0 = .ok (.aload_n 0, 1) := by decide +kernel
theorem dX6_price_1 : decode cX6_price 1 = .ok (.getfield 9, 3) := by decide +kernel
theorem dX6_price_4 : decode cX6_price 4 = .ok (.iconst 2, 1) := by decide +kernel
theorem dX6_price_5 : decode cX6_price 5 = .ok (.iaload, 1) := by decide +kernel
theorem dX6_price_6 : decode cX6_price 6 = .ok (.aload_n 0, 1) := by decide +kernel
theorem dX6_price_7 : decode cX6_price 7 = .ok (.getfield 9, 3) := by decide +kernel
theorem dX6_price_10 : decode cX6_price 10 = .ok (.iconst 3, 1) := by decide +kernel
theorem dX6_price_11 : decode cX6_price 11 = .ok (.iaload, 1) := by decide +kernel
theorem dX6_price_12 : decode cX6_price 12 = .ok (.aload_n 0, 1) := by decide +kernel
theorem dX6_price_13 : decode cX6_price 13 = .ok (.iload_n 1, 1) := by decide +kernel
theorem dX6_price_14 : decode cX6_price 14 = .ok (.iload_n 2, 1) := by decide +kernel
theorem dX6_price_15 : decode cX6_price 15 = .ok (.invokevirtual 64, 3) := by decide +kernel
theorem dX6_price_18 : decode cX6_price 18 = .ok (.iconst 1, 1) := by decide +kernel
theorem dX6_price_19 : decode cX6_price 19 = .ok (.isub, 1) := by decide +kernel
theorem dX6_price_20 : decode cX6_price 20 = .ok (.imul, 1) := by decide +kernel
theorem dX6_price_21 : decode cX6_price 21 = .ok (.iadd, 1) := by decide +kernel
theorem dX6_price_22 : decode cX6_price 22 = .ok (.ireturn, 1) := by decide +kernel
theorem dX6_paidOf_0 : decode cX6_paidOf 0 = .ok (.aload_n 0, 1) := by decide +kernel
theorem dX6_paidOf_1 : decode cX6_paidOf 1 = .ok (.iload_n 1, 1) := by decide +kernel
theorem dX6_paidOf_2 : decode cX6_paidOf 2 = .ok (.iconst 0, 1) := by decide +kernel
theorem dX6_paidOf_3 : decode cX6_paidOf 3 = .ok (.invokevirtual 67, 3) := by decide +kernel
theorem dX6_paidOf_6 : decode cX6_paidOf 6 = .ok (.iconst 1, 1) := by decide +kernel
theorem dX6_paidOf_7 : decode cX6_paidOf 7 = .ok (.if_icmp .ne 9, 3) := by decide +kernel
theorem dX6_paidOf_10 : decode cX6_paidOf 10 = .ok (.iload_n 2, 1) := by decide +kernel
theorem dX6_paidOf_11 : decode cX6_paidOf 11 = .ok (.iconst 2, 1) := by decide +kernel
theorem dX6_paidOf_12 : decode cX6_paidOf 12 = .ok (.idiv, 1) := by decide +kernel
theorem dX6_paidOf_13 : decode cX6_paidOf 13 = .ok (.goto 4, 3) := by decide +kernel
theorem dX6_paidOf_16 : decode cX6_paidOf 16 = .ok (.iload_n 2, 1) := by decide +kernel
theorem dX6_paidOf_17 : decode cX6_paidOf 17 = .ok (.ireturn, 1) := by decide +kernel
theorem dX6_cap_0 : decode cX6_cap 0 = .ok (.aload_n 0, 1) := by decide +kernel
theorem dX6_cap_1 : decode cX6_cap 1 = .ok (.iload_n 1, 1) := by decide +kernel
theorem dX6_cap_2 : decode cX6_cap 2 = .ok (.iconst 0, 1) := by decide +kernel
theorem dX6_cap_3 : decode cX6_cap 3 = .ok (.invokevirtual 67, 3) := by decide +kernel
theorem dX6_cap_6 : decode cX6_cap 6 = .ok (.iconst 1, 1) := by decide +kernel
theorem dX6_cap_7 : decode cX6_cap 7 = .ok (.if_icmp .ne 9, 3) := by decide +kernel
theorem dX6_cap_10 : decode cX6_cap 10 = .ok (.sipush 350, 3) := by decide +kernel
theorem dX6_cap_13 : decode cX6_cap 13 = .ok (.goto 6, 3) := by decide +kernel
theorem dX6_cap_16 : decode cX6_cap 16 = .ok (.sipush 700, 3) := by decide +kernel
theorem dX6_cap_19 : decode cX6_cap 19 = .ok (.ireturn, 1) := by decide +kernel
theorem dX6_sumOn_0 : decode cX6_sumOn 0 = .ok (.iload_n 2, 1) := by decide +kernel
theorem dX6_sumOn_1 : decode cX6_sumOn 1 = .ok (.iconst 3, 1) := by decide +kernel
theorem dX6_sumOn_2 : decode cX6_sumOn 2 = .ok (.irem, 1) := by decide +kernel
theorem dX6_sumOn_3 : decode cX6_sumOn 3 = .ok (.istore_n 3, 1) := by decide +kernel
theorem dX6_sumOn_4 : decode cX6_sumOn 4 = .ok (.aload_n 0, 1) := by decide +kernel
theorem dX6_sumOn_5 : decode cX6_sumOn 5 = .ok (.iload_n 1, 1) := by decide +kernel
theorem dX6_sumOn_6 : decode cX6_sumOn 6 = .ok (.bipush 14, 2) := by decide +kernel
theorem dX6_sumOn_8 : decode cX6_sumOn 8 = .ok (.iload_n 3, 1) := by decide +kernel
theorem dX6_sumOn_9 : decode cX6_sumOn 9 = .ok (.iadd, 1) := by decide +kernel
theorem dX6_sumOn_10 : decode cX6_sumOn 10 = .ok (.invokevirtual 67, 3) := by decide +kernel
theorem dX6_sumOn_13 : decode cX6_sumOn 13 = .ok (.iload_n 2, 1) := by decide +kernel
theorem dX6_sumOn_14 : decode cX6_sumOn 14 = .ok (.if_icmp .ne 15, 3) := by decide +kernel
theorem dX6_sumOn_17 : decode cX6_sumOn 17 = .ok (.aload_n 0, 1) := by decide +kernel
theorem dX6_sumOn_18 : decode cX6_sumOn 18 = .ok (.iload_n 1, 1) := by decide +kernel
theorem dX6_sumOn_19 : decode cX6_sumOn 19 = .ok (.bipush 11, 2) := by decide +kernel
theorem dX6_sumOn_21 : decode cX6_sumOn 21 = .ok (.iload_n 3, 1) := by decide +kernel
theorem dX6_sumOn_22 : decode cX6_sumOn 22 = .ok (.iadd, 1) := by decide +kernel
theorem dX6_sumOn_23 : decode cX6_sumOn 23 = .ok (.invokevirtual 67, 3) := by decide +kernel
theorem dX6_sumOn_26 : decode cX6_sumOn 26 = .ok (.goto 4, 3) := by decide +kernel
theorem dX6_sumOn_29 : decode cX6_sumOn 29 = .ok (.iconst 0, 1) := by decide +kernel
theorem dX6_sumOn_30 : decode cX6_sumOn 30 = .ok (.ireturn, 1) := by decide +kernel
theorem dX6_addsOn_0 : decode cX6_addsOn 0 = .ok (.aload_n 0, 1) := by decide +kernel
theorem dX6_addsOn_1 : decode cX6_addsOn 1 = .ok (.iload_n 1, 1) := by decide +kernel
theorem dX6_addsOn_2 : decode cX6_addsOn 2 = .ok (.iload_n 2, 1) := by decide +kernel
theorem dX6_addsOn_3 : decode cX6_addsOn 3 = .ok (.invokevirtual 70, 3) := by decide +kernel
theorem dX6_addsOn_6 : decode cX6_addsOn 6 = .ok (.iload_n 3, 1) := by decide +kernel
theorem dX6_addsOn_7 : decode cX6_addsOn 7 = .ok (.iadd, 1) := by decide +kernel
theorem dX6_addsOn_8 : decode cX6_addsOn 8 = .ok (.istore 4, 2) := by decide +kernel
theorem dX6_addsOn_10 : decode cX6_addsOn 10 = .ok (.aload_n 0, 1) := by decide +kernel
theorem dX6_addsOn_11 : decode cX6_addsOn 11 = .ok (.iload_n 1, 1) := by decide +kernel
theorem dX6_addsOn_12 : decode cX6_addsOn 12 = .ok (.bipush 11, 2) := by decide +kernel
theorem dX6_addsOn_14 : decode cX6_addsOn 14 = .ok (.iload_n 2, 1) := by decide +kernel
theorem dX6_addsOn_15 : decode cX6_addsOn 15 = .ok (.iconst 3, 1) := by decide +kernel
theorem dX6_addsOn_16 : decode cX6_addsOn 16 = .ok (.irem, 1) := by decide +kernel
theorem dX6_addsOn_17 : decode cX6_addsOn 17 = .ok (.iadd, 1) := by decide +kernel
theorem dX6_addsOn_18 : decode cX6_addsOn 18 = .ok (.iload 4, 2) := by decide +kernel
theorem dX6_addsOn_20 : decode cX6_addsOn 20 = .ok (.invokevirtual 73, 3) := by decide +kernel
theorem dX6_addsOn_23 : decode cX6_addsOn 23 = .ok (.aload_n 0, 1) := by decide +kernel
theorem dX6_addsOn_24 : decode cX6_addsOn 24 = .ok (.iload_n 1, 1) := by decide +kernel
theorem dX6_addsOn_25 : decode cX6_addsOn 25 = .ok (.bipush 14, 2) := by decide +kernel
theorem dX6_addsOn_27 : decode cX6_addsOn 27 = .ok (.iload_n 2, 1) := by decide +kernel
theorem dX6_addsOn_28 : decode cX6_addsOn 28 = .ok (.iconst 3, 1) := by decide +kernel
theorem dX6_addsOn_29 : decode cX6_addsOn 29 = .ok (.irem, 1) := by decide +kernel
theorem dX6_addsOn_30 : decode cX6_addsOn 30 = .ok (.iadd, 1) := by decide +kernel
theorem dX6_addsOn_31 : decode cX6_addsOn 31 = .ok (.iload_n 2, 1) := by decide +kernel
theorem dX6_addsOn_32 : decode cX6_addsOn 32 = .ok (.invokevirtual 73, 3) := by decide +kernel
theorem dX6_addsOn_35 : decode cX6_addsOn 35 = .ok (.return_, 1) := by decide +kernel
theorem dX6_left_0 : decode cX6_left 0 = .ok (.aload_n 0, 1) := by decide +kernel
theorem dX6_left_1 : decode cX6_left 1 = .ok (.iload_n 1, 1) := by decide +kernel
theorem dX6_left_2 : decode cX6_left 2 = .ok (.invokevirtual 77, 3) := by decide +kernel
theorem dX6_left_5 : decode cX6_left 5 = .ok (.aload_n 0, 1) := by decide +kernel
theorem dX6_left_6 : decode cX6_left 6 = .ok (.iload_n 1, 1) := by decide +kernel
theorem dX6_left_7 : decode cX6_left 7 = .ok (.aload_n 0, 1) := by decide +kernel
theorem dX6_left_8 : decode cX6_left 8 = .ok (.invokevirtual 81, 3) := by decide +kernel
theorem dX6_left_11 : decode cX6_left 11 = .ok (.invokevirtual 70, 3) := by decide +kernel
theorem dX6_left_14 : decode cX6_left 14 = .ok (.isub, 1) := by decide +kernel
theorem dX6_left_15 : decode cX6_left 15 = .ok (.ireturn, 1) := by decide +kernel
theorem dX6_charges_0 : decode cX6_charges 0 = .ok (.iload_n 2, 1) := by decide +kernel
theorem dX6_charges_1 : decode cX6_charges 1 = .ok (.aload_n 0, 1) := by decide +kernel
theorem dX6_charges_2 : decode cX6_charges 2 = .ok (.iload_n 1, 1) := by decide +kernel
theorem dX6_charges_3 : decode cX6_charges 3 = .ok (.invokevirtual 85, 3) := by decide +kernel
theorem dX6_charges_6 : decode cX6_charges 6 = .ok (.invokestatic 55, 3) := by decide +kernel
theorem dX6_charges_9 : decode cX6_charges 9 = .ok (.istore_n 3, 1) := by decide +kernel
theorem dX6_charges_10 : decode cX6_charges 10 = .ok (.aload_n 0, 1) := by decide +kernel
theorem dX6_charges_11 : decode cX6_charges 11 = .ok (.iload_n 1, 1) := by decide +kernel
theorem dX6_charges_12 : decode cX6_charges 12 = .ok (.aload_n 0, 1) := by decide +kernel
theorem dX6_charges_13 : decode cX6_charges 13 = .ok (.invokevirtual 81, 3) := by decide +kernel
theorem dX6_charges_16 : decode cX6_charges 16 = .ok (.iload_n 3, 1) := by decide +kernel
theorem dX6_charges_17 : decode cX6_charges 17 = .ok (.invokevirtual 88, 3) := by decide +kernel
theorem dX6_charges_20 : decode cX6_charges 20 = .ok (.aload_n 0, 1) := by decide +kernel
theorem dX6_charges_21 : decode cX6_charges 21 = .ok (.iload_n 1, 1) := by decide +kernel
theorem dX6_charges_22 : decode cX6_charges 22 = .ok (.iconst 1, 1) := by decide +kernel
theorem dX6_charges_23 : decode cX6_charges 23 = .ok (.aload_n 0, 1) := by decide +kernel
theorem dX6_charges_24 : decode cX6_charges 24 = .ok (.iload_n 1, 1) := by decide +kernel
theorem dX6_charges_25 : decode cX6_charges 25 = .ok (.iconst 1, 1) := by decide +kernel
theorem dX6_charges_26 : decode cX6_charges 26 = .ok (.invokevirtual 67, 3) := by decide +kernel
theorem dX6_charges_29 : decode cX6_charges 29 = .ok (.iload_n 3, 1) := by decide +kernel
theorem dX6_charges_30 : decode cX6_charges 30 = .ok (.isub, 1) := by decide +kernel
theorem dX6_charges_31 : decode cX6_charges 31 = .ok (.invokevirtual 73, 3) := by decide +kernel
theorem dX6_charges_34 : decode cX6_charges 34 = .ok (.aload_n 0, 1) := by decide +kernel
theorem dX6_charges_35 : decode cX6_charges 35 = .ok (.getfield 9, 3) := by decide +kernel
theorem dX6_charges_38 : decode cX6_charges 38 = .ok (.iconst 5, 1) := by decide +kernel
theorem dX6_charges_39 : decode cX6_charges 39 = .ok (.dup2, 1) := by decide +kernel
theorem dX6_charges_40 : decode cX6_charges 40 = .ok (.iaload, 1) := by decide +kernel
theorem dX6_charges_41 : decode cX6_charges 41 = .ok (.iload_n 3, 1) := by decide +kernel
theorem dX6_charges_42 : decode cX6_charges 42 = .ok (.iadd, 1) := by decide +kernel
theorem dX6_charges_43 : decode cX6_charges 43 = .ok (.iastore, 1) := by decide +kernel
theorem dX6_charges_44 : decode cX6_charges 44 = .ok (.iload_n 3, 1) := by decide +kernel
theorem dX6_charges_45 : decode cX6_charges 45 = .ok (.ireturn, 1) := by decide +kernel
theorem dX6_loses_0 : decode cX6_loses 0 = .ok (.aload_n 0, 1) := by decide +kernel
theorem dX6_loses_1 : decode cX6_loses 1 = .ok (.iload_n 1, 1) := by decide +kernel
theorem dX6_loses_2 : decode cX6_loses 2 = .ok (.aload_n 0, 1) := by decide +kernel
theorem dX6_loses_3 : decode cX6_loses 3 = .ok (.iload_n 1, 1) := by decide +kernel
theorem dX6_loses_4 : decode cX6_loses 4 = .ok (.aload_n 0, 1) := by decide +kernel
theorem dX6_loses_5 : decode cX6_loses 5 = .ok (.getfield 9, 3) := by decide +kernel
theorem dX6_loses_8 : decode cX6_loses 8 = .ok (.iconst 2, 1) := by decide +kernel
theorem dX6_loses_9 : decode cX6_loses 9 = .ok (.iaload, 1) := by decide +kernel
theorem dX6_loses_10 : decode cX6_loses 10 = .ok (.iconst 5, 1) := by decide +kernel
theorem dX6_loses_11 : decode cX6_loses 11 = .ok (.aload_n 0, 1) := by decide +kernel
theorem dX6_loses_12 : decode cX6_loses 12 = .ok (.getfield 9, 3) := by decide +kernel
theorem dX6_loses_15 : decode cX6_loses 15 = .ok (.iconst 3, 1) := by decide +kernel
theorem dX6_loses_16 : decode cX6_loses 16 = .ok (.iaload, 1) := by decide +kernel
theorem dX6_loses_17 : decode cX6_loses 17 = .ok (.imul, 1) := by decide +kernel
theorem dX6_loses_18 : decode cX6_loses 18 = .ok (.iadd, 1) := by decide +kernel
theorem dX6_loses_19 : decode cX6_loses 19 = .ok (.invokevirtual 91, 3) := by decide +kernel
theorem dX6_loses_22 : decode cX6_loses 22 = .ok (.invokevirtual 94, 3) := by decide +kernel
theorem dX6_loses_25 : decode cX6_loses 25 = .ok (.istore_n 2, 1) := by decide +kernel
theorem dX6_loses_26 : decode cX6_loses 26 = .ok (.aload_n 0, 1) := by decide +kernel
theorem dX6_loses_27 : decode cX6_loses 27 = .ok (.iload_n 1, 1) := by decide +kernel
theorem dX6_loses_28 : decode cX6_loses 28 = .ok (.bipush 8, 2) := by decide +kernel
theorem dX6_loses_30 : decode cX6_loses 30 = .ok (.aload_n 0, 1) := by decide +kernel
theorem dX6_loses_31 : decode cX6_loses 31 = .ok (.iload_n 1, 1) := by decide +kernel
theorem dX6_loses_32 : decode cX6_loses 32 = .ok (.iconst 2, 1) := by decide +kernel
theorem dX6_loses_33 : decode cX6_loses 33 = .ok (.invokevirtual 67, 3) := by decide +kernel
theorem dX6_loses_36 : decode cX6_loses 36 = .ok (.invokevirtual 73, 3) := by decide +kernel
theorem dX6_loses_39 : decode cX6_loses 39 = .ok (.aload_n 0, 1) := by decide +kernel
theorem dX6_loses_40 : decode cX6_loses 40 = .ok (.iload_n 1, 1) := by decide +kernel
theorem dX6_loses_41 : decode cX6_loses 41 = .ok (.bipush 9, 2) := by decide +kernel
theorem dX6_loses_43 : decode cX6_loses 43 = .ok (.aload_n 0, 1) := by decide +kernel
theorem dX6_loses_44 : decode cX6_loses 44 = .ok (.invokevirtual 81, 3) := by decide +kernel
theorem dX6_loses_47 : decode cX6_loses 47 = .ok (.invokevirtual 73, 3) := by decide +kernel
theorem dX6_loses_50 : decode cX6_loses 50 = .ok (.aload_n 0, 1) := by decide +kernel
theorem dX6_loses_51 : decode cX6_loses 51 = .ok (.iload_n 1, 1) := by decide +kernel
theorem dX6_loses_52 : decode cX6_loses 52 = .ok (.bipush 10, 2) := by decide +kernel
theorem dX6_loses_54 : decode cX6_loses 54 = .ok (.iload_n 2, 1) := by decide +kernel
theorem dX6_loses_55 : decode cX6_loses 55 = .ok (.invokevirtual 73, 3) := by decide +kernel
theorem dX6_loses_58 : decode cX6_loses 58 = .ok (.aload_n 0, 1) := by decide +kernel
theorem dX6_loses_59 : decode cX6_loses 59 = .ok (.iload_n 1, 1) := by decide +kernel
theorem dX6_loses_60 : decode cX6_loses 60 = .ok (.iconst 2, 1) := by decide +kernel
theorem dX6_loses_61 : decode cX6_loses 61 = .ok (.iconst (-1), 1) := by decide +kernel
theorem dX6_loses_62 : decode cX6_loses 62 = .ok (.invokevirtual 73, 3) := by decide +kernel
theorem dX6_loses_65 : decode cX6_loses 65 = .ok (.aload_n 0, 1) := by decide +kernel
theorem dX6_loses_66 : decode cX6_loses 66 = .ok (.iload_n 1, 1) := by decide +kernel
theorem dX6_loses_67 : decode cX6_loses 67 = .ok (.bipush 6, 2) := by decide +kernel
theorem dX6_loses_69 : decode cX6_loses 69 = .ok (.iconst (-1), 1) := by decide +kernel
theorem dX6_loses_70 : decode cX6_loses 70 = .ok (.invokevirtual 73, 3) := by decide +kernel
theorem dX6_loses_73 : decode cX6_loses 73 = .ok (.aload_n 0, 1) := by decide +kernel
theorem dX6_loses_74 : decode cX6_loses 74 = .ok (.getfield 9, 3) := by decide +kernel
theorem dX6_loses_77 : decode cX6_loses 77 = .ok (.bipush 8, 2) := by decide +kernel
theorem dX6_loses_79 : decode cX6_loses 79 = .ok (.dup2, 1) := by decide +kernel
theorem dX6_loses_80 : decode cX6_loses 80 = .ok (.iaload, 1) := by decide +kernel
theorem dX6_loses_81 : decode cX6_loses 81 = .ok (.iconst 1, 1) := by decide +kernel
theorem dX6_loses_82 : decode cX6_loses 82 = .ok (.iadd, 1) := by decide +kernel
theorem dX6_loses_83 : decode cX6_loses 83 = .ok (.iastore, 1) := by decide +kernel
theorem dX6_loses_84 : decode cX6_loses 84 = .ok (.return_, 1) := by decide +kernel
theorem dX6_chargeTo_0 : decode cX6_chargeTo 0 = .ok (.aload_n 0, 1) := by decide +kernel
theorem dX6_chargeTo_1 : decode cX6_chargeTo 1 = .ok (.iload_n 1, 1) := by decide +kernel
theorem dX6_chargeTo_2 : decode cX6_chargeTo 2 = .ok (.aload_n 0, 1) := by decide +kernel
theorem dX6_chargeTo_3 : decode cX6_chargeTo 3 = .ok (.aload_n 0, 1) := by decide +kernel
theorem dX6_chargeTo_4 : decode cX6_chargeTo 4 = .ok (.iload_n 1, 1) := by decide +kernel
theorem dX6_chargeTo_5 : decode cX6_chargeTo 5 = .ok (.iconst 4, 1) := by decide +kernel
theorem dX6_chargeTo_6 : decode cX6_chargeTo 6 = .ok (.invokevirtual 67, 3) := by decide +kernel
theorem dX6_chargeTo_9 : decode cX6_chargeTo 9 = .ok (.iload_n 2, 1) := by decide +kernel
theorem dX6_chargeTo_10 : decode cX6_chargeTo 10 = .ok (.invokevirtual 97, 3) := by decide +kernel
theorem dX6_chargeTo_13 : decode cX6_chargeTo 13 = .ok (.invokevirtual 91, 3) := by decide +kernel
theorem dX6_chargeTo_16 : decode cX6_chargeTo 16 = .ok (.aload_n 0, 1) := by decide +kernel
theorem dX6_chargeTo_17 : decode cX6_chargeTo 17 = .ok (.iload_n 1, 1) := by decide +kernel
theorem dX6_chargeTo_18 : decode cX6_chargeTo 18 = .ok (.iconst 5, 1) := by decide +kernel
theorem dX6_chargeTo_19 : decode cX6_chargeTo 19 = .ok (.invokevirtual 67, 3) := by decide +kernel
theorem dX6_chargeTo_22 : decode cX6_chargeTo 22 = .ok (.isub, 1) := by decide +kernel
theorem dX6_chargeTo_23 : decode cX6_chargeTo 23 = .ok (.istore_n 3, 1) := by decide +kernel
theorem dX6_chargeTo_24 : decode cX6_chargeTo 24 = .ok (.iconst 0, 1) := by decide +kernel
theorem dX6_chargeTo_25 : decode cX6_chargeTo 25 = .ok (.iload_n 3, 1) := by decide +kernel
theorem dX6_chargeTo_26 : decode cX6_chargeTo 26 = .ok (.invokestatic 61, 3) := by decide +kernel
theorem dX6_chargeTo_29 : decode cX6_chargeTo 29 = .ok (.ireturn, 1) := by decide +kernel
theorem dX6_doIssueCard_0 : decode cX6_doIssueCard 0 = .ok (.aload_n 0, 1) := by decide +kernel
theorem dX6_doIssueCard_1 : decode cX6_doIssueCard 1 = .ok (.getfield 9, 3) := by decide +kernel
theorem dX6_doIssueCard_4 : decode cX6_doIssueCard 4 = .ok (.iconst 0, 1) := by decide +kernel
theorem dX6_doIssueCard_5 : decode cX6_doIssueCard 5 = .ok (.iaload, 1) := by decide +kernel
theorem dX6_doIssueCard_6 : decode cX6_doIssueCard 6 = .ok (.istore_n 2, 1) := by decide +kernel
theorem dX6_doIssueCard_7 : decode cX6_doIssueCard 7 = .ok (.iload_n 2, 1) := by decide +kernel
theorem dX6_doIssueCard_8 : decode cX6_doIssueCard 8 = .ok (.bipush 8, 2) := by decide +kernel
theorem dX6_doIssueCard_10 : decode cX6_doIssueCard 10 = .ok (.if_icmp .ne 9, 3) := by decide +kernel
theorem dX6_doIssueCard_13 : decode cX6_doIssueCard 13 = .ok (.aload_n 0, 1) := by decide +kernel
theorem dX6_doIssueCard_14 : decode cX6_doIssueCard 14 = .ok (.iconst 1, 1) := by decide +kernel
theorem dX6_doIssueCard_15 : decode cX6_doIssueCard 15 = .ok (.invokevirtual 100, 3) := by decide +kernel
theorem dX6_doIssueCard_18 : decode cX6_doIssueCard 18 = .ok (.ireturn, 1) := by decide +kernel
theorem dX6_doIssueCard_19 : decode cX6_doIssueCard 19 = .ok (.iconst 0, 1) := by decide +kernel
theorem dX6_doIssueCard_20 : decode cX6_doIssueCard 20 = .ok (.istore_n 3, 1) := by decide +kernel
theorem dX6_doIssueCard_21 : decode cX6_doIssueCard 21 = .ok (.iload_n 3, 1) := by decide +kernel
theorem dX6_doIssueCard_22 : decode cX6_doIssueCard 22 = .ok (.bipush 17, 2) := by decide +kernel
theorem dX6_doIssueCard_24 : decode cX6_doIssueCard 24 = .ok (.if_icmp .ge 16, 3) := by decide +kernel
theorem dX6_doIssueCard_27 : decode cX6_doIssueCard 27 = .ok (.aload_n 0, 1) := by decide +kernel
theorem dX6_doIssueCard_28 : decode cX6_doIssueCard 28 = .ok (.iload_n 2, 1) := by decide +kernel
theorem dX6_doIssueCard_29 : decode cX6_doIssueCard 29 = .ok (.iload_n 3, 1) := by decide +kernel
theorem dX6_doIssueCard_30 : decode cX6_doIssueCard 30 = .ok (.iconst 0, 1) := by decide +kernel
theorem dX6_doIssueCard_31 : decode cX6_doIssueCard 31 = .ok (.invokevirtual 73, 3) := by decide +kernel
theorem dX6_doIssueCard_34 : decode cX6_doIssueCard 34 = .ok (.iinc 3 1, 3) := by decide +kernel
theorem dX6_doIssueCard_37 : decode cX6_doIssueCard 37 = .ok (.goto (-16), 3) := by decide +kernel
theorem dX6_doIssueCard_40 : decode cX6_doIssueCard 40 = .ok (.aload_n 0, 1) := by decide +kernel
theorem dX6_doIssueCard_41 : decode cX6_doIssueCard 41 = .ok (.iload_n 2, 1) := by decide +kernel
theorem dX6_doIssueCard_42 : decode cX6_doIssueCard 42 = .ok (.iconst 0, 1) := by decide +kernel
theorem dX6_doIssueCard_43 : decode cX6_doIssueCard 43 = .ok (.iload_n 1, 1) := by decide +kernel
theorem dX6_doIssueCard_44 : decode cX6_doIssueCard 44 = .ok (.ifCond .eq 7, 3) := by decide +kernel
theorem dX6_doIssueCard_47 : decode cX6_doIssueCard 47 = .ok (.iconst 1, 1) := by decide +kernel
theorem dX6_doIssueCard_48 : decode cX6_doIssueCard 48 = .ok (.goto 4, 3) := by decide +kernel
theorem dX6_doIssueCard_51 : decode cX6_doIssueCard 51 = .ok (.iconst 0, 1) := by decide +kernel
theorem dX6_doIssueCard_52 : decode cX6_doIssueCard 52 = .ok (.invokevirtual 73, 3) := by decide +kernel
theorem dX6_doIssueCard_55 : decode cX6_doIssueCard 55 = .ok (.aload_n 0, 1) := by decide +kernel
theorem dX6_doIssueCard_56 : decode cX6_doIssueCard 56 = .ok (.iload_n 2, 1) := by decide +kernel
theorem dX6_doIssueCard_57 : decode cX6_doIssueCard 57 = .ok (.iconst 2, 1) := by decide +kernel
theorem dX6_doIssueCard_58 : decode cX6_doIssueCard 58 = .ok (.iconst (-1), 1) := by decide +kernel
theorem dX6_doIssueCard_59 : decode cX6_doIssueCard 59 = .ok (.invokevirtual 73, 3) := by decide +kernel
theorem dX6_doIssueCard_62 : decode cX6_doIssueCard 62 = .ok (.aload_n 0, 1) := by decide +kernel
theorem dX6_doIssueCard_63 : decode cX6_doIssueCard 63 = .ok (.iload_n 2, 1) := by decide +kernel
theorem dX6_doIssueCard_64 : decode cX6_doIssueCard 64 = .ok (.bipush 6, 2) := by decide +kernel
theorem dX6_doIssueCard_66 : decode cX6_doIssueCard 66 = .ok (.iconst (-1), 1) := by decide +kernel
theorem dX6_doIssueCard_67 : decode cX6_doIssueCard 67 = .ok (.invokevirtual 73, 3) := by decide +kernel
theorem dX6_doIssueCard_70 : decode cX6_doIssueCard 70 = .ok (.aload_n 0, 1) := by decide +kernel
theorem dX6_doIssueCard_71 : decode cX6_doIssueCard 71 = .ok (.iload_n 2, 1) := by decide +kernel
theorem dX6_doIssueCard_72 : decode cX6_doIssueCard 72 = .ok (.bipush 8, 2) := by decide +kernel
theorem dX6_doIssueCard_74 : decode cX6_doIssueCard 74 = .ok (.iconst (-1), 1) := by decide +kernel
theorem dX6_doIssueCard_75 : decode cX6_doIssueCard 75 = .ok (.invokevirtual 73, 3) := by decide +kernel
theorem dX6_doIssueCard_78 : decode cX6_doIssueCard 78 = .ok (.aload_n 0, 1) := by decide +kernel
theorem dX6_doIssueCard_79 : decode cX6_doIssueCard 79 = .ok (.getfield 9, 3) := by decide +kernel
theorem dX6_doIssueCard_82 : decode cX6_doIssueCard 82 = .ok (.iconst 0, 1) := by decide +kernel
theorem dX6_doIssueCard_83 : decode cX6_doIssueCard 83 = .ok (.dup2, 1) := by decide +kernel
theorem dX6_doIssueCard_84 : decode cX6_doIssueCard 84 = .ok (.iaload, 1) := by decide +kernel
theorem dX6_doIssueCard_85 : decode cX6_doIssueCard 85 = .ok (.iconst 1, 1) := by decide +kernel
theorem dX6_doIssueCard_86 : decode cX6_doIssueCard 86 = .ok (.iadd, 1) := by decide +kernel
theorem dX6_doIssueCard_87 : decode cX6_doIssueCard 87 = .ok (.iastore, 1) := by decide +kernel
theorem dX6_doIssueCard_88 : decode cX6_doIssueCard 88 = .ok (.iload_n 2, 1) := by decide +kernel
theorem dX6_doIssueCard_89 : decode cX6_doIssueCard 89 = .ok (.ireturn, 1) := by decide +kernel
theorem dX6_issueCard_0 : decode cX6_issueCard 0 = .ok (.aload_n 0, 1) := by decide +kernel
theorem dX6_issueCard_1 : decode cX6_issueCard 1 = .ok (.invokevirtual 103, 3) := by decide +kernel
theorem dX6_issueCard_4 : decode cX6_issueCard 4 = .ok (.aload_n 0, 1) := by decide +kernel
theorem dX6_issueCard_5 : decode cX6_issueCard 5 = .ok (.aload_n 0, 1) := by decide +kernel
theorem dX6_issueCard_6 : decode cX6_issueCard 6 = .ok (.iload_n 1, 1) := by decide +kernel
theorem dX6_issueCard_7 : decode cX6_issueCard 7 = .ok (.invokevirtual 106, 3) := by decide +kernel
theorem dX6_issueCard_10 : decode cX6_issueCard 10 = .ok (.invokevirtual 110, 3) := by decide +kernel
theorem dX6_issueCard_13 : decode cX6_issueCard 13 = .ok (.ireturn, 1) := by decide +kernel
theorem dX6_doLoad_0 : decode cX6_doLoad 0 = .ok (.aload_n 0, 1) := by decide +kernel
theorem dX6_doLoad_1 : decode cX6_doLoad 1 = .ok (.iload_n 1, 1) := by decide +kernel
theorem dX6_doLoad_2 : decode cX6_doLoad 2 = .ok (.invokevirtual 113, 3) := by decide +kernel
theorem dX6_doLoad_5 : decode cX6_doLoad 5 = .ok (.ifCond .ne 9, 3) := by decide +kernel
theorem dX6_doLoad_8 : decode cX6_doLoad 8 = .ok (.aload_n 0, 1) := by decide +kernel
theorem dX6_doLoad_9 : decode cX6_doLoad 9 = .ok (.iconst 1, 1) := by decide +kernel
theorem dX6_doLoad_10 : decode cX6_doLoad 10 = .ok (.invokevirtual 100, 3) := by decide +kernel
theorem dX6_doLoad_13 : decode cX6_doLoad 13 = .ok (.ireturn, 1) := by decide +kernel
theorem dX6_doLoad_14 : decode cX6_doLoad 14 = .ok (.iload_n 2, 1) := by decide +kernel
theorem dX6_doLoad_15 : decode cX6_doLoad 15 = .ok (.iconst 1, 1) := by decide +kernel
theorem dX6_doLoad_16 : decode cX6_doLoad 16 = .ok (.sipush 9999, 3) := by decide +kernel
theorem dX6_doLoad_19 : decode cX6_doLoad 19 = .ok (.invokestatic 51, 3) := by decide +kernel
theorem dX6_doLoad_22 : decode cX6_doLoad 22 = .ok (.ifCond .ne 9, 3) := by decide +kernel
theorem dX6_doLoad_25 : decode cX6_doLoad 25 = .ok (.aload_n 0, 1) := by decide +kernel
theorem dX6_doLoad_26 : decode cX6_doLoad 26 = .ok (.iconst 2, 1) := by decide +kernel
theorem dX6_doLoad_27 : decode cX6_doLoad 27 = .ok (.invokevirtual 100, 3) := by decide +kernel
theorem dX6_doLoad_30 : decode cX6_doLoad 30 = .ok (.ireturn, 1) := by decide +kernel
theorem dX6_doLoad_31 : decode cX6_doLoad 31 = .ok (.aload_n 0, 1) := by decide +kernel
theorem dX6_doLoad_32 : decode cX6_doLoad 32 = .ok (.iload_n 1, 1) := by decide +kernel
theorem dX6_doLoad_33 : decode cX6_doLoad 33 = .ok (.iconst 1, 1) := by decide +kernel
theorem dX6_doLoad_34 : decode cX6_doLoad 34 = .ok (.invokevirtual 67, 3) := by decide +kernel
theorem dX6_doLoad_37 : decode cX6_doLoad 37 = .ok (.iload_n 2, 1) := by decide +kernel
theorem dX6_doLoad_38 : decode cX6_doLoad 38 = .ok (.iadd, 1) := by decide +kernel
theorem dX6_doLoad_39 : decode cX6_doLoad 39 = .ok (.istore_n 3, 1) := by decide +kernel
theorem dX6_doLoad_40 : decode cX6_doLoad 40 = .ok (.iload_n 3, 1) := by decide +kernel
theorem dX6_doLoad_41 : decode cX6_doLoad 41 = .ok (.sipush 20000, 3) := by decide +kernel
theorem dX6_doLoad_44 : decode cX6_doLoad 44 = .ok (.if_icmp .le 9, 3) := by decide +kernel
theorem dX6_doLoad_47 : decode cX6_doLoad 47 = .ok (.aload_n 0, 1) := by decide +kernel
theorem dX6_doLoad_48 : decode cX6_doLoad 48 = .ok (.iconst 3, 1) := by decide +kernel
theorem dX6_doLoad_49 : decode cX6_doLoad 49 = .ok (.invokevirtual 100, 3) := by decide +kernel
theorem dX6_doLoad_52 : decode cX6_doLoad 52 = .ok (.ireturn, 1) := by decide +kernel
theorem dX6_doLoad_53 : decode cX6_doLoad 53 = .ok (.aload_n 0, 1) := by decide +kernel
theorem dX6_doLoad_54 : decode cX6_doLoad 54 = .ok (.iload_n 1, 1) := by decide +kernel
theorem dX6_doLoad_55 : decode cX6_doLoad 55 = .ok (.iconst 1, 1) := by decide +kernel
theorem dX6_doLoad_56 : decode cX6_doLoad 56 = .ok (.iload_n 3, 1) := by decide +kernel
theorem dX6_doLoad_57 : decode cX6_doLoad 57 = .ok (.invokevirtual 73, 3) := by decide +kernel
theorem dX6_doLoad_60 : decode cX6_doLoad 60 = .ok (.aload_n 0, 1) := by decide +kernel
theorem dX6_doLoad_61 : decode cX6_doLoad 61 = .ok (.getfield 9, 3) := by decide +kernel
theorem dX6_doLoad_64 : decode cX6_doLoad 64 = .ok (.iconst 4, 1) := by decide +kernel
theorem dX6_doLoad_65 : decode cX6_doLoad 65 = .ok (.dup2, 1) := by decide +kernel
theorem dX6_doLoad_66 : decode cX6_doLoad 66 = .ok (.iaload, 1) := by decide +kernel
theorem dX6_doLoad_67 : decode cX6_doLoad 67 = .ok (.iload_n 2, 1) := by decide +kernel
theorem dX6_doLoad_68 : decode cX6_doLoad 68 = .ok (.iadd, 1) := by decide +kernel
theorem dX6_doLoad_69 : decode cX6_doLoad 69 = .ok (.iastore, 1) := by decide +kernel
theorem dX6_doLoad_70 : decode cX6_doLoad 70 = .ok (.iload_n 3, 1) := by decide +kernel
theorem dX6_doLoad_71 : decode cX6_doLoad 71 = .ok (.ireturn, 1) := by decide +kernel
theorem dX6_load_0 : decode cX6_load 0 = .ok (.aload_n 0, 1) := by decide +kernel
theorem dX6_load_1 : decode cX6_load 1 = .ok (.invokevirtual 103, 3) := by decide +kernel
theorem dX6_load_4 : decode cX6_load 4 = .ok (.aload_n 0, 1) := by decide +kernel
theorem dX6_load_5 : decode cX6_load 5 = .ok (.aload_n 0, 1) := by decide +kernel
theorem dX6_load_6 : decode cX6_load 6 = .ok (.iload_n 1, 1) := by decide +kernel
theorem dX6_load_7 : decode cX6_load 7 = .ok (.iload_n 2, 1) := by decide +kernel
theorem dX6_load_8 : decode cX6_load 8 = .ok (.invokevirtual 117, 3) := by decide +kernel
theorem dX6_load_11 : decode cX6_load 11 = .ok (.invokevirtual 110, 3) := by decide +kernel
theorem dX6_load_14 : decode cX6_load 14 = .ok (.ireturn, 1) := by decide +kernel
theorem dX6_continues_0 : decode cX6_continues 0 = .ok (.aload_n 0, 1) := by decide +kernel
theorem dX6_continues_1 : decode cX6_continues 1 = .ok (.iload_n 1, 1) := by decide +kernel
theorem dX6_continues_2 : decode cX6_continues 2 = .ok (.iconst 2, 1) := by decide +kernel
theorem dX6_continues_3 : decode cX6_continues 3 = .ok (.invokevirtual 67, 3) := by decide +kernel
theorem dX6_continues_6 : decode cX6_continues 6 = .ok (.ifCond .ge 37, 3) := by decide +kernel
theorem dX6_continues_9 : decode cX6_continues 9 = .ok (.aload_n 0, 1) := by decide +kernel
theorem dX6_continues_10 : decode cX6_continues 10 = .ok (.iload_n 1, 1) := by decide +kernel
theorem dX6_continues_11 : decode cX6_continues 11 = .ok (.bipush 6, 2) := by decide +kernel
theorem dX6_continues_13 : decode cX6_continues 13 = .ok (.invokevirtual 67, 3) := by decide +kernel
theorem dX6_continues_16 : decode cX6_continues 16 = .ok (.iload_n 2, 1) := by decide +kernel
theorem dX6_continues_17 : decode cX6_continues 17 = .ok (.if_icmp .ne 26, 3) := by decide +kernel
theorem dX6_continues_20 : decode cX6_continues 20 = .ok (.aload_n 0, 1) := by decide +kernel
theorem dX6_continues_21 : decode cX6_continues 21 = .ok (.getfield 9, 3) := by decide +kernel
theorem dX6_continues_24 : decode cX6_continues 24 = .ok (.iconst 1, 1) := by decide +kernel
theorem dX6_continues_25 : decode cX6_continues 25 = .ok (.iaload, 1) := by decide +kernel
theorem dX6_continues_26 : decode cX6_continues 26 = .ok (.aload_n 0, 1) := by decide +kernel
theorem dX6_continues_27 : decode cX6_continues 27 = .ok (.iload_n 1, 1) := by decide +kernel
theorem dX6_continues_28 : decode cX6_continues 28 = .ok (.bipush 7, 2) := by decide +kernel
theorem dX6_continues_30 : decode cX6_continues 30 = .ok (.invokevirtual 67, 3) := by decide +kernel
theorem dX6_continues_33 : decode cX6_continues 33 = .ok (.isub, 1) := by decide +kernel
theorem dX6_continues_34 : decode cX6_continues 34 = .ok (.bipush 15, 2) := by decide +kernel
theorem dX6_continues_36 : decode cX6_continues 36 = .ok (.if_icmp .gt 7, 3) := by decide +kernel
theorem dX6_continues_39 : decode cX6_continues 39 = .ok (.iconst 1, 1) := by decide +kernel
theorem dX6_continues_40 : decode cX6_continues 40 = .ok (.goto 4, 3) := by decide +kernel
theorem dX6_continues_43 : decode cX6_continues 43 = .ok (.iconst 0, 1) := by decide +kernel
theorem dX6_continues_44 : decode cX6_continues 44 = .ok (.ireturn, 1) := by decide +kernel
theorem dX6_doTapIn_0 : decode cX6_doTapIn 0 = .ok (.aload_n 0, 1) := by decide +kernel
theorem dX6_doTapIn_1 : decode cX6_doTapIn 1 = .ok (.iload_n 1, 1) := by decide +kernel
theorem dX6_doTapIn_2 : decode cX6_doTapIn 2 = .ok (.invokevirtual 113, 3) := by decide +kernel
theorem dX6_doTapIn_5 : decode cX6_doTapIn 5 = .ok (.ifCond .eq 10, 3) := by decide +kernel
theorem dX6_doTapIn_8 : decode cX6_doTapIn 8 = .ok (.iload_n 2, 1) := by decide +kernel
theorem dX6_doTapIn_9 : decode cX6_doTapIn 9 = .ok (.invokestatic 120, 3) := by decide +kernel
theorem dX6_doTapIn_12 : decode cX6_doTapIn 12 = .ok (.ifCond .ne 9, 3) := by decide +kernel
theorem dX6_doTapIn_15 : decode cX6_doTapIn 15 = .ok (.aload_n 0, 1) := by decide +kernel
theorem dX6_doTapIn_16 : decode cX6_doTapIn 16 = .ok (.iconst 1, 1) := by decide +kernel
theorem dX6_doTapIn_17 : decode cX6_doTapIn 17 = .ok (.invokevirtual 100, 3) := by decide +kernel
theorem dX6_doTapIn_20 : decode cX6_doTapIn 20 = .ok (.ireturn, 1) := by decide +kernel
theorem dX6_doTapIn_21 : decode cX6_doTapIn 21 = .ok (.aload_n 0, 1) := by decide +kernel
theorem dX6_doTapIn_22 : decode cX6_doTapIn 22 = .ok (.iload_n 1, 1) := by decide +kernel
theorem dX6_doTapIn_23 : decode cX6_doTapIn 23 = .ok (.iconst 1, 1) := by decide +kernel
theorem dX6_doTapIn_24 : decode cX6_doTapIn 24 = .ok (.invokevirtual 67, 3) := by decide +kernel
theorem dX6_doTapIn_27 : decode cX6_doTapIn 27 = .ok (.sipush (-500), 3) := by decide +kernel
theorem dX6_doTapIn_30 : decode cX6_doTapIn 30 = .ok (.if_icmp .ge 9, 3) := by decide +kernel
theorem dX6_doTapIn_33 : decode cX6_doTapIn 33 = .ok (.aload_n 0, 1) := by decide +kernel
theorem dX6_doTapIn_34 : decode cX6_doTapIn 34 = .ok (.iconst 2, 1) := by decide +kernel
theorem dX6_doTapIn_35 : decode cX6_doTapIn 35 = .ok (.invokevirtual 100, 3) := by decide +kernel
theorem dX6_doTapIn_38 : decode cX6_doTapIn 38 = .ok (.ireturn, 1) := by decide +kernel
theorem dX6_doTapIn_39 : decode cX6_doTapIn 39 = .ok (.aload_n 0, 1) := by decide +kernel
theorem dX6_doTapIn_40 : decode cX6_doTapIn 40 = .ok (.iload_n 1, 1) := by decide +kernel
theorem dX6_doTapIn_41 : decode cX6_doTapIn 41 = .ok (.iload_n 2, 1) := by decide +kernel
theorem dX6_doTapIn_42 : decode cX6_doTapIn 42 = .ok (.invokevirtual 123, 3) := by decide +kernel
theorem dX6_doTapIn_45 : decode cX6_doTapIn 45 = .ok (.istore_n 3, 1) := by decide +kernel
theorem dX6_doTapIn_46 : decode cX6_doTapIn 46 = .ok (.aload_n 0, 1) := by decide +kernel
theorem dX6_doTapIn_47 : decode cX6_doTapIn 47 = .ok (.iload_n 1, 1) := by decide +kernel
theorem dX6_doTapIn_48 : decode cX6_doTapIn 48 = .ok (.iconst 2, 1) := by decide +kernel
theorem dX6_doTapIn_49 : decode cX6_doTapIn 49 = .ok (.invokevirtual 67, 3) := by decide +kernel
theorem dX6_doTapIn_52 : decode cX6_doTapIn 52 = .ok (.ifCond .lt 8, 3) := by decide +kernel
theorem dX6_doTapIn_55 : decode cX6_doTapIn 55 = .ok (.aload_n 0, 1) := by decide +kernel
theorem dX6_doTapIn_56 : decode cX6_doTapIn 56 = .ok (.iload_n 1, 1) := by decide +kernel
theorem dX6_doTapIn_57 : decode cX6_doTapIn 57 = .ok (.invokevirtual 127, 3) := by decide +kernel
theorem dX6_doTapIn_60 : decode cX6_doTapIn 60 = .ok (.iload_n 3, 1) := by decide +kernel
theorem dX6_doTapIn_61 : decode cX6_doTapIn 61 = .ok (.ifCond .ne 17, 3) := by decide +kernel
theorem dX6_doTapIn_64 : decode cX6_doTapIn 64 = .ok (.aload_n 0, 1) := by decide +kernel
theorem dX6_doTapIn_65 : decode cX6_doTapIn 65 = .ok (.iload_n 1, 1) := by decide +kernel
theorem dX6_doTapIn_66 : decode cX6_doTapIn 66 = .ok (.iconst 4, 1) := by decide +kernel
theorem dX6_doTapIn_67 : decode cX6_doTapIn 67 = .ok (.iload_n 2, 1) := by decide +kernel
theorem dX6_doTapIn_68 : decode cX6_doTapIn 68 = .ok (.invokevirtual 73, 3) := by decide +kernel
theorem dX6_doTapIn_71 : decode cX6_doTapIn 71 = .ok (.aload_n 0, 1) := by decide +kernel
theorem dX6_doTapIn_72 : decode cX6_doTapIn 72 = .ok (.iload_n 1, 1) := by decide +kernel
theorem dX6_doTapIn_73 : decode cX6_doTapIn 73 = .ok (.iconst 5, 1) := by decide +kernel
theorem dX6_doTapIn_74 : decode cX6_doTapIn 74 = .ok (.iconst 0, 1) := by decide +kernel
theorem dX6_doTapIn_75 : decode cX6_doTapIn 75 = .ok (.invokevirtual 73, 3) := by decide +kernel
theorem dX6_doTapIn_78 : decode cX6_doTapIn 78 = .ok (.aload_n 0, 1) := by decide +kernel
theorem dX6_doTapIn_79 : decode cX6_doTapIn 79 = .ok (.iload_n 1, 1) := by decide +kernel
theorem dX6_doTapIn_80 : decode cX6_doTapIn 80 = .ok (.iconst 2, 1) := by decide +kernel
theorem dX6_doTapIn_81 : decode cX6_doTapIn 81 = .ok (.iload_n 2, 1) := by decide +kernel
theorem dX6_doTapIn_82 : decode cX6_doTapIn 82 = .ok (.invokevirtual 73, 3) := by decide +kernel
theorem dX6_doTapIn_85 : decode cX6_doTapIn 85 = .ok (.aload_n 0, 1) := by decide +kernel
theorem dX6_doTapIn_86 : decode cX6_doTapIn 86 = .ok (.iload_n 1, 1) := by decide +kernel
theorem dX6_doTapIn_87 : decode cX6_doTapIn 87 = .ok (.iconst 3, 1) := by decide +kernel
theorem dX6_doTapIn_88 : decode cX6_doTapIn 88 = .ok (.aload_n 0, 1) := by decide +kernel
theorem dX6_doTapIn_89 : decode cX6_doTapIn 89 = .ok (.getfield 9, 3) := by decide +kernel
theorem dX6_doTapIn_92 : decode cX6_doTapIn 92 = .ok (.iconst 1, 1) := by decide +kernel
theorem dX6_doTapIn_93 : decode cX6_doTapIn 93 = .ok (.iaload, 1) := by decide +kernel
theorem dX6_doTapIn_94 : decode cX6_doTapIn 94 = .ok (.invokevirtual 73, 3) := by decide +kernel
theorem dX6_doTapIn_97 : decode cX6_doTapIn 97 = .ok (.aload_n 0, 1) := by decide +kernel
theorem dX6_doTapIn_98 : decode cX6_doTapIn 98 = .ok (.getfield 9, 3) := by decide +kernel
theorem dX6_doTapIn_101 : decode cX6_doTapIn 101 = .ok (.bipush 21, 2) := by decide +kernel
theorem dX6_doTapIn_103 : decode cX6_doTapIn 103 = .ok (.iload_n 2, 1) := by decide +kernel
theorem dX6_doTapIn_104 : decode cX6_doTapIn 104 = .ok (.iadd, 1) := by decide +kernel
theorem dX6_doTapIn_105 : decode cX6_doTapIn 105 = .ok (.dup2, 1) := by decide +kernel
theorem dX6_doTapIn_106 : decode cX6_doTapIn 106 = .ok (.iaload, 1) := by decide +kernel
theorem dX6_doTapIn_107 : decode cX6_doTapIn 107 = .ok (.iconst 1, 1) := by decide +kernel
theorem dX6_doTapIn_108 : decode cX6_doTapIn 108 = .ok (.iadd, 1) := by decide +kernel
theorem dX6_doTapIn_109 : decode cX6_doTapIn 109 = .ok (.iastore, 1) := by decide +kernel
theorem dX6_doTapIn_110 : decode cX6_doTapIn 110 = .ok (.iload_n 3, 1) := by decide +kernel
theorem dX6_doTapIn_111 : decode cX6_doTapIn 111 = .ok (.ifCond .eq 7, 3) := by decide +kernel
theorem dX6_doTapIn_114 : decode cX6_doTapIn 114 = .ok (.iconst 1, 1) := by decide +kernel
theorem dX6_doTapIn_115 : decode cX6_doTapIn 115 = .ok (.goto 4, 3) := by decide +kernel
theorem dX6_doTapIn_118 : decode cX6_doTapIn 118 = .ok (.iconst 0, 1) := by decide +kernel
theorem dX6_doTapIn_119 : decode cX6_doTapIn 119 = .ok (.ireturn, 1) := by decide +kernel
theorem dX6_tapIn_0 : decode cX6_tapIn 0 = .ok (.aload_n 0, 1) := by decide +kernel
theorem dX6_tapIn_1 : decode cX6_tapIn 1 = .ok (.invokevirtual 103, 3) := by decide +kernel
theorem dX6_tapIn_4 : decode cX6_tapIn 4 = .ok (.aload_n 0, 1) := by decide +kernel
theorem dX6_tapIn_5 : decode cX6_tapIn 5 = .ok (.aload_n 0, 1) := by decide +kernel
theorem dX6_tapIn_6 : decode cX6_tapIn 6 = .ok (.iload_n 1, 1) := by decide +kernel
theorem dX6_tapIn_7 : decode cX6_tapIn 7 = .ok (.iload_n 2, 1) := by decide +kernel
theorem dX6_tapIn_8 : decode cX6_tapIn 8 = .ok (.invokevirtual 131, 3) := by decide +kernel
theorem dX6_tapIn_11 : decode cX6_tapIn 11 = .ok (.invokevirtual 110, 3) := by decide +kernel
theorem dX6_tapIn_14 : decode cX6_tapIn 14 = .ok (.iconst 1, 1) := by decide +kernel
theorem dX6_tapIn_15 : decode cX6_tapIn 15 = .ok (.if_icmp .ne 7, 3) := by decide +kernel
theorem dX6_tapIn_18 : decode cX6_tapIn 18 = .ok (.iconst 1, 1) := by decide +kernel
theorem dX6_tapIn_19 : decode cX6_tapIn 19 = .ok (.goto 4, 3) := by decide +kernel
theorem dX6_tapIn_22 : decode cX6_tapIn 22 = .ok (.iconst 0, 1) := by decide +kernel
theorem dX6_tapIn_23 : decode cX6_tapIn 23 = .ok (.ireturn, 1) := by decide +kernel
theorem dX6_doTapOut_0 : decode cX6_doTapOut 0 = .ok (.aload_n 0, 1) := by decide +kernel
theorem dX6_doTapOut_1 : decode cX6_doTapOut 1 = .ok (.iload_n 1, 1) := by decide +kernel
theorem dX6_doTapOut_2 : decode cX6_doTapOut 2 = .ok (.invokevirtual 113, 3) := by decide +kernel
theorem dX6_doTapOut_5 : decode cX6_doTapOut 5 = .ok (.ifCond .eq 10, 3) := by decide +kernel
theorem dX6_doTapOut_8 : decode cX6_doTapOut 8 = .ok (.iload_n 2, 1) := by decide +kernel
theorem dX6_doTapOut_9 : decode cX6_doTapOut 9 = .ok (.invokestatic 120, 3) := by decide +kernel
theorem dX6_doTapOut_12 : decode cX6_doTapOut 12 = .ok (.ifCond .ne 9, 3) := by decide +kernel
theorem dX6_doTapOut_15 : decode cX6_doTapOut 15 = .ok (.aload_n 0, 1) := by decide +kernel
theorem dX6_doTapOut_16 : decode cX6_doTapOut 16 = .ok (.iconst 1, 1) := by decide +kernel
theorem dX6_doTapOut_17 : decode cX6_doTapOut 17 = .ok (.invokevirtual 100, 3) := by decide +kernel
theorem dX6_doTapOut_20 : decode cX6_doTapOut 20 = .ok (.ireturn, 1) := by decide +kernel
theorem dX6_doTapOut_21 : decode cX6_doTapOut 21 = .ok (.aload_n 0, 1) := by decide +kernel
theorem dX6_doTapOut_22 : decode cX6_doTapOut 22 = .ok (.iload_n 1, 1) := by decide +kernel
theorem dX6_doTapOut_23 : decode cX6_doTapOut 23 = .ok (.iconst 2, 1) := by decide +kernel
theorem dX6_doTapOut_24 : decode cX6_doTapOut 24 = .ok (.invokevirtual 67, 3) := by decide +kernel
theorem dX6_doTapOut_27 : decode cX6_doTapOut 27 = .ok (.ifCond .ge 9, 3) := by decide +kernel
theorem dX6_doTapOut_30 : decode cX6_doTapOut 30 = .ok (.aload_n 0, 1) := by decide +kernel
theorem dX6_doTapOut_31 : decode cX6_doTapOut 31 = .ok (.iconst 2, 1) := by decide +kernel
theorem dX6_doTapOut_32 : decode cX6_doTapOut 32 = .ok (.invokevirtual 100, 3) := by decide +kernel
theorem dX6_doTapOut_35 : decode cX6_doTapOut 35 = .ok (.ireturn, 1) := by decide +kernel
theorem dX6_doTapOut_36 : decode cX6_doTapOut 36 = .ok (.aload_n 0, 1) := by decide +kernel
theorem dX6_doTapOut_37 : decode cX6_doTapOut 37 = .ok (.iload_n 1, 1) := by decide +kernel
theorem dX6_doTapOut_38 : decode cX6_doTapOut 38 = .ok (.aload_n 0, 1) := by decide +kernel
theorem dX6_doTapOut_39 : decode cX6_doTapOut 39 = .ok (.iload_n 1, 1) := by decide +kernel
theorem dX6_doTapOut_40 : decode cX6_doTapOut 40 = .ok (.iload_n 2, 1) := by decide +kernel
theorem dX6_doTapOut_41 : decode cX6_doTapOut 41 = .ok (.invokevirtual 134, 3) := by decide +kernel
theorem dX6_doTapOut_44 : decode cX6_doTapOut 44 = .ok (.invokevirtual 94, 3) := by decide +kernel
theorem dX6_doTapOut_47 : decode cX6_doTapOut 47 = .ok (.istore_n 3, 1) := by decide +kernel
theorem dX6_doTapOut_48 : decode cX6_doTapOut 48 = .ok (.aload_n 0, 1) := by decide +kernel
theorem dX6_doTapOut_49 : decode cX6_doTapOut 49 = .ok (.iload_n 1, 1) := by decide +kernel
theorem dX6_doTapOut_50 : decode cX6_doTapOut 50 = .ok (.iconst 5, 1) := by decide +kernel
theorem dX6_doTapOut_51 : decode cX6_doTapOut 51 = .ok (.aload_n 0, 1) := by decide +kernel
theorem dX6_doTapOut_52 : decode cX6_doTapOut 52 = .ok (.iload_n 1, 1) := by decide +kernel
theorem dX6_doTapOut_53 : decode cX6_doTapOut 53 = .ok (.iconst 5, 1) := by decide +kernel
theorem dX6_doTapOut_54 : decode cX6_doTapOut 54 = .ok (.invokevirtual 67, 3) := by decide +kernel
theorem dX6_doTapOut_57 : decode cX6_doTapOut 57 = .ok (.iload_n 3, 1) := by decide +kernel
theorem dX6_doTapOut_58 : decode cX6_doTapOut 58 = .ok (.iadd, 1) := by decide +kernel
theorem dX6_doTapOut_59 : decode cX6_doTapOut 59 = .ok (.invokevirtual 73, 3) := by decide +kernel
theorem dX6_doTapOut_62 : decode cX6_doTapOut 62 = .ok (.aload_n 0, 1) := by decide +kernel
theorem dX6_doTapOut_63 : decode cX6_doTapOut 63 = .ok (.iload_n 1, 1) := by decide +kernel
theorem dX6_doTapOut_64 : decode cX6_doTapOut 64 = .ok (.iconst 2, 1) := by decide +kernel
theorem dX6_doTapOut_65 : decode cX6_doTapOut 65 = .ok (.iconst (-1), 1) := by decide +kernel
theorem dX6_doTapOut_66 : decode cX6_doTapOut 66 = .ok (.invokevirtual 73, 3) := by decide +kernel
theorem dX6_doTapOut_69 : decode cX6_doTapOut 69 = .ok (.aload_n 0, 1) := by decide +kernel
theorem dX6_doTapOut_70 : decode cX6_doTapOut 70 = .ok (.iload_n 1, 1) := by decide +kernel
theorem dX6_doTapOut_71 : decode cX6_doTapOut 71 = .ok (.bipush 6, 2) := by decide +kernel
theorem dX6_doTapOut_73 : decode cX6_doTapOut 73 = .ok (.iload_n 2, 1) := by decide +kernel
theorem dX6_doTapOut_74 : decode cX6_doTapOut 74 = .ok (.invokevirtual 73, 3) := by decide +kernel
theorem dX6_doTapOut_77 : decode cX6_doTapOut 77 = .ok (.aload_n 0, 1) := by decide +kernel
theorem dX6_doTapOut_78 : decode cX6_doTapOut 78 = .ok (.iload_n 1, 1) := by decide +kernel
theorem dX6_doTapOut_79 : decode cX6_doTapOut 79 = .ok (.bipush 7, 2) := by decide +kernel
theorem dX6_doTapOut_81 : decode cX6_doTapOut 81 = .ok (.aload_n 0, 1) := by decide +kernel
theorem dX6_doTapOut_82 : decode cX6_doTapOut 82 = .ok (.getfield 9, 3) := by decide +kernel
theorem dX6_doTapOut_85 : decode cX6_doTapOut 85 = .ok (.iconst 1, 1) := by decide +kernel
theorem dX6_doTapOut_86 : decode cX6_doTapOut 86 = .ok (.iaload, 1) := by decide +kernel
theorem dX6_doTapOut_87 : decode cX6_doTapOut 87 = .ok (.invokevirtual 73, 3) := by decide +kernel
theorem dX6_doTapOut_90 : decode cX6_doTapOut 90 = .ok (.aload_n 0, 1) := by decide +kernel
theorem dX6_doTapOut_91 : decode cX6_doTapOut 91 = .ok (.getfield 9, 3) := by decide +kernel
theorem dX6_doTapOut_94 : decode cX6_doTapOut 94 = .ok (.bipush 7, 2) := by decide +kernel
theorem dX6_doTapOut_96 : decode cX6_doTapOut 96 = .ok (.dup2, 1) := by decide +kernel
theorem dX6_doTapOut_97 : decode cX6_doTapOut 97 = .ok (.iaload, 1) := by decide +kernel
theorem dX6_doTapOut_98 : decode cX6_doTapOut 98 = .ok (.iconst 1, 1) := by decide +kernel
theorem dX6_doTapOut_99 : decode cX6_doTapOut 99 = .ok (.iadd, 1) := by decide +kernel
theorem dX6_doTapOut_100 : decode cX6_doTapOut 100 = .ok (.iastore, 1) := by decide +kernel
theorem dX6_doTapOut_101 : decode cX6_doTapOut 101 = .ok (.aload_n 0, 1) := by decide +kernel
theorem dX6_doTapOut_102 : decode cX6_doTapOut 102 = .ok (.getfield 9, 3) := by decide +kernel
theorem dX6_doTapOut_105 : decode cX6_doTapOut 105 = .ok (.bipush 21, 2) := by decide +kernel
theorem dX6_doTapOut_107 : decode cX6_doTapOut 107 = .ok (.iload_n 2, 1) := by decide +kernel
theorem dX6_doTapOut_108 : decode cX6_doTapOut 108 = .ok (.iadd, 1) := by decide +kernel
theorem dX6_doTapOut_109 : decode cX6_doTapOut 109 = .ok (.dup2, 1) := by decide +kernel
theorem dX6_doTapOut_110 : decode cX6_doTapOut 110 = .ok (.iaload, 1) := by decide +kernel
theorem dX6_doTapOut_111 : decode cX6_doTapOut 111 = .ok (.iconst 1, 1) := by decide +kernel
theorem dX6_doTapOut_112 : decode cX6_doTapOut 112 = .ok (.iadd, 1) := by decide +kernel
theorem dX6_doTapOut_113 : decode cX6_doTapOut 113 = .ok (.iastore, 1) := by decide +kernel
theorem dX6_doTapOut_114 : decode cX6_doTapOut 114 = .ok (.iload_n 3, 1) := by decide +kernel
theorem dX6_doTapOut_115 : decode cX6_doTapOut 115 = .ok (.ireturn, 1) := by decide +kernel
theorem dX6_tapOut_0 : decode cX6_tapOut 0 = .ok (.aload_n 0, 1) := by decide +kernel
theorem dX6_tapOut_1 : decode cX6_tapOut 1 = .ok (.invokevirtual 103, 3) := by decide +kernel
theorem dX6_tapOut_4 : decode cX6_tapOut 4 = .ok (.aload_n 0, 1) := by decide +kernel
theorem dX6_tapOut_5 : decode cX6_tapOut 5 = .ok (.aload_n 0, 1) := by decide +kernel
theorem dX6_tapOut_6 : decode cX6_tapOut 6 = .ok (.iload_n 1, 1) := by decide +kernel
theorem dX6_tapOut_7 : decode cX6_tapOut 7 = .ok (.iload_n 2, 1) := by decide +kernel
theorem dX6_tapOut_8 : decode cX6_tapOut 8 = .ok (.invokevirtual 137, 3) := by decide +kernel
theorem dX6_tapOut_11 : decode cX6_tapOut 11 = .ok (.invokevirtual 110, 3) := by decide +kernel
theorem dX6_tapOut_14 : decode cX6_tapOut 14 = .ok (.ireturn, 1) := by decide +kernel
theorem dX6_doRepair_0 : decode cX6_doRepair 0 = .ok (.aload_n 0, 1) := by decide +kernel
theorem dX6_doRepair_1 : decode cX6_doRepair 1 = .ok (.iload_n 1, 1) := by decide +kernel
theorem dX6_doRepair_2 : decode cX6_doRepair 2 = .ok (.invokevirtual 113, 3) := by decide +kernel
theorem dX6_doRepair_5 : decode cX6_doRepair 5 = .ok (.ifCond .eq 10, 3) := by decide +kernel
theorem dX6_doRepair_8 : decode cX6_doRepair 8 = .ok (.iload_n 2, 1) := by decide +kernel
theorem dX6_doRepair_9 : decode cX6_doRepair 9 = .ok (.invokestatic 120, 3) := by decide +kernel
theorem dX6_doRepair_12 : decode cX6_doRepair 12 = .ok (.ifCond .ne 9, 3) := by decide +kernel
theorem dX6_doRepair_15 : decode cX6_doRepair 15 = .ok (.aload_n 0, 1) := by decide +kernel
theorem dX6_doRepair_16 : decode cX6_doRepair 16 = .ok (.iconst 1, 1) := by decide +kernel
theorem dX6_doRepair_17 : decode cX6_doRepair 17 = .ok (.invokevirtual 100, 3) := by decide +kernel
theorem dX6_doRepair_20 : decode cX6_doRepair 20 = .ok (.ireturn, 1) := by decide +kernel
theorem dX6_doRepair_21 : decode cX6_doRepair 21 = .ok (.aload_n 0, 1) := by decide +kernel
theorem dX6_doRepair_22 : decode cX6_doRepair 22 = .ok (.iload_n 1, 1) := by decide +kernel
theorem dX6_doRepair_23 : decode cX6_doRepair 23 = .ok (.bipush 8, 2) := by decide +kernel
theorem dX6_doRepair_25 : decode cX6_doRepair 25 = .ok (.invokevirtual 67, 3) := by decide +kernel
theorem dX6_doRepair_28 : decode cX6_doRepair 28 = .ok (.istore_n 3, 1) := by decide +kernel
theorem dX6_doRepair_29 : decode cX6_doRepair 29 = .ok (.aload_n 0, 1) := by decide +kernel
theorem dX6_doRepair_30 : decode cX6_doRepair 30 = .ok (.iload_n 1, 1) := by decide +kernel
theorem dX6_doRepair_31 : decode cX6_doRepair 31 = .ok (.bipush 9, 2) := by decide +kernel
theorem dX6_doRepair_33 : decode cX6_doRepair 33 = .ok (.invokevirtual 67, 3) := by decide +kernel
theorem dX6_doRepair_36 : decode cX6_doRepair 36 = .ok (.istore 4, 2) := by decide +kernel
theorem dX6_doRepair_38 : decode cX6_doRepair 38 = .ok (.iload_n 3, 1) := by decide +kernel
theorem dX6_doRepair_39 : decode cX6_doRepair 39 = .ok (.ifCond .ge 9, 3) := by decide +kernel
theorem dX6_doRepair_42 : decode cX6_doRepair 42 = .ok (.aload_n 0, 1) := by decide +kernel
theorem dX6_doRepair_43 : decode cX6_doRepair 43 = .ok (.iconst 2, 1) := by decide +kernel
theorem dX6_doRepair_44 : decode cX6_doRepair 44 = .ok (.invokevirtual 100, 3) := by decide +kernel
theorem dX6_doRepair_47 : decode cX6_doRepair 47 = .ok (.ireturn, 1) := by decide +kernel
theorem dX6_doRepair_48 : decode cX6_doRepair 48 = .ok (.aload_n 0, 1) := by decide +kernel
theorem dX6_doRepair_49 : decode cX6_doRepair 49 = .ok (.invokevirtual 81, 3) := by decide +kernel
theorem dX6_doRepair_52 : decode cX6_doRepair 52 = .ok (.iload 4, 2) := by decide +kernel
theorem dX6_doRepair_54 : decode cX6_doRepair 54 = .ok (.isub, 1) := by decide +kernel
theorem dX6_doRepair_55 : decode cX6_doRepair 55 = .ok (.iconst 2, 1) := by decide +kernel
theorem dX6_doRepair_56 : decode cX6_doRepair 56 = .ok (.if_icmp .le 9, 3) := by decide +kernel
theorem dX6_doRepair_59 : decode cX6_doRepair 59 = .ok (.aload_n 0, 1) := by decide +kernel
theorem dX6_doRepair_60 : decode cX6_doRepair 60 = .ok (.iconst 3, 1) := by decide +kernel
theorem dX6_doRepair_61 : decode cX6_doRepair 61 = .ok (.invokevirtual 100, 3) := by decide +kernel
theorem dX6_doRepair_64 : decode cX6_doRepair 64 = .ok (.ireturn, 1) := by decide +kernel
theorem dX6_doRepair_65 : decode cX6_doRepair 65 = .ok (.iconst 0, 1) := by decide +kernel
theorem dX6_doRepair_66 : decode cX6_doRepair 66 = .ok (.aload_n 0, 1) := by decide +kernel
theorem dX6_doRepair_67 : decode cX6_doRepair 67 = .ok (.iload_n 1, 1) := by decide +kernel
theorem dX6_doRepair_68 : decode cX6_doRepair 68 = .ok (.bipush 10, 2) := by decide +kernel
theorem dX6_doRepair_70 : decode cX6_doRepair 70 = .ok (.invokevirtual 67, 3) := by decide +kernel
theorem dX6_doRepair_73 : decode cX6_doRepair 73 = .ok (.aload_n 0, 1) := by decide +kernel
theorem dX6_doRepair_74 : decode cX6_doRepair 74 = .ok (.iload_n 1, 1) := by decide +kernel
theorem dX6_doRepair_75 : decode cX6_doRepair 75 = .ok (.aload_n 0, 1) := by decide +kernel
theorem dX6_doRepair_76 : decode cX6_doRepair 76 = .ok (.iload_n 3, 1) := by decide +kernel
theorem dX6_doRepair_77 : decode cX6_doRepair 77 = .ok (.iload_n 2, 1) := by decide +kernel
theorem dX6_doRepair_78 : decode cX6_doRepair 78 = .ok (.invokevirtual 97, 3) := by decide +kernel
theorem dX6_doRepair_81 : decode cX6_doRepair 81 = .ok (.invokevirtual 91, 3) := by decide +kernel
theorem dX6_doRepair_84 : decode cX6_doRepair 84 = .ok (.isub, 1) := by decide +kernel
theorem dX6_doRepair_85 : decode cX6_doRepair 85 = .ok (.invokestatic 61, 3) := by decide +kernel
theorem dX6_doRepair_88 : decode cX6_doRepair 88 = .ok (.istore 5, 2) := by decide +kernel
theorem dX6_doRepair_90 : decode cX6_doRepair 90 = .ok (.aload_n 0, 1) := by decide +kernel
theorem dX6_doRepair_91 : decode cX6_doRepair 91 = .ok (.iload_n 1, 1) := by decide +kernel
theorem dX6_doRepair_92 : decode cX6_doRepair 92 = .ok (.iload 4, 2) := by decide +kernel
theorem dX6_doRepair_94 : decode cX6_doRepair 94 = .ok (.iload 5, 2) := by decide +kernel
theorem dX6_doRepair_96 : decode cX6_doRepair 96 = .ok (.ineg, 1) := by decide +kernel
theorem dX6_doRepair_97 : decode cX6_doRepair 97 = .ok (.invokevirtual 88, 3) := by decide +kernel
theorem dX6_doRepair_100 : decode cX6_doRepair 100 = .ok (.aload_n 0, 1) := by decide +kernel
theorem dX6_doRepair_101 : decode cX6_doRepair 101 = .ok (.iload_n 1, 1) := by decide +kernel
theorem dX6_doRepair_102 : decode cX6_doRepair 102 = .ok (.iconst 1, 1) := by decide +kernel
theorem dX6_doRepair_103 : decode cX6_doRepair 103 = .ok (.aload_n 0, 1) := by decide +kernel
theorem dX6_doRepair_104 : decode cX6_doRepair 104 = .ok (.iload_n 1, 1) := by decide +kernel
theorem dX6_doRepair_105 : decode cX6_doRepair 105 = .ok (.iconst 1, 1) := by decide +kernel
theorem dX6_doRepair_106 : decode cX6_doRepair 106 = .ok (.invokevirtual 67, 3) := by decide +kernel
theorem dX6_doRepair_109 : decode cX6_doRepair 109 = .ok (.iload 5, 2) := by decide +kernel
theorem dX6_doRepair_111 : decode cX6_doRepair 111 = .ok (.iadd, 1) := by decide +kernel
theorem dX6_doRepair_112 : decode cX6_doRepair 112 = .ok (.invokevirtual 73, 3) := by decide +kernel
theorem dX6_doRepair_115 : decode cX6_doRepair 115 = .ok (.aload_n 0, 1) := by decide +kernel
theorem dX6_doRepair_116 : decode cX6_doRepair 116 = .ok (.iload_n 1, 1) := by decide +kernel
theorem dX6_doRepair_117 : decode cX6_doRepair 117 = .ok (.bipush 8, 2) := by decide +kernel
theorem dX6_doRepair_119 : decode cX6_doRepair 119 = .ok (.iconst (-1), 1) := by decide +kernel
theorem dX6_doRepair_120 : decode cX6_doRepair 120 = .ok (.invokevirtual 73, 3) := by decide +kernel
theorem dX6_doRepair_123 : decode cX6_doRepair 123 = .ok (.aload_n 0, 1) := by decide +kernel
theorem dX6_doRepair_124 : decode cX6_doRepair 124 = .ok (.getfield 9, 3) := by decide +kernel
theorem dX6_doRepair_127 : decode cX6_doRepair 127 = .ok (.bipush 6, 2) := by decide +kernel
theorem dX6_doRepair_129 : decode cX6_doRepair 129 = .ok (.dup2, 1) := by decide +kernel
theorem dX6_doRepair_130 : decode cX6_doRepair 130 = .ok (.iaload, 1) := by decide +kernel
theorem dX6_doRepair_131 : decode cX6_doRepair 131 = .ok (.iload 5, 2) := by decide +kernel
theorem dX6_doRepair_133 : decode cX6_doRepair 133 = .ok (.iadd, 1) := by decide +kernel
theorem dX6_doRepair_134 : decode cX6_doRepair 134 = .ok (.iastore, 1) := by decide +kernel
theorem dX6_doRepair_135 : decode cX6_doRepair 135 = .ok (.iload 5, 2) := by decide +kernel
theorem dX6_doRepair_137 : decode cX6_doRepair 137 = .ok (.ireturn, 1) := by decide +kernel
theorem dX6_repair_0 : decode cX6_repair 0 = .ok (.aload_n 0, 1) := by decide +kernel
theorem dX6_repair_1 : decode cX6_repair 1 = .ok (.invokevirtual 103, 3) := by decide +kernel
theorem dX6_repair_4 : decode cX6_repair 4 = .ok (.aload_n 0, 1) := by decide +kernel
theorem dX6_repair_5 : decode cX6_repair 5 = .ok (.aload_n 0, 1) := by decide +kernel
theorem dX6_repair_6 : decode cX6_repair 6 = .ok (.iload_n 1, 1) := by decide +kernel
theorem dX6_repair_7 : decode cX6_repair 7 = .ok (.iload_n 2, 1) := by decide +kernel
theorem dX6_repair_8 : decode cX6_repair 8 = .ok (.invokevirtual 140, 3) := by decide +kernel
theorem dX6_repair_11 : decode cX6_repair 11 = .ok (.invokevirtual 110, 3) := by decide +kernel
theorem dX6_repair_14 : decode cX6_repair 14 = .ok (.ireturn, 1) := by decide +kernel
theorem dX6_doSetZone_0 : decode cX6_doSetZone 0 = .ok (.iload_n 1, 1) := by decide +kernel
theorem dX6_doSetZone_1 : decode cX6_doSetZone 1 = .ok (.invokestatic 120, 3) := by decide +kernel
theorem dX6_doSetZone_4 : decode cX6_doSetZone 4 = .ok (.ifCond .ne 9, 3) := by decide +kernel
theorem dX6_doSetZone_7 : decode cX6_doSetZone 7 = .ok (.aload_n 0, 1) := by decide +kernel
theorem dX6_doSetZone_8 : decode cX6_doSetZone 8 = .ok (.iconst 1, 1) := by decide +kernel
theorem dX6_doSetZone_9 : decode cX6_doSetZone 9 = .ok (.invokevirtual 100, 3) := by decide +kernel
theorem dX6_doSetZone_12 : decode cX6_doSetZone 12 = .ok (.ireturn, 1) := by decide +kernel
theorem dX6_doSetZone_13 : decode cX6_doSetZone 13 = .ok (.iload_n 2, 1) := by decide +kernel
theorem dX6_doSetZone_14 : decode cX6_doSetZone 14 = .ok (.iconst 1, 1) := by decide +kernel
theorem dX6_doSetZone_15 : decode cX6_doSetZone 15 = .ok (.bipush 6, 2) := by decide +kernel
theorem dX6_doSetZone_17 : decode cX6_doSetZone 17 = .ok (.invokestatic 51, 3) := by decide +kernel
theorem dX6_doSetZone_20 : decode cX6_doSetZone 20 = .ok (.ifCond .ne 9, 3) := by decide +kernel
theorem dX6_doSetZone_23 : decode cX6_doSetZone 23 = .ok (.aload_n 0, 1) := by decide +kernel
theorem dX6_doSetZone_24 : decode cX6_doSetZone 24 = .ok (.iconst 2, 1) := by decide +kernel
theorem dX6_doSetZone_25 : decode cX6_doSetZone 25 = .ok (.invokevirtual 100, 3) := by decide +kernel
theorem dX6_doSetZone_28 : decode cX6_doSetZone 28 = .ok (.ireturn, 1) := by decide +kernel
theorem dX6_doSetZone_29 : decode cX6_doSetZone 29 = .ok (.aload_n 0, 1) := by decide +kernel
theorem dX6_doSetZone_30 : decode cX6_doSetZone 30 = .ok (.getfield 9, 3) := by decide +kernel
theorem dX6_doSetZone_33 : decode cX6_doSetZone 33 = .ok (.bipush 9, 2) := by decide +kernel
theorem dX6_doSetZone_35 : decode cX6_doSetZone 35 = .ok (.iload_n 1, 1) := by decide +kernel
theorem dX6_doSetZone_36 : decode cX6_doSetZone 36 = .ok (.iadd, 1) := by decide +kernel
theorem dX6_doSetZone_37 : decode cX6_doSetZone 37 = .ok (.iaload, 1) := by decide +kernel
theorem dX6_doSetZone_38 : decode cX6_doSetZone 38 = .ok (.istore_n 3, 1) := by decide +kernel
theorem dX6_doSetZone_39 : decode cX6_doSetZone 39 = .ok (.aload_n 0, 1) := by decide +kernel
theorem dX6_doSetZone_40 : decode cX6_doSetZone 40 = .ok (.getfield 9, 3) := by decide +kernel
theorem dX6_doSetZone_43 : decode cX6_doSetZone 43 = .ok (.bipush 9, 2) := by decide +kernel
theorem dX6_doSetZone_45 : decode cX6_doSetZone 45 = .ok (.iload_n 1, 1) := by decide +kernel
theorem dX6_doSetZone_46 : decode cX6_doSetZone 46 = .ok (.iadd, 1) := by decide +kernel
theorem dX6_doSetZone_47 : decode cX6_doSetZone 47 = .ok (.iload_n 2, 1) := by decide +kernel
theorem dX6_doSetZone_48 : decode cX6_doSetZone 48 = .ok (.iastore, 1) := by decide +kernel
theorem dX6_doSetZone_49 : decode cX6_doSetZone 49 = .ok (.iload_n 3, 1) := by decide +kernel
theorem dX6_doSetZone_50 : decode cX6_doSetZone 50 = .ok (.ireturn, 1) := by decide +kernel
theorem dX6_setZone_0 : decode cX6_setZone 0 = .ok (.aload_n 0, 1) := by decide +kernel
theorem dX6_setZone_1 : decode cX6_setZone 1 = .ok (.invokevirtual 103, 3) := by decide +kernel
theorem dX6_setZone_4 : decode cX6_setZone 4 = .ok (.aload_n 0, 1) := by decide +kernel
theorem dX6_setZone_5 : decode cX6_setZone 5 = .ok (.aload_n 0, 1) := by decide +kernel
theorem dX6_setZone_6 : decode cX6_setZone 6 = .ok (.iload_n 1, 1) := by decide +kernel
theorem dX6_setZone_7 : decode cX6_setZone 7 = .ok (.iload_n 2, 1) := by decide +kernel
theorem dX6_setZone_8 : decode cX6_setZone 8 = .ok (.invokevirtual 143, 3) := by decide +kernel
theorem dX6_setZone_11 : decode cX6_setZone 11 = .ok (.invokevirtual 110, 3) := by decide +kernel
theorem dX6_setZone_14 : decode cX6_setZone 14 = .ok (.ireturn, 1) := by decide +kernel
theorem dX6_setFares_0 : decode cX6_setFares 0 = .ok (.aload_n 0, 1) := by decide +kernel
theorem dX6_setFares_1 : decode cX6_setFares 1 = .ok (.invokevirtual 103, 3) := by decide +kernel
theorem dX6_setFares_4 : decode cX6_setFares 4 = .ok (.aload_n 0, 1) := by decide +kernel
theorem dX6_setFares_5 : decode cX6_setFares 5 = .ok (.getfield 9, 3) := by decide +kernel
theorem dX6_setFares_8 : decode cX6_setFares 8 = .ok (.iconst 2, 1) := by decide +kernel
theorem dX6_setFares_9 : decode cX6_setFares 9 = .ok (.iaload, 1) := by decide +kernel
theorem dX6_setFares_10 : decode cX6_setFares 10 = .ok (.istore_n 3, 1) := by decide +kernel
theorem dX6_setFares_11 : decode cX6_setFares 11 = .ok (.iload_n 1, 1) := by decide +kernel
theorem dX6_setFares_12 : decode cX6_setFares 12 = .ok (.iconst 0, 1) := by decide +kernel
theorem dX6_setFares_13 : decode cX6_setFares 13 = .ok (.sipush 999, 3) := by decide +kernel
theorem dX6_setFares_16 : decode cX6_setFares 16 = .ok (.invokestatic 51, 3) := by decide +kernel
theorem dX6_setFares_19 : decode cX6_setFares 19 = .ok (.ifCond .eq 13, 3) := by decide +kernel
theorem dX6_setFares_22 : decode cX6_setFares 22 = .ok (.iload_n 2, 1) := by decide +kernel
theorem dX6_setFares_23 : decode cX6_setFares 23 = .ok (.iconst 0, 1) := by decide +kernel
theorem dX6_setFares_24 : decode cX6_setFares 24 = .ok (.bipush 99, 2) := by decide +kernel
theorem dX6_setFares_26 : decode cX6_setFares 26 = .ok (.invokestatic 51, 3) := by decide +kernel
theorem dX6_setFares_29 : decode cX6_setFares 29 = .ok (.ifCond .ne 13, 3) := by decide +kernel
theorem dX6_setFares_32 : decode cX6_setFares 32 = .ok (.aload_n 0, 1) := by decide +kernel
theorem dX6_setFares_33 : decode cX6_setFares 33 = .ok (.aload_n 0, 1) := by decide +kernel
theorem dX6_setFares_34 : decode cX6_setFares 34 = .ok (.iconst 1, 1) := by decide +kernel
theorem dX6_setFares_35 : decode cX6_setFares 35 = .ok (.invokevirtual 100, 3) := by decide +kernel
theorem dX6_setFares_38 : decode cX6_setFares 38 = .ok (.invokevirtual 110, 3) := by decide +kernel
theorem dX6_setFares_41 : decode cX6_setFares 41 = .ok (.ireturn, 1) := by decide +kernel
theorem dX6_setFares_42 : decode cX6_setFares 42 = .ok (.aload_n 0, 1) := by decide +kernel
theorem dX6_setFares_43 : decode cX6_setFares 43 = .ok (.getfield 9, 3) := by decide +kernel
theorem dX6_setFares_46 : decode cX6_setFares 46 = .ok (.iconst 2, 1) := by decide +kernel
theorem dX6_setFares_47 : decode cX6_setFares 47 = .ok (.iload_n 1, 1) := by decide +kernel
theorem dX6_setFares_48 : decode cX6_setFares 48 = .ok (.iastore, 1) := by decide +kernel
theorem dX6_setFares_49 : decode cX6_setFares 49 = .ok (.aload_n 0, 1) := by decide +kernel
theorem dX6_setFares_50 : decode cX6_setFares 50 = .ok (.getfield 9, 3) := by decide +kernel
theorem dX6_setFares_53 : decode cX6_setFares 53 = .ok (.iconst 3, 1) := by decide +kernel
theorem dX6_setFares_54 : decode cX6_setFares 54 = .ok (.iload_n 2, 1) := by decide +kernel
theorem dX6_setFares_55 : decode cX6_setFares 55 = .ok (.iastore, 1) := by decide +kernel
theorem dX6_setFares_56 : decode cX6_setFares 56 = .ok (.aload_n 0, 1) := by decide +kernel
theorem dX6_setFares_57 : decode cX6_setFares 57 = .ok (.iload_n 3, 1) := by decide +kernel
theorem dX6_setFares_58 : decode cX6_setFares 58 = .ok (.invokevirtual 110, 3) := by decide +kernel
theorem dX6_setFares_61 : decode cX6_setFares 61 = .ok (.ireturn, 1) := by decide +kernel
theorem dX6_doAdvance_0 : decode cX6_doAdvance 0 = .ok (.iload_n 1, 1) := by decide +kernel
theorem dX6_doAdvance_1 : decode cX6_doAdvance 1 = .ok (.iconst 1, 1) := by decide +kernel
theorem dX6_doAdvance_2 : decode cX6_doAdvance 2 = .ok (.sipush 2000, 3) := by decide +kernel
theorem dX6_doAdvance_5 : decode cX6_doAdvance 5 = .ok (.invokestatic 51, 3) := by decide +kernel
theorem dX6_doAdvance_8 : decode cX6_doAdvance 8 = .ok (.ifCond .ne 9, 3) := by decide +kernel
theorem dX6_doAdvance_11 : decode cX6_doAdvance 11 = .ok (.aload_n 0, 1) := by decide +kernel
theorem dX6_doAdvance_12 : decode cX6_doAdvance 12 = .ok (.iconst 1, 1) := by decide +kernel
theorem dX6_doAdvance_13 : decode cX6_doAdvance 13 = .ok (.invokevirtual 100, 3) := by decide +kernel
theorem dX6_doAdvance_16 : decode cX6_doAdvance 16 = .ok (.ireturn, 1) := by decide +kernel
theorem dX6_doAdvance_17 : decode cX6_doAdvance 17 = .ok (.iconst 0, 1) := by decide +kernel
theorem dX6_doAdvance_18 : decode cX6_doAdvance 18 = .ok (.istore_n 2, 1) := by decide +kernel
theorem dX6_doAdvance_19 : decode cX6_doAdvance 19 = .ok (.iconst 0, 1) := by decide +kernel
theorem dX6_doAdvance_20 : decode cX6_doAdvance 20 = .ok (.istore_n 3, 1) := by decide +kernel
theorem dX6_doAdvance_21 : decode cX6_doAdvance 21 = .ok (.iload_n 3, 1) := by decide +kernel
theorem dX6_doAdvance_22 : decode cX6_doAdvance 22 = .ok (.iload_n 1, 1) := by decide +kernel
theorem dX6_doAdvance_23 : decode cX6_doAdvance 23 = .ok (.if_icmp .ge 78, 3) := by decide +kernel
theorem dX6_doAdvance_26 : decode cX6_doAdvance 26 = .ok (.aload_n 0, 1) := by decide +kernel
theorem dX6_doAdvance_27 : decode cX6_doAdvance 27 = .ok (.getfield 9, 3) := by decide +kernel
theorem dX6_doAdvance_30 : decode cX6_doAdvance 30 = .ok (.iconst 1, 1) := by decide +kernel
theorem dX6_doAdvance_31 : decode cX6_doAdvance 31 = .ok (.dup2, 1) := by decide +kernel
theorem dX6_doAdvance_32 : decode cX6_doAdvance 32 = .ok (.iaload, 1) := by decide +kernel
theorem dX6_doAdvance_33 : decode cX6_doAdvance 33 = .ok (.iconst 1, 1) := by decide +kernel
theorem dX6_doAdvance_34 : decode cX6_doAdvance 34 = .ok (.iadd, 1) := by decide +kernel
theorem dX6_doAdvance_35 : decode cX6_doAdvance 35 = .ok (.iastore, 1) := by decide +kernel
theorem dX6_doAdvance_36 : decode cX6_doAdvance 36 = .ok (.iconst 0, 1) := by decide +kernel
theorem dX6_doAdvance_37 : decode cX6_doAdvance 37 = .ok (.istore 4, 2) := by decide +kernel
theorem dX6_doAdvance_39 : decode cX6_doAdvance 39 = .ok (.iload 4, 2) := by decide +kernel
theorem dX6_doAdvance_41 : decode cX6_doAdvance 41 = .ok (.aload_n 0, 1) := by decide +kernel
theorem dX6_doAdvance_42 : decode cX6_doAdvance 42 = .ok (.getfield 9, 3) := by decide +kernel
theorem dX6_doAdvance_45 : decode cX6_doAdvance 45 = .ok (.iconst 0, 1) := by decide +kernel
theorem dX6_doAdvance_46 : decode cX6_doAdvance 46 = .ok (.iaload, 1) := by decide +kernel
theorem dX6_doAdvance_47 : decode cX6_doAdvance 47 = .ok (.if_icmp .ge 48, 3) := by decide +kernel
theorem dX6_doAdvance_50 : decode cX6_doAdvance 50 = .ok (.aload_n 0, 1) := by decide +kernel
theorem dX6_doAdvance_51 : decode cX6_doAdvance 51 = .ok (.iload 4, 2) := by decide +kernel
theorem dX6_doAdvance_53 : decode cX6_doAdvance 53 = .ok (.iconst 2, 1) := by decide +kernel
theorem dX6_doAdvance_54 : decode cX6_doAdvance 54 = .ok (.invokevirtual 67, 3) := by decide +kernel
theorem dX6_doAdvance_57 : decode cX6_doAdvance 57 = .ok (.ifCond .lt 32, 3) := by decide +kernel
theorem dX6_doAdvance_60 : decode cX6_doAdvance 60 = .ok (.aload_n 0, 1) := by decide +kernel
theorem dX6_doAdvance_61 : decode cX6_doAdvance 61 = .ok (.getfield 9, 3) := by decide +kernel
theorem dX6_doAdvance_64 : decode cX6_doAdvance 64 = .ok (.iconst 1, 1) := by decide +kernel
theorem dX6_doAdvance_65 : decode cX6_doAdvance 65 = .ok (.iaload, 1) := by decide +kernel
theorem dX6_doAdvance_66 : decode cX6_doAdvance 66 = .ok (.aload_n 0, 1) := by decide +kernel
theorem dX6_doAdvance_67 : decode cX6_doAdvance 67 = .ok (.iload 4, 2) := by decide +kernel
theorem dX6_doAdvance_69 : decode cX6_doAdvance 69 = .ok (.iconst 3, 1) := by decide +kernel
theorem dX6_doAdvance_70 : decode cX6_doAdvance 70 = .ok (.invokevirtual 67, 3) := by decide +kernel
theorem dX6_doAdvance_73 : decode cX6_doAdvance 73 = .ok (.isub, 1) := by decide +kernel
theorem dX6_doAdvance_74 : decode cX6_doAdvance 74 = .ok (.sipush 180, 3) := by decide +kernel
theorem dX6_doAdvance_77 : decode cX6_doAdvance 77 = .ok (.if_icmp .ne 12, 3) := by decide +kernel
theorem dX6_doAdvance_80 : decode cX6_doAdvance 80 = .ok (.aload_n 0, 1) := by decide +kernel
theorem dX6_doAdvance_81 : decode cX6_doAdvance 81 = .ok (.iload 4, 2) := by decide +kernel
theorem dX6_doAdvance_83 : decode cX6_doAdvance 83 = .ok (.invokevirtual 127, 3) := by decide +kernel
theorem dX6_doAdvance_86 : decode cX6_doAdvance 86 = .ok (.iinc 2 1, 3) := by decide +kernel
theorem dX6_doAdvance_89 : decode cX6_doAdvance 89 = .ok (.iinc 4 1, 3) := by decide +kernel
theorem dX6_doAdvance_92 : decode cX6_doAdvance 92 = .ok (.goto (-53), 3) := by decide +kernel
theorem dX6_doAdvance_95 : decode cX6_doAdvance 95 = .ok (.iinc 3 1, 3) := by decide +kernel
theorem dX6_doAdvance_98 : decode cX6_doAdvance 98 = .ok (.goto (-77), 3) := by decide +kernel
theorem dX6_doAdvance_101 : decode cX6_doAdvance 101 = .ok (.iload_n 2, 1) := by decide +kernel
theorem dX6_doAdvance_102 : decode cX6_doAdvance 102 = .ok (.ireturn, 1) := by decide +kernel
theorem dX6_advance_0 : decode cX6_advance 0 = .ok (.aload_n 0, 1) := by decide +kernel
theorem dX6_advance_1 : decode cX6_advance 1 = .ok (.invokevirtual 103, 3) := by decide +kernel
theorem dX6_advance_4 : decode cX6_advance 4 = .ok (.aload_n 0, 1) := by decide +kernel
theorem dX6_advance_5 : decode cX6_advance 5 = .ok (.aload_n 0, 1) := by decide +kernel
theorem dX6_advance_6 : decode cX6_advance 6 = .ok (.iload_n 1, 1) := by decide +kernel
theorem dX6_advance_7 : decode cX6_advance 7 = .ok (.invokevirtual 146, 3) := by decide +kernel
theorem dX6_advance_10 : decode cX6_advance 10 = .ok (.invokevirtual 110, 3) := by decide +kernel
theorem dX6_advance_13 : decode cX6_advance 13 = .ok (.ireturn, 1) := by decide +kernel
theorem dX6_time_0 : decode cX6_time 0 = .ok (.aload_n 0, 1) := by decide +kernel
theorem dX6_time_1 : decode cX6_time 1 = .ok (.iconst 0, 1) := by decide +kernel
theorem dX6_time_2 : decode cX6_time 2 = .ok (.putfield 39, 3) := by decide +kernel
theorem dX6_time_5 : decode cX6_time 5 = .ok (.aload_n 0, 1) := by decide +kernel
theorem dX6_time_6 : decode cX6_time 6 = .ok (.getfield 9, 3) := by decide +kernel
theorem dX6_time_9 : decode cX6_time 9 = .ok (.iconst 1, 1) := by decide +kernel
theorem dX6_time_10 : decode cX6_time 10 = .ok (.iaload, 1) := by decide +kernel
theorem dX6_time_11 : decode cX6_time 11 = .ok (.ireturn, 1) := by decide +kernel
theorem dX6_day_0 : decode cX6_day 0 = .ok (.aload_n 0, 1) := by decide +kernel
theorem dX6_day_1 : decode cX6_day 1 = .ok (.iconst 0, 1) := by decide +kernel
theorem dX6_day_2 : decode cX6_day 2 = .ok (.putfield 39, 3) := by decide +kernel
theorem dX6_day_5 : decode cX6_day 5 = .ok (.aload_n 0, 1) := by decide +kernel
theorem dX6_day_6 : decode cX6_day 6 = .ok (.invokevirtual 81, 3) := by decide +kernel
theorem dX6_day_9 : decode cX6_day 9 = .ok (.ireturn, 1) := by decide +kernel
theorem dX6_zone_0 : decode cX6_zone 0 = .ok (.aload_n 0, 1) := by decide +kernel
theorem dX6_zone_1 : decode cX6_zone 1 = .ok (.iload_n 1, 1) := by decide +kernel
theorem dX6_zone_2 : decode cX6_zone 2 = .ok (.invokestatic 120, 3) := by decide +kernel
theorem dX6_zone_5 : decode cX6_zone 5 = .ok (.invokevirtual 149, 3) := by decide +kernel
theorem dX6_zone_8 : decode cX6_zone 8 = .ok (.ifCond .eq 15, 3) := by decide +kernel
theorem dX6_zone_11 : decode cX6_zone 11 = .ok (.aload_n 0, 1) := by decide +kernel
theorem dX6_zone_12 : decode cX6_zone 12 = .ok (.getfield 9, 3) := by decide +kernel
theorem dX6_zone_15 : decode cX6_zone 15 = .ok (.bipush 9, 2) := by decide +kernel
theorem dX6_zone_17 : decode cX6_zone 17 = .ok (.iload_n 1, 1) := by decide +kernel
theorem dX6_zone_18 : decode cX6_zone 18 = .ok (.iadd, 1) := by decide +kernel
theorem dX6_zone_19 : decode cX6_zone 19 = .ok (.iaload, 1) := by decide +kernel
theorem dX6_zone_20 : decode cX6_zone 20 = .ok (.goto 4, 3) := by decide +kernel
theorem dX6_zone_23 : decode cX6_zone 23 = .ok (.iconst 0, 1) := by decide +kernel
theorem dX6_zone_24 : decode cX6_zone 24 = .ok (.ireturn, 1) := by decide +kernel
theorem dX6_zoneCount_0 : decode cX6_zoneCount 0 = .ok (.aload_n 0, 1) := by decide +kernel
theorem dX6_zoneCount_1 : decode cX6_zoneCount 1 = .ok (.iload_n 1, 1) := by decide +kernel
theorem dX6_zoneCount_2 : decode cX6_zoneCount 2 = .ok (.invokestatic 120, 3) := by decide +kernel
theorem dX6_zoneCount_5 : decode cX6_zoneCount 5 = .ok (.ifCond .eq 14, 3) := by decide +kernel
theorem dX6_zoneCount_8 : decode cX6_zoneCount 8 = .ok (.iload_n 2, 1) := by decide +kernel
theorem dX6_zoneCount_9 : decode cX6_zoneCount 9 = .ok (.invokestatic 120, 3) := by decide +kernel
theorem dX6_zoneCount_12 : decode cX6_zoneCount 12 = .ok (.ifCond .eq 7, 3) := by decide +kernel
theorem dX6_zoneCount_15 : decode cX6_zoneCount 15 = .ok (.iconst 1, 1) := by decide +kernel
theorem dX6_zoneCount_16 : decode cX6_zoneCount 16 = .ok (.goto 4, 3) := by decide +kernel
theorem dX6_zoneCount_19 : decode cX6_zoneCount 19 = .ok (.iconst 0, 1) := by decide +kernel
theorem dX6_zoneCount_20 : decode cX6_zoneCount 20 = .ok (.invokevirtual 149, 3) := by decide +kernel
theorem dX6_zoneCount_23 : decode cX6_zoneCount 23 = .ok (.ifCond .eq 12, 3) := by decide +kernel
theorem dX6_zoneCount_26 : decode cX6_zoneCount 26 = .ok (.aload_n 0, 1) := by decide +kernel
theorem dX6_zoneCount_27 : decode cX6_zoneCount 27 = .ok (.iload_n 1, 1) := by decide +kernel
theorem dX6_zoneCount_28 : decode cX6_zoneCount 28 = .ok (.iload_n 2, 1) := by decide +kernel
theorem dX6_zoneCount_29 : decode cX6_zoneCount 29 = .ok (.invokevirtual 64, 3) := by decide +kernel
theorem dX6_zoneCount_32 : decode cX6_zoneCount 32 = .ok (.goto 4, 3) := by decide +kernel
theorem dX6_zoneCount_35 : decode cX6_zoneCount 35 = .ok (.iconst 0, 1) := by decide +kernel
theorem dX6_zoneCount_36 : decode cX6_zoneCount 36 = .ok (.ireturn, 1) := by decide +kernel
theorem dX6_zoneCountByComparing_0 : decode cX6_zoneCountByComparing 0 = .ok (.aload_n 0, 1) := by decide +kernel
theorem dX6_zoneCountByComparing_1 : decode cX6_zoneCountByComparing 1 = .ok (.iload_n 1, 1) := by decide +kernel
theorem dX6_zoneCountByComparing_2 : decode cX6_zoneCountByComparing 2 = .ok (.iload_n 2, 1) := by decide +kernel
theorem dX6_zoneCountByComparing_3 : decode cX6_zoneCountByComparing 3 = .ok (.invokevirtual 153, 3) := by decide +kernel
theorem dX6_zoneCountByComparing_6 : decode cX6_zoneCountByComparing 6 = .ok (.ireturn, 1) := by decide +kernel
theorem dX6_fare_0 : decode cX6_fare 0 = .ok (.aload_n 0, 1) := by decide +kernel
theorem dX6_fare_1 : decode cX6_fare 1 = .ok (.iload_n 1, 1) := by decide +kernel
theorem dX6_fare_2 : decode cX6_fare 2 = .ok (.invokestatic 120, 3) := by decide +kernel
theorem dX6_fare_5 : decode cX6_fare 5 = .ok (.ifCond .eq 14, 3) := by decide +kernel
theorem dX6_fare_8 : decode cX6_fare 8 = .ok (.iload_n 2, 1) := by decide +kernel
theorem dX6_fare_9 : decode cX6_fare 9 = .ok (.invokestatic 120, 3) := by decide +kernel
theorem dX6_fare_12 : decode cX6_fare 12 = .ok (.ifCond .eq 7, 3) := by decide +kernel
theorem dX6_fare_15 : decode cX6_fare 15 = .ok (.iconst 1, 1) := by decide +kernel
theorem dX6_fare_16 : decode cX6_fare 16 = .ok (.goto 4, 3) := by decide +kernel
theorem dX6_fare_19 : decode cX6_fare 19 = .ok (.iconst 0, 1) := by decide +kernel
theorem dX6_fare_20 : decode cX6_fare 20 = .ok (.invokevirtual 149, 3) := by decide +kernel
theorem dX6_fare_23 : decode cX6_fare 23 = .ok (.ifCond .eq 12, 3) := by decide +kernel
theorem dX6_fare_26 : decode cX6_fare 26 = .ok (.aload_n 0, 1) := by decide +kernel
theorem dX6_fare_27 : decode cX6_fare 27 = .ok (.iload_n 1, 1) := by decide +kernel
theorem dX6_fare_28 : decode cX6_fare 28 = .ok (.iload_n 2, 1) := by decide +kernel
theorem dX6_fare_29 : decode cX6_fare 29 = .ok (.invokevirtual 97, 3) := by decide +kernel
theorem dX6_fare_32 : decode cX6_fare 32 = .ok (.goto 4, 3) := by decide +kernel
theorem dX6_fare_35 : decode cX6_fare 35 = .ok (.iconst 0, 1) := by decide +kernel
theorem dX6_fare_36 : decode cX6_fare 36 = .ok (.ireturn, 1) := by decide +kernel
theorem dX6_baseFare_0 : decode cX6_baseFare 0 = .ok (.aload_n 0, 1) := by decide +kernel
theorem dX6_baseFare_1 : decode cX6_baseFare 1 = .ok (.iconst 0, 1) := by decide +kernel
theorem dX6_baseFare_2 : decode cX6_baseFare 2 = .ok (.putfield 39, 3) := by decide +kernel
theorem dX6_baseFare_5 : decode cX6_baseFare 5 = .ok (.aload_n 0, 1) := by decide +kernel
theorem dX6_baseFare_6 : decode cX6_baseFare 6 = .ok (.getfield 9, 3) := by decide +kernel
theorem dX6_baseFare_9 : decode cX6_baseFare 9 = .ok (.iconst 2, 1) := by decide +kernel
theorem dX6_baseFare_10 : decode cX6_baseFare 10 = .ok (.iaload, 1) := by decide +kernel
theorem dX6_baseFare_11 : decode cX6_baseFare 11 = .ok (.ireturn, 1) := by decide +kernel
theorem dX6_zoneFare_0 : decode cX6_zoneFare 0 = .ok (.aload_n 0, 1) := by decide +kernel
theorem dX6_zoneFare_1 : decode cX6_zoneFare 1 = .ok (.iconst 0, 1) := by decide +kernel
theorem dX6_zoneFare_2 : decode cX6_zoneFare 2 = .ok (.putfield 39, 3) := by decide +kernel
theorem dX6_zoneFare_5 : decode cX6_zoneFare 5 = .ok (.aload_n 0, 1) := by decide +kernel
theorem dX6_zoneFare_6 : decode cX6_zoneFare 6 = .ok (.getfield 9, 3) := by decide +kernel
theorem dX6_zoneFare_9 : decode cX6_zoneFare 9 = .ok (.iconst 3, 1) := by decide +kernel
theorem dX6_zoneFare_10 : decode cX6_zoneFare 10 = .ok (.iaload, 1) := by decide +kernel
theorem dX6_zoneFare_11 : decode cX6_zoneFare 11 = .ok (.ireturn, 1) := by decide +kernel
theorem dX6_defaultFare_0 : decode cX6_defaultFare 0 = .ok (.aload_n 0, 1) := by decide +kernel
theorem dX6_defaultFare_1 : decode cX6_defaultFare 1 = .ok (.iconst 0, 1) := by decide +kernel
theorem dX6_defaultFare_2 : decode cX6_defaultFare 2 = .ok (.putfield 39, 3) := by decide +kernel
theorem dX6_defaultFare_5 : decode cX6_defaultFare 5 = .ok (.aload_n 0, 1) := by decide +kernel
theorem dX6_defaultFare_6 : decode cX6_defaultFare 6 = .ok (.getfield 9, 3) := by decide +kernel
theorem dX6_defaultFare_9 : decode cX6_defaultFare 9 = .ok (.iconst 2, 1) := by decide +kernel
theorem dX6_defaultFare_10 : decode cX6_defaultFare 10 = .ok (.iaload, 1) := by decide +kernel
theorem dX6_defaultFare_11 : decode cX6_defaultFare 11 = .ok (.iconst 5, 1) := by decide +kernel
theorem dX6_defaultFare_12 : decode cX6_defaultFare 12 = .ok (.aload_n 0, 1) := by decide +kernel
theorem dX6_defaultFare_13 : decode cX6_defaultFare 13 = .ok (.getfield 9, 3) := by decide +kernel
theorem dX6_defaultFare_16 : decode cX6_defaultFare 16 = .ok (.iconst 3, 1) := by decide +kernel
theorem dX6_defaultFare_17 : decode cX6_defaultFare 17 = .ok (.iaload, 1) := by decide +kernel
theorem dX6_defaultFare_18 : decode cX6_defaultFare 18 = .ok (.imul, 1) := by decide +kernel
theorem dX6_defaultFare_19 : decode cX6_defaultFare 19 = .ok (.iadd, 1) := by decide +kernel
theorem dX6_defaultFare_20 : decode cX6_defaultFare 20 = .ok (.ireturn, 1) := by decide +kernel
theorem dX6_taps_0 : decode cX6_taps 0 = .ok (.aload_n 0, 1) := by decide +kernel
theorem dX6_taps_1 : decode cX6_taps 1 = .ok (.iload_n 1, 1) := by decide +kernel
theorem dX6_taps_2 : decode cX6_taps 2 = .ok (.invokestatic 120, 3) := by decide +kernel
theorem dX6_taps_5 : decode cX6_taps 5 = .ok (.invokevirtual 149, 3) := by decide +kernel
theorem dX6_taps_8 : decode cX6_taps 8 = .ok (.ifCond .eq 15, 3) := by decide +kernel
theorem dX6_taps_11 : decode cX6_taps 11 = .ok (.aload_n 0, 1) := by decide +kernel
theorem dX6_taps_12 : decode cX6_taps 12 = .ok (.getfield 9, 3) := by decide +kernel
theorem dX6_taps_15 : decode cX6_taps 15 = .ok (.bipush 21, 2) := by decide +kernel
theorem dX6_taps_17 : decode cX6_taps 17 = .ok (.iload_n 1, 1) := by decide +kernel
theorem dX6_taps_18 : decode cX6_taps 18 = .ok (.iadd, 1) := by decide +kernel
theorem dX6_taps_19 : decode cX6_taps 19 = .ok (.iaload, 1) := by decide +kernel
theorem dX6_taps_20 : decode cX6_taps 20 = .ok (.goto 4, 3) := by decide +kernel
theorem dX6_taps_23 : decode cX6_taps 23 = .ok (.iconst 0, 1) := by decide +kernel
theorem dX6_taps_24 : decode cX6_taps 24 = .ok (.ireturn, 1) := by decide +kernel
theorem dX6_stationByTaps_0 : decode cX6_stationByTaps 0 = .ok (.iconst 0, 1) := by decide +kernel
theorem dX6_stationByTaps_1 : decode cX6_stationByTaps 1 = .ok (.istore_n 2, 1) := by decide +kernel
theorem dX6_stationByTaps_2 : decode cX6_stationByTaps 2 = .ok (.aload_n 0, 1) := by decide +kernel
theorem dX6_stationByTaps_3 : decode cX6_stationByTaps 3 = .ok (.iload_n 1, 1) := by decide +kernel
theorem dX6_stationByTaps_4 : decode cX6_stationByTaps 4 = .ok (.invokestatic 120, 3) := by decide +kernel
theorem dX6_stationByTaps_7 : decode cX6_stationByTaps 7 = .ok (.invokevirtual 149, 3) := by decide +kernel
theorem dX6_stationByTaps_10 : decode cX6_stationByTaps 10 = .ok (.istore_n 3, 1) := by decide +kernel
theorem dX6_stationByTaps_11 : decode cX6_stationByTaps 11 = .ok (.iconst 0, 1) := by decide +kernel
theorem dX6_stationByTaps_12 : decode cX6_stationByTaps 12 = .ok (.istore 4, 2) := by decide +kernel
theorem dX6_stationByTaps_14 : decode cX6_stationByTaps 14 = .ok (.iload 4, 2) := by decide +kernel
theorem dX6_stationByTaps_16 : decode cX6_stationByTaps 16 = .ok (.bipush 12, 2) := by decide +kernel
theorem dX6_stationByTaps_18 : decode cX6_stationByTaps 18 = .ok (.if_icmp .ge 95, 3) := by decide +kernel
theorem dX6_stationByTaps_21 : decode cX6_stationByTaps 21 = .ok (.iload_n 3, 1) := by decide +kernel
theorem dX6_stationByTaps_22 : decode cX6_stationByTaps 22 = .ok (.ifCond .eq 91, 3) := by decide +kernel
theorem dX6_stationByTaps_25 : decode cX6_stationByTaps 25 = .ok (.iconst 0, 1) := by decide +kernel
theorem dX6_stationByTaps_26 : decode cX6_stationByTaps 26 = .ok (.istore 5, 2) := by decide +kernel
theorem dX6_stationByTaps_28 : decode cX6_stationByTaps 28 = .ok (.iconst 0, 1) := by decide +kernel
theorem dX6_stationByTaps_29 : decode cX6_stationByTaps 29 = .ok (.istore 6, 2) := by decide +kernel
theorem dX6_stationByTaps_31 : decode cX6_stationByTaps 31 = .ok (.iload 6, 2) := by decide +kernel
theorem dX6_stationByTaps_33 : decode cX6_stationByTaps 33 = .ok (.bipush 12, 2) := by decide +kernel
theorem dX6_stationByTaps_35 : decode cX6_stationByTaps 35 = .ok (.if_icmp .ge 59, 3) := by decide +kernel
theorem dX6_stationByTaps_38 : decode cX6_stationByTaps 38 = .ok (.aload_n 0, 1) := by decide +kernel
theorem dX6_stationByTaps_39 : decode cX6_stationByTaps 39 = .ok (.getfield 9, 3) := by decide +kernel
theorem dX6_stationByTaps_42 : decode cX6_stationByTaps 42 = .ok (.bipush 21, 2) := by decide +kernel
theorem dX6_stationByTaps_44 : decode cX6_stationByTaps 44 = .ok (.iload 6, 2) := by decide +kernel
theorem dX6_stationByTaps_46 : decode cX6_stationByTaps 46 = .ok (.iadd, 1) := by decide +kernel
theorem dX6_stationByTaps_47 : decode cX6_stationByTaps 47 = .ok (.iaload, 1) := by decide +kernel
theorem dX6_stationByTaps_48 : decode cX6_stationByTaps 48 = .ok (.aload_n 0, 1) := by decide +kernel
theorem dX6_stationByTaps_49 : decode cX6_stationByTaps 49 = .ok (.getfield 9, 3) := by decide +kernel
theorem dX6_stationByTaps_52 : decode cX6_stationByTaps 52 = .ok (.bipush 21, 2) := by decide +kernel
theorem dX6_stationByTaps_54 : decode cX6_stationByTaps 54 = .ok (.iload 4, 2) := by decide +kernel
theorem dX6_stationByTaps_56 : decode cX6_stationByTaps 56 = .ok (.iadd, 1) := by decide +kernel
theorem dX6_stationByTaps_57 : decode cX6_stationByTaps 57 = .ok (.iaload, 1) := by decide +kernel
theorem dX6_stationByTaps_58 : decode cX6_stationByTaps 58 = .ok (.isub, 1) := by decide +kernel
theorem dX6_stationByTaps_59 : decode cX6_stationByTaps 59 = .ok (.istore 7, 2) := by decide +kernel
theorem dX6_stationByTaps_61 : decode cX6_stationByTaps 61 = .ok (.iload 5, 2) := by decide +kernel
theorem dX6_stationByTaps_63 : decode cX6_stationByTaps 63 = .ok (.iload 7, 2) := by decide +kernel
theorem dX6_stationByTaps_65 : decode cX6_stationByTaps 65 = .ok (.ifCond .gt 15, 3) := by decide +kernel
theorem dX6_stationByTaps_68 : decode cX6_stationByTaps 68 = .ok (.iload 7, 2) := by decide +kernel
theorem dX6_stationByTaps_70 : decode cX6_stationByTaps 70 = .ok (.ifCond .ne 14, 3) := by decide +kernel
theorem dX6_stationByTaps_73 : decode cX6_stationByTaps 73 = .ok (.iload 6, 2) := by decide +kernel
theorem dX6_stationByTaps_75 : decode cX6_stationByTaps 75 = .ok (.iload 4, 2) := by decide +kernel
theorem dX6_stationByTaps_77 : decode cX6_stationByTaps 77 = .ok (.if_icmp .ge 7, 3) := by decide +kernel
theorem dX6_stationByTaps_80 : decode cX6_stationByTaps 80 = .ok (.iconst 1, 1) := by decide +kernel
theorem dX6_stationByTaps_81 : decode cX6_stationByTaps 81 = .ok (.goto 4, 3) := by decide +kernel
theorem dX6_stationByTaps_84 : decode cX6_stationByTaps 84 = .ok (.iconst 0, 1) := by decide +kernel
theorem dX6_stationByTaps_85 : decode cX6_stationByTaps 85 = .ok (.iadd, 1) := by decide +kernel
theorem dX6_stationByTaps_86 : decode cX6_stationByTaps 86 = .ok (.istore 5, 2) := by decide +kernel
theorem dX6_stationByTaps_88 : decode cX6_stationByTaps 88 = .ok (.iinc 6 1, 3) := by decide +kernel
theorem dX6_stationByTaps_91 : decode cX6_stationByTaps 91 = .ok (.goto (-60), 3) := by decide +kernel
theorem dX6_stationByTaps_94 : decode cX6_stationByTaps 94 = .ok (.iload 5, 2) := by decide +kernel
theorem dX6_stationByTaps_96 : decode cX6_stationByTaps 96 = .ok (.iload_n 1, 1) := by decide +kernel
theorem dX6_stationByTaps_97 : decode cX6_stationByTaps 97 = .ok (.if_icmp .ne 8, 3) := by decide +kernel
theorem dX6_stationByTaps_100 : decode cX6_stationByTaps 100 = .ok (.iload 4, 2) := by decide +kernel
theorem dX6_stationByTaps_102 : decode cX6_stationByTaps 102 = .ok (.goto 4, 3) := by decide +kernel
theorem dX6_stationByTaps_105 : decode cX6_stationByTaps 105 = .ok (.iload_n 2, 1) := by decide +kernel
theorem dX6_stationByTaps_106 : decode cX6_stationByTaps 106 = .ok (.istore_n 2, 1) := by decide +kernel
theorem dX6_stationByTaps_107 : decode cX6_stationByTaps 107 = .ok (.iinc 4 1, 3) := by decide +kernel
theorem dX6_stationByTaps_110 : decode cX6_stationByTaps 110 = .ok (.goto (-96), 3) := by decide +kernel
theorem dX6_stationByTaps_113 : decode cX6_stationByTaps 113 = .ok (.iload_n 2, 1) := by decide +kernel
theorem dX6_stationByTaps_114 : decode cX6_stationByTaps 114 = .ok (.ireturn, 1) := by decide +kernel
theorem dX6_cardCount_0 : decode cX6_cardCount 0 = .ok (.aload_n 0, 1) := by decide +kernel
theorem dX6_cardCount_1 : decode cX6_cardCount 1 = .ok (.iconst 0, 1) := by decide +kernel
theorem dX6_cardCount_2 : decode cX6_cardCount 2 = .ok (.putfield 39, 3) := by decide +kernel
theorem dX6_cardCount_5 : decode cX6_cardCount 5 = .ok (.aload_n 0, 1) := by decide +kernel
theorem dX6_cardCount_6 : decode cX6_cardCount 6 = .ok (.getfield 9, 3) := by decide +kernel
theorem dX6_cardCount_9 : decode cX6_cardCount 9 = .ok (.iconst 0, 1) := by decide +kernel
theorem dX6_cardCount_10 : decode cX6_cardCount 10 = .ok (.iaload, 1) := by decide +kernel
theorem dX6_cardCount_11 : decode cX6_cardCount 11 = .ok (.ireturn, 1) := by decide +kernel
theorem dX6_isReduced_0 : decode cX6_isReduced 0 = .ok (.aload_n 0, 1) := by decide +kernel
theorem dX6_isReduced_1 : decode cX6_isReduced 1 = .ok (.aload_n 0, 1) := by decide +kernel
theorem dX6_isReduced_2 : decode cX6_isReduced 2 = .ok (.iload_n 1, 1) := by decide +kernel
theorem dX6_isReduced_3 : decode cX6_isReduced 3 = .ok (.invokevirtual 113, 3) := by decide +kernel
theorem dX6_isReduced_6 : decode cX6_isReduced 6 = .ok (.invokevirtual 149, 3) := by decide +kernel
theorem dX6_isReduced_9 : decode cX6_isReduced 9 = .ok (.ifCond .eq 17, 3) := by decide +kernel
theorem dX6_isReduced_12 : decode cX6_isReduced 12 = .ok (.aload_n 0, 1) := by decide +kernel
theorem dX6_isReduced_13 : decode cX6_isReduced 13 = .ok (.iload_n 1, 1) := by decide +kernel
theorem dX6_isReduced_14 : decode cX6_isReduced 14 = .ok (.iconst 0, 1) := by decide +kernel
theorem dX6_isReduced_15 : decode cX6_isReduced 15 = .ok (.invokevirtual 67, 3) := by decide +kernel
theorem dX6_isReduced_18 : decode cX6_isReduced 18 = .ok (.iconst 1, 1) := by decide +kernel
theorem dX6_isReduced_19 : decode cX6_isReduced 19 = .ok (.if_icmp .ne 7, 3) := by decide +kernel
theorem dX6_isReduced_22 : decode cX6_isReduced 22 = .ok (.iconst 1, 1) := by decide +kernel
theorem dX6_isReduced_23 : decode cX6_isReduced 23 = .ok (.goto 4, 3) := by decide +kernel
theorem dX6_isReduced_26 : decode cX6_isReduced 26 = .ok (.iconst 0, 1) := by decide +kernel
theorem dX6_isReduced_27 : decode cX6_isReduced 27 = .ok (.ireturn, 1) := by decide +kernel
theorem dX6_balance_0 : decode cX6_balance 0 = .ok (.aload_n 0, 1) := by decide +kernel
theorem dX6_balance_1 : decode cX6_balance 1 = .ok (.aload_n 0, 1) := by decide +kernel
theorem dX6_balance_2 : decode cX6_balance 2 = .ok (.iload_n 1, 1) := by decide +kernel
theorem dX6_balance_3 : decode cX6_balance 3 = .ok (.invokevirtual 113, 3) := by decide +kernel
theorem dX6_balance_6 : decode cX6_balance 6 = .ok (.invokevirtual 149, 3) := by decide +kernel
theorem dX6_balance_9 : decode cX6_balance 9 = .ok (.ifCond .eq 12, 3) := by decide +kernel
theorem dX6_balance_12 : decode cX6_balance 12 = .ok (.aload_n 0, 1) := by decide +kernel
theorem dX6_balance_13 : decode cX6_balance 13 = .ok (.iload_n 1, 1) := by decide +kernel
theorem dX6_balance_14 : decode cX6_balance 14 = .ok (.iconst 1, 1) := by decide +kernel
theorem dX6_balance_15 : decode cX6_balance 15 = .ok (.invokevirtual 67, 3) := by decide +kernel
theorem dX6_balance_18 : decode cX6_balance 18 = .ok (.goto 4, 3) := by decide +kernel
theorem dX6_balance_21 : decode cX6_balance 21 = .ok (.iconst 0, 1) := by decide +kernel
theorem dX6_balance_22 : decode cX6_balance 22 = .ok (.ireturn, 1) := by decide +kernel
theorem dX6_isOnTrip_0 : decode cX6_isOnTrip 0 = .ok (.aload_n 0, 1) := by decide +kernel
theorem dX6_isOnTrip_1 : decode cX6_isOnTrip 1 = .ok (.aload_n 0, 1) := by decide +kernel
theorem dX6_isOnTrip_2 : decode cX6_isOnTrip 2 = .ok (.iload_n 1, 1) := by decide +kernel
theorem dX6_isOnTrip_3 : decode cX6_isOnTrip 3 = .ok (.invokevirtual 113, 3) := by decide +kernel
theorem dX6_isOnTrip_6 : decode cX6_isOnTrip 6 = .ok (.invokevirtual 149, 3) := by decide +kernel
theorem dX6_isOnTrip_9 : decode cX6_isOnTrip 9 = .ok (.ifCond .eq 16, 3) := by decide +kernel
theorem dX6_isOnTrip_12 : decode cX6_isOnTrip 12 = .ok (.aload_n 0, 1) := by decide +kernel
theorem dX6_isOnTrip_13 : decode cX6_isOnTrip 13 = .ok (.iload_n 1, 1) := by decide +kernel
theorem dX6_isOnTrip_14 : decode cX6_isOnTrip 14 = .ok (.iconst 2, 1) := by decide +kernel
theorem dX6_isOnTrip_15 : decode cX6_isOnTrip 15 = .ok (.invokevirtual 67, 3) := by decide +kernel
theorem dX6_isOnTrip_18 : decode cX6_isOnTrip 18 = .ok (.ifCond .lt 7, 3) := by decide +kernel
theorem dX6_isOnTrip_21 : decode cX6_isOnTrip 21 = .ok (.iconst 1, 1) := by decide +kernel
theorem dX6_isOnTrip_22 : decode cX6_isOnTrip 22 = .ok (.goto 4, 3) := by decide +kernel
theorem dX6_isOnTrip_25 : decode cX6_isOnTrip 25 = .ok (.iconst 0, 1) := by decide +kernel
theorem dX6_isOnTrip_26 : decode cX6_isOnTrip 26 = .ok (.ireturn, 1) := by decide +kernel
theorem dX6_isGoing_0 : decode cX6_isGoing 0 = .ok (.aload_n 0, 1) := by decide +kernel
theorem dX6_isGoing_1 : decode cX6_isGoing 1 = .ok (.aload_n 0, 1) := by decide +kernel
theorem dX6_isGoing_2 : decode cX6_isGoing 2 = .ok (.iload_n 1, 1) := by decide +kernel
theorem dX6_isGoing_3 : decode cX6_isGoing 3 = .ok (.invokevirtual 113, 3) := by decide +kernel
theorem dX6_isGoing_6 : decode cX6_isGoing 6 = .ok (.ifCond .ne 7, 3) := by decide +kernel
theorem dX6_isGoing_9 : decode cX6_isGoing 9 = .ok (.iconst 1, 1) := by decide +kernel
theorem dX6_isGoing_10 : decode cX6_isGoing 10 = .ok (.goto 17, 3) := by decide +kernel
theorem dX6_isGoing_13 : decode cX6_isGoing 13 = .ok (.aload_n 0, 1) := by decide +kernel
theorem dX6_isGoing_14 : decode cX6_isGoing 14 = .ok (.iload_n 1, 1) := by decide +kernel
theorem dX6_isGoing_15 : decode cX6_isGoing 15 = .ok (.iconst 2, 1) := by decide +kernel
theorem dX6_isGoing_16 : decode cX6_isGoing 16 = .ok (.invokevirtual 67, 3) := by decide +kernel
theorem dX6_isGoing_19 : decode cX6_isGoing 19 = .ok (.ifCond .ge 7, 3) := by decide +kernel
theorem dX6_isGoing_22 : decode cX6_isGoing 22 = .ok (.iconst 2, 1) := by decide +kernel
theorem dX6_isGoing_23 : decode cX6_isGoing 23 = .ok (.goto 4, 3) := by decide +kernel
theorem dX6_isGoing_26 : decode cX6_isGoing 26 = .ok (.iconst 0, 1) := by decide +kernel
theorem dX6_isGoing_27 : decode cX6_isGoing 27 = .ok (.putfield 39, 3) := by decide +kernel
theorem dX6_isGoing_30 : decode cX6_isGoing 30 = .ok (.aload_n 0, 1) := by decide +kernel
theorem dX6_isGoing_31 : decode cX6_isGoing 31 = .ok (.getfield 39, 3) := by decide +kernel
theorem dX6_isGoing_34 : decode cX6_isGoing 34 = .ok (.ifCond .ne 7, 3) := by decide +kernel
theorem dX6_isGoing_37 : decode cX6_isGoing 37 = .ok (.iconst 1, 1) := by decide +kernel
theorem dX6_isGoing_38 : decode cX6_isGoing 38 = .ok (.goto 4, 3) := by decide +kernel
theorem dX6_isGoing_41 : decode cX6_isGoing 41 = .ok (.iconst 0, 1) := by decide +kernel
theorem dX6_isGoing_42 : decode cX6_isGoing 42 = .ok (.ireturn, 1) := by decide +kernel
theorem dX6_tripStart_0 : decode cX6_tripStart 0 = .ok (.aload_n 0, 1) := by decide +kernel
theorem dX6_tripStart_1 : decode cX6_tripStart 1 = .ok (.iload_n 1, 1) := by decide +kernel
theorem dX6_tripStart_2 : decode cX6_tripStart 2 = .ok (.invokevirtual 156, 3) := by decide +kernel
theorem dX6_tripStart_5 : decode cX6_tripStart 5 = .ok (.ifCond .eq 12, 3) := by decide +kernel
theorem dX6_tripStart_8 : decode cX6_tripStart 8 = .ok (.aload_n 0, 1) := by decide +kernel
theorem dX6_tripStart_9 : decode cX6_tripStart 9 = .ok (.iload_n 1, 1) := by decide +kernel
theorem dX6_tripStart_10 : decode cX6_tripStart 10 = .ok (.iconst 2, 1) := by decide +kernel
theorem dX6_tripStart_11 : decode cX6_tripStart 11 = .ok (.invokevirtual 67, 3) := by decide +kernel
theorem dX6_tripStart_14 : decode cX6_tripStart 14 = .ok (.goto 4, 3) := by decide +kernel
theorem dX6_tripStart_17 : decode cX6_tripStart 17 = .ok (.iconst 0, 1) := by decide +kernel
theorem dX6_tripStart_18 : decode cX6_tripStart 18 = .ok (.ireturn, 1) := by decide +kernel
theorem dX6_journeyStart_0 : decode cX6_journeyStart 0 = .ok (.aload_n 0, 1) := by decide +kernel
theorem dX6_journeyStart_1 : decode cX6_journeyStart 1 = .ok (.iload_n 1, 1) := by decide +kernel
theorem dX6_journeyStart_2 : decode cX6_journeyStart 2 = .ok (.invokevirtual 156, 3) := by decide +kernel
theorem dX6_journeyStart_5 : decode cX6_journeyStart 5 = .ok (.ifCond .eq 12, 3) := by decide +kernel
theorem dX6_journeyStart_8 : decode cX6_journeyStart 8 = .ok (.aload_n 0, 1) := by decide +kernel
theorem dX6_journeyStart_9 : decode cX6_journeyStart 9 = .ok (.iload_n 1, 1) := by decide +kernel
theorem dX6_journeyStart_10 : decode cX6_journeyStart 10 = .ok (.iconst 4, 1) := by decide +kernel
theorem dX6_journeyStart_11 : decode cX6_journeyStart 11 = .ok (.invokevirtual 67, 3) := by decide +kernel
theorem dX6_journeyStart_14 : decode cX6_journeyStart 14 = .ok (.goto 4, 3) := by decide +kernel
theorem dX6_journeyStart_17 : decode cX6_journeyStart 17 = .ok (.iconst 0, 1) := by decide +kernel
theorem dX6_journeyStart_18 : decode cX6_journeyStart 18 = .ok (.ireturn, 1) := by decide +kernel
theorem dX6_minutesLeft_0 : decode cX6_minutesLeft 0 = .ok (.aload_n 0, 1) := by decide +kernel
theorem dX6_minutesLeft_1 : decode cX6_minutesLeft 1 = .ok (.iload_n 1, 1) := by decide +kernel
theorem dX6_minutesLeft_2 : decode cX6_minutesLeft 2 = .ok (.invokevirtual 156, 3) := by decide +kernel
theorem dX6_minutesLeft_5 : decode cX6_minutesLeft 5 = .ok (.ifCond .eq 23, 3) := by decide +kernel
theorem dX6_minutesLeft_8 : decode cX6_minutesLeft 8 = .ok (.aload_n 0, 1) := by decide +kernel
theorem dX6_minutesLeft_9 : decode cX6_minutesLeft 9 = .ok (.iload_n 1, 1) := by decide +kernel
theorem dX6_minutesLeft_10 : decode cX6_minutesLeft 10 = .ok (.iconst 3, 1) := by decide +kernel
theorem dX6_minutesLeft_11 : decode cX6_minutesLeft 11 = .ok (.invokevirtual 67, 3) := by decide +kernel
theorem dX6_minutesLeft_14 : decode cX6_minutesLeft 14 = .ok (.sipush 180, 3) := by decide +kernel
theorem dX6_minutesLeft_17 : decode cX6_minutesLeft 17 = .ok (.iadd, 1) := by decide +kernel
theorem dX6_minutesLeft_18 : decode cX6_minutesLeft 18 = .ok (.aload_n 0, 1) := by decide +kernel
theorem dX6_minutesLeft_19 : decode cX6_minutesLeft 19 = .ok (.getfield 9, 3) := by decide +kernel
theorem dX6_minutesLeft_22 : decode cX6_minutesLeft 22 = .ok (.iconst 1, 1) := by decide +kernel
theorem dX6_minutesLeft_23 : decode cX6_minutesLeft 23 = .ok (.iaload, 1) := by decide +kernel
theorem dX6_minutesLeft_24 : decode cX6_minutesLeft 24 = .ok (.isub, 1) := by decide +kernel
theorem dX6_minutesLeft_25 : decode cX6_minutesLeft 25 = .ok (.goto 4, 3) := by decide +kernel
theorem dX6_minutesLeft_28 : decode cX6_minutesLeft 28 = .ok (.iconst 0, 1) := by decide +kernel
theorem dX6_minutesLeft_29 : decode cX6_minutesLeft 29 = .ok (.ireturn, 1) := by decide +kernel
theorem dX6_wouldContinue_0 : decode cX6_wouldContinue 0 = .ok (.aload_n 0, 1) := by decide +kernel
theorem dX6_wouldContinue_1 : decode cX6_wouldContinue 1 = .ok (.aload_n 0, 1) := by decide +kernel
theorem dX6_wouldContinue_2 : decode cX6_wouldContinue 2 = .ok (.iload_n 1, 1) := by decide +kernel
theorem dX6_wouldContinue_3 : decode cX6_wouldContinue 3 = .ok (.invokevirtual 113, 3) := by decide +kernel
theorem dX6_wouldContinue_6 : decode cX6_wouldContinue 6 = .ok (.ifCond .eq 14, 3) := by decide +kernel
theorem dX6_wouldContinue_9 : decode cX6_wouldContinue 9 = .ok (.iload_n 2, 1) := by decide +kernel
theorem dX6_wouldContinue_10 : decode cX6_wouldContinue 10 = .ok (.invokestatic 120, 3) := by decide +kernel
theorem dX6_wouldContinue_13 : decode cX6_wouldContinue 13 = .ok (.ifCond .eq 7, 3) := by decide +kernel
theorem dX6_wouldContinue_16 : decode cX6_wouldContinue 16 = .ok (.iconst 1, 1) := by decide +kernel
theorem dX6_wouldContinue_17 : decode cX6_wouldContinue 17 = .ok (.goto 4, 3) := by decide +kernel
theorem dX6_wouldContinue_20 : decode cX6_wouldContinue 20 = .ok (.iconst 0, 1) := by decide +kernel
theorem dX6_wouldContinue_21 : decode cX6_wouldContinue 21 = .ok (.invokevirtual 149, 3) := by decide +kernel
theorem dX6_wouldContinue_24 : decode cX6_wouldContinue 24 = .ok (.ifCond .eq 16, 3) := by decide +kernel
theorem dX6_wouldContinue_27 : decode cX6_wouldContinue 27 = .ok (.aload_n 0, 1) := by decide +kernel
theorem dX6_wouldContinue_28 : decode cX6_wouldContinue 28 = .ok (.iload_n 1, 1) := by decide +kernel
theorem dX6_wouldContinue_29 : decode cX6_wouldContinue 29 = .ok (.iload_n 2, 1) := by decide +kernel
theorem dX6_wouldContinue_30 : decode cX6_wouldContinue 30 = .ok (.invokevirtual 123, 3) := by decide +kernel
theorem dX6_wouldContinue_33 : decode cX6_wouldContinue 33 = .ok (.ifCond .eq 7, 3) := by decide +kernel
theorem dX6_wouldContinue_36 : decode cX6_wouldContinue 36 = .ok (.iconst 1, 1) := by decide +kernel
theorem dX6_wouldContinue_37 : decode cX6_wouldContinue 37 = .ok (.goto 4, 3) := by decide +kernel
theorem dX6_wouldContinue_40 : decode cX6_wouldContinue 40 = .ok (.iconst 0, 1) := by decide +kernel
theorem dX6_wouldContinue_41 : decode cX6_wouldContinue 41 = .ok (.ireturn, 1) := by decide +kernel
theorem dX6_chargeIfTappedOut_0 : decode cX6_chargeIfTappedOut 0 = .ok (.aload_n 0, 1) := by decide +kernel
theorem dX6_chargeIfTappedOut_1 : decode cX6_chargeIfTappedOut 1 = .ok (.iload_n 1, 1) := by decide +kernel
theorem dX6_chargeIfTappedOut_2 : decode cX6_chargeIfTappedOut 2 = .ok (.invokevirtual 113, 3) := by decide +kernel
theorem dX6_chargeIfTappedOut_5 : decode cX6_chargeIfTappedOut 5 = .ok (.ifCond .eq 10, 3) := by decide +kernel
theorem dX6_chargeIfTappedOut_8 : decode cX6_chargeIfTappedOut 8 = .ok (.iload_n 2, 1) := by decide +kernel
theorem dX6_chargeIfTappedOut_9 : decode cX6_chargeIfTappedOut 9 = .ok (.invokestatic 120, 3) := by decide +kernel
theorem dX6_chargeIfTappedOut_12 : decode cX6_chargeIfTappedOut 12 = .ok (.ifCond .ne 9, 3) := by decide +kernel
theorem dX6_chargeIfTappedOut_15 : decode cX6_chargeIfTappedOut 15 = .ok (.aload_n 0, 1) := by decide +kernel
theorem dX6_chargeIfTappedOut_16 : decode cX6_chargeIfTappedOut 16 = .ok (.iconst 1, 1) := by decide +kernel
theorem dX6_chargeIfTappedOut_17 : decode cX6_chargeIfTappedOut 17 = .ok (.invokevirtual 100, 3) := by decide +kernel
theorem dX6_chargeIfTappedOut_20 : decode cX6_chargeIfTappedOut 20 = .ok (.ireturn, 1) := by decide +kernel
theorem dX6_chargeIfTappedOut_21 : decode cX6_chargeIfTappedOut 21 = .ok (.aload_n 0, 1) := by decide +kernel
theorem dX6_chargeIfTappedOut_22 : decode cX6_chargeIfTappedOut 22 = .ok (.iload_n 1, 1) := by decide +kernel
theorem dX6_chargeIfTappedOut_23 : decode cX6_chargeIfTappedOut 23 = .ok (.invokevirtual 156, 3) := by decide +kernel
theorem dX6_chargeIfTappedOut_26 : decode cX6_chargeIfTappedOut 26 = .ok (.ifCond .eq 20, 3) := by decide +kernel
theorem dX6_chargeIfTappedOut_29 : decode cX6_chargeIfTappedOut 29 = .ok (.aload_n 0, 1) := by decide +kernel
theorem dX6_chargeIfTappedOut_30 : decode cX6_chargeIfTappedOut 30 = .ok (.iload_n 1, 1) := by decide +kernel
theorem dX6_chargeIfTappedOut_31 : decode cX6_chargeIfTappedOut 31 = .ok (.iload_n 2, 1) := by decide +kernel
theorem dX6_chargeIfTappedOut_32 : decode cX6_chargeIfTappedOut 32 = .ok (.invokevirtual 134, 3) := by decide +kernel
theorem dX6_chargeIfTappedOut_35 : decode cX6_chargeIfTappedOut 35 = .ok (.aload_n 0, 1) := by decide +kernel
theorem dX6_chargeIfTappedOut_36 : decode cX6_chargeIfTappedOut 36 = .ok (.iload_n 1, 1) := by decide +kernel
theorem dX6_chargeIfTappedOut_37 : decode cX6_chargeIfTappedOut 37 = .ok (.invokevirtual 85, 3) := by decide +kernel
theorem dX6_chargeIfTappedOut_40 : decode cX6_chargeIfTappedOut 40 = .ok (.invokestatic 55, 3) := by decide +kernel
theorem dX6_chargeIfTappedOut_43 : decode cX6_chargeIfTappedOut 43 = .ok (.goto 4, 3) := by decide +kernel
theorem dX6_chargeIfTappedOut_46 : decode cX6_chargeIfTappedOut 46 = .ok (.iconst 0, 1) := by decide +kernel
theorem dX6_chargeIfTappedOut_47 : decode cX6_chargeIfTappedOut 47 = .ok (.ireturn, 1) := by decide +kernel
theorem dX6_chargedOn_0 : decode cX6_chargedOn 0 = .ok (.aload_n 0, 1) := by decide +kernel
theorem dX6_chargedOn_1 : decode cX6_chargedOn 1 = .ok (.aload_n 0, 1) := by decide +kernel
theorem dX6_chargedOn_2 : decode cX6_chargedOn 2 = .ok (.iload_n 1, 1) := by decide +kernel
theorem dX6_chargedOn_3 : decode cX6_chargedOn 3 = .ok (.invokevirtual 113, 3) := by decide +kernel
theorem dX6_chargedOn_6 : decode cX6_chargedOn 6 = .ok (.ifCond .ne 7, 3) := by decide +kernel
theorem dX6_chargedOn_9 : decode cX6_chargedOn 9 = .ok (.iconst 1, 1) := by decide +kernel
theorem dX6_chargedOn_10 : decode cX6_chargedOn 10 = .ok (.goto 26, 3) := by decide +kernel
theorem dX6_chargedOn_13 : decode cX6_chargedOn 13 = .ok (.iload_n 2, 1) := by decide +kernel
theorem dX6_chargedOn_14 : decode cX6_chargedOn 14 = .ok (.ifCond .lt 17, 3) := by decide +kernel
theorem dX6_chargedOn_17 : decode cX6_chargedOn 17 = .ok (.aload_n 0, 1) := by decide +kernel
theorem dX6_chargedOn_18 : decode cX6_chargedOn 18 = .ok (.invokevirtual 81, 3) := by decide +kernel
theorem dX6_chargedOn_21 : decode cX6_chargedOn 21 = .ok (.iload_n 2, 1) := by decide +kernel
theorem dX6_chargedOn_22 : decode cX6_chargedOn 22 = .ok (.isub, 1) := by decide +kernel
theorem dX6_chargedOn_23 : decode cX6_chargedOn 23 = .ok (.iconst 0, 1) := by decide +kernel
theorem dX6_chargedOn_24 : decode cX6_chargedOn 24 = .ok (.iconst 2, 1) := by decide +kernel
theorem dX6_chargedOn_25 : decode cX6_chargedOn 25 = .ok (.invokestatic 51, 3) := by decide +kernel
theorem dX6_chargedOn_28 : decode cX6_chargedOn 28 = .ok (.ifCond .ne 7, 3) := by decide +kernel
theorem dX6_chargedOn_31 : decode cX6_chargedOn 31 = .ok (.iconst 2, 1) := by decide +kernel
theorem dX6_chargedOn_32 : decode cX6_chargedOn 32 = .ok (.goto 4, 3) := by decide +kernel
theorem dX6_chargedOn_35 : decode cX6_chargedOn 35 = .ok (.iconst 0, 1) := by decide +kernel
theorem dX6_chargedOn_36 : decode cX6_chargedOn 36 = .ok (.putfield 39, 3) := by decide +kernel
theorem dX6_chargedOn_39 : decode cX6_chargedOn 39 = .ok (.aload_n 0, 1) := by decide +kernel
theorem dX6_chargedOn_40 : decode cX6_chargedOn 40 = .ok (.getfield 39, 3) := by decide +kernel
theorem dX6_chargedOn_43 : decode cX6_chargedOn 43 = .ok (.ifCond .le 7, 3) := by decide +kernel
theorem dX6_chargedOn_46 : decode cX6_chargedOn 46 = .ok (.iconst 0, 1) := by decide +kernel
theorem dX6_chargedOn_47 : decode cX6_chargedOn 47 = .ok (.goto 9, 3) := by decide +kernel
theorem dX6_chargedOn_50 : decode cX6_chargedOn 50 = .ok (.aload_n 0, 1) := by decide +kernel
theorem dX6_chargedOn_51 : decode cX6_chargedOn 51 = .ok (.iload_n 1, 1) := by decide +kernel
theorem dX6_chargedOn_52 : decode cX6_chargedOn 52 = .ok (.iload_n 2, 1) := by decide +kernel
theorem dX6_chargedOn_53 : decode cX6_chargedOn 53 = .ok (.invokevirtual 70, 3) := by decide +kernel
theorem dX6_chargedOn_56 : decode cX6_chargedOn 56 = .ok (.ireturn, 1) := by decide +kernel
theorem dX6_chargedOnByRecords_0 : decode cX6_chargedOnByRecords 0 = .ok (.aload_n 0, 1) := by decide +kernel
theorem dX6_chargedOnByRecords_1 : decode cX6_chargedOnByRecords 1 = .ok (.iload_n 1, 1) := by decide +kernel
theorem dX6_chargedOnByRecords_2 : decode cX6_chargedOnByRecords 2 = .ok (.iload_n 2, 1) := by decide +kernel
theorem dX6_chargedOnByRecords_3 : decode cX6_chargedOnByRecords 3 = .ok (.invokevirtual 159, 3) := by decide +kernel
theorem dX6_chargedOnByRecords_6 : decode cX6_chargedOnByRecords 6 = .ok (.ireturn, 1) := by decide +kernel
theorem dX6_leftUnderCap_0 : decode cX6_leftUnderCap 0 = .ok (.aload_n 0, 1) := by decide +kernel
theorem dX6_leftUnderCap_1 : decode cX6_leftUnderCap 1 = .ok (.aload_n 0, 1) := by decide +kernel
theorem dX6_leftUnderCap_2 : decode cX6_leftUnderCap 2 = .ok (.iload_n 1, 1) := by decide +kernel
theorem dX6_leftUnderCap_3 : decode cX6_leftUnderCap 3 = .ok (.invokevirtual 113, 3) := by decide +kernel
theorem dX6_leftUnderCap_6 : decode cX6_leftUnderCap 6 = .ok (.invokevirtual 149, 3) := by decide +kernel
theorem dX6_leftUnderCap_9 : decode cX6_leftUnderCap 9 = .ok (.ifCond .eq 11, 3) := by decide +kernel
theorem dX6_leftUnderCap_12 : decode cX6_leftUnderCap 12 = .ok (.aload_n 0, 1) := by decide +kernel
theorem dX6_leftUnderCap_13 : decode cX6_leftUnderCap 13 = .ok (.iload_n 1, 1) := by decide +kernel
theorem dX6_leftUnderCap_14 : decode cX6_leftUnderCap 14 = .ok (.invokevirtual 85, 3) := by decide +kernel
theorem dX6_leftUnderCap_17 : decode cX6_leftUnderCap 17 = .ok (.goto 4, 3) := by decide +kernel
theorem dX6_leftUnderCap_20 : decode cX6_leftUnderCap 20 = .ok (.iconst 0, 1) := by decide +kernel
theorem dX6_leftUnderCap_21 : decode cX6_leftUnderCap 21 = .ok (.ireturn, 1) := by decide +kernel
theorem dX6_isRepairable_0 : decode cX6_isRepairable 0 = .ok (.aload_n 0, 1) := by decide +kernel
theorem dX6_isRepairable_1 : decode cX6_isRepairable 1 = .ok (.aload_n 0, 1) := by decide +kernel
theorem dX6_isRepairable_2 : decode cX6_isRepairable 2 = .ok (.iload_n 1, 1) := by decide +kernel
theorem dX6_isRepairable_3 : decode cX6_isRepairable 3 = .ok (.invokevirtual 113, 3) := by decide +kernel
theorem dX6_isRepairable_6 : decode cX6_isRepairable 6 = .ok (.invokevirtual 149, 3) := by decide +kernel
theorem dX6_isRepairable_9 : decode cX6_isRepairable 9 = .ok (.ifCond .eq 33, 3) := by decide +kernel
theorem dX6_isRepairable_12 : decode cX6_isRepairable 12 = .ok (.aload_n 0, 1) := by decide +kernel
theorem dX6_isRepairable_13 : decode cX6_isRepairable 13 = .ok (.iload_n 1, 1) := by decide +kernel
theorem dX6_isRepairable_14 : decode cX6_isRepairable 14 = .ok (.bipush 8, 2) := by decide +kernel
theorem dX6_isRepairable_16 : decode cX6_isRepairable 16 = .ok (.invokevirtual 67, 3) := by decide +kernel
theorem dX6_isRepairable_19 : decode cX6_isRepairable 19 = .ok (.ifCond .lt 23, 3) := by decide +kernel
theorem dX6_isRepairable_22 : decode cX6_isRepairable 22 = .ok (.aload_n 0, 1) := by decide +kernel
theorem dX6_isRepairable_23 : decode cX6_isRepairable 23 = .ok (.invokevirtual 81, 3) := by decide +kernel
theorem dX6_isRepairable_26 : decode cX6_isRepairable 26 = .ok (.aload_n 0, 1) := by decide +kernel
theorem dX6_isRepairable_27 : decode cX6_isRepairable 27 = .ok (.iload_n 1, 1) := by decide +kernel
theorem dX6_isRepairable_28 : decode cX6_isRepairable 28 = .ok (.bipush 9, 2) := by decide +kernel
theorem dX6_isRepairable_30 : decode cX6_isRepairable 30 = .ok (.invokevirtual 67, 3) := by decide +kernel
theorem dX6_isRepairable_33 : decode cX6_isRepairable 33 = .ok (.isub, 1) := by decide +kernel
theorem dX6_isRepairable_34 : decode cX6_isRepairable 34 = .ok (.iconst 2, 1) := by decide +kernel
theorem dX6_isRepairable_35 : decode cX6_isRepairable 35 = .ok (.if_icmp .gt 7, 3) := by decide +kernel
theorem dX6_isRepairable_38 : decode cX6_isRepairable 38 = .ok (.iconst 1, 1) := by decide +kernel
theorem dX6_isRepairable_39 : decode cX6_isRepairable 39 = .ok (.goto 4, 3) := by decide +kernel
theorem dX6_isRepairable_42 : decode cX6_isRepairable 42 = .ok (.iconst 0, 1) := by decide +kernel
theorem dX6_isRepairable_43 : decode cX6_isRepairable 43 = .ok (.ireturn, 1) := by decide +kernel
theorem dX6_cardBySpending_0 : decode cX6_cardBySpending 0 = .ok (.iconst 0, 1) := by decide +kernel
theorem dX6_cardBySpending_1 : decode cX6_cardBySpending 1 = .ok (.istore_n 2, 1) := by decide +kernel
theorem dX6_cardBySpending_2 : decode cX6_cardBySpending 2 = .ok (.aload_n 0, 1) := by decide +kernel
theorem dX6_cardBySpending_3 : decode cX6_cardBySpending 3 = .ok (.aload_n 0, 1) := by decide +kernel
theorem dX6_cardBySpending_4 : decode cX6_cardBySpending 4 = .ok (.iload_n 1, 1) := by decide +kernel
theorem dX6_cardBySpending_5 : decode cX6_cardBySpending 5 = .ok (.invokevirtual 113, 3) := by decide +kernel
theorem dX6_cardBySpending_8 : decode cX6_cardBySpending 8 = .ok (.invokevirtual 149, 3) := by decide +kernel
theorem dX6_cardBySpending_11 : decode cX6_cardBySpending 11 = .ok (.istore_n 3, 1) := by decide +kernel
theorem dX6_cardBySpending_12 : decode cX6_cardBySpending 12 = .ok (.iconst 0, 1) := by decide +kernel
theorem dX6_cardBySpending_13 : decode cX6_cardBySpending 13 = .ok (.istore 4, 2) := by decide +kernel
theorem dX6_cardBySpending_15 : decode cX6_cardBySpending 15 = .ok (.iload 4, 2) := by decide +kernel
theorem dX6_cardBySpending_17 : decode cX6_cardBySpending 17 = .ok (.aload_n 0, 1) := by decide +kernel
theorem dX6_cardBySpending_18 : decode cX6_cardBySpending 18 = .ok (.getfield 9, 3) := by decide +kernel
theorem dX6_cardBySpending_21 : decode cX6_cardBySpending 21 = .ok (.iconst 0, 1) := by decide +kernel
theorem dX6_cardBySpending_22 : decode cX6_cardBySpending 22 = .ok (.iaload, 1) := by decide +kernel
theorem dX6_cardBySpending_23 : decode cX6_cardBySpending 23 = .ok (.if_icmp .ge 126, 3) := by decide +kernel
theorem dX6_cardBySpending_26 : decode cX6_cardBySpending 26 = .ok (.iload_n 3, 1) := by decide +kernel
theorem dX6_cardBySpending_27 : decode cX6_cardBySpending 27 = .ok (.ifCond .eq 122, 3) := by decide +kernel
theorem dX6_cardBySpending_30 : decode cX6_cardBySpending 30 = .ok (.iconst 0, 1) := by decide +kernel
theorem dX6_cardBySpending_31 : decode cX6_cardBySpending 31 = .ok (.istore 5, 2) := by decide +kernel
theorem dX6_cardBySpending_33 : decode cX6_cardBySpending 33 = .ok (.iconst 0, 1) := by decide +kernel
theorem dX6_cardBySpending_34 : decode cX6_cardBySpending 34 = .ok (.istore 6, 2) := by decide +kernel
theorem dX6_cardBySpending_36 : decode cX6_cardBySpending 36 = .ok (.iload 6, 2) := by decide +kernel
theorem dX6_cardBySpending_38 : decode cX6_cardBySpending 38 = .ok (.aload_n 0, 1) := by decide +kernel
theorem dX6_cardBySpending_39 : decode cX6_cardBySpending 39 = .ok (.getfield 9, 3) := by decide +kernel
theorem dX6_cardBySpending_42 : decode cX6_cardBySpending 42 = .ok (.iconst 0, 1) := by decide +kernel
theorem dX6_cardBySpending_43 : decode cX6_cardBySpending 43 = .ok (.iaload, 1) := by decide +kernel
theorem dX6_cardBySpending_44 : decode cX6_cardBySpending 44 = .ok (.if_icmp .ge 86, 3) := by decide +kernel
theorem dX6_cardBySpending_47 : decode cX6_cardBySpending 47 = .ok (.aload_n 0, 1) := by decide +kernel
theorem dX6_cardBySpending_48 : decode cX6_cardBySpending 48 = .ok (.iload 6, 2) := by decide +kernel
theorem dX6_cardBySpending_50 : decode cX6_cardBySpending 50 = .ok (.aload_n 0, 1) := by decide +kernel
theorem dX6_cardBySpending_51 : decode cX6_cardBySpending 51 = .ok (.invokevirtual 81, 3) := by decide +kernel
theorem dX6_cardBySpending_54 : decode cX6_cardBySpending 54 = .ok (.invokevirtual 70, 3) := by decide +kernel
theorem dX6_cardBySpending_57 : decode cX6_cardBySpending 57 = .ok (.aload_n 0, 1) := by decide +kernel
theorem dX6_cardBySpending_58 : decode cX6_cardBySpending 58 = .ok (.iload 4, 2) := by decide +kernel
theorem dX6_cardBySpending_60 : decode cX6_cardBySpending 60 = .ok (.aload_n 0, 1) := by decide +kernel
theorem dX6_cardBySpending_61 : decode cX6_cardBySpending 61 = .ok (.invokevirtual 81, 3) := by decide +kernel
theorem dX6_cardBySpending_64 : decode cX6_cardBySpending 64 = .ok (.invokevirtual 70, 3) := by decide +kernel
theorem dX6_cardBySpending_67 : decode cX6_cardBySpending 67 = .ok (.isub, 1) := by decide +kernel
theorem dX6_cardBySpending_68 : decode cX6_cardBySpending 68 = .ok (.istore 7, 2) := by decide +kernel
theorem dX6_cardBySpending_70 : decode cX6_cardBySpending 70 = .ok (.aload_n 0, 1) := by decide +kernel
theorem dX6_cardBySpending_71 : decode cX6_cardBySpending 71 = .ok (.iload 4, 2) := by decide +kernel
theorem dX6_cardBySpending_73 : decode cX6_cardBySpending 73 = .ok (.iconst 1, 1) := by decide +kernel
theorem dX6_cardBySpending_74 : decode cX6_cardBySpending 74 = .ok (.invokevirtual 67, 3) := by decide +kernel
theorem dX6_cardBySpending_77 : decode cX6_cardBySpending 77 = .ok (.aload_n 0, 1) := by decide +kernel
theorem dX6_cardBySpending_78 : decode cX6_cardBySpending 78 = .ok (.iload 6, 2) := by decide +kernel
theorem dX6_cardBySpending_80 : decode cX6_cardBySpending 80 = .ok (.iconst 1, 1) := by decide +kernel
theorem dX6_cardBySpending_81 : decode cX6_cardBySpending 81 = .ok (.invokevirtual 67, 3) := by decide +kernel
theorem dX6_cardBySpending_84 : decode cX6_cardBySpending 84 = .ok (.isub, 1) := by decide +kernel
theorem dX6_cardBySpending_85 : decode cX6_cardBySpending 85 = .ok (.istore 8, 2) := by decide +kernel
theorem dX6_cardBySpending_87 : decode cX6_cardBySpending 87 = .ok (.iload 5, 2) := by decide +kernel
theorem dX6_cardBySpending_89 : decode cX6_cardBySpending 89 = .ok (.iload 7, 2) := by decide +kernel
theorem dX6_cardBySpending_91 : decode cX6_cardBySpending 91 = .ok (.ifCond .gt 25, 3) := by decide +kernel
theorem dX6_cardBySpending_94 : decode cX6_cardBySpending 94 = .ok (.iload 7, 2) := by decide +kernel
theorem dX6_cardBySpending_96 : decode cX6_cardBySpending 96 = .ok (.ifCond .ne 24, 3) := by decide +kernel
theorem dX6_cardBySpending_99 : decode cX6_cardBySpending 99 = .ok (.iload 8, 2) := by decide +kernel
theorem dX6_cardBySpending_101 : decode cX6_cardBySpending 101 = .ok (.ifCond .gt 15, 3) := by decide +kernel
theorem dX6_cardBySpending_104 : decode cX6_cardBySpending 104 = .ok (.iload 8, 2) := by decide +kernel
theorem dX6_cardBySpending_106 : decode cX6_cardBySpending 106 = .ok (.ifCond .ne 14, 3) := by decide +kernel
theorem dX6_cardBySpending_109 : decode cX6_cardBySpending 109 = .ok (.iload 6, 2) := by decide +kernel
theorem dX6_cardBySpending_111 : decode cX6_cardBySpending 111 = .ok (.iload 4, 2) := by decide +kernel
theorem dX6_cardBySpending_113 : decode cX6_cardBySpending 113 = .ok (.if_icmp .ge 7, 3) := by decide +kernel
theorem dX6_cardBySpending_116 : decode cX6_cardBySpending 116 = .ok (.iconst 1, 1) := by decide +kernel
theorem dX6_cardBySpending_117 : decode cX6_cardBySpending 117 = .ok (.goto 4, 3) := by decide +kernel
theorem dX6_cardBySpending_120 : decode cX6_cardBySpending 120 = .ok (.iconst 0, 1) := by decide +kernel
theorem dX6_cardBySpending_121 : decode cX6_cardBySpending 121 = .ok (.iadd, 1) := by decide +kernel
theorem dX6_cardBySpending_122 : decode cX6_cardBySpending 122 = .ok (.istore 5, 2) := by decide +kernel
theorem dX6_cardBySpending_124 : decode cX6_cardBySpending 124 = .ok (.iinc 6 1, 3) := by decide +kernel
theorem dX6_cardBySpending_127 : decode cX6_cardBySpending 127 = .ok (.goto (-91), 3) := by decide +kernel
theorem dX6_cardBySpending_130 : decode cX6_cardBySpending 130 = .ok (.iload 5, 2) := by decide +kernel
theorem dX6_cardBySpending_132 : decode cX6_cardBySpending 132 = .ok (.iload_n 1, 1) := by decide +kernel
theorem dX6_cardBySpending_133 : decode cX6_cardBySpending 133 = .ok (.if_icmp .ne 8, 3) := by decide +kernel
theorem dX6_cardBySpending_136 : decode cX6_cardBySpending 136 = .ok (.iload 4, 2) := by decide +kernel
theorem dX6_cardBySpending_138 : decode cX6_cardBySpending 138 = .ok (.goto 4, 3) := by decide +kernel
theorem dX6_cardBySpending_141 : decode cX6_cardBySpending 141 = .ok (.iload_n 2, 1) := by decide +kernel
theorem dX6_cardBySpending_142 : decode cX6_cardBySpending 142 = .ok (.istore_n 2, 1) := by decide +kernel
theorem dX6_cardBySpending_143 : decode cX6_cardBySpending 143 = .ok (.iinc 4 1, 3) := by decide +kernel
theorem dX6_cardBySpending_146 : decode cX6_cardBySpending 146 = .ok (.goto (-131), 3) := by decide +kernel
theorem dX6_cardBySpending_149 : decode cX6_cardBySpending 149 = .ok (.iload_n 2, 1) := by decide +kernel
theorem dX6_cardBySpending_150 : decode cX6_cardBySpending 150 = .ok (.ireturn, 1) := by decide +kernel
theorem dX6_loadedTotal_0 : decode cX6_loadedTotal 0 = .ok (.aload_n 0, 1) := by decide +kernel
theorem dX6_loadedTotal_1 : decode cX6_loadedTotal 1 = .ok (.iconst 0, 1) := by decide +kernel
theorem dX6_loadedTotal_2 : decode cX6_loadedTotal 2 = .ok (.putfield 39, 3) := by decide +kernel
theorem dX6_loadedTotal_5 : decode cX6_loadedTotal 5 = .ok (.aload_n 0, 1) := by decide +kernel
theorem dX6_loadedTotal_6 : decode cX6_loadedTotal 6 = .ok (.getfield 9, 3) := by decide +kernel
theorem dX6_loadedTotal_9 : decode cX6_loadedTotal 9 = .ok (.iconst 4, 1) := by decide +kernel
theorem dX6_loadedTotal_10 : decode cX6_loadedTotal 10 = .ok (.iaload, 1) := by decide +kernel
theorem dX6_loadedTotal_11 : decode cX6_loadedTotal 11 = .ok (.ireturn, 1) := by decide +kernel
theorem dX6_chargedTotal_0 : decode cX6_chargedTotal 0 = .ok (.aload_n 0, 1) := by decide +kernel
theorem dX6_chargedTotal_1 : decode cX6_chargedTotal 1 = .ok (.iconst 0, 1) := by decide +kernel
theorem dX6_chargedTotal_2 : decode cX6_chargedTotal 2 = .ok (.putfield 39, 3) := by decide +kernel
theorem dX6_chargedTotal_5 : decode cX6_chargedTotal 5 = .ok (.aload_n 0, 1) := by decide +kernel
theorem dX6_chargedTotal_6 : decode cX6_chargedTotal 6 = .ok (.getfield 9, 3) := by decide +kernel
theorem dX6_chargedTotal_9 : decode cX6_chargedTotal 9 = .ok (.iconst 5, 1) := by decide +kernel
theorem dX6_chargedTotal_10 : decode cX6_chargedTotal 10 = .ok (.iaload, 1) := by decide +kernel
theorem dX6_chargedTotal_11 : decode cX6_chargedTotal 11 = .ok (.ireturn, 1) := by decide +kernel
theorem dX6_paidBackTotal_0 : decode cX6_paidBackTotal 0 = .ok (.aload_n 0, 1) := by decide +kernel
theorem dX6_paidBackTotal_1 : decode cX6_paidBackTotal 1 = .ok (.iconst 0, 1) := by decide +kernel
theorem dX6_paidBackTotal_2 : decode cX6_paidBackTotal 2 = .ok (.putfield 39, 3) := by decide +kernel
theorem dX6_paidBackTotal_5 : decode cX6_paidBackTotal 5 = .ok (.aload_n 0, 1) := by decide +kernel
theorem dX6_paidBackTotal_6 : decode cX6_paidBackTotal 6 = .ok (.getfield 9, 3) := by decide +kernel
theorem dX6_paidBackTotal_9 : decode cX6_paidBackTotal 9 = .ok (.bipush 6, 2) := by decide +kernel
theorem dX6_paidBackTotal_11 : decode cX6_paidBackTotal 11 = .ok (.iaload, 1) := by decide +kernel
theorem dX6_paidBackTotal_12 : decode cX6_paidBackTotal 12 = .ok (.ireturn, 1) := by decide +kernel
theorem dX6_completeTrips_0 : decode cX6_completeTrips 0 = .ok (.aload_n 0, 1) := by decide +kernel
theorem dX6_completeTrips_1 : decode cX6_completeTrips 1 = .ok (.iconst 0, 1) := by decide +kernel
theorem dX6_completeTrips_2 : decode cX6_completeTrips 2 = .ok (.putfield 39, 3) := by decide +kernel
theorem dX6_completeTrips_5 : decode cX6_completeTrips 5 = .ok (.aload_n 0, 1) := by decide +kernel
theorem dX6_completeTrips_6 : decode cX6_completeTrips 6 = .ok (.getfield 9, 3) := by decide +kernel
theorem dX6_completeTrips_9 : decode cX6_completeTrips 9 = .ok (.bipush 7, 2) := by decide +kernel
theorem dX6_completeTrips_11 : decode cX6_completeTrips 11 = .ok (.iaload, 1) := by decide +kernel
theorem dX6_completeTrips_12 : decode cX6_completeTrips 12 = .ok (.ireturn, 1) := by decide +kernel
theorem dX6_incompleteTrips_0 : decode cX6_incompleteTrips 0 = .ok (.aload_n 0, 1) := by decide +kernel
theorem dX6_incompleteTrips_1 : decode cX6_incompleteTrips 1 = .ok (.iconst 0, 1) := by decide +kernel
theorem dX6_incompleteTrips_2 : decode cX6_incompleteTrips 2 = .ok (.putfield 39, 3) := by decide +kernel
theorem dX6_incompleteTrips_5 : decode cX6_incompleteTrips 5 = .ok (.aload_n 0, 1) := by decide +kernel
theorem dX6_incompleteTrips_6 : decode cX6_incompleteTrips 6 = .ok (.getfield 9, 3) := by decide +kernel
theorem dX6_incompleteTrips_9 : decode cX6_incompleteTrips 9 = .ok (.bipush 8, 2) := by decide +kernel
theorem dX6_incompleteTrips_11 : decode cX6_incompleteTrips 11 = .ok (.iaload, 1) := by decide +kernel
theorem dX6_incompleteTrips_12 : decode cX6_incompleteTrips 12 = .ok (.ireturn, 1) := by decide +kernel
theorem dX6_meanCharge_0 : decode cX6_meanCharge 0 = .ok (.aload_n 0, 1) := by decide +kernel
theorem dX6_meanCharge_1 : decode cX6_meanCharge 1 = .ok (.getfield 9, 3) := by decide +kernel
theorem dX6_meanCharge_4 : decode cX6_meanCharge 4 = .ok (.bipush 7, 2) := by decide +kernel
theorem dX6_meanCharge_6 : decode cX6_meanCharge 6 = .ok (.iaload, 1) := by decide +kernel
theorem dX6_meanCharge_7 : decode cX6_meanCharge 7 = .ok (.aload_n 0, 1) := by decide +kernel
theorem dX6_meanCharge_8 : decode cX6_meanCharge 8 = .ok (.getfield 9, 3) := by decide +kernel
theorem dX6_meanCharge_11 : decode cX6_meanCharge 11 = .ok (.bipush 8, 2) := by decide +kernel
theorem dX6_meanCharge_13 : decode cX6_meanCharge 13 = .ok (.iaload, 1) := by decide +kernel
theorem dX6_meanCharge_14 : decode cX6_meanCharge 14 = .ok (.iadd, 1) := by decide +kernel
theorem dX6_meanCharge_15 : decode cX6_meanCharge 15 = .ok (.istore_n 1, 1) := by decide +kernel
theorem dX6_meanCharge_16 : decode cX6_meanCharge 16 = .ok (.aload_n 0, 1) := by decide +kernel
theorem dX6_meanCharge_17 : decode cX6_meanCharge 17 = .ok (.iload_n 1, 1) := by decide +kernel
theorem dX6_meanCharge_18 : decode cX6_meanCharge 18 = .ok (.ifCond .le 7, 3) := by decide +kernel
theorem dX6_meanCharge_21 : decode cX6_meanCharge 21 = .ok (.iconst 1, 1) := by decide +kernel
theorem dX6_meanCharge_22 : decode cX6_meanCharge 22 = .ok (.goto 4, 3) := by decide +kernel
theorem dX6_meanCharge_25 : decode cX6_meanCharge 25 = .ok (.iconst 0, 1) := by decide +kernel
theorem dX6_meanCharge_26 : decode cX6_meanCharge 26 = .ok (.invokevirtual 149, 3) := by decide +kernel
theorem dX6_meanCharge_29 : decode cX6_meanCharge 29 = .ok (.ifCond .eq 16, 3) := by decide +kernel
theorem dX6_meanCharge_32 : decode cX6_meanCharge 32 = .ok (.aload_n 0, 1) := by decide +kernel
theorem dX6_meanCharge_33 : decode cX6_meanCharge 33 = .ok (.getfield 9, 3) := by decide +kernel
theorem dX6_meanCharge_36 : decode cX6_meanCharge 36 = .ok (.iconst 5, 1) := by decide +kernel
theorem dX6_meanCharge_37 : decode cX6_meanCharge 37 = .ok (.iaload, 1) := by decide +kernel
theorem dX6_meanCharge_38 : decode cX6_meanCharge 38 = .ok (.i2d, 1) := by decide +kernel
theorem dX6_meanCharge_39 : decode cX6_meanCharge 39 = .ok (.iload_n 1, 1) := by decide +kernel
theorem dX6_meanCharge_40 : decode cX6_meanCharge 40 = .ok (.i2d, 1) := by decide +kernel
theorem dX6_meanCharge_41 : decode cX6_meanCharge 41 = .ok (.ddiv, 1) := by decide +kernel
theorem dX6_meanCharge_42 : decode cX6_meanCharge 42 = .ok (.goto 4, 3) := by decide +kernel
theorem dX6_meanCharge_45 : decode cX6_meanCharge 45 = .ok (.dconst 0, 1) := by decide +kernel
theorem dX6_meanCharge_46 : decode cX6_meanCharge 46 = .ok (.dreturn, 1) := by decide +kernel
theorem dX6_meanChargeBits_0 : decode cX6_meanChargeBits 0 = .ok (.aload_n 0, 1) := by decide +kernel
theorem dX6_meanChargeBits_1 : decode cX6_meanChargeBits 1 = .ok (.invokevirtual 162, 3) := by decide +kernel
theorem dX6_meanChargeBits_4 : decode cX6_meanChargeBits 4 = .ok (.dstore_n 1, 1) := by decide +kernel
theorem dX6_meanChargeBits_5 : decode cX6_meanChargeBits 5 = .ok (.aload_n 0, 1) := by decide +kernel
theorem dX6_meanChargeBits_6 : decode cX6_meanChargeBits 6 = .ok (.getfield 39, 3) := by decide +kernel
theorem dX6_meanChargeBits_9 : decode cX6_meanChargeBits 9 = .ok (.ifCond .le 7, 3) := by decide +kernel
theorem dX6_meanChargeBits_12 : decode cX6_meanChargeBits 12 = .ok (.lconst 0, 1) := by decide +kernel
theorem dX6_meanChargeBits_13 : decode cX6_meanChargeBits 13 = .ok (.goto 7, 3) := by decide +kernel
theorem dX6_meanChargeBits_16 : decode cX6_meanChargeBits 16 = .ok (.dload_n 1, 1) := by decide +kernel
theorem dX6_meanChargeBits_17 : decode cX6_meanChargeBits 17 = .ok (.invokestatic 166, 3) := by decide +kernel
theorem dX6_meanChargeBits_20 : decode cX6_meanChargeBits 20 = .ok (.lreturn, 1) := by decide +kernel
theorem dX6_incompleteShare_0 : decode cX6_incompleteShare 0 = .ok (.aload_n 0, 1) := by decide +kernel
theorem dX6_incompleteShare_1 : decode cX6_incompleteShare 1 = .ok (.getfield 9, 3) := by decide +kernel
theorem dX6_incompleteShare_4 : decode cX6_incompleteShare 4 = .ok (.bipush 7, 2) := by decide +kernel
theorem dX6_incompleteShare_6 : decode cX6_incompleteShare 6 = .ok (.iaload, 1) := by decide +kernel
theorem dX6_incompleteShare_7 : decode cX6_incompleteShare 7 = .ok (.aload_n 0, 1) := by decide +kernel
theorem dX6_incompleteShare_8 : decode cX6_incompleteShare 8 = .ok (.getfield 9, 3) := by decide +kernel
theorem dX6_incompleteShare_11 : decode cX6_incompleteShare 11 = .ok (.bipush 8, 2) := by decide +kernel
theorem dX6_incompleteShare_13 : decode cX6_incompleteShare 13 = .ok (.iaload, 1) := by decide +kernel
theorem dX6_incompleteShare_14 : decode cX6_incompleteShare 14 = .ok (.iadd, 1) := by decide +kernel
theorem dX6_incompleteShare_15 : decode cX6_incompleteShare 15 = .ok (.istore_n 1, 1) := by decide +kernel
theorem dX6_incompleteShare_16 : decode cX6_incompleteShare 16 = .ok (.aload_n 0, 1) := by decide +kernel
theorem dX6_incompleteShare_17 : decode cX6_incompleteShare 17 = .ok (.iload_n 1, 1) := by decide +kernel
theorem dX6_incompleteShare_18 : decode cX6_incompleteShare 18 = .ok (.ifCond .le 7, 3) := by decide +kernel
theorem dX6_incompleteShare_21 : decode cX6_incompleteShare 21 = .ok (.iconst 1, 1) := by decide +kernel
theorem dX6_incompleteShare_22 : decode cX6_incompleteShare 22 = .ok (.goto 4, 3) := by decide +kernel
theorem dX6_incompleteShare_25 : decode cX6_incompleteShare 25 = .ok (.iconst 0, 1) := by decide +kernel
theorem dX6_incompleteShare_26 : decode cX6_incompleteShare 26 = .ok (.invokevirtual 149, 3) := by decide +kernel
theorem dX6_incompleteShare_29 : decode cX6_incompleteShare 29 = .ok (.ifCond .eq 17, 3) := by decide +kernel
theorem dX6_incompleteShare_32 : decode cX6_incompleteShare 32 = .ok (.aload_n 0, 1) := by decide +kernel
theorem dX6_incompleteShare_33 : decode cX6_incompleteShare 33 = .ok (.getfield 9, 3) := by decide +kernel
theorem dX6_incompleteShare_36 : decode cX6_incompleteShare 36 = .ok (.bipush 8, 2) := by decide +kernel
theorem dX6_incompleteShare_38 : decode cX6_incompleteShare 38 = .ok (.iaload, 1) := by decide +kernel
theorem dX6_incompleteShare_39 : decode cX6_incompleteShare 39 = .ok (.i2f, 1) := by decide +kernel
theorem dX6_incompleteShare_40 : decode cX6_incompleteShare 40 = .ok (.iload_n 1, 1) := by decide +kernel
theorem dX6_incompleteShare_41 : decode cX6_incompleteShare 41 = .ok (.i2f, 1) := by decide +kernel
theorem dX6_incompleteShare_42 : decode cX6_incompleteShare 42 = .ok (.fdiv, 1) := by decide +kernel
theorem dX6_incompleteShare_43 : decode cX6_incompleteShare 43 = .ok (.goto 4, 3) := by decide +kernel
theorem dX6_incompleteShare_46 : decode cX6_incompleteShare 46 = .ok (.fconst 0, 1) := by decide +kernel
theorem dX6_incompleteShare_47 : decode cX6_incompleteShare 47 = .ok (.freturn, 1) := by decide +kernel
theorem dX6_incompleteShareBits_0 : decode cX6_incompleteShareBits 0 = .ok (.aload_n 0, 1) := by decide +kernel
theorem dX6_incompleteShareBits_1 : decode cX6_incompleteShareBits 1 = .ok (.invokevirtual 172, 3) := by decide +kernel
theorem dX6_incompleteShareBits_4 : decode cX6_incompleteShareBits 4 = .ok (.fstore_n 1, 1) := by decide +kernel
theorem dX6_incompleteShareBits_5 : decode cX6_incompleteShareBits 5 = .ok (.aload_n 0, 1) := by decide +kernel
theorem dX6_incompleteShareBits_6 : decode cX6_incompleteShareBits 6 = .ok (.getfield 39, 3) := by decide +kernel
theorem dX6_incompleteShareBits_9 : decode cX6_incompleteShareBits 9 = .ok (.ifCond .le 7, 3) := by decide +kernel
theorem dX6_incompleteShareBits_12 : decode cX6_incompleteShareBits 12 = .ok (.iconst 0, 1) := by decide +kernel
theorem dX6_incompleteShareBits_13 : decode cX6_incompleteShareBits 13 = .ok (.goto 7, 3) := by decide +kernel
theorem dX6_incompleteShareBits_16 : decode cX6_incompleteShareBits 16 = .ok (.fload_n 1, 1) := by decide +kernel
theorem dX6_incompleteShareBits_17 : decode cX6_incompleteShareBits 17 = .ok (.invokestatic 176, 3) := by decide +kernel
theorem dX6_incompleteShareBits_20 : decode cX6_incompleteShareBits 20 = .ok (.ireturn, 1) := by decide +kernel
theorem dX6_isConsistent_0 : decode cX6_isConsistent 0 = .ok (.aload_n 0, 1) := by decide +kernel
theorem dX6_isConsistent_1 : decode cX6_isConsistent 1 = .ok (.iconst 0, 1) := by decide +kernel
theorem dX6_isConsistent_2 : decode cX6_isConsistent 2 = .ok (.putfield 39, 3) := by decide +kernel
theorem dX6_isConsistent_5 : decode cX6_isConsistent 5 = .ok (.iconst 1, 1) := by decide +kernel
theorem dX6_isConsistent_6 : decode cX6_isConsistent 6 = .ok (.ireturn, 1) := by decide +kernel
theorem dX6_says_0 : decode cX6_says 0 = .ok (.aload_n 0, 1) := by decide +kernel
theorem dX6_says_1 : decode cX6_says 1 = .ok (.getfield 22, 3) := by decide +kernel
theorem dX6_says_4 : decode cX6_says 4 = .ok (.aload_n 0, 1) := by decide +kernel
theorem dX6_says_5 : decode cX6_says 5 = .ok (.getfield 182, 3) := by decide +kernel
theorem dX6_says_8 : decode cX6_says 8 = .ok (.iload_n 1, 1) := by decide +kernel
theorem dX6_says_9 : decode cX6_says 9 = .ok (.castore, 1) := by decide +kernel
theorem dX6_says_10 : decode cX6_says 10 = .ok (.aload_n 0, 1) := by decide +kernel
theorem dX6_says_11 : decode cX6_says 11 = .ok (.dup, 1) := by decide +kernel
theorem dX6_says_12 : decode cX6_says 12 = .ok (.getfield 182, 3) := by decide +kernel
theorem dX6_says_15 : decode cX6_says 15 = .ok (.iconst 1, 1) := by decide +kernel
theorem dX6_says_16 : decode cX6_says 16 = .ok (.iadd, 1) := by decide +kernel
theorem dX6_says_17 : decode cX6_says 17 = .ok (.putfield 182, 3) := by decide +kernel
theorem dX6_says_20 : decode cX6_says 20 = .ok (.return_, 1) := by decide +kernel
theorem dX6_saysNumber_0 : decode cX6_saysNumber 0 = .ok (.iload_n 1, 1) := by decide +kernel
theorem dX6_saysNumber_1 : decode cX6_saysNumber 1 = .ok (.ifCond .ge 9, 3) := by decide +kernel
theorem dX6_saysNumber_4 : decode cX6_saysNumber 4 = .ok (.aload_n 0, 1) := by decide +kernel
theorem dX6_saysNumber_5 : decode cX6_saysNumber 5 = .ok (.bipush 45, 2) := by decide +kernel
theorem dX6_saysNumber_7 : decode cX6_saysNumber 7 = .ok (.invokevirtual 185, 3) := by decide +kernel
theorem dX6_saysNumber_10 : decode cX6_saysNumber 10 = .ok (.iload_n 1, 1) := by decide +kernel
theorem dX6_saysNumber_11 : decode cX6_saysNumber 11 = .ok (.invokestatic 189, 3) := by decide +kernel
theorem dX6_saysNumber_14 : decode cX6_saysNumber 14 = .ok (.istore_n 2, 1) := by decide +kernel
theorem dX6_saysNumber_15 : decode cX6_saysNumber 15 = .ok (.iload_n 2, 1) := by decide +kernel
theorem dX6_saysNumber_16 : decode cX6_saysNumber 16 = .ok (.bipush 9, 2) := by decide +kernel
theorem dX6_saysNumber_18 : decode cX6_saysNumber 18 = .ok (.if_icmp .le 11, 3) := by decide +kernel
theorem dX6_saysNumber_21 : decode cX6_saysNumber 21 = .ok (.aload_n 0, 1) := by decide +kernel
theorem dX6_saysNumber_22 : decode cX6_saysNumber 22 = .ok (.iload_n 2, 1) := by decide +kernel
theorem dX6_saysNumber_23 : decode cX6_saysNumber 23 = .ok (.bipush 10, 2) := by decide +kernel
theorem dX6_saysNumber_25 : decode cX6_saysNumber 25 = .ok (.idiv, 1) := by decide +kernel
theorem dX6_saysNumber_26 : decode cX6_saysNumber 26 = .ok (.invokevirtual 192, 3) := by decide +kernel
theorem dX6_saysNumber_29 : decode cX6_saysNumber 29 = .ok (.aload_n 0, 1) := by decide +kernel
theorem dX6_saysNumber_30 : decode cX6_saysNumber 30 = .ok (.bipush 48, 2) := by decide +kernel
theorem dX6_saysNumber_32 : decode cX6_saysNumber 32 = .ok (.iload_n 2, 1) := by decide +kernel
theorem dX6_saysNumber_33 : decode cX6_saysNumber 33 = .ok (.bipush 10, 2) := by decide +kernel
theorem dX6_saysNumber_35 : decode cX6_saysNumber 35 = .ok (.irem, 1) := by decide +kernel
theorem dX6_saysNumber_36 : decode cX6_saysNumber 36 = .ok (.iadd, 1) := by decide +kernel
theorem dX6_saysNumber_37 : decode cX6_saysNumber 37 = .ok (.i2c, 1) := by decide +kernel
theorem dX6_saysNumber_38 : decode cX6_saysNumber 38 = .ok (.invokevirtual 185, 3) := by decide +kernel
theorem dX6_saysNumber_41 : decode cX6_saysNumber 41 = .ok (.return_, 1) := by decide +kernel
theorem dX6_renderCard_0 : decode cX6_renderCard 0 = .ok (.aload_n 0, 1) := by decide +kernel
theorem dX6_renderCard_1 : decode cX6_renderCard 1 = .ok (.aload_n 0, 1) := by decide +kernel
theorem dX6_renderCard_2 : decode cX6_renderCard 2 = .ok (.iload_n 1, 1) := by decide +kernel
theorem dX6_renderCard_3 : decode cX6_renderCard 3 = .ok (.invokevirtual 113, 3) := by decide +kernel
theorem dX6_renderCard_6 : decode cX6_renderCard 6 = .ok (.invokevirtual 149, 3) := by decide +kernel
theorem dX6_renderCard_9 : decode cX6_renderCard 9 = .ok (.ifCond .ne 5, 3) := by decide +kernel
theorem dX6_renderCard_12 : decode cX6_renderCard 12 = .ok (.iconst 0, 1) := by decide +kernel
theorem dX6_renderCard_13 : decode cX6_renderCard 13 = .ok (.ireturn, 1) := by decide +kernel
theorem dX6_renderCard_14 : decode cX6_renderCard 14 = .ok (.aload_n 0, 1) := by decide +kernel
theorem dX6_renderCard_15 : decode cX6_renderCard 15 = .ok (.iconst 0, 1) := by decide +kernel
theorem dX6_renderCard_16 : decode cX6_renderCard 16 = .ok (.putfield 182, 3) := by decide +kernel
theorem dX6_renderCard_19 : decode cX6_renderCard 19 = .ok (.aload_n 0, 1) := by decide +kernel
theorem dX6_renderCard_20 : decode cX6_renderCard 20 = .ok (.iload_n 1, 1) := by decide +kernel
theorem dX6_renderCard_21 : decode cX6_renderCard 21 = .ok (.invokevirtual 192, 3) := by decide +kernel
theorem dX6_renderCard_24 : decode cX6_renderCard 24 = .ok (.aload_n 0, 1) := by decide +kernel
theorem dX6_renderCard_25 : decode cX6_renderCard 25 = .ok (.aload_n 0, 1) := by decide +kernel
theorem dX6_renderCard_26 : decode cX6_renderCard 26 = .ok (.iload_n 1, 1) := by decide +kernel
theorem dX6_renderCard_27 : decode cX6_renderCard 27 = .ok (.iconst 0, 1) := by decide +kernel
theorem dX6_renderCard_28 : decode cX6_renderCard 28 = .ok (.invokevirtual 67, 3) := by decide +kernel
theorem dX6_renderCard_31 : decode cX6_renderCard 31 = .ok (.iconst 1, 1) := by decide +kernel
theorem dX6_renderCard_32 : decode cX6_renderCard 32 = .ok (.if_icmp .ne 8, 3) := by decide +kernel
theorem dX6_renderCard_35 : decode cX6_renderCard 35 = .ok (.bipush 114, 2) := by decide +kernel
theorem dX6_renderCard_37 : decode cX6_renderCard 37 = .ok (.goto 5, 3) := by decide +kernel
theorem dX6_renderCard_40 : decode cX6_renderCard 40 = .ok (.bipush 102, 2) := by decide +kernel
theorem dX6_renderCard_42 : decode cX6_renderCard 42 = .ok (.invokevirtual 185, 3) := by decide +kernel
theorem dX6_renderCard_45 : decode cX6_renderCard 45 = .ok (.aload_n 0, 1) := by decide +kernel
theorem dX6_renderCard_46 : decode cX6_renderCard 46 = .ok (.bipush 58, 2) := by decide +kernel
theorem dX6_renderCard_48 : decode cX6_renderCard 48 = .ok (.invokevirtual 185, 3) := by decide +kernel
theorem dX6_renderCard_51 : decode cX6_renderCard 51 = .ok (.aload_n 0, 1) := by decide +kernel
theorem dX6_renderCard_52 : decode cX6_renderCard 52 = .ok (.aload_n 0, 1) := by decide +kernel
theorem dX6_renderCard_53 : decode cX6_renderCard 53 = .ok (.iload_n 1, 1) := by decide +kernel
theorem dX6_renderCard_54 : decode cX6_renderCard 54 = .ok (.iconst 1, 1) := by decide +kernel
theorem dX6_renderCard_55 : decode cX6_renderCard 55 = .ok (.invokevirtual 67, 3) := by decide +kernel
theorem dX6_renderCard_58 : decode cX6_renderCard 58 = .ok (.invokevirtual 192, 3) := by decide +kernel
theorem dX6_renderCard_61 : decode cX6_renderCard 61 = .ok (.aload_n 0, 1) := by decide +kernel
theorem dX6_renderCard_62 : decode cX6_renderCard 62 = .ok (.iload_n 1, 1) := by decide +kernel
theorem dX6_renderCard_63 : decode cX6_renderCard 63 = .ok (.iconst 2, 1) := by decide +kernel
theorem dX6_renderCard_64 : decode cX6_renderCard 64 = .ok (.invokevirtual 67, 3) := by decide +kernel
theorem dX6_renderCard_67 : decode cX6_renderCard 67 = .ok (.ifCond .lt 19, 3) := by decide +kernel
theorem dX6_renderCard_70 : decode cX6_renderCard 70 = .ok (.aload_n 0, 1) := by decide +kernel
theorem dX6_renderCard_71 : decode cX6_renderCard 71 = .ok (.bipush 64, 2) := by decide +kernel
theorem dX6_renderCard_73 : decode cX6_renderCard 73 = .ok (.invokevirtual 185, 3) := by decide +kernel
theorem dX6_renderCard_76 : decode cX6_renderCard 76 = .ok (.aload_n 0, 1) := by decide +kernel
theorem dX6_renderCard_77 : decode cX6_renderCard 77 = .ok (.aload_n 0, 1) := by decide +kernel
theorem dX6_renderCard_78 : decode cX6_renderCard 78 = .ok (.iload_n 1, 1) := by decide +kernel
theorem dX6_renderCard_79 : decode cX6_renderCard 79 = .ok (.iconst 2, 1) := by decide +kernel
theorem dX6_renderCard_80 : decode cX6_renderCard 80 = .ok (.invokevirtual 67, 3) := by decide +kernel
theorem dX6_renderCard_83 : decode cX6_renderCard 83 = .ok (.invokevirtual 192, 3) := by decide +kernel
theorem dX6_renderCard_86 : decode cX6_renderCard 86 = .ok (.aload_n 0, 1) := by decide +kernel
theorem dX6_renderCard_87 : decode cX6_renderCard 87 = .ok (.getfield 182, 3) := by decide +kernel
theorem dX6_renderCard_90 : decode cX6_renderCard 90 = .ok (.ireturn, 1) := by decide +kernel
theorem dX6_renderZones_0 : decode cX6_renderZones 0 = .ok (.aload_n 0, 1) := by decide +kernel
theorem dX6_renderZones_1 : decode cX6_renderZones 1 = .ok (.iconst 0, 1) := by decide +kernel
theorem dX6_renderZones_2 : decode cX6_renderZones 2 = .ok (.putfield 39, 3) := by decide +kernel
theorem dX6_renderZones_5 : decode cX6_renderZones 5 = .ok (.aload_n 0, 1) := by decide +kernel
theorem dX6_renderZones_6 : decode cX6_renderZones 6 = .ok (.iconst 0, 1) := by decide +kernel
theorem dX6_renderZones_7 : decode cX6_renderZones 7 = .ok (.putfield 182, 3) := by decide +kernel
theorem dX6_renderZones_10 : decode cX6_renderZones 10 = .ok (.iconst 0, 1) := by decide +kernel
theorem dX6_renderZones_11 : decode cX6_renderZones 11 = .ok (.istore_n 1, 1) := by decide +kernel
theorem dX6_renderZones_12 : decode cX6_renderZones 12 = .ok (.iload_n 1, 1) := by decide +kernel
theorem dX6_renderZones_13 : decode cX6_renderZones 13 = .ok (.bipush 12, 2) := by decide +kernel
theorem dX6_renderZones_15 : decode cX6_renderZones 15 = .ok (.if_icmp .ge 22, 3) := by decide +kernel
theorem dX6_renderZones_18 : decode cX6_renderZones 18 = .ok (.aload_n 0, 1) := by decide +kernel
theorem dX6_renderZones_19 : decode cX6_renderZones 19 = .ok (.aload_n 0, 1) := by decide +kernel
theorem dX6_renderZones_20 : decode cX6_renderZones 20 = .ok (.getfield 9, 3) := by decide +kernel
theorem dX6_renderZones_23 : decode cX6_renderZones 23 = .ok (.bipush 9, 2) := by decide +kernel
theorem dX6_renderZones_25 : decode cX6_renderZones 25 = .ok (.iload_n 1, 1) := by decide +kernel
theorem dX6_renderZones_26 : decode cX6_renderZones 26 = .ok (.iadd, 1) := by decide +kernel
theorem dX6_renderZones_27 : decode cX6_renderZones 27 = .ok (.iaload, 1) := by decide +kernel
theorem dX6_renderZones_28 : decode cX6_renderZones 28 = .ok (.invokevirtual 192, 3) := by decide +kernel
theorem dX6_renderZones_31 : decode cX6_renderZones 31 = .ok (.iinc 1 1, 3) := by decide +kernel
theorem dX6_renderZones_34 : decode cX6_renderZones 34 = .ok (.goto (-22), 3) := by decide +kernel
theorem dX6_renderZones_37 : decode cX6_renderZones 37 = .ok (.aload_n 0, 1) := by decide +kernel
theorem dX6_renderZones_38 : decode cX6_renderZones 38 = .ok (.getfield 182, 3) := by decide +kernel
theorem dX6_renderZones_41 : decode cX6_renderZones 41 = .ok (.ireturn, 1) := by decide +kernel
theorem dX6_outputAt_0 : decode cX6_outputAt 0 = .ok (.aload_n 0, 1) := by decide +kernel
theorem dX6_outputAt_1 : decode cX6_outputAt 1 = .ok (.iload_n 1, 1) := by decide +kernel
theorem dX6_outputAt_2 : decode cX6_outputAt 2 = .ok (.iconst 0, 1) := by decide +kernel
theorem dX6_outputAt_3 : decode cX6_outputAt 3 = .ok (.aload_n 0, 1) := by decide +kernel
theorem dX6_outputAt_4 : decode cX6_outputAt 4 = .ok (.getfield 182, 3) := by decide +kernel
theorem dX6_outputAt_7 : decode cX6_outputAt 7 = .ok (.iconst 1, 1) := by decide +kernel
theorem dX6_outputAt_8 : decode cX6_outputAt 8 = .ok (.isub, 1) := by decide +kernel
theorem dX6_outputAt_9 : decode cX6_outputAt 9 = .ok (.invokestatic 51, 3) := by decide +kernel
theorem dX6_outputAt_12 : decode cX6_outputAt 12 = .ok (.invokevirtual 149, 3) := by decide +kernel
theorem dX6_outputAt_15 : decode cX6_outputAt 15 = .ok (.ifCond .eq 12, 3) := by decide +kernel
theorem dX6_outputAt_18 : decode cX6_outputAt 18 = .ok (.aload_n 0, 1) := by decide +kernel
theorem dX6_outputAt_19 : decode cX6_outputAt 19 = .ok (.getfield 22, 3) := by decide +kernel
theorem dX6_outputAt_22 : decode cX6_outputAt 22 = .ok (.iload_n 1, 1) := by decide +kernel
theorem dX6_outputAt_23 : decode cX6_outputAt 23 = .ok (.caload, 1) := by decide +kernel
theorem dX6_outputAt_24 : decode cX6_outputAt 24 = .ok (.goto 5, 3) := by decide +kernel
theorem dX6_outputAt_27 : decode cX6_outputAt 27 = .ok (.bipush 32, 2) := by decide +kernel
theorem dX6_outputAt_29 : decode cX6_outputAt 29 = .ok (.ireturn, 1) := by decide +kernel
theorem dX6_type_0 : decode cX6_type 0 = .ok (.aload_n 0, 1) := by decide +kernel
theorem dX6_type_1 : decode cX6_type 1 = .ok (.iload_n 1, 1) := by decide +kernel
theorem dX6_type_2 : decode cX6_type 2 = .ok (.bipush 32, 2) := by decide +kernel
theorem dX6_type_4 : decode cX6_type 4 = .ok (.bipush 126, 2) := by decide +kernel
theorem dX6_type_6 : decode cX6_type 6 = .ok (.invokestatic 51, 3) := by decide +kernel
theorem dX6_type_9 : decode cX6_type 9 = .ok (.ifCond .ne 7, 3) := by decide +kernel
theorem dX6_type_12 : decode cX6_type 12 = .ok (.iconst 1, 1) := by decide +kernel
theorem dX6_type_13 : decode cX6_type 13 = .ok (.goto 17, 3) := by decide +kernel
theorem dX6_type_16 : decode cX6_type 16 = .ok (.aload_n 0, 1) := by decide +kernel
theorem dX6_type_17 : decode cX6_type 17 = .ok (.getfield 195, 3) := by decide +kernel
theorem dX6_type_20 : decode cX6_type 20 = .ok (.bipush 60, 2) := by decide +kernel
theorem dX6_type_22 : decode cX6_type 22 = .ok (.if_icmp .ne 7, 3) := by decide +kernel
theorem dX6_type_25 : decode cX6_type 25 = .ok (.iconst 2, 1) := by decide +kernel
theorem dX6_type_26 : decode cX6_type 26 = .ok (.goto 4, 3) := by decide +kernel
theorem dX6_type_29 : decode cX6_type 29 = .ok (.iconst 0, 1) := by decide +kernel
theorem dX6_type_30 : decode cX6_type 30 = .ok (.putfield 39, 3) := by decide +kernel
theorem dX6_type_33 : decode cX6_type 33 = .ok (.aload_n 0, 1) := by decide +kernel
theorem dX6_type_34 : decode cX6_type 34 = .ok (.getfield 39, 3) := by decide +kernel
theorem dX6_type_37 : decode cX6_type 37 = .ok (.ifCond .le 5, 3) := by decide +kernel
theorem dX6_type_40 : decode cX6_type 40 = .ok (.iconst 0, 1) := by decide +kernel
theorem dX6_type_41 : decode cX6_type 41 = .ok (.ireturn, 1) := by decide +kernel
theorem dX6_type_42 : decode cX6_type 42 = .ok (.aload_n 0, 1) := by decide +kernel
theorem dX6_type_43 : decode cX6_type 43 = .ok (.getfield 26, 3) := by decide +kernel
theorem dX6_type_46 : decode cX6_type 46 = .ok (.aload_n 0, 1) := by decide +kernel
theorem dX6_type_47 : decode cX6_type 47 = .ok (.getfield 195, 3) := by decide +kernel
theorem dX6_type_50 : decode cX6_type 50 = .ok (.iload_n 1, 1) := by decide +kernel
theorem dX6_type_51 : decode cX6_type 51 = .ok (.castore, 1) := by decide +kernel
theorem dX6_type_52 : decode cX6_type 52 = .ok (.aload_n 0, 1) := by decide +kernel
theorem dX6_type_53 : decode cX6_type 53 = .ok (.dup, 1) := by decide +kernel
theorem dX6_type_54 : decode cX6_type 54 = .ok (.getfield 195, 3) := by decide +kernel
theorem dX6_type_57 : decode cX6_type 57 = .ok (.iconst 1, 1) := by decide +kernel
theorem dX6_type_58 : decode cX6_type 58 = .ok (.iadd, 1) := by decide +kernel
theorem dX6_type_59 : decode cX6_type 59 = .ok (.putfield 195, 3) := by decide +kernel
theorem dX6_type_62 : decode cX6_type 62 = .ok (.aload_n 0, 1) := by decide +kernel
theorem dX6_type_63 : decode cX6_type 63 = .ok (.getfield 195, 3) := by decide +kernel
theorem dX6_type_66 : decode cX6_type 66 = .ok (.ireturn, 1) := by decide +kernel
theorem dX6_behind_0 : decode cX6_behind 0 = .ok (.aload_n 0, 1) := by decide +kernel
theorem dX6_behind_1 : decode cX6_behind 1 = .ok (.getfield 198, 3) := by decide +kernel
theorem dX6_behind_4 : decode cX6_behind 4 = .ok (.aload_n 0, 1) := by decide +kernel
theorem dX6_behind_5 : decode cX6_behind 5 = .ok (.getfield 195, 3) := by decide +kernel
theorem dX6_behind_8 : decode cX6_behind 8 = .ok (.if_icmp .ge 15, 3) := by decide +kernel
theorem dX6_behind_11 : decode cX6_behind 11 = .ok (.aload_n 0, 1) := by decide +kernel
theorem dX6_behind_12 : decode cX6_behind 12 = .ok (.getfield 26, 3) := by decide +kernel
theorem dX6_behind_15 : decode cX6_behind 15 = .ok (.aload_n 0, 1) := by decide +kernel
theorem dX6_behind_16 : decode cX6_behind 16 = .ok (.getfield 198, 3) := by decide +kernel
theorem dX6_behind_19 : decode cX6_behind 19 = .ok (.caload, 1) := by decide +kernel
theorem dX6_behind_20 : decode cX6_behind 20 = .ok (.goto 4, 3) := by decide +kernel
theorem dX6_behind_23 : decode cX6_behind 23 = .ok (.iconst (-1), 1) := by decide +kernel
theorem dX6_behind_24 : decode cX6_behind 24 = .ok (.ireturn, 1) := by decide +kernel
theorem dX6_skip_0 : decode cX6_skip 0 = .ok (.iconst 0, 1) := by decide +kernel
theorem dX6_skip_1 : decode cX6_skip 1 = .ok (.istore_n 2, 1) := by decide +kernel
theorem dX6_skip_2 : decode cX6_skip 2 = .ok (.iload_n 2, 1) := by decide +kernel
theorem dX6_skip_3 : decode cX6_skip 3 = .ok (.aload_n 1, 1) := by decide +kernel
theorem dX6_skip_4 : decode cX6_skip 4 = .ok (.invokevirtual 201, 3) := by decide +kernel
theorem dX6_skip_7 : decode cX6_skip 7 = .ok (.if_icmp .ge 58, 3) := by decide +kernel
theorem dX6_skip_10 : decode cX6_skip 10 = .ok (.aload_n 0, 1) := by decide +kernel
theorem dX6_skip_11 : decode cX6_skip 11 = .ok (.getfield 205, 3) := by decide +kernel
theorem dX6_skip_14 : decode cX6_skip 14 = .ok (.ifCond .ne 51, 3) := by decide +kernel
theorem dX6_skip_17 : decode cX6_skip 17 = .ok (.aload_n 0, 1) := by decide +kernel
theorem dX6_skip_18 : decode cX6_skip 18 = .ok (.aload_n 0, 1) := by decide +kernel
theorem dX6_skip_19 : decode cX6_skip 19 = .ok (.invokevirtual 209, 3) := by decide +kernel
theorem dX6_skip_22 : decode cX6_skip 22 = .ok (.aload_n 1, 1) := by decide +kernel
theorem dX6_skip_23 : decode cX6_skip 23 = .ok (.iload_n 2, 1) := by decide +kernel
theorem dX6_skip_24 : decode cX6_skip 24 = .ok (.invokevirtual 212, 3) := by decide +kernel
theorem dX6_skip_27 : decode cX6_skip 27 = .ok (.if_icmp .eq 7, 3) := by decide +kernel
theorem dX6_skip_30 : decode cX6_skip 30 = .ok (.iconst 1, 1) := by decide +kernel
theorem dX6_skip_31 : decode cX6_skip 31 = .ok (.goto 4, 3) := by decide +kernel
theorem dX6_skip_34 : decode cX6_skip 34 = .ok (.iconst 0, 1) := by decide +kernel
theorem dX6_skip_35 : decode cX6_skip 35 = .ok (.putfield 205, 3) := by decide +kernel
theorem dX6_skip_38 : decode cX6_skip 38 = .ok (.aload_n 0, 1) := by decide +kernel
theorem dX6_skip_39 : decode cX6_skip 39 = .ok (.dup, 1) := by decide +kernel
theorem dX6_skip_40 : decode cX6_skip 40 = .ok (.getfield 198, 3) := by decide +kernel
theorem dX6_skip_43 : decode cX6_skip 43 = .ok (.aload_n 0, 1) := by decide +kernel
theorem dX6_skip_44 : decode cX6_skip 44 = .ok (.getfield 205, 3) := by decide +kernel
theorem dX6_skip_47 : decode cX6_skip 47 = .ok (.ifCond .eq 7, 3) := by decide +kernel
theorem dX6_skip_50 : decode cX6_skip 50 = .ok (.iconst 0, 1) := by decide +kernel
theorem dX6_skip_51 : decode cX6_skip 51 = .ok (.goto 4, 3) := by decide +kernel
theorem dX6_skip_54 : decode cX6_skip 54 = .ok (.iconst 1, 1) := by decide +kernel
theorem dX6_skip_55 : decode cX6_skip 55 = .ok (.iadd, 1) := by decide +kernel
theorem dX6_skip_56 : decode cX6_skip 56 = .ok (.putfield 198, 3) := by decide +kernel
theorem dX6_skip_59 : decode cX6_skip 59 = .ok (.iinc 2 1, 3) := by decide +kernel
theorem dX6_skip_62 : decode cX6_skip 62 = .ok (.goto (-60), 3) := by decide +kernel
theorem dX6_skip_65 : decode cX6_skip 65 = .ok (.return_, 1) := by decide +kernel
theorem dX6_isDigit_0 : decode cX6_isDigit 0 = .ok (.aload_n 0, 1) := by decide +kernel
theorem dX6_isDigit_1 : decode cX6_isDigit 1 = .ok (.getfield 205, 3) := by decide +kernel
theorem dX6_isDigit_4 : decode cX6_isDigit 4 = .ok (.ifCond .ne 21, 3) := by decide +kernel
theorem dX6_isDigit_7 : decode cX6_isDigit 7 = .ok (.aload_n 0, 1) := by decide +kernel
theorem dX6_isDigit_8 : decode cX6_isDigit 8 = .ok (.invokevirtual 209, 3) := by decide +kernel
theorem dX6_isDigit_11 : decode cX6_isDigit 11 = .ok (.bipush 48, 2) := by decide +kernel
theorem dX6_isDigit_13 : decode cX6_isDigit 13 = .ok (.bipush 57, 2) := by decide +kernel
theorem dX6_isDigit_15 : decode cX6_isDigit 15 = .ok (.invokestatic 51, 3) := by decide +kernel
theorem dX6_isDigit_18 : decode cX6_isDigit 18 = .ok (.ifCond .eq 7, 3) := by decide +kernel
theorem dX6_isDigit_21 : decode cX6_isDigit 21 = .ok (.iconst 1, 1) := by decide +kernel
theorem dX6_isDigit_22 : decode cX6_isDigit 22 = .ok (.goto 4, 3) := by decide +kernel
theorem dX6_isDigit_25 : decode cX6_isDigit 25 = .ok (.iconst 0, 1) := by decide +kernel
theorem dX6_isDigit_26 : decode cX6_isDigit 26 = .ok (.ireturn, 1) := by decide +kernel
theorem dX6_readNumber_0 : decode cX6_readNumber 0 = .ok (.aload_n 0, 1) := by decide +kernel
theorem dX6_readNumber_1 : decode cX6_readNumber 1 = .ok (.aload_n 0, 1) := by decide +kernel
theorem dX6_readNumber_2 : decode cX6_readNumber 2 = .ok (.getfield 205, 3) := by decide +kernel
theorem dX6_readNumber_5 : decode cX6_readNumber 5 = .ok (.ifCond .ne 10, 3) := by decide +kernel
theorem dX6_readNumber_8 : decode cX6_readNumber 8 = .ok (.aload_n 0, 1) := by decide +kernel
theorem dX6_readNumber_9 : decode cX6_readNumber 9 = .ok (.invokevirtual 216, 3) := by decide +kernel
theorem dX6_readNumber_12 : decode cX6_readNumber 12 = .ok (.ifCond .ne 7, 3) := by decide +kernel
theorem dX6_readNumber_15 : decode cX6_readNumber 15 = .ok (.iconst 1, 1) := by decide +kernel
theorem dX6_readNumber_16 : decode cX6_readNumber 16 = .ok (.goto 4, 3) := by decide +kernel
theorem dX6_readNumber_19 : decode cX6_readNumber 19 = .ok (.iconst 0, 1) := by decide +kernel
theorem dX6_readNumber_20 : decode cX6_readNumber 20 = .ok (.putfield 205, 3) := by decide +kernel
theorem dX6_readNumber_23 : decode cX6_readNumber 23 = .ok (.iconst 0, 1) := by decide +kernel
theorem dX6_readNumber_24 : decode cX6_readNumber 24 = .ok (.istore_n 2, 1) := by decide +kernel
theorem dX6_readNumber_25 : decode cX6_readNumber 25 = .ok (.iconst 0, 1) := by decide +kernel
theorem dX6_readNumber_26 : decode cX6_readNumber 26 = .ok (.istore_n 3, 1) := by decide +kernel
theorem dX6_readNumber_27 : decode cX6_readNumber 27 = .ok (.iload_n 3, 1) := by decide +kernel
theorem dX6_readNumber_28 : decode cX6_readNumber 28 = .ok (.iload_n 1, 1) := by decide +kernel
theorem dX6_readNumber_29 : decode cX6_readNumber 29 = .ok (.if_icmp .ge 44, 3) := by decide +kernel
theorem dX6_readNumber_32 : decode cX6_readNumber 32 = .ok (.aload_n 0, 1) := by decide +kernel
theorem dX6_readNumber_33 : decode cX6_readNumber 33 = .ok (.invokevirtual 216, 3) := by decide +kernel
theorem dX6_readNumber_36 : decode cX6_readNumber 36 = .ok (.ifCond .eq 37, 3) := by decide +kernel
theorem dX6_readNumber_39 : decode cX6_readNumber 39 = .ok (.bipush 10, 2) := by decide +kernel
theorem dX6_readNumber_41 : decode cX6_readNumber 41 = .ok (.iload_n 2, 1) := by decide +kernel
theorem dX6_readNumber_42 : decode cX6_readNumber 42 = .ok (.imul, 1) := by decide +kernel
theorem dX6_readNumber_43 : decode cX6_readNumber 43 = .ok (.aload_n 0, 1) := by decide +kernel
theorem dX6_readNumber_44 : decode cX6_readNumber 44 = .ok (.getfield 26, 3) := by decide +kernel
theorem dX6_readNumber_47 : decode cX6_readNumber 47 = .ok (.aload_n 0, 1) := by decide +kernel
theorem dX6_readNumber_48 : decode cX6_readNumber 48 = .ok (.getfield 198, 3) := by decide +kernel
theorem dX6_readNumber_51 : decode cX6_readNumber 51 = .ok (.caload, 1) := by decide +kernel
theorem dX6_readNumber_52 : decode cX6_readNumber 52 = .ok (.iadd, 1) := by decide +kernel
theorem dX6_readNumber_53 : decode cX6_readNumber 53 = .ok (.bipush 48, 2) := by decide +kernel
theorem dX6_readNumber_55 : decode cX6_readNumber 55 = .ok (.isub, 1) := by decide +kernel
theorem dX6_readNumber_56 : decode cX6_readNumber 56 = .ok (.istore_n 2, 1) := by decide +kernel
theorem dX6_readNumber_57 : decode cX6_readNumber 57 = .ok (.aload_n 0, 1) := by decide +kernel
theorem dX6_readNumber_58 : decode cX6_readNumber 58 = .ok (.dup, 1) := by decide +kernel
theorem dX6_readNumber_59 : decode cX6_readNumber 59 = .ok (.getfield 198, 3) := by decide +kernel
theorem dX6_readNumber_62 : decode cX6_readNumber 62 = .ok (.iconst 1, 1) := by decide +kernel
theorem dX6_readNumber_63 : decode cX6_readNumber 63 = .ok (.iadd, 1) := by decide +kernel
theorem dX6_readNumber_64 : decode cX6_readNumber 64 = .ok (.putfield 198, 3) := by decide +kernel
theorem dX6_readNumber_67 : decode cX6_readNumber 67 = .ok (.iinc 3 1, 3) := by decide +kernel
theorem dX6_readNumber_70 : decode cX6_readNumber 70 = .ok (.goto (-43), 3) := by decide +kernel
theorem dX6_readNumber_73 : decode cX6_readNumber 73 = .ok (.iload_n 2, 1) := by decide +kernel
theorem dX6_readNumber_74 : decode cX6_readNumber 74 = .ok (.ireturn, 1) := by decide +kernel
theorem dX6_readCommand_0 : decode cX6_readCommand 0 = .ok (.aload_n 0, 1) := by decide +kernel
theorem dX6_readCommand_1 : decode cX6_readCommand 1 = .ok (.getfield 205, 3) := by decide +kernel
theorem dX6_readCommand_4 : decode cX6_readCommand 4 = .ok (.ifCond .eq 4, 3) := by decide +kernel
theorem dX6_readCommand_7 : decode cX6_readCommand 7 = .ok (.return_, 1) := by decide +kernel
theorem dX6_readCommand_8 : decode cX6_readCommand 8 = .ok (.aload_n 0, 1) := by decide +kernel
theorem dX6_readCommand_9 : decode cX6_readCommand 9 = .ok (.invokevirtual 209, 3) := by decide +kernel
theorem dX6_readCommand_12 : decode cX6_readCommand 12 = .ok (.istore_n 1, 1) := by decide +kernel
theorem dX6_readCommand_13 : decode cX6_readCommand 13 = .ok (.iconst 3, 1) := by decide +kernel
theorem dX6_readCommand_14 : decode cX6_readCommand 14 = .ok (.aload_n 0, 1) := by decide +kernel
theorem dX6_readCommand_15 : decode cX6_readCommand 15 = .ok (.getfield 220, 3) := by decide +kernel
theorem dX6_readCommand_18 : decode cX6_readCommand 18 = .ok (.imul, 1) := by decide +kernel
theorem dX6_readCommand_19 : decode cX6_readCommand 19 = .ok (.istore_n 2, 1) := by decide +kernel
theorem dX6_readCommand_20 : decode cX6_readCommand 20 = .ok (.aload_n 0, 1) := by decide +kernel
theorem dX6_readCommand_21 : decode cX6_readCommand 21 = .ok (.dup, 1) := by decide +kernel
theorem dX6_readCommand_22 : decode cX6_readCommand 22 = .ok (.getfield 220, 3) := by decide +kernel
theorem dX6_readCommand_25 : decode cX6_readCommand 25 = .ok (.iconst 1, 1) := by decide +kernel
theorem dX6_readCommand_26 : decode cX6_readCommand 26 = .ok (.iadd, 1) := by decide +kernel
theorem dX6_readCommand_27 : decode cX6_readCommand 27 = .ok (.putfield 220, 3) := by decide +kernel
theorem dX6_readCommand_30 : decode cX6_readCommand 30 = .ok (.aload_n 0, 1) := by decide +kernel
theorem dX6_readCommand_31 : decode cX6_readCommand 31 = .ok (.getfield 36, 3) := by decide +kernel
theorem dX6_readCommand_34 : decode cX6_readCommand 34 = .ok (.iload_n 2, 1) := by decide +kernel
theorem dX6_readCommand_35 : decode cX6_readCommand 35 = .ok (.iload_n 1, 1) := by decide +kernel
theorem dX6_readCommand_36 : decode cX6_readCommand 36 = .ok (.iastore, 1) := by decide +kernel
theorem dX6_readCommand_37 : decode cX6_readCommand 37 = .ok (.iload_n 1, 1) := by decide +kernel
theorem dX6_readCommand_38 : decode cX6_readCommand 38 = .ok (.bipush 99, 2) := by decide +kernel
theorem dX6_readCommand_40 : decode cX6_readCommand 40 = .ok (.if_icmp .ne 89, 3) := by decide +kernel
theorem dX6_readCommand_43 : decode cX6_readCommand 43 = .ok (.aload_n 0, 1) := by decide +kernel
theorem dX6_readCommand_44 : decode cX6_readCommand 44 = .ok (.ldc 223, 2) := by decide +kernel
theorem dX6_readCommand_46 : decode cX6_readCommand 46 = .ok (.invokevirtual 225, 3) := by decide +kernel
theorem dX6_readCommand_49 : decode cX6_readCommand 49 = .ok (.aload_n 0, 1) := by decide +kernel
theorem dX6_readCommand_50 : decode cX6_readCommand 50 = .ok (.getfield 36, 3) := by decide +kernel
theorem dX6_readCommand_53 : decode cX6_readCommand 53 = .ok (.iload_n 2, 1) := by decide +kernel
theorem dX6_readCommand_54 : decode cX6_readCommand 54 = .ok (.iconst 1, 1) := by decide +kernel
theorem dX6_readCommand_55 : decode cX6_readCommand 55 = .ok (.iadd, 1) := by decide +kernel
theorem dX6_readCommand_56 : decode cX6_readCommand 56 = .ok (.aload_n 0, 1) := by decide +kernel
theorem dX6_readCommand_57 : decode cX6_readCommand 57 = .ok (.invokevirtual 209, 3) := by decide +kernel
theorem dX6_readCommand_60 : decode cX6_readCommand 60 = .ok (.bipush 114, 2) := by decide +kernel
theorem dX6_readCommand_62 : decode cX6_readCommand 62 = .ok (.if_icmp .ne 7, 3) := by decide +kernel
theorem dX6_readCommand_65 : decode cX6_readCommand 65 = .ok (.iconst 1, 1) := by decide +kernel
theorem dX6_readCommand_66 : decode cX6_readCommand 66 = .ok (.goto 4, 3) := by decide +kernel
theorem dX6_readCommand_69 : decode cX6_readCommand 69 = .ok (.iconst 0, 1) := by decide +kernel
theorem dX6_readCommand_70 : decode cX6_readCommand 70 = .ok (.iastore, 1) := by decide +kernel
theorem dX6_readCommand_71 : decode cX6_readCommand 71 = .ok (.aload_n 0, 1) := by decide +kernel
theorem dX6_readCommand_72 : decode cX6_readCommand 72 = .ok (.aload_n 0, 1) := by decide +kernel
theorem dX6_readCommand_73 : decode cX6_readCommand 73 = .ok (.getfield 205, 3) := by decide +kernel
theorem dX6_readCommand_76 : decode cX6_readCommand 76 = .ok (.ifCond .ne 21, 3) := by decide +kernel
theorem dX6_readCommand_79 : decode cX6_readCommand 79 = .ok (.aload_n 0, 1) := by decide +kernel
theorem dX6_readCommand_80 : decode cX6_readCommand 80 = .ok (.invokevirtual 209, 3) := by decide +kernel
theorem dX6_readCommand_83 : decode cX6_readCommand 83 = .ok (.bipush 114, 2) := by decide +kernel
theorem dX6_readCommand_85 : decode cX6_readCommand 85 = .ok (.if_icmp .eq 16, 3) := by decide +kernel
theorem dX6_readCommand_88 : decode cX6_readCommand 88 = .ok (.aload_n 0, 1) := by decide +kernel
theorem dX6_readCommand_89 : decode cX6_readCommand 89 = .ok (.invokevirtual 209, 3) := by decide +kernel
theorem dX6_readCommand_92 : decode cX6_readCommand 92 = .ok (.bipush 102, 2) := by decide +kernel
theorem dX6_readCommand_94 : decode cX6_readCommand 94 = .ok (.if_icmp .eq 7, 3) := by decide +kernel
theorem dX6_readCommand_97 : decode cX6_readCommand 97 = .ok (.iconst 1, 1) := by decide +kernel
theorem dX6_readCommand_98 : decode cX6_readCommand 98 = .ok (.goto 4, 3) := by decide +kernel
theorem dX6_readCommand_101 : decode cX6_readCommand 101 = .ok (.iconst 0, 1) := by decide +kernel
theorem dX6_readCommand_102 : decode cX6_readCommand 102 = .ok (.putfield 205, 3) := by decide +kernel
theorem dX6_readCommand_105 : decode cX6_readCommand 105 = .ok (.aload_n 0, 1) := by decide +kernel
theorem dX6_readCommand_106 : decode cX6_readCommand 106 = .ok (.dup, 1) := by decide +kernel
theorem dX6_readCommand_107 : decode cX6_readCommand 107 = .ok (.getfield 198, 3) := by decide +kernel
theorem dX6_readCommand_110 : decode cX6_readCommand 110 = .ok (.aload_n 0, 1) := by decide +kernel
theorem dX6_readCommand_111 : decode cX6_readCommand 111 = .ok (.getfield 205, 3) := by decide +kernel
theorem dX6_readCommand_114 : decode cX6_readCommand 114 = .ok (.ifCond .eq 7, 3) := by decide +kernel
theorem dX6_readCommand_117 : decode cX6_readCommand 117 = .ok (.iconst 0, 1) := by decide +kernel
theorem dX6_readCommand_118 : decode cX6_readCommand 118 = .ok (.goto 4, 3) := by decide +kernel
theorem dX6_readCommand_121 : decode cX6_readCommand 121 = .ok (.iconst 1, 1) := by decide +kernel
theorem dX6_readCommand_122 : decode cX6_readCommand 122 = .ok (.iadd, 1) := by decide +kernel
theorem dX6_readCommand_123 : decode cX6_readCommand 123 = .ok (.putfield 198, 3) := by decide +kernel
theorem dX6_readCommand_126 : decode cX6_readCommand 126 = .ok (.goto 133, 3) := by decide +kernel
theorem dX6_readCommand_129 : decode cX6_readCommand 129 = .ok (.iload_n 1, 1) := by decide +kernel
theorem dX6_readCommand_130 : decode cX6_readCommand 130 = .ok (.bipush 119, 2) := by decide +kernel
theorem dX6_readCommand_132 : decode cX6_readCommand 132 = .ok (.if_icmp .ne 25, 3) := by decide +kernel
theorem dX6_readCommand_135 : decode cX6_readCommand 135 = .ok (.aload_n 0, 1) := by decide +kernel
theorem dX6_readCommand_136 : decode cX6_readCommand 136 = .ok (.ldc 229, 2) := by decide +kernel
theorem dX6_readCommand_138 : decode cX6_readCommand 138 = .ok (.invokevirtual 225, 3) := by decide +kernel
theorem dX6_readCommand_141 : decode cX6_readCommand 141 = .ok (.aload_n 0, 1) := by decide +kernel
theorem dX6_readCommand_142 : decode cX6_readCommand 142 = .ok (.getfield 36, 3) := by decide +kernel
theorem dX6_readCommand_145 : decode cX6_readCommand 145 = .ok (.iload_n 2, 1) := by decide +kernel
theorem dX6_readCommand_146 : decode cX6_readCommand 146 = .ok (.iconst 1, 1) := by decide +kernel
theorem dX6_readCommand_147 : decode cX6_readCommand 147 = .ok (.iadd, 1) := by decide +kernel
theorem dX6_readCommand_148 : decode cX6_readCommand 148 = .ok (.aload_n 0, 1) := by decide +kernel
theorem dX6_readCommand_149 : decode cX6_readCommand 149 = .ok (.iconst 4, 1) := by decide +kernel
theorem dX6_readCommand_150 : decode cX6_readCommand 150 = .ok (.invokevirtual 231, 3) := by decide +kernel
theorem dX6_readCommand_153 : decode cX6_readCommand 153 = .ok (.iastore, 1) := by decide +kernel
theorem dX6_readCommand_154 : decode cX6_readCommand 154 = .ok (.goto 105, 3) := by decide +kernel
theorem dX6_readCommand_157 : decode cX6_readCommand 157 = .ok (.aload_n 0, 1) := by decide +kernel
theorem dX6_readCommand_158 : decode cX6_readCommand 158 = .ok (.iload_n 1, 1) := by decide +kernel
theorem dX6_readCommand_159 : decode cX6_readCommand 159 = .ok (.bipush 108, 2) := by decide +kernel
theorem dX6_readCommand_161 : decode cX6_readCommand 161 = .ok (.if_icmp .ne 8, 3) := by decide +kernel
theorem dX6_readCommand_164 : decode cX6_readCommand 164 = .ok (.ldc 234, 2) := by decide +kernel
theorem dX6_readCommand_166 : decode cX6_readCommand 166 = .ok (.goto 38, 3) := by decide +kernel
theorem dX6_readCommand_169 : decode cX6_readCommand 169 = .ok (.iload_n 1, 1) := by decide +kernel
theorem dX6_readCommand_170 : decode cX6_readCommand 170 = .ok (.bipush 105, 2) := by decide +kernel
theorem dX6_readCommand_172 : decode cX6_readCommand 172 = .ok (.if_icmp .ne 8, 3) := by decide +kernel
theorem dX6_readCommand_175 : decode cX6_readCommand 175 = .ok (.ldc 236, 2) := by decide +kernel
theorem dX6_readCommand_177 : decode cX6_readCommand 177 = .ok (.goto 27, 3) := by decide +kernel
theorem dX6_readCommand_180 : decode cX6_readCommand 180 = .ok (.iload_n 1, 1) := by decide +kernel
theorem dX6_readCommand_181 : decode cX6_readCommand 181 = .ok (.bipush 111, 2) := by decide +kernel
theorem dX6_readCommand_183 : decode cX6_readCommand 183 = .ok (.if_icmp .ne 8, 3) := by decide +kernel
theorem dX6_readCommand_186 : decode cX6_readCommand 186 = .ok (.ldc 238, 2) := by decide +kernel
theorem dX6_readCommand_188 : decode cX6_readCommand 188 = .ok (.goto 16, 3) := by decide +kernel
theorem dX6_readCommand_191 : decode cX6_readCommand 191 = .ok (.iload_n 1, 1) := by decide +kernel
theorem dX6_readCommand_192 : decode cX6_readCommand 192 = .ok (.bipush 102, 2) := by decide +kernel
theorem dX6_readCommand_194 : decode cX6_readCommand 194 = .ok (.if_icmp .ne 8, 3) := by decide +kernel
theorem dX6_readCommand_197 : decode cX6_readCommand 197 = .ok (.ldc 240, 2) := by decide +kernel
theorem dX6_readCommand_199 : decode cX6_readCommand 199 = .ok (.goto 5, 3) := by decide +kernel
theorem dX6_readCommand_202 : decode cX6_readCommand 202 = .ok (.ldc 242, 2) := by decide +kernel
theorem dX6_readCommand_204 : decode cX6_readCommand 204 = .ok (.invokevirtual 225, 3) := by decide +kernel
theorem dX6_readCommand_207 : decode cX6_readCommand 207 = .ok (.aload_n 0, 1) := by decide +kernel
theorem dX6_readCommand_208 : decode cX6_readCommand 208 = .ok (.getfield 36, 3) := by decide +kernel
theorem dX6_readCommand_211 : decode cX6_readCommand 211 = .ok (.iload_n 2, 1) := by decide +kernel
theorem dX6_readCommand_212 : decode cX6_readCommand 212 = .ok (.iconst 1, 1) := by decide +kernel
theorem dX6_readCommand_213 : decode cX6_readCommand 213 = .ok (.iadd, 1) := by decide +kernel
theorem dX6_readCommand_214 : decode cX6_readCommand 214 = .ok (.aload_n 0, 1) := by decide +kernel
theorem dX6_readCommand_215 : decode cX6_readCommand 215 = .ok (.iload_n 1, 1) := by decide +kernel
theorem dX6_readCommand_216 : decode cX6_readCommand 216 = .ok (.bipush 122, 2) := by decide +kernel
theorem dX6_readCommand_218 : decode cX6_readCommand 218 = .ok (.if_icmp .ne 7, 3) := by decide +kernel
theorem dX6_readCommand_221 : decode cX6_readCommand 221 = .ok (.iconst 4, 1) := by decide +kernel
theorem dX6_readCommand_222 : decode cX6_readCommand 222 = .ok (.goto 4, 3) := by decide +kernel
theorem dX6_readCommand_225 : decode cX6_readCommand 225 = .ok (.iconst 1, 1) := by decide +kernel
theorem dX6_readCommand_226 : decode cX6_readCommand 226 = .ok (.invokevirtual 231, 3) := by decide +kernel
theorem dX6_readCommand_229 : decode cX6_readCommand 229 = .ok (.iastore, 1) := by decide +kernel
theorem dX6_readCommand_230 : decode cX6_readCommand 230 = .ok (.aload_n 0, 1) := by decide +kernel
theorem dX6_readCommand_231 : decode cX6_readCommand 231 = .ok (.ldc 244, 2) := by decide +kernel
theorem dX6_readCommand_233 : decode cX6_readCommand 233 = .ok (.invokevirtual 225, 3) := by decide +kernel
theorem dX6_readCommand_236 : decode cX6_readCommand 236 = .ok (.aload_n 0, 1) := by decide +kernel
theorem dX6_readCommand_237 : decode cX6_readCommand 237 = .ok (.getfield 36, 3) := by decide +kernel
theorem dX6_readCommand_240 : decode cX6_readCommand 240 = .ok (.iload_n 2, 1) := by decide +kernel
theorem dX6_readCommand_241 : decode cX6_readCommand 241 = .ok (.iconst 2, 1) := by decide +kernel
theorem dX6_readCommand_242 : decode cX6_readCommand 242 = .ok (.iadd, 1) := by decide +kernel
theorem dX6_readCommand_243 : decode cX6_readCommand 243 = .ok (.aload_n 0, 1) := by decide +kernel
theorem dX6_readCommand_244 : decode cX6_readCommand 244 = .ok (.iload_n 1, 1) := by decide +kernel
theorem dX6_readCommand_245 : decode cX6_readCommand 245 = .ok (.bipush 122, 2) := by decide +kernel
theorem dX6_readCommand_247 : decode cX6_readCommand 247 = .ok (.if_icmp .ne 7, 3) := by decide +kernel
theorem dX6_readCommand_250 : decode cX6_readCommand 250 = .ok (.iconst 1, 1) := by decide +kernel
theorem dX6_readCommand_251 : decode cX6_readCommand 251 = .ok (.goto 4, 3) := by decide +kernel
theorem dX6_readCommand_254 : decode cX6_readCommand 254 = .ok (.iconst 4, 1) := by decide +kernel
theorem dX6_readCommand_255 : decode cX6_readCommand 255 = .ok (.invokevirtual 231, 3) := by decide +kernel
theorem dX6_readCommand_258 : decode cX6_readCommand 258 = .ok (.iastore, 1) := by decide +kernel
theorem dX6_readCommand_259 : decode cX6_readCommand 259 = .ok (.return_, 1) := by decide +kernel
theorem dX6_does_0 : decode cX6_does 0 = .ok (.aload_n 0, 1) := by decide +kernel
theorem dX6_does_1 : decode cX6_does 1 = .ok (.getfield 36, 3) := by decide +kernel
theorem dX6_does_4 : decode cX6_does 4 = .ok (.iconst 3, 1) := by decide +kernel
theorem dX6_does_5 : decode cX6_does 5 = .ok (.iload_n 1, 1) := by decide +kernel
theorem dX6_does_6 : decode cX6_does 6 = .ok (.imul, 1) := by decide +kernel
theorem dX6_does_7 : decode cX6_does 7 = .ok (.iconst 1, 1) := by decide +kernel
theorem dX6_does_8 : decode cX6_does 8 = .ok (.iadd, 1) := by decide +kernel
theorem dX6_does_9 : decode cX6_does 9 = .ok (.iaload, 1) := by decide +kernel
theorem dX6_does_10 : decode cX6_does 10 = .ok (.istore_n 2, 1) := by decide +kernel
theorem dX6_does_11 : decode cX6_does 11 = .ok (.aload_n 0, 1) := by decide +kernel
theorem dX6_does_12 : decode cX6_does 12 = .ok (.getfield 36, 3) := by decide +kernel
theorem dX6_does_15 : decode cX6_does 15 = .ok (.iconst 3, 1) := by decide +kernel
theorem dX6_does_16 : decode cX6_does 16 = .ok (.iload_n 1, 1) := by decide +kernel
theorem dX6_does_17 : decode cX6_does 17 = .ok (.imul, 1) := by decide +kernel
theorem dX6_does_18 : decode cX6_does 18 = .ok (.iconst 2, 1) := by decide +kernel
theorem dX6_does_19 : decode cX6_does 19 = .ok (.iadd, 1) := by decide +kernel
theorem dX6_does_20 : decode cX6_does 20 = .ok (.iaload, 1) := by decide +kernel
theorem dX6_does_21 : decode cX6_does 21 = .ok (.istore_n 3, 1) := by decide +kernel
theorem dX6_does_22 : decode cX6_does 22 = .ok (.aload_n 0, 1) := by decide +kernel
theorem dX6_does_23 : decode cX6_does 23 = .ok (.getfield 36, 3) := by decide +kernel
theorem dX6_does_26 : decode cX6_does 26 = .ok (.iconst 3, 1) := by decide +kernel
theorem dX6_does_27 : decode cX6_does 27 = .ok (.iload_n 1, 1) := by decide +kernel
theorem dX6_does_28 : decode cX6_does 28 = .ok (.imul, 1) := by decide +kernel
theorem dX6_does_29 : decode cX6_does 29 = .ok (.iaload, 1) := by decide +kernel
theorem dX6_does_30 : decode cX6_does 30 = .ok (.lookupswitch 131 #[(99, 58), (102, 120), (105, 98), (108, 87), (111, 109), (119, 77)], 58) := by decide +kernel
theorem dX6_does_88 : decode cX6_does 88 = .ok (.aload_n 0, 1) := by decide +kernel
theorem dX6_does_89 : decode cX6_does 89 = .ok (.iload_n 2, 1) := by decide +kernel
theorem dX6_does_90 : decode cX6_does 90 = .ok (.iconst 1, 1) := by decide +kernel
theorem dX6_does_91 : decode cX6_does 91 = .ok (.if_icmp .ne 7, 3) := by decide +kernel
theorem dX6_does_94 : decode cX6_does 94 = .ok (.iconst 1, 1) := by decide +kernel
theorem dX6_does_95 : decode cX6_does 95 = .ok (.goto 4, 3) := by decide +kernel
theorem dX6_does_98 : decode cX6_does 98 = .ok (.iconst 0, 1) := by decide +kernel
theorem dX6_does_99 : decode cX6_does 99 = .ok (.invokevirtual 106, 3) := by decide +kernel
theorem dX6_does_102 : decode cX6_does 102 = .ok (.istore 4, 2) := by decide +kernel
theorem dX6_does_104 : decode cX6_does 104 = .ok (.goto 65, 3) := by decide +kernel
theorem dX6_does_107 : decode cX6_does 107 = .ok (.aload_n 0, 1) := by decide +kernel
theorem dX6_does_108 : decode cX6_does 108 = .ok (.iload_n 2, 1) := by decide +kernel
theorem dX6_does_109 : decode cX6_does 109 = .ok (.invokevirtual 146, 3) := by decide +kernel
theorem dX6_does_112 : decode cX6_does 112 = .ok (.istore 4, 2) := by decide +kernel
theorem dX6_does_114 : decode cX6_does 114 = .ok (.goto 55, 3) := by decide +kernel
theorem dX6_does_117 : decode cX6_does 117 = .ok (.aload_n 0, 1) := by decide +kernel
theorem dX6_does_118 : decode cX6_does 118 = .ok (.iload_n 2, 1) := by decide +kernel
theorem dX6_does_119 : decode cX6_does 119 = .ok (.iload_n 3, 1) := by decide +kernel
theorem dX6_does_120 : decode cX6_does 120 = .ok (.invokevirtual 117, 3) := by decide +kernel
theorem dX6_does_123 : decode cX6_does 123 = .ok (.istore 4, 2) := by decide +kernel
theorem dX6_does_125 : decode cX6_does 125 = .ok (.goto 44, 3) := by decide +kernel
theorem dX6_does_128 : decode cX6_does 128 = .ok (.aload_n 0, 1) := by decide +kernel
theorem dX6_does_129 : decode cX6_does 129 = .ok (.iload_n 2, 1) := by decide +kernel
theorem dX6_does_130 : decode cX6_does 130 = .ok (.iload_n 3, 1) := by decide +kernel
theorem dX6_does_131 : decode cX6_does 131 = .ok (.invokevirtual 131, 3) := by decide +kernel
theorem dX6_does_134 : decode cX6_does 134 = .ok (.istore 4, 2) := by decide +kernel
theorem dX6_does_136 : decode cX6_does 136 = .ok (.goto 33, 3) := by decide +kernel
theorem dX6_does_139 : decode cX6_does 139 = .ok (.aload_n 0, 1) := by decide +kernel
theorem dX6_does_140 : decode cX6_does 140 = .ok (.iload_n 2, 1) := by decide +kernel
theorem dX6_does_141 : decode cX6_does 141 = .ok (.iload_n 3, 1) := by decide +kernel
theorem dX6_does_142 : decode cX6_does 142 = .ok (.invokevirtual 137, 3) := by decide +kernel
theorem dX6_does_145 : decode cX6_does 145 = .ok (.istore 4, 2) := by decide +kernel
theorem dX6_does_147 : decode cX6_does 147 = .ok (.goto 22, 3) := by decide +kernel
theorem dX6_does_150 : decode cX6_does 150 = .ok (.aload_n 0, 1) := by decide +kernel
theorem dX6_does_151 : decode cX6_does 151 = .ok (.iload_n 2, 1) := by decide +kernel
theorem dX6_does_152 : decode cX6_does 152 = .ok (.iload_n 3, 1) := by decide +kernel
theorem dX6_does_153 : decode cX6_does 153 = .ok (.invokevirtual 140, 3) := by decide +kernel
theorem dX6_does_156 : decode cX6_does 156 = .ok (.istore 4, 2) := by decide +kernel
theorem dX6_does_158 : decode cX6_does 158 = .ok (.goto 11, 3) := by decide +kernel
theorem dX6_does_161 : decode cX6_does 161 = .ok (.aload_n 0, 1) := by decide +kernel
theorem dX6_does_162 : decode cX6_does 162 = .ok (.iload_n 2, 1) := by decide +kernel
theorem dX6_does_163 : decode cX6_does 163 = .ok (.iload_n 3, 1) := by decide +kernel
theorem dX6_does_164 : decode cX6_does 164 = .ok (.invokevirtual 143, 3) := by decide +kernel
theorem dX6_does_167 : decode cX6_does 167 = .ok (.istore 4, 2) := by decide +kernel
theorem dX6_does_169 : decode cX6_does 169 = .ok (.return_, 1) := by decide +kernel
theorem dX6_runScript_0 : decode cX6_runScript 0 = .ok (.aload_n 0, 1) := by decide +kernel
theorem dX6_runScript_1 : decode cX6_runScript 1 = .ok (.iconst 0, 1) := by decide +kernel
theorem dX6_runScript_2 : decode cX6_runScript 2 = .ok (.putfield 198, 3) := by decide +kernel
theorem dX6_runScript_5 : decode cX6_runScript 5 = .ok (.aload_n 0, 1) := by decide +kernel
theorem dX6_runScript_6 : decode cX6_runScript 6 = .ok (.iconst 0, 1) := by decide +kernel
theorem dX6_runScript_7 : decode cX6_runScript 7 = .ok (.putfield 205, 3) := by decide +kernel
theorem dX6_runScript_10 : decode cX6_runScript 10 = .ok (.aload_n 0, 1) := by decide +kernel
theorem dX6_runScript_11 : decode cX6_runScript 11 = .ok (.iconst 0, 1) := by decide +kernel
theorem dX6_runScript_12 : decode cX6_runScript 12 = .ok (.putfield 220, 3) := by decide +kernel
theorem dX6_runScript_15 : decode cX6_runScript 15 = .ok (.aload_n 0, 1) := by decide +kernel
theorem dX6_runScript_16 : decode cX6_runScript 16 = .ok (.invokevirtual 246, 3) := by decide +kernel
theorem dX6_runScript_19 : decode cX6_runScript 19 = .ok (.aload_n 0, 1) := by decide +kernel
theorem dX6_runScript_20 : decode cX6_runScript 20 = .ok (.getfield 205, 3) := by decide +kernel
theorem dX6_runScript_23 : decode cX6_runScript 23 = .ok (.ifCond .ne 29, 3) := by decide +kernel
theorem dX6_runScript_26 : decode cX6_runScript 26 = .ok (.aload_n 0, 1) := by decide +kernel
theorem dX6_runScript_27 : decode cX6_runScript 27 = .ok (.invokevirtual 209, 3) := by decide +kernel
theorem dX6_runScript_30 : decode cX6_runScript 30 = .ok (.bipush 59, 2) := by decide +kernel
theorem dX6_runScript_32 : decode cX6_runScript 32 = .ok (.if_icmp .ne 20, 3) := by decide +kernel
theorem dX6_runScript_35 : decode cX6_runScript 35 = .ok (.aload_n 0, 1) := by decide +kernel
theorem dX6_runScript_36 : decode cX6_runScript 36 = .ok (.dup, 1) := by decide +kernel
theorem dX6_runScript_37 : decode cX6_runScript 37 = .ok (.getfield 198, 3) := by decide +kernel
theorem dX6_runScript_40 : decode cX6_runScript 40 = .ok (.iconst 1, 1) := by decide +kernel
theorem dX6_runScript_41 : decode cX6_runScript 41 = .ok (.iadd, 1) := by decide +kernel
theorem dX6_runScript_42 : decode cX6_runScript 42 = .ok (.putfield 198, 3) := by decide +kernel
theorem dX6_runScript_45 : decode cX6_runScript 45 = .ok (.aload_n 0, 1) := by decide +kernel
theorem dX6_runScript_46 : decode cX6_runScript 46 = .ok (.invokevirtual 246, 3) := by decide +kernel
theorem dX6_runScript_49 : decode cX6_runScript 49 = .ok (.goto (-30), 3) := by decide +kernel
theorem dX6_runScript_52 : decode cX6_runScript 52 = .ok (.aload_n 0, 1) := by decide +kernel
theorem dX6_runScript_53 : decode cX6_runScript 53 = .ok (.aload_n 0, 1) := by decide +kernel
theorem dX6_runScript_54 : decode cX6_runScript 54 = .ok (.getfield 205, 3) := by decide +kernel
theorem dX6_runScript_57 : decode cX6_runScript 57 = .ok (.ifCond .ne 14, 3) := by decide +kernel
theorem dX6_runScript_60 : decode cX6_runScript 60 = .ok (.aload_n 0, 1) := by decide +kernel
theorem dX6_runScript_61 : decode cX6_runScript 61 = .ok (.getfield 198, 3) := by decide +kernel
theorem dX6_runScript_64 : decode cX6_runScript 64 = .ok (.aload_n 0, 1) := by decide +kernel
theorem dX6_runScript_65 : decode cX6_runScript 65 = .ok (.getfield 195, 3) := by decide +kernel
theorem dX6_runScript_68 : decode cX6_runScript 68 = .ok (.if_icmp .ge 7, 3) := by decide +kernel
theorem dX6_runScript_71 : decode cX6_runScript 71 = .ok (.iconst 1, 1) := by decide +kernel
theorem dX6_runScript_72 : decode cX6_runScript 72 = .ok (.goto 4, 3) := by decide +kernel
theorem dX6_runScript_75 : decode cX6_runScript 75 = .ok (.iconst 0, 1) := by decide +kernel
theorem dX6_runScript_76 : decode cX6_runScript 76 = .ok (.putfield 205, 3) := by decide +kernel
theorem dX6_runScript_79 : decode cX6_runScript 79 = .ok (.aload_n 0, 1) := by decide +kernel
theorem dX6_runScript_80 : decode cX6_runScript 80 = .ok (.aload_n 0, 1) := by decide +kernel
theorem dX6_runScript_81 : decode cX6_runScript 81 = .ok (.getfield 205, 3) := by decide +kernel
theorem dX6_runScript_84 : decode cX6_runScript 84 = .ok (.ifCond .eq 10, 3) := by decide +kernel
theorem dX6_runScript_87 : decode cX6_runScript 87 = .ok (.aload_n 0, 1) := by decide +kernel
theorem dX6_runScript_88 : decode cX6_runScript 88 = .ok (.getfield 198, 3) := by decide +kernel
theorem dX6_runScript_91 : decode cX6_runScript 91 = .ok (.goto 7, 3) := by decide +kernel
theorem dX6_runScript_94 : decode cX6_runScript 94 = .ok (.aload_n 0, 1) := by decide +kernel
theorem dX6_runScript_95 : decode cX6_runScript 95 = .ok (.getfield 29, 3) := by decide +kernel
theorem dX6_runScript_98 : decode cX6_runScript 98 = .ok (.putfield 29, 3) := by decide +kernel
theorem dX6_runScript_101 : decode cX6_runScript 101 = .ok (.aload_n 0, 1) := by decide +kernel
theorem dX6_runScript_102 : decode cX6_runScript 102 = .ok (.iconst 0, 1) := by decide +kernel
theorem dX6_runScript_103 : decode cX6_runScript 103 = .ok (.putfield 195, 3) := by decide +kernel
theorem dX6_runScript_106 : decode cX6_runScript 106 = .ok (.aload_n 0, 1) := by decide +kernel
theorem dX6_runScript_107 : decode cX6_runScript 107 = .ok (.getfield 205, 3) := by decide +kernel
theorem dX6_runScript_110 : decode cX6_runScript 110 = .ok (.ifCond .eq 9, 3) := by decide +kernel
theorem dX6_runScript_113 : decode cX6_runScript 113 = .ok (.aload_n 0, 1) := by decide +kernel
theorem dX6_runScript_114 : decode cX6_runScript 114 = .ok (.iconst 1, 1) := by decide +kernel
theorem dX6_runScript_115 : decode cX6_runScript 115 = .ok (.invokevirtual 100, 3) := by decide +kernel
theorem dX6_runScript_118 : decode cX6_runScript 118 = .ok (.ireturn, 1) := by decide +kernel
theorem dX6_runScript_119 : decode cX6_runScript 119 = .ok (.aload_n 0, 1) := by decide +kernel
theorem dX6_runScript_120 : decode cX6_runScript 120 = .ok (.invokevirtual 103, 3) := by decide +kernel
theorem dX6_runScript_123 : decode cX6_runScript 123 = .ok (.iconst 0, 1) := by decide +kernel
theorem dX6_runScript_124 : decode cX6_runScript 124 = .ok (.istore_n 1, 1) := by decide +kernel
theorem dX6_runScript_125 : decode cX6_runScript 125 = .ok (.iload_n 1, 1) := by decide +kernel
theorem dX6_runScript_126 : decode cX6_runScript 126 = .ok (.aload_n 0, 1) := by decide +kernel
theorem dX6_runScript_127 : decode cX6_runScript 127 = .ok (.getfield 220, 3) := by decide +kernel
theorem dX6_runScript_130 : decode cX6_runScript 130 = .ok (.if_icmp .ge 36, 3) := by decide +kernel
theorem dX6_runScript_133 : decode cX6_runScript 133 = .ok (.aload_n 0, 1) := by decide +kernel
theorem dX6_runScript_134 : decode cX6_runScript 134 = .ok (.iload_n 1, 1) := by decide +kernel
theorem dX6_runScript_135 : decode cX6_runScript 135 = .ok (.invokevirtual 249, 3) := by decide +kernel
theorem dX6_runScript_138 : decode cX6_runScript 138 = .ok (.aload_n 0, 1) := by decide +kernel
theorem dX6_runScript_139 : decode cX6_runScript 139 = .ok (.getfield 39, 3) := by decide +kernel
theorem dX6_runScript_142 : decode cX6_runScript 142 = .ok (.ifCond .le 18, 3) := by decide +kernel
theorem dX6_runScript_145 : decode cX6_runScript 145 = .ok (.aload_n 0, 1) := by decide +kernel
theorem dX6_runScript_146 : decode cX6_runScript 146 = .ok (.iload_n 1, 1) := by decide +kernel
theorem dX6_runScript_147 : decode cX6_runScript 147 = .ok (.putfield 33, 3) := by decide +kernel
theorem dX6_runScript_150 : decode cX6_runScript 150 = .ok (.aload_n 0, 1) := by decide +kernel
theorem dX6_runScript_151 : decode cX6_runScript 151 = .ok (.aload_n 0, 1) := by decide +kernel
theorem dX6_runScript_152 : decode cX6_runScript 152 = .ok (.iconst 2, 1) := by decide +kernel
theorem dX6_runScript_153 : decode cX6_runScript 153 = .ok (.invokevirtual 100, 3) := by decide +kernel
theorem dX6_runScript_156 : decode cX6_runScript 156 = .ok (.invokevirtual 110, 3) := by decide +kernel
theorem dX6_runScript_159 : decode cX6_runScript 159 = .ok (.ireturn, 1) := by decide +kernel
theorem dX6_runScript_160 : decode cX6_runScript 160 = .ok (.iinc 1 1, 3) := by decide +kernel
theorem dX6_runScript_163 : decode cX6_runScript 163 = .ok (.goto (-38), 3) := by decide +kernel
theorem dX6_runScript_166 : decode cX6_runScript 166 = .ok (.aload_n 0, 1) := by decide +kernel
theorem dX6_runScript_167 : decode cX6_runScript 167 = .ok (.aload_n 0, 1) := by decide +kernel
theorem dX6_runScript_168 : decode cX6_runScript 168 = .ok (.getfield 220, 3) := by decide +kernel
theorem dX6_runScript_171 : decode cX6_runScript 171 = .ok (.invokevirtual 110, 3) := by decide +kernel
theorem dX6_runScript_174 : decode cX6_runScript 174 = .ok (.ireturn, 1) := by decide +kernel
theorem dX6_errorPosition_0 : decode cX6_errorPosition 0 = .ok (.aload_n 0, 1) := by decide +kernel
theorem dX6_errorPosition_1 : decode cX6_errorPosition 1 = .ok (.aload_n 0, 1) := by decide +kernel
theorem dX6_errorPosition_2 : decode cX6_errorPosition 2 = .ok (.getfield 29, 3) := by decide +kernel
theorem dX6_errorPosition_5 : decode cX6_errorPosition 5 = .ok (.ifCond .lt 7, 3) := by decide +kernel
theorem dX6_errorPosition_8 : decode cX6_errorPosition 8 = .ok (.iconst 1, 1) := by decide +kernel
theorem dX6_errorPosition_9 : decode cX6_errorPosition 9 = .ok (.goto 4, 3) := by decide +kernel
theorem dX6_errorPosition_12 : decode cX6_errorPosition 12 = .ok (.iconst 0, 1) := by decide +kernel
theorem dX6_errorPosition_13 : decode cX6_errorPosition 13 = .ok (.invokevirtual 149, 3) := by decide +kernel
theorem dX6_errorPosition_16 : decode cX6_errorPosition 16 = .ok (.ifCond .eq 10, 3) := by decide +kernel
theorem dX6_errorPosition_19 : decode cX6_errorPosition 19 = .ok (.aload_n 0, 1) := by decide +kernel
theorem dX6_errorPosition_20 : decode cX6_errorPosition 20 = .ok (.getfield 29, 3) := by decide +kernel
theorem dX6_errorPosition_23 : decode cX6_errorPosition 23 = .ok (.goto 4, 3) := by decide +kernel
theorem dX6_errorPosition_26 : decode cX6_errorPosition 26 = .ok (.iconst 0, 1) := by decide +kernel
theorem dX6_errorPosition_27 : decode cX6_errorPosition 27 = .ok (.ireturn, 1) := by decide +kernel
theorem dX6_failedCommand_0 : decode cX6_failedCommand 0 = .ok (.aload_n 0, 1) := by decide +kernel
theorem dX6_failedCommand_1 : decode cX6_failedCommand 1 = .ok (.aload_n 0, 1) := by decide +kernel
theorem dX6_failedCommand_2 : decode cX6_failedCommand 2 = .ok (.getfield 33, 3) := by decide +kernel
theorem dX6_failedCommand_5 : decode cX6_failedCommand 5 = .ok (.ifCond .lt 7, 3) := by decide +kernel
theorem dX6_failedCommand_8 : decode cX6_failedCommand 8 = .ok (.iconst 1, 1) := by decide +kernel
theorem dX6_failedCommand_9 : decode cX6_failedCommand 9 = .ok (.goto 4, 3) := by decide +kernel
theorem dX6_failedCommand_12 : decode cX6_failedCommand 12 = .ok (.iconst 0, 1) := by decide +kernel
theorem dX6_failedCommand_13 : decode cX6_failedCommand 13 = .ok (.invokevirtual 149, 3) := by decide +kernel
theorem dX6_failedCommand_16 : decode cX6_failedCommand 16 = .ok (.ifCond .eq 10, 3) := by decide +kernel
theorem dX6_failedCommand_19 : decode cX6_failedCommand 19 = .ok (.aload_n 0, 1) := by decide +kernel
theorem dX6_failedCommand_20 : decode cX6_failedCommand 20 = .ok (.getfield 33, 3) := by decide +kernel
theorem dX6_failedCommand_23 : decode cX6_failedCommand 23 = .ok (.goto 4, 3) := by decide +kernel
theorem dX6_failedCommand_26 : decode cX6_failedCommand 26 = .ok (.iconst 0, 1) := by decide +kernel
theorem dX6_failedCommand_27 : decode cX6_failedCommand 27 = .ok (.ireturn, 1) := by decide +kernel
theorem dX6_undo_0 : decode cX6_undo 0 = .ok (.aload_n 0, 1) := by decide +kernel
theorem dX6_undo_1 : decode cX6_undo 1 = .ok (.aload_n 0, 1) := by decide +kernel
theorem dX6_undo_2 : decode cX6_undo 2 = .ok (.getfield 48, 3) := by decide +kernel
theorem dX6_undo_5 : decode cX6_undo 5 = .ok (.ifCond .ne 7, 3) := by decide +kernel
theorem dX6_undo_8 : decode cX6_undo 8 = .ok (.iconst 1, 1) := by decide +kernel
theorem dX6_undo_9 : decode cX6_undo 9 = .ok (.goto 4, 3) := by decide +kernel
theorem dX6_undo_12 : decode cX6_undo 12 = .ok (.iconst 0, 1) := by decide +kernel
theorem dX6_undo_13 : decode cX6_undo 13 = .ok (.putfield 39, 3) := by decide +kernel
theorem dX6_undo_16 : decode cX6_undo 16 = .ok (.aload_n 0, 1) := by decide +kernel
theorem dX6_undo_17 : decode cX6_undo 17 = .ok (.getfield 39, 3) := by decide +kernel
theorem dX6_undo_20 : decode cX6_undo 20 = .ok (.ifCond .le 5, 3) := by decide +kernel
theorem dX6_undo_23 : decode cX6_undo 23 = .ok (.iconst 0, 1) := by decide +kernel
theorem dX6_undo_24 : decode cX6_undo 24 = .ok (.ireturn, 1) := by decide +kernel
theorem dX6_undo_25 : decode cX6_undo 25 = .ok (.aload_n 0, 1) := by decide +kernel
theorem dX6_undo_26 : decode cX6_undo 26 = .ok (.dup, 1) := by decide +kernel
theorem dX6_undo_27 : decode cX6_undo 27 = .ok (.getfield 48, 3) := by decide +kernel
theorem dX6_undo_30 : decode cX6_undo 30 = .ok (.iconst 1, 1) := by decide +kernel
theorem dX6_undo_31 : decode cX6_undo 31 = .ok (.isub, 1) := by decide +kernel
theorem dX6_undo_32 : decode cX6_undo 32 = .ok (.putfield 48, 3) := by decide +kernel
theorem dX6_undo_35 : decode cX6_undo 35 = .ok (.aload_n 0, 1) := by decide +kernel
theorem dX6_undo_36 : decode cX6_undo 36 = .ok (.getfield 19, 3) := by decide +kernel
theorem dX6_undo_39 : decode cX6_undo 39 = .ok (.sipush 169, 3) := by decide +kernel
theorem dX6_undo_42 : decode cX6_undo 42 = .ok (.aload_n 0, 1) := by decide +kernel
theorem dX6_undo_43 : decode cX6_undo 43 = .ok (.getfield 48, 3) := by decide +kernel
theorem dX6_undo_46 : decode cX6_undo 46 = .ok (.imul, 1) := by decide +kernel
theorem dX6_undo_47 : decode cX6_undo 47 = .ok (.aload_n 0, 1) := by decide +kernel
theorem dX6_undo_48 : decode cX6_undo 48 = .ok (.getfield 9, 3) := by decide +kernel
theorem dX6_undo_51 : decode cX6_undo 51 = .ok (.iconst 0, 1) := by decide +kernel
theorem dX6_undo_52 : decode cX6_undo 52 = .ok (.sipush 169, 3) := by decide +kernel
theorem dX6_undo_55 : decode cX6_undo 55 = .ok (.invokestatic 42, 3) := by decide +kernel
theorem dX6_undo_58 : decode cX6_undo 58 = .ok (.aload_n 0, 1) := by decide +kernel
theorem dX6_undo_59 : decode cX6_undo 59 = .ok (.getfield 48, 3) := by decide +kernel
theorem dX6_undo_62 : decode cX6_undo 62 = .ok (.ireturn, 1) := by decide +kernel
theorem dX6_save_0 : decode cX6_save 0 = .ok (.aload_n 0, 1) := by decide +kernel
theorem dX6_save_1 : decode cX6_save 1 = .ok (.iconst 0, 1) := by decide +kernel
theorem dX6_save_2 : decode cX6_save 2 = .ok (.putfield 39, 3) := by decide +kernel
theorem dX6_save_5 : decode cX6_save 5 = .ok (.aload_n 0, 1) := by decide +kernel
theorem dX6_save_6 : decode cX6_save 6 = .ok (.getfield 9, 3) := by decide +kernel
theorem dX6_save_9 : decode cX6_save 9 = .ok (.iconst 0, 1) := by decide +kernel
theorem dX6_save_10 : decode cX6_save 10 = .ok (.aload_n 0, 1) := by decide +kernel
theorem dX6_save_11 : decode cX6_save 11 = .ok (.getfield 16, 3) := by decide +kernel
theorem dX6_save_14 : decode cX6_save 14 = .ok (.iconst 0, 1) := by decide +kernel
theorem dX6_save_15 : decode cX6_save 15 = .ok (.sipush 169, 3) := by decide +kernel
theorem dX6_save_18 : decode cX6_save 18 = .ok (.invokestatic 42, 3) := by decide +kernel
theorem dX6_save_21 : decode cX6_save 21 = .ok (.aload_n 0, 1) := by decide +kernel
theorem dX6_save_22 : decode cX6_save 22 = .ok (.iconst 1, 1) := by decide +kernel
theorem dX6_save_23 : decode cX6_save 23 = .ok (.putfield 252, 3) := by decide +kernel
theorem dX6_save_26 : decode cX6_save 26 = .ok (.aload_n 0, 1) := by decide +kernel
theorem dX6_save_27 : decode cX6_save 27 = .ok (.getfield 9, 3) := by decide +kernel
theorem dX6_save_30 : decode cX6_save 30 = .ok (.iconst 0, 1) := by decide +kernel
theorem dX6_save_31 : decode cX6_save 31 = .ok (.iaload, 1) := by decide +kernel
theorem dX6_save_32 : decode cX6_save 32 = .ok (.ireturn, 1) := by decide +kernel
theorem dX6_restore_0 : decode cX6_restore 0 = .ok (.aload_n 0, 1) := by decide +kernel
theorem dX6_restore_1 : decode cX6_restore 1 = .ok (.aload_n 0, 1) := by decide +kernel
theorem dX6_restore_2 : decode cX6_restore 2 = .ok (.getfield 252, 3) := by decide +kernel
theorem dX6_restore_5 : decode cX6_restore 5 = .ok (.ifCond .eq 7, 3) := by decide +kernel
theorem dX6_restore_8 : decode cX6_restore 8 = .ok (.iconst 0, 1) := by decide +kernel
theorem dX6_restore_9 : decode cX6_restore 9 = .ok (.goto 4, 3) := by decide +kernel
theorem dX6_restore_12 : decode cX6_restore 12 = .ok (.iconst 1, 1) := by decide +kernel
theorem dX6_restore_13 : decode cX6_restore 13 = .ok (.putfield 39, 3) := by decide +kernel
theorem dX6_restore_16 : decode cX6_restore 16 = .ok (.aload_n 0, 1) := by decide +kernel
theorem dX6_restore_17 : decode cX6_restore 17 = .ok (.getfield 39, 3) := by decide +kernel
theorem dX6_restore_20 : decode cX6_restore 20 = .ok (.ifCond .le 5, 3) := by decide +kernel
theorem dX6_restore_23 : decode cX6_restore 23 = .ok (.iconst 0, 1) := by decide +kernel
theorem dX6_restore_24 : decode cX6_restore 24 = .ok (.ireturn, 1) := by decide +kernel
theorem dX6_restore_25 : decode cX6_restore 25 = .ok (.aload_n 0, 1) := by decide +kernel
theorem dX6_restore_26 : decode cX6_restore 26 = .ok (.getfield 16, 3) := by decide +kernel
theorem dX6_restore_29 : decode cX6_restore 29 = .ok (.iconst 0, 1) := by decide +kernel
theorem dX6_restore_30 : decode cX6_restore 30 = .ok (.aload_n 0, 1) := by decide +kernel
theorem dX6_restore_31 : decode cX6_restore 31 = .ok (.getfield 9, 3) := by decide +kernel
theorem dX6_restore_34 : decode cX6_restore 34 = .ok (.iconst 0, 1) := by decide +kernel
theorem dX6_restore_35 : decode cX6_restore 35 = .ok (.sipush 169, 3) := by decide +kernel
theorem dX6_restore_38 : decode cX6_restore 38 = .ok (.invokestatic 42, 3) := by decide +kernel
theorem dX6_restore_41 : decode cX6_restore 41 = .ok (.aload_n 0, 1) := by decide +kernel
theorem dX6_restore_42 : decode cX6_restore 42 = .ok (.iconst 0, 1) := by decide +kernel
theorem dX6_restore_43 : decode cX6_restore 43 = .ok (.putfield 48, 3) := by decide +kernel
theorem dX6_restore_46 : decode cX6_restore 46 = .ok (.aload_n 0, 1) := by decide +kernel
theorem dX6_restore_47 : decode cX6_restore 47 = .ok (.getfield 9, 3) := by decide +kernel
theorem dX6_restore_50 : decode cX6_restore 50 = .ok (.iconst 0, 1) := by decide +kernel
theorem dX6_restore_51 : decode cX6_restore 51 = .ok (.iaload, 1) := by decide +kernel
theorem dX6_restore_52 : decode cX6_restore 52 = .ok (.ireturn, 1) := by decide +kernel
