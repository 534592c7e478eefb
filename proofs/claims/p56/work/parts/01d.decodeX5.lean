theorem dX5_init_0 : decode cX5_init 0 = .ok (.aload_n 0, 1) := by decide +kernel
theorem dX5_init_1 : decode cX5_init 1 = .ok (.invokespecial 1, 3) := by decide +kernel
theorem dX5_init_4 : decode cX5_init 4 = .ok (.aload_n 0, 1) := by decide +kernel
theorem dX5_init_5 : decode cX5_init 5 = .ok (.new 7, 3) := by decide +kernel
theorem dX5_init_8 : decode cX5_init 8 = .ok (.dup, 1) := by decide +kernel
theorem dX5_init_9 : decode cX5_init 9 = .ok (.invokespecial 9, 3) := by decide +kernel
theorem dX5_init_12 : decode cX5_init 12 = .ok (.putfield 10, 3) := by decide +kernel
theorem dX5_init_15 : decode cX5_init 15 = .ok (.aload_n 0, 1) := by decide +kernel
theorem dX5_init_16 : decode cX5_init 16 = .ok (.new 7, 3) := by decide +kernel
theorem dX5_init_19 : decode cX5_init 19 = .ok (.dup, 1) := by decide +kernel
theorem dX5_init_20 : decode cX5_init 20 = .ok (.invokespecial 9, 3) := by decide +kernel
theorem dX5_init_23 : decode cX5_init 23 = .ok (.putfield 16, 3) := by decide +kernel
theorem dX5_init_26 : decode cX5_init 26 = .ok (.aload_n 0, 1) := by decide +kernel
theorem dX5_init_27 : decode cX5_init 27 = .ok (.new 7, 3) := by decide +kernel
theorem dX5_init_30 : decode cX5_init 30 = .ok (.dup, 1) := by decide +kernel
theorem dX5_init_31 : decode cX5_init 31 = .ok (.invokespecial 9, 3) := by decide +kernel
theorem dX5_init_34 : decode cX5_init 34 = .ok (.putfield 19, 3) := by decide +kernel
theorem dX5_init_37 : decode cX5_init 37 = .ok (.aload_n 0, 1) := by decide +kernel
theorem dX5_init_38 : decode cX5_init 38 = .ok (.bipush 8, 2) := by decide +kernel
theorem dX5_init_40 : decode cX5_init 40 = .ok (.anewarray 7, 3) := by decide +kernel
theorem dX5_init_43 : decode cX5_init 43 = .ok (.putfield 22, 3) := by decide +kernel
theorem dX5_init_46 : decode cX5_init 46 = .ok (.iconst 0, 1) := by decide +kernel
theorem dX5_init_47 : decode cX5_init 47 = .ok (.istore_n 1, 1) := by decide +kernel
theorem dX5_init_48 : decode cX5_init 48 = .ok (.iload_n 1, 1) := by decide +kernel
theorem dX5_init_49 : decode cX5_init 49 = .ok (.bipush 8, 2) := by decide +kernel
theorem dX5_init_51 : decode cX5_init 51 = .ok (.if_icmp .ge 22, 3) := by decide +kernel
theorem dX5_init_54 : decode cX5_init 54 = .ok (.aload_n 0, 1) := by decide +kernel
theorem dX5_init_55 : decode cX5_init 55 = .ok (.getfield 22, 3) := by decide +kernel
theorem dX5_init_58 : decode cX5_init 58 = .ok (.iload_n 1, 1) := by decide +kernel
theorem dX5_init_59 : decode cX5_init 59 = .ok (.new 7, 3) := by decide +kernel
theorem dX5_init_62 : decode cX5_init 62 = .ok (.dup, 1) := by decide +kernel
theorem dX5_init_63 : decode cX5_init 63 = .ok (.invokespecial 9, 3) := by decide +kernel
theorem dX5_init_66 : decode cX5_init 66 = .ok (.aastore, 1) := by decide +kernel
theorem dX5_init_67 : decode cX5_init 67 = .ok (.iinc 1 1, 3) := by decide +kernel
theorem dX5_init_70 : decode cX5_init 70 = .ok (.goto (-22), 3) := by decide +kernel
theorem dX5_init_73 : decode cX5_init 73 = .ok (.aload_n 0, 1) := by decide +kernel
theorem dX5_init_74 : decode cX5_init 74 = .ok (.new 26, 3) := by decide +kernel
theorem dX5_init_77 : decode cX5_init 77 = .ok (.dup, 1) := by decide +kernel
theorem dX5_init_78 : decode cX5_init 78 = .ok (.invokespecial 28, 3) := by decide +kernel
theorem dX5_init_81 : decode cX5_init 81 = .ok (.putfield 29, 3) := by decide +kernel
theorem dX5_init_84 : decode cX5_init 84 = .ok (.aload_n 0, 1) := by decide +kernel
theorem dX5_init_85 : decode cX5_init 85 = .ok (.new 26, 3) := by decide +kernel
theorem dX5_init_88 : decode cX5_init 88 = .ok (.dup, 1) := by decide +kernel
theorem dX5_init_89 : decode cX5_init 89 = .ok (.invokespecial 28, 3) := by decide +kernel
theorem dX5_init_92 : decode cX5_init 92 = .ok (.putfield 33, 3) := by decide +kernel
theorem dX5_init_95 : decode cX5_init 95 = .ok (.aload_n 0, 1) := by decide +kernel
theorem dX5_init_96 : decode cX5_init 96 = .ok (.new 36, 3) := by decide +kernel
theorem dX5_init_99 : decode cX5_init 99 = .ok (.dup, 1) := by decide +kernel
theorem dX5_init_100 : decode cX5_init 100 = .ok (.invokespecial 38, 3) := by decide +kernel
theorem dX5_init_103 : decode cX5_init 103 = .ok (.putfield 39, 3) := by decide +kernel
theorem dX5_init_106 : decode cX5_init 106 = .ok (.aload_n 0, 1) := by decide +kernel
theorem dX5_init_107 : decode cX5_init 107 = .ok (.iconst (-1), 1) := by decide +kernel
theorem dX5_init_108 : decode cX5_init 108 = .ok (.putfield 43, 3) := by decide +kernel
theorem dX5_init_111 : decode cX5_init 111 = .ok (.aload_n 0, 1) := by decide +kernel
theorem dX5_init_112 : decode cX5_init 112 = .ok (.iconst (-1), 1) := by decide +kernel
theorem dX5_init_113 : decode cX5_init 113 = .ok (.putfield 47, 3) := by decide +kernel
theorem dX5_init_116 : decode cX5_init 116 = .ok (.return_, 1) := by decide +kernel
theorem dX5_issueCard_0 : decode cX5_issueCard 0 = .ok (.aload_n 0, 1) := by decide +kernel
theorem dX5_issueCard_1 : decode cX5_issueCard 1 = .ok (.iconst 0, 1) := by decide +kernel
theorem dX5_issueCard_2 : decode cX5_issueCard 2 = .ok (.iload_n 1, 1) := by decide +kernel
theorem dX5_issueCard_3 : decode cX5_issueCard 3 = .ok (.ifCond .eq 7, 3) := by decide +kernel
theorem dX5_issueCard_6 : decode cX5_issueCard 6 = .ok (.iconst 1, 1) := by decide +kernel
theorem dX5_issueCard_7 : decode cX5_issueCard 7 = .ok (.goto 4, 3) := by decide +kernel
theorem dX5_issueCard_10 : decode cX5_issueCard 10 = .ok (.iconst 0, 1) := by decide +kernel
theorem dX5_issueCard_11 : decode cX5_issueCard 11 = .ok (.iconst 0, 1) := by decide +kernel
theorem dX5_issueCard_12 : decode cX5_issueCard 12 = .ok (.invokevirtual 50, 3) := by decide +kernel
theorem dX5_issueCard_15 : decode cX5_issueCard 15 = .ok (.ireturn, 1) := by decide +kernel
theorem dX5_load_0 : decode cX5_load 0 = .ok (.aload_n 0, 1) := by decide +kernel
theorem dX5_load_1 : decode cX5_load 1 = .ok (.iconst 1, 1) := by decide +kernel
theorem dX5_load_2 : decode cX5_load 2 = .ok (.iload_n 1, 1) := by decide +kernel
theorem dX5_load_3 : decode cX5_load 3 = .ok (.iload_n 2, 1) := by decide +kernel
theorem dX5_load_4 : decode cX5_load 4 = .ok (.invokevirtual 50, 3) := by decide +kernel
theorem dX5_load_7 : decode cX5_load 7 = .ok (.ireturn, 1) := by decide +kernel
theorem dX5_tapIn_0 : decode cX5_tapIn 0 = .ok (.aload_n 0, 1) := by decide +kernel
theorem dX5_tapIn_1 : decode cX5_tapIn 1 = .ok (.iconst 2, 1) := by decide +kernel
theorem dX5_tapIn_2 : decode cX5_tapIn 2 = .ok (.iload_n 1, 1) := by decide +kernel
theorem dX5_tapIn_3 : decode cX5_tapIn 3 = .ok (.iload_n 2, 1) := by decide +kernel
theorem dX5_tapIn_4 : decode cX5_tapIn 4 = .ok (.invokevirtual 50, 3) := by decide +kernel
theorem dX5_tapIn_7 : decode cX5_tapIn 7 = .ok (.iconst 1, 1) := by decide +kernel
theorem dX5_tapIn_8 : decode cX5_tapIn 8 = .ok (.if_icmp .ne 7, 3) := by decide +kernel
theorem dX5_tapIn_11 : decode cX5_tapIn 11 = .ok (.iconst 1, 1) := by decide +kernel
theorem dX5_tapIn_12 : decode cX5_tapIn 12 = .ok (.goto 4, 3) := by decide +kernel
theorem dX5_tapIn_15 : decode cX5_tapIn 15 = .ok (.iconst 0, 1) := by decide +kernel
theorem dX5_tapIn_16 : decode cX5_tapIn 16 = .ok (.ireturn, 1) := by decide +kernel
theorem dX5_tapOut_0 : decode cX5_tapOut 0 = .ok (.aload_n 0, 1) := by decide +kernel
theorem dX5_tapOut_1 : decode cX5_tapOut 1 = .ok (.iconst 3, 1) := by decide +kernel
theorem dX5_tapOut_2 : decode cX5_tapOut 2 = .ok (.iload_n 1, 1) := by decide +kernel
theorem dX5_tapOut_3 : decode cX5_tapOut 3 = .ok (.iload_n 2, 1) := by decide +kernel
theorem dX5_tapOut_4 : decode cX5_tapOut 4 = .ok (.invokevirtual 50, 3) := by decide +kernel
theorem dX5_tapOut_7 : decode cX5_tapOut 7 = .ok (.ireturn, 1) := by decide +kernel
theorem dX5_repair_0 : decode cX5_repair 0 = .ok (.aload_n 0, 1) := by decide +kernel
theorem dX5_repair_1 : decode cX5_repair 1 = .ok (.iconst 4, 1) := by decide +kernel
theorem dX5_repair_2 : decode cX5_repair 2 = .ok (.iload_n 1, 1) := by decide +kernel
theorem dX5_repair_3 : decode cX5_repair 3 = .ok (.iload_n 2, 1) := by decide +kernel
theorem dX5_repair_4 : decode cX5_repair 4 = .ok (.invokevirtual 50, 3) := by decide +kernel
theorem dX5_repair_7 : decode cX5_repair 7 = .ok (.ireturn, 1) := by decide +kernel
theorem dX5_setZone_0 : decode cX5_setZone 0 = .ok (.aload_n 0, 1) := by decide +kernel
theorem dX5_setZone_1 : decode cX5_setZone 1 = .ok (.iconst 5, 1) := by decide +kernel
theorem dX5_setZone_2 : decode cX5_setZone 2 = .ok (.iload_n 1, 1) := by decide +kernel
theorem dX5_setZone_3 : decode cX5_setZone 3 = .ok (.iload_n 2, 1) := by decide +kernel
theorem dX5_setZone_4 : decode cX5_setZone 4 = .ok (.invokevirtual 50, 3) := by decide +kernel
theorem dX5_setZone_7 : decode cX5_setZone 7 = .ok (.ireturn, 1) := by decide +kernel
theorem dX5_setFares_0 : decode cX5_setFares 0 = .ok (.aload_n 0, 1) := by decide +kernel
theorem dX5_setFares_1 : decode cX5_setFares 1 = .ok (.bipush 6, 2) := by decide +kernel
theorem dX5_setFares_3 : decode cX5_setFares 3 = .ok (.iload_n 1, 1) := by decide +kernel
theorem dX5_setFares_4 : decode cX5_setFares 4 = .ok (.iload_n 2, 1) := by decide +kernel
theorem dX5_setFares_5 : decode cX5_setFares 5 = .ok (.invokevirtual 50, 3) := by decide +kernel
theorem dX5_setFares_8 : decode cX5_setFares 8 = .ok (.ireturn, 1) := by decide +kernel
theorem dX5_advance_0 : decode cX5_advance 0 = .ok (.aload_n 0, 1) := by decide +kernel
theorem dX5_advance_1 : decode cX5_advance 1 = .ok (.bipush 7, 2) := by decide +kernel
theorem dX5_advance_3 : decode cX5_advance 3 = .ok (.iload_n 1, 1) := by decide +kernel
theorem dX5_advance_4 : decode cX5_advance 4 = .ok (.iconst 0, 1) := by decide +kernel
theorem dX5_advance_5 : decode cX5_advance 5 = .ok (.invokevirtual 50, 3) := by decide +kernel
theorem dX5_advance_8 : decode cX5_advance 8 = .ok (.ireturn, 1) := by decide +kernel
theorem dX5_time_0 : decode cX5_time 0 = .ok (.aload_n 0, 1) := by decide +kernel
theorem dX5_time_1 : decode cX5_time 1 = .ok (.getfield 10, 3) := by decide +kernel
theorem dX5_time_4 : decode cX5_time 4 = .ok (.getfield 54, 3) := by decide +kernel
theorem dX5_time_7 : decode cX5_time 7 = .ok (.ireturn, 1) := by decide +kernel
theorem dX5_day_0 : decode cX5_day 0 = .ok (.aload_n 0, 1) := by decide +kernel
theorem dX5_day_1 : decode cX5_day 1 = .ok (.getfield 10, 3) := by decide +kernel
theorem dX5_day_4 : decode cX5_day 4 = .ok (.invokevirtual 57, 3) := by decide +kernel
theorem dX5_day_7 : decode cX5_day 7 = .ok (.ireturn, 1) := by decide +kernel
theorem dX5_zone_0 : decode cX5_zone 0 = .ok (.iload_n 1, 1) := by decide +kernel
theorem dX5_zone_1 : decode cX5_zone 1 = .ok (.invokestatic 61, 3) := by decide +kernel
theorem dX5_zone_4 : decode cX5_zone 4 = .ok (.aload_n 0, 1) := by decide +kernel
theorem dX5_zone_5 : decode cX5_zone 5 = .ok (.getfield 10, 3) := by decide +kernel
theorem dX5_zone_8 : decode cX5_zone 8 = .ok (.getfield 65, 3) := by decide +kernel
theorem dX5_zone_11 : decode cX5_zone 11 = .ok (.getfield 69, 3) := by decide +kernel
theorem dX5_zone_14 : decode cX5_zone 14 = .ok (.iload_n 1, 1) := by decide +kernel
theorem dX5_zone_15 : decode cX5_zone 15 = .ok (.iaload, 1) := by decide +kernel
theorem dX5_zone_16 : decode cX5_zone 16 = .ok (.ireturn, 1) := by decide +kernel
theorem dX5_zoneCount_0 : decode cX5_zoneCount 0 = .ok (.iload_n 1, 1) := by decide +kernel
theorem dX5_zoneCount_1 : decode cX5_zoneCount 1 = .ok (.invokestatic 61, 3) := by decide +kernel
theorem dX5_zoneCount_4 : decode cX5_zoneCount 4 = .ok (.iload_n 2, 1) := by decide +kernel
theorem dX5_zoneCount_5 : decode cX5_zoneCount 5 = .ok (.invokestatic 61, 3) := by decide +kernel
theorem dX5_zoneCount_8 : decode cX5_zoneCount 8 = .ok (.aload_n 0, 1) := by decide +kernel
theorem dX5_zoneCount_9 : decode cX5_zoneCount 9 = .ok (.getfield 10, 3) := by decide +kernel
theorem dX5_zoneCount_12 : decode cX5_zoneCount 12 = .ok (.getfield 65, 3) := by decide +kernel
theorem dX5_zoneCount_15 : decode cX5_zoneCount 15 = .ok (.iload_n 1, 1) := by decide +kernel
theorem dX5_zoneCount_16 : decode cX5_zoneCount 16 = .ok (.iload_n 2, 1) := by decide +kernel
theorem dX5_zoneCount_17 : decode cX5_zoneCount 17 = .ok (.invokevirtual 75, 3) := by decide +kernel
theorem dX5_zoneCount_20 : decode cX5_zoneCount 20 = .ok (.ireturn, 1) := by decide +kernel
theorem dX5_zoneCountByComparing_0 : decode cX5_zoneCountByComparing 0 = .ok (.iload_n 1, 1) := by decide +kernel
theorem dX5_zoneCountByComparing_1 : decode cX5_zoneCountByComparing 1 = .ok (.invokestatic 61, 3) := by decide +kernel
theorem dX5_zoneCountByComparing_4 : decode cX5_zoneCountByComparing 4 = .ok (.iload_n 2, 1) := by decide +kernel
theorem dX5_zoneCountByComparing_5 : decode cX5_zoneCountByComparing 5 = .ok (.invokestatic 61, 3) := by decide +kernel
theorem dX5_zoneCountByComparing_8 : decode cX5_zoneCountByComparing 8 = .ok (.aload_n 0, 1) := by decide +kernel
theorem dX5_zoneCountByComparing_9 : decode cX5_zoneCountByComparing 9 = .ok (.getfield 10, 3) := by decide +kernel
theorem dX5_zoneCountByComparing_12 : decode cX5_zoneCountByComparing 12 = .ok (.getfield 65, 3) := by decide +kernel
theorem dX5_zoneCountByComparing_15 : decode cX5_zoneCountByComparing 15 = .ok (.iload_n 1, 1) := by decide +kernel
theorem dX5_zoneCountByComparing_16 : decode cX5_zoneCountByComparing 16 = .ok (.iload_n 2, 1) := by decide +kernel
theorem dX5_zoneCountByComparing_17 : decode cX5_zoneCountByComparing 17 = .ok (.invokevirtual 79, 3) := by decide +kernel
theorem dX5_zoneCountByComparing_20 : decode cX5_zoneCountByComparing 20 = .ok (.ireturn, 1) := by decide +kernel
theorem dX5_fare_0 : decode cX5_fare 0 = .ok (.iload_n 1, 1) := by decide +kernel
theorem dX5_fare_1 : decode cX5_fare 1 = .ok (.invokestatic 61, 3) := by decide +kernel
theorem dX5_fare_4 : decode cX5_fare 4 = .ok (.iload_n 2, 1) := by decide +kernel
theorem dX5_fare_5 : decode cX5_fare 5 = .ok (.invokestatic 61, 3) := by decide +kernel
theorem dX5_fare_8 : decode cX5_fare 8 = .ok (.aload_n 0, 1) := by decide +kernel
theorem dX5_fare_9 : decode cX5_fare 9 = .ok (.getfield 10, 3) := by decide +kernel
theorem dX5_fare_12 : decode cX5_fare 12 = .ok (.getfield 65, 3) := by decide +kernel
theorem dX5_fare_15 : decode cX5_fare 15 = .ok (.iload_n 1, 1) := by decide +kernel
theorem dX5_fare_16 : decode cX5_fare 16 = .ok (.iload_n 2, 1) := by decide +kernel
theorem dX5_fare_17 : decode cX5_fare 17 = .ok (.invokevirtual 82, 3) := by decide +kernel
theorem dX5_fare_20 : decode cX5_fare 20 = .ok (.ireturn, 1) := by decide +kernel
theorem dX5_baseFare_0 : decode cX5_baseFare 0 = .ok (.aload_n 0, 1) := by decide +kernel
theorem dX5_baseFare_1 : decode cX5_baseFare 1 = .ok (.getfield 10, 3) := by decide +kernel
theorem dX5_baseFare_4 : decode cX5_baseFare 4 = .ok (.getfield 65, 3) := by decide +kernel
theorem dX5_baseFare_7 : decode cX5_baseFare 7 = .ok (.getfield 85, 3) := by decide +kernel
theorem dX5_baseFare_10 : decode cX5_baseFare 10 = .ok (.ireturn, 1) := by decide +kernel
theorem dX5_zoneFare_0 : decode cX5_zoneFare 0 = .ok (.aload_n 0, 1) := by decide +kernel
theorem dX5_zoneFare_1 : decode cX5_zoneFare 1 = .ok (.getfield 10, 3) := by decide +kernel
theorem dX5_zoneFare_4 : decode cX5_zoneFare 4 = .ok (.getfield 65, 3) := by decide +kernel
theorem dX5_zoneFare_7 : decode cX5_zoneFare 7 = .ok (.getfield 88, 3) := by decide +kernel
theorem dX5_zoneFare_10 : decode cX5_zoneFare 10 = .ok (.ireturn, 1) := by decide +kernel
theorem dX5_defaultFare_0 : decode cX5_defaultFare 0 = .ok (.aload_n 0, 1) := by decide +kernel
theorem dX5_defaultFare_1 : decode cX5_defaultFare 1 = .ok (.getfield 10, 3) := by decide +kernel
theorem dX5_defaultFare_4 : decode cX5_defaultFare 4 = .ok (.getfield 65, 3) := by decide +kernel
theorem dX5_defaultFare_7 : decode cX5_defaultFare 7 = .ok (.invokevirtual 91, 3) := by decide +kernel
theorem dX5_defaultFare_10 : decode cX5_defaultFare 10 = .ok (.ireturn, 1) := by decide +kernel
theorem dX5_taps_0 : decode cX5_taps 0 = .ok (.iload_n 1, 1) := by decide +kernel
theorem dX5_taps_1 : decode cX5_taps 1 = .ok (.invokestatic 61, 3) := by decide +kernel
theorem dX5_taps_4 : decode cX5_taps 4 = .ok (.aload_n 0, 1) := by decide +kernel
theorem dX5_taps_5 : decode cX5_taps 5 = .ok (.getfield 10, 3) := by decide +kernel
theorem dX5_taps_8 : decode cX5_taps 8 = .ok (.getfield 65, 3) := by decide +kernel
theorem dX5_taps_11 : decode cX5_taps 11 = .ok (.getfield 94, 3) := by decide +kernel
theorem dX5_taps_14 : decode cX5_taps 14 = .ok (.iload_n 1, 1) := by decide +kernel
theorem dX5_taps_15 : decode cX5_taps 15 = .ok (.iaload, 1) := by decide +kernel
theorem dX5_taps_16 : decode cX5_taps 16 = .ok (.ireturn, 1) := by decide +kernel
theorem dX5_stationByTaps_0 : decode cX5_stationByTaps 0 = .ok (.iconst 0, 1) := by decide +kernel
theorem dX5_stationByTaps_1 : decode cX5_stationByTaps 1 = .ok (.istore_n 2, 1) := by decide +kernel
theorem dX5_stationByTaps_2 : decode cX5_stationByTaps 2 = .ok (.iload_n 2, 1) := by decide +kernel
theorem dX5_stationByTaps_3 : decode cX5_stationByTaps 3 = .ok (.bipush 12, 2) := by decide +kernel
theorem dX5_stationByTaps_5 : decode cX5_stationByTaps 5 = .ok (.if_icmp .ge 26, 3) := by decide +kernel
theorem dX5_stationByTaps_8 : decode cX5_stationByTaps 8 = .ok (.aload_n 0, 1) := by decide +kernel
theorem dX5_stationByTaps_9 : decode cX5_stationByTaps 9 = .ok (.getfield 10, 3) := by decide +kernel
theorem dX5_stationByTaps_12 : decode cX5_stationByTaps 12 = .ok (.getfield 65, 3) := by decide +kernel
theorem dX5_stationByTaps_15 : decode cX5_stationByTaps 15 = .ok (.iload_n 2, 1) := by decide +kernel
theorem dX5_stationByTaps_16 : decode cX5_stationByTaps 16 = .ok (.invokevirtual 97, 3) := by decide +kernel
theorem dX5_stationByTaps_19 : decode cX5_stationByTaps 19 = .ok (.iload_n 1, 1) := by decide +kernel
theorem dX5_stationByTaps_20 : decode cX5_stationByTaps 20 = .ok (.if_icmp .ne 5, 3) := by decide +kernel
theorem dX5_stationByTaps_23 : decode cX5_stationByTaps 23 = .ok (.iload_n 2, 1) := by decide +kernel
theorem dX5_stationByTaps_24 : decode cX5_stationByTaps 24 = .ok (.ireturn, 1) := by decide +kernel
theorem dX5_stationByTaps_25 : decode cX5_stationByTaps 25 = .ok (.iinc 2 1, 3) := by decide +kernel
theorem dX5_stationByTaps_28 : decode cX5_stationByTaps 28 = .ok (.goto (-26), 3) := by decide +kernel
theorem dX5_stationByTaps_31 : decode cX5_stationByTaps 31 = .ok (.new 101, 3) := by decide +kernel
theorem dX5_stationByTaps_34 : decode cX5_stationByTaps 34 = .ok (.dup, 1) := by decide +kernel
theorem dX5_stationByTaps_35 : decode cX5_stationByTaps 35 = .ok (.ldc 103, 2) := by decide +kernel
theorem dX5_stationByTaps_37 : decode cX5_stationByTaps 37 = .ok (.invokespecial 105, 3) := by decide +kernel
theorem dX5_stationByTaps_40 : decode cX5_stationByTaps 40 = .ok (.athrow, 1) := by decide +kernel
theorem dX5_cardCount_0 : decode cX5_cardCount 0 = .ok (.aload_n 0, 1) := by decide +kernel
theorem dX5_cardCount_1 : decode cX5_cardCount 1 = .ok (.getfield 10, 3) := by decide +kernel
theorem dX5_cardCount_4 : decode cX5_cardCount 4 = .ok (.getfield 108, 3) := by decide +kernel
theorem dX5_cardCount_7 : decode cX5_cardCount 7 = .ok (.ireturn, 1) := by decide +kernel
theorem dX5_isReduced_0 : decode cX5_isReduced 0 = .ok (.aload_n 0, 1) := by decide +kernel
theorem dX5_isReduced_1 : decode cX5_isReduced 1 = .ok (.iload_n 1, 1) := by decide +kernel
theorem dX5_isReduced_2 : decode cX5_isReduced 2 = .ok (.invokevirtual 111, 3) := by decide +kernel
theorem dX5_isReduced_5 : decode cX5_isReduced 5 = .ok (.aload_n 0, 1) := by decide +kernel
theorem dX5_isReduced_6 : decode cX5_isReduced 6 = .ok (.getfield 10, 3) := by decide +kernel
theorem dX5_isReduced_9 : decode cX5_isReduced 9 = .ok (.getfield 114, 3) := by decide +kernel
theorem dX5_isReduced_12 : decode cX5_isReduced 12 = .ok (.iload_n 1, 1) := by decide +kernel
theorem dX5_isReduced_13 : decode cX5_isReduced 13 = .ok (.aaload, 1) := by decide +kernel
theorem dX5_isReduced_14 : decode cX5_isReduced 14 = .ok (.getfield 118, 3) := by decide +kernel
theorem dX5_isReduced_17 : decode cX5_isReduced 17 = .ok (.ireturn, 1) := by decide +kernel
theorem dX5_balance_0 : decode cX5_balance 0 = .ok (.aload_n 0, 1) := by decide +kernel
theorem dX5_balance_1 : decode cX5_balance 1 = .ok (.iload_n 1, 1) := by decide +kernel
theorem dX5_balance_2 : decode cX5_balance 2 = .ok (.invokevirtual 111, 3) := by decide +kernel
theorem dX5_balance_5 : decode cX5_balance 5 = .ok (.aload_n 0, 1) := by decide +kernel
theorem dX5_balance_6 : decode cX5_balance 6 = .ok (.getfield 10, 3) := by decide +kernel
theorem dX5_balance_9 : decode cX5_balance 9 = .ok (.getfield 114, 3) := by decide +kernel
theorem dX5_balance_12 : decode cX5_balance 12 = .ok (.iload_n 1, 1) := by decide +kernel
theorem dX5_balance_13 : decode cX5_balance 13 = .ok (.aaload, 1) := by decide +kernel
theorem dX5_balance_14 : decode cX5_balance 14 = .ok (.getfield 124, 3) := by decide +kernel
theorem dX5_balance_17 : decode cX5_balance 17 = .ok (.ireturn, 1) := by decide +kernel
theorem dX5_isOnTrip_0 : decode cX5_isOnTrip 0 = .ok (.aload_n 0, 1) := by decide +kernel
theorem dX5_isOnTrip_1 : decode cX5_isOnTrip 1 = .ok (.iload_n 1, 1) := by decide +kernel
theorem dX5_isOnTrip_2 : decode cX5_isOnTrip 2 = .ok (.invokevirtual 111, 3) := by decide +kernel
theorem dX5_isOnTrip_5 : decode cX5_isOnTrip 5 = .ok (.aload_n 0, 1) := by decide +kernel
theorem dX5_isOnTrip_6 : decode cX5_isOnTrip 6 = .ok (.getfield 10, 3) := by decide +kernel
theorem dX5_isOnTrip_9 : decode cX5_isOnTrip 9 = .ok (.getfield 114, 3) := by decide +kernel
theorem dX5_isOnTrip_12 : decode cX5_isOnTrip 12 = .ok (.iload_n 1, 1) := by decide +kernel
theorem dX5_isOnTrip_13 : decode cX5_isOnTrip 13 = .ok (.aaload, 1) := by decide +kernel
theorem dX5_isOnTrip_14 : decode cX5_isOnTrip 14 = .ok (.getfield 127, 3) := by decide +kernel
theorem dX5_isOnTrip_17 : decode cX5_isOnTrip 17 = .ok (.ireturn, 1) := by decide +kernel
theorem dX5_tripStart_0 : decode cX5_tripStart 0 = .ok (.aload_n 0, 1) := by decide +kernel
theorem dX5_tripStart_1 : decode cX5_tripStart 1 = .ok (.iload_n 1, 1) := by decide +kernel
theorem dX5_tripStart_2 : decode cX5_tripStart 2 = .ok (.invokevirtual 130, 3) := by decide +kernel
theorem dX5_tripStart_5 : decode cX5_tripStart 5 = .ok (.aload_n 0, 1) := by decide +kernel
theorem dX5_tripStart_6 : decode cX5_tripStart 6 = .ok (.getfield 10, 3) := by decide +kernel
theorem dX5_tripStart_9 : decode cX5_tripStart 9 = .ok (.getfield 114, 3) := by decide +kernel
theorem dX5_tripStart_12 : decode cX5_tripStart 12 = .ok (.iload_n 1, 1) := by decide +kernel
theorem dX5_tripStart_13 : decode cX5_tripStart 13 = .ok (.aaload, 1) := by decide +kernel
theorem dX5_tripStart_14 : decode cX5_tripStart 14 = .ok (.getfield 133, 3) := by decide +kernel
theorem dX5_tripStart_17 : decode cX5_tripStart 17 = .ok (.ireturn, 1) := by decide +kernel
theorem dX5_journeyStart_0 : decode cX5_journeyStart 0 = .ok (.aload_n 0, 1) := by decide +kernel
theorem dX5_journeyStart_1 : decode cX5_journeyStart 1 = .ok (.iload_n 1, 1) := by decide +kernel
theorem dX5_journeyStart_2 : decode cX5_journeyStart 2 = .ok (.invokevirtual 130, 3) := by decide +kernel
theorem dX5_journeyStart_5 : decode cX5_journeyStart 5 = .ok (.aload_n 0, 1) := by decide +kernel
theorem dX5_journeyStart_6 : decode cX5_journeyStart 6 = .ok (.getfield 10, 3) := by decide +kernel
theorem dX5_journeyStart_9 : decode cX5_journeyStart 9 = .ok (.getfield 114, 3) := by decide +kernel
theorem dX5_journeyStart_12 : decode cX5_journeyStart 12 = .ok (.iload_n 1, 1) := by decide +kernel
theorem dX5_journeyStart_13 : decode cX5_journeyStart 13 = .ok (.aaload, 1) := by decide +kernel
theorem dX5_journeyStart_14 : decode cX5_journeyStart 14 = .ok (.getfield 136, 3) := by decide +kernel
theorem dX5_journeyStart_17 : decode cX5_journeyStart 17 = .ok (.ireturn, 1) := by decide +kernel
theorem dX5_minutesLeft_0 : decode cX5_minutesLeft 0 = .ok (.aload_n 0, 1) := by decide +kernel
theorem dX5_minutesLeft_1 : decode cX5_minutesLeft 1 = .ok (.iload_n 1, 1) := by decide +kernel
theorem dX5_minutesLeft_2 : decode cX5_minutesLeft 2 = .ok (.invokevirtual 130, 3) := by decide +kernel
theorem dX5_minutesLeft_5 : decode cX5_minutesLeft 5 = .ok (.aload_n 0, 1) := by decide +kernel
theorem dX5_minutesLeft_6 : decode cX5_minutesLeft 6 = .ok (.getfield 10, 3) := by decide +kernel
theorem dX5_minutesLeft_9 : decode cX5_minutesLeft 9 = .ok (.getfield 114, 3) := by decide +kernel
theorem dX5_minutesLeft_12 : decode cX5_minutesLeft 12 = .ok (.iload_n 1, 1) := by decide +kernel
theorem dX5_minutesLeft_13 : decode cX5_minutesLeft 13 = .ok (.aaload, 1) := by decide +kernel
theorem dX5_minutesLeft_14 : decode cX5_minutesLeft 14 = .ok (.invokevirtual 139, 3) := by decide +kernel
theorem dX5_minutesLeft_17 : decode cX5_minutesLeft 17 = .ok (.aload_n 0, 1) := by decide +kernel
theorem dX5_minutesLeft_18 : decode cX5_minutesLeft 18 = .ok (.getfield 10, 3) := by decide +kernel
theorem dX5_minutesLeft_21 : decode cX5_minutesLeft 21 = .ok (.getfield 54, 3) := by decide +kernel
theorem dX5_minutesLeft_24 : decode cX5_minutesLeft 24 = .ok (.isub, 1) := by decide +kernel
theorem dX5_minutesLeft_25 : decode cX5_minutesLeft 25 = .ok (.ireturn, 1) := by decide +kernel
theorem dX5_wouldContinue_0 : decode cX5_wouldContinue 0 = .ok (.aload_n 0, 1) := by decide +kernel
theorem dX5_wouldContinue_1 : decode cX5_wouldContinue 1 = .ok (.iload_n 1, 1) := by decide +kernel
theorem dX5_wouldContinue_2 : decode cX5_wouldContinue 2 = .ok (.invokevirtual 111, 3) := by decide +kernel
theorem dX5_wouldContinue_5 : decode cX5_wouldContinue 5 = .ok (.iload_n 2, 1) := by decide +kernel
theorem dX5_wouldContinue_6 : decode cX5_wouldContinue 6 = .ok (.invokestatic 61, 3) := by decide +kernel
theorem dX5_wouldContinue_9 : decode cX5_wouldContinue 9 = .ok (.aload_n 0, 1) := by decide +kernel
theorem dX5_wouldContinue_10 : decode cX5_wouldContinue 10 = .ok (.getfield 10, 3) := by decide +kernel
theorem dX5_wouldContinue_13 : decode cX5_wouldContinue 13 = .ok (.getfield 114, 3) := by decide +kernel
theorem dX5_wouldContinue_16 : decode cX5_wouldContinue 16 = .ok (.iload_n 1, 1) := by decide +kernel
theorem dX5_wouldContinue_17 : decode cX5_wouldContinue 17 = .ok (.aaload, 1) := by decide +kernel
theorem dX5_wouldContinue_18 : decode cX5_wouldContinue 18 = .ok (.iload_n 2, 1) := by decide +kernel
theorem dX5_wouldContinue_19 : decode cX5_wouldContinue 19 = .ok (.aload_n 0, 1) := by decide +kernel
theorem dX5_wouldContinue_20 : decode cX5_wouldContinue 20 = .ok (.getfield 10, 3) := by decide +kernel
theorem dX5_wouldContinue_23 : decode cX5_wouldContinue 23 = .ok (.getfield 54, 3) := by decide +kernel
theorem dX5_wouldContinue_26 : decode cX5_wouldContinue 26 = .ok (.invokevirtual 142, 3) := by decide +kernel
theorem dX5_wouldContinue_29 : decode cX5_wouldContinue 29 = .ok (.ireturn, 1) := by decide +kernel
theorem dX5_chargeIfTappedOut_0 : decode cX5_chargeIfTappedOut 0 = .ok (.iload_n 2, 1) := by decide +kernel
theorem dX5_chargeIfTappedOut_1 : decode cX5_chargeIfTappedOut 1 = .ok (.invokestatic 61, 3) := by decide +kernel
theorem dX5_chargeIfTappedOut_4 : decode cX5_chargeIfTappedOut 4 = .ok (.aload_n 0, 1) := by decide +kernel
theorem dX5_chargeIfTappedOut_5 : decode cX5_chargeIfTappedOut 5 = .ok (.iload_n 1, 1) := by decide +kernel
theorem dX5_chargeIfTappedOut_6 : decode cX5_chargeIfTappedOut 6 = .ok (.invokevirtual 130, 3) := by decide +kernel
theorem dX5_chargeIfTappedOut_9 : decode cX5_chargeIfTappedOut 9 = .ok (.aload_n 0, 1) := by decide +kernel
theorem dX5_chargeIfTappedOut_10 : decode cX5_chargeIfTappedOut 10 = .ok (.getfield 10, 3) := by decide +kernel
theorem dX5_chargeIfTappedOut_13 : decode cX5_chargeIfTappedOut 13 = .ok (.getfield 114, 3) := by decide +kernel
theorem dX5_chargeIfTappedOut_16 : decode cX5_chargeIfTappedOut 16 = .ok (.iload_n 1, 1) := by decide +kernel
theorem dX5_chargeIfTappedOut_17 : decode cX5_chargeIfTappedOut 17 = .ok (.aaload, 1) := by decide +kernel
theorem dX5_chargeIfTappedOut_18 : decode cX5_chargeIfTappedOut 18 = .ok (.aload_n 0, 1) := by decide +kernel
theorem dX5_chargeIfTappedOut_19 : decode cX5_chargeIfTappedOut 19 = .ok (.getfield 10, 3) := by decide +kernel
theorem dX5_chargeIfTappedOut_22 : decode cX5_chargeIfTappedOut 22 = .ok (.getfield 65, 3) := by decide +kernel
theorem dX5_chargeIfTappedOut_25 : decode cX5_chargeIfTappedOut 25 = .ok (.iload_n 2, 1) := by decide +kernel
theorem dX5_chargeIfTappedOut_26 : decode cX5_chargeIfTappedOut 26 = .ok (.aload_n 0, 1) := by decide +kernel
theorem dX5_chargeIfTappedOut_27 : decode cX5_chargeIfTappedOut 27 = .ok (.getfield 10, 3) := by decide +kernel
theorem dX5_chargeIfTappedOut_30 : decode cX5_chargeIfTappedOut 30 = .ok (.invokevirtual 57, 3) := by decide +kernel
theorem dX5_chargeIfTappedOut_33 : decode cX5_chargeIfTappedOut 33 = .ok (.invokevirtual 146, 3) := by decide +kernel
theorem dX5_chargeIfTappedOut_36 : decode cX5_chargeIfTappedOut 36 = .ok (.ireturn, 1) := by decide +kernel
theorem dX5_chargedOn_0 : decode cX5_chargedOn 0 = .ok (.aload_n 0, 1) := by decide +kernel
theorem dX5_chargedOn_1 : decode cX5_chargedOn 1 = .ok (.iload_n 1, 1) := by decide +kernel
theorem dX5_chargedOn_2 : decode cX5_chargedOn 2 = .ok (.invokevirtual 111, 3) := by decide +kernel
theorem dX5_chargedOn_5 : decode cX5_chargedOn 5 = .ok (.aload_n 0, 1) := by decide +kernel
theorem dX5_chargedOn_6 : decode cX5_chargedOn 6 = .ok (.iload_n 2, 1) := by decide +kernel
theorem dX5_chargedOn_7 : decode cX5_chargedOn 7 = .ok (.invokevirtual 150, 3) := by decide +kernel
theorem dX5_chargedOn_10 : decode cX5_chargedOn 10 = .ok (.aload_n 0, 1) := by decide +kernel
theorem dX5_chargedOn_11 : decode cX5_chargedOn 11 = .ok (.getfield 10, 3) := by decide +kernel
theorem dX5_chargedOn_14 : decode cX5_chargedOn 14 = .ok (.getfield 114, 3) := by decide +kernel
theorem dX5_chargedOn_17 : decode cX5_chargedOn 17 = .ok (.iload_n 1, 1) := by decide +kernel
theorem dX5_chargedOn_18 : decode cX5_chargedOn 18 = .ok (.aaload, 1) := by decide +kernel
theorem dX5_chargedOn_19 : decode cX5_chargedOn 19 = .ok (.iload_n 2, 1) := by decide +kernel
theorem dX5_chargedOn_20 : decode cX5_chargedOn 20 = .ok (.invokevirtual 153, 3) := by decide +kernel
theorem dX5_chargedOn_23 : decode cX5_chargedOn 23 = .ok (.ireturn, 1) := by decide +kernel
theorem dX5_chargedOnByRecords_0 : decode cX5_chargedOnByRecords 0 = .ok (.aload_n 0, 1) := by decide +kernel
theorem dX5_chargedOnByRecords_1 : decode cX5_chargedOnByRecords 1 = .ok (.iload_n 1, 1) := by decide +kernel
theorem dX5_chargedOnByRecords_2 : decode cX5_chargedOnByRecords 2 = .ok (.invokevirtual 111, 3) := by decide +kernel
theorem dX5_chargedOnByRecords_5 : decode cX5_chargedOnByRecords 5 = .ok (.aload_n 0, 1) := by decide +kernel
theorem dX5_chargedOnByRecords_6 : decode cX5_chargedOnByRecords 6 = .ok (.iload_n 2, 1) := by decide +kernel
theorem dX5_chargedOnByRecords_7 : decode cX5_chargedOnByRecords 7 = .ok (.invokevirtual 150, 3) := by decide +kernel
theorem dX5_chargedOnByRecords_10 : decode cX5_chargedOnByRecords 10 = .ok (.aload_n 0, 1) := by decide +kernel
theorem dX5_chargedOnByRecords_11 : decode cX5_chargedOnByRecords 11 = .ok (.getfield 10, 3) := by decide +kernel
theorem dX5_chargedOnByRecords_14 : decode cX5_chargedOnByRecords 14 = .ok (.getfield 114, 3) := by decide +kernel
theorem dX5_chargedOnByRecords_17 : decode cX5_chargedOnByRecords 17 = .ok (.iload_n 1, 1) := by decide +kernel
theorem dX5_chargedOnByRecords_18 : decode cX5_chargedOnByRecords 18 = .ok (.aaload, 1) := by decide +kernel
theorem dX5_chargedOnByRecords_19 : decode cX5_chargedOnByRecords 19 = .ok (.iload_n 2, 1) := by decide +kernel
theorem dX5_chargedOnByRecords_20 : decode cX5_chargedOnByRecords 20 = .ok (.invokevirtual 156, 3) := by decide +kernel
theorem dX5_chargedOnByRecords_23 : decode cX5_chargedOnByRecords 23 = .ok (.ireturn, 1) := by decide +kernel
theorem dX5_leftUnderCap_0 : decode cX5_leftUnderCap 0 = .ok (.aload_n 0, 1) := by decide +kernel
theorem dX5_leftUnderCap_1 : decode cX5_leftUnderCap 1 = .ok (.iload_n 1, 1) := by decide +kernel
theorem dX5_leftUnderCap_2 : decode cX5_leftUnderCap 2 = .ok (.invokevirtual 111, 3) := by decide +kernel
theorem dX5_leftUnderCap_5 : decode cX5_leftUnderCap 5 = .ok (.aload_n 0, 1) := by decide +kernel
theorem dX5_leftUnderCap_6 : decode cX5_leftUnderCap 6 = .ok (.getfield 10, 3) := by decide +kernel
theorem dX5_leftUnderCap_9 : decode cX5_leftUnderCap 9 = .ok (.getfield 114, 3) := by decide +kernel
theorem dX5_leftUnderCap_12 : decode cX5_leftUnderCap 12 = .ok (.iload_n 1, 1) := by decide +kernel
theorem dX5_leftUnderCap_13 : decode cX5_leftUnderCap 13 = .ok (.aaload, 1) := by decide +kernel
theorem dX5_leftUnderCap_14 : decode cX5_leftUnderCap 14 = .ok (.aload_n 0, 1) := by decide +kernel
theorem dX5_leftUnderCap_15 : decode cX5_leftUnderCap 15 = .ok (.getfield 10, 3) := by decide +kernel
theorem dX5_leftUnderCap_18 : decode cX5_leftUnderCap 18 = .ok (.invokevirtual 57, 3) := by decide +kernel
theorem dX5_leftUnderCap_21 : decode cX5_leftUnderCap 21 = .ok (.invokevirtual 159, 3) := by decide +kernel
theorem dX5_leftUnderCap_24 : decode cX5_leftUnderCap 24 = .ok (.ireturn, 1) := by decide +kernel
theorem dX5_isRepairable_0 : decode cX5_isRepairable 0 = .ok (.aload_n 0, 1) := by decide +kernel
theorem dX5_isRepairable_1 : decode cX5_isRepairable 1 = .ok (.iload_n 1, 1) := by decide +kernel
theorem dX5_isRepairable_2 : decode cX5_isRepairable 2 = .ok (.invokevirtual 111, 3) := by decide +kernel
theorem dX5_isRepairable_5 : decode cX5_isRepairable 5 = .ok (.aload_n 0, 1) := by decide +kernel
theorem dX5_isRepairable_6 : decode cX5_isRepairable 6 = .ok (.getfield 10, 3) := by decide +kernel
theorem dX5_isRepairable_9 : decode cX5_isRepairable 9 = .ok (.getfield 114, 3) := by decide +kernel
theorem dX5_isRepairable_12 : decode cX5_isRepairable 12 = .ok (.iload_n 1, 1) := by decide +kernel
theorem dX5_isRepairable_13 : decode cX5_isRepairable 13 = .ok (.aaload, 1) := by decide +kernel
theorem dX5_isRepairable_14 : decode cX5_isRepairable 14 = .ok (.getfield 162, 3) := by decide +kernel
theorem dX5_isRepairable_17 : decode cX5_isRepairable 17 = .ok (.ifCond .eq 18, 3) := by decide +kernel
theorem dX5_isRepairable_20 : decode cX5_isRepairable 20 = .ok (.aload_n 0, 1) := by decide +kernel
theorem dX5_isRepairable_21 : decode cX5_isRepairable 21 = .ok (.getfield 10, 3) := by decide +kernel
theorem dX5_isRepairable_24 : decode cX5_isRepairable 24 = .ok (.iload_n 1, 1) := by decide +kernel
theorem dX5_isRepairable_25 : decode cX5_isRepairable 25 = .ok (.invokevirtual 165, 3) := by decide +kernel
theorem dX5_isRepairable_28 : decode cX5_isRepairable 28 = .ok (.ifCond .eq 7, 3) := by decide +kernel
theorem dX5_isRepairable_31 : decode cX5_isRepairable 31 = .ok (.iconst 1, 1) := by decide +kernel
theorem dX5_isRepairable_32 : decode cX5_isRepairable 32 = .ok (.goto 4, 3) := by decide +kernel
theorem dX5_isRepairable_35 : decode cX5_isRepairable 35 = .ok (.iconst 0, 1) := by decide +kernel
theorem dX5_isRepairable_36 : decode cX5_isRepairable 36 = .ok (.ireturn, 1) := by decide +kernel
theorem dX5_cardBySpending_0 : decode cX5_cardBySpending 0 = .ok (.iconst 0, 1) := by decide +kernel
theorem dX5_cardBySpending_1 : decode cX5_cardBySpending 1 = .ok (.istore_n 2, 1) := by decide +kernel
theorem dX5_cardBySpending_2 : decode cX5_cardBySpending 2 = .ok (.iload_n 2, 1) := by decide +kernel
theorem dX5_cardBySpending_3 : decode cX5_cardBySpending 3 = .ok (.aload_n 0, 1) := by decide +kernel
theorem dX5_cardBySpending_4 : decode cX5_cardBySpending 4 = .ok (.getfield 10, 3) := by decide +kernel
theorem dX5_cardBySpending_7 : decode cX5_cardBySpending 7 = .ok (.getfield 108, 3) := by decide +kernel
theorem dX5_cardBySpending_10 : decode cX5_cardBySpending 10 = .ok (.if_icmp .ge 23, 3) := by decide +kernel
theorem dX5_cardBySpending_13 : decode cX5_cardBySpending 13 = .ok (.aload_n 0, 1) := by decide +kernel
theorem dX5_cardBySpending_14 : decode cX5_cardBySpending 14 = .ok (.getfield 10, 3) := by decide +kernel
theorem dX5_cardBySpending_17 : decode cX5_cardBySpending 17 = .ok (.iload_n 2, 1) := by decide +kernel
theorem dX5_cardBySpending_18 : decode cX5_cardBySpending 18 = .ok (.invokevirtual 169, 3) := by decide +kernel
theorem dX5_cardBySpending_21 : decode cX5_cardBySpending 21 = .ok (.iload_n 1, 1) := by decide +kernel
theorem dX5_cardBySpending_22 : decode cX5_cardBySpending 22 = .ok (.if_icmp .ne 5, 3) := by decide +kernel
theorem dX5_cardBySpending_25 : decode cX5_cardBySpending 25 = .ok (.iload_n 2, 1) := by decide +kernel
theorem dX5_cardBySpending_26 : decode cX5_cardBySpending 26 = .ok (.ireturn, 1) := by decide +kernel
theorem dX5_cardBySpending_27 : decode cX5_cardBySpending 27 = .ok (.iinc 2 1, 3) := by decide +kernel
theorem dX5_cardBySpending_30 : decode cX5_cardBySpending 30 = .ok (.goto (-28), 3) := by decide +kernel
theorem dX5_cardBySpending_33 : decode cX5_cardBySpending 33 = .ok (.new 101, 3) := by decide +kernel
theorem dX5_cardBySpending_36 : decode cX5_cardBySpending 36 = .ok (.dup, 1) := by decide +kernel
theorem dX5_cardBySpending_37 : decode cX5_cardBySpending 37 = .ok (.ldc 103, 2) := by decide +kernel
theorem dX5_cardBySpending_39 : decode cX5_cardBySpending 39 = .ok (.invokespecial 105, 3) := by decide +kernel
theorem dX5_cardBySpending_42 : decode cX5_cardBySpending 42 = .ok (.athrow, 1) := by decide +kernel
theorem dX5_loadedTotal_0 : decode cX5_loadedTotal 0 = .ok (.aload_n 0, 1) := by decide +kernel
theorem dX5_loadedTotal_1 : decode cX5_loadedTotal 1 = .ok (.getfield 10, 3) := by decide +kernel
theorem dX5_loadedTotal_4 : decode cX5_loadedTotal 4 = .ok (.getfield 172, 3) := by decide +kernel
theorem dX5_loadedTotal_7 : decode cX5_loadedTotal 7 = .ok (.ireturn, 1) := by decide +kernel
theorem dX5_chargedTotal_0 : decode cX5_chargedTotal 0 = .ok (.aload_n 0, 1) := by decide +kernel
theorem dX5_chargedTotal_1 : decode cX5_chargedTotal 1 = .ok (.getfield 10, 3) := by decide +kernel
theorem dX5_chargedTotal_4 : decode cX5_chargedTotal 4 = .ok (.getfield 175, 3) := by decide +kernel
theorem dX5_chargedTotal_7 : decode cX5_chargedTotal 7 = .ok (.ireturn, 1) := by decide +kernel
theorem dX5_paidBackTotal_0 : decode cX5_paidBackTotal 0 = .ok (.aload_n 0, 1) := by decide +kernel
theorem dX5_paidBackTotal_1 : decode cX5_paidBackTotal 1 = .ok (.getfield 10, 3) := by decide +kernel
theorem dX5_paidBackTotal_4 : decode cX5_paidBackTotal 4 = .ok (.getfield 178, 3) := by decide +kernel
theorem dX5_paidBackTotal_7 : decode cX5_paidBackTotal 7 = .ok (.ireturn, 1) := by decide +kernel
theorem dX5_completeTrips_0 : decode cX5_completeTrips 0 = .ok (.aload_n 0, 1) := by decide +kernel
theorem dX5_completeTrips_1 : decode cX5_completeTrips 1 = .ok (.getfield 10, 3) := by decide +kernel
theorem dX5_completeTrips_4 : decode cX5_completeTrips 4 = .ok (.getfield 181, 3) := by decide +kernel
theorem dX5_completeTrips_7 : decode cX5_completeTrips 7 = .ok (.ireturn, 1) := by decide +kernel
theorem dX5_incompleteTrips_0 : decode cX5_incompleteTrips 0 = .ok (.aload_n 0, 1) := by decide +kernel
theorem dX5_incompleteTrips_1 : decode cX5_incompleteTrips 1 = .ok (.getfield 10, 3) := by decide +kernel
theorem dX5_incompleteTrips_4 : decode cX5_incompleteTrips 4 = .ok (.getfield 184, 3) := by decide +kernel
theorem dX5_incompleteTrips_7 : decode cX5_incompleteTrips 7 = .ok (.ireturn, 1) := by decide +kernel
theorem dX5_meanCharge_0 : decode cX5_meanCharge 0 = .ok (.aload_n 0, 1) := by decide +kernel
theorem dX5_meanCharge_1 : decode cX5_meanCharge 1 = .ok (.getfield 10, 3) := by decide +kernel
theorem dX5_meanCharge_4 : decode cX5_meanCharge 4 = .ok (.getfield 181, 3) := by decide +kernel
theorem dX5_meanCharge_7 : decode cX5_meanCharge 7 = .ok (.aload_n 0, 1) := by decide +kernel
theorem dX5_meanCharge_8 : decode cX5_meanCharge 8 = .ok (.getfield 10, 3) := by decide +kernel
theorem dX5_meanCharge_11 : decode cX5_meanCharge 11 = .ok (.getfield 184, 3) := by decide +kernel
theorem dX5_meanCharge_14 : decode cX5_meanCharge 14 = .ok (.iadd, 1) := by decide +kernel
theorem dX5_meanCharge_15 : decode cX5_meanCharge 15 = .ok (.istore_n 1, 1) := by decide +kernel
theorem dX5_meanCharge_16 : decode cX5_meanCharge 16 = .ok (.iload_n 1, 1) := by decide +kernel
theorem dX5_meanCharge_17 : decode cX5_meanCharge 17 = .ok (.ifCond .ne 13, 3) := by decide +kernel
theorem dX5_meanCharge_20 : decode cX5_meanCharge 20 = .ok (.new 187, 3) := by decide +kernel
theorem dX5_meanCharge_23 : decode cX5_meanCharge 23 = .ok (.dup, 1) := by decide +kernel
theorem dX5_meanCharge_24 : decode cX5_meanCharge 24 = .ok (.ldc 189, 2) := by decide +kernel
theorem dX5_meanCharge_26 : decode cX5_meanCharge 26 = .ok (.invokespecial 191, 3) := by decide +kernel
theorem dX5_meanCharge_29 : decode cX5_meanCharge 29 = .ok (.athrow, 1) := by decide +kernel
theorem dX5_meanCharge_30 : decode cX5_meanCharge 30 = .ok (.aload_n 0, 1) := by decide +kernel
theorem dX5_meanCharge_31 : decode cX5_meanCharge 31 = .ok (.getfield 10, 3) := by decide +kernel
theorem dX5_meanCharge_34 : decode cX5_meanCharge 34 = .ok (.getfield 175, 3) := by decide +kernel
theorem dX5_meanCharge_37 : decode cX5_meanCharge 37 = .ok (.i2d, 1) := by decide +kernel
theorem dX5_meanCharge_38 : decode cX5_meanCharge 38 = .ok (.iload_n 1, 1) := by decide +kernel
theorem dX5_meanCharge_39 : decode cX5_meanCharge 39 = .ok (.i2d, 1) := by decide +kernel
theorem dX5_meanCharge_40 : decode cX5_meanCharge 40 = .ok (.ddiv, 1) := by decide +kernel
theorem dX5_meanCharge_41 : decode cX5_meanCharge 41 = .ok (.dreturn, 1) := by decide +kernel
theorem dX5_meanChargeBits_0 : decode cX5_meanChargeBits 0 = .ok (.aload_n 0, 1) := by decide +kernel
theorem dX5_meanChargeBits_1 : decode cX5_meanChargeBits 1 = .ok (.invokevirtual 192, 3) := by decide +kernel
theorem dX5_meanChargeBits_4 : decode cX5_meanChargeBits 4 = .ok (.invokestatic 196, 3) := by decide +kernel
theorem dX5_meanChargeBits_7 : decode cX5_meanChargeBits 7 = .ok (.lreturn, 1) := by decide +kernel
theorem dX5_incompleteShare_0 : decode cX5_incompleteShare 0 = .ok (.aload_n 0, 1) := by decide +kernel
theorem dX5_incompleteShare_1 : decode cX5_incompleteShare 1 = .ok (.getfield 10, 3) := by decide +kernel
theorem dX5_incompleteShare_4 : decode cX5_incompleteShare 4 = .ok (.getfield 181, 3) := by decide +kernel
theorem dX5_incompleteShare_7 : decode cX5_incompleteShare 7 = .ok (.aload_n 0, 1) := by decide +kernel
theorem dX5_incompleteShare_8 : decode cX5_incompleteShare 8 = .ok (.getfield 10, 3) := by decide +kernel
theorem dX5_incompleteShare_11 : decode cX5_incompleteShare 11 = .ok (.getfield 184, 3) := by decide +kernel
theorem dX5_incompleteShare_14 : decode cX5_incompleteShare 14 = .ok (.iadd, 1) := by decide +kernel
theorem dX5_incompleteShare_15 : decode cX5_incompleteShare 15 = .ok (.istore_n 1, 1) := by decide +kernel
theorem dX5_incompleteShare_16 : decode cX5_incompleteShare 16 = .ok (.iload_n 1, 1) := by decide +kernel
theorem dX5_incompleteShare_17 : decode cX5_incompleteShare 17 = .ok (.ifCond .ne 13, 3) := by decide +kernel
theorem dX5_incompleteShare_20 : decode cX5_incompleteShare 20 = .ok (.new 187, 3) := by decide +kernel
theorem dX5_incompleteShare_23 : decode cX5_incompleteShare 23 = .ok (.dup, 1) := by decide +kernel
theorem dX5_incompleteShare_24 : decode cX5_incompleteShare 24 = .ok (.ldc 189, 2) := by decide +kernel
theorem dX5_incompleteShare_26 : decode cX5_incompleteShare 26 = .ok (.invokespecial 191, 3) := by decide +kernel
theorem dX5_incompleteShare_29 : decode cX5_incompleteShare 29 = .ok (.athrow, 1) := by decide +kernel
theorem dX5_incompleteShare_30 : decode cX5_incompleteShare 30 = .ok (.aload_n 0, 1) := by decide +kernel
theorem dX5_incompleteShare_31 : decode cX5_incompleteShare 31 = .ok (.getfield 10, 3) := by decide +kernel
theorem dX5_incompleteShare_34 : decode cX5_incompleteShare 34 = .ok (.getfield 184, 3) := by decide +kernel
theorem dX5_incompleteShare_37 : decode cX5_incompleteShare 37 = .ok (.i2f, 1) := by decide +kernel
theorem dX5_incompleteShare_38 : decode cX5_incompleteShare 38 = .ok (.iload_n 1, 1) := by decide +kernel
theorem dX5_incompleteShare_39 : decode cX5_incompleteShare 39 = .ok (.i2f, 1) := by decide +kernel
theorem dX5_incompleteShare_40 : decode cX5_incompleteShare 40 = .ok (.fdiv, 1) := by decide +kernel
theorem dX5_incompleteShare_41 : decode cX5_incompleteShare 41 = .ok (.freturn, 1) := by decide +kernel
theorem dX5_incompleteShareBits_0 : decode cX5_incompleteShareBits 0 = .ok (.aload_n 0, 1) := by decide +kernel
theorem dX5_incompleteShareBits_1 : decode cX5_incompleteShareBits 1 = .ok (.invokevirtual 200, 3) := by decide +kernel
theorem dX5_incompleteShareBits_4 : decode cX5_incompleteShareBits 4 = .ok (.invokestatic 204, 3) := by decide +kernel
theorem dX5_incompleteShareBits_7 : decode cX5_incompleteShareBits 7 = .ok (.ireturn, 1) := by decide +kernel
theorem dX5_isConsistent_0 : decode cX5_isConsistent 0 = .ok (.aload_n 0, 1) := by decide +kernel
theorem dX5_isConsistent_1 : decode cX5_isConsistent 1 = .ok (.getfield 10, 3) := by decide +kernel
theorem dX5_isConsistent_4 : decode cX5_isConsistent 4 = .ok (.getfield 65, 3) := by decide +kernel
theorem dX5_isConsistent_7 : decode cX5_isConsistent 7 = .ok (.invokevirtual 208, 3) := by decide +kernel
theorem dX5_isConsistent_10 : decode cX5_isConsistent 10 = .ok (.ifCond .eq 27, 3) := by decide +kernel
theorem dX5_isConsistent_13 : decode cX5_isConsistent 13 = .ok (.aload_n 0, 1) := by decide +kernel
theorem dX5_isConsistent_14 : decode cX5_isConsistent 14 = .ok (.getfield 10, 3) := by decide +kernel
theorem dX5_isConsistent_17 : decode cX5_isConsistent 17 = .ok (.invokevirtual 212, 3) := by decide +kernel
theorem dX5_isConsistent_20 : decode cX5_isConsistent 20 = .ok (.ifCond .eq 17, 3) := by decide +kernel
theorem dX5_isConsistent_23 : decode cX5_isConsistent 23 = .ok (.aload_n 0, 1) := by decide +kernel
theorem dX5_isConsistent_24 : decode cX5_isConsistent 24 = .ok (.getfield 10, 3) := by decide +kernel
theorem dX5_isConsistent_27 : decode cX5_isConsistent 27 = .ok (.invokevirtual 215, 3) := by decide +kernel
theorem dX5_isConsistent_30 : decode cX5_isConsistent 30 = .ok (.ifCond .eq 7, 3) := by decide +kernel
theorem dX5_isConsistent_33 : decode cX5_isConsistent 33 = .ok (.iconst 1, 1) := by decide +kernel
theorem dX5_isConsistent_34 : decode cX5_isConsistent 34 = .ok (.goto 4, 3) := by decide +kernel
theorem dX5_isConsistent_37 : decode cX5_isConsistent 37 = .ok (.iconst 0, 1) := by decide +kernel
theorem dX5_isConsistent_38 : decode cX5_isConsistent 38 = .ok (.ireturn, 1) := by decide +kernel
theorem dX5_renderCard_0 : decode cX5_renderCard 0 = .ok (.aload_n 0, 1) := by decide +kernel
theorem dX5_renderCard_1 : decode cX5_renderCard 1 = .ok (.iload_n 1, 1) := by decide +kernel
theorem dX5_renderCard_2 : decode cX5_renderCard 2 = .ok (.invokevirtual 111, 3) := by decide +kernel
theorem dX5_renderCard_5 : decode cX5_renderCard 5 = .ok (.aload_n 0, 1) := by decide +kernel
theorem dX5_renderCard_6 : decode cX5_renderCard 6 = .ok (.getfield 10, 3) := by decide +kernel
theorem dX5_renderCard_9 : decode cX5_renderCard 9 = .ok (.getfield 114, 3) := by decide +kernel
theorem dX5_renderCard_12 : decode cX5_renderCard 12 = .ok (.iload_n 1, 1) := by decide +kernel
theorem dX5_renderCard_13 : decode cX5_renderCard 13 = .ok (.aaload, 1) := by decide +kernel
theorem dX5_renderCard_14 : decode cX5_renderCard 14 = .ok (.astore_n 2, 1) := by decide +kernel
theorem dX5_renderCard_15 : decode cX5_renderCard 15 = .ok (.aload_n 0, 1) := by decide +kernel
theorem dX5_renderCard_16 : decode cX5_renderCard 16 = .ok (.getfield 29, 3) := by decide +kernel
theorem dX5_renderCard_19 : decode cX5_renderCard 19 = .ok (.iconst 0, 1) := by decide +kernel
theorem dX5_renderCard_20 : decode cX5_renderCard 20 = .ok (.invokevirtual 218, 3) := by decide +kernel
theorem dX5_renderCard_23 : decode cX5_renderCard 23 = .ok (.aload_n 0, 1) := by decide +kernel
theorem dX5_renderCard_24 : decode cX5_renderCard 24 = .ok (.getfield 29, 3) := by decide +kernel
theorem dX5_renderCard_27 : decode cX5_renderCard 27 = .ok (.iload_n 1, 1) := by decide +kernel
theorem dX5_renderCard_28 : decode cX5_renderCard 28 = .ok (.invokevirtual 221, 3) := by decide +kernel
theorem dX5_renderCard_31 : decode cX5_renderCard 31 = .ok (.pop, 1) := by decide +kernel
theorem dX5_renderCard_32 : decode cX5_renderCard 32 = .ok (.aload_n 0, 1) := by decide +kernel
theorem dX5_renderCard_33 : decode cX5_renderCard 33 = .ok (.getfield 29, 3) := by decide +kernel
theorem dX5_renderCard_36 : decode cX5_renderCard 36 = .ok (.aload_n 2, 1) := by decide +kernel
theorem dX5_renderCard_37 : decode cX5_renderCard 37 = .ok (.getfield 118, 3) := by decide +kernel
theorem dX5_renderCard_40 : decode cX5_renderCard 40 = .ok (.ifCond .eq 8, 3) := by decide +kernel
theorem dX5_renderCard_43 : decode cX5_renderCard 43 = .ok (.bipush 114, 2) := by decide +kernel
theorem dX5_renderCard_45 : decode cX5_renderCard 45 = .ok (.goto 5, 3) := by decide +kernel
theorem dX5_renderCard_48 : decode cX5_renderCard 48 = .ok (.bipush 102, 2) := by decide +kernel
theorem dX5_renderCard_50 : decode cX5_renderCard 50 = .ok (.invokevirtual 225, 3) := by decide +kernel
theorem dX5_renderCard_53 : decode cX5_renderCard 53 = .ok (.pop, 1) := by decide +kernel
theorem dX5_renderCard_54 : decode cX5_renderCard 54 = .ok (.aload_n 0, 1) := by decide +kernel
theorem dX5_renderCard_55 : decode cX5_renderCard 55 = .ok (.getfield 29, 3) := by decide +kernel
theorem dX5_renderCard_58 : decode cX5_renderCard 58 = .ok (.bipush 58, 2) := by decide +kernel
theorem dX5_renderCard_60 : decode cX5_renderCard 60 = .ok (.invokevirtual 225, 3) := by decide +kernel
theorem dX5_renderCard_63 : decode cX5_renderCard 63 = .ok (.pop, 1) := by decide +kernel
theorem dX5_renderCard_64 : decode cX5_renderCard 64 = .ok (.aload_n 0, 1) := by decide +kernel
theorem dX5_renderCard_65 : decode cX5_renderCard 65 = .ok (.getfield 29, 3) := by decide +kernel
theorem dX5_renderCard_68 : decode cX5_renderCard 68 = .ok (.aload_n 2, 1) := by decide +kernel
theorem dX5_renderCard_69 : decode cX5_renderCard 69 = .ok (.getfield 124, 3) := by decide +kernel
theorem dX5_renderCard_72 : decode cX5_renderCard 72 = .ok (.invokevirtual 221, 3) := by decide +kernel
theorem dX5_renderCard_75 : decode cX5_renderCard 75 = .ok (.pop, 1) := by decide +kernel
theorem dX5_renderCard_76 : decode cX5_renderCard 76 = .ok (.aload_n 2, 1) := by decide +kernel
theorem dX5_renderCard_77 : decode cX5_renderCard 77 = .ok (.getfield 127, 3) := by decide +kernel
theorem dX5_renderCard_80 : decode cX5_renderCard 80 = .ok (.ifCond .eq 25, 3) := by decide +kernel
theorem dX5_renderCard_83 : decode cX5_renderCard 83 = .ok (.aload_n 0, 1) := by decide +kernel
theorem dX5_renderCard_84 : decode cX5_renderCard 84 = .ok (.getfield 29, 3) := by decide +kernel
theorem dX5_renderCard_87 : decode cX5_renderCard 87 = .ok (.bipush 64, 2) := by decide +kernel
theorem dX5_renderCard_89 : decode cX5_renderCard 89 = .ok (.invokevirtual 225, 3) := by decide +kernel
theorem dX5_renderCard_92 : decode cX5_renderCard 92 = .ok (.pop, 1) := by decide +kernel
theorem dX5_renderCard_93 : decode cX5_renderCard 93 = .ok (.aload_n 0, 1) := by decide +kernel
theorem dX5_renderCard_94 : decode cX5_renderCard 94 = .ok (.getfield 29, 3) := by decide +kernel
theorem dX5_renderCard_97 : decode cX5_renderCard 97 = .ok (.aload_n 2, 1) := by decide +kernel
theorem dX5_renderCard_98 : decode cX5_renderCard 98 = .ok (.getfield 133, 3) := by decide +kernel
theorem dX5_renderCard_101 : decode cX5_renderCard 101 = .ok (.invokevirtual 221, 3) := by decide +kernel
theorem dX5_renderCard_104 : decode cX5_renderCard 104 = .ok (.pop, 1) := by decide +kernel
theorem dX5_renderCard_105 : decode cX5_renderCard 105 = .ok (.aload_n 0, 1) := by decide +kernel
theorem dX5_renderCard_106 : decode cX5_renderCard 106 = .ok (.getfield 29, 3) := by decide +kernel
theorem dX5_renderCard_109 : decode cX5_renderCard 109 = .ok (.invokevirtual 228, 3) := by decide +kernel
theorem dX5_renderCard_112 : decode cX5_renderCard 112 = .ok (.ireturn, 1) := by decide +kernel
theorem dX5_renderZones_0 : decode cX5_renderZones 0 = .ok (.aload_n 0, 1) := by decide +kernel
theorem dX5_renderZones_1 : decode cX5_renderZones 1 = .ok (.getfield 29, 3) := by decide +kernel
theorem dX5_renderZones_4 : decode cX5_renderZones 4 = .ok (.iconst 0, 1) := by decide +kernel
theorem dX5_renderZones_5 : decode cX5_renderZones 5 = .ok (.invokevirtual 218, 3) := by decide +kernel
theorem dX5_renderZones_8 : decode cX5_renderZones 8 = .ok (.iconst 0, 1) := by decide +kernel
theorem dX5_renderZones_9 : decode cX5_renderZones 9 = .ok (.istore_n 1, 1) := by decide +kernel
theorem dX5_renderZones_10 : decode cX5_renderZones 10 = .ok (.iload_n 1, 1) := by decide +kernel
theorem dX5_renderZones_11 : decode cX5_renderZones 11 = .ok (.bipush 12, 2) := by decide +kernel
theorem dX5_renderZones_13 : decode cX5_renderZones 13 = .ok (.if_icmp .ge 29, 3) := by decide +kernel
theorem dX5_renderZones_16 : decode cX5_renderZones 16 = .ok (.aload_n 0, 1) := by decide +kernel
theorem dX5_renderZones_17 : decode cX5_renderZones 17 = .ok (.getfield 29, 3) := by decide +kernel
theorem dX5_renderZones_20 : decode cX5_renderZones 20 = .ok (.aload_n 0, 1) := by decide +kernel
theorem dX5_renderZones_21 : decode cX5_renderZones 21 = .ok (.getfield 10, 3) := by decide +kernel
theorem dX5_renderZones_24 : decode cX5_renderZones 24 = .ok (.getfield 65, 3) := by decide +kernel
theorem dX5_renderZones_27 : decode cX5_renderZones 27 = .ok (.getfield 69, 3) := by decide +kernel
theorem dX5_renderZones_30 : decode cX5_renderZones 30 = .ok (.iload_n 1, 1) := by decide +kernel
theorem dX5_renderZones_31 : decode cX5_renderZones 31 = .ok (.iaload, 1) := by decide +kernel
theorem dX5_renderZones_32 : decode cX5_renderZones 32 = .ok (.invokevirtual 221, 3) := by decide +kernel
theorem dX5_renderZones_35 : decode cX5_renderZones 35 = .ok (.pop, 1) := by decide +kernel
theorem dX5_renderZones_36 : decode cX5_renderZones 36 = .ok (.iinc 1 1, 3) := by decide +kernel
theorem dX5_renderZones_39 : decode cX5_renderZones 39 = .ok (.goto (-29), 3) := by decide +kernel
theorem dX5_renderZones_42 : decode cX5_renderZones 42 = .ok (.aload_n 0, 1) := by decide +kernel
theorem dX5_renderZones_43 : decode cX5_renderZones 43 = .ok (.getfield 29, 3) := by decide +kernel
theorem dX5_renderZones_46 : decode cX5_renderZones 46 = .ok (.invokevirtual 228, 3) := by decide +kernel
theorem dX5_renderZones_49 : decode cX5_renderZones 49 = .ok (.ireturn, 1) := by decide +kernel
theorem dX5_outputAt_0 : decode cX5_outputAt 0 = .ok (.iload_n 1, 1) := by decide +kernel
theorem dX5_outputAt_1 : decode cX5_outputAt 1 = .ok (.ifCond .lt 14, 3) := by decide +kernel
theorem dX5_outputAt_4 : decode cX5_outputAt 4 = .ok (.iload_n 1, 1) := by decide +kernel
theorem dX5_outputAt_5 : decode cX5_outputAt 5 = .ok (.aload_n 0, 1) := by decide +kernel
theorem dX5_outputAt_6 : decode cX5_outputAt 6 = .ok (.getfield 29, 3) := by decide +kernel
theorem dX5_outputAt_9 : decode cX5_outputAt 9 = .ok (.invokevirtual 228, 3) := by decide +kernel
theorem dX5_outputAt_12 : decode cX5_outputAt 12 = .ok (.if_icmp .lt 13, 3) := by decide +kernel
theorem dX5_outputAt_15 : decode cX5_outputAt 15 = .ok (.new 231, 3) := by decide +kernel
theorem dX5_outputAt_18 : decode cX5_outputAt 18 = .ok (.dup, 1) := by decide +kernel
theorem dX5_outputAt_19 : decode cX5_outputAt 19 = .ok (.ldc 233, 2) := by decide +kernel
theorem dX5_outputAt_21 : decode cX5_outputAt 21 = .ok (.invokespecial 235, 3) := by decide +kernel
theorem dX5_outputAt_24 : decode cX5_outputAt 24 = .ok (.athrow, 1) := by decide +kernel
theorem dX5_outputAt_25 : decode cX5_outputAt 25 = .ok (.aload_n 0, 1) := by decide +kernel
theorem dX5_outputAt_26 : decode cX5_outputAt 26 = .ok (.getfield 29, 3) := by decide +kernel
theorem dX5_outputAt_29 : decode cX5_outputAt 29 = .ok (.iload_n 1, 1) := by decide +kernel
theorem dX5_outputAt_30 : decode cX5_outputAt 30 = .ok (.invokevirtual 236, 3) := by decide +kernel
theorem dX5_outputAt_33 : decode cX5_outputAt 33 = .ok (.ireturn, 1) := by decide +kernel
theorem dX5_type_0 : decode cX5_type 0 = .ok (.iload_n 1, 1) := by decide +kernel
theorem dX5_type_1 : decode cX5_type 1 = .ok (.bipush 32, 2) := by decide +kernel
theorem dX5_type_3 : decode cX5_type 3 = .ok (.if_icmp .lt 9, 3) := by decide +kernel
theorem dX5_type_6 : decode cX5_type 6 = .ok (.iload_n 1, 1) := by decide +kernel
theorem dX5_type_7 : decode cX5_type 7 = .ok (.bipush 126, 2) := by decide +kernel
theorem dX5_type_9 : decode cX5_type 9 = .ok (.if_icmp .le 13, 3) := by decide +kernel
theorem dX5_type_12 : decode cX5_type 12 = .ok (.new 240, 3) := by decide +kernel
theorem dX5_type_15 : decode cX5_type 15 = .ok (.dup, 1) := by decide +kernel
theorem dX5_type_16 : decode cX5_type 16 = .ok (.ldc 242, 2) := by decide +kernel
theorem dX5_type_18 : decode cX5_type 18 = .ok (.invokespecial 244, 3) := by decide +kernel
theorem dX5_type_21 : decode cX5_type 21 = .ok (.athrow, 1) := by decide +kernel
theorem dX5_type_22 : decode cX5_type 22 = .ok (.aload_n 0, 1) := by decide +kernel
theorem dX5_type_23 : decode cX5_type 23 = .ok (.getfield 33, 3) := by decide +kernel
theorem dX5_type_26 : decode cX5_type 26 = .ok (.invokevirtual 228, 3) := by decide +kernel
theorem dX5_type_29 : decode cX5_type 29 = .ok (.bipush 60, 2) := by decide +kernel
theorem dX5_type_31 : decode cX5_type 31 = .ok (.if_icmp .lt 13, 3) := by decide +kernel
theorem dX5_type_34 : decode cX5_type 34 = .ok (.new 245, 3) := by decide +kernel
theorem dX5_type_37 : decode cX5_type 37 = .ok (.dup, 1) := by decide +kernel
theorem dX5_type_38 : decode cX5_type 38 = .ok (.ldc 247, 2) := by decide +kernel
theorem dX5_type_40 : decode cX5_type 40 = .ok (.invokespecial 249, 3) := by decide +kernel
theorem dX5_type_43 : decode cX5_type 43 = .ok (.athrow, 1) := by decide +kernel
theorem dX5_type_44 : decode cX5_type 44 = .ok (.aload_n 0, 1) := by decide +kernel
theorem dX5_type_45 : decode cX5_type 45 = .ok (.getfield 33, 3) := by decide +kernel
theorem dX5_type_48 : decode cX5_type 48 = .ok (.iload_n 1, 1) := by decide +kernel
theorem dX5_type_49 : decode cX5_type 49 = .ok (.invokevirtual 225, 3) := by decide +kernel
theorem dX5_type_52 : decode cX5_type 52 = .ok (.pop, 1) := by decide +kernel
theorem dX5_type_53 : decode cX5_type 53 = .ok (.aload_n 0, 1) := by decide +kernel
theorem dX5_type_54 : decode cX5_type 54 = .ok (.getfield 33, 3) := by decide +kernel
theorem dX5_type_57 : decode cX5_type 57 = .ok (.invokevirtual 228, 3) := by decide +kernel
theorem dX5_type_60 : decode cX5_type 60 = .ok (.ireturn, 1) := by decide +kernel
theorem dX5_runScript_0 : decode cX5_runScript 0 = .ok (.aload_n 0, 1) := by decide +kernel
theorem dX5_runScript_1 : decode cX5_runScript 1 = .ok (.getfield 39, 3) := by decide +kernel
theorem dX5_runScript_4 : decode cX5_runScript 4 = .ok (.aload_n 0, 1) := by decide +kernel
theorem dX5_runScript_5 : decode cX5_runScript 5 = .ok (.getfield 33, 3) := by decide +kernel
theorem dX5_runScript_8 : decode cX5_runScript 8 = .ok (.invokevirtual 250, 3) := by decide +kernel
theorem dX5_runScript_11 : decode cX5_runScript 11 = .ok (.istore_n 1, 1) := by decide +kernel
theorem dX5_runScript_12 : decode cX5_runScript 12 = .ok (.aload_n 0, 1) := by decide +kernel
theorem dX5_runScript_13 : decode cX5_runScript 13 = .ok (.getfield 33, 3) := by decide +kernel
theorem dX5_runScript_16 : decode cX5_runScript 16 = .ok (.iconst 0, 1) := by decide +kernel
theorem dX5_runScript_17 : decode cX5_runScript 17 = .ok (.invokevirtual 218, 3) := by decide +kernel
theorem dX5_runScript_20 : decode cX5_runScript 20 = .ok (.iload_n 1, 1) := by decide +kernel
theorem dX5_runScript_21 : decode cX5_runScript 21 = .ok (.ifCond .ne 25, 3) := by decide +kernel
theorem dX5_runScript_24 : decode cX5_runScript 24 = .ok (.aload_n 0, 1) := by decide +kernel
theorem dX5_runScript_25 : decode cX5_runScript 25 = .ok (.aload_n 0, 1) := by decide +kernel
theorem dX5_runScript_26 : decode cX5_runScript 26 = .ok (.getfield 39, 3) := by decide +kernel
theorem dX5_runScript_29 : decode cX5_runScript 29 = .ok (.getfield 254, 3) := by decide +kernel
theorem dX5_runScript_32 : decode cX5_runScript 32 = .ok (.putfield 43, 3) := by decide +kernel
theorem dX5_runScript_35 : decode cX5_runScript 35 = .ok (.new 240, 3) := by decide +kernel
theorem dX5_runScript_38 : decode cX5_runScript 38 = .ok (.dup, 1) := by decide +kernel
theorem dX5_runScript_39 : decode cX5_runScript 39 = .ok (.ldc_w 257, 3) := by decide +kernel
theorem dX5_runScript_42 : decode cX5_runScript 42 = .ok (.invokespecial 244, 3) := by decide +kernel
theorem dX5_runScript_45 : decode cX5_runScript 45 = .ok (.athrow, 1) := by decide +kernel
theorem dX5_runScript_46 : decode cX5_runScript 46 = .ok (.aload_n 0, 1) := by decide +kernel
theorem dX5_runScript_47 : decode cX5_runScript 47 = .ok (.getfield 16, 3) := by decide +kernel
theorem dX5_runScript_50 : decode cX5_runScript 50 = .ok (.aload_n 0, 1) := by decide +kernel
theorem dX5_runScript_51 : decode cX5_runScript 51 = .ok (.getfield 10, 3) := by decide +kernel
theorem dX5_runScript_54 : decode cX5_runScript 54 = .ok (.invokevirtual 259, 3) := by decide +kernel
theorem dX5_runScript_57 : decode cX5_runScript 57 = .ok (.aload_n 0, 1) := by decide +kernel
theorem dX5_runScript_58 : decode cX5_runScript 58 = .ok (.invokevirtual 263, 3) := by decide +kernel
theorem dX5_runScript_61 : decode cX5_runScript 61 = .ok (.istore_n 2, 1) := by decide +kernel
theorem dX5_runScript_62 : decode cX5_runScript 62 = .ok (.iload_n 2, 1) := by decide +kernel
theorem dX5_runScript_63 : decode cX5_runScript 63 = .ok (.iconst (-1), 1) := by decide +kernel
theorem dX5_runScript_64 : decode cX5_runScript 64 = .ok (.if_icmp .eq 23, 3) := by decide +kernel
theorem dX5_runScript_67 : decode cX5_runScript 67 = .ok (.aload_n 0, 1) := by decide +kernel
theorem dX5_runScript_68 : decode cX5_runScript 68 = .ok (.invokevirtual 266, 3) := by decide +kernel
theorem dX5_runScript_71 : decode cX5_runScript 71 = .ok (.aload_n 0, 1) := by decide +kernel
theorem dX5_runScript_72 : decode cX5_runScript 72 = .ok (.iload_n 2, 1) := by decide +kernel
theorem dX5_runScript_73 : decode cX5_runScript 73 = .ok (.putfield 47, 3) := by decide +kernel
theorem dX5_runScript_76 : decode cX5_runScript 76 = .ok (.new 245, 3) := by decide +kernel
theorem dX5_runScript_79 : decode cX5_runScript 79 = .ok (.dup, 1) := by decide +kernel
theorem dX5_runScript_80 : decode cX5_runScript 80 = .ok (.ldc_w 269, 3) := by decide +kernel
theorem dX5_runScript_83 : decode cX5_runScript 83 = .ok (.invokespecial 249, 3) := by decide +kernel
theorem dX5_runScript_86 : decode cX5_runScript 86 = .ok (.athrow, 1) := by decide +kernel
theorem dX5_runScript_87 : decode cX5_runScript 87 = .ok (.aload_n 0, 1) := by decide +kernel
theorem dX5_runScript_88 : decode cX5_runScript 88 = .ok (.invokevirtual 271, 3) := by decide +kernel
theorem dX5_runScript_91 : decode cX5_runScript 91 = .ok (.aload_n 0, 1) := by decide +kernel
theorem dX5_runScript_92 : decode cX5_runScript 92 = .ok (.getfield 39, 3) := by decide +kernel
theorem dX5_runScript_95 : decode cX5_runScript 95 = .ok (.getfield 274, 3) := by decide +kernel
theorem dX5_runScript_98 : decode cX5_runScript 98 = .ok (.ireturn, 1) := by decide +kernel
theorem dX5_undo_0 : decode cX5_undo 0 = .ok (.aload_n 0, 1) := by decide +kernel
theorem dX5_undo_1 : decode cX5_undo 1 = .ok (.getfield 281, 3) := by decide +kernel
theorem dX5_undo_4 : decode cX5_undo 4 = .ok (.ifCond .gt 14, 3) := by decide +kernel
theorem dX5_undo_7 : decode cX5_undo 7 = .ok (.new 101, 3) := by decide +kernel
theorem dX5_undo_10 : decode cX5_undo 10 = .ok (.dup, 1) := by decide +kernel
theorem dX5_undo_11 : decode cX5_undo 11 = .ok (.ldc_w 284, 3) := by decide +kernel
theorem dX5_undo_14 : decode cX5_undo 14 = .ok (.invokespecial 105, 3) := by decide +kernel
theorem dX5_undo_17 : decode cX5_undo 17 = .ok (.athrow, 1) := by decide +kernel
theorem dX5_undo_18 : decode cX5_undo 18 = .ok (.aload_n 0, 1) := by decide +kernel
theorem dX5_undo_19 : decode cX5_undo 19 = .ok (.dup, 1) := by decide +kernel
theorem dX5_undo_20 : decode cX5_undo 20 = .ok (.getfield 281, 3) := by decide +kernel
theorem dX5_undo_23 : decode cX5_undo 23 = .ok (.iconst 1, 1) := by decide +kernel
theorem dX5_undo_24 : decode cX5_undo 24 = .ok (.isub, 1) := by decide +kernel
theorem dX5_undo_25 : decode cX5_undo 25 = .ok (.putfield 281, 3) := by decide +kernel
theorem dX5_undo_28 : decode cX5_undo 28 = .ok (.aload_n 0, 1) := by decide +kernel
theorem dX5_undo_29 : decode cX5_undo 29 = .ok (.getfield 10, 3) := by decide +kernel
theorem dX5_undo_32 : decode cX5_undo 32 = .ok (.astore_n 1, 1) := by decide +kernel
theorem dX5_undo_33 : decode cX5_undo 33 = .ok (.aload_n 0, 1) := by decide +kernel
theorem dX5_undo_34 : decode cX5_undo 34 = .ok (.aload_n 0, 1) := by decide +kernel
theorem dX5_undo_35 : decode cX5_undo 35 = .ok (.getfield 22, 3) := by decide +kernel
theorem dX5_undo_38 : decode cX5_undo 38 = .ok (.aload_n 0, 1) := by decide +kernel
theorem dX5_undo_39 : decode cX5_undo 39 = .ok (.getfield 281, 3) := by decide +kernel
theorem dX5_undo_42 : decode cX5_undo 42 = .ok (.aaload, 1) := by decide +kernel
theorem dX5_undo_43 : decode cX5_undo 43 = .ok (.putfield 10, 3) := by decide +kernel
theorem dX5_undo_46 : decode cX5_undo 46 = .ok (.aload_n 0, 1) := by decide +kernel
theorem dX5_undo_47 : decode cX5_undo 47 = .ok (.getfield 22, 3) := by decide +kernel
theorem dX5_undo_50 : decode cX5_undo 50 = .ok (.aload_n 0, 1) := by decide +kernel
theorem dX5_undo_51 : decode cX5_undo 51 = .ok (.getfield 281, 3) := by decide +kernel
theorem dX5_undo_54 : decode cX5_undo 54 = .ok (.aload_n 1, 1) := by decide +kernel
theorem dX5_undo_55 : decode cX5_undo 55 = .ok (.aastore, 1) := by decide +kernel
theorem dX5_undo_56 : decode cX5_undo 56 = .ok (.aload_n 0, 1) := by decide +kernel
theorem dX5_undo_57 : decode cX5_undo 57 = .ok (.getfield 281, 3) := by decide +kernel
theorem dX5_undo_60 : decode cX5_undo 60 = .ok (.ireturn, 1) := by decide +kernel
theorem dX5_change_0 : decode cX5_change 0 = .ok (.aload_n 0, 1) := by decide +kernel
theorem dX5_change_1 : decode cX5_change 1 = .ok (.getfield 10, 3) := by decide +kernel
theorem dX5_change_4 : decode cX5_change 4 = .ok (.iload_n 1, 1) := by decide +kernel
theorem dX5_change_5 : decode cX5_change 5 = .ok (.iload_n 2, 1) := by decide +kernel
theorem dX5_change_6 : decode cX5_change 6 = .ok (.iload_n 3, 1) := by decide +kernel
theorem dX5_change_7 : decode cX5_change 7 = .ok (.invokevirtual 291, 3) := by decide +kernel
theorem dX5_change_10 : decode cX5_change 10 = .ok (.invokestatic 294, 3) := by decide +kernel
theorem dX5_change_13 : decode cX5_change 13 = .ok (.aload_n 0, 1) := by decide +kernel
theorem dX5_change_14 : decode cX5_change 14 = .ok (.getfield 16, 3) := by decide +kernel
theorem dX5_change_17 : decode cX5_change 17 = .ok (.aload_n 0, 1) := by decide +kernel
theorem dX5_change_18 : decode cX5_change 18 = .ok (.getfield 10, 3) := by decide +kernel
theorem dX5_change_21 : decode cX5_change 21 = .ok (.invokevirtual 259, 3) := by decide +kernel
theorem dX5_change_24 : decode cX5_change 24 = .ok (.aload_n 0, 1) := by decide +kernel
theorem dX5_change_25 : decode cX5_change 25 = .ok (.invokevirtual 271, 3) := by decide +kernel
theorem dX5_change_28 : decode cX5_change 28 = .ok (.aload_n 0, 1) := by decide +kernel
theorem dX5_change_29 : decode cX5_change 29 = .ok (.getfield 10, 3) := by decide +kernel
theorem dX5_change_32 : decode cX5_change 32 = .ok (.iload_n 1, 1) := by decide +kernel
theorem dX5_change_33 : decode cX5_change 33 = .ok (.iload_n 2, 1) := by decide +kernel
theorem dX5_change_34 : decode cX5_change 34 = .ok (.iload_n 3, 1) := by decide +kernel
theorem dX5_change_35 : decode cX5_change 35 = .ok (.invokevirtual 297, 3) := by decide +kernel
theorem dX5_change_38 : decode cX5_change 38 = .ok (.ireturn, 1) := by decide +kernel
theorem dX5_refuse_0 : decode cX5_refuse 0 = .ok (.iload_n 0, 1) := by decide +kernel
theorem dX5_refuse_1 : decode cX5_refuse 1 = .ok (.tableswitch 90 1 5 #[35, 46, 57, 68, 79], 35) := by decide +kernel
theorem dX5_refuse_36 : decode cX5_refuse 36 = .ok (.new 231, 3) := by decide +kernel
theorem dX5_refuse_39 : decode cX5_refuse 39 = .ok (.dup, 1) := by decide +kernel
theorem dX5_refuse_40 : decode cX5_refuse 40 = .ok (.ldc_w 300, 3) := by decide +kernel
theorem dX5_refuse_43 : decode cX5_refuse 43 = .ok (.invokespecial 235, 3) := by decide +kernel
theorem dX5_refuse_46 : decode cX5_refuse 46 = .ok (.athrow, 1) := by decide +kernel
theorem dX5_refuse_47 : decode cX5_refuse 47 = .ok (.new 240, 3) := by decide +kernel
theorem dX5_refuse_50 : decode cX5_refuse 50 = .ok (.dup, 1) := by decide +kernel
theorem dX5_refuse_51 : decode cX5_refuse 51 = .ok (.ldc_w 302, 3) := by decide +kernel
theorem dX5_refuse_54 : decode cX5_refuse 54 = .ok (.invokespecial 244, 3) := by decide +kernel
theorem dX5_refuse_57 : decode cX5_refuse 57 = .ok (.athrow, 1) := by decide +kernel
theorem dX5_refuse_58 : decode cX5_refuse 58 = .ok (.new 245, 3) := by decide +kernel
theorem dX5_refuse_61 : decode cX5_refuse 61 = .ok (.dup, 1) := by decide +kernel
theorem dX5_refuse_62 : decode cX5_refuse 62 = .ok (.ldc_w 304, 3) := by decide +kernel
theorem dX5_refuse_65 : decode cX5_refuse 65 = .ok (.invokespecial 249, 3) := by decide +kernel
theorem dX5_refuse_68 : decode cX5_refuse 68 = .ok (.athrow, 1) := by decide +kernel
theorem dX5_refuse_69 : decode cX5_refuse 69 = .ok (.new 101, 3) := by decide +kernel
theorem dX5_refuse_72 : decode cX5_refuse 72 = .ok (.dup, 1) := by decide +kernel
theorem dX5_refuse_73 : decode cX5_refuse 73 = .ok (.ldc_w 306, 3) := by decide +kernel
theorem dX5_refuse_76 : decode cX5_refuse 76 = .ok (.invokespecial 105, 3) := by decide +kernel
theorem dX5_refuse_79 : decode cX5_refuse 79 = .ok (.athrow, 1) := by decide +kernel
theorem dX5_refuse_80 : decode cX5_refuse 80 = .ok (.new 308, 3) := by decide +kernel
theorem dX5_refuse_83 : decode cX5_refuse 83 = .ok (.dup, 1) := by decide +kernel
theorem dX5_refuse_84 : decode cX5_refuse 84 = .ok (.ldc_w 310, 3) := by decide +kernel
theorem dX5_refuse_87 : decode cX5_refuse 87 = .ok (.invokespecial 312, 3) := by decide +kernel
theorem dX5_refuse_90 : decode cX5_refuse 90 = .ok (.athrow, 1) := by decide +kernel
theorem dX5_refuse_91 : decode cX5_refuse 91 = .ok (.return_, 1) := by decide +kernel
theorem dX5_pushSpare_0 : decode cX5_pushSpare 0 = .ok (.aload_n 0, 1) := by decide +kernel
theorem dX5_pushSpare_1 : decode cX5_pushSpare 1 = .ok (.getfield 16, 3) := by decide +kernel
theorem dX5_pushSpare_4 : decode cX5_pushSpare 4 = .ok (.astore_n 1, 1) := by decide +kernel
theorem dX5_pushSpare_5 : decode cX5_pushSpare 5 = .ok (.aload_n 0, 1) := by decide +kernel
theorem dX5_pushSpare_6 : decode cX5_pushSpare 6 = .ok (.getfield 281, 3) := by decide +kernel
theorem dX5_pushSpare_9 : decode cX5_pushSpare 9 = .ok (.bipush 8, 2) := by decide +kernel
theorem dX5_pushSpare_11 : decode cX5_pushSpare 11 = .ok (.if_icmp .ge 37, 3) := by decide +kernel
theorem dX5_pushSpare_14 : decode cX5_pushSpare 14 = .ok (.aload_n 0, 1) := by decide +kernel
theorem dX5_pushSpare_15 : decode cX5_pushSpare 15 = .ok (.aload_n 0, 1) := by decide +kernel
theorem dX5_pushSpare_16 : decode cX5_pushSpare 16 = .ok (.getfield 22, 3) := by decide +kernel
theorem dX5_pushSpare_19 : decode cX5_pushSpare 19 = .ok (.aload_n 0, 1) := by decide +kernel
theorem dX5_pushSpare_20 : decode cX5_pushSpare 20 = .ok (.getfield 281, 3) := by decide +kernel
theorem dX5_pushSpare_23 : decode cX5_pushSpare 23 = .ok (.aaload, 1) := by decide +kernel
theorem dX5_pushSpare_24 : decode cX5_pushSpare 24 = .ok (.putfield 16, 3) := by decide +kernel
theorem dX5_pushSpare_27 : decode cX5_pushSpare 27 = .ok (.aload_n 0, 1) := by decide +kernel
theorem dX5_pushSpare_28 : decode cX5_pushSpare 28 = .ok (.getfield 22, 3) := by decide +kernel
theorem dX5_pushSpare_31 : decode cX5_pushSpare 31 = .ok (.aload_n 0, 1) := by decide +kernel
theorem dX5_pushSpare_32 : decode cX5_pushSpare 32 = .ok (.getfield 281, 3) := by decide +kernel
theorem dX5_pushSpare_35 : decode cX5_pushSpare 35 = .ok (.aload_n 1, 1) := by decide +kernel
theorem dX5_pushSpare_36 : decode cX5_pushSpare 36 = .ok (.aastore, 1) := by decide +kernel
theorem dX5_pushSpare_37 : decode cX5_pushSpare 37 = .ok (.aload_n 0, 1) := by decide +kernel
theorem dX5_pushSpare_38 : decode cX5_pushSpare 38 = .ok (.dup, 1) := by decide +kernel
theorem dX5_pushSpare_39 : decode cX5_pushSpare 39 = .ok (.getfield 281, 3) := by decide +kernel
theorem dX5_pushSpare_42 : decode cX5_pushSpare 42 = .ok (.iconst 1, 1) := by decide +kernel
theorem dX5_pushSpare_43 : decode cX5_pushSpare 43 = .ok (.iadd, 1) := by decide +kernel
theorem dX5_pushSpare_44 : decode cX5_pushSpare 44 = .ok (.putfield 281, 3) := by decide +kernel
theorem dX5_pushSpare_47 : decode cX5_pushSpare 47 = .ok (.return_, 1) := by decide +kernel
theorem dX5_pushSpare_48 : decode cX5_pushSpare 48 = .ok (.aload_n 0, 1) := by decide +kernel
theorem dX5_pushSpare_49 : decode cX5_pushSpare 49 = .ok (.aload_n 0, 1) := by decide +kernel
theorem dX5_pushSpare_50 : decode cX5_pushSpare 50 = .ok (.getfield 22, 3) := by decide +kernel
theorem dX5_pushSpare_53 : decode cX5_pushSpare 53 = .ok (.iconst 0, 1) := by decide +kernel
theorem dX5_pushSpare_54 : decode cX5_pushSpare 54 = .ok (.aaload, 1) := by decide +kernel
theorem dX5_pushSpare_55 : decode cX5_pushSpare 55 = .ok (.putfield 16, 3) := by decide +kernel
theorem dX5_pushSpare_58 : decode cX5_pushSpare 58 = .ok (.iconst 1, 1) := by decide +kernel
theorem dX5_pushSpare_59 : decode cX5_pushSpare 59 = .ok (.istore_n 2, 1) := by decide +kernel
theorem dX5_pushSpare_60 : decode cX5_pushSpare 60 = .ok (.iload_n 2, 1) := by decide +kernel
theorem dX5_pushSpare_61 : decode cX5_pushSpare 61 = .ok (.bipush 8, 2) := by decide +kernel
theorem dX5_pushSpare_63 : decode cX5_pushSpare 63 = .ok (.if_icmp .ge 23, 3) := by decide +kernel
theorem dX5_pushSpare_66 : decode cX5_pushSpare 66 = .ok (.aload_n 0, 1) := by decide +kernel
theorem dX5_pushSpare_67 : decode cX5_pushSpare 67 = .ok (.getfield 22, 3) := by decide +kernel
theorem dX5_pushSpare_70 : decode cX5_pushSpare 70 = .ok (.iload_n 2, 1) := by decide +kernel
theorem dX5_pushSpare_71 : decode cX5_pushSpare 71 = .ok (.iconst 1, 1) := by decide +kernel
theorem dX5_pushSpare_72 : decode cX5_pushSpare 72 = .ok (.isub, 1) := by decide +kernel
theorem dX5_pushSpare_73 : decode cX5_pushSpare 73 = .ok (.aload_n 0, 1) := by decide +kernel
theorem dX5_pushSpare_74 : decode cX5_pushSpare 74 = .ok (.getfield 22, 3) := by decide +kernel
theorem dX5_pushSpare_77 : decode cX5_pushSpare 77 = .ok (.iload_n 2, 1) := by decide +kernel
theorem dX5_pushSpare_78 : decode cX5_pushSpare 78 = .ok (.aaload, 1) := by decide +kernel
theorem dX5_pushSpare_79 : decode cX5_pushSpare 79 = .ok (.aastore, 1) := by decide +kernel
theorem dX5_pushSpare_80 : decode cX5_pushSpare 80 = .ok (.iinc 2 1, 3) := by decide +kernel
theorem dX5_pushSpare_83 : decode cX5_pushSpare 83 = .ok (.goto (-23), 3) := by decide +kernel
theorem dX5_pushSpare_86 : decode cX5_pushSpare 86 = .ok (.aload_n 0, 1) := by decide +kernel
theorem dX5_pushSpare_87 : decode cX5_pushSpare 87 = .ok (.getfield 22, 3) := by decide +kernel
theorem dX5_pushSpare_90 : decode cX5_pushSpare 90 = .ok (.bipush 7, 2) := by decide +kernel
theorem dX5_pushSpare_92 : decode cX5_pushSpare 92 = .ok (.aload_n 1, 1) := by decide +kernel
theorem dX5_pushSpare_93 : decode cX5_pushSpare 93 = .ok (.aastore, 1) := by decide +kernel
theorem dX5_pushSpare_94 : decode cX5_pushSpare 94 = .ok (.return_, 1) := by decide +kernel
theorem dX5_takeBackToSpare_0 : decode cX5_takeBackToSpare 0 = .ok (.aload_n 0, 1) := by decide +kernel
theorem dX5_takeBackToSpare_1 : decode cX5_takeBackToSpare 1 = .ok (.getfield 10, 3) := by decide +kernel
theorem dX5_takeBackToSpare_4 : decode cX5_takeBackToSpare 4 = .ok (.astore_n 1, 1) := by decide +kernel
theorem dX5_takeBackToSpare_5 : decode cX5_takeBackToSpare 5 = .ok (.aload_n 0, 1) := by decide +kernel
theorem dX5_takeBackToSpare_6 : decode cX5_takeBackToSpare 6 = .ok (.aload_n 0, 1) := by decide +kernel
theorem dX5_takeBackToSpare_7 : decode cX5_takeBackToSpare 7 = .ok (.getfield 16, 3) := by decide +kernel
theorem dX5_takeBackToSpare_10 : decode cX5_takeBackToSpare 10 = .ok (.putfield 10, 3) := by decide +kernel
theorem dX5_takeBackToSpare_13 : decode cX5_takeBackToSpare 13 = .ok (.aload_n 0, 1) := by decide +kernel
theorem dX5_takeBackToSpare_14 : decode cX5_takeBackToSpare 14 = .ok (.aload_n 1, 1) := by decide +kernel
theorem dX5_takeBackToSpare_15 : decode cX5_takeBackToSpare 15 = .ok (.putfield 16, 3) := by decide +kernel
theorem dX5_takeBackToSpare_18 : decode cX5_takeBackToSpare 18 = .ok (.return_, 1) := by decide +kernel
theorem dX5_firstFailedCommand_0 : decode cX5_firstFailedCommand 0 = .ok (.iconst 0, 1) := by decide +kernel
theorem dX5_firstFailedCommand_1 : decode cX5_firstFailedCommand 1 = .ok (.istore_n 1, 1) := by decide +kernel
theorem dX5_firstFailedCommand_2 : decode cX5_firstFailedCommand 2 = .ok (.iload_n 1, 1) := by decide +kernel
theorem dX5_firstFailedCommand_3 : decode cX5_firstFailedCommand 3 = .ok (.aload_n 0, 1) := by decide +kernel
theorem dX5_firstFailedCommand_4 : decode cX5_firstFailedCommand 4 = .ok (.getfield 39, 3) := by decide +kernel
theorem dX5_firstFailedCommand_7 : decode cX5_firstFailedCommand 7 = .ok (.getfield 274, 3) := by decide +kernel
theorem dX5_firstFailedCommand_10 : decode cX5_firstFailedCommand 10 = .ok (.if_icmp .ge 74, 3) := by decide +kernel
theorem dX5_firstFailedCommand_13 : decode cX5_firstFailedCommand 13 = .ok (.iload_n 1, 1) := by decide +kernel
theorem dX5_firstFailedCommand_14 : decode cX5_firstFailedCommand 14 = .ok (.bipush 10, 2) := by decide +kernel
theorem dX5_firstFailedCommand_16 : decode cX5_firstFailedCommand 16 = .ok (.if_icmp .ge 68, 3) := by decide +kernel
theorem dX5_firstFailedCommand_19 : decode cX5_firstFailedCommand 19 = .ok (.aload_n 0, 1) := by decide +kernel
theorem dX5_firstFailedCommand_20 : decode cX5_firstFailedCommand 20 = .ok (.getfield 39, 3) := by decide +kernel
theorem dX5_firstFailedCommand_23 : decode cX5_firstFailedCommand 23 = .ok (.getfield 313, 3) := by decide +kernel
theorem dX5_firstFailedCommand_26 : decode cX5_firstFailedCommand 26 = .ok (.iload_n 1, 1) := by decide +kernel
theorem dX5_firstFailedCommand_27 : decode cX5_firstFailedCommand 27 = .ok (.iaload, 1) := by decide +kernel
theorem dX5_firstFailedCommand_28 : decode cX5_firstFailedCommand 28 = .ok (.istore_n 2, 1) := by decide +kernel
theorem dX5_firstFailedCommand_29 : decode cX5_firstFailedCommand 29 = .ok (.aload_n 0, 1) := by decide +kernel
theorem dX5_firstFailedCommand_30 : decode cX5_firstFailedCommand 30 = .ok (.getfield 39, 3) := by decide +kernel
theorem dX5_firstFailedCommand_33 : decode cX5_firstFailedCommand 33 = .ok (.getfield 316, 3) := by decide +kernel
theorem dX5_firstFailedCommand_36 : decode cX5_firstFailedCommand 36 = .ok (.iload_n 1, 1) := by decide +kernel
theorem dX5_firstFailedCommand_37 : decode cX5_firstFailedCommand 37 = .ok (.iaload, 1) := by decide +kernel
theorem dX5_firstFailedCommand_38 : decode cX5_firstFailedCommand 38 = .ok (.istore_n 3, 1) := by decide +kernel
theorem dX5_firstFailedCommand_39 : decode cX5_firstFailedCommand 39 = .ok (.aload_n 0, 1) := by decide +kernel
theorem dX5_firstFailedCommand_40 : decode cX5_firstFailedCommand 40 = .ok (.getfield 39, 3) := by decide +kernel
theorem dX5_firstFailedCommand_43 : decode cX5_firstFailedCommand 43 = .ok (.getfield 319, 3) := by decide +kernel
theorem dX5_firstFailedCommand_46 : decode cX5_firstFailedCommand 46 = .ok (.iload_n 1, 1) := by decide +kernel
theorem dX5_firstFailedCommand_47 : decode cX5_firstFailedCommand 47 = .ok (.iaload, 1) := by decide +kernel
theorem dX5_firstFailedCommand_48 : decode cX5_firstFailedCommand 48 = .ok (.istore 4, 2) := by decide +kernel
theorem dX5_firstFailedCommand_50 : decode cX5_firstFailedCommand 50 = .ok (.aload_n 0, 1) := by decide +kernel
theorem dX5_firstFailedCommand_51 : decode cX5_firstFailedCommand 51 = .ok (.getfield 10, 3) := by decide +kernel
theorem dX5_firstFailedCommand_54 : decode cX5_firstFailedCommand 54 = .ok (.iload_n 2, 1) := by decide +kernel
theorem dX5_firstFailedCommand_55 : decode cX5_firstFailedCommand 55 = .ok (.iload_n 3, 1) := by decide +kernel
theorem dX5_firstFailedCommand_56 : decode cX5_firstFailedCommand 56 = .ok (.iload 4, 2) := by decide +kernel
theorem dX5_firstFailedCommand_58 : decode cX5_firstFailedCommand 58 = .ok (.invokevirtual 291, 3) := by decide +kernel
theorem dX5_firstFailedCommand_61 : decode cX5_firstFailedCommand 61 = .ok (.ifCond .eq 5, 3) := by decide +kernel
theorem dX5_firstFailedCommand_64 : decode cX5_firstFailedCommand 64 = .ok (.iload_n 1, 1) := by decide +kernel
theorem dX5_firstFailedCommand_65 : decode cX5_firstFailedCommand 65 = .ok (.ireturn, 1) := by decide +kernel
theorem dX5_firstFailedCommand_66 : decode cX5_firstFailedCommand 66 = .ok (.aload_n 0, 1) := by decide +kernel
theorem dX5_firstFailedCommand_67 : decode cX5_firstFailedCommand 67 = .ok (.getfield 10, 3) := by decide +kernel
theorem dX5_firstFailedCommand_70 : decode cX5_firstFailedCommand 70 = .ok (.iload_n 2, 1) := by decide +kernel
theorem dX5_firstFailedCommand_71 : decode cX5_firstFailedCommand 71 = .ok (.iload_n 3, 1) := by decide +kernel
theorem dX5_firstFailedCommand_72 : decode cX5_firstFailedCommand 72 = .ok (.iload 4, 2) := by decide +kernel
theorem dX5_firstFailedCommand_74 : decode cX5_firstFailedCommand 74 = .ok (.invokevirtual 297, 3) := by decide +kernel
theorem dX5_firstFailedCommand_77 : decode cX5_firstFailedCommand 77 = .ok (.pop, 1) := by decide +kernel
theorem dX5_firstFailedCommand_78 : decode cX5_firstFailedCommand 78 = .ok (.iinc 1 1, 3) := by decide +kernel
theorem dX5_firstFailedCommand_81 : decode cX5_firstFailedCommand 81 = .ok (.goto (-79), 3) := by decide +kernel
theorem dX5_firstFailedCommand_84 : decode cX5_firstFailedCommand 84 = .ok (.iconst (-1), 1) := by decide +kernel
theorem dX5_firstFailedCommand_85 : decode cX5_firstFailedCommand 85 = .ok (.ireturn, 1) := by decide +kernel
theorem dX5_requireCard_0 : decode cX5_requireCard 0 = .ok (.aload_n 0, 1) := by decide +kernel
theorem dX5_requireCard_1 : decode cX5_requireCard 1 = .ok (.getfield 10, 3) := by decide +kernel
theorem dX5_requireCard_4 : decode cX5_requireCard 4 = .ok (.iload_n 1, 1) := by decide +kernel
theorem dX5_requireCard_5 : decode cX5_requireCard 5 = .ok (.invokevirtual 322, 3) := by decide +kernel
theorem dX5_requireCard_8 : decode cX5_requireCard 8 = .ok (.ifCond .ne 14, 3) := by decide +kernel
theorem dX5_requireCard_11 : decode cX5_requireCard 11 = .ok (.new 231, 3) := by decide +kernel
theorem dX5_requireCard_14 : decode cX5_requireCard 14 = .ok (.dup, 1) := by decide +kernel
theorem dX5_requireCard_15 : decode cX5_requireCard 15 = .ok (.ldc_w 325, 3) := by decide +kernel
theorem dX5_requireCard_18 : decode cX5_requireCard 18 = .ok (.invokespecial 235, 3) := by decide +kernel
theorem dX5_requireCard_21 : decode cX5_requireCard 21 = .ok (.athrow, 1) := by decide +kernel
theorem dX5_requireCard_22 : decode cX5_requireCard 22 = .ok (.return_, 1) := by decide +kernel
theorem dX5_requireStation_0 : decode cX5_requireStation 0 = .ok (.iload_n 0, 1) := by decide +kernel
theorem dX5_requireStation_1 : decode cX5_requireStation 1 = .ok (.invokestatic 327, 3) := by decide +kernel
theorem dX5_requireStation_4 : decode cX5_requireStation 4 = .ok (.ifCond .ne 14, 3) := by decide +kernel
theorem dX5_requireStation_7 : decode cX5_requireStation 7 = .ok (.new 231, 3) := by decide +kernel
theorem dX5_requireStation_10 : decode cX5_requireStation 10 = .ok (.dup, 1) := by decide +kernel
theorem dX5_requireStation_11 : decode cX5_requireStation 11 = .ok (.ldc_w 330, 3) := by decide +kernel
theorem dX5_requireStation_14 : decode cX5_requireStation 14 = .ok (.invokespecial 235, 3) := by decide +kernel
theorem dX5_requireStation_17 : decode cX5_requireStation 17 = .ok (.athrow, 1) := by decide +kernel
theorem dX5_requireStation_18 : decode cX5_requireStation 18 = .ok (.return_, 1) := by decide +kernel
theorem dX5_requireTrip_0 : decode cX5_requireTrip 0 = .ok (.aload_n 0, 1) := by decide +kernel
theorem dX5_requireTrip_1 : decode cX5_requireTrip 1 = .ok (.iload_n 1, 1) := by decide +kernel
theorem dX5_requireTrip_2 : decode cX5_requireTrip 2 = .ok (.invokevirtual 111, 3) := by decide +kernel
theorem dX5_requireTrip_5 : decode cX5_requireTrip 5 = .ok (.aload_n 0, 1) := by decide +kernel
theorem dX5_requireTrip_6 : decode cX5_requireTrip 6 = .ok (.getfield 10, 3) := by decide +kernel
theorem dX5_requireTrip_9 : decode cX5_requireTrip 9 = .ok (.getfield 114, 3) := by decide +kernel
theorem dX5_requireTrip_12 : decode cX5_requireTrip 12 = .ok (.iload_n 1, 1) := by decide +kernel
theorem dX5_requireTrip_13 : decode cX5_requireTrip 13 = .ok (.aaload, 1) := by decide +kernel
theorem dX5_requireTrip_14 : decode cX5_requireTrip 14 = .ok (.getfield 127, 3) := by decide +kernel
theorem dX5_requireTrip_17 : decode cX5_requireTrip 17 = .ok (.ifCond .ne 14, 3) := by decide +kernel
theorem dX5_requireTrip_20 : decode cX5_requireTrip 20 = .ok (.new 101, 3) := by decide +kernel
theorem dX5_requireTrip_23 : decode cX5_requireTrip 23 = .ok (.dup, 1) := by decide +kernel
theorem dX5_requireTrip_24 : decode cX5_requireTrip 24 = .ok (.ldc_w 332, 3) := by decide +kernel
theorem dX5_requireTrip_27 : decode cX5_requireTrip 27 = .ok (.invokespecial 105, 3) := by decide +kernel
theorem dX5_requireTrip_30 : decode cX5_requireTrip 30 = .ok (.athrow, 1) := by decide +kernel
theorem dX5_requireTrip_31 : decode cX5_requireTrip 31 = .ok (.return_, 1) := by decide +kernel
theorem dX5_requireRecentDay_0 : decode cX5_requireRecentDay 0 = .ok (.aload_n 0, 1) := by decide +kernel
theorem dX5_requireRecentDay_1 : decode cX5_requireRecentDay 1 = .ok (.getfield 10, 3) := by decide +kernel
theorem dX5_requireRecentDay_4 : decode cX5_requireRecentDay 4 = .ok (.invokevirtual 57, 3) := by decide +kernel
theorem dX5_requireRecentDay_7 : decode cX5_requireRecentDay 7 = .ok (.istore_n 2, 1) := by decide +kernel
theorem dX5_requireRecentDay_8 : decode cX5_requireRecentDay 8 = .ok (.iload_n 1, 1) := by decide +kernel
theorem dX5_requireRecentDay_9 : decode cX5_requireRecentDay 9 = .ok (.ifCond .lt 15, 3) := by decide +kernel
theorem dX5_requireRecentDay_12 : decode cX5_requireRecentDay 12 = .ok (.iload_n 1, 1) := by decide +kernel
theorem dX5_requireRecentDay_13 : decode cX5_requireRecentDay 13 = .ok (.iload_n 2, 1) := by decide +kernel
theorem dX5_requireRecentDay_14 : decode cX5_requireRecentDay 14 = .ok (.if_icmp .gt 10, 3) := by decide +kernel
theorem dX5_requireRecentDay_17 : decode cX5_requireRecentDay 17 = .ok (.iload_n 1, 1) := by decide +kernel
theorem dX5_requireRecentDay_18 : decode cX5_requireRecentDay 18 = .ok (.iload_n 2, 1) := by decide +kernel
theorem dX5_requireRecentDay_19 : decode cX5_requireRecentDay 19 = .ok (.iconst 2, 1) := by decide +kernel
theorem dX5_requireRecentDay_20 : decode cX5_requireRecentDay 20 = .ok (.isub, 1) := by decide +kernel
theorem dX5_requireRecentDay_21 : decode cX5_requireRecentDay 21 = .ok (.if_icmp .ge 14, 3) := by decide +kernel
theorem dX5_requireRecentDay_24 : decode cX5_requireRecentDay 24 = .ok (.new 240, 3) := by decide +kernel
theorem dX5_requireRecentDay_27 : decode cX5_requireRecentDay 27 = .ok (.dup, 1) := by decide +kernel
theorem dX5_requireRecentDay_28 : decode cX5_requireRecentDay 28 = .ok (.ldc_w 334, 3) := by decide +kernel
theorem dX5_requireRecentDay_31 : decode cX5_requireRecentDay 31 = .ok (.invokespecial 244, 3) := by decide +kernel
theorem dX5_requireRecentDay_34 : decode cX5_requireRecentDay 34 = .ok (.athrow, 1) := by decide +kernel
theorem dX5_requireRecentDay_35 : decode cX5_requireRecentDay 35 = .ok (.return_, 1) := by decide +kernel
theorem dX5_bitsOfDouble_0 : decode cX5_bitsOfDouble 0 = .ok (.dload_n 0, 1) := by decide +kernel
theorem dX5_bitsOfDouble_1 : decode cX5_bitsOfDouble 1 = .ok (.dconst 0, 1) := by decide +kernel
theorem dX5_bitsOfDouble_2 : decode cX5_bitsOfDouble 2 = .ok (.dcmp .g, 1) := by decide +kernel
theorem dX5_bitsOfDouble_3 : decode cX5_bitsOfDouble 3 = .ok (.ifCond .gt 5, 3) := by decide +kernel
theorem dX5_bitsOfDouble_6 : decode cX5_bitsOfDouble 6 = .ok (.lconst 0, 1) := by decide +kernel
theorem dX5_bitsOfDouble_7 : decode cX5_bitsOfDouble 7 = .ok (.lreturn, 1) := by decide +kernel
theorem dX5_bitsOfDouble_8 : decode cX5_bitsOfDouble 8 = .ok (.dload_n 0, 1) := by decide +kernel
theorem dX5_bitsOfDouble_9 : decode cX5_bitsOfDouble 9 = .ok (.dstore_n 2, 1) := by decide +kernel
theorem dX5_bitsOfDouble_10 : decode cX5_bitsOfDouble 10 = .ok (.iconst 0, 1) := by decide +kernel
theorem dX5_bitsOfDouble_11 : decode cX5_bitsOfDouble 11 = .ok (.istore 4, 2) := by decide +kernel
theorem dX5_bitsOfDouble_13 : decode cX5_bitsOfDouble 13 = .ok (.iconst 0, 1) := by decide +kernel
theorem dX5_bitsOfDouble_14 : decode cX5_bitsOfDouble 14 = .ok (.istore 5, 2) := by decide +kernel
theorem dX5_bitsOfDouble_16 : decode cX5_bitsOfDouble 16 = .ok (.iload 5, 2) := by decide +kernel
theorem dX5_bitsOfDouble_18 : decode cX5_bitsOfDouble 18 = .ok (.sipush 2000, 3) := by decide +kernel
theorem dX5_bitsOfDouble_21 : decode cX5_bitsOfDouble 21 = .ok (.if_icmp .ge 26, 3) := by decide +kernel
theorem dX5_bitsOfDouble_24 : decode cX5_bitsOfDouble 24 = .ok (.dload_n 2, 1) := by decide +kernel
theorem dX5_bitsOfDouble_25 : decode cX5_bitsOfDouble 25 = .ok (.ldc2_w 336, 3) := by decide +kernel
theorem dX5_bitsOfDouble_28 : decode cX5_bitsOfDouble 28 = .ok (.dcmp .l, 1) := by decide +kernel
theorem dX5_bitsOfDouble_29 : decode cX5_bitsOfDouble 29 = .ok (.ifCond .lt 18, 3) := by decide +kernel
theorem dX5_bitsOfDouble_32 : decode cX5_bitsOfDouble 32 = .ok (.dload_n 2, 1) := by decide +kernel
theorem dX5_bitsOfDouble_33 : decode cX5_bitsOfDouble 33 = .ok (.ldc2_w 336, 3) := by decide +kernel
theorem dX5_bitsOfDouble_36 : decode cX5_bitsOfDouble 36 = .ok (.ddiv, 1) := by decide +kernel
theorem dX5_bitsOfDouble_37 : decode cX5_bitsOfDouble 37 = .ok (.dstore_n 2, 1) := by decide +kernel
theorem dX5_bitsOfDouble_38 : decode cX5_bitsOfDouble 38 = .ok (.iinc 4 1, 3) := by decide +kernel
theorem dX5_bitsOfDouble_41 : decode cX5_bitsOfDouble 41 = .ok (.iinc 5 1, 3) := by decide +kernel
theorem dX5_bitsOfDouble_44 : decode cX5_bitsOfDouble 44 = .ok (.goto (-28), 3) := by decide +kernel
theorem dX5_bitsOfDouble_47 : decode cX5_bitsOfDouble 47 = .ok (.iconst 0, 1) := by decide +kernel
theorem dX5_bitsOfDouble_48 : decode cX5_bitsOfDouble 48 = .ok (.istore 5, 2) := by decide +kernel
theorem dX5_bitsOfDouble_50 : decode cX5_bitsOfDouble 50 = .ok (.iload 5, 2) := by decide +kernel
theorem dX5_bitsOfDouble_52 : decode cX5_bitsOfDouble 52 = .ok (.sipush 2000, 3) := by decide +kernel
theorem dX5_bitsOfDouble_55 : decode cX5_bitsOfDouble 55 = .ok (.if_icmp .ge 24, 3) := by decide +kernel
theorem dX5_bitsOfDouble_58 : decode cX5_bitsOfDouble 58 = .ok (.dload_n 2, 1) := by decide +kernel
theorem dX5_bitsOfDouble_59 : decode cX5_bitsOfDouble 59 = .ok (.dconst 1, 1) := by decide +kernel
theorem dX5_bitsOfDouble_60 : decode cX5_bitsOfDouble 60 = .ok (.dcmp .g, 1) := by decide +kernel
theorem dX5_bitsOfDouble_61 : decode cX5_bitsOfDouble 61 = .ok (.ifCond .ge 18, 3) := by decide +kernel
theorem dX5_bitsOfDouble_64 : decode cX5_bitsOfDouble 64 = .ok (.dload_n 2, 1) := by decide +kernel
theorem dX5_bitsOfDouble_65 : decode cX5_bitsOfDouble 65 = .ok (.ldc2_w 336, 3) := by decide +kernel
theorem dX5_bitsOfDouble_68 : decode cX5_bitsOfDouble 68 = .ok (.dmul, 1) := by decide +kernel
theorem dX5_bitsOfDouble_69 : decode cX5_bitsOfDouble 69 = .ok (.dstore_n 2, 1) := by decide +kernel
theorem dX5_bitsOfDouble_70 : decode cX5_bitsOfDouble 70 = .ok (.iinc 4 (-1), 3) := by decide +kernel
theorem dX5_bitsOfDouble_73 : decode cX5_bitsOfDouble 73 = .ok (.iinc 5 1, 3) := by decide +kernel
theorem dX5_bitsOfDouble_76 : decode cX5_bitsOfDouble 76 = .ok (.goto (-26), 3) := by decide +kernel
theorem dX5_bitsOfDouble_79 : decode cX5_bitsOfDouble 79 = .ok (.dload_n 2, 1) := by decide +kernel
theorem dX5_bitsOfDouble_80 : decode cX5_bitsOfDouble 80 = .ok (.dconst 1, 1) := by decide +kernel
theorem dX5_bitsOfDouble_81 : decode cX5_bitsOfDouble 81 = .ok (.dsub, 1) := by decide +kernel
theorem dX5_bitsOfDouble_82 : decode cX5_bitsOfDouble 82 = .ok (.ldc2_w 338, 3) := by decide +kernel
theorem dX5_bitsOfDouble_85 : decode cX5_bitsOfDouble 85 = .ok (.dmul, 1) := by decide +kernel
theorem dX5_bitsOfDouble_86 : decode cX5_bitsOfDouble 86 = .ok (.d2l, 1) := by decide +kernel
theorem dX5_bitsOfDouble_87 : decode cX5_bitsOfDouble 87 = .ok (.lstore 5, 2) := by decide +kernel
theorem dX5_bitsOfDouble_89 : decode cX5_bitsOfDouble 89 = .ok (.iload 4, 2) := by decide +kernel
theorem dX5_bitsOfDouble_91 : decode cX5_bitsOfDouble 91 = .ok (.sipush 1023, 3) := by decide +kernel
theorem dX5_bitsOfDouble_94 : decode cX5_bitsOfDouble 94 = .ok (.iadd, 1) := by decide +kernel
theorem dX5_bitsOfDouble_95 : decode cX5_bitsOfDouble 95 = .ok (.i2l, 1) := by decide +kernel
theorem dX5_bitsOfDouble_96 : decode cX5_bitsOfDouble 96 = .ok (.bipush 52, 2) := by decide +kernel
theorem dX5_bitsOfDouble_98 : decode cX5_bitsOfDouble 98 = .ok (.lshl, 1) := by decide +kernel
theorem dX5_bitsOfDouble_99 : decode cX5_bitsOfDouble 99 = .ok (.lload 5, 2) := by decide +kernel
theorem dX5_bitsOfDouble_101 : decode cX5_bitsOfDouble 101 = .ok (.lor, 1) := by decide +kernel
theorem dX5_bitsOfDouble_102 : decode cX5_bitsOfDouble 102 = .ok (.lreturn, 1) := by decide +kernel
theorem dX5_bitsOfShare_0 : decode cX5_bitsOfShare 0 = .ok (.fload_n 0, 1) := by decide +kernel
theorem dX5_bitsOfShare_1 : decode cX5_bitsOfShare 1 = .ok (.fconst 0, 1) := by decide +kernel
theorem dX5_bitsOfShare_2 : decode cX5_bitsOfShare 2 = .ok (.fcmp .g, 1) := by decide +kernel
theorem dX5_bitsOfShare_3 : decode cX5_bitsOfShare 3 = .ok (.ifCond .gt 5, 3) := by decide +kernel
theorem dX5_bitsOfShare_6 : decode cX5_bitsOfShare 6 = .ok (.iconst 0, 1) := by decide +kernel
theorem dX5_bitsOfShare_7 : decode cX5_bitsOfShare 7 = .ok (.ireturn, 1) := by decide +kernel
theorem dX5_bitsOfShare_8 : decode cX5_bitsOfShare 8 = .ok (.fload_n 0, 1) := by decide +kernel
theorem dX5_bitsOfShare_9 : decode cX5_bitsOfShare 9 = .ok (.fstore_n 1, 1) := by decide +kernel
theorem dX5_bitsOfShare_10 : decode cX5_bitsOfShare 10 = .ok (.iconst 0, 1) := by decide +kernel
theorem dX5_bitsOfShare_11 : decode cX5_bitsOfShare 11 = .ok (.istore_n 2, 1) := by decide +kernel
theorem dX5_bitsOfShare_12 : decode cX5_bitsOfShare 12 = .ok (.iconst 0, 1) := by decide +kernel
theorem dX5_bitsOfShare_13 : decode cX5_bitsOfShare 13 = .ok (.istore_n 3, 1) := by decide +kernel
theorem dX5_bitsOfShare_14 : decode cX5_bitsOfShare 14 = .ok (.iload_n 3, 1) := by decide +kernel
theorem dX5_bitsOfShare_15 : decode cX5_bitsOfShare 15 = .ok (.sipush 300, 3) := by decide +kernel
theorem dX5_bitsOfShare_18 : decode cX5_bitsOfShare 18 = .ok (.if_icmp .ge 22, 3) := by decide +kernel
theorem dX5_bitsOfShare_21 : decode cX5_bitsOfShare 21 = .ok (.fload_n 1, 1) := by decide +kernel
theorem dX5_bitsOfShare_22 : decode cX5_bitsOfShare 22 = .ok (.fconst 1, 1) := by decide +kernel
theorem dX5_bitsOfShare_23 : decode cX5_bitsOfShare 23 = .ok (.fcmp .g, 1) := by decide +kernel
theorem dX5_bitsOfShare_24 : decode cX5_bitsOfShare 24 = .ok (.ifCond .ge 16, 3) := by decide +kernel
theorem dX5_bitsOfShare_27 : decode cX5_bitsOfShare 27 = .ok (.fload_n 1, 1) := by decide +kernel
theorem dX5_bitsOfShare_28 : decode cX5_bitsOfShare 28 = .ok (.fconst 2, 1) := by decide +kernel
theorem dX5_bitsOfShare_29 : decode cX5_bitsOfShare 29 = .ok (.fmul, 1) := by decide +kernel
theorem dX5_bitsOfShare_30 : decode cX5_bitsOfShare 30 = .ok (.fstore_n 1, 1) := by decide +kernel
theorem dX5_bitsOfShare_31 : decode cX5_bitsOfShare 31 = .ok (.iinc 2 (-1), 3) := by decide +kernel
theorem dX5_bitsOfShare_34 : decode cX5_bitsOfShare 34 = .ok (.iinc 3 1, 3) := by decide +kernel
theorem dX5_bitsOfShare_37 : decode cX5_bitsOfShare 37 = .ok (.goto (-23), 3) := by decide +kernel
theorem dX5_bitsOfShare_40 : decode cX5_bitsOfShare 40 = .ok (.fload_n 1, 1) := by decide +kernel
theorem dX5_bitsOfShare_41 : decode cX5_bitsOfShare 41 = .ok (.fconst 1, 1) := by decide +kernel
theorem dX5_bitsOfShare_42 : decode cX5_bitsOfShare 42 = .ok (.fsub, 1) := by decide +kernel
theorem dX5_bitsOfShare_43 : decode cX5_bitsOfShare 43 = .ok (.ldc_w 340, 3) := by decide +kernel
theorem dX5_bitsOfShare_46 : decode cX5_bitsOfShare 46 = .ok (.fmul, 1) := by decide +kernel
theorem dX5_bitsOfShare_47 : decode cX5_bitsOfShare 47 = .ok (.f2i, 1) := by decide +kernel
theorem dX5_bitsOfShare_48 : decode cX5_bitsOfShare 48 = .ok (.istore_n 3, 1) := by decide +kernel
theorem dX5_bitsOfShare_49 : decode cX5_bitsOfShare 49 = .ok (.iload_n 2, 1) := by decide +kernel
theorem dX5_bitsOfShare_50 : decode cX5_bitsOfShare 50 = .ok (.bipush 127, 2) := by decide +kernel
theorem dX5_bitsOfShare_52 : decode cX5_bitsOfShare 52 = .ok (.iadd, 1) := by decide +kernel
theorem dX5_bitsOfShare_53 : decode cX5_bitsOfShare 53 = .ok (.bipush 23, 2) := by decide +kernel
theorem dX5_bitsOfShare_55 : decode cX5_bitsOfShare 55 = .ok (.ishl, 1) := by decide +kernel
theorem dX5_bitsOfShare_56 : decode cX5_bitsOfShare 56 = .ok (.iload_n 3, 1) := by decide +kernel
theorem dX5_bitsOfShare_57 : decode cX5_bitsOfShare 57 = .ok (.ior, 1) := by decide +kernel
theorem dX5_bitsOfShare_58 : decode cX5_bitsOfShare 58 = .ok (.ireturn, 1) := by decide +kernel
