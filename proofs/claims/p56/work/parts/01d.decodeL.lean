theorem dL_cell_0 : decode cL_cell 0 = .ok (.iload_n 1, 1) := by decide +kernel
theorem dL_cell_1 : decode cL_cell 1 = .ok (.aload_n 0, 1) := by decide +kernel
theorem dL_cell_2 : decode cL_cell 2 = .ok (.arraylength, 1) := by decide +kernel
theorem dL_cell_3 : decode cL_cell 3 = .ok (.if_icmp .ge 9, 3) := by decide +kernel
theorem dL_cell_6 : decode cL_cell 6 = .ok (.aload_n 0, 1) := by decide +kernel
theorem dL_cell_7 : decode cL_cell 7 = .ok (.iload_n 1, 1) := by decide +kernel
theorem dL_cell_8 : decode cL_cell 8 = .ok (.iaload, 1) := by decide +kernel
theorem dL_cell_9 : decode cL_cell 9 = .ok (.goto 7, 3) := by decide +kernel
theorem dL_cell_12 : decode cL_cell 12 = .ok (.ldc 7, 2) := by decide +kernel
theorem dL_cell_14 : decode cL_cell 14 = .ok (.iload_n 1, 1) := by decide +kernel
theorem dL_cell_15 : decode cL_cell 15 = .ok (.imul, 1) := by decide +kernel
theorem dL_cell_16 : decode cL_cell 16 = .ok (.ireturn, 1) := by decide +kernel
theorem dL_issue_0 : decode cL_issue 0 = .ok (.aload_n 0, 1) := by decide +kernel
theorem dL_issue_1 : decode cL_issue 1 = .ok (.iload_n 1, 1) := by decide +kernel
theorem dL_issue_2 : decode cL_issue 2 = .ok (.invokevirtual 8, 3) := by decide +kernel
theorem dL_issue_5 : decode cL_issue 5 = .ok (.ireturn, 1) := by decide +kernel
theorem dL_issue_6 : decode cL_issue 6 = .ok (.astore_n 2, 1) := by decide +kernel
theorem dL_issue_7 : decode cL_issue 7 = .ok (.iconst (-1), 1) := by decide +kernel
theorem dL_issue_8 : decode cL_issue 8 = .ok (.ireturn, 1) := by decide +kernel
theorem dL_load_0 : decode cL_load 0 = .ok (.aload_n 0, 1) := by decide +kernel
theorem dL_load_1 : decode cL_load 1 = .ok (.iload_n 1, 1) := by decide +kernel
theorem dL_load_2 : decode cL_load 2 = .ok (.iload_n 2, 1) := by decide +kernel
theorem dL_load_3 : decode cL_load 3 = .ok (.invokevirtual 16, 3) := by decide +kernel
theorem dL_load_6 : decode cL_load 6 = .ok (.ireturn, 1) := by decide +kernel
theorem dL_load_7 : decode cL_load 7 = .ok (.astore_n 3, 1) := by decide +kernel
theorem dL_load_8 : decode cL_load 8 = .ok (.sipush (-30001), 3) := by decide +kernel
theorem dL_load_11 : decode cL_load 11 = .ok (.ireturn, 1) := by decide +kernel
theorem dL_load_12 : decode cL_load 12 = .ok (.astore_n 3, 1) := by decide +kernel
theorem dL_load_13 : decode cL_load 13 = .ok (.sipush (-30002), 3) := by decide +kernel
theorem dL_load_16 : decode cL_load 16 = .ok (.ireturn, 1) := by decide +kernel
theorem dL_load_17 : decode cL_load 17 = .ok (.astore_n 3, 1) := by decide +kernel
theorem dL_load_18 : decode cL_load 18 = .ok (.sipush (-30003), 3) := by decide +kernel
theorem dL_load_21 : decode cL_load 21 = .ok (.ireturn, 1) := by decide +kernel
theorem dL_tapIn_0 : decode cL_tapIn 0 = .ok (.aload_n 0, 1) := by decide +kernel
theorem dL_tapIn_1 : decode cL_tapIn 1 = .ok (.iload_n 1, 1) := by decide +kernel
theorem dL_tapIn_2 : decode cL_tapIn 2 = .ok (.iload_n 2, 1) := by decide +kernel
theorem dL_tapIn_3 : decode cL_tapIn 3 = .ok (.invokevirtual 26, 3) := by decide +kernel
theorem dL_tapIn_6 : decode cL_tapIn 6 = .ok (.ifCond .eq 7, 3) := by decide +kernel
theorem dL_tapIn_9 : decode cL_tapIn 9 = .ok (.iconst 1, 1) := by decide +kernel
theorem dL_tapIn_10 : decode cL_tapIn 10 = .ok (.goto 4, 3) := by decide +kernel
theorem dL_tapIn_13 : decode cL_tapIn 13 = .ok (.iconst 0, 1) := by decide +kernel
theorem dL_tapIn_14 : decode cL_tapIn 14 = .ok (.ireturn, 1) := by decide +kernel
theorem dL_tapIn_15 : decode cL_tapIn 15 = .ok (.astore_n 3, 1) := by decide +kernel
theorem dL_tapIn_16 : decode cL_tapIn 16 = .ok (.iconst (-1), 1) := by decide +kernel
theorem dL_tapIn_17 : decode cL_tapIn 17 = .ok (.ireturn, 1) := by decide +kernel
theorem dL_tapIn_18 : decode cL_tapIn 18 = .ok (.astore_n 3, 1) := by decide +kernel
theorem dL_tapIn_19 : decode cL_tapIn 19 = .ok (.bipush (-2), 2) := by decide +kernel
theorem dL_tapIn_21 : decode cL_tapIn 21 = .ok (.ireturn, 1) := by decide +kernel
theorem dL_tapOut_0 : decode cL_tapOut 0 = .ok (.aload_n 0, 1) := by decide +kernel
theorem dL_tapOut_1 : decode cL_tapOut 1 = .ok (.iload_n 1, 1) := by decide +kernel
theorem dL_tapOut_2 : decode cL_tapOut 2 = .ok (.iload_n 2, 1) := by decide +kernel
theorem dL_tapOut_3 : decode cL_tapOut 3 = .ok (.invokevirtual 30, 3) := by decide +kernel
theorem dL_tapOut_6 : decode cL_tapOut 6 = .ok (.ireturn, 1) := by decide +kernel
theorem dL_tapOut_7 : decode cL_tapOut 7 = .ok (.astore_n 3, 1) := by decide +kernel
theorem dL_tapOut_8 : decode cL_tapOut 8 = .ok (.iconst (-1), 1) := by decide +kernel
theorem dL_tapOut_9 : decode cL_tapOut 9 = .ok (.ireturn, 1) := by decide +kernel
theorem dL_tapOut_10 : decode cL_tapOut 10 = .ok (.astore_n 3, 1) := by decide +kernel
theorem dL_tapOut_11 : decode cL_tapOut 11 = .ok (.bipush (-2), 2) := by decide +kernel
theorem dL_tapOut_13 : decode cL_tapOut 13 = .ok (.ireturn, 1) := by decide +kernel
theorem dL_repair_0 : decode cL_repair 0 = .ok (.aload_n 0, 1) := by decide +kernel
theorem dL_repair_1 : decode cL_repair 1 = .ok (.iload_n 1, 1) := by decide +kernel
theorem dL_repair_2 : decode cL_repair 2 = .ok (.iload_n 2, 1) := by decide +kernel
theorem dL_repair_3 : decode cL_repair 3 = .ok (.invokevirtual 33, 3) := by decide +kernel
theorem dL_repair_6 : decode cL_repair 6 = .ok (.ireturn, 1) := by decide +kernel
theorem dL_repair_7 : decode cL_repair 7 = .ok (.astore_n 3, 1) := by decide +kernel
theorem dL_repair_8 : decode cL_repair 8 = .ok (.iconst (-1), 1) := by decide +kernel
theorem dL_repair_9 : decode cL_repair 9 = .ok (.ireturn, 1) := by decide +kernel
theorem dL_repair_10 : decode cL_repair 10 = .ok (.astore_n 3, 1) := by decide +kernel
theorem dL_repair_11 : decode cL_repair 11 = .ok (.bipush (-2), 2) := by decide +kernel
theorem dL_repair_13 : decode cL_repair 13 = .ok (.ireturn, 1) := by decide +kernel
theorem dL_repair_14 : decode cL_repair 14 = .ok (.astore_n 3, 1) := by decide +kernel
theorem dL_repair_15 : decode cL_repair 15 = .ok (.bipush (-3), 2) := by decide +kernel
theorem dL_repair_17 : decode cL_repair 17 = .ok (.ireturn, 1) := by decide +kernel
theorem dL_setZone_0 : decode cL_setZone 0 = .ok (.aload_n 0, 1) := by decide +kernel
theorem dL_setZone_1 : decode cL_setZone 1 = .ok (.iload_n 1, 1) := by decide +kernel
theorem dL_setZone_2 : decode cL_setZone 2 = .ok (.iload_n 2, 1) := by decide +kernel
theorem dL_setZone_3 : decode cL_setZone 3 = .ok (.invokevirtual 38, 3) := by decide +kernel
theorem dL_setZone_6 : decode cL_setZone 6 = .ok (.ireturn, 1) := by decide +kernel
theorem dL_setZone_7 : decode cL_setZone 7 = .ok (.astore_n 3, 1) := by decide +kernel
theorem dL_setZone_8 : decode cL_setZone 8 = .ok (.iconst (-1), 1) := by decide +kernel
theorem dL_setZone_9 : decode cL_setZone 9 = .ok (.ireturn, 1) := by decide +kernel
theorem dL_setZone_10 : decode cL_setZone 10 = .ok (.astore_n 3, 1) := by decide +kernel
theorem dL_setZone_11 : decode cL_setZone 11 = .ok (.bipush (-2), 2) := by decide +kernel
theorem dL_setZone_13 : decode cL_setZone 13 = .ok (.ireturn, 1) := by decide +kernel
theorem dL_setFares_0 : decode cL_setFares 0 = .ok (.aload_n 0, 1) := by decide +kernel
theorem dL_setFares_1 : decode cL_setFares 1 = .ok (.iload_n 1, 1) := by decide +kernel
theorem dL_setFares_2 : decode cL_setFares 2 = .ok (.iload_n 2, 1) := by decide +kernel
theorem dL_setFares_3 : decode cL_setFares 3 = .ok (.invokevirtual 41, 3) := by decide +kernel
theorem dL_setFares_6 : decode cL_setFares 6 = .ok (.ireturn, 1) := by decide +kernel
theorem dL_setFares_7 : decode cL_setFares 7 = .ok (.astore_n 3, 1) := by decide +kernel
theorem dL_setFares_8 : decode cL_setFares 8 = .ok (.iconst (-1), 1) := by decide +kernel
theorem dL_setFares_9 : decode cL_setFares 9 = .ok (.ireturn, 1) := by decide +kernel
theorem dL_advance_0 : decode cL_advance 0 = .ok (.aload_n 0, 1) := by decide +kernel
theorem dL_advance_1 : decode cL_advance 1 = .ok (.iload_n 1, 1) := by decide +kernel
theorem dL_advance_2 : decode cL_advance 2 = .ok (.invokevirtual 44, 3) := by decide +kernel
theorem dL_advance_5 : decode cL_advance 5 = .ok (.ireturn, 1) := by decide +kernel
theorem dL_advance_6 : decode cL_advance 6 = .ok (.astore_n 2, 1) := by decide +kernel
theorem dL_advance_7 : decode cL_advance 7 = .ok (.iconst (-1), 1) := by decide +kernel
theorem dL_advance_8 : decode cL_advance 8 = .ok (.ireturn, 1) := by decide +kernel
theorem dL_zone_0 : decode cL_zone 0 = .ok (.aload_n 0, 1) := by decide +kernel
theorem dL_zone_1 : decode cL_zone 1 = .ok (.iload_n 1, 1) := by decide +kernel
theorem dL_zone_2 : decode cL_zone 2 = .ok (.invokevirtual 48, 3) := by decide +kernel
theorem dL_zone_5 : decode cL_zone 5 = .ok (.ireturn, 1) := by decide +kernel
theorem dL_zone_6 : decode cL_zone 6 = .ok (.astore_n 2, 1) := by decide +kernel
theorem dL_zone_7 : decode cL_zone 7 = .ok (.bipush (-11), 2) := by decide +kernel
theorem dL_zone_9 : decode cL_zone 9 = .ok (.ireturn, 1) := by decide +kernel
theorem dL_zones_0 : decode cL_zones 0 = .ok (.aload_n 0, 1) := by decide +kernel
theorem dL_zones_1 : decode cL_zones 1 = .ok (.iload_n 1, 1) := by decide +kernel
theorem dL_zones_2 : decode cL_zones 2 = .ok (.iload_n 2, 1) := by decide +kernel
theorem dL_zones_3 : decode cL_zones 3 = .ok (.invokevirtual 51, 3) := by decide +kernel
theorem dL_zones_6 : decode cL_zones 6 = .ok (.ireturn, 1) := by decide +kernel
theorem dL_zones_7 : decode cL_zones 7 = .ok (.astore_n 3, 1) := by decide +kernel
theorem dL_zones_8 : decode cL_zones 8 = .ok (.bipush (-11), 2) := by decide +kernel
theorem dL_zones_10 : decode cL_zones 10 = .ok (.ireturn, 1) := by decide +kernel
theorem dL_byComparing_0 : decode cL_byComparing 0 = .ok (.aload_n 0, 1) := by decide +kernel
theorem dL_byComparing_1 : decode cL_byComparing 1 = .ok (.iload_n 1, 1) := by decide +kernel
theorem dL_byComparing_2 : decode cL_byComparing 2 = .ok (.iload_n 2, 1) := by decide +kernel
theorem dL_byComparing_3 : decode cL_byComparing 3 = .ok (.invokevirtual 54, 3) := by decide +kernel
theorem dL_byComparing_6 : decode cL_byComparing 6 = .ok (.ireturn, 1) := by decide +kernel
theorem dL_byComparing_7 : decode cL_byComparing 7 = .ok (.astore_n 3, 1) := by decide +kernel
theorem dL_byComparing_8 : decode cL_byComparing 8 = .ok (.bipush (-11), 2) := by decide +kernel
theorem dL_byComparing_10 : decode cL_byComparing 10 = .ok (.ireturn, 1) := by decide +kernel
theorem dL_fare_0 : decode cL_fare 0 = .ok (.aload_n 0, 1) := by decide +kernel
theorem dL_fare_1 : decode cL_fare 1 = .ok (.iload_n 1, 1) := by decide +kernel
theorem dL_fare_2 : decode cL_fare 2 = .ok (.iload_n 2, 1) := by decide +kernel
theorem dL_fare_3 : decode cL_fare 3 = .ok (.invokevirtual 57, 3) := by decide +kernel
theorem dL_fare_6 : decode cL_fare 6 = .ok (.ireturn, 1) := by decide +kernel
theorem dL_fare_7 : decode cL_fare 7 = .ok (.astore_n 3, 1) := by decide +kernel
theorem dL_fare_8 : decode cL_fare 8 = .ok (.bipush (-11), 2) := by decide +kernel
theorem dL_fare_10 : decode cL_fare 10 = .ok (.ireturn, 1) := by decide +kernel
theorem dL_taps_0 : decode cL_taps 0 = .ok (.aload_n 0, 1) := by decide +kernel
theorem dL_taps_1 : decode cL_taps 1 = .ok (.iload_n 1, 1) := by decide +kernel
theorem dL_taps_2 : decode cL_taps 2 = .ok (.invokevirtual 60, 3) := by decide +kernel
theorem dL_taps_5 : decode cL_taps 5 = .ok (.ireturn, 1) := by decide +kernel
theorem dL_taps_6 : decode cL_taps 6 = .ok (.astore_n 2, 1) := by decide +kernel
theorem dL_taps_7 : decode cL_taps 7 = .ok (.bipush (-11), 2) := by decide +kernel
theorem dL_taps_9 : decode cL_taps 9 = .ok (.ireturn, 1) := by decide +kernel
theorem dL_byTaps_0 : decode cL_byTaps 0 = .ok (.aload_n 0, 1) := by decide +kernel
theorem dL_byTaps_1 : decode cL_byTaps 1 = .ok (.iload_n 1, 1) := by decide +kernel
theorem dL_byTaps_2 : decode cL_byTaps 2 = .ok (.invokevirtual 63, 3) := by decide +kernel
theorem dL_byTaps_5 : decode cL_byTaps 5 = .ok (.ireturn, 1) := by decide +kernel
theorem dL_byTaps_6 : decode cL_byTaps 6 = .ok (.astore_n 2, 1) := by decide +kernel
theorem dL_byTaps_7 : decode cL_byTaps 7 = .ok (.bipush (-13), 2) := by decide +kernel
theorem dL_byTaps_9 : decode cL_byTaps 9 = .ok (.ireturn, 1) := by decide +kernel
theorem dL_isReduced_0 : decode cL_isReduced 0 = .ok (.aload_n 0, 1) := by decide +kernel
theorem dL_isReduced_1 : decode cL_isReduced 1 = .ok (.iload_n 1, 1) := by decide +kernel
theorem dL_isReduced_2 : decode cL_isReduced 2 = .ok (.invokevirtual 66, 3) := by decide +kernel
theorem dL_isReduced_5 : decode cL_isReduced 5 = .ok (.ifCond .eq 7, 3) := by decide +kernel
theorem dL_isReduced_8 : decode cL_isReduced 8 = .ok (.iconst 1, 1) := by decide +kernel
theorem dL_isReduced_9 : decode cL_isReduced 9 = .ok (.goto 4, 3) := by decide +kernel
theorem dL_isReduced_12 : decode cL_isReduced 12 = .ok (.iconst 0, 1) := by decide +kernel
theorem dL_isReduced_13 : decode cL_isReduced 13 = .ok (.ireturn, 1) := by decide +kernel
theorem dL_isReduced_14 : decode cL_isReduced 14 = .ok (.astore_n 2, 1) := by decide +kernel
theorem dL_isReduced_15 : decode cL_isReduced 15 = .ok (.bipush (-11), 2) := by decide +kernel
theorem dL_isReduced_17 : decode cL_isReduced 17 = .ok (.ireturn, 1) := by decide +kernel
theorem dL_balance_0 : decode cL_balance 0 = .ok (.aload_n 0, 1) := by decide +kernel
theorem dL_balance_1 : decode cL_balance 1 = .ok (.iload_n 1, 1) := by decide +kernel
theorem dL_balance_2 : decode cL_balance 2 = .ok (.invokevirtual 70, 3) := by decide +kernel
theorem dL_balance_5 : decode cL_balance 5 = .ok (.ireturn, 1) := by decide +kernel
theorem dL_balance_6 : decode cL_balance 6 = .ok (.astore_n 2, 1) := by decide +kernel
theorem dL_balance_7 : decode cL_balance 7 = .ok (.sipush (-30011), 3) := by decide +kernel
theorem dL_balance_10 : decode cL_balance 10 = .ok (.ireturn, 1) := by decide +kernel
theorem dL_isOnTrip_0 : decode cL_isOnTrip 0 = .ok (.aload_n 0, 1) := by decide +kernel
theorem dL_isOnTrip_1 : decode cL_isOnTrip 1 = .ok (.iload_n 1, 1) := by decide +kernel
theorem dL_isOnTrip_2 : decode cL_isOnTrip 2 = .ok (.invokevirtual 73, 3) := by decide +kernel
theorem dL_isOnTrip_5 : decode cL_isOnTrip 5 = .ok (.ifCond .eq 7, 3) := by decide +kernel
theorem dL_isOnTrip_8 : decode cL_isOnTrip 8 = .ok (.iconst 1, 1) := by decide +kernel
theorem dL_isOnTrip_9 : decode cL_isOnTrip 9 = .ok (.goto 4, 3) := by decide +kernel
theorem dL_isOnTrip_12 : decode cL_isOnTrip 12 = .ok (.iconst 0, 1) := by decide +kernel
theorem dL_isOnTrip_13 : decode cL_isOnTrip 13 = .ok (.ireturn, 1) := by decide +kernel
theorem dL_isOnTrip_14 : decode cL_isOnTrip 14 = .ok (.astore_n 2, 1) := by decide +kernel
theorem dL_isOnTrip_15 : decode cL_isOnTrip 15 = .ok (.bipush (-11), 2) := by decide +kernel
theorem dL_isOnTrip_17 : decode cL_isOnTrip 17 = .ok (.ireturn, 1) := by decide +kernel
theorem dL_tripStart_0 : decode cL_tripStart 0 = .ok (.aload_n 0, 1) := by decide +kernel
theorem dL_tripStart_1 : decode cL_tripStart 1 = .ok (.iload_n 1, 1) := by decide +kernel
theorem dL_tripStart_2 : decode cL_tripStart 2 = .ok (.invokevirtual 76, 3) := by decide +kernel
theorem dL_tripStart_5 : decode cL_tripStart 5 = .ok (.ireturn, 1) := by decide +kernel
theorem dL_tripStart_6 : decode cL_tripStart 6 = .ok (.astore_n 2, 1) := by decide +kernel
theorem dL_tripStart_7 : decode cL_tripStart 7 = .ok (.bipush (-11), 2) := by decide +kernel
theorem dL_tripStart_9 : decode cL_tripStart 9 = .ok (.ireturn, 1) := by decide +kernel
theorem dL_tripStart_10 : decode cL_tripStart 10 = .ok (.astore_n 2, 1) := by decide +kernel
theorem dL_tripStart_11 : decode cL_tripStart 11 = .ok (.bipush (-13), 2) := by decide +kernel
theorem dL_tripStart_13 : decode cL_tripStart 13 = .ok (.ireturn, 1) := by decide +kernel
theorem dL_journeyStart_0 : decode cL_journeyStart 0 = .ok (.aload_n 0, 1) := by decide +kernel
theorem dL_journeyStart_1 : decode cL_journeyStart 1 = .ok (.iload_n 1, 1) := by decide +kernel
theorem dL_journeyStart_2 : decode cL_journeyStart 2 = .ok (.invokevirtual 79, 3) := by decide +kernel
theorem dL_journeyStart_5 : decode cL_journeyStart 5 = .ok (.ireturn, 1) := by decide +kernel
theorem dL_journeyStart_6 : decode cL_journeyStart 6 = .ok (.astore_n 2, 1) := by decide +kernel
theorem dL_journeyStart_7 : decode cL_journeyStart 7 = .ok (.bipush (-11), 2) := by decide +kernel
theorem dL_journeyStart_9 : decode cL_journeyStart 9 = .ok (.ireturn, 1) := by decide +kernel
theorem dL_journeyStart_10 : decode cL_journeyStart 10 = .ok (.astore_n 2, 1) := by decide +kernel
theorem dL_journeyStart_11 : decode cL_journeyStart 11 = .ok (.bipush (-13), 2) := by decide +kernel
theorem dL_journeyStart_13 : decode cL_journeyStart 13 = .ok (.ireturn, 1) := by decide +kernel
theorem dL_minutesLeft_0 : decode cL_minutesLeft 0 = .ok (.aload_n 0, 1) := by decide +kernel
theorem dL_minutesLeft_1 : decode cL_minutesLeft 1 = .ok (.iload_n 1, 1) := by decide +kernel
theorem dL_minutesLeft_2 : decode cL_minutesLeft 2 = .ok (.invokevirtual 82, 3) := by decide +kernel
theorem dL_minutesLeft_5 : decode cL_minutesLeft 5 = .ok (.ireturn, 1) := by decide +kernel
theorem dL_minutesLeft_6 : decode cL_minutesLeft 6 = .ok (.astore_n 2, 1) := by decide +kernel
theorem dL_minutesLeft_7 : decode cL_minutesLeft 7 = .ok (.bipush (-11), 2) := by decide +kernel
theorem dL_minutesLeft_9 : decode cL_minutesLeft 9 = .ok (.ireturn, 1) := by decide +kernel
theorem dL_minutesLeft_10 : decode cL_minutesLeft 10 = .ok (.astore_n 2, 1) := by decide +kernel
theorem dL_minutesLeft_11 : decode cL_minutesLeft 11 = .ok (.bipush (-13), 2) := by decide +kernel
theorem dL_minutesLeft_13 : decode cL_minutesLeft 13 = .ok (.ireturn, 1) := by decide +kernel
theorem dL_continues_0 : decode cL_continues 0 = .ok (.aload_n 0, 1) := by decide +kernel
theorem dL_continues_1 : decode cL_continues 1 = .ok (.iload_n 1, 1) := by decide +kernel
theorem dL_continues_2 : decode cL_continues 2 = .ok (.iload_n 2, 1) := by decide +kernel
theorem dL_continues_3 : decode cL_continues 3 = .ok (.invokevirtual 85, 3) := by decide +kernel
theorem dL_continues_6 : decode cL_continues 6 = .ok (.ifCond .eq 7, 3) := by decide +kernel
theorem dL_continues_9 : decode cL_continues 9 = .ok (.iconst 1, 1) := by decide +kernel
theorem dL_continues_10 : decode cL_continues 10 = .ok (.goto 4, 3) := by decide +kernel
theorem dL_continues_13 : decode cL_continues 13 = .ok (.iconst 0, 1) := by decide +kernel
theorem dL_continues_14 : decode cL_continues 14 = .ok (.ireturn, 1) := by decide +kernel
theorem dL_continues_15 : decode cL_continues 15 = .ok (.astore_n 3, 1) := by decide +kernel
theorem dL_continues_16 : decode cL_continues 16 = .ok (.bipush (-11), 2) := by decide +kernel
theorem dL_continues_18 : decode cL_continues 18 = .ok (.ireturn, 1) := by decide +kernel
theorem dL_chargeIf_0 : decode cL_chargeIf 0 = .ok (.aload_n 0, 1) := by decide +kernel
theorem dL_chargeIf_1 : decode cL_chargeIf 1 = .ok (.iload_n 1, 1) := by decide +kernel
theorem dL_chargeIf_2 : decode cL_chargeIf 2 = .ok (.iload_n 2, 1) := by decide +kernel
theorem dL_chargeIf_3 : decode cL_chargeIf 3 = .ok (.invokevirtual 88, 3) := by decide +kernel
theorem dL_chargeIf_6 : decode cL_chargeIf 6 = .ok (.ireturn, 1) := by decide +kernel
theorem dL_chargeIf_7 : decode cL_chargeIf 7 = .ok (.astore_n 3, 1) := by decide +kernel
theorem dL_chargeIf_8 : decode cL_chargeIf 8 = .ok (.bipush (-11), 2) := by decide +kernel
theorem dL_chargeIf_10 : decode cL_chargeIf 10 = .ok (.ireturn, 1) := by decide +kernel
theorem dL_chargeIf_11 : decode cL_chargeIf 11 = .ok (.astore_n 3, 1) := by decide +kernel
theorem dL_chargeIf_12 : decode cL_chargeIf 12 = .ok (.bipush (-13), 2) := by decide +kernel
theorem dL_chargeIf_14 : decode cL_chargeIf 14 = .ok (.ireturn, 1) := by decide +kernel
theorem dL_chargedOn_0 : decode cL_chargedOn 0 = .ok (.aload_n 0, 1) := by decide +kernel
theorem dL_chargedOn_1 : decode cL_chargedOn 1 = .ok (.iload_n 1, 1) := by decide +kernel
theorem dL_chargedOn_2 : decode cL_chargedOn 2 = .ok (.iload_n 2, 1) := by decide +kernel
theorem dL_chargedOn_3 : decode cL_chargedOn 3 = .ok (.invokevirtual 91, 3) := by decide +kernel
theorem dL_chargedOn_6 : decode cL_chargedOn 6 = .ok (.ireturn, 1) := by decide +kernel
theorem dL_chargedOn_7 : decode cL_chargedOn 7 = .ok (.astore_n 3, 1) := by decide +kernel
theorem dL_chargedOn_8 : decode cL_chargedOn 8 = .ok (.bipush (-11), 2) := by decide +kernel
theorem dL_chargedOn_10 : decode cL_chargedOn 10 = .ok (.ireturn, 1) := by decide +kernel
theorem dL_chargedOn_11 : decode cL_chargedOn 11 = .ok (.astore_n 3, 1) := by decide +kernel
theorem dL_chargedOn_12 : decode cL_chargedOn 12 = .ok (.bipush (-12), 2) := by decide +kernel
theorem dL_chargedOn_14 : decode cL_chargedOn 14 = .ok (.ireturn, 1) := by decide +kernel
theorem dL_byRecords_0 : decode cL_byRecords 0 = .ok (.aload_n 0, 1) := by decide +kernel
theorem dL_byRecords_1 : decode cL_byRecords 1 = .ok (.iload_n 1, 1) := by decide +kernel
theorem dL_byRecords_2 : decode cL_byRecords 2 = .ok (.iload_n 2, 1) := by decide +kernel
theorem dL_byRecords_3 : decode cL_byRecords 3 = .ok (.invokevirtual 94, 3) := by decide +kernel
theorem dL_byRecords_6 : decode cL_byRecords 6 = .ok (.ireturn, 1) := by decide +kernel
theorem dL_byRecords_7 : decode cL_byRecords 7 = .ok (.astore_n 3, 1) := by decide +kernel
theorem dL_byRecords_8 : decode cL_byRecords 8 = .ok (.bipush (-11), 2) := by decide +kernel
theorem dL_byRecords_10 : decode cL_byRecords 10 = .ok (.ireturn, 1) := by decide +kernel
theorem dL_byRecords_11 : decode cL_byRecords 11 = .ok (.astore_n 3, 1) := by decide +kernel
theorem dL_byRecords_12 : decode cL_byRecords 12 = .ok (.bipush (-12), 2) := by decide +kernel
theorem dL_byRecords_14 : decode cL_byRecords 14 = .ok (.ireturn, 1) := by decide +kernel
theorem dL_left_0 : decode cL_left 0 = .ok (.aload_n 0, 1) := by decide +kernel
theorem dL_left_1 : decode cL_left 1 = .ok (.iload_n 1, 1) := by decide +kernel
theorem dL_left_2 : decode cL_left 2 = .ok (.invokevirtual 97, 3) := by decide +kernel
theorem dL_left_5 : decode cL_left 5 = .ok (.ireturn, 1) := by decide +kernel
theorem dL_left_6 : decode cL_left 6 = .ok (.astore_n 2, 1) := by decide +kernel
theorem dL_left_7 : decode cL_left 7 = .ok (.bipush (-11), 2) := by decide +kernel
theorem dL_left_9 : decode cL_left 9 = .ok (.ireturn, 1) := by decide +kernel
theorem dL_isRepairable_0 : decode cL_isRepairable 0 = .ok (.aload_n 0, 1) := by decide +kernel
theorem dL_isRepairable_1 : decode cL_isRepairable 1 = .ok (.iload_n 1, 1) := by decide +kernel
theorem dL_isRepairable_2 : decode cL_isRepairable 2 = .ok (.invokevirtual 100, 3) := by decide +kernel
theorem dL_isRepairable_5 : decode cL_isRepairable 5 = .ok (.ifCond .eq 7, 3) := by decide +kernel
theorem dL_isRepairable_8 : decode cL_isRepairable 8 = .ok (.iconst 1, 1) := by decide +kernel
theorem dL_isRepairable_9 : decode cL_isRepairable 9 = .ok (.goto 4, 3) := by decide +kernel
theorem dL_isRepairable_12 : decode cL_isRepairable 12 = .ok (.iconst 0, 1) := by decide +kernel
theorem dL_isRepairable_13 : decode cL_isRepairable 13 = .ok (.ireturn, 1) := by decide +kernel
theorem dL_isRepairable_14 : decode cL_isRepairable 14 = .ok (.astore_n 2, 1) := by decide +kernel
theorem dL_isRepairable_15 : decode cL_isRepairable 15 = .ok (.bipush (-11), 2) := by decide +kernel
theorem dL_isRepairable_17 : decode cL_isRepairable 17 = .ok (.ireturn, 1) := by decide +kernel
theorem dL_bySpending_0 : decode cL_bySpending 0 = .ok (.aload_n 0, 1) := by decide +kernel
theorem dL_bySpending_1 : decode cL_bySpending 1 = .ok (.iload_n 1, 1) := by decide +kernel
theorem dL_bySpending_2 : decode cL_bySpending 2 = .ok (.invokevirtual 103, 3) := by decide +kernel
theorem dL_bySpending_5 : decode cL_bySpending 5 = .ok (.ireturn, 1) := by decide +kernel
theorem dL_bySpending_6 : decode cL_bySpending 6 = .ok (.astore_n 2, 1) := by decide +kernel
theorem dL_bySpending_7 : decode cL_bySpending 7 = .ok (.bipush (-13), 2) := by decide +kernel
theorem dL_bySpending_9 : decode cL_bySpending 9 = .ok (.ireturn, 1) := by decide +kernel
theorem dL_renderCard_0 : decode cL_renderCard 0 = .ok (.aload_n 0, 1) := by decide +kernel
theorem dL_renderCard_1 : decode cL_renderCard 1 = .ok (.iload_n 1, 1) := by decide +kernel
theorem dL_renderCard_2 : decode cL_renderCard 2 = .ok (.invokevirtual 106, 3) := by decide +kernel
theorem dL_renderCard_5 : decode cL_renderCard 5 = .ok (.ireturn, 1) := by decide +kernel
theorem dL_renderCard_6 : decode cL_renderCard 6 = .ok (.astore_n 2, 1) := by decide +kernel
theorem dL_renderCard_7 : decode cL_renderCard 7 = .ok (.bipush (-11), 2) := by decide +kernel
theorem dL_renderCard_9 : decode cL_renderCard 9 = .ok (.ireturn, 1) := by decide +kernel
theorem dL_outputAt_0 : decode cL_outputAt 0 = .ok (.aload_n 0, 1) := by decide +kernel
theorem dL_outputAt_1 : decode cL_outputAt 1 = .ok (.iload_n 1, 1) := by decide +kernel
theorem dL_outputAt_2 : decode cL_outputAt 2 = .ok (.invokevirtual 109, 3) := by decide +kernel
theorem dL_outputAt_5 : decode cL_outputAt 5 = .ok (.ireturn, 1) := by decide +kernel
theorem dL_outputAt_6 : decode cL_outputAt 6 = .ok (.astore_n 2, 1) := by decide +kernel
theorem dL_outputAt_7 : decode cL_outputAt 7 = .ok (.bipush (-11), 2) := by decide +kernel
theorem dL_outputAt_9 : decode cL_outputAt 9 = .ok (.ireturn, 1) := by decide +kernel
theorem dL_type_0 : decode cL_type 0 = .ok (.aload_n 0, 1) := by decide +kernel
theorem dL_type_1 : decode cL_type 1 = .ok (.iload_n 1, 1) := by decide +kernel
theorem dL_type_2 : decode cL_type 2 = .ok (.invokevirtual 113, 3) := by decide +kernel
theorem dL_type_5 : decode cL_type 5 = .ok (.ireturn, 1) := by decide +kernel
theorem dL_type_6 : decode cL_type 6 = .ok (.astore_n 2, 1) := by decide +kernel
theorem dL_type_7 : decode cL_type 7 = .ok (.bipush (-12), 2) := by decide +kernel
theorem dL_type_9 : decode cL_type 9 = .ok (.ireturn, 1) := by decide +kernel
theorem dL_type_10 : decode cL_type 10 = .ok (.astore_n 2, 1) := by decide +kernel
theorem dL_type_11 : decode cL_type 11 = .ok (.bipush (-14), 2) := by decide +kernel
theorem dL_type_13 : decode cL_type 13 = .ok (.ireturn, 1) := by decide +kernel
theorem dL_runs_0 : decode cL_runs 0 = .ok (.aload_n 0, 1) := by decide +kernel
theorem dL_runs_1 : decode cL_runs 1 = .ok (.invokevirtual 117, 3) := by decide +kernel
theorem dL_runs_4 : decode cL_runs 4 = .ok (.ireturn, 1) := by decide +kernel
theorem dL_runs_5 : decode cL_runs 5 = .ok (.astore_n 1, 1) := by decide +kernel
theorem dL_runs_6 : decode cL_runs 6 = .ok (.iconst (-1), 1) := by decide +kernel
theorem dL_runs_7 : decode cL_runs 7 = .ok (.ireturn, 1) := by decide +kernel
theorem dL_runs_8 : decode cL_runs 8 = .ok (.astore_n 1, 1) := by decide +kernel
theorem dL_runs_9 : decode cL_runs 9 = .ok (.bipush (-2), 2) := by decide +kernel
theorem dL_runs_11 : decode cL_runs 11 = .ok (.ireturn, 1) := by decide +kernel
theorem dL_undo_0 : decode cL_undo 0 = .ok (.aload_n 0, 1) := by decide +kernel
theorem dL_undo_1 : decode cL_undo 1 = .ok (.invokevirtual 127, 3) := by decide +kernel
theorem dL_undo_4 : decode cL_undo 4 = .ok (.ireturn, 1) := by decide +kernel
theorem dL_undo_5 : decode cL_undo 5 = .ok (.astore_n 1, 1) := by decide +kernel
theorem dL_undo_6 : decode cL_undo 6 = .ok (.iconst (-1), 1) := by decide +kernel
theorem dL_undo_7 : decode cL_undo 7 = .ok (.ireturn, 1) := by decide +kernel
theorem dL_run_0 : decode cL_run 0 = .ok (.iconst 0, 1) := by decide +kernel
theorem dL_run_1 : decode cL_run 1 = .ok (.istore_n 2, 1) := by decide +kernel
theorem dL_run_2 : decode cL_run 2 = .ok (.iload_n 2, 1) := by decide +kernel
theorem dL_run_3 : decode cL_run 3 = .ok (.aload_n 1, 1) := by decide +kernel
theorem dL_run_4 : decode cL_run 4 = .ok (.invokevirtual 130, 3) := by decide +kernel
theorem dL_run_7 : decode cL_run 7 = .ok (.if_icmp .ge 27, 3) := by decide +kernel
theorem dL_run_10 : decode cL_run 10 = .ok (.aload_n 0, 1) := by decide +kernel
theorem dL_run_11 : decode cL_run 11 = .ok (.aload_n 1, 1) := by decide +kernel
theorem dL_run_12 : decode cL_run 12 = .ok (.iload_n 2, 1) := by decide +kernel
theorem dL_run_13 : decode cL_run 13 = .ok (.invokevirtual 135, 3) := by decide +kernel
theorem dL_run_16 : decode cL_run 16 = .ok (.invokestatic 138, 3) := by decide +kernel
theorem dL_run_19 : decode cL_run 19 = .ok (.iload_n 2, 1) := by decide +kernel
theorem dL_run_20 : decode cL_run 20 = .ok (.iconst 1, 1) := by decide +kernel
theorem dL_run_21 : decode cL_run 21 = .ok (.iadd, 1) := by decide +kernel
theorem dL_run_22 : decode cL_run 22 = .ok (.if_icmp .eq 6, 3) := by decide +kernel
theorem dL_run_25 : decode cL_run 25 = .ok (.bipush (-9), 2) := by decide +kernel
theorem dL_run_27 : decode cL_run 27 = .ok (.ireturn, 1) := by decide +kernel
theorem dL_run_28 : decode cL_run 28 = .ok (.iinc 2 1, 3) := by decide +kernel
theorem dL_run_31 : decode cL_run 31 = .ok (.goto (-29), 3) := by decide +kernel
theorem dL_run_34 : decode cL_run 34 = .ok (.aload_n 0, 1) := by decide +kernel
theorem dL_run_35 : decode cL_run 35 = .ok (.invokestatic 143, 3) := by decide +kernel
theorem dL_run_38 : decode cL_run 38 = .ok (.ireturn, 1) := by decide +kernel
theorem dL_drawn_0 : decode cL_drawn 0 = .ok (.new 9, 3) := by decide +kernel
theorem dL_drawn_3 : decode cL_drawn 3 = .ok (.dup, 1) := by decide +kernel
theorem dL_drawn_4 : decode cL_drawn 4 = .ok (.invokespecial 147, 3) := by decide +kernel
theorem dL_drawn_7 : decode cL_drawn 7 = .ok (.astore_n 1, 1) := by decide +kernel
theorem dL_drawn_8 : decode cL_drawn 8 = .ok (.aload_n 0, 1) := by decide +kernel
theorem dL_drawn_9 : decode cL_drawn 9 = .ok (.iconst 0, 1) := by decide +kernel
theorem dL_drawn_10 : decode cL_drawn 10 = .ok (.invokestatic 148, 3) := by decide +kernel
theorem dL_drawn_13 : decode cL_drawn 13 = .ok (.iconst 1, 1) := by decide +kernel
theorem dL_drawn_14 : decode cL_drawn 14 = .ok (.iushr, 1) := by decide +kernel
theorem dL_drawn_15 : decode cL_drawn 15 = .ok (.istore_n 2, 1) := by decide +kernel
theorem dL_drawn_16 : decode cL_drawn 16 = .ok (.iconst 1, 1) := by decide +kernel
theorem dL_drawn_17 : decode cL_drawn 17 = .ok (.iload_n 2, 1) := by decide +kernel
theorem dL_drawn_18 : decode cL_drawn 18 = .ok (.iconst 5, 1) := by decide +kernel
theorem dL_drawn_19 : decode cL_drawn 19 = .ok (.irem, 1) := by decide +kernel
theorem dL_drawn_20 : decode cL_drawn 20 = .ok (.iadd, 1) := by decide +kernel
theorem dL_drawn_21 : decode cL_drawn 21 = .ok (.istore_n 3, 1) := by decide +kernel
theorem dL_drawn_22 : decode cL_drawn 22 = .ok (.iconst 0, 1) := by decide +kernel
theorem dL_drawn_23 : decode cL_drawn 23 = .ok (.istore 4, 2) := by decide +kernel
theorem dL_drawn_25 : decode cL_drawn 25 = .ok (.iload 4, 2) := by decide +kernel
theorem dL_drawn_27 : decode cL_drawn 27 = .ok (.iload_n 3, 1) := by decide +kernel
theorem dL_drawn_28 : decode cL_drawn 28 = .ok (.if_icmp .ge 76, 3) := by decide +kernel
theorem dL_drawn_31 : decode cL_drawn 31 = .ok (.aload_n 0, 1) := by decide +kernel
theorem dL_drawn_32 : decode cL_drawn 32 = .ok (.iconst 1, 1) := by decide +kernel
theorem dL_drawn_33 : decode cL_drawn 33 = .ok (.iload 4, 2) := by decide +kernel
theorem dL_drawn_35 : decode cL_drawn 35 = .ok (.iadd, 1) := by decide +kernel
theorem dL_drawn_36 : decode cL_drawn 36 = .ok (.invokestatic 148, 3) := by decide +kernel
theorem dL_drawn_39 : decode cL_drawn 39 = .ok (.iconst 1, 1) := by decide +kernel
theorem dL_drawn_40 : decode cL_drawn 40 = .ok (.iushr, 1) := by decide +kernel
theorem dL_drawn_41 : decode cL_drawn 41 = .ok (.istore 5, 2) := by decide +kernel
theorem dL_drawn_43 : decode cL_drawn 43 = .ok (.iconst 1, 1) := by decide +kernel
theorem dL_drawn_44 : decode cL_drawn 44 = .ok (.iload 5, 2) := by decide +kernel
theorem dL_drawn_46 : decode cL_drawn 46 = .ok (.iconst 2, 1) := by decide +kernel
theorem dL_drawn_47 : decode cL_drawn 47 = .ok (.iushr, 1) := by decide +kernel
theorem dL_drawn_48 : decode cL_drawn 48 = .ok (.sipush 4000, 3) := by decide +kernel
theorem dL_drawn_51 : decode cL_drawn 51 = .ok (.irem, 1) := by decide +kernel
theorem dL_drawn_52 : decode cL_drawn 52 = .ok (.iadd, 1) := by decide +kernel
theorem dL_drawn_53 : decode cL_drawn 53 = .ok (.istore 6, 2) := by decide +kernel
theorem dL_drawn_55 : decode cL_drawn 55 = .ok (.aload_n 1, 1) := by decide +kernel
theorem dL_drawn_56 : decode cL_drawn 56 = .ok (.iload 5, 2) := by decide +kernel
theorem dL_drawn_58 : decode cL_drawn 58 = .ok (.iconst 2, 1) := by decide +kernel
theorem dL_drawn_59 : decode cL_drawn 59 = .ok (.irem, 1) := by decide +kernel
theorem dL_drawn_60 : decode cL_drawn 60 = .ok (.ifCond .ne 7, 3) := by decide +kernel
theorem dL_drawn_63 : decode cL_drawn 63 = .ok (.iconst 1, 1) := by decide +kernel
theorem dL_drawn_64 : decode cL_drawn 64 = .ok (.goto 4, 3) := by decide +kernel
theorem dL_drawn_67 : decode cL_drawn 67 = .ok (.iconst 0, 1) := by decide +kernel
theorem dL_drawn_68 : decode cL_drawn 68 = .ok (.invokestatic 152, 3) := by decide +kernel
theorem dL_drawn_71 : decode cL_drawn 71 = .ok (.iload 4, 2) := by decide +kernel
theorem dL_drawn_73 : decode cL_drawn 73 = .ok (.if_icmp .ne 23, 3) := by decide +kernel
theorem dL_drawn_76 : decode cL_drawn 76 = .ok (.iload 5, 2) := by decide +kernel
theorem dL_drawn_78 : decode cL_drawn 78 = .ok (.iconst 5, 1) := by decide +kernel
theorem dL_drawn_79 : decode cL_drawn 79 = .ok (.irem, 1) := by decide +kernel
theorem dL_drawn_80 : decode cL_drawn 80 = .ok (.ifCond .le 18, 3) := by decide +kernel
theorem dL_drawn_83 : decode cL_drawn 83 = .ok (.aload_n 1, 1) := by decide +kernel
theorem dL_drawn_84 : decode cL_drawn 84 = .ok (.iload 4, 2) := by decide +kernel
theorem dL_drawn_86 : decode cL_drawn 86 = .ok (.iload 6, 2) := by decide +kernel
theorem dL_drawn_88 : decode cL_drawn 88 = .ok (.invokestatic 156, 3) := by decide +kernel
theorem dL_drawn_91 : decode cL_drawn 91 = .ok (.iload 6, 2) := by decide +kernel
theorem dL_drawn_93 : decode cL_drawn 93 = .ok (.if_icmp .eq 5, 3) := by decide +kernel
theorem dL_drawn_96 : decode cL_drawn 96 = .ok (.aconst_null, 1) := by decide +kernel
theorem dL_drawn_97 : decode cL_drawn 97 = .ok (.areturn, 1) := by decide +kernel
theorem dL_drawn_98 : decode cL_drawn 98 = .ok (.iinc 4 1, 3) := by decide +kernel
theorem dL_drawn_101 : decode cL_drawn 101 = .ok (.goto (-76), 3) := by decide +kernel
theorem dL_drawn_104 : decode cL_drawn 104 = .ok (.iload_n 2, 1) := by decide +kernel
theorem dL_drawn_105 : decode cL_drawn 105 = .ok (.bipush 7, 2) := by decide +kernel
theorem dL_drawn_107 : decode cL_drawn 107 = .ok (.irem, 1) := by decide +kernel
theorem dL_drawn_108 : decode cL_drawn 108 = .ok (.ifCond .ne 27, 3) := by decide +kernel
theorem dL_drawn_111 : decode cL_drawn 111 = .ok (.aload_n 1, 1) := by decide +kernel
theorem dL_drawn_112 : decode cL_drawn 112 = .ok (.iload_n 2, 1) := by decide +kernel
theorem dL_drawn_113 : decode cL_drawn 113 = .ok (.iconst 3, 1) := by decide +kernel
theorem dL_drawn_114 : decode cL_drawn 114 = .ok (.iushr, 1) := by decide +kernel
theorem dL_drawn_115 : decode cL_drawn 115 = .ok (.sipush 400, 3) := by decide +kernel
theorem dL_drawn_118 : decode cL_drawn 118 = .ok (.irem, 1) := by decide +kernel
theorem dL_drawn_119 : decode cL_drawn 119 = .ok (.iload_n 2, 1) := by decide +kernel
theorem dL_drawn_120 : decode cL_drawn 120 = .ok (.bipush 12, 2) := by decide +kernel
theorem dL_drawn_122 : decode cL_drawn 122 = .ok (.iushr, 1) := by decide +kernel
theorem dL_drawn_123 : decode cL_drawn 123 = .ok (.bipush 100, 2) := by decide +kernel
theorem dL_drawn_125 : decode cL_drawn 125 = .ok (.irem, 1) := by decide +kernel
theorem dL_drawn_126 : decode cL_drawn 126 = .ok (.invokestatic 159, 3) := by decide +kernel
theorem dL_drawn_129 : decode cL_drawn 129 = .ok (.sipush 200, 3) := by decide +kernel
theorem dL_drawn_132 : decode cL_drawn 132 = .ok (.if_icmp .ne 32, 3) := by decide +kernel
theorem dL_drawn_135 : decode cL_drawn 135 = .ok (.iload_n 2, 1) := by decide +kernel
theorem dL_drawn_136 : decode cL_drawn 136 = .ok (.iconst 3, 1) := by decide +kernel
theorem dL_drawn_137 : decode cL_drawn 137 = .ok (.irem, 1) := by decide +kernel
theorem dL_drawn_138 : decode cL_drawn 138 = .ok (.ifCond .ne 28, 3) := by decide +kernel
theorem dL_drawn_141 : decode cL_drawn 141 = .ok (.aload_n 1, 1) := by decide +kernel
theorem dL_drawn_142 : decode cL_drawn 142 = .ok (.iload_n 2, 1) := by decide +kernel
theorem dL_drawn_143 : decode cL_drawn 143 = .ok (.iconst 4, 1) := by decide +kernel
theorem dL_drawn_144 : decode cL_drawn 144 = .ok (.iushr, 1) := by decide +kernel
theorem dL_drawn_145 : decode cL_drawn 145 = .ok (.bipush 12, 2) := by decide +kernel
theorem dL_drawn_147 : decode cL_drawn 147 = .ok (.irem, 1) := by decide +kernel
theorem dL_drawn_148 : decode cL_drawn 148 = .ok (.iconst 1, 1) := by decide +kernel
theorem dL_drawn_149 : decode cL_drawn 149 = .ok (.iload_n 2, 1) := by decide +kernel
theorem dL_drawn_150 : decode cL_drawn 150 = .ok (.bipush 8, 2) := by decide +kernel
theorem dL_drawn_152 : decode cL_drawn 152 = .ok (.iushr, 1) := by decide +kernel
theorem dL_drawn_153 : decode cL_drawn 153 = .ok (.bipush 6, 2) := by decide +kernel
theorem dL_drawn_155 : decode cL_drawn 155 = .ok (.irem, 1) := by decide +kernel
theorem dL_drawn_156 : decode cL_drawn 156 = .ok (.iadd, 1) := by decide +kernel
theorem dL_drawn_157 : decode cL_drawn 157 = .ok (.invokestatic 161, 3) := by decide +kernel
theorem dL_drawn_160 : decode cL_drawn 160 = .ok (.iconst 1, 1) := by decide +kernel
theorem dL_drawn_161 : decode cL_drawn 161 = .ok (.if_icmp .ge 5, 3) := by decide +kernel
theorem dL_drawn_164 : decode cL_drawn 164 = .ok (.aconst_null, 1) := by decide +kernel
theorem dL_drawn_165 : decode cL_drawn 165 = .ok (.areturn, 1) := by decide +kernel
theorem dL_drawn_166 : decode cL_drawn 166 = .ok (.iconst 0, 1) := by decide +kernel
theorem dL_drawn_167 : decode cL_drawn 167 = .ok (.istore 4, 2) := by decide +kernel
theorem dL_drawn_169 : decode cL_drawn 169 = .ok (.iload 4, 2) := by decide +kernel
theorem dL_drawn_171 : decode cL_drawn 171 = .ok (.bipush 14, 2) := by decide +kernel
theorem dL_drawn_173 : decode cL_drawn 173 = .ok (.if_icmp .ge 160, 3) := by decide +kernel
theorem dL_drawn_176 : decode cL_drawn 176 = .ok (.aload_n 0, 1) := by decide +kernel
theorem dL_drawn_177 : decode cL_drawn 177 = .ok (.bipush 6, 2) := by decide +kernel
theorem dL_drawn_179 : decode cL_drawn 179 = .ok (.iload 4, 2) := by decide +kernel
theorem dL_drawn_181 : decode cL_drawn 181 = .ok (.iadd, 1) := by decide +kernel
theorem dL_drawn_182 : decode cL_drawn 182 = .ok (.invokestatic 148, 3) := by decide +kernel
theorem dL_drawn_185 : decode cL_drawn 185 = .ok (.iconst 1, 1) := by decide +kernel
theorem dL_drawn_186 : decode cL_drawn 186 = .ok (.iushr, 1) := by decide +kernel
theorem dL_drawn_187 : decode cL_drawn 187 = .ok (.istore 5, 2) := by decide +kernel
theorem dL_drawn_189 : decode cL_drawn 189 = .ok (.iload 5, 2) := by decide +kernel
theorem dL_drawn_191 : decode cL_drawn 191 = .ok (.iconst 4, 1) := by decide +kernel
theorem dL_drawn_192 : decode cL_drawn 192 = .ok (.iushr, 1) := by decide +kernel
theorem dL_drawn_193 : decode cL_drawn 193 = .ok (.iload_n 3, 1) := by decide +kernel
theorem dL_drawn_194 : decode cL_drawn 194 = .ok (.irem, 1) := by decide +kernel
theorem dL_drawn_195 : decode cL_drawn 195 = .ok (.istore 6, 2) := by decide +kernel
theorem dL_drawn_197 : decode cL_drawn 197 = .ok (.iload 5, 2) := by decide +kernel
theorem dL_drawn_199 : decode cL_drawn 199 = .ok (.bipush 8, 2) := by decide +kernel
theorem dL_drawn_201 : decode cL_drawn 201 = .ok (.iushr, 1) := by decide +kernel
theorem dL_drawn_202 : decode cL_drawn 202 = .ok (.iload 5, 2) := by decide +kernel
theorem dL_drawn_204 : decode cL_drawn 204 = .ok (.iconst 2, 1) := by decide +kernel
theorem dL_drawn_205 : decode cL_drawn 205 = .ok (.irem, 1) := by decide +kernel
theorem dL_drawn_206 : decode cL_drawn 206 = .ok (.ifCond .ne 7, 3) := by decide +kernel
theorem dL_drawn_209 : decode cL_drawn 209 = .ok (.iconst 4, 1) := by decide +kernel
theorem dL_drawn_210 : decode cL_drawn 210 = .ok (.goto 5, 3) := by decide +kernel
theorem dL_drawn_213 : decode cL_drawn 213 = .ok (.bipush 12, 2) := by decide +kernel
theorem dL_drawn_215 : decode cL_drawn 215 = .ok (.irem, 1) := by decide +kernel
theorem dL_drawn_216 : decode cL_drawn 216 = .ok (.istore 7, 2) := by decide +kernel
theorem dL_drawn_218 : decode cL_drawn 218 = .ok (.iload 5, 2) := by decide +kernel
theorem dL_drawn_220 : decode cL_drawn 220 = .ok (.bipush 8, 2) := by decide +kernel
theorem dL_drawn_222 : decode cL_drawn 222 = .ok (.irem, 1) := by decide +kernel
theorem dL_drawn_223 : decode cL_drawn 223 = .ok (.iconst 3, 1) := by decide +kernel
theorem dL_drawn_224 : decode cL_drawn 224 = .ok (.if_icmp .ge 14, 3) := by decide +kernel
theorem dL_drawn_227 : decode cL_drawn 227 = .ok (.aload_n 1, 1) := by decide +kernel
theorem dL_drawn_228 : decode cL_drawn 228 = .ok (.iload 6, 2) := by decide +kernel
theorem dL_drawn_230 : decode cL_drawn 230 = .ok (.iload 7, 2) := by decide +kernel
theorem dL_drawn_232 : decode cL_drawn 232 = .ok (.invokestatic 163, 3) := by decide +kernel
theorem dL_drawn_235 : decode cL_drawn 235 = .ok (.goto 82, 3) := by decide +kernel
theorem dL_drawn_238 : decode cL_drawn 238 = .ok (.iload 5, 2) := by decide +kernel
theorem dL_drawn_240 : decode cL_drawn 240 = .ok (.bipush 8, 2) := by decide +kernel
theorem dL_drawn_242 : decode cL_drawn 242 = .ok (.irem, 1) := by decide +kernel
theorem dL_drawn_243 : decode cL_drawn 243 = .ok (.bipush 6, 2) := by decide +kernel
theorem dL_drawn_245 : decode cL_drawn 245 = .ok (.if_icmp .ge 14, 3) := by decide +kernel
theorem dL_drawn_248 : decode cL_drawn 248 = .ok (.aload_n 1, 1) := by decide +kernel
theorem dL_drawn_249 : decode cL_drawn 249 = .ok (.iload 6, 2) := by decide +kernel
theorem dL_drawn_251 : decode cL_drawn 251 = .ok (.iload 7, 2) := by decide +kernel
theorem dL_drawn_253 : decode cL_drawn 253 = .ok (.invokestatic 165, 3) := by decide +kernel
theorem dL_drawn_256 : decode cL_drawn 256 = .ok (.goto 61, 3) := by decide +kernel
theorem dL_drawn_259 : decode cL_drawn 259 = .ok (.iload 5, 2) := by decide +kernel
theorem dL_drawn_261 : decode cL_drawn 261 = .ok (.bipush 8, 2) := by decide +kernel
theorem dL_drawn_263 : decode cL_drawn 263 = .ok (.irem, 1) := by decide +kernel
theorem dL_drawn_264 : decode cL_drawn 264 = .ok (.bipush 6, 2) := by decide +kernel
theorem dL_drawn_266 : decode cL_drawn 266 = .ok (.if_icmp .ne 20, 3) := by decide +kernel
theorem dL_drawn_269 : decode cL_drawn 269 = .ok (.aload_n 1, 1) := by decide +kernel
theorem dL_drawn_270 : decode cL_drawn 270 = .ok (.iconst 1, 1) := by decide +kernel
theorem dL_drawn_271 : decode cL_drawn 271 = .ok (.iload 5, 2) := by decide +kernel
theorem dL_drawn_273 : decode cL_drawn 273 = .ok (.bipush 12, 2) := by decide +kernel
theorem dL_drawn_275 : decode cL_drawn 275 = .ok (.iushr, 1) := by decide +kernel
theorem dL_drawn_276 : decode cL_drawn 276 = .ok (.bipush 20, 2) := by decide +kernel
theorem dL_drawn_278 : decode cL_drawn 278 = .ok (.irem, 1) := by decide +kernel
theorem dL_drawn_279 : decode cL_drawn 279 = .ok (.iadd, 1) := by decide +kernel
theorem dL_drawn_280 : decode cL_drawn 280 = .ok (.invokestatic 167, 3) := by decide +kernel
theorem dL_drawn_283 : decode cL_drawn 283 = .ok (.goto 34, 3) := by decide +kernel
theorem dL_drawn_286 : decode cL_drawn 286 = .ok (.aload_n 1, 1) := by decide +kernel
theorem dL_drawn_287 : decode cL_drawn 287 = .ok (.iconst 1, 1) := by decide +kernel
theorem dL_drawn_288 : decode cL_drawn 288 = .ok (.iload 5, 2) := by decide +kernel
theorem dL_drawn_290 : decode cL_drawn 290 = .ok (.bipush 12, 2) := by decide +kernel
theorem dL_drawn_292 : decode cL_drawn 292 = .ok (.iushr, 1) := by decide +kernel
theorem dL_drawn_293 : decode cL_drawn 293 = .ok (.iload 5, 2) := by decide +kernel
theorem dL_drawn_295 : decode cL_drawn 295 = .ok (.bipush 16, 2) := by decide +kernel
theorem dL_drawn_297 : decode cL_drawn 297 = .ok (.irem, 1) := by decide +kernel
theorem dL_drawn_298 : decode cL_drawn 298 = .ok (.bipush 7, 2) := by decide +kernel
theorem dL_drawn_300 : decode cL_drawn 300 = .ok (.if_icmp .ne 9, 3) := by decide +kernel
theorem dL_drawn_303 : decode cL_drawn 303 = .ok (.sipush 2000, 3) := by decide +kernel
theorem dL_drawn_306 : decode cL_drawn 306 = .ok (.goto 6, 3) := by decide +kernel
theorem dL_drawn_309 : decode cL_drawn 309 = .ok (.sipush 200, 3) := by decide +kernel
theorem dL_drawn_312 : decode cL_drawn 312 = .ok (.irem, 1) := by decide +kernel
theorem dL_drawn_313 : decode cL_drawn 313 = .ok (.iadd, 1) := by decide +kernel
theorem dL_drawn_314 : decode cL_drawn 314 = .ok (.invokestatic 167, 3) := by decide +kernel
theorem dL_drawn_317 : decode cL_drawn 317 = .ok (.istore 8, 2) := by decide +kernel
theorem dL_drawn_319 : decode cL_drawn 319 = .ok (.iload 8, 2) := by decide +kernel
theorem dL_drawn_321 : decode cL_drawn 321 = .ok (.iconst (-1), 1) := by decide +kernel
theorem dL_drawn_322 : decode cL_drawn 322 = .ok (.if_icmp .ne 5, 3) := by decide +kernel
theorem dL_drawn_325 : decode cL_drawn 325 = .ok (.aconst_null, 1) := by decide +kernel
theorem dL_drawn_326 : decode cL_drawn 326 = .ok (.areturn, 1) := by decide +kernel
theorem dL_drawn_327 : decode cL_drawn 327 = .ok (.iinc 4 1, 3) := by decide +kernel
theorem dL_drawn_330 : decode cL_drawn 330 = .ok (.goto (-161), 3) := by decide +kernel
theorem dL_drawn_333 : decode cL_drawn 333 = .ok (.aload_n 1, 1) := by decide +kernel
theorem dL_drawn_334 : decode cL_drawn 334 = .ok (.areturn, 1) := by decide +kernel
theorem dL_zonesOf_0 : decode cL_zonesOf 0 = .ok (.bipush 7, 2) := by decide +kernel
theorem dL_zonesOf_2 : decode cL_zonesOf 2 = .ok (.newarray .boolean, 2) := by decide +kernel
theorem dL_zonesOf_4 : decode cL_zonesOf 4 = .ok (.astore_n 3, 1) := by decide +kernel
theorem dL_zonesOf_5 : decode cL_zonesOf 5 = .ok (.iconst 0, 1) := by decide +kernel
theorem dL_zonesOf_6 : decode cL_zonesOf 6 = .ok (.istore 4, 2) := by decide +kernel
theorem dL_zonesOf_8 : decode cL_zonesOf 8 = .ok (.iload_n 1, 1) := by decide +kernel
theorem dL_zonesOf_9 : decode cL_zonesOf 9 = .ok (.iload_n 2, 1) := by decide +kernel
theorem dL_zonesOf_10 : decode cL_zonesOf 10 = .ok (.invokestatic 170, 3) := by decide +kernel
theorem dL_zonesOf_13 : decode cL_zonesOf 13 = .ok (.istore 5, 2) := by decide +kernel
theorem dL_zonesOf_15 : decode cL_zonesOf 15 = .ok (.iload 5, 2) := by decide +kernel
theorem dL_zonesOf_17 : decode cL_zonesOf 17 = .ok (.iload_n 1, 1) := by decide +kernel
theorem dL_zonesOf_18 : decode cL_zonesOf 18 = .ok (.iload_n 2, 1) := by decide +kernel
theorem dL_zonesOf_19 : decode cL_zonesOf 19 = .ok (.invokestatic 175, 3) := by decide +kernel
theorem dL_zonesOf_22 : decode cL_zonesOf 22 = .ok (.if_icmp .gt 39, 3) := by decide +kernel
theorem dL_zonesOf_25 : decode cL_zonesOf 25 = .ok (.iload 4, 2) := by decide +kernel
theorem dL_zonesOf_27 : decode cL_zonesOf 27 = .ok (.aload_n 3, 1) := by decide +kernel
theorem dL_zonesOf_28 : decode cL_zonesOf 28 = .ok (.aload_n 0, 1) := by decide +kernel
theorem dL_zonesOf_29 : decode cL_zonesOf 29 = .ok (.iload 5, 2) := by decide +kernel
theorem dL_zonesOf_31 : decode cL_zonesOf 31 = .ok (.invokevirtual 48, 3) := by decide +kernel
theorem dL_zonesOf_34 : decode cL_zonesOf 34 = .ok (.baload, 1) := by decide +kernel
theorem dL_zonesOf_35 : decode cL_zonesOf 35 = .ok (.ifCond .eq 7, 3) := by decide +kernel
theorem dL_zonesOf_38 : decode cL_zonesOf 38 = .ok (.iconst 0, 1) := by decide +kernel
theorem dL_zonesOf_39 : decode cL_zonesOf 39 = .ok (.goto 4, 3) := by decide +kernel
theorem dL_zonesOf_42 : decode cL_zonesOf 42 = .ok (.iconst 1, 1) := by decide +kernel
theorem dL_zonesOf_43 : decode cL_zonesOf 43 = .ok (.iadd, 1) := by decide +kernel
theorem dL_zonesOf_44 : decode cL_zonesOf 44 = .ok (.istore 4, 2) := by decide +kernel
theorem dL_zonesOf_46 : decode cL_zonesOf 46 = .ok (.aload_n 3, 1) := by decide +kernel
theorem dL_zonesOf_47 : decode cL_zonesOf 47 = .ok (.aload_n 0, 1) := by decide +kernel
theorem dL_zonesOf_48 : decode cL_zonesOf 48 = .ok (.iload 5, 2) := by decide +kernel
theorem dL_zonesOf_50 : decode cL_zonesOf 50 = .ok (.invokevirtual 48, 3) := by decide +kernel
theorem dL_zonesOf_53 : decode cL_zonesOf 53 = .ok (.iconst 1, 1) := by decide +kernel
theorem dL_zonesOf_54 : decode cL_zonesOf 54 = .ok (.bastore, 1) := by decide +kernel
theorem dL_zonesOf_55 : decode cL_zonesOf 55 = .ok (.iinc 5 1, 3) := by decide +kernel
theorem dL_zonesOf_58 : decode cL_zonesOf 58 = .ok (.goto (-43), 3) := by decide +kernel
theorem dL_zonesOf_61 : decode cL_zonesOf 61 = .ok (.iload 4, 2) := by decide +kernel
theorem dL_zonesOf_63 : decode cL_zonesOf 63 = .ok (.ireturn, 1) := by decide +kernel
theorem dL_price_0 : decode cL_price 0 = .ok (.aload_n 0, 1) := by decide +kernel
theorem dL_price_1 : decode cL_price 1 = .ok (.invokevirtual 178, 3) := by decide +kernel
theorem dL_price_4 : decode cL_price 4 = .ok (.aload_n 0, 1) := by decide +kernel
theorem dL_price_5 : decode cL_price 5 = .ok (.iload_n 2, 1) := by decide +kernel
theorem dL_price_6 : decode cL_price 6 = .ok (.iload_n 3, 1) := by decide +kernel
theorem dL_price_7 : decode cL_price 7 = .ok (.invokestatic 181, 3) := by decide +kernel
theorem dL_price_10 : decode cL_price 10 = .ok (.iconst 1, 1) := by decide +kernel
theorem dL_price_11 : decode cL_price 11 = .ok (.isub, 1) := by decide +kernel
theorem dL_price_12 : decode cL_price 12 = .ok (.aload_n 0, 1) := by decide +kernel
theorem dL_price_13 : decode cL_price 13 = .ok (.invokevirtual 184, 3) := by decide +kernel
theorem dL_price_16 : decode cL_price 16 = .ok (.imul, 1) := by decide +kernel
theorem dL_price_17 : decode cL_price 17 = .ok (.iadd, 1) := by decide +kernel
theorem dL_price_18 : decode cL_price 18 = .ok (.istore 4, 2) := by decide +kernel
theorem dL_price_20 : decode cL_price 20 = .ok (.aload_n 0, 1) := by decide +kernel
theorem dL_price_21 : decode cL_price 21 = .ok (.iload_n 1, 1) := by decide +kernel
theorem dL_price_22 : decode cL_price 22 = .ok (.invokevirtual 66, 3) := by decide +kernel
theorem dL_price_25 : decode cL_price 25 = .ok (.ifCond .eq 10, 3) := by decide +kernel
theorem dL_price_28 : decode cL_price 28 = .ok (.iload 4, 2) := by decide +kernel
theorem dL_price_30 : decode cL_price 30 = .ok (.iconst 2, 1) := by decide +kernel
theorem dL_price_31 : decode cL_price 31 = .ok (.idiv, 1) := by decide +kernel
theorem dL_price_32 : decode cL_price 32 = .ok (.goto 5, 3) := by decide +kernel
theorem dL_price_35 : decode cL_price 35 = .ok (.iload 4, 2) := by decide +kernel
theorem dL_price_37 : decode cL_price 37 = .ok (.ireturn, 1) := by decide +kernel
theorem dL_capOf_0 : decode cL_capOf 0 = .ok (.aload_n 0, 1) := by decide +kernel
theorem dL_capOf_1 : decode cL_capOf 1 = .ok (.iload_n 1, 1) := by decide +kernel
theorem dL_capOf_2 : decode cL_capOf 2 = .ok (.invokevirtual 66, 3) := by decide +kernel
theorem dL_capOf_5 : decode cL_capOf 5 = .ok (.ifCond .eq 9, 3) := by decide +kernel
theorem dL_capOf_8 : decode cL_capOf 8 = .ok (.sipush 350, 3) := by decide +kernel
theorem dL_capOf_11 : decode cL_capOf 11 = .ok (.goto 6, 3) := by decide +kernel
theorem dL_capOf_14 : decode cL_capOf 14 = .ok (.sipush 700, 3) := by decide +kernel
theorem dL_capOf_17 : decode cL_capOf 17 = .ok (.ireturn, 1) := by decide +kernel
theorem dL_law_0 : decode cL_law 0 = .ok (.aload_n 0, 1) := by decide +kernel
theorem dL_law_1 : decode cL_law 1 = .ok (.invokestatic 187, 3) := by decide +kernel
theorem dL_law_4 : decode cL_law 4 = .ok (.astore_n 1, 1) := by decide +kernel
theorem dL_law_5 : decode cL_law 5 = .ok (.aload_n 1, 1) := by decide +kernel
theorem dL_law_6 : decode cL_law 6 = .ok (.ifnull 36, 3) := by decide +kernel
theorem dL_law_9 : decode cL_law 9 = .ok (.aload_n 1, 1) := by decide +kernel
theorem dL_law_10 : decode cL_law 10 = .ok (.invokestatic 191, 3) := by decide +kernel
theorem dL_law_13 : decode cL_law 13 = .ok (.ifCond .eq 29, 3) := by decide +kernel
theorem dL_law_16 : decode cL_law 16 = .ok (.aload_n 1, 1) := by decide +kernel
theorem dL_law_17 : decode cL_law 17 = .ok (.invokestatic 195, 3) := by decide +kernel
theorem dL_law_20 : decode cL_law 20 = .ok (.ifCond .eq 22, 3) := by decide +kernel
theorem dL_law_23 : decode cL_law 23 = .ok (.aload_n 1, 1) := by decide +kernel
theorem dL_law_24 : decode cL_law 24 = .ok (.invokestatic 198, 3) := by decide +kernel
theorem dL_law_27 : decode cL_law 27 = .ok (.ifCond .eq 15, 3) := by decide +kernel
theorem dL_law_30 : decode cL_law 30 = .ok (.aload_n 0, 1) := by decide +kernel
theorem dL_law_31 : decode cL_law 31 = .ok (.aload_n 1, 1) := by decide +kernel
theorem dL_law_32 : decode cL_law 32 = .ok (.invokestatic 201, 3) := by decide +kernel
theorem dL_law_35 : decode cL_law 35 = .ok (.ifCond .eq 7, 3) := by decide +kernel
theorem dL_law_38 : decode cL_law 38 = .ok (.iconst 1, 1) := by decide +kernel
theorem dL_law_39 : decode cL_law 39 = .ok (.goto 4, 3) := by decide +kernel
theorem dL_law_42 : decode cL_law 42 = .ok (.iconst 0, 1) := by decide +kernel
theorem dL_law_43 : decode cL_law 43 = .ok (.ireturn, 1) := by decide +kernel
theorem dL_zoned_0 : decode cL_zoned 0 = .ok (.iconst 0, 1) := by decide +kernel
theorem dL_zoned_1 : decode cL_zoned 1 = .ok (.istore_n 1, 1) := by decide +kernel
theorem dL_zoned_2 : decode cL_zoned 2 = .ok (.iload_n 1, 1) := by decide +kernel
theorem dL_zoned_3 : decode cL_zoned 3 = .ok (.bipush 12, 2) := by decide +kernel
theorem dL_zoned_5 : decode cL_zoned 5 = .ok (.if_icmp .ge 137, 3) := by decide +kernel
theorem dL_zoned_8 : decode cL_zoned 8 = .ok (.iconst 0, 1) := by decide +kernel
theorem dL_zoned_9 : decode cL_zoned 9 = .ok (.istore_n 2, 1) := by decide +kernel
theorem dL_zoned_10 : decode cL_zoned 10 = .ok (.iload_n 2, 1) := by decide +kernel
theorem dL_zoned_11 : decode cL_zoned 11 = .ok (.bipush 12, 2) := by decide +kernel
theorem dL_zoned_13 : decode cL_zoned 13 = .ok (.if_icmp .ge 60, 3) := by decide +kernel
theorem dL_zoned_16 : decode cL_zoned 16 = .ok (.aload_n 0, 1) := by decide +kernel
theorem dL_zoned_17 : decode cL_zoned 17 = .ok (.iload_n 1, 1) := by decide +kernel
theorem dL_zoned_18 : decode cL_zoned 18 = .ok (.iload_n 2, 1) := by decide +kernel
theorem dL_zoned_19 : decode cL_zoned 19 = .ok (.invokestatic 181, 3) := by decide +kernel
theorem dL_zoned_22 : decode cL_zoned 22 = .ok (.istore_n 3, 1) := by decide +kernel
theorem dL_zoned_23 : decode cL_zoned 23 = .ok (.aload_n 0, 1) := by decide +kernel
theorem dL_zoned_24 : decode cL_zoned 24 = .ok (.iload_n 1, 1) := by decide +kernel
theorem dL_zoned_25 : decode cL_zoned 25 = .ok (.iload_n 2, 1) := by decide +kernel
theorem dL_zoned_26 : decode cL_zoned 26 = .ok (.invokestatic 205, 3) := by decide +kernel
theorem dL_zoned_29 : decode cL_zoned 29 = .ok (.iload_n 3, 1) := by decide +kernel
theorem dL_zoned_30 : decode cL_zoned 30 = .ok (.if_icmp .ne 35, 3) := by decide +kernel
theorem dL_zoned_33 : decode cL_zoned 33 = .ok (.aload_n 0, 1) := by decide +kernel
theorem dL_zoned_34 : decode cL_zoned 34 = .ok (.iload_n 1, 1) := by decide +kernel
theorem dL_zoned_35 : decode cL_zoned 35 = .ok (.iload_n 2, 1) := by decide +kernel
theorem dL_zoned_36 : decode cL_zoned 36 = .ok (.invokestatic 208, 3) := by decide +kernel
theorem dL_zoned_39 : decode cL_zoned 39 = .ok (.iload_n 3, 1) := by decide +kernel
theorem dL_zoned_40 : decode cL_zoned 40 = .ok (.if_icmp .ne 25, 3) := by decide +kernel
theorem dL_zoned_43 : decode cL_zoned 43 = .ok (.aload_n 0, 1) := by decide +kernel
theorem dL_zoned_44 : decode cL_zoned 44 = .ok (.iload_n 1, 1) := by decide +kernel
theorem dL_zoned_45 : decode cL_zoned 45 = .ok (.iload_n 2, 1) := by decide +kernel
theorem dL_zoned_46 : decode cL_zoned 46 = .ok (.invokestatic 211, 3) := by decide +kernel
theorem dL_zoned_49 : decode cL_zoned 49 = .ok (.aload_n 0, 1) := by decide +kernel
theorem dL_zoned_50 : decode cL_zoned 50 = .ok (.invokevirtual 178, 3) := by decide +kernel
theorem dL_zoned_53 : decode cL_zoned 53 = .ok (.iload_n 3, 1) := by decide +kernel
theorem dL_zoned_54 : decode cL_zoned 54 = .ok (.iconst 1, 1) := by decide +kernel
theorem dL_zoned_55 : decode cL_zoned 55 = .ok (.isub, 1) := by decide +kernel
theorem dL_zoned_56 : decode cL_zoned 56 = .ok (.aload_n 0, 1) := by decide +kernel
theorem dL_zoned_57 : decode cL_zoned 57 = .ok (.invokevirtual 184, 3) := by decide +kernel
theorem dL_zoned_60 : decode cL_zoned 60 = .ok (.imul, 1) := by decide +kernel
theorem dL_zoned_61 : decode cL_zoned 61 = .ok (.iadd, 1) := by decide +kernel
theorem dL_zoned_62 : decode cL_zoned 62 = .ok (.if_icmp .eq 5, 3) := by decide +kernel
theorem dL_zoned_65 : decode cL_zoned 65 = .ok (.iconst 0, 1) := by decide +kernel
theorem dL_zoned_66 : decode cL_zoned 66 = .ok (.ireturn, 1) := by decide +kernel
theorem dL_zoned_67 : decode cL_zoned 67 = .ok (.iinc 2 1, 3) := by decide +kernel
theorem dL_zoned_70 : decode cL_zoned 70 = .ok (.goto (-60), 3) := by decide +kernel
theorem dL_zoned_73 : decode cL_zoned 73 = .ok (.aload_n 0, 1) := by decide +kernel
theorem dL_zoned_74 : decode cL_zoned 74 = .ok (.iload_n 1, 1) := by decide +kernel
theorem dL_zoned_75 : decode cL_zoned 75 = .ok (.invokestatic 213, 3) := by decide +kernel
theorem dL_zoned_78 : decode cL_zoned 78 = .ok (.istore_n 2, 1) := by decide +kernel
theorem dL_zoned_79 : decode cL_zoned 79 = .ok (.iload_n 1, 1) := by decide +kernel
theorem dL_zoned_80 : decode cL_zoned 80 = .ok (.ifCond .ne 7, 3) := by decide +kernel
theorem dL_zoned_83 : decode cL_zoned 83 = .ok (.iconst (-1), 1) := by decide +kernel
theorem dL_zoned_84 : decode cL_zoned 84 = .ok (.goto 10, 3) := by decide +kernel
theorem dL_zoned_87 : decode cL_zoned 87 = .ok (.aload_n 0, 1) := by decide +kernel
theorem dL_zoned_88 : decode cL_zoned 88 = .ok (.iload_n 1, 1) := by decide +kernel
theorem dL_zoned_89 : decode cL_zoned 89 = .ok (.iconst 1, 1) := by decide +kernel
theorem dL_zoned_90 : decode cL_zoned 90 = .ok (.isub, 1) := by decide +kernel
theorem dL_zoned_91 : decode cL_zoned 91 = .ok (.invokestatic 213, 3) := by decide +kernel
theorem dL_zoned_94 : decode cL_zoned 94 = .ok (.istore_n 3, 1) := by decide +kernel
theorem dL_zoned_95 : decode cL_zoned 95 = .ok (.iload_n 2, 1) := by decide +kernel
theorem dL_zoned_96 : decode cL_zoned 96 = .ok (.ifCond .lt 38, 3) := by decide +kernel
theorem dL_zoned_99 : decode cL_zoned 99 = .ok (.iload_n 3, 1) := by decide +kernel
theorem dL_zoned_100 : decode cL_zoned 100 = .ok (.ifCond .lt 36, 3) := by decide +kernel
theorem dL_zoned_103 : decode cL_zoned 103 = .ok (.aload_n 0, 1) := by decide +kernel
theorem dL_zoned_104 : decode cL_zoned 104 = .ok (.iload_n 3, 1) := by decide +kernel
theorem dL_zoned_105 : decode cL_zoned 105 = .ok (.invokestatic 216, 3) := by decide +kernel
theorem dL_zoned_108 : decode cL_zoned 108 = .ok (.aload_n 0, 1) := by decide +kernel
theorem dL_zoned_109 : decode cL_zoned 109 = .ok (.iload_n 2, 1) := by decide +kernel
theorem dL_zoned_110 : decode cL_zoned 110 = .ok (.invokestatic 216, 3) := by decide +kernel
theorem dL_zoned_113 : decode cL_zoned 113 = .ok (.if_icmp .lt 21, 3) := by decide +kernel
theorem dL_zoned_116 : decode cL_zoned 116 = .ok (.aload_n 0, 1) := by decide +kernel
theorem dL_zoned_117 : decode cL_zoned 117 = .ok (.iload_n 3, 1) := by decide +kernel
theorem dL_zoned_118 : decode cL_zoned 118 = .ok (.invokestatic 216, 3) := by decide +kernel
theorem dL_zoned_121 : decode cL_zoned 121 = .ok (.aload_n 0, 1) := by decide +kernel
theorem dL_zoned_122 : decode cL_zoned 122 = .ok (.iload_n 2, 1) := by decide +kernel
theorem dL_zoned_123 : decode cL_zoned 123 = .ok (.invokestatic 216, 3) := by decide +kernel
theorem dL_zoned_126 : decode cL_zoned 126 = .ok (.if_icmp .ne 10, 3) := by decide +kernel
theorem dL_zoned_129 : decode cL_zoned 129 = .ok (.iload_n 3, 1) := by decide +kernel
theorem dL_zoned_130 : decode cL_zoned 130 = .ok (.iload_n 2, 1) := by decide +kernel
theorem dL_zoned_131 : decode cL_zoned 131 = .ok (.if_icmp .le 5, 3) := by decide +kernel
theorem dL_zoned_134 : decode cL_zoned 134 = .ok (.iconst 0, 1) := by decide +kernel
theorem dL_zoned_135 : decode cL_zoned 135 = .ok (.ireturn, 1) := by decide +kernel
theorem dL_zoned_136 : decode cL_zoned 136 = .ok (.iinc 1 1, 3) := by decide +kernel
theorem dL_zoned_139 : decode cL_zoned 139 = .ok (.goto (-137), 3) := by decide +kernel
theorem dL_zoned_142 : decode cL_zoned 142 = .ok (.aload_n 0, 1) := by decide +kernel
theorem dL_zoned_143 : decode cL_zoned 143 = .ok (.invokevirtual 218, 3) := by decide +kernel
theorem dL_zoned_146 : decode cL_zoned 146 = .ok (.aload_n 0, 1) := by decide +kernel
theorem dL_zoned_147 : decode cL_zoned 147 = .ok (.invokevirtual 178, 3) := by decide +kernel
theorem dL_zoned_150 : decode cL_zoned 150 = .ok (.iconst 5, 1) := by decide +kernel
theorem dL_zoned_151 : decode cL_zoned 151 = .ok (.aload_n 0, 1) := by decide +kernel
theorem dL_zoned_152 : decode cL_zoned 152 = .ok (.invokevirtual 184, 3) := by decide +kernel
theorem dL_zoned_155 : decode cL_zoned 155 = .ok (.imul, 1) := by decide +kernel
theorem dL_zoned_156 : decode cL_zoned 156 = .ok (.iadd, 1) := by decide +kernel
theorem dL_zoned_157 : decode cL_zoned 157 = .ok (.if_icmp .ne 99, 3) := by decide +kernel
theorem dL_zoned_160 : decode cL_zoned 160 = .ok (.aload_n 0, 1) := by decide +kernel
theorem dL_zoned_161 : decode cL_zoned 161 = .ok (.invokevirtual 221, 3) := by decide +kernel
theorem dL_zoned_164 : decode cL_zoned 164 = .ok (.aload_n 0, 1) := by decide +kernel
theorem dL_zoned_165 : decode cL_zoned 165 = .ok (.invokevirtual 224, 3) := by decide +kernel
theorem dL_zoned_168 : decode cL_zoned 168 = .ok (.sipush 1440, 3) := by decide +kernel
theorem dL_zoned_171 : decode cL_zoned 171 = .ok (.idiv, 1) := by decide +kernel
theorem dL_zoned_172 : decode cL_zoned 172 = .ok (.if_icmp .ne 84, 3) := by decide +kernel
theorem dL_zoned_175 : decode cL_zoned 175 = .ok (.aload_n 0, 1) := by decide +kernel
theorem dL_zoned_176 : decode cL_zoned 176 = .ok (.bipush 12, 2) := by decide +kernel
theorem dL_zoned_178 : decode cL_zoned 178 = .ok (.invokestatic 213, 3) := by decide +kernel
theorem dL_zoned_181 : decode cL_zoned 181 = .ok (.bipush (-13), 2) := by decide +kernel
theorem dL_zoned_183 : decode cL_zoned 183 = .ok (.if_icmp .ne 73, 3) := by decide +kernel
theorem dL_zoned_186 : decode cL_zoned 186 = .ok (.aload_n 0, 1) := by decide +kernel
theorem dL_zoned_187 : decode cL_zoned 187 = .ok (.iconst (-1), 1) := by decide +kernel
theorem dL_zoned_188 : decode cL_zoned 188 = .ok (.invokestatic 213, 3) := by decide +kernel
theorem dL_zoned_191 : decode cL_zoned 191 = .ok (.bipush (-13), 2) := by decide +kernel
theorem dL_zoned_193 : decode cL_zoned 193 = .ok (.if_icmp .ne 63, 3) := by decide +kernel
theorem dL_zoned_196 : decode cL_zoned 196 = .ok (.aload_n 0, 1) := by decide +kernel
theorem dL_zoned_197 : decode cL_zoned 197 = .ok (.bipush 12, 2) := by decide +kernel
theorem dL_zoned_199 : decode cL_zoned 199 = .ok (.invokestatic 227, 3) := by decide +kernel
theorem dL_zoned_202 : decode cL_zoned 202 = .ok (.bipush (-11), 2) := by decide +kernel
theorem dL_zoned_204 : decode cL_zoned 204 = .ok (.if_icmp .ne 52, 3) := by decide +kernel
theorem dL_zoned_207 : decode cL_zoned 207 = .ok (.aload_n 0, 1) := by decide +kernel
theorem dL_zoned_208 : decode cL_zoned 208 = .ok (.iconst 0, 1) := by decide +kernel
theorem dL_zoned_209 : decode cL_zoned 209 = .ok (.bipush 12, 2) := by decide +kernel
theorem dL_zoned_211 : decode cL_zoned 211 = .ok (.invokestatic 205, 3) := by decide +kernel
theorem dL_zoned_214 : decode cL_zoned 214 = .ok (.bipush (-11), 2) := by decide +kernel
theorem dL_zoned_216 : decode cL_zoned 216 = .ok (.if_icmp .ne 40, 3) := by decide +kernel
theorem dL_zoned_219 : decode cL_zoned 219 = .ok (.aload_n 0, 1) := by decide +kernel
theorem dL_zoned_220 : decode cL_zoned 220 = .ok (.iconst (-1), 1) := by decide +kernel
theorem dL_zoned_221 : decode cL_zoned 221 = .ok (.iconst 0, 1) := by decide +kernel
theorem dL_zoned_222 : decode cL_zoned 222 = .ok (.invokestatic 208, 3) := by decide +kernel
theorem dL_zoned_225 : decode cL_zoned 225 = .ok (.bipush (-11), 2) := by decide +kernel
theorem dL_zoned_227 : decode cL_zoned 227 = .ok (.if_icmp .ne 29, 3) := by decide +kernel
theorem dL_zoned_230 : decode cL_zoned 230 = .ok (.aload_n 0, 1) := by decide +kernel
theorem dL_zoned_231 : decode cL_zoned 231 = .ok (.bipush 12, 2) := by decide +kernel
theorem dL_zoned_233 : decode cL_zoned 233 = .ok (.iconst 0, 1) := by decide +kernel
theorem dL_zoned_234 : decode cL_zoned 234 = .ok (.invokestatic 211, 3) := by decide +kernel
theorem dL_zoned_237 : decode cL_zoned 237 = .ok (.bipush (-11), 2) := by decide +kernel
theorem dL_zoned_239 : decode cL_zoned 239 = .ok (.if_icmp .ne 17, 3) := by decide +kernel
theorem dL_zoned_242 : decode cL_zoned 242 = .ok (.aload_n 0, 1) := by decide +kernel
theorem dL_zoned_243 : decode cL_zoned 243 = .ok (.iconst (-1), 1) := by decide +kernel
theorem dL_zoned_244 : decode cL_zoned 244 = .ok (.invokestatic 216, 3) := by decide +kernel
theorem dL_zoned_247 : decode cL_zoned 247 = .ok (.bipush (-11), 2) := by decide +kernel
theorem dL_zoned_249 : decode cL_zoned 249 = .ok (.if_icmp .ne 7, 3) := by decide +kernel
theorem dL_zoned_252 : decode cL_zoned 252 = .ok (.iconst 1, 1) := by decide +kernel
theorem dL_zoned_253 : decode cL_zoned 253 = .ok (.goto 4, 3) := by decide +kernel
theorem dL_zoned_256 : decode cL_zoned 256 = .ok (.iconst 0, 1) := by decide +kernel
theorem dL_zoned_257 : decode cL_zoned 257 = .ok (.ireturn, 1) := by decide +kernel
theorem dL_carded_0 : decode cL_carded 0 = .ok (.aload_n 0, 1) := by decide +kernel
theorem dL_carded_1 : decode cL_carded 1 = .ok (.invokevirtual 229, 3) := by decide +kernel
theorem dL_carded_4 : decode cL_carded 4 = .ok (.istore_n 1, 1) := by decide +kernel
theorem dL_carded_5 : decode cL_carded 5 = .ok (.iconst 0, 1) := by decide +kernel
theorem dL_carded_6 : decode cL_carded 6 = .ok (.istore_n 2, 1) := by decide +kernel
theorem dL_carded_7 : decode cL_carded 7 = .ok (.iconst 0, 1) := by decide +kernel
theorem dL_carded_8 : decode cL_carded 8 = .ok (.istore_n 3, 1) := by decide +kernel
theorem dL_carded_9 : decode cL_carded 9 = .ok (.iload_n 3, 1) := by decide +kernel
theorem dL_carded_10 : decode cL_carded 10 = .ok (.iload_n 1, 1) := by decide +kernel
theorem dL_carded_11 : decode cL_carded 11 = .ok (.if_icmp .ge 438, 3) := by decide +kernel
theorem dL_carded_14 : decode cL_carded 14 = .ok (.aload_n 0, 1) := by decide +kernel
theorem dL_carded_15 : decode cL_carded 15 = .ok (.iload_n 3, 1) := by decide +kernel
theorem dL_carded_16 : decode cL_carded 16 = .ok (.aload_n 0, 1) := by decide +kernel
theorem dL_carded_17 : decode cL_carded 17 = .ok (.invokevirtual 221, 3) := by decide +kernel
theorem dL_carded_20 : decode cL_carded 20 = .ok (.invokestatic 232, 3) := by decide +kernel
theorem dL_carded_23 : decode cL_carded 23 = .ok (.istore 4, 2) := by decide +kernel
theorem dL_carded_25 : decode cL_carded 25 = .ok (.aload_n 0, 1) := by decide +kernel
theorem dL_carded_26 : decode cL_carded 26 = .ok (.iload_n 3, 1) := by decide +kernel
theorem dL_carded_27 : decode cL_carded 27 = .ok (.invokestatic 234, 3) := by decide +kernel
theorem dL_carded_30 : decode cL_carded 30 = .ok (.iconst 1, 1) := by decide +kernel
theorem dL_carded_31 : decode cL_carded 31 = .ok (.if_icmp .ne 7, 3) := by decide +kernel
theorem dL_carded_34 : decode cL_carded 34 = .ok (.iconst 1, 1) := by decide +kernel
theorem dL_carded_35 : decode cL_carded 35 = .ok (.goto 4, 3) := by decide +kernel
theorem dL_carded_38 : decode cL_carded 38 = .ok (.iconst 0, 1) := by decide +kernel
theorem dL_carded_39 : decode cL_carded 39 = .ok (.istore 5, 2) := by decide +kernel
theorem dL_carded_41 : decode cL_carded 41 = .ok (.iload_n 2, 1) := by decide +kernel
theorem dL_carded_42 : decode cL_carded 42 = .ok (.aload_n 0, 1) := by decide +kernel
theorem dL_carded_43 : decode cL_carded 43 = .ok (.iload_n 3, 1) := by decide +kernel
theorem dL_carded_44 : decode cL_carded 44 = .ok (.invokestatic 236, 3) := by decide +kernel
theorem dL_carded_47 : decode cL_carded 47 = .ok (.iadd, 1) := by decide +kernel
theorem dL_carded_48 : decode cL_carded 48 = .ok (.istore_n 2, 1) := by decide +kernel
theorem dL_carded_49 : decode cL_carded 49 = .ok (.aload_n 0, 1) := by decide +kernel
theorem dL_carded_50 : decode cL_carded 50 = .ok (.iload_n 3, 1) := by decide +kernel
theorem dL_carded_51 : decode cL_carded 51 = .ok (.invokestatic 238, 3) := by decide +kernel
theorem dL_carded_54 : decode cL_carded 54 = .ok (.aload_n 0, 1) := by decide +kernel
theorem dL_carded_55 : decode cL_carded 55 = .ok (.iload_n 3, 1) := by decide +kernel
theorem dL_carded_56 : decode cL_carded 56 = .ok (.invokestatic 241, 3) := by decide +kernel
theorem dL_carded_59 : decode cL_carded 59 = .ok (.iload 4, 2) := by decide +kernel
theorem dL_carded_61 : decode cL_carded 61 = .ok (.isub, 1) := by decide +kernel
theorem dL_carded_62 : decode cL_carded 62 = .ok (.if_icmp .ne 18, 3) := by decide +kernel
theorem dL_carded_65 : decode cL_carded 65 = .ok (.iload 4, 2) := by decide +kernel
theorem dL_carded_67 : decode cL_carded 67 = .ok (.ifCond .lt 13, 3) := by decide +kernel
theorem dL_carded_70 : decode cL_carded 70 = .ok (.iload 4, 2) := by decide +kernel
theorem dL_carded_72 : decode cL_carded 72 = .ok (.aload_n 0, 1) := by decide +kernel
theorem dL_carded_73 : decode cL_carded 73 = .ok (.iload_n 3, 1) := by decide +kernel
theorem dL_carded_74 : decode cL_carded 74 = .ok (.invokestatic 241, 3) := by decide +kernel
theorem dL_carded_77 : decode cL_carded 77 = .ok (.if_icmp .le 5, 3) := by decide +kernel
theorem dL_carded_80 : decode cL_carded 80 = .ok (.iconst 0, 1) := by decide +kernel
theorem dL_carded_81 : decode cL_carded 81 = .ok (.ireturn, 1) := by decide +kernel
theorem dL_carded_82 : decode cL_carded 82 = .ok (.aload_n 0, 1) := by decide +kernel
theorem dL_carded_83 : decode cL_carded 83 = .ok (.invokevirtual 221, 3) := by decide +kernel
theorem dL_carded_86 : decode cL_carded 86 = .ok (.iconst 4, 1) := by decide +kernel
theorem dL_carded_87 : decode cL_carded 87 = .ok (.isub, 1) := by decide +kernel
theorem dL_carded_88 : decode cL_carded 88 = .ok (.istore 6, 2) := by decide +kernel
theorem dL_carded_90 : decode cL_carded 90 = .ok (.iload 6, 2) := by decide +kernel
theorem dL_carded_92 : decode cL_carded 92 = .ok (.aload_n 0, 1) := by decide +kernel
theorem dL_carded_93 : decode cL_carded 93 = .ok (.invokevirtual 221, 3) := by decide +kernel
theorem dL_carded_96 : decode cL_carded 96 = .ok (.iconst 2, 1) := by decide +kernel
theorem dL_carded_97 : decode cL_carded 97 = .ok (.iadd, 1) := by decide +kernel
theorem dL_carded_98 : decode cL_carded 98 = .ok (.if_icmp .ge 81, 3) := by decide +kernel
theorem dL_carded_101 : decode cL_carded 101 = .ok (.iload 6, 2) := by decide +kernel
theorem dL_carded_103 : decode cL_carded 103 = .ok (.ifCond .lt 23, 3) := by decide +kernel
theorem dL_carded_106 : decode cL_carded 106 = .ok (.iload 6, 2) := by decide +kernel
theorem dL_carded_108 : decode cL_carded 108 = .ok (.aload_n 0, 1) := by decide +kernel
theorem dL_carded_109 : decode cL_carded 109 = .ok (.invokevirtual 221, 3) := by decide +kernel
theorem dL_carded_112 : decode cL_carded 112 = .ok (.if_icmp .gt 14, 3) := by decide +kernel
theorem dL_carded_115 : decode cL_carded 115 = .ok (.iload 6, 2) := by decide +kernel
theorem dL_carded_117 : decode cL_carded 117 = .ok (.aload_n 0, 1) := by decide +kernel
theorem dL_carded_118 : decode cL_carded 118 = .ok (.invokevirtual 221, 3) := by decide +kernel
theorem dL_carded_121 : decode cL_carded 121 = .ok (.iconst 2, 1) := by decide +kernel
theorem dL_carded_122 : decode cL_carded 122 = .ok (.isub, 1) := by decide +kernel
theorem dL_carded_123 : decode cL_carded 123 = .ok (.if_icmp .ge 8, 3) := by decide +kernel
theorem dL_carded_126 : decode cL_carded 126 = .ok (.bipush (-12), 2) := by decide +kernel
theorem dL_carded_128 : decode cL_carded 128 = .ok (.goto 10, 3) := by decide +kernel
theorem dL_carded_131 : decode cL_carded 131 = .ok (.aload_n 0, 1) := by decide +kernel
theorem dL_carded_132 : decode cL_carded 132 = .ok (.iload_n 3, 1) := by decide +kernel
theorem dL_carded_133 : decode cL_carded 133 = .ok (.iload 6, 2) := by decide +kernel
theorem dL_carded_135 : decode cL_carded 135 = .ok (.invokestatic 244, 3) := by decide +kernel
theorem dL_carded_138 : decode cL_carded 138 = .ok (.istore 7, 2) := by decide +kernel
theorem dL_carded_140 : decode cL_carded 140 = .ok (.aload_n 0, 1) := by decide +kernel
theorem dL_carded_141 : decode cL_carded 141 = .ok (.iload_n 3, 1) := by decide +kernel
theorem dL_carded_142 : decode cL_carded 142 = .ok (.iload 6, 2) := by decide +kernel
theorem dL_carded_144 : decode cL_carded 144 = .ok (.invokestatic 232, 3) := by decide +kernel
theorem dL_carded_147 : decode cL_carded 147 = .ok (.iload 7, 2) := by decide +kernel
theorem dL_carded_149 : decode cL_carded 149 = .ok (.if_icmp .ne 22, 3) := by decide +kernel
theorem dL_carded_152 : decode cL_carded 152 = .ok (.iload 7, 2) := by decide +kernel
theorem dL_carded_154 : decode cL_carded 154 = .ok (.bipush (-12), 2) := by decide +kernel
theorem dL_carded_156 : decode cL_carded 156 = .ok (.if_icmp .ne 17, 3) := by decide +kernel
theorem dL_carded_159 : decode cL_carded 159 = .ok (.aload_n 0, 1) := by decide +kernel
theorem dL_carded_160 : decode cL_carded 160 = .ok (.iload_n 3, 1) := by decide +kernel
theorem dL_carded_161 : decode cL_carded 161 = .ok (.iload 6, 2) := by decide +kernel
theorem dL_carded_163 : decode cL_carded 163 = .ok (.invokestatic 244, 3) := by decide +kernel
theorem dL_carded_166 : decode cL_carded 166 = .ok (.bipush (-12), 2) := by decide +kernel
theorem dL_carded_168 : decode cL_carded 168 = .ok (.if_icmp .eq 5, 3) := by decide +kernel
theorem dL_carded_171 : decode cL_carded 171 = .ok (.iconst 0, 1) := by decide +kernel
theorem dL_carded_172 : decode cL_carded 172 = .ok (.ireturn, 1) := by decide +kernel
theorem dL_carded_173 : decode cL_carded 173 = .ok (.iinc 6 1, 3) := by decide +kernel
theorem dL_carded_176 : decode cL_carded 176 = .ok (.goto (-86), 3) := by decide +kernel
theorem dL_carded_179 : decode cL_carded 179 = .ok (.iload 5, 2) := by decide +kernel
theorem dL_carded_181 : decode cL_carded 181 = .ok (.aload_n 0, 1) := by decide +kernel
theorem dL_carded_182 : decode cL_carded 182 = .ok (.iload_n 3, 1) := by decide +kernel
theorem dL_carded_183 : decode cL_carded 183 = .ok (.invokestatic 247, 3) := by decide +kernel
theorem dL_carded_186 : decode cL_carded 186 = .ok (.ifCond .lt 7, 3) := by decide +kernel
theorem dL_carded_189 : decode cL_carded 189 = .ok (.iconst 1, 1) := by decide +kernel
theorem dL_carded_190 : decode cL_carded 190 = .ok (.goto 4, 3) := by decide +kernel
theorem dL_carded_193 : decode cL_carded 193 = .ok (.iconst 0, 1) := by decide +kernel
theorem dL_carded_194 : decode cL_carded 194 = .ok (.if_icmp .ne 46, 3) := by decide +kernel
theorem dL_carded_197 : decode cL_carded 197 = .ok (.iload 5, 2) := by decide +kernel
theorem dL_carded_199 : decode cL_carded 199 = .ok (.aload_n 0, 1) := by decide +kernel
theorem dL_carded_200 : decode cL_carded 200 = .ok (.iload_n 3, 1) := by decide +kernel
theorem dL_carded_201 : decode cL_carded 201 = .ok (.invokestatic 249, 3) := by decide +kernel
theorem dL_carded_204 : decode cL_carded 204 = .ok (.ifCond .lt 7, 3) := by decide +kernel
theorem dL_carded_207 : decode cL_carded 207 = .ok (.iconst 1, 1) := by decide +kernel
theorem dL_carded_208 : decode cL_carded 208 = .ok (.goto 4, 3) := by decide +kernel
theorem dL_carded_211 : decode cL_carded 211 = .ok (.iconst 0, 1) := by decide +kernel
theorem dL_carded_212 : decode cL_carded 212 = .ok (.if_icmp .ne 28, 3) := by decide +kernel
theorem dL_carded_215 : decode cL_carded 215 = .ok (.iload 5, 2) := by decide +kernel
theorem dL_carded_217 : decode cL_carded 217 = .ok (.ifCond .eq 25, 3) := by decide +kernel
theorem dL_carded_220 : decode cL_carded 220 = .ok (.aload_n 0, 1) := by decide +kernel
theorem dL_carded_221 : decode cL_carded 221 = .ok (.iload_n 3, 1) := by decide +kernel
theorem dL_carded_222 : decode cL_carded 222 = .ok (.invokestatic 251, 3) := by decide +kernel
theorem dL_carded_225 : decode cL_carded 225 = .ok (.iconst 1, 1) := by decide +kernel
theorem dL_carded_226 : decode cL_carded 226 = .ok (.if_icmp .lt 14, 3) := by decide +kernel
theorem dL_carded_229 : decode cL_carded 229 = .ok (.aload_n 0, 1) := by decide +kernel
theorem dL_carded_230 : decode cL_carded 230 = .ok (.iload_n 3, 1) := by decide +kernel
theorem dL_carded_231 : decode cL_carded 231 = .ok (.invokestatic 251, 3) := by decide +kernel
theorem dL_carded_234 : decode cL_carded 234 = .ok (.sipush 180, 3) := by decide +kernel
theorem dL_carded_237 : decode cL_carded 237 = .ok (.if_icmp .le 5, 3) := by decide +kernel
theorem dL_carded_240 : decode cL_carded 240 = .ok (.iconst 0, 1) := by decide +kernel
theorem dL_carded_241 : decode cL_carded 241 = .ok (.ireturn, 1) := by decide +kernel
theorem dL_carded_242 : decode cL_carded 242 = .ok (.iconst 0, 1) := by decide +kernel
theorem dL_carded_243 : decode cL_carded 243 = .ok (.istore 6, 2) := by decide +kernel
theorem dL_carded_245 : decode cL_carded 245 = .ok (.iload 6, 2) := by decide +kernel
theorem dL_carded_247 : decode cL_carded 247 = .ok (.bipush 12, 2) := by decide +kernel
theorem dL_carded_249 : decode cL_carded 249 = .ok (.if_icmp .ge 89, 3) := by decide +kernel
theorem dL_carded_252 : decode cL_carded 252 = .ok (.aload_n 0, 1) := by decide +kernel
theorem dL_carded_253 : decode cL_carded 253 = .ok (.iload_n 3, 1) := by decide +kernel
theorem dL_carded_254 : decode cL_carded 254 = .ok (.iload 6, 2) := by decide +kernel
theorem dL_carded_256 : decode cL_carded 256 = .ok (.invokestatic 253, 3) := by decide +kernel
theorem dL_carded_259 : decode cL_carded 259 = .ok (.istore 7, 2) := by decide +kernel
theorem dL_carded_261 : decode cL_carded 261 = .ok (.iload 5, 2) := by decide +kernel
theorem dL_carded_263 : decode cL_carded 263 = .ok (.ifCond .eq 26, 3) := by decide +kernel
theorem dL_carded_266 : decode cL_carded 266 = .ok (.aload_n 0, 1) := by decide +kernel
theorem dL_carded_267 : decode cL_carded 267 = .ok (.iload_n 3, 1) := by decide +kernel
theorem dL_carded_268 : decode cL_carded 268 = .ok (.invokestatic 238, 3) := by decide +kernel
theorem dL_carded_271 : decode cL_carded 271 = .ok (.aload_n 0, 1) := by decide +kernel
theorem dL_carded_272 : decode cL_carded 272 = .ok (.iload_n 3, 1) := by decide +kernel
theorem dL_carded_273 : decode cL_carded 273 = .ok (.aload_n 0, 1) := by decide +kernel
theorem dL_carded_274 : decode cL_carded 274 = .ok (.iload_n 3, 1) := by decide +kernel
theorem dL_carded_275 : decode cL_carded 275 = .ok (.invokestatic 249, 3) := by decide +kernel
theorem dL_carded_278 : decode cL_carded 278 = .ok (.iload 6, 2) := by decide +kernel
theorem dL_carded_280 : decode cL_carded 280 = .ok (.invokestatic 256, 3) := by decide +kernel
theorem dL_carded_283 : decode cL_carded 283 = .ok (.invokestatic 170, 3) := by decide +kernel
theorem dL_carded_286 : decode cL_carded 286 = .ok (.goto 5, 3) := by decide +kernel
theorem dL_carded_289 : decode cL_carded 289 = .ok (.bipush (-13), 2) := by decide +kernel
theorem dL_carded_291 : decode cL_carded 291 = .ok (.istore 8, 2) := by decide +kernel
theorem dL_carded_293 : decode cL_carded 293 = .ok (.iload 5, 2) := by decide +kernel
theorem dL_carded_295 : decode cL_carded 295 = .ok (.ifCond .eq 28, 3) := by decide +kernel
theorem dL_carded_298 : decode cL_carded 298 = .ok (.iload 7, 2) := by decide +kernel
theorem dL_carded_300 : decode cL_carded 300 = .ok (.ifCond .lt 30, 3) := by decide +kernel
theorem dL_carded_303 : decode cL_carded 303 = .ok (.iload 7, 2) := by decide +kernel
theorem dL_carded_305 : decode cL_carded 305 = .ok (.iload 8, 2) := by decide +kernel
theorem dL_carded_307 : decode cL_carded 307 = .ok (.if_icmp .gt 23, 3) := by decide +kernel
theorem dL_carded_310 : decode cL_carded 310 = .ok (.aload_n 0, 1) := by decide +kernel
theorem dL_carded_311 : decode cL_carded 311 = .ok (.iload_n 3, 1) := by decide +kernel
theorem dL_carded_312 : decode cL_carded 312 = .ok (.iload 6, 2) := by decide +kernel
theorem dL_carded_314 : decode cL_carded 314 = .ok (.invokestatic 260, 3) := by decide +kernel
theorem dL_carded_317 : decode cL_carded 317 = .ok (.ifCond .eq 15, 3) := by decide +kernel
theorem dL_carded_320 : decode cL_carded 320 = .ok (.goto 10, 3) := by decide +kernel
theorem dL_carded_323 : decode cL_carded 323 = .ok (.iload 7, 2) := by decide +kernel
theorem dL_carded_325 : decode cL_carded 325 = .ok (.bipush (-13), 2) := by decide +kernel
theorem dL_carded_327 : decode cL_carded 327 = .ok (.if_icmp .eq 5, 3) := by decide +kernel
theorem dL_carded_330 : decode cL_carded 330 = .ok (.iconst 0, 1) := by decide +kernel
theorem dL_carded_331 : decode cL_carded 331 = .ok (.ireturn, 1) := by decide +kernel
theorem dL_carded_332 : decode cL_carded 332 = .ok (.iinc 6 1, 3) := by decide +kernel
theorem dL_carded_335 : decode cL_carded 335 = .ok (.goto (-90), 3) := by decide +kernel
theorem dL_carded_338 : decode cL_carded 338 = .ok (.iload_n 3, 1) := by decide +kernel
theorem dL_carded_339 : decode cL_carded 339 = .ok (.ifCond .ne 7, 3) := by decide +kernel
theorem dL_carded_342 : decode cL_carded 342 = .ok (.iconst (-1), 1) := by decide +kernel
theorem dL_carded_343 : decode cL_carded 343 = .ok (.goto 10, 3) := by decide +kernel
theorem dL_carded_346 : decode cL_carded 346 = .ok (.aload_n 0, 1) := by decide +kernel
theorem dL_carded_347 : decode cL_carded 347 = .ok (.iload_n 3, 1) := by decide +kernel
theorem dL_carded_348 : decode cL_carded 348 = .ok (.iconst 1, 1) := by decide +kernel
theorem dL_carded_349 : decode cL_carded 349 = .ok (.isub, 1) := by decide +kernel
theorem dL_carded_350 : decode cL_carded 350 = .ok (.invokestatic 263, 3) := by decide +kernel
theorem dL_carded_353 : decode cL_carded 353 = .ok (.istore 6, 2) := by decide +kernel
theorem dL_carded_355 : decode cL_carded 355 = .ok (.aload_n 0, 1) := by decide +kernel
theorem dL_carded_356 : decode cL_carded 356 = .ok (.iload_n 3, 1) := by decide +kernel
theorem dL_carded_357 : decode cL_carded 357 = .ok (.invokestatic 263, 3) := by decide +kernel
theorem dL_carded_360 : decode cL_carded 360 = .ok (.istore 7, 2) := by decide +kernel
theorem dL_carded_362 : decode cL_carded 362 = .ok (.iload 6, 2) := by decide +kernel
theorem dL_carded_364 : decode cL_carded 364 = .ok (.ifCond .ge 7, 3) := by decide +kernel
theorem dL_carded_367 : decode cL_carded 367 = .ok (.iconst 1, 1) := by decide +kernel
theorem dL_carded_368 : decode cL_carded 368 = .ok (.goto 24, 3) := by decide +kernel
theorem dL_carded_371 : decode cL_carded 371 = .ok (.aload_n 0, 1) := by decide +kernel
theorem dL_carded_372 : decode cL_carded 372 = .ok (.iload 6, 2) := by decide +kernel
theorem dL_carded_374 : decode cL_carded 374 = .ok (.aload_n 0, 1) := by decide +kernel
theorem dL_carded_375 : decode cL_carded 375 = .ok (.invokevirtual 221, 3) := by decide +kernel
theorem dL_carded_378 : decode cL_carded 378 = .ok (.invokestatic 232, 3) := by decide +kernel
theorem dL_carded_381 : decode cL_carded 381 = .ok (.aload_n 0, 1) := by decide +kernel
theorem dL_carded_382 : decode cL_carded 382 = .ok (.iload 7, 2) := by decide +kernel
theorem dL_carded_384 : decode cL_carded 384 = .ok (.aload_n 0, 1) := by decide +kernel
theorem dL_carded_385 : decode cL_carded 385 = .ok (.invokevirtual 221, 3) := by decide +kernel
theorem dL_carded_388 : decode cL_carded 388 = .ok (.invokestatic 232, 3) := by decide +kernel
theorem dL_carded_391 : decode cL_carded 391 = .ok (.isub, 1) := by decide +kernel
theorem dL_carded_392 : decode cL_carded 392 = .ok (.istore 8, 2) := by decide +kernel
theorem dL_carded_394 : decode cL_carded 394 = .ok (.iload 8, 2) := by decide +kernel
theorem dL_carded_396 : decode cL_carded 396 = .ok (.ifCond .eq 8, 3) := by decide +kernel
theorem dL_carded_399 : decode cL_carded 399 = .ok (.iload 8, 2) := by decide +kernel
theorem dL_carded_401 : decode cL_carded 401 = .ok (.goto 16, 3) := by decide +kernel
theorem dL_carded_404 : decode cL_carded 404 = .ok (.aload_n 0, 1) := by decide +kernel
theorem dL_carded_405 : decode cL_carded 405 = .ok (.iload 7, 2) := by decide +kernel
theorem dL_carded_407 : decode cL_carded 407 = .ok (.invokestatic 236, 3) := by decide +kernel
theorem dL_carded_410 : decode cL_carded 410 = .ok (.aload_n 0, 1) := by decide +kernel
theorem dL_carded_411 : decode cL_carded 411 = .ok (.iload 6, 2) := by decide +kernel
theorem dL_carded_413 : decode cL_carded 413 = .ok (.invokestatic 236, 3) := by decide +kernel
theorem dL_carded_416 : decode cL_carded 416 = .ok (.isub, 1) := by decide +kernel
theorem dL_carded_417 : decode cL_carded 417 = .ok (.istore 8, 2) := by decide +kernel
theorem dL_carded_419 : decode cL_carded 419 = .ok (.iload 7, 2) := by decide +kernel
theorem dL_carded_421 : decode cL_carded 421 = .ok (.ifCond .lt 20, 3) := by decide +kernel
theorem dL_carded_424 : decode cL_carded 424 = .ok (.iload 8, 2) := by decide +kernel
theorem dL_carded_426 : decode cL_carded 426 = .ok (.ifCond .lt 15, 3) := by decide +kernel
theorem dL_carded_429 : decode cL_carded 429 = .ok (.iload 8, 2) := by decide +kernel
theorem dL_carded_431 : decode cL_carded 431 = .ok (.ifCond .ne 12, 3) := by decide +kernel
theorem dL_carded_434 : decode cL_carded 434 = .ok (.iload 6, 2) := by decide +kernel
theorem dL_carded_436 : decode cL_carded 436 = .ok (.iload 7, 2) := by decide +kernel
theorem dL_carded_438 : decode cL_carded 438 = .ok (.if_icmp .le 5, 3) := by decide +kernel
theorem dL_carded_441 : decode cL_carded 441 = .ok (.iconst 0, 1) := by decide +kernel
theorem dL_carded_442 : decode cL_carded 442 = .ok (.ireturn, 1) := by decide +kernel
theorem dL_carded_443 : decode cL_carded 443 = .ok (.iinc 3 1, 3) := by decide +kernel
theorem dL_carded_446 : decode cL_carded 446 = .ok (.goto (-437), 3) := by decide +kernel
theorem dL_carded_449 : decode cL_carded 449 = .ok (.iload_n 2, 1) := by decide +kernel
theorem dL_carded_450 : decode cL_carded 450 = .ok (.aload_n 0, 1) := by decide +kernel
theorem dL_carded_451 : decode cL_carded 451 = .ok (.invokevirtual 266, 3) := by decide +kernel
theorem dL_carded_454 : decode cL_carded 454 = .ok (.aload_n 0, 1) := by decide +kernel
theorem dL_carded_455 : decode cL_carded 455 = .ok (.invokevirtual 269, 3) := by decide +kernel
theorem dL_carded_458 : decode cL_carded 458 = .ok (.isub, 1) := by decide +kernel
theorem dL_carded_459 : decode cL_carded 459 = .ok (.aload_n 0, 1) := by decide +kernel
theorem dL_carded_460 : decode cL_carded 460 = .ok (.invokevirtual 272, 3) := by decide +kernel
theorem dL_carded_463 : decode cL_carded 463 = .ok (.iadd, 1) := by decide +kernel
theorem dL_carded_464 : decode cL_carded 464 = .ok (.if_icmp .ne 7, 3) := by decide +kernel
theorem dL_carded_467 : decode cL_carded 467 = .ok (.iconst 1, 1) := by decide +kernel
theorem dL_carded_468 : decode cL_carded 468 = .ok (.goto 4, 3) := by decide +kernel
theorem dL_carded_471 : decode cL_carded 471 = .ok (.iconst 0, 1) := by decide +kernel
theorem dL_carded_472 : decode cL_carded 472 = .ok (.istore_n 3, 1) := by decide +kernel
theorem dL_carded_473 : decode cL_carded 473 = .ok (.iload_n 3, 1) := by decide +kernel
theorem dL_carded_474 : decode cL_carded 474 = .ok (.ifCond .eq 172, 3) := by decide +kernel
theorem dL_carded_477 : decode cL_carded 477 = .ok (.aload_n 0, 1) := by decide +kernel
theorem dL_carded_478 : decode cL_carded 478 = .ok (.invokevirtual 275, 3) := by decide +kernel
theorem dL_carded_481 : decode cL_carded 481 = .ok (.ifCond .eq 165, 3) := by decide +kernel
theorem dL_carded_484 : decode cL_carded 484 = .ok (.aload_n 0, 1) := by decide +kernel
theorem dL_carded_485 : decode cL_carded 485 = .ok (.iload_n 1, 1) := by decide +kernel
theorem dL_carded_486 : decode cL_carded 486 = .ok (.invokestatic 263, 3) := by decide +kernel
theorem dL_carded_489 : decode cL_carded 489 = .ok (.bipush (-13), 2) := by decide +kernel
theorem dL_carded_491 : decode cL_carded 491 = .ok (.if_icmp .ne 155, 3) := by decide +kernel
theorem dL_carded_494 : decode cL_carded 494 = .ok (.aload_n 0, 1) := by decide +kernel
theorem dL_carded_495 : decode cL_carded 495 = .ok (.iload_n 1, 1) := by decide +kernel
theorem dL_carded_496 : decode cL_carded 496 = .ok (.invokestatic 279, 3) := by decide +kernel
theorem dL_carded_499 : decode cL_carded 499 = .ok (.bipush (-11), 2) := by decide +kernel
theorem dL_carded_501 : decode cL_carded 501 = .ok (.if_icmp .ne 145, 3) := by decide +kernel
theorem dL_carded_504 : decode cL_carded 504 = .ok (.aload_n 0, 1) := by decide +kernel
theorem dL_carded_505 : decode cL_carded 505 = .ok (.iconst (-1), 1) := by decide +kernel
theorem dL_carded_506 : decode cL_carded 506 = .ok (.invokestatic 236, 3) := by decide +kernel
theorem dL_carded_509 : decode cL_carded 509 = .ok (.sipush (-30011), 3) := by decide +kernel
theorem dL_carded_512 : decode cL_carded 512 = .ok (.if_icmp .ne 134, 3) := by decide +kernel
theorem dL_carded_515 : decode cL_carded 515 = .ok (.aload_n 0, 1) := by decide +kernel
theorem dL_carded_516 : decode cL_carded 516 = .ok (.iload_n 1, 1) := by decide +kernel
theorem dL_carded_517 : decode cL_carded 517 = .ok (.invokestatic 234, 3) := by decide +kernel
theorem dL_carded_520 : decode cL_carded 520 = .ok (.bipush (-11), 2) := by decide +kernel
theorem dL_carded_522 : decode cL_carded 522 = .ok (.if_icmp .ne 124, 3) := by decide +kernel
theorem dL_carded_525 : decode cL_carded 525 = .ok (.aload_n 0, 1) := by decide +kernel
theorem dL_carded_526 : decode cL_carded 526 = .ok (.iload_n 1, 1) := by decide +kernel
theorem dL_carded_527 : decode cL_carded 527 = .ok (.invokestatic 247, 3) := by decide +kernel
theorem dL_carded_530 : decode cL_carded 530 = .ok (.bipush (-11), 2) := by decide +kernel
theorem dL_carded_532 : decode cL_carded 532 = .ok (.if_icmp .ne 114, 3) := by decide +kernel
theorem dL_carded_535 : decode cL_carded 535 = .ok (.aload_n 0, 1) := by decide +kernel
theorem dL_carded_536 : decode cL_carded 536 = .ok (.iload_n 1, 1) := by decide +kernel
theorem dL_carded_537 : decode cL_carded 537 = .ok (.invokestatic 249, 3) := by decide +kernel
theorem dL_carded_540 : decode cL_carded 540 = .ok (.bipush (-11), 2) := by decide +kernel
theorem dL_carded_542 : decode cL_carded 542 = .ok (.if_icmp .ne 104, 3) := by decide +kernel
theorem dL_carded_545 : decode cL_carded 545 = .ok (.aload_n 0, 1) := by decide +kernel
theorem dL_carded_546 : decode cL_carded 546 = .ok (.iload_n 1, 1) := by decide +kernel
theorem dL_carded_547 : decode cL_carded 547 = .ok (.invokestatic 251, 3) := by decide +kernel
theorem dL_carded_550 : decode cL_carded 550 = .ok (.bipush (-11), 2) := by decide +kernel
theorem dL_carded_552 : decode cL_carded 552 = .ok (.if_icmp .ne 94, 3) := by decide +kernel
theorem dL_carded_555 : decode cL_carded 555 = .ok (.aload_n 0, 1) := by decide +kernel
theorem dL_carded_556 : decode cL_carded 556 = .ok (.iload_n 1, 1) := by decide +kernel
theorem dL_carded_557 : decode cL_carded 557 = .ok (.iconst 0, 1) := by decide +kernel
theorem dL_carded_558 : decode cL_carded 558 = .ok (.invokestatic 260, 3) := by decide +kernel
theorem dL_carded_561 : decode cL_carded 561 = .ok (.bipush (-11), 2) := by decide +kernel
theorem dL_carded_563 : decode cL_carded 563 = .ok (.if_icmp .ne 83, 3) := by decide +kernel
theorem dL_carded_566 : decode cL_carded 566 = .ok (.aload_n 0, 1) := by decide +kernel
theorem dL_carded_567 : decode cL_carded 567 = .ok (.iconst 0, 1) := by decide +kernel
theorem dL_carded_568 : decode cL_carded 568 = .ok (.bipush 12, 2) := by decide +kernel
theorem dL_carded_570 : decode cL_carded 570 = .ok (.invokestatic 260, 3) := by decide +kernel
theorem dL_carded_573 : decode cL_carded 573 = .ok (.bipush (-11), 2) := by decide +kernel
theorem dL_carded_575 : decode cL_carded 575 = .ok (.if_icmp .ne 71, 3) := by decide +kernel
theorem dL_carded_578 : decode cL_carded 578 = .ok (.aload_n 0, 1) := by decide +kernel
theorem dL_carded_579 : decode cL_carded 579 = .ok (.iload_n 1, 1) := by decide +kernel
theorem dL_carded_580 : decode cL_carded 580 = .ok (.iconst 0, 1) := by decide +kernel
theorem dL_carded_581 : decode cL_carded 581 = .ok (.invokestatic 253, 3) := by decide +kernel
theorem dL_carded_584 : decode cL_carded 584 = .ok (.bipush (-11), 2) := by decide +kernel
theorem dL_carded_586 : decode cL_carded 586 = .ok (.if_icmp .ne 60, 3) := by decide +kernel
theorem dL_carded_589 : decode cL_carded 589 = .ok (.aload_n 0, 1) := by decide +kernel
theorem dL_carded_590 : decode cL_carded 590 = .ok (.iconst 0, 1) := by decide +kernel
theorem dL_carded_591 : decode cL_carded 591 = .ok (.iconst (-1), 1) := by decide +kernel
theorem dL_carded_592 : decode cL_carded 592 = .ok (.invokestatic 253, 3) := by decide +kernel
theorem dL_carded_595 : decode cL_carded 595 = .ok (.bipush (-11), 2) := by decide +kernel
theorem dL_carded_597 : decode cL_carded 597 = .ok (.if_icmp .ne 49, 3) := by decide +kernel
theorem dL_carded_600 : decode cL_carded 600 = .ok (.aload_n 0, 1) := by decide +kernel
theorem dL_carded_601 : decode cL_carded 601 = .ok (.iload_n 1, 1) := by decide +kernel
theorem dL_carded_602 : decode cL_carded 602 = .ok (.iconst 0, 1) := by decide +kernel
theorem dL_carded_603 : decode cL_carded 603 = .ok (.invokestatic 232, 3) := by decide +kernel
theorem dL_carded_606 : decode cL_carded 606 = .ok (.bipush (-11), 2) := by decide +kernel
theorem dL_carded_608 : decode cL_carded 608 = .ok (.if_icmp .ne 38, 3) := by decide +kernel
theorem dL_carded_611 : decode cL_carded 611 = .ok (.aload_n 0, 1) := by decide +kernel
theorem dL_carded_612 : decode cL_carded 612 = .ok (.iload_n 1, 1) := by decide +kernel
theorem dL_carded_613 : decode cL_carded 613 = .ok (.iconst (-1), 1) := by decide +kernel
theorem dL_carded_614 : decode cL_carded 614 = .ok (.invokestatic 244, 3) := by decide +kernel
theorem dL_carded_617 : decode cL_carded 617 = .ok (.bipush (-11), 2) := by decide +kernel
theorem dL_carded_619 : decode cL_carded 619 = .ok (.if_icmp .ne 27, 3) := by decide +kernel
theorem dL_carded_622 : decode cL_carded 622 = .ok (.aload_n 0, 1) := by decide +kernel
theorem dL_carded_623 : decode cL_carded 623 = .ok (.iload_n 1, 1) := by decide +kernel
theorem dL_carded_624 : decode cL_carded 624 = .ok (.invokestatic 238, 3) := by decide +kernel
theorem dL_carded_627 : decode cL_carded 627 = .ok (.bipush (-11), 2) := by decide +kernel
theorem dL_carded_629 : decode cL_carded 629 = .ok (.if_icmp .ne 17, 3) := by decide +kernel
theorem dL_carded_632 : decode cL_carded 632 = .ok (.aload_n 0, 1) := by decide +kernel
theorem dL_carded_633 : decode cL_carded 633 = .ok (.iload_n 1, 1) := by decide +kernel
theorem dL_carded_634 : decode cL_carded 634 = .ok (.invokestatic 281, 3) := by decide +kernel
theorem dL_carded_637 : decode cL_carded 637 = .ok (.bipush (-11), 2) := by decide +kernel
theorem dL_carded_639 : decode cL_carded 639 = .ok (.if_icmp .ne 7, 3) := by decide +kernel
theorem dL_carded_642 : decode cL_carded 642 = .ok (.iconst 1, 1) := by decide +kernel
theorem dL_carded_643 : decode cL_carded 643 = .ok (.goto 4, 3) := by decide +kernel
theorem dL_carded_646 : decode cL_carded 646 = .ok (.iconst 0, 1) := by decide +kernel
theorem dL_carded_647 : decode cL_carded 647 = .ok (.ireturn, 1) := by decide +kernel
theorem dL_spells_0 : decode cL_spells 0 = .ok (.iload_n 1, 1) := by decide +kernel
theorem dL_spells_1 : decode cL_spells 1 = .ok (.aload_n 2, 1) := by decide +kernel
theorem dL_spells_2 : decode cL_spells 2 = .ok (.invokevirtual 130, 3) := by decide +kernel
theorem dL_spells_5 : decode cL_spells 5 = .ok (.if_icmp .ne 7, 3) := by decide +kernel
theorem dL_spells_8 : decode cL_spells 8 = .ok (.iconst 1, 1) := by decide +kernel
theorem dL_spells_9 : decode cL_spells 9 = .ok (.goto 4, 3) := by decide +kernel
theorem dL_spells_12 : decode cL_spells 12 = .ok (.iconst 0, 1) := by decide +kernel
theorem dL_spells_13 : decode cL_spells 13 = .ok (.istore_n 3, 1) := by decide +kernel
theorem dL_spells_14 : decode cL_spells 14 = .ok (.iconst 0, 1) := by decide +kernel
theorem dL_spells_15 : decode cL_spells 15 = .ok (.istore 4, 2) := by decide +kernel
theorem dL_spells_17 : decode cL_spells 17 = .ok (.iload 4, 2) := by decide +kernel
theorem dL_spells_19 : decode cL_spells 19 = .ok (.aload_n 2, 1) := by decide +kernel
theorem dL_spells_20 : decode cL_spells 20 = .ok (.invokevirtual 130, 3) := by decide +kernel
theorem dL_spells_23 : decode cL_spells 23 = .ok (.if_icmp .ge 34, 3) := by decide +kernel
theorem dL_spells_26 : decode cL_spells 26 = .ok (.iload_n 3, 1) := by decide +kernel
theorem dL_spells_27 : decode cL_spells 27 = .ok (.ifCond .eq 30, 3) := by decide +kernel
theorem dL_spells_30 : decode cL_spells 30 = .ok (.aload_n 0, 1) := by decide +kernel
theorem dL_spells_31 : decode cL_spells 31 = .ok (.iload 4, 2) := by decide +kernel
theorem dL_spells_33 : decode cL_spells 33 = .ok (.invokestatic 283, 3) := by decide +kernel
theorem dL_spells_36 : decode cL_spells 36 = .ok (.aload_n 2, 1) := by decide +kernel
theorem dL_spells_37 : decode cL_spells 37 = .ok (.iload 4, 2) := by decide +kernel
theorem dL_spells_39 : decode cL_spells 39 = .ok (.invokevirtual 135, 3) := by decide +kernel
theorem dL_spells_42 : decode cL_spells 42 = .ok (.if_icmp .ne 7, 3) := by decide +kernel
theorem dL_spells_45 : decode cL_spells 45 = .ok (.iconst 1, 1) := by decide +kernel
theorem dL_spells_46 : decode cL_spells 46 = .ok (.goto 4, 3) := by decide +kernel
theorem dL_spells_49 : decode cL_spells 49 = .ok (.iconst 0, 1) := by decide +kernel
theorem dL_spells_50 : decode cL_spells 50 = .ok (.istore_n 3, 1) := by decide +kernel
theorem dL_spells_51 : decode cL_spells 51 = .ok (.iinc 4 1, 3) := by decide +kernel
theorem dL_spells_54 : decode cL_spells 54 = .ok (.goto (-37), 3) := by decide +kernel
theorem dL_spells_57 : decode cL_spells 57 = .ok (.iload_n 3, 1) := by decide +kernel
theorem dL_spells_58 : decode cL_spells 58 = .ok (.ifCond .eq 17, 3) := by decide +kernel
theorem dL_spells_61 : decode cL_spells 61 = .ok (.aload_n 0, 1) := by decide +kernel
theorem dL_spells_62 : decode cL_spells 62 = .ok (.iload_n 1, 1) := by decide +kernel
theorem dL_spells_63 : decode cL_spells 63 = .ok (.invokestatic 283, 3) := by decide +kernel
theorem dL_spells_66 : decode cL_spells 66 = .ok (.bipush (-11), 2) := by decide +kernel
theorem dL_spells_68 : decode cL_spells 68 = .ok (.if_icmp .ne 7, 3) := by decide +kernel
theorem dL_spells_71 : decode cL_spells 71 = .ok (.iconst 1, 1) := by decide +kernel
theorem dL_spells_72 : decode cL_spells 72 = .ok (.goto 4, 3) := by decide +kernel
theorem dL_spells_75 : decode cL_spells 75 = .ok (.iconst 0, 1) := by decide +kernel
theorem dL_spells_76 : decode cL_spells 76 = .ok (.ireturn, 1) := by decide +kernel
theorem dL_texts_0 : decode cL_texts 0 = .ok (.iconst 0, 1) := by decide +kernel
theorem dL_texts_1 : decode cL_texts 1 = .ok (.istore_n 1, 1) := by decide +kernel
theorem dL_texts_2 : decode cL_texts 2 = .ok (.iload_n 1, 1) := by decide +kernel
theorem dL_texts_3 : decode cL_texts 3 = .ok (.aload_n 0, 1) := by decide +kernel
theorem dL_texts_4 : decode cL_texts 4 = .ok (.invokevirtual 229, 3) := by decide +kernel
theorem dL_texts_7 : decode cL_texts 7 = .ok (.if_icmp .ge 108, 3) := by decide +kernel
theorem dL_texts_10 : decode cL_texts 10 = .ok (.new 285, 3) := by decide +kernel
theorem dL_texts_13 : decode cL_texts 13 = .ok (.dup, 1) := by decide +kernel
theorem dL_texts_14 : decode cL_texts 14 = .ok (.invokespecial 287, 3) := by decide +kernel
theorem dL_texts_17 : decode cL_texts 17 = .ok (.iload_n 1, 1) := by decide +kernel
theorem dL_texts_18 : decode cL_texts 18 = .ok (.invokevirtual 288, 3) := by decide +kernel
theorem dL_texts_21 : decode cL_texts 21 = .ok (.aload_n 0, 1) := by decide +kernel
theorem dL_texts_22 : decode cL_texts 22 = .ok (.iload_n 1, 1) := by decide +kernel
theorem dL_texts_23 : decode cL_texts 23 = .ok (.invokevirtual 66, 3) := by decide +kernel
theorem dL_texts_26 : decode cL_texts 26 = .ok (.ifCond .eq 9, 3) := by decide +kernel
theorem dL_texts_29 : decode cL_texts 29 = .ok (.ldc_w 292, 3) := by decide +kernel
theorem dL_texts_32 : decode cL_texts 32 = .ok (.goto 6, 3) := by decide +kernel
theorem dL_texts_35 : decode cL_texts 35 = .ok (.ldc_w 294, 3) := by decide +kernel
theorem dL_texts_38 : decode cL_texts 38 = .ok (.invokevirtual 296, 3) := by decide +kernel
theorem dL_texts_41 : decode cL_texts 41 = .ok (.aload_n 0, 1) := by decide +kernel
theorem dL_texts_42 : decode cL_texts 42 = .ok (.iload_n 1, 1) := by decide +kernel
theorem dL_texts_43 : decode cL_texts 43 = .ok (.invokevirtual 70, 3) := by decide +kernel
theorem dL_texts_46 : decode cL_texts 46 = .ok (.invokevirtual 288, 3) := by decide +kernel
theorem dL_texts_49 : decode cL_texts 49 = .ok (.aload_n 0, 1) := by decide +kernel
theorem dL_texts_50 : decode cL_texts 50 = .ok (.iload_n 1, 1) := by decide +kernel
theorem dL_texts_51 : decode cL_texts 51 = .ok (.invokevirtual 73, 3) := by decide +kernel
theorem dL_texts_54 : decode cL_texts 54 = .ok (.ifCond .eq 30, 3) := by decide +kernel
theorem dL_texts_57 : decode cL_texts 57 = .ok (.new 285, 3) := by decide +kernel
theorem dL_texts_60 : decode cL_texts 60 = .ok (.dup, 1) := by decide +kernel
theorem dL_texts_61 : decode cL_texts 61 = .ok (.invokespecial 287, 3) := by decide +kernel
theorem dL_texts_64 : decode cL_texts 64 = .ok (.ldc_w 299, 3) := by decide +kernel
theorem dL_texts_67 : decode cL_texts 67 = .ok (.invokevirtual 296, 3) := by decide +kernel
theorem dL_texts_70 : decode cL_texts 70 = .ok (.aload_n 0, 1) := by decide +kernel
theorem dL_texts_71 : decode cL_texts 71 = .ok (.iload_n 1, 1) := by decide +kernel
theorem dL_texts_72 : decode cL_texts 72 = .ok (.invokevirtual 76, 3) := by decide +kernel
theorem dL_texts_75 : decode cL_texts 75 = .ok (.invokevirtual 288, 3) := by decide +kernel
theorem dL_texts_78 : decode cL_texts 78 = .ok (.invokevirtual 301, 3) := by decide +kernel
theorem dL_texts_81 : decode cL_texts 81 = .ok (.goto 6, 3) := by decide +kernel
theorem dL_texts_84 : decode cL_texts 84 = .ok (.ldc_w 305, 3) := by decide +kernel
theorem dL_texts_87 : decode cL_texts 87 = .ok (.invokevirtual 296, 3) := by decide +kernel
theorem dL_texts_90 : decode cL_texts 90 = .ok (.invokevirtual 301, 3) := by decide +kernel
theorem dL_texts_93 : decode cL_texts 93 = .ok (.astore_n 2, 1) := by decide +kernel
theorem dL_texts_94 : decode cL_texts 94 = .ok (.aload_n 0, 1) := by decide +kernel
theorem dL_texts_95 : decode cL_texts 95 = .ok (.aload_n 0, 1) := by decide +kernel
theorem dL_texts_96 : decode cL_texts 96 = .ok (.iload_n 1, 1) := by decide +kernel
theorem dL_texts_97 : decode cL_texts 97 = .ok (.invokestatic 307, 3) := by decide +kernel
theorem dL_texts_100 : decode cL_texts 100 = .ok (.aload_n 2, 1) := by decide +kernel
theorem dL_texts_101 : decode cL_texts 101 = .ok (.invokestatic 309, 3) := by decide +kernel
theorem dL_texts_104 : decode cL_texts 104 = .ok (.ifCond .ne 5, 3) := by decide +kernel
theorem dL_texts_107 : decode cL_texts 107 = .ok (.iconst 0, 1) := by decide +kernel
theorem dL_texts_108 : decode cL_texts 108 = .ok (.ireturn, 1) := by decide +kernel
theorem dL_texts_109 : decode cL_texts 109 = .ok (.iinc 1 1, 3) := by decide +kernel
theorem dL_texts_112 : decode cL_texts 112 = .ok (.goto (-110), 3) := by decide +kernel
theorem dL_texts_115 : decode cL_texts 115 = .ok (.ldc_w 305, 3) := by decide +kernel
theorem dL_texts_118 : decode cL_texts 118 = .ok (.astore_n 1, 1) := by decide +kernel
theorem dL_texts_119 : decode cL_texts 119 = .ok (.iconst 0, 1) := by decide +kernel
theorem dL_texts_120 : decode cL_texts 120 = .ok (.istore_n 2, 1) := by decide +kernel
theorem dL_texts_121 : decode cL_texts 121 = .ok (.iload_n 2, 1) := by decide +kernel
theorem dL_texts_122 : decode cL_texts 122 = .ok (.bipush 12, 2) := by decide +kernel
theorem dL_texts_124 : decode cL_texts 124 = .ok (.if_icmp .ge 32, 3) := by decide +kernel
theorem dL_texts_127 : decode cL_texts 127 = .ok (.new 285, 3) := by decide +kernel
theorem dL_texts_130 : decode cL_texts 130 = .ok (.dup, 1) := by decide +kernel
theorem dL_texts_131 : decode cL_texts 131 = .ok (.invokespecial 287, 3) := by decide +kernel
theorem dL_texts_134 : decode cL_texts 134 = .ok (.aload_n 1, 1) := by decide +kernel
theorem dL_texts_135 : decode cL_texts 135 = .ok (.invokevirtual 296, 3) := by decide +kernel
theorem dL_texts_138 : decode cL_texts 138 = .ok (.aload_n 0, 1) := by decide +kernel
theorem dL_texts_139 : decode cL_texts 139 = .ok (.iload_n 2, 1) := by decide +kernel
theorem dL_texts_140 : decode cL_texts 140 = .ok (.invokevirtual 48, 3) := by decide +kernel
theorem dL_texts_143 : decode cL_texts 143 = .ok (.invokevirtual 288, 3) := by decide +kernel
theorem dL_texts_146 : decode cL_texts 146 = .ok (.invokevirtual 301, 3) := by decide +kernel
theorem dL_texts_149 : decode cL_texts 149 = .ok (.astore_n 1, 1) := by decide +kernel
theorem dL_texts_150 : decode cL_texts 150 = .ok (.iinc 2 1, 3) := by decide +kernel
theorem dL_texts_153 : decode cL_texts 153 = .ok (.goto (-32), 3) := by decide +kernel
theorem dL_texts_156 : decode cL_texts 156 = .ok (.aload_n 0, 1) := by decide +kernel
theorem dL_texts_157 : decode cL_texts 157 = .ok (.invokevirtual 313, 3) := by decide +kernel
theorem dL_texts_160 : decode cL_texts 160 = .ok (.aload_n 0, 1) := by decide +kernel
theorem dL_texts_161 : decode cL_texts 161 = .ok (.invokevirtual 316, 3) := by decide +kernel
theorem dL_texts_164 : decode cL_texts 164 = .ok (.iadd, 1) := by decide +kernel
theorem dL_texts_165 : decode cL_texts 165 = .ok (.istore_n 2, 1) := by decide +kernel
theorem dL_texts_166 : decode cL_texts 166 = .ok (.iload_n 2, 1) := by decide +kernel
theorem dL_texts_167 : decode cL_texts 167 = .ok (.ifCond .ne 7, 3) := by decide +kernel
theorem dL_texts_170 : decode cL_texts 170 = .ok (.iconst 1, 1) := by decide +kernel
theorem dL_texts_171 : decode cL_texts 171 = .ok (.goto 4, 3) := by decide +kernel
theorem dL_texts_174 : decode cL_texts 174 = .ok (.iconst 0, 1) := by decide +kernel
theorem dL_texts_175 : decode cL_texts 175 = .ok (.istore_n 3, 1) := by decide +kernel
theorem dL_texts_176 : decode cL_texts 176 = .ok (.iload_n 2, 1) := by decide +kernel
theorem dL_texts_177 : decode cL_texts 177 = .ok (.ifCond .le 74, 3) := by decide +kernel
theorem dL_texts_180 : decode cL_texts 180 = .ok (.aload_n 0, 1) := by decide +kernel
theorem dL_texts_181 : decode cL_texts 181 = .ok (.invokevirtual 269, 3) := by decide +kernel
theorem dL_texts_184 : decode cL_texts 184 = .ok (.i2d, 1) := by decide +kernel
theorem dL_texts_185 : decode cL_texts 185 = .ok (.iload_n 2, 1) := by decide +kernel
theorem dL_texts_186 : decode cL_texts 186 = .ok (.i2d, 1) := by decide +kernel
theorem dL_texts_187 : decode cL_texts 187 = .ok (.ddiv, 1) := by decide +kernel
theorem dL_texts_188 : decode cL_texts 188 = .ok (.dstore 4, 2) := by decide +kernel
theorem dL_texts_190 : decode cL_texts 190 = .ok (.aload_n 0, 1) := by decide +kernel
theorem dL_texts_191 : decode cL_texts 191 = .ok (.invokevirtual 316, 3) := by decide +kernel
theorem dL_texts_194 : decode cL_texts 194 = .ok (.i2f, 1) := by decide +kernel
theorem dL_texts_195 : decode cL_texts 195 = .ok (.iload_n 2, 1) := by decide +kernel
theorem dL_texts_196 : decode cL_texts 196 = .ok (.i2f, 1) := by decide +kernel
theorem dL_texts_197 : decode cL_texts 197 = .ok (.fdiv, 1) := by decide +kernel
theorem dL_texts_198 : decode cL_texts 198 = .ok (.fstore 6, 2) := by decide +kernel
theorem dL_texts_200 : decode cL_texts 200 = .ok (.aload_n 0, 1) := by decide +kernel
theorem dL_texts_201 : decode cL_texts 201 = .ok (.invokevirtual 319, 3) := by decide +kernel
theorem dL_texts_204 : decode cL_texts 204 = .ok (.dload 4, 2) := by decide +kernel
theorem dL_texts_206 : decode cL_texts 206 = .ok (.dcmp .l, 1) := by decide +kernel
theorem dL_texts_207 : decode cL_texts 207 = .ok (.ifCond .ne 42, 3) := by decide +kernel
theorem dL_texts_210 : decode cL_texts 210 = .ok (.aload_n 0, 1) := by decide +kernel
theorem dL_texts_211 : decode cL_texts 211 = .ok (.invokevirtual 323, 3) := by decide +kernel
theorem dL_texts_214 : decode cL_texts 214 = .ok (.dload 4, 2) := by decide +kernel
theorem dL_texts_216 : decode cL_texts 216 = .ok (.invokestatic 327, 3) := by decide +kernel
theorem dL_texts_219 : decode cL_texts 219 = .ok (.lcmp, 1) := by decide +kernel
theorem dL_texts_220 : decode cL_texts 220 = .ok (.ifCond .ne 29, 3) := by decide +kernel
theorem dL_texts_223 : decode cL_texts 223 = .ok (.aload_n 0, 1) := by decide +kernel
theorem dL_texts_224 : decode cL_texts 224 = .ok (.invokevirtual 333, 3) := by decide +kernel
theorem dL_texts_227 : decode cL_texts 227 = .ok (.fload 6, 2) := by decide +kernel
theorem dL_texts_229 : decode cL_texts 229 = .ok (.fcmp .l, 1) := by decide +kernel
theorem dL_texts_230 : decode cL_texts 230 = .ok (.ifCond .ne 19, 3) := by decide +kernel
theorem dL_texts_233 : decode cL_texts 233 = .ok (.aload_n 0, 1) := by decide +kernel
theorem dL_texts_234 : decode cL_texts 234 = .ok (.invokevirtual 337, 3) := by decide +kernel
theorem dL_texts_237 : decode cL_texts 237 = .ok (.fload 6, 2) := by decide +kernel
theorem dL_texts_239 : decode cL_texts 239 = .ok (.invokestatic 340, 3) := by decide +kernel
theorem dL_texts_242 : decode cL_texts 242 = .ok (.if_icmp .ne 7, 3) := by decide +kernel
theorem dL_texts_245 : decode cL_texts 245 = .ok (.iconst 1, 1) := by decide +kernel
theorem dL_texts_246 : decode cL_texts 246 = .ok (.goto 4, 3) := by decide +kernel
theorem dL_texts_249 : decode cL_texts 249 = .ok (.iconst 0, 1) := by decide +kernel
theorem dL_texts_250 : decode cL_texts 250 = .ok (.istore_n 3, 1) := by decide +kernel
theorem dL_texts_251 : decode cL_texts 251 = .ok (.iload_n 3, 1) := by decide +kernel
theorem dL_texts_252 : decode cL_texts 252 = .ok (.ifCond .eq 32, 3) := by decide +kernel
theorem dL_texts_255 : decode cL_texts 255 = .ok (.aload_n 0, 1) := by decide +kernel
theorem dL_texts_256 : decode cL_texts 256 = .ok (.aload_n 0, 1) := by decide +kernel
theorem dL_texts_257 : decode cL_texts 257 = .ok (.invokevirtual 346, 3) := by decide +kernel
theorem dL_texts_260 : decode cL_texts 260 = .ok (.aload_n 1, 1) := by decide +kernel
theorem dL_texts_261 : decode cL_texts 261 = .ok (.invokestatic 309, 3) := by decide +kernel
theorem dL_texts_264 : decode cL_texts 264 = .ok (.ifCond .eq 20, 3) := by decide +kernel
theorem dL_texts_267 : decode cL_texts 267 = .ok (.aload_n 0, 1) := by decide +kernel
theorem dL_texts_268 : decode cL_texts 268 = .ok (.aload_n 0, 1) := by decide +kernel
theorem dL_texts_269 : decode cL_texts 269 = .ok (.invokevirtual 229, 3) := by decide +kernel
theorem dL_texts_272 : decode cL_texts 272 = .ok (.invokestatic 307, 3) := by decide +kernel
theorem dL_texts_275 : decode cL_texts 275 = .ok (.bipush (-11), 2) := by decide +kernel
theorem dL_texts_277 : decode cL_texts 277 = .ok (.if_icmp .ne 7, 3) := by decide +kernel
theorem dL_texts_280 : decode cL_texts 280 = .ok (.iconst 1, 1) := by decide +kernel
theorem dL_texts_281 : decode cL_texts 281 = .ok (.goto 4, 3) := by decide +kernel
theorem dL_texts_284 : decode cL_texts 284 = .ok (.iconst 0, 1) := by decide +kernel
theorem dL_texts_285 : decode cL_texts 285 = .ok (.ireturn, 1) := by decide +kernel
theorem dL_sum_0 : decode cL_sum 0 = .ok (.ldc2_w 349, 3) := by decide +kernel
theorem dL_sum_3 : decode cL_sum 3 = .ok (.aload_n 0, 1) := by decide +kernel
theorem dL_sum_4 : decode cL_sum 4 = .ok (.invokevirtual 224, 3) := by decide +kernel
theorem dL_sum_7 : decode cL_sum 7 = .ok (.i2l, 1) := by decide +kernel
theorem dL_sum_8 : decode cL_sum 8 = .ok (.ladd, 1) := by decide +kernel
theorem dL_sum_9 : decode cL_sum 9 = .ok (.lstore_n 1, 1) := by decide +kernel
theorem dL_sum_10 : decode cL_sum 10 = .ok (.ldc2_w 351, 3) := by decide +kernel
theorem dL_sum_13 : decode cL_sum 13 = .ok (.lload_n 1, 1) := by decide +kernel
theorem dL_sum_14 : decode cL_sum 14 = .ok (.lmul, 1) := by decide +kernel
theorem dL_sum_15 : decode cL_sum 15 = .ok (.aload_n 0, 1) := by decide +kernel
theorem dL_sum_16 : decode cL_sum 16 = .ok (.invokevirtual 178, 3) := by decide +kernel
theorem dL_sum_19 : decode cL_sum 19 = .ok (.i2l, 1) := by decide +kernel
theorem dL_sum_20 : decode cL_sum 20 = .ok (.ladd, 1) := by decide +kernel
theorem dL_sum_21 : decode cL_sum 21 = .ok (.lstore_n 1, 1) := by decide +kernel
theorem dL_sum_22 : decode cL_sum 22 = .ok (.ldc2_w 351, 3) := by decide +kernel
theorem dL_sum_25 : decode cL_sum 25 = .ok (.lload_n 1, 1) := by decide +kernel
theorem dL_sum_26 : decode cL_sum 26 = .ok (.lmul, 1) := by decide +kernel
theorem dL_sum_27 : decode cL_sum 27 = .ok (.aload_n 0, 1) := by decide +kernel
theorem dL_sum_28 : decode cL_sum 28 = .ok (.invokevirtual 184, 3) := by decide +kernel
theorem dL_sum_31 : decode cL_sum 31 = .ok (.i2l, 1) := by decide +kernel
theorem dL_sum_32 : decode cL_sum 32 = .ok (.ladd, 1) := by decide +kernel
theorem dL_sum_33 : decode cL_sum 33 = .ok (.lstore_n 1, 1) := by decide +kernel
theorem dL_sum_34 : decode cL_sum 34 = .ok (.ldc2_w 351, 3) := by decide +kernel
theorem dL_sum_37 : decode cL_sum 37 = .ok (.lload_n 1, 1) := by decide +kernel
theorem dL_sum_38 : decode cL_sum 38 = .ok (.lmul, 1) := by decide +kernel
theorem dL_sum_39 : decode cL_sum 39 = .ok (.aload_n 0, 1) := by decide +kernel
theorem dL_sum_40 : decode cL_sum 40 = .ok (.invokevirtual 266, 3) := by decide +kernel
theorem dL_sum_43 : decode cL_sum 43 = .ok (.i2l, 1) := by decide +kernel
theorem dL_sum_44 : decode cL_sum 44 = .ok (.ladd, 1) := by decide +kernel
theorem dL_sum_45 : decode cL_sum 45 = .ok (.lstore_n 1, 1) := by decide +kernel
theorem dL_sum_46 : decode cL_sum 46 = .ok (.ldc2_w 351, 3) := by decide +kernel
theorem dL_sum_49 : decode cL_sum 49 = .ok (.lload_n 1, 1) := by decide +kernel
theorem dL_sum_50 : decode cL_sum 50 = .ok (.lmul, 1) := by decide +kernel
theorem dL_sum_51 : decode cL_sum 51 = .ok (.aload_n 0, 1) := by decide +kernel
theorem dL_sum_52 : decode cL_sum 52 = .ok (.invokevirtual 269, 3) := by decide +kernel
theorem dL_sum_55 : decode cL_sum 55 = .ok (.i2l, 1) := by decide +kernel
theorem dL_sum_56 : decode cL_sum 56 = .ok (.ladd, 1) := by decide +kernel
theorem dL_sum_57 : decode cL_sum 57 = .ok (.lstore_n 1, 1) := by decide +kernel
theorem dL_sum_58 : decode cL_sum 58 = .ok (.ldc2_w 351, 3) := by decide +kernel
theorem dL_sum_61 : decode cL_sum 61 = .ok (.lload_n 1, 1) := by decide +kernel
theorem dL_sum_62 : decode cL_sum 62 = .ok (.lmul, 1) := by decide +kernel
theorem dL_sum_63 : decode cL_sum 63 = .ok (.aload_n 0, 1) := by decide +kernel
theorem dL_sum_64 : decode cL_sum 64 = .ok (.invokevirtual 272, 3) := by decide +kernel
theorem dL_sum_67 : decode cL_sum 67 = .ok (.i2l, 1) := by decide +kernel
theorem dL_sum_68 : decode cL_sum 68 = .ok (.ladd, 1) := by decide +kernel
theorem dL_sum_69 : decode cL_sum 69 = .ok (.lstore_n 1, 1) := by decide +kernel
theorem dL_sum_70 : decode cL_sum 70 = .ok (.ldc2_w 351, 3) := by decide +kernel
theorem dL_sum_73 : decode cL_sum 73 = .ok (.lload_n 1, 1) := by decide +kernel
theorem dL_sum_74 : decode cL_sum 74 = .ok (.lmul, 1) := by decide +kernel
theorem dL_sum_75 : decode cL_sum 75 = .ok (.bipush 100, 2) := by decide +kernel
theorem dL_sum_77 : decode cL_sum 77 = .ok (.aload_n 0, 1) := by decide +kernel
theorem dL_sum_78 : decode cL_sum 78 = .ok (.invokevirtual 313, 3) := by decide +kernel
theorem dL_sum_81 : decode cL_sum 81 = .ok (.imul, 1) := by decide +kernel
theorem dL_sum_82 : decode cL_sum 82 = .ok (.i2l, 1) := by decide +kernel
theorem dL_sum_83 : decode cL_sum 83 = .ok (.ladd, 1) := by decide +kernel
theorem dL_sum_84 : decode cL_sum 84 = .ok (.aload_n 0, 1) := by decide +kernel
theorem dL_sum_85 : decode cL_sum 85 = .ok (.invokevirtual 316, 3) := by decide +kernel
theorem dL_sum_88 : decode cL_sum 88 = .ok (.i2l, 1) := by decide +kernel
theorem dL_sum_89 : decode cL_sum 89 = .ok (.ladd, 1) := by decide +kernel
theorem dL_sum_90 : decode cL_sum 90 = .ok (.lstore_n 1, 1) := by decide +kernel
theorem dL_sum_91 : decode cL_sum 91 = .ok (.iconst 0, 1) := by decide +kernel
theorem dL_sum_92 : decode cL_sum 92 = .ok (.istore_n 3, 1) := by decide +kernel
theorem dL_sum_93 : decode cL_sum 93 = .ok (.iload_n 3, 1) := by decide +kernel
theorem dL_sum_94 : decode cL_sum 94 = .ok (.bipush 12, 2) := by decide +kernel
theorem dL_sum_96 : decode cL_sum 96 = .ok (.if_icmp .ge 32, 3) := by decide +kernel
theorem dL_sum_99 : decode cL_sum 99 = .ok (.ldc2_w 353, 3) := by decide +kernel
theorem dL_sum_102 : decode cL_sum 102 = .ok (.lload_n 1, 1) := by decide +kernel
theorem dL_sum_103 : decode cL_sum 103 = .ok (.lmul, 1) := by decide +kernel
theorem dL_sum_104 : decode cL_sum 104 = .ok (.bipush 10, 2) := by decide +kernel
theorem dL_sum_106 : decode cL_sum 106 = .ok (.aload_n 0, 1) := by decide +kernel
theorem dL_sum_107 : decode cL_sum 107 = .ok (.iload_n 3, 1) := by decide +kernel
theorem dL_sum_108 : decode cL_sum 108 = .ok (.invokevirtual 60, 3) := by decide +kernel
theorem dL_sum_111 : decode cL_sum 111 = .ok (.imul, 1) := by decide +kernel
theorem dL_sum_112 : decode cL_sum 112 = .ok (.i2l, 1) := by decide +kernel
theorem dL_sum_113 : decode cL_sum 113 = .ok (.ladd, 1) := by decide +kernel
theorem dL_sum_114 : decode cL_sum 114 = .ok (.aload_n 0, 1) := by decide +kernel
theorem dL_sum_115 : decode cL_sum 115 = .ok (.iload_n 3, 1) := by decide +kernel
theorem dL_sum_116 : decode cL_sum 116 = .ok (.invokevirtual 48, 3) := by decide +kernel
theorem dL_sum_119 : decode cL_sum 119 = .ok (.i2l, 1) := by decide +kernel
theorem dL_sum_120 : decode cL_sum 120 = .ok (.ladd, 1) := by decide +kernel
theorem dL_sum_121 : decode cL_sum 121 = .ok (.lstore_n 1, 1) := by decide +kernel
theorem dL_sum_122 : decode cL_sum 122 = .ok (.iinc 3 1, 3) := by decide +kernel
theorem dL_sum_125 : decode cL_sum 125 = .ok (.goto (-32), 3) := by decide +kernel
theorem dL_sum_128 : decode cL_sum 128 = .ok (.iconst 0, 1) := by decide +kernel
theorem dL_sum_129 : decode cL_sum 129 = .ok (.istore_n 3, 1) := by decide +kernel
theorem dL_sum_130 : decode cL_sum 130 = .ok (.iload_n 3, 1) := by decide +kernel
theorem dL_sum_131 : decode cL_sum 131 = .ok (.aload_n 0, 1) := by decide +kernel
theorem dL_sum_132 : decode cL_sum 132 = .ok (.invokevirtual 229, 3) := by decide +kernel
theorem dL_sum_135 : decode cL_sum 135 = .ok (.if_icmp .ge 175, 3) := by decide +kernel
theorem dL_sum_138 : decode cL_sum 138 = .ok (.ldc2_w 355, 3) := by decide +kernel
theorem dL_sum_141 : decode cL_sum 141 = .ok (.lload_n 1, 1) := by decide +kernel
theorem dL_sum_142 : decode cL_sum 142 = .ok (.lmul, 1) := by decide +kernel
theorem dL_sum_143 : decode cL_sum 143 = .ok (.iconst 2, 1) := by decide +kernel
theorem dL_sum_144 : decode cL_sum 144 = .ok (.aload_n 0, 1) := by decide +kernel
theorem dL_sum_145 : decode cL_sum 145 = .ok (.iload_n 3, 1) := by decide +kernel
theorem dL_sum_146 : decode cL_sum 146 = .ok (.invokevirtual 70, 3) := by decide +kernel
theorem dL_sum_149 : decode cL_sum 149 = .ok (.imul, 1) := by decide +kernel
theorem dL_sum_150 : decode cL_sum 150 = .ok (.i2l, 1) := by decide +kernel
theorem dL_sum_151 : decode cL_sum 151 = .ok (.ladd, 1) := by decide +kernel
theorem dL_sum_152 : decode cL_sum 152 = .ok (.aload_n 0, 1) := by decide +kernel
theorem dL_sum_153 : decode cL_sum 153 = .ok (.iload_n 3, 1) := by decide +kernel
theorem dL_sum_154 : decode cL_sum 154 = .ok (.invokevirtual 66, 3) := by decide +kernel
theorem dL_sum_157 : decode cL_sum 157 = .ok (.ifCond .eq 7, 3) := by decide +kernel
theorem dL_sum_160 : decode cL_sum 160 = .ok (.iconst 1, 1) := by decide +kernel
theorem dL_sum_161 : decode cL_sum 161 = .ok (.goto 4, 3) := by decide +kernel
theorem dL_sum_164 : decode cL_sum 164 = .ok (.iconst 0, 1) := by decide +kernel
theorem dL_sum_165 : decode cL_sum 165 = .ok (.i2l, 1) := by decide +kernel
theorem dL_sum_166 : decode cL_sum 166 = .ok (.ladd, 1) := by decide +kernel
theorem dL_sum_167 : decode cL_sum 167 = .ok (.lstore_n 1, 1) := by decide +kernel
theorem dL_sum_168 : decode cL_sum 168 = .ok (.ldc2_w 357, 3) := by decide +kernel
theorem dL_sum_171 : decode cL_sum 171 = .ok (.lload_n 1, 1) := by decide +kernel
theorem dL_sum_172 : decode cL_sum 172 = .ok (.lmul, 1) := by decide +kernel
theorem dL_sum_173 : decode cL_sum 173 = .ok (.sipush 200, 3) := by decide +kernel
theorem dL_sum_176 : decode cL_sum 176 = .ok (.aload_n 0, 1) := by decide +kernel
theorem dL_sum_177 : decode cL_sum 177 = .ok (.iload_n 3, 1) := by decide +kernel
theorem dL_sum_178 : decode cL_sum 178 = .ok (.invokestatic 247, 3) := by decide +kernel
theorem dL_sum_181 : decode cL_sum 181 = .ok (.imul, 1) := by decide +kernel
theorem dL_sum_182 : decode cL_sum 182 = .ok (.i2l, 1) := by decide +kernel
theorem dL_sum_183 : decode cL_sum 183 = .ok (.ladd, 1) := by decide +kernel
theorem dL_sum_184 : decode cL_sum 184 = .ok (.aload_n 0, 1) := by decide +kernel
theorem dL_sum_185 : decode cL_sum 185 = .ok (.iload_n 3, 1) := by decide +kernel
theorem dL_sum_186 : decode cL_sum 186 = .ok (.invokestatic 251, 3) := by decide +kernel
theorem dL_sum_189 : decode cL_sum 189 = .ok (.i2l, 1) := by decide +kernel
theorem dL_sum_190 : decode cL_sum 190 = .ok (.ladd, 1) := by decide +kernel
theorem dL_sum_191 : decode cL_sum 191 = .ok (.lstore_n 1, 1) := by decide +kernel
theorem dL_sum_192 : decode cL_sum 192 = .ok (.ldc2_w 359, 3) := by decide +kernel
theorem dL_sum_195 : decode cL_sum 195 = .ok (.lload_n 1, 1) := by decide +kernel
theorem dL_sum_196 : decode cL_sum 196 = .ok (.lmul, 1) := by decide +kernel
theorem dL_sum_197 : decode cL_sum 197 = .ok (.bipush 20, 2) := by decide +kernel
theorem dL_sum_199 : decode cL_sum 199 = .ok (.aload_n 0, 1) := by decide +kernel
theorem dL_sum_200 : decode cL_sum 200 = .ok (.iload_n 3, 1) := by decide +kernel
theorem dL_sum_201 : decode cL_sum 201 = .ok (.invokestatic 249, 3) := by decide +kernel
theorem dL_sum_204 : decode cL_sum 204 = .ok (.imul, 1) := by decide +kernel
theorem dL_sum_205 : decode cL_sum 205 = .ok (.i2l, 1) := by decide +kernel
theorem dL_sum_206 : decode cL_sum 206 = .ok (.ladd, 1) := by decide +kernel
theorem dL_sum_207 : decode cL_sum 207 = .ok (.aload_n 0, 1) := by decide +kernel
theorem dL_sum_208 : decode cL_sum 208 = .ok (.iload_n 3, 1) := by decide +kernel
theorem dL_sum_209 : decode cL_sum 209 = .ok (.invokevirtual 100, 3) := by decide +kernel
theorem dL_sum_212 : decode cL_sum 212 = .ok (.ifCond .eq 7, 3) := by decide +kernel
theorem dL_sum_215 : decode cL_sum 215 = .ok (.iconst 1, 1) := by decide +kernel
theorem dL_sum_216 : decode cL_sum 216 = .ok (.goto 4, 3) := by decide +kernel
theorem dL_sum_219 : decode cL_sum 219 = .ok (.iconst 0, 1) := by decide +kernel
theorem dL_sum_220 : decode cL_sum 220 = .ok (.i2l, 1) := by decide +kernel
theorem dL_sum_221 : decode cL_sum 221 = .ok (.ladd, 1) := by decide +kernel
theorem dL_sum_222 : decode cL_sum 222 = .ok (.lstore_n 1, 1) := by decide +kernel
theorem dL_sum_223 : decode cL_sum 223 = .ok (.iconst 0, 1) := by decide +kernel
theorem dL_sum_224 : decode cL_sum 224 = .ok (.aload_n 0, 1) := by decide +kernel
theorem dL_sum_225 : decode cL_sum 225 = .ok (.invokevirtual 221, 3) := by decide +kernel
theorem dL_sum_228 : decode cL_sum 228 = .ok (.iconst 2, 1) := by decide +kernel
theorem dL_sum_229 : decode cL_sum 229 = .ok (.isub, 1) := by decide +kernel
theorem dL_sum_230 : decode cL_sum 230 = .ok (.invokestatic 175, 3) := by decide +kernel
theorem dL_sum_233 : decode cL_sum 233 = .ok (.istore 4, 2) := by decide +kernel
theorem dL_sum_235 : decode cL_sum 235 = .ok (.iload 4, 2) := by decide +kernel
theorem dL_sum_237 : decode cL_sum 237 = .ok (.aload_n 0, 1) := by decide +kernel
theorem dL_sum_238 : decode cL_sum 238 = .ok (.invokevirtual 221, 3) := by decide +kernel
theorem dL_sum_241 : decode cL_sum 241 = .ok (.if_icmp .gt 24, 3) := by decide +kernel
theorem dL_sum_244 : decode cL_sum 244 = .ok (.ldc2_w 361, 3) := by decide +kernel
theorem dL_sum_247 : decode cL_sum 247 = .ok (.lload_n 1, 1) := by decide +kernel
theorem dL_sum_248 : decode cL_sum 248 = .ok (.lmul, 1) := by decide +kernel
theorem dL_sum_249 : decode cL_sum 249 = .ok (.aload_n 0, 1) := by decide +kernel
theorem dL_sum_250 : decode cL_sum 250 = .ok (.iload_n 3, 1) := by decide +kernel
theorem dL_sum_251 : decode cL_sum 251 = .ok (.iload 4, 2) := by decide +kernel
theorem dL_sum_253 : decode cL_sum 253 = .ok (.invokevirtual 91, 3) := by decide +kernel
theorem dL_sum_256 : decode cL_sum 256 = .ok (.i2l, 1) := by decide +kernel
theorem dL_sum_257 : decode cL_sum 257 = .ok (.ladd, 1) := by decide +kernel
theorem dL_sum_258 : decode cL_sum 258 = .ok (.lstore_n 1, 1) := by decide +kernel
theorem dL_sum_259 : decode cL_sum 259 = .ok (.iinc 4 1, 3) := by decide +kernel
theorem dL_sum_262 : decode cL_sum 262 = .ok (.goto (-27), 3) := by decide +kernel
theorem dL_sum_265 : decode cL_sum 265 = .ok (.iconst 0, 1) := by decide +kernel
theorem dL_sum_266 : decode cL_sum 266 = .ok (.istore 4, 2) := by decide +kernel
theorem dL_sum_268 : decode cL_sum 268 = .ok (.iload 4, 2) := by decide +kernel
theorem dL_sum_270 : decode cL_sum 270 = .ok (.bipush 12, 2) := by decide +kernel
theorem dL_sum_272 : decode cL_sum 272 = .ok (.if_icmp .ge 32, 3) := by decide +kernel
theorem dL_sum_275 : decode cL_sum 275 = .ok (.ldc2_w 363, 3) := by decide +kernel
theorem dL_sum_278 : decode cL_sum 278 = .ok (.lload_n 1, 1) := by decide +kernel
theorem dL_sum_279 : decode cL_sum 279 = .ok (.lmul, 1) := by decide +kernel
theorem dL_sum_280 : decode cL_sum 280 = .ok (.aload_n 0, 1) := by decide +kernel
theorem dL_sum_281 : decode cL_sum 281 = .ok (.iload_n 3, 1) := by decide +kernel
theorem dL_sum_282 : decode cL_sum 282 = .ok (.iload 4, 2) := by decide +kernel
theorem dL_sum_284 : decode cL_sum 284 = .ok (.invokevirtual 85, 3) := by decide +kernel
theorem dL_sum_287 : decode cL_sum 287 = .ok (.ifCond .eq 7, 3) := by decide +kernel
theorem dL_sum_290 : decode cL_sum 290 = .ok (.iconst 1, 1) := by decide +kernel
theorem dL_sum_291 : decode cL_sum 291 = .ok (.goto 4, 3) := by decide +kernel
theorem dL_sum_294 : decode cL_sum 294 = .ok (.iconst 0, 1) := by decide +kernel
theorem dL_sum_295 : decode cL_sum 295 = .ok (.i2l, 1) := by decide +kernel
theorem dL_sum_296 : decode cL_sum 296 = .ok (.ladd, 1) := by decide +kernel
theorem dL_sum_297 : decode cL_sum 297 = .ok (.lstore_n 1, 1) := by decide +kernel
theorem dL_sum_298 : decode cL_sum 298 = .ok (.iinc 4 1, 3) := by decide +kernel
theorem dL_sum_301 : decode cL_sum 301 = .ok (.goto (-33), 3) := by decide +kernel
theorem dL_sum_304 : decode cL_sum 304 = .ok (.iinc 3 1, 3) := by decide +kernel
theorem dL_sum_307 : decode cL_sum 307 = .ok (.goto (-177), 3) := by decide +kernel
theorem dL_sum_310 : decode cL_sum 310 = .ok (.lload_n 1, 1) := by decide +kernel
theorem dL_sum_311 : decode cL_sum 311 = .ok (.lreturn, 1) := by decide +kernel
theorem dL_undone_0 : decode cL_undone 0 = .ok (.bipush 9, 2) := by decide +kernel
theorem dL_undone_2 : decode cL_undone 2 = .ok (.newarray .long, 2) := by decide +kernel
theorem dL_undone_4 : decode cL_undone 4 = .ok (.astore_n 2, 1) := by decide +kernel
theorem dL_undone_5 : decode cL_undone 5 = .ok (.iconst 0, 1) := by decide +kernel
theorem dL_undone_6 : decode cL_undone 6 = .ok (.istore_n 3, 1) := by decide +kernel
theorem dL_undone_7 : decode cL_undone 7 = .ok (.iconst 0, 1) := by decide +kernel
theorem dL_undone_8 : decode cL_undone 8 = .ok (.istore 4, 2) := by decide +kernel
theorem dL_undone_10 : decode cL_undone 10 = .ok (.iload 4, 2) := by decide +kernel
theorem dL_undone_12 : decode cL_undone 12 = .ok (.bipush 7, 2) := by decide +kernel
theorem dL_undone_14 : decode cL_undone 14 = .ok (.if_icmp .ge 383, 3) := by decide +kernel
theorem dL_undone_17 : decode cL_undone 17 = .ok (.aload_n 0, 1) := by decide +kernel
theorem dL_undone_18 : decode cL_undone 18 = .ok (.bipush 20, 2) := by decide +kernel
theorem dL_undone_20 : decode cL_undone 20 = .ok (.iload 4, 2) := by decide +kernel
theorem dL_undone_22 : decode cL_undone 22 = .ok (.iadd, 1) := by decide +kernel
theorem dL_undone_23 : decode cL_undone 23 = .ok (.invokestatic 148, 3) := by decide +kernel
theorem dL_undone_26 : decode cL_undone 26 = .ok (.iconst 1, 1) := by decide +kernel
theorem dL_undone_27 : decode cL_undone 27 = .ok (.iushr, 1) := by decide +kernel
theorem dL_undone_28 : decode cL_undone 28 = .ok (.istore 5, 2) := by decide +kernel
theorem dL_undone_30 : decode cL_undone 30 = .ok (.iload 5, 2) := by decide +kernel
theorem dL_undone_32 : decode cL_undone 32 = .ok (.iconst 4, 1) := by decide +kernel
theorem dL_undone_33 : decode cL_undone 33 = .ok (.iushr, 1) := by decide +kernel
theorem dL_undone_34 : decode cL_undone 34 = .ok (.istore 6, 2) := by decide +kernel
theorem dL_undone_36 : decode cL_undone 36 = .ok (.aload_n 2, 1) := by decide +kernel
theorem dL_undone_37 : decode cL_undone 37 = .ok (.iload_n 3, 1) := by decide +kernel
theorem dL_undone_38 : decode cL_undone 38 = .ok (.aload_n 1, 1) := by decide +kernel
theorem dL_undone_39 : decode cL_undone 39 = .ok (.invokestatic 365, 3) := by decide +kernel
theorem dL_undone_42 : decode cL_undone 42 = .ok (.lastore, 1) := by decide +kernel
theorem dL_undone_43 : decode cL_undone 43 = .ok (.iload 5, 2) := by decide +kernel
theorem dL_undone_45 : decode cL_undone 45 = .ok (.bipush 10, 2) := by decide +kernel
theorem dL_undone_47 : decode cL_undone 47 = .ok (.irem, 1) := by decide +kernel
theorem dL_undone_48 : decode cL_undone 48 = .ok (.tableswitch 230 0 8 #[52, 73, 99, 99, 120, 120, 141, 162, 215], 52) := by decide +kernel
theorem dL_undone_100 : decode cL_undone 100 = .ok (.aload_n 1, 1) := by decide +kernel
theorem dL_undone_101 : decode cL_undone 101 = .ok (.iload 6, 2) := by decide +kernel
theorem dL_undone_103 : decode cL_undone 103 = .ok (.iconst 2, 1) := by decide +kernel
theorem dL_undone_104 : decode cL_undone 104 = .ok (.irem, 1) := by decide +kernel
theorem dL_undone_105 : decode cL_undone 105 = .ok (.ifCond .ne 7, 3) := by decide +kernel
theorem dL_undone_108 : decode cL_undone 108 = .ok (.iconst 1, 1) := by decide +kernel
theorem dL_undone_109 : decode cL_undone 109 = .ok (.goto 4, 3) := by decide +kernel
theorem dL_undone_112 : decode cL_undone 112 = .ok (.iconst 0, 1) := by decide +kernel
theorem dL_undone_113 : decode cL_undone 113 = .ok (.invokestatic 152, 3) := by decide +kernel
theorem dL_undone_116 : decode cL_undone 116 = .ok (.istore 7, 2) := by decide +kernel
theorem dL_undone_118 : decode cL_undone 118 = .ok (.goto 242, 3) := by decide +kernel
theorem dL_undone_121 : decode cL_undone 121 = .ok (.aload_n 1, 1) := by decide +kernel
theorem dL_undone_122 : decode cL_undone 122 = .ok (.iload 6, 2) := by decide +kernel
theorem dL_undone_124 : decode cL_undone 124 = .ok (.bipush 9, 2) := by decide +kernel
theorem dL_undone_126 : decode cL_undone 126 = .ok (.irem, 1) := by decide +kernel
theorem dL_undone_127 : decode cL_undone 127 = .ok (.iload 6, 2) := by decide +kernel
theorem dL_undone_129 : decode cL_undone 129 = .ok (.iconst 4, 1) := by decide +kernel
theorem dL_undone_130 : decode cL_undone 130 = .ok (.iushr, 1) := by decide +kernel
theorem dL_undone_131 : decode cL_undone 131 = .ok (.sipush 10001, 3) := by decide +kernel
theorem dL_undone_134 : decode cL_undone 134 = .ok (.irem, 1) := by decide +kernel
theorem dL_undone_135 : decode cL_undone 135 = .ok (.invokestatic 156, 3) := by decide +kernel
theorem dL_undone_138 : decode cL_undone 138 = .ok (.sipush 30000, 3) := by decide +kernel
theorem dL_undone_141 : decode cL_undone 141 = .ok (.iadd, 1) := by decide +kernel
theorem dL_undone_142 : decode cL_undone 142 = .ok (.istore 7, 2) := by decide +kernel
theorem dL_undone_144 : decode cL_undone 144 = .ok (.goto 216, 3) := by decide +kernel
theorem dL_undone_147 : decode cL_undone 147 = .ok (.aload_n 1, 1) := by decide +kernel
theorem dL_undone_148 : decode cL_undone 148 = .ok (.iload 6, 2) := by decide +kernel
theorem dL_undone_150 : decode cL_undone 150 = .ok (.bipush 6, 2) := by decide +kernel
theorem dL_undone_152 : decode cL_undone 152 = .ok (.irem, 1) := by decide +kernel
theorem dL_undone_153 : decode cL_undone 153 = .ok (.iload 6, 2) := by decide +kernel
theorem dL_undone_155 : decode cL_undone 155 = .ok (.iconst 3, 1) := by decide +kernel
theorem dL_undone_156 : decode cL_undone 156 = .ok (.iushr, 1) := by decide +kernel
theorem dL_undone_157 : decode cL_undone 157 = .ok (.bipush 13, 2) := by decide +kernel
theorem dL_undone_159 : decode cL_undone 159 = .ok (.irem, 1) := by decide +kernel
theorem dL_undone_160 : decode cL_undone 160 = .ok (.invokestatic 163, 3) := by decide +kernel
theorem dL_undone_163 : decode cL_undone 163 = .ok (.istore 7, 2) := by decide +kernel
theorem dL_undone_165 : decode cL_undone 165 = .ok (.goto 195, 3) := by decide +kernel
theorem dL_undone_168 : decode cL_undone 168 = .ok (.aload_n 1, 1) := by decide +kernel
theorem dL_undone_169 : decode cL_undone 169 = .ok (.iload 6, 2) := by decide +kernel
theorem dL_undone_171 : decode cL_undone 171 = .ok (.bipush 6, 2) := by decide +kernel
theorem dL_undone_173 : decode cL_undone 173 = .ok (.irem, 1) := by decide +kernel
theorem dL_undone_174 : decode cL_undone 174 = .ok (.iload 6, 2) := by decide +kernel
theorem dL_undone_176 : decode cL_undone 176 = .ok (.iconst 3, 1) := by decide +kernel
theorem dL_undone_177 : decode cL_undone 177 = .ok (.iushr, 1) := by decide +kernel
theorem dL_undone_178 : decode cL_undone 178 = .ok (.bipush 13, 2) := by decide +kernel
theorem dL_undone_180 : decode cL_undone 180 = .ok (.irem, 1) := by decide +kernel
theorem dL_undone_181 : decode cL_undone 181 = .ok (.invokestatic 165, 3) := by decide +kernel
theorem dL_undone_184 : decode cL_undone 184 = .ok (.istore 7, 2) := by decide +kernel
theorem dL_undone_186 : decode cL_undone 186 = .ok (.goto 174, 3) := by decide +kernel
theorem dL_undone_189 : decode cL_undone 189 = .ok (.aload_n 1, 1) := by decide +kernel
theorem dL_undone_190 : decode cL_undone 190 = .ok (.iload 6, 2) := by decide +kernel
theorem dL_undone_192 : decode cL_undone 192 = .ok (.bipush 6, 2) := by decide +kernel
theorem dL_undone_194 : decode cL_undone 194 = .ok (.irem, 1) := by decide +kernel
theorem dL_undone_195 : decode cL_undone 195 = .ok (.iload 6, 2) := by decide +kernel
theorem dL_undone_197 : decode cL_undone 197 = .ok (.iconst 3, 1) := by decide +kernel
theorem dL_undone_198 : decode cL_undone 198 = .ok (.iushr, 1) := by decide +kernel
theorem dL_undone_199 : decode cL_undone 199 = .ok (.bipush 13, 2) := by decide +kernel
theorem dL_undone_201 : decode cL_undone 201 = .ok (.irem, 1) := by decide +kernel
theorem dL_undone_202 : decode cL_undone 202 = .ok (.invokestatic 369, 3) := by decide +kernel
theorem dL_undone_205 : decode cL_undone 205 = .ok (.istore 7, 2) := by decide +kernel
theorem dL_undone_207 : decode cL_undone 207 = .ok (.goto 153, 3) := by decide +kernel
theorem dL_undone_210 : decode cL_undone 210 = .ok (.iload 6, 2) := by decide +kernel
theorem dL_undone_212 : decode cL_undone 212 = .ok (.iconst 2, 1) := by decide +kernel
theorem dL_undone_213 : decode cL_undone 213 = .ok (.irem, 1) := by decide +kernel
theorem dL_undone_214 : decode cL_undone 214 = .ok (.ifCond .ne 24, 3) := by decide +kernel
theorem dL_undone_217 : decode cL_undone 217 = .ok (.aload_n 1, 1) := by decide +kernel
theorem dL_undone_218 : decode cL_undone 218 = .ok (.iload 6, 2) := by decide +kernel
theorem dL_undone_220 : decode cL_undone 220 = .ok (.iconst 1, 1) := by decide +kernel
theorem dL_undone_221 : decode cL_undone 221 = .ok (.iushr, 1) := by decide +kernel
theorem dL_undone_222 : decode cL_undone 222 = .ok (.bipush 13, 2) := by decide +kernel
theorem dL_undone_224 : decode cL_undone 224 = .ok (.irem, 1) := by decide +kernel
theorem dL_undone_225 : decode cL_undone 225 = .ok (.iload 6, 2) := by decide +kernel
theorem dL_undone_227 : decode cL_undone 227 = .ok (.iconst 5, 1) := by decide +kernel
theorem dL_undone_228 : decode cL_undone 228 = .ok (.iushr, 1) := by decide +kernel
theorem dL_undone_229 : decode cL_undone 229 = .ok (.bipush 8, 2) := by decide +kernel
theorem dL_undone_231 : decode cL_undone 231 = .ok (.irem, 1) := by decide +kernel
theorem dL_undone_232 : decode cL_undone 232 = .ok (.invokestatic 161, 3) := by decide +kernel
theorem dL_undone_235 : decode cL_undone 235 = .ok (.goto 23, 3) := by decide +kernel
theorem dL_undone_238 : decode cL_undone 238 = .ok (.aload_n 1, 1) := by decide +kernel
theorem dL_undone_239 : decode cL_undone 239 = .ok (.iload 6, 2) := by decide +kernel
theorem dL_undone_241 : decode cL_undone 241 = .ok (.iconst 1, 1) := by decide +kernel
theorem dL_undone_242 : decode cL_undone 242 = .ok (.iushr, 1) := by decide +kernel
theorem dL_undone_243 : decode cL_undone 243 = .ok (.sipush 1001, 3) := by decide +kernel
theorem dL_undone_246 : decode cL_undone 246 = .ok (.irem, 1) := by decide +kernel
theorem dL_undone_247 : decode cL_undone 247 = .ok (.iload 6, 2) := by decide +kernel
theorem dL_undone_249 : decode cL_undone 249 = .ok (.bipush 11, 2) := by decide +kernel
theorem dL_undone_251 : decode cL_undone 251 = .ok (.iushr, 1) := by decide +kernel
theorem dL_undone_252 : decode cL_undone 252 = .ok (.bipush 101, 2) := by decide +kernel
theorem dL_undone_254 : decode cL_undone 254 = .ok (.irem, 1) := by decide +kernel
theorem dL_undone_255 : decode cL_undone 255 = .ok (.invokestatic 159, 3) := by decide +kernel
theorem dL_undone_258 : decode cL_undone 258 = .ok (.istore 7, 2) := by decide +kernel
theorem dL_undone_260 : decode cL_undone 260 = .ok (.goto 100, 3) := by decide +kernel
theorem dL_undone_263 : decode cL_undone 263 = .ok (.aload_n 1, 1) := by decide +kernel
theorem dL_undone_264 : decode cL_undone 264 = .ok (.iload 6, 2) := by decide +kernel
theorem dL_undone_266 : decode cL_undone 266 = .ok (.sipush 2002, 3) := by decide +kernel
theorem dL_undone_269 : decode cL_undone 269 = .ok (.irem, 1) := by decide +kernel
theorem dL_undone_270 : decode cL_undone 270 = .ok (.invokestatic 167, 3) := by decide +kernel
theorem dL_undone_273 : decode cL_undone 273 = .ok (.istore 7, 2) := by decide +kernel
theorem dL_undone_275 : decode cL_undone 275 = .ok (.goto 85, 3) := by decide +kernel
theorem dL_undone_278 : decode cL_undone 278 = .ok (.aload_n 1, 1) := by decide +kernel
theorem dL_undone_279 : decode cL_undone 279 = .ok (.new 285, 3) := by decide +kernel
theorem dL_undone_282 : decode cL_undone 282 = .ok (.dup, 1) := by decide +kernel
theorem dL_undone_283 : decode cL_undone 283 = .ok (.invokespecial 287, 3) := by decide +kernel
theorem dL_undone_286 : decode cL_undone 286 = .ok (.ldc_w 371, 3) := by decide +kernel
theorem dL_undone_289 : decode cL_undone 289 = .ok (.invokevirtual 296, 3) := by decide +kernel
theorem dL_undone_292 : decode cL_undone 292 = .ok (.iconst 1, 1) := by decide +kernel
theorem dL_undone_293 : decode cL_undone 293 = .ok (.iload 6, 2) := by decide +kernel
theorem dL_undone_295 : decode cL_undone 295 = .ok (.sipush 400, 3) := by decide +kernel
theorem dL_undone_298 : decode cL_undone 298 = .ok (.irem, 1) := by decide +kernel
theorem dL_undone_299 : decode cL_undone 299 = .ok (.iadd, 1) := by decide +kernel
theorem dL_undone_300 : decode cL_undone 300 = .ok (.invokevirtual 288, 3) := by decide +kernel
theorem dL_undone_303 : decode cL_undone 303 = .ok (.ldc_w 373, 3) := by decide +kernel
theorem dL_undone_306 : decode cL_undone 306 = .ok (.invokevirtual 296, 3) := by decide +kernel
theorem dL_undone_309 : decode cL_undone 309 = .ok (.iload 6, 2) := by decide +kernel
theorem dL_undone_311 : decode cL_undone 311 = .ok (.iconst 3, 1) := by decide +kernel
theorem dL_undone_312 : decode cL_undone 312 = .ok (.iushr, 1) := by decide +kernel
theorem dL_undone_313 : decode cL_undone 313 = .ok (.bipush 6, 2) := by decide +kernel
theorem dL_undone_315 : decode cL_undone 315 = .ok (.irem, 1) := by decide +kernel
theorem dL_undone_316 : decode cL_undone 316 = .ok (.invokevirtual 288, 3) := by decide +kernel
theorem dL_undone_319 : decode cL_undone 319 = .ok (.ldc_w 375, 3) := by decide +kernel
theorem dL_undone_322 : decode cL_undone 322 = .ok (.invokevirtual 296, 3) := by decide +kernel
theorem dL_undone_325 : decode cL_undone 325 = .ok (.iload 6, 2) := by decide +kernel
theorem dL_undone_327 : decode cL_undone 327 = .ok (.iconst 3, 1) := by decide +kernel
theorem dL_undone_328 : decode cL_undone 328 = .ok (.iushr, 1) := by decide +kernel
theorem dL_undone_329 : decode cL_undone 329 = .ok (.bipush 6, 2) := by decide +kernel
theorem dL_undone_331 : decode cL_undone 331 = .ok (.irem, 1) := by decide +kernel
theorem dL_undone_332 : decode cL_undone 332 = .ok (.invokevirtual 288, 3) := by decide +kernel
theorem dL_undone_335 : decode cL_undone 335 = .ok (.ldc_w 377, 3) := by decide +kernel
theorem dL_undone_338 : decode cL_undone 338 = .ok (.invokevirtual 296, 3) := by decide +kernel
theorem dL_undone_341 : decode cL_undone 341 = .ok (.iload 6, 2) := by decide +kernel
theorem dL_undone_343 : decode cL_undone 343 = .ok (.bipush 6, 2) := by decide +kernel
theorem dL_undone_345 : decode cL_undone 345 = .ok (.iushr, 1) := by decide +kernel
theorem dL_undone_346 : decode cL_undone 346 = .ok (.bipush 13, 2) := by decide +kernel
theorem dL_undone_348 : decode cL_undone 348 = .ok (.irem, 1) := by decide +kernel
theorem dL_undone_349 : decode cL_undone 349 = .ok (.invokevirtual 288, 3) := by decide +kernel
theorem dL_undone_352 : decode cL_undone 352 = .ok (.invokevirtual 301, 3) := by decide +kernel
theorem dL_undone_355 : decode cL_undone 355 = .ok (.invokestatic 379, 3) := by decide +kernel
theorem dL_undone_358 : decode cL_undone 358 = .ok (.istore 7, 2) := by decide +kernel
theorem dL_undone_360 : decode cL_undone 360 = .ok (.iload 7, 2) := by decide +kernel
theorem dL_undone_362 : decode cL_undone 362 = .ok (.ifCond .ge 16, 3) := by decide +kernel
theorem dL_undone_365 : decode cL_undone 365 = .ok (.aload_n 1, 1) := by decide +kernel
theorem dL_undone_366 : decode cL_undone 366 = .ok (.invokestatic 365, 3) := by decide +kernel
theorem dL_undone_369 : decode cL_undone 369 = .ok (.aload_n 2, 1) := by decide +kernel
theorem dL_undone_370 : decode cL_undone 370 = .ok (.iload_n 3, 1) := by decide +kernel
theorem dL_undone_371 : decode cL_undone 371 = .ok (.laload, 1) := by decide +kernel
theorem dL_undone_372 : decode cL_undone 372 = .ok (.lcmp, 1) := by decide +kernel
theorem dL_undone_373 : decode cL_undone 373 = .ok (.ifCond .eq 5, 3) := by decide +kernel
theorem dL_undone_376 : decode cL_undone 376 = .ok (.iconst 0, 1) := by decide +kernel
theorem dL_undone_377 : decode cL_undone 377 = .ok (.ireturn, 1) := by decide +kernel
theorem dL_undone_378 : decode cL_undone 378 = .ok (.iload_n 3, 1) := by decide +kernel
theorem dL_undone_379 : decode cL_undone 379 = .ok (.iload 7, 2) := by decide +kernel
theorem dL_undone_381 : decode cL_undone 381 = .ok (.ifCond .ge 7, 3) := by decide +kernel
theorem dL_undone_384 : decode cL_undone 384 = .ok (.iconst 0, 1) := by decide +kernel
theorem dL_undone_385 : decode cL_undone 385 = .ok (.goto 4, 3) := by decide +kernel
theorem dL_undone_388 : decode cL_undone 388 = .ok (.iconst 1, 1) := by decide +kernel
theorem dL_undone_389 : decode cL_undone 389 = .ok (.iadd, 1) := by decide +kernel
theorem dL_undone_390 : decode cL_undone 390 = .ok (.istore_n 3, 1) := by decide +kernel
theorem dL_undone_391 : decode cL_undone 391 = .ok (.iinc 4 1, 3) := by decide +kernel
theorem dL_undone_394 : decode cL_undone 394 = .ok (.goto (-384), 3) := by decide +kernel
theorem dL_undone_397 : decode cL_undone 397 = .ok (.iload_n 3, 1) := by decide +kernel
theorem dL_undone_398 : decode cL_undone 398 = .ok (.iconst 1, 1) := by decide +kernel
theorem dL_undone_399 : decode cL_undone 399 = .ok (.isub, 1) := by decide +kernel
theorem dL_undone_400 : decode cL_undone 400 = .ok (.istore 4, 2) := by decide +kernel
theorem dL_undone_402 : decode cL_undone 402 = .ok (.iload 4, 2) := by decide +kernel
theorem dL_undone_404 : decode cL_undone 404 = .ok (.ifCond .lt 30, 3) := by decide +kernel
theorem dL_undone_407 : decode cL_undone 407 = .ok (.aload_n 1, 1) := by decide +kernel
theorem dL_undone_408 : decode cL_undone 408 = .ok (.invokestatic 383, 3) := by decide +kernel
theorem dL_undone_411 : decode cL_undone 411 = .ok (.ifCond .lt 15, 3) := by decide +kernel
theorem dL_undone_414 : decode cL_undone 414 = .ok (.aload_n 1, 1) := by decide +kernel
theorem dL_undone_415 : decode cL_undone 415 = .ok (.invokestatic 365, 3) := by decide +kernel
theorem dL_undone_418 : decode cL_undone 418 = .ok (.aload_n 2, 1) := by decide +kernel
theorem dL_undone_419 : decode cL_undone 419 = .ok (.iload 4, 2) := by decide +kernel
theorem dL_undone_421 : decode cL_undone 421 = .ok (.laload, 1) := by decide +kernel
theorem dL_undone_422 : decode cL_undone 422 = .ok (.lcmp, 1) := by decide +kernel
theorem dL_undone_423 : decode cL_undone 423 = .ok (.ifCond .eq 5, 3) := by decide +kernel
theorem dL_undone_426 : decode cL_undone 426 = .ok (.iconst 0, 1) := by decide +kernel
theorem dL_undone_427 : decode cL_undone 427 = .ok (.ireturn, 1) := by decide +kernel
theorem dL_undone_428 : decode cL_undone 428 = .ok (.iinc 4 (-1), 3) := by decide +kernel
theorem dL_undone_431 : decode cL_undone 431 = .ok (.goto (-29), 3) := by decide +kernel
theorem dL_undone_434 : decode cL_undone 434 = .ok (.iconst 1, 1) := by decide +kernel
theorem dL_undone_435 : decode cL_undone 435 = .ok (.ireturn, 1) := by decide +kernel
