theorem mi_J0_getBytes_840e7 : Mi yJ0_getBytes_840e7 cJ0_getBytes_840e7 4 none 3 := ⟨(tm 1115 (by decide +kernel) (by decide +kernel)), (tm 15 (by decide +kernel) (by decide +kernel)), (by decide +kernel), (by decide +kernel), (by decide +kernel)⟩
theorem mi_J5_putStringAt_47b60 : Mi yJ5_putStringAt_47b60 cJ5_putStringAt_47b60 3 none 2 := ⟨(tm 1087 (by decide +kernel) (by decide +kernel)), (tm 13 (by decide +kernel) (by decide +kernel)), (by decide +kernel), (by decide +kernel), (by decide +kernel)⟩
theorem mi_J5_append_cf1ce : Mi yJ5_append_cf1ce cJ5_append_cf1ce 3 (some (.object "java/lang/AbstractStringBuilder")) 1 := ⟨(tm 1067 (by decide +kernel) (by decide +kernel)), (tm 13 (by decide +kernel) (by decide +kernel)), (by decide +kernel), (by decide +kernel), (by decide +kernel)⟩
theorem mi_J5_getValue_6d5f1 : Mi yJ5_getValue_6d5f1 cJ5_getValue_6d5f1 1 (some (.array .byte)) 0 := ⟨(tm 1135 (by decide +kernel) (by decide +kernel)), (tm 13 (by decide +kernel) (by decide +kernel)), (by decide +kernel), (by decide +kernel), (by decide +kernel)⟩
theorem mi_Jx00060_init_a7421 : Mi yJx00060_init_a7421 cJx00060_init_a7421 2 none 1 := ⟨(tm 653 (by decide +kernel) (by decide +kernel)), (tm 31 (by decide +kernel) (by decide +kernel)), (by decide +kernel), (by decide +kernel), (by decide +kernel)⟩
theorem mi_J4_append_15ec4 : Mi yJ4_append_15ec4 cJ4_append_15ec4 2 (some (.object "java/lang/StringBuilder")) 1 := ⟨(tm 1064 (by decide +kernel) (by decide +kernel)), (tm 14 (by decide +kernel) (by decide +kernel)), (by decide +kernel), (by decide +kernel), (by decide +kernel)⟩
theorem mi_J7_checkLength_df160 : Mi yJ7_checkLength_df160 cJ7_checkLength_df160 2 none 2 := ⟨(tm 1153 (by decide +kernel) (by decide +kernel)), (tm 33 (by decide +kernel) (by decide +kernel)), (by decide +kernel), (by decide +kernel), (by decide +kernel)⟩
theorem mi_J7_copyOfRangeByte_39247 : Mi yJ7_copyOfRangeByte_39247 cJ7_copyOfRangeByte_39247 5 (some (.array .byte)) 3 := ⟨(tm 1150 (by decide +kernel) (by decide +kernel)), (tm 33 (by decide +kernel) (by decide +kernel)), (by decide +kernel), (by decide +kernel), (by decide +kernel)⟩
theorem mi_J7_copyOfRange_39247 : Mi yJ7_copyOfRange_39247 cJ7_copyOfRange_39247 3 (some (.array .byte)) 3 := ⟨(tm 1147 (by decide +kernel) (by decide +kernel)), (tm 33 (by decide +kernel) (by decide +kernel)), (by decide +kernel), (by decide +kernel), (by decide +kernel)⟩
theorem mi_J2_compress_5af95 : Mi yJ2_compress_5af95 cJ2_compress_5af95 7 (some .int) 5 := ⟨(tm 1167 (by decide +kernel) (by decide +kernel)), (tm 16 (by decide +kernel) (by decide +kernel)), (by decide +kernel), (by decide +kernel), (by decide +kernel)⟩
theorem mi_J2_compress_39247 : Mi yJ2_compress_39247 cJ2_compress_39247 6 (some (.array .byte)) 3 := ⟨(tm 1164 (by decide +kernel) (by decide +kernel)), (tm 16 (by decide +kernel) (by decide +kernel)), (by decide +kernel), (by decide +kernel), (by decide +kernel)⟩
theorem mi_J2_coderFromArrayLen_85cad : Mi yJ2_coderFromArrayLen_85cad cJ2_coderFromArrayLen_85cad 2 (some .byte) 2 := ⟨(tm 1174 (by decide +kernel) (by decide +kernel)), (tm 16 (by decide +kernel) (by decide +kernel)), (by decide +kernel), (by decide +kernel), (by decide +kernel)⟩
theorem mi_J0_init_db425 : Mi yJ0_init_db425 cJ0_init_db425 5 none 2 := ⟨(tm 1129 (by decide +kernel) (by decide +kernel)), (tm 15 (by decide +kernel) (by decide +kernel)), (by decide +kernel), (by decide +kernel), (by decide +kernel)⟩
theorem mi_J0_init_81219 : Mi yJ0_init_81219 cJ0_init_81219 2 none 1 := ⟨(tm 1126 (by decide +kernel) (by decide +kernel)), (tm 15 (by decide +kernel) (by decide +kernel)), (by decide +kernel), (by decide +kernel), (by decide +kernel)⟩
theorem mi_J4_toString_0e30d : Mi yJ4_toString_0e30d cJ4_toString_0e30d 1 (some (.object "java/lang/String")) 0 := ⟨(tm 1122 (by decide +kernel) (by decide +kernel)), (tm 14 (by decide +kernel) (by decide +kernel)), (by decide +kernel), (by decide +kernel), (by decide +kernel)⟩
theorem mi_Jx00060_init_d00df : Mi yJx00060_init_d00df cJx00060_init_d00df 2 none 1 := ⟨(tm 1231 (by decide +kernel) (by decide +kernel)), (tm 31 (by decide +kernel) (by decide +kernel)), (by decide +kernel), (by decide +kernel), (by decide +kernel)⟩
theorem mi_Jxe99ae_isNaN_b9ae7 : Mi yJxe99ae_isNaN_b9ae7 cJxe99ae_isNaN_b9ae7 2 (some .boolean) 1 := ⟨(tm 1346 (by decide +kernel) (by decide +kernel)), (tm 38 (by decide +kernel) (by decide +kernel)), (by decide +kernel), (by decide +kernel), (by decide +kernel)⟩
theorem mi_Jxe99ae_doubleToLongBits_ccdee : Mi yJxe99ae_doubleToLongBits_ccdee cJxe99ae_doubleToLongBits_ccdee 2 (some .long) 1 := ⟨(tm 1343 (by decide +kernel) (by decide +kernel)), (tm 38 (by decide +kernel) (by decide +kernel)), (by decide +kernel), (by decide +kernel), (by decide +kernel)⟩
theorem mi_Jxf58ca_isNaN_12338 : Mi yJxf58ca_isNaN_12338 cJxf58ca_isNaN_12338 1 (some .boolean) 1 := ⟨(tm 1369 (by decide +kernel) (by decide +kernel)), (tm 39 (by decide +kernel) (by decide +kernel)), (by decide +kernel), (by decide +kernel), (by decide +kernel)⟩
theorem mi_Jxf58ca_floatToIntBits_5c35a : Mi yJxf58ca_floatToIntBits_5c35a cJxf58ca_floatToIntBits_5c35a 1 (some .int) 1 := ⟨(tm 1366 (by decide +kernel) (by decide +kernel)), (tm 39 (by decide +kernel) (by decide +kernel)), (by decide +kernel), (by decide +kernel), (by decide +kernel)⟩
theorem mi_Jx7c733_init_d00df : Mi yJx7c733_init_d00df cJx7c733_init_d00df 2 none 1 := ⟨(tm 1201 (by decide +kernel) (by decide +kernel)), (tm 36 (by decide +kernel) (by decide +kernel)), (by decide +kernel), (by decide +kernel), (by decide +kernel)⟩
theorem mi_L_cell : Mi yL_cell cL_cell 2 (some .int) 2 := ⟨(tm 292 (by decide +kernel) (by decide +kernel)), (tm 8 (by decide +kernel) (by decide +kernel)), (by decide +kernel), (by decide +kernel), (by decide +kernel)⟩
-- with a table: L_issue [(0, 5, 6, 14)]
-- with a table: L_load [(0, 6, 7, 20), (0, 6, 12, 22), (0, 6, 17, 24)]
-- with a table: L_tapIn [(0, 14, 15, 20), (0, 14, 18, 14)]
-- with a table: L_tapOut [(0, 6, 7, 20), (0, 6, 10, 14)]
-- with a table: L_repair [(0, 6, 7, 20), (0, 6, 10, 36), (0, 6, 14, 14)]
-- with a table: L_setZone [(0, 6, 7, 20), (0, 6, 10, 22)]
-- with a table: L_setFares [(0, 6, 7, 22)]
-- with a table: L_advance [(0, 5, 6, 22)]
-- with a table: L_zone [(0, 5, 6, 20)]
-- with a table: L_zones [(0, 6, 7, 20)]
-- with a table: L_byComparing [(0, 6, 7, 20)]
-- with a table: L_fare [(0, 6, 7, 20)]
-- with a table: L_taps [(0, 5, 6, 20)]
-- with a table: L_byTaps [(0, 5, 6, 36)]
-- with a table: L_isReduced [(0, 13, 14, 20)]
-- with a table: L_balance [(0, 5, 6, 20)]
-- with a table: L_isOnTrip [(0, 13, 14, 20)]
-- with a table: L_tripStart [(0, 5, 6, 20), (0, 5, 10, 36)]
-- with a table: L_journeyStart [(0, 5, 6, 20), (0, 5, 10, 36)]
-- with a table: L_minutesLeft [(0, 5, 6, 20), (0, 5, 10, 36)]
-- with a table: L_continues [(0, 14, 15, 20)]
-- with a table: L_chargeIf [(0, 6, 7, 20), (0, 6, 11, 36)]
-- with a table: L_chargedOn [(0, 6, 7, 20), (0, 6, 11, 22)]
-- with a table: L_byRecords [(0, 6, 7, 20), (0, 6, 11, 22)]
-- with a table: L_left [(0, 5, 6, 20)]
-- with a table: L_isRepairable [(0, 13, 14, 20)]
-- with a table: L_bySpending [(0, 5, 6, 36)]
-- with a table: L_renderCard [(0, 5, 6, 20)]
-- with a table: L_outputAt [(0, 5, 6, 20)]
-- with a table: L_type [(0, 5, 6, 22), (0, 5, 10, 14)]
-- with a table: L_runs [(0, 4, 5, 22), (0, 4, 8, 14)]
-- with a table: L_undo [(0, 4, 5, 36)]
theorem mi_L_run : Mi yL_run cL_run 3 (some .int) 2 := ⟨(tm 1405 (by decide +kernel) (by decide +kernel)), (tm 8 (by decide +kernel) (by decide +kernel)), (by decide +kernel), (by decide +kernel), (by decide +kernel)⟩
theorem mi_L_drawn : Mi yL_drawn cL_drawn 9 (some (.object "MetroFares")) 1 := ⟨(tm 42 (by decide +kernel) (by decide +kernel)), (tm 8 (by decide +kernel) (by decide +kernel)), (by decide +kernel), (by decide +kernel), (by decide +kernel)⟩
theorem mi_L_zonesOf : Mi yL_zonesOf cL_zonesOf 6 (some .int) 3 := ⟨(tm 717 (by decide +kernel) (by decide +kernel)), (tm 8 (by decide +kernel) (by decide +kernel)), (by decide +kernel), (by decide +kernel), (by decide +kernel)⟩
theorem mi_L_price : Mi yL_price cL_price 5 (some .int) 4 := ⟨(tm 905 (by decide +kernel) (by decide +kernel)), (tm 8 (by decide +kernel) (by decide +kernel)), (by decide +kernel), (by decide +kernel), (by decide +kernel)⟩
theorem mi_L_capOf : Mi yL_capOf cL_capOf 2 (some .int) 2 := ⟨(tm 852 (by decide +kernel) (by decide +kernel)), (tm 8 (by decide +kernel) (by decide +kernel)), (by decide +kernel), (by decide +kernel), (by decide +kernel)⟩
theorem mi_L_zoned : Mi yL_zoned cL_zoned 4 (some .boolean) 1 := ⟨(tm 714 (by decide +kernel) (by decide +kernel)), (tm 8 (by decide +kernel) (by decide +kernel)), (by decide +kernel), (by decide +kernel), (by decide +kernel)⟩
theorem mi_L_spells : Mi yL_spells cL_spells 5 (some .boolean) 3 := ⟨(tm 1268 (by decide +kernel) (by decide +kernel)), (tm 8 (by decide +kernel) (by decide +kernel)), (by decide +kernel), (by decide +kernel), (by decide +kernel)⟩
theorem mi_L_texts : Mi yL_texts cL_texts 7 (some .boolean) 1 := ⟨(tm 974 (by decide +kernel) (by decide +kernel)), (tm 8 (by decide +kernel) (by decide +kernel)), (by decide +kernel), (by decide +kernel), (by decide +kernel)⟩
theorem mi_L_sum : Mi yL_sum cL_sum 5 (some .long) 1 := ⟨(tm 1383 (by decide +kernel) (by decide +kernel)), (tm 8 (by decide +kernel) (by decide +kernel)), (by decide +kernel), (by decide +kernel), (by decide +kernel)⟩
theorem fi_X0_9 : Fi RX0 9 4 14 RX0 TX0 17 := ⟨rfl, in_X0, by decide, (tm 118 (by decide +kernel) (by decide +kernel))⟩
theorem fi_X0_15 : Fi RX0 15 4 15 RX0 TX0 17 := ⟨rfl, in_X0, by decide, (tm 119 (by decide +kernel) (by decide +kernel))⟩
theorem fi_X0_18 : Fi RX0 18 4 0 RX0 TX0 17 := ⟨rfl, in_X0, by decide, (tm 92 (by decide +kernel) (by decide +kernel))⟩
theorem fi_X0_22 : Fi RX0 22 4 1 RX0 TX0 17 := ⟨rfl, in_X0, by decide, (tm 94 (by decide +kernel) (by decide +kernel))⟩
theorem fi_X0_26 : Fi RX0 26 4 2 RX0 TX0 17 := ⟨rfl, in_X0, by decide, (tm 97 (by decide +kernel) (by decide +kernel))⟩
theorem fi_X0_29 : Fi RX0 29 4 7 RX0 TX0 17 := ⟨rfl, in_X0, by decide, (tm 106 (by decide +kernel) (by decide +kernel))⟩
theorem fi_X0_32 : Fi RX0 32 4 10 RX0 TX0 17 := ⟨rfl, in_X0, by decide, (tm 109 (by decide +kernel) (by decide +kernel))⟩
theorem fi_X0_35 : Fi RX0 35 4 16 RX0 TX0 17 := ⟨rfl, in_X0, by decide, (tm 120 (by decide +kernel) (by decide +kernel))⟩
theorem fi_X0_39 : Fi RX0 39 4 3 RX0 TX0 17 := ⟨rfl, in_X0, by decide, (tm 100 (by decide +kernel) (by decide +kernel))⟩
theorem fi_X0_42 : Fi RX0 42 4 4 RX0 TX0 17 := ⟨rfl, in_X0, by decide, (tm 102 (by decide +kernel) (by decide +kernel))⟩
theorem fi_X0_45 : Fi RX0 45 4 5 RX0 TX0 17 := ⟨rfl, in_X0, by decide, (tm 103 (by decide +kernel) (by decide +kernel))⟩
theorem fi_X0_48 : Fi RX0 48 4 6 RX0 TX0 17 := ⟨rfl, in_X0, by decide, (tm 105 (by decide +kernel) (by decide +kernel))⟩
theorem fi_X0_51 : Fi RX0 51 4 8 RX0 TX0 17 := ⟨rfl, in_X0, by decide, (tm 107 (by decide +kernel) (by decide +kernel))⟩
theorem fi_X0_54 : Fi RX0 54 4 9 RX0 TX0 17 := ⟨rfl, in_X0, by decide, (tm 108 (by decide +kernel) (by decide +kernel))⟩
theorem fi_X0_57 : Fi RX0 57 4 11 RX0 TX0 17 := ⟨rfl, in_X0, by decide, (tm 112 (by decide +kernel) (by decide +kernel))⟩
theorem fi_X0_60 : Fi RX0 60 4 12 RX0 TX0 17 := ⟨rfl, in_X0, by decide, (tm 114 (by decide +kernel) (by decide +kernel))⟩
theorem fi_X0_63 : Fi RX0 63 4 13 RX0 TX0 17 := ⟨rfl, in_X0, by decide, (tm 116 (by decide +kernel) (by decide +kernel))⟩
theorem si_X0_72 : Si RX0 72 yJ9_floorMod_7cf53 := ⟨(tm 550 (by decide +kernel) (by decide +kernel)), (tm 551 (by decide +kernel) (by decide +kernel))⟩
theorem fi_X0_78 : Fi RX0 78 5 0 RX1 TX1 3 := ⟨rfl, in_X1, by decide, (tm 567 (by decide +kernel) (by decide +kernel))⟩
theorem fi_X0_83 : Fi RX0 83 5 1 RX1 TX1 3 := ⟨rfl, in_X1, by decide, (tm 569 (by decide +kernel) (by decide +kernel))⟩
theorem fi_X0_84 : Fi RX0 84 5 2 RX1 TX1 3 := ⟨rfl, in_X1, by decide, (tm 571 (by decide +kernel) (by decide +kernel))⟩
theorem vi_X0_87 : Vi RX0 87 RX0 yX0_dailyCap := ⟨(tm 542 (by decide +kernel) (by decide +kernel)), (tm 543 (by decide +kernel) (by decide +kernel)), (tm 544 (by decide +kernel) (by decide +kernel))⟩
theorem vi_X0_91 : Vi RX0 91 RX0 yX0_sumOf := ⟨(tm 546 (by decide +kernel) (by decide +kernel)), (tm 547 (by decide +kernel) (by decide +kernel)), (tm 548 (by decide +kernel) (by decide +kernel))⟩
theorem vi_X0_95 : Vi RX0 95 RX2 yX2_fullFare := ⟨(tm 599 (by decide +kernel) (by decide +kernel)), (tm 600 (by decide +kernel) (by decide +kernel)), (tm 601 (by decide +kernel) (by decide +kernel))⟩
theorem vi_X0_100 : Vi RX0 100 RX0 yX0_ownPrice := ⟨(tm 617 (by decide +kernel) (by decide +kernel)), (tm 535 (by decide +kernel) (by decide +kernel)), (tm 536 (by decide +kernel) (by decide +kernel))⟩
theorem si_X0_103 : Si RX0 103 yJ9_max_7cf53 := ⟨(tm 618 (by decide +kernel) (by decide +kernel)), (tm 608 (by decide +kernel) (by decide +kernel))⟩
theorem vi_X0_106 : Vi RX0 106 RX0 yX0_leftOn := ⟨(tm 619 (by decide +kernel) (by decide +kernel)), (tm 539 (by decide +kernel) (by decide +kernel)), (tm 540 (by decide +kernel) (by decide +kernel))⟩
theorem si_X0_109 : Si RX0 109 yJ9_min_7cf53 := ⟨(tm 620 (by decide +kernel) (by decide +kernel)), (tm 554 (by decide +kernel) (by decide +kernel))⟩
theorem cl_X0_79 : Cond.classLink RX0 79 RX1 ∈ T0 := (tm 560 (by decide +kernel) (by decide +kernel))
theorem ii_X0_112 : Ii RX0 112 yX1_init := ⟨(tm 562 (by decide +kernel) (by decide +kernel)), rfl, (tm 563 (by decide +kernel) (by decide +kernel))⟩
theorem vi_X0_115 : Vi RX0 115 RX0 yX0_continuesAt := ⟨(tm 587 (by decide +kernel) (by decide +kernel)), (tm 588 (by decide +kernel) (by decide +kernel)), (tm 589 (by decide +kernel) (by decide +kernel))⟩
theorem fi_X1_7 : Fi RX1 7 5 0 RX1 TX1 3 := ⟨rfl, in_X1, by decide, (tm 566 (by decide +kernel) (by decide +kernel))⟩
theorem fi_X1_13 : Fi RX1 13 5 1 RX1 TX1 3 := ⟨rfl, in_X1, by decide, (tm 568 (by decide +kernel) (by decide +kernel))⟩
theorem fi_X1_16 : Fi RX1 16 5 2 RX1 TX1 3 := ⟨rfl, in_X1, by decide, (tm 570 (by decide +kernel) (by decide +kernel))⟩
theorem fi_X2_9 : Fi RX2 9 6 0 RX2 TX2 4 := ⟨rfl, in_X2, by decide, (tm 63 (by decide +kernel) (by decide +kernel))⟩
theorem fi_X2_15 : Fi RX2 15 6 1 RX2 TX2 4 := ⟨rfl, in_X2, by decide, (tm 66 (by decide +kernel) (by decide +kernel))⟩
theorem fi_X2_18 : Fi RX2 18 6 2 RX2 TX2 4 := ⟨rfl, in_X2, by decide, (tm 69 (by decide +kernel) (by decide +kernel))⟩
theorem fi_X2_22 : Fi RX2 22 6 3 RX2 TX2 4 := ⟨rfl, in_X2, by decide, (tm 72 (by decide +kernel) (by decide +kernel))⟩
theorem si_X2_31 : Si RX2 31 yJ9_max_7cf53 := ⟨(tm 607 (by decide +kernel) (by decide +kernel)), (tm 608 (by decide +kernel) (by decide +kernel))⟩
theorem si_X2_37 : Si RX2 37 yJ9_min_7cf53 := ⟨(tm 610 (by decide +kernel) (by decide +kernel)), (tm 554 (by decide +kernel) (by decide +kernel))⟩
theorem si_X2_40 : Si RX2 40 yJ6_bitCount_0f7a4 := ⟨(tm 611 (by decide +kernel) (by decide +kernel)), (tm 612 (by decide +kernel) (by decide +kernel))⟩
theorem vi_X2_46 : Vi RX2 46 RX2 yX2_countByMarking := ⟨(tm 603 (by decide +kernel) (by decide +kernel)), (tm 604 (by decide +kernel) (by decide +kernel)), (tm 605 (by decide +kernel) (by decide +kernel))⟩
theorem vi_X2_49 : Vi RX2 49 RX2 yX2_countByPairs := ⟨(tm 950 (by decide +kernel) (by decide +kernel)), (tm 745 (by decide +kernel) (by decide +kernel)), (tm 746 (by decide +kernel) (by decide +kernel))⟩
theorem cl_X3_9 : Cond.classLink RX3 9 RX2 ∈ T0 := (tm 57 (by decide +kernel) (by decide +kernel))
theorem ii_X3_11 : Ii RX3 11 yX2_init := ⟨(tm 59 (by decide +kernel) (by decide +kernel)), rfl, (tm 60 (by decide +kernel) (by decide +kernel))⟩
theorem fi_X3_12 : Fi RX3 12 7 0 RX3 TX3 9 := ⟨rfl, in_X3, by decide, (tm 156 (by decide +kernel) (by decide +kernel))⟩
theorem cl_X3_18 : Cond.classLink RX3 18 RX0 ∈ T0 := (tm 85 (by decide +kernel) (by decide +kernel))
theorem fi_X3_20 : Fi RX3 20 7 1 RX3 TX3 9 := ⟨rfl, in_X3, by decide, (tm 158 (by decide +kernel) (by decide +kernel))⟩
theorem ii_X3_24 : Ii RX3 24 yX0_init := ⟨(tm 88 (by decide +kernel) (by decide +kernel)), rfl, (tm 89 (by decide +kernel) (by decide +kernel))⟩
theorem vi_X3_25 : Vi RX3 25 RX2 yX2_copyFrom := ⟨(tm 490 (by decide +kernel) (by decide +kernel)), (tm 491 (by decide +kernel) (by decide +kernel)), (tm 492 (by decide +kernel) (by decide +kernel))⟩
theorem fi_X3_29 : Fi RX3 29 7 2 RX3 TX3 9 := ⟨rfl, in_X3, by decide, (tm 160 (by decide +kernel) (by decide +kernel))⟩
theorem vi_X3_33 : Vi RX3 33 RX0 yX0_copyFrom := ⟨(tm 497 (by decide +kernel) (by decide +kernel)), (tm 498 (by decide +kernel) (by decide +kernel)), (tm 499 (by decide +kernel) (by decide +kernel))⟩
theorem fi_X3_36 : Fi RX3 36 7 3 RX3 TX3 9 := ⟨rfl, in_X3, by decide, (tm 162 (by decide +kernel) (by decide +kernel))⟩
theorem fi_X3_39 : Fi RX3 39 7 4 RX3 TX3 9 := ⟨rfl, in_X3, by decide, (tm 164 (by decide +kernel) (by decide +kernel))⟩
theorem fi_X3_42 : Fi RX3 42 7 5 RX3 TX3 9 := ⟨rfl, in_X3, by decide, (tm 166 (by decide +kernel) (by decide +kernel))⟩
theorem fi_X3_45 : Fi RX3 45 7 6 RX3 TX3 9 := ⟨rfl, in_X3, by decide, (tm 168 (by decide +kernel) (by decide +kernel))⟩
theorem fi_X3_48 : Fi RX3 48 7 7 RX3 TX3 9 := ⟨rfl, in_X3, by decide, (tm 170 (by decide +kernel) (by decide +kernel))⟩
theorem fi_X3_51 : Fi RX3 51 7 8 RX3 TX3 9 := ⟨rfl, in_X3, by decide, (tm 172 (by decide +kernel) (by decide +kernel))⟩
theorem vi_X3_54 : Vi RX3 54 RX3 yX3_presentDay := ⟨(tm 337 (by decide +kernel) (by decide +kernel)), (tm 338 (by decide +kernel) (by decide +kernel)), (tm 339 (by decide +kernel) (by decide +kernel))⟩
theorem fi_X3_58 : Fi RX3 58 4 12 RX0 TX0 17 := ⟨rfl, in_X0, by decide, (tm 115 (by decide +kernel) (by decide +kernel))⟩
theorem vi_X3_61 : Vi RX3 61 RX3 yX3_problemOfLoad := ⟨(tm 310 (by decide +kernel) (by decide +kernel)), (tm 311 (by decide +kernel) (by decide +kernel)), (tm 312 (by decide +kernel) (by decide +kernel))⟩
theorem vi_X3_65 : Vi RX3 65 RX3 yX3_problemOfTapIn := ⟨(tm 318 (by decide +kernel) (by decide +kernel)), (tm 319 (by decide +kernel) (by decide +kernel)), (tm 320 (by decide +kernel) (by decide +kernel))⟩
theorem vi_X3_68 : Vi RX3 68 RX3 yX3_problemOfTapOut := ⟨(tm 325 (by decide +kernel) (by decide +kernel)), (tm 326 (by decide +kernel) (by decide +kernel)), (tm 327 (by decide +kernel) (by decide +kernel))⟩
theorem vi_X3_71 : Vi RX3 71 RX3 yX3_problemOfRepair := ⟨(tm 329 (by decide +kernel) (by decide +kernel)), (tm 330 (by decide +kernel) (by decide +kernel)), (tm 331 (by decide +kernel) (by decide +kernel))⟩
theorem si_X3_74 : Si RX3 74 yX3_problemOfZone := ⟨(tm 341 (by decide +kernel) (by decide +kernel)), (tm 342 (by decide +kernel) (by decide +kernel))⟩
theorem si_X3_77 : Si RX3 77 yX3_problemOfFares := ⟨(tm 344 (by decide +kernel) (by decide +kernel)), (tm 345 (by decide +kernel) (by decide +kernel))⟩
theorem vi_X3_80 : Vi RX3 80 RX3 yX3_hasCard := ⟨(tm 314 (by decide +kernel) (by decide +kernel)), (tm 315 (by decide +kernel) (by decide +kernel)), (tm 316 (by decide +kernel) (by decide +kernel))⟩
theorem fi_X3_84 : Fi RX3 84 4 1 RX0 TX0 17 := ⟨rfl, in_X0, by decide, (tm 95 (by decide +kernel) (by decide +kernel))⟩
theorem si_X3_87 : Si RX3 87 yX2_hasStation := ⟨(tm 322 (by decide +kernel) (by decide +kernel)), (tm 323 (by decide +kernel) (by decide +kernel))⟩
theorem fi_X3_90 : Fi RX3 90 4 2 RX0 TX0 17 := ⟨rfl, in_X0, by decide, (tm 98 (by decide +kernel) (by decide +kernel))⟩
theorem fi_X3_94 : Fi RX3 94 4 10 RX0 TX0 17 := ⟨rfl, in_X0, by decide, (tm 110 (by decide +kernel) (by decide +kernel))⟩
theorem vi_X3_97 : Vi RX3 97 RX3 yX3_isInTimeToRepair := ⟨(tm 333 (by decide +kernel) (by decide +kernel)), (tm 334 (by decide +kernel) (by decide +kernel)), (tm 335 (by decide +kernel) (by decide +kernel))⟩
theorem vi_X3_100 : Vi RX3 100 RX3 yX3_addCard := ⟨(tm 510 (by decide +kernel) (by decide +kernel)), (tm 511 (by decide +kernel) (by decide +kernel)), (tm 512 (by decide +kernel) (by decide +kernel))⟩
theorem vi_X3_104 : Vi RX3 104 RX3 yX3_addMoney := ⟨(tm 518 (by decide +kernel) (by decide +kernel)), (tm 519 (by decide +kernel) (by decide +kernel)), (tm 520 (by decide +kernel) (by decide +kernel))⟩
theorem vi_X3_107 : Vi RX3 107 RX3 yX3_enterAt := ⟨(tm 522 (by decide +kernel) (by decide +kernel)), (tm 523 (by decide +kernel) (by decide +kernel)), (tm 524 (by decide +kernel) (by decide +kernel))⟩
theorem vi_X3_111 : Vi RX3 111 RX3 yX3_leaveAt := ⟨(tm 591 (by decide +kernel) (by decide +kernel)), (tm 592 (by decide +kernel) (by decide +kernel)), (tm 593 (by decide +kernel) (by decide +kernel))⟩
theorem vi_X3_114 : Vi RX3 114 RX3 yX3_payBack := ⟨(tm 625 (by decide +kernel) (by decide +kernel)), (tm 626 (by decide +kernel) (by decide +kernel)), (tm 627 (by decide +kernel) (by decide +kernel))⟩
theorem vi_X3_117 : Vi RX3 117 RX3 yX3_changeZone := ⟨(tm 631 (by decide +kernel) (by decide +kernel)), (tm 632 (by decide +kernel) (by decide +kernel)), (tm 633 (by decide +kernel) (by decide +kernel))⟩
theorem vi_X3_120 : Vi RX3 120 RX3 yX3_changeFares := ⟨(tm 635 (by decide +kernel) (by decide +kernel)), (tm 636 (by decide +kernel) (by decide +kernel)), (tm 637 (by decide +kernel) (by decide +kernel))⟩
