def RX0 : String := "MetroFares$Card"
def TX0 : u_T := fun k => match k with
  | 0 => ("MetroFares$Card", "reduced", "Z", false)
  | 1 => ("MetroFares$Card", "cents", "I", false)
  | 2 => ("MetroFares$Card", "onTrip", "Z", false)
  | 3 => ("MetroFares$Card", "tripStation", "I", false)
  | 4 => ("MetroFares$Card", "tripMinute", "I", false)
  | 5 => ("MetroFares$Card", "journeyStation", "I", false)
  | 6 => ("MetroFares$Card", "journeyCents", "I", false)
  | 7 => ("MetroFares$Card", "lastComplete", "Z", false)
  | 8 => ("MetroFares$Card", "lastStation", "I", false)
  | 9 => ("MetroFares$Card", "lastMinute", "I", false)
  | 10 => ("MetroFares$Card", "unrepaired", "Z", false)
  | 11 => ("MetroFares$Card", "incompleteStation", "I", false)
  | 12 => ("MetroFares$Card", "incompleteDay", "I", false)
  | 13 => ("MetroFares$Card", "incompleteCents", "I", false)
  | 14 => ("MetroFares$Card", "sumDays", "[I", true)
  | 15 => ("MetroFares$Card", "sums", "[I", true)
  | _ => ("MetroFares$Card", "latestEntry", "LMetroFares$Entry;", false)
def tyX0 : Nat → FieldType := fun k => match k with
  | 0 => .boolean
  | 1 => .int
  | 2 => .boolean
  | 3 => .int
  | 4 => .int
  | 5 => .int
  | 6 => .int
  | 7 => .boolean
  | 8 => .int
  | 9 => .int
  | 10 => .boolean
  | 11 => .int
  | 12 => .int
  | 13 => .int
  | 14 => .array .int
  | 15 => .array .int
  | _ => .object "MetroFares$Entry"
theorem nmX0 : ∀ a, a < 17 → ∀ b, b < 17 → a ≠ b → (TX0 a).2.1 ≠ (TX0 b).2.1 := by decide +kernel
theorem tyX0_ok : ∀ k, k < 17 → parseFieldDescriptor (TX0 k).2.2.1 = some (tyX0 k) := by decide +kernel
abbrev cX0_init : ByteArray := prog_2_method_1_code
def yX0_init : MethodName := ⟨RX0, "<init>", "()V"⟩
abbrev cX0_startAnew : ByteArray := prog_2_method_2_code
def yX0_startAnew : MethodName := ⟨RX0, "startAnew", "(Z)V"⟩
abbrev cX0_copyFrom : ByteArray := prog_2_method_3_code
def yX0_copyFrom : MethodName := ⟨RX0, "copyFrom", "(LMetroFares$Card;)V"⟩
abbrev cX0_dailyCap : ByteArray := prog_2_method_4_code
def yX0_dailyCap : MethodName := ⟨RX0, "dailyCap", "()I"⟩
abbrev cX0_ownPrice : ByteArray := prog_2_method_5_code
def yX0_ownPrice : MethodName := ⟨RX0, "ownPrice", "(I)I"⟩
abbrev cX0_sumOf : ByteArray := prog_2_method_6_code
def yX0_sumOf : MethodName := ⟨RX0, "sumOf", "(I)I"⟩
abbrev cX0_sumOfRecords : ByteArray := prog_2_method_7_code
def yX0_sumOfRecords : MethodName := ⟨RX0, "sumOfRecords", "(I)I"⟩
abbrev cX0_leftOn : ByteArray := prog_2_method_8_code
def yX0_leftOn : MethodName := ⟨RX0, "leftOn", "(I)I"⟩
abbrev cX0_tripEnd : ByteArray := prog_2_method_9_code
def yX0_tripEnd : MethodName := ⟨RX0, "tripEnd", "()I"⟩
abbrev cX0_continuesAt : ByteArray := prog_2_method_10_code
def yX0_continuesAt : MethodName := ⟨RX0, "continuesAt", "(II)Z"⟩
abbrev cX0_tripCharge : ByteArray := prog_2_method_11_code
def yX0_tripCharge : MethodName := ⟨RX0, "tripCharge", "(LMetroFares$Line;II)I"⟩
abbrev cX0_enter : ByteArray := prog_2_method_12_code
def yX0_enter : MethodName := ⟨RX0, "enter", "(II)V"⟩
abbrev cX0_beginTrip : ByteArray := prog_2_method_13_code
def yX0_beginTrip : MethodName := ⟨RX0, "beginTrip", "(II)Z"⟩
abbrev cX0_completeTrip : ByteArray := prog_2_method_14_code
def yX0_completeTrip : MethodName := ⟨RX0, "completeTrip", "(III)V"⟩
abbrev cX0_breakTrip : ByteArray := prog_2_method_15_code
def yX0_breakTrip : MethodName := ⟨RX0, "breakTrip", "(II)V"⟩
def RX1 : String := "MetroFares$Entry"
def TX1 : u_T := fun k => match k with
  | 0 => ("MetroFares$Entry", "day", "I", true)
  | 1 => ("MetroFares$Entry", "cents", "I", true)
  | _ => ("MetroFares$Entry", "earlier", "LMetroFares$Entry;", true)
def tyX1 : Nat → FieldType := fun k => match k with
  | 0 => .int
  | 1 => .int
  | _ => .object "MetroFares$Entry"
theorem nmX1 : ∀ a, a < 3 → ∀ b, b < 3 → a ≠ b → (TX1 a).2.1 ≠ (TX1 b).2.1 := by decide +kernel
theorem tyX1_ok : ∀ k, k < 3 → parseFieldDescriptor (TX1 k).2.2.1 = some (tyX1 k) := by decide +kernel
abbrev cX1_init : ByteArray := prog_3_method_1_code
def yX1_init : MethodName := ⟨RX1, "<init>", "(IILMetroFares$Entry;)V"⟩
def RX2 : String := "MetroFares$Line"
def TX2 : u_T := fun k => match k with
  | 0 => ("MetroFares$Line", "zones", "[I", true)
  | 1 => ("MetroFares$Line", "tapCounts", "[I", true)
  | 2 => ("MetroFares$Line", "base", "I", false)
  | _ => ("MetroFares$Line", "perZone", "I", false)
def tyX2 : Nat → FieldType := fun k => match k with
  | 0 => .array .int
  | 1 => .array .int
  | 2 => .int
  | _ => .int
theorem nmX2 : ∀ a, a < 4 → ∀ b, b < 4 → a ≠ b → (TX2 a).2.1 ≠ (TX2 b).2.1 := by decide +kernel
theorem tyX2_ok : ∀ k, k < 4 → parseFieldDescriptor (TX2 k).2.2.1 = some (tyX2 k) := by decide +kernel
abbrev cX2_init : ByteArray := prog_4_method_1_code
def yX2_init : MethodName := ⟨RX2, "<init>", "()V"⟩
abbrev cX2_hasStation : ByteArray := prog_4_method_2_code
def yX2_hasStation : MethodName := ⟨RX2, "hasStation", "(I)Z"⟩
abbrev cX2_copyFrom : ByteArray := prog_4_method_3_code
def yX2_copyFrom : MethodName := ⟨RX2, "copyFrom", "(LMetroFares$Line;)V"⟩
abbrev cX2_countByMarking : ByteArray := prog_4_method_4_code
def yX2_countByMarking : MethodName := ⟨RX2, "countByMarking", "(II)I"⟩
abbrev cX2_countByPairs : ByteArray := prog_4_method_5_code
def yX2_countByPairs : MethodName := ⟨RX2, "countByPairs", "(II)I"⟩
abbrev cX2_countsAgree : ByteArray := prog_4_method_6_code
def yX2_countsAgree : MethodName := ⟨RX2, "countsAgree", "()Z"⟩
abbrev cX2_fullFare : ByteArray := prog_4_method_7_code
def yX2_fullFare : MethodName := ⟨RX2, "fullFare", "(II)I"⟩
abbrev cX2_fullDefault : ByteArray := prog_4_method_8_code
def yX2_fullDefault : MethodName := ⟨RX2, "fullDefault", "()I"⟩
abbrev cX2_rankByTaps : ByteArray := prog_4_method_9_code
def yX2_rankByTaps : MethodName := ⟨RX2, "rankByTaps", "(I)I"⟩
def RX3 : String := "MetroFares$Metro"
def TX3 : u_T := fun k => match k with
  | 0 => ("MetroFares$Metro", "line", "LMetroFares$Line;", true)
  | 1 => ("MetroFares$Metro", "cards", "[LMetroFares$Card;", true)
  | 2 => ("MetroFares$Metro", "issued", "I", false)
  | 3 => ("MetroFares$Metro", "minute", "I", false)
  | 4 => ("MetroFares$Metro", "loaded", "I", false)
  | 5 => ("MetroFares$Metro", "charged", "I", false)
  | 6 => ("MetroFares$Metro", "paidBack", "I", false)
  | 7 => ("MetroFares$Metro", "complete", "I", false)
  | _ => ("MetroFares$Metro", "incomplete", "I", false)
def tyX3 : Nat → FieldType := fun k => match k with
  | 0 => .object "MetroFares$Line"
  | 1 => .array (.object "MetroFares$Card")
  | 2 => .int
  | 3 => .int
  | 4 => .int
  | 5 => .int
  | 6 => .int
  | 7 => .int
  | _ => .int
theorem nmX3 : ∀ a, a < 9 → ∀ b, b < 9 → a ≠ b → (TX3 a).2.1 ≠ (TX3 b).2.1 := by decide +kernel
theorem tyX3_ok : ∀ k, k < 9 → parseFieldDescriptor (TX3 k).2.2.1 = some (tyX3 k) := by decide +kernel
abbrev cX3_init : ByteArray := prog_5_method_1_code
def yX3_init : MethodName := ⟨RX3, "<init>", "()V"⟩
abbrev cX3_copyFrom : ByteArray := prog_5_method_2_code
def yX3_copyFrom : MethodName := ⟨RX3, "copyFrom", "(LMetroFares$Metro;)V"⟩
abbrev cX3_hasCard : ByteArray := prog_5_method_3_code
def yX3_hasCard : MethodName := ⟨RX3, "hasCard", "(I)Z"⟩
abbrev cX3_presentDay : ByteArray := prog_5_method_4_code
def yX3_presentDay : MethodName := ⟨RX3, "presentDay", "()I"⟩
abbrev cX3_isInTimeToRepair : ByteArray := prog_5_method_5_code
def yX3_isInTimeToRepair : MethodName := ⟨RX3, "isInTimeToRepair", "(I)Z"⟩
abbrev cX3_problemOf : ByteArray := prog_5_method_6_code
def yX3_problemOf : MethodName := ⟨RX3, "problemOf", "(III)I"⟩
abbrev cX3_problemOfLoad : ByteArray := prog_5_method_7_code
def yX3_problemOfLoad : MethodName := ⟨RX3, "problemOfLoad", "(II)I"⟩
abbrev cX3_problemOfTapIn : ByteArray := prog_5_method_8_code
def yX3_problemOfTapIn : MethodName := ⟨RX3, "problemOfTapIn", "(II)I"⟩
abbrev cX3_problemOfTapOut : ByteArray := prog_5_method_9_code
def yX3_problemOfTapOut : MethodName := ⟨RX3, "problemOfTapOut", "(II)I"⟩
abbrev cX3_problemOfRepair : ByteArray := prog_5_method_10_code
def yX3_problemOfRepair : MethodName := ⟨RX3, "problemOfRepair", "(II)I"⟩
abbrev cX3_problemOfZone : ByteArray := prog_5_method_11_code
def yX3_problemOfZone : MethodName := ⟨RX3, "problemOfZone", "(II)I"⟩
abbrev cX3_problemOfFares : ByteArray := prog_5_method_12_code
def yX3_problemOfFares : MethodName := ⟨RX3, "problemOfFares", "(II)I"⟩
abbrev cX3_perform : ByteArray := prog_5_method_13_code
def yX3_perform : MethodName := ⟨RX3, "perform", "(III)I"⟩
abbrev cX3_addCard : ByteArray := prog_5_method_14_code
def yX3_addCard : MethodName := ⟨RX3, "addCard", "(Z)I"⟩
abbrev cX3_addMoney : ByteArray := prog_5_method_15_code
def yX3_addMoney : MethodName := ⟨RX3, "addMoney", "(II)I"⟩
abbrev cX3_enterAt : ByteArray := prog_5_method_16_code
def yX3_enterAt : MethodName := ⟨RX3, "enterAt", "(II)Z"⟩
abbrev cX3_leaveAt : ByteArray := prog_5_method_17_code
def yX3_leaveAt : MethodName := ⟨RX3, "leaveAt", "(II)I"⟩
abbrev cX3_makeIncomplete : ByteArray := prog_5_method_18_code
def yX3_makeIncomplete : MethodName := ⟨RX3, "makeIncomplete", "(LMetroFares$Card;I)V"⟩
abbrev cX3_payBack : ByteArray := prog_5_method_19_code
def yX3_payBack : MethodName := ⟨RX3, "payBack", "(II)I"⟩
abbrev cX3_changeZone : ByteArray := prog_5_method_20_code
def yX3_changeZone : MethodName := ⟨RX3, "changeZone", "(II)I"⟩
abbrev cX3_changeFares : ByteArray := prog_5_method_21_code
def yX3_changeFares : MethodName := ⟨RX3, "changeFares", "(II)I"⟩
abbrev cX3_passTime : ByteArray := prog_5_method_22_code
def yX3_passTime : MethodName := ⟨RX3, "passTime", "(I)I"⟩
abbrev cX3_rankBySpending : ByteArray := prog_5_method_23_code
def yX3_rankBySpending : MethodName := ⟨RX3, "rankBySpending", "(I)I"⟩
abbrev cX3_spentBefore : ByteArray := prog_5_method_24_code
def yX3_spentBefore : MethodName := ⟨RX3, "spentBefore", "(II)Z"⟩
abbrev cX3_sumsAgree : ByteArray := prog_5_method_25_code
def yX3_sumsAgree : MethodName := ⟨RX3, "sumsAgree", "()Z"⟩
abbrev cX3_balancesAgree : ByteArray := prog_5_method_26_code
def yX3_balancesAgree : MethodName := ⟨RX3, "balancesAgree", "()Z"⟩
def RX4 : String := "MetroFares$ScriptReader"
def TX4 : u_T := fun k => match k with
  | 0 => ("MetroFares$ScriptReader", "kinds", "[I", true)
  | 1 => ("MetroFares$ScriptReader", "firsts", "[I", true)
  | 2 => ("MetroFares$ScriptReader", "seconds", "[I", true)
  | 3 => ("MetroFares$ScriptReader", "commandCount", "I", false)
  | 4 => ("MetroFares$ScriptReader", "position", "I", false)
  | _ => ("MetroFares$ScriptReader", "value", "I", false)
def tyX4 : Nat → FieldType := fun k => match k with
  | 0 => .array .int
  | 1 => .array .int
  | 2 => .array .int
  | 3 => .int
  | 4 => .int
  | _ => .int
theorem nmX4 : ∀ a, a < 6 → ∀ b, b < 6 → a ≠ b → (TX4 a).2.1 ≠ (TX4 b).2.1 := by decide +kernel
theorem tyX4_ok : ∀ k, k < 6 → parseFieldDescriptor (TX4 k).2.2.1 = some (tyX4 k) := by decide +kernel
abbrev cX4_init : ByteArray := prog_6_method_1_code
def yX4_init : MethodName := ⟨RX4, "<init>", "()V"⟩
abbrev cX4_readScript : ByteArray := prog_6_method_2_code
def yX4_readScript : MethodName := ⟨RX4, "readScript", "(Ljava/lang/StringBuilder;)Z"⟩
abbrev cX4_readCommand : ByteArray := prog_6_method_3_code
def yX4_readCommand : MethodName := ⟨RX4, "readCommand", "(Ljava/lang/StringBuilder;)Z"⟩
abbrev cX4_readCardKind : ByteArray := prog_6_method_4_code
def yX4_readCardKind : MethodName := ⟨RX4, "readCardKind", "(Ljava/lang/StringBuilder;)Z"⟩
abbrev cX4_readDigitAndNumber : ByteArray := prog_6_method_5_code
def yX4_readDigitAndNumber : MethodName := ⟨RX4, "readDigitAndNumber", "(Ljava/lang/StringBuilder;I)Z"⟩
abbrev cX4_readNumberAndDigit : ByteArray := prog_6_method_6_code
def yX4_readNumberAndDigit : MethodName := ⟨RX4, "readNumberAndDigit", "(Ljava/lang/StringBuilder;)Z"⟩
abbrev cX4_readMinutes : ByteArray := prog_6_method_7_code
def yX4_readMinutes : MethodName := ⟨RX4, "readMinutes", "(Ljava/lang/StringBuilder;)Z"⟩
abbrev cX4_keep : ByteArray := prog_6_method_8_code
def yX4_keep : MethodName := ⟨RX4, "keep", "(III)Z"⟩
abbrev cX4_readWord : ByteArray := prog_6_method_9_code
def yX4_readWord : MethodName := ⟨RX4, "readWord", "(Ljava/lang/StringBuilder;Ljava/lang/String;)Z"⟩
abbrev cX4_readSign : ByteArray := prog_6_method_10_code
def yX4_readSign : MethodName := ⟨RX4, "readSign", "(Ljava/lang/StringBuilder;C)Z"⟩
abbrev cX4_readNumber : ByteArray := prog_6_method_11_code
def yX4_readNumber : MethodName := ⟨RX4, "readNumber", "(Ljava/lang/StringBuilder;I)Z"⟩
abbrev cX4_isDigitNext : ByteArray := prog_6_method_12_code
def yX4_isDigitNext : MethodName := ⟨RX4, "isDigitNext", "(Ljava/lang/StringBuilder;)Z"⟩
def RX5 : String := "MetroFares"
def TX5 : u_T := fun k => match k with
  | 0 => ("MetroFares", "history", "[LMetroFares$Metro;", true)
  | 1 => ("MetroFares", "snapshot", "LMetroFares$Metro;", true)
  | 2 => ("MetroFares", "output", "Ljava/lang/StringBuilder;", true)
  | 3 => ("MetroFares", "script", "Ljava/lang/StringBuilder;", true)
  | 4 => ("MetroFares", "reader", "LMetroFares$ScriptReader;", true)
  | 5 => ("MetroFares", "now", "LMetroFares$Metro;", false)
  | 6 => ("MetroFares", "spare", "LMetroFares$Metro;", false)
  | 7 => ("MetroFares", "undoCount", "I", false)
  | 8 => ("MetroFares", "hasSnapshot", "Z", false)
  | 9 => ("MetroFares", "latestErrorPosition", "I", false)
  | _ => ("MetroFares", "latestFailedCommand", "I", false)
def tyX5 : Nat → FieldType := fun k => match k with
  | 0 => .array (.object "MetroFares$Metro")
  | 1 => .object "MetroFares$Metro"
  | 2 => .object "java/lang/StringBuilder"
  | 3 => .object "java/lang/StringBuilder"
  | 4 => .object "MetroFares$ScriptReader"
  | 5 => .object "MetroFares$Metro"
  | 6 => .object "MetroFares$Metro"
  | 7 => .int
  | 8 => .boolean
  | 9 => .int
  | _ => .int
theorem nmX5 : ∀ a, a < 11 → ∀ b, b < 11 → a ≠ b → (TX5 a).2.1 ≠ (TX5 b).2.1 := by decide +kernel
theorem tyX5_ok : ∀ k, k < 11 → parseFieldDescriptor (TX5 k).2.2.1 = some (tyX5 k) := by decide +kernel
abbrev cX5_init : ByteArray := prog_1_method_1_code
def yX5_init : MethodName := ⟨RX5, "<init>", "()V"⟩
abbrev cX5_issueCard : ByteArray := prog_1_method_2_code
def yX5_issueCard : MethodName := ⟨RX5, "issueCard", "(Z)I"⟩
abbrev cX5_load : ByteArray := prog_1_method_3_code
def yX5_load : MethodName := ⟨RX5, "load", "(II)I"⟩
abbrev cX5_tapIn : ByteArray := prog_1_method_4_code
def yX5_tapIn : MethodName := ⟨RX5, "tapIn", "(II)Z"⟩
abbrev cX5_tapOut : ByteArray := prog_1_method_5_code
def yX5_tapOut : MethodName := ⟨RX5, "tapOut", "(II)I"⟩
abbrev cX5_repair : ByteArray := prog_1_method_6_code
def yX5_repair : MethodName := ⟨RX5, "repair", "(II)I"⟩
abbrev cX5_setZone : ByteArray := prog_1_method_7_code
def yX5_setZone : MethodName := ⟨RX5, "setZone", "(II)I"⟩
abbrev cX5_setFares : ByteArray := prog_1_method_8_code
def yX5_setFares : MethodName := ⟨RX5, "setFares", "(II)I"⟩
abbrev cX5_advance : ByteArray := prog_1_method_9_code
def yX5_advance : MethodName := ⟨RX5, "advance", "(I)I"⟩
abbrev cX5_time : ByteArray := prog_1_method_10_code
def yX5_time : MethodName := ⟨RX5, "time", "()I"⟩
abbrev cX5_day : ByteArray := prog_1_method_11_code
def yX5_day : MethodName := ⟨RX5, "day", "()I"⟩
abbrev cX5_zone : ByteArray := prog_1_method_12_code
def yX5_zone : MethodName := ⟨RX5, "zone", "(I)I"⟩
abbrev cX5_zoneCount : ByteArray := prog_1_method_13_code
def yX5_zoneCount : MethodName := ⟨RX5, "zoneCount", "(II)I"⟩
abbrev cX5_zoneCountByComparing : ByteArray := prog_1_method_14_code
def yX5_zoneCountByComparing : MethodName := ⟨RX5, "zoneCountByComparing", "(II)I"⟩
abbrev cX5_fare : ByteArray := prog_1_method_15_code
def yX5_fare : MethodName := ⟨RX5, "fare", "(II)I"⟩
abbrev cX5_baseFare : ByteArray := prog_1_method_16_code
def yX5_baseFare : MethodName := ⟨RX5, "baseFare", "()I"⟩
abbrev cX5_zoneFare : ByteArray := prog_1_method_17_code
def yX5_zoneFare : MethodName := ⟨RX5, "zoneFare", "()I"⟩
abbrev cX5_defaultFare : ByteArray := prog_1_method_18_code
def yX5_defaultFare : MethodName := ⟨RX5, "defaultFare", "()I"⟩
abbrev cX5_taps : ByteArray := prog_1_method_19_code
def yX5_taps : MethodName := ⟨RX5, "taps", "(I)I"⟩
abbrev cX5_stationByTaps : ByteArray := prog_1_method_20_code
def yX5_stationByTaps : MethodName := ⟨RX5, "stationByTaps", "(I)I"⟩
abbrev cX5_cardCount : ByteArray := prog_1_method_21_code
def yX5_cardCount : MethodName := ⟨RX5, "cardCount", "()I"⟩
abbrev cX5_isReduced : ByteArray := prog_1_method_22_code
def yX5_isReduced : MethodName := ⟨RX5, "isReduced", "(I)Z"⟩
abbrev cX5_balance : ByteArray := prog_1_method_23_code
def yX5_balance : MethodName := ⟨RX5, "balance", "(I)I"⟩
abbrev cX5_isOnTrip : ByteArray := prog_1_method_24_code
def yX5_isOnTrip : MethodName := ⟨RX5, "isOnTrip", "(I)Z"⟩
abbrev cX5_tripStart : ByteArray := prog_1_method_25_code
def yX5_tripStart : MethodName := ⟨RX5, "tripStart", "(I)I"⟩
abbrev cX5_journeyStart : ByteArray := prog_1_method_26_code
def yX5_journeyStart : MethodName := ⟨RX5, "journeyStart", "(I)I"⟩
abbrev cX5_minutesLeft : ByteArray := prog_1_method_27_code
def yX5_minutesLeft : MethodName := ⟨RX5, "minutesLeft", "(I)I"⟩
abbrev cX5_wouldContinue : ByteArray := prog_1_method_28_code
def yX5_wouldContinue : MethodName := ⟨RX5, "wouldContinue", "(II)Z"⟩
abbrev cX5_chargeIfTappedOut : ByteArray := prog_1_method_29_code
def yX5_chargeIfTappedOut : MethodName := ⟨RX5, "chargeIfTappedOut", "(II)I"⟩
abbrev cX5_chargedOn : ByteArray := prog_1_method_30_code
def yX5_chargedOn : MethodName := ⟨RX5, "chargedOn", "(II)I"⟩
abbrev cX5_chargedOnByRecords : ByteArray := prog_1_method_31_code
def yX5_chargedOnByRecords : MethodName := ⟨RX5, "chargedOnByRecords", "(II)I"⟩
abbrev cX5_leftUnderCap : ByteArray := prog_1_method_32_code
def yX5_leftUnderCap : MethodName := ⟨RX5, "leftUnderCap", "(I)I"⟩
abbrev cX5_isRepairable : ByteArray := prog_1_method_33_code
def yX5_isRepairable : MethodName := ⟨RX5, "isRepairable", "(I)Z"⟩
abbrev cX5_cardBySpending : ByteArray := prog_1_method_34_code
def yX5_cardBySpending : MethodName := ⟨RX5, "cardBySpending", "(I)I"⟩
abbrev cX5_loadedTotal : ByteArray := prog_1_method_35_code
def yX5_loadedTotal : MethodName := ⟨RX5, "loadedTotal", "()I"⟩
abbrev cX5_chargedTotal : ByteArray := prog_1_method_36_code
def yX5_chargedTotal : MethodName := ⟨RX5, "chargedTotal", "()I"⟩
abbrev cX5_paidBackTotal : ByteArray := prog_1_method_37_code
def yX5_paidBackTotal : MethodName := ⟨RX5, "paidBackTotal", "()I"⟩
abbrev cX5_completeTrips : ByteArray := prog_1_method_38_code
def yX5_completeTrips : MethodName := ⟨RX5, "completeTrips", "()I"⟩
abbrev cX5_incompleteTrips : ByteArray := prog_1_method_39_code
def yX5_incompleteTrips : MethodName := ⟨RX5, "incompleteTrips", "()I"⟩
abbrev cX5_meanCharge : ByteArray := prog_1_method_40_code
def yX5_meanCharge : MethodName := ⟨RX5, "meanCharge", "()D"⟩
abbrev cX5_meanChargeBits : ByteArray := prog_1_method_41_code
def yX5_meanChargeBits : MethodName := ⟨RX5, "meanChargeBits", "()J"⟩
abbrev cX5_incompleteShare : ByteArray := prog_1_method_42_code
def yX5_incompleteShare : MethodName := ⟨RX5, "incompleteShare", "()F"⟩
abbrev cX5_incompleteShareBits : ByteArray := prog_1_method_43_code
def yX5_incompleteShareBits : MethodName := ⟨RX5, "incompleteShareBits", "()I"⟩
abbrev cX5_isConsistent : ByteArray := prog_1_method_44_code
def yX5_isConsistent : MethodName := ⟨RX5, "isConsistent", "()Z"⟩
abbrev cX5_renderCard : ByteArray := prog_1_method_45_code
def yX5_renderCard : MethodName := ⟨RX5, "renderCard", "(I)I"⟩
abbrev cX5_renderZones : ByteArray := prog_1_method_46_code
def yX5_renderZones : MethodName := ⟨RX5, "renderZones", "()I"⟩
abbrev cX5_outputAt : ByteArray := prog_1_method_47_code
def yX5_outputAt : MethodName := ⟨RX5, "outputAt", "(I)C"⟩
abbrev cX5_type : ByteArray := prog_1_method_48_code
def yX5_type : MethodName := ⟨RX5, "type", "(C)I"⟩
abbrev cX5_runScript : ByteArray := prog_1_method_49_code
def yX5_runScript : MethodName := ⟨RX5, "runScript", "()I"⟩
abbrev cX5_undo : ByteArray := prog_1_method_52_code
def yX5_undo : MethodName := ⟨RX5, "undo", "()I"⟩
abbrev cX5_change : ByteArray := prog_1_method_55_code
def yX5_change : MethodName := ⟨RX5, "change", "(III)I"⟩
abbrev cX5_refuse : ByteArray := prog_1_method_56_code
def yX5_refuse : MethodName := ⟨RX5, "refuse", "(I)V"⟩
abbrev cX5_pushSpare : ByteArray := prog_1_method_57_code
def yX5_pushSpare : MethodName := ⟨RX5, "pushSpare", "()V"⟩
abbrev cX5_takeBackToSpare : ByteArray := prog_1_method_58_code
def yX5_takeBackToSpare : MethodName := ⟨RX5, "takeBackToSpare", "()V"⟩
abbrev cX5_firstFailedCommand : ByteArray := prog_1_method_59_code
def yX5_firstFailedCommand : MethodName := ⟨RX5, "firstFailedCommand", "()I"⟩
abbrev cX5_requireCard : ByteArray := prog_1_method_60_code
def yX5_requireCard : MethodName := ⟨RX5, "requireCard", "(I)V"⟩
abbrev cX5_requireStation : ByteArray := prog_1_method_61_code
def yX5_requireStation : MethodName := ⟨RX5, "requireStation", "(I)V"⟩
abbrev cX5_requireTrip : ByteArray := prog_1_method_62_code
def yX5_requireTrip : MethodName := ⟨RX5, "requireTrip", "(I)V"⟩
abbrev cX5_requireRecentDay : ByteArray := prog_1_method_63_code
def yX5_requireRecentDay : MethodName := ⟨RX5, "requireRecentDay", "(I)V"⟩
abbrev cX5_bitsOfDouble : ByteArray := prog_1_method_64_code
def yX5_bitsOfDouble : MethodName := ⟨RX5, "bitsOfDouble", "(D)J"⟩
abbrev cX5_bitsOfShare : ByteArray := prog_1_method_65_code
def yX5_bitsOfShare : MethodName := ⟨RX5, "bitsOfShare", "(F)I"⟩
def RX6 : String := "MetroFaresModel"
def TX6 : u_T := fun k => match k with
  | _ => ("", "", "", false)
def tyX6 : Nat → FieldType := fun k => match k with
  | _ => .int
theorem nmX6 : ∀ a, a < 0 → ∀ b, b < 0 → a ≠ b → (TX6 a).2.1 ≠ (TX6 b).2.1 := by decide +kernel
theorem tyX6_ok : ∀ k, k < 0 → parseFieldDescriptor (TX6 k).2.2.1 = some (tyX6 k) := by decide +kernel
def RJx145de : String := "java/io/Serializable"
def TJx145de : u_T := fun k => match k with
  | _ => ("", "", "", false)
def tyJx145de : Nat → FieldType := fun k => match k with
  | _ => .int
theorem nmJx145de : ∀ a, a < 0 → ∀ b, b < 0 → a ≠ b → (TJx145de a).2.1 ≠ (TJx145de b).2.1 := by decide +kernel
theorem tyJx145de_ok : ∀ k, k < 0 → parseFieldDescriptor (TJx145de k).2.2.1 = some (tyJx145de k) := by decide +kernel
def RJ5 : String := "java/lang/AbstractStringBuilder"
def TJ5 : u_T := fun k => match k with
  | _ => ("", "", "", false)
def tyJ5 : Nat → FieldType := fun k => match k with
  | _ => .int
theorem nmJ5 : ∀ a, a < 0 → ∀ b, b < 0 → a ≠ b → (TJ5 a).2.1 ≠ (TJ5 b).2.1 := by decide +kernel
theorem tyJ5_ok : ∀ k, k < 0 → parseFieldDescriptor (TJ5 k).2.2.1 = some (tyJ5 k) := by decide +kernel
abbrev cJ5_init_d00df : ByteArray := prog_10_method_2_code
def yJ5_init_d00df : MethodName := ⟨RJ5, "<init>", "(I)V"⟩
abbrev cJ5_length_8abf5 : ByteArray := prog_10_method_6_code
def yJ5_length_8abf5 : MethodName := ⟨RJ5, "length", "()I"⟩
abbrev cJ5_ensureCapacityInternal_d00df : ByteArray := prog_10_method_9_code
def yJ5_ensureCapacityInternal_d00df : MethodName := ⟨RJ5, "ensureCapacityInternal", "(I)V"⟩
abbrev cJ5_newCapacity_0f7a4 : ByteArray := prog_10_method_10_code
def yJ5_newCapacity_0f7a4 : MethodName := ⟨RJ5, "newCapacity", "(I)I"⟩
abbrev cJ5_inflate_da8c8 : ByteArray := prog_10_method_11_code
def yJ5_inflate_da8c8 : MethodName := ⟨RJ5, "inflate", "()V"⟩
abbrev cJ5_setLength_d00df : ByteArray := prog_10_method_13_code
def yJ5_setLength_d00df : MethodName := ⟨RJ5, "setLength", "(I)V"⟩
abbrev cJ5_charAt_5068e : ByteArray := prog_10_method_14_code
def yJ5_charAt_5068e : MethodName := ⟨RJ5, "charAt", "(I)C"⟩
abbrev cJ5_append_cf1ce : ByteArray := prog_10_method_22_code
def yJ5_append_cf1ce : MethodName := ⟨RJ5, "append", "(Ljava/lang/String;)Ljava/lang/AbstractStringBuilder;"⟩
abbrev cJ5_appendNull_278bc : ByteArray := prog_10_method_26_code
def yJ5_appendNull_278bc : MethodName := ⟨RJ5, "appendNull", "()Ljava/lang/AbstractStringBuilder;"⟩
abbrev cJ5_append_3fe6f : ByteArray := prog_10_method_31_code
def yJ5_append_3fe6f : MethodName := ⟨RJ5, "append", "(C)Ljava/lang/AbstractStringBuilder;"⟩
abbrev cJ5_append_c97b9 : ByteArray := prog_10_method_32_code
def yJ5_append_c97b9 : MethodName := ⟨RJ5, "append", "(I)Ljava/lang/AbstractStringBuilder;"⟩
abbrev cJ5_getValue_6d5f1 : ByteArray := prog_10_method_64_code
def yJ5_getValue_6d5f1 : MethodName := ⟨RJ5, "getValue", "()[B"⟩
abbrev cJ5_isLatin1_aae02 : ByteArray := prog_10_method_68_code
def yJ5_isLatin1_aae02 : MethodName := ⟨RJ5, "isLatin1", "()Z"⟩
abbrev cJ5_inflateIfNeededFor_a7421 : ByteArray := prog_10_method_71_code
def yJ5_inflateIfNeededFor_a7421 : MethodName := ⟨RJ5, "inflateIfNeededFor", "(Ljava/lang/String;)V"⟩
abbrev cJ5_putStringAt_47b60 : ByteArray := prog_10_method_73_code
def yJ5_putStringAt_47b60 : MethodName := ⟨RJ5, "putStringAt", "(ILjava/lang/String;)V"⟩
def RJx2cfe8 : String := "java/lang/Appendable"
def TJx2cfe8 : u_T := fun k => match k with
  | _ => ("", "", "", false)
def tyJx2cfe8 : Nat → FieldType := fun k => match k with
  | _ => .int
theorem nmJx2cfe8 : ∀ a, a < 0 → ∀ b, b < 0 → a ≠ b → (TJx2cfe8 a).2.1 ≠ (TJx2cfe8 b).2.1 := by decide +kernel
theorem tyJx2cfe8_ok : ∀ k, k < 0 → parseFieldDescriptor (TJx2cfe8 k).2.2.1 = some (tyJx2cfe8 k) := by decide +kernel
def RJx00060 : String := "java/lang/ArrayIndexOutOfBoundsException"
def TJx00060 : u_T := fun k => match k with
  | 0 => ("java/lang/Throwable", "backtrace", "Ljava/lang/Object;", false)
  | 1 => ("java/lang/Throwable", "detailMessage", "Ljava/lang/String;", false)
  | 2 => ("java/lang/Throwable", "cause", "Ljava/lang/Throwable;", false)
  | 3 => ("java/lang/Throwable", "stackTrace", "[Ljava/lang/StackTraceElement;", false)
  | 4 => ("java/lang/Throwable", "depth", "I", false)
  | _ => ("java/lang/Throwable", "suppressedExceptions", "Ljava/util/List;", false)
def tyJx00060 : Nat → FieldType := fun k => match k with
  | 0 => .object "java/lang/Object"
  | 1 => .object "java/lang/String"
  | 2 => .object "java/lang/Throwable"
  | 3 => .array (.object "java/lang/StackTraceElement")
  | 4 => .int
  | _ => .object "java/util/List"
theorem nmJx00060 : ∀ a, a < 6 → ∀ b, b < 6 → a ≠ b → (TJx00060 a).2.1 ≠ (TJx00060 b).2.1 := by decide +kernel
theorem tyJx00060_ok : ∀ k, k < 6 → parseFieldDescriptor (TJx00060 k).2.2.1 = some (tyJx00060 k) := by decide +kernel
abbrev cJx00060_init_a7421 : ByteArray := prog_13_method_2_code
def yJx00060_init_a7421 : MethodName := ⟨RJx00060, "<init>", "(Ljava/lang/String;)V"⟩
abbrev cJx00060_init_d00df : ByteArray := prog_13_method_3_code
def yJx00060_init_d00df : MethodName := ⟨RJx00060, "<init>", "(I)V"⟩
def RJx9f9b0 : String := "java/lang/CharSequence"
def TJx9f9b0 : u_T := fun k => match k with
  | _ => ("", "", "", false)
def tyJx9f9b0 : Nat → FieldType := fun k => match k with
  | _ => .int
theorem nmJx9f9b0 : ∀ a, a < 0 → ∀ b, b < 0 → a ≠ b → (TJx9f9b0 a).2.1 ≠ (TJx9f9b0 b).2.1 := by decide +kernel
theorem tyJx9f9b0_ok : ∀ k, k < 0 → parseFieldDescriptor (TJx9f9b0 k).2.2.1 = some (tyJx9f9b0 k) := by decide +kernel
def RJx8e188 : String := "java/lang/Cloneable"
def TJx8e188 : u_T := fun k => match k with
  | _ => ("", "", "", false)
def tyJx8e188 : Nat → FieldType := fun k => match k with
  | _ => .int
theorem nmJx8e188 : ∀ a, a < 0 → ∀ b, b < 0 → a ≠ b → (TJx8e188 a).2.1 ≠ (TJx8e188 b).2.1 := by decide +kernel
theorem tyJx8e188_ok : ∀ k, k < 0 → parseFieldDescriptor (TJx8e188 k).2.2.1 = some (tyJx8e188 k) := by decide +kernel
def RJxb160c : String := "java/lang/Comparable"
def TJxb160c : u_T := fun k => match k with
  | _ => ("", "", "", false)
def tyJxb160c : Nat → FieldType := fun k => match k with
  | _ => .int
theorem nmJxb160c : ∀ a, a < 0 → ∀ b, b < 0 → a ≠ b → (TJxb160c a).2.1 ≠ (TJxb160c b).2.1 := by decide +kernel
theorem tyJxb160c_ok : ∀ k, k < 0 → parseFieldDescriptor (TJxb160c k).2.2.1 = some (tyJxb160c k) := by decide +kernel
def RJxe99ae : String := "java/lang/Double"
def TJxe99ae : u_T := fun k => match k with
  | _ => ("", "", "", false)
def tyJxe99ae : Nat → FieldType := fun k => match k with
  | _ => .int
theorem nmJxe99ae : ∀ a, a < 0 → ∀ b, b < 0 → a ≠ b → (TJxe99ae a).2.1 ≠ (TJxe99ae b).2.1 := by decide +kernel
theorem tyJxe99ae_ok : ∀ k, k < 0 → parseFieldDescriptor (TJxe99ae k).2.2.1 = some (tyJxe99ae k) := by decide +kernel
abbrev cJxe99ae_isNaN_b9ae7 : ByteArray := prog_17_method_6_code
def yJxe99ae_isNaN_b9ae7 : MethodName := ⟨RJxe99ae, "isNaN", "(D)Z"⟩
abbrev cJxe99ae_doubleToLongBits_ccdee : ByteArray := prog_17_method_23_code
def yJxe99ae_doubleToLongBits_ccdee : MethodName := ⟨RJxe99ae, "doubleToLongBits", "(D)J"⟩
def RJxf58ca : String := "java/lang/Float"
def TJxf58ca : u_T := fun k => match k with
  | _ => ("", "", "", false)
def tyJxf58ca : Nat → FieldType := fun k => match k with
  | _ => .int
theorem nmJxf58ca : ∀ a, a < 0 → ∀ b, b < 0 → a ≠ b → (TJxf58ca a).2.1 ≠ (TJxf58ca b).2.1 := by decide +kernel
theorem tyJxf58ca_ok : ∀ k, k < 0 → parseFieldDescriptor (TJxf58ca k).2.2.1 = some (tyJxf58ca k) := by decide +kernel
abbrev cJxf58ca_isNaN_12338 : ByteArray := prog_19_method_6_code
def yJxf58ca_isNaN_12338 : MethodName := ⟨RJxf58ca, "isNaN", "(F)Z"⟩
abbrev cJxf58ca_floatToIntBits_5c35a : ByteArray := prog_19_method_24_code
def yJxf58ca_floatToIntBits_5c35a : MethodName := ⟨RJxf58ca, "floatToIntBits", "(F)I"⟩
def RJ6 : String := "java/lang/Integer"
def TJ6 : u_T := fun k => match k with
  | _ => ("", "", "", false)
def tyJ6 : Nat → FieldType := fun k => match k with
  | _ => .int
theorem nmJ6 : ∀ a, a < 0 → ∀ b, b < 0 → a ≠ b → (TJ6 a).2.1 ≠ (TJ6 b).2.1 := by decide +kernel
theorem tyJ6_ok : ∀ k, k < 0 → parseFieldDescriptor (TJ6 k).2.2.1 = some (tyJ6 k) := by decide +kernel
abbrev cJ6_getChars_ba4f3 : ByteArray := prog_23_method_12_code
def yJ6_getChars_ba4f3 : MethodName := ⟨RJ6, "getChars", "(II[B)I"⟩
abbrev cJ6_stringSize_0f7a4 : ByteArray := prog_23_method_13_code
def yJ6_stringSize_0f7a4 : MethodName := ⟨RJ6, "stringSize", "(I)I"⟩
abbrev cJ6_bitCount_0f7a4 : ByteArray := prog_23_method_49_code
def yJ6_bitCount_0f7a4 : MethodName := ⟨RJ6, "bitCount", "(I)I"⟩
def RJ9 : String := "java/lang/Math"
def TJ9 : u_T := fun k => match k with
  | _ => ("", "", "", false)
def tyJ9 : Nat → FieldType := fun k => match k with
  | _ => .int
theorem nmJ9 : ∀ a, a < 0 → ∀ b, b < 0 → a ≠ b → (TJ9 a).2.1 ≠ (TJ9 b).2.1 := by decide +kernel
theorem tyJ9_ok : ∀ k, k < 0 → parseFieldDescriptor (TJ9 k).2.2.1 = some (tyJ9 k) := by decide +kernel
abbrev cJ9_floorMod_7cf53 : ByteArray := prog_24_method_50_code
def yJ9_floorMod_7cf53 : MethodName := ⟨RJ9, "floorMod", "(II)I"⟩
abbrev cJ9_max_7cf53 : ByteArray := prog_24_method_65_code
def yJ9_max_7cf53 : MethodName := ⟨RJ9, "max", "(II)I"⟩
abbrev cJ9_min_7cf53 : ByteArray := prog_24_method_69_code
def yJ9_min_7cf53 : MethodName := ⟨RJ9, "min", "(II)I"⟩
def RJxd2413 : String := "java/lang/Number"
def TJxd2413 : u_T := fun k => match k with
  | _ => ("", "", "", false)
def tyJxd2413 : Nat → FieldType := fun k => match k with
  | _ => .int
theorem nmJxd2413 : ∀ a, a < 0 → ∀ b, b < 0 → a ≠ b → (TJxd2413 a).2.1 ≠ (TJxd2413 b).2.1 := by decide +kernel
theorem tyJxd2413_ok : ∀ k, k < 0 → parseFieldDescriptor (TJxd2413 k).2.2.1 = some (tyJxd2413 k) := by decide +kernel
def RJ0 : String := "java/lang/String"
def TJ0 : u_T := fun k => match k with
  | 0 => ("java/lang/String", "value", "[B", true)
  | 1 => ("java/lang/String", "coder", "B", true)
  | 2 => ("java/lang/String", "hash", "I", false)
  | _ => ("java/lang/String", "hashIsZero", "Z", false)
def tyJ0 : Nat → FieldType := fun k => match k with
  | 0 => .array .byte
  | 1 => .byte
  | 2 => .int
  | _ => .boolean
theorem nmJ0 : ∀ a, a < 4 → ∀ b, b < 4 → a ≠ b → (TJ0 a).2.1 ≠ (TJ0 b).2.1 := by decide +kernel
theorem tyJ0_ok : ∀ k, k < 4 → parseFieldDescriptor (TJ0 k).2.2.1 = some (tyJ0 k) := by decide +kernel
abbrev cJ0_init_81219 : ByteArray := prog_27_method_53_code
def yJ0_init_81219 : MethodName := ⟨RJ0, "<init>", "(Ljava/lang/StringBuilder;)V"⟩
abbrev cJ0_length_8abf5 : ByteArray := prog_27_method_54_code
def yJ0_length_8abf5 : MethodName := ⟨RJ0, "length", "()I"⟩
abbrev cJ0_charAt_5068e : ByteArray := prog_27_method_56_code
def yJ0_charAt_5068e : MethodName := ⟨RJ0, "charAt", "(I)C"⟩
abbrev cJ0_getBytes_840e7 : ByteArray := prog_27_method_147_code
def yJ0_getBytes_840e7 : MethodName := ⟨RJ0, "getBytes", "([BIB)V"⟩
abbrev cJ0_init_db425 : ByteArray := prog_27_method_150_code
def yJ0_init_db425 : MethodName := ⟨RJ0, "<init>", "(Ljava/lang/AbstractStringBuilder;Ljava/lang/Void;)V"⟩
abbrev cJ0_coder_7d493 : ByteArray := prog_27_method_152_code
def yJ0_coder_7d493 : MethodName := ⟨RJ0, "coder", "()B"⟩
abbrev cJ0_isLatin1_aae02 : ByteArray := prog_27_method_154_code
def yJ0_isLatin1_aae02 : MethodName := ⟨RJ0, "isLatin1", "()Z"⟩
abbrev cJ0_checkIndex_df160 : ByteArray := prog_27_method_155_code
def yJ0_checkIndex_df160 : MethodName := ⟨RJ0, "checkIndex", "(II)V"⟩
abbrev cJ0_checkBoundsOffCount_cabcc : ByteArray := prog_27_method_157_code
def yJ0_checkBoundsOffCount_cabcc : MethodName := ⟨RJ0, "checkBoundsOffCount", "(III)I"⟩
abbrev cJ0_checkBoundsBeginEnd_23922 : ByteArray := prog_27_method_158_code
def yJ0_checkBoundsBeginEnd_23922 : MethodName := ⟨RJ0, "checkBoundsBeginEnd", "(III)V"⟩
def RJ4 : String := "java/lang/StringBuilder"
def TJ4 : u_T := fun k => match k with
  | 0 => ("java/lang/AbstractStringBuilder", "value", "[B", false)
  | 1 => ("java/lang/AbstractStringBuilder", "coder", "B", false)
  | 2 => ("java/lang/AbstractStringBuilder", "maybeLatin1", "Z", false)
  | _ => ("java/lang/AbstractStringBuilder", "count", "I", false)
def tyJ4 : Nat → FieldType := fun k => match k with
  | 0 => .array .byte
  | 1 => .byte
  | 2 => .boolean
  | _ => .int
theorem nmJ4 : ∀ a, a < 4 → ∀ b, b < 4 → a ≠ b → (TJ4 a).2.1 ≠ (TJ4 b).2.1 := by decide +kernel
theorem tyJ4_ok : ∀ k, k < 4 → parseFieldDescriptor (TJ4 k).2.2.1 = some (tyJ4 k) := by decide +kernel
abbrev cJ4_init_da8c8 : ByteArray := prog_28_method_1_code
def yJ4_init_da8c8 : MethodName := ⟨RJ4, "<init>", "()V"⟩
abbrev cJ4_append_15ec4 : ByteArray := prog_28_method_7_code
def yJ4_append_15ec4 : MethodName := ⟨RJ4, "append", "(Ljava/lang/String;)Ljava/lang/StringBuilder;"⟩
abbrev cJ4_append_cf468 : ByteArray := prog_28_method_14_code
def yJ4_append_cf468 : MethodName := ⟨RJ4, "append", "(C)Ljava/lang/StringBuilder;"⟩
abbrev cJ4_append_bf812 : ByteArray := prog_28_method_15_code
def yJ4_append_bf812 : MethodName := ⟨RJ4, "append", "(I)Ljava/lang/StringBuilder;"⟩
abbrev cJ4_toString_0e30d : ByteArray := prog_28_method_42_code
def yJ4_toString_0e30d : MethodName := ⟨RJ4, "toString", "()Ljava/lang/String;"⟩
abbrev cJ4_charAt_5068e : ByteArray := prog_28_method_88_code
def yJ4_charAt_5068e : MethodName := ⟨RJ4, "charAt", "(I)C"⟩
abbrev cJ4_setLength_d00df : ByteArray := prog_28_method_89_code
def yJ4_setLength_d00df : MethodName := ⟨RJ4, "setLength", "(I)V"⟩
abbrev cJ4_length_8abf5 : ByteArray := prog_28_method_93_code
def yJ4_length_8abf5 : MethodName := ⟨RJ4, "length", "()I"⟩
def RJx7c733 : String := "java/lang/StringIndexOutOfBoundsException"
def TJx7c733 : u_T := fun k => match k with
  | 0 => ("java/lang/Throwable", "backtrace", "Ljava/lang/Object;", false)
  | 1 => ("java/lang/Throwable", "detailMessage", "Ljava/lang/String;", false)
  | 2 => ("java/lang/Throwable", "cause", "Ljava/lang/Throwable;", false)
  | 3 => ("java/lang/Throwable", "stackTrace", "[Ljava/lang/StackTraceElement;", false)
  | 4 => ("java/lang/Throwable", "depth", "I", false)
  | _ => ("java/lang/Throwable", "suppressedExceptions", "Ljava/util/List;", false)
def tyJx7c733 : Nat → FieldType := fun k => match k with
  | 0 => .object "java/lang/Object"
  | 1 => .object "java/lang/String"
  | 2 => .object "java/lang/Throwable"
  | 3 => .array (.object "java/lang/StackTraceElement")
  | 4 => .int
  | _ => .object "java/util/List"
theorem nmJx7c733 : ∀ a, a < 6 → ∀ b, b < 6 → a ≠ b → (TJx7c733 a).2.1 ≠ (TJx7c733 b).2.1 := by decide +kernel
theorem tyJx7c733_ok : ∀ k, k < 6 → parseFieldDescriptor (TJx7c733 k).2.2.1 = some (tyJx7c733 k) := by decide +kernel
abbrev cJx7c733_init_d00df : ByteArray := prog_29_method_3_code
def yJx7c733_init_d00df : MethodName := ⟨RJx7c733, "<init>", "(I)V"⟩
def RJ1 : String := "java/lang/StringLatin1"
def TJ1 : u_T := fun k => match k with
  | _ => ("", "", "", false)
def tyJ1 : Nat → FieldType := fun k => match k with
  | _ => .int
theorem nmJ1 : ∀ a, a < 0 → ∀ b, b < 0 → a ≠ b → (TJ1 a).2.1 ≠ (TJ1 b).2.1 := by decide +kernel
theorem tyJ1_ok : ∀ k, k < 0 → parseFieldDescriptor (TJ1 k).2.2.1 = some (tyJ1 k) := by decide +kernel
abbrev cJ1_charAt_3b067 : ByteArray := prog_30_method_2_code
def yJ1_charAt_3b067 : MethodName := ⟨RJ1, "charAt", "([BI)C"⟩
abbrev cJ1_canEncode_fc78d : ByteArray := prog_30_method_3_code
def yJ1_canEncode_fc78d : MethodName := ⟨RJ1, "canEncode", "(C)Z"⟩
abbrev cJ1_fillNull_b72d1 : ByteArray := prog_30_method_48_code
def yJ1_fillNull_b72d1 : MethodName := ⟨RJ1, "fillNull", "([BII)V"⟩
abbrev cJ1_inflate_0e8fd : ByteArray := prog_30_method_50_code
def yJ1_inflate_0e8fd : MethodName := ⟨RJ1, "inflate", "([BI[BII)V"⟩
def RJ2 : String := "java/lang/StringUTF16"
def TJ2 : u_T := fun k => match k with
  | _ => ("", "", "", false)
def tyJ2 : Nat → FieldType := fun k => match k with
  | _ => .int
theorem nmJ2 : ∀ a, a < 0 → ∀ b, b < 0 → a ≠ b → (TJ2 a).2.1 ≠ (TJ2 b).2.1 := by decide +kernel
theorem tyJ2_ok : ∀ k, k < 0 → parseFieldDescriptor (TJ2 k).2.2.1 = some (tyJ2 k) := by decide +kernel
abbrev cJ2_newBytesFor_77867 : ByteArray := prog_31_method_2_code
def yJ2_newBytesFor_77867 : MethodName := ⟨RJ2, "newBytesFor", "(I)[B"⟩
abbrev cJ2_newBytesLength_0f7a4 : ByteArray := prog_31_method_3_code
def yJ2_newBytesLength_0f7a4 : MethodName := ⟨RJ2, "newBytesLength", "(I)I"⟩
abbrev cJ2_putChar_b72d1 : ByteArray := prog_31_method_4_code
def yJ2_putChar_b72d1 : MethodName := ⟨RJ2, "putChar", "([BII)V"⟩
abbrev cJ2_getChar_3b067 : ByteArray := prog_31_method_5_code
def yJ2_getChar_3b067 : MethodName := ⟨RJ2, "getChar", "([BI)C"⟩
abbrev cJ2_length_9d52b : ByteArray := prog_31_method_6_code
def yJ2_length_9d52b : MethodName := ⟨RJ2, "length", "([B)I"⟩
abbrev cJ2_coderFromArrayLen_85cad : ByteArray := prog_31_method_15_code
def yJ2_coderFromArrayLen_85cad : MethodName := ⟨RJ2, "coderFromArrayLen", "([BI)B"⟩
abbrev cJ2_compress_39247 : ByteArray := prog_31_method_17_code
def yJ2_compress_39247 : MethodName := ⟨RJ2, "compress", "([BII)[B"⟩
abbrev cJ2_compress_5af95 : ByteArray := prog_31_method_22_code
def yJ2_compress_5af95 : MethodName := ⟨RJ2, "compress", "([BI[BII)I"⟩
abbrev cJ2_fillNull_b72d1 : ByteArray := prog_31_method_70_code
def yJ2_fillNull_b72d1 : MethodName := ⟨RJ2, "fillNull", "([BII)V"⟩
abbrev cJ2_putCharSB_b72d1 : ByteArray := prog_31_method_71_code
def yJ2_putCharSB_b72d1 : MethodName := ⟨RJ2, "putCharSB", "([BII)V"⟩
abbrev cJ2_getChars_46870 : ByteArray := prog_31_method_77_code
def yJ2_getChars_46870 : MethodName := ⟨RJ2, "getChars", "(III[B)I"⟩
abbrev cJ2_putCharsAt_cd4e5 : ByteArray := prog_31_method_81_code
def yJ2_putCharsAt_cd4e5 : MethodName := ⟨RJ2, "putCharsAt", "([BICCCC)I"⟩
abbrev cJ2_charAt_3b067 : ByteArray := prog_31_method_83_code
def yJ2_charAt_3b067 : MethodName := ⟨RJ2, "charAt", "([BI)C"⟩
abbrev cJ2_inflate_0e8fd : ByteArray := prog_31_method_86_code
def yJ2_inflate_0e8fd : MethodName := ⟨RJ2, "inflate", "([BI[BII)V"⟩
abbrev cJ2_getChars_ba4f3 : ByteArray := prog_31_method_89_code
def yJ2_getChars_ba4f3 : MethodName := ⟨RJ2, "getChars", "(II[B)I"⟩
abbrev cJ2_checkIndex_2214a : ByteArray := prog_31_method_91_code
def yJ2_checkIndex_2214a : MethodName := ⟨RJ2, "checkIndex", "(I[B)V"⟩
abbrev cJ2_checkBoundsBeginEnd_d044e : ByteArray := prog_31_method_93_code
def yJ2_checkBoundsBeginEnd_d044e : MethodName := ⟨RJ2, "checkBoundsBeginEnd", "(II[B)V"⟩
abbrev cJ2_checkBoundsOffCount_d044e : ByteArray := prog_31_method_94_code
def yJ2_checkBoundsOffCount_d044e : MethodName := ⟨RJ2, "checkBoundsOffCount", "(II[B)V"⟩
def RJ10 : String := "java/lang/System"
def TJ10 : u_T := fun k => match k with
  | _ => ("", "", "", false)
def tyJ10 : Nat → FieldType := fun k => match k with
  | _ => .int
theorem nmJ10 : ∀ a, a < 0 → ∀ b, b < 0 → a ≠ b → (TJ10 a).2.1 ≠ (TJ10 b).2.1 := by decide +kernel
theorem tyJ10_ok : ∀ k, k < 0 → parseFieldDescriptor (TJ10 k).2.2.1 = some (tyJ10 k) := by decide +kernel
def RJxfd54e : String := "java/lang/constant/Constable"
def TJxfd54e : u_T := fun k => match k with
  | _ => ("", "", "", false)
def tyJxfd54e : Nat → FieldType := fun k => match k with
  | _ => .int
theorem nmJxfd54e : ∀ a, a < 0 → ∀ b, b < 0 → a ≠ b → (TJxfd54e a).2.1 ≠ (TJxfd54e b).2.1 := by decide +kernel
theorem tyJxfd54e_ok : ∀ k, k < 0 → parseFieldDescriptor (TJxfd54e k).2.2.1 = some (tyJxfd54e k) := by decide +kernel
def RJx3cf43 : String := "java/lang/constant/ConstantDesc"
def TJx3cf43 : u_T := fun k => match k with
  | _ => ("", "", "", false)
def tyJx3cf43 : Nat → FieldType := fun k => match k with
  | _ => .int
theorem nmJx3cf43 : ∀ a, a < 0 → ∀ b, b < 0 → a ≠ b → (TJx3cf43 a).2.1 ≠ (TJx3cf43 b).2.1 := by decide +kernel
theorem tyJx3cf43_ok : ∀ k, k < 0 → parseFieldDescriptor (TJx3cf43 k).2.2.1 = some (tyJx3cf43 k) := by decide +kernel
def RJ7 : String := "java/util/Arrays"
def TJ7 : u_T := fun k => match k with
  | _ => ("", "", "", false)
def tyJ7 : Nat → FieldType := fun k => match k with
  | _ => .int
theorem nmJ7 : ∀ a, a < 0 → ∀ b, b < 0 → a ≠ b → (TJ7 a).2.1 ≠ (TJ7 b).2.1 := by decide +kernel
theorem tyJ7_ok : ∀ k, k < 0 → parseFieldDescriptor (TJ7 k).2.2.1 = some (tyJ7 k) := by decide +kernel
abbrev cJ7_rangeCheck_23922 : ByteArray := prog_37_method_30_code
def yJ7_rangeCheck_23922 : MethodName := ⟨RJ7, "rangeCheck", "(III)V"⟩
abbrev cJ7_fill_eb02e : ByteArray := prog_37_method_110_code
def yJ7_fill_eb02e : MethodName := ⟨RJ7, "fill", "([BIIB)V"⟩
abbrev cJ7_copyOf_9075b : ByteArray := prog_37_method_121_code
def yJ7_copyOf_9075b : MethodName := ⟨RJ7, "copyOf", "([BI)[B"⟩
abbrev cJ7_checkLength_df160 : ByteArray := prog_37_method_131_code
def yJ7_checkLength_df160 : MethodName := ⟨RJ7, "checkLength", "(II)V"⟩
abbrev cJ7_copyOfRange_39247 : ByteArray := prog_37_method_132_code
def yJ7_copyOfRange_39247 : MethodName := ⟨RJ7, "copyOfRange", "([BII)[B"⟩
abbrev cJ7_copyOfRangeByte_39247 : ByteArray := prog_37_method_133_code
def yJ7_copyOfRangeByte_39247 : MethodName := ⟨RJ7, "copyOfRangeByte", "([BII)[B"⟩
def RJ8 : String := "jdk/internal/util/ArraysSupport"
def TJ8 : u_T := fun k => match k with
  | _ => ("", "", "", false)
def tyJ8 : Nat → FieldType := fun k => match k with
  | _ => .int
theorem nmJ8 : ∀ a, a < 0 → ∀ b, b < 0 → a ≠ b → (TJ8 a).2.1 ≠ (TJ8 b).2.1 := by decide +kernel
theorem tyJ8_ok : ∀ k, k < 0 → parseFieldDescriptor (TJ8 k).2.2.1 = some (tyJ8 k) := by decide +kernel
abbrev cJ8_newLength_cabcc : ByteArray := prog_39_method_27_code
def yJ8_newLength_cabcc : MethodName := ⟨RJ8, "newLength", "(III)I"⟩
abbrev cJ8_hugeLength_7cf53 : ByteArray := prog_39_method_28_code
def yJ8_hugeLength_7cf53 : MethodName := ⟨RJ8, "hugeLength", "(II)I"⟩
def RJ3 : String := "jdk/internal/util/Preconditions"
def TJ3 : u_T := fun k => match k with
  | _ => ("", "", "", false)
def tyJ3 : Nat → FieldType := fun k => match k with
  | _ => .int
theorem nmJ3 : ∀ a, a < 0 → ∀ b, b < 0 → a ≠ b → (TJ3 a).2.1 ≠ (TJ3 b).2.1 := by decide +kernel
theorem tyJ3_ok : ∀ k, k < 0 → parseFieldDescriptor (TJ3 k).2.2.1 = some (tyJ3 k) := by decide +kernel
abbrev cJ3_checkIndex_8e157 : ByteArray := prog_40_method_11_code
def yJ3_checkIndex_8e157 : MethodName := ⟨RJ3, "checkIndex", "(IILjava/util/function/BiFunction;)I"⟩
abbrev cJ3_checkFromToIndex_8c36e : ByteArray := prog_40_method_12_code
def yJ3_checkFromToIndex_8c36e : MethodName := ⟨RJ3, "checkFromToIndex", "(IIILjava/util/function/BiFunction;)I"⟩
abbrev cJ3_checkFromIndexSize_8c36e : ByteArray := prog_40_method_13_code
def yJ3_checkFromIndexSize_8c36e : MethodName := ⟨RJ3, "checkFromIndexSize", "(IIILjava/util/function/BiFunction;)I"⟩
def RL : String := "MetroFaresLaw"
abbrev cL_cell : ByteArray := method_2_code
def yL_cell : MethodName := ⟨RL, "cell", "([II)I"⟩
abbrev cL_issue : ByteArray := method_3_code
def yL_issue : MethodName := ⟨RL, "issue", "(LMetroFares;Z)I"⟩
abbrev cL_load : ByteArray := method_4_code
def yL_load : MethodName := ⟨RL, "load", "(LMetroFares;II)I"⟩
abbrev cL_tapIn : ByteArray := method_5_code
def yL_tapIn : MethodName := ⟨RL, "tapIn", "(LMetroFares;II)I"⟩
abbrev cL_tapOut : ByteArray := method_6_code
def yL_tapOut : MethodName := ⟨RL, "tapOut", "(LMetroFares;II)I"⟩
abbrev cL_repair : ByteArray := method_7_code
def yL_repair : MethodName := ⟨RL, "repair", "(LMetroFares;II)I"⟩
abbrev cL_setZone : ByteArray := method_8_code
def yL_setZone : MethodName := ⟨RL, "setZone", "(LMetroFares;II)I"⟩
abbrev cL_setFares : ByteArray := method_9_code
def yL_setFares : MethodName := ⟨RL, "setFares", "(LMetroFares;II)I"⟩
abbrev cL_advance : ByteArray := method_10_code
def yL_advance : MethodName := ⟨RL, "advance", "(LMetroFares;I)I"⟩
abbrev cL_zone : ByteArray := method_11_code
def yL_zone : MethodName := ⟨RL, "zone", "(LMetroFares;I)I"⟩
abbrev cL_zones : ByteArray := method_12_code
def yL_zones : MethodName := ⟨RL, "zones", "(LMetroFares;II)I"⟩
abbrev cL_byComparing : ByteArray := method_13_code
def yL_byComparing : MethodName := ⟨RL, "byComparing", "(LMetroFares;II)I"⟩
abbrev cL_fare : ByteArray := method_14_code
def yL_fare : MethodName := ⟨RL, "fare", "(LMetroFares;II)I"⟩
abbrev cL_taps : ByteArray := method_15_code
def yL_taps : MethodName := ⟨RL, "taps", "(LMetroFares;I)I"⟩
abbrev cL_byTaps : ByteArray := method_16_code
def yL_byTaps : MethodName := ⟨RL, "byTaps", "(LMetroFares;I)I"⟩
abbrev cL_isReduced : ByteArray := method_17_code
def yL_isReduced : MethodName := ⟨RL, "isReduced", "(LMetroFares;I)I"⟩
abbrev cL_balance : ByteArray := method_18_code
def yL_balance : MethodName := ⟨RL, "balance", "(LMetroFares;I)I"⟩
abbrev cL_isOnTrip : ByteArray := method_19_code
def yL_isOnTrip : MethodName := ⟨RL, "isOnTrip", "(LMetroFares;I)I"⟩
abbrev cL_tripStart : ByteArray := method_20_code
def yL_tripStart : MethodName := ⟨RL, "tripStart", "(LMetroFares;I)I"⟩
abbrev cL_journeyStart : ByteArray := method_21_code
def yL_journeyStart : MethodName := ⟨RL, "journeyStart", "(LMetroFares;I)I"⟩
abbrev cL_minutesLeft : ByteArray := method_22_code
def yL_minutesLeft : MethodName := ⟨RL, "minutesLeft", "(LMetroFares;I)I"⟩
abbrev cL_continues : ByteArray := method_23_code
def yL_continues : MethodName := ⟨RL, "continues", "(LMetroFares;II)I"⟩
abbrev cL_chargeIf : ByteArray := method_24_code
def yL_chargeIf : MethodName := ⟨RL, "chargeIf", "(LMetroFares;II)I"⟩
abbrev cL_chargedOn : ByteArray := method_25_code
def yL_chargedOn : MethodName := ⟨RL, "chargedOn", "(LMetroFares;II)I"⟩
abbrev cL_byRecords : ByteArray := method_26_code
def yL_byRecords : MethodName := ⟨RL, "byRecords", "(LMetroFares;II)I"⟩
abbrev cL_left : ByteArray := method_27_code
def yL_left : MethodName := ⟨RL, "left", "(LMetroFares;I)I"⟩
abbrev cL_isRepairable : ByteArray := method_28_code
def yL_isRepairable : MethodName := ⟨RL, "isRepairable", "(LMetroFares;I)I"⟩
abbrev cL_bySpending : ByteArray := method_29_code
def yL_bySpending : MethodName := ⟨RL, "bySpending", "(LMetroFares;I)I"⟩
abbrev cL_renderCard : ByteArray := method_30_code
def yL_renderCard : MethodName := ⟨RL, "renderCard", "(LMetroFares;I)I"⟩
abbrev cL_outputAt : ByteArray := method_31_code
def yL_outputAt : MethodName := ⟨RL, "outputAt", "(LMetroFares;I)I"⟩
abbrev cL_type : ByteArray := method_32_code
def yL_type : MethodName := ⟨RL, "type", "(LMetroFares;C)I"⟩
abbrev cL_runs : ByteArray := method_33_code
def yL_runs : MethodName := ⟨RL, "runs", "(LMetroFares;)I"⟩
abbrev cL_undo : ByteArray := method_36_code
def yL_undo : MethodName := ⟨RL, "undo", "(LMetroFares;)I"⟩
abbrev cL_run : ByteArray := method_37_code
def yL_run : MethodName := ⟨RL, "run", "(LMetroFares;Ljava/lang/String;)I"⟩
abbrev cL_drawn : ByteArray := method_38_code
def yL_drawn : MethodName := ⟨RL, "drawn", "([I)LMetroFares;"⟩
abbrev cL_zonesOf : ByteArray := method_39_code
def yL_zonesOf : MethodName := ⟨RL, "zonesOf", "(LMetroFares;II)I"⟩
abbrev cL_price : ByteArray := method_40_code
def yL_price : MethodName := ⟨RL, "price", "(LMetroFares;III)I"⟩
abbrev cL_capOf : ByteArray := method_42_code
def yL_capOf : MethodName := ⟨RL, "capOf", "(LMetroFares;I)I"⟩
abbrev cL_law : ByteArray := code
def yL_law : MethodName := ⟨RL, "law", "([I)Z"⟩
abbrev cL_zoned : ByteArray := method_44_code
def yL_zoned : MethodName := ⟨RL, "zoned", "(LMetroFares;)Z"⟩
abbrev cL_carded : ByteArray := method_45_code
def yL_carded : MethodName := ⟨RL, "carded", "(LMetroFares;)Z"⟩
abbrev cL_spells : ByteArray := method_46_code
def yL_spells : MethodName := ⟨RL, "spells", "(LMetroFares;ILjava/lang/String;)Z"⟩
abbrev cL_texts : ByteArray := method_47_code
def yL_texts : MethodName := ⟨RL, "texts", "(LMetroFares;)Z"⟩
abbrev cL_sum : ByteArray := method_48_code
def yL_sum : MethodName := ⟨RL, "sum", "(LMetroFares;)J"⟩
abbrev cL_undone : ByteArray := method_49_code
def yL_undone : MethodName := ⟨RL, "undone", "([ILMetroFares;)Z"⟩
abbrev vwCl : List vw_C := [(RJ0, TJ0, 4), (RJ4, TJ4, 4), (RJx00060, TJx00060, 6), (RJx7c733, TJx7c733, 6), (RX0, TX0, 17), (RX1, TX1, 3), (RX2, TX2, 4), (RX3, TX3, 9), (RX4, TX4, 6), (RX5, TX5, 11)]
