
/-! ===== BEGIN printed: names, fields, word lists, decode rows ===== -/
def RX0 : String := "TwofrontArcade$Crew"
def TX0 : u_T := fun k => match k with
  | 0 => ("TwofrontArcade$Crew", "trade", "C", false)
  | _ => ("TwofrontArcade$Crew", "unit", "I", false)
def tyX0 : Nat → FieldType := fun k => match k with
  | 0 => .char
  | _ => .int
abbrev wsX00 : List Cond := u_ws RX0 TX0 2
theorem nmX0 : ∀ a, a < 2 → ∀ b, b < 2 → a ≠ b → (TX0 a).2.1 ≠ (TX0 b).2.1 := by decide +kernel
theorem tyX0_ok : ∀ k, k < 2 → parseFieldDescriptor (TX0 k).2.2.1 = some (tyX0 k) := by decide +kernel
abbrev cX0_init : ByteArray := prog_2_method_1_code
def yX0_init : MethodName := ⟨RX0, "<init>", "()V"⟩
def RX1 : String := "TwofrontArcade$Programme"
def TX1 : u_T := fun k => match k with
  | 0 => ("TwofrontArcade$Programme", "order", "[I", true)
  | 1 => ("TwofrontArcade$Programme", "starts", "[I", true)
  | 2 => ("TwofrontArcade$Programme", "ends", "[I", true)
  | 3 => ("TwofrontArcade$Programme", "bestStarts", "[I", true)
  | 4 => ("TwofrontArcade$Programme", "planned", "I", false)
  | 5 => ("TwofrontArcade$Programme", "put", "I", false)
  | 6 => ("TwofrontArcade$Programme", "days", "I", false)
  | _ => ("TwofrontArcade$Programme", "bestDays", "I", false)
def tyX1 : Nat → FieldType := fun k => match k with
  | 0 => .array .int
  | 1 => .array .int
  | 2 => .array .int
  | 3 => .array .int
  | 4 => .int
  | 5 => .int
  | 6 => .int
  | _ => .int
abbrev wsX10 : List Cond := u_ws RX1 TX1 8
theorem nmX1 : ∀ a, a < 8 → ∀ b, b < 8 → a ≠ b → (TX1 a).2.1 ≠ (TX1 b).2.1 := by decide +kernel
theorem tyX1_ok : ∀ k, k < 8 → parseFieldDescriptor (TX1 k).2.2.1 = some (tyX1 k) := by decide +kernel
abbrev cX1_init : ByteArray := prog_3_method_1_code
def yX1_init : MethodName := ⟨RX1, "<init>", "()V"⟩
abbrev cX1_seek : ByteArray := prog_3_method_2_code
def yX1_seek : MethodName := ⟨RX1, "seek", "([LTwofrontArcade$Unit;I)V"⟩
abbrev cX1_putWorksOn : ByteArray := prog_3_method_3_code
def yX1_putWorksOn : MethodName := ⟨RX1, "putWorksOn", "([LTwofrontArcade$Unit;I)V"⟩
abbrev cX1_putAt : ByteArray := prog_3_method_4_code
def yX1_putAt : MethodName := ⟨RX1, "putAt", "(III)V"⟩
abbrev cX1_putInOrder : ByteArray := prog_3_method_5_code
def yX1_putInOrder : MethodName := ⟨RX1, "putInOrder", "([LTwofrontArcade$Unit;I)Z"⟩
abbrev cX1_endOfRests : ByteArray := prog_3_method_6_code
def yX1_endOfRests : MethodName := ⟨RX1, "endOfRests", "([LTwofrontArcade$Unit;II)I"⟩
abbrev cX1_fitsAt : ByteArray := prog_3_method_7_code
def yX1_fitsAt : MethodName := ⟨RX1, "fitsAt", "([LTwofrontArcade$Unit;III)Z"⟩
abbrev cX1_onAt : ByteArray := prog_3_method_8_code
def yX1_onAt : MethodName := ⟨RX1, "onAt", "(II)I"⟩
abbrev cX1_nextEnd : ByteArray := prog_3_method_9_code
def yX1_nextEnd : MethodName := ⟨RX1, "nextEnd", "(II)I"⟩
abbrev cX1_isBetter : ByteArray := prog_3_method_10_code
def yX1_isBetter : MethodName := ⟨RX1, "isBetter", "([LTwofrontArcade$Unit;I)Z"⟩
abbrev cX1_keep : ByteArray := prog_3_method_11_code
def yX1_keep : MethodName := ⟨RX1, "keep", "()V"⟩
abbrev cX1_nextOrder : ByteArray := prog_3_method_12_code
def yX1_nextOrder : MethodName := ⟨RX1, "nextOrder", "()Z"⟩
abbrev cX1_swap : ByteArray := prog_3_method_13_code
def yX1_swap : MethodName := ⟨RX1, "swap", "(II)V"⟩
def RX2 : String := "TwofrontArcade$Shop"
def TX2 : u_T := fun k => match k with
  | 0 => ("TwofrontArcade$Shop", "losses", "[J", true)
  | 1 => ("TwofrontArcade$Shop", "home", "I", false)
  | 2 => ("TwofrontArcade$Shop", "unit", "I", false)
  | 3 => ("TwofrontArcade$Shop", "state", "C", false)
  | 4 => ("TwofrontArcade$Shop", "pull", "I", false)
  | 5 => ("TwofrontArcade$Shop", "people", "I", false)
  | 6 => ("TwofrontArcade$Shop", "isClean", "Z", false)
  | 7 => ("TwofrontArcade$Shop", "quietDays", "I", false)
  | 8 => ("TwofrontArcade$Shop", "lease", "I", false)
  | 9 => ("TwofrontArcade$Shop", "shutDays", "I", false)
  | 10 => ("TwofrontArcade$Shop", "isComing", "Z", false)
  | 11 => ("TwofrontArcade$Shop", "known", "I", false)
  | 12 => ("TwofrontArcade$Shop", "taken", "J", false)
  | _ => ("TwofrontArcade$Shop", "could", "J", false)
def tyX2 : Nat → FieldType := fun k => match k with
  | 0 => .array .long
  | 1 => .int
  | 2 => .int
  | 3 => .char
  | 4 => .int
  | 5 => .int
  | 6 => .boolean
  | 7 => .int
  | 8 => .int
  | 9 => .int
  | 10 => .boolean
  | 11 => .int
  | 12 => .long
  | _ => .long
abbrev wsX20 : List Cond := u_ws RX2 TX2 14
theorem nmX2 : ∀ a, a < 14 → ∀ b, b < 14 → a ≠ b → (TX2 a).2.1 ≠ (TX2 b).2.1 := by decide +kernel
theorem tyX2_ok : ∀ k, k < 14 → parseFieldDescriptor (TX2 k).2.2.1 = some (tyX2 k) := by decide +kernel
abbrev cX2_init : ByteArray := prog_4_method_1_code
def yX2_init : MethodName := ⟨RX2, "<init>", "()V"⟩
abbrev cX2_isOpen : ByteArray := prog_4_method_2_code
def yX2_isOpen : MethodName := ⟨RX2, "isOpen", "()Z"⟩
abbrev cX2_isShutToday : ByteArray := prog_4_method_3_code
def yX2_isShutToday : MethodName := ⟨RX2, "isShutToday", "()Z"⟩
abbrev cX2_place : ByteArray := prog_4_method_4_code
def yX2_place : MethodName := ⟨RX2, "place", "()I"⟩
abbrev cX2_isQuietOn : ByteArray := prog_4_method_5_code
def yX2_isQuietOn : MethodName := ⟨RX2, "isQuietOn", "(I)Z"⟩
abbrev cX2_shutDaysLeft : ByteArray := prog_4_method_6_code
def yX2_shutDaysLeft : MethodName := ⟨RX2, "shutDaysLeft", "()I"⟩
abbrev cX2_shutDaysWithin : ByteArray := prog_4_method_7_code
def yX2_shutDaysWithin : MethodName := ⟨RX2, "shutDaysWithin", "(I)I"⟩
abbrev cX2_comeTo : ByteArray := prog_4_method_8_code
def yX2_comeTo : MethodName := ⟨RX2, "comeTo", "(CI)V"⟩
abbrev cX2_shut : ByteArray := prog_4_method_9_code
def yX2_shut : MethodName := ⟨RX2, "shut", "()V"⟩
abbrev cX2_lossByWorks : ByteArray := prog_4_method_10_code
def yX2_lossByWorks : MethodName := ⟨RX2, "lossByWorks", "()J"⟩
def RX3 : String := "TwofrontArcade$Unit"
def TX3 : u_T := fun k => match k with
  | 0 => ("TwofrontArcade$Unit", "daysLost", "[I", true)
  | 1 => ("TwofrontArcade$Unit", "width", "I", false)
  | 2 => ("TwofrontArcade$Unit", "walls", "I", false)
  | 3 => ("TwofrontArcade$Unit", "work", "C", false)
  | 4 => ("TwofrontArcade$Unit", "daysLeft", "I", false)
  | 5 => ("TwofrontArcade$Unit", "restsOn", "I", false)
  | _ => ("TwofrontArcade$Unit", "noticeDay", "I", false)
def tyX3 : Nat → FieldType := fun k => match k with
  | 0 => .array .int
  | 1 => .int
  | 2 => .int
  | 3 => .char
  | 4 => .int
  | 5 => .int
  | _ => .int
abbrev wsX30 : List Cond := u_ws RX3 TX3 7
theorem nmX3 : ∀ a, a < 7 → ∀ b, b < 7 → a ≠ b → (TX3 a).2.1 ≠ (TX3 b).2.1 := by decide +kernel
theorem tyX3_ok : ∀ k, k < 7 → parseFieldDescriptor (TX3 k).2.2.1 = some (tyX3 k) := by decide +kernel
abbrev cX3_init : ByteArray := prog_5_method_1_code
def yX3_init : MethodName := ⟨RX3, "<init>", "()V"⟩
abbrev cX3_hasWork : ByteArray := prog_5_method_2_code
def yX3_hasWork : MethodName := ⟨RX3, "hasWork", "()Z"⟩
abbrev cX3_isPlanned : ByteArray := prog_5_method_3_code
def yX3_isPlanned : MethodName := ⟨RX3, "isPlanned", "()Z"⟩
abbrev cX3_isOn : ByteArray := prog_5_method_4_code
def yX3_isOn : MethodName := ⟨RX3, "isOn", "()Z"⟩
abbrev cX3_peopleAllowed : ByteArray := prog_5_method_5_code
def yX3_peopleAllowed : MethodName := ⟨RX3, "peopleAllowed", "()I"⟩
def RX4 : String := "TwofrontArcade"
def TX4 : u_T := fun k => match k with
  | 0 => ("TwofrontArcade", "units", "[LTwofrontArcade$Unit;", true)
  | 1 => ("TwofrontArcade", "shops", "[LTwofrontArcade$Shop;", true)
  | 2 => ("TwofrontArcade", "crews", "[LTwofrontArcade$Crew;", true)
  | 3 => ("TwofrontArcade", "peopleOn", "[I", true)
  | 4 => ("TwofrontArcade", "programme", "LTwofrontArcade$Programme;", true)
  | 5 => ("TwofrontArcade", "unitCount", "I", false)
  | 6 => ("TwofrontArcade", "shopCount", "I", false)
  | 7 => ("TwofrontArcade", "crewCount", "I", false)
  | 8 => ("TwofrontArcade", "today", "I", false)
  | _ => ("TwofrontArcade", "strikeDays", "I", false)
def tyX4 : Nat → FieldType := fun k => match k with
  | 0 => .array (.object "TwofrontArcade$Unit")
  | 1 => .array (.object "TwofrontArcade$Shop")
  | 2 => .array (.object "TwofrontArcade$Crew")
  | 3 => .array .int
  | 4 => .object "TwofrontArcade$Programme"
  | 5 => .int
  | 6 => .int
  | 7 => .int
  | 8 => .int
  | _ => .int
abbrev wsX40 : List Cond := u_ws RX4 TX4 10
theorem nmX4 : ∀ a, a < 10 → ∀ b, b < 10 → a ≠ b → (TX4 a).2.1 ≠ (TX4 b).2.1 := by decide +kernel
theorem tyX4_ok : ∀ k, k < 10 → parseFieldDescriptor (TX4 k).2.2.1 = some (tyX4 k) := by decide +kernel
abbrev cX4_init : ByteArray := prog_1_method_1_code
def yX4_init : MethodName := ⟨RX4, "<init>", "()V"⟩
abbrev cX4_addUnit : ByteArray := prog_1_method_2_code
def yX4_addUnit : MethodName := ⟨RX4, "addUnit", "(I)I"⟩
abbrev cX4_addWall : ByteArray := prog_1_method_3_code
def yX4_addWall : MethodName := ⟨RX4, "addWall", "(II)I"⟩
abbrev cX4_plan : ByteArray := prog_1_method_4_code
def yX4_plan : MethodName := ⟨RX4, "plan", "(II)I"⟩
abbrev cX4_rest : ByteArray := prog_1_method_5_code
def yX4_rest : MethodName := ⟨RX4, "rest", "(II)Z"⟩
abbrev cX4_notice : ByteArray := prog_1_method_6_code
def yX4_notice : MethodName := ⟨RX4, "notice", "(II)I"⟩
abbrev cX4_work : ByteArray := prog_1_method_7_code
def yX4_work : MethodName := ⟨RX4, "work", "(I)C"⟩
abbrev cX4_left : ByteArray := prog_1_method_8_code
def yX4_left : MethodName := ⟨RX4, "left", "(I)I"⟩
abbrev cX4_whyNot : ByteArray := prog_1_method_9_code
def yX4_whyNot : MethodName := ⟨RX4, "whyNot", "(I)C"⟩
abbrev cX4_begin : ByteArray := prog_1_method_10_code
def yX4_begin : MethodName := ⟨RX4, "begin", "(I)I"⟩
abbrev cX4_find : ByteArray := prog_1_method_11_code
def yX4_find : MethodName := ⟨RX4, "find", "(II)I"⟩
abbrev cX4_addShop : ByteArray := prog_1_method_12_code
def yX4_addShop : MethodName := ⟨RX4, "addShop", "(IIIZII)I"⟩
abbrev cX4_state : ByteArray := prog_1_method_13_code
def yX4_state : MethodName := ⟨RX4, "state", "(I)C"⟩
abbrev cX4_unitOf : ByteArray := prog_1_method_14_code
def yX4_unitOf : MethodName := ⟨RX4, "unitOf", "(I)I"⟩
abbrev cX4_homeOf : ByteArray := prog_1_method_15_code
def yX4_homeOf : MethodName := ⟨RX4, "homeOf", "(I)I"⟩
abbrev cX4_move : ByteArray := prog_1_method_16_code
def yX4_move : MethodName := ⟨RX4, "move", "(II)I"⟩
abbrev cX4_toStall : ByteArray := prog_1_method_17_code
def yX4_toStall : MethodName := ⟨RX4, "toStall", "(I)I"⟩
abbrev cX4_store : ByteArray := prog_1_method_18_code
def yX4_store : MethodName := ⟨RX4, "store", "(I)I"⟩
abbrev cX4_comes : ByteArray := prog_1_method_19_code
def yX4_comes : MethodName := ⟨RX4, "comes", "(I)Z"⟩
abbrev cX4_mayBeShut : ByteArray := prog_1_method_20_code
def yX4_mayBeShut : MethodName := ⟨RX4, "mayBeShut", "(I)I"⟩
abbrev cX4_seen : ByteArray := prog_1_method_21_code
def yX4_seen : MethodName := ⟨RX4, "seen", "(I)I"⟩
abbrev cX4_known : ByteArray := prog_1_method_22_code
def yX4_known : MethodName := ⟨RX4, "known", "(I)I"⟩
abbrev cX4_isDusty : ByteArray := prog_1_method_23_code
def yX4_isDusty : MethodName := ⟨RX4, "isDusty", "(I)Z"⟩
abbrev cX4_flow : ByteArray := prog_1_method_24_code
def yX4_flow : MethodName := ⟨RX4, "flow", "(I)I"⟩
abbrev cX4_room : ByteArray := prog_1_method_25_code
def yX4_room : MethodName := ⟨RX4, "room", "(I)I"⟩
abbrev cX4_areWide : ByteArray := prog_1_method_26_code
def yX4_areWide : MethodName := ⟨RX4, "areWide", "()Z"⟩
abbrev cX4_setPeople : ByteArray := prog_1_method_27_code
def yX4_setPeople : MethodName := ⟨RX4, "setPeople", "(II)I"⟩
abbrev cX4_pass : ByteArray := prog_1_method_28_code
def yX4_pass : MethodName := ⟨RX4, "pass", "(I)I"⟩
abbrev cX4_day : ByteArray := prog_1_method_29_code
def yX4_day : MethodName := ⟨RX4, "day", "()I"⟩
abbrev cX4_addCrew : ByteArray := prog_1_method_30_code
def yX4_addCrew : MethodName := ⟨RX4, "addCrew", "(C)I"⟩
abbrev cX4_send : ByteArray := prog_1_method_31_code
def yX4_send : MethodName := ⟨RX4, "send", "(II)I"⟩
abbrev cX4_canWork : ByteArray := prog_1_method_32_code
def yX4_canWork : MethodName := ⟨RX4, "canWork", "(I)Z"⟩
abbrev cX4_strike : ByteArray := prog_1_method_33_code
def yX4_strike : MethodName := ⟨RX4, "strike", "(I)I"⟩
abbrev cX4_lostDays : ByteArray := prog_1_method_34_code
def yX4_lostDays : MethodName := ⟨RX4, "lostDays", "(IC)I"⟩
abbrev cX4_shortest : ByteArray := prog_1_method_35_code
def yX4_shortest : MethodName := ⟨RX4, "shortest", "()I"⟩
abbrev cX4_startIn : ByteArray := prog_1_method_36_code
def yX4_startIn : MethodName := ⟨RX4, "startIn", "(I)I"⟩
abbrev cX4_took : ByteArray := prog_1_method_37_code
def yX4_took : MethodName := ⟨RX4, "took", "(I)J"⟩
abbrev cX4_lost : ByteArray := prog_1_method_38_code
def yX4_lost : MethodName := ⟨RX4, "lost", "(IC)J"⟩
abbrev cX4_rent : ByteArray := prog_1_method_39_code
def yX4_rent : MethodName := ⟨RX4, "rent", "(I)J"⟩
abbrev cX4_fund : ByteArray := prog_1_method_40_code
def yX4_fund : MethodName := ⟨RX4, "fund", "()J"⟩
abbrev cX4_checksum : ByteArray := prog_1_method_41_code
def yX4_checksum : MethodName := ⟨RX4, "checksum", "()J"⟩
abbrev cX4_openShare : ByteArray := prog_1_method_42_code
def yX4_openShare : MethodName := ⟨RX4, "openShare", "()F"⟩
abbrev cX4_meanTaken : ByteArray := prog_1_method_43_code
def yX4_meanTaken : MethodName := ⟨RX4, "meanTaken", "()D"⟩
abbrev cX4_isSound : ByteArray := prog_1_method_44_code
def yX4_isSound : MethodName := ⟨RX4, "isSound", "()Z"⟩
abbrev cX4_needRange : ByteArray := prog_1_method_45_code
def yX4_needRange : MethodName := ⟨RX4, "needRange", "(III)V"⟩
abbrev cX4_needUnit : ByteArray := prog_1_method_46_code
def yX4_needUnit : MethodName := ⟨RX4, "needUnit", "(I)V"⟩
abbrev cX4_needShop : ByteArray := prog_1_method_47_code
def yX4_needShop : MethodName := ⟨RX4, "needShop", "(I)V"⟩
abbrev cX4_needCrew : ByteArray := prog_1_method_48_code
def yX4_needCrew : MethodName := ⟨RX4, "needCrew", "(I)V"⟩
abbrev cX4_needWork : ByteArray := prog_1_method_49_code
def yX4_needWork : MethodName := ⟨RX4, "needWork", "(I)V"⟩
abbrev cX4_needShutDay : ByteArray := prog_1_method_50_code
def yX4_needShutDay : MethodName := ⟨RX4, "needShutDay", "(I)V"⟩
abbrev cX4_needFewPlanned : ByteArray := prog_1_method_51_code
def yX4_needFewPlanned : MethodName := ⟨RX4, "needFewPlanned", "()V"⟩
abbrev cX4_needAShop : ByteArray := prog_1_method_52_code
def yX4_needAShop : MethodName := ⟨RX4, "needAShop", "()V"⟩
abbrev cX4_bit : ByteArray := prog_1_method_53_code
def yX4_bit : MethodName := ⟨RX4, "bit", "(I)I"⟩
abbrev cX4_hasBit : ByteArray := prog_1_method_54_code
def yX4_hasBit : MethodName := ⟨RX4, "hasBit", "(II)Z"⟩
abbrev cX4_unitsWithWork : ByteArray := prog_1_method_55_code
def yX4_unitsWithWork : MethodName := ⟨RX4, "unitsWithWork", "(C)I"⟩
abbrev cX4_haveWall : ByteArray := prog_1_method_56_code
def yX4_haveWall : MethodName := ⟨RX4, "haveWall", "(II)Z"⟩
abbrev cX4_allRestsOf : ByteArray := prog_1_method_57_code
def yX4_allRestsOf : MethodName := ⟨RX4, "allRestsOf", "(I)I"⟩
abbrev cX4_hindrance : ByteArray := prog_1_method_58_code
def yX4_hindrance : MethodName := ⟨RX4, "hindrance", "(I)C"⟩
abbrev cX4_dayCause : ByteArray := prog_1_method_59_code
def yX4_dayCause : MethodName := ⟨RX4, "dayCause", "(C)I"⟩
abbrev cX4_shopsIn : ByteArray := prog_1_method_60_code
def yX4_shopsIn : MethodName := ⟨RX4, "shopsIn", "(I)I"⟩
abbrev cX4_isFree : ByteArray := prog_1_method_61_code
def yX4_isFree : MethodName := ⟨RX4, "isFree", "(I)Z"⟩
abbrev cX4_freeStalls : ByteArray := prog_1_method_62_code
def yX4_freeStalls : MethodName := ⟨RX4, "freeStalls", "()I"⟩
abbrev cX4_hundredthsSeenAt : ByteArray := prog_1_method_63_code
def yX4_hundredthsSeenAt : MethodName := ⟨RX4, "hundredthsSeenAt", "(I)I"⟩
abbrev cX4_hasDust : ByteArray := prog_1_method_64_code
def yX4_hasDust : MethodName := ⟨RX4, "hasDust", "(LTwofrontArcade$Shop;)Z"⟩
abbrev cX4_lossCause : ByteArray := prog_1_method_65_code
def yX4_lossCause : MethodName := ⟨RX4, "lossCause", "(C)I"⟩
abbrev cX4_isOnWayFrom : ByteArray := prog_1_method_66_code
def yX4_isOnWayFrom : MethodName := ⟨RX4, "isOnWayFrom", "(II)Z"⟩
abbrev cX4_peoplePast : ByteArray := prog_1_method_67_code
def yX4_peoplePast : MethodName := ⟨RX4, "peoplePast", "(II)I"⟩
abbrev cX4_canGoOutFrom : ByteArray := prog_1_method_68_code
def yX4_canGoOutFrom : MethodName := ⟨RX4, "canGoOutFrom", "(III)Z"⟩
abbrev cX4_isWideWithHoardingAt : ByteArray := prog_1_method_69_code
def yX4_isWideWithHoardingAt : MethodName := ⟨RX4, "isWideWithHoardingAt", "(I)Z"⟩
abbrev cX4_passOneDay : ByteArray := prog_1_method_70_code
def yX4_passOneDay : MethodName := ⟨RX4, "passOneDay", "()V"⟩
abbrev cX4_weekdayNow : ByteArray := prog_1_method_71_code
def yX4_weekdayNow : MethodName := ⟨RX4, "weekdayNow", "()I"⟩
abbrev cX4_trade : ByteArray := prog_1_method_72_code
def yX4_trade : MethodName := ⟨RX4, "trade", "(LTwofrontArcade$Shop;)V"⟩
abbrev cX4_letCrewsWork : ByteArray := prog_1_method_73_code
def yX4_letCrewsWork : MethodName := ⟨RX4, "letCrewsWork", "()V"⟩
abbrev cX4_endWorks : ByteArray := prog_1_method_74_code
def yX4_endWorks : MethodName := ⟨RX4, "endWorks", "()V"⟩
abbrev cX4_isAtWork : ByteArray := prog_1_method_75_code
def yX4_isAtWork : MethodName := ⟨RX4, "isAtWork", "(LTwofrontArcade$Crew;)Z"⟩
abbrev cX4_doesADay : ByteArray := prog_1_method_76_code
def yX4_doesADay : MethodName := ⟨RX4, "doesADay", "(I)Z"⟩
abbrev cX4_isQuietBeside : ByteArray := prog_1_method_77_code
def yX4_isQuietBeside : MethodName := ⟨RX4, "isQuietBeside", "(I)Z"⟩
abbrev cX4_isHotBelow : ByteArray := prog_1_method_78_code
def yX4_isHotBelow : MethodName := ⟨RX4, "isHotBelow", "(I)Z"⟩
abbrev cX4_causeOfIdleDay : ByteArray := prog_1_method_79_code
def yX4_causeOfIdleDay : MethodName := ⟨RX4, "causeOfIdleDay", "(I)I"⟩
abbrev cX4_areWorksSound : ByteArray := prog_1_method_80_code
def yX4_areWorksSound : MethodName := ⟨RX4, "areWorksSound", "()Z"⟩
abbrev cX4_areUnitsSound : ByteArray := prog_1_method_81_code
def yX4_areUnitsSound : MethodName := ⟨RX4, "areUnitsSound", "()Z"⟩
abbrev cX4_areShopsSound : ByteArray := prog_1_method_82_code
def yX4_areShopsSound : MethodName := ⟨RX4, "areShopsSound", "()Z"⟩
def RX5 : String := "TwofrontArcadeModel$Crew"
def TX5 : u_T := fun k => match k with
  | 0 => ("TwofrontArcadeModel$Crew", "trade", "C", true)
  | _ => ("TwofrontArcadeModel$Crew", "unit", "I", false)
def tyX5 : Nat → FieldType := fun k => match k with
  | 0 => .char
  | _ => .int
abbrev wsX50 : List Cond := u_ws RX5 TX5 2
theorem nmX5 : ∀ a, a < 2 → ∀ b, b < 2 → a ≠ b → (TX5 a).2.1 ≠ (TX5 b).2.1 := by decide +kernel
theorem tyX5_ok : ∀ k, k < 2 → parseFieldDescriptor (TX5 k).2.2.1 = some (tyX5 k) := by decide +kernel
abbrev cX5_init : ByteArray := prog_8_method_1_code
def yX5_init : MethodName := ⟨RX5, "<init>", "(C)V"⟩
def RX6 : String := "TwofrontArcadeModel$Shop"
def TX6 : u_T := fun k => match k with
  | 0 => ("TwofrontArcadeModel$Shop", "home", "I", true)
  | 1 => ("TwofrontArcadeModel$Shop", "pull", "I", true)
  | 2 => ("TwofrontArcadeModel$Shop", "people", "I", true)
  | 3 => ("TwofrontArcadeModel$Shop", "isClean", "Z", true)
  | 4 => ("TwofrontArcadeModel$Shop", "quiet", "I", true)
  | 5 => ("TwofrontArcadeModel$Shop", "unit", "I", false)
  | 6 => ("TwofrontArcadeModel$Shop", "state", "C", false)
  | 7 => ("TwofrontArcadeModel$Shop", "days", "I", false)
  | 8 => ("TwofrontArcadeModel$Shop", "comes", "Z", false)
  | 9 => ("TwofrontArcadeModel$Shop", "known", "I", false)
  | 10 => ("TwofrontArcadeModel$Shop", "took", "J", false)
  | _ => ("TwofrontArcadeModel$Shop", "lost", "[J", true)
def tyX6 : Nat → FieldType := fun k => match k with
  | 0 => .int
  | 1 => .int
  | 2 => .int
  | 3 => .boolean
  | 4 => .int
  | 5 => .int
  | 6 => .char
  | 7 => .int
  | 8 => .boolean
  | 9 => .int
  | 10 => .long
  | _ => .array .long
abbrev wsX60 : List Cond := u_ws RX6 TX6 12
theorem nmX6 : ∀ a, a < 12 → ∀ b, b < 12 → a ≠ b → (TX6 a).2.1 ≠ (TX6 b).2.1 := by decide +kernel
theorem tyX6_ok : ∀ k, k < 12 → parseFieldDescriptor (TX6 k).2.2.1 = some (tyX6 k) := by decide +kernel
abbrev cX6_init : ByteArray := prog_9_method_1_code
def yX6_init : MethodName := ⟨RX6, "<init>", "(IIIZII)V"⟩
abbrev cX6_place : ByteArray := prog_9_method_2_code
def yX6_place : MethodName := ⟨RX6, "place", "()I"⟩
def RX7 : String := "TwofrontArcadeModel$Unit"
def TX7 : u_T := fun k => match k with
  | 0 => ("TwofrontArcadeModel$Unit", "width", "I", true)
  | 1 => ("TwofrontArcadeModel$Unit", "walls", "[Z", true)
  | 2 => ("TwofrontArcadeModel$Unit", "rests", "[Z", true)
  | 3 => ("TwofrontArcadeModel$Unit", "work", "C", false)
  | 4 => ("TwofrontArcadeModel$Unit", "left", "I", false)
  | 5 => ("TwofrontArcadeModel$Unit", "notice", "I", false)
  | _ => ("TwofrontArcadeModel$Unit", "lost", "[I", true)
def tyX7 : Nat → FieldType := fun k => match k with
  | 0 => .int
  | 1 => .array .boolean
  | 2 => .array .boolean
  | 3 => .char
  | 4 => .int
  | 5 => .int
  | _ => .array .int
abbrev wsX70 : List Cond := u_ws RX7 TX7 7
theorem nmX7 : ∀ a, a < 7 → ∀ b, b < 7 → a ≠ b → (TX7 a).2.1 ≠ (TX7 b).2.1 := by decide +kernel
theorem tyX7_ok : ∀ k, k < 7 → parseFieldDescriptor (TX7 k).2.2.1 = some (tyX7 k) := by decide +kernel
abbrev cX7_init : ByteArray := prog_10_method_1_code
def yX7_init : MethodName := ⟨RX7, "<init>", "(I)V"⟩
def RX8 : String := "TwofrontArcadeModel"
def TX8 : u_T := fun k => match k with
  | 0 => ("TwofrontArcadeModel", "thrown", "I", false)
  | 1 => ("TwofrontArcadeModel", "units", "Ljava/util/ArrayList;", true)
  | 2 => ("TwofrontArcadeModel", "shops", "Ljava/util/ArrayList;", true)
  | 3 => ("TwofrontArcadeModel", "crews", "Ljava/util/ArrayList;", true)
  | 4 => ("TwofrontArcadeModel", "people", "[I", true)
  | 5 => ("TwofrontArcadeModel", "day", "I", false)
  | 6 => ("TwofrontArcadeModel", "strikeTo", "I", false)
  | 7 => ("TwofrontArcadeModel", "best", "I", false)
  | _ => ("TwofrontArcadeModel", "bestStarts", "[I", false)
def tyX8 : Nat → FieldType := fun k => match k with
  | 0 => .int
  | 1 => .object "java/util/ArrayList"
  | 2 => .object "java/util/ArrayList"
  | 3 => .object "java/util/ArrayList"
  | 4 => .array .int
  | 5 => .int
  | 6 => .int
  | 7 => .int
  | _ => .array .int
abbrev wsX80 : List Cond := u_ws RX8 TX8 9
theorem nmX8 : ∀ a, a < 9 → ∀ b, b < 9 → a ≠ b → (TX8 a).2.1 ≠ (TX8 b).2.1 := by decide +kernel
theorem tyX8_ok : ∀ k, k < 9 → parseFieldDescriptor (TX8 k).2.2.1 = some (tyX8 k) := by decide +kernel
abbrev cX8_in : ByteArray := prog_7_method_1_code
def yX8_in : MethodName := ⟨RX8, "in", "(JJJ)Z"⟩
abbrev cX8_init : ByteArray := prog_7_method_2_code
def yX8_init : MethodName := ⟨RX8, "<init>", "()V"⟩
abbrev cX8_thrown : ByteArray := prog_7_method_3_code
def yX8_thrown : MethodName := ⟨RX8, "thrown", "()I"⟩
abbrev cX8_isUnit : ByteArray := prog_7_method_4_code
def yX8_isUnit : MethodName := ⟨RX8, "isUnit", "(I)Z"⟩
abbrev cX8_noUnit : ByteArray := prog_7_method_5_code
def yX8_noUnit : MethodName := ⟨RX8, "noUnit", "(I)Z"⟩
abbrev cX8_noShop : ByteArray := prog_7_method_6_code
def yX8_noShop : MethodName := ⟨RX8, "noShop", "(I)Z"⟩
abbrev cX8_addUnit : ByteArray := prog_7_method_7_code
def yX8_addUnit : MethodName := ⟨RX8, "addUnit", "(I)I"⟩
abbrev cX8_isOn : ByteArray := prog_7_method_8_code
def yX8_isOn : MethodName := ⟨RX8, "isOn", "(I)Z"⟩
abbrev cX8_addWall : ByteArray := prog_7_method_9_code
def yX8_addWall : MethodName := ⟨RX8, "addWall", "(II)I"⟩
abbrev cX8_plan : ByteArray := prog_7_method_10_code
def yX8_plan : MethodName := ⟨RX8, "plan", "(II)I"⟩
abbrev cX8_restsOn : ByteArray := prog_7_method_11_code
def yX8_restsOn : MethodName := ⟨RX8, "restsOn", "(II)Z"⟩
abbrev cX8_rest : ByteArray := prog_7_method_12_code
def yX8_rest : MethodName := ⟨RX8, "rest", "(II)Z"⟩
abbrev cX8_notice : ByteArray := prog_7_method_13_code
def yX8_notice : MethodName := ⟨RX8, "notice", "(II)I"⟩
abbrev cX8_noWork : ByteArray := prog_7_method_14_code
def yX8_noWork : MethodName := ⟨RX8, "noWork", "(I)Z"⟩
abbrev cX8_work : ByteArray := prog_7_method_15_code
def yX8_work : MethodName := ⟨RX8, "work", "(I)C"⟩
abbrev cX8_left : ByteArray := prog_7_method_16_code
def yX8_left : MethodName := ⟨RX8, "left", "(I)I"⟩
abbrev cX8_shopIn : ByteArray := prog_7_method_17_code
def yX8_shopIn : MethodName := ⟨RX8, "shopIn", "(I)I"⟩
abbrev cX8_barOf : ByteArray := prog_7_method_18_code
def yX8_barOf : MethodName := ⟨RX8, "barOf", "(I)C"⟩
abbrev cX8_whyNot : ByteArray := prog_7_method_19_code
def yX8_whyNot : MethodName := ⟨RX8, "whyNot", "(I)C"⟩
abbrev cX8_begin : ByteArray := prog_7_method_20_code
def yX8_begin : MethodName := ⟨RX8, "begin", "(I)I"⟩
abbrev cX8_find : ByteArray := prog_7_method_21_code
def yX8_find : MethodName := ⟨RX8, "find", "(II)I"⟩
abbrev cX8_passes : ByteArray := prog_7_method_22_code
def yX8_passes : MethodName := ⟨RX8, "passes", "(II)Z"⟩
abbrev cX8_flowAt : ByteArray := prog_7_method_23_code
def yX8_flowAt : MethodName := ⟨RX8, "flowAt", "(III)I"⟩
abbrev cX8_roomAt : ByteArray := prog_7_method_24_code
def yX8_roomAt : MethodName := ⟨RX8, "roomAt", "(II)I"⟩
abbrev cX8_fits : ByteArray := prog_7_method_25_code
def yX8_fits : MethodName := ⟨RX8, "fits", "(III)Z"⟩
abbrev cX8_flow : ByteArray := prog_7_method_26_code
def yX8_flow : MethodName := ⟨RX8, "flow", "(I)I"⟩
abbrev cX8_room : ByteArray := prog_7_method_27_code
def yX8_room : MethodName := ⟨RX8, "room", "(I)I"⟩
abbrev cX8_areWide : ByteArray := prog_7_method_28_code
def yX8_areWide : MethodName := ⟨RX8, "areWide", "()Z"⟩
abbrev cX8_addShop : ByteArray := prog_7_method_29_code
def yX8_addShop : MethodName := ⟨RX8, "addShop", "(IIIZII)I"⟩
abbrev cX8_state : ByteArray := prog_7_method_30_code
def yX8_state : MethodName := ⟨RX8, "state", "(I)C"⟩
abbrev cX8_unitOf : ByteArray := prog_7_method_31_code
def yX8_unitOf : MethodName := ⟨RX8, "unitOf", "(I)I"⟩
abbrev cX8_homeOf : ByteArray := prog_7_method_32_code
def yX8_homeOf : MethodName := ⟨RX8, "homeOf", "(I)I"⟩
abbrev cX8_comesIn : ByteArray := prog_7_method_33_code
def yX8_comesIn : MethodName := ⟨RX8, "comesIn", "(LTwofrontArcadeModel$Shop;CI)V"⟩
abbrev cX8_move : ByteArray := prog_7_method_34_code
def yX8_move : MethodName := ⟨RX8, "move", "(II)I"⟩
abbrev cX8_free : ByteArray := prog_7_method_35_code
def yX8_free : MethodName := ⟨RX8, "free", "()I"⟩
abbrev cX8_toStall : ByteArray := prog_7_method_36_code
def yX8_toStall : MethodName := ⟨RX8, "toStall", "(I)I"⟩
abbrev cX8_store : ByteArray := prog_7_method_37_code
def yX8_store : MethodName := ⟨RX8, "store", "(I)I"⟩
abbrev cX8_comes : ByteArray := prog_7_method_38_code
def yX8_comes : MethodName := ⟨RX8, "comes", "(I)Z"⟩
abbrev cX8_mayBeShut : ByteArray := prog_7_method_39_code
def yX8_mayBeShut : MethodName := ⟨RX8, "mayBeShut", "(I)I"⟩
abbrev cX8_seenOf : ByteArray := prog_7_method_40_code
def yX8_seenOf : MethodName := ⟨RX8, "seenOf", "(LTwofrontArcadeModel$Shop;)I"⟩
abbrev cX8_seen : ByteArray := prog_7_method_41_code
def yX8_seen : MethodName := ⟨RX8, "seen", "(I)I"⟩
abbrev cX8_known : ByteArray := prog_7_method_42_code
def yX8_known : MethodName := ⟨RX8, "known", "(I)I"⟩
abbrev cX8_isStrike : ByteArray := prog_7_method_43_code
def yX8_isStrike : MethodName := ⟨RX8, "isStrike", "()Z"⟩
abbrev cX8_dustAt : ByteArray := prog_7_method_44_code
def yX8_dustAt : MethodName := ⟨RX8, "dustAt", "(LTwofrontArcadeModel$Shop;)Z"⟩
abbrev cX8_isDusty : ByteArray := prog_7_method_45_code
def yX8_isDusty : MethodName := ⟨RX8, "isDusty", "(I)Z"⟩
abbrev cX8_setPeople : ByteArray := prog_7_method_46_code
def yX8_setPeople : MethodName := ⟨RX8, "setPeople", "(II)I"⟩
abbrev cX8_trades : ByteArray := prog_7_method_47_code
def yX8_trades : MethodName := ⟨RX8, "trades", "(LTwofrontArcadeModel$Shop;)V"⟩
abbrev cX8_isHushed : ByteArray := prog_7_method_48_code
def yX8_isHushed : MethodName := ⟨RX8, "isHushed", "(LTwofrontArcadeModel$Crew;)Z"⟩
abbrev cX8_works : ByteArray := prog_7_method_49_code
def yX8_works : MethodName := ⟨RX8, "works", "(I)Z"⟩
abbrev cX8_goesOn : ByteArray := prog_7_method_50_code
def yX8_goesOn : MethodName := ⟨RX8, "goesOn", "()V"⟩
abbrev cX8_pass : ByteArray := prog_7_method_51_code
def yX8_pass : MethodName := ⟨RX8, "pass", "(I)I"⟩
abbrev cX8_day : ByteArray := prog_7_method_52_code
def yX8_day : MethodName := ⟨RX8, "day", "()I"⟩
abbrev cX8_addCrew : ByteArray := prog_7_method_53_code
def yX8_addCrew : MethodName := ⟨RX8, "addCrew", "(C)I"⟩
abbrev cX8_send : ByteArray := prog_7_method_54_code
def yX8_send : MethodName := ⟨RX8, "send", "(II)I"⟩
abbrev cX8_canWork : ByteArray := prog_7_method_55_code
def yX8_canWork : MethodName := ⟨RX8, "canWork", "(I)Z"⟩
abbrev cX8_strike : ByteArray := prog_7_method_56_code
def yX8_strike : MethodName := ⟨RX8, "strike", "(I)I"⟩
abbrev cX8_lostDays : ByteArray := prog_7_method_57_code
def yX8_lostDays : MethodName := ⟨RX8, "lostDays", "(IC)I"⟩
abbrev cX8_goes : ByteArray := prog_7_method_58_code
def yX8_goes : MethodName := ⟨RX8, "goes", "(I[I[I)V"⟩
abbrev cX8_startsThen : ByteArray := prog_7_method_59_code
def yX8_startsThen : MethodName := ⟨RX8, "startsThen", "(I[I[III)V"⟩
abbrev cX8_canStart : ByteArray := prog_7_method_60_code
def yX8_canStart : MethodName := ⟨RX8, "canStart", "(II[I[I)Z"⟩
abbrev cX8_takes : ByteArray := prog_7_method_61_code
def yX8_takes : MethodName := ⟨RX8, "takes", "(I[I[I)V"⟩
abbrev cX8_noProgramme : ByteArray := prog_7_method_62_code
def yX8_noProgramme : MethodName := ⟨RX8, "noProgramme", "()Z"⟩
abbrev cX8_programmes : ByteArray := prog_7_method_63_code
def yX8_programmes : MethodName := ⟨RX8, "programmes", "()V"⟩
abbrev cX8_shortest : ByteArray := prog_7_method_64_code
def yX8_shortest : MethodName := ⟨RX8, "shortest", "()I"⟩
abbrev cX8_startIn : ByteArray := prog_7_method_65_code
def yX8_startIn : MethodName := ⟨RX8, "startIn", "(I)I"⟩
abbrev cX8_took : ByteArray := prog_7_method_66_code
def yX8_took : MethodName := ⟨RX8, "took", "(I)J"⟩
abbrev cX8_lost : ByteArray := prog_7_method_67_code
def yX8_lost : MethodName := ⟨RX8, "lost", "(IC)J"⟩
abbrev cX8_rent : ByteArray := prog_7_method_68_code
def yX8_rent : MethodName := ⟨RX8, "rent", "(I)J"⟩
abbrev cX8_fund : ByteArray := prog_7_method_69_code
def yX8_fund : MethodName := ⟨RX8, "fund", "()J"⟩
abbrev cX8_checksum : ByteArray := prog_7_method_70_code
def yX8_checksum : MethodName := ⟨RX8, "checksum", "()J"⟩
abbrev cX8_openShare : ByteArray := prog_7_method_71_code
def yX8_openShare : MethodName := ⟨RX8, "openShare", "()F"⟩
abbrev cX8_meanTaken : ByteArray := prog_7_method_72_code
def yX8_meanTaken : MethodName := ⟨RX8, "meanTaken", "()D"⟩
abbrev cX8_isSound : ByteArray := prog_7_method_73_code
def yX8_isSound : MethodName := ⟨RX8, "isSound", "()Z"⟩
def RJx145de : String := "java/io/Serializable"
def TJx145de : u_T := fun k => match k with
  | _ => ("", "", "", false)
def tyJx145de : Nat → FieldType := fun k => match k with
  | _ => .int
abbrev wsJx145de0 : List Cond := u_ws RJx145de TJx145de 0
theorem nmJx145de : ∀ a, a < 0 → ∀ b, b < 0 → a ≠ b → (TJx145de a).2.1 ≠ (TJx145de b).2.1 := by decide +kernel
theorem tyJx145de_ok : ∀ k, k < 0 → parseFieldDescriptor (TJx145de k).2.2.1 = some (tyJx145de k) := by decide +kernel
def RJx9f9b0 : String := "java/lang/CharSequence"
def TJx9f9b0 : u_T := fun k => match k with
  | _ => ("", "", "", false)
def tyJx9f9b0 : Nat → FieldType := fun k => match k with
  | _ => .int
abbrev wsJx9f9b00 : List Cond := u_ws RJx9f9b0 TJx9f9b0 0
theorem nmJx9f9b0 : ∀ a, a < 0 → ∀ b, b < 0 → a ≠ b → (TJx9f9b0 a).2.1 ≠ (TJx9f9b0 b).2.1 := by decide +kernel
theorem tyJx9f9b0_ok : ∀ k, k < 0 → parseFieldDescriptor (TJx9f9b0 k).2.2.1 = some (tyJx9f9b0 k) := by decide +kernel
def RJ11 : String := "java/lang/Character"
def TJ11 : u_T := fun k => match k with
  | _ => ("", "", "", false)
def tyJ11 : Nat → FieldType := fun k => match k with
  | _ => .int
abbrev wsJ110 : List Cond := u_ws RJ11 TJ11 0
theorem nmJ11 : ∀ a, a < 0 → ∀ b, b < 0 → a ≠ b → (TJ11 a).2.1 ≠ (TJ11 b).2.1 := by decide +kernel
theorem tyJ11_ok : ∀ k, k < 0 → parseFieldDescriptor (TJ11 k).2.2.1 = some (tyJ11 k) := by decide +kernel
abbrev cJ11_isValidCodePoint_9a6ad : ByteArray := prog_13_method_11_code
def yJ11_isValidCodePoint_9a6ad : MethodName := ⟨RJ11, "isValidCodePoint", "(I)Z"⟩
abbrev cJ11_highSurrogate_5068e : ByteArray := prog_13_method_28_code
def yJ11_highSurrogate_5068e : MethodName := ⟨RJ11, "highSurrogate", "(I)C"⟩
abbrev cJ11_lowSurrogate_5068e : ByteArray := prog_13_method_29_code
def yJ11_lowSurrogate_5068e : MethodName := ⟨RJ11, "lowSurrogate", "(I)C"⟩
def RJx8e188 : String := "java/lang/Cloneable"
def TJx8e188 : u_T := fun k => match k with
  | _ => ("", "", "", false)
def tyJx8e188 : Nat → FieldType := fun k => match k with
  | _ => .int
abbrev wsJx8e1880 : List Cond := u_ws RJx8e188 TJx8e188 0
theorem nmJx8e188 : ∀ a, a < 0 → ∀ b, b < 0 → a ≠ b → (TJx8e188 a).2.1 ≠ (TJx8e188 b).2.1 := by decide +kernel
theorem tyJx8e188_ok : ∀ k, k < 0 → parseFieldDescriptor (TJx8e188 k).2.2.1 = some (tyJx8e188 k) := by decide +kernel
def RJxb160c : String := "java/lang/Comparable"
def TJxb160c : u_T := fun k => match k with
  | _ => ("", "", "", false)
def tyJxb160c : Nat → FieldType := fun k => match k with
  | _ => .int
abbrev wsJxb160c0 : List Cond := u_ws RJxb160c TJxb160c 0
theorem nmJxb160c : ∀ a, a < 0 → ∀ b, b < 0 → a ≠ b → (TJxb160c a).2.1 ≠ (TJxb160c b).2.1 := by decide +kernel
theorem tyJxb160c_ok : ∀ k, k < 0 → parseFieldDescriptor (TJxb160c k).2.2.1 = some (tyJxb160c k) := by decide +kernel
def RJ6 : String := "java/lang/Integer"
def TJ6 : u_T := fun k => match k with
  | _ => ("", "", "", false)
def tyJ6 : Nat → FieldType := fun k => match k with
  | _ => .int
abbrev wsJ60 : List Cond := u_ws RJ6 TJ6 0
theorem nmJ6 : ∀ a, a < 0 → ∀ b, b < 0 → a ≠ b → (TJ6 a).2.1 ≠ (TJ6 b).2.1 := by decide +kernel
theorem tyJ6_ok : ∀ k, k < 0 → parseFieldDescriptor (TJ6 k).2.2.1 = some (tyJ6 k) := by decide +kernel
abbrev cJ6_bitCount_0f7a4 : ByteArray := prog_20_method_49_code
def yJ6_bitCount_0f7a4 : MethodName := ⟨RJ6, "bitCount", "(I)I"⟩
def RJxab1ab : String := "java/lang/Iterable"
def TJxab1ab : u_T := fun k => match k with
  | _ => ("", "", "", false)
def tyJxab1ab : Nat → FieldType := fun k => match k with
  | _ => .int
abbrev wsJxab1ab0 : List Cond := u_ws RJxab1ab TJxab1ab 0
theorem nmJxab1ab : ∀ a, a < 0 → ∀ b, b < 0 → a ≠ b → (TJxab1ab a).2.1 ≠ (TJxab1ab b).2.1 := by decide +kernel
theorem tyJxab1ab_ok : ∀ k, k < 0 → parseFieldDescriptor (TJxab1ab k).2.2.1 = some (tyJxab1ab k) := by decide +kernel
def RJ9 : String := "java/lang/Math"
def TJ9 : u_T := fun k => match k with
  | _ => ("", "", "", false)
def tyJ9 : Nat → FieldType := fun k => match k with
  | _ => .int
abbrev wsJ90 : List Cond := u_ws RJ9 TJ9 0
theorem nmJ9 : ∀ a, a < 0 → ∀ b, b < 0 → a ≠ b → (TJ9 a).2.1 ≠ (TJ9 b).2.1 := by decide +kernel
theorem tyJ9_ok : ∀ k, k < 0 → parseFieldDescriptor (TJ9 k).2.2.1 = some (tyJ9 k) := by decide +kernel
abbrev cJ9_abs_0f7a4 : ByteArray := prog_22_method_59_code
def yJ9_abs_0f7a4 : MethodName := ⟨RJ9, "abs", "(I)I"⟩
abbrev cJ9_max_7cf53 : ByteArray := prog_22_method_65_code
def yJ9_max_7cf53 : MethodName := ⟨RJ9, "max", "(II)I"⟩
abbrev cJ9_min_7cf53 : ByteArray := prog_22_method_69_code
def yJ9_min_7cf53 : MethodName := ⟨RJ9, "min", "(II)I"⟩
def RJ0 : String := "java/lang/String"
def TJ0 : u_T := fun k => match k with
  | _ => ("", "", "", false)
def tyJ0 : Nat → FieldType := fun k => match k with
  | _ => .int
abbrev wsJ00 : List Cond := u_ws RJ0 TJ0 0
theorem nmJ0 : ∀ a, a < 0 → ∀ b, b < 0 → a ≠ b → (TJ0 a).2.1 ≠ (TJ0 b).2.1 := by decide +kernel
theorem tyJ0_ok : ∀ k, k < 0 → parseFieldDescriptor (TJ0 k).2.2.1 = some (tyJ0 k) := by decide +kernel
abbrev cJ0_length_8abf5 : ByteArray := prog_24_method_54_code
def yJ0_length_8abf5 : MethodName := ⟨RJ0, "length", "()I"⟩
abbrev cJ0_indexOf_0f7a4 : ByteArray := prog_24_method_79_code
def yJ0_indexOf_0f7a4 : MethodName := ⟨RJ0, "indexOf", "(I)I"⟩
abbrev cJ0_indexOf_7cf53 : ByteArray := prog_24_method_80_code
def yJ0_indexOf_7cf53 : MethodName := ⟨RJ0, "indexOf", "(II)I"⟩
abbrev cJ0_coder_7d493 : ByteArray := prog_24_method_152_code
def yJ0_coder_7d493 : MethodName := ⟨RJ0, "coder", "()B"⟩
abbrev cJ0_isLatin1_aae02 : ByteArray := prog_24_method_154_code
def yJ0_isLatin1_aae02 : MethodName := ⟨RJ0, "isLatin1", "()Z"⟩
abbrev cJ0_checkBoundsBeginEnd_23922 : ByteArray := prog_24_method_158_code
def yJ0_checkBoundsBeginEnd_23922 : MethodName := ⟨RJ0, "checkBoundsBeginEnd", "(III)V"⟩
def RJ1 : String := "java/lang/StringLatin1"
def TJ1 : u_T := fun k => match k with
  | _ => ("", "", "", false)
def tyJ1 : Nat → FieldType := fun k => match k with
  | _ => .int
abbrev wsJ10 : List Cond := u_ws RJ1 TJ1 0
theorem nmJ1 : ∀ a, a < 0 → ∀ b, b < 0 → a ≠ b → (TJ1 a).2.1 ≠ (TJ1 b).2.1 := by decide +kernel
theorem tyJ1_ok : ∀ k, k < 0 → parseFieldDescriptor (TJ1 k).2.2.1 = some (tyJ1 k) := by decide +kernel
abbrev cJ1_canEncode_9a6ad : ByteArray := prog_25_method_4_code
def yJ1_canEncode_9a6ad : MethodName := ⟨RJ1, "canEncode", "(I)Z"⟩
abbrev cJ1_indexOf_4cfef : ByteArray := prog_25_method_22_code
def yJ1_indexOf_4cfef : MethodName := ⟨RJ1, "indexOf", "([BIII)I"⟩
abbrev cJ1_indexOfChar_4cfef : ByteArray := prog_25_method_23_code
def yJ1_indexOfChar_4cfef : MethodName := ⟨RJ1, "indexOfChar", "([BIII)I"⟩
def RJ2 : String := "java/lang/StringUTF16"
def TJ2 : u_T := fun k => match k with
  | _ => ("", "", "", false)
def tyJ2 : Nat → FieldType := fun k => match k with
  | _ => .int
abbrev wsJ20 : List Cond := u_ws RJ2 TJ2 0
theorem nmJ2 : ∀ a, a < 0 → ∀ b, b < 0 → a ≠ b → (TJ2 a).2.1 ≠ (TJ2 b).2.1 := by decide +kernel
theorem tyJ2_ok : ∀ k, k < 0 → parseFieldDescriptor (TJ2 k).2.2.1 = some (tyJ2 k) := by decide +kernel
abbrev cJ2_getChar_3b067 : ByteArray := prog_26_method_5_code
def yJ2_getChar_3b067 : MethodName := ⟨RJ2, "getChar", "([BI)C"⟩
abbrev cJ2_length_9d52b : ByteArray := prog_26_method_6_code
def yJ2_length_9d52b : MethodName := ⟨RJ2, "length", "([B)I"⟩
abbrev cJ2_indexOf_4cfef : ByteArray := prog_26_method_40_code
def yJ2_indexOf_4cfef : MethodName := ⟨RJ2, "indexOf", "([BIII)I"⟩
abbrev cJ2_indexOfChar_4cfef : ByteArray := prog_26_method_47_code
def yJ2_indexOfChar_4cfef : MethodName := ⟨RJ2, "indexOfChar", "([BIII)I"⟩
abbrev cJ2_indexOfCharUnsafe_4cfef : ByteArray := prog_26_method_48_code
def yJ2_indexOfCharUnsafe_4cfef : MethodName := ⟨RJ2, "indexOfCharUnsafe", "([BIII)I"⟩
abbrev cJ2_indexOfSupplementary_4cfef : ByteArray := prog_26_method_49_code
def yJ2_indexOfSupplementary_4cfef : MethodName := ⟨RJ2, "indexOfSupplementary", "([BIII)I"⟩
abbrev cJ2_checkBoundsBeginEnd_d044e : ByteArray := prog_26_method_93_code
def yJ2_checkBoundsBeginEnd_d044e : MethodName := ⟨RJ2, "checkBoundsBeginEnd", "(II[B)V"⟩
def RJ10 : String := "java/lang/System"
def TJ10 : u_T := fun k => match k with
  | _ => ("", "", "", false)
def tyJ10 : Nat → FieldType := fun k => match k with
  | _ => .int
abbrev wsJ100 : List Cond := u_ws RJ10 TJ10 0
theorem nmJ10 : ∀ a, a < 0 → ∀ b, b < 0 → a ≠ b → (TJ10 a).2.1 ≠ (TJ10 b).2.1 := by decide +kernel
theorem tyJ10_ok : ∀ k, k < 0 → parseFieldDescriptor (TJ10 k).2.2.1 = some (tyJ10 k) := by decide +kernel
def RJxfd54e : String := "java/lang/constant/Constable"
def TJxfd54e : u_T := fun k => match k with
  | _ => ("", "", "", false)
def tyJxfd54e : Nat → FieldType := fun k => match k with
  | _ => .int
abbrev wsJxfd54e0 : List Cond := u_ws RJxfd54e TJxfd54e 0
theorem nmJxfd54e : ∀ a, a < 0 → ∀ b, b < 0 → a ≠ b → (TJxfd54e a).2.1 ≠ (TJxfd54e b).2.1 := by decide +kernel
theorem tyJxfd54e_ok : ∀ k, k < 0 → parseFieldDescriptor (TJxfd54e k).2.2.1 = some (tyJxfd54e k) := by decide +kernel
def RJx3cf43 : String := "java/lang/constant/ConstantDesc"
def TJx3cf43 : u_T := fun k => match k with
  | _ => ("", "", "", false)
def tyJx3cf43 : Nat → FieldType := fun k => match k with
  | _ => .int
abbrev wsJx3cf430 : List Cond := u_ws RJx3cf43 TJx3cf43 0
theorem nmJx3cf43 : ∀ a, a < 0 → ∀ b, b < 0 → a ≠ b → (TJx3cf43 a).2.1 ≠ (TJx3cf43 b).2.1 := by decide +kernel
theorem tyJx3cf43_ok : ∀ k, k < 0 → parseFieldDescriptor (TJx3cf43 k).2.2.1 = some (tyJx3cf43 k) := by decide +kernel
def RJxa1e45 : String := "java/util/AbstractCollection"
def TJxa1e45 : u_T := fun k => match k with
  | _ => ("", "", "", false)
def tyJxa1e45 : Nat → FieldType := fun k => match k with
  | _ => .int
abbrev wsJxa1e450 : List Cond := u_ws RJxa1e45 TJxa1e45 0
theorem nmJxa1e45 : ∀ a, a < 0 → ∀ b, b < 0 → a ≠ b → (TJxa1e45 a).2.1 ≠ (TJxa1e45 b).2.1 := by decide +kernel
theorem tyJxa1e45_ok : ∀ k, k < 0 → parseFieldDescriptor (TJxa1e45 k).2.2.1 = some (tyJxa1e45 k) := by decide +kernel
abbrev cJxa1e45_init_da8c8 : ByteArray := prog_32_method_1_code
def yJxa1e45_init_da8c8 : MethodName := ⟨RJxa1e45, "<init>", "()V"⟩
def RJxc12de : String := "java/util/AbstractList"
def TJxc12de : u_T := fun k => match k with
  | _ => ("", "", "", false)
def tyJxc12de : Nat → FieldType := fun k => match k with
  | _ => .int
abbrev wsJxc12de0 : List Cond := u_ws RJxc12de TJxc12de 0
theorem nmJxc12de : ∀ a, a < 0 → ∀ b, b < 0 → a ≠ b → (TJxc12de a).2.1 ≠ (TJxc12de b).2.1 := by decide +kernel
theorem tyJxc12de_ok : ∀ k, k < 0 → parseFieldDescriptor (TJxc12de k).2.2.1 = some (tyJxc12de k) := by decide +kernel
abbrev cJxc12de_init_da8c8 : ByteArray := prog_33_method_1_code
def yJxc12de_init_da8c8 : MethodName := ⟨RJxc12de, "<init>", "()V"⟩
def RJx35411 : String := "java/util/ArrayList$Itr"
def TJx35411 : u_T := fun k => match k with
  | 0 => ("java/util/ArrayList$Itr", "cursor", "I", false)
  | 1 => ("java/util/ArrayList$Itr", "lastRet", "I", false)
  | 2 => ("java/util/ArrayList$Itr", "expectedModCount", "I", false)
  | _ => ("java/util/ArrayList$Itr", "this$0", "Ljava/util/ArrayList;", true)
def tyJx35411 : Nat → FieldType := fun k => match k with
  | 0 => .int
  | 1 => .int
  | 2 => .int
  | _ => .object "java/util/ArrayList"
abbrev wsJx354110 : List Cond := u_ws RJx35411 TJx35411 4
theorem nmJx35411 : ∀ a, a < 4 → ∀ b, b < 4 → a ≠ b → (TJx35411 a).2.1 ≠ (TJx35411 b).2.1 := by decide +kernel
theorem tyJx35411_ok : ∀ k, k < 4 → parseFieldDescriptor (TJx35411 k).2.2.1 = some (tyJx35411 k) := by decide +kernel
abbrev cJx35411_init_45d68 : ByteArray := prog_35_method_1_code
def yJx35411_init_45d68 : MethodName := ⟨RJx35411, "<init>", "(Ljava/util/ArrayList;)V"⟩
abbrev cJx35411_hasNext_aae02 : ByteArray := prog_35_method_2_code
def yJx35411_hasNext_aae02 : MethodName := ⟨RJx35411, "hasNext", "()Z"⟩
abbrev cJx35411_next_0502b : ByteArray := prog_35_method_3_code
def yJx35411_next_0502b : MethodName := ⟨RJx35411, "next", "()Ljava/lang/Object;"⟩
abbrev cJx35411_checkForComodification_da8c8 : ByteArray := prog_35_method_6_code
def yJx35411_checkForComodification_da8c8 : MethodName := ⟨RJx35411, "checkForComodification", "()V"⟩
def RJx4a65c : String := "java/util/ArrayList"
def TJx4a65c : u_T := fun k => match k with
  | 0 => ("java/util/AbstractList", "modCount", "I", false)
  | 1 => ("java/util/ArrayList", "elementData", "[Ljava/lang/Object;", false)
  | _ => ("java/util/ArrayList", "size", "I", false)
def tyJx4a65c : Nat → FieldType := fun k => match k with
  | 0 => .int
  | 1 => .array (.object "java/lang/Object")
  | _ => .int
abbrev wsJx4a65c0 : List Cond := u_ws RJx4a65c TJx4a65c 3
theorem nmJx4a65c : ∀ a, a < 3 → ∀ b, b < 3 → a ≠ b → (TJx4a65c a).2.1 ≠ (TJx4a65c b).2.1 := by decide +kernel
theorem tyJx4a65c_ok : ∀ k, k < 3 → parseFieldDescriptor (TJx4a65c k).2.2.1 = some (tyJx4a65c k) := by decide +kernel
abbrev cJx4a65c_init_da8c8 : ByteArray := prog_34_method_2_code
def yJx4a65c_init_da8c8 : MethodName := ⟨RJx4a65c, "<init>", "()V"⟩
abbrev cJx4a65c_grow_92f84 : ByteArray := prog_34_method_6_code
def yJx4a65c_grow_92f84 : MethodName := ⟨RJx4a65c, "grow", "(I)[Ljava/lang/Object;"⟩
abbrev cJx4a65c_grow_d5877 : ByteArray := prog_34_method_7_code
def yJx4a65c_grow_d5877 : MethodName := ⟨RJx4a65c, "grow", "()[Ljava/lang/Object;"⟩
abbrev cJx4a65c_size_8abf5 : ByteArray := prog_34_method_8_code
def yJx4a65c_size_8abf5 : MethodName := ⟨RJx4a65c, "size", "()I"⟩
abbrev cJx4a65c_isEmpty_aae02 : ByteArray := prog_34_method_9_code
def yJx4a65c_isEmpty_aae02 : MethodName := ⟨RJx4a65c, "isEmpty", "()Z"⟩
abbrev cJx4a65c_elementData_915e3 : ByteArray := prog_34_method_18_code
def yJx4a65c_elementData_915e3 : MethodName := ⟨RJx4a65c, "elementData", "(I)Ljava/lang/Object;"⟩
abbrev cJx4a65c_get_915e3 : ByteArray := prog_34_method_20_code
def yJx4a65c_get_915e3 : MethodName := ⟨RJx4a65c, "get", "(I)Ljava/lang/Object;"⟩
abbrev cJx4a65c_add_72be8 : ByteArray := prog_34_method_24_code
def yJx4a65c_add_72be8 : MethodName := ⟨RJx4a65c, "add", "(Ljava/lang/Object;[Ljava/lang/Object;I)V"⟩
abbrev cJx4a65c_add_9ea2d : ByteArray := prog_34_method_25_code
def yJx4a65c_add_9ea2d : MethodName := ⟨RJx4a65c, "add", "(Ljava/lang/Object;)Z"⟩
abbrev cJx4a65c_remove_915e3 : ByteArray := prog_34_method_29_code
def yJx4a65c_remove_915e3 : MethodName := ⟨RJx4a65c, "remove", "(I)Ljava/lang/Object;"⟩
abbrev cJx4a65c_fastRemove_b59b0 : ByteArray := prog_34_method_39_code
def yJx4a65c_fastRemove_b59b0 : MethodName := ⟨RJx4a65c, "fastRemove", "([Ljava/lang/Object;I)V"⟩
abbrev cJx4a65c_iterator_32c93 : ByteArray := prog_34_method_55_code
def yJx4a65c_iterator_32c93 : MethodName := ⟨RJx4a65c, "iterator", "()Ljava/util/Iterator;"⟩
def RJ7 : String := "java/util/Arrays"
def TJ7 : u_T := fun k => match k with
  | _ => ("", "", "", false)
def tyJ7 : Nat → FieldType := fun k => match k with
  | _ => .int
abbrev wsJ70 : List Cond := u_ws RJ7 TJ7 0
theorem nmJ7 : ∀ a, a < 0 → ∀ b, b < 0 → a ≠ b → (TJ7 a).2.1 ≠ (TJ7 b).2.1 := by decide +kernel
theorem tyJ7_ok : ∀ k, k < 0 → parseFieldDescriptor (TJ7 k).2.2.1 = some (tyJ7 k) := by decide +kernel
abbrev cJ7_copyOf_1904c : ByteArray := prog_36_method_119_code
def yJ7_copyOf_1904c : MethodName := ⟨RJ7, "copyOf", "([Ljava/lang/Object;I)[Ljava/lang/Object;"⟩
abbrev cJ7_copyOf_6403c : ByteArray := prog_36_method_120_code
def yJ7_copyOf_6403c : MethodName := ⟨RJ7, "copyOf", "([Ljava/lang/Object;ILjava/lang/Class;)[Ljava/lang/Object;"⟩
def RJx5ef63 : String := "java/util/Collection"
def TJx5ef63 : u_T := fun k => match k with
  | _ => ("", "", "", false)
def tyJx5ef63 : Nat → FieldType := fun k => match k with
  | _ => .int
abbrev wsJx5ef630 : List Cond := u_ws RJx5ef63 TJx5ef63 0
theorem nmJx5ef63 : ∀ a, a < 0 → ∀ b, b < 0 → a ≠ b → (TJx5ef63 a).2.1 ≠ (TJx5ef63 b).2.1 := by decide +kernel
theorem tyJx5ef63_ok : ∀ k, k < 0 → parseFieldDescriptor (TJx5ef63 k).2.2.1 = some (tyJx5ef63 k) := by decide +kernel
def RJx4d0d8 : String := "java/util/Iterator"
def TJx4d0d8 : u_T := fun k => match k with
  | _ => ("", "", "", false)
def tyJx4d0d8 : Nat → FieldType := fun k => match k with
  | _ => .int
abbrev wsJx4d0d80 : List Cond := u_ws RJx4d0d8 TJx4d0d8 0
theorem nmJx4d0d8 : ∀ a, a < 0 → ∀ b, b < 0 → a ≠ b → (TJx4d0d8 a).2.1 ≠ (TJx4d0d8 b).2.1 := by decide +kernel
theorem tyJx4d0d8_ok : ∀ k, k < 0 → parseFieldDescriptor (TJx4d0d8 k).2.2.1 = some (tyJx4d0d8 k) := by decide +kernel
def RJxbd725 : String := "java/util/List"
def TJxbd725 : u_T := fun k => match k with
  | _ => ("", "", "", false)
def tyJxbd725 : Nat → FieldType := fun k => match k with
  | _ => .int
abbrev wsJxbd7250 : List Cond := u_ws RJxbd725 TJxbd725 0
theorem nmJxbd725 : ∀ a, a < 0 → ∀ b, b < 0 → a ≠ b → (TJxbd725 a).2.1 ≠ (TJxbd725 b).2.1 := by decide +kernel
theorem tyJxbd725_ok : ∀ k, k < 0 → parseFieldDescriptor (TJxbd725 k).2.2.1 = some (tyJxbd725 k) := by decide +kernel
def RJ15 : String := "java/util/Objects"
def TJ15 : u_T := fun k => match k with
  | _ => ("", "", "", false)
def tyJ15 : Nat → FieldType := fun k => match k with
  | _ => .int
abbrev wsJ150 : List Cond := u_ws RJ15 TJ15 0
theorem nmJ15 : ∀ a, a < 0 → ∀ b, b < 0 → a ≠ b → (TJ15 a).2.1 ≠ (TJ15 b).2.1 := by decide +kernel
theorem tyJ15_ok : ∀ k, k < 0 → parseFieldDescriptor (TJ15 k).2.2.1 = some (tyJ15 k) := by decide +kernel
abbrev cJ15_checkIndex_7cf53 : ByteArray := prog_41_method_17_code
def yJ15_checkIndex_7cf53 : MethodName := ⟨RJ15, "checkIndex", "(II)I"⟩
def RJxf0a74 : String := "java/util/RandomAccess"
def TJxf0a74 : u_T := fun k => match k with
  | _ => ("", "", "", false)
def tyJxf0a74 : Nat → FieldType := fun k => match k with
  | _ => .int
abbrev wsJxf0a740 : List Cond := u_ws RJxf0a74 TJxf0a74 0
theorem nmJxf0a74 : ∀ a, a < 0 → ∀ b, b < 0 → a ≠ b → (TJxf0a74 a).2.1 ≠ (TJxf0a74 b).2.1 := by decide +kernel
theorem tyJxf0a74_ok : ∀ k, k < 0 → parseFieldDescriptor (TJxf0a74 k).2.2.1 = some (tyJxf0a74 k) := by decide +kernel
def RJxa66e6 : String := "java/util/SequencedCollection"
def TJxa66e6 : u_T := fun k => match k with
  | _ => ("", "", "", false)
def tyJxa66e6 : Nat → FieldType := fun k => match k with
  | _ => .int
abbrev wsJxa66e60 : List Cond := u_ws RJxa66e6 TJxa66e6 0
theorem nmJxa66e6 : ∀ a, a < 0 → ∀ b, b < 0 → a ≠ b → (TJxa66e6 a).2.1 ≠ (TJxa66e6 b).2.1 := by decide +kernel
theorem tyJxa66e6_ok : ∀ k, k < 0 → parseFieldDescriptor (TJxa66e6 k).2.2.1 = some (tyJxa66e6 k) := by decide +kernel
def RJ8 : String := "jdk/internal/util/ArraysSupport"
def TJ8 : u_T := fun k => match k with
  | _ => ("", "", "", false)
def tyJ8 : Nat → FieldType := fun k => match k with
  | _ => .int
abbrev wsJ80 : List Cond := u_ws RJ8 TJ8 0
theorem nmJ8 : ∀ a, a < 0 → ∀ b, b < 0 → a ≠ b → (TJ8 a).2.1 ≠ (TJ8 b).2.1 := by decide +kernel
theorem tyJ8_ok : ∀ k, k < 0 → parseFieldDescriptor (TJ8 k).2.2.1 = some (tyJ8 k) := by decide +kernel
abbrev cJ8_newLength_cabcc : ByteArray := prog_44_method_27_code
def yJ8_newLength_cabcc : MethodName := ⟨RJ8, "newLength", "(III)I"⟩
abbrev cJ8_hugeLength_7cf53 : ByteArray := prog_44_method_28_code
def yJ8_hugeLength_7cf53 : MethodName := ⟨RJ8, "hugeLength", "(II)I"⟩
def RJ3 : String := "jdk/internal/util/Preconditions"
def TJ3 : u_T := fun k => match k with
  | _ => ("", "", "", false)
def tyJ3 : Nat → FieldType := fun k => match k with
  | _ => .int
abbrev wsJ30 : List Cond := u_ws RJ3 TJ3 0
theorem nmJ3 : ∀ a, a < 0 → ∀ b, b < 0 → a ≠ b → (TJ3 a).2.1 ≠ (TJ3 b).2.1 := by decide +kernel
theorem tyJ3_ok : ∀ k, k < 0 → parseFieldDescriptor (TJ3 k).2.2.1 = some (tyJ3 k) := by decide +kernel
abbrev cJ3_checkIndex_8e157 : ByteArray := prog_45_method_11_code
def yJ3_checkIndex_8e157 : MethodName := ⟨RJ3, "checkIndex", "(IILjava/util/function/BiFunction;)I"⟩
abbrev cJ3_checkFromToIndex_8c36e : ByteArray := prog_45_method_12_code
def yJ3_checkFromToIndex_8c36e : MethodName := ⟨RJ3, "checkFromToIndex", "(IIILjava/util/function/BiFunction;)I"⟩
def RL : String := "TwofrontArcadeLaw"
abbrev cL_addUnit : ByteArray := method_3_code
def yL_addUnit : MethodName := ⟨RL, "addUnit", "(LTwofrontArcade;I[J)I"⟩
abbrev cL_addWall : ByteArray := method_4_code
def yL_addWall : MethodName := ⟨RL, "addWall", "(LTwofrontArcade;II[J)I"⟩
abbrev cL_plan : ByteArray := method_5_code
def yL_plan : MethodName := ⟨RL, "plan", "(LTwofrontArcade;II[J)I"⟩
abbrev cL_rest : ByteArray := method_6_code
def yL_rest : MethodName := ⟨RL, "rest", "(LTwofrontArcade;II[J)I"⟩
abbrev cL_notice : ByteArray := method_7_code
def yL_notice : MethodName := ⟨RL, "notice", "(LTwofrontArcade;II[J)I"⟩
abbrev cL_work : ByteArray := method_8_code
def yL_work : MethodName := ⟨RL, "work", "(LTwofrontArcade;I[J)I"⟩
abbrev cL_left : ByteArray := method_9_code
def yL_left : MethodName := ⟨RL, "left", "(LTwofrontArcade;I[J)I"⟩
abbrev cL_whyNot : ByteArray := method_10_code
def yL_whyNot : MethodName := ⟨RL, "whyNot", "(LTwofrontArcade;I[J)I"⟩
abbrev cL_begin : ByteArray := method_11_code
def yL_begin : MethodName := ⟨RL, "begin", "(LTwofrontArcade;I[J)I"⟩
abbrev cL_find : ByteArray := method_12_code
def yL_find : MethodName := ⟨RL, "find", "(LTwofrontArcade;II[J)I"⟩
abbrev cL_addShop : ByteArray := method_13_code
def yL_addShop : MethodName := ⟨RL, "addShop", "(LTwofrontArcade;IIIZII[J)I"⟩
abbrev cL_state : ByteArray := method_14_code
def yL_state : MethodName := ⟨RL, "state", "(LTwofrontArcade;I[J)I"⟩
abbrev cL_unitOf : ByteArray := method_15_code
def yL_unitOf : MethodName := ⟨RL, "unitOf", "(LTwofrontArcade;I[J)I"⟩
abbrev cL_homeOf : ByteArray := method_16_code
def yL_homeOf : MethodName := ⟨RL, "homeOf", "(LTwofrontArcade;I[J)I"⟩
abbrev cL_move : ByteArray := method_17_code
def yL_move : MethodName := ⟨RL, "move", "(LTwofrontArcade;II[J)I"⟩
abbrev cL_toStall : ByteArray := method_18_code
def yL_toStall : MethodName := ⟨RL, "toStall", "(LTwofrontArcade;I[J)I"⟩
abbrev cL_store : ByteArray := method_19_code
def yL_store : MethodName := ⟨RL, "store", "(LTwofrontArcade;I[J)I"⟩
abbrev cL_comes : ByteArray := method_20_code
def yL_comes : MethodName := ⟨RL, "comes", "(LTwofrontArcade;I[J)I"⟩
abbrev cL_mayBeShut : ByteArray := method_21_code
def yL_mayBeShut : MethodName := ⟨RL, "mayBeShut", "(LTwofrontArcade;I[J)I"⟩
abbrev cL_seen : ByteArray := method_22_code
def yL_seen : MethodName := ⟨RL, "seen", "(LTwofrontArcade;I[J)I"⟩
abbrev cL_known : ByteArray := method_23_code
def yL_known : MethodName := ⟨RL, "known", "(LTwofrontArcade;I[J)I"⟩
abbrev cL_isDusty : ByteArray := method_24_code
def yL_isDusty : MethodName := ⟨RL, "isDusty", "(LTwofrontArcade;I[J)I"⟩
abbrev cL_flow : ByteArray := method_25_code
def yL_flow : MethodName := ⟨RL, "flow", "(LTwofrontArcade;I[J)I"⟩
abbrev cL_room : ByteArray := method_26_code
def yL_room : MethodName := ⟨RL, "room", "(LTwofrontArcade;I[J)I"⟩
abbrev cL_setPeople : ByteArray := method_27_code
def yL_setPeople : MethodName := ⟨RL, "setPeople", "(LTwofrontArcade;II[J)I"⟩
abbrev cL_pass : ByteArray := method_28_code
def yL_pass : MethodName := ⟨RL, "pass", "(LTwofrontArcade;I[J)I"⟩
abbrev cL_addCrew : ByteArray := method_29_code
def yL_addCrew : MethodName := ⟨RL, "addCrew", "(LTwofrontArcade;C[J)I"⟩
abbrev cL_send : ByteArray := method_30_code
def yL_send : MethodName := ⟨RL, "send", "(LTwofrontArcade;II[J)I"⟩
abbrev cL_canWork : ByteArray := method_31_code
def yL_canWork : MethodName := ⟨RL, "canWork", "(LTwofrontArcade;I[J)I"⟩
abbrev cL_strike : ByteArray := method_32_code
def yL_strike : MethodName := ⟨RL, "strike", "(LTwofrontArcade;I[J)I"⟩
abbrev cL_lostDays : ByteArray := method_33_code
def yL_lostDays : MethodName := ⟨RL, "lostDays", "(LTwofrontArcade;IC[J)I"⟩
abbrev cL_shortest : ByteArray := method_34_code
def yL_shortest : MethodName := ⟨RL, "shortest", "(LTwofrontArcade;[J)I"⟩
abbrev cL_startIn : ByteArray := method_35_code
def yL_startIn : MethodName := ⟨RL, "startIn", "(LTwofrontArcade;I[J)I"⟩
abbrev cL_took : ByteArray := method_36_code
def yL_took : MethodName := ⟨RL, "took", "(LTwofrontArcade;I[J)I"⟩
abbrev cL_lost : ByteArray := method_37_code
def yL_lost : MethodName := ⟨RL, "lost", "(LTwofrontArcade;IC[J)I"⟩
abbrev cL_rent : ByteArray := method_38_code
def yL_rent : MethodName := ⟨RL, "rent", "(LTwofrontArcade;I[J)I"⟩
abbrev cL_openShare : ByteArray := method_39_code
def yL_openShare : MethodName := ⟨RL, "openShare", "(LTwofrontArcade;[D)I"⟩
abbrev cL_meanTaken : ByteArray := method_40_code
def yL_meanTaken : MethodName := ⟨RL, "meanTaken", "(LTwofrontArcade;[D)I"⟩
abbrev cL_law : ByteArray := code
def yL_law : MethodName := ⟨RL, "law", "([I)Z"⟩
abbrev vwCl : List vw_C := [(RJx35411, TJx35411, 4), (RJx4a65c, TJx4a65c, 3), (RX0, TX0, 2), (RX1, TX1, 8), (RX2, TX2, 14), (RX3, TX3, 7), (RX4, TX4, 10), (RX5, TX5, 2), (RX6, TX6, 12), (RX7, TX7, 7), (RX8, TX8, 9)]
