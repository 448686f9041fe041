def R_law : String := "CoalStairsLaw"
def RX0 : String := "CoalStairs$Carrier"
def TX0 : u_T := fun k => match k with
  | 0 => ("CoalStairs$Carrier", "strength", "I", false)
  | 1 => ("CoalStairs$Carrier", "tired", "I", false)
  | 2 => ("CoalStairs$Carrier", "black", "I", false)
  | _ => ("CoalStairs$Carrier", "carriedSoFar", "I", false)
def tyX0 : Nat → FieldType := fun k => match k with
  | 0 => .int
  | 1 => .int
  | 2 => .int
  | _ => .int
theorem nmX0 : ∀ a, a < 4 → ∀ b, b < 4 → a ≠ b → (TX0 a).2.1 ≠ (TX0 b).2.1 := by decide +kernel
theorem tyX0_ok : ∀ k, k < 4 → parseFieldDescriptor (TX0 k).2.2.1 = some (tyX0 k) := by decide +kernel
abbrev cX0_init : ByteArray := prog_2_method_1_code
def yX0_init : MethodName := ⟨RX0, "<init>", "()V"⟩
abbrev cX0_copyFrom : ByteArray := prog_2_method_2_code
def yX0_copyFrom : MethodName := ⟨RX0, "copyFrom", "(LCoalStairs$Carrier;)V"⟩
abbrev cX0_number : ByteArray := prog_2_method_3_code
def yX0_number : MethodName := ⟨RX0, "number", "(I)I"⟩
abbrev cX0_tiredByASack : ByteArray := prog_2_method_4_code
def yX0_tiredByASack : MethodName := ⟨RX0, "tiredByASack", "(LCoalStairs$House;)I"⟩
abbrev cX0_carrySack : ByteArray := prog_2_method_6_code
def yX0_carrySack : MethodName := ⟨RX0, "carrySack", "(LCoalStairs$House;)V"⟩
abbrev cX0_beginDay : ByteArray := prog_2_method_7_code
def yX0_beginDay : MethodName := ⟨RX0, "beginDay", "()V"⟩
def RX1 : String := "CoalStairs$CommandText"
def TX1 : u_T := fun k => match k with
  | 0 => ("CoalStairs$CommandText", "characters", "[C", true)
  | 1 => ("CoalStairs$CommandText", "kinds", "[I", true)
  | 2 => ("CoalStairs$CommandText", "firsts", "[I", true)
  | 3 => ("CoalStairs$CommandText", "seconds", "[I", true)
  | 4 => ("CoalStairs$CommandText", "length", "I", false)
  | 5 => ("CoalStairs$CommandText", "count", "I", false)
  | 6 => ("CoalStairs$CommandText", "position", "I", false)
  | _ => ("CoalStairs$CommandText", "numberRead", "I", false)
def tyX1 : Nat → FieldType := fun k => match k with
  | 0 => .array .char
  | 1 => .array .int
  | 2 => .array .int
  | 3 => .array .int
  | 4 => .int
  | 5 => .int
  | 6 => .int
  | _ => .int
theorem nmX1 : ∀ a, a < 8 → ∀ b, b < 8 → a ≠ b → (TX1 a).2.1 ≠ (TX1 b).2.1 := by decide +kernel
theorem tyX1_ok : ∀ k, k < 8 → parseFieldDescriptor (TX1 k).2.2.1 = some (tyX1 k) := by decide +kernel
abbrev cX1_init : ByteArray := prog_3_method_1_code
def yX1_init : MethodName := ⟨RX1, "<init>", "()V"⟩
def RX2 : String := "CoalStairs$History"
def TX2 : u_T := fun k => match k with
  | 0 => ("CoalStairs$History", "rows", "[LCoalStairs$Street;", true)
  | 1 => ("CoalStairs$History", "next", "I", false)
  | _ => ("CoalStairs$History", "count", "I", false)
def tyX2 : Nat → FieldType := fun k => match k with
  | 0 => .array (.object "CoalStairs$Street")
  | 1 => .int
  | _ => .int
theorem nmX2 : ∀ a, a < 3 → ∀ b, b < 3 → a ≠ b → (TX2 a).2.1 ≠ (TX2 b).2.1 := by decide +kernel
theorem tyX2_ok : ∀ k, k < 3 → parseFieldDescriptor (TX2 k).2.2.1 = some (tyX2 k) := by decide +kernel
abbrev cX2_init : ByteArray := prog_4_method_1_code
def yX2_init : MethodName := ⟨RX2, "<init>", "()V"⟩
abbrev cX2_note : ByteArray := prog_4_method_2_code
def yX2_note : MethodName := ⟨RX2, "note", "(LCoalStairs$Street;)V"⟩
abbrev cX2_keepNoted : ByteArray := prog_4_method_4_code
def yX2_keepNoted : MethodName := ⟨RX2, "keepNoted", "()V"⟩
def RX3 : String := "CoalStairs$House"
def TX3 : u_T := fun k => match k with
  | 0 => ("CoalStairs$House", "flights", "I", false)
  | 1 => ("CoalStairs$House", "dog", "I", false)
  | 2 => ("CoalStairs$House", "ordered", "I", false)
  | 3 => ("CoalStairs$House", "due", "I", false)
  | 4 => ("CoalStairs$House", "arrears", "I", false)
  | 5 => ("CoalStairs$House", "footprints", "I", false)
  | 6 => ("CoalStairs$House", "carriedToday", "I", false)
  | 7 => ("CoalStairs$House", "hasBone", "Z", false)
  | _ => ("CoalStairs$House", "carriedSoFar", "I", false)
def tyX3 : Nat → FieldType := fun k => match k with
  | 0 => .int
  | 1 => .int
  | 2 => .int
  | 3 => .int
  | 4 => .int
  | 5 => .int
  | 6 => .int
  | 7 => .boolean
  | _ => .int
theorem nmX3 : ∀ a, a < 9 → ∀ b, b < 9 → a ≠ b → (TX3 a).2.1 ≠ (TX3 b).2.1 := by decide +kernel
theorem tyX3_ok : ∀ k, k < 9 → parseFieldDescriptor (TX3 k).2.2.1 = some (tyX3 k) := by decide +kernel
abbrev cX3_init : ByteArray := prog_5_method_1_code
def yX3_init : MethodName := ⟨RX3, "<init>", "()V"⟩
abbrev cX3_copyFrom : ByteArray := prog_5_method_2_code
def yX3_copyFrom : MethodName := ⟨RX3, "copyFrom", "(LCoalStairs$House;)V"⟩
abbrev cX3_number : ByteArray := prog_5_method_3_code
def yX3_number : MethodName := ⟨RX3, "number", "(I)I"⟩
abbrev cX3_dogStillLets : ByteArray := prog_5_method_4_code
def yX3_dogStillLets : MethodName := ⟨RX3, "dogStillLets", "()I"⟩
abbrev cX3_takeSack : ByteArray := prog_5_method_5_code
def yX3_takeSack : MethodName := ⟨RX3, "takeSack", "(I)V"⟩
abbrev cX3_beginDay : ByteArray := prog_5_method_6_code
def yX3_beginDay : MethodName := ⟨RX3, "beginDay", "()V"⟩
abbrev cX3_beginWeek : ByteArray := prog_5_method_7_code
def yX3_beginWeek : MethodName := ⟨RX3, "beginWeek", "()V"⟩
def RX4 : String := "CoalStairs$Reason"
def TX4 : u_T := fun k => match k with
  | 0 => ("CoalStairs$Reason", "why", "I", false)
  | 1 => ("CoalStairs$Reason", "detail", "I", false)
  | _ => ("CoalStairs$Reason", "command", "I", false)
def tyX4 : Nat → FieldType := fun k => match k with
  | 0 => .int
  | 1 => .int
  | _ => .int
theorem nmX4 : ∀ a, a < 3 → ∀ b, b < 3 → a ≠ b → (TX4 a).2.1 ≠ (TX4 b).2.1 := by decide +kernel
theorem tyX4_ok : ∀ k, k < 3 → parseFieldDescriptor (TX4 k).2.2.1 = some (tyX4 k) := by decide +kernel
abbrev cX4_init : ByteArray := prog_6_method_1_code
def yX4_init : MethodName := ⟨RX4, "<init>", "()V"⟩
abbrev cX4_refuse : ByteArray := prog_6_method_2_code
def yX4_refuse : MethodName := ⟨RX4, "refuse", "(II)I"⟩
def RX5 : String := "CoalStairs$Street"
def TX5 : u_T := fun k => match k with
  | 0 => ("CoalStairs$Street", "houses", "[LCoalStairs$House;", true)
  | 1 => ("CoalStairs$Street", "carriers", "[LCoalStairs$Carrier;", true)
  | 2 => ("CoalStairs$Street", "worn", "[I", true)
  | 3 => ("CoalStairs$Street", "houseCount", "I", false)
  | 4 => ("CoalStairs$Street", "carrierCount", "I", false)
  | 5 => ("CoalStairs$Street", "day", "I", false)
  | 6 => ("CoalStairs$Street", "place", "I", false)
  | 7 => ("CoalStairs$Street", "onCart", "I", false)
  | 8 => ("CoalStairs$Street", "inYard", "I", false)
  | 9 => ("CoalStairs$Street", "coins", "I", false)
  | 10 => ("CoalStairs$Street", "bonesLeft", "I", false)
  | 11 => ("CoalStairs$Street", "paid", "I", false)
  | _ => ("CoalStairs$Street", "uphill", "I", false)
def tyX5 : Nat → FieldType := fun k => match k with
  | 0 => .array (.object "CoalStairs$House")
  | 1 => .array (.object "CoalStairs$Carrier")
  | 2 => .array .int
  | 3 => .int
  | 4 => .int
  | 5 => .int
  | 6 => .int
  | 7 => .int
  | 8 => .int
  | 9 => .int
  | 10 => .int
  | 11 => .int
  | _ => .int
theorem nmX5 : ∀ a, a < 13 → ∀ b, b < 13 → a ≠ b → (TX5 a).2.1 ≠ (TX5 b).2.1 := by decide +kernel
theorem tyX5_ok : ∀ k, k < 13 → parseFieldDescriptor (TX5 k).2.2.1 = some (tyX5 k) := by decide +kernel
abbrev cX5_init : ByteArray := prog_7_method_1_code
def yX5_init : MethodName := ⟨RX5, "<init>", "()V"⟩
abbrev cX5_copyFrom : ByteArray := prog_7_method_2_code
def yX5_copyFrom : MethodName := ⟨RX5, "copyFrom", "(LCoalStairs$Street;)V"⟩
abbrev cX5_houseAt : ByteArray := prog_7_method_3_code
def yX5_houseAt : MethodName := ⟨RX5, "houseAt", "(I)LCoalStairs$House;"⟩
abbrev cX5_houseHere : ByteArray := prog_7_method_4_code
def yX5_houseHere : MethodName := ⟨RX5, "houseHere", "()LCoalStairs$House;"⟩
abbrev cX5_carrierAt : ByteArray := prog_7_method_5_code
def yX5_carrierAt : MethodName := ⟨RX5, "carrierAt", "(I)LCoalStairs$Carrier;"⟩
abbrev cX5_shoesLeft : ByteArray := prog_7_method_6_code
def yX5_shoesLeft : MethodName := ⟨RX5, "shoesLeft", "()I"⟩
abbrev cX5_goUphill : ByteArray := prog_7_method_7_code
def yX5_goUphill : MethodName := ⟨RX5, "goUphill", "(I)V"⟩
abbrev cX5_beginDay : ByteArray := prog_7_method_8_code
def yX5_beginDay : MethodName := ⟨RX5, "beginDay", "()V"⟩
abbrev cX5_sumOf : ByteArray := prog_7_method_9_code
def yX5_sumOf : MethodName := ⟨RX5, "sumOf", "(I)I"⟩
abbrev cX5_sacksOfCarriers : ByteArray := prog_7_method_10_code
def yX5_sacksOfCarriers : MethodName := ⟨RX5, "sacksOfCarriers", "()I"⟩
abbrev cX5_coinsForSacks : ByteArray := prog_7_method_11_code
def yX5_coinsForSacks : MethodName := ⟨RX5, "coinsForSacks", "()I"⟩
abbrev cX5_houseOfRank : ByteArray := prog_7_method_13_code
def yX5_houseOfRank : MethodName := ⟨RX5, "houseOfRank", "(I)I"⟩
abbrev cX5_isAhead : ByteArray := prog_7_method_14_code
def yX5_isAhead : MethodName := ⟨RX5, "isAhead", "(II)Z"⟩
abbrev cX5_number : ByteArray := prog_7_method_15_code
def yX5_number : MethodName := ⟨RX5, "number", "(I)I"⟩
def RX6 : String := "CoalStairs$Work"
def TX6 : u_T := fun k => match k with
  | 0 => ("CoalStairs$Work", "street", "LCoalStairs$Street;", true)
  | _ => ("CoalStairs$Work", "reason", "LCoalStairs$Reason;", true)
def tyX6 : Nat → FieldType := fun k => match k with
  | 0 => .object "CoalStairs$Street"
  | _ => .object "CoalStairs$Reason"
theorem nmX6 : ∀ a, a < 2 → ∀ b, b < 2 → a ≠ b → (TX6 a).2.1 ≠ (TX6 b).2.1 := by decide +kernel
theorem tyX6_ok : ∀ k, k < 2 → parseFieldDescriptor (TX6 k).2.2.1 = some (tyX6 k) := by decide +kernel
abbrev cX6_init : ByteArray := prog_8_method_1_code
def yX6_init : MethodName := ⟨RX6, "<init>", "()V"⟩
abbrev cX6_addHouse : ByteArray := prog_8_method_2_code
def yX6_addHouse : MethodName := ⟨RX6, "addHouse", "(II)I"⟩
abbrev cX6_setOrder : ByteArray := prog_8_method_3_code
def yX6_setOrder : MethodName := ⟨RX6, "setOrder", "(II)I"⟩
abbrev cX6_addCarrier : ByteArray := prog_8_method_4_code
def yX6_addCarrier : MethodName := ⟨RX6, "addCarrier", "(I)I"⟩
abbrev cX6_loadCart : ByteArray := prog_8_method_5_code
def yX6_loadCart : MethodName := ⟨RX6, "loadCart", "(I)I"⟩
abbrev cX6_driveCart : ByteArray := prog_8_method_6_code
def yX6_driveCart : MethodName := ⟨RX6, "driveCart", "(I)I"⟩
abbrev cX6_carryUp : ByteArray := prog_8_method_7_code
def yX6_carryUp : MethodName := ⟨RX6, "carryUp", "(II)I"⟩
abbrev cX6_isRefusedByHouse : ByteArray := prog_8_method_8_code
def yX6_isRefusedByHouse : MethodName := ⟨RX6, "isRefusedByHouse", "(LCoalStairs$House;I)Z"⟩
abbrev cX6_giveBone : ByteArray := prog_8_method_10_code
def yX6_giveBone : MethodName := ⟨RX6, "giveBone", "()I"⟩
abbrev cX6_buyBones : ByteArray := prog_8_method_11_code
def yX6_buyBones : MethodName := ⟨RX6, "buyBones", "(I)I"⟩
abbrev cX6_mopStairs : ByteArray := prog_8_method_12_code
def yX6_mopStairs : MethodName := ⟨RX6, "mopStairs", "(I)I"⟩
abbrev cX6_takePay : ByteArray := prog_8_method_13_code
def yX6_takePay : MethodName := ⟨RX6, "takePay", "(II)I"⟩
abbrev cX6_shoeHorse : ByteArray := prog_8_method_14_code
def yX6_shoeHorse : MethodName := ⟨RX6, "shoeHorse", "(I)I"⟩
abbrev cX6_passDays : ByteArray := prog_8_method_15_code
def yX6_passDays : MethodName := ⟨RX6, "passDays", "(I)I"⟩
def RX7 : String := "CoalStairs"
def TX7 : u_T := fun k => match k with
  | 0 => ("CoalStairs", "work", "LCoalStairs$Work;", true)
  | 1 => ("CoalStairs", "street", "LCoalStairs$Street;", true)
  | 2 => ("CoalStairs", "kept", "LCoalStairs$Reason;", true)
  | 3 => ("CoalStairs", "history", "LCoalStairs$History;", true)
  | 4 => ("CoalStairs", "snapshot", "LCoalStairs$Street;", true)
  | 5 => ("CoalStairs", "hasSnapshot", "Z", false)
  | 6 => ("CoalStairs", "text", "LCoalStairs$CommandText;", true)
  | 7 => ("CoalStairs", "fault", "I", false)
  | _ => ("CoalStairs", "written", "Ljava/lang/StringBuilder;", true)
def tyX7 : Nat → FieldType := fun k => match k with
  | 0 => .object "CoalStairs$Work"
  | 1 => .object "CoalStairs$Street"
  | 2 => .object "CoalStairs$Reason"
  | 3 => .object "CoalStairs$History"
  | 4 => .object "CoalStairs$Street"
  | 5 => .boolean
  | 6 => .object "CoalStairs$CommandText"
  | 7 => .int
  | _ => .object "java/lang/StringBuilder"
theorem nmX7 : ∀ a, a < 9 → ∀ b, b < 9 → a ≠ b → (TX7 a).2.1 ≠ (TX7 b).2.1 := by decide +kernel
theorem tyX7_ok : ∀ k, k < 9 → parseFieldDescriptor (TX7 k).2.2.1 = some (tyX7 k) := by decide +kernel
abbrev cX7_init : ByteArray := prog_1_method_1_code
def yX7_init : MethodName := ⟨RX7, "<init>", "()V"⟩
abbrev cX7_house : ByteArray := prog_1_method_2_code
def yX7_house : MethodName := ⟨RX7, "house", "(II)I"⟩
abbrev cX7_order : ByteArray := prog_1_method_3_code
def yX7_order : MethodName := ⟨RX7, "order", "(II)I"⟩
abbrev cX7_carrier : ByteArray := prog_1_method_4_code
def yX7_carrier : MethodName := ⟨RX7, "carrier", "(I)I"⟩
abbrev cX7_load : ByteArray := prog_1_method_5_code
def yX7_load : MethodName := ⟨RX7, "load", "(I)I"⟩
abbrev cX7_drive : ByteArray := prog_1_method_6_code
def yX7_drive : MethodName := ⟨RX7, "drive", "(I)I"⟩
abbrev cX7_carry : ByteArray := prog_1_method_7_code
def yX7_carry : MethodName := ⟨RX7, "carry", "(II)I"⟩
abbrev cX7_bone : ByteArray := prog_1_method_8_code
def yX7_bone : MethodName := ⟨RX7, "bone", "()I"⟩
abbrev cX7_bones : ByteArray := prog_1_method_9_code
def yX7_bones : MethodName := ⟨RX7, "bones", "(I)I"⟩
abbrev cX7_mop : ByteArray := prog_1_method_10_code
def yX7_mop : MethodName := ⟨RX7, "mop", "(I)I"⟩
abbrev cX7_pay : ByteArray := prog_1_method_11_code
def yX7_pay : MethodName := ⟨RX7, "pay", "(II)I"⟩
abbrev cX7_shoe : ByteArray := prog_1_method_12_code
def yX7_shoe : MethodName := ⟨RX7, "shoe", "(I)I"⟩
abbrev cX7_days : ByteArray := prog_1_method_13_code
def yX7_days : MethodName := ⟨RX7, "days", "(I)I"⟩
abbrev cX7_houseOf : ByteArray := prog_1_method_14_code
def yX7_houseOf : MethodName := ⟨RX7, "houseOf", "(II)I"⟩
abbrev cX7_carrierOf : ByteArray := prog_1_method_15_code
def yX7_carrierOf : MethodName := ⟨RX7, "carrierOf", "(II)I"⟩
abbrev cX7_shoeOf : ByteArray := prog_1_method_16_code
def yX7_shoeOf : MethodName := ⟨RX7, "shoeOf", "(I)I"⟩
abbrev cX7_reach : ByteArray := prog_1_method_21_code
def yX7_reach : MethodName := ⟨RX7, "reach", "()I"⟩
abbrev cX7_isQuiet : ByteArray := prog_1_method_22_code
def yX7_isQuiet : MethodName := ⟨RX7, "isQuiet", "(I)Z"⟩
abbrev cX7_ranked : ByteArray := prog_1_method_23_code
def yX7_ranked : MethodName := ⟨RX7, "ranked", "(I)I"⟩
abbrev cX7_carried : ByteArray := prog_1_method_24_code
def yX7_carried : MethodName := ⟨RX7, "carried", "()I"⟩
abbrev cX7_carriedAgain : ByteArray := prog_1_method_25_code
def yX7_carriedAgain : MethodName := ⟨RX7, "carriedAgain", "()I"⟩
abbrev cX7_meanArrears : ByteArray := prog_1_method_32_code
def yX7_meanArrears : MethodName := ⟨RX7, "meanArrears", "()F"⟩
abbrev cX7_paidShare : ByteArray := prog_1_method_33_code
def yX7_paidShare : MethodName := ⟨RX7, "paidShare", "()D"⟩
abbrev cX7_account : ByteArray := prog_1_method_34_code
def yX7_account : MethodName := ⟨RX7, "account", "(I)I"⟩
abbrev cX7_settled : ByteArray := prog_1_method_38_code
def yX7_settled : MethodName := ⟨RX7, "settled", "(I)I"⟩
abbrev cX7_isOutside : ByteArray := prog_1_method_40_code
def yX7_isOutside : MethodName := ⟨RX7, "isOutside", "(III)Z"⟩
def RX8 : String := "CoalStairsModel"
def TX8 : u_T := fun k => match k with
  | _ => ("", "", "", false)
def tyX8 : Nat → FieldType := fun k => match k with
  | _ => .int
theorem nmX8 : ∀ a, a < 0 → ∀ b, b < 0 → a ≠ b → (TX8 a).2.1 ≠ (TX8 b).2.1 := by decide +kernel
theorem tyX8_ok : ∀ k, k < 0 → parseFieldDescriptor (TX8 k).2.2.1 = some (tyX8 k) := by decide +kernel
def RJx145de : String := "java/io/Serializable"
def TJx145de : u_T := fun k => match k with
  | _ => ("", "", "", false)
def tyJx145de : Nat → FieldType := fun k => match k with
  | _ => .int
theorem nmJx145de : ∀ a, a < 0 → ∀ b, b < 0 → a ≠ b → (TJx145de a).2.1 ≠ (TJx145de b).2.1 := by decide +kernel
theorem tyJx145de_ok : ∀ k, k < 0 → parseFieldDescriptor (TJx145de k).2.2.1 = some (tyJx145de k) := by decide +kernel
def RJ5 : String := "java/lang/AbstractStringBuilder"
def TJ5 : u_T := fun k => match k with
  | _ => ("", "", "", false)
def tyJ5 : Nat → FieldType := fun k => match k with
  | _ => .int
theorem nmJ5 : ∀ a, a < 0 → ∀ b, b < 0 → a ≠ b → (TJ5 a).2.1 ≠ (TJ5 b).2.1 := by decide +kernel
theorem tyJ5_ok : ∀ k, k < 0 → parseFieldDescriptor (TJ5 k).2.2.1 = some (tyJ5 k) := by decide +kernel
abbrev cJ5_init_d00df : ByteArray := prog_12_method_2_code
def yJ5_init_d00df : MethodName := ⟨RJ5, "<init>", "(I)V"⟩
def RJx2cfe8 : String := "java/lang/Appendable"
def TJx2cfe8 : u_T := fun k => match k with
  | _ => ("", "", "", false)
def tyJx2cfe8 : Nat → FieldType := fun k => match k with
  | _ => .int
theorem nmJx2cfe8 : ∀ a, a < 0 → ∀ b, b < 0 → a ≠ b → (TJx2cfe8 a).2.1 ≠ (TJx2cfe8 b).2.1 := by decide +kernel
theorem tyJx2cfe8_ok : ∀ k, k < 0 → parseFieldDescriptor (TJx2cfe8 k).2.2.1 = some (tyJx2cfe8 k) := by decide +kernel
def RJx9f9b0 : String := "java/lang/CharSequence"
def TJx9f9b0 : u_T := fun k => match k with
  | _ => ("", "", "", false)
def tyJx9f9b0 : Nat → FieldType := fun k => match k with
  | _ => .int
theorem nmJx9f9b0 : ∀ a, a < 0 → ∀ b, b < 0 → a ≠ b → (TJx9f9b0 a).2.1 ≠ (TJx9f9b0 b).2.1 := by decide +kernel
theorem tyJx9f9b0_ok : ∀ k, k < 0 → parseFieldDescriptor (TJx9f9b0 k).2.2.1 = some (tyJx9f9b0 k) := by decide +kernel
def RJxb160c : String := "java/lang/Comparable"
def TJxb160c : u_T := fun k => match k with
  | _ => ("", "", "", false)
def tyJxb160c : Nat → FieldType := fun k => match k with
  | _ => .int
theorem nmJxb160c : ∀ a, a < 0 → ∀ b, b < 0 → a ≠ b → (TJxb160c a).2.1 ≠ (TJxb160c b).2.1 := by decide +kernel
theorem tyJxb160c_ok : ∀ k, k < 0 → parseFieldDescriptor (TJxb160c k).2.2.1 = some (tyJxb160c k) := by decide +kernel
def RJ9 : String := "java/lang/Math"
def TJ9 : u_T := fun k => match k with
  | _ => ("", "", "", false)
def tyJ9 : Nat → FieldType := fun k => match k with
  | _ => .int
theorem nmJ9 : ∀ a, a < 0 → ∀ b, b < 0 → a ≠ b → (TJ9 a).2.1 ≠ (TJ9 b).2.1 := by decide +kernel
theorem tyJ9_ok : ∀ k, k < 0 → parseFieldDescriptor (TJ9 k).2.2.1 = some (tyJ9 k) := by decide +kernel
abbrev cJ9_max_7cf53 : ByteArray := prog_20_method_65_code
def yJ9_max_7cf53 : MethodName := ⟨RJ9, "max", "(II)I"⟩
abbrev cJ9_min_7cf53 : ByteArray := prog_20_method_69_code
def yJ9_min_7cf53 : MethodName := ⟨RJ9, "min", "(II)I"⟩
def RJ0 : String := "java/lang/String"
def TJ0 : u_T := fun k => match k with
  | _ => ("", "", "", false)
def tyJ0 : Nat → FieldType := fun k => match k with
  | _ => .int
theorem nmJ0 : ∀ a, a < 0 → ∀ b, b < 0 → a ≠ b → (TJ0 a).2.1 ≠ (TJ0 b).2.1 := by decide +kernel
theorem tyJ0_ok : ∀ k, k < 0 → parseFieldDescriptor (TJ0 k).2.2.1 = some (tyJ0 k) := by decide +kernel
def RJ4 : String := "java/lang/StringBuilder"
def TJ4 : u_T := fun k => match k with
  | 0 => ("java/lang/AbstractStringBuilder", "value", "[B", false)
  | 1 => ("java/lang/AbstractStringBuilder", "coder", "B", false)
  | 2 => ("java/lang/AbstractStringBuilder", "maybeLatin1", "Z", false)
  | _ => ("java/lang/AbstractStringBuilder", "count", "I", false)
def tyJ4 : Nat → FieldType := fun k => match k with
  | 0 => .array .byte
  | 1 => .byte
  | 2 => .boolean
  | _ => .int
theorem nmJ4 : ∀ a, a < 4 → ∀ b, b < 4 → a ≠ b → (TJ4 a).2.1 ≠ (TJ4 b).2.1 := by decide +kernel
theorem tyJ4_ok : ∀ k, k < 4 → parseFieldDescriptor (TJ4 k).2.2.1 = some (tyJ4 k) := by decide +kernel
abbrev cJ4_init_da8c8 : ByteArray := prog_23_method_1_code
def yJ4_init_da8c8 : MethodName := ⟨RJ4, "<init>", "()V"⟩
def RJ2 : String := "java/lang/StringUTF16"
def TJ2 : u_T := fun k => match k with
  | _ => ("", "", "", false)
def tyJ2 : Nat → FieldType := fun k => match k with
  | _ => .int
theorem nmJ2 : ∀ a, a < 0 → ∀ b, b < 0 → a ≠ b → (TJ2 a).2.1 ≠ (TJ2 b).2.1 := by decide +kernel
theorem tyJ2_ok : ∀ k, k < 0 → parseFieldDescriptor (TJ2 k).2.2.1 = some (tyJ2 k) := by decide +kernel
abbrev cJ2_newBytesFor_77867 : ByteArray := prog_24_method_2_code
def yJ2_newBytesFor_77867 : MethodName := ⟨RJ2, "newBytesFor", "(I)[B"⟩
abbrev cJ2_newBytesLength_0f7a4 : ByteArray := prog_24_method_3_code
def yJ2_newBytesLength_0f7a4 : MethodName := ⟨RJ2, "newBytesLength", "(I)I"⟩
def RJxfd54e : String := "java/lang/constant/Constable"
def TJxfd54e : u_T := fun k => match k with
  | _ => ("", "", "", false)
def tyJxfd54e : Nat → FieldType := fun k => match k with
  | _ => .int
theorem nmJxfd54e : ∀ a, a < 0 → ∀ b, b < 0 → a ≠ b → (TJxfd54e a).2.1 ≠ (TJxfd54e b).2.1 := by decide +kernel
theorem tyJxfd54e_ok : ∀ k, k < 0 → parseFieldDescriptor (TJxfd54e k).2.2.1 = some (tyJxfd54e k) := by decide +kernel
def RJx3cf43 : String := "java/lang/constant/ConstantDesc"
def TJx3cf43 : u_T := fun k => match k with
  | _ => ("", "", "", false)
def tyJx3cf43 : Nat → FieldType := fun k => match k with
  | _ => .int
theorem nmJx3cf43 : ∀ a, a < 0 → ∀ b, b < 0 → a ≠ b → (TJx3cf43 a).2.1 ≠ (TJx3cf43 b).2.1 := by decide +kernel
theorem tyJx3cf43_ok : ∀ k, k < 0 → parseFieldDescriptor (TJx3cf43 k).2.2.1 = some (tyJx3cf43 k) := by decide +kernel
def RL : String := "CoalStairsLaw"
abbrev cL_cell : ByteArray := method_2_code
def yL_cell : MethodName := ⟨RL, "cell", "([II)I"⟩
abbrev cL_pick : ByteArray := method_3_code
def yL_pick : MethodName := ⟨RL, "pick", "([III)I"⟩
abbrev cL_lay : ByteArray := method_4_code
def yL_lay : MethodName := ⟨RL, "lay", "(LCoalStairs;[I)V"⟩
abbrev cL_done : ByteArray := method_5_code
def yL_done : MethodName := ⟨RL, "done", "(LCoalStairs;[III)I"⟩
abbrev cL_acts : ByteArray := method_6_code
def yL_acts : MethodName := ⟨RL, "acts", "(LCoalStairs;[III)I"⟩
abbrev cL_sum : ByteArray := method_9_code
def yL_sum : MethodName := ⟨RL, "sum", "(LCoalStairs;I)I"⟩
abbrev cL_areSacksRight : ByteArray := method_10_code
def yL_areSacksRight : MethodName := ⟨RL, "areSacksRight", "(LCoalStairs;)Z"⟩
abbrev cL_areHousesRight : ByteArray := method_11_code
def yL_areHousesRight : MethodName := ⟨RL, "areHousesRight", "(LCoalStairs;)Z"⟩
abbrev cL_law : ByteArray := code
def yL_law : MethodName := ⟨RL, "law", "([I)Z"⟩
