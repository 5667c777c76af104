-- printed by the TURN of the program itself (claim/NAMES.whole.lean.txt): names, fields, codes
def RX0 : String := "EelPermits$Hole"
def TX0 : u_T := fun k => match k with
  | 0 => ("EelPermits$Hole", "x", "I", false)
  | 1 => ("EelPermits$Hole", "y", "I", false)
  | _ => ("EelPermits$Hole", "open", "Z", false)
def tyX0 : Nat → FieldType := fun k => match k with
  | 0 => .int
  | 1 => .int
  | _ => .boolean
abbrev wsX00 : List Cond := u_ws RX0 TX0 3
theorem nmX0 : ∀ a, a < 3 → ∀ b, b < 3 → a ≠ b → (TX0 a).2.1 ≠ (TX0 b).2.1 := by decide +kernel
theorem tyX0_ok : ∀ k, k < 3 → parseFieldDescriptor (TX0 k).2.2.1 = some (tyX0 k) := by decide +kernel
abbrev cX0_init : ByteArray := prog_2_method_1_code
def yX0_init : MethodName := ⟨RX0, "<init>", "()V"⟩
abbrev cX0_become : ByteArray := prog_2_method_2_code
def yX0_become : MethodName := ⟨RX0, "become", "(LEelPermits$Hole;)V"⟩
def RX1 : String := "EelPermits$Lake"
def TX1 : u_T := fun k => match k with
  | 0 => ("EelPermits$Lake", "eels", "[I", true)
  | 1 => ("EelPermits$Lake", "mud", "[I", true)
  | 2 => ("EelPermits$Lake", "frost", "[I", true)
  | 3 => ("EelPermits$Lake", "holes", "[LEelPermits$Hole;", true)
  | 4 => ("EelPermits$Lake", "spearers", "[LEelPermits$Spearer;", true)
  | 5 => ("EelPermits$Lake", "wardens", "[LEelPermits$Warden;", true)
  | 6 => ("EelPermits$Lake", "holeCount", "I", false)
  | 7 => ("EelPermits$Lake", "spearerCount", "I", false)
  | 8 => ("EelPermits$Lake", "wardenCount", "I", false)
  | 9 => ("EelPermits$Lake", "ice", "I", false)
  | _ => ("EelPermits$Lake", "night", "I", false)
def tyX1 : Nat → FieldType := fun k => match k with
  | 0 => .array .int
  | 1 => .array .int
  | 2 => .array .int
  | 3 => .array (.object "EelPermits$Hole")
  | 4 => .array (.object "EelPermits$Spearer")
  | 5 => .array (.object "EelPermits$Warden")
  | 6 => .int
  | 7 => .int
  | 8 => .int
  | 9 => .int
  | _ => .int
abbrev wsX10 : List Cond := u_ws RX1 TX1 11
theorem nmX1 : ∀ a, a < 11 → ∀ b, b < 11 → a ≠ b → (TX1 a).2.1 ≠ (TX1 b).2.1 := by decide +kernel
theorem tyX1_ok : ∀ k, k < 11 → parseFieldDescriptor (TX1 k).2.2.1 = some (tyX1 k) := by decide +kernel
abbrev cX1_init : ByteArray := prog_3_method_1_code
def yX1_init : MethodName := ⟨RX1, "<init>", "()V"⟩
abbrev cX1_become : ByteArray := prog_3_method_2_code
def yX1_become : MethodName := ⟨RX1, "become", "(LEelPermits$Lake;)V"⟩
abbrev cX1_hasHole : ByteArray := prog_3_method_3_code
def yX1_hasHole : MethodName := ⟨RX1, "hasHole", "(I)Z"⟩
abbrev cX1_hasSpearer : ByteArray := prog_3_method_4_code
def yX1_hasSpearer : MethodName := ⟨RX1, "hasSpearer", "(I)Z"⟩
abbrev cX1_hasWarden : ByteArray := prog_3_method_5_code
def yX1_hasWarden : MethodName := ⟨RX1, "hasWarden", "(I)Z"⟩
abbrev cX1_addHole : ByteArray := prog_3_method_6_code
def yX1_addHole : MethodName := ⟨RX1, "addHole", "(II)I"⟩
abbrev cX1_addSpearer : ByteArray := prog_3_method_7_code
def yX1_addSpearer : MethodName := ⟨RX1, "addSpearer", "(II)I"⟩
abbrev cX1_addWarden : ByteArray := prog_3_method_8_code
def yX1_addWarden : MethodName := ⟨RX1, "addWarden", "(III)I"⟩
abbrev cX1_openHoleIn : ByteArray := prog_3_method_9_code
def yX1_openHoleIn : MethodName := ⟨RX1, "openHoleIn", "(II)I"⟩
abbrev cX1_frostOf : ByteArray := prog_3_method_10_code
def yX1_frostOf : MethodName := ⟨RX1, "frostOf", "(I)I"⟩
abbrev cX1_catchIn : ByteArray := prog_3_method_11_code
def yX1_catchIn : MethodName := ⟨RX1, "catchIn", "(I)I"⟩
abbrev cX1_cellFact : ByteArray := prog_3_method_12_code
def yX1_cellFact : MethodName := ⟨RX1, "cellFact", "(III)I"⟩
abbrev cX1_holeFact : ByteArray := prog_3_method_13_code
def yX1_holeFact : MethodName := ⟨RX1, "holeFact", "(II)I"⟩
abbrev cX1_fact : ByteArray := prog_3_method_14_code
def yX1_fact : MethodName := ⟨RX1, "fact", "(I)I"⟩
abbrev cX1_spearersAt : ByteArray := prog_3_method_15_code
def yX1_spearersAt : MethodName := ⟨RX1, "spearersAt", "(I)I"⟩
abbrev cX1_nearestWardenTo : ByteArray := prog_3_method_16_code
def yX1_nearestWardenTo : MethodName := ⟨RX1, "nearestWardenTo", "(LEelPermits$Hole;)I"⟩
abbrev cX1_eelsOfLake : ByteArray := prog_3_method_17_code
def yX1_eelsOfLake : MethodName := ⟨RX1, "eelsOfLake", "()I"⟩
abbrev cX1_openHoles : ByteArray := prog_3_method_18_code
def yX1_openHoles : MethodName := ⟨RX1, "openHoles", "()I"⟩
abbrev cX1_eelsOfSpearers : ByteArray := prog_3_method_19_code
def yX1_eelsOfSpearers : MethodName := ⟨RX1, "eelsOfSpearers", "()I"⟩
abbrev cX1_finesOfSpearers : ByteArray := prog_3_method_20_code
def yX1_finesOfSpearers : MethodName := ⟨RX1, "finesOfSpearers", "()I"⟩
abbrev cX1_letNightsGo : ByteArray := prog_3_method_21_code
def yX1_letNightsGo : MethodName := ⟨RX1, "letNightsGo", "(I)I"⟩
abbrev cX1_lightLamps : ByteArray := prog_3_method_22_code
def yX1_lightLamps : MethodName := ⟨RX1, "lightLamps", "()V"⟩
abbrev cX1_lure : ByteArray := prog_3_method_23_code
def yX1_lure : MethodName := ⟨RX1, "lure", "(LEelPermits$Hole;I)V"⟩
abbrev cX1_moveEels : ByteArray := prog_3_method_24_code
def yX1_moveEels : MethodName := ⟨RX1, "moveEels", "(II)V"⟩
abbrev cX1_spearEels : ByteArray := prog_3_method_25_code
def yX1_spearEels : MethodName := ⟨RX1, "spearEels", "()V"⟩
abbrev cX1_sendWardens : ByteArray := prog_3_method_26_code
def yX1_sendWardens : MethodName := ⟨RX1, "sendWardens", "()V"⟩
abbrev cX1_nearestOffence : ByteArray := prog_3_method_27_code
def yX1_nearestOffence : MethodName := ⟨RX1, "nearestOffence", "(LEelPermits$Warden;)I"⟩
abbrev cX1_hasOffender : ByteArray := prog_3_method_28_code
def yX1_hasOffender : MethodName := ⟨RX1, "hasOffender", "(I)Z"⟩
abbrev cX1_fineAllAt : ByteArray := prog_3_method_29_code
def yX1_fineAllAt : MethodName := ⟨RX1, "fineAllAt", "(ILEelPermits$Warden;)V"⟩
abbrev cX1_keepCatches : ByteArray := prog_3_method_30_code
def yX1_keepCatches : MethodName := ⟨RX1, "keepCatches", "()I"⟩
abbrev cX1_breedEels : ByteArray := prog_3_method_31_code
def yX1_breedEels : MethodName := ⟨RX1, "breedEels", "()V"⟩
abbrev cX1_freeze : ByteArray := prog_3_method_32_code
def yX1_freeze : MethodName := ⟨RX1, "freeze", "()V"⟩
abbrev cX1_closeAllHoles : ByteArray := prog_3_method_33_code
def yX1_closeAllHoles : MethodName := ⟨RX1, "closeAllHoles", "()V"⟩
abbrev cX1_closeEmptyHoles : ByteArray := prog_3_method_34_code
def yX1_closeEmptyHoles : MethodName := ⟨RX1, "closeEmptyHoles", "()V"⟩
def RX2 : String := "EelPermits$Spearer"
def TX2 : u_T := fun k => match k with
  | 0 => ("EelPermits$Spearer", "permit", "I", false)
  | 1 => ("EelPermits$Spearer", "light", "I", false)
  | 2 => ("EelPermits$Spearer", "hole", "I", false)
  | 3 => ("EelPermits$Spearer", "caught", "I", false)
  | 4 => ("EelPermits$Spearer", "eels", "I", false)
  | _ => ("EelPermits$Spearer", "fines", "I", false)
def tyX2 : Nat → FieldType := fun k => match k with
  | 0 => .int
  | 1 => .int
  | 2 => .int
  | 3 => .int
  | 4 => .int
  | _ => .int
abbrev wsX20 : List Cond := u_ws RX2 TX2 6
theorem nmX2 : ∀ a, a < 6 → ∀ b, b < 6 → a ≠ b → (TX2 a).2.1 ≠ (TX2 b).2.1 := by decide +kernel
theorem tyX2_ok : ∀ k, k < 6 → parseFieldDescriptor (TX2 k).2.2.1 = some (tyX2 k) := by decide +kernel
abbrev cX2_init : ByteArray := prog_4_method_1_code
def yX2_init : MethodName := ⟨RX2, "<init>", "()V"⟩
abbrev cX2_become : ByteArray := prog_4_method_2_code
def yX2_become : MethodName := ⟨RX2, "become", "(LEelPermits$Spearer;)V"⟩
abbrev cX2_tookTooMuch : ByteArray := prog_4_method_3_code
def yX2_tookTooMuch : MethodName := ⟨RX2, "tookTooMuch", "()Z"⟩
abbrev cX2_tell : ByteArray := prog_4_method_4_code
def yX2_tell : MethodName := ⟨RX2, "tell", "(I)I"⟩
def RX3 : String := "EelPermits$Warden"
def TX3 : u_T := fun k => match k with
  | 0 => ("EelPermits$Warden", "x", "I", false)
  | 1 => ("EelPermits$Warden", "y", "I", false)
  | 2 => ("EelPermits$Warden", "pace", "I", false)
  | _ => ("EelPermits$Warden", "fines", "I", false)
def tyX3 : Nat → FieldType := fun k => match k with
  | 0 => .int
  | 1 => .int
  | 2 => .int
  | _ => .int
abbrev wsX30 : List Cond := u_ws RX3 TX3 4
theorem nmX3 : ∀ a, a < 4 → ∀ b, b < 4 → a ≠ b → (TX3 a).2.1 ≠ (TX3 b).2.1 := by decide +kernel
theorem tyX3_ok : ∀ k, k < 4 → parseFieldDescriptor (TX3 k).2.2.1 = some (tyX3 k) := by decide +kernel
abbrev cX3_init : ByteArray := prog_5_method_1_code
def yX3_init : MethodName := ⟨RX3, "<init>", "()V"⟩
abbrev cX3_become : ByteArray := prog_5_method_2_code
def yX3_become : MethodName := ⟨RX3, "become", "(LEelPermits$Warden;)V"⟩
abbrev cX3_goTowards : ByteArray := prog_5_method_3_code
def yX3_goTowards : MethodName := ⟨RX3, "goTowards", "(LEelPermits$Hole;)V"⟩
abbrev cX3_tell : ByteArray := prog_5_method_4_code
def yX3_tell : MethodName := ⟨RX3, "tell", "(I)I"⟩
def RX4 : String := "EelPermits"
def TX4 : u_T := fun k => match k with
  | 0 => ("EelPermits", "lake", "LEelPermits$Lake;", true)
  | _ => ("EelPermits", "draft", "LEelPermits$Lake;", true)
def tyX4 : Nat → FieldType := fun k => match k with
  | 0 => .object "EelPermits$Lake"
  | _ => .object "EelPermits$Lake"
abbrev wsX40 : List Cond := u_ws RX4 TX4 2
theorem nmX4 : ∀ a, a < 2 → ∀ b, b < 2 → a ≠ b → (TX4 a).2.1 ≠ (TX4 b).2.1 := by decide +kernel
theorem tyX4_ok : ∀ k, k < 2 → parseFieldDescriptor (TX4 k).2.2.1 = some (tyX4 k) := by decide +kernel
abbrev cX4_init : ByteArray := prog_1_method_1_code
def yX4_init : MethodName := ⟨RX4, "<init>", "()V"⟩
abbrev cX4_set : ByteArray := prog_1_method_2_code
def yX4_set : MethodName := ⟨RX4, "set", "(IIII)I"⟩
abbrev cX4_setFrost : ByteArray := prog_1_method_3_code
def yX4_setFrost : MethodName := ⟨RX4, "setFrost", "(II)I"⟩
abbrev cX4_cut : ByteArray := prog_1_method_4_code
def yX4_cut : MethodName := ⟨RX4, "cut", "(II)I"⟩
abbrev cX4_license : ByteArray := prog_1_method_5_code
def yX4_license : MethodName := ⟨RX4, "license", "(II)I"⟩
abbrev cX4_go : ByteArray := prog_1_method_6_code
def yX4_go : MethodName := ⟨RX4, "go", "(II)I"⟩
abbrev cX4_warden : ByteArray := prog_1_method_7_code
def yX4_warden : MethodName := ⟨RX4, "warden", "(III)I"⟩
abbrev cX4_cell : ByteArray := prog_1_method_8_code
def yX4_cell : MethodName := ⟨RX4, "cell", "(III)I"⟩
abbrev cX4_hole : ByteArray := prog_1_method_9_code
def yX4_hole : MethodName := ⟨RX4, "hole", "(II)I"⟩
abbrev cX4_spearer : ByteArray := prog_1_method_10_code
def yX4_spearer : MethodName := ⟨RX4, "spearer", "(II)I"⟩
abbrev cX4_about : ByteArray := prog_1_method_11_code
def yX4_about : MethodName := ⟨RX4, "about", "(II)I"⟩
abbrev cX4_count : ByteArray := prog_1_method_12_code
def yX4_count : MethodName := ⟨RX4, "count", "(I)I"⟩
abbrev cX4_pass : ByteArray := prog_1_method_13_code
def yX4_pass : MethodName := ⟨RX4, "pass", "(I)I"⟩
abbrev cX4_bears : ByteArray := prog_1_method_14_code
def yX4_bears : MethodName := ⟨RX4, "bears", "()I"⟩
abbrev cX4_foresee : ByteArray := prog_1_method_15_code
def yX4_foresee : MethodName := ⟨RX4, "foresee", "(II)I"⟩
abbrev cX4_advise : ByteArray := prog_1_method_16_code
def yX4_advise : MethodName := ⟨RX4, "advise", "(I)I"⟩
abbrev cX4_mean : ByteArray := prog_1_method_17_code
def yX4_mean : MethodName := ⟨RX4, "mean", "()D"⟩
abbrev cX4_digest : ByteArray := prog_1_method_18_code
def yX4_digest : MethodName := ⟨RX4, "digest", "()J"⟩
abbrev cX4_digestOfCells : ByteArray := prog_1_method_19_code
def yX4_digestOfCells : MethodName := ⟨RX4, "digestOfCells", "(J)J"⟩
abbrev cX4_digestOfPeople : ByteArray := prog_1_method_20_code
def yX4_digestOfPeople : MethodName := ⟨RX4, "digestOfPeople", "(J)J"⟩
abbrev cX4_eelsIfAt : ByteArray := prog_1_method_21_code
def yX4_eelsIfAt : MethodName := ⟨RX4, "eelsIfAt", "(II)I"⟩
abbrev cX4_mixed : ByteArray := prog_1_method_22_code
def yX4_mixed : MethodName := ⟨RX4, "mixed", "(JI)J"⟩
abbrev cX4_isForeseen : ByteArray := prog_1_method_23_code
def yX4_isForeseen : MethodName := ⟨RX4, "isForeseen", "(I)Z"⟩
abbrev cX4_isWithin : ByteArray := prog_1_method_24_code
def yX4_isWithin : MethodName := ⟨RX4, "isWithin", "(III)Z"⟩
abbrev cX4_isCell : ByteArray := prog_1_method_25_code
def yX4_isCell : MethodName := ⟨RX4, "isCell", "(II)Z"⟩
abbrev cX4_cellAt : ByteArray := prog_1_method_26_code
def yX4_cellAt : MethodName := ⟨RX4, "cellAt", "(II)I"⟩
abbrev cX4_distance : ByteArray := prog_1_method_27_code
def yX4_distance : MethodName := ⟨RX4, "distance", "(IIII)I"⟩
abbrev cX4_iceBears : ByteArray := prog_1_method_28_code
def yX4_iceBears : MethodName := ⟨RX4, "iceBears", "(I)Z"⟩
abbrev cX4_iceBehind : ByteArray := prog_1_method_29_code
def yX4_iceBehind : MethodName := ⟨RX4, "iceBehind", "(II)I"⟩
def RX5 : String := "EelPermitsLaw$Sim"
def TX5 : u_T := fun k => match k with
  | 0 => ("EelPermitsLaw$Sim", "eels", "[[I", false)
  | 1 => ("EelPermitsLaw$Sim", "mud", "[[I", false)
  | 2 => ("EelPermitsLaw$Sim", "frost", "[I", false)
  | 3 => ("EelPermitsLaw$Sim", "holes", "[[I", false)
  | 4 => ("EelPermitsLaw$Sim", "spearers", "[[I", false)
  | 5 => ("EelPermitsLaw$Sim", "wardens", "[[I", false)
  | 6 => ("EelPermitsLaw$Sim", "night", "I", false)
  | _ => ("EelPermitsLaw$Sim", "ice", "I", false)
def tyX5 : Nat → FieldType := fun k => match k with
  | 0 => .array (.array .int)
  | 1 => .array (.array .int)
  | 2 => .array .int
  | 3 => .array (.array .int)
  | 4 => .array (.array .int)
  | 5 => .array (.array .int)
  | 6 => .int
  | _ => .int
abbrev wsX50 : List Cond := u_ws RX5 TX5 8
theorem nmX5 : ∀ a, a < 8 → ∀ b, b < 8 → a ≠ b → (TX5 a).2.1 ≠ (TX5 b).2.1 := by decide +kernel
theorem tyX5_ok : ∀ k, k < 8 → parseFieldDescriptor (TX5 k).2.2.1 = some (tyX5 k) := by decide +kernel
abbrev cX5_init : ByteArray := prog_7_method_1_code
def yX5_init : MethodName := ⟨RX5, "<init>", "()V"⟩
abbrev cX5_more : ByteArray := prog_7_method_2_code
def yX5_more : MethodName := ⟨RX5, "more", "([[I[I)[[I"⟩
abbrev cX5_far : ByteArray := prog_7_method_5_code
def yX5_far : MethodName := ⟨RX5, "far", "([I[I)I"⟩
abbrev cX5_would : ByteArray := prog_7_method_6_code
def yX5_would : MethodName := ⟨RX5, "would", "(II)I"⟩
abbrev cX5_openAt : ByteArray := prog_7_method_7_code
def yX5_openAt : MethodName := ⟨RX5, "openAt", "(II)I"⟩
abbrev cX5_many : ByteArray := prog_7_method_8_code
def yX5_many : MethodName := ⟨RX5, "many", "(I)I"⟩
abbrev cX5_lamp : ByteArray := prog_7_method_9_code
def yX5_lamp : MethodName := ⟨RX5, "lamp", "([I)V"⟩
abbrev cX5_isOver : ByteArray := prog_7_method_10_code
def yX5_isOver : MethodName := ⟨RX5, "isOver", "(I)Z"⟩
abbrev cX5_guard : ByteArray := prog_7_method_11_code
def yX5_guard : MethodName := ⟨RX5, "guard", "([I)V"⟩
abbrev cX5_pass : ByteArray := prog_7_method_12_code
def yX5_pass : MethodName := ⟨RX5, "pass", "()I"⟩
abbrev cX5_counts : ByteArray := prog_7_method_13_code
def yX5_counts : MethodName := ⟨RX5, "counts", "()[I"⟩
abbrev cX5_isSame : ByteArray := prog_7_method_14_code
def yX5_isSame : MethodName := ⟨RX5, "isSame", "(LEelPermits;)Z"⟩
def RX6 : String := "EelPermitsModel$State"
def TX6 : u_T := fun k => match k with
  | _ => ("", "", "", false)
def tyX6 : Nat → FieldType := fun k => match k with
  | _ => .int
abbrev wsX60 : List Cond := u_ws RX6 TX6 0
theorem nmX6 : ∀ a, a < 0 → ∀ b, b < 0 → a ≠ b → (TX6 a).2.1 ≠ (TX6 b).2.1 := by decide +kernel
theorem tyX6_ok : ∀ k, k < 0 → parseFieldDescriptor (TX6 k).2.2.1 = some (tyX6 k) := by decide +kernel
def RX7 : String := "EelPermitsModel"
def TX7 : u_T := fun k => match k with
  | _ => ("", "", "", false)
def tyX7 : Nat → FieldType := fun k => match k with
  | _ => .int
abbrev wsX70 : List Cond := u_ws RX7 TX7 0
theorem nmX7 : ∀ a, a < 0 → ∀ b, b < 0 → a ≠ b → (TX7 a).2.1 ≠ (TX7 b).2.1 := by decide +kernel
theorem tyX7_ok : ∀ k, k < 0 → parseFieldDescriptor (TX7 k).2.2.1 = some (tyX7 k) := by decide +kernel
def RJx145de : String := "java/io/Serializable"
def TJx145de : u_T := fun k => match k with
  | _ => ("", "", "", false)
def tyJx145de : Nat → FieldType := fun k => match k with
  | _ => .int
abbrev wsJx145de0 : List Cond := u_ws RJx145de TJx145de 0
theorem nmJx145de : ∀ a, a < 0 → ∀ b, b < 0 → a ≠ b → (TJx145de a).2.1 ≠ (TJx145de b).2.1 := by decide +kernel
theorem tyJx145de_ok : ∀ k, k < 0 → parseFieldDescriptor (TJx145de k).2.2.1 = some (tyJx145de k) := by decide +kernel
def RJ6 : String := "java/lang/Integer"
def TJ6 : u_T := fun k => match k with
  | _ => ("", "", "", false)
def tyJ6 : Nat → FieldType := fun k => match k with
  | _ => .int
abbrev wsJ60 : List Cond := u_ws RJ6 TJ6 0
theorem nmJ6 : ∀ a, a < 0 → ∀ b, b < 0 → a ≠ b → (TJ6 a).2.1 ≠ (TJ6 b).2.1 := by decide +kernel
theorem tyJ6_ok : ∀ k, k < 0 → parseFieldDescriptor (TJ6 k).2.2.1 = some (tyJ6 k) := by decide +kernel
abbrev cJ6_compare_7cf53 : ByteArray := prog_14_method_40_code
def yJ6_compare_7cf53 : MethodName := ⟨RJ6, "compare", "(II)I"⟩
def RJ9 : String := "java/lang/Math"
def TJ9 : u_T := fun k => match k with
  | _ => ("", "", "", false)
def tyJ9 : Nat → FieldType := fun k => match k with
  | _ => .int
abbrev wsJ90 : List Cond := u_ws RJ9 TJ9 0
theorem nmJ9 : ∀ a, a < 0 → ∀ b, b < 0 → a ≠ b → (TJ9 a).2.1 ≠ (TJ9 b).2.1 := by decide +kernel
theorem tyJ9_ok : ∀ k, k < 0 → parseFieldDescriptor (TJ9 k).2.2.1 = some (tyJ9 k) := by decide +kernel
abbrev cJ9_floorMod_7cf53 : ByteArray := prog_15_method_50_code
def yJ9_floorMod_7cf53 : MethodName := ⟨RJ9, "floorMod", "(II)I"⟩
abbrev cJ9_abs_0f7a4 : ByteArray := prog_15_method_59_code
def yJ9_abs_0f7a4 : MethodName := ⟨RJ9, "abs", "(I)I"⟩
abbrev cJ9_max_7cf53 : ByteArray := prog_15_method_65_code
def yJ9_max_7cf53 : MethodName := ⟨RJ9, "max", "(II)I"⟩
abbrev cJ9_min_7cf53 : ByteArray := prog_15_method_69_code
def yJ9_min_7cf53 : MethodName := ⟨RJ9, "min", "(II)I"⟩
def RJ0 : String := "java/lang/String"
def TJ0 : u_T := fun k => match k with
  | _ => ("", "", "", false)
def tyJ0 : Nat → FieldType := fun k => match k with
  | _ => .int
abbrev wsJ00 : List Cond := u_ws RJ0 TJ0 0
theorem nmJ0 : ∀ a, a < 0 → ∀ b, b < 0 → a ≠ b → (TJ0 a).2.1 ≠ (TJ0 b).2.1 := by decide +kernel
theorem tyJ0_ok : ∀ k, k < 0 → parseFieldDescriptor (TJ0 k).2.2.1 = some (tyJ0 k) := by decide +kernel
def RJ7 : String := "java/util/Arrays"
def TJ7 : u_T := fun k => match k with
  | _ => ("", "", "", false)
def tyJ7 : Nat → FieldType := fun k => match k with
  | _ => .int
abbrev wsJ70 : List Cond := u_ws RJ7 TJ7 0
theorem nmJ7 : ∀ a, a < 0 → ∀ b, b < 0 → a ≠ b → (TJ7 a).2.1 ≠ (TJ7 b).2.1 := by decide +kernel
theorem tyJ7_ok : ∀ k, k < 0 → parseFieldDescriptor (TJ7 k).2.2.1 = some (tyJ7 k) := by decide +kernel
abbrev cJ7_fill_53178 : ByteArray := prog_19_method_103_code
def yJ7_fill_53178 : MethodName := ⟨RJ7, "fill", "([II)V"⟩
def RL : String := "EelPermitsLaw"
abbrev cL_below : ByteArray := method_2_code
def yL_below : MethodName := ⟨RL, "below", "(II)I"⟩
abbrev cL_cell : ByteArray := method_3_code
def yL_cell : MethodName := ⟨RL, "cell", "([II)I"⟩
abbrev cL_act : ByteArray := method_4_code
def yL_act : MethodName := ⟨RL, "act", "(LEelPermits;LEelPermitsLaw$Sim;I)Z"⟩
abbrev cL_build : ByteArray := method_5_code
def yL_build : MethodName := ⟨RL, "build", "(LEelPermits;[II)LEelPermitsLaw$Sim;"⟩
abbrev cL_law : ByteArray := code
def yL_law : MethodName := ⟨RL, "law", "([I)Z"⟩
