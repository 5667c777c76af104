section
-- ===== PART A: goes FIRST, ahead of the names: the tables' words, and 'selects' of the private methods out of them =====
/-- a private method of a class that the tables say can be made, by its rows of tables_1 -/
def lw_okq (q : MethodName × Nat) : Prop := (q.1.cls ≠ "java/lang/invoke/MethodHandle" ∧ q.1.cls ≠ "java/lang/invoke/VarHandle") ∧ Cond.instantiable q.1.cls q.2 ∈ tables_1 ∧ Cond.privateMethod q.1 ∈ tables_1 ∧ Cond.instanceMethod q.1 ∈ tables_1
theorem lw_p0 : lw_okq (⟨"java/lang/Throwable", "fillInStackTrace", "(I)Ljava/lang/Throwable;"⟩, 6) := ⟨⟨by decide +kernel, by decide +kernel⟩, List.mem_of_getElem? (i := 214) (by decide +kernel), List.mem_of_getElem? (i := 212) (by decide +kernel), List.mem_of_getElem? (i := 213) (by decide +kernel)⟩
theorem lw_p1 : lw_okq (⟨"EelPermits$Lake", "spearersAt", "(I)I"⟩, 11) := ⟨⟨by decide +kernel, by decide +kernel⟩, List.mem_of_getElem? (i := 25) (by decide +kernel), List.mem_of_getElem? (i := 279) (by decide +kernel), List.mem_of_getElem? (i := 280) (by decide +kernel)⟩
theorem lw_p2 : lw_okq (⟨"EelPermits$Lake", "nearestWardenTo", "(LEelPermits$Hole;)I"⟩, 11) := ⟨⟨by decide +kernel, by decide +kernel⟩, List.mem_of_getElem? (i := 25) (by decide +kernel), List.mem_of_getElem? (i := 283) (by decide +kernel), List.mem_of_getElem? (i := 284) (by decide +kernel)⟩
theorem lw_p3 : lw_okq (⟨"EelPermits$Lake", "eelsOfLake", "()I"⟩, 11) := ⟨⟨by decide +kernel, by decide +kernel⟩, List.mem_of_getElem? (i := 25) (by decide +kernel), List.mem_of_getElem? (i := 332) (by decide +kernel), List.mem_of_getElem? (i := 333) (by decide +kernel)⟩
theorem lw_p4 : lw_okq (⟨"EelPermits$Lake", "openHoles", "()I"⟩, 11) := ⟨⟨by decide +kernel, by decide +kernel⟩, List.mem_of_getElem? (i := 25) (by decide +kernel), List.mem_of_getElem? (i := 336) (by decide +kernel), List.mem_of_getElem? (i := 337) (by decide +kernel)⟩
theorem lw_p5 : lw_okq (⟨"EelPermits$Lake", "eelsOfSpearers", "()I"⟩, 11) := ⟨⟨by decide +kernel, by decide +kernel⟩, List.mem_of_getElem? (i := 25) (by decide +kernel), List.mem_of_getElem? (i := 340) (by decide +kernel), List.mem_of_getElem? (i := 341) (by decide +kernel)⟩
theorem lw_p6 : lw_okq (⟨"EelPermits$Lake", "finesOfSpearers", "()I"⟩, 11) := ⟨⟨by decide +kernel, by decide +kernel⟩, List.mem_of_getElem? (i := 25) (by decide +kernel), List.mem_of_getElem? (i := 344) (by decide +kernel), List.mem_of_getElem? (i := 345) (by decide +kernel)⟩
theorem lw_p7 : lw_okq (⟨"EelPermits$Lake", "lightLamps", "()V"⟩, 11) := ⟨⟨by decide +kernel, by decide +kernel⟩, List.mem_of_getElem? (i := 25) (by decide +kernel), List.mem_of_getElem? (i := 372) (by decide +kernel), List.mem_of_getElem? (i := 373) (by decide +kernel)⟩
theorem lw_p8 : lw_okq (⟨"EelPermits$Lake", "lure", "(LEelPermits$Hole;I)V"⟩, 11) := ⟨⟨by decide +kernel, by decide +kernel⟩, List.mem_of_getElem? (i := 25) (by decide +kernel), List.mem_of_getElem? (i := 377) (by decide +kernel), List.mem_of_getElem? (i := 378) (by decide +kernel)⟩
theorem lw_p9 : lw_okq (⟨"EelPermits$Lake", "moveEels", "(II)V"⟩, 11) := ⟨⟨by decide +kernel, by decide +kernel⟩, List.mem_of_getElem? (i := 25) (by decide +kernel), List.mem_of_getElem? (i := 381) (by decide +kernel), List.mem_of_getElem? (i := 382) (by decide +kernel)⟩
theorem lw_p10 : lw_okq (⟨"EelPermits$Lake", "spearEels", "()V"⟩, 11) := ⟨⟨by decide +kernel, by decide +kernel⟩, List.mem_of_getElem? (i := 25) (by decide +kernel), List.mem_of_getElem? (i := 385) (by decide +kernel), List.mem_of_getElem? (i := 386) (by decide +kernel)⟩
theorem lw_p11 : lw_okq (⟨"EelPermits$Lake", "sendWardens", "()V"⟩, 11) := ⟨⟨by decide +kernel, by decide +kernel⟩, List.mem_of_getElem? (i := 25) (by decide +kernel), List.mem_of_getElem? (i := 389) (by decide +kernel), List.mem_of_getElem? (i := 390) (by decide +kernel)⟩
theorem lw_p12 : lw_okq (⟨"EelPermits$Lake", "nearestOffence", "(LEelPermits$Warden;)I"⟩, 11) := ⟨⟨by decide +kernel, by decide +kernel⟩, List.mem_of_getElem? (i := 25) (by decide +kernel), List.mem_of_getElem? (i := 393) (by decide +kernel), List.mem_of_getElem? (i := 394) (by decide +kernel)⟩
theorem lw_p13 : lw_okq (⟨"EelPermits$Lake", "hasOffender", "(I)Z"⟩, 11) := ⟨⟨by decide +kernel, by decide +kernel⟩, List.mem_of_getElem? (i := 25) (by decide +kernel), List.mem_of_getElem? (i := 397) (by decide +kernel), List.mem_of_getElem? (i := 398) (by decide +kernel)⟩
theorem lw_p14 : lw_okq (⟨"EelPermits$Lake", "fineAllAt", "(ILEelPermits$Warden;)V"⟩, 11) := ⟨⟨by decide +kernel, by decide +kernel⟩, List.mem_of_getElem? (i := 25) (by decide +kernel), List.mem_of_getElem? (i := 412) (by decide +kernel), List.mem_of_getElem? (i := 413) (by decide +kernel)⟩
theorem lw_p15 : lw_okq (⟨"EelPermits$Lake", "keepCatches", "()I"⟩, 11) := ⟨⟨by decide +kernel, by decide +kernel⟩, List.mem_of_getElem? (i := 25) (by decide +kernel), List.mem_of_getElem? (i := 416) (by decide +kernel), List.mem_of_getElem? (i := 417) (by decide +kernel)⟩
def lw_privs_1 : List (MethodName × Nat) := [(⟨"java/lang/Throwable", "fillInStackTrace", "(I)Ljava/lang/Throwable;"⟩, 6), (⟨"EelPermits$Lake", "spearersAt", "(I)I"⟩, 11), (⟨"EelPermits$Lake", "nearestWardenTo", "(LEelPermits$Hole;)I"⟩, 11), (⟨"EelPermits$Lake", "eelsOfLake", "()I"⟩, 11), (⟨"EelPermits$Lake", "openHoles", "()I"⟩, 11), (⟨"EelPermits$Lake", "eelsOfSpearers", "()I"⟩, 11), (⟨"EelPermits$Lake", "finesOfSpearers", "()I"⟩, 11), (⟨"EelPermits$Lake", "lightLamps", "()V"⟩, 11), (⟨"EelPermits$Lake", "lure", "(LEelPermits$Hole;I)V"⟩, 11), (⟨"EelPermits$Lake", "moveEels", "(II)V"⟩, 11), (⟨"EelPermits$Lake", "spearEels", "()V"⟩, 11), (⟨"EelPermits$Lake", "sendWardens", "()V"⟩, 11), (⟨"EelPermits$Lake", "nearestOffence", "(LEelPermits$Warden;)I"⟩, 11), (⟨"EelPermits$Lake", "hasOffender", "(I)Z"⟩, 11), (⟨"EelPermits$Lake", "fineAllAt", "(ILEelPermits$Warden;)V"⟩, 11), (⟨"EelPermits$Lake", "keepCatches", "()I"⟩, 11)]
theorem lw_r1 : ∀ q ∈ lw_privs_1, lw_okq q := List.forall_mem_cons.mpr ⟨lw_p0, List.forall_mem_cons.mpr ⟨lw_p1, List.forall_mem_cons.mpr ⟨lw_p2, List.forall_mem_cons.mpr ⟨lw_p3, List.forall_mem_cons.mpr ⟨lw_p4, List.forall_mem_cons.mpr ⟨lw_p5, List.forall_mem_cons.mpr ⟨lw_p6, List.forall_mem_cons.mpr ⟨lw_p7, List.forall_mem_cons.mpr ⟨lw_p8, List.forall_mem_cons.mpr ⟨lw_p9, List.forall_mem_cons.mpr ⟨lw_p10, List.forall_mem_cons.mpr ⟨lw_p11, List.forall_mem_cons.mpr ⟨lw_p12, List.forall_mem_cons.mpr ⟨lw_p13, List.forall_mem_cons.mpr ⟨lw_p14, List.forall_mem_cons.mpr ⟨lw_p15, fun _ h => absurd h List.not_mem_nil⟩⟩⟩⟩⟩⟩⟩⟩⟩⟩⟩⟩⟩⟩⟩⟩
theorem lw_p16 : lw_okq (⟨"EelPermits$Lake", "breedEels", "()V"⟩, 11) := ⟨⟨by decide +kernel, by decide +kernel⟩, List.mem_of_getElem? (i := 25) (by decide +kernel), List.mem_of_getElem? (i := 420) (by decide +kernel), List.mem_of_getElem? (i := 421) (by decide +kernel)⟩
theorem lw_p17 : lw_okq (⟨"EelPermits$Lake", "freeze", "()V"⟩, 11) := ⟨⟨by decide +kernel, by decide +kernel⟩, List.mem_of_getElem? (i := 25) (by decide +kernel), List.mem_of_getElem? (i := 424) (by decide +kernel), List.mem_of_getElem? (i := 425) (by decide +kernel)⟩
theorem lw_p18 : lw_okq (⟨"EelPermits$Lake", "closeAllHoles", "()V"⟩, 11) := ⟨⟨by decide +kernel, by decide +kernel⟩, List.mem_of_getElem? (i := 25) (by decide +kernel), List.mem_of_getElem? (i := 439) (by decide +kernel), List.mem_of_getElem? (i := 440) (by decide +kernel)⟩
theorem lw_p19 : lw_okq (⟨"EelPermits$Lake", "closeEmptyHoles", "()V"⟩, 11) := ⟨⟨by decide +kernel, by decide +kernel⟩, List.mem_of_getElem? (i := 25) (by decide +kernel), List.mem_of_getElem? (i := 443) (by decide +kernel), List.mem_of_getElem? (i := 444) (by decide +kernel)⟩
theorem lw_p20 : lw_okq (⟨"EelPermits", "eelsIfAt", "(II)I"⟩, 2) := ⟨⟨by decide +kernel, by decide +kernel⟩, List.mem_of_getElem? (i := 17) (by decide +kernel), List.mem_of_getElem? (i := 483) (by decide +kernel), List.mem_of_getElem? (i := 484) (by decide +kernel)⟩
theorem lw_p21 : lw_okq (⟨"EelPermits", "digestOfCells", "(J)J"⟩, 2) := ⟨⟨by decide +kernel, by decide +kernel⟩, List.mem_of_getElem? (i := 17) (by decide +kernel), List.mem_of_getElem? (i := 500) (by decide +kernel), List.mem_of_getElem? (i := 501) (by decide +kernel)⟩
theorem lw_p22 : lw_okq (⟨"EelPermits", "digestOfPeople", "(J)J"⟩, 2) := ⟨⟨by decide +kernel, by decide +kernel⟩, List.mem_of_getElem? (i := 17) (by decide +kernel), List.mem_of_getElem? (i := 504) (by decide +kernel), List.mem_of_getElem? (i := 505) (by decide +kernel)⟩
theorem lw_p23 : lw_okq (⟨"EelPermitsLaw$Sim", "lamp", "([I)V"⟩, 8) := ⟨⟨by decide +kernel, by decide +kernel⟩, List.mem_of_getElem? (i := 514) (by decide +kernel), List.mem_of_getElem? (i := 512) (by decide +kernel), List.mem_of_getElem? (i := 513) (by decide +kernel)⟩
theorem lw_p24 : lw_okq (⟨"EelPermitsLaw$Sim", "guard", "([I)V"⟩, 8) := ⟨⟨by decide +kernel, by decide +kernel⟩, List.mem_of_getElem? (i := 514) (by decide +kernel), List.mem_of_getElem? (i := 521) (by decide +kernel), List.mem_of_getElem? (i := 522) (by decide +kernel)⟩
theorem lw_p25 : lw_okq (⟨"EelPermitsLaw$Sim", "isOver", "(I)Z"⟩, 8) := ⟨⟨by decide +kernel, by decide +kernel⟩, List.mem_of_getElem? (i := 514) (by decide +kernel), List.mem_of_getElem? (i := 528) (by decide +kernel), List.mem_of_getElem? (i := 529) (by decide +kernel)⟩
def lw_privs_2 : List (MethodName × Nat) := [(⟨"EelPermits$Lake", "breedEels", "()V"⟩, 11), (⟨"EelPermits$Lake", "freeze", "()V"⟩, 11), (⟨"EelPermits$Lake", "closeAllHoles", "()V"⟩, 11), (⟨"EelPermits$Lake", "closeEmptyHoles", "()V"⟩, 11), (⟨"EelPermits", "eelsIfAt", "(II)I"⟩, 2), (⟨"EelPermits", "digestOfCells", "(J)J"⟩, 2), (⟨"EelPermits", "digestOfPeople", "(J)J"⟩, 2), (⟨"EelPermitsLaw$Sim", "lamp", "([I)V"⟩, 8), (⟨"EelPermitsLaw$Sim", "guard", "([I)V"⟩, 8), (⟨"EelPermitsLaw$Sim", "isOver", "(I)Z"⟩, 8)]
theorem lw_r2 : ∀ q ∈ lw_privs_2, lw_okq q := List.forall_mem_cons.mpr ⟨lw_p16, List.forall_mem_cons.mpr ⟨lw_p17, List.forall_mem_cons.mpr ⟨lw_p18, List.forall_mem_cons.mpr ⟨lw_p19, List.forall_mem_cons.mpr ⟨lw_p20, List.forall_mem_cons.mpr ⟨lw_p21, List.forall_mem_cons.mpr ⟨lw_p22, List.forall_mem_cons.mpr ⟨lw_p23, List.forall_mem_cons.mpr ⟨lw_p24, List.forall_mem_cons.mpr ⟨lw_p25, fun _ h => absurd h List.not_mem_nil⟩⟩⟩⟩⟩⟩⟩⟩⟩⟩
def lw_privs : List (MethodName × Nat) := lw_privs_1 ++ (lw_privs_2)
def lw_tbl : List Cond := k2_sels lw_privs ++ tables_1
theorem lw_privs_ok : ∀ q ∈ lw_privs, lw_okq q := by
  show ∀ q ∈ lw_privs_1 ++ (lw_privs_2), lw_okq q
  exact List.forall_mem_append.mpr ⟨lw_r1, lw_r2⟩
/-- the streams that the claim lets the run draw from -/
abbrev lw_cs : List Choice := [Jvm.Choice.named "NaN.bits"]
theorem lw_bits : nanBits ∈ lw_cs := by first | decide | exact List.mem_cons_self | simp [lw_cs, nanBits]
/-- the tables' words that pass to any callee -/
def LG : List Cond := lw_tbl.filter goodWord
theorem LG_in {w : Cond} (i : Nat) (h : lw_tbl[i]? = some w) (g : goodWord w = true) : w ∈ LG := List.mem_filter.mpr ⟨List.mem_of_getElem? h, g⟩
theorem LG_self : GoodIn LG LG := fun w h => ⟨h, good_of_word (List.mem_filter.mp h).2⟩
theorem LG_of {args : Array Value} {s : State} (hts : ∀ w ∈ lw_tbl, w.before args s = true) : ∀ w ∈ LG, w.before args s = true := fun w h => hts w (List.mem_filter.mp h).1
def wy (y : MethodName) (b : ByteArray) (n : Nat) (ret : Option FieldType) : List Cond := .code y b n ret :: LG
theorem LG_y {y : MethodName} {b : ByteArray} {n : Nat} {ret : Option FieldType} (h : Cond.code y b n ret ∈ LG) : GoodIn LG (wy y b n ret) := fun w hw => (List.mem_cons.mp hw).elim (fun e => by rw [e]; exact LG_self _ h) (LG_self w)
theorem LG_V {own C : String} {idx : Nat} {y : MethodName} {b : ByteArray} {n : Nat} {ret : Option FieldType} (h1 : Cond.methodLink own idx y ∈ LG) (h2 : Cond.instanceMethod y ∈ LG) (h3 : Cond.selects C y y ∈ LG) (h4 : Cond.initialized C ∈ LG) (h5 : Cond.code y b n ret ∈ LG) : GoodIn LG (wsV own idx C y (wy y b n ret)) := by
  intro w hw
  unfold wsV at hw
  rcases List.mem_append.mp hw with hw | hw
  · simp only [List.mem_cons, List.not_mem_nil, or_false] at hw
    rcases hw with rfl | rfl | rfl | rfl
    · exact LG_self _ h1
    · exact LG_self _ h2
    · exact LG_self _ h3
    · exact LG_self _ h4
  · exact LG_y h5 w hw
theorem LG_S {own : String} {idx : Nat} {y : MethodName} {b : ByteArray} {n : Nat} {ret : Option FieldType} (h1 : Cond.methodLink own idx y ∈ LG) (h2 : Cond.static y ∈ LG) (h4 : Cond.initialized y.cls ∈ LG) (h5 : Cond.code y b n ret ∈ LG) : GoodIn LG (va_wsS own idx y (wy y b n ret)) := by
  intro w hw
  unfold va_wsS at hw
  rcases List.mem_append.mp hw with hw | hw
  · simp only [List.mem_cons, List.not_mem_nil, or_false] at hw
    rcases hw with rfl | rfl | rfl
    · exact LG_self _ h1
    · exact LG_self _ h2
    · exact LG_self _ h4
  · exact LG_y h5 w hw
end
section
-- printed by the TURN of the program itself (claim/NAMES.whole.lean.txt): names, fields, codes
def RX0 : String := "EelPermits$Hole"
def TX0 : u_T := fun k => match k with
  | 0 => ("EelPermits$Hole", "x", "I", false)
  | 1 => ("EelPermits$Hole", "y", "I", false)
  | _ => ("EelPermits$Hole", "open", "Z", false)
def tyX0 : Nat → FieldType := fun k => match k with
  | 0 => .int
  | 1 => .int
  | _ => .boolean
abbrev wsX00 : List Cond := u_ws RX0 TX0 3
theorem nmX0 : ∀ a, a < 3 → ∀ b, b < 3 → a ≠ b → (TX0 a).2.1 ≠ (TX0 b).2.1 := by decide +kernel
theorem tyX0_ok : ∀ k, k < 3 → parseFieldDescriptor (TX0 k).2.2.1 = some (tyX0 k) := by decide +kernel
abbrev cX0_init : ByteArray := prog_2_method_1_code
def yX0_init : MethodName := ⟨RX0, "<init>", "()V"⟩
abbrev cX0_become : ByteArray := prog_2_method_2_code
def yX0_become : MethodName := ⟨RX0, "become", "(LEelPermits$Hole;)V"⟩
def RX1 : String := "EelPermits$Lake"
def TX1 : u_T := fun k => match k with
  | 0 => ("EelPermits$Lake", "eels", "[I", true)
  | 1 => ("EelPermits$Lake", "mud", "[I", true)
  | 2 => ("EelPermits$Lake", "frost", "[I", true)
  | 3 => ("EelPermits$Lake", "holes", "[LEelPermits$Hole;", true)
  | 4 => ("EelPermits$Lake", "spearers", "[LEelPermits$Spearer;", true)
  | 5 => ("EelPermits$Lake", "wardens", "[LEelPermits$Warden;", true)
  | 6 => ("EelPermits$Lake", "holeCount", "I", false)
  | 7 => ("EelPermits$Lake", "spearerCount", "I", false)
  | 8 => ("EelPermits$Lake", "wardenCount", "I", false)
  | 9 => ("EelPermits$Lake", "ice", "I", false)
  | _ => ("EelPermits$Lake", "night", "I", false)
def tyX1 : Nat → FieldType := fun k => match k with
  | 0 => .array .int
  | 1 => .array .int
  | 2 => .array .int
  | 3 => .array (.object "EelPermits$Hole")
  | 4 => .array (.object "EelPermits$Spearer")
  | 5 => .array (.object "EelPermits$Warden")
  | 6 => .int
  | 7 => .int
  | 8 => .int
  | 9 => .int
  | _ => .int
abbrev wsX10 : List Cond := u_ws RX1 TX1 11
theorem nmX1 : ∀ a, a < 11 → ∀ b, b < 11 → a ≠ b → (TX1 a).2.1 ≠ (TX1 b).2.1 := by decide +kernel
theorem tyX1_ok : ∀ k, k < 11 → parseFieldDescriptor (TX1 k).2.2.1 = some (tyX1 k) := by decide +kernel
abbrev cX1_init : ByteArray := prog_3_method_1_code
def yX1_init : MethodName := ⟨RX1, "<init>", "()V"⟩
abbrev cX1_become : ByteArray := prog_3_method_2_code
def yX1_become : MethodName := ⟨RX1, "become", "(LEelPermits$Lake;)V"⟩
abbrev cX1_hasHole : ByteArray := prog_3_method_3_code
def yX1_hasHole : MethodName := ⟨RX1, "hasHole", "(I)Z"⟩
abbrev cX1_hasSpearer : ByteArray := prog_3_method_4_code
def yX1_hasSpearer : MethodName := ⟨RX1, "hasSpearer", "(I)Z"⟩
abbrev cX1_hasWarden : ByteArray := prog_3_method_5_code
def yX1_hasWarden : MethodName := ⟨RX1, "hasWarden", "(I)Z"⟩
abbrev cX1_addHole : ByteArray := prog_3_method_6_code
def yX1_addHole : MethodName := ⟨RX1, "addHole", "(II)I"⟩
abbrev cX1_addSpearer : ByteArray := prog_3_method_7_code
def yX1_addSpearer : MethodName := ⟨RX1, "addSpearer", "(II)I"⟩
abbrev cX1_addWarden : ByteArray := prog_3_method_8_code
def yX1_addWarden : MethodName := ⟨RX1, "addWarden", "(III)I"⟩
abbrev cX1_openHoleIn : ByteArray := prog_3_method_9_code
def yX1_openHoleIn : MethodName := ⟨RX1, "openHoleIn", "(II)I"⟩
abbrev cX1_frostOf : ByteArray := prog_3_method_10_code
def yX1_frostOf : MethodName := ⟨RX1, "frostOf", "(I)I"⟩
abbrev cX1_catchIn : ByteArray := prog_3_method_11_code
def yX1_catchIn : MethodName := ⟨RX1, "catchIn", "(I)I"⟩
abbrev cX1_cellFact : ByteArray := prog_3_method_12_code
def yX1_cellFact : MethodName := ⟨RX1, "cellFact", "(III)I"⟩
abbrev cX1_holeFact : ByteArray := prog_3_method_13_code
def yX1_holeFact : MethodName := ⟨RX1, "holeFact", "(II)I"⟩
abbrev cX1_fact : ByteArray := prog_3_method_14_code
def yX1_fact : MethodName := ⟨RX1, "fact", "(I)I"⟩
abbrev cX1_spearersAt : ByteArray := prog_3_method_15_code
def yX1_spearersAt : MethodName := ⟨RX1, "spearersAt", "(I)I"⟩
abbrev cX1_nearestWardenTo : ByteArray := prog_3_method_16_code
def yX1_nearestWardenTo : MethodName := ⟨RX1, "nearestWardenTo", "(LEelPermits$Hole;)I"⟩
abbrev cX1_eelsOfLake : ByteArray := prog_3_method_17_code
def yX1_eelsOfLake : MethodName := ⟨RX1, "eelsOfLake", "()I"⟩
abbrev cX1_openHoles : ByteArray := prog_3_method_18_code
def yX1_openHoles : MethodName := ⟨RX1, "openHoles", "()I"⟩
abbrev cX1_eelsOfSpearers : ByteArray := prog_3_method_19_code
def yX1_eelsOfSpearers : MethodName := ⟨RX1, "eelsOfSpearers", "()I"⟩
abbrev cX1_finesOfSpearers : ByteArray := prog_3_method_20_code
def yX1_finesOfSpearers : MethodName := ⟨RX1, "finesOfSpearers", "()I"⟩
abbrev cX1_letNightsGo : ByteArray := prog_3_method_21_code
def yX1_letNightsGo : MethodName := ⟨RX1, "letNightsGo", "(I)I"⟩
abbrev cX1_lightLamps : ByteArray := prog_3_method_22_code
def yX1_lightLamps : MethodName := ⟨RX1, "lightLamps", "()V"⟩
abbrev cX1_lure : ByteArray := prog_3_method_23_code
def yX1_lure : MethodName := ⟨RX1, "lure", "(LEelPermits$Hole;I)V"⟩
abbrev cX1_moveEels : ByteArray := prog_3_method_24_code
def yX1_moveEels : MethodName := ⟨RX1, "moveEels", "(II)V"⟩
abbrev cX1_spearEels : ByteArray := prog_3_method_25_code
def yX1_spearEels : MethodName := ⟨RX1, "spearEels", "()V"⟩
abbrev cX1_sendWardens : ByteArray := prog_3_method_26_code
def yX1_sendWardens : MethodName := ⟨RX1, "sendWardens", "()V"⟩
abbrev cX1_nearestOffence : ByteArray := prog_3_method_27_code
def yX1_nearestOffence : MethodName := ⟨RX1, "nearestOffence", "(LEelPermits$Warden;)I"⟩
abbrev cX1_hasOffender : ByteArray := prog_3_method_28_code
def yX1_hasOffender : MethodName := ⟨RX1, "hasOffender", "(I)Z"⟩
abbrev cX1_fineAllAt : ByteArray := prog_3_method_29_code
def yX1_fineAllAt : MethodName := ⟨RX1, "fineAllAt", "(ILEelPermits$Warden;)V"⟩
abbrev cX1_keepCatches : ByteArray := prog_3_method_30_code
def yX1_keepCatches : MethodName := ⟨RX1, "keepCatches", "()I"⟩
abbrev cX1_breedEels : ByteArray := prog_3_method_31_code
def yX1_breedEels : MethodName := ⟨RX1, "breedEels", "()V"⟩
abbrev cX1_freeze : ByteArray := prog_3_method_32_code
def yX1_freeze : MethodName := ⟨RX1, "freeze", "()V"⟩
abbrev cX1_closeAllHoles : ByteArray := prog_3_method_33_code
def yX1_closeAllHoles : MethodName := ⟨RX1, "closeAllHoles", "()V"⟩
abbrev cX1_closeEmptyHoles : ByteArray := prog_3_method_34_code
def yX1_closeEmptyHoles : MethodName := ⟨RX1, "closeEmptyHoles", "()V"⟩
def RX2 : String := "EelPermits$Spearer"
def TX2 : u_T := fun k => match k with
  | 0 => ("EelPermits$Spearer", "permit", "I", false)
  | 1 => ("EelPermits$Spearer", "light", "I", false)
  | 2 => ("EelPermits$Spearer", "hole", "I", false)
  | 3 => ("EelPermits$Spearer", "caught", "I", false)
  | 4 => ("EelPermits$Spearer", "eels", "I", false)
  | _ => ("EelPermits$Spearer", "fines", "I", false)
def tyX2 : Nat → FieldType := fun k => match k with
  | 0 => .int
  | 1 => .int
  | 2 => .int
  | 3 => .int
  | 4 => .int
  | _ => .int
abbrev wsX20 : List Cond := u_ws RX2 TX2 6
theorem nmX2 : ∀ a, a < 6 → ∀ b, b < 6 → a ≠ b → (TX2 a).2.1 ≠ (TX2 b).2.1 := by decide +kernel
theorem tyX2_ok : ∀ k, k < 6 → parseFieldDescriptor (TX2 k).2.2.1 = some (tyX2 k) := by decide +kernel
abbrev cX2_init : ByteArray := prog_4_method_1_code
def yX2_init : MethodName := ⟨RX2, "<init>", "()V"⟩
abbrev cX2_become : ByteArray := prog_4_method_2_code
def yX2_become : MethodName := ⟨RX2, "become", "(LEelPermits$Spearer;)V"⟩
abbrev cX2_tookTooMuch : ByteArray := prog_4_method_3_code
def yX2_tookTooMuch : MethodName := ⟨RX2, "tookTooMuch", "()Z"⟩
abbrev cX2_tell : ByteArray := prog_4_method_4_code
def yX2_tell : MethodName := ⟨RX2, "tell", "(I)I"⟩
def RX3 : String := "EelPermits$Warden"
def TX3 : u_T := fun k => match k with
  | 0 => ("EelPermits$Warden", "x", "I", false)
  | 1 => ("EelPermits$Warden", "y", "I", false)
  | 2 => ("EelPermits$Warden", "pace", "I", false)
  | _ => ("EelPermits$Warden", "fines", "I", false)
def tyX3 : Nat → FieldType := fun k => match k with
  | 0 => .int
  | 1 => .int
  | 2 => .int
  | _ => .int
abbrev wsX30 : List Cond := u_ws RX3 TX3 4
theorem nmX3 : ∀ a, a < 4 → ∀ b, b < 4 → a ≠ b → (TX3 a).2.1 ≠ (TX3 b).2.1 := by decide +kernel
theorem tyX3_ok : ∀ k, k < 4 → parseFieldDescriptor (TX3 k).2.2.1 = some (tyX3 k) := by decide +kernel
abbrev cX3_init : ByteArray := prog_5_method_1_code
def yX3_init : MethodName := ⟨RX3, "<init>", "()V"⟩
abbrev cX3_become : ByteArray := prog_5_method_2_code
def yX3_become : MethodName := ⟨RX3, "become", "(LEelPermits$Warden;)V"⟩
abbrev cX3_goTowards : ByteArray := prog_5_method_3_code
def yX3_goTowards : MethodName := ⟨RX3, "goTowards", "(LEelPermits$Hole;)V"⟩
abbrev cX3_tell : ByteArray := prog_5_method_4_code
def yX3_tell : MethodName := ⟨RX3, "tell", "(I)I"⟩
def RX4 : String := "EelPermits"
def TX4 : u_T := fun k => match k with
  | 0 => ("EelPermits", "lake", "LEelPermits$Lake;", true)
  | _ => ("EelPermits", "draft", "LEelPermits$Lake;", true)
def tyX4 : Nat → FieldType := fun k => match k with
  | 0 => .object "EelPermits$Lake"
  | _ => .object "EelPermits$Lake"
abbrev wsX40 : List Cond := u_ws RX4 TX4 2
theorem nmX4 : ∀ a, a < 2 → ∀ b, b < 2 → a ≠ b → (TX4 a).2.1 ≠ (TX4 b).2.1 := by decide +kernel
theorem tyX4_ok : ∀ k, k < 2 → parseFieldDescriptor (TX4 k).2.2.1 = some (tyX4 k) := by decide +kernel
abbrev cX4_init : ByteArray := prog_1_method_1_code
def yX4_init : MethodName := ⟨RX4, "<init>", "()V"⟩
abbrev cX4_set : ByteArray := prog_1_method_2_code
def yX4_set : MethodName := ⟨RX4, "set", "(IIII)I"⟩
abbrev cX4_setFrost : ByteArray := prog_1_method_3_code
def yX4_setFrost : MethodName := ⟨RX4, "setFrost", "(II)I"⟩
abbrev cX4_cut : ByteArray := prog_1_method_4_code
def yX4_cut : MethodName := ⟨RX4, "cut", "(II)I"⟩
abbrev cX4_license : ByteArray := prog_1_method_5_code
def yX4_license : MethodName := ⟨RX4, "license", "(II)I"⟩
abbrev cX4_go : ByteArray := prog_1_method_6_code
def yX4_go : MethodName := ⟨RX4, "go", "(II)I"⟩
abbrev cX4_warden : ByteArray := prog_1_method_7_code
def yX4_warden : MethodName := ⟨RX4, "warden", "(III)I"⟩
abbrev cX4_cell : ByteArray := prog_1_method_8_code
def yX4_cell : MethodName := ⟨RX4, "cell", "(III)I"⟩
abbrev cX4_hole : ByteArray := prog_1_method_9_code
def yX4_hole : MethodName := ⟨RX4, "hole", "(II)I"⟩
abbrev cX4_spearer : ByteArray := prog_1_method_10_code
def yX4_spearer : MethodName := ⟨RX4, "spearer", "(II)I"⟩
abbrev cX4_about : ByteArray := prog_1_method_11_code
def yX4_about : MethodName := ⟨RX4, "about", "(II)I"⟩
abbrev cX4_count : ByteArray := prog_1_method_12_code
def yX4_count : MethodName := ⟨RX4, "count", "(I)I"⟩
abbrev cX4_pass : ByteArray := prog_1_method_13_code
def yX4_pass : MethodName := ⟨RX4, "pass", "(I)I"⟩
abbrev cX4_bears : ByteArray := prog_1_method_14_code
def yX4_bears : MethodName := ⟨RX4, "bears", "()I"⟩
abbrev cX4_foresee : ByteArray := prog_1_method_15_code
def yX4_foresee : MethodName := ⟨RX4, "foresee", "(II)I"⟩
abbrev cX4_advise : ByteArray := prog_1_method_16_code
def yX4_advise : MethodName := ⟨RX4, "advise", "(I)I"⟩
abbrev cX4_mean : ByteArray := prog_1_method_17_code
def yX4_mean : MethodName := ⟨RX4, "mean", "()D"⟩
abbrev cX4_digest : ByteArray := prog_1_method_18_code
def yX4_digest : MethodName := ⟨RX4, "digest", "()J"⟩
abbrev cX4_digestOfCells : ByteArray := prog_1_method_19_code
def yX4_digestOfCells : MethodName := ⟨RX4, "digestOfCells", "(J)J"⟩
abbrev cX4_digestOfPeople : ByteArray := prog_1_method_20_code
def yX4_digestOfPeople : MethodName := ⟨RX4, "digestOfPeople", "(J)J"⟩
abbrev cX4_eelsIfAt : ByteArray := prog_1_method_21_code
def yX4_eelsIfAt : MethodName := ⟨RX4, "eelsIfAt", "(II)I"⟩
abbrev cX4_mixed : ByteArray := prog_1_method_22_code
def yX4_mixed : MethodName := ⟨RX4, "mixed", "(JI)J"⟩
abbrev cX4_isForeseen : ByteArray := prog_1_method_23_code
def yX4_isForeseen : MethodName := ⟨RX4, "isForeseen", "(I)Z"⟩
abbrev cX4_isWithin : ByteArray := prog_1_method_24_code
def yX4_isWithin : MethodName := ⟨RX4, "isWithin", "(III)Z"⟩
abbrev cX4_isCell : ByteArray := prog_1_method_25_code
def yX4_isCell : MethodName := ⟨RX4, "isCell", "(II)Z"⟩
abbrev cX4_cellAt : ByteArray := prog_1_method_26_code
def yX4_cellAt : MethodName := ⟨RX4, "cellAt", "(II)I"⟩
abbrev cX4_distance : ByteArray := prog_1_method_27_code
def yX4_distance : MethodName := ⟨RX4, "distance", "(IIII)I"⟩
abbrev cX4_iceBears : ByteArray := prog_1_method_28_code
def yX4_iceBears : MethodName := ⟨RX4, "iceBears", "(I)Z"⟩
abbrev cX4_iceBehind : ByteArray := prog_1_method_29_code
def yX4_iceBehind : MethodName := ⟨RX4, "iceBehind", "(II)I"⟩
def RX5 : String := "EelPermitsLaw$Sim"
def TX5 : u_T := fun k => match k with
  | 0 => ("EelPermitsLaw$Sim", "eels", "[[I", false)
  | 1 => ("EelPermitsLaw$Sim", "mud", "[[I", false)
  | 2 => ("EelPermitsLaw$Sim", "frost", "[I", false)
  | 3 => ("EelPermitsLaw$Sim", "holes", "[[I", false)
  | 4 => ("EelPermitsLaw$Sim", "spearers", "[[I", false)
  | 5 => ("EelPermitsLaw$Sim", "wardens", "[[I", false)
  | 6 => ("EelPermitsLaw$Sim", "night", "I", false)
  | _ => ("EelPermitsLaw$Sim", "ice", "I", false)
def tyX5 : Nat → FieldType := fun k => match k with
  | 0 => .array (.array .int)
  | 1 => .array (.array .int)
  | 2 => .array .int
  | 3 => .array (.array .int)
  | 4 => .array (.array .int)
  | 5 => .array (.array .int)
  | 6 => .int
  | _ => .int
abbrev wsX50 : List Cond := u_ws RX5 TX5 8
theorem nmX5 : ∀ a, a < 8 → ∀ b, b < 8 → a ≠ b → (TX5 a).2.1 ≠ (TX5 b).2.1 := by decide +kernel
theorem tyX5_ok : ∀ k, k < 8 → parseFieldDescriptor (TX5 k).2.2.1 = some (tyX5 k) := by decide +kernel
abbrev cX5_init : ByteArray := prog_7_method_1_code
def yX5_init : MethodName := ⟨RX5, "<init>", "()V"⟩
abbrev cX5_more : ByteArray := prog_7_method_2_code
def yX5_more : MethodName := ⟨RX5, "more", "([[I[I)[[I"⟩
abbrev cX5_far : ByteArray := prog_7_method_5_code
def yX5_far : MethodName := ⟨RX5, "far", "([I[I)I"⟩
abbrev cX5_would : ByteArray := prog_7_method_6_code
def yX5_would : MethodName := ⟨RX5, "would", "(II)I"⟩
abbrev cX5_openAt : ByteArray := prog_7_method_7_code
def yX5_openAt : MethodName := ⟨RX5, "openAt", "(II)I"⟩
abbrev cX5_many : ByteArray := prog_7_method_8_code
def yX5_many : MethodName := ⟨RX5, "many", "(I)I"⟩
abbrev cX5_lamp : ByteArray := prog_7_method_9_code
def yX5_lamp : MethodName := ⟨RX5, "lamp", "([I)V"⟩
abbrev cX5_isOver : ByteArray := prog_7_method_10_code
def yX5_isOver : MethodName := ⟨RX5, "isOver", "(I)Z"⟩
abbrev cX5_guard : ByteArray := prog_7_method_11_code
def yX5_guard : MethodName := ⟨RX5, "guard", "([I)V"⟩
abbrev cX5_pass : ByteArray := prog_7_method_12_code
def yX5_pass : MethodName := ⟨RX5, "pass", "()I"⟩
abbrev cX5_counts : ByteArray := prog_7_method_13_code
def yX5_counts : MethodName := ⟨RX5, "counts", "()[I"⟩
abbrev cX5_isSame : ByteArray := prog_7_method_14_code
def yX5_isSame : MethodName := ⟨RX5, "isSame", "(LEelPermits;)Z"⟩
def RX6 : String := "EelPermitsModel$State"
def TX6 : u_T := fun k => match k with
  | _ => ("", "", "", false)
def tyX6 : Nat → FieldType := fun k => match k with
  | _ => .int
abbrev wsX60 : List Cond := u_ws RX6 TX6 0
theorem nmX6 : ∀ a, a < 0 → ∀ b, b < 0 → a ≠ b → (TX6 a).2.1 ≠ (TX6 b).2.1 := by decide +kernel
theorem tyX6_ok : ∀ k, k < 0 → parseFieldDescriptor (TX6 k).2.2.1 = some (tyX6 k) := by decide +kernel
def RX7 : String := "EelPermitsModel"
def TX7 : u_T := fun k => match k with
  | _ => ("", "", "", false)
def tyX7 : Nat → FieldType := fun k => match k with
  | _ => .int
abbrev wsX70 : List Cond := u_ws RX7 TX7 0
theorem nmX7 : ∀ a, a < 0 → ∀ b, b < 0 → a ≠ b → (TX7 a).2.1 ≠ (TX7 b).2.1 := by decide +kernel
theorem tyX7_ok : ∀ k, k < 0 → parseFieldDescriptor (TX7 k).2.2.1 = some (tyX7 k) := by decide +kernel
def RJx145de : String := "java/io/Serializable"
def TJx145de : u_T := fun k => match k with
  | _ => ("", "", "", false)
def tyJx145de : Nat → FieldType := fun k => match k with
  | _ => .int
abbrev wsJx145de0 : List Cond := u_ws RJx145de TJx145de 0
theorem nmJx145de : ∀ a, a < 0 → ∀ b, b < 0 → a ≠ b → (TJx145de a).2.1 ≠ (TJx145de b).2.1 := by decide +kernel
theorem tyJx145de_ok : ∀ k, k < 0 → parseFieldDescriptor (TJx145de k).2.2.1 = some (tyJx145de k) := by decide +kernel
def RJ6 : String := "java/lang/Integer"
def TJ6 : u_T := fun k => match k with
  | _ => ("", "", "", false)
def tyJ6 : Nat → FieldType := fun k => match k with
  | _ => .int
abbrev wsJ60 : List Cond := u_ws RJ6 TJ6 0
theorem nmJ6 : ∀ a, a < 0 → ∀ b, b < 0 → a ≠ b → (TJ6 a).2.1 ≠ (TJ6 b).2.1 := by decide +kernel
theorem tyJ6_ok : ∀ k, k < 0 → parseFieldDescriptor (TJ6 k).2.2.1 = some (tyJ6 k) := by decide +kernel
abbrev cJ6_compare_7cf53 : ByteArray := prog_14_method_40_code
def yJ6_compare_7cf53 : MethodName := ⟨RJ6, "compare", "(II)I"⟩
def RJ9 : String := "java/lang/Math"
def TJ9 : u_T := fun k => match k with
  | _ => ("", "", "", false)
def tyJ9 : Nat → FieldType := fun k => match k with
  | _ => .int
abbrev wsJ90 : List Cond := u_ws RJ9 TJ9 0
theorem nmJ9 : ∀ a, a < 0 → ∀ b, b < 0 → a ≠ b → (TJ9 a).2.1 ≠ (TJ9 b).2.1 := by decide +kernel
theorem tyJ9_ok : ∀ k, k < 0 → parseFieldDescriptor (TJ9 k).2.2.1 = some (tyJ9 k) := by decide +kernel
abbrev cJ9_floorMod_7cf53 : ByteArray := prog_15_method_50_code
def yJ9_floorMod_7cf53 : MethodName := ⟨RJ9, "floorMod", "(II)I"⟩
abbrev cJ9_abs_0f7a4 : ByteArray := prog_15_method_59_code
def yJ9_abs_0f7a4 : MethodName := ⟨RJ9, "abs", "(I)I"⟩
abbrev cJ9_max_7cf53 : ByteArray := prog_15_method_65_code
def yJ9_max_7cf53 : MethodName := ⟨RJ9, "max", "(II)I"⟩
abbrev cJ9_min_7cf53 : ByteArray := prog_15_method_69_code
def yJ9_min_7cf53 : MethodName := ⟨RJ9, "min", "(II)I"⟩
def RJ0 : String := "java/lang/String"
def TJ0 : u_T := fun k => match k with
  | _ => ("", "", "", false)
def tyJ0 : Nat → FieldType := fun k => match k with
  | _ => .int
abbrev wsJ00 : List Cond := u_ws RJ0 TJ0 0
theorem nmJ0 : ∀ a, a < 0 → ∀ b, b < 0 → a ≠ b → (TJ0 a).2.1 ≠ (TJ0 b).2.1 := by decide +kernel
theorem tyJ0_ok : ∀ k, k < 0 → parseFieldDescriptor (TJ0 k).2.2.1 = some (tyJ0 k) := by decide +kernel
def RJ7 : String := "java/util/Arrays"
def TJ7 : u_T := fun k => match k with
  | _ => ("", "", "", false)
def tyJ7 : Nat → FieldType := fun k => match k with
  | _ => .int
abbrev wsJ70 : List Cond := u_ws RJ7 TJ7 0
theorem nmJ7 : ∀ a, a < 0 → ∀ b, b < 0 → a ≠ b → (TJ7 a).2.1 ≠ (TJ7 b).2.1 := by decide +kernel
theorem tyJ7_ok : ∀ k, k < 0 → parseFieldDescriptor (TJ7 k).2.2.1 = some (tyJ7 k) := by decide +kernel
abbrev cJ7_fill_53178 : ByteArray := prog_19_method_103_code
def yJ7_fill_53178 : MethodName := ⟨RJ7, "fill", "([II)V"⟩
def RL : String := "EelPermitsLaw"
abbrev cL_below : ByteArray := method_2_code
def yL_below : MethodName := ⟨RL, "below", "(II)I"⟩
abbrev cL_cell : ByteArray := method_3_code
def yL_cell : MethodName := ⟨RL, "cell", "([II)I"⟩
abbrev cL_act : ByteArray := method_4_code
def yL_act : MethodName := ⟨RL, "act", "(LEelPermits;LEelPermitsLaw$Sim;I)Z"⟩
abbrev cL_build : ByteArray := method_5_code
def yL_build : MethodName := ⟨RL, "build", "(LEelPermits;[II)LEelPermitsLaw$Sim;"⟩
abbrev cL_law : ByteArray := code
def yL_law : MethodName := ⟨RL, "law", "([I)Z"⟩
end
section
-- membership of the tables' words among LG, by place
set_option maxRecDepth 20000
theorem w_0 : Cond.initialized RL ∈ LG := LG_in 26 (by decide +kernel) rfl
theorem w_1 : Cond.initialized RX4 ∈ LG := LG_in 27 (by decide +kernel) rfl
theorem w_2 : Cond.initialized RX1 ∈ LG := LG_in 28 (by decide +kernel) rfl
theorem w_3 : Cond.initialized RX0 ∈ LG := LG_in 29 (by decide +kernel) rfl
theorem w_4 : Cond.initialized RX2 ∈ LG := LG_in 30 (by decide +kernel) rfl
theorem w_5 : Cond.initialized RX3 ∈ LG := LG_in 31 (by decide +kernel) rfl
theorem w_6 : Cond.initialized RX5 ∈ LG := LG_in 32 (by decide +kernel) rfl
theorem w_7 : Cond.initialized "java/util/Arrays" ∈ LG := LG_in 33 (by decide +kernel) rfl
theorem w_8 : Cond.initialized "java/lang/Throwable" ∈ LG := LG_in 34 (by decide +kernel) rfl
theorem w_9 : Cond.initialized "java/lang/Exception" ∈ LG := LG_in 35 (by decide +kernel) rfl
theorem w_10 : Cond.initialized "java/lang/RuntimeException" ∈ LG := LG_in 36 (by decide +kernel) rfl
theorem w_11 : Cond.initialized "java/lang/IndexOutOfBoundsException" ∈ LG := LG_in 37 (by decide +kernel) rfl
theorem w_12 : Cond.initialized "java/lang/IllegalArgumentException" ∈ LG := LG_in 38 (by decide +kernel) rfl
theorem w_13 : Cond.initialized "java/lang/IllegalStateException" ∈ LG := LG_in 39 (by decide +kernel) rfl
theorem w_14 : Cond.initialized "java/lang/Math" ∈ LG := LG_in 40 (by decide +kernel) rfl
theorem w_15 : Cond.initialized "java/lang/Integer" ∈ LG := LG_in 41 (by decide +kernel) rfl
theorem w_16 : Cond.classLink RL 25 RX4 ∈ LG := LG_in 42 (by decide +kernel) rfl
theorem w_17 : Cond.instantiable RX4 2 ∈ LG := LG_in 43 (by decide +kernel) rfl
theorem w_18 : Cond.methodLink RL 89 yX4_init ∈ LG := LG_in 44 (by decide +kernel) rfl
theorem w_19 : Cond.instanceMethod yX4_init ∈ LG := LG_in 45 (by decide +kernel) rfl
theorem w_20 : Cond.code yX4_init cX4_init 1 none ∈ LG := LG_in 46 (by decide +kernel) rfl
theorem w_21 : Cond.methodLink RX4 1 Lib.objectInit ∈ LG := LG_in 47 (by decide +kernel) rfl
theorem w_22 : Cond.instanceMethod Lib.objectInit ∈ LG := LG_in 48 (by decide +kernel) rfl
theorem w_23 : Cond.code Lib.objectInit ⟨#[0xb1]⟩ 1 none ∈ LG := LG_in 49 (by decide +kernel) rfl
theorem w_24 : Cond.classLink RX4 7 RX1 ∈ LG := LG_in 50 (by decide +kernel) rfl
theorem w_25 : Cond.instantiable RX1 11 ∈ LG := LG_in 51 (by decide +kernel) rfl
theorem w_26 : Cond.methodLink RX4 9 yX1_init ∈ LG := LG_in 52 (by decide +kernel) rfl
theorem w_27 : Cond.instanceMethod yX1_init ∈ LG := LG_in 53 (by decide +kernel) rfl
theorem w_28 : Cond.code yX1_init cX1_init 2 none ∈ LG := LG_in 54 (rfl) rfl
theorem w_29 : Cond.methodLink RX1 3 Lib.objectInit ∈ LG := LG_in 55 (by decide +kernel) rfl
theorem w_30 : Cond.classLink RX1 21 RX0 ∈ LG := LG_in 56 (by decide +kernel) rfl
theorem w_32 : Cond.instantiable RX0 3 ∈ LG := LG_in 58 (by decide +kernel) rfl
theorem w_33 : Cond.methodLink RX1 27 yX0_init ∈ LG := LG_in 59 (by decide +kernel) rfl
theorem w_34 : Cond.instanceMethod yX0_init ∈ LG := LG_in 60 (by decide +kernel) rfl
theorem w_35 : Cond.code yX0_init cX0_init 1 none ∈ LG := LG_in 61 (by decide +kernel) rfl
theorem w_36 : Cond.methodLink RX0 1 Lib.objectInit ∈ LG := LG_in 62 (by decide +kernel) rfl
theorem w_37 : Cond.fieldLink RX0 7 "EelPermits$Hole" "x" "I" ∈ LG := LG_in 63 (by decide +kernel) rfl
theorem w_38 : Cond.fieldLink RX3 22 "EelPermits$Hole" "x" "I" ∈ LG := LG_in 64 (by decide +kernel) rfl
theorem w_39 : Cond.fieldLink RX1 72 "EelPermits$Hole" "x" "I" ∈ LG := LG_in 65 (by decide +kernel) rfl
theorem w_40 : Cond.fieldLink RX0 13 "EelPermits$Hole" "y" "I" ∈ LG := LG_in 66 (by decide +kernel) rfl
theorem w_41 : Cond.fieldLink RX3 31 "EelPermits$Hole" "y" "I" ∈ LG := LG_in 67 (by decide +kernel) rfl
theorem w_42 : Cond.fieldLink RX1 75 "EelPermits$Hole" "y" "I" ∈ LG := LG_in 68 (by decide +kernel) rfl
theorem w_43 : Cond.fieldLink RX0 16 "EelPermits$Hole" "open" "Z" ∈ LG := LG_in 69 (by decide +kernel) rfl
theorem w_44 : Cond.fieldLink RX1 78 "EelPermits$Hole" "open" "Z" ∈ LG := LG_in 70 (by decide +kernel) rfl
theorem w_45 : Cond.fieldLink RX4 107 "EelPermits$Hole" "open" "Z" ∈ LG := LG_in 71 (by decide +kernel) rfl
theorem w_46 : Cond.lays RX0 RX0 "x" "I" ∈ LG := LG_in 72 (by decide +kernel) rfl
theorem w_48 : Cond.lays RX0 RX0 "y" "I" ∈ LG := LG_in 74 (by decide +kernel) rfl
theorem w_50 : Cond.lays RX0 RX0 "open" "Z" ∈ LG := LG_in 76 (by decide +kernel) rfl
theorem w_53 : Cond.arrayClass Jvm.ClassFile.FieldType.int ∈ LG := LG_in 79 (by decide +kernel) rfl
theorem w_54 : Cond.classLink RX1 28 RX2 ∈ LG := LG_in 80 (by decide +kernel) rfl
theorem w_56 : Cond.instantiable RX2 6 ∈ LG := LG_in 82 (by decide +kernel) rfl
theorem w_57 : Cond.methodLink RX1 34 yX2_init ∈ LG := LG_in 83 (by decide +kernel) rfl
theorem w_58 : Cond.instanceMethod yX2_init ∈ LG := LG_in 84 (by decide +kernel) rfl
theorem w_59 : Cond.code yX2_init cX2_init 1 none ∈ LG := LG_in 85 (by decide +kernel) rfl
theorem w_60 : Cond.methodLink RX2 3 Lib.objectInit ∈ LG := LG_in 86 (by decide +kernel) rfl
theorem w_61 : Cond.fieldLink RX2 15 "EelPermits$Spearer" "permit" "I" ∈ LG := LG_in 87 (by decide +kernel) rfl
theorem w_62 : Cond.fieldLink RX1 82 "EelPermits$Spearer" "permit" "I" ∈ LG := LG_in 88 (by decide +kernel) rfl
theorem w_63 : Cond.fieldLink RX2 18 "EelPermits$Spearer" "light" "I" ∈ LG := LG_in 89 (by decide +kernel) rfl
theorem w_64 : Cond.fieldLink RX1 85 "EelPermits$Spearer" "light" "I" ∈ LG := LG_in 90 (by decide +kernel) rfl
theorem w_65 : Cond.fieldLink RX2 9 "EelPermits$Spearer" "hole" "I" ∈ LG := LG_in 91 (by decide +kernel) rfl
theorem w_66 : Cond.fieldLink RX4 119 "EelPermits$Spearer" "hole" "I" ∈ LG := LG_in 92 (by decide +kernel) rfl
theorem w_67 : Cond.fieldLink RX1 139 "EelPermits$Spearer" "hole" "I" ∈ LG := LG_in 93 (by decide +kernel) rfl
theorem w_68 : Cond.fieldLink RX2 21 "EelPermits$Spearer" "caught" "I" ∈ LG := LG_in 94 (by decide +kernel) rfl
theorem w_69 : Cond.fieldLink RX4 194 "EelPermits$Spearer" "caught" "I" ∈ LG := LG_in 95 (by decide +kernel) rfl
theorem w_70 : Cond.fieldLink RX1 180 "EelPermits$Spearer" "caught" "I" ∈ LG := LG_in 96 (by decide +kernel) rfl
theorem w_71 : Cond.fieldLink RX2 24 "EelPermits$Spearer" "eels" "I" ∈ LG := LG_in 97 (by decide +kernel) rfl
theorem w_72 : Cond.fieldLink RX1 146 "EelPermits$Spearer" "eels" "I" ∈ LG := LG_in 98 (by decide +kernel) rfl
theorem w_73 : Cond.fieldLink RX4 210 "EelPermits$Spearer" "eels" "I" ∈ LG := LG_in 99 (by decide +kernel) rfl
theorem w_74 : Cond.fieldLink RX2 27 "EelPermits$Spearer" "fines" "I" ∈ LG := LG_in 100 (by decide +kernel) rfl
theorem w_75 : Cond.fieldLink RX1 148 "EelPermits$Spearer" "fines" "I" ∈ LG := LG_in 101 (by decide +kernel) rfl
theorem w_76 : Cond.lays RX2 RX2 "permit" "I" ∈ LG := LG_in 102 (by decide +kernel) rfl
theorem w_78 : Cond.lays RX2 RX2 "light" "I" ∈ LG := LG_in 104 (by decide +kernel) rfl
theorem w_80 : Cond.lays RX2 RX2 "hole" "I" ∈ LG := LG_in 106 (by decide +kernel) rfl
theorem w_82 : Cond.lays RX2 RX2 "caught" "I" ∈ LG := LG_in 108 (by decide +kernel) rfl
theorem w_84 : Cond.lays RX2 RX2 "eels" "I" ∈ LG := LG_in 110 (by decide +kernel) rfl
theorem w_86 : Cond.lays RX2 RX2 "fines" "I" ∈ LG := LG_in 112 (by decide +kernel) rfl
theorem w_89 : Cond.classLink RX1 35 RX3 ∈ LG := LG_in 115 (by decide +kernel) rfl
theorem w_91 : Cond.instantiable RX3 4 ∈ LG := LG_in 117 (by decide +kernel) rfl
theorem w_92 : Cond.methodLink RX1 41 yX3_init ∈ LG := LG_in 118 (by decide +kernel) rfl
theorem w_93 : Cond.instanceMethod yX3_init ∈ LG := LG_in 119 (by decide +kernel) rfl
theorem w_94 : Cond.code yX3_init cX3_init 1 none ∈ LG := LG_in 120 (by decide +kernel) rfl
theorem w_95 : Cond.methodLink RX3 1 Lib.objectInit ∈ LG := LG_in 121 (by decide +kernel) rfl
theorem w_96 : Cond.fieldLink RX3 7 "EelPermits$Warden" "x" "I" ∈ LG := LG_in 122 (by decide +kernel) rfl
theorem w_97 : Cond.fieldLink RX1 88 "EelPermits$Warden" "x" "I" ∈ LG := LG_in 123 (by decide +kernel) rfl
theorem w_98 : Cond.fieldLink RX3 13 "EelPermits$Warden" "y" "I" ∈ LG := LG_in 124 (by decide +kernel) rfl
theorem w_99 : Cond.fieldLink RX1 89 "EelPermits$Warden" "y" "I" ∈ LG := LG_in 125 (by decide +kernel) rfl
theorem w_100 : Cond.fieldLink RX3 16 "EelPermits$Warden" "pace" "I" ∈ LG := LG_in 126 (by decide +kernel) rfl
theorem w_101 : Cond.fieldLink RX1 90 "EelPermits$Warden" "pace" "I" ∈ LG := LG_in 127 (by decide +kernel) rfl
theorem w_102 : Cond.fieldLink RX3 19 "EelPermits$Warden" "fines" "I" ∈ LG := LG_in 128 (by decide +kernel) rfl
theorem w_103 : Cond.fieldLink RX1 201 "EelPermits$Warden" "fines" "I" ∈ LG := LG_in 129 (by decide +kernel) rfl
theorem w_104 : Cond.lays RX3 RX3 "x" "I" ∈ LG := LG_in 130 (by decide +kernel) rfl
theorem w_106 : Cond.lays RX3 RX3 "y" "I" ∈ LG := LG_in 132 (by decide +kernel) rfl
theorem w_108 : Cond.lays RX3 RX3 "pace" "I" ∈ LG := LG_in 134 (by decide +kernel) rfl
theorem w_110 : Cond.lays RX3 RX3 "fines" "I" ∈ LG := LG_in 136 (by decide +kernel) rfl
theorem w_113 : Cond.fieldLink RX1 9 "EelPermits$Lake" "eels" "[I" ∈ LG := LG_in 139 (by decide +kernel) rfl
theorem w_114 : Cond.fieldLink RX4 43 "EelPermits$Lake" "eels" "[I" ∈ LG := LG_in 140 (by decide +kernel) rfl
theorem w_115 : Cond.fieldLink RX1 15 "EelPermits$Lake" "mud" "[I" ∈ LG := LG_in 141 (by decide +kernel) rfl
theorem w_116 : Cond.fieldLink RX4 47 "EelPermits$Lake" "mud" "[I" ∈ LG := LG_in 142 (by decide +kernel) rfl
theorem w_117 : Cond.fieldLink RX1 18 "EelPermits$Lake" "frost" "[I" ∈ LG := LG_in 143 (by decide +kernel) rfl
theorem w_118 : Cond.fieldLink RX4 54 "EelPermits$Lake" "frost" "[I" ∈ LG := LG_in 144 (by decide +kernel) rfl
theorem w_119 : Cond.fieldLink RX1 23 "EelPermits$Lake" "holes" "[LEelPermits$Hole;" ∈ LG := LG_in 145 (by decide +kernel) rfl
theorem w_120 : Cond.fieldLink RX4 103 "EelPermits$Lake" "holes" "[LEelPermits$Hole;" ∈ LG := LG_in 146 (by decide +kernel) rfl
theorem w_121 : Cond.fieldLink RX1 30 "EelPermits$Lake" "spearers" "[LEelPermits$Spearer;" ∈ LG := LG_in 147 (by decide +kernel) rfl
theorem w_122 : Cond.fieldLink RX4 115 "EelPermits$Lake" "spearers" "[LEelPermits$Spearer;" ∈ LG := LG_in 148 (by decide +kernel) rfl
theorem w_123 : Cond.fieldLink RX1 37 "EelPermits$Lake" "wardens" "[LEelPermits$Warden;" ∈ LG := LG_in 149 (by decide +kernel) rfl
theorem w_124 : Cond.fieldLink RX4 156 "EelPermits$Lake" "wardens" "[LEelPermits$Warden;" ∈ LG := LG_in 150 (by decide +kernel) rfl
theorem w_125 : Cond.fieldLink RX1 46 "EelPermits$Lake" "holeCount" "I" ∈ LG := LG_in 151 (by decide +kernel) rfl
theorem w_126 : Cond.fieldLink RX4 75 "EelPermits$Lake" "holeCount" "I" ∈ LG := LG_in 152 (by decide +kernel) rfl
theorem w_127 : Cond.fieldLink RX1 53 "EelPermits$Lake" "spearerCount" "I" ∈ LG := LG_in 153 (by decide +kernel) rfl
theorem w_128 : Cond.fieldLink RX4 85 "EelPermits$Lake" "spearerCount" "I" ∈ LG := LG_in 154 (by decide +kernel) rfl
theorem w_129 : Cond.fieldLink RX1 59 "EelPermits$Lake" "wardenCount" "I" ∈ LG := LG_in 155 (by decide +kernel) rfl
theorem w_130 : Cond.fieldLink RX4 126 "EelPermits$Lake" "wardenCount" "I" ∈ LG := LG_in 156 (by decide +kernel) rfl
theorem w_131 : Cond.fieldLink RX1 42 "EelPermits$Lake" "ice" "I" ∈ LG := LG_in 157 (by decide +kernel) rfl
theorem w_132 : Cond.fieldLink RX4 57 "EelPermits$Lake" "ice" "I" ∈ LG := LG_in 158 (by decide +kernel) rfl
theorem w_133 : Cond.fieldLink RX1 65 "EelPermits$Lake" "night" "I" ∈ LG := LG_in 159 (by decide +kernel) rfl
theorem w_134 : Cond.fieldLink RX4 173 "EelPermits$Lake" "night" "I" ∈ LG := LG_in 160 (by decide +kernel) rfl
theorem w_135 : Cond.laysFinal RX1 RX1 "eels" "[I" ∈ LG := LG_in 161 (by decide +kernel) rfl
theorem w_137 : Cond.laysFinal RX1 RX1 "mud" "[I" ∈ LG := LG_in 163 (by decide +kernel) rfl
theorem w_139 : Cond.laysFinal RX1 RX1 "frost" "[I" ∈ LG := LG_in 165 (by decide +kernel) rfl
theorem w_141 : Cond.laysFinal RX1 RX1 "holes" "[LEelPermits$Hole;" ∈ LG := LG_in 167 (by decide +kernel) rfl
theorem w_143 : Cond.laysFinal RX1 RX1 "spearers" "[LEelPermits$Spearer;" ∈ LG := LG_in 169 (by decide +kernel) rfl
theorem w_145 : Cond.laysFinal RX1 RX1 "wardens" "[LEelPermits$Warden;" ∈ LG := LG_in 171 (by decide +kernel) rfl
theorem w_147 : Cond.lays RX1 RX1 "holeCount" "I" ∈ LG := LG_in 173 (by decide +kernel) rfl
theorem w_149 : Cond.lays RX1 RX1 "spearerCount" "I" ∈ LG := LG_in 175 (by decide +kernel) rfl
theorem w_151 : Cond.lays RX1 RX1 "wardenCount" "I" ∈ LG := LG_in 177 (by decide +kernel) rfl
theorem w_153 : Cond.lays RX1 RX1 "ice" "I" ∈ LG := LG_in 179 (by decide +kernel) rfl
theorem w_155 : Cond.lays RX1 RX1 "night" "I" ∈ LG := LG_in 181 (by decide +kernel) rfl
theorem w_158 : Cond.fieldLink RX4 10 "EelPermits" "lake" "LEelPermits$Lake;" ∈ LG := LG_in 184 (by decide +kernel) rfl
theorem w_159 : Cond.fieldLink RX4 16 "EelPermits" "draft" "LEelPermits$Lake;" ∈ LG := LG_in 185 (by decide +kernel) rfl
theorem w_160 : Cond.laysFinal RX4 RX4 "lake" "LEelPermits$Lake;" ∈ LG := LG_in 186 (by decide +kernel) rfl
theorem w_162 : Cond.laysFinal RX4 RX4 "draft" "LEelPermits$Lake;" ∈ LG := LG_in 188 (by decide +kernel) rfl
theorem w_165 : Cond.methodLink RL 120 yX4_cell ∈ LG := LG_in 191 (by decide +kernel) rfl
theorem w_166 : Cond.instanceMethod yX4_cell ∈ LG := LG_in 192 (by decide +kernel) rfl
theorem w_167 : Cond.selects RX4 yX4_cell yX4_cell ∈ LG := LG_in 193 (by decide +kernel) rfl
theorem w_168 : Cond.code yX4_cell cX4_cell 4 (some .int) ∈ LG := LG_in 194 (by decide +kernel) rfl
theorem w_169 : Cond.methodLink RX4 19 yX4_isCell ∈ LG := LG_in 195 (by decide +kernel) rfl
theorem w_170 : Cond.static yX4_isCell ∈ LG := LG_in 196 (by decide +kernel) rfl
theorem w_171 : Cond.code yX4_isCell cX4_isCell 2 (some .boolean) ∈ LG := LG_in 197 (by decide +kernel) rfl
theorem w_172 : Cond.methodLink RX4 30 yX4_isWithin ∈ LG := LG_in 198 (by decide +kernel) rfl
theorem w_173 : Cond.static yX4_isWithin ∈ LG := LG_in 199 (by decide +kernel) rfl
theorem w_174 : Cond.code yX4_isWithin cX4_isWithin 3 (some .boolean) ∈ LG := LG_in 200 (by decide +kernel) rfl
theorem w_175 : Cond.classLink RX4 23 "java/lang/IndexOutOfBoundsException" ∈ LG := LG_in 201 (by decide +kernel) rfl
theorem w_176 : Cond.instantiable "java/lang/IndexOutOfBoundsException" 6 ∈ LG := LG_in 202 (by decide +kernel) rfl
theorem w_186 : Cond.lays "java/lang/IndexOutOfBoundsException" "java/lang/Throwable" "cause" "Ljava/lang/Throwable;" ∈ LG := LG_in 212 (by decide +kernel) rfl
theorem w_187 : Cond.lays "java/lang/Throwable" "java/lang/Throwable" "cause" "Ljava/lang/Throwable;" ∈ LG := LG_in 213 (by decide +kernel) rfl
theorem w_188 : Cond.lays "java/lang/IndexOutOfBoundsException" "java/lang/Throwable" "stackTrace" "[Ljava/lang/StackTraceElement;" ∈ LG := LG_in 214 (by decide +kernel) rfl
theorem w_189 : Cond.lays "java/lang/Throwable" "java/lang/Throwable" "stackTrace" "[Ljava/lang/StackTraceElement;" ∈ LG := LG_in 215 (by decide +kernel) rfl
theorem w_190 : Cond.lays "java/lang/IndexOutOfBoundsException" "java/lang/Throwable" "suppressedExceptions" "Ljava/util/List;" ∈ LG := LG_in 216 (by decide +kernel) rfl
theorem w_191 : Cond.lays "java/lang/Throwable" "java/lang/Throwable" "suppressedExceptions" "Ljava/util/List;" ∈ LG := LG_in 217 (by decide +kernel) rfl
theorem w_192 : Cond.lays "java/lang/IndexOutOfBoundsException" "java/lang/Throwable" "detailMessage" "Ljava/lang/String;" ∈ LG := LG_in 218 (by decide +kernel) rfl
theorem w_193 : Cond.lays "java/lang/Throwable" "java/lang/Throwable" "detailMessage" "Ljava/lang/String;" ∈ LG := LG_in 219 (by decide +kernel) rfl
theorem w_194 : Cond.lays "java/lang/IndexOutOfBoundsException" "java/lang/Throwable" "backtrace" "Ljava/lang/Object;" ∈ LG := LG_in 220 (by decide +kernel) rfl
theorem w_195 : Cond.lays "java/lang/Throwable" "java/lang/Throwable" "backtrace" "Ljava/lang/Object;" ∈ LG := LG_in 221 (by decide +kernel) rfl
theorem w_196 : Cond.fieldLink "java/lang/Throwable" 198 "java/lang/Throwable" "backtrace" "Ljava/lang/Object;" ∈ LG := LG_in 222 (by decide +kernel) rfl
theorem w_200 : Cond.methodLink "java/lang/Throwable" 1 Lib.objectInit ∈ LG := LG_in 226 (by decide +kernel) rfl
theorem w_201 : Cond.fieldLink "java/lang/Throwable" 13 "java/lang/Throwable" "UNASSIGNED_STACK" "[Ljava/lang/StackTraceElement;" ∈ LG := LG_in 227 (by decide +kernel) rfl
theorem w_203 : Cond.fieldLink "java/lang/Throwable" 20 "java/lang/Throwable" "SUPPRESSED_SENTINEL" "Ljava/util/List;" ∈ LG := LG_in 229 (by decide +kernel) rfl
theorem w_214 : Cond.instantiable "java/lang/Throwable" 6 ∈ LG := LG_in 240 (by decide +kernel) rfl
theorem w_229 : Cond.fieldLink "java/lang/Throwable" 198 "java/lang/Throwable" "backtrace" "Ljava/lang/Object;" ∈ LG := LG_in 255 (by decide +kernel) rfl
theorem w_230 : Cond.fieldLink "java/lang/Throwable" 31 "java/lang/Throwable" "detailMessage" "Ljava/lang/String;" ∈ LG := LG_in 256 (by decide +kernel) rfl
theorem w_231 : Cond.fieldLink "java/lang/Throwable" 7 "java/lang/Throwable" "cause" "Ljava/lang/Throwable;" ∈ LG := LG_in 257 (by decide +kernel) rfl
theorem w_232 : Cond.fieldLink "java/lang/Throwable" 17 "java/lang/Throwable" "stackTrace" "[Ljava/lang/StackTraceElement;" ∈ LG := LG_in 258 (by decide +kernel) rfl
theorem w_233 : Cond.fieldLink "java/lang/Throwable" 24 "java/lang/Throwable" "suppressedExceptions" "Ljava/util/List;" ∈ LG := LG_in 259 (by decide +kernel) rfl
theorem w_238 : Cond.lays "java/lang/IndexOutOfBoundsException" "java/lang/Throwable" "depth" "I" ∈ LG := LG_in 264 (by decide +kernel) rfl
theorem w_242 : Cond.arrayClass Jvm.ClassFile.FieldType.byte ∈ LG := LG_in 268 (by decide +kernel) rfl
theorem w_243 : Cond.methodLink RX4 137 yX1_cellFact ∈ LG := LG_in 269 (by decide +kernel) rfl
theorem w_244 : Cond.instanceMethod yX1_cellFact ∈ LG := LG_in 270 (by decide +kernel) rfl
theorem w_245 : Cond.selects RX1 yX1_cellFact yX1_cellFact ∈ LG := LG_in 271 (by decide +kernel) rfl
theorem w_246 : Cond.code yX1_cellFact cX1_cellFact 5 (some .int) ∈ LG := LG_in 272 (by decide +kernel) rfl
theorem w_248 : Cond.static yX4_cellAt ∈ LG := LG_in 274 (by decide +kernel) rfl
theorem w_249 : Cond.code yX4_cellAt cX4_cellAt 2 (some .int) ∈ LG := LG_in 275 (by decide +kernel) rfl
theorem w_250 : Cond.methodLink RX1 108 yX1_openHoleIn ∈ LG := LG_in 276 (by decide +kernel) rfl
theorem w_251 : Cond.instanceMethod yX1_openHoleIn ∈ LG := LG_in 277 (by decide +kernel) rfl
theorem w_252 : Cond.selects RX1 yX1_openHoleIn yX1_openHoleIn ∈ LG := LG_in 278 (by decide +kernel) rfl
theorem w_253 : Cond.code yX1_openHoleIn cX1_openHoleIn 5 (some .int) ∈ LG := LG_in 279 (by decide +kernel) rfl
theorem w_254 : Cond.methodLink RX1 111 yX1_catchIn ∈ LG := LG_in 280 (by decide +kernel) rfl
theorem w_255 : Cond.instanceMethod yX1_catchIn ∈ LG := LG_in 281 (by decide +kernel) rfl
theorem w_256 : Cond.selects RX1 yX1_catchIn yX1_catchIn ∈ LG := LG_in 282 (by decide +kernel) rfl
theorem w_257 : Cond.code yX1_catchIn cX1_catchIn 3 (some .int) ∈ LG := LG_in 283 (by decide +kernel) rfl
theorem w_258 : Cond.methodLink RX1 99 Lib.Math.max.name ∈ LG := LG_in 284 (by decide +kernel) rfl
theorem w_259 : Cond.static Lib.Math.max.name ∈ LG := LG_in 285 (by decide +kernel) rfl
theorem w_260 : Cond.code Lib.Math.max.name cJ9_max_7cf53 2 (some .int) ∈ LG := LG_in 286 (by decide +kernel) rfl
theorem w_261 : Cond.methodLink RX1 102 Lib.Math.min.name ∈ LG := LG_in 287 (by decide +kernel) rfl
theorem w_262 : Cond.static Lib.Math.min.name ∈ LG := LG_in 288 (by decide +kernel) rfl
theorem w_263 : Cond.code Lib.Math.min.name cJ9_min_7cf53 2 (some .int) ∈ LG := LG_in 289 (by decide +kernel) rfl
theorem w_264 : Cond.methodLink RL 97 yX4_hole ∈ LG := LG_in 290 (by decide +kernel) rfl
theorem w_265 : Cond.instanceMethod yX4_hole ∈ LG := LG_in 291 (by decide +kernel) rfl
theorem w_266 : Cond.selects RX4 yX4_hole yX4_hole ∈ LG := LG_in 292 (by decide +kernel) rfl
theorem w_267 : Cond.code yX4_hole cX4_hole 3 (some .int) ∈ LG := LG_in 293 (by decide +kernel) rfl
theorem w_268 : Cond.methodLink RX4 98 yX1_hasHole ∈ LG := LG_in 294 (by decide +kernel) rfl
theorem w_269 : Cond.instanceMethod yX1_hasHole ∈ LG := LG_in 295 (by decide +kernel) rfl
theorem w_270 : Cond.selects RX1 yX1_hasHole yX1_hasHole ∈ LG := LG_in 296 (by decide +kernel) rfl
theorem w_271 : Cond.code yX1_hasHole cX1_hasHole 2 (some .boolean) ∈ LG := LG_in 297 (by decide +kernel) rfl
theorem w_274 : Cond.methodLink RX4 142 yX1_holeFact ∈ LG := LG_in 300 (by decide +kernel) rfl
theorem w_275 : Cond.instanceMethod yX1_holeFact ∈ LG := LG_in 301 (by decide +kernel) rfl
theorem w_276 : Cond.selects RX1 yX1_holeFact yX1_holeFact ∈ LG := LG_in 302 (by decide +kernel) rfl
theorem w_277 : Cond.code yX1_holeFact cX1_holeFact 3 (some .int) ∈ LG := LG_in 303 (by decide +kernel) rfl
theorem w_278 : Cond.methodLink RX1 115 yX1_spearersAt ∈ LG := LG_in 304 (by decide +kernel) rfl
theorem w_280 : Cond.instanceMethod yX1_spearersAt ∈ LG := LG_in 306 (by decide +kernel) rfl
theorem w_281 : Cond.code yX1_spearersAt cX1_spearersAt 4 (some .int) ∈ LG := LG_in 307 (by decide +kernel) rfl
theorem w_282 : Cond.methodLink RX1 118 yX1_nearestWardenTo ∈ LG := LG_in 308 (by decide +kernel) rfl
theorem w_284 : Cond.instanceMethod yX1_nearestWardenTo ∈ LG := LG_in 310 (by decide +kernel) rfl
theorem w_285 : Cond.code yX1_nearestWardenTo cX1_nearestWardenTo 5 (some .int) ∈ LG := LG_in 311 (by decide +kernel) rfl
theorem w_287 : Cond.static yX4_distance ∈ LG := LG_in 313 (by decide +kernel) rfl
theorem w_288 : Cond.code yX4_distance cX4_distance 4 (some .int) ∈ LG := LG_in 314 (by decide +kernel) rfl
theorem w_289 : Cond.methodLink RX4 214 Lib.Math.abs.name ∈ LG := LG_in 315 (by decide +kernel) rfl
theorem w_290 : Cond.static Lib.Math.abs.name ∈ LG := LG_in 316 (by decide +kernel) rfl
theorem w_291 : Cond.code Lib.Math.abs.name cJ9_abs_0f7a4 1 (some .int) ∈ LG := LG_in 317 (by decide +kernel) rfl
theorem w_292 : Cond.methodLink RX4 219 Lib.Math.max.name ∈ LG := LG_in 318 (by decide +kernel) rfl
theorem w_293 : Cond.methodLink RL 101 yX4_spearer ∈ LG := LG_in 319 (by decide +kernel) rfl
theorem w_294 : Cond.instanceMethod yX4_spearer ∈ LG := LG_in 320 (by decide +kernel) rfl
theorem w_295 : Cond.selects RX4 yX4_spearer yX4_spearer ∈ LG := LG_in 321 (by decide +kernel) rfl
theorem w_296 : Cond.code yX4_spearer cX4_spearer 3 (some .int) ∈ LG := LG_in 322 (by decide +kernel) rfl
theorem w_297 : Cond.methodLink RX4 93 yX1_hasSpearer ∈ LG := LG_in 323 (by decide +kernel) rfl
theorem w_298 : Cond.instanceMethod yX1_hasSpearer ∈ LG := LG_in 324 (by decide +kernel) rfl
theorem w_299 : Cond.selects RX1 yX1_hasSpearer yX1_hasSpearer ∈ LG := LG_in 325 (by decide +kernel) rfl
theorem w_300 : Cond.code yX1_hasSpearer cX1_hasSpearer 2 (some .boolean) ∈ LG := LG_in 326 (by decide +kernel) rfl
theorem w_302 : Cond.methodLink RX4 147 yX2_tell ∈ LG := LG_in 328 (by decide +kernel) rfl
theorem w_303 : Cond.instanceMethod yX2_tell ∈ LG := LG_in 329 (by decide +kernel) rfl
theorem w_304 : Cond.selects RX2 yX2_tell yX2_tell ∈ LG := LG_in 330 (by decide +kernel) rfl
theorem w_305 : Cond.code yX2_tell cX2_tell 2 (some .int) ∈ LG := LG_in 331 (by decide +kernel) rfl
theorem w_306 : Cond.methodLink RL 104 yX4_about ∈ LG := LG_in 332 (by decide +kernel) rfl
theorem w_307 : Cond.instanceMethod yX4_about ∈ LG := LG_in 333 (by decide +kernel) rfl
theorem w_308 : Cond.selects RX4 yX4_about yX4_about ∈ LG := LG_in 334 (by decide +kernel) rfl
theorem w_309 : Cond.code yX4_about cX4_about 3 (some .int) ∈ LG := LG_in 335 (by decide +kernel) rfl
theorem w_310 : Cond.methodLink RX4 151 yX1_hasWarden ∈ LG := LG_in 336 (by decide +kernel) rfl
theorem w_311 : Cond.instanceMethod yX1_hasWarden ∈ LG := LG_in 337 (by decide +kernel) rfl
theorem w_312 : Cond.selects RX1 yX1_hasWarden yX1_hasWarden ∈ LG := LG_in 338 (by decide +kernel) rfl
theorem w_313 : Cond.code yX1_hasWarden cX1_hasWarden 2 (some .boolean) ∈ LG := LG_in 339 (by decide +kernel) rfl
theorem w_315 : Cond.methodLink RX4 160 yX3_tell ∈ LG := LG_in 341 (by decide +kernel) rfl
theorem w_316 : Cond.instanceMethod yX3_tell ∈ LG := LG_in 342 (by decide +kernel) rfl
theorem w_317 : Cond.selects RX3 yX3_tell yX3_tell ∈ LG := LG_in 343 (by decide +kernel) rfl
theorem w_318 : Cond.code yX3_tell cX3_tell 2 (some .int) ∈ LG := LG_in 344 (by decide +kernel) rfl
theorem w_319 : Cond.methodLink RL 94 yX4_count ∈ LG := LG_in 345 (by decide +kernel) rfl
theorem w_320 : Cond.instanceMethod yX4_count ∈ LG := LG_in 346 (by decide +kernel) rfl
theorem w_321 : Cond.selects RX4 yX4_count yX4_count ∈ LG := LG_in 347 (by decide +kernel) rfl
theorem w_322 : Cond.code yX4_count cX4_count 2 (some .int) ∈ LG := LG_in 348 (by decide +kernel) rfl
theorem w_324 : Cond.methodLink RX4 165 yX1_fact ∈ LG := LG_in 350 (by decide +kernel) rfl
theorem w_325 : Cond.instanceMethod yX1_fact ∈ LG := LG_in 351 (by decide +kernel) rfl
theorem w_326 : Cond.selects RX1 yX1_fact yX1_fact ∈ LG := LG_in 352 (by decide +kernel) rfl
theorem w_327 : Cond.code yX1_fact cX1_fact 2 (some .int) ∈ LG := LG_in 353 (by decide +kernel) rfl
theorem w_329 : Cond.static yX4_iceBears ∈ LG := LG_in 355 (by decide +kernel) rfl
theorem w_330 : Cond.code yX4_iceBears cX4_iceBears 1 (some .boolean) ∈ LG := LG_in 356 (by decide +kernel) rfl
theorem w_331 : Cond.methodLink RX1 126 yX1_eelsOfLake ∈ LG := LG_in 357 (by decide +kernel) rfl
theorem w_333 : Cond.instanceMethod yX1_eelsOfLake ∈ LG := LG_in 359 (by decide +kernel) rfl
theorem w_334 : Cond.code yX1_eelsOfLake cX1_eelsOfLake 3 (some .int) ∈ LG := LG_in 360 (by decide +kernel) rfl
theorem w_335 : Cond.methodLink RX1 130 yX1_openHoles ∈ LG := LG_in 361 (by decide +kernel) rfl
theorem w_337 : Cond.instanceMethod yX1_openHoles ∈ LG := LG_in 363 (by decide +kernel) rfl
theorem w_338 : Cond.code yX1_openHoles cX1_openHoles 3 (some .int) ∈ LG := LG_in 364 (by decide +kernel) rfl
theorem w_339 : Cond.methodLink RX1 133 yX1_eelsOfSpearers ∈ LG := LG_in 365 (by decide +kernel) rfl
theorem w_341 : Cond.instanceMethod yX1_eelsOfSpearers ∈ LG := LG_in 367 (by decide +kernel) rfl
theorem w_342 : Cond.code yX1_eelsOfSpearers cX1_eelsOfSpearers 3 (some .int) ∈ LG := LG_in 368 (by decide +kernel) rfl
theorem w_343 : Cond.methodLink RX1 136 yX1_finesOfSpearers ∈ LG := LG_in 369 (by decide +kernel) rfl
theorem w_345 : Cond.instanceMethod yX1_finesOfSpearers ∈ LG := LG_in 371 (by decide +kernel) rfl
theorem w_346 : Cond.code yX1_finesOfSpearers cX1_finesOfSpearers 3 (some .int) ∈ LG := LG_in 372 (by decide +kernel) rfl
theorem w_347 : Cond.methodLink RL 82 yX4_pass ∈ LG := LG_in 373 (by decide +kernel) rfl
theorem w_348 : Cond.instanceMethod yX4_pass ∈ LG := LG_in 374 (by decide +kernel) rfl
theorem w_349 : Cond.selects RX4 yX4_pass yX4_pass ∈ LG := LG_in 375 (by decide +kernel) rfl
theorem w_350 : Cond.code yX4_pass cX4_pass 2 (some .int) ∈ LG := LG_in 376 (by decide +kernel) rfl
theorem w_351 : Cond.classLink RX4 34 "java/lang/IllegalArgumentException" ∈ LG := LG_in 377 (by decide +kernel) rfl
theorem w_352 : Cond.instantiable "java/lang/IllegalArgumentException" 6 ∈ LG := LG_in 378 (by decide +kernel) rfl
theorem w_355 : Cond.lays "java/lang/IllegalArgumentException" "java/lang/Throwable" "cause" "Ljava/lang/Throwable;" ∈ LG := LG_in 381 (by decide +kernel) rfl
theorem w_356 : Cond.lays "java/lang/IllegalArgumentException" "java/lang/Throwable" "stackTrace" "[Ljava/lang/StackTraceElement;" ∈ LG := LG_in 382 (by decide +kernel) rfl
theorem w_357 : Cond.lays "java/lang/IllegalArgumentException" "java/lang/Throwable" "suppressedExceptions" "Ljava/util/List;" ∈ LG := LG_in 383 (by decide +kernel) rfl
theorem w_358 : Cond.lays "java/lang/IllegalArgumentException" "java/lang/Throwable" "detailMessage" "Ljava/lang/String;" ∈ LG := LG_in 384 (by decide +kernel) rfl
theorem w_359 : Cond.lays "java/lang/IllegalArgumentException" "java/lang/Throwable" "backtrace" "Ljava/lang/Object;" ∈ LG := LG_in 385 (by decide +kernel) rfl
theorem w_365 : Cond.lays "java/lang/IllegalArgumentException" "java/lang/Throwable" "depth" "I" ∈ LG := LG_in 391 (by decide +kernel) rfl
theorem w_367 : Cond.methodLink RX4 170 yX1_letNightsGo ∈ LG := LG_in 393 (by decide +kernel) rfl
theorem w_368 : Cond.instanceMethod yX1_letNightsGo ∈ LG := LG_in 394 (by decide +kernel) rfl
theorem w_369 : Cond.selects RX1 yX1_letNightsGo yX1_letNightsGo ∈ LG := LG_in 395 (by decide +kernel) rfl
theorem w_370 : Cond.code yX1_letNightsGo cX1_letNightsGo 4 (some .int) ∈ LG := LG_in 396 (by decide +kernel) rfl
theorem w_371 : Cond.methodLink RX1 151 yX1_lightLamps ∈ LG := LG_in 397 (by decide +kernel) rfl
theorem w_373 : Cond.instanceMethod yX1_lightLamps ∈ LG := LG_in 399 (by decide +kernel) rfl
theorem w_374 : Cond.code yX1_lightLamps cX1_lightLamps 3 none ∈ LG := LG_in 400 (by decide +kernel) rfl
theorem w_375 : Cond.methodLink RX1 169 yX1_hasHole ∈ LG := LG_in 401 (by decide +kernel) rfl
theorem w_376 : Cond.methodLink RX1 172 yX1_lure ∈ LG := LG_in 402 (by decide +kernel) rfl
theorem w_378 : Cond.instanceMethod yX1_lure ∈ LG := LG_in 404 (by decide +kernel) rfl
theorem w_379 : Cond.code yX1_lure cX1_lure 10 none ∈ LG := LG_in 405 (by decide +kernel) rfl
theorem w_380 : Cond.methodLink RX1 176 yX1_moveEels ∈ LG := LG_in 406 (by decide +kernel) rfl
theorem w_382 : Cond.instanceMethod yX1_moveEels ∈ LG := LG_in 408 (by decide +kernel) rfl
theorem w_383 : Cond.code yX1_moveEels cX1_moveEels 5 none ∈ LG := LG_in 409 (by decide +kernel) rfl
theorem w_384 : Cond.methodLink RX1 154 yX1_spearEels ∈ LG := LG_in 410 (by decide +kernel) rfl
theorem w_386 : Cond.instanceMethod yX1_spearEels ∈ LG := LG_in 412 (by decide +kernel) rfl
theorem w_387 : Cond.code yX1_spearEels cX1_spearEels 5 none ∈ LG := LG_in 413 (by decide +kernel) rfl
theorem w_388 : Cond.methodLink RX1 157 yX1_sendWardens ∈ LG := LG_in 414 (by decide +kernel) rfl
theorem w_390 : Cond.instanceMethod yX1_sendWardens ∈ LG := LG_in 416 (by decide +kernel) rfl
theorem w_391 : Cond.code yX1_sendWardens cX1_sendWardens 5 none ∈ LG := LG_in 417 (by decide +kernel) rfl
theorem w_392 : Cond.methodLink RX1 183 yX1_nearestOffence ∈ LG := LG_in 418 (by decide +kernel) rfl
theorem w_394 : Cond.instanceMethod yX1_nearestOffence ∈ LG := LG_in 420 (by decide +kernel) rfl
theorem w_395 : Cond.code yX1_nearestOffence cX1_nearestOffence 6 (some .int) ∈ LG := LG_in 421 (by decide +kernel) rfl
theorem w_396 : Cond.methodLink RX1 194 yX1_hasOffender ∈ LG := LG_in 422 (by decide +kernel) rfl
theorem w_398 : Cond.instanceMethod yX1_hasOffender ∈ LG := LG_in 424 (by decide +kernel) rfl
theorem w_399 : Cond.code yX1_hasOffender cX1_hasOffender 3 (some .boolean) ∈ LG := LG_in 425 (by decide +kernel) rfl
theorem w_400 : Cond.methodLink RX1 197 yX2_tookTooMuch ∈ LG := LG_in 426 (by decide +kernel) rfl
theorem w_401 : Cond.instanceMethod yX2_tookTooMuch ∈ LG := LG_in 427 (by decide +kernel) rfl
theorem w_402 : Cond.selects RX2 yX2_tookTooMuch yX2_tookTooMuch ∈ LG := LG_in 428 (by decide +kernel) rfl
theorem w_403 : Cond.code yX2_tookTooMuch cX2_tookTooMuch 1 (some .boolean) ∈ LG := LG_in 429 (by decide +kernel) rfl
theorem w_404 : Cond.methodLink RX1 187 yX3_goTowards ∈ LG := LG_in 430 (by decide +kernel) rfl
theorem w_405 : Cond.instanceMethod yX3_goTowards ∈ LG := LG_in 431 (by decide +kernel) rfl
theorem w_406 : Cond.selects RX3 yX3_goTowards yX3_goTowards ∈ LG := LG_in 432 (by decide +kernel) rfl
theorem w_407 : Cond.code yX3_goTowards cX3_goTowards 3 none ∈ LG := LG_in 433 (by decide +kernel) rfl
theorem w_408 : Cond.methodLink RX3 25 yJ6_compare_7cf53 ∈ LG := LG_in 434 (by decide +kernel) rfl
theorem w_409 : Cond.static yJ6_compare_7cf53 ∈ LG := LG_in 435 (by decide +kernel) rfl
theorem w_410 : Cond.code yJ6_compare_7cf53 cJ6_compare_7cf53 2 (some .int) ∈ LG := LG_in 436 (by decide +kernel) rfl
theorem w_411 : Cond.methodLink RX1 190 yX1_fineAllAt ∈ LG := LG_in 437 (by decide +kernel) rfl
theorem w_413 : Cond.instanceMethod yX1_fineAllAt ∈ LG := LG_in 439 (by decide +kernel) rfl
theorem w_414 : Cond.code yX1_fineAllAt cX1_fineAllAt 7 none ∈ LG := LG_in 440 (by decide +kernel) rfl
theorem w_415 : Cond.methodLink RX1 160 yX1_keepCatches ∈ LG := LG_in 441 (by decide +kernel) rfl
theorem w_417 : Cond.instanceMethod yX1_keepCatches ∈ LG := LG_in 443 (by decide +kernel) rfl
theorem w_418 : Cond.code yX1_keepCatches cX1_keepCatches 3 (some .int) ∈ LG := LG_in 444 (by decide +kernel) rfl
theorem w_419 : Cond.methodLink RX1 163 yX1_breedEels ∈ LG := LG_in 445 (by decide +kernel) rfl
theorem w_421 : Cond.instanceMethod yX1_breedEels ∈ LG := LG_in 447 (by decide +kernel) rfl
theorem w_422 : Cond.code yX1_breedEels cX1_breedEels 2 none ∈ LG := LG_in 448 (by decide +kernel) rfl
theorem w_423 : Cond.methodLink RX1 166 yX1_freeze ∈ LG := LG_in 449 (by decide +kernel) rfl
theorem w_425 : Cond.instanceMethod yX1_freeze ∈ LG := LG_in 451 (by decide +kernel) rfl
theorem w_426 : Cond.code yX1_freeze cX1_freeze 2 none ∈ LG := LG_in 452 (by decide +kernel) rfl
theorem w_427 : Cond.methodLink RX1 202 yX1_frostOf ∈ LG := LG_in 453 (by decide +kernel) rfl
theorem w_428 : Cond.instanceMethod yX1_frostOf ∈ LG := LG_in 454 (by decide +kernel) rfl
theorem w_429 : Cond.selects RX1 yX1_frostOf yX1_frostOf ∈ LG := LG_in 455 (by decide +kernel) rfl
theorem w_430 : Cond.code yX1_frostOf cX1_frostOf 2 (some .int) ∈ LG := LG_in 456 (by decide +kernel) rfl
theorem w_431 : Cond.methodLink RX1 93 yJ9_floorMod_7cf53 ∈ LG := LG_in 457 (by decide +kernel) rfl
theorem w_432 : Cond.static yJ9_floorMod_7cf53 ∈ LG := LG_in 458 (by decide +kernel) rfl
theorem w_433 : Cond.code yJ9_floorMod_7cf53 cJ9_floorMod_7cf53 3 (some .int) ∈ LG := LG_in 459 (by decide +kernel) rfl
theorem w_435 : Cond.static yX4_iceBehind ∈ LG := LG_in 461 (by decide +kernel) rfl
theorem w_436 : Cond.code yX4_iceBehind cX4_iceBehind 2 (some .int) ∈ LG := LG_in 462 (by decide +kernel) rfl
theorem w_437 : Cond.methodLink RX4 222 Lib.Math.min.name ∈ LG := LG_in 463 (by decide +kernel) rfl
theorem w_438 : Cond.methodLink RX1 208 yX1_closeAllHoles ∈ LG := LG_in 464 (by decide +kernel) rfl
theorem w_440 : Cond.instanceMethod yX1_closeAllHoles ∈ LG := LG_in 466 (by decide +kernel) rfl
theorem w_441 : Cond.code yX1_closeAllHoles cX1_closeAllHoles 2 none ∈ LG := LG_in 467 (by decide +kernel) rfl
theorem w_442 : Cond.methodLink RX1 211 yX1_closeEmptyHoles ∈ LG := LG_in 468 (by decide +kernel) rfl
theorem w_444 : Cond.instanceMethod yX1_closeEmptyHoles ∈ LG := LG_in 470 (by decide +kernel) rfl
theorem w_445 : Cond.code yX1_closeEmptyHoles cX1_closeEmptyHoles 2 none ∈ LG := LG_in 471 (by decide +kernel) rfl
theorem w_446 : Cond.methodLink RL 114 yX4_bears ∈ LG := LG_in 472 (by decide +kernel) rfl
theorem w_447 : Cond.instanceMethod yX4_bears ∈ LG := LG_in 473 (by decide +kernel) rfl
theorem w_448 : Cond.selects RX4 yX4_bears yX4_bears ∈ LG := LG_in 474 (by decide +kernel) rfl
theorem w_449 : Cond.code yX4_bears cX4_bears 3 (some .int) ∈ LG := LG_in 475 (by decide +kernel) rfl
theorem w_450 : Cond.methodLink RX4 61 yX4_iceBears ∈ LG := LG_in 476 (by decide +kernel) rfl
theorem w_451 : Cond.methodLink RX4 176 yX1_frostOf ∈ LG := LG_in 477 (by decide +kernel) rfl
theorem w_452 : Cond.methodLink RX4 179 yX4_iceBehind ∈ LG := LG_in 478 (by decide +kernel) rfl
theorem w_453 : Cond.methodLink RL 111 yX4_foresee ∈ LG := LG_in 479 (by decide +kernel) rfl
theorem w_454 : Cond.instanceMethod yX4_foresee ∈ LG := LG_in 480 (by decide +kernel) rfl
theorem w_455 : Cond.selects RX4 yX4_foresee yX4_foresee ∈ LG := LG_in 481 (by decide +kernel) rfl
theorem w_456 : Cond.code yX4_foresee cX4_foresee 3 (some .int) ∈ LG := LG_in 482 (by decide +kernel) rfl
theorem w_457 : Cond.methodLink RX4 182 yX4_isForeseen ∈ LG := LG_in 483 (by decide +kernel) rfl
theorem w_458 : Cond.static yX4_isForeseen ∈ LG := LG_in 484 (by decide +kernel) rfl
theorem w_459 : Cond.code yX4_isForeseen cX4_isForeseen 1 (some .boolean) ∈ LG := LG_in 485 (by decide +kernel) rfl
theorem w_461 : Cond.methodLink RX4 187 yX1_become ∈ LG := LG_in 487 (by decide +kernel) rfl
theorem w_462 : Cond.instanceMethod yX1_become ∈ LG := LG_in 488 (by decide +kernel) rfl
theorem w_463 : Cond.selects RX1 yX1_become yX1_become ∈ LG := LG_in 489 (by decide +kernel) rfl
theorem w_464 : Cond.code yX1_become cX1_become 3 none ∈ LG := LG_in 490 (rfl) rfl
theorem w_465 : Cond.methodLink RX1 49 yX0_become ∈ LG := LG_in 491 (by decide +kernel) rfl
theorem w_466 : Cond.instanceMethod yX0_become ∈ LG := LG_in 492 (by decide +kernel) rfl
theorem w_467 : Cond.selects RX0 yX0_become yX0_become ∈ LG := LG_in 493 (by decide +kernel) rfl
theorem w_468 : Cond.code yX0_become cX0_become 2 none ∈ LG := LG_in 494 (by decide +kernel) rfl
theorem w_469 : Cond.methodLink RX1 56 yX2_become ∈ LG := LG_in 495 (by decide +kernel) rfl
theorem w_470 : Cond.instanceMethod yX2_become ∈ LG := LG_in 496 (by decide +kernel) rfl
theorem w_471 : Cond.selects RX2 yX2_become yX2_become ∈ LG := LG_in 497 (by decide +kernel) rfl
theorem w_472 : Cond.code yX2_become cX2_become 2 none ∈ LG := LG_in 498 (by decide +kernel) rfl
theorem w_473 : Cond.methodLink RX1 62 yX3_become ∈ LG := LG_in 499 (by decide +kernel) rfl
theorem w_474 : Cond.instanceMethod yX3_become ∈ LG := LG_in 500 (by decide +kernel) rfl
theorem w_475 : Cond.selects RX3 yX3_become yX3_become ∈ LG := LG_in 501 (by decide +kernel) rfl
theorem w_476 : Cond.code yX3_become cX3_become 2 none ∈ LG := LG_in 502 (by decide +kernel) rfl
theorem w_477 : Cond.methodLink RL 117 yX4_advise ∈ LG := LG_in 503 (by decide +kernel) rfl
theorem w_478 : Cond.instanceMethod yX4_advise ∈ LG := LG_in 504 (by decide +kernel) rfl
theorem w_479 : Cond.selects RX4 yX4_advise yX4_advise ∈ LG := LG_in 505 (by decide +kernel) rfl
theorem w_480 : Cond.code yX4_advise cX4_advise 6 (some .int) ∈ LG := LG_in 506 (by decide +kernel) rfl
theorem w_482 : Cond.methodLink RX4 191 yX4_eelsIfAt ∈ LG := LG_in 508 (by decide +kernel) rfl
theorem w_484 : Cond.instanceMethod yX4_eelsIfAt ∈ LG := LG_in 510 (by decide +kernel) rfl
theorem w_485 : Cond.code yX4_eelsIfAt cX4_eelsIfAt 3 (some .int) ∈ LG := LG_in 511 (by decide +kernel) rfl
theorem w_486 : Cond.methodLink RL 133 yX4_mean ∈ LG := LG_in 512 (by decide +kernel) rfl
theorem w_487 : Cond.instanceMethod yX4_mean ∈ LG := LG_in 513 (by decide +kernel) rfl
theorem w_488 : Cond.selects RX4 yX4_mean yX4_mean ∈ LG := LG_in 514 (by decide +kernel) rfl
theorem w_489 : Cond.code yX4_mean cX4_mean 3 (some .double) ∈ LG := LG_in 515 (by decide +kernel) rfl
theorem w_490 : Cond.methodLink RL 107 yX4_digest ∈ LG := LG_in 516 (by decide +kernel) rfl
theorem w_491 : Cond.instanceMethod yX4_digest ∈ LG := LG_in 517 (by decide +kernel) rfl
theorem w_492 : Cond.selects RX4 yX4_digest yX4_digest ∈ LG := LG_in 518 (by decide +kernel) rfl
theorem w_493 : Cond.code yX4_digest cX4_digest 5 (some .long) ∈ LG := LG_in 519 (by decide +kernel) rfl
theorem w_494 : Cond.constantLong RX4 197 (1187 : Int64) ∈ LG := LG_in 520 (by decide +kernel) rfl
theorem w_495 : Cond.methodLink RX4 199 yX4_mixed ∈ LG := LG_in 521 (by decide +kernel) rfl
theorem w_496 : Cond.static yX4_mixed ∈ LG := LG_in 522 (by decide +kernel) rfl
theorem w_497 : Cond.code yX4_mixed cX4_mixed 3 (some .long) ∈ LG := LG_in 523 (by decide +kernel) rfl
theorem w_498 : Cond.constantLong RX4 212 (31 : Int64) ∈ LG := LG_in 524 (by decide +kernel) rfl
theorem w_499 : Cond.methodLink RX4 203 yX4_digestOfCells ∈ LG := LG_in 525 (by decide +kernel) rfl
theorem w_501 : Cond.instanceMethod yX4_digestOfCells ∈ LG := LG_in 527 (by decide +kernel) rfl
theorem w_502 : Cond.code yX4_digestOfCells cX4_digestOfCells 8 (some .long) ∈ LG := LG_in 528 (by decide +kernel) rfl
theorem w_503 : Cond.methodLink RX4 207 yX4_digestOfPeople ∈ LG := LG_in 529 (by decide +kernel) rfl
theorem w_505 : Cond.instanceMethod yX4_digestOfPeople ∈ LG := LG_in 531 (by decide +kernel) rfl
theorem w_506 : Cond.code yX4_digestOfPeople cX4_digestOfPeople 7 (some .long) ∈ LG := LG_in 532 (by decide +kernel) rfl
theorem w_507 : Cond.methodLink RL 86 yX5_pass ∈ LG := LG_in 533 (by decide +kernel) rfl
theorem w_508 : Cond.instanceMethod yX5_pass ∈ LG := LG_in 534 (by decide +kernel) rfl
theorem w_509 : Cond.selects RX5 yX5_pass yX5_pass ∈ LG := LG_in 535 (by decide +kernel) rfl
theorem w_510 : Cond.code yX5_pass cX5_pass 7 (some .int) ∈ LG := LG_in 536 (rfl) rfl
theorem w_511 : Cond.methodLink RX5 61 yX5_lamp ∈ LG := LG_in 537 (by decide +kernel) rfl
theorem w_513 : Cond.instanceMethod yX5_lamp ∈ LG := LG_in 539 (by decide +kernel) rfl
theorem w_514 : Cond.instantiable RX5 8 ∈ LG := LG_in 540 (by decide +kernel) rfl
theorem w_515 : Cond.code yX5_lamp cX5_lamp 6 none ∈ LG := LG_in 541 (rfl) rfl
theorem w_516 : Cond.methodLink RX5 65 yX5_would ∈ LG := LG_in 542 (by decide +kernel) rfl
theorem w_517 : Cond.instanceMethod yX5_would ∈ LG := LG_in 543 (by decide +kernel) rfl
theorem w_518 : Cond.selects RX5 yX5_would yX5_would ∈ LG := LG_in 544 (by decide +kernel) rfl
theorem w_519 : Cond.code yX5_would cX5_would 5 (some .int) ∈ LG := LG_in 545 (by decide +kernel) rfl
theorem w_520 : Cond.methodLink RX5 69 yX5_guard ∈ LG := LG_in 546 (by decide +kernel) rfl
theorem w_522 : Cond.instanceMethod yX5_guard ∈ LG := LG_in 548 (by decide +kernel) rfl
theorem w_523 : Cond.code yX5_guard cX5_guard 9 none ∈ LG := LG_in 549 (rfl) rfl
theorem w_524 : Cond.methodLink RX5 53 yX5_far ∈ LG := LG_in 550 (by decide +kernel) rfl
theorem w_525 : Cond.static yX5_far ∈ LG := LG_in 551 (by decide +kernel) rfl
theorem w_526 : Cond.code yX5_far cX5_far 4 (some .int) ∈ LG := LG_in 552 (by decide +kernel) rfl
theorem w_527 : Cond.methodLink RX5 57 yX5_isOver ∈ LG := LG_in 553 (by decide +kernel) rfl
theorem w_529 : Cond.instanceMethod yX5_isOver ∈ LG := LG_in 555 (by decide +kernel) rfl
theorem w_530 : Cond.code yX5_isOver cX5_isOver 6 (some .boolean) ∈ LG := LG_in 556 (by decide +kernel) rfl
theorem w_531 : Cond.methodLink RX5 72 yX5_many ∈ LG := LG_in 557 (by decide +kernel) rfl
theorem w_532 : Cond.instanceMethod yX5_many ∈ LG := LG_in 558 (by decide +kernel) rfl
theorem w_533 : Cond.selects RX5 yX5_many yX5_many ∈ LG := LG_in 559 (by decide +kernel) rfl
theorem w_534 : Cond.code yX5_many cX5_many 7 (some .int) ∈ LG := LG_in 560 (by decide +kernel) rfl
theorem w_535 : Cond.methodLink RL 137 yX5_isSame ∈ LG := LG_in 561 (by decide +kernel) rfl
theorem w_536 : Cond.instanceMethod yX5_isSame ∈ LG := LG_in 562 (by decide +kernel) rfl
theorem w_537 : Cond.selects RX5 yX5_isSame yX5_isSame ∈ LG := LG_in 563 (by decide +kernel) rfl
theorem w_538 : Cond.code yX5_isSame cX5_isSame 8 (some .boolean) ∈ LG := LG_in 564 (rfl) rfl
theorem w_539 : Cond.methodLink RX5 76 yX4_cell ∈ LG := LG_in 565 (by decide +kernel) rfl
theorem w_540 : Cond.methodLink RX5 82 yX5_openAt ∈ LG := LG_in 566 (by decide +kernel) rfl
theorem w_541 : Cond.instanceMethod yX5_openAt ∈ LG := LG_in 567 (by decide +kernel) rfl
theorem w_542 : Cond.selects RX5 yX5_openAt yX5_openAt ∈ LG := LG_in 568 (by decide +kernel) rfl
theorem w_543 : Cond.code yX5_openAt cX5_openAt 5 (some .int) ∈ LG := LG_in 569 (by decide +kernel) rfl
theorem w_544 : Cond.methodLink RX5 85 yX4_hole ∈ LG := LG_in 570 (by decide +kernel) rfl
theorem w_545 : Cond.methodLink RX5 88 yX4_spearer ∈ LG := LG_in 571 (by decide +kernel) rfl
theorem w_546 : Cond.methodLink RX5 91 yX4_about ∈ LG := LG_in 572 (by decide +kernel) rfl
theorem w_547 : Cond.methodLink RX5 94 yX5_counts ∈ LG := LG_in 573 (by decide +kernel) rfl
theorem w_548 : Cond.instanceMethod yX5_counts ∈ LG := LG_in 574 (by decide +kernel) rfl
theorem w_549 : Cond.selects RX5 yX5_counts yX5_counts ∈ LG := LG_in 575 (by decide +kernel) rfl
theorem w_550 : Cond.code yX5_counts cX5_counts 10 (some (.array .int)) ∈ LG := LG_in 576 (rfl) rfl
theorem w_551 : Cond.methodLink RX5 98 yX4_count ∈ LG := LG_in 577 (by decide +kernel) rfl
theorem w_552 : Cond.methodLink RX5 101 yX4_mean ∈ LG := LG_in 578 (by decide +kernel) rfl
theorem w_553 : Cond.methodLink RL 9 yL_below ∈ LG := LG_in 579 (by decide +kernel) rfl
theorem w_554 : Cond.static yL_below ∈ LG := LG_in 580 (by decide +kernel) rfl
theorem w_555 : Cond.code yL_below cL_below 2 (some .int) ∈ LG := LG_in 581 (by decide +kernel) rfl
theorem w_557 : Cond.methodLink RL 73 yL_cell ∈ LG := LG_in 583 (by decide +kernel) rfl
theorem w_558 : Cond.static yL_cell ∈ LG := LG_in 584 (by decide +kernel) rfl
theorem w_559 : Cond.code yL_cell cL_cell 2 (some .int) ∈ LG := LG_in 585 (by decide +kernel) rfl
theorem w_561 : Cond.methodLink RL 78 yL_act ∈ LG := LG_in 587 (by decide +kernel) rfl
theorem w_562 : Cond.static yL_act ∈ LG := LG_in 588 (by decide +kernel) rfl
theorem w_563 : Cond.codeWith yL_act cL_act 11 (some .boolean) [((365 : Nat), (374 : Nat), (377 : Nat), (50 : Nat)), ((508 : Nat), (522 : Nat), (525 : Nat), (50 : Nat)), ((608 : Nat), (621 : Nat), (624 : Nat), (50 : Nat)), ((745 : Nat), (755 : Nat), (758 : Nat), (50 : Nat))] ∈ LG := LG_in 589 (rfl) rfl
theorem w_564 : Cond.classLink RL 50 "java/lang/IllegalStateException" ∈ LG := LG_in 590 (by decide +kernel) rfl
theorem w_565 : Cond.methodLink RL 24 yX4_set ∈ LG := LG_in 591 (by decide +kernel) rfl
theorem w_566 : Cond.instanceMethod yX4_set ∈ LG := LG_in 592 (by decide +kernel) rfl
theorem w_567 : Cond.selects RX4 yX4_set yX4_set ∈ LG := LG_in 593 (by decide +kernel) rfl
theorem w_568 : Cond.code yX4_set cX4_set 7 (some .int) ∈ LG := LG_in 594 (by decide +kernel) rfl
theorem w_571 : Cond.methodLink RX4 39 yX4_cellAt ∈ LG := LG_in 597 (by decide +kernel) rfl
theorem w_572 : Cond.methodLink RL 34 yX4_setFrost ∈ LG := LG_in 598 (by decide +kernel) rfl
theorem w_573 : Cond.instanceMethod yX4_setFrost ∈ LG := LG_in 599 (by decide +kernel) rfl
theorem w_574 : Cond.selects RX4 yX4_setFrost yX4_setFrost ∈ LG := LG_in 600 (by decide +kernel) rfl
theorem w_575 : Cond.code yX4_setFrost cX4_setFrost 4 (some .int) ∈ LG := LG_in 601 (by decide +kernel) rfl
theorem w_578 : Cond.methodLink RL 41 yX5_openAt ∈ LG := LG_in 604 (by decide +kernel) rfl
theorem w_579 : Cond.methodLink RL 47 yX4_cut ∈ LG := LG_in 605 (by decide +kernel) rfl
theorem w_580 : Cond.instanceMethod yX4_cut ∈ LG := LG_in 606 (by decide +kernel) rfl
theorem w_581 : Cond.selects RX4 yX4_cut yX4_cut ∈ LG := LG_in 607 (by decide +kernel) rfl
theorem w_582 : Cond.code yX4_cut cX4_cut 3 (some .int) ∈ LG := LG_in 608 (by decide +kernel) rfl
theorem w_583 : Cond.classLink RX4 65 "java/lang/IllegalStateException" ∈ LG := LG_in 609 (by decide +kernel) rfl
theorem w_584 : Cond.instantiable "java/lang/IllegalStateException" 6 ∈ LG := LG_in 610 (by decide +kernel) rfl
theorem w_587 : Cond.lays "java/lang/IllegalStateException" "java/lang/Throwable" "cause" "Ljava/lang/Throwable;" ∈ LG := LG_in 613 (by decide +kernel) rfl
theorem w_588 : Cond.lays "java/lang/IllegalStateException" "java/lang/Throwable" "stackTrace" "[Ljava/lang/StackTraceElement;" ∈ LG := LG_in 614 (by decide +kernel) rfl
theorem w_589 : Cond.lays "java/lang/IllegalStateException" "java/lang/Throwable" "suppressedExceptions" "Ljava/util/List;" ∈ LG := LG_in 615 (by decide +kernel) rfl
theorem w_590 : Cond.lays "java/lang/IllegalStateException" "java/lang/Throwable" "detailMessage" "Ljava/lang/String;" ∈ LG := LG_in 616 (by decide +kernel) rfl
theorem w_591 : Cond.lays "java/lang/IllegalStateException" "java/lang/Throwable" "backtrace" "Ljava/lang/Object;" ∈ LG := LG_in 617 (by decide +kernel) rfl
theorem w_597 : Cond.lays "java/lang/IllegalStateException" "java/lang/Throwable" "depth" "I" ∈ LG := LG_in 623 (by decide +kernel) rfl
theorem w_599 : Cond.methodLink RX4 70 yX1_openHoleIn ∈ LG := LG_in 625 (by decide +kernel) rfl
theorem w_602 : Cond.methodLink RX4 80 yX1_addHole ∈ LG := LG_in 628 (by decide +kernel) rfl
theorem w_603 : Cond.instanceMethod yX1_addHole ∈ LG := LG_in 629 (by decide +kernel) rfl
theorem w_604 : Cond.selects RX1 yX1_addHole yX1_addHole ∈ LG := LG_in 630 (by decide +kernel) rfl
theorem w_605 : Cond.code yX1_addHole cX1_addHole 4 (some .int) ∈ LG := LG_in 631 (by decide +kernel) rfl
theorem w_606 : Cond.methodLink RL 52 yX5_more ∈ LG := LG_in 632 (by decide +kernel) rfl
theorem w_607 : Cond.static yX5_more ∈ LG := LG_in 633 (by decide +kernel) rfl
theorem w_608 : Cond.code yX5_more cX5_more 4 (some (.array (.array .int))) ∈ LG := LG_in 634 (by decide +kernel) rfl
theorem w_609 : Cond.classLink RX5 21 "[I" ∈ LG := LG_in 635 (by decide +kernel) rfl
theorem w_611 : Cond.methodLink RL 59 yX4_license ∈ LG := LG_in 637 (by decide +kernel) rfl
theorem w_612 : Cond.instanceMethod yX4_license ∈ LG := LG_in 638 (by decide +kernel) rfl
theorem w_613 : Cond.selects RX4 yX4_license yX4_license ∈ LG := LG_in 639 (by decide +kernel) rfl
theorem w_614 : Cond.code yX4_license cX4_license 3 (some .int) ∈ LG := LG_in 640 (by decide +kernel) rfl
theorem w_617 : Cond.methodLink RX4 90 yX1_addSpearer ∈ LG := LG_in 643 (by decide +kernel) rfl
theorem w_618 : Cond.instanceMethod yX1_addSpearer ∈ LG := LG_in 644 (by decide +kernel) rfl
theorem w_619 : Cond.selects RX1 yX1_addSpearer yX1_addSpearer ∈ LG := LG_in 645 (by decide +kernel) rfl
theorem w_620 : Cond.code yX1_addSpearer cX1_addSpearer 4 (some .int) ∈ LG := LG_in 646 (by decide +kernel) rfl
theorem w_621 : Cond.methodLink RL 65 yX4_warden ∈ LG := LG_in 647 (by decide +kernel) rfl
theorem w_622 : Cond.instanceMethod yX4_warden ∈ LG := LG_in 648 (by decide +kernel) rfl
theorem w_623 : Cond.selects RX4 yX4_warden yX4_warden ∈ LG := LG_in 649 (by decide +kernel) rfl
theorem w_624 : Cond.code yX4_warden cX4_warden 4 (some .int) ∈ LG := LG_in 650 (by decide +kernel) rfl
theorem w_627 : Cond.methodLink RX4 131 yX1_addWarden ∈ LG := LG_in 653 (by decide +kernel) rfl
theorem w_628 : Cond.instanceMethod yX1_addWarden ∈ LG := LG_in 654 (by decide +kernel) rfl
theorem w_629 : Cond.selects RX1 yX1_addWarden yX1_addWarden ∈ LG := LG_in 655 (by decide +kernel) rfl
theorem w_630 : Cond.code yX1_addWarden cX1_addWarden 5 (some .int) ∈ LG := LG_in 656 (by decide +kernel) rfl
theorem w_631 : Cond.methodLink RL 69 yX4_go ∈ LG := LG_in 657 (by decide +kernel) rfl
theorem w_632 : Cond.instanceMethod yX4_go ∈ LG := LG_in 658 (by decide +kernel) rfl
theorem w_633 : Cond.selects RX4 yX4_go yX4_go ∈ LG := LG_in 659 (by decide +kernel) rfl
theorem w_634 : Cond.code yX4_go cX4_go 5 (some .int) ∈ LG := LG_in 660 (by decide +kernel) rfl
theorem w_637 : Cond.methodLink RL 90 yL_build ∈ LG := LG_in 663 (by decide +kernel) rfl
theorem w_638 : Cond.static yL_build ∈ LG := LG_in 664 (by decide +kernel) rfl
theorem w_639 : Cond.code yL_build cL_build 7 (some (.object "EelPermitsLaw$Sim")) ∈ LG := LG_in 665 (rfl) rfl
theorem w_640 : Cond.classLink RL 16 RX5 ∈ LG := LG_in 666 (by decide +kernel) rfl
theorem w_641 : Cond.methodLink RL 72 yX5_init ∈ LG := LG_in 667 (by decide +kernel) rfl
theorem w_642 : Cond.instanceMethod yX5_init ∈ LG := LG_in 668 (by decide +kernel) rfl
theorem w_643 : Cond.code yX5_init cX5_init 5 none ∈ LG := LG_in 669 (by decide +kernel) rfl
theorem w_644 : Cond.methodLink RX5 1 Lib.objectInit ∈ LG := LG_in 670 (by decide +kernel) rfl
theorem w_645 : Cond.classLink RX5 7 "[[I" ∈ LG := LG_in 671 (by decide +kernel) rfl
theorem w_646 : Cond.methodLink RX5 35 yJ7_fill_53178 ∈ LG := LG_in 672 (by decide +kernel) rfl
theorem w_647 : Cond.static yJ7_fill_53178 ∈ LG := LG_in 673 (by decide +kernel) rfl
theorem w_648 : Cond.code yJ7_fill_53178 cJ7_fill_53178 4 none ∈ LG := LG_in 674 (by decide +kernel) rfl
theorem w_649 : Cond.fieldLink RX5 9 "EelPermitsLaw$Sim" "eels" "[[I" ∈ LG := LG_in 675 (by decide +kernel) rfl
theorem w_650 : Cond.fieldLink RL 15 "EelPermitsLaw$Sim" "eels" "[[I" ∈ LG := LG_in 676 (by decide +kernel) rfl
theorem w_651 : Cond.fieldLink RX5 14 "EelPermitsLaw$Sim" "mud" "[[I" ∈ LG := LG_in 677 (by decide +kernel) rfl
theorem w_652 : Cond.fieldLink RL 21 "EelPermitsLaw$Sim" "mud" "[[I" ∈ LG := LG_in 678 (by decide +kernel) rfl
theorem w_653 : Cond.fieldLink RX5 17 "EelPermitsLaw$Sim" "frost" "[I" ∈ LG := LG_in 679 (by decide +kernel) rfl
theorem w_654 : Cond.fieldLink RL 30 "EelPermitsLaw$Sim" "frost" "[I" ∈ LG := LG_in 680 (by decide +kernel) rfl
theorem w_655 : Cond.fieldLink RX5 22 "EelPermitsLaw$Sim" "holes" "[[I" ∈ LG := LG_in 681 (by decide +kernel) rfl
theorem w_656 : Cond.fieldLink RL 44 "EelPermitsLaw$Sim" "holes" "[[I" ∈ LG := LG_in 682 (by decide +kernel) rfl
theorem w_657 : Cond.fieldLink RX5 25 "EelPermitsLaw$Sim" "spearers" "[[I" ∈ LG := LG_in 683 (by decide +kernel) rfl
theorem w_658 : Cond.fieldLink RL 56 "EelPermitsLaw$Sim" "spearers" "[[I" ∈ LG := LG_in 684 (by decide +kernel) rfl
theorem w_659 : Cond.fieldLink RX5 28 "EelPermitsLaw$Sim" "wardens" "[[I" ∈ LG := LG_in 685 (by decide +kernel) rfl
theorem w_660 : Cond.fieldLink RL 62 "EelPermitsLaw$Sim" "wardens" "[[I" ∈ LG := LG_in 686 (by decide +kernel) rfl
theorem w_661 : Cond.fieldLink RX5 50 "EelPermitsLaw$Sim" "night" "I" ∈ LG := LG_in 687 (by decide +kernel) rfl
theorem w_662 : Cond.fieldLink RX5 31 "EelPermitsLaw$Sim" "ice" "I" ∈ LG := LG_in 688 (by decide +kernel) rfl
theorem w_663 : Cond.fieldLink RL 37 "EelPermitsLaw$Sim" "ice" "I" ∈ LG := LG_in 689 (by decide +kernel) rfl
theorem w_664 : Cond.lays RX5 RX5 "eels" "[[I" ∈ LG := LG_in 690 (by decide +kernel) rfl
theorem w_666 : Cond.lays RX5 RX5 "mud" "[[I" ∈ LG := LG_in 692 (by decide +kernel) rfl
theorem w_668 : Cond.lays RX5 RX5 "frost" "[I" ∈ LG := LG_in 694 (by decide +kernel) rfl
theorem w_670 : Cond.lays RX5 RX5 "holes" "[[I" ∈ LG := LG_in 696 (by decide +kernel) rfl
theorem w_672 : Cond.lays RX5 RX5 "spearers" "[[I" ∈ LG := LG_in 698 (by decide +kernel) rfl
theorem w_674 : Cond.lays RX5 RX5 "wardens" "[[I" ∈ LG := LG_in 700 (by decide +kernel) rfl
theorem w_676 : Cond.lays RX5 RX5 "night" "I" ∈ LG := LG_in 702 (by decide +kernel) rfl
theorem w_678 : Cond.lays RX5 RX5 "ice" "I" ∈ LG := LG_in 704 (by decide +kernel) rfl
theorem w_682 : Cond.methodLink RL 122 Lib.Math.abs.name ∈ LG := LG_in 708 (by decide +kernel) rfl
theorem w_683 : Cond.methodLink RL 127 Lib.Math.max.name ∈ LG := LG_in 709 (by decide +kernel) rfl
theorem w_684 : Cond.methodLink RL 130 Lib.Math.min.name ∈ LG := LG_in 710 (by decide +kernel) rfl
theorem w_685 : Cond.classLink RL 100 "[[I" ∈ LG := LG_in 711 (by decide +kernel) rfl
theorem ws_1 : Cond.selects RX1 yX1_spearersAt yX1_spearersAt ∈ LG := LG_in 1 (by decide +kernel) rfl
theorem ws_2 : Cond.selects RX1 yX1_nearestWardenTo yX1_nearestWardenTo ∈ LG := LG_in 2 (by decide +kernel) rfl
theorem ws_3 : Cond.selects RX1 yX1_eelsOfLake yX1_eelsOfLake ∈ LG := LG_in 3 (by decide +kernel) rfl
theorem ws_4 : Cond.selects RX1 yX1_openHoles yX1_openHoles ∈ LG := LG_in 4 (by decide +kernel) rfl
theorem ws_5 : Cond.selects RX1 yX1_eelsOfSpearers yX1_eelsOfSpearers ∈ LG := LG_in 5 (by decide +kernel) rfl
theorem ws_6 : Cond.selects RX1 yX1_finesOfSpearers yX1_finesOfSpearers ∈ LG := LG_in 6 (by decide +kernel) rfl
theorem ws_7 : Cond.selects RX1 yX1_lightLamps yX1_lightLamps ∈ LG := LG_in 7 (by decide +kernel) rfl
theorem ws_8 : Cond.selects RX1 yX1_lure yX1_lure ∈ LG := LG_in 8 (by decide +kernel) rfl
theorem ws_9 : Cond.selects RX1 yX1_moveEels yX1_moveEels ∈ LG := LG_in 9 (by decide +kernel) rfl
theorem ws_10 : Cond.selects RX1 yX1_spearEels yX1_spearEels ∈ LG := LG_in 10 (by decide +kernel) rfl
theorem ws_11 : Cond.selects RX1 yX1_sendWardens yX1_sendWardens ∈ LG := LG_in 11 (by decide +kernel) rfl
theorem ws_12 : Cond.selects RX1 yX1_nearestOffence yX1_nearestOffence ∈ LG := LG_in 12 (by decide +kernel) rfl
theorem ws_13 : Cond.selects RX1 yX1_hasOffender yX1_hasOffender ∈ LG := LG_in 13 (by decide +kernel) rfl
theorem ws_14 : Cond.selects RX1 yX1_fineAllAt yX1_fineAllAt ∈ LG := LG_in 14 (by decide +kernel) rfl
theorem ws_15 : Cond.selects RX1 yX1_keepCatches yX1_keepCatches ∈ LG := LG_in 15 (by decide +kernel) rfl
theorem ws_16 : Cond.selects RX1 yX1_breedEels yX1_breedEels ∈ LG := LG_in 16 (by decide +kernel) rfl
theorem ws_17 : Cond.selects RX1 yX1_freeze yX1_freeze ∈ LG := LG_in 17 (by decide +kernel) rfl
theorem ws_18 : Cond.selects RX1 yX1_closeAllHoles yX1_closeAllHoles ∈ LG := LG_in 18 (by decide +kernel) rfl
theorem ws_19 : Cond.selects RX1 yX1_closeEmptyHoles yX1_closeEmptyHoles ∈ LG := LG_in 19 (by decide +kernel) rfl
theorem ws_20 : Cond.selects RX4 yX4_eelsIfAt yX4_eelsIfAt ∈ LG := LG_in 20 (by decide +kernel) rfl
theorem ws_21 : Cond.selects RX4 yX4_digestOfCells yX4_digestOfCells ∈ LG := LG_in 21 (by decide +kernel) rfl
theorem ws_22 : Cond.selects RX4 yX4_digestOfPeople yX4_digestOfPeople ∈ LG := LG_in 22 (by decide +kernel) rfl
theorem ws_23 : Cond.selects RX5 yX5_lamp yX5_lamp ∈ LG := LG_in 23 (by decide +kernel) rfl
theorem ws_24 : Cond.selects RX5 yX5_guard yX5_guard ∈ LG := LG_in 24 (by decide +kernel) rfl
theorem ws_25 : Cond.selects RX5 yX5_isOver yX5_isOver ∈ LG := LG_in 25 (by decide +kernel) rfl
theorem u_0 : ∀ w ∈ u_ws RX0 TX0 3, w ∈ LG := by
  intro w hw
  exact List.mem_filter.mpr ⟨(by decide +kernel : ∀ w ∈ u_ws RX0 TX0 3, w ∈ lw_tbl) w hw, (by decide +kernel : ∀ w ∈ u_ws RX0 TX0 3, goodWord w = true) w hw⟩
theorem u_1 : ∀ w ∈ u_ws RX1 TX1 11, w ∈ LG := by
  intro w hw
  exact List.mem_filter.mpr ⟨(by decide +kernel : ∀ w ∈ u_ws RX1 TX1 11, w ∈ lw_tbl) w hw, (by decide +kernel : ∀ w ∈ u_ws RX1 TX1 11, goodWord w = true) w hw⟩
theorem u_2 : ∀ w ∈ u_ws RX2 TX2 6, w ∈ LG := by
  intro w hw
  exact List.mem_filter.mpr ⟨(by decide +kernel : ∀ w ∈ u_ws RX2 TX2 6, w ∈ lw_tbl) w hw, (by decide +kernel : ∀ w ∈ u_ws RX2 TX2 6, goodWord w = true) w hw⟩
theorem u_3 : ∀ w ∈ u_ws RX3 TX3 4, w ∈ LG := by
  intro w hw
  exact List.mem_filter.mpr ⟨(by decide +kernel : ∀ w ∈ u_ws RX3 TX3 4, w ∈ lw_tbl) w hw, (by decide +kernel : ∀ w ∈ u_ws RX3 TX3 4, goodWord w = true) w hw⟩
theorem u_4 : ∀ w ∈ u_ws RX4 TX4 2, w ∈ LG := by
  intro w hw
  exact List.mem_filter.mpr ⟨(by decide +kernel : ∀ w ∈ u_ws RX4 TX4 2, w ∈ lw_tbl) w hw, (by decide +kernel : ∀ w ∈ u_ws RX4 TX4 2, goodWord w = true) w hw⟩
theorem u_5 : ∀ w ∈ u_ws RX5 TX5 8, w ∈ LG := by
  intro w hw
  exact List.mem_filter.mpr ⟨(by decide +kernel : ∀ w ∈ u_ws RX5 TX5 8, w ∈ lw_tbl) w hw, (by decide +kernel : ∀ w ∈ u_ws RX5 TX5 8, goodWord w = true) w hw⟩
end
section
/-! ===== BEGIN words of one list among another's, by their places ===== -/
theorem goodIn_r {big : List Cond} (ws : List Cond) (ps : List Nat) (hp : ws = ps.filterMap (fun i => big[i]?)) (h : ws.all goodWord = true) : GoodIn big ws := by
  intro w hw
  have h1 := List.all_eq_true.mp h w hw
  rw [hp] at hw
  obtain ⟨i, -, hi⟩ := List.mem_filterMap.mp hw
  have hm : w ∈ big := by first | exact List.mem_of_getElem? hi | exact List.getElem?_mem hi
  exact ⟨hm, good_of_word h1⟩
theorem goodIn_app {big a b : List Cond} (ha : GoodIn big a) (hb : GoodIn big b) : GoodIn big (a ++ b) := fun w h => (List.mem_append.mp h).elim (ha w) (hb w)
theorem goodIn_ca {big a b : List Cond} {c : Cond} (ha : GoodIn big (c :: a)) (hb : GoodIn big b) : GoodIn big (c :: (a ++ b)) := fun w h => (List.mem_cons.mp h).elim (fun e => ha w (List.mem_cons.mpr (Or.inl e))) (fun h => (List.mem_append.mp h).elim (fun h => ha w (List.mem_cons.mpr (Or.inr h))) (hb w))
theorem goodIn_sub {big ws : List Cond} (hm : ∀ w ∈ ws, w ∈ big) (h : ws.all goodWord = true) : GoodIn big ws := fun w hw => ⟨hm w hw, good_of_word (List.all_eq_true.mp h w hw)⟩
/-! ===== END ===== -/

/-! ===== BEGIN exceptions that leave a method, and their catching by the caller (launches without stack traces) ===== -/
section VXA
/-! The laws vx_back, vx_callV, vx_callS, vx_callSW, vx_throw0, vx_throwS follow proofs of the library, with one case more: JvmDerived/Free/Laws.lean (Back.of_free), Shelf42/LK1.lean (callV, callS), Shelf/KitTraced.lean (throwNew0V, throwNewS). -/
/-- where a method has thrown q: the class by its name, the cell, what was written, the world -/
def vx_T (XC : String → State → State → Prop) (st : State) (q : Addr) (t : State) (mc ms : Nat) (free : Addr → Prop) : Prop :=
  ∃ (E : String) (ce : Cell) (L : List Loc), XC E st t ∧ t.heap[q]? = some ce ∧ ce.vm = .none ∧ st.vm.findClass E = some ce.cls ∧ st.WarmedH t.vm ∧ st.sameButNew ({ t with vm := st.vm } : State) L mc ms ∧ ∀ z ∈ L, free z.base
def vx_Q (Qc : Array Value → State → Outcome → State → Prop) (XC : String → State → State → Prop) (mc ms : Nat) (free : Addr → Prop) : Array Value → State → Outcome → State → Prop := fun a st o t =>
  (Qc a st o t ∧ ∃ L, FrameEnd st o t L mc ms ∧ ∀ q ∈ L, free q.base) ∨ ∃ q, o = .threw q ∧ vx_T XC st q t mc ms free
/-- a callee that returns or throws -/
def vx_Met (l : Launch) (y : MethodName) (ws : List Cond) (rm : Room) (Pc : Array Value → State → Prop) (Qc : Array Value → State → Outcome → State → Prop) (XC : String → State → State → Prop) (mc ms : Nat) (free : Addr → Prop) : Prop :=
  MetFree l y (headSpec ws rm) Pc (fun _ _ _ _ _ => True) (vx_Q Qc XC mc ms free)
def vx_Post (XC : String → State → State → Prop) (mc ms : Nat) (free : Addr → Prop) : Pt → Array Value → Addr → Pt → Prop := fun A a q B =>
  ∃ (g : JFrame) (mk : MethodId) (t : State) (L : List Loc) (E : String) (ce : Cell), B.U.heap = t.heap ∧ B.U.vm = t.vm ∧ XC E (A.U.calling g mk a) t ∧ t.heap[q]? = some ce ∧ ce.vm = .none ∧ A.U.vm.findClass E = some ce.cls ∧ B.locs = A.locs ++ L ∧ (∀ z ∈ L, free z.base) ∧ B.cells = A.cells + mc ∧ B.slots = A.slots + ms
def vx_Back (l : Launch) (R : Room) (p : Program) (e : Env) (below : List Frame) (s : State) (sargs : Array Value) (y : MethodName) (len W9 : Nat)
    (Pre : Pt → Array Value → Prop) (Post : Pt → Array Value → Option Value → Pt → Prop) (PostX : Pt → Array Value → Addr → Pt → Prop) : Prop :=
  ∀ (m : MethodId) (meth : Method) (c : Code) (A : Pt) (g : JFrame) (ig : Instr) (mk : MethodId) (a : Array Value),
    Stand p l e R s m sargs below meth c A.U A.locs A.cells A.slots → g.method = m → g.locals.size = c.maxLocals → decode c.code g.pc = .ok (ig, len) →
    2 * g.monitorRoom + (g.stack.map fun v => v.category).sum ≤ W9 → A.U.methodNamed? y = some mk → Pre A a →
    (∃ (v : Option Value) (B : Pt), Stand p l e R s m sargs below meth c B.U B.locs B.cells B.slots ∧ Post A a v B ∧
      Steps p.tables e below (doInvoke e (A.U.setTop g) [] mk a).1 (B.U.setTop { g with pc := g.pc + len, stack := v.toList ++ g.stack })) ∨
    (∃ (q : Addr) (B : Pt), Stand p l e R s m sargs below meth c B.U B.locs B.cells B.slots ∧ PostX A a q B ∧
      Steps p.tables e below (doInvoke e (A.U.setTop g) [] mk a).1 ((B.U.setTop g).pushFrame (.throwing q)))
section Payer
variable {l : Launch} {R : Room} {p : Program} {e : Env} {below : List Frame} {s : State} {sargs : Array Value} {y : MethodName} {len W9 : Nat}
theorem vx_back {ws : List Cond} {rm : Room} {Pc : Array Value → State → Prop} {Qc : Array Value → State → Outcome → State → Prop} {XC : String → State → State → Prop} {mc ms : Nat} {free : Addr → Prop} {bytes : ByteArray} {maxL : Nat} {ret : Option FieldType}
    (hM : vx_Met l y ws rm Pc Qc XC mc ms free) (hblind : FrameBlind Pc) (hrc : rm.cells = mc) (hrs : rm.slots = ms)
    (hframes : rm.frames + 1 ≤ R.frames) (hlocals : W9 + (maxL + 11) + rm.locals ≤ R.locals)
    (hws : ∀ w ∈ ws, ∀ a' U, s.WarmedH U.vm → w.before a' U = true) (hcode : Cond.code y bytes maxL ret ∈ ws) (hinit : ∀ a' U, s.WarmedH U.vm → (Cond.initialized y.cls).before a' U = true) :
    vx_Back l R p e below s sargs y len W9 (PreOf R mc ms Pc) (PostOf Qc mc ms free) (vx_Post XC mc ms free) := by
  intro m meth c A g ig mk a X hg hsize hdg hW hn hp
  have h1 : (headSpec ws rm).pre.before a A.U = true := atoms_intro fun w hw => hws w hw _ _ X.warmed
  have h2 : (Cond.code y bytes maxL ret).before a A.U = true := hws _ hcode _ _ X.warmed
  have h3 : (Cond.initialized y.cls).before a A.U = true := hinit _ _ X.warmed
  have h4 : A.cells + (headSpec ws rm).room.cells ≤ R.cells := by rw [show (headSpec ws rm).room.cells = mc from hrc]; exact hp.1
  have h5 : A.slots + (headSpec ws rm).room.slots ≤ R.slots := by rw [show (headSpec ws rm).room.slots = ms from hrs]; exact hp.2.1
  have hPc : Pc a (A.U.calling g mk a) := hblind _ _ _ _ hp.2.2
  obtain ⟨U, Ls, c0, s0⟩ := A
  dsimp only [Pt.U, Pt.locs, Pt.cells, Pt.slots] at h1 h2 h3 h4 h5 X hn hPc ⊢
  obtain ⟨methY, cY, hmY, hcY, -, hlY, -, -, -, -⟩ := Cond.code_spec hn h2
  obtain ⟨kY, hkY, -⟩ := className_of_methodNamed hn
  have hinitY : kY.init = .initialized := Cond.initialized_spec (findClass_of_methodNamed hn) hkY h3
  have h : At U g.method c below := by rw [hg]; exact X.here
  have hlocals9 : W9 + (maxL + 11) + (headSpec ws rm).room.locals ≤ R.locals := hlocals
  have happ : (headSpec ws rm).appliesLoose y e.platform (U.calling g mk a) = true :=
    Spec.appliesLoose_calling (g := g) h hdg hn hkY hinitY
      (X.room_calling (g := g) (R' := (headSpec ws rm).room) hsize hmY hcY hframes (by rw [hlY]; omega) h4 h5) h1
  obtain ⟨mid, hmid⟩ := h.above
  have hfr : (U.setTop g).frames = (.java g :: mid) ++ below := by rw [State.frames_setTop' g h.top, hmid]; rfl
  obtain ⟨o, s₂, hsteps, -, hend, hq⟩ := Steps.callFree hM p X.admits X.cas X.clock (acts := []) hfr happ hPc trivial
  have hq' : vx_Q Qc XC mc ms free a (U.calling g mk a) o s₂ := hq
  rw [State.frames_setTop' g h.top] at hend
  obtain ⟨g₀, hg0⟩ := Option.isSome_iff_exists.mp h.top
  obtain ⟨r, hr⟩ := State.topJava?_eq_some.mp hg0
  have hr' : (({ U with heap := s₂.heap, slotsUsed := s₂.slotsUsed } : State).setVm s₂.vm).frames = .java g₀ :: r := hr
  rcases hq' with ⟨hqc, L, hfe, hL⟩ | ⟨q, rfl, E, ce, L, hx, hce, hcv, hcl, hW₂, hsm, hL⟩
  · obtain ⟨⟨v, rfl⟩, hW₂, e2, q2, q3, q4, q5, q6⟩ := id hfe
    have e3 : s₂ = ({ (U.calling g mk a).setFrames s₂.frames with heap := s₂.heap, slotsUsed := s₂.slotsUsed } : State).setVm s₂.vm := by
      have : s₂ = ({ s₂ with vm := (U.calling g mk a).vm } : State).setVm s₂.vm := rfl
      rw [e2] at this
      exact this
    obtain ⟨c₂, i₂, len₂, hc₂, hd₂, hf₂⟩ := hend
    have hW' : U.WarmedH s₂.vm := hW₂
    have hcc : c₂ = c := by
      have h1 : s₂.code? g.method = U.code? g.method := by
        rw [State.code?_eq, State.code?_eq, hW'.alike.method?]
      exact Option.some.inj (hc₂.symm.trans (h1.trans h.code))
    subst hcc
    have hlen : len₂ = len := by rw [hdg] at hd₂; cases hd₂; rfl
    subst hlen
    have hs₂ : s₂ = (({ U with heap := s₂.heap, slotsUsed := s₂.slotsUsed } : State).setVm s₂.vm).setTop { g with pc := g.pc + len₂, stack := v.toList ++ g.stack } := by
      refine e3.trans ?_
      rw [hf₂, State.calling_eq h.top, State.setFrames_setFrames, State.setTop_of_frames _ hr', hr]
      rfl
    have hsame : U.sameButNew ({ U with heap := s₂.heap, slotsUsed := s₂.slotsUsed } : State) L mc ms := by
      refine ⟨?_, q2, q3, q4, q5, q6⟩
      obtain ⟨t, ht, -⟩ := State.frames_cons hr
      show ({ U with heap := s₂.heap, slotsUsed := s₂.slotsUsed } : State) = { U.setFrames U.frames with heap := s₂.heap, slotsUsed := s₂.slotsUsed }
      rw [State.setFrames_self ht]
    subst hg
    refine Or.inl ⟨v, ⟨(({ U with heap := s₂.heap, slotsUsed := s₂.slotsUsed } : State).setVm s₂.vm), Ls ++ L, c0 + mc, s0 + ms⟩,
      ⟨X.admits, X.cas, X.clock, X.frames, X.room, X.hears, X.method, X.code, (X.here.setHeapUsed s₂.heap s₂.slotsUsed).setVm hW'.alike, X.tail, State.WarmedH.trans X.warmed hW', X.limits, X.bytes, X.same.trans (hsame.setVm s.vm)⟩,
      ⟨g, mk, s₂, L, rfl, rfl, hqc, rfl, hL, rfl, rfl⟩, ?_⟩
    show Steps p.tables e below _ ((({ U with heap := s₂.heap, slotsUsed := s₂.slotsUsed } : State).setVm s₂.vm).setTop { g with pc := g.pc + len₂, stack := v.toList ++ g.stack })
    rw [← hs₂]
    exact hsteps
  · obtain ⟨e2, q2, q3, q4, q5, q6⟩ := id hsm
    have e3 : s₂ = ({ (U.calling g mk a).setFrames s₂.frames with heap := s₂.heap, slotsUsed := s₂.slotsUsed } : State).setVm s₂.vm := by
      have : s₂ = ({ s₂ with vm := (U.calling g mk a).vm } : State).setVm s₂.vm := rfl
      rw [e2] at this
      exact this
    have hf₂ : s₂.frames = .throwing q :: .java g :: U.frames.tail := hend
    have hW' : U.WarmedH s₂.vm := hW₂
    have hs₂ : s₂ = ((({ U with heap := s₂.heap, slotsUsed := s₂.slotsUsed } : State).setVm s₂.vm).setTop g).pushFrame (.throwing q) := by
      refine e3.trans ?_
      rw [hf₂, State.calling_eq h.top, State.setFrames_setFrames, State.pushFrame, State.frames_setTop _ hr', State.setTop_of_frames _ hr', State.setFrames_setFrames, hr]
      rfl
    have hsame : U.sameButNew ({ U with heap := s₂.heap, slotsUsed := s₂.slotsUsed } : State) L mc ms := by
      refine ⟨?_, q2, q3, q4, q5, q6⟩
      obtain ⟨t, ht, -⟩ := State.frames_cons hr
      show ({ U with heap := s₂.heap, slotsUsed := s₂.slotsUsed } : State) = { U.setFrames U.frames with heap := s₂.heap, slotsUsed := s₂.slotsUsed }
      rw [State.setFrames_self ht]
    subst hg
    refine Or.inr ⟨q, ⟨(({ U with heap := s₂.heap, slotsUsed := s₂.slotsUsed } : State).setVm s₂.vm), Ls ++ L, c0 + mc, s0 + ms⟩,
      ⟨X.admits, X.cas, X.clock, X.frames, X.room, X.hears, X.method, X.code, (X.here.setHeapUsed s₂.heap s₂.slotsUsed).setVm hW'.alike, X.tail, State.WarmedH.trans X.warmed hW', X.limits, X.bytes, X.same.trans (hsame.setVm s.vm)⟩,
      ⟨g, mk, s₂, L, E, ce, rfl, rfl, hx, hce, hcv, hcl, rfl, hL, rfl, rfl⟩, ?_⟩
    show Steps p.tables e below _ (((({ U with heap := s₂.heap, slotsUsed := s₂.slotsUsed } : State).setVm s₂.vm).setTop g).pushFrame (.throwing q))
    rw [← hs₂]
    exact hsteps
end Payer
section Calls
variable {p : Program} {l : Launch} {e : Env} {R : Room} {s : State} {m : MethodId} {args : Array Value} {below : List Frame} {meth : Method} {c : Code} {T : State} {locs : List Loc} {cells slots : Nat}
theorem vx_callV (X : Stand p l e R s m args below meth c T locs cells slots) (hexec : p.tables.exec = Jvm.exec) {own C : String} {index : Nat} {y : MethodName} {bytes : ByteArray} {maxL : Nat} {ret : Option FieldType}
    (hown : s.vm.findClass own = some m.cls) (hlink : (Cond.methodLink own index y).before args s = true) (hinst : (Cond.instanceMethod y).before args s = true) (hsel : (Cond.selects C y y).before args s = true)
    (hcode : (Cond.code y bytes maxL ret).before args s = true) (hy : y.cls ≠ "java/lang/invoke/MethodHandle" ∧ y.cls ≠ "java/lang/invoke/VarHandle")
    {W9 : Nat} {Pre : Pt → Array Value → Prop} {Post : Pt → Array Value → Option Value → Pt → Prop} {PostX : Pt → Array Value → Addr → Pt → Prop} (hK : vx_Back l R p e below s args y 3 W9 Pre Post PostX)
    {b : Addr} {cellB : Cell} (hcell : T.heap[b]? = some cellB) (hobj : cellB.vm.isStatics = false) (hcls : s.vm.findClass C = some cellB.cls)
    {g : JFrame} (hg : g.method = m) (hsize : g.locals.size = c.maxLocals) {argsL rest : List Value} (hlen : ∀ sig, parseMethodDescriptor y.desc = some sig → argsL.length = sig.parameters.length)
    (hstack : g.stack = argsL.reverse ++ .ref b :: rest) (hW : 2 * g.monitorRoom + (rest.map fun v => v.category).sum ≤ W9) (hdg : decode c.code g.pc = .ok (.invokevirtual index, 3))
    (hpre : ∀ vm₁, s.WarmedH vm₁ → Pre ⟨T.setVm vm₁, locs, cells, slots⟩ (Value.ref b :: argsL).toArray) :
    (∃ (v : Option Value) (vm₁ : Vm) (B : Pt), s.WarmedH vm₁ ∧ Stand p l e R s m args below meth c B.U B.locs B.cells B.slots ∧ Post ⟨T.setVm vm₁, locs, cells, slots⟩ (Value.ref b :: argsL).toArray v B ∧
      ∀ target, Steps p.tables e below (B.U.setTop { g with pc := g.pc + 3, stack := v.toList ++ rest }) target → Steps p.tables e below (T.setTop g) target) ∨
    (∃ (q : Addr) (vm₁ : Vm) (B : Pt), s.WarmedH vm₁ ∧ Stand p l e R s m args below meth c B.U B.locs B.cells B.slots ∧ PostX ⟨T.setVm vm₁, locs, cells, slots⟩ (Value.ref b :: argsL).toArray q B ∧
      Steps p.tables e below (T.setTop g) ((B.U.setTop { g with stack := rest }).pushFrame (.throwing q))) := by
  obtain ⟨mk, methM, hnamed, hmethM, hstM, habM⟩ := Cond.instanceMethod_spec hinst
  obtain ⟨methM', cM, hmethM', -, -, -, -, -, -, hsigM⟩ := Cond.code_spec hnamed hcode
  cases hmethM.symm.trans hmethM'
  obtain ⟨c2, r2, m2, q1, q2, q3, q4, kP, hkP, hkPi⟩ := Cond.selects_spec hsel
  cases hcls.symm.trans q1
  cases (State.methodFound?_of_named hnamed hy).symm.trans q2
  cases hnamed.symm.trans q3
  have hselP : selectMethod e.platform s.vm cellB.cls mk = .method mk := by rw [Launch.admits_selectMethod X.admits]; exact q4
  obtain ⟨vm₁, X₁, hstep₁⟩ := X.invokevirtual hexec hown hlink hnamed hmethM hstM hkP hkPi hy (a := b) (cell := cellB) hcell
    (fun z h => by rw [h] at hobj; cases hobj) hselP hmethM habM hkP hkPi (g := g) hg (argsL := argsL) (rest := rest) (hlen _ hsigM) hstack hdg
  rcases hK m meth c ⟨T.setVm vm₁, locs, cells, slots⟩ { g with stack := rest } (.invokevirtual index) mk (Value.ref b :: argsL).toArray X₁ hg hsize hdg hW (X₁.named hnamed) (hpre vm₁ X₁.warmed) with ⟨v, B, X', hpost, hsteps⟩ | ⟨q, B, X', hpost, hsteps⟩
  · exact Or.inl ⟨v, vm₁, B, X₁.warmed, X', hpost, fun target h => hstep₁ _ fun acts => by rw [doInvoke_state]; exact hsteps.trans h⟩
  · exact Or.inr ⟨q, vm₁, B, X₁.warmed, X', hpost, hstep₁ _ fun acts => by rw [doInvoke_state]; exact hsteps⟩
theorem vx_callS (X : Stand p l e R s m args below meth c T locs cells slots) (hexec : p.tables.exec = Jvm.exec) {own : String} {index : Nat} {y : MethodName} {bytes : ByteArray} {maxL : Nat} {ret : Option FieldType}
    (hown : s.vm.findClass own = some m.cls) (hlink : (Cond.methodLink own index y).before args s = true) (hstat : (Cond.static y).before args s = true) (hinit : (Cond.initialized y.cls).before args s = true)
    (hcode : (Cond.code y bytes maxL ret).before args s = true) (hy : y.cls ≠ "java/lang/invoke/MethodHandle" ∧ y.cls ≠ "java/lang/invoke/VarHandle")
    {W9 : Nat} {Pre : Pt → Array Value → Prop} {Post : Pt → Array Value → Option Value → Pt → Prop} {PostX : Pt → Array Value → Addr → Pt → Prop} (hK : vx_Back l R p e below s args y 3 W9 Pre Post PostX)
    {g : JFrame} (hg : g.method = m) (hsize : g.locals.size = c.maxLocals) {argsL rest : List Value} (hlen : ∀ sig, parseMethodDescriptor y.desc = some sig → argsL.length = sig.parameters.length)
    (hstack : g.stack = argsL.reverse ++ rest) (hW : 2 * g.monitorRoom + (rest.map fun v => v.category).sum ≤ W9) (hdg : decode c.code g.pc = .ok (.invokestatic index, 3))
    (hpre : ∀ vm₁, s.WarmedH vm₁ → Pre ⟨T.setVm vm₁, locs, cells, slots⟩ argsL.toArray) :
    (∃ (v : Option Value) (vm₁ : Vm) (B : Pt), s.WarmedH vm₁ ∧ Stand p l e R s m args below meth c B.U B.locs B.cells B.slots ∧ Post ⟨T.setVm vm₁, locs, cells, slots⟩ argsL.toArray v B ∧
      ∀ target, Steps p.tables e below (B.U.setTop { g with pc := g.pc + 3, stack := v.toList ++ rest }) target → Steps p.tables e below (T.setTop g) target) ∨
    (∃ (q : Addr) (vm₁ : Vm) (B : Pt), s.WarmedH vm₁ ∧ Stand p l e R s m args below meth c B.U B.locs B.cells B.slots ∧ PostX ⟨T.setVm vm₁, locs, cells, slots⟩ argsL.toArray q B ∧
      Steps p.tables e below (T.setTop g) ((B.U.setTop { g with stack := rest }).pushFrame (.throwing q))) := by
  obtain ⟨mk, hnamed⟩ := Cond.code_named hcode
  obtain ⟨methM, cM, hmethM, -, -, -, -, -, -, hsigM⟩ := Cond.code_spec hnamed hcode
  have hstatic : methM.isStatic = true := Cond.static_spec hnamed hmethM hstat
  obtain ⟨kP, hkP, -⟩ := className_of_methodNamed hnamed
  have hinitP : kP.init = .initialized := Cond.initialized_spec (findClass_of_methodNamed hnamed) hkP hinit
  obtain ⟨vm₁, X₁, hstep₁⟩ := X.invokestatic hexec hown hlink hnamed hmethM hstatic hkP hinitP hy (g := g) hg (argsL := argsL) (rest := rest) (hlen _ hsigM) hstack hdg
  rcases hK m meth c ⟨T.setVm vm₁, locs, cells, slots⟩ { g with stack := rest } (.invokestatic index) mk argsL.toArray X₁ hg hsize hdg hW (X₁.named hnamed) (hpre vm₁ X₁.warmed) with ⟨v, B, X', hpost, hsteps⟩ | ⟨q, B, X', hpost, hsteps⟩
  · exact Or.inl ⟨v, vm₁, B, X₁.warmed, X', hpost, fun target h => hstep₁ _ fun acts => by rw [doInvoke_state]; exact hsteps.trans h⟩
  · exact Or.inr ⟨q, vm₁, B, X₁.warmed, X', hpost, hstep₁ _ fun acts => by rw [doInvoke_state]; exact hsteps⟩
end Calls
theorem vx_cls {s : State} {T : State} {vm₁ : Vm} {E : String} {k : ClassId} (hW : s.WarmedH vm₁) (h : (T.setVm vm₁).vm.findClass E = some k) : s.vm.findClass E = some k := by
  have h1 : vm₁.findClass E = some k := h
  rw [hW.alike.findClass] at h1
  exact h1
/-- the method's frame g, with q thrown over it -/
def vx_W (p : Program) (l : Launch) (e : Env) (R : Room) (s : State) (m : MethodId) (args : Array Value) (below : List Frame) (meth : Method) (c : Code) (H : Heap) (locs : List Loc) (cells slots : Nat) (Q : State → Prop) (g : JFrame) (q : Addr) : Prop :=
  ∀ T : State, T.heap = H → Stand p l e R s m args below meth c T locs cells slots → ∃ t, Steps p.tables e below ((T.setTop g).pushFrame (.throwing q)) t ∧ Q t
def vx_Run (p : Program) (l : Launch) (e : Env) (R : Room) (s : State) (m : MethodId) (args : Array Value) (below : List Frame) (meth : Method) (c : Code) (H : Heap) (locs : List Loc) (cells slots mc ms : Nat) (g : JFrame) (rest : List Value) (Qa : State → Outcome → State → Prop) (XC : String → State → State → Prop) (free : Addr → Prop) : Prop :=
  ∀ T : State, T.heap = H → Stand p l e R s m args below meth c T locs cells slots →
    (∃ (v : Option Value) (st₀ t T' : State) (L : List Loc), st₀.heap = H ∧ Stand p l e R s m args below meth c T' (locs ++ L) (cells + mc) (slots + ms) ∧ (∀ q ∈ L, free q.base) ∧ T'.heap = t.heap ∧ T'.vm = t.vm ∧ Qa st₀ (.returned v) t ∧
      Goes p e below T g T' { g with pc := g.pc + 3, stack := v.toList ++ rest }) ∨
    (∃ (q : Addr) (st₀ t T' : State) (L : List Loc) (E : String) (ce : Cell), st₀.heap = H ∧ Stand p l e R s m args below meth c T' (locs ++ L) (cells + mc) (slots + ms) ∧ (∀ z ∈ L, free z.base) ∧ T'.heap = t.heap ∧ T'.vm = t.vm ∧ XC E st₀ t ∧ t.heap[q]? = some ce ∧ ce.vm = .none ∧ s.vm.findClass E = some ce.cls ∧
      Steps p.tables e below (T.setTop g) ((T'.setTop { g with stack := rest }).pushFrame (.throwing q)))
def vx_X {S : Type} (px : S → Prop) (B : String → S → State → Prop) (A : Nat → Prop) : String → State → State → Prop := fun E st t => ∃ u : S, px u ∧ B E u t ∧ va_F A st t
section Runs
variable {p : Program} {l : Launch} {e : Env} {R : Room} {s : State} {m : MethodId} {args : Array Value} {below : List Frame} {meth : Method} {c : Code} {H : Heap} {locs : List Loc} {cells slots : Nat}
variable {y : MethodName} {bytes cc : ByteArray} {maxL nL mc ms n index : Nat} {ret : Option FieldType} {ws : List Cond} {rm : Room} {Pc : Array Value → State → Prop} {Qc : Array Value → State → Outcome → State → Prop} {XC : String → State → State → Prop} {free : Addr → Prop} {Ts : List Cond} {own C : String} {b : Addr} {As rest : List Value} {g : JFrame}
theorem vx_callBack (cb : CallB R s args own index y bytes maxL ret ws rm mc ms n) (hM : vx_Met l y ws rm Pc Qc XC mc ms free) (hbl : FrameBlind Pc) : vx_Back l R p e below s args y 3 8 (PreOf R mc ms Pc) (PostOf Qc mc ms free) (vx_Post XC mc ms free) := by
  obtain ⟨hrc, hrs, hfr, hlo, hws, hcw, -, hini, -⟩ := cb
  exact vx_back (bytes := bytes) (maxL := maxL) (ret := ret) hM hbl hrc hrs hfr hlo hws hcw (fun a' U hW => word_at hW (Or.inl (by first | rfl | simp [Cond.onTables, Cond.keeps, Cond.steady])) hini)
theorem vx_runV (S : CallFix p m c cc nL s args Ts own) (hM : vx_Met l y ws rm Pc Qc XC mc ms free) (cw : CallW R s args own C index y bytes maxL ret ws rm mc ms n) (hp : PreV s H C b Pc As)
    (hg : g.method = m) (hn : As.length = n) (hsize : g.locals.size = nL) (hstack : g.stack = As.reverse ++ .ref b :: rest) (hW : 2 * g.monitorRoom + (rest.map fun v => v.category).sum ≤ 8) (hdg : decode cc g.pc = .ok (.invokevirtual index, 3)) (hf : cells + mc ≤ R.cells ∧ slots + ms ≤ R.slots) :
    vx_Run p l e R s m args below meth c H locs cells slots mc ms g rest (Qc (Value.ref b :: As).toArray) XC free := by
  have hK : vx_Back l R p e below s args y 3 8 (PreOf R mc ms Pc) (PostOf Qc mc ms free) (vx_Post XC mc ms free) := vx_callBack cw.1 hM hp.1
  obtain ⟨⟨-, -, -, -, -, -, hcode, -, hy, hlen, hl⟩, hin, hse⟩ := cw
  obtain ⟨hx, hb, hml, ho, -⟩ := S
  obtain ⟨-, ⟨cellB, hcB, hoB, hclB⟩, hPc⟩ := hp
  intro T hT X
  rcases vx_callV X hx (C := C) (bytes := bytes) (maxL := maxL) (ret := ret) ho hl hin hse hcode hy hK (by rw [hT]; exact hcB) hoB hclB hg (hsize.trans hml.symm) (argsL := As) (rest := rest) (fun sig h => hn.trans (hlen sig h)) hstack hW (by rw [hb]; exact hdg)
    (fun vm₁ hW₁ => ⟨hf.1, hf.2, hPc (T.setVm vm₁) hT hW₁⟩) with ⟨v, vm₁, ⟨U', l2, c2, s2⟩, hW₁, X', ⟨g', mk, t, L, e1, e2, hq, h1, hL, h2, h3⟩, st⟩ | ⟨q, vm₁, ⟨U', l2, c2, s2⟩, hW₁, X', ⟨g', mk, t, L, E, ce, e1, e2, hq, hce, hcv, hcl, h1, hL, h2, h3⟩, st⟩
  · dsimp only [Pt.U, Pt.locs, Pt.cells, Pt.slots] at X' e1 e2 h1 h2 h3 st
    subst h1; subst h2; subst h3
    exact Or.inl ⟨v, (T.setVm vm₁).calling g' mk (Value.ref b :: As).toArray, t, U', L, hT, X', hL, e1, e2, hq, st⟩
  · dsimp only [Pt.U, Pt.locs, Pt.cells, Pt.slots] at X' e1 e2 h1 h2 h3 st hcl
    subst h1; subst h2; subst h3
    exact Or.inr ⟨q, (T.setVm vm₁).calling g' mk (Value.ref b :: As).toArray, t, U', L, E, ce, hT, X', hL, e1, e2, hq, hce, hcv, vx_cls hW₁ hcl, st⟩
theorem vx_runS (S : CallFix p m c cc nL s args Ts own) (hM : vx_Met l y ws rm Pc Qc XC mc ms free) (cw : CallB R s args own index y bytes maxL ret ws rm mc ms n ∧ (Cond.static y).before args s = true) (hp : PreS s H Pc As)
    (hg : g.method = m) (hn : As.length = n) (hsize : g.locals.size = nL) (hstack : g.stack = As.reverse ++ rest) (hW : 2 * g.monitorRoom + (rest.map fun v => v.category).sum ≤ 8) (hdg : decode cc g.pc = .ok (.invokestatic index, 3)) (hf : cells + mc ≤ R.cells ∧ slots + ms ≤ R.slots) :
    vx_Run p l e R s m args below meth c H locs cells slots mc ms g rest (Qc As.toArray) XC free := by
  have hK : vx_Back l R p e below s args y 3 8 (PreOf R mc ms Pc) (PostOf Qc mc ms free) (vx_Post XC mc ms free) := vx_callBack cw.1 hM hp.1
  obtain ⟨⟨-, -, -, -, -, -, hcode, hini, hy, hlen, hl⟩, hstt⟩ := cw
  obtain ⟨hx, hb, hml, ho, -⟩ := S
  intro T hT X
  rcases vx_callS X hx (bytes := bytes) (maxL := maxL) (ret := ret) ho hl hstt hini hcode hy hK hg (hsize.trans hml.symm) (argsL := As) (rest := rest) (fun sig h => hn.trans (hlen sig h)) hstack hW (by rw [hb]; exact hdg)
    (fun vm₁ hW₁ => ⟨hf.1, hf.2, hp.2 (T.setVm vm₁) hT hW₁⟩) with ⟨v, vm₁, ⟨U', l2, c2, s2⟩, hW₁, X', ⟨g', mk, t, L, e1, e2, hq, h1, hL, h2, h3⟩, st⟩ | ⟨q, vm₁, ⟨U', l2, c2, s2⟩, hW₁, X', ⟨g', mk, t, L, E, ce, e1, e2, hq, hce, hcv, hcl, h1, hL, h2, h3⟩, st⟩
  · dsimp only [Pt.U, Pt.locs, Pt.cells, Pt.slots] at X' e1 e2 h1 h2 h3 st
    subst h1; subst h2; subst h3
    exact Or.inl ⟨v, (T.setVm vm₁).calling g' mk As.toArray, t, U', L, hT, X', hL, e1, e2, hq, st⟩
  · dsimp only [Pt.U, Pt.locs, Pt.cells, Pt.slots] at X' e1 e2 h1 h2 h3 st hcl
    subst h1; subst h2; subst h3
    exact Or.inr ⟨q, (T.setVm vm₁).calling g' mk As.toArray, t, U', L, E, ce, hT, X', hL, e1, e2, hq, hce, hcv, vx_cls hW₁ hcl, st⟩
end Runs
section Rows
variable {p : Program} {l : Launch} {e : Env} {R : Room} {s : State} {m : MethodId} {args : Array Value} {below : List Frame} {meth : Method} {c : Code} {H : Heap} {locs : List Loc} {cells slots : Nat} {Q : State → Prop}
variable {mc ms : Nat} {free : Addr → Prop} {A0 A1 : Nat → Prop} {H0 : Heap} {a : Array Value} {pc : Nat} {ls : Array Slot} {st0 rest : List Value}
theorem vx_keep {st₀ t T' : State} {L : List Loc} (h0 : st₀.heap = H) (e1 : T'.heap = t.heap) (hS : va_S A0 H0 H locs) (hA : ∀ q, q < H.size → A1 q → A0 q) (hf : ∀ q, free q → A0 q) (hL : ∀ q ∈ L, free q.base) (hF : va_F A1 st₀ t) :
    H.size ≤ T'.heap.size ∧ (∀ q : Nat, q < H.size → ¬ A1 q → T'.heap[q]? = H[q]?) ∧ va_S A0 H0 T'.heap (locs ++ L) := by
  obtain ⟨hz, hk⟩ := hF
  rw [h0] at hz hk
  exact ⟨by rw [e1]; exact hz, fun q h1 h2 => by rw [e1]; exact hk q h1 h2,
    ⟨Nat.le_trans hS.1 (by rw [e1]; exact hz), fun q h1 h2 => by rw [e1, hk q (Nat.lt_of_lt_of_le h1 hS.1) (fun z => h2 (hA q (Nat.lt_of_lt_of_le h1 hS.1) z))]; exact hS.2.1 q h1 h2, fun q hq => by
      rcases List.mem_append.mp hq with h | h
      · exact hS.2.2 q h
      · exact hf _ (hL q h)⟩⟩
theorem vx_calli {S SX : Type} {post : Int32 → S → Prop} {px : SX → Prop} {B : S → State → Prop} {BX : String → SX → State → Prop} {AX : Nat → Prop} (hr : vx_Run p l e R s m args below meth c H locs cells slots mc ms (F0 m pc ls st0) rest (va_Qi post B A1 a) (vx_X px BX AX) free) (hS : va_S A0 H0 H locs) (hA : ∀ q, q < H.size → A1 q → A0 q) (hf : ∀ q, free q → A0 q) (hAX : ∀ q, q < H.size → AX q → A0 q)
    (kx : ∀ (E : String) (ce : Cell) (q9 : Addr) (u : SX) (t : State) (H1 : Heap) (locs1 : List Loc), t.heap = H1 → s.vm.Alike t.vm → px u → BX E u t → H.size ≤ H1.size → (∀ q : Nat, q < H.size → ¬ AX q → H1[q]? = H[q]?) → va_S A0 H0 H1 locs1 → H1[q9]? = some ce → ce.vm = .none → s.vm.findClass E = some ce.cls → vx_W p l e R s m args below meth c H1 locs1 (cells + mc) (slots + ms) Q (F0 m pc ls rest) q9)
    (kk : ∀ (r : Int32) (u : S) (t : State) (H1 : Heap) (locs1 : List Loc), t.heap = H1 → s.vm.Alike t.vm → post r u → B u t → H.size ≤ H1.size → (∀ q : Nat, q < H.size → ¬ A1 q → H1[q]? = H[q]?) → va_S A0 H0 H1 locs1 → W p l e R s m args below meth c H1 locs1 (cells + mc) (slots + ms) Q (F0 m (pc + 3) ls (.int r :: rest))) : W p l e R s m args below meth c H locs cells slots Q (F0 m pc ls st0) := by
  intro T hT X
  rcases hr T hT X with ⟨v, st₀, t, T', L, h0, X', hL, e1, e2, ⟨⟨r, u, hv, hp, hb⟩, hF⟩, st⟩ | ⟨q, st₀, t, T', L, E, ce, h0, X', hL, e1, e2, ⟨u, hp, hb, hF⟩, hce, hcv, hcl, st⟩
  · cases hv
    obtain ⟨k1, k2, k3⟩ := vx_keep h0 e1 hS hA hf hL hF
    obtain ⟨t2, a1, b1⟩ := kk r u t T'.heap (locs ++ L) e1.symm (by rw [← e2]; exact X'.warmed.alike) hp hb k1 k2 k3 T' rfl X'
    exact ⟨t2, st t2 a1, b1⟩
  · obtain ⟨k1, k2, k3⟩ := vx_keep h0 e1 hS hAX hf hL hF
    obtain ⟨t2, a1, b1⟩ := kx E ce q u t T'.heap (locs ++ L) e1.symm (by rw [← e2]; exact X'.warmed.alike) hp hb k1 k2 k3 (by rw [e1]; exact hce) hcv hcl T' rfl X'
    exact ⟨t2, st.trans a1, b1⟩
theorem vx_calll {S SX : Type} {post : Int64 → S → Prop} {px : SX → Prop} {B : S → State → Prop} {BX : String → SX → State → Prop} {AX : Nat → Prop} (hr : vx_Run p l e R s m args below meth c H locs cells slots mc ms (F0 m pc ls st0) rest (va_Ql post B A1 a) (vx_X px BX AX) free) (hS : va_S A0 H0 H locs) (hA : ∀ q, q < H.size → A1 q → A0 q) (hf : ∀ q, free q → A0 q) (hAX : ∀ q, q < H.size → AX q → A0 q)
    (kx : ∀ (E : String) (ce : Cell) (q9 : Addr) (u : SX) (t : State) (H1 : Heap) (locs1 : List Loc), t.heap = H1 → s.vm.Alike t.vm → px u → BX E u t → H.size ≤ H1.size → (∀ q : Nat, q < H.size → ¬ AX q → H1[q]? = H[q]?) → va_S A0 H0 H1 locs1 → H1[q9]? = some ce → ce.vm = .none → s.vm.findClass E = some ce.cls → vx_W p l e R s m args below meth c H1 locs1 (cells + mc) (slots + ms) Q (F0 m pc ls rest) q9)
    (kk : ∀ (r : Int64) (u : S) (t : State) (H1 : Heap) (locs1 : List Loc), t.heap = H1 → s.vm.Alike t.vm → post r u → B u t → H.size ≤ H1.size → (∀ q : Nat, q < H.size → ¬ A1 q → H1[q]? = H[q]?) → va_S A0 H0 H1 locs1 → W p l e R s m args below meth c H1 locs1 (cells + mc) (slots + ms) Q (F0 m (pc + 3) ls (.long r :: rest))) : W p l e R s m args below meth c H locs cells slots Q (F0 m pc ls st0) := by
  intro T hT X
  rcases hr T hT X with ⟨v, st₀, t, T', L, h0, X', hL, e1, e2, ⟨⟨r, u, hv, hp, hb⟩, hF⟩, st⟩ | ⟨q, st₀, t, T', L, E, ce, h0, X', hL, e1, e2, ⟨u, hp, hb, hF⟩, hce, hcv, hcl, st⟩
  · cases hv
    obtain ⟨k1, k2, k3⟩ := vx_keep h0 e1 hS hA hf hL hF
    obtain ⟨t2, a1, b1⟩ := kk r u t T'.heap (locs ++ L) e1.symm (by rw [← e2]; exact X'.warmed.alike) hp hb k1 k2 k3 T' rfl X'
    exact ⟨t2, st t2 a1, b1⟩
  · obtain ⟨k1, k2, k3⟩ := vx_keep h0 e1 hS hAX hf hL hF
    obtain ⟨t2, a1, b1⟩ := kx E ce q u t T'.heap (locs ++ L) e1.symm (by rw [← e2]; exact X'.warmed.alike) hp hb k1 k2 k3 (by rw [e1]; exact hce) hcv hcl T' rfl X'
    exact ⟨t2, st.trans a1, b1⟩
theorem vx_callf {S SX : Type} {post : UInt32 → S → Prop} {px : SX → Prop} {B : S → State → Prop} {BX : String → SX → State → Prop} {AX : Nat → Prop} (hr : vx_Run p l e R s m args below meth c H locs cells slots mc ms (F0 m pc ls st0) rest (va_Qf post B A1 a) (vx_X px BX AX) free) (hS : va_S A0 H0 H locs) (hA : ∀ q, q < H.size → A1 q → A0 q) (hf : ∀ q, free q → A0 q) (hAX : ∀ q, q < H.size → AX q → A0 q)
    (kx : ∀ (E : String) (ce : Cell) (q9 : Addr) (u : SX) (t : State) (H1 : Heap) (locs1 : List Loc), t.heap = H1 → s.vm.Alike t.vm → px u → BX E u t → H.size ≤ H1.size → (∀ q : Nat, q < H.size → ¬ AX q → H1[q]? = H[q]?) → va_S A0 H0 H1 locs1 → H1[q9]? = some ce → ce.vm = .none → s.vm.findClass E = some ce.cls → vx_W p l e R s m args below meth c H1 locs1 (cells + mc) (slots + ms) Q (F0 m pc ls rest) q9)
    (kk : ∀ (r : UInt32) (u : S) (t : State) (H1 : Heap) (locs1 : List Loc), t.heap = H1 → s.vm.Alike t.vm → post r u → B u t → H.size ≤ H1.size → (∀ q : Nat, q < H.size → ¬ A1 q → H1[q]? = H[q]?) → va_S A0 H0 H1 locs1 → W p l e R s m args below meth c H1 locs1 (cells + mc) (slots + ms) Q (F0 m (pc + 3) ls (.float r :: rest))) : W p l e R s m args below meth c H locs cells slots Q (F0 m pc ls st0) := by
  intro T hT X
  rcases hr T hT X with ⟨v, st₀, t, T', L, h0, X', hL, e1, e2, ⟨⟨r, u, hv, hp, hb⟩, hF⟩, st⟩ | ⟨q, st₀, t, T', L, E, ce, h0, X', hL, e1, e2, ⟨u, hp, hb, hF⟩, hce, hcv, hcl, st⟩
  · cases hv
    obtain ⟨k1, k2, k3⟩ := vx_keep h0 e1 hS hA hf hL hF
    obtain ⟨t2, a1, b1⟩ := kk r u t T'.heap (locs ++ L) e1.symm (by rw [← e2]; exact X'.warmed.alike) hp hb k1 k2 k3 T' rfl X'
    exact ⟨t2, st t2 a1, b1⟩
  · obtain ⟨k1, k2, k3⟩ := vx_keep h0 e1 hS hAX hf hL hF
    obtain ⟨t2, a1, b1⟩ := kx E ce q u t T'.heap (locs ++ L) e1.symm (by rw [← e2]; exact X'.warmed.alike) hp hb k1 k2 k3 (by rw [e1]; exact hce) hcv hcl T' rfl X'
    exact ⟨t2, st.trans a1, b1⟩
theorem vx_calld {S SX : Type} {post : UInt64 → S → Prop} {px : SX → Prop} {B : S → State → Prop} {BX : String → SX → State → Prop} {AX : Nat → Prop} (hr : vx_Run p l e R s m args below meth c H locs cells slots mc ms (F0 m pc ls st0) rest (va_Qd post B A1 a) (vx_X px BX AX) free) (hS : va_S A0 H0 H locs) (hA : ∀ q, q < H.size → A1 q → A0 q) (hf : ∀ q, free q → A0 q) (hAX : ∀ q, q < H.size → AX q → A0 q)
    (kx : ∀ (E : String) (ce : Cell) (q9 : Addr) (u : SX) (t : State) (H1 : Heap) (locs1 : List Loc), t.heap = H1 → s.vm.Alike t.vm → px u → BX E u t → H.size ≤ H1.size → (∀ q : Nat, q < H.size → ¬ AX q → H1[q]? = H[q]?) → va_S A0 H0 H1 locs1 → H1[q9]? = some ce → ce.vm = .none → s.vm.findClass E = some ce.cls → vx_W p l e R s m args below meth c H1 locs1 (cells + mc) (slots + ms) Q (F0 m pc ls rest) q9)
    (kk : ∀ (r : UInt64) (u : S) (t : State) (H1 : Heap) (locs1 : List Loc), t.heap = H1 → s.vm.Alike t.vm → post r u → B u t → H.size ≤ H1.size → (∀ q : Nat, q < H.size → ¬ A1 q → H1[q]? = H[q]?) → va_S A0 H0 H1 locs1 → W p l e R s m args below meth c H1 locs1 (cells + mc) (slots + ms) Q (F0 m (pc + 3) ls (.double r :: rest))) : W p l e R s m args below meth c H locs cells slots Q (F0 m pc ls st0) := by
  intro T hT X
  rcases hr T hT X with ⟨v, st₀, t, T', L, h0, X', hL, e1, e2, ⟨⟨r, u, hv, hp, hb⟩, hF⟩, st⟩ | ⟨q, st₀, t, T', L, E, ce, h0, X', hL, e1, e2, ⟨u, hp, hb, hF⟩, hce, hcv, hcl, st⟩
  · cases hv
    obtain ⟨k1, k2, k3⟩ := vx_keep h0 e1 hS hA hf hL hF
    obtain ⟨t2, a1, b1⟩ := kk r u t T'.heap (locs ++ L) e1.symm (by rw [← e2]; exact X'.warmed.alike) hp hb k1 k2 k3 T' rfl X'
    exact ⟨t2, st t2 a1, b1⟩
  · obtain ⟨k1, k2, k3⟩ := vx_keep h0 e1 hS hAX hf hL hF
    obtain ⟨t2, a1, b1⟩ := kx E ce q u t T'.heap (locs ++ L) e1.symm (by rw [← e2]; exact X'.warmed.alike) hp hb k1 k2 k3 (by rw [e1]; exact hce) hcv hcl T' rfl X'
    exact ⟨t2, st.trans a1, b1⟩
theorem vx_callv {S SX : Type} {post : S → Prop} {px : SX → Prop} {B : S → State → Prop} {BX : String → SX → State → Prop} {AX : Nat → Prop} (hr : vx_Run p l e R s m args below meth c H locs cells slots mc ms (F0 m pc ls st0) rest (va_Qv post B A1 a) (vx_X px BX AX) free) (hS : va_S A0 H0 H locs) (hA : ∀ q, q < H.size → A1 q → A0 q) (hf : ∀ q, free q → A0 q) (hAX : ∀ q, q < H.size → AX q → A0 q)
    (kx : ∀ (E : String) (ce : Cell) (q9 : Addr) (u : SX) (t : State) (H1 : Heap) (locs1 : List Loc), t.heap = H1 → s.vm.Alike t.vm → px u → BX E u t → H.size ≤ H1.size → (∀ q : Nat, q < H.size → ¬ AX q → H1[q]? = H[q]?) → va_S A0 H0 H1 locs1 → H1[q9]? = some ce → ce.vm = .none → s.vm.findClass E = some ce.cls → vx_W p l e R s m args below meth c H1 locs1 (cells + mc) (slots + ms) Q (F0 m pc ls rest) q9)
    (kk : ∀ (u : S) (t : State) (H1 : Heap) (locs1 : List Loc), t.heap = H1 → s.vm.Alike t.vm → post u → B u t → H.size ≤ H1.size → (∀ q : Nat, q < H.size → ¬ A1 q → H1[q]? = H[q]?) → va_S A0 H0 H1 locs1 → W p l e R s m args below meth c H1 locs1 (cells + mc) (slots + ms) Q (F0 m (pc + 3) ls (rest))) : W p l e R s m args below meth c H locs cells slots Q (F0 m pc ls st0) := by
  intro T hT X
  rcases hr T hT X with ⟨v, st₀, t, T', L, h0, X', hL, e1, e2, ⟨⟨u, hv, hp, hb⟩, hF⟩, st⟩ | ⟨q, st₀, t, T', L, E, ce, h0, X', hL, e1, e2, ⟨u, hp, hb, hF⟩, hce, hcv, hcl, st⟩
  · cases hv
    obtain ⟨k1, k2, k3⟩ := vx_keep h0 e1 hS hA hf hL hF
    obtain ⟨t2, a1, b1⟩ := kk u t T'.heap (locs ++ L) e1.symm (by rw [← e2]; exact X'.warmed.alike) hp hb k1 k2 k3 T' rfl X'
    exact ⟨t2, st t2 a1, b1⟩
  · obtain ⟨k1, k2, k3⟩ := vx_keep h0 e1 hS hAX hf hL hF
    obtain ⟨t2, a1, b1⟩ := kx E ce q u t T'.heap (locs ++ L) e1.symm (by rw [← e2]; exact X'.warmed.alike) hp hb k1 k2 k3 (by rw [e1]; exact hce) hcv hcl T' rfl X'
    exact ⟨t2, st.trans a1, b1⟩
/-- caught by the row x of this method's table; the rows ahead don't take it -/
theorem vx_catch {own name : String} {E : String} {ce : Cell} {q : Addr} (hown : s.vm.findClass own = some m.cls) (pre : List ExceptionTableEntry) (x : ExceptionTableEntry) (suf : List ExceptionTableEntry) (hsplit : c.exceptionTable.toList = pre ++ x :: suf)
    (hpass : ∀ z ∈ pre, covers z pc = false ∨ (z.catchType ≠ 0 ∧ ∃ nm : String, (Cond.classLink own z.catchType nm).before args s = true ∧ va_Nc E nm s)) (hx : covers x pc = true) (h0 : x.catchType ≠ 0)
    (hlink : (Cond.classLink own x.catchType name).before args s = true) (hcast : (Cond.castable E name).before args s = true) (hcell : H[q]? = some ce) (hv : ce.vm = .none) (hcl : s.vm.findClass E = some ce.cls)
    (kk : W p l e R s m args below meth c H locs cells slots Q (F0 m x.handlerPc ls [.ref q])) : vx_W p l e R s m args below meth c H locs cells slots Q (F0 m pc ls rest) q := by
  intro T hT X
  have hpl : e.platform.magicAccessors = ({} : Platform).magicAccessors := by rw [X.admits.platform]
  obtain ⟨c3, c4, hc3, hc4, hasg⟩ := Cond.castable_spec hcast
  cases Option.some.inj (hc3.symm.trans hcl)
  obtain ⟨c5, hc5, hcl5⟩ := Cond.classLink_spec hown hlink e.platform hpl
  cases Option.some.inj (hc4.symm.trans hc5)
  obtain ⟨vm', X', st⟩ := X.thenCaughtThrough q (g := F0 m pc ls rest) rfl (Steps.refl _) (by rw [hT]; exact hcell) (by rw [hv]; rfl) (by obtain ⟨k9, h9, -⟩ := Vm.findClass_spec hcl; exact ⟨k9, h9⟩) pre x suf hsplit
    (fun z hz => by
      rcases hpass z hz with h | ⟨hz0, nm, hl1, hn1⟩
      · exact Or.inl h
      · obtain ⟨c6, hc6, hcl6⟩ := Cond.classLink_spec hown hl1 e.platform hpl
        obtain ⟨a8, b8, h1, h2, h3⟩ := hn1
        cases Option.some.inj (h1.symm.trans hcl)
        cases Option.some.inj (h2.symm.trans hc6)
        exact Or.inr ⟨hz0, _, hcl6, h3⟩) hx (Or.inr ⟨h0, c4, hcl5, hasg⟩)
  obtain ⟨t, a1, b1⟩ := kk (T.setVm vm') hT X'
  exact ⟨t, st.trans a1, b1⟩
end Rows
section Ends
variable {p : Program} {l : Launch} {e : Env} {R : Room} {s : State} {m : MethodId} {args : Array Value} {below : List Frame} {meth : Method} {c : Code} {H : Heap} {locs : List Loc} {cells slots : Nat} {Q : State → Prop}
variable {mc ms : Nat} {free : Addr → Prop} {A0 A1 : Nat → Prop} {H0 : Heap} {a : Array Value} {ls : Array Slot} {st0 rest : List Value}
variable {Qc : Array Value → State → Outcome → State → Prop} {XC : String → State → State → Prop}
/-- what a body that may throw owes at its end -/
def vx_MQ (below : List Frame) (Qc : Array Value → State → Outcome → State → Prop) (XC : String → State → State → Prop) (a : Array Value) (s : State) (mc ms : Nat) (free : Addr → Prop) : State → Prop := fun t =>
  ∃ o, t.status = .running ∧ Ended t below o ∧ vx_Q Qc XC mc ms free a s o t
theorem vx_ret {g : JFrame} {mc ms : Nat} (k : W p l e R s m args below meth c H locs cells slots (MQ below Qc args s mc ms free) g) : W p l e R s m args below meth c H locs cells slots (vx_MQ below Qc XC args s mc ms free) g := by
  intro T hT X
  obtain ⟨t, a1, o, b1, b2, b3, b4⟩ := k T hT X
  exact ⟨t, a1, o, b1, b2, Or.inl ⟨b3, b4⟩⟩
/-- not caught here: it goes on to the caller -/
theorem vx_widen {g : JFrame} {q : Addr} {k n : Nat} (h1 : cells ≤ k) (h2 : slots ≤ n) (kk : vx_W p l e R s m args below meth c H locs k n Q g q) : vx_W p l e R s m args below meth c H locs cells slots Q g q := fun T hT X => kk T hT (stand_widen X h1 h2)
theorem vx_out {pc : Nat} {E : String} {ce : Cell} {q : Addr} {mc ms : Nat} (hout : ∀ x ∈ c.exceptionTable.toList, covers x pc = false) (hlocks : meth.locks = false) (hcell : H[q]? = some ce) (hv : ce.vm = .none) (hcl : s.vm.findClass E = some ce.cls)
    (hx : ∀ t : State, t.heap = H → s.vm.Alike t.vm → XC E s t) (hf : ∀ z ∈ locs, free z.base) (hc : cells ≤ mc) (hs : slots ≤ ms) :
    vx_W p l e R s m args below meth c H locs cells slots (vx_MQ below Qc XC args s mc ms free) (F0 m pc ls rest) q := by
  intro T hT X
  obtain ⟨st1, hrun, hend, hW, hsm⟩ := X.leaveThrown q (g := F0 m pc ls rest) rfl rfl rfl hout hlocks
  have hcell9 : (T.setFrames (.throwing q :: below)).heap[q]? = some ce := by
    show T.heap[q]? = some ce
    rw [hT]; exact hcell
  exact ⟨_, st1, .threw q, hrun, hend, Or.inr ⟨q, rfl, E, ce, locs, hx _ hT hW.alike, hcell9, hv, hcl, hW, hsm.mono hc hs, hf⟩⟩
theorem vx_frame {U : State} {k n : Nat} (h : s.sameButNew ({ U with vm := s.vm } : State) locs k n) : s.heap.size ≤ U.heap.size ∧ ∀ q : Nat, q < s.heap.size → (∀ z ∈ locs, z.base ≠ q) → U.heap[q]? = s.heap[q]? := by
  obtain ⟨-, h2, -, -, -, h6⟩ := h
  refine ⟨h2, fun q hq hz => ?_⟩
  obtain ⟨c9, e1, e2, e3, e4⟩ := h6 q _ (Array.getElem?_eq_getElem hq)
  have hs : c9.slots = (s.heap[q]).slots := Array.ext_getElem? fun i => e4 i fun hm => hz _ hm rfl
  have h9 : c9 = s.heap[q] := by
    rw [hs] at e2
    exact e2
  have e5 : U.heap[q]? = some c9 := e1
  rw [e5, h9, Array.getElem?_eq_getElem hq]
/-- the words of a throw but the four that speak of the heap -/
def vx_no (w : Cond) : Bool := decide (w ≠ .isRef (.static Bundle.tN "UNASSIGNED_STACK" Bundle.steD)) && decide (w ≠ .isRef (.static Bundle.tN "SUPPRESSED_SENTINEL" Bundle.listD)) && decide (w ≠ .laysStatic Bundle.tN "UNASSIGNED_STACK" Bundle.steD) && decide (w ≠ .laysStatic Bundle.tN "SUPPRESSED_SENTINEL" Bundle.listD)
def vx_at0 (own : String) (ic : Nat) (X : String) (names : List String) : List Cond := (Bundle.ownAtoms0 own ic X names).filter vx_no
def vx_atS (own : String) (ic : Nat) (X : String) (names : List String) : List Cond := (Bundle.ownAtoms own ic X names).filter vx_no
/-- a word that the tables alone decide, or a good one -/
def vx_ot (w : Cond) : Bool := w.onTables || goodWord w
theorem vx_ot_at {args a' : Array Value} {s U : State} {w : Cond} (hW : s.WarmedH U.vm) (hvm : s.vm = U.vm) (hg : vx_ot w = true) (h : w.before args s = true) : w.before a' U = true := by
  simp only [vx_ot, Bool.or_eq_true] at hg
  rcases hg with hg | hg
  · exact va_tabs hg hvm h
  · exact word_at hW (good_of_word hg) h
/-- a list's words: the good ones out of the method's own list, the others by premises of their own -/
theorem vx_hat {args : Array Value} {s : State} {L B : List Cond} (h1 : ∀ w ∈ L.filter goodWord, w.before args s = true) (h2 : ∀ w ∈ L.filter (fun w => !goodWord w), w ∈ B) (h3 : ∀ w ∈ B, w.before args s = true) : ∀ w ∈ L, w.before args s = true := by
  intro w hw
  by_cases g : goodWord w = true
  · exact h1 w (List.mem_filter.mpr ⟨hw, g⟩)
  · refine h3 w (h2 w (List.mem_filter.mpr ⟨hw, ?_⟩))
    show (!goodWord w) = true
    cases hgw : goodWord w
    · rfl
    · exact absurd hgw g
theorem vx_c {args : Array Value} {s : State} {w : Cond} {B : List Cond} (h : w.before args s = true) (t : ∀ w ∈ B, w.before args s = true) : ∀ w' ∈ w :: B, w'.before args s = true := fun w' h' => (List.mem_cons.mp h').elim (fun e => by rw [e]; exact h) (t w')
theorem vx_n {args : Array Value} {s : State} : ∀ w ∈ ([] : List Cond), w.before args s = true := fun _ h => nomatch h
theorem vx_own {args : Array Value} {s : State} {L : List Cond} (h1 : ∀ w ∈ L.filter vx_no, w.before args s = true)
    (hU : (Cond.isRef (.static Bundle.tN "UNASSIGNED_STACK" Bundle.steD)).before args s = true) (hN : (Cond.isRef (.static Bundle.tN "SUPPRESSED_SENTINEL" Bundle.listD)).before args s = true)
    (lU : (Cond.laysStatic Bundle.tN "UNASSIGNED_STACK" Bundle.steD).before args s = true) (lN : (Cond.laysStatic Bundle.tN "SUPPRESSED_SENTINEL" Bundle.listD).before args s = true) : ∀ w ∈ L, w.before args s = true := by
  intro w hw
  by_cases e1 : w = .isRef (.static Bundle.tN "UNASSIGNED_STACK" Bundle.steD)
  · rw [e1]; exact hU
  · by_cases e2 : w = .isRef (.static Bundle.tN "SUPPRESSED_SENTINEL" Bundle.listD)
    · rw [e2]; exact hN
    · by_cases e3 : w = .laysStatic Bundle.tN "UNASSIGNED_STACK" Bundle.steD
      · rw [e3]; exact lU
      · by_cases e4 : w = .laysStatic Bundle.tN "SUPPRESSED_SENTINEL" Bundle.listD
        · rw [e4]; exact lN
        · exact h1 w (List.mem_filter.mpr ⟨hw, by unfold vx_no; rw [decide_eq_true e1, decide_eq_true e2, decide_eq_true e3, decide_eq_true e4]; rfl⟩)
/-- where a static field lies, its class's statics cell in H -/
def vx_L (C n d : String) (A : Nat → Prop) (U : State) (H : Heap) : Prop := ∃ (c : ClassId) (k : Class) (i : Nat) (f : Field) (a : Nat) (cell : Cell), U.vm.findClass C = some c ∧ U.fieldFound? C n d = some (c, k, i, f) ∧ f.isStatic = true ∧ k.statics = some a ∧ H[a]? = some cell ∧ cell.vm.isStatics = true ∧ cell.cls = c ∧ f.slot < cell.slots.size ∧ k.staticTypes[f.slot]? = some f.type ∧ ¬ A a
theorem vx_L.moved {C n d : String} {A : Nat → Prop} {u U : State} {H : Heap} (hvm : u.vm.Alike U.vm) (h : vx_L C n d A u H) : vx_L C n d A U H := by
  obtain ⟨c, k, i, f, a, cell, h1, h2, h3, h4, h5, h6, h7, h8, h9, h10⟩ := h
  obtain ⟨k', hi', he⟩ := State.fieldFound?_setVm hvm h2
  exact ⟨c, k', i, f, a, cell, by rw [hvm.findClass]; exact h1, hi', h3, by rw [he]; exact h4, h5, h6, h7, h8, by rw [he]; exact h9, h10⟩
theorem vx_L.kept {C n d : String} {A : Nat → Prop} {U : State} {H H1 : Heap} (h : vx_L C n d A U H) (hq : ∀ a : Nat, a < H.size → ¬ A a → H1[a]? = H[a]?) : vx_L C n d A U H1 := by
  obtain ⟨c, k, i, f, a, cell, h1, h2, h3, h4, h5, h6, h7, h8, h9, h10⟩ := h
  exact ⟨c, k, i, f, a, cell, h1, h2, h3, h4, by rw [hq a (Array.getElem?_eq_some_iff.mp h5).1 h10]; exact h5, h6, h7, h8, h9, h10⟩
theorem vx_L.narrow {C n d : String} {A B : Nat → Prop} {U : State} {H : Heap} (h : vx_L C n d A U H) (hAB : ∀ q, B q → A q) : vx_L C n d B U H := by
  obtain ⟨c, k, i, f, a, cell, h1, h2, h3, h4, h5, h6, h7, h8, h9, h10⟩ := h
  exact ⟨c, k, i, f, a, cell, h1, h2, h3, h4, h5, h6, h7, h8, h9, fun z => h10 (hAB _ z)⟩
theorem vx_L.word {C n d : String} {A : Nat → Prop} {s : State} {args : Array Value} (h : vx_L C n d A s s.heap) : (Cond.laysStatic C n d).before args s = true := by
  obtain ⟨c, k, i, f, a, cell, h1, h2, h3, h4, h5, h6, h7, h8, h9, -⟩ := h
  show (Cond.laysStatic C n d).holds args s none s [] = true
  exact Cond.laysStatic_of h1 h2 h3 h4 h5 h6 h7 h8 h9
/-- .. and what it holds: null or some reference -/
def vx_Zq (C n d : String) (A : Nat → Prop) (U : State) (H : Heap) : Prop := va_Zq C n d A U H ∧ vx_L C n d A U H
theorem vx_Zq.moved {C n d : String} {A : Nat → Prop} {u U : State} {H : Heap} (hvm : u.vm.Alike U.vm) (h : vx_Zq C n d A u H) : vx_Zq C n d A U H := ⟨va_Zq.moved hvm h.1, vx_L.moved hvm h.2⟩
theorem vx_Zq.kept {C n d : String} {A : Nat → Prop} {U : State} {H H1 : Heap} (h : vx_Zq C n d A U H) (hq : ∀ a : Nat, a < H.size → ¬ A a → H1[a]? = H[a]?) : vx_Zq C n d A U H1 := ⟨va_Zq.kept h.1 hq, vx_L.kept h.2 hq⟩
theorem vx_Zq.narrow {C n d : String} {A B : Nat → Prop} {U : State} {H : Heap} (h : vx_Zq C n d A U H) (hAB : ∀ q, B q → A q) : vx_Zq C n d B U H := ⟨va_Zq.narrow h.1 hAB, vx_L.narrow h.2 hAB⟩
theorem vx_Zqof {args : Array Value} {s : State} {C n d : String} {A : Nat → Prop} (hl : (Cond.laysStatic C n d).before args s = true) (hini : (Cond.initialized C).before args s = true) (h : (Cond.isRef (.static C n d)).before args s = true) (hA : ∀ a : Nat, a < s.heap.size → ¬ A a) : vx_Zq C n d A s s.heap := by
  refine ⟨va_Zqof hl hini h hA, ?_⟩
  obtain ⟨c, k, i, f, a, cell, h1, h2, h3, h4, h5, h6, h7, h8, h9⟩ := Cond.laysStatic_spec hl
  exact ⟨c, k, i, f, a, cell, h1, h2, h3, h4, h5, h6, h7, h8, h9, hA a (Array.getElem?_eq_some_iff.mp h5).1⟩
theorem vx_isRef {C n d : String} {v : Value} {A : Nat → Prop} {s : State} {args : Array Value} (h : va_Z C n d v A s s.heap) (hv : v.isRef = true) : (Cond.isRef (.static C n d)).before args s = true := by
  obtain ⟨cf, kf, fi, f, a, cell, h1, h2, h3, h4, h5, h6, h7, -⟩ := h
  have he : (Term.static C n d).eval args s none [] s = some v := by
    simp [Term.eval, State.fieldNamed?, h1, h2, h4, h5, h6, h7]
  simp only [Cond.before, Cond.holds, Cond.value, he]
  cases v <;> simp_all [Value.isRef]
theorem vx_isRefq {C n d : String} {A : Nat → Prop} {s : State} {args : Array Value} (h : va_Zq C n d A s s.heap) : (Cond.isRef (.static C n d)).before args s = true := by
  rcases h with h | ⟨t, h⟩
  · exact vx_isRef h rfl
  · exact vx_isRef h rfl
/-- the same frame, seen from here: as if the method were called anew in this heap -/
theorem vx_rebase {T : State} (X : Stand p l e R s m args below meth c T locs cells slots) {R' : Room} (hf : R'.frames ≤ R.frames) (hl : R'.locals ≤ R.locals) (hc : cells + R'.cells ≤ R.cells) (hs : slots + R'.slots ≤ R.slots) :
    Stand p l e R' ((T.setVm s.vm).setFrames (.invoking m args :: below)) m args below meth c T [] 0 0 := by
  have htop : (T.setVm s.vm).topJava?.isSome := X.here.top
  have hF : ((T.setVm s.vm).setFrames (.invoking m args :: below)).frames = .invoking m args :: below := State.frames_setFrames _ (State.cur_lt_of_top htop)
  obtain ⟨g₀, hg0⟩ := Option.isSome_iff_exists.mp htop
  obtain ⟨r, hr⟩ := State.topJava?_eq_some.mp hg0
  have hl9 : e.platform.stackLimits (T.setVm s.vm).me = e.platform.stackLimits s.me := X.limits
  have hb9 : (T.setVm s.vm).me.stackBytes = s.me.stackBytes := X.bytes
  refine ⟨X.admits, X.cas, X.clock, hF, ?_, X.hears, X.method, X.code, X.here, X.tail, X.warmed, ?_, ?_, ?_⟩
  · have h := X.room
    have hU : ((T.setVm s.vm).setFrames (.invoking m args :: below)).localsInUse = s.localsInUse := by
      rw [State.localsInUse_invoking hF (meth := meth) (c := c) X.method X.code, State.localsInUse_invoking X.frames X.method X.code]
    simp only [State.hasRoom, Bool.and_eq_true, decide_eq_true_eq] at h ⊢
    obtain ⟨⟨⟨⟨h1, h2, h3, h4, h5, h6⟩, h7⟩, h8⟩, h9⟩ := h
    rw [X.frames, List.length_cons] at h2 h3
    have q1 := X.heapSize
    have q2 := X.used
    simp only [hF, hU, List.length_cons, State.stackLimits_setFrames, State.stackBytes_setFrames, hl9, hb9]
    refine ⟨⟨⟨⟨by omega, by omega, by omega, by omega, by omega, h6⟩, ?_⟩, ?_⟩, X.book⟩
    · show T.heap.size + R'.cells ≤ e.platform.maxCells
      omega
    · show T.slotsUsed + R'.slots ≤ e.platform.maxSlots
      omega
  · rw [State.stackLimits_setFrames]; rfl
  · rw [State.stackBytes_setFrames]; rfl
  · refine ⟨?_, Nat.le_refl _, Nat.le_refl _, ?_, ?_, fun a c9 h9 => ⟨c9, h9, rfl, rfl, fun _ _ => rfl⟩⟩
    · obtain ⟨t, ht, -⟩ := State.frames_cons hr
      show T.setVm s.vm = { ((T.setVm s.vm).setFrames (.invoking m args :: below)).setFrames (T.setVm s.vm).frames with heap := T.heap, slotsUsed := T.slotsUsed }
      rw [State.setFrames_setFrames, State.setFrames_self ht]
      rfl
    · show T.slotsUsed = T.slotsUsed + ((T.heap.toList.drop T.heap.size).map (·.slots.size)).sum
      rw [List.drop_eq_nil_of_le (Nat.le_of_eq Array.length_toList)]
      rfl
    · show ((T.heap.toList.drop T.heap.size).map (·.slots.size)).sum ≤ 0
      rw [List.drop_eq_nil_of_le (Nat.le_of_eq Array.length_toList)]
      exact Nat.le_refl _
/-- 'throw new E()': new; dup; invokespecial; athrow -/
theorem vx_throw0 {cc : ByteArray} {pc : Nat} (hexec : p.tables.exec = Jvm.exec) (hb : c.code = cc) (hl : l.stackTraces = false) {own cls : String} {names : List String} {ik ic mc ms : Nat} {A : Nat → Prop}
    (hown : s.vm.findClass own = some m.cls) (hcls : Bundle.fit cls = true) (hnames : ∀ n ∈ names, Bundle.fit n = true)
    (hk : (Cond.classLink own ik cls).before args s = true) (hini : (Cond.initialized cls).before args s = true) (hat : ∀ w ∈ vx_at0 own ic cls names, w.before args s = true)
    (hgood : ∀ w ∈ Cond.classLink own ik cls :: Cond.initialized cls :: vx_at0 own ic cls names, vx_ot w = true)
    (hU : vx_Zq Bundle.tN "UNASSIGNED_STACK" Bundle.steD A s s.heap) (hN : vx_Zq Bundle.tN "SUPPRESSED_SENTINEL" Bundle.listD A s s.heap) (hS : va_S A s.heap H locs) (hsize : ls.size = c.maxLocals)
    (d0 : decode cc pc = .ok (.new ik, 3)) (d3 : decode cc (pc + 3) = .ok (.dup, 1)) (d4 : decode cc (pc + 4) = .ok (.invokespecial ic, 3)) (d7 : decode cc (pc + 7) = .ok (.athrow, 1))
    (hout : ∀ x ∈ c.exceptionTable.toList, covers x (pc + 7) = false)
    (hRframes : names.length + 3 < R.frames) (hRlocals : (rest.map fun v => v.category).sum + (13 * (names.length + 1) + 42) ≤ R.locals) (hRcells : cells + 1 ≤ R.cells) (hRslots : slots + 6 ≤ R.slots) (hlocks : meth.locks = false)
    (hx : ∀ t : State, s.vm.Alike t.vm → H.size ≤ t.heap.size → (∀ q : Nat, q < H.size → t.heap[q]? = H[q]?) → XC cls s t)
    (hf : ∀ z ∈ locs, free z.base) (hc : cells + 1 ≤ mc) (hs : slots + 6 ≤ ms) :
    W p l e R s m args below meth c H locs cells slots (vx_MQ below Qc XC args s mc ms free) (F0 m pc ls rest) := by
  intro T hT X
  have htr : e.platform.stackTraces = false := (show e.platform.stackTraces = l.stackTraces by rw [X.admits.platform]).trans hl
  have Y := vx_rebase X (R' := { frames := R.frames, locals := R.locals, cells := 1, slots := 6 }) (Nat.le_refl _) (Nat.le_refl _) hRcells hRslots
  obtain ⟨s', hA⟩ : ∃ z, z = (T.setVm s.vm).setFrames (.invoking m args :: below) := ⟨_, rfl⟩
  rw [← hA] at Y
  have hvm : s'.vm = s.vm := by rw [hA]; rfl
  have hhp : s'.heap = H := by rw [hA]; exact hT
  have hW0 : s.WarmedH s'.vm := by rw [hvm]; exact State.WarmedH.refl s
  have hat' : ∀ w ∈ vx_at0 own ic cls names, w.before args s' = true := fun w hw => vx_ot_at hW0 hvm.symm (hgood w (List.mem_cons_of_mem _ (List.mem_cons_of_mem _ hw))) (hat w hw)
  have hk' : (Cond.classLink own ik cls).before args s' = true := vx_ot_at hW0 hvm.symm (hgood _ List.mem_cons_self) hk
  have hini' : (Cond.initialized cls).before args s' = true := vx_ot_at hW0 hvm.symm (hgood _ (List.mem_cons_of_mem _ List.mem_cons_self)) hini
  have hU' : vx_Zq Bundle.tN "UNASSIGNED_STACK" Bundle.steD A s' s'.heap := by rw [hhp]; exact vx_Zq.moved hW0.alike (hU.kept hS.2.1)
  have hN' : vx_Zq Bundle.tN "SUPPRESSED_SENTINEL" Bundle.listD A s' s'.heap := by rw [hhp]; exact vx_Zq.moved hW0.alike (hN.kept hS.2.1)
  have h : ∀ w ∈ Bundle.ownAtoms0 own ic cls names, w.before args s' = true := vx_own hat' (vx_isRefq hU'.1) (vx_isRefq hN'.1) hU'.2.word hN'.2.word
  have hown' : s'.vm.findClass own = some m.cls := by rw [hvm]; exact hown
  have hins : (Cond.instantiable cls 6).before args s' = true := h _ (by simp [Bundle.ownAtoms0])
  obtain ⟨vm₁, cX, kX, hfX, hkX, -, -, X₁, st1⟩ := Y.newCold hexec (own := own) (C := cls) (index := ik) (n := 6) hown' hk' hins hini'
    (g := F0 m pc ls rest) rfl (by rw [hb]; exact d0) (Nat.le_refl _) (Nat.le_refl _)
  generalize hT1 : (T.setVm vm₁).pushCell { cls := cX, slots := kX.instanceTypes.map defaultValue, vm := .none } = T1 at X₁ st1
  have hcat : (Value.ref T.heap.size).category = 1 := rfl
  have hcellA : T1.heap[T.heap.size]? = some (freshCell cX kX) := by rw [← hT1]; exact State.heap_pushCell_size _ _
  have d3' : decode c.code (pc + 3) = .ok (.dup, 1) := by rw [hb]; exact d3
  obtain ⟨U, hsteps, hrun, hend, hW, hsame, ce, hce, hO⟩ := X₁.ctorThrow0 hexec htr (own := own) (cls := cls) (names := names) (ic := ic) hown' hcls hnames h (fun x hx => nomatch hx) hfX hkX hcellA (by rw [hhp, hT]; exact Nat.le_refl _)
    (g := { method := m, pc := pc + 4, locals := ls, stack := .ref T.heap.size :: .ref T.heap.size :: rest, locked := none }) rfl hsize rfl rfl (rest := rest) rfl
    (by rw [hb]; exact d4) (by rw [hb]; exact d7) hout hRframes (by simp only [List.map_cons, List.sum_cons, hcat]; omega) hlocks
  obtain ⟨f1, f2⟩ := vx_frame hsame
  rw [hhp] at f1 f2
  have hWs : s.WarmedH U.vm := State.WarmedH.trans hW0 hW
  have hcl : s.vm.findClass cls = some ce.cls := by
    have h9 := hO.cls
    rw [hvm] at h9
    exact h9
  have hall : s.sameButNew ({ U with vm := s.vm } : State) locs mc ms := by
    subst hA
    obtain ⟨e1, e2⟩ := hsame
    rw [State.setFrames_setFrames] at e1
    have h2 : (T.setVm s.vm).sameButNew ({ U with vm := s.vm } : State) [] (0 + 1) (0 + 6) := ⟨e1, e2⟩
    have h3 := X.same.trans h2
    rw [List.append_nil] at h3
    exact h3.mono hc hs
  refine ⟨U, ?_, .threw T.heap.size, hrun, hend, Or.inr ⟨T.heap.size, rfl, cls, ce, locs, hx U hWs.alike f1 (fun q hq => f2 q hq (fun z hz => nomatch hz)), hce, hO.vm, hcl, hWs, hall, hf⟩⟩
  refine st1 _ ?_
  show Steps p.tables e below (T1.setTop { method := m, pc := pc + 3, locals := ls, stack := .ref T.heap.size :: rest, locked := none }) _
  jvm_step X₁.here [X₁.here.top, hexec, d3', Value.category]
  exact hsteps
/-- 'throw new E("text")': new; dup; ldc; invokespecial; athrow -/
theorem vx_throwS {cc : ByteArray} {pc : Nat} (hexec : p.tables.exec = Jvm.exec) (hb : c.code = cc) (hl : l.stackTraces = false) {own cls text : String} {names : List String} {ik is ic mc ms sa : Nat} {A : Nat → Prop}
    (hown : s.vm.findClass own = some m.cls) (hcls : Bundle.fit cls = true) (hnames : ∀ n ∈ names, Bundle.fit n = true)
    (hk : (Cond.classLink own ik cls).before args s = true) (hini : (Cond.initialized cls).before args s = true) (hstr : vk_R own is text sa s) (hat : ∀ w ∈ vx_atS own ic cls names, w.before args s = true)
    (hgood : ∀ w ∈ Cond.classLink own ik cls :: Cond.initialized cls :: vx_atS own ic cls names, vx_ot w = true)
    (hU : vx_Zq Bundle.tN "UNASSIGNED_STACK" Bundle.steD A s s.heap) (hN : vx_Zq Bundle.tN "SUPPRESSED_SENTINEL" Bundle.listD A s s.heap) (hS : va_S A s.heap H locs) (hsize : ls.size = c.maxLocals)
    (d0 : decode cc pc = .ok (.new ik, 3)) (d3 : decode cc (pc + 3) = .ok (.dup, 1)) (d4 : decode cc (pc + 4) = .ok (.ldc is, 2)) (d6 : decode cc (pc + 6) = .ok (.invokespecial ic, 3)) (d9 : decode cc (pc + 9) = .ok (.athrow, 1))
    (hout : ∀ x ∈ c.exceptionTable.toList, covers x (pc + 9) = false)
    (hRframes : names.length + 3 < R.frames) (hRlocals : (rest.map fun v => v.category).sum + (13 * (names.length + 1) + 43) ≤ R.locals) (hRcells : cells + 1 ≤ R.cells) (hRslots : slots + 6 ≤ R.slots) (hlocks : meth.locks = false)
    (hx : ∀ t : State, s.vm.Alike t.vm → H.size ≤ t.heap.size → (∀ q : Nat, q < H.size → t.heap[q]? = H[q]?) → XC cls s t)
    (hf : ∀ z ∈ locs, free z.base) (hc : cells + 1 ≤ mc) (hs : slots + 6 ≤ ms) :
    W p l e R s m args below meth c H locs cells slots (vx_MQ below Qc XC args s mc ms free) (F0 m pc ls rest) := by
  intro T hT X
  have htr : e.platform.stackTraces = false := (show e.platform.stackTraces = l.stackTraces by rw [X.admits.platform]).trans hl
  have Y := vx_rebase X (R' := { frames := R.frames, locals := R.locals, cells := 1, slots := 6 }) (Nat.le_refl _) (Nat.le_refl _) hRcells hRslots
  obtain ⟨s', hA⟩ : ∃ z, z = (T.setVm s.vm).setFrames (.invoking m args :: below) := ⟨_, rfl⟩
  rw [← hA] at Y
  have hvm : s'.vm = s.vm := by rw [hA]; rfl
  have hhp : s'.heap = H := by rw [hA]; exact hT
  have hW0 : s.WarmedH s'.vm := by rw [hvm]; exact State.WarmedH.refl s
  have hat' : ∀ w ∈ vx_atS own ic cls names, w.before args s' = true := fun w hw => vx_ot_at hW0 hvm.symm (hgood w (List.mem_cons_of_mem _ (List.mem_cons_of_mem _ hw))) (hat w hw)
  have hk' : (Cond.classLink own ik cls).before args s' = true := vx_ot_at hW0 hvm.symm (hgood _ List.mem_cons_self) hk
  have hini' : (Cond.initialized cls).before args s' = true := vx_ot_at hW0 hvm.symm (hgood _ (List.mem_cons_of_mem _ List.mem_cons_self)) hini
  have hU' : vx_Zq Bundle.tN "UNASSIGNED_STACK" Bundle.steD A s' s'.heap := by rw [hhp]; exact vx_Zq.moved hW0.alike (hU.kept hS.2.1)
  have hN' : vx_Zq Bundle.tN "SUPPRESSED_SENTINEL" Bundle.listD A s' s'.heap := by rw [hhp]; exact vx_Zq.moved hW0.alike (hN.kept hS.2.1)
  have h : ∀ w ∈ Bundle.ownAtoms own ic cls names, w.before args s' = true := vx_own hat' (vx_isRefq hU'.1) (vx_isRefq hN'.1) hU'.2.word hN'.2.word
  have hown' : s'.vm.findClass own = some m.cls := by rw [hvm]; exact hown
  have hins : (Cond.instantiable cls 6).before args s' = true := h _ (by simp [Bundle.ownAtoms])
  obtain ⟨vm₁, cX, kX, hfX, hkX, -, -, X₁, st1⟩ := Y.newCold hexec (own := own) (C := cls) (index := ik) (n := 6) hown' hk' hins hini'
    (g := F0 m pc ls rest) rfl (by rw [hb]; exact d0) (Nat.le_refl _) (Nat.le_refl _)
  generalize hT1 : (T.setVm vm₁).pushCell { cls := cX, slots := kX.instanceTypes.map defaultValue, vm := .none } = T1 at X₁ st1
  have hcat : (Value.ref T.heap.size).category = 1 := rfl
  have hcellA : T1.heap[T.heap.size]? = some (freshCell cX kX) := by rw [← hT1]; exact State.heap_pushCell_size _ _
  have d3' : decode c.code (pc + 3) = .ok (.dup, 1) := by rw [hb]; exact d3
  have d4' : decode c.code (pc + 4) = .ok (.ldc is, 2) := by rw [hb]; exact d4
  have hstr' : vk_R own is text sa s' := vk_R.warm hW0 hstr
  obtain ⟨U, hsteps, hrun, hend, hW, hsame, ce, hce, hO⟩ := X₁.ctorThrowS hexec htr (own := own) (cls := cls) (names := names) (ic := ic) hown' hcls hnames h (fun x hx => nomatch hx) hfX hkX hcellA (by rw [hhp, hT]; exact Nat.le_refl _) (msg := .ref sa) rfl
    (g := { method := m, pc := pc + 6, locals := ls, stack := .ref sa :: .ref T.heap.size :: .ref T.heap.size :: rest, locked := none }) rfl hsize rfl rfl (rest := rest) rfl
    (by rw [hb]; exact d6) (by rw [hb]; exact d9) hout hRframes (by simp only [List.map_cons, List.sum_cons, hcat]; omega) hlocks
  obtain ⟨f1, f2⟩ := vx_frame hsame
  rw [hhp] at f1 f2
  have hWs : s.WarmedH U.vm := State.WarmedH.trans hW0 hW
  have hcl : s.vm.findClass cls = some ce.cls := by
    have h9 := hO.cls
    rw [hvm] at h9
    exact h9
  have hall : s.sameButNew ({ U with vm := s.vm } : State) locs mc ms := by
    subst hA
    obtain ⟨e1, e2⟩ := hsame
    rw [State.setFrames_setFrames] at e1
    have h2 : (T.setVm s.vm).sameButNew ({ U with vm := s.vm } : State) [] (0 + 1) (0 + 6) := ⟨e1, e2⟩
    have h3 := X.same.trans h2
    rw [List.append_nil] at h3
    exact h3.mono hc hs
  refine ⟨U, ?_, .threw T.heap.size, hrun, hend, Or.inr ⟨T.heap.size, rfl, cls, ce, locs, hx U hWs.alike f1 (fun q hq => f2 q hq (fun z hz => nomatch hz)), hce, hO.vm, hcl, hWs, hall, hf⟩⟩
  refine st1 _ ?_
  show Steps p.tables e below (T1.setTop { method := m, pc := pc + 3, locals := ls, stack := .ref T.heap.size :: rest, locked := none }) _
  jvm_step X₁.here [X₁.here.top, hexec, d3', Value.category]
  exact X₁.ldcString hexec (own := own) (text := text) (index := is) (a := sa) hown' hstr'.1 hstr'.2
    (g := { method := m, pc := pc + 4, locals := ls, stack := .ref T.heap.size :: .ref T.heap.size :: rest, locked := none }) rfl d4' _ hsteps
/-- 'throw new E("text")', the text by a wide index -/
theorem vx_throwSW {cc : ByteArray} {pc : Nat} (hexec : p.tables.exec = Jvm.exec) (hb : c.code = cc) (hl : l.stackTraces = false) {own cls text : String} {names : List String} {ik is ic mc ms sa : Nat} {A : Nat → Prop}
    (hown : s.vm.findClass own = some m.cls) (hcls : Bundle.fit cls = true) (hnames : ∀ n ∈ names, Bundle.fit n = true)
    (hk : (Cond.classLink own ik cls).before args s = true) (hini : (Cond.initialized cls).before args s = true) (hstr : vk_R own is text sa s) (hat : ∀ w ∈ vx_atS own ic cls names, w.before args s = true)
    (hgood : ∀ w ∈ Cond.classLink own ik cls :: Cond.initialized cls :: vx_atS own ic cls names, vx_ot w = true)
    (hU : vx_Zq Bundle.tN "UNASSIGNED_STACK" Bundle.steD A s s.heap) (hN : vx_Zq Bundle.tN "SUPPRESSED_SENTINEL" Bundle.listD A s s.heap) (hS : va_S A s.heap H locs) (hsize : ls.size = c.maxLocals)
    (d0 : decode cc pc = .ok (.new ik, 3)) (d3 : decode cc (pc + 3) = .ok (.dup, 1)) (d4 : decode cc (pc + 4) = .ok (.ldc_w is, 3)) (d7 : decode cc (pc + 7) = .ok (.invokespecial ic, 3)) (d10 : decode cc (pc + 10) = .ok (.athrow, 1))
    (hout : ∀ x ∈ c.exceptionTable.toList, covers x (pc + 10) = false)
    (hRframes : names.length + 3 < R.frames) (hRlocals : (rest.map fun v => v.category).sum + (13 * (names.length + 1) + 43) ≤ R.locals) (hRcells : cells + 1 ≤ R.cells) (hRslots : slots + 6 ≤ R.slots) (hlocks : meth.locks = false)
    (hx : ∀ t : State, s.vm.Alike t.vm → H.size ≤ t.heap.size → (∀ q : Nat, q < H.size → t.heap[q]? = H[q]?) → XC cls s t)
    (hf : ∀ z ∈ locs, free z.base) (hc : cells + 1 ≤ mc) (hs : slots + 6 ≤ ms) :
    W p l e R s m args below meth c H locs cells slots (vx_MQ below Qc XC args s mc ms free) (F0 m pc ls rest) := by
  intro T hT X
  have htr : e.platform.stackTraces = false := (show e.platform.stackTraces = l.stackTraces by rw [X.admits.platform]).trans hl
  have Y := vx_rebase X (R' := { frames := R.frames, locals := R.locals, cells := 1, slots := 6 }) (Nat.le_refl _) (Nat.le_refl _) hRcells hRslots
  obtain ⟨s', hA⟩ : ∃ z, z = (T.setVm s.vm).setFrames (.invoking m args :: below) := ⟨_, rfl⟩
  rw [← hA] at Y
  have hvm : s'.vm = s.vm := by rw [hA]; rfl
  have hhp : s'.heap = H := by rw [hA]; exact hT
  have hW0 : s.WarmedH s'.vm := by rw [hvm]; exact State.WarmedH.refl s
  have hat' : ∀ w ∈ vx_atS own ic cls names, w.before args s' = true := fun w hw => vx_ot_at hW0 hvm.symm (hgood w (List.mem_cons_of_mem _ (List.mem_cons_of_mem _ hw))) (hat w hw)
  have hk' : (Cond.classLink own ik cls).before args s' = true := vx_ot_at hW0 hvm.symm (hgood _ List.mem_cons_self) hk
  have hini' : (Cond.initialized cls).before args s' = true := vx_ot_at hW0 hvm.symm (hgood _ (List.mem_cons_of_mem _ List.mem_cons_self)) hini
  have hU' : vx_Zq Bundle.tN "UNASSIGNED_STACK" Bundle.steD A s' s'.heap := by rw [hhp]; exact vx_Zq.moved hW0.alike (hU.kept hS.2.1)
  have hN' : vx_Zq Bundle.tN "SUPPRESSED_SENTINEL" Bundle.listD A s' s'.heap := by rw [hhp]; exact vx_Zq.moved hW0.alike (hN.kept hS.2.1)
  have h : ∀ w ∈ Bundle.ownAtoms own ic cls names, w.before args s' = true := vx_own hat' (vx_isRefq hU'.1) (vx_isRefq hN'.1) hU'.2.word hN'.2.word
  have hown' : s'.vm.findClass own = some m.cls := by rw [hvm]; exact hown
  have hins : (Cond.instantiable cls 6).before args s' = true := h _ (by simp [Bundle.ownAtoms])
  obtain ⟨vm₁, cX, kX, hfX, hkX, -, -, X₁, st1⟩ := Y.newCold hexec (own := own) (C := cls) (index := ik) (n := 6) hown' hk' hins hini'
    (g := F0 m pc ls rest) rfl (by rw [hb]; exact d0) (Nat.le_refl _) (Nat.le_refl _)
  generalize hT1 : (T.setVm vm₁).pushCell { cls := cX, slots := kX.instanceTypes.map defaultValue, vm := .none } = T1 at X₁ st1
  have hcat : (Value.ref T.heap.size).category = 1 := rfl
  have hcellA : T1.heap[T.heap.size]? = some (freshCell cX kX) := by rw [← hT1]; exact State.heap_pushCell_size _ _
  have d3' : decode c.code (pc + 3) = .ok (.dup, 1) := by rw [hb]; exact d3
  have d4' : decode c.code (pc + 4) = .ok (.ldc_w is, 3) := by rw [hb]; exact d4
  have hstr' : vk_R own is text sa s' := vk_R.warm hW0 hstr
  obtain ⟨U, hsteps, hrun, hend, hW, hsame, ce, hce, hO⟩ := X₁.ctorThrowS hexec htr (own := own) (cls := cls) (names := names) (ic := ic) hown' hcls hnames h (fun x hx => nomatch hx) hfX hkX hcellA (by rw [hhp, hT]; exact Nat.le_refl _) (msg := .ref sa) rfl
    (g := { method := m, pc := pc + 7, locals := ls, stack := .ref sa :: .ref T.heap.size :: .ref T.heap.size :: rest, locked := none }) rfl hsize rfl rfl (rest := rest) rfl
    (by rw [hb]; exact d7) (by rw [hb]; exact d10) hout hRframes (by simp only [List.map_cons, List.sum_cons, hcat]; omega) hlocks
  obtain ⟨f1, f2⟩ := vx_frame hsame
  rw [hhp] at f1 f2
  have hWs : s.WarmedH U.vm := State.WarmedH.trans hW0 hW
  have hcl : s.vm.findClass cls = some ce.cls := by
    have h9 := hO.cls
    rw [hvm] at h9
    exact h9
  have hall : s.sameButNew ({ U with vm := s.vm } : State) locs mc ms := by
    subst hA
    obtain ⟨e1, e2⟩ := hsame
    rw [State.setFrames_setFrames] at e1
    have h2 : (T.setVm s.vm).sameButNew ({ U with vm := s.vm } : State) [] (0 + 1) (0 + 6) := ⟨e1, e2⟩
    have h3 := X.same.trans h2
    rw [List.append_nil] at h3
    exact h3.mono hc hs
  refine ⟨U, ?_, .threw T.heap.size, hrun, hend, Or.inr ⟨T.heap.size, rfl, cls, ce, locs, hx U hWs.alike f1 (fun q hq => f2 q hq (fun z hz => nomatch hz)), hce, hO.vm, hcl, hWs, hall, hf⟩⟩
  refine st1 _ ?_
  show Steps p.tables e below (T1.setTop { method := m, pc := pc + 3, locals := ls, stack := .ref T.heap.size :: rest, locked := none }) _
  jvm_step X₁.here [X₁.here.top, hexec, d3', Value.category]
  exact X₁.ldcStringW hexec (own := own) (text := text) (index := is) (a := sa) hown' hstr'.1 hstr'.2
    (g := { method := m, pc := pc + 4, locals := ls, stack := .ref T.heap.size :: .ref T.heap.size :: rest, locked := none }) rfl d4' _ hsteps
end Ends
section Bodies
variable {l : Launch}
theorem vx_ofW {y : MethodName} {ws ws' : List Cond} {rm : Room} {Pc : Array Value → State → Prop} {Qc : Array Value → State → Outcome → State → Prop} {XC : String → State → State → Prop} {mc ms : Nat} {free : Addr → Prop} {cc : ByteArray} {maxL : Nat} {ret : Option FieldType}
    (hy : plainName y.cls = true) (hw : ws = Cond.code y cc maxL ret :: ws')
    (body : ∀ p e s m args below meth c s₁, BodyLoose p l y (headSpec ws rm) cc maxL ret e s m args below meth c s₁ → c.maxLocals = maxL → (∀ x ∈ c.exceptionTable.toList, False) → Pc args s →
      W p l e (headSpec ws rm).room s m args below meth c s.heap [] 0 0 (vx_MQ below Qc XC args s mc ms free) (entryFrame m args maxL)) : vx_Met l y ws rm Pc Qc XC mc ms free := by
  refine MetFree.of_bodyS (code := cc) (maxLocals := maxL) (ret := ret) hy ?_ ?_
  · intro args s m h hn
    obtain ⟨meth, c, h1, h2, h3, h4, h5, h6, -, -⟩ := Cond.code_spec hn (atoms_spec (ws := ws) h _ (by rw [hw]; exact List.mem_cons_self))
    exact ⟨meth, c, h1, h2, h3, h4, h5, h6⟩
  · intro p e s m args below meth c s₁ B hml hP _
    have hh0 : s₁.heap = s.heap := by rw [B.state]; rfl
    have ht : ∀ x ∈ c.exceptionTable.toList, False := by
      obtain ⟨meth9, c9, h1, h2, -, -, -, -, h7, -⟩ := Cond.code_spec B.named (atoms_spec (ws := ws) B.pre _ (by rw [hw]; exact List.mem_cons_self))
      cases Option.some.inj (h1.symm.trans B.method)
      cases Option.some.inj (h2.symm.trans (Stand.of_body B).code)
      intro x hx
      rw [Array.isEmpty_iff.mp h7] at hx
      cases hx
    obtain ⟨t, a1, o, b1, b2, b3⟩ := body p e s m args below meth c s₁ B hml ht hP s₁ hh0 (Stand.of_body B)
    exact ⟨t, o, a1, b1, b2, b3⟩
/-- the table of a body with handlers -/
theorem vx_table {p : Program} {x y : MethodName} {S : Spec} {cc bytes : ByteArray} {maxL maxL' : Nat} {ret ret' : Option FieldType} {e : Env} {s s₁ : State} {m : MethodId} {args : Array Value} {below : List Frame} {meth : Method} {c : Code} {hh : List (Nat × Nat × Nat × Nat)}
    (B : BodyLoose p l y S cc maxL ret e s m args below meth c s₁) (h : (Cond.codeWith y bytes maxL' ret' hh).before args s = true) : c.exceptionTable.toList = tableOf hh := by
  obtain ⟨m9, meth9, c9, hn9, h1, h2, -, -, h6, -⟩ := Cond.codeWith_spec h
  cases Option.some.inj (hn9.symm.trans B.named)
  cases Option.some.inj (h1.symm.trans B.method)
  cases Option.some.inj (h2.symm.trans (Stand.of_body B).code)
  rw [← h6, table_eq]
end Bodies
end VXA
/-! ===== END ===== -/
/-! ===== BEGIN a static call of a method with an exception table ===== -/
section VXS
variable {p : Program} {l : Launch} {e : Env} {R : Room} {s : State} {m : MethodId} {args : Array Value} {below : List Frame} {meth : Method} {c : Code} {T : State} {H : Heap} {locs : List Loc} {cells slots : Nat}
abbrev vx_CSW (R : Room) (s : State) (args : Array Value) (own : String) (index : Nat) (y : MethodName) (bytes : ByteArray) (maxL : Nat) (ret : Option FieldType) (hh : List (Nat × Nat × Nat × Nat)) (ws : List Cond) (rm : Room) (mc ms n : Nat) : Prop :=
  (rm.cells = mc ∧ rm.slots = ms ∧ rm.frames + 1 ≤ R.frames ∧ 8 + (maxL + 11) + rm.locals ≤ R.locals ∧ (∀ w ∈ ws, ∀ (a' : Array Value) (U : State), s.WarmedH U.vm → w.before a' U = true) ∧ Cond.codeWith y bytes maxL ret hh ∈ ws) ∧
  (Cond.codeWith y bytes maxL ret hh).before args s = true ∧ (Cond.initialized y.cls).before args s = true ∧ (y.cls ≠ "java/lang/invoke/MethodHandle" ∧ y.cls ≠ "java/lang/invoke/VarHandle") ∧
  (∀ sig, parseMethodDescriptor y.desc = some sig → n = sig.parameters.length) ∧ (Cond.methodLink own index y).before args s = true ∧ (Cond.static y).before args s = true
theorem vx_cwSW {own : String} {index maxL mc ms : Nat} {y : MethodName} {bytes : ByteArray} {ret : Option FieldType} {hh : List (Nat × Nat × Nat × Nat)} {Ts ws ws' : List Cond} {rm : Room} (n : Nat) (ht : ∀ w ∈ Ts, w.before args s = true) (hT : GoodIn Ts (va_wsS own index y ws)) (hw : ws = Cond.codeWith y bytes maxL ret hh :: ws') (hrc : rm.cells = mc) (hrs : rm.slots = ms)
    (hd : y.cls ≠ "java/lang/invoke/MethodHandle" ∧ y.cls ≠ "java/lang/invoke/VarHandle" ∧ (parseMethodDescriptor y.desc).map (fun d => d.parameters.length) = some n) (hR : rm.frames + 1 ≤ R.frames ∧ 8 + (maxL + 11) + rm.locals ≤ R.locals) :
    vx_CSW R s args own index y bytes maxL ret hh ws rm mc ms n := by
  have ok : ∀ w ∈ va_wsS own index y ws, w.before args s = true := fun w h => ht w (hT w h).1
  have hG : GoodIn Ts ws := fun w h => hT w (by unfold va_wsS; exact List.mem_append_right _ h)
  have hc : Cond.codeWith y bytes maxL ret hh ∈ ws := by rw [hw]; exact List.mem_cons_self
  refine ⟨⟨hrc, hrs, hR.1, hR.2, pay_in ht hG, hc⟩, ht _ (hG _ hc).1, ok _ (by simp [va_wsS]), ⟨hd.1, hd.2.1⟩, fun sig h => ?_, ok _ (by simp [va_wsS]), ok _ (by simp [va_wsS])⟩
  have h2 := hd.2.2
  rw [h] at h2
  exact (Option.some.inj h2).symm
theorem vx_callSW (X : Stand p l e R s m args below meth c T locs cells slots) (hexec : p.tables.exec = Jvm.exec) {own : String} {index : Nat} {y : MethodName} {bytes : ByteArray} {maxL : Nat} {ret : Option FieldType} {hh : List (Nat × Nat × Nat × Nat)}
    (hown : s.vm.findClass own = some m.cls) (hlink : (Cond.methodLink own index y).before args s = true) (hstat : (Cond.static y).before args s = true) (hinit : (Cond.initialized y.cls).before args s = true)
    (hcode : (Cond.codeWith y bytes maxL ret hh).before args s = true) (hy : y.cls ≠ "java/lang/invoke/MethodHandle" ∧ y.cls ≠ "java/lang/invoke/VarHandle")
    {W9 : Nat} {Pre : Pt → Array Value → Prop} {Post : Pt → Array Value → Option Value → Pt → Prop} (hK : Back l R p e below s args y 3 W9 Pre Post)
    {g : JFrame} (hg : g.method = m) (hsize : g.locals.size = c.maxLocals) {argsL rest : List Value} (hlen : ∀ sig, parseMethodDescriptor y.desc = some sig → argsL.length = sig.parameters.length)
    (hstack : g.stack = argsL.reverse ++ rest) (hW : 2 * g.monitorRoom + (rest.map fun v => v.category).sum ≤ W9) (hdg : decode c.code g.pc = .ok (.invokestatic index, 3))
    (hpre : ∀ vm₁, s.WarmedH vm₁ → Pre ⟨T.setVm vm₁, locs, cells, slots⟩ argsL.toArray) :
    ∃ (v : Option Value) (vm₁ : Vm) (B : Pt), s.WarmedH vm₁ ∧ Stand p l e R s m args below meth c B.U B.locs B.cells B.slots ∧ Post ⟨T.setVm vm₁, locs, cells, slots⟩ argsL.toArray v B ∧
      ∀ target, Steps p.tables e below (B.U.setTop { g with pc := g.pc + 3, stack := v.toList ++ rest }) target → Steps p.tables e below (T.setTop g) target := by
  obtain ⟨mk, methM, cM, hnamed, hmethM, -, -, -, -, -, -, hsigM⟩ := Cond.codeWith_spec hcode
  have hstatic : methM.isStatic = true := Cond.static_spec hnamed hmethM hstat
  obtain ⟨kP, hkP, -⟩ := className_of_methodNamed hnamed
  have hinitP : kP.init = .initialized := Cond.initialized_spec (findClass_of_methodNamed hnamed) hkP hinit
  obtain ⟨vm₁, X₁, hstep₁⟩ := X.invokestatic hexec hown hlink hnamed hmethM hstatic hkP hinitP hy (g := g) hg (argsL := argsL) (rest := rest) (hlen _ hsigM) hstack hdg
  obtain ⟨v, B, X', hpost, hsteps⟩ := hK m meth c ⟨T.setVm vm₁, locs, cells, slots⟩ { g with stack := rest } (.invokestatic index) mk argsL.toArray X₁ hg hsize hdg hW (X₁.named hnamed) (hpre vm₁ X₁.warmed)
  exact ⟨v, vm₁, B, X₁.warmed, X', hpost, fun target h => hstep₁ _ fun acts => by rw [doInvoke_state]; exact hsteps.trans h⟩
theorem vx_runSW {y : MethodName} {bytes cc : ByteArray} {maxL nL mc ms n index : Nat} {ret : Option FieldType} {hh : List (Nat × Nat × Nat × Nat)} {ws : List Cond} {rm : Room} {Pc : Array Value → State → Prop} {Qc : Array Value → State → Outcome → State → Prop} {free : Addr → Prop} {Ts : List Cond} {own : String} {As rest : List Value} {g : JFrame}
    (S : CallFix p m c cc nL s args Ts own) (hM : Met l y ws rm Pc Qc mc ms free) (cw : vx_CSW R s args own index y bytes maxL ret hh ws rm mc ms n) (hp : PreS s H Pc As)
    (hg : g.method = m) (hn : As.length = n) (hsize : g.locals.size = nL) (hstack : g.stack = As.reverse ++ rest) (hW : 2 * g.monitorRoom + (rest.map fun v => v.category).sum ≤ 8) (hdg : decode cc g.pc = .ok (.invokestatic index, 3)) (hf : cells + mc ≤ R.cells ∧ slots + ms ≤ R.slots) :
    va_Run p l e R s m args below meth c H locs cells slots mc ms g rest (Qc As.toArray) (free) := by
  obtain ⟨⟨hrc, hrs, hfr, hlo, hws, hcw⟩, hcode, hini, hy, hlen, hl, hstt⟩ := cw
  have hK : Back l R p e below s args y 3 8 (PreOf R mc ms Pc) (PostOf Qc mc ms free) := va_backW (hh := hh) (bytes := bytes) (maxL := maxL) (ret := ret) hM hp.1 hrc hrs hfr hlo hws hcw (fun a' U hW => word_at hW (Or.inl (by first | rfl | simp [Cond.onTables, Cond.keeps, Cond.steady])) hini)
  obtain ⟨hx, hb, hml, ho, -⟩ := S
  intro T hT X
  obtain ⟨v, vm₁, ⟨U', l2, c2, s2⟩, hW₁, X', ⟨g', mk, t, L, e1, e2, hq, h1, hL, h2, h3⟩, st⟩ := vx_callSW X hx (hh := hh) (bytes := bytes) (maxL := maxL) (ret := ret) ho hl hstt hini hcode hy hK hg (hsize.trans hml.symm) (argsL := As) (rest := rest) (fun sig h => hn.trans (hlen sig h)) hstack hW (by rw [hb]; exact hdg)
    (fun vm₁ hW₁ => ⟨hf.1, hf.2, hp.2 (T.setVm vm₁) hT hW₁⟩)
  dsimp only [Pt.U, Pt.locs, Pt.cells, Pt.slots] at X' e1 e2 h1 h2 h3 st
  subst h1; subst h2; subst h3
  exact ⟨v, (T.setVm vm₁).calling g' mk As.toArray, t, U', L, hT, X', hL, e1, e2, hq, st⟩
/-- not caught here, past rows that name other classes: it goes on to the caller -/
theorem vx_outP {p : Program} {l : Launch} {e : Env} {R : Room} {s : State} {m : MethodId} {args : Array Value} {below : List Frame} {meth : Method} {c : Code} {H : Heap} {locs : List Loc} {cells slots : Nat} {free : Addr → Prop} {ls : Array Slot} {rest : List Value} {Qc : Array Value → State → Outcome → State → Prop} {XC : String → State → State → Prop}
    {pc : Nat} {own E : String} {ce : Cell} {q : Addr} {mc ms : Nat} (hown : s.vm.findClass own = some m.cls) (hlocks : meth.locks = false)
    (hpass : ∀ z ∈ c.exceptionTable.toList, covers z pc = false ∨ (z.catchType ≠ 0 ∧ ∃ nm : String, (Cond.classLink own z.catchType nm).before args s = true ∧ va_Nc E nm s)) (hcell : H[q]? = some ce) (hv : ce.vm = .none) (hcl : s.vm.findClass E = some ce.cls)
    (hx : ∀ t : State, t.heap = H → s.vm.Alike t.vm → XC E s t) (hf : ∀ z ∈ locs, free z.base) (hc : cells ≤ mc) (hs : slots ≤ ms) :
    vx_W p l e R s m args below meth c H locs cells slots (vx_MQ below Qc XC args s mc ms free) (F0 m pc ls rest) q := by
  intro T hT X
  have hpl : e.platform.magicAccessors = ({} : Platform).magicAccessors := by rw [X.admits.platform]
  obtain ⟨vm', hW', X', st⟩ := X.outThrough hlocks q (g := F0 m pc ls rest) rfl rfl rfl (cell := ce) (by rw [hT]; exact hcell) (by rw [hv]; rfl)
    (by obtain ⟨k9, h9, -⟩ := Vm.findClass_spec hcl; exact ⟨k9, h9⟩) (fun z hz => by
      rcases hpass z hz with h | ⟨hz0, nm, hl1, hn1⟩
      · exact Or.inl h
      · obtain ⟨c6, hc6, hcl6⟩ := Cond.classLink_spec hown hl1 e.platform hpl
        obtain ⟨a8, b8, h1, h2, h3⟩ := hn1
        cases Option.some.inj (h1.symm.trans hcl)
        cases Option.some.inj (h2.symm.trans hc6)
        exact Or.inr ⟨hz0, _, hcl6, h3⟩)
  obtain ⟨g₀, hfr⟩ := X'.frames_eq
  have hcell9 : ((T.setVm vm').setFrames (.throwing q :: below)).heap[q]? = some ce := by
    show T.heap[q]? = some ce
    rw [hT]; exact hcell
  have hend : Ended ((T.setVm vm').setFrames (.throwing q :: below)) below (.threw q) := State.frames_setFrames _ (State.cur_lt_of_frames hfr)
  refine ⟨(T.setVm vm').setFrames (.throwing q :: below), ?_, .threw q, X'.here.running, hend, Or.inr ⟨q, rfl, E, ce, locs, hx _ hT (X'.ends _).1.alike, hcell9, hv, hcl, (X'.ends _).1, (X'.ends _).2.mono hc hs, hf⟩⟩
  rw [X.pushThrowing_eq]
  exact st
/-- a thing of a world lies in the heap -/
theorem vx_lt {D : va_G} {cl : List vw_C} {ws : va_W} {H1 : Heap} (h : va_P D cl ws H1) {k : Nat} {q : Nat × va_E} (hk : ws[k]? = some q) : q.1 < H1.size := (h k q hk).lt
end VXS
/-! ===== END ===== -/
/-! ===== BEGIN methods with a table of their own: called by a name, returning or throwing ===== -/
section VXH
/-! vx_backW, vx_callVX, vx_callSX, vx_callVW, vx_runVW, vx_runVX, vx_runSX, vx_ofWH follow the same proofs as their sisters above (Free/Laws.lean, Shelf42/LK1.lean); vx_outP calls Shelf42/NT130.lean (outThrough). -/
section
variable {l : Launch} {R : Room} {p : Program} {e : Env} {below : List Frame} {s : State} {sargs : Array Value} {y : MethodName} {len W9 : Nat}
theorem vx_backW {ws : List Cond} {rm : Room} {Pc : Array Value → State → Prop} {Qc : Array Value → State → Outcome → State → Prop} {XC : String → State → State → Prop} {mc ms : Nat} {free : Addr → Prop} {bytes : ByteArray} {maxL : Nat} {ret : Option FieldType} {hh : List (Nat × Nat × Nat × Nat)}
    (hM : vx_Met l y ws rm Pc Qc XC mc ms free) (hblind : FrameBlind Pc) (hrc : rm.cells = mc) (hrs : rm.slots = ms)
    (hframes : rm.frames + 1 ≤ R.frames) (hlocals : W9 + (maxL + 11) + rm.locals ≤ R.locals)
    (hws : ∀ w ∈ ws, ∀ a' U, s.WarmedH U.vm → w.before a' U = true) (hcode : Cond.codeWith y bytes maxL ret hh ∈ ws) (hinit : ∀ a' U, s.WarmedH U.vm → (Cond.initialized y.cls).before a' U = true) :
    vx_Back l R p e below s sargs y len W9 (PreOf R mc ms Pc) (PostOf Qc mc ms free) (vx_Post XC mc ms free) := by
  intro m meth c A g ig mk a X hg hsize hdg hW hn hp
  have h1 : (headSpec ws rm).pre.before a A.U = true := atoms_intro fun w hw => hws w hw _ _ X.warmed
  have h2 : (Cond.codeWith y bytes maxL ret hh).before a A.U = true := hws _ hcode _ _ X.warmed
  have h3 : (Cond.initialized y.cls).before a A.U = true := hinit _ _ X.warmed
  have h4 : A.cells + (headSpec ws rm).room.cells ≤ R.cells := by rw [show (headSpec ws rm).room.cells = mc from hrc]; exact hp.1
  have h5 : A.slots + (headSpec ws rm).room.slots ≤ R.slots := by rw [show (headSpec ws rm).room.slots = ms from hrs]; exact hp.2.1
  have hPc : Pc a (A.U.calling g mk a) := hblind _ _ _ _ hp.2.2
  obtain ⟨U, Ls, c0, s0⟩ := A
  dsimp only [Pt.U, Pt.locs, Pt.cells, Pt.slots] at h1 h2 h3 h4 h5 X hn hPc ⊢
  obtain ⟨m9, methY, cY, hn9, hmY, hcY, -, hlY, -⟩ := Cond.codeWith_spec h2
  cases Option.some.inj (hn9.symm.trans hn)
  obtain ⟨kY, hkY, -⟩ := className_of_methodNamed hn
  have hinitY : kY.init = .initialized := Cond.initialized_spec (findClass_of_methodNamed hn) hkY h3
  have h : At U g.method c below := by rw [hg]; exact X.here
  have hlocals9 : W9 + (maxL + 11) + (headSpec ws rm).room.locals ≤ R.locals := hlocals
  have happ : (headSpec ws rm).appliesLoose y e.platform (U.calling g mk a) = true :=
    Spec.appliesLoose_calling (g := g) h hdg hn hkY hinitY
      (X.room_calling (g := g) (R' := (headSpec ws rm).room) hsize hmY hcY hframes (by rw [hlY]; omega) h4 h5) h1
  obtain ⟨mid, hmid⟩ := h.above
  have hfr : (U.setTop g).frames = (.java g :: mid) ++ below := by rw [State.frames_setTop' g h.top, hmid]; rfl
  obtain ⟨o, s₂, hsteps, -, hend, hq⟩ := Steps.callFree hM p X.admits X.cas X.clock (acts := []) hfr happ hPc trivial
  have hq' : vx_Q Qc XC mc ms free a (U.calling g mk a) o s₂ := hq
  rw [State.frames_setTop' g h.top] at hend
  obtain ⟨g₀, hg0⟩ := Option.isSome_iff_exists.mp h.top
  obtain ⟨r, hr⟩ := State.topJava?_eq_some.mp hg0
  have hr' : (({ U with heap := s₂.heap, slotsUsed := s₂.slotsUsed } : State).setVm s₂.vm).frames = .java g₀ :: r := hr
  rcases hq' with ⟨hqc, L, hfe, hL⟩ | ⟨q, rfl, E, ce, L, hx, hce, hcv, hcl, hW₂, hsm, hL⟩
  · obtain ⟨⟨v, rfl⟩, hW₂, e2, q2, q3, q4, q5, q6⟩ := id hfe
    have e3 : s₂ = ({ (U.calling g mk a).setFrames s₂.frames with heap := s₂.heap, slotsUsed := s₂.slotsUsed } : State).setVm s₂.vm := by
      have : s₂ = ({ s₂ with vm := (U.calling g mk a).vm } : State).setVm s₂.vm := rfl
      rw [e2] at this
      exact this
    obtain ⟨c₂, i₂, len₂, hc₂, hd₂, hf₂⟩ := hend
    have hW' : U.WarmedH s₂.vm := hW₂
    have hcc : c₂ = c := by
      have h1 : s₂.code? g.method = U.code? g.method := by
        rw [State.code?_eq, State.code?_eq, hW'.alike.method?]
      exact Option.some.inj (hc₂.symm.trans (h1.trans h.code))
    subst hcc
    have hlen : len₂ = len := by rw [hdg] at hd₂; cases hd₂; rfl
    subst hlen
    have hs₂ : s₂ = (({ U with heap := s₂.heap, slotsUsed := s₂.slotsUsed } : State).setVm s₂.vm).setTop { g with pc := g.pc + len₂, stack := v.toList ++ g.stack } := by
      refine e3.trans ?_
      rw [hf₂, State.calling_eq h.top, State.setFrames_setFrames, State.setTop_of_frames _ hr', hr]
      rfl
    have hsame : U.sameButNew ({ U with heap := s₂.heap, slotsUsed := s₂.slotsUsed } : State) L mc ms := by
      refine ⟨?_, q2, q3, q4, q5, q6⟩
      obtain ⟨t, ht, -⟩ := State.frames_cons hr
      show ({ U with heap := s₂.heap, slotsUsed := s₂.slotsUsed } : State) = { U.setFrames U.frames with heap := s₂.heap, slotsUsed := s₂.slotsUsed }
      rw [State.setFrames_self ht]
    subst hg
    refine Or.inl ⟨v, ⟨(({ U with heap := s₂.heap, slotsUsed := s₂.slotsUsed } : State).setVm s₂.vm), Ls ++ L, c0 + mc, s0 + ms⟩,
      ⟨X.admits, X.cas, X.clock, X.frames, X.room, X.hears, X.method, X.code, (X.here.setHeapUsed s₂.heap s₂.slotsUsed).setVm hW'.alike, X.tail, State.WarmedH.trans X.warmed hW', X.limits, X.bytes, X.same.trans (hsame.setVm s.vm)⟩,
      ⟨g, mk, s₂, L, rfl, rfl, hqc, rfl, hL, rfl, rfl⟩, ?_⟩
    show Steps p.tables e below _ ((({ U with heap := s₂.heap, slotsUsed := s₂.slotsUsed } : State).setVm s₂.vm).setTop { g with pc := g.pc + len₂, stack := v.toList ++ g.stack })
    rw [← hs₂]
    exact hsteps
  · obtain ⟨e2, q2, q3, q4, q5, q6⟩ := id hsm
    have e3 : s₂ = ({ (U.calling g mk a).setFrames s₂.frames with heap := s₂.heap, slotsUsed := s₂.slotsUsed } : State).setVm s₂.vm := by
      have : s₂ = ({ s₂ with vm := (U.calling g mk a).vm } : State).setVm s₂.vm := rfl
      rw [e2] at this
      exact this
    have hf₂ : s₂.frames = .throwing q :: .java g :: U.frames.tail := hend
    have hW' : U.WarmedH s₂.vm := hW₂
    have hs₂ : s₂ = ((({ U with heap := s₂.heap, slotsUsed := s₂.slotsUsed } : State).setVm s₂.vm).setTop g).pushFrame (.throwing q) := by
      refine e3.trans ?_
      rw [hf₂, State.calling_eq h.top, State.setFrames_setFrames, State.pushFrame, State.frames_setTop _ hr', State.setTop_of_frames _ hr', State.setFrames_setFrames, hr]
      rfl
    have hsame : U.sameButNew ({ U with heap := s₂.heap, slotsUsed := s₂.slotsUsed } : State) L mc ms := by
      refine ⟨?_, q2, q3, q4, q5, q6⟩
      obtain ⟨t, ht, -⟩ := State.frames_cons hr
      show ({ U with heap := s₂.heap, slotsUsed := s₂.slotsUsed } : State) = { U.setFrames U.frames with heap := s₂.heap, slotsUsed := s₂.slotsUsed }
      rw [State.setFrames_self ht]
    subst hg
    refine Or.inr ⟨q, ⟨(({ U with heap := s₂.heap, slotsUsed := s₂.slotsUsed } : State).setVm s₂.vm), Ls ++ L, c0 + mc, s0 + ms⟩,
      ⟨X.admits, X.cas, X.clock, X.frames, X.room, X.hears, X.method, X.code, (X.here.setHeapUsed s₂.heap s₂.slotsUsed).setVm hW'.alike, X.tail, State.WarmedH.trans X.warmed hW', X.limits, X.bytes, X.same.trans (hsame.setVm s.vm)⟩,
      ⟨g, mk, s₂, L, E, ce, rfl, rfl, hx, hce, hcv, hcl, rfl, hL, rfl, rfl⟩, ?_⟩
    show Steps p.tables e below _ (((({ U with heap := s₂.heap, slotsUsed := s₂.slotsUsed } : State).setVm s₂.vm).setTop g).pushFrame (.throwing q))
    rw [← hs₂]
    exact hsteps
end
variable {p : Program} {l : Launch} {e : Env} {R : Room} {s : State} {m : MethodId} {args : Array Value} {below : List Frame} {meth : Method} {c : Code} {T : State} {H : Heap} {locs : List Loc} {cells slots : Nat}
theorem vx_callVX (X : Stand p l e R s m args below meth c T locs cells slots) (hexec : p.tables.exec = Jvm.exec) {own C : String} {index : Nat} {y : MethodName} {bytes : ByteArray} {maxL : Nat} {ret : Option FieldType} {hh : List (Nat × Nat × Nat × Nat)}
    (hown : s.vm.findClass own = some m.cls) (hlink : (Cond.methodLink own index y).before args s = true) (hinst : (Cond.instanceMethod y).before args s = true) (hsel : (Cond.selects C y y).before args s = true)
    (hcode : (Cond.codeWith y bytes maxL ret hh).before args s = true) (hy : y.cls ≠ "java/lang/invoke/MethodHandle" ∧ y.cls ≠ "java/lang/invoke/VarHandle")
    {W9 : Nat} {Pre : Pt → Array Value → Prop} {Post : Pt → Array Value → Option Value → Pt → Prop} {PostX : Pt → Array Value → Addr → Pt → Prop} (hK : vx_Back l R p e below s args y 3 W9 Pre Post PostX)
    {b : Addr} {cellB : Cell} (hcell : T.heap[b]? = some cellB) (hobj : cellB.vm.isStatics = false) (hcls : s.vm.findClass C = some cellB.cls)
    {g : JFrame} (hg : g.method = m) (hsize : g.locals.size = c.maxLocals) {argsL rest : List Value} (hlen : ∀ sig, parseMethodDescriptor y.desc = some sig → argsL.length = sig.parameters.length)
    (hstack : g.stack = argsL.reverse ++ .ref b :: rest) (hW : 2 * g.monitorRoom + (rest.map fun v => v.category).sum ≤ W9) (hdg : decode c.code g.pc = .ok (.invokevirtual index, 3))
    (hpre : ∀ vm₁, s.WarmedH vm₁ → Pre ⟨T.setVm vm₁, locs, cells, slots⟩ (Value.ref b :: argsL).toArray) :
    (∃ (v : Option Value) (vm₁ : Vm) (B : Pt), s.WarmedH vm₁ ∧ Stand p l e R s m args below meth c B.U B.locs B.cells B.slots ∧ Post ⟨T.setVm vm₁, locs, cells, slots⟩ (Value.ref b :: argsL).toArray v B ∧
      ∀ target, Steps p.tables e below (B.U.setTop { g with pc := g.pc + 3, stack := v.toList ++ rest }) target → Steps p.tables e below (T.setTop g) target) ∨
    (∃ (q : Addr) (vm₁ : Vm) (B : Pt), s.WarmedH vm₁ ∧ Stand p l e R s m args below meth c B.U B.locs B.cells B.slots ∧ PostX ⟨T.setVm vm₁, locs, cells, slots⟩ (Value.ref b :: argsL).toArray q B ∧
      Steps p.tables e below (T.setTop g) ((B.U.setTop { g with stack := rest }).pushFrame (.throwing q))) := by
  obtain ⟨mk, methM, hnamed, hmethM, hstM, habM⟩ := Cond.instanceMethod_spec hinst
  obtain ⟨m8, methM', cM, hn8, hmethM', -, -, -, -, -, -, hsigM⟩ := Cond.codeWith_spec hcode
  cases Option.some.inj (hn8.symm.trans hnamed)
  cases hmethM.symm.trans hmethM'
  obtain ⟨c2, r2, m2, q1, q2, q3, q4, kP, hkP, hkPi⟩ := Cond.selects_spec hsel
  cases hcls.symm.trans q1
  cases (State.methodFound?_of_named hnamed hy).symm.trans q2
  cases hnamed.symm.trans q3
  have hselP : selectMethod e.platform s.vm cellB.cls mk = .method mk := by rw [Launch.admits_selectMethod X.admits]; exact q4
  obtain ⟨vm₁, X₁, hstep₁⟩ := X.invokevirtual hexec hown hlink hnamed hmethM hstM hkP hkPi hy (a := b) (cell := cellB) hcell
    (fun z h => by rw [h] at hobj; cases hobj) hselP hmethM habM hkP hkPi (g := g) hg (argsL := argsL) (rest := rest) (hlen _ hsigM) hstack hdg
  rcases hK m meth c ⟨T.setVm vm₁, locs, cells, slots⟩ { g with stack := rest } (.invokevirtual index) mk (Value.ref b :: argsL).toArray X₁ hg hsize hdg hW (X₁.named hnamed) (hpre vm₁ X₁.warmed) with ⟨v, B, X', hpost, hsteps⟩ | ⟨q, B, X', hpost, hsteps⟩
  · exact Or.inl ⟨v, vm₁, B, X₁.warmed, X', hpost, fun target h => hstep₁ _ fun acts => by rw [doInvoke_state]; exact hsteps.trans h⟩
  · exact Or.inr ⟨q, vm₁, B, X₁.warmed, X', hpost, hstep₁ _ fun acts => by rw [doInvoke_state]; exact hsteps⟩
theorem vx_callSX (X : Stand p l e R s m args below meth c T locs cells slots) (hexec : p.tables.exec = Jvm.exec) {own : String} {index : Nat} {y : MethodName} {bytes : ByteArray} {maxL : Nat} {ret : Option FieldType} {hh : List (Nat × Nat × Nat × Nat)}
    (hown : s.vm.findClass own = some m.cls) (hlink : (Cond.methodLink own index y).before args s = true) (hstat : (Cond.static y).before args s = true) (hinit : (Cond.initialized y.cls).before args s = true)
    (hcode : (Cond.codeWith y bytes maxL ret hh).before args s = true) (hy : y.cls ≠ "java/lang/invoke/MethodHandle" ∧ y.cls ≠ "java/lang/invoke/VarHandle")
    {W9 : Nat} {Pre : Pt → Array Value → Prop} {Post : Pt → Array Value → Option Value → Pt → Prop} {PostX : Pt → Array Value → Addr → Pt → Prop} (hK : vx_Back l R p e below s args y 3 W9 Pre Post PostX)
    {g : JFrame} (hg : g.method = m) (hsize : g.locals.size = c.maxLocals) {argsL rest : List Value} (hlen : ∀ sig, parseMethodDescriptor y.desc = some sig → argsL.length = sig.parameters.length)
    (hstack : g.stack = argsL.reverse ++ rest) (hW : 2 * g.monitorRoom + (rest.map fun v => v.category).sum ≤ W9) (hdg : decode c.code g.pc = .ok (.invokestatic index, 3))
    (hpre : ∀ vm₁, s.WarmedH vm₁ → Pre ⟨T.setVm vm₁, locs, cells, slots⟩ argsL.toArray) :
    (∃ (v : Option Value) (vm₁ : Vm) (B : Pt), s.WarmedH vm₁ ∧ Stand p l e R s m args below meth c B.U B.locs B.cells B.slots ∧ Post ⟨T.setVm vm₁, locs, cells, slots⟩ argsL.toArray v B ∧
      ∀ target, Steps p.tables e below (B.U.setTop { g with pc := g.pc + 3, stack := v.toList ++ rest }) target → Steps p.tables e below (T.setTop g) target) ∨
    (∃ (q : Addr) (vm₁ : Vm) (B : Pt), s.WarmedH vm₁ ∧ Stand p l e R s m args below meth c B.U B.locs B.cells B.slots ∧ PostX ⟨T.setVm vm₁, locs, cells, slots⟩ argsL.toArray q B ∧
      Steps p.tables e below (T.setTop g) ((B.U.setTop { g with stack := rest }).pushFrame (.throwing q))) := by
  obtain ⟨mk, methM, cM, hnamed, hmethM, -, -, -, -, -, -, hsigM⟩ := Cond.codeWith_spec hcode
  have hstatic : methM.isStatic = true := Cond.static_spec hnamed hmethM hstat
  obtain ⟨kP, hkP, -⟩ := className_of_methodNamed hnamed
  have hinitP : kP.init = .initialized := Cond.initialized_spec (findClass_of_methodNamed hnamed) hkP hinit
  obtain ⟨vm₁, X₁, hstep₁⟩ := X.invokestatic hexec hown hlink hnamed hmethM hstatic hkP hinitP hy (g := g) hg (argsL := argsL) (rest := rest) (hlen _ hsigM) hstack hdg
  rcases hK m meth c ⟨T.setVm vm₁, locs, cells, slots⟩ { g with stack := rest } (.invokestatic index) mk argsL.toArray X₁ hg hsize hdg hW (X₁.named hnamed) (hpre vm₁ X₁.warmed) with ⟨v, B, X', hpost, hsteps⟩ | ⟨q, B, X', hpost, hsteps⟩
  · exact Or.inl ⟨v, vm₁, B, X₁.warmed, X', hpost, fun target h => hstep₁ _ fun acts => by rw [doInvoke_state]; exact hsteps.trans h⟩
  · exact Or.inr ⟨q, vm₁, B, X₁.warmed, X', hpost, hstep₁ _ fun acts => by rw [doInvoke_state]; exact hsteps⟩
theorem vx_callVW (X : Stand p l e R s m args below meth c T locs cells slots) (hexec : p.tables.exec = Jvm.exec) {own C : String} {index : Nat} {y : MethodName} {bytes : ByteArray} {maxL : Nat} {ret : Option FieldType} {hh : List (Nat × Nat × Nat × Nat)}
    (hown : s.vm.findClass own = some m.cls) (hlink : (Cond.methodLink own index y).before args s = true) (hinst : (Cond.instanceMethod y).before args s = true) (hsel : (Cond.selects C y y).before args s = true)
    (hcode : (Cond.codeWith y bytes maxL ret hh).before args s = true) (hy : y.cls ≠ "java/lang/invoke/MethodHandle" ∧ y.cls ≠ "java/lang/invoke/VarHandle")
    {W9 : Nat} {Pre : Pt → Array Value → Prop} {Post : Pt → Array Value → Option Value → Pt → Prop} (hK : Back l R p e below s args y 3 W9 Pre Post)
    {b : Addr} {cellB : Cell} (hcell : T.heap[b]? = some cellB) (hobj : cellB.vm.isStatics = false) (hcls : s.vm.findClass C = some cellB.cls)
    {g : JFrame} (hg : g.method = m) (hsize : g.locals.size = c.maxLocals) {argsL rest : List Value} (hlen : ∀ sig, parseMethodDescriptor y.desc = some sig → argsL.length = sig.parameters.length)
    (hstack : g.stack = argsL.reverse ++ .ref b :: rest) (hW : 2 * g.monitorRoom + (rest.map fun v => v.category).sum ≤ W9) (hdg : decode c.code g.pc = .ok (.invokevirtual index, 3))
    (hpre : ∀ vm₁, s.WarmedH vm₁ → Pre ⟨T.setVm vm₁, locs, cells, slots⟩ (Value.ref b :: argsL).toArray) :
    ∃ (v : Option Value) (vm₁ : Vm) (B : Pt), s.WarmedH vm₁ ∧ Stand p l e R s m args below meth c B.U B.locs B.cells B.slots ∧ Post ⟨T.setVm vm₁, locs, cells, slots⟩ (Value.ref b :: argsL).toArray v B ∧
      ∀ target, Steps p.tables e below (B.U.setTop { g with pc := g.pc + 3, stack := v.toList ++ rest }) target → Steps p.tables e below (T.setTop g) target := by
  obtain ⟨mk, methM, hnamed, hmethM, hstM, habM⟩ := Cond.instanceMethod_spec hinst
  obtain ⟨m8, methM', cM, hn8, hmethM', -, -, -, -, -, -, hsigM⟩ := Cond.codeWith_spec hcode
  cases Option.some.inj (hn8.symm.trans hnamed)
  cases hmethM.symm.trans hmethM'
  obtain ⟨c2, r2, m2, q1, q2, q3, q4, kP, hkP, hkPi⟩ := Cond.selects_spec hsel
  cases hcls.symm.trans q1
  cases (State.methodFound?_of_named hnamed hy).symm.trans q2
  cases hnamed.symm.trans q3
  have hselP : selectMethod e.platform s.vm cellB.cls mk = .method mk := by rw [Launch.admits_selectMethod X.admits]; exact q4
  obtain ⟨vm₁, X₁, hstep₁⟩ := X.invokevirtual hexec hown hlink hnamed hmethM hstM hkP hkPi hy (a := b) (cell := cellB) hcell
    (fun z h => by rw [h] at hobj; cases hobj) hselP hmethM habM hkP hkPi (g := g) hg (argsL := argsL) (rest := rest) (hlen _ hsigM) hstack hdg
  obtain ⟨v, B, X', hpost, hsteps⟩ := hK m meth c ⟨T.setVm vm₁, locs, cells, slots⟩ { g with stack := rest } (.invokevirtual index) mk (Value.ref b :: argsL).toArray X₁ hg hsize hdg hW (X₁.named hnamed) (hpre vm₁ X₁.warmed)
  exact ⟨v, vm₁, B, X₁.warmed, X', hpost, fun target h => hstep₁ _ fun acts => by rw [doInvoke_state]; exact hsteps.trans h⟩
abbrev vx_CVW (R : Room) (s : State) (args : Array Value) (own C : String) (index : Nat) (y : MethodName) (bytes : ByteArray) (maxL : Nat) (ret : Option FieldType) (hh : List (Nat × Nat × Nat × Nat)) (ws : List Cond) (rm : Room) (mc ms n : Nat) : Prop :=
  (rm.cells = mc ∧ rm.slots = ms ∧ rm.frames + 1 ≤ R.frames ∧ 8 + (maxL + 11) + rm.locals ≤ R.locals ∧ (∀ w ∈ ws, ∀ (a' : Array Value) (U : State), s.WarmedH U.vm → w.before a' U = true) ∧ Cond.codeWith y bytes maxL ret hh ∈ ws) ∧
  (Cond.codeWith y bytes maxL ret hh).before args s = true ∧ (Cond.initialized y.cls).before args s = true ∧ (y.cls ≠ "java/lang/invoke/MethodHandle" ∧ y.cls ≠ "java/lang/invoke/VarHandle") ∧
  (∀ sig, parseMethodDescriptor y.desc = some sig → n = sig.parameters.length) ∧ (Cond.methodLink own index y).before args s = true ∧ (Cond.instanceMethod y).before args s = true ∧ (Cond.selects C y y).before args s = true
theorem vx_cwVW {own C : String} {index maxL mc ms : Nat} {y : MethodName} {bytes : ByteArray} {ret : Option FieldType} {hh : List (Nat × Nat × Nat × Nat)} {Ts ws ws' : List Cond} {rm : Room} (n : Nat) (ht : ∀ w ∈ Ts, w.before args s = true) (hT : GoodIn Ts (wsV own index C y ws)) (hw : ws = Cond.codeWith y bytes maxL ret hh :: ws') (hrc : rm.cells = mc) (hrs : rm.slots = ms)
    (hd : y.cls = C ∧ y.cls ≠ "java/lang/invoke/MethodHandle" ∧ y.cls ≠ "java/lang/invoke/VarHandle" ∧ (parseMethodDescriptor y.desc).map (fun d => d.parameters.length) = some n) (hR : rm.frames + 1 ≤ R.frames ∧ 8 + (maxL + 11) + rm.locals ≤ R.locals) :
    vx_CVW R s args own C index y bytes maxL ret hh ws rm mc ms n := by
  obtain ⟨hC, hd⟩ := hd
  subst hC
  have ok : ∀ w ∈ wsV own index y.cls y ws, w.before args s = true := fun w h => ht w (hT w h).1
  have hG : GoodIn Ts ws := fun w h => hT w (by unfold wsV; exact List.mem_append_right _ h)
  have hc : Cond.codeWith y bytes maxL ret hh ∈ ws := by rw [hw]; exact List.mem_cons_self
  refine ⟨⟨hrc, hrs, hR.1, hR.2, pay_in ht hG, hc⟩, ht _ (hG _ hc).1, ok _ (by simp [wsV]), ⟨hd.1, hd.2.1⟩, fun sig h => ?_, ok _ (by simp [wsV]), ok _ (by simp [wsV]), ok _ (by simp [wsV])⟩
  have h2 := hd.2.2
  rw [h] at h2
  exact (Option.some.inj h2).symm
theorem vx_runVW {y : MethodName} {bytes cc : ByteArray} {maxL nL mc ms n index : Nat} {ret : Option FieldType} {hh : List (Nat × Nat × Nat × Nat)} {ws : List Cond} {rm : Room} {Pc : Array Value → State → Prop} {Qc : Array Value → State → Outcome → State → Prop} {free : Addr → Prop} {Ts : List Cond} {own C : String} {b : Addr} {As rest : List Value} {g : JFrame}
    (S : CallFix p m c cc nL s args Ts own) (hM : Met l y ws rm Pc Qc mc ms free) (cw : vx_CVW R s args own C index y bytes maxL ret hh ws rm mc ms n) (hp : PreV s H C b Pc As)
    (hg : g.method = m) (hn : As.length = n) (hsize : g.locals.size = nL) (hstack : g.stack = As.reverse ++ .ref b :: rest) (hW : 2 * g.monitorRoom + (rest.map fun v => v.category).sum ≤ 8) (hdg : decode cc g.pc = .ok (.invokevirtual index, 3)) (hf : cells + mc ≤ R.cells ∧ slots + ms ≤ R.slots) :
    va_Run p l e R s m args below meth c H locs cells slots mc ms g rest (Qc (Value.ref b :: As).toArray) free := by
  obtain ⟨⟨hrc, hrs, hfr, hlo, hws, hcw⟩, hcode, hini, hy, hlen, hl, hin, hse⟩ := cw
  have hK : Back l R p e below s args y 3 8 (PreOf R mc ms Pc) (PostOf Qc mc ms free) := va_backW (hh := hh) (bytes := bytes) (maxL := maxL) (ret := ret) hM hp.1 hrc hrs hfr hlo hws hcw (fun a' U hW => word_at hW (Or.inl (by first | rfl | simp [Cond.onTables, Cond.keeps, Cond.steady])) hini)
  obtain ⟨hx, hb, hml, ho, -⟩ := S
  obtain ⟨-, ⟨cellB, hcB, hoB, hclB⟩, hPc⟩ := hp
  intro T hT X
  obtain ⟨v, vm₁, ⟨U', l2, c2, s2⟩, hW₁, X', ⟨g', mk, t, L, e1, e2, hq, h1, hL, h2, h3⟩, st⟩ := vx_callVW X hx (C := C) (hh := hh) (bytes := bytes) (maxL := maxL) (ret := ret) ho hl hin hse hcode hy hK (by rw [hT]; exact hcB) hoB hclB hg (hsize.trans hml.symm) (argsL := As) (rest := rest) (fun sig h => hn.trans (hlen sig h)) hstack hW (by rw [hb]; exact hdg)
    (fun vm₁ hW₁ => ⟨hf.1, hf.2, hPc (T.setVm vm₁) hT hW₁⟩)
  dsimp only [Pt.U, Pt.locs, Pt.cells, Pt.slots] at X' e1 e2 h1 h2 h3 st
  subst h1; subst h2; subst h3
  exact ⟨v, (T.setVm vm₁).calling g' mk (Value.ref b :: As).toArray, t, U', L, hT, X', hL, e1, e2, hq, st⟩
section
variable {y : MethodName} {bytes cc : ByteArray} {maxL nL mc ms n index : Nat} {ret : Option FieldType} {ws : List Cond} {rm : Room} {Pc : Array Value → State → Prop} {Qc : Array Value → State → Outcome → State → Prop} {XC : String → State → State → Prop} {free : Addr → Prop} {Ts : List Cond} {own C : String} {b : Addr} {As rest : List Value} {g : JFrame}
theorem vx_runVX {hh : List (Nat × Nat × Nat × Nat)} (S : CallFix p m c cc nL s args Ts own) (hM : vx_Met l y ws rm Pc Qc XC mc ms free) (cw : vx_CVW R s args own C index y bytes maxL ret hh ws rm mc ms n) (hp : PreV s H C b Pc As)
    (hg : g.method = m) (hn : As.length = n) (hsize : g.locals.size = nL) (hstack : g.stack = As.reverse ++ .ref b :: rest) (hW : 2 * g.monitorRoom + (rest.map fun v => v.category).sum ≤ 8) (hdg : decode cc g.pc = .ok (.invokevirtual index, 3)) (hf : cells + mc ≤ R.cells ∧ slots + ms ≤ R.slots) :
    vx_Run p l e R s m args below meth c H locs cells slots mc ms g rest (Qc (Value.ref b :: As).toArray) XC free := by
  obtain ⟨⟨hrc, hrs, hfr, hlo, hws, hcw⟩, hcode, hini, hy, hlen, hl, hin, hse⟩ := cw
  have hK : vx_Back l R p e below s args y 3 8 (PreOf R mc ms Pc) (PostOf Qc mc ms free) (vx_Post XC mc ms free) := vx_backW (hh := hh) (bytes := bytes) (maxL := maxL) (ret := ret) hM hp.1 hrc hrs hfr hlo hws hcw (fun a' U hW => word_at hW (Or.inl (by first | rfl | simp [Cond.onTables, Cond.keeps, Cond.steady])) hini)
  obtain ⟨hx, hb, hml, ho, -⟩ := S
  obtain ⟨-, ⟨cellB, hcB, hoB, hclB⟩, hPc⟩ := hp
  intro T hT X
  rcases vx_callVX X hx (C := C) (hh := hh) (bytes := bytes) (maxL := maxL) (ret := ret) ho hl hin hse hcode hy hK (by rw [hT]; exact hcB) hoB hclB hg (hsize.trans hml.symm) (argsL := As) (rest := rest) (fun sig h => hn.trans (hlen sig h)) hstack hW (by rw [hb]; exact hdg)
    (fun vm₁ hW₁ => ⟨hf.1, hf.2, hPc (T.setVm vm₁) hT hW₁⟩) with ⟨v, vm₁, ⟨U', l2, c2, s2⟩, hW₁, X', ⟨g', mk, t, L, e1, e2, hq, h1, hL, h2, h3⟩, st⟩ | ⟨q, vm₁, ⟨U', l2, c2, s2⟩, hW₁, X', ⟨g', mk, t, L, E, ce, e1, e2, hq, hce, hcv, hcl, h1, hL, h2, h3⟩, st⟩
  · dsimp only [Pt.U, Pt.locs, Pt.cells, Pt.slots] at X' e1 e2 h1 h2 h3 st
    subst h1; subst h2; subst h3
    exact Or.inl ⟨v, (T.setVm vm₁).calling g' mk (Value.ref b :: As).toArray, t, U', L, hT, X', hL, e1, e2, hq, st⟩
  · dsimp only [Pt.U, Pt.locs, Pt.cells, Pt.slots] at X' e1 e2 h1 h2 h3 st hcl
    subst h1; subst h2; subst h3
    exact Or.inr ⟨q, (T.setVm vm₁).calling g' mk (Value.ref b :: As).toArray, t, U', L, E, ce, hT, X', hL, e1, e2, hq, hce, hcv, vx_cls hW₁ hcl, st⟩
theorem vx_runSX {hh : List (Nat × Nat × Nat × Nat)} (S : CallFix p m c cc nL s args Ts own) (hM : vx_Met l y ws rm Pc Qc XC mc ms free) (cw : vx_CSW R s args own index y bytes maxL ret hh ws rm mc ms n) (hp : PreS s H Pc As)
    (hg : g.method = m) (hn : As.length = n) (hsize : g.locals.size = nL) (hstack : g.stack = As.reverse ++ rest) (hW : 2 * g.monitorRoom + (rest.map fun v => v.category).sum ≤ 8) (hdg : decode cc g.pc = .ok (.invokestatic index, 3)) (hf : cells + mc ≤ R.cells ∧ slots + ms ≤ R.slots) :
    vx_Run p l e R s m args below meth c H locs cells slots mc ms g rest (Qc As.toArray) XC free := by
  obtain ⟨⟨hrc, hrs, hfr, hlo, hws, hcw⟩, hcode, hini, hy, hlen, hl, hstt⟩ := cw
  have hK : vx_Back l R p e below s args y 3 8 (PreOf R mc ms Pc) (PostOf Qc mc ms free) (vx_Post XC mc ms free) := vx_backW (hh := hh) (bytes := bytes) (maxL := maxL) (ret := ret) hM hp.1 hrc hrs hfr hlo hws hcw (fun a' U hW => word_at hW (Or.inl (by first | rfl | simp [Cond.onTables, Cond.keeps, Cond.steady])) hini)
  obtain ⟨hx, hb, hml, ho, -⟩ := S
  intro T hT X
  rcases vx_callSX X hx (hh := hh) (bytes := bytes) (maxL := maxL) (ret := ret) ho hl hstt hini hcode hy hK hg (hsize.trans hml.symm) (argsL := As) (rest := rest) (fun sig h => hn.trans (hlen sig h)) hstack hW (by rw [hb]; exact hdg)
    (fun vm₁ hW₁ => ⟨hf.1, hf.2, hp.2 (T.setVm vm₁) hT hW₁⟩) with ⟨v, vm₁, ⟨U', l2, c2, s2⟩, hW₁, X', ⟨g', mk, t, L, e1, e2, hq, h1, hL, h2, h3⟩, st⟩ | ⟨q, vm₁, ⟨U', l2, c2, s2⟩, hW₁, X', ⟨g', mk, t, L, E, ce, e1, e2, hq, hce, hcv, hcl, h1, hL, h2, h3⟩, st⟩
  · dsimp only [Pt.U, Pt.locs, Pt.cells, Pt.slots] at X' e1 e2 h1 h2 h3 st
    subst h1; subst h2; subst h3
    exact Or.inl ⟨v, (T.setVm vm₁).calling g' mk As.toArray, t, U', L, hT, X', hL, e1, e2, hq, st⟩
  · dsimp only [Pt.U, Pt.locs, Pt.cells, Pt.slots] at X' e1 e2 h1 h2 h3 st hcl
    subst h1; subst h2; subst h3
    exact Or.inr ⟨q, (T.setVm vm₁).calling g' mk As.toArray, t, U', L, E, ce, hT, X', hL, e1, e2, hq, hce, hcv, vx_cls hW₁ hcl, st⟩
end
end VXH
theorem vx_ofWH {l : Launch} {y : MethodName} {ws ws' : List Cond} {rm : Room} {Pc : Array Value → State → Prop} {Qc : Array Value → State → Outcome → State → Prop} {XC : String → State → State → Prop} {mc ms : Nat} {free : Addr → Prop} {cc : ByteArray} {maxL : Nat} {ret : Option FieldType} {hh : List (Nat × Nat × Nat × Nat)}
    (hy : plainName y.cls = true) (hw : ws = Cond.codeWith y cc maxL ret hh :: ws')
    (body : ∀ p e s m args below meth c s₁, BodyLoose p l y (headSpec ws rm) cc maxL ret e s m args below meth c s₁ → c.maxLocals = maxL → Pc args s →
      W p l e (headSpec ws rm).room s m args below meth c s.heap [] 0 0 (vx_MQ below Qc XC args s mc ms free) (entryFrame m args maxL)) : vx_Met l y ws rm Pc Qc XC mc ms free := by
  refine MetFree.of_bodyS (code := cc) (maxLocals := maxL) (ret := ret) hy ?_ ?_
  · intro args s m h hn
    obtain ⟨m9, meth, c, hn9, h1, h2, h3, h4, -, h5, h6, -⟩ := Cond.codeWith_spec (atoms_spec (ws := ws) h _ (by rw [hw]; exact List.mem_cons_self))
    cases hn.symm.trans hn9
    exact ⟨meth, c, h1, h2, h3, h4, h5, h6⟩
  · intro p e s m args below meth c s₁ B hml hP _
    have hh0 : s₁.heap = s.heap := by rw [B.state]; rfl
    obtain ⟨t, a1, o, b1, b2, b3⟩ := body p e s m args below meth c s₁ B hml hP s₁ hh0 (Stand.of_body B)
    exact ⟨t, o, a1, b1, b2, b3⟩
/-! ===== END ===== -/

def nst : Cond → Bool
  | .fieldLinkNest .. => true
  | .methodLinkNest .. => true
  | .declares _ => true
  | .castable .. => true
  | _ => false
def NW : List Cond := lw_tbl.filter nst
theorem NW_in {w : Cond} (i : Nat) (h : lw_tbl[i]? = some w) (g : nst w = true) : w ∈ NW := List.mem_filter.mpr ⟨List.mem_of_getElem? h, g⟩
def NN (U : State) : Prop := (∀ w ∈ NW, va_Nw w U) ∧ ∀ (own : String) (k : Nat) (tx : String), Cond.stringRef own k tx ∈ lw_tbl → ∃ a, vk_R own k tx a U
theorem NN.warm {s U : State} (hW : s.WarmedH U.vm) (h : NN s) : NN U := by
  refine ⟨fun w hw => ?_, fun own k tx hm => ?_⟩
  · have h1 := h.1 w hw
    have h2 := (List.mem_filter.mp hw).2
    cases w <;> first | exact va_Nw.warmF hW h1 | exact va_Nw.warmM hW h1 | exact va_Nw.warmD hW h1 | exact va_Nw.warmC hW h1 | (simp [nst] at h2)
  · obtain ⟨a, ha⟩ := h.2 own k tx hm
    exact ⟨a, vk_R.warm hW ha⟩
theorem NN.same {u U : State} (e : u.vm = U.vm) (h : NN u) : NN U := by
  refine ⟨fun w hw => ?_, fun own k tx hm => ?_⟩
  · have h1 := h.1 w hw
    have h2 := (List.mem_filter.mp hw).2
    cases w <;> first | exact va_Nw.same rfl e h1 | (simp [nst] at h2)
  · obtain ⟨a, ha⟩ := h.2 own k tx hm
    exact ⟨a, vk_R.same e.symm ha⟩
theorem NN.ofW {args : Array Value} {s : State} (hts : ∀ w ∈ lw_tbl, w.before args s = true) : ∀ w ∈ NW, va_Nw w s := by
  intro w hw
  have h1 := hts w (List.mem_filter.mp hw).1
  have h2 := (List.mem_filter.mp hw).2
  cases w <;> first | exact va_Nw.of rfl h1 | (simp [nst] at h2)
theorem n_247 : Cond.methodLinkNest RX1 105 yX4_cellAt RX4 ∈ NW := NW_in 273 (by decide +kernel) rfl
theorem n_272 : Cond.methodLinkNest RX1 68 yX4_isWithin RX4 ∈ NW := NW_in 298 (by decide +kernel) rfl
theorem n_286 : Cond.methodLinkNest RX1 142 yX4_distance RX4 ∈ NW := NW_in 312 (by decide +kernel) rfl
theorem n_328 : Cond.methodLinkNest RX1 122 yX4_iceBears RX4 ∈ NW := NW_in 354 (by decide +kernel) rfl
theorem n_434 : Cond.methodLinkNest RX1 205 yX4_iceBehind RX4 ∈ NW := NW_in 460 (by decide +kernel) rfl
end
section
/-! The worlds as functions of keys; one row an access, a call, an end. -/
abbrev Key : Type := Nat × Nat × Nat
abbrev Gm : Type := (va_G × (Nat → ClassId)) × ((Key → Nat) × (Nat × (Key → Prop)))
abbrev gD (g : Gm) : va_G := g.1.1
abbrev gC (g : Gm) : Nat → ClassId := g.1.2
abbrev ad (g : Gm) : Key → Nat := g.2.1
abbrev bs (g : Gm) : Nat := g.2.2.1
/-- which of the law's own keys are there -/
abbrev lk (g : Gm) : Key → Prop := g.2.2.2
abbrev AA (g : Gm) : Nat → Prop := fun q => bs g ≤ q
def cls7 : List vw_C := [(RX0, TX0, 3), (RX1, TX1, 11), (RX2, TX2, 6), (RX3, TX3, 4), (RX4, TX4, 2), (RX5, TX5, 8)]
def tys5 (g : Gm) : List (ClassId × FieldType) := [(gC g 0, .int), (gC g 1, .object RX0), (gC g 2, .object RX2), (gC g 3, .object RX3), (gC g 4, .array .int)]
/-- the cells of the keys K hold what en says -/
def WPe (g : Gm) (K : Key → Prop) (en : Key → va_E) (H : Heap) : Prop := ∀ k, K k → va_at (gD g) cls7 (ad g k, en k) H
theorem WPe.one {g : Gm} {K : Key → Prop} {en : Key → va_E} {H : Heap} {k : Key} (h : WPe g K en H) (hk : K k) : va_P (gD g) cls7 [(ad g k, en k)] H := by
  intro i q hq
  cases i with
  | zero => cases hq; exact h k hk
  | succ i => simp at hq
theorem WPe.cast {g : Gm} {K : Key → Prop} {en en' : Key → va_E} {H : Heap} (h : WPe g K en H) (he : ∀ k, K k → en' k = en k) : WPe g K en' H := fun k hk => by rw [he k hk]; exact h k hk
/-- the keys' cells are apart, and new since the base -/
def IJ (g : Gm) (K : Key → Prop) : Prop := (∀ j k, K j → K k → ad g j = ad g k → j = k) ∧ ∀ k, K k → bs g ≤ ad g k
/-- an array of rows of ints may be made -/
def AOi (U : State) : Prop := (Cond.arrayOver (.array .int)).before #[] U = true
theorem AOi.of {A : Array Value} {U : State} (h : (Cond.arrayOver (.array .int)).before A U = true) : AOi U := h
theorem AOi.use {A : Array Value} {U : State} (h : AOi U) : (Cond.arrayOver (.array .int)).before A U = true := h
theorem AOi.moved {u U : State} (hvm : u.vm.Alike U.vm) (h : AOi u) : AOi U := by
  obtain ⟨comp, c, k, h1, h2, h3, h4, h5⟩ := arrayOverA_spec (show (Cond.arrayOver (.array .int)).holds #[] u none u [] = true from h)
  obtain ⟨k', hk', he⟩ := hvm.2.2 _ _ h3
  have hi : (U.vm.classes.findIdx? fun (x : Class) => match x.kind with | .array component _ => component == comp | _ => false) = some c := by
    rw [hvm.findIdx?_eq _ (fun _ => rfl)]
    exact h2
  have hkind : k'.kind = .array comp (.array .int) := by rw [he]; exact h4
  have f1 : U.vm.findClass (FieldType.array .int).toString = some comp := by rw [hvm.findClass]; exact h1
  have f2 : U.vm.findClass ("[" ++ (FieldType.array .int).toString) = some c := by rw [hvm.findClass]; exact h5
  unfold AOi Cond.before Cond.holds
  simp only [Cond.value]
  rw [f1, Option.bind_some]
  refine (congrArg (fun o : Option Nat => (o.bind (fun c => (U.vm.classes[c]?).map fun (k : Class) => match k.kind with | .array _ ty => decide (ty = FieldType.array .int) && decide (U.vm.findClass ("[" ++ (FieldType.array .int).toString) = some c) | _ => false) == some true)) hi).trans ?_
  simp [hk', hkind, f2]
/-- what holds of the tables, and of what nobody writes -/
def Ev (g : Gm) (s : State) : Prop := va_K (gD g) cls7 (tys5 g) s ∧ NN s ∧ vx_Zq Bundle.tN "UNASSIGNED_STACK" Bundle.steD (AA g) s s.heap ∧ vx_Zq Bundle.tN "SUPPRESSED_SENTINEL" Bundle.listD (AA g) s s.heap ∧ bs g ≤ s.heap.size ∧ AOi s
theorem Ev.call {g : Gm} {s U : State} {H : Heap} {locs : List Loc} (hE : Ev g s) (hS : va_S (AA g) s.heap H locs) (hU : U.heap = H) (hW : s.WarmedH U.vm) : Ev g U := by
  obtain ⟨h1, h2, h3, h4, h5, h6⟩ := hE
  refine ⟨h1.moved hW.alike, h2.warm hW, (h3.kept (H1 := U.heap) (fun a x y => by rw [hU]; exact hS.2.1 a x y)).moved hW.alike, (h4.kept (H1 := U.heap) (fun a x y => by rw [hU]; exact hS.2.1 a x y)).moved hW.alike, ?_, h6.moved hW.alike⟩
  rw [hU]
  exact Nat.le_trans h5 hS.1
theorem Ev.calling {g : Gm} {U : State} {f : JFrame} {mk : MethodId} {a : Array Value} (h : Ev g U) : Ev g (U.calling f mk a) := by
  obtain ⟨h1, h2, h3, h4, h5, h6⟩ := h
  exact ⟨va_K.moved (u := U) (U := U.calling f mk a) (Vm.Alike.refl U.vm) h1, NN.same (u := U) rfl h2, vx_Zq.moved (u := U) (U := U.calling f mk a) (Vm.Alike.refl U.vm) h3, vx_Zq.moved (u := U) (U := U.calling f mk a) (Vm.Alike.refl U.vm) h4, h5, h6.moved (u := U) (U := U.calling f mk a) (Vm.Alike.refl U.vm)⟩
/-- a method's start: its arguments, the tables, the world -/
def Pd (g : Gm) (K : Key → Prop) (en : Key → va_E) (av : List Value) : Array Value → State → Prop := fun v U => v = av.toArray ∧ Ev g U ∧ WPe g K en U.heap
theorem Pd.blind {g : Gm} {K : Key → Prop} {en : Key → va_E} {av : List Value} : FrameBlind (Pd g K en av) := fun a U f mk h => ⟨h.1, h.2.1.calling, h.2.2⟩
def Qi (g : Gm) (R : Int32) (K : Key → Prop) (en : Key → va_E) : Array Value → State → Outcome → State → Prop := va_Qi (fun (r : Int32) (_ : Unit) => r = R) (fun _ t => WPe g K en t.heap) (AA g)
def Ql (g : Gm) (R : Int64) (K : Key → Prop) (en : Key → va_E) : Array Value → State → Outcome → State → Prop := va_Ql (fun (r : Int64) (_ : Unit) => r = R) (fun _ t => WPe g K en t.heap) (AA g)
def Qv (g : Gm) (K : Key → Prop) (en : Key → va_E) : Array Value → State → Outcome → State → Prop := va_Qv (fun (_ : Unit) => True) (fun _ t => WPe g K en t.heap) (AA g)
abbrev rm (f lo : Nat) : Room := { frames := f, cells := 0, slots := 0, locals := lo }
/-- contracts: an int, a long, nothing is answered; the world becomes en' -/
abbrev MI (l : Launch) (y : MethodName) (b : ByteArray) (n : Nat) (rt : FieldType) (R : Room) (g : Gm) (K : Key → Prop) (en : Key → va_E) (av : List Value) (r : Int32) (en' : Key → va_E) : Prop := Met l y (wy y b n (some rt)) R (Pd g K en av) (Qi g r K en') R.cells R.slots (AA g)
abbrev ML (l : Launch) (y : MethodName) (b : ByteArray) (n : Nat) (R : Room) (g : Gm) (K : Key → Prop) (en : Key → va_E) (av : List Value) (r : Int64) (en' : Key → va_E) : Prop := Met l y (wy y b n (some .long)) R (Pd g K en av) (Ql g r K en') R.cells R.slots (AA g)
abbrev MV (l : Launch) (y : MethodName) (b : ByteArray) (n : Nat) (R : Room) (g : Gm) (K : Key → Prop) (en : Key → va_E) (av : List Value) (en' : Key → va_E) : Prop := Met l y (wy y b n none) R (Pd g K en av) (Qv g K en') R.cells R.slots (AA g)
theorem lp_up {P : Nat → Prop} (N : Nat) (h0 : P N) (hs : ∀ i, i < N → P (i + 1) → P i) : ∀ i, i ≤ N → P i := by
  intro i hi
  obtain ⟨d, hd⟩ : ∃ d, N = i + d := ⟨N - i, by omega⟩
  subst hd
  clear hi
  induction d generalizing i with
  | zero => exact h0
  | succ d ih =>
    refine hs i (by omega) (ih (i + 1) ?_ ?_)
    · rw [show i + 1 + d = i + (d + 1) from by omega]; exact h0
    · intro j hj; exact hs j (by omega)
section MO
variable {l : Launch} {y : MethodName} {b : ByteArray} {n : Nat} {ret : Option FieldType} {R : Room} {g : Gm} {K : Key → Prop} {en : Key → va_E} {av : List Value} {Qc : Array Value → State → Outcome → State → Prop}
/-- the entry of a method -/
theorem met_of (hy : plainName y.cls = true) (hn : (lg_sl av).length ≤ n)
    (body : ∀ (p : Program) (e : Jvm.Env) (s : State) (m : MethodId) (below : List Frame) (meth : Method) (c : Code) (ls : Array Slot), CallFix p m c b n s av.toArray LG y.cls → meth.sig.returnType = ret → meth.locks = false → meth.name = y.name → Ev g s → WPe g K en s.heap → va_S (AA g) s.heap s.heap [] → lv_has ls n (lv_args 0 av) →
      W p l e R s m av.toArray below meth c s.heap [] 0 0 (MQ below Qc av.toArray s R.cells R.slots (AA g)) (F0 m 0 ls [])) : Met l y (wy y b n ret) R (Pd g K en av) Qc R.cells R.slots (AA g) := by
  refine Met.ofW (cc := b) (maxL := n) (ret := ret) hy rfl ?_
  intro p e s m args below meth c s₁ B hml hv
  obtain ⟨rfl, hE, hP⟩ := hv
  have hts := atoms_spec (ws := wy y b n ret) B.pre
  have hl := lv_entry av (n := n) hn
  rw [lg_entry_eq]
  exact body p e s m below meth c _ ⟨B.exec, B.bytes, hml, findClass_of_methodNamed B.named, fun w hw => hts w (List.mem_cons_of_mem _ hw)⟩ B.returns B.notSynchronized (name_of_methodNamed B.named B.method).1 hE hP va_S.rf hl
end MO
section MW
variable {p : Program} {l : Launch} {e : Jvm.Env} {R : Room} {s : State} {m : MethodId} {args : Array Value} {below : List Frame} {meth : Method} {c : Code} {H : Heap} {locs : List Loc} {cells slots : Nat} {Q : State → Prop}
variable {cc : ByteArray} {nL pc : Nat} {ls : Array Slot} {rest : List Value} {own : String} {g : Gm} {K : Key → Prop} {en : Key → va_E}
theorem m_get (hC : CallFix p m c cc nL s args LG own) (hE : Ev g s) (hP : WPe g K en H) {k : Key} (hk : K k) {ci N : Nat} {C : String} {T : u_T} {fs : List Value} (he : en k = .inr (ci, fs)) (hc : cls7[ci]? = some (C, T, N)) (hu : ∀ w ∈ u_ws C T N, w ∈ LG) (f : Nat) (hf : f < N) {ref : String} {index : Nat} (hlink : Cond.fieldLink own index ref (T f).2.1 (T f).2.2.1 ∈ LG) (href : (T f).1 = ref) {v : Value} (hv : fs[f]? = some v) (hdg : decode cc pc = .ok (.getfield index, 3))
    (kk : W p l e R s m args below meth c H locs cells slots Q (F0 m (pc + 3) ls (v :: rest))) : W p l e R s m args below meth c H locs cells slots Q (F0 m pc ls (.ref (ad g k) :: rest)) := by
  obtain ⟨hx, hb, hml, hown, hG⟩ := hC
  subst href
  exact va_get (D := gD g) hx hb hG hu hown hE.1 (hP.one hk) 0 (by rw [he]; rfl) hc f hf (hG _ hlink) (fun _ h => h) hv hdg kk
theorem m_getN (hC : CallFix p m c cc nL s args LG own) (hE : Ev g s) (hP : WPe g K en H) {k : Key} (hk : K k) {ci N : Nat} {C host : String} {T : u_T} {fs : List Value} (he : en k = .inr (ci, fs)) (hc : cls7[ci]? = some (C, T, N)) (hu : ∀ w ∈ u_ws C T N, w ∈ LG) (f : Nat) (hf : f < N) {ref : String} {index : Nat} (hlink : Cond.fieldLinkNest own index ref (T f).2.1 (T f).2.2.1 host ∈ NW) (href : (T f).1 = ref) {v : Value} (hv : fs[f]? = some v) (hdg : decode cc pc = .ok (.getfield index, 3))
    (kk : W p l e R s m args below meth c H locs cells slots Q (F0 m (pc + 3) ls (v :: rest))) : W p l e R s m args below meth c H locs cells slots Q (F0 m pc ls (.ref (ad g k) :: rest)) := by
  obtain ⟨hx, hb, hml, hown, hG⟩ := hC
  subst href
  exact va_getN (D := gD g) hx hb hG hu hown hE.1 (hP.one hk) 0 (by rw [he]; rfl) hc f hf (va_Nw.use rfl (hE.2.1.1 _ hlink)) (fun _ h => h) hv hdg kk
theorem m_put (hC : CallFix p m c cc nL s args LG own) (hE : Ev g s) (hI : IJ g K) (hP : WPe g K en H) (hS : va_S (AA g) s.heap H locs) {k : Key} (hk : K k) {ci N : Nat} {C : String} {T : u_T} {fs : List Value} (he : en k = .inr (ci, fs)) (hc : cls7[ci]? = some (C, T, N)) (hu : ∀ w ∈ u_ws C T N, w ∈ LG) {ty0 : Nat → FieldType} (hty : ∀ k, k < N → parseFieldDescriptor (T k).2.2.1 = some (ty0 k)) (hnm : ∀ a, a < N → ∀ b, b < N → a ≠ b → (T a).2.1 ≠ (T b).2.1) (f : Nat) (hf : f < N) {ref : String} {index : Nat} (hlink : Cond.fieldLink own index ref (T f).2.1 (T f).2.2.1 ∈ LG) (href : (T f).1 = ref) (hfin : (T f).2.2.2 = false) {v : Value} (hn : narrow (ty0 f) v = v) (hfit : fits (ty0 f) v = true) (hl : f < fs.length) {en' : Key → va_E} (h1 : en' k = .inr (ci, fs.set f v)) (h2 : ∀ j, K j → j ≠ k → en' j = en j) (hdg : decode cc pc = .ok (.putfield index, 3))
    (kk : ∀ (H1 : Heap) (locs1 : List Loc), WPe g K en' H1 → va_S (AA g) s.heap H1 locs1 → W p l e R s m args below meth c H1 locs1 cells slots Q (F0 m (pc + 3) ls rest)) : W p l e R s m args below meth c H locs cells slots Q (F0 m pc ls (v :: .ref (ad g k) :: rest)) := by
  obtain ⟨hx, hb, hml, hown, hG⟩ := hC
  subst href
  have hK := hE.1
  have hap := va_apart (own := own) hG hu ty0 hty hnm hK hc
  have h0 := hP k hk
  rw [he] at h0
  obtain ⟨r, e1, cell, q1, q2, q3, q4⟩ := h0
  have hr : r = (C, T, N) := Option.some.inj (e1.symm.trans hc)
  subst hr
  obtain ⟨hSl, hfc, kC, hkC, hkind⟩ := hK.1 ci _ hc
  obtain ⟨cf, kf, fi, fd, hi, hsl⟩ := hSl f hf
  have hlay := hG _ (hu _ (u_in_lay hf))
  unfold u_lay at hlay
  rw [if_neg (by rw [hfin]; decide)] at hlay
  have hst := (u_facts hfc hkC (u_lays hG hu hf) hi).1
  have h6 := u_store hfc hkC hkind hlay hi (hty f hf) hn hfit
  refine W.putK hx hb (f := fd) ⟨hown, hG _ hlink, ⟨_, _, _, hi⟩, hst⟩ (by rw [q2]; exact h6) q1 q3 (by rw [hsl]; exact k2_hasslot (q4 f hf)) rfl rfl hdg fun H' z1 z2 z3 => ?_
  rw [hsl] at z1 ⊢
  refine kk H' _ (fun j hj => ?_) (hS.put z2 z3 (hI.2 k hk))
  by_cases hjk : j = k
  · subst hjk
    rw [h1]
    exact ⟨_, hc, t_OB.to (V := updV (vp_V fs) f v) ⟨_, z1, q2, q3, t_set q4 hap hf v⟩ (fun j _ => vp_updV_set hl v j)⟩
  · rw [h2 j hj hjk]
    exact (hP j hj).kept (z3 _ (fun z => hjk (hI.1 j k hj hk z)))
theorem m_putN (hC : CallFix p m c cc nL s args LG own) (hE : Ev g s) (hI : IJ g K) (hP : WPe g K en H) (hS : va_S (AA g) s.heap H locs) {k : Key} (hk : K k) {ci N : Nat} {C host : String} {T : u_T} {fs : List Value} (he : en k = .inr (ci, fs)) (hc : cls7[ci]? = some (C, T, N)) (hu : ∀ w ∈ u_ws C T N, w ∈ LG) {ty0 : Nat → FieldType} (hty : ∀ k, k < N → parseFieldDescriptor (T k).2.2.1 = some (ty0 k)) (hnm : ∀ a, a < N → ∀ b, b < N → a ≠ b → (T a).2.1 ≠ (T b).2.1) (f : Nat) (hf : f < N) {ref : String} {index : Nat} (hlink : Cond.fieldLinkNest own index ref (T f).2.1 (T f).2.2.1 host ∈ NW) (href : (T f).1 = ref) (hfin : (T f).2.2.2 = false) {v : Value} (hn : narrow (ty0 f) v = v) (hfit : fits (ty0 f) v = true) (hl : f < fs.length) {en' : Key → va_E} (h1 : en' k = .inr (ci, fs.set f v)) (h2 : ∀ j, K j → j ≠ k → en' j = en j) (hdg : decode cc pc = .ok (.putfield index, 3))
    (kk : ∀ (H1 : Heap) (locs1 : List Loc), WPe g K en' H1 → va_S (AA g) s.heap H1 locs1 → W p l e R s m args below meth c H1 locs1 cells slots Q (F0 m (pc + 3) ls rest)) : W p l e R s m args below meth c H locs cells slots Q (F0 m pc ls (v :: .ref (ad g k) :: rest)) := by
  obtain ⟨hx, hb, hml, hown, hG⟩ := hC
  subst href
  have hK := hE.1
  have hap := va_apart (own := own) hG hu ty0 hty hnm hK hc
  have h0 := hP k hk
  rw [he] at h0
  obtain ⟨r, e1, cell, q1, q2, q3, q4⟩ := h0
  have hr : r = (C, T, N) := Option.some.inj (e1.symm.trans hc)
  subst hr
  obtain ⟨hSl, hfc, kC, hkC, hkind⟩ := hK.1 ci _ hc
  obtain ⟨cf, kf, fi, fd, hi, hsl⟩ := hSl f hf
  have hlay := hG _ (hu _ (u_in_lay hf))
  unfold u_lay at hlay
  rw [if_neg (by rw [hfin]; decide)] at hlay
  have hst := (u_facts hfc hkC (u_lays hG hu hf) hi).1
  have h6 := u_store hfc hkC hkind hlay hi (hty f hf) hn hfit
  refine va_WputK hx hb (f := fd) hown (va_Nw.use rfl (hE.2.1.1 _ hlink)) hi hst (by rw [q2]; exact h6) q1 q3 (by rw [hsl]; exact k2_hasslot (q4 f hf)) rfl rfl hdg fun H' z1 z2 z3 => ?_
  rw [hsl] at z1 ⊢
  refine kk H' _ (fun j hj => ?_) (hS.put z2 z3 (hI.2 k hk))
  by_cases hjk : j = k
  · subst hjk
    rw [h1]
    exact ⟨_, hc, t_OB.to (V := updV (vp_V fs) f v) ⟨_, z1, q2, q3, t_set q4 hap hf v⟩ (fun j _ => vp_updV_set hl v j)⟩
  · rw [h2 j hj hjk]
    exact (hP j hj).kept (z3 _ (fun z => hjk (hI.1 j k hj hk z)))
theorem m_iald (hC : CallFix p m c cc nL s args LG own) (hE : Ev g s) (hP : WPe g K en H) {k : Key} (hk : K k) {n : Nat} {f : Nat → Int32} (he : en k = .inl (gC g 0, n, .inl f)) {x : Int32} (i : Nat) (hx : x = nI i) (hi : i < n) (hn : n < 2 ^ 31) (hdg : decode cc pc = .ok (.iaload, 1))
    (kk : W p l e R s m args below meth c H locs cells slots Q (F0 m (pc + 1) ls (.int (f i) :: rest))) : W p l e R s m args below meth c H locs cells slots Q (F0 m pc ls (.int x :: .ref (ad g k) :: rest)) := by
  obtain ⟨hx1, hb, hml, hown, hG⟩ := hC
  subst hx
  refine va_iald (D := gD g) (f := f) hx1 hb hE.1 (hP.one hk) 0 0 (by rw [he]; rfl) rfl (vp_in_nI hi hn) hdg ?_
  rw [nI_clamp (by omega)]
  exact kk
theorem m_iast (hC : CallFix p m c cc nL s args LG own) (hE : Ev g s) (hI : IJ g K) (hP : WPe g K en H) (hS : va_S (AA g) s.heap H locs) {k : Key} (hk : K k) {n : Nat} {f : Nat → Int32} (he : en k = .inl (gC g 0, n, .inl f)) {x v : Int32} (i : Nat) (hx : x = nI i) (hi : i < n) (hn : n < 2 ^ 31) {en' : Key → va_E} (h1 : en' k = .inl (gC g 0, n, .inl (upd f i v))) (h2 : ∀ j, K j → j ≠ k → en' j = en j) (hdg : decode cc pc = .ok (.iastore, 1))
    (kk : ∀ (H1 : Heap) (locs1 : List Loc), WPe g K en' H1 → va_S (AA g) s.heap H1 locs1 → W p l e R s m args below meth c H1 locs1 cells slots Q (F0 m (pc + 1) ls rest)) : W p l e R s m args below meth c H locs cells slots Q (F0 m pc ls (.int v :: .int x :: .ref (ad g k) :: rest)) := by
  obtain ⟨hx1, hb, hml, hown, hG⟩ := hC
  subst hx
  have h0 := hP k hk
  rw [he] at h0
  have hin : vp_in (nI i) n := vp_in_nI hi hn
  refine W.iast hx1 hb h0 ((hE.1.2 0 _ rfl).1 n (fun j => .int (f j))) (fun q => by cases q) (by show ¬ (nI i < 0 ∨ (arrV _ _ _).slots.size ≤ _); rw [arrV_size]; exact hin) rfl rfl hdg fun H1 z1 z2 z3 => ?_
  refine kk H1 _ (fun j hj => ?_) (hS.put z2 z3 (hI.2 k hk))
  by_cases hjk : j = k
  · subst hjk
    rw [h1]
    show H1[ad g j]? = some (vp_cell _ _)
    rw [z1, vp_cell_i, vp_cell_i, arrV_store, nI_clamp (by omega)]
    congr 2
    funext q
    by_cases hq : q = i
    · subst hq
      simp [updV, upd]
    · simp [updV, upd, hq]
  · rw [h2 j hj hjk]
    exact (hP j hj).kept (z3 _ (fun z => hjk (hI.1 j k hj hk z)))
theorem m_aald (hC : CallFix p m c cc nL s args LG own) (hE : Ev g s) (hP : WPe g K en H) {k : Key} (hk : K k) {n t : Nat} {C : String} {f : Nat → Option Nat} (he : en k = .inl (gC g t, n, .inr (.inr (.inr (.inr f))))) (ht : (tys5 g)[t]? = some (gC g t, .object C)) {x : Int32} (i : Nat) (hx : x = nI i) (hi : i < n) (hn : n < 2 ^ 31) {a : Nat} (ha : f i = some a) (hdg : decode cc pc = .ok (.aaload, 1))
    (kk : W p l e R s m args below meth c H locs cells slots Q (F0 m (pc + 1) ls (.ref a :: rest))) : W p l e R s m args below meth c H locs cells slots Q (F0 m pc ls (.int x :: .ref (ad g k) :: rest)) := by
  obtain ⟨hx1, hb, hml, hown, hG⟩ := hC
  subst hx
  refine va_aldq (D := gD g) (f := f) hx1 hb hE.1 (hP.one hk) 0 t (by rw [he]; rfl) ht (vp_in_nI hi hn) hdg ?_
  rw [nI_clamp (by omega), ha]
  exact kk
theorem m_max (hC : CallFix p m c cc nL s args LG own) {index : Nat} (hlink : Cond.methodLink own index Lib.Math.max.name ∈ LG) (hstat : Cond.static Lib.Math.max.name ∈ LG) (hini : Cond.initialized "java/lang/Math" ∈ LG) (hcode : Cond.code Lib.Math.max.name Lib.Math.max.code 2 (some .int) ∈ LG) (hls : ls.size = nL) (hframes : 1 ≤ R.frames) (hlocals : (rest.map fun v => v.category).sum + 13 ≤ R.locals) (hc : cells ≤ R.cells) (hs : slots ≤ R.slots) {x y : Int32} (hdg : decode cc pc = .ok (.invokestatic index, 3))
    (kk : W p l e R s m args below meth c H locs cells slots Q (F0 m (pc + 3) ls (.int (if x < y then y else x) :: rest))) : W p l e R s m args below meth c H locs cells slots Q (F0 m pc ls (.int y :: .int x :: rest)) := by
  obtain ⟨hx1, hb, hml, hown, hG⟩ := hC
  exact va_mmax hx1 hb (hml.trans hls.symm) hown (hG _ hlink) (hG _ hstat) (hG _ hini) (hG _ hcode) hframes hlocals hc hs hdg kk
theorem m_min (hC : CallFix p m c cc nL s args LG own) {index : Nat} (hlink : Cond.methodLink own index Lib.Math.min.name ∈ LG) (hstat : Cond.static Lib.Math.min.name ∈ LG) (hini : Cond.initialized "java/lang/Math" ∈ LG) (hcode : Cond.code Lib.Math.min.name Lib.Math.min.code 2 (some .int) ∈ LG) (hls : ls.size = nL) (hframes : 1 ≤ R.frames) (hlocals : (rest.map fun v => v.category).sum + 13 ≤ R.locals) (hc : cells ≤ R.cells) (hs : slots ≤ R.slots) {x y : Int32} (hdg : decode cc pc = .ok (.invokestatic index, 3))
    (kk : W p l e R s m args below meth c H locs cells slots Q (F0 m (pc + 3) ls (.int (if y < x then y else x) :: rest))) : W p l e R s m args below meth c H locs cells slots Q (F0 m pc ls (.int y :: .int x :: rest)) := by
  obtain ⟨hx1, hb, hml, hown, hG⟩ := hC
  exact va_mmin hx1 hb (hml.trans hls.symm) hown (hG _ hlink) (hG _ hstat) (hG _ hini) (hG _ hcode) hframes hlocals hc hs hdg kk
theorem m_abs (hC : CallFix p m c cc nL s args LG own) {index : Nat} (hlink : Cond.methodLink own index Lib.Math.abs.name ∈ LG) (hstat : Cond.static Lib.Math.abs.name ∈ LG) (hini : Cond.initialized "java/lang/Math" ∈ LG) (hcode : Cond.code Lib.Math.abs.name Lib.Math.abs.code 1 (some .int) ∈ LG) (hls : ls.size = nL) (hframes : 1 ≤ R.frames) (hlocals : (rest.map fun v => v.category).sum + 13 ≤ R.locals) (hc : cells ≤ R.cells) (hs : slots ≤ R.slots) {x : Int32} (hdg : decode cc pc = .ok (.invokestatic index, 3))
    (kk : W p l e R s m args below meth c H locs cells slots Q (F0 m (pc + 3) ls (.int (if 0 ≤ x then x else 0 - x) :: rest))) : W p l e R s m args below meth c H locs cells slots Q (F0 m pc ls (.int x :: rest)) := by
  obtain ⟨hx1, hb, hml, hown, hG⟩ := hC
  exact va_mabs hx1 hb (hml.trans hls.symm) hown (hG _ hlink) (hG _ hstat) (hG _ hini) (hG _ hcode) hframes hlocals hc hs hdg kk
/-- the ends -/
theorem m_iret (hC : CallFix p m c cc nL s args LG own) {rt : FieldType} (hr : meth.sig.returnType = some rt) (hlk : meth.locks = false) (hS : va_S (AA g) s.heap H locs) (hP : WPe g K en H) {v r : Int32} (hn : narrow rt (.int v) = .int v) (hv : v = r) (hdg : decode cc pc = .ok (.ireturn, 1)) : W p l e R s m args below meth c H locs cells slots (MQ below (Qi g r K en) args s cells slots (AA g)) (F0 m pc ls [.int v]) := by
  obtain ⟨hx1, hb, hml, hown, hG⟩ := hC
  exact W.zret hx1 hb hr hn (fun t ht hW => ⟨⟨v, (), rfl, hv, by show WPe g K en t.heap; rw [ht]; exact hP⟩, hS.F ht⟩) hS.2.2 hdg hlk
theorem m_lret (hC : CallFix p m c cc nL s args LG own) (hr : meth.sig.returnType = some .long) (hlk : meth.locks = false) (hS : va_S (AA g) s.heap H locs) (hP : WPe g K en H) {v r : Int64} (hv : v = r) (hdg : decode cc pc = .ok (.lreturn, 1)) : W p l e R s m args below meth c H locs cells slots (MQ below (Ql g r K en) args s cells slots (AA g)) (F0 m pc ls [.long v]) := by
  obtain ⟨hx1, hb, hml, hown, hG⟩ := hC
  exact W.lret hx1 hb hr (fun t ht hW => ⟨⟨v, (), rfl, hv, by show WPe g K en t.heap; rw [ht]; exact hP⟩, hS.F ht⟩) hS.2.2 hdg hlk
theorem m_vret (hC : CallFix p m c cc nL s args LG own) (hr : meth.sig.returnType = none) (hlk : meth.locks = false) (hS : va_S (AA g) s.heap H locs) (hP : WPe g K en H) (hdg : decode cc pc = .ok (.return_, 1)) : W p l e R s m args below meth c H locs cells slots (MQ below (Qv g K en) args s cells slots (AA g)) (F0 m pc ls []) := by
  obtain ⟨hx1, hb, hml, hown, hG⟩ := hC
  exact W.vret hx1 hb hr (fun t ht hW => ⟨⟨(), rfl, trivial, by show WPe g K en t.heap; rw [ht]; exact hP⟩, hS.F ht⟩) hS.2.2 hdg hlk
/-- the calls -/
def CalV (C : String) (y : MethodName) (b : ByteArray) (n : Nat) (ret : Option FieldType) (na : Nat) : Prop := Cond.instanceMethod y ∈ LG ∧ Cond.selects C y y ∈ LG ∧ Cond.initialized C ∈ LG ∧ Cond.code y b n ret ∈ LG ∧ (y.cls = C ∧ y.cls ≠ "java/lang/invoke/MethodHandle" ∧ y.cls ≠ "java/lang/invoke/VarHandle" ∧ (parseMethodDescriptor y.desc).map (fun d => d.parameters.length) = some na)
def CalS (y : MethodName) (b : ByteArray) (n : Nat) (ret : Option FieldType) (na : Nat) : Prop := Cond.static y ∈ LG ∧ Cond.initialized y.cls ∈ LG ∧ Cond.code y b n ret ∈ LG ∧ (y.cls ≠ "java/lang/invoke/MethodHandle" ∧ y.cls ≠ "java/lang/invoke/VarHandle" ∧ (parseMethodDescriptor y.desc).map (fun d => d.parameters.length) = some na)
theorem preS_of (hE : Ev g s) (hS : va_S (AA g) s.heap H locs) (hP : WPe g K en H) {As : List Value} : PreS s H (Pd g K en As) As := ⟨Pd.blind, fun U hU hW => ⟨rfl, hE.call hS hU hW, by rw [hU]; exact hP⟩⟩
theorem preV_of (hE : Ev g s) (hS : va_S (AA g) s.heap H locs) (hP : WPe g K en H) {As : List Value} {k : Key} (hk : K k) {ci N : Nat} {C : String} {T : u_T} {fs : List Value} (he : en k = .inr (ci, fs)) (hc : cls7[ci]? = some (C, T, N)) : PreV s H C (ad g k) (Pd g K en (.ref (ad g k) :: As)) As :=
  ⟨Pd.blind, va_recv (q := (C, T, N)) (ws := [(ad g k, en k)]) (q0 := 0) hE.1 (hP.one hk) hc (by rw [he]; rfl), fun U hU hW => ⟨rfl, hE.call hS hU hW, by rw [hU]; exact hP⟩⟩
variable {y : MethodName} {b1 : ByteArray} {n1 na index : Nat} {R1 : Room} {en' : Key → va_E} {ret : Option FieldType} {Qc : Array Value → State → Outcome → State → Prop} {st : List Value}
theorem run_V (hC : CallFix p m c cc nL s args LG own) (hE : Ev g s) (hP : WPe g K en H) (hS : va_S (AA g) s.heap H locs) {k : Key} {As : List Value} (hM : Met l y (wy y b1 n1 ret) R1 (Pd g K en (.ref (ad g k) :: As)) Qc R1.cells R1.slots (AA g)) {C : String} (hcal : CalV C y b1 n1 ret na) (hlink : Cond.methodLink own index y ∈ LG) (hR : R1.frames + 1 ≤ R.frames ∧ 8 + (n1 + 11) + R1.locals ≤ R.locals) (hk : K k) {ci N : Nat} {T : u_T} {fs : List Value} (he : en k = .inr (ci, fs)) (hc : cls7[ci]? = some (C, T, N)) (hlen : As.length = na) (hst : st = As.reverse ++ .ref (ad g k) :: rest) (hroom : (rest.map fun v => v.category).sum ≤ 8) (hls : ls.size = nL) (hf : cells + R1.cells ≤ R.cells ∧ slots + R1.slots ≤ R.slots) (hdg : decode cc pc = .ok (.invokevirtual index, 3)) :
    va_Run p l e R s m args below meth c H locs cells slots R1.cells R1.slots (F0 m pc ls st) rest (Qc (Value.ref (ad g k) :: As).toArray) (AA g) := by
  obtain ⟨a1, a2, a3, a4, a5⟩ := hcal
  exact va_runV hC hM (cwV na hC.2.2.2.2 (LG_V hlink a1 a2 a3 a4) rfl rfl rfl a5 hR) (preV_of hE hS hP hk he hc) rfl hlen hls hst (lv_room hroom) hdg hf
theorem run_S (hC : CallFix p m c cc nL s args LG own) (hE : Ev g s) (hP : WPe g K en H) (hS : va_S (AA g) s.heap H locs) {As : List Value} (hM : Met l y (wy y b1 n1 ret) R1 (Pd g K en As) Qc R1.cells R1.slots (AA g)) (hcal : CalS y b1 n1 ret na) (hlink : Cond.methodLink own index y ∈ LG) (hR : R1.frames + 1 ≤ R.frames ∧ 8 + (n1 + 11) + R1.locals ≤ R.locals) (hlen : As.length = na) (hst : st = As.reverse ++ rest) (hroom : (rest.map fun v => v.category).sum ≤ 8) (hls : ls.size = nL) (hf : cells + R1.cells ≤ R.cells ∧ slots + R1.slots ≤ R.slots) (hdg : decode cc pc = .ok (.invokestatic index, 3)) :
    va_Run p l e R s m args below meth c H locs cells slots R1.cells R1.slots (F0 m pc ls st) rest (Qc As.toArray) (AA g) := by
  obtain ⟨a1, a2, a3, a5⟩ := hcal
  exact va_runS hC hM (va_cwS na hC.2.2.2.2 (LG_S hlink a1 a2 a3) rfl rfl rfl a5 hR) (preS_of hE hS hP) rfl hlen hls hst (lv_room hroom) hdg hf
theorem run_SN (hC : CallFix p m c cc nL s args LG own) (hE : Ev g s) (hP : WPe g K en H) (hS : va_S (AA g) s.heap H locs) {As : List Value} (hM : Met l y (wy y b1 n1 ret) R1 (Pd g K en As) Qc R1.cells R1.slots (AA g)) (hcal : CalS y b1 n1 ret na) {host : String} (hlink : Cond.methodLinkNest own index y host ∈ NW) (hR : R1.frames + 1 ≤ R.frames ∧ 8 + (n1 + 11) + R1.locals ≤ R.locals) (hlen : As.length = na) (hst : st = As.reverse ++ rest) (hroom : (rest.map fun v => v.category).sum ≤ 8) (hls : ls.size = nL) (hf : cells + R1.cells ≤ R.cells ∧ slots + R1.slots ≤ R.slots) (hdg : decode cc pc = .ok (.invokestatic index, 3)) :
    va_Run p l e R s m args below meth c H locs cells slots R1.cells R1.slots (F0 m pc ls st) rest (Qc As.toArray) (AA g) := by
  obtain ⟨a1, a2, a3, a5⟩ := hcal
  exact va_runSN hC hM ⟨va_cnB na hC.2.2.2.2 (LG_y a3) rfl rfl rfl (hE.2.1.1 _ hlink) (hC.2.2.2.2 _ a2) a5 hR, hC.2.2.2.2 _ a1, trivial⟩ (preS_of hE hS hP) rfl hlen hls hst (lv_room hroom) hdg hf
theorem run_VN (hC : CallFix p m c cc nL s args LG own) (hE : Ev g s) (hP : WPe g K en H) (hS : va_S (AA g) s.heap H locs) {k : Key} {As : List Value} (hM : Met l y (wy y b1 n1 ret) R1 (Pd g K en (.ref (ad g k) :: As)) Qc R1.cells R1.slots (AA g)) {C host : String} (hcal : CalV C y b1 n1 ret na) (hlink : Cond.methodLinkNest own index y host ∈ NW) (hR : R1.frames + 1 ≤ R.frames ∧ 8 + (n1 + 11) + R1.locals ≤ R.locals) (hk : K k) {ci N : Nat} {T : u_T} {fs : List Value} (he : en k = .inr (ci, fs)) (hc : cls7[ci]? = some (C, T, N)) (hlen : As.length = na) (hst : st = As.reverse ++ .ref (ad g k) :: rest) (hroom : (rest.map fun v => v.category).sum ≤ 8) (hls : ls.size = nL) (hf : cells + R1.cells ≤ R.cells ∧ slots + R1.slots ≤ R.slots) (hdg : decode cc pc = .ok (.invokevirtual index, 3)) :
    va_Run p l e R s m args below meth c H locs cells slots R1.cells R1.slots (F0 m pc ls st) rest (Qc (Value.ref (ad g k) :: As).toArray) (AA g) := by
  obtain ⟨a1, a2, a3, a4, a5⟩ := hcal
  have hini : (Cond.initialized y.cls).before args s = true := by rw [a5.1]; exact hC.2.2.2.2 _ a3
  exact va_runVN hC hM ⟨va_cnB na hC.2.2.2.2 (LG_y a4) rfl rfl rfl (hE.2.1.1 _ hlink) hini a5.2 hR, hC.2.2.2.2 _ a1, hC.2.2.2.2 _ a2⟩ (preV_of hE hS hP hk he hc) rfl hlen hls hst (lv_room hroom) hdg hf
theorem on_i {r : Int32} {mc ms : Nat} {a : Array Value} (hr : va_Run p l e R s m args below meth c H locs cells slots mc ms (F0 m pc ls st) rest (Qi g r K en' a) (AA g)) (hS : va_S (AA g) s.heap H locs)
    (kk : ∀ (H1 : Heap) (locs1 : List Loc), WPe g K en' H1 → va_S (AA g) s.heap H1 locs1 → W p l e R s m args below meth c H1 locs1 (cells + mc) (slots + ms) Q (F0 m (pc + 3) ls (.int r :: rest))) : W p l e R s m args below meth c H locs cells slots Q (F0 m pc ls st) := by
  refine va_calli hr hS (fun q _ h => h) (fun q h => h) (fun r1 u t H1 locs1 ht hvm hw hB hz hk hS1 => ?_)
  subst hw
  rw [ht] at hB
  exact kk H1 locs1 hB hS1
theorem on_l {r : Int64} {mc ms : Nat} {a : Array Value} (hr : va_Run p l e R s m args below meth c H locs cells slots mc ms (F0 m pc ls st) rest (Ql g r K en' a) (AA g)) (hS : va_S (AA g) s.heap H locs)
    (kk : ∀ (H1 : Heap) (locs1 : List Loc), WPe g K en' H1 → va_S (AA g) s.heap H1 locs1 → W p l e R s m args below meth c H1 locs1 (cells + mc) (slots + ms) Q (F0 m (pc + 3) ls (.long r :: rest))) : W p l e R s m args below meth c H locs cells slots Q (F0 m pc ls st) := by
  refine va_calll hr hS (fun q _ h => h) (fun q h => h) (fun r1 u t H1 locs1 ht hvm hw hB hz hk hS1 => ?_)
  subst hw
  rw [ht] at hB
  exact kk H1 locs1 hB hS1
theorem on_v {mc ms : Nat} {a : Array Value} (hr : va_Run p l e R s m args below meth c H locs cells slots mc ms (F0 m pc ls st) rest (Qv g K en' a) (AA g)) (hS : va_S (AA g) s.heap H locs)
    (kk : ∀ (H1 : Heap) (locs1 : List Loc), WPe g K en' H1 → va_S (AA g) s.heap H1 locs1 → W p l e R s m args below meth c H1 locs1 (cells + mc) (slots + ms) Q (F0 m (pc + 3) ls rest)) : W p l e R s m args below meth c H locs cells slots Q (F0 m pc ls st) := by
  refine va_callv hr hS (fun q _ h => h) (fun q h => h) (fun u t H1 locs1 ht hvm hw hB hz hk hS1 => ?_)
  rw [ht] at hB
  exact kk H1 locs1 hB hS1
end MW
end
section
/-! The cells of this law, by keys: lakes (regions 0, 1), the law's own picture of the lake (2), what it notes of a night (3); M: region, component, place. -/
abbrev Vw : Type := Nat → Nat → Int32
abbrev Mem : Type := Nat → Vw
def alen : Nat → Nat := fun c => match c with
  | 0 => 81
  | 1 => 81
  | _ => 7
def setR (M : Mem) (r : Nat) (v : Vw) : Mem := fun r' => if r' = r then v else M r'
def up2 (v : Vw) (c i : Nat) (x : Int32) : Vw := fun c' i' => if c' = c ∧ i' = i then x else v c' i'
theorem setR_same (M : Mem) (r : Nat) (v : Vw) : setR M r v r = v := by simp [setR]
theorem setR_ne (M : Mem) {r r' : Nat} (v : Vw) (h : r' ≠ r) : setR M r v r' = M r' := by simp [setR, h]
theorem setR_self (M : Mem) (r : Nat) : setR M r (M r) = M := by
  funext r'
  by_cases h : r' = r <;> simp [setR, h]
theorem setR_setR (M : Mem) (r : Nat) (v w : Vw) : setR (setR M r v) r w = setR M r w := by
  funext r'
  by_cases h : r' = r <;> simp [setR, h]
theorem up2_same (v : Vw) (c i : Nat) (x : Int32) : up2 v c i x c i = x := by simp [up2]
theorem up2_c {v : Vw} {c i : Nat} {x : Int32} {c' i' : Nat} (h : c' ≠ c) : up2 v c i x c' i' = v c' i' := by simp [up2, h]
theorem up2_i {v : Vw} {c i : Nat} {x : Int32} {c' i' : Nat} (h : i' ≠ i) : up2 v c i x c' i' = v c' i' := by simp [up2, h]
theorem up2_upd (v : Vw) (c i : Nat) (x : Int32) : up2 v c i x c = upd (v c) i x := by
  funext j
  by_cases h : j = i <;> simp [up2, upd, h]
def nH (v : Vw) : Nat := (v 16 0).toNatClampNeg
def nS (v : Vw) : Nat := (v 16 1).toNatClampNeg
def nW (v : Vw) : Nat := (v 16 2).toNatClampNeg
/-- rows of the law's own arrays -/
def rG (v : Vw) (c x : Nat) : Nat → Int32 := fun y => v c (9 * y + x)
def rH (v : Vw) (h : Nat) : Nat → Int32 := fun j => match j with
  | 0 => v 3 h
  | 1 => v 4 h
  | 2 => v 5 h
  | _ => 0
def rS (v : Vw) (k : Nat) : Nat → Int32 := fun j => match j with
  | 0 => v 6 k
  | 1 => v 7 k
  | 2 => v 8 k
  | 3 => v 9 k
  | 4 => v 10 k
  | 5 => v 11 k
  | _ => 0
def rW (v : Vw) (w : Nat) : Nat → Int32 := fun j => match j with
  | 0 => v 12 w
  | 1 => v 13 w
  | 2 => v 14 w
  | 3 => v 15 w
  | _ => 0
/-- how long a row of notes is -/
def tl (v : Vw) (c : Nat) : Nat := match c with
  | 2 => nH v
  | 3 => (v 16 3).toNatClampNeg
  | 5 => 9
  | _ => 5
def refs (n : Nat) (f : Nat → Nat) : vp_A := (n, .inr (.inr (.inr (.inr (fun i => some (f i))))))
def ent (g : Gm) (M : Mem) (o : Nat → Int64) : Key → va_E := fun k => match k.1 with
  | 0 => .inr (0, [.int (M k.2.1 3 k.2.2), .int (M k.2.1 4 k.2.2), .int (M k.2.1 5 k.2.2)])
  | 1 => .inr (2, [.int (M k.2.1 6 k.2.2), .int (M k.2.1 7 k.2.2), .int (M k.2.1 8 k.2.2), .int (M k.2.1 9 k.2.2), .int (M k.2.1 10 k.2.2), .int (M k.2.1 11 k.2.2)])
  | 2 => .inr (3, [.int (M k.2.1 12 k.2.2), .int (M k.2.1 13 k.2.2), .int (M k.2.1 14 k.2.2), .int (M k.2.1 15 k.2.2)])
  | 3 => .inr (1, [.ref (ad g (4, k.2.1, 0)), .ref (ad g (4, k.2.1, 1)), .ref (ad g (4, k.2.1, 2)), .ref (ad g (5, k.2.1, 0)), .ref (ad g (6, k.2.1, 0)), .ref (ad g (7, k.2.1, 0)), .int (M k.2.1 16 0), .int (M k.2.1 16 1), .int (M k.2.1 16 2), .int (M k.2.1 16 3), .int (M k.2.1 16 4)])
  | 4 => .inl (gC g 0, alen k.2.2, .inl (M k.2.1 k.2.2))
  | 5 => .inl (gC g 1, 12, .inr (.inr (.inr (.inr (fun i => some (ad g (0, k.2.1, i)))))))
  | 6 => .inl (gC g 2, 8, .inr (.inr (.inr (.inr (fun i => some (ad g (1, k.2.1, i)))))))
  | 7 => .inl (gC g 3, 3, .inr (.inr (.inr (.inr (fun i => some (ad g (2, k.2.1, i)))))))
  | 8 => .inr (4, [.ref (ad g (3, 0, 0)), .ref (ad g (3, 1, 0))])
  | 20 => .inr (5, [.ref (ad g (26, 0, 0)), .ref (ad g (26, 1, 0)), .ref (ad g (22, 0, 0)), .ref (ad g (27, 0, 0)), .ref (ad g (28, 2, 0)), .ref (ad g (29, 2, 0)), .int (M 2 16 4), .int (M 2 16 3)])
  | 21 => .inl (gC g 0, 9, .inl (rG (M 2) k.2.1 k.2.2))
  | 22 => .inl (gC g 0, 7, .inl (M 2 2))
  | 23 => .inl (gC g 0, 3, .inl (rH (M 2) k.2.2))
  | 24 => .inl (gC g 0, 6, .inl (rS (M k.2.1) k.2.2))
  | 25 => .inl (gC g 0, 4, .inl (rW (M k.2.1) k.2.2))
  | 26 => .inl (gC g 4, refs 9 (fun i => ad g (21, k.2.1, i)))
  | 27 => .inl (gC g 4, refs (nH (M 2)) (fun i => ad g (23, 0, i)))
  | 28 => .inl (gC g 4, refs (nS (M k.2.1)) (fun i => ad g (24, k.2.1, i)))
  | 29 => .inl (gC g 4, refs (nW (M k.2.1)) (fun i => ad g (25, k.2.1, i)))
  | _ => .inl (gC g 0, tl (M 3) k.2.1, .inl (M 3 k.2.1))
def KK (g : Gm) (k : Key) : Prop := match k.1 with
  | 0 => k.2.1 < 2 ∧ k.2.2 < 12
  | 1 => k.2.1 < 2 ∧ k.2.2 < 8
  | 2 => k.2.1 < 2 ∧ k.2.2 < 3
  | 3 => k.2.1 < 2 ∧ k.2.2 = 0
  | 4 => k.2.1 < 2 ∧ k.2.2 < 3
  | 5 => k.2.1 < 2 ∧ k.2.2 = 0
  | 6 => k.2.1 < 2 ∧ k.2.2 = 0
  | 7 => k.2.1 < 2 ∧ k.2.2 = 0
  | 8 => k.2.1 = 0 ∧ k.2.2 = 0
  | 20 => (k.2.1 = 0 ∧ k.2.2 = 0) ∧ lk g k
  | 21 => (k.2.1 < 2 ∧ k.2.2 < 9) ∧ lk g k
  | 22 => (k.2.1 = 0 ∧ k.2.2 = 0) ∧ lk g k
  | 23 => k.2.1 = 0 ∧ lk g k
  | 24 => (k.2.1 = 2 ∨ k.2.1 = 3) ∧ lk g k
  | 25 => (k.2.1 = 2 ∨ k.2.1 = 3) ∧ lk g k
  | 26 => (k.2.1 < 2 ∧ k.2.2 = 0) ∧ lk g k
  | 27 => (k.2.1 = 0 ∧ k.2.2 = 0) ∧ lk g k
  | 28 => ((k.2.1 = 2 ∨ k.2.1 = 3) ∧ k.2.2 = 0) ∧ lk g k
  | 29 => ((k.2.1 = 2 ∨ k.2.1 = 3) ∧ k.2.2 = 0) ∧ lk g k
  | 30 => (k.2.1 < 6 ∧ k.2.2 = 0) ∧ lk g k
  | _ => False
/-- which numbers a cell holds -/
def dep (k : Key) (r c i : Nat) : Prop := match k.1 with
  | 0 => k.2.1 = r ∧ k.2.2 = i ∧ 3 ≤ c ∧ c < 6
  | 1 => k.2.1 = r ∧ k.2.2 = i ∧ 6 ≤ c ∧ c < 12
  | 2 => k.2.1 = r ∧ k.2.2 = i ∧ 12 ≤ c ∧ c < 16
  | 3 => k.2.1 = r ∧ c = 16 ∧ i < 5
  | 4 => k.2.1 = r ∧ k.2.2 = c
  | 20 => r = 2 ∧ c = 16 ∧ (i = 3 ∨ i = 4)
  | 21 => r = 2 ∧ c = k.2.1 ∧ i % 9 = k.2.2 % 9
  | 22 => r = 2 ∧ c = 2
  | 23 => r = 2 ∧ k.2.2 = i ∧ 3 ≤ c ∧ c < 6
  | 24 => k.2.1 = r ∧ k.2.2 = i ∧ 6 ≤ c ∧ c < 12
  | 25 => k.2.1 = r ∧ k.2.2 = i ∧ 12 ≤ c ∧ c < 16
  | 27 => r = 2 ∧ c = 16 ∧ i = 0
  | 28 => k.2.1 = r ∧ c = 16 ∧ i = 1
  | 29 => k.2.1 = r ∧ c = 16 ∧ i = 2
  | 30 => r = 3 ∧ (c = k.2.1 ∨ (c = 16 ∧ ((i = 0 ∧ k.2.1 = 2) ∨ (i = 3 ∧ k.2.1 = 3))))
  | _ => False
def keyOf (r c i : Nat) : Key := if r < 2 then (if c = 16 then (3, r, 0) else if 3 ≤ c then (if c < 6 then (0, r, i) else if c < 12 then (1, r, i) else (2, r, i)) else (4, r, c)) else if r = 2 then (if c = 16 then (if i = 0 then (27, 0, 0) else if i = 1 then (28, 2, 0) else if i = 2 then (29, 2, 0) else (20, 0, 0)) else if c < 2 then (21, c, i % 9) else if c = 2 then (22, 0, 0) else if c < 6 then (23, 0, i) else if c < 12 then (24, 2, i) else (25, 2, i)) else (if c = 16 then (if i = 0 then (30, 2, 0) else if i = 1 then (28, r, 0) else if i = 2 then (29, r, 0) else (30, 3, 0)) else if c < 6 then (30, c, 0) else if c < 12 then (24, r, i) else (25, r, i))
theorem dep_key {g : Gm} {k : Key} {r c i : Nat} (hk : KK g k) (h : dep k r c i) : k = keyOf r c i := by
  obtain ⟨t, a, b⟩ := k
  unfold KK at hk
  unfold dep at h
  split at h <;> rename_i ht <;> simp only at ht h hk <;> (try subst ht) <;> simp only at hk
  · obtain ⟨rfl, rfl, h1, h2⟩ := h
    simp only [keyOf]
    rw [if_pos hk.1, if_neg (by omega), if_pos (by omega), if_pos h2]
  · obtain ⟨rfl, rfl, h1, h2⟩ := h
    simp only [keyOf]
    rw [if_pos hk.1, if_neg (by omega), if_pos (by omega), if_neg (by omega), if_pos h2]
  · obtain ⟨rfl, rfl, h1, h2⟩ := h
    simp only [keyOf]
    rw [if_pos hk.1, if_neg (by omega), if_pos (by omega), if_neg (by omega), if_neg (by omega)]
  · obtain ⟨rfl, rfl, h1⟩ := h
    simp only [keyOf]
    rw [if_pos hk.1, if_pos trivial, hk.2]
  · obtain ⟨rfl, rfl⟩ := h
    simp only [keyOf]
    rw [if_pos hk.1, if_neg (by omega), if_neg (by omega)]
  · obtain ⟨rfl, rfl, h1⟩ := h
    simp only [keyOf]
    rw [if_neg (by omega), if_pos trivial, if_pos trivial, if_neg (by omega), if_neg (by omega), if_neg (by omega), hk.1.1, hk.1.2]
  · obtain ⟨rfl, rfl, h1⟩ := h
    simp only [keyOf]
    rw [if_neg (by omega), if_pos trivial, if_neg (by omega), if_pos (by omega), h1, Nat.mod_eq_of_lt hk.1.2]
  · obtain ⟨rfl, rfl⟩ := h
    simp only [keyOf]
    rw [if_neg (by omega), if_pos trivial, if_neg (by omega), if_neg (by omega), if_pos trivial, hk.1.1, hk.1.2]
  · obtain ⟨rfl, rfl, h1, h2⟩ := h
    simp only [keyOf]
    rw [if_neg (by omega), if_pos trivial, if_neg (by omega), if_neg (by omega), if_neg (by omega), if_pos h2, hk.1]
  · obtain ⟨rfl, rfl, h1, h2⟩ := h
    simp only [keyOf]
    rcases hk.1 with rfl | rfl
    · rw [if_neg (by decide), if_pos rfl, if_neg (by omega), if_neg (by omega), if_neg (by omega), if_neg (by omega), if_pos h2]
    · rw [if_neg (by omega), if_neg (by omega), if_neg (by omega), if_neg (by omega), if_pos h2]
  · obtain ⟨rfl, rfl, h1, h2⟩ := h
    simp only [keyOf]
    rcases hk.1 with rfl | rfl
    · rw [if_neg (by decide), if_pos rfl, if_neg (by omega), if_neg (by omega), if_neg (by omega), if_neg (by omega), if_neg (by omega)]
    · rw [if_neg (by omega), if_neg (by omega), if_neg (by omega), if_neg (by omega), if_neg (by omega)]
  · obtain ⟨rfl, rfl, rfl⟩ := h
    simp only [keyOf]
    rw [if_neg (by omega), if_pos trivial, if_pos trivial, if_pos trivial, hk.1.1, hk.1.2]
  · obtain ⟨rfl, rfl, rfl⟩ := h
    simp only [keyOf]
    rw [hk.1.2]
    rcases hk.1.1 with rfl | rfl <;> rfl
  · obtain ⟨rfl, rfl, rfl⟩ := h
    simp only [keyOf]
    rw [hk.1.2]
    rcases hk.1.1 with rfl | rfl <;> rfl
  · obtain ⟨rfl, h1⟩ := h
    simp only [keyOf]
    rw [hk.1.2]
    rcases h1 with rfl | ⟨rfl, ⟨rfl, rfl⟩ | ⟨rfl, rfl⟩⟩
    · rw [if_neg (by decide), if_neg (by decide), if_neg (by omega), if_pos hk.1.1]
    · rfl
    · rfl
theorem rG_congr {v w : Vw} {c x : Nat} (h : ∀ i, i % 9 = x % 9 → w c i = v c i) : rG w c x = rG v c x := funext fun y => h (9 * y + x) (by omega)
theorem rH_congr {v w : Vw} {h : Nat} (e : ∀ c, 3 ≤ c → c < 6 → w c h = v c h) : rH w h = rH v h := by
  funext j
  unfold rH
  split
  · exact e 3 (by decide) (by decide)
  · exact e 4 (by decide) (by decide)
  · exact e 5 (by decide) (by decide)
  · rfl
theorem rS_congr {v w : Vw} {h : Nat} (e : ∀ c, 6 ≤ c → c < 12 → w c h = v c h) : rS w h = rS v h := by
  funext j
  unfold rS
  split
  · exact e 6 (by decide) (by decide)
  · exact e 7 (by decide) (by decide)
  · exact e 8 (by decide) (by decide)
  · exact e 9 (by decide) (by decide)
  · exact e 10 (by decide) (by decide)
  · exact e 11 (by decide) (by decide)
  · rfl
theorem rW_congr {v w : Vw} {h : Nat} (e : ∀ c, 12 ≤ c → c < 16 → w c h = v c h) : rW w h = rW v h := by
  funext j
  unfold rW
  split
  · exact e 12 (by decide) (by decide)
  · exact e 13 (by decide) (by decide)
  · exact e 14 (by decide) (by decide)
  · exact e 15 (by decide) (by decide)
  · rfl
theorem tl_congr {v w : Vw} {c : Nat} (h0 : c = 2 → w 16 0 = v 16 0) (h3 : c = 3 → w 16 3 = v 16 3) : tl w c = tl v c := by
  unfold tl
  split
  · unfold nH; rw [h0 rfl]
  · rw [h3 rfl]
  · rfl
  · rfl
theorem KK_tag {g : Gm} {k : Key} (hk : KK g k) : k.1 < 9 ∨ (20 ≤ k.1 ∧ k.1 < 31) := by
  unfold KK at hk
  split at hk <;> first | omega | exact hk.elim
theorem ent_congr {g : Gm} {M M' : Mem} {o : Nat → Int64} {k : Key} (hk : KK g k) (h : ∀ r c i, dep k r c i → M' r c i = M r c i) : ent g M' o k = ent g M o k := by
  obtain ⟨t, a, b⟩ := k
  have ht := KK_tag hk
  have ht : t < 9 ∨ (20 ≤ t ∧ t < 31) := ht
  have ht : t = 0 ∨ t = 1 ∨ t = 2 ∨ t = 3 ∨ t = 4 ∨ t = 5 ∨ t = 6 ∨ t = 7 ∨ t = 8 ∨ t = 20 ∨ t = 21 ∨ t = 22 ∨ t = 23 ∨ t = 24 ∨ t = 25 ∨ t = 26 ∨ t = 27 ∨ t = 28 ∨ t = 29 ∨ t = 30 := by omega
  rcases ht with rfl | rfl | rfl | rfl | rfl | rfl | rfl | rfl | rfl | rfl | rfl | rfl | rfl | rfl | rfl | rfl | rfl | rfl | rfl | rfl <;> simp only [dep] at h <;> simp only [KK] at hk <;> simp only [ent]
  · rw [h a 3 b ⟨rfl, rfl, by omega, by omega⟩, h a 4 b ⟨rfl, rfl, by omega, by omega⟩, h a 5 b ⟨rfl, rfl, by omega, by omega⟩]
  · rw [h a 6 b ⟨rfl, rfl, by omega, by omega⟩, h a 7 b ⟨rfl, rfl, by omega, by omega⟩, h a 8 b ⟨rfl, rfl, by omega, by omega⟩, h a 9 b ⟨rfl, rfl, by omega, by omega⟩, h a 10 b ⟨rfl, rfl, by omega, by omega⟩, h a 11 b ⟨rfl, rfl, by omega, by omega⟩]
  · rw [h a 12 b ⟨rfl, rfl, by omega, by omega⟩, h a 13 b ⟨rfl, rfl, by omega, by omega⟩, h a 14 b ⟨rfl, rfl, by omega, by omega⟩, h a 15 b ⟨rfl, rfl, by omega, by omega⟩]
  · rw [h a 16 0 ⟨rfl, rfl, by omega⟩, h a 16 1 ⟨rfl, rfl, by omega⟩, h a 16 2 ⟨rfl, rfl, by omega⟩, h a 16 3 ⟨rfl, rfl, by omega⟩, h a 16 4 ⟨rfl, rfl, by omega⟩]
  · rw [show M' a b = M a b from funext fun i => h a b i ⟨rfl, rfl⟩]
  · rw [h 2 16 4 ⟨rfl, rfl, by omega⟩, h 2 16 3 ⟨rfl, rfl, by omega⟩]
  · rw [rG_congr (v := M 2) (w := M' 2) fun i hi => h 2 a i ⟨rfl, rfl, hi⟩]
  · rw [show M' 2 2 = M 2 2 from funext fun i => h 2 2 i ⟨rfl, rfl⟩]
  · rw [rH_congr (v := M 2) (w := M' 2) fun c h1 h2 => h 2 c b ⟨rfl, rfl, h1, h2⟩]
  · rw [rS_congr (v := M a) (w := M' a) fun c h1 h2 => h a c b ⟨rfl, rfl, h1, h2⟩]
  · rw [rW_congr (v := M a) (w := M' a) fun c h1 h2 => h a c b ⟨rfl, rfl, h1, h2⟩]
  · unfold nH
    rw [h 2 16 0 ⟨rfl, rfl, rfl⟩]
  · unfold nS
    rw [h a 16 1 ⟨rfl, rfl, rfl⟩]
  · unfold nW
    rw [h a 16 2 ⟨rfl, rfl, rfl⟩]
  · rw [show M' 3 a = M 3 a from funext fun i => h 3 a i ⟨rfl, Or.inl rfl⟩, tl_congr (v := M 3) (w := M' 3) (fun q => h 3 16 0 ⟨rfl, Or.inr ⟨rfl, Or.inl ⟨rfl, q⟩⟩⟩) (fun q => h 3 16 3 ⟨rfl, Or.inr ⟨rfl, Or.inr ⟨rfl, q⟩⟩⟩)]
/-- the world -/
abbrev WP (g : Gm) (M : Mem) (o : Nat → Int64) (H : Heap) : Prop := WPe g (KK g) (ent g M o) H
theorem WP.cast {g : Gm} {M M' : Mem} {o : Nat → Int64} {H : Heap} (h : WP g M o H) (e : M' = M) : WP g M' o H := by rw [e]; exact h
theorem WPe.castR {g : Gm} {M : Mem} {r : Nat} {v w : Vw} {o : Nat → Int64} {H : Heap} (h : WP g (setR M r v) o H) (e : w = v) : WP g (setR M r w) o H := by rw [e]; exact h
theorem WPe.castD {g : Gm} {M M' : Mem} {o : Nat → Int64} {H : Heap} (h : WP g M o H) (e : ∀ k, KK g k → ∀ r c i, dep k r c i → M' r c i = M r c i) : WP g M' o H := WPe.cast h (fun k hk => ent_congr hk (e k hk))
/-- one number written: the other cells stay -/
theorem ent_put (g : Gm) (M : Mem) (r : Nat) (v : Vw) (o : Nat → Int64) (c i : Nat) (x : Int32) {k : Key} (hk : keyOf r c i = k) : ∀ j, KK g j → j ≠ k → ent g (setR M r (up2 v c i x)) o j = ent g (setR M r v) o j := by
  intro j hj hne
  refine ent_congr hj fun r' c' i' hd => ?_
  by_cases h : r' = r
  · subst h
    rw [setR_same, setR_same]
    by_cases hc : c' = c
    · subst hc
      by_cases hi : i' = i
      · subst hi
        exact absurd ((dep_key hj hd).trans hk) hne
      · exact up2_i hi
    · exact up2_c hc
  · rw [setR_ne _ _ h, setR_ne _ _ h]
/-- the keys of the cells -/
theorem k_0 {g : Gm} {r h : Nat} (hr : r < 2) (hh : h < 12) : KK g (0, r, h) := ⟨hr, hh⟩
theorem k_1 {g : Gm} {r h : Nat} (hr : r < 2) (hh : h < 8) : KK g (1, r, h) := ⟨hr, hh⟩
theorem k_2 {g : Gm} {r h : Nat} (hr : r < 2) (hh : h < 3) : KK g (2, r, h) := ⟨hr, hh⟩
theorem k_3 {g : Gm} {r : Nat} (hr : r < 2) : KK g (3, r, 0) := ⟨hr, rfl⟩
theorem k_4 {g : Gm} {r c : Nat} (hr : r < 2) (hc : c < 3) : KK g (4, r, c) := ⟨hr, hc⟩
theorem k_5 {g : Gm} {r : Nat} (hr : r < 2) : KK g (5, r, 0) := ⟨hr, rfl⟩
theorem k_6 {g : Gm} {r : Nat} (hr : r < 2) : KK g (6, r, 0) := ⟨hr, rfl⟩
theorem k_7 {g : Gm} {r : Nat} (hr : r < 2) : KK g (7, r, 0) := ⟨hr, rfl⟩
theorem k_8 {g : Gm} : KK g (8, 0, 0) := ⟨rfl, rfl⟩

theorem e_0 {g : Gm} {M : Mem} {r : Nat} {v : Vw} {o : Nat → Int64} {h : Nat} : ent g (setR M r v) o (0, r, h) = .inr (0, [.int (v 3 h), .int (v 4 h), .int (v 5 h)]) := by
  show Sum.inr _ = _
  simp only [setR_same]
theorem f_0 {g : Gm} {M : Mem} {o : Nat → Int64} {r : Nat} {h : Nat} : ent g M o (0, r, h) = .inr (0, [.int (M r 3 h), .int (M r 4 h), .int (M r 5 h)]) := rfl
theorem p_0_0 {g : Gm} {M : Mem} {r : Nat} {v : Vw} {o : Nat → Int64} {x : Int32} {h : Nat} : ent g (setR M r (up2 v 3 h x)) o (0, r, h) = .inr (0, ([.int (v 3 h), .int (v 4 h), .int (v 5 h)] : List Value).set 0 (.int x)) := by
  rw [e_0]
  simp [up2]
theorem p_0_1 {g : Gm} {M : Mem} {r : Nat} {v : Vw} {o : Nat → Int64} {x : Int32} {h : Nat} : ent g (setR M r (up2 v 4 h x)) o (0, r, h) = .inr (0, ([.int (v 3 h), .int (v 4 h), .int (v 5 h)] : List Value).set 1 (.int x)) := by
  rw [e_0]
  simp [up2]
theorem p_0_2 {g : Gm} {M : Mem} {r : Nat} {v : Vw} {o : Nat → Int64} {x : Int32} {h : Nat} : ent g (setR M r (up2 v 5 h x)) o (0, r, h) = .inr (0, ([.int (v 3 h), .int (v 4 h), .int (v 5 h)] : List Value).set 2 (.int x)) := by
  rw [e_0]
  simp [up2]
theorem e_1 {g : Gm} {M : Mem} {r : Nat} {v : Vw} {o : Nat → Int64} {h : Nat} : ent g (setR M r v) o (1, r, h) = .inr (2, [.int (v 6 h), .int (v 7 h), .int (v 8 h), .int (v 9 h), .int (v 10 h), .int (v 11 h)]) := by
  show Sum.inr _ = _
  simp only [setR_same]
theorem f_1 {g : Gm} {M : Mem} {o : Nat → Int64} {r : Nat} {h : Nat} : ent g M o (1, r, h) = .inr (2, [.int (M r 6 h), .int (M r 7 h), .int (M r 8 h), .int (M r 9 h), .int (M r 10 h), .int (M r 11 h)]) := rfl
theorem p_1_0 {g : Gm} {M : Mem} {r : Nat} {v : Vw} {o : Nat → Int64} {x : Int32} {h : Nat} : ent g (setR M r (up2 v 6 h x)) o (1, r, h) = .inr (2, ([.int (v 6 h), .int (v 7 h), .int (v 8 h), .int (v 9 h), .int (v 10 h), .int (v 11 h)] : List Value).set 0 (.int x)) := by
  rw [e_1]
  simp [up2]
theorem p_1_1 {g : Gm} {M : Mem} {r : Nat} {v : Vw} {o : Nat → Int64} {x : Int32} {h : Nat} : ent g (setR M r (up2 v 7 h x)) o (1, r, h) = .inr (2, ([.int (v 6 h), .int (v 7 h), .int (v 8 h), .int (v 9 h), .int (v 10 h), .int (v 11 h)] : List Value).set 1 (.int x)) := by
  rw [e_1]
  simp [up2]
theorem p_1_2 {g : Gm} {M : Mem} {r : Nat} {v : Vw} {o : Nat → Int64} {x : Int32} {h : Nat} : ent g (setR M r (up2 v 8 h x)) o (1, r, h) = .inr (2, ([.int (v 6 h), .int (v 7 h), .int (v 8 h), .int (v 9 h), .int (v 10 h), .int (v 11 h)] : List Value).set 2 (.int x)) := by
  rw [e_1]
  simp [up2]
theorem p_1_3 {g : Gm} {M : Mem} {r : Nat} {v : Vw} {o : Nat → Int64} {x : Int32} {h : Nat} : ent g (setR M r (up2 v 9 h x)) o (1, r, h) = .inr (2, ([.int (v 6 h), .int (v 7 h), .int (v 8 h), .int (v 9 h), .int (v 10 h), .int (v 11 h)] : List Value).set 3 (.int x)) := by
  rw [e_1]
  simp [up2]
theorem p_1_4 {g : Gm} {M : Mem} {r : Nat} {v : Vw} {o : Nat → Int64} {x : Int32} {h : Nat} : ent g (setR M r (up2 v 10 h x)) o (1, r, h) = .inr (2, ([.int (v 6 h), .int (v 7 h), .int (v 8 h), .int (v 9 h), .int (v 10 h), .int (v 11 h)] : List Value).set 4 (.int x)) := by
  rw [e_1]
  simp [up2]
theorem p_1_5 {g : Gm} {M : Mem} {r : Nat} {v : Vw} {o : Nat → Int64} {x : Int32} {h : Nat} : ent g (setR M r (up2 v 11 h x)) o (1, r, h) = .inr (2, ([.int (v 6 h), .int (v 7 h), .int (v 8 h), .int (v 9 h), .int (v 10 h), .int (v 11 h)] : List Value).set 5 (.int x)) := by
  rw [e_1]
  simp [up2]
theorem e_2 {g : Gm} {M : Mem} {r : Nat} {v : Vw} {o : Nat → Int64} {h : Nat} : ent g (setR M r v) o (2, r, h) = .inr (3, [.int (v 12 h), .int (v 13 h), .int (v 14 h), .int (v 15 h)]) := by
  show Sum.inr _ = _
  simp only [setR_same]
theorem f_2 {g : Gm} {M : Mem} {o : Nat → Int64} {r : Nat} {h : Nat} : ent g M o (2, r, h) = .inr (3, [.int (M r 12 h), .int (M r 13 h), .int (M r 14 h), .int (M r 15 h)]) := rfl
theorem p_2_0 {g : Gm} {M : Mem} {r : Nat} {v : Vw} {o : Nat → Int64} {x : Int32} {h : Nat} : ent g (setR M r (up2 v 12 h x)) o (2, r, h) = .inr (3, ([.int (v 12 h), .int (v 13 h), .int (v 14 h), .int (v 15 h)] : List Value).set 0 (.int x)) := by
  rw [e_2]
  simp [up2]
theorem p_2_1 {g : Gm} {M : Mem} {r : Nat} {v : Vw} {o : Nat → Int64} {x : Int32} {h : Nat} : ent g (setR M r (up2 v 13 h x)) o (2, r, h) = .inr (3, ([.int (v 12 h), .int (v 13 h), .int (v 14 h), .int (v 15 h)] : List Value).set 1 (.int x)) := by
  rw [e_2]
  simp [up2]
theorem p_2_2 {g : Gm} {M : Mem} {r : Nat} {v : Vw} {o : Nat → Int64} {x : Int32} {h : Nat} : ent g (setR M r (up2 v 14 h x)) o (2, r, h) = .inr (3, ([.int (v 12 h), .int (v 13 h), .int (v 14 h), .int (v 15 h)] : List Value).set 2 (.int x)) := by
  rw [e_2]
  simp [up2]
theorem p_2_3 {g : Gm} {M : Mem} {r : Nat} {v : Vw} {o : Nat → Int64} {x : Int32} {h : Nat} : ent g (setR M r (up2 v 15 h x)) o (2, r, h) = .inr (3, ([.int (v 12 h), .int (v 13 h), .int (v 14 h), .int (v 15 h)] : List Value).set 3 (.int x)) := by
  rw [e_2]
  simp [up2]
theorem e_3 {g : Gm} {M : Mem} {r : Nat} {v : Vw} {o : Nat → Int64} : ent g (setR M r v) o (3, r, 0) = .inr (1, [.ref (ad g (4, r, 0)), .ref (ad g (4, r, 1)), .ref (ad g (4, r, 2)), .ref (ad g (5, r, 0)), .ref (ad g (6, r, 0)), .ref (ad g (7, r, 0)), .int (v 16 0), .int (v 16 1), .int (v 16 2), .int (v 16 3), .int (v 16 4)]) := by
  show Sum.inr _ = _
  simp only [setR_same]
theorem f_3 {g : Gm} {M : Mem} {o : Nat → Int64} {r : Nat} : ent g M o (3, r, 0) = .inr (1, [.ref (ad g (4, r, 0)), .ref (ad g (4, r, 1)), .ref (ad g (4, r, 2)), .ref (ad g (5, r, 0)), .ref (ad g (6, r, 0)), .ref (ad g (7, r, 0)), .int (M r 16 0), .int (M r 16 1), .int (M r 16 2), .int (M r 16 3), .int (M r 16 4)]) := rfl
theorem p_3_6 {g : Gm} {M : Mem} {r : Nat} {v : Vw} {o : Nat → Int64} {x : Int32} : ent g (setR M r (up2 v 16 0 x)) o (3, r, 0) = .inr (1, ([.ref (ad g (4, r, 0)), .ref (ad g (4, r, 1)), .ref (ad g (4, r, 2)), .ref (ad g (5, r, 0)), .ref (ad g (6, r, 0)), .ref (ad g (7, r, 0)), .int (v 16 0), .int (v 16 1), .int (v 16 2), .int (v 16 3), .int (v 16 4)] : List Value).set 6 (.int x)) := by
  rw [e_3]
  simp [up2]
theorem p_3_7 {g : Gm} {M : Mem} {r : Nat} {v : Vw} {o : Nat → Int64} {x : Int32} : ent g (setR M r (up2 v 16 1 x)) o (3, r, 0) = .inr (1, ([.ref (ad g (4, r, 0)), .ref (ad g (4, r, 1)), .ref (ad g (4, r, 2)), .ref (ad g (5, r, 0)), .ref (ad g (6, r, 0)), .ref (ad g (7, r, 0)), .int (v 16 0), .int (v 16 1), .int (v 16 2), .int (v 16 3), .int (v 16 4)] : List Value).set 7 (.int x)) := by
  rw [e_3]
  simp [up2]
theorem p_3_8 {g : Gm} {M : Mem} {r : Nat} {v : Vw} {o : Nat → Int64} {x : Int32} : ent g (setR M r (up2 v 16 2 x)) o (3, r, 0) = .inr (1, ([.ref (ad g (4, r, 0)), .ref (ad g (4, r, 1)), .ref (ad g (4, r, 2)), .ref (ad g (5, r, 0)), .ref (ad g (6, r, 0)), .ref (ad g (7, r, 0)), .int (v 16 0), .int (v 16 1), .int (v 16 2), .int (v 16 3), .int (v 16 4)] : List Value).set 8 (.int x)) := by
  rw [e_3]
  simp [up2]
theorem p_3_9 {g : Gm} {M : Mem} {r : Nat} {v : Vw} {o : Nat → Int64} {x : Int32} : ent g (setR M r (up2 v 16 3 x)) o (3, r, 0) = .inr (1, ([.ref (ad g (4, r, 0)), .ref (ad g (4, r, 1)), .ref (ad g (4, r, 2)), .ref (ad g (5, r, 0)), .ref (ad g (6, r, 0)), .ref (ad g (7, r, 0)), .int (v 16 0), .int (v 16 1), .int (v 16 2), .int (v 16 3), .int (v 16 4)] : List Value).set 9 (.int x)) := by
  rw [e_3]
  simp [up2]
theorem p_3_10 {g : Gm} {M : Mem} {r : Nat} {v : Vw} {o : Nat → Int64} {x : Int32} : ent g (setR M r (up2 v 16 4 x)) o (3, r, 0) = .inr (1, ([.ref (ad g (4, r, 0)), .ref (ad g (4, r, 1)), .ref (ad g (4, r, 2)), .ref (ad g (5, r, 0)), .ref (ad g (6, r, 0)), .ref (ad g (7, r, 0)), .int (v 16 0), .int (v 16 1), .int (v 16 2), .int (v 16 3), .int (v 16 4)] : List Value).set 10 (.int x)) := by
  rw [e_3]
  simp [up2]
theorem e_20 {g : Gm} {M : Mem} {v : Vw} {o : Nat → Int64} : ent g (setR M 2 v) o (20, 0, 0) = .inr (5, [.ref (ad g (26, 0, 0)), .ref (ad g (26, 1, 0)), .ref (ad g (22, 0, 0)), .ref (ad g (27, 0, 0)), .ref (ad g (28, 2, 0)), .ref (ad g (29, 2, 0)), .int (v 16 4), .int (v 16 3)]) := by
  show Sum.inr _ = _
  simp only [setR_same]
theorem f_20 {g : Gm} {M : Mem} {o : Nat → Int64} : ent g M o (20, 0, 0) = .inr (5, [.ref (ad g (26, 0, 0)), .ref (ad g (26, 1, 0)), .ref (ad g (22, 0, 0)), .ref (ad g (27, 0, 0)), .ref (ad g (28, 2, 0)), .ref (ad g (29, 2, 0)), .int (M 2 16 4), .int (M 2 16 3)]) := rfl
theorem p_20_6 {g : Gm} {M : Mem} {v : Vw} {o : Nat → Int64} {x : Int32} : ent g (setR M 2 (up2 v 16 4 x)) o (20, 0, 0) = .inr (5, ([.ref (ad g (26, 0, 0)), .ref (ad g (26, 1, 0)), .ref (ad g (22, 0, 0)), .ref (ad g (27, 0, 0)), .ref (ad g (28, 2, 0)), .ref (ad g (29, 2, 0)), .int (v 16 4), .int (v 16 3)] : List Value).set 6 (.int x)) := by
  rw [e_20]
  simp [up2]
theorem p_20_7 {g : Gm} {M : Mem} {v : Vw} {o : Nat → Int64} {x : Int32} : ent g (setR M 2 (up2 v 16 3 x)) o (20, 0, 0) = .inr (5, ([.ref (ad g (26, 0, 0)), .ref (ad g (26, 1, 0)), .ref (ad g (22, 0, 0)), .ref (ad g (27, 0, 0)), .ref (ad g (28, 2, 0)), .ref (ad g (29, 2, 0)), .int (v 16 4), .int (v 16 3)] : List Value).set 7 (.int x)) := by
  rw [e_20]
  simp [up2]
theorem kf_0 {r h c : Nat} (hr : r < 2) (h1 : 3 ≤ c) (h2 : c < 6) : keyOf r c h = (0, r, h) := by
  unfold keyOf
  rw [if_pos hr, if_neg (by omega), if_pos h1, if_pos h2]
theorem kf_1 {r h c : Nat} (hr : r < 2) (h1 : 6 ≤ c) (h2 : c < 12) : keyOf r c h = (1, r, h) := by
  unfold keyOf
  rw [if_pos hr, if_neg (by omega), if_pos (by omega), if_neg (by omega), if_pos h2]
theorem kf_2 {r h c : Nat} (hr : r < 2) (h1 : 12 ≤ c) (h2 : c < 16) : keyOf r c h = (2, r, h) := by
  unfold keyOf
  rw [if_pos hr, if_neg (by omega), if_pos (by omega), if_neg (by omega), if_neg (by omega)]
theorem kf_3 {r i : Nat} (hr : r < 2) : keyOf r 16 i = (3, r, 0) := by
  unfold keyOf
  rw [if_pos hr, if_pos rfl]
theorem kf_4 {r c i : Nat} (hr : r < 2) (hc : c < 3) : keyOf r c i = (4, r, c) := by
  unfold keyOf
  rw [if_pos hr, if_neg (by omega), if_neg (by omega)]
theorem kf_20 {i : Nat} (hi : 3 ≤ i) : keyOf 2 16 i = (20, 0, 0) := by
  unfold keyOf
  rw [if_neg (by decide), if_pos rfl, if_pos rfl, if_neg (by omega), if_neg (by omega), if_neg (by omega)]
theorem kf_21 {c i x : Nat} (hc : c < 2) (h : i % 9 = x) : keyOf 2 c i = (21, c, x) := by
  subst h
  unfold keyOf
  rw [if_neg (by decide), if_pos rfl, if_neg (by omega), if_pos hc]
theorem kf_22 {i : Nat} : keyOf 2 2 i = (22, 0, 0) := rfl
theorem kf_23 {c h : Nat} (h1 : 3 ≤ c) (h2 : c < 6) : keyOf 2 c h = (23, 0, h) := by
  unfold keyOf
  rw [if_neg (by decide), if_pos rfl, if_neg (by omega), if_neg (by omega), if_neg (by omega), if_pos h2]
theorem kf_24 {r c h : Nat} (hr : r = 2 ∨ r = 3) (h1 : 6 ≤ c) (h2 : c < 12) : keyOf r c h = (24, r, h) := by
  unfold keyOf
  rcases hr with rfl | rfl
  · rw [if_neg (by decide), if_pos rfl, if_neg (by omega), if_neg (by omega), if_neg (by omega), if_neg (by omega), if_pos h2]
  · rw [if_neg (by decide), if_neg (by decide), if_neg (by omega), if_neg (by omega), if_pos h2]
theorem kf_25 {r c h : Nat} (hr : r = 2 ∨ r = 3) (h1 : 12 ≤ c) (h2 : c < 16) : keyOf r c h = (25, r, h) := by
  unfold keyOf
  rcases hr with rfl | rfl
  · rw [if_neg (by decide), if_pos rfl, if_neg (by omega), if_neg (by omega), if_neg (by omega), if_neg (by omega), if_neg (by omega)]
  · rw [if_neg (by decide), if_neg (by decide), if_neg (by omega), if_neg (by omega), if_neg (by omega)]
theorem kf_30 {c i : Nat} (hc : c < 6) : keyOf 3 c i = (30, c, 0) := by
  unfold keyOf
  rw [if_neg (by decide), if_neg (by decide), if_neg (by omega), if_pos hc]
theorem e_4 {g : Gm} {M : Mem} {r c : Nat} {v : Vw} {o : Nat → Int64} : ent g (setR M r v) o (4, r, c) = .inl (gC g 0, alen c, .inl (v c)) := by
  show Sum.inl _ = _
  simp only [setR_same]
theorem p_4 {g : Gm} {M : Mem} {r c i : Nat} {v : Vw} {o : Nat → Int64} {x : Int32} : ent g (setR M r (up2 v c i x)) o (4, r, c) = .inl (gC g 0, alen c, .inl (upd (v c) i x)) := by
  rw [e_4, up2_upd]
theorem f_4 {g : Gm} {M : Mem} {r c : Nat} {o : Nat → Int64} : ent g M o (4, r, c) = .inl (gC g 0, alen c, .inl (M r c)) := rfl
theorem f_5 {g : Gm} {M : Mem} {r : Nat} {o : Nat → Int64} : ent g M o (5, r, 0) = .inl (gC g 1, 12, .inr (.inr (.inr (.inr (fun i => some (ad g (0, r, i))))))) := rfl
theorem f_6 {g : Gm} {M : Mem} {r : Nat} {o : Nat → Int64} : ent g M o (6, r, 0) = .inl (gC g 2, 8, .inr (.inr (.inr (.inr (fun i => some (ad g (1, r, i))))))) := rfl
theorem f_7 {g : Gm} {M : Mem} {r : Nat} {o : Nat → Int64} : ent g M o (7, r, 0) = .inl (gC g 3, 3, .inr (.inr (.inr (.inr (fun i => some (ad g (2, r, i))))))) := rfl
theorem f_8 {g : Gm} {M : Mem} {o : Nat → Int64} : ent g M o (8, 0, 0) = .inr (4, [.ref (ad g (3, 0, 0)), .ref (ad g (3, 1, 0))]) := rfl
/-- the law's own arrays: as they are, and with one number written -/
theorem rG_up {v : Vw} {c x y : Nat} {z : Int32} (hx : x < 9) : rG (up2 v c (9 * y + x) z) c x = upd (rG v c x) y z := by
  funext j
  unfold rG up2 upd
  by_cases h : j = y
  · subst h; simp
  · rw [if_neg (fun q => h (by omega)), if_neg h]
theorem rH_up {v : Vw} {h j : Nat} {z : Int32} (hj : j < 3) : rH (up2 v (3 + j) h z) h = upd (rH v h) j z := by
  have : j = 0 ∨ j = 1 ∨ j = 2 := by omega
  funext q
  rcases this with rfl | rfl | rfl <;> rcases q with _ | _ | _ | q <;> simp [rH, up2, upd]
theorem rS_up {v : Vw} {h j : Nat} {z : Int32} (hj : j < 6) : rS (up2 v (6 + j) h z) h = upd (rS v h) j z := by
  have : j = 0 ∨ j = 1 ∨ j = 2 ∨ j = 3 ∨ j = 4 ∨ j = 5 := by omega
  funext q
  rcases this with rfl | rfl | rfl | rfl | rfl | rfl <;> rcases q with _ | _ | _ | _ | _ | _ | q <;> simp [rS, up2, upd]
theorem rW_up {v : Vw} {h j : Nat} {z : Int32} (hj : j < 4) : rW (up2 v (12 + j) h z) h = upd (rW v h) j z := by
  have : j = 0 ∨ j = 1 ∨ j = 2 ∨ j = 3 := by omega
  funext q
  rcases this with rfl | rfl | rfl | rfl <;> rcases q with _ | _ | _ | _ | q <;> simp [rW, up2, upd]
theorem e_21 {g : Gm} {M : Mem} {v : Vw} {o : Nat → Int64} {c x : Nat} : ent g (setR M 2 v) o (21, c, x) = .inl (gC g 0, 9, .inl (rG v c x)) := by
  show Sum.inl _ = _
  simp only [setR_same]
theorem p_21 {g : Gm} {M : Mem} {v : Vw} {o : Nat → Int64} {c x y : Nat} {z : Int32} (hx : x < 9) : ent g (setR M 2 (up2 v c (9 * y + x) z)) o (21, c, x) = .inl (gC g 0, 9, .inl (upd (rG v c x) y z)) := by rw [e_21, rG_up hx]
theorem e_22 {g : Gm} {M : Mem} {v : Vw} {o : Nat → Int64} : ent g (setR M 2 v) o (22, 0, 0) = .inl (gC g 0, 7, .inl (v 2)) := by
  show Sum.inl _ = _
  simp only [setR_same]
theorem p_22 {g : Gm} {M : Mem} {v : Vw} {o : Nat → Int64} {y : Nat} {z : Int32} : ent g (setR M 2 (up2 v 2 y z)) o (22, 0, 0) = .inl (gC g 0, 7, .inl (upd (v 2) y z)) := by rw [e_22, up2_upd]
theorem e_23 {g : Gm} {M : Mem} {v : Vw} {o : Nat → Int64} {h : Nat} : ent g (setR M 2 v) o (23, 0, h) = .inl (gC g 0, 3, .inl (rH v h)) := by
  show Sum.inl _ = _
  simp only [setR_same]
theorem p_23 {g : Gm} {M : Mem} {v : Vw} {o : Nat → Int64} {h : Nat} (j : Nat) {z : Int32} (hj : j < 3) : ent g (setR M 2 (up2 v (3 + j) h z)) o (23, 0, h) = .inl (gC g 0, 3, .inl (upd (rH v h) j z)) := by rw [e_23, rH_up hj]
theorem e_24 {g : Gm} {M : Mem} {r : Nat} {v : Vw} {o : Nat → Int64} {h : Nat} : ent g (setR M r v) o (24, r, h) = .inl (gC g 0, 6, .inl (rS v h)) := by
  show Sum.inl _ = _
  simp only [setR_same]
theorem p_24 {g : Gm} {M : Mem} {r : Nat} {v : Vw} {o : Nat → Int64} {h : Nat} (j : Nat) {z : Int32} (hj : j < 6) : ent g (setR M r (up2 v (6 + j) h z)) o (24, r, h) = .inl (gC g 0, 6, .inl (upd (rS v h) j z)) := by rw [e_24, rS_up hj]
theorem e_25 {g : Gm} {M : Mem} {r : Nat} {v : Vw} {o : Nat → Int64} {h : Nat} : ent g (setR M r v) o (25, r, h) = .inl (gC g 0, 4, .inl (rW v h)) := by
  show Sum.inl _ = _
  simp only [setR_same]
theorem p_25 {g : Gm} {M : Mem} {r : Nat} {v : Vw} {o : Nat → Int64} {h : Nat} (j : Nat) {z : Int32} (hj : j < 4) : ent g (setR M r (up2 v (12 + j) h z)) o (25, r, h) = .inl (gC g 0, 4, .inl (upd (rW v h) j z)) := by rw [e_25, rW_up hj]
theorem f_26 {g : Gm} {M : Mem} {o : Nat → Int64} {c : Nat} : ent g M o (26, c, 0) = .inl (gC g 4, 9, .inr (.inr (.inr (.inr (fun i => some (ad g (21, c, i))))))) := rfl
theorem e_27 {g : Gm} {M : Mem} {v : Vw} {o : Nat → Int64} : ent g (setR M 2 v) o (27, 0, 0) = .inl (gC g 4, nH v, .inr (.inr (.inr (.inr (fun i => some (ad g (23, 0, i))))))) := by
  show Sum.inl _ = _
  simp only [setR_same]
  rfl
theorem e_28 {g : Gm} {M : Mem} {r : Nat} {v : Vw} {o : Nat → Int64} : ent g (setR M r v) o (28, r, 0) = .inl (gC g 4, nS v, .inr (.inr (.inr (.inr (fun i => some (ad g (24, r, i))))))) := by
  show Sum.inl _ = _
  simp only [setR_same]
  rfl
theorem e_29 {g : Gm} {M : Mem} {r : Nat} {v : Vw} {o : Nat → Int64} : ent g (setR M r v) o (29, r, 0) = .inl (gC g 4, nW v, .inr (.inr (.inr (.inr (fun i => some (ad g (25, r, i))))))) := by
  show Sum.inl _ = _
  simp only [setR_same]
  rfl
theorem e_30 {g : Gm} {M : Mem} {v : Vw} {o : Nat → Int64} {c : Nat} : ent g (setR M 3 v) o (30, c, 0) = .inl (gC g 0, tl v c, .inl (v c)) := by
  show Sum.inl _ = _
  simp only [setR_same]
theorem p_30 {g : Gm} {M : Mem} {v : Vw} {o : Nat → Int64} {c i : Nat} {x : Int32} (hc : c < 6) : ent g (setR M 3 (up2 v c i x)) o (30, c, 0) = .inl (gC g 0, tl v c, .inl (upd (v c) i x)) := by
  rw [e_30, up2_upd, tl_congr (v := v) (fun _ => up2_c (by omega)) (fun _ => up2_c (by omega))]
end
section
/-! Words of the pictures; the loop; how each method is called. -/
def b2i (b : Bool) : Int32 := if b then 1 else 0
theorem b2i_t {b : Bool} (h : ¬ b2i b = 0) : b = true := by cases b <;> first | rfl | exact absurd rfl h
theorem b2i_f {b : Bool} (h : b2i b = 0) : b = false := by cases b <;> first | rfl | exact absurd h (by decide)
theorem b2i_0 {b : Bool} (h : b = false) : b2i b = 0 := by rw [h]; rfl
theorem b2i_1 {b : Bool} (h : b = true) : ¬ b2i b = 0 := by rw [h]; decide
theorem nar_b (b : Bool) : narrow .boolean (.int (b2i b)) = .int (b2i b) := by cases b <;> rfl
def isIn (v lo hi : Int32) : Bool := !decide (v < lo) && !decide (hi < v)
def isCell (x y : Int32) : Bool := isIn x 0 8 && isIn y 0 8
abbrev imax (x y : Int32) : Int32 := if x < y then y else x
abbrev imin (x y : Int32) : Int32 := if y < x then y else x
abbrev iabs (x : Int32) : Int32 := if 0 ≤ x then x else 0 - x
def far (x y a b : Int32) : Int32 := imax (iabs (x - a)) (iabs (y - b))
def it {α : Type} (f : Nat → α → α) : Nat → α → α
  | 0, x => x
  | n + 1, x => f n (it f n x)
theorem it_0 {α : Type} (f : Nat → α → α) (x : α) : it f 0 x = x := rfl
theorem it_s {α : Type} (f : Nat → α → α) (n : Nat) (x : α) : it f (n + 1) x = f n (it f n x) := rfl
theorem isIn_iff {v lo hi : Int32} : isIn v lo hi = true ↔ lo.toInt ≤ v.toInt ∧ v.toInt ≤ hi.toInt := by
  simp only [isIn, Bool.and_eq_true, Bool.not_eq_true', decide_eq_false_iff_not, Int32.lt_iff_toInt_lt]
  omega
/-- a number of 0 to n - 1 -/
theorem in_of {v hi : Int32} {n : Nat} (h : isIn v 0 hi = true) (e : hi.toInt + 1 = n) (hn : n < 2 ^ 31) : ∃ j : Nat, j < n ∧ v = nI j := by
  have h1 := isIn_iff.mp h
  rw [Int32.toInt_zero] at h1
  obtain ⟨j, hj, e1⟩ := nI_of (x := v) (by rw [Int32.lt_iff_toInt_lt, Int32.toInt_zero]; omega)
  subst e1
  rw [nI_toInt hj] at h1
  exact ⟨j, by omega, rfl⟩
theorem in_nI {j n : Nat} {hi : Int32} (hj : j < n) (e : hi.toInt + 1 = n) (hn : n < 2 ^ 31) : isIn (nI j) 0 hi = true := by
  rw [isIn_iff, Int32.toInt_zero, nI_toInt (by omega)]
  omega
section LW
variable {p : Program} {l : Launch} {e : Jvm.Env} {R : Room} {s : State} {m : MethodId} {args : Array Value} {below : List Frame} {meth : Method} {c : Code} {H : Heap} {locs : List Loc} {cells slots : Nat} {Q : State → Prop}
variable {nL pc : Nat} {ls : Array Slot} {rest : List Value} {g : Gm} {K : Key → Prop}
theorem m_top {x y : Int32} (h : x = y) (k : W p l e R s m args below meth c H locs cells slots Q (F0 m pc ls (.int y :: rest))) : W p l e R s m args below meth c H locs cells slots Q (F0 m pc ls (.int x :: rest)) := by rw [h]; exact k
theorem lp_W {i0 : Nat} (N : Nat) (en : Nat → Key → va_E) (lv : Nat → List (Nat × Value)) (J : Nat → Prop) (hi : i0 ≤ N) (hP : WPe g K (en i0) H) (hS : va_S (AA g) s.heap H locs) (hl : lv_has ls nL (lv i0)) (hJ : J i0)
    (hx : ∀ (H : Heap) (locs : List Loc) (ls : Array Slot), WPe g K (en N) H → va_S (AA g) s.heap H locs → lv_has ls nL (lv N) → J N → W p l e R s m args below meth c H locs cells slots Q (F0 m pc ls rest))
    (hs : ∀ i, i < N → (∀ (H : Heap) (locs : List Loc) (ls : Array Slot), WPe g K (en (i + 1)) H → va_S (AA g) s.heap H locs → lv_has ls nL (lv (i + 1)) → J (i + 1) → W p l e R s m args below meth c H locs cells slots Q (F0 m pc ls rest)) → ∀ (H : Heap) (locs : List Loc) (ls : Array Slot), WPe g K (en i) H → va_S (AA g) s.heap H locs → lv_has ls nL (lv i) → J i → W p l e R s m args below meth c H locs cells slots Q (F0 m pc ls rest)) : W p l e R s m args below meth c H locs cells slots Q (F0 m pc ls rest) :=
  lp_up (P := fun i => ∀ (H : Heap) (locs : List Loc) (ls : Array Slot), WPe g K (en i) H → va_S (AA g) s.heap H locs → lv_has ls nL (lv i) → J i → W p l e R s m args below meth c H locs cells slots Q (F0 m pc ls rest)) N hx hs i0 hi H locs ls hP hS hl hJ
end LW

theorem cal_X4_cell : CalV RX4 yX4_cell cX4_cell 4 (some .int) 3 := ⟨w_166, w_167, w_1, w_168, by decide +kernel⟩
theorem cal_X4_isCell : CalS yX4_isCell cX4_isCell 2 (some .boolean) 2 := ⟨w_170, w_1, w_171, by decide +kernel⟩
theorem cal_X4_isWithin : CalS yX4_isWithin cX4_isWithin 3 (some .boolean) 3 := ⟨w_173, w_1, w_174, by decide +kernel⟩
theorem cal_X1_cellFact : CalV RX1 yX1_cellFact cX1_cellFact 5 (some .int) 3 := ⟨w_244, w_245, w_2, w_246, by decide +kernel⟩
theorem cal_X4_cellAt : CalS yX4_cellAt cX4_cellAt 2 (some .int) 2 := ⟨w_248, w_1, w_249, by decide +kernel⟩
theorem cal_X1_openHoleIn : CalV RX1 yX1_openHoleIn cX1_openHoleIn 5 (some .int) 2 := ⟨w_251, w_252, w_2, w_253, by decide +kernel⟩
theorem cal_X1_catchIn : CalV RX1 yX1_catchIn cX1_catchIn 3 (some .int) 1 := ⟨w_255, w_256, w_2, w_257, by decide +kernel⟩
theorem cal_X4_hole : CalV RX4 yX4_hole cX4_hole 3 (some .int) 2 := ⟨w_265, w_266, w_1, w_267, by decide +kernel⟩
theorem cal_X1_hasHole : CalV RX1 yX1_hasHole cX1_hasHole 2 (some .boolean) 1 := ⟨w_269, w_270, w_2, w_271, by decide +kernel⟩
theorem cal_X1_holeFact : CalV RX1 yX1_holeFact cX1_holeFact 3 (some .int) 2 := ⟨w_275, w_276, w_2, w_277, by decide +kernel⟩
theorem cal_X1_spearersAt : CalV RX1 yX1_spearersAt cX1_spearersAt 4 (some .int) 1 := ⟨w_280, ws_1, w_2, w_281, by decide +kernel⟩
theorem cal_X1_nearestWardenTo : CalV RX1 yX1_nearestWardenTo cX1_nearestWardenTo 5 (some .int) 1 := ⟨w_284, ws_2, w_2, w_285, by decide +kernel⟩
theorem cal_X4_distance : CalS yX4_distance cX4_distance 4 (some .int) 4 := ⟨w_287, w_1, w_288, by decide +kernel⟩
theorem cal_X4_spearer : CalV RX4 yX4_spearer cX4_spearer 3 (some .int) 2 := ⟨w_294, w_295, w_1, w_296, by decide +kernel⟩
theorem cal_X1_hasSpearer : CalV RX1 yX1_hasSpearer cX1_hasSpearer 2 (some .boolean) 1 := ⟨w_298, w_299, w_2, w_300, by decide +kernel⟩
theorem cal_X2_tell : CalV RX2 yX2_tell cX2_tell 2 (some .int) 1 := ⟨w_303, w_304, w_4, w_305, by decide +kernel⟩
theorem cal_X4_about : CalV RX4 yX4_about cX4_about 3 (some .int) 2 := ⟨w_307, w_308, w_1, w_309, by decide +kernel⟩
theorem cal_X1_hasWarden : CalV RX1 yX1_hasWarden cX1_hasWarden 2 (some .boolean) 1 := ⟨w_311, w_312, w_2, w_313, by decide +kernel⟩
theorem cal_X3_tell : CalV RX3 yX3_tell cX3_tell 2 (some .int) 1 := ⟨w_316, w_317, w_5, w_318, by decide +kernel⟩
theorem cal_X4_count : CalV RX4 yX4_count cX4_count 2 (some .int) 1 := ⟨w_320, w_321, w_1, w_322, by decide +kernel⟩
theorem cal_X1_fact : CalV RX1 yX1_fact cX1_fact 2 (some .int) 1 := ⟨w_325, w_326, w_2, w_327, by decide +kernel⟩
theorem cal_X4_iceBears : CalS yX4_iceBears cX4_iceBears 1 (some .boolean) 1 := ⟨w_329, w_1, w_330, by decide +kernel⟩
theorem cal_X1_eelsOfLake : CalV RX1 yX1_eelsOfLake cX1_eelsOfLake 3 (some .int) 0 := ⟨w_333, ws_3, w_2, w_334, by decide +kernel⟩
theorem cal_X1_openHoles : CalV RX1 yX1_openHoles cX1_openHoles 3 (some .int) 0 := ⟨w_337, ws_4, w_2, w_338, by decide +kernel⟩
theorem cal_X1_eelsOfSpearers : CalV RX1 yX1_eelsOfSpearers cX1_eelsOfSpearers 3 (some .int) 0 := ⟨w_341, ws_5, w_2, w_342, by decide +kernel⟩
theorem cal_X1_finesOfSpearers : CalV RX1 yX1_finesOfSpearers cX1_finesOfSpearers 3 (some .int) 0 := ⟨w_345, ws_6, w_2, w_346, by decide +kernel⟩
theorem cal_X4_pass : CalV RX4 yX4_pass cX4_pass 2 (some .int) 1 := ⟨w_348, w_349, w_1, w_350, by decide +kernel⟩
theorem cal_X1_letNightsGo : CalV RX1 yX1_letNightsGo cX1_letNightsGo 4 (some .int) 1 := ⟨w_368, w_369, w_2, w_370, by decide +kernel⟩
theorem cal_X1_lightLamps : CalV RX1 yX1_lightLamps cX1_lightLamps 3 none 0 := ⟨w_373, ws_7, w_2, w_374, by decide +kernel⟩
theorem cal_X1_lure : CalV RX1 yX1_lure cX1_lure 10 none 2 := ⟨w_378, ws_8, w_2, w_379, by decide +kernel⟩
theorem cal_X1_moveEels : CalV RX1 yX1_moveEels cX1_moveEels 5 none 2 := ⟨w_382, ws_9, w_2, w_383, by decide +kernel⟩
theorem cal_X1_spearEels : CalV RX1 yX1_spearEels cX1_spearEels 5 none 0 := ⟨w_386, ws_10, w_2, w_387, by decide +kernel⟩
theorem cal_X1_sendWardens : CalV RX1 yX1_sendWardens cX1_sendWardens 5 none 0 := ⟨w_390, ws_11, w_2, w_391, by decide +kernel⟩
theorem cal_X1_nearestOffence : CalV RX1 yX1_nearestOffence cX1_nearestOffence 6 (some .int) 1 := ⟨w_394, ws_12, w_2, w_395, by decide +kernel⟩
theorem cal_X1_hasOffender : CalV RX1 yX1_hasOffender cX1_hasOffender 3 (some .boolean) 1 := ⟨w_398, ws_13, w_2, w_399, by decide +kernel⟩
theorem cal_X2_tookTooMuch : CalV RX2 yX2_tookTooMuch cX2_tookTooMuch 1 (some .boolean) 0 := ⟨w_401, w_402, w_4, w_403, by decide +kernel⟩
theorem cal_X3_goTowards : CalV RX3 yX3_goTowards cX3_goTowards 3 none 1 := ⟨w_405, w_406, w_5, w_407, by decide +kernel⟩
theorem cal_J6_compare_7cf53 : CalS yJ6_compare_7cf53 cJ6_compare_7cf53 2 (some .int) 2 := ⟨w_409, w_15, w_410, by decide +kernel⟩
theorem cal_X1_fineAllAt : CalV RX1 yX1_fineAllAt cX1_fineAllAt 7 none 2 := ⟨w_413, ws_14, w_2, w_414, by decide +kernel⟩
theorem cal_X1_keepCatches : CalV RX1 yX1_keepCatches cX1_keepCatches 3 (some .int) 0 := ⟨w_417, ws_15, w_2, w_418, by decide +kernel⟩
theorem cal_X1_breedEels : CalV RX1 yX1_breedEels cX1_breedEels 2 none 0 := ⟨w_421, ws_16, w_2, w_422, by decide +kernel⟩
theorem cal_X1_freeze : CalV RX1 yX1_freeze cX1_freeze 2 none 0 := ⟨w_425, ws_17, w_2, w_426, by decide +kernel⟩
theorem cal_X1_frostOf : CalV RX1 yX1_frostOf cX1_frostOf 2 (some .int) 1 := ⟨w_428, w_429, w_2, w_430, by decide +kernel⟩
theorem cal_J9_floorMod_7cf53 : CalS yJ9_floorMod_7cf53 cJ9_floorMod_7cf53 3 (some .int) 2 := ⟨w_432, w_14, w_433, by decide +kernel⟩
theorem cal_X4_iceBehind : CalS yX4_iceBehind cX4_iceBehind 2 (some .int) 2 := ⟨w_435, w_1, w_436, by decide +kernel⟩
theorem cal_X1_closeAllHoles : CalV RX1 yX1_closeAllHoles cX1_closeAllHoles 2 none 0 := ⟨w_440, ws_18, w_2, w_441, by decide +kernel⟩
theorem cal_X1_closeEmptyHoles : CalV RX1 yX1_closeEmptyHoles cX1_closeEmptyHoles 2 none 0 := ⟨w_444, ws_19, w_2, w_445, by decide +kernel⟩
theorem cal_X4_bears : CalV RX4 yX4_bears cX4_bears 3 (some .int) 0 := ⟨w_447, w_448, w_1, w_449, by decide +kernel⟩
theorem cal_X4_foresee : CalV RX4 yX4_foresee cX4_foresee 3 (some .int) 2 := ⟨w_454, w_455, w_1, w_456, by decide +kernel⟩
theorem cal_X4_isForeseen : CalS yX4_isForeseen cX4_isForeseen 1 (some .boolean) 1 := ⟨w_458, w_1, w_459, by decide +kernel⟩
theorem cal_X1_become : CalV RX1 yX1_become cX1_become 3 none 1 := ⟨w_462, w_463, w_2, w_464, by decide +kernel⟩
theorem cal_X0_become : CalV RX0 yX0_become cX0_become 2 none 1 := ⟨w_466, w_467, w_3, w_468, by decide +kernel⟩
theorem cal_X2_become : CalV RX2 yX2_become cX2_become 2 none 1 := ⟨w_470, w_471, w_4, w_472, by decide +kernel⟩
theorem cal_X3_become : CalV RX3 yX3_become cX3_become 2 none 1 := ⟨w_474, w_475, w_5, w_476, by decide +kernel⟩
theorem cal_X4_advise : CalV RX4 yX4_advise cX4_advise 6 (some .int) 1 := ⟨w_478, w_479, w_1, w_480, by decide +kernel⟩
theorem cal_X4_eelsIfAt : CalV RX4 yX4_eelsIfAt cX4_eelsIfAt 3 (some .int) 2 := ⟨w_484, ws_20, w_1, w_485, by decide +kernel⟩
theorem cal_X4_mean : CalV RX4 yX4_mean cX4_mean 3 (some .double) 0 := ⟨w_487, w_488, w_1, w_489, by decide +kernel⟩
theorem cal_X4_digest : CalV RX4 yX4_digest cX4_digest 5 (some .long) 0 := ⟨w_491, w_492, w_1, w_493, by decide +kernel⟩
theorem cal_X4_mixed : CalS yX4_mixed cX4_mixed 3 (some .long) 2 := ⟨w_496, w_1, w_497, by decide +kernel⟩
theorem cal_X4_digestOfCells : CalV RX4 yX4_digestOfCells cX4_digestOfCells 8 (some .long) 1 := ⟨w_501, ws_21, w_1, w_502, by decide +kernel⟩
theorem cal_X4_digestOfPeople : CalV RX4 yX4_digestOfPeople cX4_digestOfPeople 7 (some .long) 1 := ⟨w_505, ws_22, w_1, w_506, by decide +kernel⟩
theorem cal_X5_pass : CalV RX5 yX5_pass cX5_pass 7 (some .int) 0 := ⟨w_508, w_509, w_6, w_510, by decide +kernel⟩
theorem cal_X5_lamp : CalV RX5 yX5_lamp cX5_lamp 6 none 1 := ⟨w_513, ws_23, w_6, w_515, by decide +kernel⟩
theorem cal_X5_would : CalV RX5 yX5_would cX5_would 5 (some .int) 2 := ⟨w_517, w_518, w_6, w_519, by decide +kernel⟩
theorem cal_X5_guard : CalV RX5 yX5_guard cX5_guard 9 none 1 := ⟨w_522, ws_24, w_6, w_523, by decide +kernel⟩
theorem cal_X5_far : CalS yX5_far cX5_far 4 (some .int) 2 := ⟨w_525, w_6, w_526, by decide +kernel⟩
theorem cal_X5_isOver : CalV RX5 yX5_isOver cX5_isOver 6 (some .boolean) 1 := ⟨w_529, ws_25, w_6, w_530, by decide +kernel⟩
theorem cal_X5_many : CalV RX5 yX5_many cX5_many 7 (some .int) 1 := ⟨w_532, w_533, w_6, w_534, by decide +kernel⟩
theorem cal_X5_isSame : CalV RX5 yX5_isSame cX5_isSame 8 (some .boolean) 1 := ⟨w_536, w_537, w_6, w_538, by decide +kernel⟩
theorem cal_X5_openAt : CalV RX5 yX5_openAt cX5_openAt 5 (some .int) 2 := ⟨w_541, w_542, w_6, w_543, by decide +kernel⟩
theorem cal_X5_counts : CalV RX5 yX5_counts cX5_counts 10 (some (.array .int)) 0 := ⟨w_548, w_549, w_6, w_550, by decide +kernel⟩
theorem cal_L_below : CalS yL_below cL_below 2 (some .int) 2 := ⟨w_554, w_0, w_555, by decide +kernel⟩
theorem cal_L_cell : CalS yL_cell cL_cell 2 (some .int) 2 := ⟨w_558, w_0, w_559, by decide +kernel⟩
theorem cal_X4_set : CalV RX4 yX4_set cX4_set 7 (some .int) 4 := ⟨w_566, w_567, w_1, w_568, by decide +kernel⟩
theorem cal_X4_setFrost : CalV RX4 yX4_setFrost cX4_setFrost 4 (some .int) 2 := ⟨w_573, w_574, w_1, w_575, by decide +kernel⟩
theorem cal_X4_cut : CalV RX4 yX4_cut cX4_cut 3 (some .int) 2 := ⟨w_580, w_581, w_1, w_582, by decide +kernel⟩
theorem cal_X1_addHole : CalV RX1 yX1_addHole cX1_addHole 4 (some .int) 2 := ⟨w_603, w_604, w_2, w_605, by decide +kernel⟩
theorem cal_X5_more : CalS yX5_more cX5_more 4 (some (.array (.array .int))) 2 := ⟨w_607, w_6, w_608, by decide +kernel⟩
theorem cal_X4_license : CalV RX4 yX4_license cX4_license 3 (some .int) 2 := ⟨w_612, w_613, w_1, w_614, by decide +kernel⟩
theorem cal_X1_addSpearer : CalV RX1 yX1_addSpearer cX1_addSpearer 4 (some .int) 2 := ⟨w_618, w_619, w_2, w_620, by decide +kernel⟩
theorem cal_X4_warden : CalV RX4 yX4_warden cX4_warden 4 (some .int) 3 := ⟨w_622, w_623, w_1, w_624, by decide +kernel⟩
theorem cal_X1_addWarden : CalV RX1 yX1_addWarden cX1_addWarden 5 (some .int) 3 := ⟨w_628, w_629, w_2, w_630, by decide +kernel⟩
theorem cal_X4_go : CalV RX4 yX4_go cX4_go 5 (some .int) 2 := ⟨w_632, w_633, w_1, w_634, by decide +kernel⟩
theorem cal_L_build : CalS yL_build cL_build 7 (some (.object "EelPermitsLaw$Sim")) 3 := ⟨w_638, w_0, w_639, by decide +kernel⟩
theorem cal_J7_fill_53178 : CalS yJ7_fill_53178 cJ7_fill_53178 4 none 2 := ⟨w_647, w_7, w_648, by decide +kernel⟩
section MOF
variable {l : Launch} {y : MethodName} {b : ByteArray} {n : Nat} {ret : Option FieldType} {R : Room} {g : Gm} {K : Key → Prop} {en : Key → va_E} {av : List Value} {Qc : Array Value → State → Outcome → State → Prop}
/-- the entry of a method of java.lang.Math that no entry of the table of natives overrides -/
theorem met_ofF (hy : plainFor y = true) (hn : (lg_sl av).length ≤ n)
    (body : ∀ (p : Program) (e : Jvm.Env) (s : State) (m : MethodId) (below : List Frame) (meth : Method) (c : Code) (ls : Array Slot), CallFix p m c b n s av.toArray LG y.cls → meth.sig.returnType = ret → meth.locks = false → meth.name = y.name → Ev g s → WPe g K en s.heap → va_S (AA g) s.heap s.heap [] → lv_has ls n (lv_args 0 av) →
      W p l e R s m av.toArray below meth c s.heap [] 0 0 (MQ below Qc av.toArray s R.cells R.slots (AA g)) (F0 m 0 ls [])) : Met l y (wy y b n ret) R (Pd g K en av) Qc R.cells R.slots (AA g) := by
  refine MetFree.of_bodySF (code := b) (maxLocals := n) (ret := ret) hy ?_ ?_
  · intro args s m h hn
    obtain ⟨meth, c, h1, h2, h3, h4, h5, h6, -, -⟩ := Cond.code_spec hn (atoms_spec (ws := wy y b n ret) h _ List.mem_cons_self)
    exact ⟨meth, c, h1, h2, h3, h4, h5, h6⟩
  · intro p e s m args below meth c s₁ B hml hv _
    have hh0 : s₁.heap = s.heap := by rw [B.state]; rfl
    obtain ⟨rfl, hE, hP⟩ := hv
    have hts := atoms_spec (ws := wy y b n ret) B.pre
    have hl := lv_entry av (n := n) hn
    have k := body p e s m below meth c _ ⟨B.exec, B.bytes, hml, findClass_of_methodNamed B.named, fun w hw => hts w (List.mem_cons_of_mem _ hw)⟩ B.returns B.notSynchronized (name_of_methodNamed B.named B.method).1 hE hP va_S.rf hl
    rw [← lg_entry_eq] at k
    obtain ⟨t, a1, o, b1, b2, b3⟩ := k s₁ hh0 (Stand.of_body B)
    exact ⟨t, o, a1, b1, b2, ⟨b3.1, b3.2⟩⟩
end MOF
end
section
/-! What a lake is, and how a night goes, over views. Components: 0 eels, 1 mud, 2 frost, 3 hole x, 4 hole y, 5 open, 6 permit, 7 light, 8 at, 9 caught, 10 all, 11 fines, 12 warden x, 13 warden y, 14 pace, 15 given, 16: holes, spearers, wardens, ice, night. -/
def bear (x : Int32) : Bool := !decide (x < 5)
def ice2 (x y : Int32) : Int32 := imax 0 (imin 90 (x + y))
def mix (d : Int64) (x : Int32) : Int64 := d * 31 + x.toInt64
def cmp3 (a b : Int32) : Int32 := if a < b then -1 else if a = b then 0 else 1
def tt (v : Vw) : Nat := (v 16 4).toNatClampNeg
def lt9 (x : Int32) : Prop := ∃ j : Nat, j < 9 ∧ x = nI j
def IH (v : Vw) (h : Nat) : Prop := lt9 (v 3 h) ∧ lt9 (v 4 h) ∧ (v 5 h = 0 ∨ v 5 h = 1)
def IS (v : Vw) (k : Nat) : Prop := (v 8 k = -1 ∨ ∃ h, h < nH v ∧ v 8 k = nI h) ∧ (∃ j : Nat, j < 5 ∧ v 7 k = nI j) ∧ (∃ j : Nat, j < 31 ∧ v 6 k = nI j) ∧ ∃ j : Nat, j ≤ 60 ∧ v 9 k = nI j
def IW (v : Vw) (w : Nat) : Prop := lt9 (v 12 w) ∧ lt9 (v 13 w)
def IC (v : Vw) (c : Nat) : Prop := ∃ j : Nat, j ≤ 60 ∧ v 0 c = nI j
def Inv (v : Vw) : Prop := (v 16 0 = nI (nH v) ∧ nH v ≤ 12) ∧ (v 16 1 = nI (nS v) ∧ nS v ≤ 8) ∧ (v 16 2 = nI (nW v) ∧ nW v ≤ 3) ∧ (∀ h, h < nH v → IH v h) ∧ (∀ k, k < nS v → IS v k) ∧ (∀ w, w < nW v → IW v w) ∧ ∀ c, c < 81 → IC v c
theorem Inv.eH {v : Vw} (h : Inv v) : v 16 0 = nI (nH v) := h.1.1
theorem Inv.lH {v : Vw} (h : Inv v) : nH v ≤ 12 := h.1.2
theorem Inv.eS {v : Vw} (h : Inv v) : v 16 1 = nI (nS v) := h.2.1.1
theorem Inv.lS {v : Vw} (h : Inv v) : nS v ≤ 8 := h.2.1.2
theorem Inv.eW {v : Vw} (h : Inv v) : v 16 2 = nI (nW v) := h.2.2.1.1
theorem Inv.lW {v : Vw} (h : Inv v) : nW v ≤ 3 := h.2.2.1.2
theorem Inv.hH {v : Vw} (h : Inv v) : ∀ i, i < nH v → IH v i := h.2.2.2.1
theorem Inv.hS {v : Vw} (h : Inv v) : ∀ k, k < nS v → IS v k := h.2.2.2.2.1
theorem Inv.hW {v : Vw} (h : Inv v) : ∀ k, k < nW v → IW v k := h.2.2.2.2.2.1
theorem Inv.hC {v : Vw} (h : Inv v) : ∀ c, c < 81 → IC v c := h.2.2.2.2.2.2
theorem lt9_cl {x : Int32} (h : lt9 x) : x = nI x.toNatClampNeg ∧ x.toNatClampNeg < 9 := by
  obtain ⟨j, hj, rfl⟩ := h
  rw [nI_clamp (by omega)]
  exact ⟨rfl, hj⟩
def sumI (f : Nat → Int32) : Nat → Int32
  | 0 => 0
  | n + 1 => sumI f n + f n
def anyB (p : Nat → Bool) : Nat → Bool
  | 0 => false
  | n + 1 => anyB p n || p n
/-- the first place of n that has p, or -1 -/
def fst1 (p : Nat → Bool) : Nat → Int32
  | 0 => -1
  | n + 1 => if anyB p n = true then fst1 p n else if p n = true then nI n else -1
theorem anyB_no {p : Nat → Bool} : ∀ {n : Nat}, (∀ j, j < n → p j = false) → anyB p n = false
  | 0, _ => rfl
  | n + 1, h => by
    show (anyB p n || p n) = false
    rw [anyB_no (fun j hj => h j (by omega)), h n (by omega)]; rfl
theorem anyB_yes {p : Nat → Bool} : ∀ {n i : Nat}, i < n → p i = true → anyB p n = true
  | 0, _, h, _ => absurd h (Nat.not_lt_zero _)
  | n + 1, i, h, hp => by
    show (anyB p n || p n) = true
    rcases Nat.lt_or_ge i n with q | q
    · rw [anyB_yes q hp]; rfl
    · have e : i = n := by omega
      subst e
      rw [hp, Bool.or_true]
theorem anyB_iff {p : Nat → Bool} : ∀ {n : Nat}, anyB p n = true ↔ ∃ i, i < n ∧ p i = true
  | 0 => ⟨fun h => Bool.noConfusion h, fun ⟨i, h, _⟩ => absurd h (Nat.not_lt_zero _)⟩
  | n + 1 => by
    constructor
    · intro h
      have h : (anyB p n || p n) = true := h
      rw [Bool.or_eq_true] at h
      rcases h with h | h
      · obtain ⟨i, a, b⟩ := anyB_iff.mp h
        exact ⟨i, by omega, b⟩
      · exact ⟨n, by omega, h⟩
    · rintro ⟨i, a, b⟩
      exact anyB_yes a b
theorem anyB_congr {p q : Nat → Bool} : ∀ {n : Nat}, (∀ j, j < n → p j = q j) → anyB p n = anyB q n
  | 0, _ => rfl
  | n + 1, h => by
    show (anyB p n || p n) = (anyB q n || q n)
    rw [anyB_congr (fun j hj => h j (by omega)), h n (by omega)]
theorem fst1_no {p : Nat → Bool} : ∀ {n : Nat}, (∀ j, j < n → p j = false) → fst1 p n = -1
  | 0, _ => rfl
  | n + 1, h => by
    show (if anyB p n = true then fst1 p n else if p n = true then nI n else -1) = -1
    rw [anyB_no (fun j hj => h j (by omega)), h n (by omega)]; rfl
theorem fst1_yes {p : Nat → Bool} {i : Nat} (h1 : ∀ j, j < i → p j = false) (h2 : p i = true) : ∀ {n : Nat}, i < n → fst1 p n = nI i
  | 0, h => absurd h (Nat.not_lt_zero _)
  | n + 1, h => by
    show (if anyB p n = true then fst1 p n else if p n = true then nI n else -1) = nI i
    rcases Nat.lt_or_ge i n with q | q
    · rw [if_pos (anyB_yes q h2)]
      exact fst1_yes h1 h2 q
    · have e : i = n := by omega
      subst e
      rw [anyB_no h1, h2]; rfl
theorem sumI_congr {f g : Nat → Int32} : ∀ {n : Nat}, (∀ j, j < n → f j = g j) → sumI f n = sumI g n
  | 0, _ => rfl
  | n + 1, h => by
    show sumI f n + f n = sumI g n + g n
    rw [sumI_congr (fun j hj => h j (by omega)), h n (by omega)]
theorem it_keep {f : Nat → Vw → Vw} {c i : Nat} (h : ∀ k v, f k v c i = v c i) : ∀ (n : Nat) (v : Vw), it f n v c i = v c i
  | 0, _ => rfl
  | n + 1, v => (h n _).trans (it_keep h n v)
theorem it_inv {α : Type} {f : Nat → α → α} {P : α → Prop} {N : Nat} (h : ∀ k v, k < N → P v → P (f k v)) : ∀ (n : Nat) (v : α), n ≤ N → P v → P (it f n v)
  | 0, _, _, hv => hv
  | n + 1, v, hn, hv => h n _ (by omega) (it_inv h n v (by omega) hv)
def bearV (v : Vw) : Bool := bear (v 16 3)
def opn (v : Vw) (x y : Int32) (h : Nat) : Bool := !decide (v 5 h = 0) && (decide (v 3 h = x) && decide (v 4 h = y))
def openIn (v : Vw) (x y : Int32) : Int32 := fst1 (opn v x y) (nH v)
def would (v : Vw) (c : Nat) : Int32 := imax 0 (imin (v 0 c) (v 0 c / 2 + 1 - v 1 c))
def come (v : Vw) (c own : Nat) : Int32 := imin (imin 2 (v 0 c)) (60 - v 0 own)
def mvc (c own : Nat) (v : Vw) : Vw := up2 (up2 v 0 c (v 0 c - come v c own)) 0 own (up2 v 0 c (v 0 c - come v c own) 0 own + come v c own)
def cl (v : Vw) (h : Nat) : Nat := 9 * (v 4 h).toNatClampNeg + (v 3 h).toNatClampNeg
def hol (v : Vw) (k : Nat) : Nat := (v 8 k).toNatClampNeg
def lurC (own : Nat) (x y lt : Int32) (c : Nat) (v : Vw) : Vw := if c = own ∨ lt < far (nI (c % 9)) (nI (c / 9)) x y then v else mvc c own v
def lurA (h : Nat) (lt : Int32) (v : Vw) : Vw := it (lurC (cl v h) (v 3 h) (v 4 h) lt) 81 v
def lur (k : Nat) (v : Vw) : Vw := if v 8 k = -1 then v else lurA (hol v k) (v 7 k) v
def spr (k : Nat) (v : Vw) : Vw := if v 8 k = -1 then up2 v 9 k 0 else up2 (up2 (up2 v 9 k 0) 9 k (would v (cl v (hol v k)))) 0 (cl v (hol v k)) (v 0 (cl v (hol v k)) - would v (cl v (hol v k)))
def ovr (v : Vw) (h k : Nat) : Bool := decide (v 8 k = nI h) && decide (v 6 k < v 9 k)
def farW (v : Vw) (w h : Nat) : Int32 := far (v 12 w) (v 13 w) (v 3 h) (v 4 h)
def golS (v : Vw) (w h : Nat) (q : Int32 × Int32) : Int32 × Int32 := if anyB (ovr v h) (nS v) = true ∧ farW v w h < q.2 then (nI h, farW v w h) else q
def gol (v : Vw) (w : Nat) : Int32 := (it (golS v w) (nH v) (-1, 9)).1
def stp (w h : Nat) (v : Vw) : Vw := up2 (up2 v 12 w (v 12 w + cmp3 (v 3 h) (v 12 w))) 13 w (v 13 w + cmp3 (v 4 h) (v 13 w))
def mov (w h : Nat) (v : Vw) : Vw := it (fun _ u => stp w h u) (v 14 w).toNatClampNeg v
def fin1 (w h c k : Nat) (v : Vw) : Vw := if ovr v h k = true then up2 (up2 (up2 (up2 v 0 c (imin 60 (v 0 c + v 9 k - v 6 k))) 9 k (v 6 k)) 11 k (v 11 k + 1)) 15 w (v 15 w + 1) else v
def finA (w h : Nat) (v : Vw) : Vw := it (fin1 w h (cl v h)) (nS v) v
def gua (w : Nat) (v : Vw) : Vw := if gol v w = -1 then v else if 0 < farW (mov w (gol v w).toNatClampNeg v) w (gol v w).toNatClampNeg then mov w (gol v w).toNatClampNeg v else finA w (gol v w).toNatClampNeg (mov w (gol v w).toNatClampNeg v)
def kep (k : Nat) (v : Vw) : Vw := up2 v 10 k (v 10 k + v 9 k)
def bre (c : Nat) (v : Vw) : Vw := if isIn (v 0 c) 1 40 = true then up2 v 0 c (v 0 c + (v 0 c / 10 + 1)) else v
def spAt (v : Vw) (h : Int32) : Int32 := sumI (fun k => if v 8 k = h then 1 else 0) (nS v)
def frostN (v : Vw) : Int32 := v 2 (tt v % 7)
def iceN (v : Vw) : Int32 := ice2 (v 16 3) (frostN v)
def frz (v : Vw) : Vw := fun c j => if c = 16 ∧ j = 3 then iceN v else if c = 5 ∧ j < nH v ∧ (iceN v < 5 ∨ (0 < frostN v ∧ spAt v (nI j) = 0)) then 0 else if c = 8 ∧ j < nS v ∧ iceN v < 5 then -1 else v c j
def nig (v : Vw) : Vw := up2 v 16 4 (v 16 4 + 1)
def lam (v : Vw) : Vw := it lur (nS v) v
def spe (v : Vw) : Vw := it spr (nS v) v
def sen (v : Vw) : Vw := it gua (nW v) v
def kepA (v : Vw) : Vw := it kep (nS v) v
def breA (v : Vw) : Vw := it bre 81 v
def pre1 (v : Vw) : Vw := sen (spe (lam v))
def day (v : Vw) : Vw := nig (frz (breA (kepA (pre1 v))))
def got1 (v : Vw) : Int32 := sumI (pre1 v 9) (nS v)
def days (n : Nat) (v : Vw) : Vw := it (fun _ => day) n v
def gots (n : Nat) (v : Vw) : Int32 := sumI (fun i => got1 (days i v)) n
def near (v : Vw) (h : Nat) : Int32 := it (fun w q => if q = -1 ∨ farW v w h < q then farW v w h else q) (nW v) (-1)
def cellF (v : Vw) (x y : Nat) (what : Int32) : Int32 := if what = 0 then v 0 (9 * y + x) else if what = 1 then v 1 (9 * y + x) else if what = 2 then openIn v (nI x) (nI y) else would v (9 * y + x)
def holeF (v : Vw) (h : Nat) (what : Int32) : Int32 := if what = 0 then v 3 h else if what = 1 then v 4 h else if what = 2 then v 5 h else if what = 3 then spAt v (nI h) else near v h
def sprF (v : Vw) (k : Nat) (what : Int32) : Int32 := if what = 0 then v 6 k else if what = 1 then v 7 k else if what = 2 then v 8 k else if what = 3 then v 9 k else if what = 4 then v 10 k else v 11 k
def warF (v : Vw) (w : Nat) (what : Int32) : Int32 := if what = 0 then v 12 w else if what = 1 then v 13 w else if what = 2 then v 14 w else v 15 w
def factF (v : Vw) (what : Int32) : Int32 := if what = 0 then v 16 4 else if what = 1 then v 16 3 else if what = 2 then b2i (bear (v 16 3)) else if what = 3 then sumI (v 0) 81 else if what = 4 then v 16 0 else if what = 5 then sumI (v 5) (nH v) else if what = 6 then v 16 1 else if what = 7 then sumI (v 10) (nS v) else sumI (v 11) (nS v)
end
section
/-! An array of arrays of ints in one instruction. -/
section MLT
variable {E : CtlPost} {e : Jvm.Env} {d : Bool} {acts : List Action} {s : State}
/-- the cold entry, as resolution leaves it -/
theorem mm_cold {Q : Unit → Pre} {f : JFrame} {index dims c : Nat} {vm' : Vm} (hs : s.topJava?.isSome) (hg : (Jvm.resolveClass f.method.cls index).Gives e.toSetting s.vm (.ok c) vm') (hr : vm'.classReady f.method.cls index c) (hsz : vm'.classes.size ≤ s.vm.classes.size := by no_record) : wp (multianewarray.sem index dims) Q E e d acts (s.setTop f) ↔ wp (multianewarray.sem index dims) Q E e d acts ((s.setVm vm').setTop f) := by
  simp only [multianewarray.sem, wp_bind']
  exact W.resolveClassAt_transfer (s := s.setTop f) (State.method?_setTop f hs) hg hr
/-- a row: an array of ints -/
theorem mm_row {Q : Addr → Pre} {cI c0 : ClassId} {kI : Class} {b : Int32} (hk : s.vm.classes[cI]? = some kI) (hkind : kI.kind = .array c0 .int) (hb : ¬ b < 0) (hl : ¬ b.toNatClampNeg > e.platform.arrayLengthLimit) (hh : ¬ b.toNatClampNeg * componentBytes .int > e.platform.maxHeapBytes) (hc : s.heap.size < e.platform.maxCells) (hs : s.slotsUsed + b.toNatClampNeg ≤ e.platform.maxSlots)
    (hq : ∀ acts', Q s.heap.size d acts' (s.pushCell (arrV cI b.toNatClampNeg (fun _ => .int 0)))) : wp (multianewarray.make cI [b]) Q E e d acts s := by
  rw [multianewarray.make]
  simp only [wp_bind', W.ite, hb, if_false, wp_pure', W.theClass, hk, hkind, Option.some.injEq, exists_eq_left']
  refine W.newArray_of hk hkind hl hh hc hs rfl fun acts' => ?_
  have q := hq acts'
  rw [← arrV_new] at q
  exact q
end MLT
section MLW
variable {p : Program} {l : Launch} {e : Jvm.Env} {R : Room} {s : State} {m : MethodId} {args : Array Value} {below : List Frame} {meth : Method} {c : Code} {H : Heap} {locs : List Loc} {cells slots : Nat} {Q : State → Prop}
/-- how far the rows are made -/
def MMi (p : Program) (l : Launch) (e : Jvm.Env) (R : Room) (s : State) (m : MethodId) (args : Array Value) (below : List Frame) (meth : Method) (c : Code) (H : Heap) (locs : List Loc) (cells slots : Nat) (f : JFrame) (vm : Vm) (cO cI N B i : Nat) (u : State) : Prop :=
  ∃ (T : State) (l2 : List Loc), u = T.setTop f ∧ Stand p l e R s m args below meth c T l2 (cells + 1 + i) (slots + N + i * B) ∧ T.vm = vm ∧ T.heap.size = H.size + 1 + i ∧ (∀ q : Nat, q < H.size → T.heap[q]? = H[q]?) ∧ T.heap[H.size]? = some (arrV cO N (fun j => if j < i then .ref (H.size + 1 + j) else .null)) ∧ (∀ j : Nat, j < i → T.heap[H.size + 1 + j]? = some (arrV cI B (fun _ => .int 0))) ∧ ∀ q ∈ l2, q ∈ locs ∨ q.base = H.size
theorem W_multi {cc : ByteArray} (hexec : p.tables.exec = Jvm.exec) (hb : c.code = cc) {own : String} {index : Nat} (hown : s.vm.findClass own = some m.cls) (hclink : (Cond.classLink own index "[[I").before args s = true) (hover : (Cond.arrayOver (.array .int)).before args s = true) (harr : (Cond.arrayClass .int).before args s = true)
    {g : JFrame} (hg : g.method = m) (hdg : decode cc g.pc = .ok (.multianewarray index 2, 4)) {x y : Int32} {N B : Nat} {rest : List Value} (hstack : g.stack = .int y :: .int x :: rest) (hx : x = nI N) (hy : y = nI B) (hN : N ≤ 1000) (hB : B ≤ 1000) (hcells : cells + 1 + N ≤ R.cells) (hslots : slots + N + N * B ≤ R.slots)
    (kk : ∀ (H1 : Heap) (l1 : List Loc) (cO cI : ClassId), s.vm.findClass ("[" ++ (FieldType.array .int).toString) = some cO → s.vm.findClass ("[" ++ FieldType.int.toString) = some cI → H1.size = H.size + 1 + N → (∀ q : Nat, q < H.size → H1[q]? = H[q]?) → H1[H.size]? = some (arrV cO N (fun j => .ref (H.size + 1 + j))) → (∀ j : Nat, j < N → H1[H.size + 1 + j]? = some (arrV cI B (fun _ => .int 0))) → (∀ q ∈ l1, q ∈ locs ∨ q.base = H.size) →
      W p l e R s m args below meth c H1 l1 (cells + 1 + N) (slots + N + N * B) Q { g with pc := g.pc + 4, stack := .ref H.size :: rest }) : W p l e R s m args below meth c H locs cells slots Q g := by
  intro T hT X
  subst hT; subst hb; subst hg; subst hx; subst hy
  have hpl : e.platform.magicAccessors = ({} : Platform).magicAccessors := by rw [X.admits.platform]
  obtain ⟨comp, cO, kO, hcomp, -, hkO, hkindO, hnO⟩ := arrayOverA_spec (show (Cond.arrayOver (.array .int)).holds args s none s [] = true from hover)
  obtain ⟨cI, kI, c0, hI1, hI2, hI3⟩ := Cond.arrayClass_spec (show (Cond.arrayClass .int).holds args s none s [] = true from harr)
  have ec : comp = cI := Option.some.inj (hcomp.symm.trans hI1)
  subst ec
  obtain ⟨cz, hfz, hcl⟩ := Cond.classLink_spec hown hclink e.platform hpl
  have ez : cz = cO := Option.some.inj (hfz.symm.trans hnO)
  subst ez
  obtain ⟨hg₁, hwarm₁, hready₁⟩ := State.classEntry (e := e) X.warmed hcl
  generalize T.vm.noted g.method.cls index (.cls cz) = vm₁ at hg₁ hwarm₁ hready₁
  have hal : s.vm.Alike vm₁ := hwarm₁.alike
  obtain ⟨kO₁, hkO₁, heO⟩ := hal.2.2 _ _ hkO
  obtain ⟨kI₁, hkI₁, heI⟩ := hal.2.2 _ _ hI2
  have hkindO₁ : kO₁.kind = .array comp (.array .int) := by rw [heO]; exact hkindO
  have hkindI₁ : kI₁.kind = .array c0 .int := by rw [heI]; exact hI3
  have nN : (nI N).toNatClampNeg = N := nI_clamp (by omega)
  have nB : (nI B).toNatClampNeg = B := nI_clamp (by omega)
  have pN : ¬ nI N < 0 := nI_pos (by omega)
  have pB : ¬ nI B < 0 := nI_pos (by omega)
  have lim : ∀ k, k ≤ 1000 → ¬ k > e.platform.arrayLengthLimit := fun k hk => by rw [Launch.admits_arrayLengthLimit X.admits]; omega
  have hpb : ∀ k, k ≤ 1000 → ¬ k * 4 > e.platform.maxHeapBytes := fun k hk => by rw [Launch.admits_maxHeapBytes X.admits]; omega
  have X₁ := X.noted hwarm₁
  have X₂ := X₁.pushed (arrV cz N (fun _ => .null))
  rw [arrV_size] at X₂
  have f0 := g
  have hwp : wpRun (Jvm.exec (.multianewarray index 2)) (fun _ u _ => MMi p l e R s g.method args below meth c T.heap locs cells slots { g with stack := .ref T.heap.size :: rest } vm₁ cz comp N B N u) (fun _ _ _ => False) e (T.setTop g) := by
    show wp (multianewarray.sem index 2) _ _ e false [] (T.setTop g)
    refine (mm_cold X.here.top hg₁ hready₁).mpr ?_
    simp only [multianewarray.sem, wp_bind']
    rw [W.resolveClassAt_ready (s := (T.setVm vm₁).setTop g) (State.method?_setTop g X₁.here.top) hready₁]
    rw [popN_top (args := [.int (nI N), .int (nI B)]) X₁.here.top (by rw [hstack]; rfl)]
    simp only [List.mapM_cons, List.mapM_nil, wp_bind', wp_pure']
    rw [multianewarray.make]
    simp only [wp_bind', W.ite, pN, if_false, wp_pure', W.theClass, State.vm_setTop, State.vm_setVm, hkO₁, hkindO₁, Option.some.injEq, exists_eq_left']
    sorry
  sorry
end MLW
end
