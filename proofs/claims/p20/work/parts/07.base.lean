/-! Words of the pictures; the loop; how each method is called. -/
def b2i (b : Bool) : Int32 := if b then 1 else 0
theorem b2i_t {b : Bool} (h : ¬ b2i b = 0) : b = true := by cases b <;> first | rfl | exact absurd rfl h
theorem b2i_f {b : Bool} (h : b2i b = 0) : b = false := by cases b <;> first | rfl | exact absurd h (by decide)
theorem b2i_0 {b : Bool} (h : b = false) : b2i b = 0 := by rw [h]; rfl
theorem b2i_1 {b : Bool} (h : b = true) : ¬ b2i b = 0 := by rw [h]; decide
theorem nar_b (b : Bool) : narrow .boolean (.int (b2i b)) = .int (b2i b) := by cases b <;> rfl
def isIn (v lo hi : Int32) : Bool := !decide (v < lo) && !decide (hi < v)
def isCell (x y : Int32) : Bool := isIn x 0 8 && isIn y 0 8
abbrev imax (x y : Int32) : Int32 := if x < y then y else x
abbrev imin (x y : Int32) : Int32 := if y < x then y else x
abbrev iabs (x : Int32) : Int32 := if 0 ≤ x then x else 0 - x
def far (x y a b : Int32) : Int32 := imax (iabs (x - a)) (iabs (y - b))
def it {α : Type} (f : Nat → α → α) : Nat → α → α
  | 0, x => x
  | n + 1, x => f n (it f n x)
theorem it_0 {α : Type} (f : Nat → α → α) (x : α) : it f 0 x = x := rfl
theorem it_s {α : Type} (f : Nat → α → α) (n : Nat) (x : α) : it f (n + 1) x = f n (it f n x) := rfl
theorem isIn_iff {v lo hi : Int32} : isIn v lo hi = true ↔ lo.toInt ≤ v.toInt ∧ v.toInt ≤ hi.toInt := by
  simp only [isIn, Bool.and_eq_true, Bool.not_eq_true', decide_eq_false_iff_not, Int32.lt_iff_toInt_lt]
  omega
/-- a number of 0 to n - 1 -/
theorem in_of {v hi : Int32} {n : Nat} (h : isIn v 0 hi = true) (e : hi.toInt + 1 = n) (hn : n < 2 ^ 31) : ∃ j : Nat, j < n ∧ v = nI j := by
  have h1 := isIn_iff.mp h
  rw [Int32.toInt_zero] at h1
  obtain ⟨j, hj, e1⟩ := nI_of (x := v) (by rw [Int32.lt_iff_toInt_lt, Int32.toInt_zero]; omega)
  subst e1
  rw [nI_toInt hj] at h1
  exact ⟨j, by omega, rfl⟩
theorem in_nI {j n : Nat} {hi : Int32} (hj : j < n) (e : hi.toInt + 1 = n) (hn : n < 2 ^ 31) : isIn (nI j) 0 hi = true := by
  rw [isIn_iff, Int32.toInt_zero, nI_toInt (by omega)]
  omega
section LW
variable {p : Program} {l : Launch} {e : Jvm.Env} {R : Room} {s : State} {m : MethodId} {args : Array Value} {below : List Frame} {meth : Method} {c : Code} {H : Heap} {locs : List Loc} {cells slots : Nat} {Q : State → Prop}
variable {nL pc : Nat} {ls : Array Slot} {rest : List Value} {g : Gm} {K : Key → Prop}
theorem m_top {x y : Int32} (h : x = y) (k : W p l e R s m args below meth c H locs cells slots Q (F0 m pc ls (.int y :: rest))) : W p l e R s m args below meth c H locs cells slots Q (F0 m pc ls (.int x :: rest)) := by rw [h]; exact k
theorem lp_W {i0 : Nat} (N : Nat) (en : Nat → Key → va_E) (lv : Nat → List (Nat × Value)) (J : Nat → Prop) (hi : i0 ≤ N) (hP : WPe g K (en i0) H) (hS : va_S (AA g) s.heap H locs) (hl : lv_has ls nL (lv i0)) (hJ : J i0)
    (hx : ∀ (H : Heap) (locs : List Loc) (ls : Array Slot), WPe g K (en N) H → va_S (AA g) s.heap H locs → lv_has ls nL (lv N) → J N → W p l e R s m args below meth c H locs cells slots Q (F0 m pc ls rest))
    (hs : ∀ i, i < N → (∀ (H : Heap) (locs : List Loc) (ls : Array Slot), WPe g K (en (i + 1)) H → va_S (AA g) s.heap H locs → lv_has ls nL (lv (i + 1)) → J (i + 1) → W p l e R s m args below meth c H locs cells slots Q (F0 m pc ls rest)) → ∀ (H : Heap) (locs : List Loc) (ls : Array Slot), WPe g K (en i) H → va_S (AA g) s.heap H locs → lv_has ls nL (lv i) → J i → W p l e R s m args below meth c H locs cells slots Q (F0 m pc ls rest)) : W p l e R s m args below meth c H locs cells slots Q (F0 m pc ls rest) :=
  lp_up (P := fun i => ∀ (H : Heap) (locs : List Loc) (ls : Array Slot), WPe g K (en i) H → va_S (AA g) s.heap H locs → lv_has ls nL (lv i) → J i → W p l e R s m args below meth c H locs cells slots Q (F0 m pc ls rest)) N hx hs i0 hi H locs ls hP hS hl hJ
end LW

theorem cal_X4_cell : CalV RX4 yX4_cell cX4_cell 4 (some .int) 3 := ⟨w_166, w_167, w_1, w_168, by decide +kernel⟩
theorem cal_X4_isCell : CalS yX4_isCell cX4_isCell 2 (some .boolean) 2 := ⟨w_170, w_1, w_171, by decide +kernel⟩
theorem cal_X4_isWithin : CalS yX4_isWithin cX4_isWithin 3 (some .boolean) 3 := ⟨w_173, w_1, w_174, by decide +kernel⟩
theorem cal_X1_cellFact : CalV RX1 yX1_cellFact cX1_cellFact 5 (some .int) 3 := ⟨w_244, w_245, w_2, w_246, by decide +kernel⟩
theorem cal_X4_cellAt : CalS yX4_cellAt cX4_cellAt 2 (some .int) 2 := ⟨w_248, w_1, w_249, by decide +kernel⟩
theorem cal_X1_openHoleIn : CalV RX1 yX1_openHoleIn cX1_openHoleIn 5 (some .int) 2 := ⟨w_251, w_252, w_2, w_253, by decide +kernel⟩
theorem cal_X1_catchIn : CalV RX1 yX1_catchIn cX1_catchIn 3 (some .int) 1 := ⟨w_255, w_256, w_2, w_257, by decide +kernel⟩
theorem cal_X4_hole : CalV RX4 yX4_hole cX4_hole 3 (some .int) 2 := ⟨w_265, w_266, w_1, w_267, by decide +kernel⟩
theorem cal_X1_hasHole : CalV RX1 yX1_hasHole cX1_hasHole 2 (some .boolean) 1 := ⟨w_269, w_270, w_2, w_271, by decide +kernel⟩
theorem cal_X1_holeFact : CalV RX1 yX1_holeFact cX1_holeFact 3 (some .int) 2 := ⟨w_275, w_276, w_2, w_277, by decide +kernel⟩
theorem cal_X1_spearersAt : CalV RX1 yX1_spearersAt cX1_spearersAt 4 (some .int) 1 := ⟨w_280, ws_1, w_2, w_281, by decide +kernel⟩
theorem cal_X1_nearestWardenTo : CalV RX1 yX1_nearestWardenTo cX1_nearestWardenTo 5 (some .int) 1 := ⟨w_284, ws_2, w_2, w_285, by decide +kernel⟩
theorem cal_X4_distance : CalS yX4_distance cX4_distance 4 (some .int) 4 := ⟨w_287, w_1, w_288, by decide +kernel⟩
theorem cal_X4_spearer : CalV RX4 yX4_spearer cX4_spearer 3 (some .int) 2 := ⟨w_294, w_295, w_1, w_296, by decide +kernel⟩
theorem cal_X1_hasSpearer : CalV RX1 yX1_hasSpearer cX1_hasSpearer 2 (some .boolean) 1 := ⟨w_298, w_299, w_2, w_300, by decide +kernel⟩
theorem cal_X2_tell : CalV RX2 yX2_tell cX2_tell 2 (some .int) 1 := ⟨w_303, w_304, w_4, w_305, by decide +kernel⟩
theorem cal_X4_about : CalV RX4 yX4_about cX4_about 3 (some .int) 2 := ⟨w_307, w_308, w_1, w_309, by decide +kernel⟩
theorem cal_X1_hasWarden : CalV RX1 yX1_hasWarden cX1_hasWarden 2 (some .boolean) 1 := ⟨w_311, w_312, w_2, w_313, by decide +kernel⟩
theorem cal_X3_tell : CalV RX3 yX3_tell cX3_tell 2 (some .int) 1 := ⟨w_316, w_317, w_5, w_318, by decide +kernel⟩
theorem cal_X4_count : CalV RX4 yX4_count cX4_count 2 (some .int) 1 := ⟨w_320, w_321, w_1, w_322, by decide +kernel⟩
theorem cal_X1_fact : CalV RX1 yX1_fact cX1_fact 2 (some .int) 1 := ⟨w_325, w_326, w_2, w_327, by decide +kernel⟩
theorem cal_X4_iceBears : CalS yX4_iceBears cX4_iceBears 1 (some .boolean) 1 := ⟨w_329, w_1, w_330, by decide +kernel⟩
theorem cal_X1_eelsOfLake : CalV RX1 yX1_eelsOfLake cX1_eelsOfLake 3 (some .int) 0 := ⟨w_333, ws_3, w_2, w_334, by decide +kernel⟩
theorem cal_X1_openHoles : CalV RX1 yX1_openHoles cX1_openHoles 3 (some .int) 0 := ⟨w_337, ws_4, w_2, w_338, by decide +kernel⟩
theorem cal_X1_eelsOfSpearers : CalV RX1 yX1_eelsOfSpearers cX1_eelsOfSpearers 3 (some .int) 0 := ⟨w_341, ws_5, w_2, w_342, by decide +kernel⟩
theorem cal_X1_finesOfSpearers : CalV RX1 yX1_finesOfSpearers cX1_finesOfSpearers 3 (some .int) 0 := ⟨w_345, ws_6, w_2, w_346, by decide +kernel⟩
theorem cal_X4_pass : CalV RX4 yX4_pass cX4_pass 2 (some .int) 1 := ⟨w_348, w_349, w_1, w_350, by decide +kernel⟩
theorem cal_X1_letNightsGo : CalV RX1 yX1_letNightsGo cX1_letNightsGo 4 (some .int) 1 := ⟨w_368, w_369, w_2, w_370, by decide +kernel⟩
theorem cal_X1_lightLamps : CalV RX1 yX1_lightLamps cX1_lightLamps 3 none 0 := ⟨w_373, ws_7, w_2, w_374, by decide +kernel⟩
theorem cal_X1_lure : CalV RX1 yX1_lure cX1_lure 10 none 2 := ⟨w_378, ws_8, w_2, w_379, by decide +kernel⟩
theorem cal_X1_moveEels : CalV RX1 yX1_moveEels cX1_moveEels 5 none 2 := ⟨w_382, ws_9, w_2, w_383, by decide +kernel⟩
theorem cal_X1_spearEels : CalV RX1 yX1_spearEels cX1_spearEels 5 none 0 := ⟨w_386, ws_10, w_2, w_387, by decide +kernel⟩
theorem cal_X1_sendWardens : CalV RX1 yX1_sendWardens cX1_sendWardens 5 none 0 := ⟨w_390, ws_11, w_2, w_391, by decide +kernel⟩
theorem cal_X1_nearestOffence : CalV RX1 yX1_nearestOffence cX1_nearestOffence 6 (some .int) 1 := ⟨w_394, ws_12, w_2, w_395, by decide +kernel⟩
theorem cal_X1_hasOffender : CalV RX1 yX1_hasOffender cX1_hasOffender 3 (some .boolean) 1 := ⟨w_398, ws_13, w_2, w_399, by decide +kernel⟩
theorem cal_X2_tookTooMuch : CalV RX2 yX2_tookTooMuch cX2_tookTooMuch 1 (some .boolean) 0 := ⟨w_401, w_402, w_4, w_403, by decide +kernel⟩
theorem cal_X3_goTowards : CalV RX3 yX3_goTowards cX3_goTowards 3 none 1 := ⟨w_405, w_406, w_5, w_407, by decide +kernel⟩
theorem cal_J6_compare_7cf53 : CalS yJ6_compare_7cf53 cJ6_compare_7cf53 2 (some .int) 2 := ⟨w_409, w_15, w_410, by decide +kernel⟩
theorem cal_X1_fineAllAt : CalV RX1 yX1_fineAllAt cX1_fineAllAt 7 none 2 := ⟨w_413, ws_14, w_2, w_414, by decide +kernel⟩
theorem cal_X1_keepCatches : CalV RX1 yX1_keepCatches cX1_keepCatches 3 (some .int) 0 := ⟨w_417, ws_15, w_2, w_418, by decide +kernel⟩
theorem cal_X1_breedEels : CalV RX1 yX1_breedEels cX1_breedEels 2 none 0 := ⟨w_421, ws_16, w_2, w_422, by decide +kernel⟩
theorem cal_X1_freeze : CalV RX1 yX1_freeze cX1_freeze 2 none 0 := ⟨w_425, ws_17, w_2, w_426, by decide +kernel⟩
theorem cal_X1_frostOf : CalV RX1 yX1_frostOf cX1_frostOf 2 (some .int) 1 := ⟨w_428, w_429, w_2, w_430, by decide +kernel⟩
theorem cal_J9_floorMod_7cf53 : CalS yJ9_floorMod_7cf53 cJ9_floorMod_7cf53 3 (some .int) 2 := ⟨w_432, w_14, w_433, by decide +kernel⟩
theorem cal_X4_iceBehind : CalS yX4_iceBehind cX4_iceBehind 2 (some .int) 2 := ⟨w_435, w_1, w_436, by decide +kernel⟩
theorem cal_X1_closeAllHoles : CalV RX1 yX1_closeAllHoles cX1_closeAllHoles 2 none 0 := ⟨w_440, ws_18, w_2, w_441, by decide +kernel⟩
theorem cal_X1_closeEmptyHoles : CalV RX1 yX1_closeEmptyHoles cX1_closeEmptyHoles 2 none 0 := ⟨w_444, ws_19, w_2, w_445, by decide +kernel⟩
theorem cal_X4_bears : CalV RX4 yX4_bears cX4_bears 3 (some .int) 0 := ⟨w_447, w_448, w_1, w_449, by decide +kernel⟩
theorem cal_X4_foresee : CalV RX4 yX4_foresee cX4_foresee 3 (some .int) 2 := ⟨w_454, w_455, w_1, w_456, by decide +kernel⟩
theorem cal_X4_isForeseen : CalS yX4_isForeseen cX4_isForeseen 1 (some .boolean) 1 := ⟨w_458, w_1, w_459, by decide +kernel⟩
theorem cal_X1_become : CalV RX1 yX1_become cX1_become 3 none 1 := ⟨w_462, w_463, w_2, w_464, by decide +kernel⟩
theorem cal_X0_become : CalV RX0 yX0_become cX0_become 2 none 1 := ⟨w_466, w_467, w_3, w_468, by decide +kernel⟩
theorem cal_X2_become : CalV RX2 yX2_become cX2_become 2 none 1 := ⟨w_470, w_471, w_4, w_472, by decide +kernel⟩
theorem cal_X3_become : CalV RX3 yX3_become cX3_become 2 none 1 := ⟨w_474, w_475, w_5, w_476, by decide +kernel⟩
theorem cal_X4_advise : CalV RX4 yX4_advise cX4_advise 6 (some .int) 1 := ⟨w_478, w_479, w_1, w_480, by decide +kernel⟩
theorem cal_X4_eelsIfAt : CalV RX4 yX4_eelsIfAt cX4_eelsIfAt 3 (some .int) 2 := ⟨w_484, ws_20, w_1, w_485, by decide +kernel⟩
theorem cal_X4_mean : CalV RX4 yX4_mean cX4_mean 3 (some .double) 0 := ⟨w_487, w_488, w_1, w_489, by decide +kernel⟩
theorem cal_X4_digest : CalV RX4 yX4_digest cX4_digest 5 (some .long) 0 := ⟨w_491, w_492, w_1, w_493, by decide +kernel⟩
theorem cal_X4_mixed : CalS yX4_mixed cX4_mixed 3 (some .long) 2 := ⟨w_496, w_1, w_497, by decide +kernel⟩
theorem cal_X4_digestOfCells : CalV RX4 yX4_digestOfCells cX4_digestOfCells 8 (some .long) 1 := ⟨w_501, ws_21, w_1, w_502, by decide +kernel⟩
theorem cal_X4_digestOfPeople : CalV RX4 yX4_digestOfPeople cX4_digestOfPeople 7 (some .long) 1 := ⟨w_505, ws_22, w_1, w_506, by decide +kernel⟩
theorem cal_X5_pass : CalV RX5 yX5_pass cX5_pass 7 (some .int) 0 := ⟨w_508, w_509, w_6, w_510, by decide +kernel⟩
theorem cal_X5_lamp : CalV RX5 yX5_lamp cX5_lamp 6 none 1 := ⟨w_513, ws_23, w_6, w_515, by decide +kernel⟩
theorem cal_X5_would : CalV RX5 yX5_would cX5_would 5 (some .int) 2 := ⟨w_517, w_518, w_6, w_519, by decide +kernel⟩
theorem cal_X5_guard : CalV RX5 yX5_guard cX5_guard 9 none 1 := ⟨w_522, ws_24, w_6, w_523, by decide +kernel⟩
theorem cal_X5_far : CalS yX5_far cX5_far 4 (some .int) 2 := ⟨w_525, w_6, w_526, by decide +kernel⟩
theorem cal_X5_isOver : CalV RX5 yX5_isOver cX5_isOver 6 (some .boolean) 1 := ⟨w_529, ws_25, w_6, w_530, by decide +kernel⟩
theorem cal_X5_many : CalV RX5 yX5_many cX5_many 7 (some .int) 1 := ⟨w_532, w_533, w_6, w_534, by decide +kernel⟩
theorem cal_X5_isSame : CalV RX5 yX5_isSame cX5_isSame 8 (some .boolean) 1 := ⟨w_536, w_537, w_6, w_538, by decide +kernel⟩
theorem cal_X5_openAt : CalV RX5 yX5_openAt cX5_openAt 5 (some .int) 2 := ⟨w_541, w_542, w_6, w_543, by decide +kernel⟩
theorem cal_X5_counts : CalV RX5 yX5_counts cX5_counts 10 (some (.array .int)) 0 := ⟨w_548, w_549, w_6, w_550, by decide +kernel⟩
theorem cal_L_below : CalS yL_below cL_below 2 (some .int) 2 := ⟨w_554, w_0, w_555, by decide +kernel⟩
theorem cal_L_cell : CalS yL_cell cL_cell 2 (some .int) 2 := ⟨w_558, w_0, w_559, by decide +kernel⟩
theorem cal_X4_set : CalV RX4 yX4_set cX4_set 7 (some .int) 4 := ⟨w_566, w_567, w_1, w_568, by decide +kernel⟩
theorem cal_X4_setFrost : CalV RX4 yX4_setFrost cX4_setFrost 4 (some .int) 2 := ⟨w_573, w_574, w_1, w_575, by decide +kernel⟩
theorem cal_X4_cut : CalV RX4 yX4_cut cX4_cut 3 (some .int) 2 := ⟨w_580, w_581, w_1, w_582, by decide +kernel⟩
theorem cal_X1_addHole : CalV RX1 yX1_addHole cX1_addHole 4 (some .int) 2 := ⟨w_603, w_604, w_2, w_605, by decide +kernel⟩
theorem cal_X5_more : CalS yX5_more cX5_more 4 (some (.array (.array .int))) 2 := ⟨w_607, w_6, w_608, by decide +kernel⟩
theorem cal_X4_license : CalV RX4 yX4_license cX4_license 3 (some .int) 2 := ⟨w_612, w_613, w_1, w_614, by decide +kernel⟩
theorem cal_X1_addSpearer : CalV RX1 yX1_addSpearer cX1_addSpearer 4 (some .int) 2 := ⟨w_618, w_619, w_2, w_620, by decide +kernel⟩
theorem cal_X4_warden : CalV RX4 yX4_warden cX4_warden 4 (some .int) 3 := ⟨w_622, w_623, w_1, w_624, by decide +kernel⟩
theorem cal_X1_addWarden : CalV RX1 yX1_addWarden cX1_addWarden 5 (some .int) 3 := ⟨w_628, w_629, w_2, w_630, by decide +kernel⟩
theorem cal_X4_go : CalV RX4 yX4_go cX4_go 5 (some .int) 2 := ⟨w_632, w_633, w_1, w_634, by decide +kernel⟩
theorem cal_L_build : CalS yL_build cL_build 7 (some (.object "EelPermitsLaw$Sim")) 3 := ⟨w_638, w_0, w_639, by decide +kernel⟩
theorem cal_J7_fill_53178 : CalS yJ7_fill_53178 cJ7_fill_53178 4 none 2 := ⟨w_647, w_7, w_648, by decide +kernel⟩
section MOF
variable {l : Launch} {y : MethodName} {b : ByteArray} {n : Nat} {ret : Option FieldType} {R : Room} {g : Gm} {K : Key → Prop} {en : Key → va_E} {av : List Value} {Qc : Array Value → State → Outcome → State → Prop}
/-- the entry of a method of java.lang.Math that no entry of the table of natives overrides -/
theorem met_ofF (hy : plainFor y = true) (hn : (lg_sl av).length ≤ n)
    (body : ∀ (p : Program) (e : Jvm.Env) (s : State) (m : MethodId) (below : List Frame) (meth : Method) (c : Code) (ls : Array Slot), CallFix p m c b n s av.toArray LG y.cls → meth.sig.returnType = ret → meth.locks = false → meth.name = y.name → Ev g s → WPe g K en s.heap → va_S (AA g) s.heap s.heap [] → lv_has ls n (lv_args 0 av) →
      W p l e R s m av.toArray below meth c s.heap [] 0 0 (MQ below Qc av.toArray s R.cells R.slots (AA g)) (F0 m 0 ls [])) : Met l y (wy y b n ret) R (Pd g K en av) Qc R.cells R.slots (AA g) := by
  refine MetFree.of_bodySF (code := b) (maxLocals := n) (ret := ret) hy ?_ ?_
  · intro args s m h hn
    obtain ⟨meth, c, h1, h2, h3, h4, h5, h6, -, -⟩ := Cond.code_spec hn (atoms_spec (ws := wy y b n ret) h _ List.mem_cons_self)
    exact ⟨meth, c, h1, h2, h3, h4, h5, h6⟩
  · intro p e s m args below meth c s₁ B hml hv _
    have hh0 : s₁.heap = s.heap := by rw [B.state]; rfl
    obtain ⟨rfl, hE, hP⟩ := hv
    have hts := atoms_spec (ws := wy y b n ret) B.pre
    have hl := lv_entry av (n := n) hn
    have k := body p e s m below meth c _ ⟨B.exec, B.bytes, hml, findClass_of_methodNamed B.named, fun w hw => hts w (List.mem_cons_of_mem _ hw)⟩ B.returns B.notSynchronized (name_of_methodNamed B.named B.method).1 hE hP va_S.rf hl
    rw [← lg_entry_eq] at k
    obtain ⟨t, a1, o, b1, b2, b3⟩ := k s₁ hh0 (Stand.of_body B)
    exact ⟨t, o, a1, b1, b2, ⟨b3.1, b3.2⟩⟩
end MOF
