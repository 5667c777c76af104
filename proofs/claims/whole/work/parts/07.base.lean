/-! Words of the pictures; the loop; how each method is called. -/
def b2i (b : Bool) : Int32 := if b then 1 else 0
theorem b2i_t {b : Bool} (h : ¬ b2i b = 0) : b = true := by cases b <;> first | rfl | exact absurd rfl h
theorem b2i_f {b : Bool} (h : b2i b = 0) : b = false := by cases b <;> first | rfl | exact absurd h (by decide)
theorem b2i_0 {b : Bool} (h : b = false) : b2i b = 0 := by rw [h]; rfl
theorem b2i_1 {b : Bool} (h : b = true) : ¬ b2i b = 0 := by rw [h]; decide
theorem nar_b (b : Bool) : narrow .boolean (.int (b2i b)) = .int (b2i b) := by cases b <;> rfl
def isIn (v lo hi : Int32) : Bool := !decide (v < lo) && !decide (hi < v)
def isCell (x y : Int32) : Bool := isIn x 0 8 && isIn y 0 8
abbrev imax (x y : Int32) : Int32 := if x < y then y else x
abbrev imin (x y : Int32) : Int32 := if y < x then y else x
abbrev iabs (x : Int32) : Int32 := if 0 ≤ x then x else 0 - x
def far (x y a b : Int32) : Int32 := imax (iabs (x - a)) (iabs (y - b))
def it {α : Type} (f : Nat → α → α) : Nat → α → α
  | 0, x => x
  | n + 1, x => f n (it f n x)
theorem it_0 {α : Type} (f : Nat → α → α) (x : α) : it f 0 x = x := rfl
theorem it_s {α : Type} (f : Nat → α → α) (n : Nat) (x : α) : it f (n + 1) x = f n (it f n x) := rfl
theorem isIn_iff {v lo hi : Int32} : isIn v lo hi = true ↔ lo.toInt ≤ v.toInt ∧ v.toInt ≤ hi.toInt := by
  simp only [isIn, Bool.and_eq_true, Bool.not_eq_true', decide_eq_false_iff_not, Int32.lt_iff_toInt_lt]
  omega
/-- a number of 0 to n - 1 -/
theorem in_of {v hi : Int32} {n : Nat} (h : isIn v 0 hi = true) (e : hi.toInt + 1 = n) (hn : n < 2 ^ 31) : ∃ j : Nat, j < n ∧ v = nI j := by
  have h1 := isIn_iff.mp h
  rw [Int32.toInt_zero] at h1
  obtain ⟨j, hj, e1⟩ := nI_of (x := v) (by rw [Int32.lt_iff_toInt_lt, Int32.toInt_zero]; omega)
  subst e1
  rw [nI_toInt hj] at h1
  exact ⟨j, by omega, rfl⟩
theorem in_nI {j n : Nat} {hi : Int32} (hj : j < n) (e : hi.toInt + 1 = n) (hn : n < 2 ^ 31) : isIn (nI j) 0 hi = true := by
  rw [isIn_iff, Int32.toInt_zero, nI_toInt (by omega)]
  omega
section LW
variable {p : Program} {l : Launch} {e : Jvm.Env} {R : Room} {s : State} {m : MethodId} {args : Array Value} {below : List Frame} {meth : Method} {c : Code} {H : Heap} {locs : List Loc} {cells slots : Nat} {Q : State → Prop}
variable {nL pc : Nat} {ls : Array Slot} {rest : List Value} {g : Gm} {K : Key → Prop}
theorem m_top {x y : Int32} (h : x = y) (k : W p l e R s m args below meth c H locs cells slots Q (F0 m pc ls (.int y :: rest))) : W p l e R s m args below meth c H locs cells slots Q (F0 m pc ls (.int x :: rest)) := by rw [h]; exact k
theorem lp_W {i0 : Nat} (N : Nat) (en : Nat → Key → va_E) (lv : Nat → List (Nat × Value)) (J : Nat → Prop) (hi : i0 ≤ N) (hP : WPe g K (en i0) H) (hS : va_S (AA g) s.heap H locs) (hl : lv_has ls nL (lv i0)) (hJ : J i0)
    (hx : ∀ (H : Heap) (locs : List Loc) (ls : Array Slot), WPe g K (en N) H → va_S (AA g) s.heap H locs → lv_has ls nL (lv N) → J N → W p l e R s m args below meth c H locs cells slots Q (F0 m pc ls rest))
    (hs : ∀ i, i < N → (∀ (H : Heap) (locs : List Loc) (ls : Array Slot), WPe g K (en (i + 1)) H → va_S (AA g) s.heap H locs → lv_has ls nL (lv (i + 1)) → J (i + 1) → W p l e R s m args below meth c H locs cells slots Q (F0 m pc ls rest)) → ∀ (H : Heap) (locs : List Loc) (ls : Array Slot), WPe g K (en i) H → va_S (AA g) s.heap H locs → lv_has ls nL (lv i) → J i → W p l e R s m args below meth c H locs cells slots Q (F0 m pc ls rest)) : W p l e R s m args below meth c H locs cells slots Q (F0 m pc ls rest) :=
  lp_up (P := fun i => ∀ (H : Heap) (locs : List Loc) (ls : Array Slot), WPe g K (en i) H → va_S (AA g) s.heap H locs → lv_has ls nL (lv i) → J i → W p l e R s m args below meth c H locs cells slots Q (F0 m pc ls rest)) N hx hs i0 hi H locs ls hP hS hl hJ
end LW

theorem cal_X4_bears : CalV RX4 yX4_bears cX4_bears 3 (some .int) 0 := ⟨w_167, w_168, w_1, w_169, by decide +kernel⟩
theorem cal_X4_iceBears : CalS yX4_iceBears cX4_iceBears 1 (some .boolean) 1 := ⟨w_171, w_1, w_172, by decide +kernel⟩
theorem cal_X1_frostOf : CalV RX1 yX1_frostOf cX1_frostOf 2 (some .int) 1 := ⟨w_174, w_175, w_2, w_176, by decide +kernel⟩
theorem cal_J9_floorMod_7cf53 : CalS yJ9_floorMod_7cf53 cJ9_floorMod_7cf53 3 (some .int) 2 := ⟨w_178, w_14, w_179, by decide +kernel⟩
theorem cal_X4_iceBehind : CalS yX4_iceBehind cX4_iceBehind 2 (some .int) 2 := ⟨w_181, w_1, w_182, by decide +kernel⟩
theorem cal_X4_mean : CalV RX4 yX4_mean cX4_mean 3 (some .double) 0 := ⟨w_190, w_191, w_1, w_192, by decide +kernel⟩
theorem cal_X4_digest : CalV RX4 yX4_digest cX4_digest 5 (some .long) 0 := ⟨w_194, w_195, w_1, w_196, by decide +kernel⟩
theorem cal_X1_fact : CalV RX1 yX1_fact cX1_fact 2 (some .int) 1 := ⟨w_199, w_200, w_2, w_201, by decide +kernel⟩
theorem cal_X1_eelsOfLake : CalV RX1 yX1_eelsOfLake cX1_eelsOfLake 3 (some .int) 0 := ⟨w_205, ws_0, w_2, w_206, by decide +kernel⟩
theorem cal_X1_openHoles : CalV RX1 yX1_openHoles cX1_openHoles 3 (some .int) 0 := ⟨w_209, ws_1, w_2, w_210, by decide +kernel⟩
theorem cal_X1_eelsOfSpearers : CalV RX1 yX1_eelsOfSpearers cX1_eelsOfSpearers 3 (some .int) 0 := ⟨w_213, ws_2, w_2, w_214, by decide +kernel⟩
theorem cal_X1_finesOfSpearers : CalV RX1 yX1_finesOfSpearers cX1_finesOfSpearers 3 (some .int) 0 := ⟨w_217, ws_3, w_2, w_218, by decide +kernel⟩
theorem cal_X4_mixed : CalS yX4_mixed cX4_mixed 3 (some .long) 2 := ⟨w_220, w_1, w_221, by decide +kernel⟩
theorem cal_X4_digestOfCells : CalV RX4 yX4_digestOfCells cX4_digestOfCells 8 (some .long) 1 := ⟨w_225, ws_4, w_1, w_226, by decide +kernel⟩
theorem cal_X1_cellFact : CalV RX1 yX1_cellFact cX1_cellFact 5 (some .int) 3 := ⟨w_228, w_229, w_2, w_230, by decide +kernel⟩
theorem cal_X4_cellAt : CalS yX4_cellAt cX4_cellAt 2 (some .int) 2 := ⟨w_232, w_1, w_233, by decide +kernel⟩
theorem cal_X1_openHoleIn : CalV RX1 yX1_openHoleIn cX1_openHoleIn 5 (some .int) 2 := ⟨w_235, w_236, w_2, w_237, by decide +kernel⟩
theorem cal_X1_catchIn : CalV RX1 yX1_catchIn cX1_catchIn 3 (some .int) 1 := ⟨w_239, w_240, w_2, w_241, by decide +kernel⟩
theorem cal_X1_holeFact : CalV RX1 yX1_holeFact cX1_holeFact 3 (some .int) 2 := ⟨w_245, w_246, w_2, w_247, by decide +kernel⟩
theorem cal_X1_spearersAt : CalV RX1 yX1_spearersAt cX1_spearersAt 4 (some .int) 1 := ⟨w_250, ws_5, w_2, w_251, by decide +kernel⟩
theorem cal_X1_nearestWardenTo : CalV RX1 yX1_nearestWardenTo cX1_nearestWardenTo 5 (some .int) 1 := ⟨w_254, ws_6, w_2, w_255, by decide +kernel⟩
theorem cal_X4_distance : CalS yX4_distance cX4_distance 4 (some .int) 4 := ⟨w_257, w_1, w_258, by decide +kernel⟩
theorem cal_X4_digestOfPeople : CalV RX4 yX4_digestOfPeople cX4_digestOfPeople 7 (some .long) 1 := ⟨w_264, ws_7, w_1, w_265, by decide +kernel⟩
theorem cal_X2_tell : CalV RX2 yX2_tell cX2_tell 2 (some .int) 1 := ⟨w_267, w_268, w_4, w_269, by decide +kernel⟩
theorem cal_X3_tell : CalV RX3 yX3_tell cX3_tell 2 (some .int) 1 := ⟨w_271, w_272, w_5, w_273, by decide +kernel⟩
theorem cal_X4_set : CalV RX4 yX4_set cX4_set 7 (some .int) 4 := ⟨w_280, w_281, w_1, w_282, by decide +kernel⟩
theorem cal_X4_isCell : CalS yX4_isCell cX4_isCell 2 (some .boolean) 2 := ⟨w_284, w_1, w_285, by decide +kernel⟩
theorem cal_X4_isWithin : CalS yX4_isWithin cX4_isWithin 3 (some .boolean) 3 := ⟨w_287, w_1, w_288, by decide +kernel⟩
theorem cal_X4_setFrost : CalV RX4 yX4_setFrost cX4_setFrost 4 (some .int) 2 := ⟨w_378, w_379, w_1, w_380, by decide +kernel⟩
theorem cal_X4_cut : CalV RX4 yX4_cut cX4_cut 3 (some .int) 2 := ⟨w_388, w_389, w_1, w_390, by decide +kernel⟩
theorem cal_X1_addHole : CalV RX1 yX1_addHole cX1_addHole 4 (some .int) 2 := ⟨w_411, w_412, w_2, w_413, by decide +kernel⟩
theorem cal_X4_license : CalV RX4 yX4_license cX4_license 3 (some .int) 2 := ⟨w_418, w_419, w_1, w_420, by decide +kernel⟩
theorem cal_X1_addSpearer : CalV RX1 yX1_addSpearer cX1_addSpearer 4 (some .int) 2 := ⟨w_424, w_425, w_2, w_426, by decide +kernel⟩
theorem cal_X4_go : CalV RX4 yX4_go cX4_go 5 (some .int) 2 := ⟨w_431, w_432, w_1, w_433, by decide +kernel⟩
theorem cal_X1_hasSpearer : CalV RX1 yX1_hasSpearer cX1_hasSpearer 2 (some .boolean) 1 := ⟨w_435, w_436, w_2, w_437, by decide +kernel⟩
theorem cal_X1_hasHole : CalV RX1 yX1_hasHole cX1_hasHole 2 (some .boolean) 1 := ⟨w_441, w_442, w_2, w_443, by decide +kernel⟩
theorem cal_X4_warden : CalV RX4 yX4_warden cX4_warden 4 (some .int) 3 := ⟨w_450, w_451, w_1, w_452, by decide +kernel⟩
theorem cal_X1_addWarden : CalV RX1 yX1_addWarden cX1_addWarden 5 (some .int) 3 := ⟨w_456, w_457, w_2, w_458, by decide +kernel⟩
theorem cal_X4_cell : CalV RX4 yX4_cell cX4_cell 4 (some .int) 3 := ⟨w_463, w_464, w_1, w_465, by decide +kernel⟩
theorem cal_X4_hole : CalV RX4 yX4_hole cX4_hole 3 (some .int) 2 := ⟨w_471, w_472, w_1, w_473, by decide +kernel⟩
theorem cal_X4_spearer : CalV RX4 yX4_spearer cX4_spearer 3 (some .int) 2 := ⟨w_479, w_480, w_1, w_481, by decide +kernel⟩
theorem cal_X4_about : CalV RX4 yX4_about cX4_about 3 (some .int) 2 := ⟨w_487, w_488, w_1, w_489, by decide +kernel⟩
theorem cal_X1_hasWarden : CalV RX1 yX1_hasWarden cX1_hasWarden 2 (some .boolean) 1 := ⟨w_491, w_492, w_2, w_493, by decide +kernel⟩
theorem cal_X4_count : CalV RX4 yX4_count cX4_count 2 (some .int) 1 := ⟨w_499, w_500, w_1, w_501, by decide +kernel⟩
theorem cal_X4_pass : CalV RX4 yX4_pass cX4_pass 2 (some .int) 1 := ⟨w_507, w_508, w_1, w_509, by decide +kernel⟩
theorem cal_X1_letNightsGo : CalV RX1 yX1_letNightsGo cX1_letNightsGo 4 (some .int) 1 := ⟨w_512, w_513, w_2, w_514, by decide +kernel⟩
theorem cal_X1_lightLamps : CalV RX1 yX1_lightLamps cX1_lightLamps 3 none 0 := ⟨w_517, ws_9, w_2, w_518, by decide +kernel⟩
theorem cal_X1_lure : CalV RX1 yX1_lure cX1_lure 10 none 2 := ⟨w_522, ws_10, w_2, w_523, by decide +kernel⟩
theorem cal_X1_moveEels : CalV RX1 yX1_moveEels cX1_moveEels 5 none 2 := ⟨w_526, ws_11, w_2, w_527, by decide +kernel⟩
theorem cal_X1_spearEels : CalV RX1 yX1_spearEels cX1_spearEels 5 none 0 := ⟨w_530, ws_12, w_2, w_531, by decide +kernel⟩
theorem cal_X1_sendWardens : CalV RX1 yX1_sendWardens cX1_sendWardens 5 none 0 := ⟨w_534, ws_13, w_2, w_535, by decide +kernel⟩
theorem cal_X1_nearestOffence : CalV RX1 yX1_nearestOffence cX1_nearestOffence 6 (some .int) 1 := ⟨w_538, ws_14, w_2, w_539, by decide +kernel⟩
theorem cal_X1_hasOffender : CalV RX1 yX1_hasOffender cX1_hasOffender 3 (some .boolean) 1 := ⟨w_542, ws_15, w_2, w_543, by decide +kernel⟩
theorem cal_X2_tookTooMuch : CalV RX2 yX2_tookTooMuch cX2_tookTooMuch 1 (some .boolean) 0 := ⟨w_545, w_546, w_4, w_547, by decide +kernel⟩
theorem cal_X3_goTowards : CalV RX3 yX3_goTowards cX3_goTowards 3 none 1 := ⟨w_549, w_550, w_5, w_551, by decide +kernel⟩
theorem cal_J6_compare_7cf53 : CalS yJ6_compare_7cf53 cJ6_compare_7cf53 2 (some .int) 2 := ⟨w_553, w_15, w_554, by decide +kernel⟩
theorem cal_X1_fineAllAt : CalV RX1 yX1_fineAllAt cX1_fineAllAt 7 none 2 := ⟨w_557, ws_16, w_2, w_558, by decide +kernel⟩
theorem cal_X1_keepCatches : CalV RX1 yX1_keepCatches cX1_keepCatches 3 (some .int) 0 := ⟨w_561, ws_17, w_2, w_562, by decide +kernel⟩
theorem cal_X1_breedEels : CalV RX1 yX1_breedEels cX1_breedEels 2 none 0 := ⟨w_565, ws_18, w_2, w_566, by decide +kernel⟩
theorem cal_X1_freeze : CalV RX1 yX1_freeze cX1_freeze 2 none 0 := ⟨w_569, ws_19, w_2, w_570, by decide +kernel⟩
theorem cal_X1_closeAllHoles : CalV RX1 yX1_closeAllHoles cX1_closeAllHoles 2 none 0 := ⟨w_575, ws_20, w_2, w_576, by decide +kernel⟩
theorem cal_X1_closeEmptyHoles : CalV RX1 yX1_closeEmptyHoles cX1_closeEmptyHoles 2 none 0 := ⟨w_579, ws_21, w_2, w_580, by decide +kernel⟩
theorem cal_X4_foresee : CalV RX4 yX4_foresee cX4_foresee 3 (some .int) 2 := ⟨w_585, w_586, w_1, w_587, by decide +kernel⟩
theorem cal_X4_isForeseen : CalS yX4_isForeseen cX4_isForeseen 1 (some .boolean) 1 := ⟨w_589, w_1, w_590, by decide +kernel⟩
theorem cal_X1_become : CalV RX1 yX1_become cX1_become 3 none 1 := ⟨w_593, w_594, w_2, w_595, by decide +kernel⟩
theorem cal_X0_become : CalV RX0 yX0_become cX0_become 2 none 1 := ⟨w_597, w_598, w_3, w_599, by decide +kernel⟩
theorem cal_X2_become : CalV RX2 yX2_become cX2_become 2 none 1 := ⟨w_601, w_602, w_4, w_603, by decide +kernel⟩
theorem cal_X3_become : CalV RX3 yX3_become cX3_become 2 none 1 := ⟨w_605, w_606, w_5, w_607, by decide +kernel⟩
theorem cal_X4_advise : CalV RX4 yX4_advise cX4_advise 6 (some .int) 1 := ⟨w_612, w_613, w_1, w_614, by decide +kernel⟩
theorem cal_X4_eelsIfAt : CalV RX4 yX4_eelsIfAt cX4_eelsIfAt 3 (some .int) 2 := ⟨w_617, ws_22, w_1, w_618, by decide +kernel⟩
theorem cal_X6_thrown : CalV RX6 yX6_thrown cX6_thrown 1 (some .int) 0 := ⟨w_730, w_731, w_6, w_732, by decide +kernel⟩
theorem cal_X6_set : CalV RX6 yX6_set cX6_set 7 (some .int) 4 := ⟨w_734, w_735, w_6, w_736, by decide +kernel⟩
theorem cal_X6_isCell : CalS yX6_isCell cX6_isCell 2 (some .boolean) 2 := ⟨w_738, w_6, w_739, by decide +kernel⟩
theorem cal_X6_isIn : CalS yX6_isIn cX6_isIn 3 (some .boolean) 3 := ⟨w_741, w_6, w_742, by decide +kernel⟩
theorem cal_X6_no : CalV RX6 yX6_no cX6_no 2 (some .int) 1 := ⟨w_745, ws_23, w_6, w_746, by decide +kernel⟩
theorem cal_X6_setFrost : CalV RX6 yX6_setFrost cX6_setFrost 4 (some .int) 2 := ⟨w_748, w_749, w_6, w_750, by decide +kernel⟩
theorem cal_X6_cut : CalV RX6 yX6_cut cX6_cut 3 (some .int) 2 := ⟨w_752, w_753, w_6, w_754, by decide +kernel⟩
theorem cal_X6_holeIn : CalV RX6 yX6_holeIn cX6_holeIn 3 (some .int) 1 := ⟨w_757, ws_24, w_6, w_758, by decide +kernel⟩
theorem cal_X6_cellOf : CalV RX6 yX6_cellOf cX6_cellOf 2 (some .int) 1 := ⟨w_761, ws_25, w_6, w_762, by decide +kernel⟩
theorem cal_X6_license : CalV RX6 yX6_license cX6_license 3 (some .int) 2 := ⟨w_764, w_765, w_6, w_766, by decide +kernel⟩
theorem cal_X6_go : CalV RX6 yX6_go cX6_go 4 (some .int) 2 := ⟨w_768, w_769, w_6, w_770, by decide +kernel⟩
theorem cal_X6_isSpearer : CalV RX6 yX6_isSpearer cX6_isSpearer 2 (some .boolean) 1 := ⟨w_773, ws_26, w_6, w_774, by decide +kernel⟩
theorem cal_X6_isHole : CalV RX6 yX6_isHole cX6_isHole 2 (some .boolean) 1 := ⟨w_777, ws_27, w_6, w_778, by decide +kernel⟩
theorem cal_X6_warden : CalV RX6 yX6_warden cX6_warden 4 (some .int) 3 := ⟨w_780, w_781, w_6, w_782, by decide +kernel⟩
theorem cal_X6_cell : CalV RX6 yX6_cell cX6_cell 4 (some .int) 3 := ⟨w_784, w_785, w_6, w_786, by decide +kernel⟩
theorem cal_X6_cellTold : CalV RX6 yX6_cellTold cX6_cellTold 3 (some .int) 2 := ⟨w_789, ws_28, w_6, w_790, by decide +kernel⟩
theorem cal_X5_would : CalV RX5 yX5_would cX5_would 2 (some .int) 1 := ⟨w_792, w_793, w_7, w_794, by decide +kernel⟩
theorem cal_X6_hole : CalV RX6 yX6_hole cX6_hole 3 (some .int) 2 := ⟨w_798, w_799, w_6, w_800, by decide +kernel⟩
theorem cal_X6_holeTold : CalV RX6 yX6_holeTold cX6_holeTold 3 (some .int) 2 := ⟨w_803, ws_29, w_6, w_804, by decide +kernel⟩
theorem cal_X5_spearersAt : CalV RX5 yX5_spearersAt cX5_spearersAt 4 (some .int) 1 := ⟨w_806, w_807, w_7, w_808, by decide +kernel⟩
theorem cal_X6_nearest : CalV RX6 yX6_nearest cX6_nearest 4 (some .int) 1 := ⟨w_811, ws_30, w_6, w_812, by decide +kernel⟩
theorem cal_X5_farFrom : CalV RX5 yX5_farFrom cX5_farFrom 3 (some .int) 2 := ⟨w_814, w_815, w_7, w_816, by decide +kernel⟩
theorem cal_X6_far : CalS yX6_far cX6_far 4 (some .int) 4 := ⟨w_818, w_6, w_819, by decide +kernel⟩
theorem cal_X6_spearer : CalV RX6 yX6_spearer cX6_spearer 3 (some .int) 2 := ⟨w_823, w_824, w_6, w_825, by decide +kernel⟩
theorem cal_X6_spearerTold : CalV RX6 yX6_spearerTold cX6_spearerTold 3 (some .int) 2 := ⟨w_828, ws_31, w_6, w_829, by decide +kernel⟩
theorem cal_X6_about : CalV RX6 yX6_about cX6_about 3 (some .int) 2 := ⟨w_831, w_832, w_6, w_833, by decide +kernel⟩
theorem cal_X6_wardenTold : CalV RX6 yX6_wardenTold cX6_wardenTold 3 (some .int) 2 := ⟨w_836, ws_32, w_6, w_837, by decide +kernel⟩
theorem cal_X6_count : CalV RX6 yX6_count cX6_count 2 (some .int) 1 := ⟨w_839, w_840, w_6, w_841, by decide +kernel⟩
theorem cal_X5_count : CalV RX5 yX5_count cX5_count 2 (some .int) 1 := ⟨w_843, w_844, w_7, w_845, by decide +kernel⟩
theorem cal_X5_sum : CalV RX5 yX5_sum cX5_sum 5 (some .int) 2 := ⟨w_848, ws_33, w_7, w_849, by decide +kernel⟩
theorem cal_X6_pass : CalV RX6 yX6_pass cX6_pass 2 (some .int) 1 := ⟨w_851, w_852, w_6, w_853, by decide +kernel⟩
theorem cal_X5_pass_ : CalV RX5 yX5_pass_ cX5_pass_ 4 (some .int) 1 := ⟨w_855, w_856, w_7, w_857, by decide +kernel⟩
theorem cal_X5_pass : CalV RX5 yX5_pass cX5_pass 3 (some .int) 0 := ⟨w_859, w_860, w_7, w_861, by decide +kernel⟩
theorem cal_X5_lure : CalV RX5 yX5_lure cX5_lure 7 none 1 := ⟨w_864, ws_34, w_7, w_865, by decide +kernel⟩
theorem cal_X5_spear : CalV RX5 yX5_spear cX5_spear 3 none 1 := ⟨w_868, ws_35, w_7, w_869, by decide +kernel⟩
theorem cal_X5_guard : CalV RX5 yX5_guard cX5_guard 5 none 1 := ⟨w_874, ws_36, w_7, w_875, by decide +kernel⟩
theorem cal_X5_goal : CalV RX5 yX5_goal cX5_goal 7 (some .int) 1 := ⟨w_878, ws_37, w_7, w_879, by decide +kernel⟩
theorem cal_X5_isOver : CalV RX5 yX5_isOver cX5_isOver 3 (some .boolean) 2 := ⟨w_882, ws_38, w_7, w_883, by decide +kernel⟩
theorem cal_J6_signum_0f7a4 : CalS yJ6_signum_0f7a4 cJ6_signum_0f7a4 1 (some .int) 1 := ⟨w_886, w_15, w_887, by decide +kernel⟩
theorem cal_X5_freeze : CalV RX5 yX5_freeze cX5_freeze 3 none 0 := ⟨w_891, ws_39, w_7, w_892, by decide +kernel⟩
theorem cal_X6_bears : CalV RX6 yX6_bears cX6_bears 3 (some .int) 0 := ⟨w_895, w_896, w_6, w_897, by decide +kernel⟩
theorem cal_X6_foresee : CalV RX6 yX6_foresee cX6_foresee 3 (some .int) 2 := ⟨w_900, w_901, w_6, w_902, by decide +kernel⟩
theorem cal_X5_become : CalV RX5 yX5_become cX5_become 2 none 1 := ⟨w_904, w_905, w_7, w_906, by decide +kernel⟩
theorem cal_X5_copy : CalV RX5 yX5_copy cX5_copy 3 none 2 := ⟨w_909, ws_40, w_7, w_910, by decide +kernel⟩
theorem cal_X6_advise : CalV RX6 yX6_advise cX6_advise 5 (some .int) 1 := ⟨w_915, w_916, w_6, w_917, by decide +kernel⟩
theorem cal_X6_mean : CalV RX6 yX6_mean cX6_mean 1 (some .double) 0 := ⟨w_919, w_920, w_6, w_921, by decide +kernel⟩
theorem cal_X6_digest : CalV RX6 yX6_digest cX6_digest 7 (some .long) 0 := ⟨w_924, w_925, w_6, w_926, by decide +kernel⟩
section MOF
variable {l : Launch} {y : MethodName} {b : ByteArray} {n : Nat} {ret : Option FieldType} {R : Room} {g : Gm} {K : Key → Prop} {en : Key → va_E} {av : List Value} {Qc : Array Value → State → Outcome → State → Prop}
/-- the entry of a method of java.lang.Math that no entry of the table of natives overrides -/
theorem met_ofF (hy : plainFor y = true) (hn : (lg_sl av).length ≤ n)
    (body : ∀ (p : Program) (e : Jvm.Env) (s : State) (m : MethodId) (below : List Frame) (meth : Method) (c : Code) (ls : Array Slot), CallFix p m c b n s av.toArray LG y.cls → meth.sig.returnType = ret → meth.locks = false → meth.name = y.name → Ev g s → WPe g K en s.heap → va_S (AA g) s.heap s.heap [] → lv_has ls n (lv_args 0 av) →
      W p l e R s m av.toArray below meth c s.heap [] 0 0 (MQ below Qc av.toArray s R.cells R.slots (AA g)) (F0 m 0 ls [])) : Met l y (wy y b n ret) R (Pd g K en av) Qc R.cells R.slots (AA g) := by
  refine MetFree.of_bodySF (code := b) (maxLocals := n) (ret := ret) hy ?_ ?_
  · intro args s m h hn
    obtain ⟨meth, c, h1, h2, h3, h4, h5, h6, -, -⟩ := Cond.code_spec hn (atoms_spec (ws := wy y b n ret) h _ List.mem_cons_self)
    exact ⟨meth, c, h1, h2, h3, h4, h5, h6⟩
  · intro p e s m args below meth c s₁ B hml hv _
    have hh0 : s₁.heap = s.heap := by rw [B.state]; rfl
    obtain ⟨rfl, hE, hP⟩ := hv
    have hts := atoms_spec (ws := wy y b n ret) B.pre
    have hl := lv_entry av (n := n) hn
    have k := body p e s m below meth c _ ⟨B.exec, B.bytes, hml, findClass_of_methodNamed B.named, fun w hw => hts w (List.mem_cons_of_mem _ hw)⟩ B.returns B.notSynchronized (name_of_methodNamed B.named B.method).1 hE hP va_S.rf hl
    rw [← lg_entry_eq] at k
    obtain ⟨t, a1, o, b1, b2, b3⟩ := k s₁ hh0 (Stand.of_body B)
    exact ⟨t, o, a1, b1, b2, ⟨b3.1, b3.2⟩⟩
end MOF
