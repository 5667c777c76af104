/-! The law's loop. -/
theorem l_loop {p : Program} {l : Launch} {e : Jvm.Env} {R : Room} {s : State} {m : MethodId} {args : Array Value} {below : List Frame} {meth : Method} {c : Code} {Q : State → Prop} {g0 : Gm} {b L : Nat} {xs : Nat → Int32} {o : Nat → Int64} (hl0 : l.stackTraces = false) (hC : CallFix p m c cL_law 32 s args LG RL) (hE0 : Ev g0 s) (hX : va_X b L xs s s.heap) (hb0 : ¬ AA g0 b) (hL30 : L < 2 ^ 30) (hR : 9 ≤ R.frames ∧ 250 ≤ R.locals) (hRc : 800 ≤ R.cells ∧ 6000 ≤ R.slots)
    (IH : ∀ (g1 : Gm) (M1 : Mem) (H : Heap) (locs : List Loc) (ls : Array Slot), Gb g0 g1 → IJ g1 (KK g1) → LI (44) g1 M1 → KK g1 (30, 0, 0) → (∀ j, j < 5 → M1 3 0 j = wF j) → WP g1 M1 o H → va_S (AA g1) s.heap H locs → lv_has ls 32 [(4, .int (nI 30)), (0, .ref b), (1, .ref (ad g1 (8, 0, 0))), (2, .ref (ad g1 (20, 0, 0))), (3, .ref (ad g1 (30, 0, 0)))] → W p l e R s m args below meth c H locs 736 5435 Q (F0 m 51 ls [])) :
    ∀ i, i ≤ 30 → ∀ (g1 : Gm) (M1 : Mem) (H : Heap) (locs : List Loc) (ls : Array Slot), Gb g0 g1 → IJ g1 (KK g1) → LI (74 - i) g1 M1 → KK g1 (30, 0, 0) → (∀ j, j < 5 → M1 3 0 j = wF j) → WP g1 M1 o H → va_S (AA g1) s.heap H locs → lv_has ls 32 [(4, .int (nI i)), (0, .ref b), (1, .ref (ad g1 (8, 0, 0))), (2, .ref (ad g1 (20, 0, 0))), (3, .ref (ad g1 (30, 0, 0)))] → W p l e R s m args below meth c H locs (166 + 19 * i) (1475 + 132 * i) Q (F0 m 51 ls []) := by
  refine lp_up 30 ?_ ?_
  · intro g1 M1 H locs ls G hI hU k30 h30 hP hS hl
    exact IH g1 M1 H locs ls G hI hU k30 h30 hP hS hl
  · intro i hi ih g1 M1 H locs ls G hI hU k30 h30 hP hS hl
    have e1 : 74 - i = (68 - i) + 6 := by omega
    rw [e1] at hU
    refine l_round (n5 := 68 - i) hl0 hC hE0 hX hb0 hL30 hR hi G hI hP hS hU k30 h30 ⟨by omega, by omega⟩ (fun g2 M2 H locs ls G2 hI2 hU2 k2 h2 hP2 hS2 hl2 => ?_) hl
    exact W_cs (c2 := 166 + 19 * (i + 1)) (s2 := 1475 + 132 * (i + 1)) (by omega) (by omega) (ih g2 M2 H locs ls G2 hI2 (by rw [show 74 - (i + 1) = 68 - i + 5 from by omega]; exact hU2) k2 h2 hP2 hS2 hl2)
