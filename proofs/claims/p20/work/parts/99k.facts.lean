/-! What the notes are, and what a night brings: all that the law asks. -/
def wF : Nat → Int32 := fun j => match j with
  | 0 => 1
  | 1 => 3
  | 2 => 5
  | 3 => 7
  | _ => 8
theorem wF_f : ∀ j, j < 5 → fsn (wF j) := by
  intro j hj
  rcases (show j = 0 ∨ j = 1 ∨ j = 2 ∨ j = 3 ∨ j = 4 by omega) with rfl | rfl | rfl | rfl | rfl
  · exact Or.inl rfl
  · exact Or.inr (Or.inl rfl)
  · exact Or.inr (Or.inr (Or.inl rfl))
  · exact Or.inr (Or.inr (Or.inr (Or.inl rfl)))
  · exact Or.inr (Or.inr (Or.inr (Or.inr rfl)))
theorem wF_i : ∀ j, j < 5 → isIn (wF j) 0 8 = true := by decide +kernel
/-- notes of a lake -/
def Nu (v u : Vw) : Prop := (nH u = nH v ∧ nS u = nS v ∧ nW u = nW v) ∧ (∀ j, j < nH v → u 2 j = v 5 j) ∧ (∀ c k, 6 ≤ c → c < 12 → k < nS v → u c k = v c k) ∧ (∀ c w, 12 ≤ c → c < 16 → w < nW v → u c w = v c w) ∧ ∀ j, j < 5 → u 0 j = wF j
theorem Nu.to {v u w : Vw} (h : Nu v u) (e : ∀ c i, c ≠ 1 → c ≠ 3 → ¬ (c = 16 ∧ 3 ≤ i) → w c i = u c i) : Nu v w := by
  obtain ⟨⟨h1, h2, h3⟩, h4, h5, h6, h7⟩ := h
  refine ⟨⟨?_, ?_, ?_⟩, fun j hj => ?_, fun c k a b d => ?_, fun c k a b d => ?_, fun j hj => ?_⟩
  · unfold nH
    rw [e 16 0 (by decide) (by decide) (by decide)]
    exact h1
  · unfold nS
    rw [e 16 1 (by decide) (by decide) (by decide)]
    exact h2
  · unfold nW
    rw [e 16 2 (by decide) (by decide) (by decide)]
    exact h3
  · rw [e 2 j (by decide) (by decide) (by omega)]
    exact h4 j hj
  · rw [e c k (by omega) (by omega) (by omega)]
    exact h5 c k a b d
  · rw [e c k (by omega) (by omega) (by omega)]
    exact h6 c k a b d
  · rw [e 0 j (by decide) (by decide) (by omega)]
    exact h7 j hj
/-- the copies, one behind the other -/
abbrev nt1 (v u : Vw) : Vw := mH u 2 (nH v) (fun _ => 0)
abbrev nt2 (v u : Vw) : Vw := cpO v (nt1 v u) (nH v)
abbrev nt3 (v u : Vw) : Vw := rzS (nt2 v u) (nS v)
abbrev nt4 (v u : Vw) : Vw := cpS v (nt3 v u) (nS v) 0
abbrev nt5 (v u : Vw) : Vw := rzW (nt4 v u) (nW v)
abbrev nt6 (v u : Vw) : Vw := cpW v (nt5 v u) (nW v) 0
theorem cpW_n1 {v u : Vw} {i j c k : Nat} (h : ¬ (12 ≤ c ∧ c < 16)) : cpW v u i j c k = u c k := if_neg (fun z => h ⟨z.1, z.2.1⟩)
theorem cpS_n1 {v u : Vw} {i j c k : Nat} (h : ¬ (6 ≤ c ∧ c < 12)) : cpS v u i j c k = u c k := if_neg (fun z => h ⟨z.1, z.2.1⟩)
theorem cpO_n1 {v u : Vw} {i c k : Nat} (h : c ≠ 2) : cpO v u i c k = u c k := if_neg (fun z => h z.1)
theorem rzW_n1 {u : Vw} {N c k : Nat} (h : ¬ (12 ≤ c ∧ c < 16)) (h2 : ¬ (c = 16 ∧ k = 2)) : rzW u N c k = u c k := by
  unfold rzW
  rw [if_neg h, if_neg h2]
theorem rzS_n1 {u : Vw} {N c k : Nat} (h : ¬ (6 ≤ c ∧ c < 12)) (h2 : ¬ (c = 16 ∧ k = 1)) : rzS u N c k = u c k := by
  unfold rzS
  rw [if_neg h, if_neg h2]
theorem mH_n1 {u : Vw} {q N c k : Nat} {f : Nat → Int32} (h : c ≠ q) (h2 : ¬ (c = 16 ∧ ((k = 0 ∧ q = 2) ∨ (k = 3 ∧ q = 3)))) : mH u q N f c k = u c k := by
  unfold mH
  rw [if_neg h, if_neg h2]
theorem nt6_c {v u : Vw} {c k : Nat} (h : ¬ (12 ≤ c ∧ c < 16)) (h2 : ¬ (c = 16 ∧ k = 2)) : nt6 v u c k = nt4 v u c k := (cpW_n1 h).trans (rzW_n1 h h2)
theorem nt4_c {v u : Vw} {c k : Nat} (h : ¬ (6 ≤ c ∧ c < 12)) (h2 : ¬ (c = 16 ∧ k = 1)) : nt4 v u c k = nt2 v u c k := (cpS_n1 h).trans (rzS_n1 h h2)
theorem nt2_c {v u : Vw} {c k : Nat} (h : c ≠ 2) : nt2 v u c k = nt1 v u c k := cpO_n1 h
theorem mH_16 {u : Vw} {N : Nat} {f : Nat → Int32} : mH u 2 N f 16 0 = nI N := by
  unfold mH
  rw [if_neg (by decide), if_pos ⟨rfl, Or.inl ⟨rfl, rfl⟩⟩]
theorem rzS_16 {u : Vw} {N : Nat} : rzS u N 16 1 = nI N := by
  unfold rzS
  rw [if_neg (by decide), if_pos ⟨rfl, rfl⟩]
theorem rzW_16 {u : Vw} {N : Nat} : rzW u N 16 2 = nI N := by
  unfold rzW
  rw [if_neg (by decide), if_pos ⟨rfl, rfl⟩]
theorem nt6_Nu {v u : Vw} (hv : Inv v) (h0 : ∀ j, j < 5 → u 0 j = wF j) : Nu v (nt6 v u) := by
  have qH := hv.lH
  have qS := hv.lS
  have qW := hv.lW
  refine ⟨⟨?_, ?_, ?_⟩, fun j hj => ?_, fun c k a b d => ?_, fun c k a b d => ?_, fun j hj => ?_⟩
  · have e : nt6 v u 16 0 = nI (nH v) := (nt6_c (c := 16) (k := 0) (by decide) (by decide)).trans ((nt4_c (c := 16) (k := 0) (by decide) (by decide)).trans ((nt2_c (c := 16) (by decide)).trans mH_16))
    show (nt6 v u 16 0).toNatClampNeg = nH v
    rw [e]
    exact nI_clamp (by omega)
  · have e : nt6 v u 16 1 = nI (nS v) := (nt6_c (c := 16) (k := 1) (by decide) (by decide)).trans ((cpS_n1 (c := 16) (by decide)).trans rzS_16)
    show (nt6 v u 16 1).toNatClampNeg = nS v
    rw [e]
    exact nI_clamp (by omega)
  · have e : nt6 v u 16 2 = nI (nW v) := (cpW_n1 (c := 16) (by decide)).trans rzW_16
    show (nt6 v u 16 2).toNatClampNeg = nW v
    rw [e]
    exact nI_clamp (by omega)
  · exact (nt6_c (c := 2) (by decide) (by omega)).trans ((nt4_c (c := 2) (by decide) (by omega)).trans (if_pos ⟨rfl, hj⟩))
  · exact (nt6_c (c := c) (by omega) (by omega)).trans (if_pos ⟨a, b, Or.inl d⟩)
  · exact if_pos ⟨a, b, Or.inl d⟩
  · exact (nt6_c (c := 0) (by decide) (by omega)).trans ((nt4_c (c := 0) (by decide) (by omega)).trans ((nt2_c (c := 0) (by decide)).trans ((mH_n1 (c := 0) (by decide) (by omega)).trans (h0 j hj))))
theorem Nu.m1 {v u : Vw} {N : Nat} {f : Nat → Int32} (h : Nu v u) : Nu v (mH u 1 N f) := h.to fun c i h1 h3 h6 => mH_n1 h1 (by omega)
theorem Nu.m3 {v u : Vw} {N : Nat} {f : Nat → Int32} (h : Nu v u) : Nu v (mH u 3 N f) := h.to fun c i h1 h3 h6 => mH_n1 h3 (by omega)
theorem Nu.fs {v u d : Vw} {i : Nat} (h : Nu v u) : Nu v (fsV d u i) := h.to fun c i h1 h3 h6 => fsV_n h1
theorem Nu.av {v u d : Vw} {i : Nat} (h : Nu v u) : Nu v (atV d u i) := h.to fun c i h1 h3 h6 => atV_n h3
/-- the ice keeps its bounds -/
theorem ice2_b (x y : Int32) : ¬ ice2 x y < 0 ∧ ice2 x y ≤ 90 := by
  unfold ice2
  generalize x + y = z
  show ¬ (if (0 : Int32) < (if z < 90 then z else 90) then (if z < 90 then z else 90) else 0) < 0 ∧ (if (0 : Int32) < (if z < 90 then z else 90) then (if z < 90 then z else 90) else 0) ≤ 90
  by_cases h : z < 90
  · rw [if_pos h]
    by_cases k : (0 : Int32) < z
    · rw [if_pos k]
      exact ⟨Int32.not_lt.mpr (Int32.le_of_lt k), Int32.le_of_lt h⟩
    · rw [if_neg k]
      decide
  · rw [if_neg h]
    decide
/-- an open hole is found at its cell -/
theorem open_is {d : Vw} (hv : Inv d) (hu : Uq d) {i : Nat} (hi : i < nH d) (h5 : d 5 i = 1) : openIn d (d 3 i) (d 4 i) = nI i := by
  unfold openIn
  refine fst1_yes (fun j hj => ?_) ?_ hi
  · cases q : opn d (d 3 i) (d 4 i) j with
    | false => rfl
    | true =>
      exfalso
      unfold opn at q
      simp only [Bool.and_eq_true, decide_eq_true_eq, Bool.not_eq_true', decide_eq_false_iff_not] at q
      have h5j : d 5 j = 1 := (hv.hH j (by omega)).2.2.resolve_left q.1
      have := hu j i (by omega) hi h5j h5 q.2.1 q.2.2
      omega
  · unfold opn
    rw [h5, decide_eq_true (rfl : d 3 i = d 3 i), decide_eq_true (rfl : d 4 i = d 4 i)]
    decide
/-- sums after a night -/
theorem ca_eq {v : Vw} : sumI (day v 9) (nS v) = got1 v := sumI_congr fun k _ => day_p (by decide) (by decide) (by decide) (by decide) (by decide)
theorem all_eq {v : Vw} : sumI (day v 10) (nS v) = sumI (v 10) (nS v) + got1 v := by
  rw [← ca_eq, ← sumI_add]
  exact sumI_congr fun k hk => day_10 hk
theorem add_can {a x y : Int32} (h : x + a = a + y) : x = y := by
  rw [Int32.add_comm a y] at h
  exact (Int32.add_left_inj a).mp h
theorem mo_eq {v d u : Vw} (N : Ngt v d) (hS : ∀ k, k < nS v → u 11 k = v 11 k) (hW : ∀ w, w < nW v → u 15 w = v 15 w) : sumI (fun k => d 11 k - u 11 k) (nS v) = sumI (fun w => d 15 w - u 15 w) (nW v) := by
  have e1 : sumI (fun k => d 11 k - u 11 k) (nS v) = sumI (fun k => d 11 k - v 11 k) (nS v) := sumI_congr fun k hk => by rw [hS k hk]
  have e2 : sumI (fun w => d 15 w - u 15 w) (nW v) = sumI (fun w => d 15 w - v 15 w) (nW v) := sumI_congr fun w hw => by rw [hW w hw]
  rw [e1, e2]
  refine add_can (a := sumI (v 11) (nS v)) ?_
  rw [← N.su, ← sumI_add]
  exact sumI_congr fun k _ => Int32.sub_add_cancel _ _
/-- a spearer's due after a night -/
theorem day_iceF {v : Vw} : factF (day v) 2 = 0 ↔ iceN v < 5 := by rw [fact_2, day_ice]; exact bear_0
theorem SQ_of {n : Nat} {v u : Vw} (h : Lw n v) (hn : Nu v u) {k : Nat} (hk : k < nS v) : SQ (day v) u k := by
  have hv := h.iv
  have qS := hv.lS
  have N : Ngt v (day v) := day_n hv h.2.2.2.2.2
  obtain ⟨hT1, hT2⟩ := h.2.2.2.2.1
  have hC := fun c a b => hn.2.2.1 c k a b hk
  have e6 := hC 6 (by decide) (by decide)
  have e7 := hC 7 (by decide) (by decide)
  have e8 := hC 8 (by decide) (by decide)
  have e10 := hC 10 (by decide) (by decide)
  have e11 := hC 11 (by decide) (by decide)
  have d6 : day v 6 k = v 6 k := day_ne (by decide) (by decide) (by decide) (by decide) (by decide) (by decide) (by decide) (by decide) (by decide) (by decide)
  have d7 : day v 7 k = v 7 k := day_ne (by decide) (by decide) (by decide) (by decide) (by decide) (by decide) (by decide) (by decide) (by decide) (by decide)
  refine ⟨by rw [e6, d6], by rw [e7, d7], by rw [e10]; exact day_10 hk, N.cb k hk, ?_, ?_, ?_, ?_⟩
  · rw [e11]
    rcases N.fi k hk with z | ⟨z1, z2, a, ha, z3, w, hw, ⟨c, c1, c2, z4⟩, z5, z6⟩
    · left
      rw [z]
      exact Int32.sub_self _
    · right
      refine ⟨?_, by rw [e6]; exact z2, a, by rw [day_H]; exact ha, by rw [e8]; exact z3, w, by rw [day_W]; exact hw, ?_, ?_, ?_⟩
      · rw [z1, Int32.add_comm]
        exact Int32.add_sub_cancel _ _
      · rw [hn.2.2.2.1 15 w (by decide) (by decide) hw]
        obtain ⟨c0, hc0, ec⟩ := hT2 w hw
        have := h.2.2.1.2
        rw [z4, ec, nI_add]
        exact nI_lt (by omega) (by omega)
      · rw [z5]
        exact (day_ne (by decide) (by decide) (by decide) (by decide) (by decide) (by decide) (by decide) (by decide) (by decide) (by decide)).symm
      · rw [z6]
        exact (day_ne (by decide) (by decide) (by decide) (by decide) (by decide) (by decide) (by decide) (by decide) (by decide) (by decide)).symm
  · intro z
    rw [e8] at z
    obtain ⟨a, b⟩ := N.nb k hk (at_no hv hk z)
    refine ⟨a, ?_⟩
    rw [b, e11]
    exact Int32.sub_self _
  · intro z
    rw [day_8, if_pos ⟨hk, day_iceF.mp z⟩]
  · intro z
    rw [day_8, if_neg (fun y => z (day_iceF.mpr y.2)), e8]
/-- a hole's due after a night -/
theorem day_5i {v : Vw} {i : Nat} (hi : i < nH v) (h : day v 5 i = 1) : ¬ iceN v < 5 ∧ ¬ (0 < frostN v ∧ spAt v (nI i) = 0) := by
  rw [day_5] at h
  refine ⟨fun z => ?_, fun z => ?_⟩
  · rw [if_pos ⟨hi, Or.inl z⟩] at h
    exact absurd h (by decide)
  · rw [if_pos ⟨hi, Or.inr z⟩] at h
    exact absurd h (by decide)
theorem day_5le {v : Vw} (hv : Inv v) {i : Nat} (hi : i < nH v) : ¬ v 5 i < day v 5 i := by
  rw [day_5]
  split
  · rcases (hv.hH i hi).2.2 with q | q <;> rw [q] <;> decide
  · exact Int32.lt_irrefl
theorem day_sp {v : Vw} {x : Int32} (h : ¬ iceN v < 5) : spAt (day v) x = spAt v x := by
  unfold spAt
  rw [day_S]
  refine sumI_congr fun k _ => ?_
  have e : day v 8 k = v 8 k := by rw [day_8, if_neg (fun y => h y.2)]
  show (if day v 8 k = x then _ else _) = _
  rw [e]
theorem day_2 {v : Vw} {j : Nat} : day v 2 j = v 2 j := day_ne (by decide) (by decide) (by decide) (by decide) (by decide) (by decide) (by decide) (by decide) (by decide) (by decide)
/-- a warden's due after a night -/
theorem WQ_of {n : Nat} {v u : Vw} (h : Lw n v) (hn : Nu v u) {w : Nat} (hw : w < nW v) : day v 14 w = u 14 w ∧ ∃ n, n < 9 ∧ u 14 w = nI n ∧ Nr n (u 12 w) (day v 12 w) ∧ Nr n (u 13 w) (day v 13 w) := by
  have N : Ngt v (day v) := day_n h.iv h.2.2.2.2.2
  have hD := fun c a b => hn.2.2.2.1 c w a b hw
  obtain ⟨j, hj, ej⟩ := h.2.2.2.1 w hw
  obtain ⟨_, a, b⟩ := N.wa w hw
  rw [ej, nI_clamp (by omega)] at a b
  refine ⟨?_, j, hj, ?_, ?_, ?_⟩
  · rw [hD 14 (by decide) (by decide)]
    exact day_ne (by decide) (by decide) (by decide) (by decide) (by decide) (by decide) (by decide) (by decide) (by decide) (by decide)
  · rw [hD 14 (by decide) (by decide)]
    exact ej
  · rw [hD 12 (by decide) (by decide)]
    exact a
  · rw [hD 13 (by decide) (by decide)]
    exact b
