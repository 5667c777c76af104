/-! What holds of the lake all through the law. -/
def Uq (v : Vw) : Prop := ∀ i j, i < nH v → j < nH v → v 5 i = 1 → v 5 j = 1 → v 3 i = v 3 j → v 4 i = v 4 j → i = j
def Pac (v : Vw) : Prop := ∀ w, w < nW v → ∃ n, n < 9 ∧ v 14 w = nI n
def Tot (v : Vw) : Prop := (∀ k, k < nS v → ∃ c, c ≤ 60 * tt v ∧ v 10 k = nI c) ∧ ∀ w, w < nW v → ∃ c, c ≤ 8 * tt v ∧ v 15 w = nI c
def Mud (v : Vw) : Prop := ∀ c, c < 81 → ∃ j, j < 10 ∧ v 1 c = nI j
/-- as many nights may come, and they are few -/
def Ns (n : Nat) (v : Vw) : Prop := Nt n v ∧ tt v + n ≤ 100
theorem tt_up0 {v : Vw} {c i : Nat} {x : Int32} (hc : ¬ (16 = c ∧ 4 = i)) : tt (up2 v c i x) = tt v := by
  unfold tt up2
  rw [if_neg hc]
theorem Ns.le {m n : Nat} {v : Vw} (h : Ns n v) (k : m ≤ n) : Ns m v := ⟨h.1.le k, by have := h.2; omega⟩
theorem Ns.up {n : Nat} {v : Vw} (h : Ns n v) {c i : Nat} {x : Int32} (hc : ¬ (16 = c ∧ 4 = i)) : Ns n (up2 v c i x) := ⟨h.1.up hc, by rw [tt_up0 hc]; exact h.2⟩
theorem Ns.gH {n : Nat} {v : Vw} (h : Ns n v) {x y : Int32} : Ns n (addH v x y) := (((h.up (by omega)).up (by omega)).up (by omega)).up (by omega)
theorem Ns.gS {n : Nat} {v : Vw} (h : Ns n v) {x y : Int32} : Ns n (addS v x y) := ((h.up (by omega)).up (by omega)).up (by omega)
theorem Ns.gW {n : Nat} {v : Vw} (h : Ns n v) {x y z : Int32} : Ns n (addW v x y z) := (((h.up (by omega)).up (by omega)).up (by omega)).up (by omega)
/-- the lake is sound, and n nights may still come -/
def Lw (n : Nat) (v : Vw) : Prop := Rl v v ∧ Uq v ∧ Ns n v ∧ Pac v ∧ Tot v ∧ Mud v
theorem Lw.iv {n : Nat} {v : Vw} (h : Lw n v) : Inv v := h.1.1
theorem Lw.nt {n : Nat} {v : Vw} (h : Lw n v) : Nt n v := h.2.2.1.1
theorem Lw.z8 {n : Nat} {v : Vw} (h : Lw n v) : Z8 v := h.1.2.2.1
theorem Lw.z0 {n : Nat} {v : Vw} (h : Lw n v) : Z0 v := h.1.2.2.2.1
theorem Rl.dg {v w : Vw} (h : Rl v w) : Rl v v := ⟨h.1, Ag.rf, h.2.2.1, h.2.2.2.1, h.2.2.2.1⟩
theorem Lw.le {m n : Nat} {v : Vw} (h : Lw n v) (k : m ≤ n) : Lw m v := ⟨h.1, h.2.1, h.2.2.1.le k, h.2.2.2⟩
theorem tt_up {v : Vw} {c i : Nat} {x : Int32} (hc : ¬ (16 = c ∧ 4 = i)) : tt (up2 v c i x) = tt v := by
  unfold tt up2
  rw [if_neg hc]
/-- a number that none of these reads -/
theorem Lw.up {n : Nat} {v : Vw} (h : Lw n v) {c i : Nat} {x : Int32} (hc : c = 0 ∨ (c = 1 ∧ ∃ j, j < 10 ∧ x = nI j) ∨ c = 2 ∨ c = 8) (hr : Rl (up2 v c i x) (up2 v c i x)) : Lw n (up2 v c i x) := by
  obtain ⟨h1, h2, h3, h4, ⟨h5, h6⟩, h7⟩ := h
  have eH : nH (up2 v c i x) = nH v := nH_u (by omega)
  have eS : nS (up2 v c i x) = nS v := nS_u (by omega)
  have eW : nW (up2 v c i x) = nW v := nW_u (by omega)
  have eT : tt (up2 v c i x) = tt v := tt_up (by omega)
  refine ⟨hr, fun a b ha hb => ?_, h3.up (by omega), fun w hw => ?_, ⟨fun k hk => ?_, fun w hw => ?_⟩, fun q hq => ?_⟩
  · rw [eH] at ha hb
    rw [up2_c (c' := 5) (by omega), up2_c (c' := 5) (by omega), up2_c (c' := 3) (by omega), up2_c (c' := 3) (by omega), up2_c (c' := 4) (by omega), up2_c (c' := 4) (by omega)]
    exact h2 a b ha hb
  · rw [eW] at hw
    rw [up2_c (by omega)]
    exact h4 w hw
  · rw [eS] at hk
    rw [up2_c (by omega), eT]
    exact h5 k hk
  · rw [eW] at hw
    rw [up2_c (by omega), eT]
    exact h6 w hw
  · by_cases z : c = 1
    · rcases hc with hc | ⟨_, hx⟩ | hc | hc
      · omega
      · subst z
        by_cases zi : q = i
        · rw [zi, up2_same]; exact hx
        · rw [up2_i zi]; exact h7 q hq
      · omega
      · omega
    · rw [up2_c (fun e => z e.symm)]
      exact h7 q hq
theorem isIn_60 {j : Nat} (h : j ≤ 60) : isIn (nI j) 0 60 = true := in_nI (n := 61) (by omega) (by decide) (by decide)
theorem Lw.set {n : Nat} {v : Vw} (h : Lw n v) {x y j : Nat} (hx : x < 9) (hy : y < 9) (hj : j ≤ 60) {b : Nat} (hb : b < 10) : Lw n (setV v x y (nI j) (nI b)) := by
  have i1 : Inv (up2 v 0 (9 * y + x) (nI j)) := h.iv.eels (fun c i q => up2_c q) (fun c hc => by
    unfold IC
    by_cases q : c = 9 * y + x
    · rw [q, up2_same]; exact ⟨j, hj, rfl⟩
    · rw [up2_i q]; exact h.iv.hC c hc)
  have k1 : Lw n (up2 v 0 (9 * y + x) (nI j)) := h.up (Or.inl rfl) (h.1.up (Or.inl (by decide)) i1)
  exact k1.up (Or.inr (Or.inl ⟨rfl, b, hb, rfl⟩)) (k1.1.up (Or.inl (by decide)) (i1.free (by omega)))
theorem Lw.frost {n : Nat} {v : Vw} (h : Lw n v) {i : Nat} {a : Int32} : Lw n (up2 v 2 i a) := h.up (Or.inr (Or.inr (Or.inl rfl))) h.1.gF
theorem Lw.go {n : Nat} {v : Vw} (h : Lw n v) {k : Nat} (hk : k < nS v) {a : Int32} (ha : a = -1 ∨ ∃ j, j < nH v ∧ a = nI j) : Lw n (up2 v 8 k a) := h.up (Or.inr (Or.inr (Or.inr rfl))) (h.1.gG hk ha)
/-- nobody opens a hole where an open one is -/
theorem openIn_no {v : Vw} (hv : Inv v) {x y : Int32} (h : openIn v x y = -1) : ∀ i, i < nH v → v 5 i = 1 → v 3 i = x → v 4 i = y → False := by
  intro i hi h5 h3 h4
  have qH := hv.lH
  have q := fst1_neg (p := opn v x y) (by omega) h i hi
  unfold opn at q
  rw [h5, decide_eq_true h3, decide_eq_true h4] at q
  exact absurd q (by decide)
theorem tt_addH {v : Vw} {x y : Int32} : tt (addH v x y) = tt v := by
  unfold tt
  rw [addH_no (Or.inr (by decide)) (by omega)]
theorem Lw.cut {n : Nat} {v : Vw} (h : Lw n v) (hn : nH v < 12) {x y : Int32} (hx : lt9 x) (hy : lt9 y) (ho : openIn v x y = -1) : Lw n (addH v x y) := by
  obtain ⟨h1, h2, h3, h4, ⟨h5, h6⟩, h7⟩ := h
  refine ⟨h1.gH hn hx hy, fun a b ha hb => ?_, h3.gH, fun w hw => ?_, ⟨fun k hk => ?_, fun w hw => ?_⟩, fun q hq => ?_⟩
  · rw [nH_addH hn] at ha hb
    have e5 : ∀ i, i < nH v → addH v x y 5 i = v 5 i := fun i hi => addH_no (Or.inl (by decide)) (by omega)
    have e3 : ∀ i, i < nH v → addH v x y 3 i = v 3 i := fun i hi => addH_no (Or.inl (by decide)) (by omega)
    have e4 : ∀ i, i < nH v → addH v x y 4 i = v 4 i := fun i hi => addH_no (Or.inl (by decide)) (by omega)
    have n3 : addH v x y 3 (nH v) = x := by
      unfold addH
      rw [up2_c (by decide), up2_c (by decide), up2_c (by decide), up2_same]
    have n4 : addH v x y 4 (nH v) = y := by
      unfold addH
      rw [up2_c (by decide), up2_c (by decide), up2_same]
    intro a5 b5 g3 g4
    by_cases qa : a = nH v
    · by_cases qb : b = nH v
      · rw [qa, qb]
      · exfalso
        rw [qa, n3, e3 b (by omega)] at g3
        rw [qa, n4, e4 b (by omega)] at g4
        rw [e5 b (by omega)] at b5
        exact openIn_no h1.1 ho b (by omega) b5 g3.symm g4.symm
    · by_cases qb : b = nH v
      · exfalso
        rw [qb, n3, e3 a (by omega)] at g3
        rw [qb, n4, e4 a (by omega)] at g4
        rw [e5 a (by omega)] at a5
        exact openIn_no h1.1 ho a (by omega) a5 g3 g4
      · rw [e5 a (by omega)] at a5
        rw [e5 b (by omega)] at b5
        rw [e3 a (by omega), e3 b (by omega)] at g3
        rw [e4 a (by omega), e4 b (by omega)] at g4
        exact h2 a b (by omega) (by omega) a5 b5 g3 g4
  · rw [nW_addH] at hw
    rw [addH_no (Or.inl (by decide)) (by omega)]
    exact h4 w hw
  · rw [nS_addH] at hk
    rw [addH_no (Or.inl (by decide)) (by omega), tt_addH]
    exact h5 k hk
  · rw [nW_addH] at hw
    rw [addH_no (Or.inl (by decide)) (by omega), tt_addH]
    exact h6 w hw
  · rw [addH_no (Or.inl (by decide)) (by omega)]
    exact h7 q hq
theorem tt_addS {v : Vw} {x y : Int32} : tt (addS v x y) = tt v := by
  unfold tt
  rw [addS_no (Or.inr (by decide)) (by omega)]
theorem Lw.lic {n : Nat} {v : Vw} (h : Lw n v) (hn : nS v < 8) {x y : Int32} (hx : ∃ j : Nat, j < 31 ∧ x = nI j) (hy : ∃ j : Nat, j < 5 ∧ y = nI j) : Lw n (addS v x y) := by
  obtain ⟨h1, h2, h3, h4, ⟨h5, h6⟩, h7⟩ := h
  refine ⟨(h1.gS hn hx hy).dg, fun a b ha hb => ?_, h3.gS, fun w hw => ?_, ⟨fun k hk => ?_, fun w hw => ?_⟩, fun q hq => ?_⟩
  · rw [nH_addS] at ha hb
    rw [addS_no (c := 5) (Or.inl (by decide)) (by omega), addS_no (c := 5) (Or.inl (by decide)) (by omega), addS_no (c := 3) (Or.inl (by decide)) (by omega), addS_no (c := 3) (Or.inl (by decide)) (by omega), addS_no (c := 4) (Or.inl (by decide)) (by omega), addS_no (c := 4) (Or.inl (by decide)) (by omega)]
    exact h2 a b ha hb
  · rw [nW_addS] at hw
    rw [addS_no (Or.inl (by decide)) (by omega)]
    exact h4 w hw
  · rw [nS_addS hn] at hk
    rw [addS_no (Or.inl (by decide)) (by omega), tt_addS]
    by_cases q : k = nS v
    · exact ⟨0, Nat.zero_le _, by rw [q, (h1.2.2.2.1.1 _ (Nat.le_refl _) hn).2.1]; rfl⟩
    · exact h5 k (by omega)
  · rw [nW_addS] at hw
    rw [addS_no (Or.inl (by decide)) (by omega), tt_addS]
    exact h6 w hw
  · rw [addS_no (Or.inl (by decide)) (by omega)]
    exact h7 q hq
theorem tt_addW {v : Vw} {x y z : Int32} : tt (addW v x y z) = tt v := by
  unfold tt
  rw [addW_no (Or.inr (by decide)) (by omega)]
theorem Lw.war {n : Nat} {v : Vw} (h : Lw n v) (hn : nW v < 3) {x y : Int32} {p : Nat} (hx : lt9 x) (hy : lt9 y) (hp : p < 9) : Lw n (addW v x y (nI p)) := by
  obtain ⟨h1, h2, h3, h4, ⟨h5, h6⟩, h7⟩ := h
  refine ⟨h1.gW hn hx hy, fun a b ha hb => ?_, h3.gW, fun w hw => ?_, ⟨fun k hk => ?_, fun w hw => ?_⟩, fun q hq => ?_⟩
  · rw [nH_addW] at ha hb
    rw [addW_no (c := 5) (Or.inl (by decide)) (by omega), addW_no (c := 5) (Or.inl (by decide)) (by omega), addW_no (c := 3) (Or.inl (by decide)) (by omega), addW_no (c := 3) (Or.inl (by decide)) (by omega), addW_no (c := 4) (Or.inl (by decide)) (by omega), addW_no (c := 4) (Or.inl (by decide)) (by omega)]
    exact h2 a b ha hb
  · rw [nW_addW hn] at hw
    by_cases q : w = nW v
    · refine ⟨p, hp, ?_⟩
      rw [q]
      unfold addW
      rw [up2_c (by decide), up2_same]
    · rw [addW_no (Or.inl (by decide)) (by omega)]
      exact h4 w (by omega)
  · rw [nS_addW] at hk
    rw [addW_no (Or.inl (by decide)) (by omega), tt_addW]
    exact h5 k hk
  · rw [nW_addW hn] at hw
    rw [addW_no (Or.inl (by decide)) (by omega), tt_addW]
    by_cases q : w = nW v
    · exact ⟨0, Nat.zero_le _, by rw [q, h1.2.2.2.1.2 _ (Nat.le_refl _) hn]; rfl⟩
    · exact h6 w (by omega)
  · rw [addW_no (Or.inl (by decide)) (by omega)]
    exact h7 q hq
/-- how the picture's own new rows read -/
theorem addS_eq {v : Vw} (h8 : v 8 (nS v) = -1) (h0 : v 9 (nS v) = 0 ∧ v 10 (nS v) = 0 ∧ v 11 (nS v) = 0) {p q : Int32} : up2 (up2 (up2 (up2 (up2 (up2 (up2 v 6 (nS v) p) 7 (nS v) q) 8 (nS v) (-1)) 9 (nS v) 0) 10 (nS v) 0) 11 (nS v) 0) 16 1 (nI (nS v + 1)) = addS v p q := by
  funext c i
  unfold addS up2
  by_cases q0 : c = 16 ∧ i = 1
  · rw [if_pos q0, if_pos q0]
  · rw [if_neg q0, if_neg q0]
    by_cases q1 : c = 11 ∧ i = nS v
    · rw [if_pos q1, if_neg (by omega), if_neg (by omega), q1.1, q1.2, h0.2.2]
    · rw [if_neg q1]
      by_cases q2 : c = 10 ∧ i = nS v
      · rw [if_pos q2, if_neg (by omega), if_neg (by omega), q2.1, q2.2, h0.2.1]
      · rw [if_neg q2]
        by_cases q3 : c = 9 ∧ i = nS v
        · rw [if_pos q3, if_neg (by omega), if_neg (by omega), q3.1, q3.2, h0.1]
        · rw [if_neg q3]
          by_cases q4 : c = 8 ∧ i = nS v
          · rw [if_pos q4, if_neg (by omega), if_neg (by omega), q4.1, q4.2, h8]
          · rw [if_neg q4]
theorem addW_eq {v : Vw} (h0 : v 15 (nW v) = 0) {x y z : Int32} : up2 (up2 (up2 (up2 (up2 v 12 (nW v) x) 13 (nW v) y) 14 (nW v) z) 15 (nW v) 0) 16 2 (nI (nW v + 1)) = addW v x y z := by
  funext c i
  unfold addW up2
  by_cases q0 : c = 16 ∧ i = 2
  · rw [if_pos q0, if_pos q0]
  · rw [if_neg q0, if_neg q0]
    by_cases q1 : c = 15 ∧ i = nW v
    · rw [if_pos q1, if_neg (by omega), if_neg (by omega), if_neg (by omega), q1.1, q1.2, h0]
    · rw [if_neg q1]
/-- open holes are told apart by their cells: the first is the last -/
theorem lst1_o {v : Vw} (hv : Inv v) (hu : Uq v) {x y : Int32} : lst1 (opn1 v x y) (nH v) = openIn v x y := by
  have qH := hv.lH
  have eo : ∀ h, h < nH v → opn v x y h = opn1 v x y h := fun h hh => by
    unfold opn opn1
    rcases (hv.hH h hh).2.2 with q | q
    · rw [q]; simp
    · rw [q]; simp
  have key : ∀ n, n ≤ nH v → (lst1 (opn1 v x y) n = -1 ∧ ∀ h, h < n → opn1 v x y h = false) ∨ ∃ h, h < n ∧ opn1 v x y h = true ∧ lst1 (opn1 v x y) n = nI h := by
    intro n
    induction n with
    | zero => exact fun _ => Or.inl ⟨rfl, fun h hh => absurd hh (Nat.not_lt_zero _)⟩
    | succ n ih =>
      intro hn
      cases q : opn1 v x y n with
      | true => exact Or.inr ⟨n, by omega, q, lst1_t q⟩
      | false =>
        rw [lst1_f q]
        rcases ih (by omega) with ⟨h1, h2⟩ | ⟨h, h1, h2, h3⟩
        · refine Or.inl ⟨h1, fun h hh => ?_⟩
          by_cases z : h = n
          · rw [z]; exact q
          · exact h2 h (by omega)
        · exact Or.inr ⟨h, by omega, h2, h3⟩
  rcases key (nH v) (Nat.le_refl _) with ⟨h1, h2⟩ | ⟨h, h1, h2, h3⟩
  · rw [h1]
    unfold openIn
    rw [fst1_no (fun j hj => by rw [eo j hj]; exact h2 j hj)]
  · rw [h3]
    unfold openIn
    refine (fst1_yes (i := h) (fun j hj => ?_) (by rw [eo h h1]; exact h2) h1).symm
    rw [eo j (by omega)]
    cases q : opn1 v x y j with
    | false => rfl
    | true =>
      exfalso
      unfold opn1 at q h2
      simp only [Bool.and_eq_true, decide_eq_true_eq] at q h2
      have := hu j h (by omega) h1 q.2.2 h2.2.2 (q.1.trans h2.1.symm) (q.2.1.trans h2.2.1.symm)
      omega
