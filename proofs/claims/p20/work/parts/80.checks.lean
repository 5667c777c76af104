/-! What the law checks, number by number. Pure. -/
theorem fst1_ran {p : Nat → Bool} : ∀ n, fst1 p n = -1 ∨ ∃ i, i < n ∧ fst1 p n = nI i ∧ p i = true ∧ ∀ j, j < i → p j = false := by
  intro n
  induction n with
  | zero => exact Or.inl rfl
  | succ n ih =>
    by_cases h : anyB p n = true
    · have e : fst1 p (n + 1) = fst1 p n := if_pos h
      rw [e]
      rcases ih with q | ⟨i, hi, q⟩
      · exact Or.inl q
      · exact Or.inr ⟨i, by omega, q⟩
    · have no : ∀ j, j < n → p j = false := fun j hj => by
        cases q : p j with
        | false => rfl
        | true => exact absurd (anyB_yes hj q) h
      by_cases q : p n = true
      · have e : fst1 p (n + 1) = nI n := (if_neg h).trans (if_pos q)
        exact Or.inr ⟨n, by omega, e, q, no⟩
      · exact Or.inl ((if_neg h).trans (if_neg q))
theorem iceK_0 {v : Vw} : iceK v 0 = v 16 3 := rfl
theorem iceK_1 {v : Vw} : iceK v 1 = iceN v := rfl
/-- how long the ice bears -/
theorem bears_ran {v : Vw} : bearsV v = -1 ∨ ∃ i, i < 201 ∧ bearsV v = nI i ∧ iceK v i < 5 ∧ ∀ j, j < i → ¬ iceK v j < 5 := by
  unfold bearsV
  rcases fst1_ran (p := fun n => decide (iceK v n < 5)) 201 with h | ⟨i, hi, e, h1, h2⟩
  · exact Or.inl h
  · exact Or.inr ⟨i, hi, e, of_decide_eq_true h1, fun j hj => of_decide_eq_false (h2 j hj)⟩
theorem bears_lo {v : Vw} : ¬ bearsV v < -1 := by
  rcases bears_ran (v := v) with h | ⟨i, hi, e, _⟩
  · rw [h]; decide
  · rw [e]
    have : ∀ i, i < 201 → ¬ nI i < -1 := by decide +kernel
    exact this i hi
theorem bears_hi {v : Vw} : ¬ 200 < bearsV v := by
  rcases bears_ran (v := v) with h | ⟨i, hi, e, _⟩
  · rw [h]; decide
  · rw [e]
    have : ∀ i, i < 201 → ¬ 200 < nI i := by decide +kernel
    exact this i hi
theorem bears_0 {v : Vw} : bearsV v = 0 ↔ v 16 3 < 5 := by
  constructor
  · intro h
    rcases bears_ran (v := v) with q | ⟨i, hi, e, h1, _⟩
    · rw [q] at h; exact absurd h (by decide)
    · rw [e] at h
      have : i = 0 := nI_inj (b := 0) (by omega) (by decide) h
      subst this
      exact h1
  · intro h
    unfold bearsV
    exact fst1_yes (p := fun n => decide (iceK v n < 5)) (i := 0) (fun j hj => absurd hj (Nat.not_lt_zero _)) (decide_eq_true h) (by decide)
theorem bears_1 {v : Vw} (h0 : 0 < bearsV v) : bearsV v = 1 ↔ iceN v < 5 := by
  have hn : ¬ iceK v 0 < 5 := fun z => by
    rw [bears_0.mpr z] at h0
    exact absurd h0 (by decide)
  constructor
  · intro h
    rcases bears_ran (v := v) with q | ⟨i, hi, e, h1, _⟩
    · rw [q] at h; exact absurd h (by decide)
    · rw [e] at h
      have : i = 1 := nI_inj (b := 1) (by omega) (by decide) h
      subst this
      exact h1
  · intro h
    unfold bearsV
    refine fst1_yes (p := fun n => decide (iceK v n < 5)) (i := 1) (fun j hj => ?_) (decide_eq_true h) (by decide)
    have : j = 0 := by omega
    subst this
    exact decide_eq_false hn
theorem bear_0 {x : Int32} : b2i (bear x) = 0 ↔ x < 5 := by
  constructor
  · intro h
    by_cases q : x < 5
    · exact q
    · rw [bear_b1 q] at h; exact absurd h (by decide)
  · exact bear_b0
/-- where advice sends -/
theorem adv_ge {n : Nat} {v : Vw} (h : Lw (n + 5) v) {k j : Nat} (hk : k < nS v) (hj : j < nH v) : -1 < advE v k j := by
  have h1 : Lw (n + 5) (up2 v 8 k (nI j)) := h.go hk (Or.inr ⟨j, hj, rfl⟩)
  have h2 : Lw n (days 5 (up2 v 8 k (nI j))) := by
    have a1 := Lw.next (n := n + 4) h1
    have a2 := Lw.next (n := n + 3) a1
    have a3 := Lw.next (n := n + 2) a2
    have a4 := Lw.next (n := n + 1) a3
    exact Lw.next (n := n) a4
  have eS : nS (days 5 (up2 v 8 k (nI j))) = nS v := by
    unfold nS
    rw [days_16 (by decide), up2_c (by decide)]
  obtain ⟨c, hc, ec⟩ := h2.2.2.2.2.1.1 k (by rw [eS]; exact hk)
  have ht := h2.2.2.1.2
  unfold advE
  rw [ec]
  refine Int32.lt_iff_toInt_lt.mpr ?_
  rw [nI_toInt (by omega)]
  have e : (-1 : Int32).toInt = -1 := by decide
  rw [e]; omega
theorem advQ_s {v : Vw} {k i : Nat} : advQ v k (i + 1) = if v 5 i = 0 then advQ v k i else if (advQ v k i).2 < advE v k i then (nI i, advE v k i) else advQ v k i := rfl
theorem adv_ran {n : Nat} {v : Vw} (h : Lw (n + 5) v) {k : Nat} (hk : k < nS v) : ∀ i, i ≤ nH v → (advQ v k i = (-1, -1) ∧ ∀ j, j < i → v 5 j = 0) ∨ ∃ j, j < i ∧ (advQ v k i).1 = nI j ∧ ¬ v 5 j = 0 := by
  intro i
  induction i with
  | zero => exact fun _ => Or.inl ⟨rfl, fun j hj => absurd hj (Nat.not_lt_zero _)⟩
  | succ i ih =>
    intro hi
    rw [advQ_s]
    by_cases h5 : v 5 i = 0
    · rw [if_pos h5]
      rcases ih (by omega) with ⟨a, b⟩ | ⟨j, hj, a⟩
      · refine Or.inl ⟨a, fun j hj => ?_⟩
        by_cases z : j = i
        · rw [z]; exact h5
        · exact b j (by omega)
      · exact Or.inr ⟨j, by omega, a⟩
    · rw [if_neg h5]
      rcases ih (by omega) with ⟨a, b⟩ | ⟨j, hj, a⟩
      · rw [a, if_pos (adv_ge h hk (by omega))]
        exact Or.inr ⟨i, by omega, rfl, h5⟩
      · split
        · exact Or.inr ⟨i, by omega, rfl, h5⟩
        · exact Or.inr ⟨j, by omega, a⟩
theorem advV_ran {n : Nat} {v : Vw} (h : Lw (n + 5) v) {k : Nat} (hk : k < nS v) : (advV v k = -1 ∧ ∀ j, j < nH v → v 5 j = 0) ∨ ∃ j, j < nH v ∧ advV v k = nI j ∧ v 5 j = 1 := by
  rcases adv_ran h hk (nH v) (Nat.le_refl _) with ⟨a, b⟩ | ⟨j, hj, a, b⟩
  · refine Or.inl ⟨?_, b⟩
    unfold advV
    rw [a]
  · exact Or.inr ⟨j, hj, a, (h.iv.hH j hj).2.2.resolve_left b⟩
/-- as many open as their sum says -/
theorem sum5 {v : Vw} (hv : Inv v) : ∀ n, n ≤ nH v → ∃ c, c ≤ n ∧ sumI (v 5) n = nI c ∧ (c = 0 ↔ ∀ j, j < n → v 5 j = 0) := by
  intro n
  induction n with
  | zero => exact fun _ => ⟨0, Nat.le_refl _, rfl, fun _ j hj => absurd hj (Nat.not_lt_zero _), fun _ => rfl⟩
  | succ n ih =>
    intro hn
    obtain ⟨c, hc, e, h⟩ := ih (by omega)
    rcases (hv.hH n (by omega)).2.2 with q | q
    · refine ⟨c, by omega, ?_, ?_⟩
      · show sumI (v 5) n + v 5 n = nI c
        rw [e, q, Int32.add_zero]
      · rw [h]
        refine ⟨fun z j hj => ?_, fun z j hj => z j (by omega)⟩
        by_cases y : j = n
        · rw [y]; exact q
        · exact z j (by omega)
    · refine ⟨c + 1, by omega, ?_, ?_⟩
      · show sumI (v 5) n + v 5 n = nI (c + 1)
        rw [e, q, nI_1]
      · refine ⟨fun z => absurd z (by omega), fun z => ?_⟩
        have := z n (by omega)
        rw [q] at this
        exact absurd this (by decide)
theorem open_0 {v : Vw} (hv : Inv v) : factF v 5 = 0 ↔ ∀ j, j < nH v → v 5 j = 0 := by
  obtain ⟨c, hc, e, h⟩ := sum5 hv (nH v) (Nat.le_refl _)
  have := hv.lH
  rw [fact_5, e, ← h]
  exact ⟨fun z => nI_inj (b := 0) (by omega) (by decide) z, fun z => by rw [z]; rfl⟩
theorem advV_0 {n : Nat} {v : Vw} (h : Lw (n + 5) v) {k : Nat} (hk : k < nS v) : advV v k < 0 ↔ factF v 5 = 0 := by
  have hl := h.iv.lH
  rw [open_0 h.iv]
  rcases advV_ran h hk with ⟨a, b⟩ | ⟨j, hj, a, b⟩
  · rw [a]
    exact ⟨fun _ => b, fun _ => by decide⟩
  · rw [a]
    refine ⟨fun z => absurd z (nI_pos (by omega)), fun z => ?_⟩
    have := z j hj
    rw [b] at this
    exact absurd this (by decide)
