/-! The cells of this law: lakes (regions 0, 1), states of the reference (2, 3), by keys; M: region, component, place. -/
abbrev Vw : Type := Nat → Nat → Int32
abbrev Mem : Type := Nat → Vw
def alen : Nat → Nat := fun c => match c with
  | 0 => 81
  | 1 => 81
  | 2 => 7
  | 3 => 12
  | 4 => 12
  | 5 => 12
  | 6 => 8
  | 7 => 8
  | 8 => 8
  | 9 => 8
  | 10 => 8
  | 11 => 8
  | _ => 3
/-- which components a state of the reference holds itself -/
def pv : Nat → Bool := fun c => match c with
  | 0 => true
  | 5 => true
  | 8 => true
  | 9 => true
  | 10 => true
  | 11 => true
  | 12 => true
  | 13 => true
  | 15 => true
  | _ => false
def setR (M : Mem) (r : Nat) (v : Vw) : Mem := fun r' => if r' = r then v else M r'
def up2 (v : Vw) (c i : Nat) (x : Int32) : Vw := fun c' i' => if c' = c ∧ i' = i then x else v c' i'
theorem setR_same (M : Mem) (r : Nat) (v : Vw) : setR M r v r = v := by simp [setR]
theorem setR_ne (M : Mem) {r r' : Nat} (v : Vw) (h : r' ≠ r) : setR M r v r' = M r' := by simp [setR, h]
theorem setR_self (M : Mem) (r : Nat) : setR M r (M r) = M := by
  funext r'
  by_cases h : r' = r <;> simp [setR, h]
theorem setR_setR (M : Mem) (r : Nat) (v w : Vw) : setR (setR M r v) r w = setR M r w := by
  funext r'
  by_cases h : r' = r <;> simp [setR, h]
theorem up2_same (v : Vw) (c i : Nat) (x : Int32) : up2 v c i x c i = x := by simp [up2]
theorem up2_c {v : Vw} {c i : Nat} {x : Int32} {c' i' : Nat} (h : c' ≠ c) : up2 v c i x c' i' = v c' i' := by simp [up2, h]
theorem up2_i {v : Vw} {c i : Nat} {x : Int32} {c' i' : Nat} (h : i' ≠ i) : up2 v c i x c' i' = v c' i' := by simp [up2, h]
theorem up2_upd (v : Vw) (c i : Nat) (x : Int32) : up2 v c i x c = upd (v c) i x := by
  funext j
  by_cases h : j = i <;> simp [up2, upd, h]
def ent (g : Gm) (M : Mem) (o : Nat → Int64) : Key → va_E := fun k => match k.1 with
  | 0 => .inr (0, [.int (M k.2.1 3 k.2.2), .int (M k.2.1 4 k.2.2), .int (M k.2.1 5 k.2.2)])
  | 1 => .inr (2, [.int (M k.2.1 6 k.2.2), .int (M k.2.1 7 k.2.2), .int (M k.2.1 8 k.2.2), .int (M k.2.1 9 k.2.2), .int (M k.2.1 10 k.2.2), .int (M k.2.1 11 k.2.2)])
  | 2 => .inr (3, [.int (M k.2.1 12 k.2.2), .int (M k.2.1 13 k.2.2), .int (M k.2.1 14 k.2.2), .int (M k.2.1 15 k.2.2)])
  | 3 => .inr (1, [.ref (ad g (4, k.2.1, 0)), .ref (ad g (4, k.2.1, 1)), .ref (ad g (4, k.2.1, 2)), .ref (ad g (5, k.2.1, 0)), .ref (ad g (6, k.2.1, 0)), .ref (ad g (7, k.2.1, 0)), .int (M k.2.1 16 0), .int (M k.2.1 16 1), .int (M k.2.1 16 2), .int (M k.2.1 16 3), .int (M k.2.1 16 4)])
  | 4 => .inl (gC g 0, alen k.2.2, .inl (M k.2.1 k.2.2))
  | 5 => .inl (gC g 1, 12, .inr (.inr (.inr (.inr (fun i => some (ad g (0, k.2.1, i)))))))
  | 6 => .inl (gC g 2, 8, .inr (.inr (.inr (.inr (fun i => some (ad g (1, k.2.1, i)))))))
  | 7 => .inl (gC g 3, 3, .inr (.inr (.inr (.inr (fun i => some (ad g (2, k.2.1, i)))))))
  | 8 => .inr (4, [.ref (ad g (3, 0, 0)), .ref (ad g (3, 1, 0))])
  | 9 => .inr (5, [.int (M k.2.1 16 4), .int (M k.2.1 16 3), .ref (ad g (4, k.2.1, 0)), .ref (ad g (4, k.2.1, 5)), .ref (ad g (4, k.2.1, 8)), .ref (ad g (4, k.2.1, 9)), .ref (ad g (4, k.2.1, 10)), .ref (ad g (4, k.2.1, 11)), .ref (ad g (4, k.2.1, 12)), .ref (ad g (4, k.2.1, 13)), .ref (ad g (4, k.2.1, 15)), .ref (ad g (10, 0, 0))])
  | 10 => .inr (6, [.int (M 2 16 5), .ref (ad g (4, 2, 1)), .ref (ad g (4, 2, 2)), .int (M 2 16 0), .ref (ad g (4, 2, 3)), .ref (ad g (4, 2, 4)), .int (M 2 16 1), .ref (ad g (4, 2, 6)), .ref (ad g (4, 2, 7)), .int (M 2 16 2), .ref (ad g (4, 2, 14)), .ref (ad g (9, 2, 0)), .ref (ad g (9, 3, 0))])
  | _ => .inl (gC g 4, 1, .inr (.inl o))
def KK (k : Key) : Prop := match k.1 with
  | 0 => k.2.1 < 2 ∧ k.2.2 < 12
  | 1 => k.2.1 < 2 ∧ k.2.2 < 8
  | 2 => k.2.1 < 2 ∧ k.2.2 < 3
  | 3 => k.2.1 < 2 ∧ k.2.2 = 0
  | 4 => (k.2.1 < 2 ∧ k.2.2 < 3) ∨ (k.2.1 = 2 ∧ k.2.2 < 16) ∨ (k.2.1 = 3 ∧ pv k.2.2 = true)
  | 5 => k.2.1 < 2 ∧ k.2.2 = 0
  | 6 => k.2.1 < 2 ∧ k.2.2 = 0
  | 7 => k.2.1 < 2 ∧ k.2.2 = 0
  | 8 => k.2.1 = 0 ∧ k.2.2 = 0
  | 9 => (k.2.1 = 2 ∨ k.2.1 = 3) ∧ k.2.2 = 0
  | 10 => k.2.1 = 0 ∧ k.2.2 = 0
  | 11 => k.2.1 = 0 ∧ k.2.2 = 0
  | _ => False
/-- which numbers a cell holds -/
def dep (k : Key) (r c i : Nat) : Prop := match k.1 with
  | 0 => k.2.1 = r ∧ k.2.2 = i ∧ 3 ≤ c ∧ c < 6
  | 1 => k.2.1 = r ∧ k.2.2 = i ∧ 6 ≤ c ∧ c < 12
  | 2 => k.2.1 = r ∧ k.2.2 = i ∧ 12 ≤ c ∧ c < 16
  | 3 => k.2.1 = r ∧ c = 16 ∧ i < 5
  | 4 => k.2.1 = r ∧ k.2.2 = c
  | 9 => k.2.1 = r ∧ c = 16 ∧ (i = 3 ∨ i = 4)
  | 10 => r = 2 ∧ c = 16 ∧ (i < 3 ∨ i = 5)
  | _ => False
def keyOf (r c i : Nat) : Key := if c = 16 then (if r < 2 then (3, r, 0) else if i = 3 ∨ i = 4 then (9, r, 0) else (10, 0, 0)) else if r < 2 ∧ 3 ≤ c then (if c < 6 then (0, r, i) else if c < 12 then (1, r, i) else (2, r, i)) else (4, r, c)
theorem pv_16 : ∀ c, pv c = true → c < 16 := by
  intro c h
  unfold pv at h
  split at h <;> first | omega | cases h
theorem dep_key {k : Key} {r c i : Nat} (hk : KK k) (h : dep k r c i) : k = keyOf r c i := by
  obtain ⟨t, a, b⟩ := k
  unfold KK at hk
  unfold dep at h
  split at h <;> rename_i ht <;> simp only at ht h hk <;> (try subst ht) <;> simp only at hk
  · obtain ⟨rfl, rfl, h1, h2⟩ := h
    simp only [keyOf]
    rw [if_neg (by omega), if_pos (by omega), if_pos h2]
  · obtain ⟨rfl, rfl, h1, h2⟩ := h
    simp only [keyOf]
    rw [if_neg (by omega), if_pos (by omega), if_neg (by omega), if_pos h2]
  · obtain ⟨rfl, rfl, h1, h2⟩ := h
    simp only [keyOf]
    rw [if_neg (by omega), if_pos (by omega), if_neg (by omega), if_neg (by omega)]
  · obtain ⟨rfl, rfl, h1⟩ := h
    simp only [keyOf]
    rw [if_pos trivial, if_pos hk.1, hk.2]
  · obtain ⟨rfl, rfl⟩ := h
    simp only [keyOf]
    have hb : b < 16 := by
      rcases hk with q | q | q
      · omega
      · omega
      · exact pv_16 _ q.2
    rw [if_neg (by omega), if_neg (by omega)]
  · obtain ⟨rfl, rfl, h1⟩ := h
    simp only [keyOf]
    rw [if_pos trivial, if_neg (by omega), if_pos h1, hk.2]
  · obtain ⟨rfl, rfl, h1⟩ := h
    simp only [keyOf]
    rw [if_pos trivial, if_neg (by omega), if_neg (by omega), hk.1, hk.2]
theorem ent_congr {g : Gm} {M M' : Mem} {o : Nat → Int64} {k : Key} (h : ∀ r c i, dep k r c i → M' r c i = M r c i) : ent g M' o k = ent g M o k := by
  obtain ⟨t, a, b⟩ := k
  unfold dep at h
  unfold ent
  split <;> rename_i ht <;> simp only at ht h ⊢ <;> (try subst ht) <;> simp only at h
  · rw [h a 3 b ⟨rfl, rfl, by omega, by omega⟩, h a 4 b ⟨rfl, rfl, by omega, by omega⟩, h a 5 b ⟨rfl, rfl, by omega, by omega⟩]
  · rw [h a 6 b ⟨rfl, rfl, by omega, by omega⟩, h a 7 b ⟨rfl, rfl, by omega, by omega⟩, h a 8 b ⟨rfl, rfl, by omega, by omega⟩, h a 9 b ⟨rfl, rfl, by omega, by omega⟩, h a 10 b ⟨rfl, rfl, by omega, by omega⟩, h a 11 b ⟨rfl, rfl, by omega, by omega⟩]
  · rw [h a 12 b ⟨rfl, rfl, by omega, by omega⟩, h a 13 b ⟨rfl, rfl, by omega, by omega⟩, h a 14 b ⟨rfl, rfl, by omega, by omega⟩, h a 15 b ⟨rfl, rfl, by omega, by omega⟩]
  · rw [h a 16 0 ⟨rfl, rfl, by omega⟩, h a 16 1 ⟨rfl, rfl, by omega⟩, h a 16 2 ⟨rfl, rfl, by omega⟩, h a 16 3 ⟨rfl, rfl, by omega⟩, h a 16 4 ⟨rfl, rfl, by omega⟩]
  · rw [show M' a b = M a b from funext fun i => h a b i ⟨rfl, rfl⟩]
  · rw [h a 16 4 ⟨rfl, rfl, by omega⟩, h a 16 3 ⟨rfl, rfl, by omega⟩]
  · rw [h 2 16 5 ⟨rfl, rfl, by omega⟩, h 2 16 0 ⟨rfl, rfl, by omega⟩, h 2 16 1 ⟨rfl, rfl, by omega⟩, h 2 16 2 ⟨rfl, rfl, by omega⟩]
/-- the world -/
abbrev WP (g : Gm) (M : Mem) (o : Nat → Int64) (H : Heap) : Prop := WPe g KK (ent g M o) H
theorem WP.cast {g : Gm} {M M' : Mem} {o : Nat → Int64} {H : Heap} (h : WP g M o H) (e : M' = M) : WP g M' o H := by rw [e]; exact h
theorem WPe.castR {g : Gm} {M : Mem} {r : Nat} {v w : Vw} {o : Nat → Int64} {H : Heap} (h : WP g (setR M r v) o H) (e : w = v) : WP g (setR M r w) o H := by rw [e]; exact h
/-- one number written: the other cells stay -/
theorem ent_put (g : Gm) (M : Mem) (r : Nat) (v : Vw) (o : Nat → Int64) (c i : Nat) (x : Int32) {k : Key} (hk : keyOf r c i = k) : ∀ j, KK j → j ≠ k → ent g (setR M r (up2 v c i x)) o j = ent g (setR M r v) o j := by
  intro j hj hne
  refine ent_congr fun r' c' i' hd => ?_
  by_cases h : r' = r
  · subst h
    rw [setR_same, setR_same]
    by_cases hc : c' = c
    · subst hc
      by_cases hi : i' = i
      · subst hi
        exact absurd ((dep_key hj hd).trans hk) hne
      · exact up2_i hi
    · exact up2_c hc
  · rw [setR_ne _ _ h, setR_ne _ _ h]
/-- the keys of the cells -/
theorem k_0 {r h : Nat} (hr : r < 2) (hh : h < 12) : KK (0, r, h) := ⟨hr, hh⟩
theorem k_1 {r h : Nat} (hr : r < 2) (hh : h < 8) : KK (1, r, h) := ⟨hr, hh⟩
theorem k_2 {r h : Nat} (hr : r < 2) (hh : h < 3) : KK (2, r, h) := ⟨hr, hh⟩
theorem k_3 {r : Nat} (hr : r < 2) : KK (3, r, 0) := ⟨hr, rfl⟩
theorem k_4 {r c : Nat} (hr : r < 2) (hc : c < 3) : KK (4, r, c) := Or.inl ⟨hr, hc⟩
theorem k_4s {c : Nat} (hc : c < 16) : KK (4, 2, c) := Or.inr (Or.inl ⟨rfl, hc⟩)
theorem k_4p {r c : Nat} (hr : r = 2 ∨ r = 3) (hc : pv c = true) : KK (4, r, c) := by
  rcases hr with rfl | rfl
  · exact Or.inr (Or.inl ⟨rfl, pv_16 _ hc⟩)
  · exact Or.inr (Or.inr ⟨rfl, hc⟩)
theorem k_5 {r : Nat} (hr : r < 2) : KK (5, r, 0) := ⟨hr, rfl⟩
theorem k_6 {r : Nat} (hr : r < 2) : KK (6, r, 0) := ⟨hr, rfl⟩
theorem k_7 {r : Nat} (hr : r < 2) : KK (7, r, 0) := ⟨hr, rfl⟩
theorem k_8 : KK (8, 0, 0) := ⟨rfl, rfl⟩
theorem k_9 {r : Nat} (hr : r = 2 ∨ r = 3) : KK (9, r, 0) := ⟨hr, rfl⟩
theorem k_10 : KK (10, 0, 0) := ⟨rfl, rfl⟩
theorem k_11 : KK (11, 0, 0) := ⟨rfl, rfl⟩

theorem e_0 {g : Gm} {M : Mem} {r : Nat} {v : Vw} {o : Nat → Int64} {h : Nat} : ent g (setR M r v) o (0, r, h) = .inr (0, [.int (v 3 h), .int (v 4 h), .int (v 5 h)]) := by
  show Sum.inr _ = _
  simp only [setR_same]
theorem f_0 {g : Gm} {M : Mem} {o : Nat → Int64} {r : Nat} {h : Nat} : ent g M o (0, r, h) = .inr (0, [.int (M r 3 h), .int (M r 4 h), .int (M r 5 h)]) := rfl
theorem p_0_0 {g : Gm} {M : Mem} {r : Nat} {v : Vw} {o : Nat → Int64} {x : Int32} {h : Nat} : ent g (setR M r (up2 v 3 h x)) o (0, r, h) = .inr (0, ([.int (v 3 h), .int (v 4 h), .int (v 5 h)] : List Value).set 0 (.int x)) := by
  rw [e_0]
  simp [up2]
theorem p_0_1 {g : Gm} {M : Mem} {r : Nat} {v : Vw} {o : Nat → Int64} {x : Int32} {h : Nat} : ent g (setR M r (up2 v 4 h x)) o (0, r, h) = .inr (0, ([.int (v 3 h), .int (v 4 h), .int (v 5 h)] : List Value).set 1 (.int x)) := by
  rw [e_0]
  simp [up2]
theorem p_0_2 {g : Gm} {M : Mem} {r : Nat} {v : Vw} {o : Nat → Int64} {x : Int32} {h : Nat} : ent g (setR M r (up2 v 5 h x)) o (0, r, h) = .inr (0, ([.int (v 3 h), .int (v 4 h), .int (v 5 h)] : List Value).set 2 (.int x)) := by
  rw [e_0]
  simp [up2]
theorem e_1 {g : Gm} {M : Mem} {r : Nat} {v : Vw} {o : Nat → Int64} {h : Nat} : ent g (setR M r v) o (1, r, h) = .inr (2, [.int (v 6 h), .int (v 7 h), .int (v 8 h), .int (v 9 h), .int (v 10 h), .int (v 11 h)]) := by
  show Sum.inr _ = _
  simp only [setR_same]
theorem f_1 {g : Gm} {M : Mem} {o : Nat → Int64} {r : Nat} {h : Nat} : ent g M o (1, r, h) = .inr (2, [.int (M r 6 h), .int (M r 7 h), .int (M r 8 h), .int (M r 9 h), .int (M r 10 h), .int (M r 11 h)]) := rfl
theorem p_1_0 {g : Gm} {M : Mem} {r : Nat} {v : Vw} {o : Nat → Int64} {x : Int32} {h : Nat} : ent g (setR M r (up2 v 6 h x)) o (1, r, h) = .inr (2, ([.int (v 6 h), .int (v 7 h), .int (v 8 h), .int (v 9 h), .int (v 10 h), .int (v 11 h)] : List Value).set 0 (.int x)) := by
  rw [e_1]
  simp [up2]
theorem p_1_1 {g : Gm} {M : Mem} {r : Nat} {v : Vw} {o : Nat → Int64} {x : Int32} {h : Nat} : ent g (setR M r (up2 v 7 h x)) o (1, r, h) = .inr (2, ([.int (v 6 h), .int (v 7 h), .int (v 8 h), .int (v 9 h), .int (v 10 h), .int (v 11 h)] : List Value).set 1 (.int x)) := by
  rw [e_1]
  simp [up2]
theorem p_1_2 {g : Gm} {M : Mem} {r : Nat} {v : Vw} {o : Nat → Int64} {x : Int32} {h : Nat} : ent g (setR M r (up2 v 8 h x)) o (1, r, h) = .inr (2, ([.int (v 6 h), .int (v 7 h), .int (v 8 h), .int (v 9 h), .int (v 10 h), .int (v 11 h)] : List Value).set 2 (.int x)) := by
  rw [e_1]
  simp [up2]
theorem p_1_3 {g : Gm} {M : Mem} {r : Nat} {v : Vw} {o : Nat → Int64} {x : Int32} {h : Nat} : ent g (setR M r (up2 v 9 h x)) o (1, r, h) = .inr (2, ([.int (v 6 h), .int (v 7 h), .int (v 8 h), .int (v 9 h), .int (v 10 h), .int (v 11 h)] : List Value).set 3 (.int x)) := by
  rw [e_1]
  simp [up2]
theorem p_1_4 {g : Gm} {M : Mem} {r : Nat} {v : Vw} {o : Nat → Int64} {x : Int32} {h : Nat} : ent g (setR M r (up2 v 10 h x)) o (1, r, h) = .inr (2, ([.int (v 6 h), .int (v 7 h), .int (v 8 h), .int (v 9 h), .int (v 10 h), .int (v 11 h)] : List Value).set 4 (.int x)) := by
  rw [e_1]
  simp [up2]
theorem p_1_5 {g : Gm} {M : Mem} {r : Nat} {v : Vw} {o : Nat → Int64} {x : Int32} {h : Nat} : ent g (setR M r (up2 v 11 h x)) o (1, r, h) = .inr (2, ([.int (v 6 h), .int (v 7 h), .int (v 8 h), .int (v 9 h), .int (v 10 h), .int (v 11 h)] : List Value).set 5 (.int x)) := by
  rw [e_1]
  simp [up2]
theorem e_2 {g : Gm} {M : Mem} {r : Nat} {v : Vw} {o : Nat → Int64} {h : Nat} : ent g (setR M r v) o (2, r, h) = .inr (3, [.int (v 12 h), .int (v 13 h), .int (v 14 h), .int (v 15 h)]) := by
  show Sum.inr _ = _
  simp only [setR_same]
theorem f_2 {g : Gm} {M : Mem} {o : Nat → Int64} {r : Nat} {h : Nat} : ent g M o (2, r, h) = .inr (3, [.int (M r 12 h), .int (M r 13 h), .int (M r 14 h), .int (M r 15 h)]) := rfl
theorem p_2_0 {g : Gm} {M : Mem} {r : Nat} {v : Vw} {o : Nat → Int64} {x : Int32} {h : Nat} : ent g (setR M r (up2 v 12 h x)) o (2, r, h) = .inr (3, ([.int (v 12 h), .int (v 13 h), .int (v 14 h), .int (v 15 h)] : List Value).set 0 (.int x)) := by
  rw [e_2]
  simp [up2]
theorem p_2_1 {g : Gm} {M : Mem} {r : Nat} {v : Vw} {o : Nat → Int64} {x : Int32} {h : Nat} : ent g (setR M r (up2 v 13 h x)) o (2, r, h) = .inr (3, ([.int (v 12 h), .int (v 13 h), .int (v 14 h), .int (v 15 h)] : List Value).set 1 (.int x)) := by
  rw [e_2]
  simp [up2]
theorem p_2_2 {g : Gm} {M : Mem} {r : Nat} {v : Vw} {o : Nat → Int64} {x : Int32} {h : Nat} : ent g (setR M r (up2 v 14 h x)) o (2, r, h) = .inr (3, ([.int (v 12 h), .int (v 13 h), .int (v 14 h), .int (v 15 h)] : List Value).set 2 (.int x)) := by
  rw [e_2]
  simp [up2]
theorem p_2_3 {g : Gm} {M : Mem} {r : Nat} {v : Vw} {o : Nat → Int64} {x : Int32} {h : Nat} : ent g (setR M r (up2 v 15 h x)) o (2, r, h) = .inr (3, ([.int (v 12 h), .int (v 13 h), .int (v 14 h), .int (v 15 h)] : List Value).set 3 (.int x)) := by
  rw [e_2]
  simp [up2]
theorem e_3 {g : Gm} {M : Mem} {r : Nat} {v : Vw} {o : Nat → Int64} : ent g (setR M r v) o (3, r, 0) = .inr (1, [.ref (ad g (4, r, 0)), .ref (ad g (4, r, 1)), .ref (ad g (4, r, 2)), .ref (ad g (5, r, 0)), .ref (ad g (6, r, 0)), .ref (ad g (7, r, 0)), .int (v 16 0), .int (v 16 1), .int (v 16 2), .int (v 16 3), .int (v 16 4)]) := by
  show Sum.inr _ = _
  simp only [setR_same]
theorem f_3 {g : Gm} {M : Mem} {o : Nat → Int64} {r : Nat} : ent g M o (3, r, 0) = .inr (1, [.ref (ad g (4, r, 0)), .ref (ad g (4, r, 1)), .ref (ad g (4, r, 2)), .ref (ad g (5, r, 0)), .ref (ad g (6, r, 0)), .ref (ad g (7, r, 0)), .int (M r 16 0), .int (M r 16 1), .int (M r 16 2), .int (M r 16 3), .int (M r 16 4)]) := rfl
theorem p_3_6 {g : Gm} {M : Mem} {r : Nat} {v : Vw} {o : Nat → Int64} {x : Int32} : ent g (setR M r (up2 v 16 0 x)) o (3, r, 0) = .inr (1, ([.ref (ad g (4, r, 0)), .ref (ad g (4, r, 1)), .ref (ad g (4, r, 2)), .ref (ad g (5, r, 0)), .ref (ad g (6, r, 0)), .ref (ad g (7, r, 0)), .int (v 16 0), .int (v 16 1), .int (v 16 2), .int (v 16 3), .int (v 16 4)] : List Value).set 6 (.int x)) := by
  rw [e_3]
  simp [up2]
theorem p_3_7 {g : Gm} {M : Mem} {r : Nat} {v : Vw} {o : Nat → Int64} {x : Int32} : ent g (setR M r (up2 v 16 1 x)) o (3, r, 0) = .inr (1, ([.ref (ad g (4, r, 0)), .ref (ad g (4, r, 1)), .ref (ad g (4, r, 2)), .ref (ad g (5, r, 0)), .ref (ad g (6, r, 0)), .ref (ad g (7, r, 0)), .int (v 16 0), .int (v 16 1), .int (v 16 2), .int (v 16 3), .int (v 16 4)] : List Value).set 7 (.int x)) := by
  rw [e_3]
  simp [up2]
theorem p_3_8 {g : Gm} {M : Mem} {r : Nat} {v : Vw} {o : Nat → Int64} {x : Int32} : ent g (setR M r (up2 v 16 2 x)) o (3, r, 0) = .inr (1, ([.ref (ad g (4, r, 0)), .ref (ad g (4, r, 1)), .ref (ad g (4, r, 2)), .ref (ad g (5, r, 0)), .ref (ad g (6, r, 0)), .ref (ad g (7, r, 0)), .int (v 16 0), .int (v 16 1), .int (v 16 2), .int (v 16 3), .int (v 16 4)] : List Value).set 8 (.int x)) := by
  rw [e_3]
  simp [up2]
theorem p_3_9 {g : Gm} {M : Mem} {r : Nat} {v : Vw} {o : Nat → Int64} {x : Int32} : ent g (setR M r (up2 v 16 3 x)) o (3, r, 0) = .inr (1, ([.ref (ad g (4, r, 0)), .ref (ad g (4, r, 1)), .ref (ad g (4, r, 2)), .ref (ad g (5, r, 0)), .ref (ad g (6, r, 0)), .ref (ad g (7, r, 0)), .int (v 16 0), .int (v 16 1), .int (v 16 2), .int (v 16 3), .int (v 16 4)] : List Value).set 9 (.int x)) := by
  rw [e_3]
  simp [up2]
theorem p_3_10 {g : Gm} {M : Mem} {r : Nat} {v : Vw} {o : Nat → Int64} {x : Int32} : ent g (setR M r (up2 v 16 4 x)) o (3, r, 0) = .inr (1, ([.ref (ad g (4, r, 0)), .ref (ad g (4, r, 1)), .ref (ad g (4, r, 2)), .ref (ad g (5, r, 0)), .ref (ad g (6, r, 0)), .ref (ad g (7, r, 0)), .int (v 16 0), .int (v 16 1), .int (v 16 2), .int (v 16 3), .int (v 16 4)] : List Value).set 10 (.int x)) := by
  rw [e_3]
  simp [up2]
theorem e_9 {g : Gm} {M : Mem} {r : Nat} {v : Vw} {o : Nat → Int64} : ent g (setR M r v) o (9, r, 0) = .inr (5, [.int (v 16 4), .int (v 16 3), .ref (ad g (4, r, 0)), .ref (ad g (4, r, 5)), .ref (ad g (4, r, 8)), .ref (ad g (4, r, 9)), .ref (ad g (4, r, 10)), .ref (ad g (4, r, 11)), .ref (ad g (4, r, 12)), .ref (ad g (4, r, 13)), .ref (ad g (4, r, 15)), .ref (ad g (10, 0, 0))]) := by
  show Sum.inr _ = _
  simp only [setR_same]
theorem f_9 {g : Gm} {M : Mem} {o : Nat → Int64} {r : Nat} : ent g M o (9, r, 0) = .inr (5, [.int (M r 16 4), .int (M r 16 3), .ref (ad g (4, r, 0)), .ref (ad g (4, r, 5)), .ref (ad g (4, r, 8)), .ref (ad g (4, r, 9)), .ref (ad g (4, r, 10)), .ref (ad g (4, r, 11)), .ref (ad g (4, r, 12)), .ref (ad g (4, r, 13)), .ref (ad g (4, r, 15)), .ref (ad g (10, 0, 0))]) := rfl
theorem p_9_0 {g : Gm} {M : Mem} {r : Nat} {v : Vw} {o : Nat → Int64} {x : Int32} : ent g (setR M r (up2 v 16 4 x)) o (9, r, 0) = .inr (5, ([.int (v 16 4), .int (v 16 3), .ref (ad g (4, r, 0)), .ref (ad g (4, r, 5)), .ref (ad g (4, r, 8)), .ref (ad g (4, r, 9)), .ref (ad g (4, r, 10)), .ref (ad g (4, r, 11)), .ref (ad g (4, r, 12)), .ref (ad g (4, r, 13)), .ref (ad g (4, r, 15)), .ref (ad g (10, 0, 0))] : List Value).set 0 (.int x)) := by
  rw [e_9]
  simp [up2]
theorem p_9_1 {g : Gm} {M : Mem} {r : Nat} {v : Vw} {o : Nat → Int64} {x : Int32} : ent g (setR M r (up2 v 16 3 x)) o (9, r, 0) = .inr (5, ([.int (v 16 4), .int (v 16 3), .ref (ad g (4, r, 0)), .ref (ad g (4, r, 5)), .ref (ad g (4, r, 8)), .ref (ad g (4, r, 9)), .ref (ad g (4, r, 10)), .ref (ad g (4, r, 11)), .ref (ad g (4, r, 12)), .ref (ad g (4, r, 13)), .ref (ad g (4, r, 15)), .ref (ad g (10, 0, 0))] : List Value).set 1 (.int x)) := by
  rw [e_9]
  simp [up2]
theorem kf_0 {r h c : Nat} (hr : r < 2) (h1 : 3 ≤ c) (h2 : c < 6) : keyOf r c h = (0, r, h) := by
  unfold keyOf
  rw [if_neg (by omega), if_pos ⟨hr, h1⟩, if_pos h2]
theorem kf_1 {r h c : Nat} (hr : r < 2) (h1 : 6 ≤ c) (h2 : c < 12) : keyOf r c h = (1, r, h) := by
  unfold keyOf
  rw [if_neg (by omega), if_pos ⟨hr, by omega⟩, if_neg (by omega), if_pos h2]
theorem kf_2 {r h c : Nat} (hr : r < 2) (h1 : 12 ≤ c) (h2 : c < 16) : keyOf r c h = (2, r, h) := by
  unfold keyOf
  rw [if_neg (by omega), if_pos ⟨hr, by omega⟩, if_neg (by omega), if_neg (by omega)]
theorem kf_3 {r i : Nat} (hr : r < 2) : keyOf r 16 i = (3, r, 0) := by
  unfold keyOf
  rw [if_pos rfl, if_pos hr]
theorem kf_4 {r c i : Nat} (hr : r < 2) (hc : c < 3) : keyOf r c i = (4, r, c) := by
  unfold keyOf
  rw [if_neg (by omega), if_neg (by omega)]
theorem kf_4m {r c i : Nat} (hr : r = 2 ∨ r = 3) (hc : c < 16) : keyOf r c i = (4, r, c) := by
  unfold keyOf
  rw [if_neg (by omega), if_neg (by omega)]
theorem kf_9 {r i : Nat} (hr : r = 2 ∨ r = 3) (hi : i = 3 ∨ i = 4) : keyOf r 16 i = (9, r, 0) := by
  unfold keyOf
  rw [if_pos rfl, if_neg (by omega), if_pos hi]
theorem kf_10 {i : Nat} (hi : ¬ (i = 3 ∨ i = 4)) : keyOf 2 16 i = (10, 0, 0) := by
  unfold keyOf
  rw [if_pos rfl, if_neg (by omega), if_neg hi]
theorem e_4 {g : Gm} {M : Mem} {r c : Nat} {v : Vw} {o : Nat → Int64} : ent g (setR M r v) o (4, r, c) = .inl (gC g 0, alen c, .inl (v c)) := by
  show Sum.inl _ = _
  simp only [setR_same]
theorem p_4 {g : Gm} {M : Mem} {r c i : Nat} {v : Vw} {o : Nat → Int64} {x : Int32} : ent g (setR M r (up2 v c i x)) o (4, r, c) = .inl (gC g 0, alen c, .inl (upd (v c) i x)) := by
  rw [e_4, up2_upd]
theorem f_4 {g : Gm} {M : Mem} {r c : Nat} {o : Nat → Int64} : ent g M o (4, r, c) = .inl (gC g 0, alen c, .inl (M r c)) := rfl
theorem f_5 {g : Gm} {M : Mem} {r : Nat} {o : Nat → Int64} : ent g M o (5, r, 0) = .inl (gC g 1, 12, .inr (.inr (.inr (.inr (fun i => some (ad g (0, r, i))))))) := rfl
theorem f_6 {g : Gm} {M : Mem} {r : Nat} {o : Nat → Int64} : ent g M o (6, r, 0) = .inl (gC g 2, 8, .inr (.inr (.inr (.inr (fun i => some (ad g (1, r, i))))))) := rfl
theorem f_7 {g : Gm} {M : Mem} {r : Nat} {o : Nat → Int64} : ent g M o (7, r, 0) = .inl (gC g 3, 3, .inr (.inr (.inr (.inr (fun i => some (ad g (2, r, i))))))) := rfl
theorem f_8 {g : Gm} {M : Mem} {o : Nat → Int64} : ent g M o (8, 0, 0) = .inr (4, [.ref (ad g (3, 0, 0)), .ref (ad g (3, 1, 0))]) := rfl
theorem f_10 {g : Gm} {M : Mem} {o : Nat → Int64} : ent g M o (10, 0, 0) = .inr (6, [.int (M 2 16 5), .ref (ad g (4, 2, 1)), .ref (ad g (4, 2, 2)), .int (M 2 16 0), .ref (ad g (4, 2, 3)), .ref (ad g (4, 2, 4)), .int (M 2 16 1), .ref (ad g (4, 2, 6)), .ref (ad g (4, 2, 7)), .int (M 2 16 2), .ref (ad g (4, 2, 14)), .ref (ad g (9, 2, 0)), .ref (ad g (9, 3, 0))]) := rfl
theorem f_11 {g : Gm} {M : Mem} {o : Nat → Int64} : ent g M o (11, 0, 0) = .inl (gC g 4, 1, .inr (.inl o)) := rfl

