/-! The cells of this law, by keys: lakes (regions 0, 1), the law's own picture of the lake (2), what it notes of a night (3); M: region, component, place. -/
abbrev Vw : Type := Nat → Nat → Int32
abbrev Mem : Type := Nat → Vw
def alen : Nat → Nat := fun c => match c with
  | 0 => 81
  | 1 => 81
  | _ => 7
def setR (M : Mem) (r : Nat) (v : Vw) : Mem := fun r' => if r' = r then v else M r'
def up2 (v : Vw) (c i : Nat) (x : Int32) : Vw := fun c' i' => if c' = c ∧ i' = i then x else v c' i'
theorem setR_same (M : Mem) (r : Nat) (v : Vw) : setR M r v r = v := by simp [setR]
theorem setR_ne (M : Mem) {r r' : Nat} (v : Vw) (h : r' ≠ r) : setR M r v r' = M r' := by simp [setR, h]
theorem setR_self (M : Mem) (r : Nat) : setR M r (M r) = M := by
  funext r'
  by_cases h : r' = r <;> simp [setR, h]
theorem setR_setR (M : Mem) (r : Nat) (v w : Vw) : setR (setR M r v) r w = setR M r w := by
  funext r'
  by_cases h : r' = r <;> simp [setR, h]
theorem up2_same (v : Vw) (c i : Nat) (x : Int32) : up2 v c i x c i = x := by simp [up2]
theorem up2_c {v : Vw} {c i : Nat} {x : Int32} {c' i' : Nat} (h : c' ≠ c) : up2 v c i x c' i' = v c' i' := by simp [up2, h]
theorem up2_i {v : Vw} {c i : Nat} {x : Int32} {c' i' : Nat} (h : i' ≠ i) : up2 v c i x c' i' = v c' i' := by simp [up2, h]
theorem up2_upd (v : Vw) (c i : Nat) (x : Int32) : up2 v c i x c = upd (v c) i x := by
  funext j
  by_cases h : j = i <;> simp [up2, upd, h]
def nH (v : Vw) : Nat := (v 16 0).toNatClampNeg
def nS (v : Vw) : Nat := (v 16 1).toNatClampNeg
def nW (v : Vw) : Nat := (v 16 2).toNatClampNeg
/-- rows of the law's own arrays -/
def rG (v : Vw) (c x : Nat) : Nat → Int32 := fun y => v c (9 * y + x)
def rH (v : Vw) (h : Nat) : Nat → Int32 := fun j => match j with
  | 0 => v 3 h
  | 1 => v 4 h
  | 2 => v 5 h
  | _ => 0
def rS (v : Vw) (k : Nat) : Nat → Int32 := fun j => match j with
  | 0 => v 6 k
  | 1 => v 7 k
  | 2 => v 8 k
  | 3 => v 9 k
  | 4 => v 10 k
  | 5 => v 11 k
  | _ => 0
def rW (v : Vw) (w : Nat) : Nat → Int32 := fun j => match j with
  | 0 => v 12 w
  | 1 => v 13 w
  | 2 => v 14 w
  | 3 => v 15 w
  | _ => 0
/-- how long a row of notes is -/
def tl (v : Vw) (c : Nat) : Nat := match c with
  | 2 => nH v
  | 3 => (v 16 3).toNatClampNeg
  | 5 => 9
  | _ => 5
def refs (n : Nat) (f : Nat → Nat) : vp_A := (n, .inr (.inr (.inr (.inr (fun i => some (f i))))))
def ent (g : Gm) (M : Mem) (o : Nat → Int64) : Key → va_E := fun k => match k.1 with
  | 0 => .inr (0, [.int (M k.2.1 3 k.2.2), .int (M k.2.1 4 k.2.2), .int (M k.2.1 5 k.2.2)])
  | 1 => .inr (2, [.int (M k.2.1 6 k.2.2), .int (M k.2.1 7 k.2.2), .int (M k.2.1 8 k.2.2), .int (M k.2.1 9 k.2.2), .int (M k.2.1 10 k.2.2), .int (M k.2.1 11 k.2.2)])
  | 2 => .inr (3, [.int (M k.2.1 12 k.2.2), .int (M k.2.1 13 k.2.2), .int (M k.2.1 14 k.2.2), .int (M k.2.1 15 k.2.2)])
  | 3 => .inr (1, [.ref (ad g (4, k.2.1, 0)), .ref (ad g (4, k.2.1, 1)), .ref (ad g (4, k.2.1, 2)), .ref (ad g (5, k.2.1, 0)), .ref (ad g (6, k.2.1, 0)), .ref (ad g (7, k.2.1, 0)), .int (M k.2.1 16 0), .int (M k.2.1 16 1), .int (M k.2.1 16 2), .int (M k.2.1 16 3), .int (M k.2.1 16 4)])
  | 4 => .inl (gC g 0, alen k.2.2, .inl (M k.2.1 k.2.2))
  | 5 => .inl (gC g 1, 12, .inr (.inr (.inr (.inr (fun i => some (ad g (0, k.2.1, i)))))))
  | 6 => .inl (gC g 2, 8, .inr (.inr (.inr (.inr (fun i => some (ad g (1, k.2.1, i)))))))
  | 7 => .inl (gC g 3, 3, .inr (.inr (.inr (.inr (fun i => some (ad g (2, k.2.1, i)))))))
  | 8 => .inr (4, [.ref (ad g (3, 0, 0)), .ref (ad g (3, 1, 0))])
  | 20 => .inr (5, [.ref (ad g (26, 0, 0)), .ref (ad g (26, 1, 0)), .ref (ad g (22, 0, 0)), .ref (ad g (27, 0, 0)), .ref (ad g (28, 2, 0)), .ref (ad g (29, 2, 0)), .int (M 2 16 4), .int (M 2 16 3)])
  | 21 => .inl (gC g 0, 9, .inl (rG (M 2) k.2.1 k.2.2))
  | 22 => .inl (gC g 0, 7, .inl (M 2 2))
  | 23 => .inl (gC g 0, 3, .inl (rH (M 2) k.2.2))
  | 24 => .inl (gC g 0, 6, .inl (rS (M k.2.1) k.2.2))
  | 25 => .inl (gC g 0, 4, .inl (rW (M k.2.1) k.2.2))
  | 26 => .inl (gC g 4, refs 9 (fun i => ad g (21, k.2.1, i)))
  | 27 => .inl (gC g 4, refs (nH (M 2)) (fun i => ad g (23, 0, i)))
  | 28 => .inl (gC g 4, refs (nS (M k.2.1)) (fun i => ad g (24, k.2.1, i)))
  | 29 => .inl (gC g 4, refs (nW (M k.2.1)) (fun i => ad g (25, k.2.1, i)))
  | _ => .inl (gC g 0, tl (M 3) k.2.1, .inl (M 3 k.2.1))
def KK (g : Gm) (k : Key) : Prop := match k.1 with
  | 0 => k.2.1 < 2 ∧ k.2.2 < 12
  | 1 => k.2.1 < 2 ∧ k.2.2 < 8
  | 2 => k.2.1 < 2 ∧ k.2.2 < 3
  | 3 => k.2.1 < 2 ∧ k.2.2 = 0
  | 4 => k.2.1 < 2 ∧ k.2.2 < 3
  | 5 => k.2.1 < 2 ∧ k.2.2 = 0
  | 6 => k.2.1 < 2 ∧ k.2.2 = 0
  | 7 => k.2.1 < 2 ∧ k.2.2 = 0
  | 8 => k.2.1 = 0 ∧ k.2.2 = 0
  | 20 => (k.2.1 = 0 ∧ k.2.2 = 0) ∧ lk g k
  | 21 => (k.2.1 < 2 ∧ k.2.2 < 9) ∧ lk g k
  | 22 => (k.2.1 = 0 ∧ k.2.2 = 0) ∧ lk g k
  | 23 => k.2.1 = 0 ∧ lk g k
  | 24 => (k.2.1 = 2 ∨ k.2.1 = 3) ∧ lk g k
  | 25 => (k.2.1 = 2 ∨ k.2.1 = 3) ∧ lk g k
  | 26 => (k.2.1 < 2 ∧ k.2.2 = 0) ∧ lk g k
  | 27 => (k.2.1 = 0 ∧ k.2.2 = 0) ∧ lk g k
  | 28 => ((k.2.1 = 2 ∨ k.2.1 = 3) ∧ k.2.2 = 0) ∧ lk g k
  | 29 => ((k.2.1 = 2 ∨ k.2.1 = 3) ∧ k.2.2 = 0) ∧ lk g k
  | 30 => (k.2.1 < 6 ∧ k.2.2 = 0) ∧ lk g k
  | _ => False
/-- which numbers a cell holds -/
def dep (k : Key) (r c i : Nat) : Prop := match k.1 with
  | 0 => k.2.1 = r ∧ k.2.2 = i ∧ 3 ≤ c ∧ c < 6
  | 1 => k.2.1 = r ∧ k.2.2 = i ∧ 6 ≤ c ∧ c < 12
  | 2 => k.2.1 = r ∧ k.2.2 = i ∧ 12 ≤ c ∧ c < 16
  | 3 => k.2.1 = r ∧ c = 16 ∧ i < 5
  | 4 => k.2.1 = r ∧ k.2.2 = c
  | 20 => r = 2 ∧ c = 16 ∧ (i = 3 ∨ i = 4)
  | 21 => r = 2 ∧ c = k.2.1 ∧ i % 9 = k.2.2 % 9
  | 22 => r = 2 ∧ c = 2
  | 23 => r = 2 ∧ k.2.2 = i ∧ 3 ≤ c ∧ c < 6
  | 24 => k.2.1 = r ∧ k.2.2 = i ∧ 6 ≤ c ∧ c < 12
  | 25 => k.2.1 = r ∧ k.2.2 = i ∧ 12 ≤ c ∧ c < 16
  | 27 => r = 2 ∧ c = 16 ∧ i = 0
  | 28 => k.2.1 = r ∧ c = 16 ∧ i = 1
  | 29 => k.2.1 = r ∧ c = 16 ∧ i = 2
  | 30 => r = 3 ∧ (c = k.2.1 ∨ (c = 16 ∧ ((i = 0 ∧ k.2.1 = 2) ∨ (i = 3 ∧ k.2.1 = 3))))
  | _ => False
def keyOf (r c i : Nat) : Key := if r < 2 then (if c = 16 then (3, r, 0) else if 3 ≤ c then (if c < 6 then (0, r, i) else if c < 12 then (1, r, i) else (2, r, i)) else (4, r, c)) else if r = 2 then (if c = 16 then (if i = 0 then (27, 0, 0) else if i = 1 then (28, 2, 0) else if i = 2 then (29, 2, 0) else (20, 0, 0)) else if c < 2 then (21, c, i % 9) else if c = 2 then (22, 0, 0) else if c < 6 then (23, 0, i) else if c < 12 then (24, 2, i) else (25, 2, i)) else (if c = 16 then (if i = 0 then (30, 2, 0) else if i = 1 then (28, r, 0) else if i = 2 then (29, r, 0) else (30, 3, 0)) else if c < 6 then (30, c, 0) else if c < 12 then (24, r, i) else (25, r, i))
theorem dep_key {g : Gm} {k : Key} {r c i : Nat} (hk : KK g k) (h : dep k r c i) : k = keyOf r c i := by
  obtain ⟨t, a, b⟩ := k
  unfold KK at hk
  unfold dep at h
  split at h <;> rename_i ht <;> simp only at ht h hk <;> (try subst ht) <;> simp only at hk
  · obtain ⟨rfl, rfl, h1, h2⟩ := h
    simp only [keyOf]
    rw [if_pos hk.1, if_neg (by omega), if_pos (by omega), if_pos h2]
  · obtain ⟨rfl, rfl, h1, h2⟩ := h
    simp only [keyOf]
    rw [if_pos hk.1, if_neg (by omega), if_pos (by omega), if_neg (by omega), if_pos h2]
  · obtain ⟨rfl, rfl, h1, h2⟩ := h
    simp only [keyOf]
    rw [if_pos hk.1, if_neg (by omega), if_pos (by omega), if_neg (by omega), if_neg (by omega)]
  · obtain ⟨rfl, rfl, h1⟩ := h
    simp only [keyOf]
    rw [if_pos hk.1, if_pos trivial, hk.2]
  · obtain ⟨rfl, rfl⟩ := h
    simp only [keyOf]
    rw [if_pos hk.1, if_neg (by omega), if_neg (by omega)]
  · obtain ⟨rfl, rfl, h1⟩ := h
    simp only [keyOf]
    rw [if_neg (by omega), if_pos trivial, if_pos trivial, if_neg (by omega), if_neg (by omega), if_neg (by omega), hk.1.1, hk.1.2]
  · obtain ⟨rfl, rfl, h1⟩ := h
    simp only [keyOf]
    rw [if_neg (by omega), if_pos trivial, if_neg (by omega), if_pos (by omega), h1, Nat.mod_eq_of_lt hk.1.2]
  · obtain ⟨rfl, rfl⟩ := h
    simp only [keyOf]
    rw [if_neg (by omega), if_pos trivial, if_neg (by omega), if_neg (by omega), if_pos trivial, hk.1.1, hk.1.2]
  · obtain ⟨rfl, rfl, h1, h2⟩ := h
    simp only [keyOf]
    rw [if_neg (by omega), if_pos trivial, if_neg (by omega), if_neg (by omega), if_neg (by omega), if_pos h2, hk.1]
  · obtain ⟨rfl, rfl, h1, h2⟩ := h
    simp only [keyOf]
    rcases hk.1 with rfl | rfl
    · rw [if_neg (by decide), if_pos rfl, if_neg (by omega), if_neg (by omega), if_neg (by omega), if_neg (by omega), if_pos h2]
    · rw [if_neg (by omega), if_neg (by omega), if_neg (by omega), if_neg (by omega), if_pos h2]
  · obtain ⟨rfl, rfl, h1, h2⟩ := h
    simp only [keyOf]
    rcases hk.1 with rfl | rfl
    · rw [if_neg (by decide), if_pos rfl, if_neg (by omega), if_neg (by omega), if_neg (by omega), if_neg (by omega), if_neg (by omega)]
    · rw [if_neg (by omega), if_neg (by omega), if_neg (by omega), if_neg (by omega), if_neg (by omega)]
  · obtain ⟨rfl, rfl, rfl⟩ := h
    simp only [keyOf]
    rw [if_neg (by omega), if_pos trivial, if_pos trivial, if_pos trivial, hk.1.1, hk.1.2]
  · obtain ⟨rfl, rfl, rfl⟩ := h
    simp only [keyOf]
    rw [hk.1.2]
    rcases hk.1.1 with rfl | rfl <;> rfl
  · obtain ⟨rfl, rfl, rfl⟩ := h
    simp only [keyOf]
    rw [hk.1.2]
    rcases hk.1.1 with rfl | rfl <;> rfl
  · obtain ⟨rfl, h1⟩ := h
    simp only [keyOf]
    rw [hk.1.2]
    rcases h1 with rfl | ⟨rfl, ⟨rfl, rfl⟩ | ⟨rfl, rfl⟩⟩
    · rw [if_neg (by decide), if_neg (by decide), if_neg (by omega), if_pos hk.1.1]
    · rfl
    · rfl
theorem rG_congr {v w : Vw} {c x : Nat} (h : ∀ i, i % 9 = x % 9 → w c i = v c i) : rG w c x = rG v c x := funext fun y => h (9 * y + x) (by omega)
theorem rH_congr {v w : Vw} {h : Nat} (e : ∀ c, 3 ≤ c → c < 6 → w c h = v c h) : rH w h = rH v h := by
  funext j
  unfold rH
  split
  · exact e 3 (by decide) (by decide)
  · exact e 4 (by decide) (by decide)
  · exact e 5 (by decide) (by decide)
  · rfl
theorem rS_congr {v w : Vw} {h : Nat} (e : ∀ c, 6 ≤ c → c < 12 → w c h = v c h) : rS w h = rS v h := by
  funext j
  unfold rS
  split
  · exact e 6 (by decide) (by decide)
  · exact e 7 (by decide) (by decide)
  · exact e 8 (by decide) (by decide)
  · exact e 9 (by decide) (by decide)
  · exact e 10 (by decide) (by decide)
  · exact e 11 (by decide) (by decide)
  · rfl
theorem rW_congr {v w : Vw} {h : Nat} (e : ∀ c, 12 ≤ c → c < 16 → w c h = v c h) : rW w h = rW v h := by
  funext j
  unfold rW
  split
  · exact e 12 (by decide) (by decide)
  · exact e 13 (by decide) (by decide)
  · exact e 14 (by decide) (by decide)
  · exact e 15 (by decide) (by decide)
  · rfl
theorem tl_congr {v w : Vw} {c : Nat} (h0 : c = 2 → w 16 0 = v 16 0) (h3 : c = 3 → w 16 3 = v 16 3) : tl w c = tl v c := by
  unfold tl
  split
  · unfold nH; rw [h0 rfl]
  · rw [h3 rfl]
  · rfl
  · rfl
theorem KK_tag {g : Gm} {k : Key} (hk : KK g k) : k.1 < 9 ∨ (20 ≤ k.1 ∧ k.1 < 31) := by
  unfold KK at hk
  split at hk <;> first | omega | exact hk.elim
theorem ent_congr {g : Gm} {M M' : Mem} {o : Nat → Int64} {k : Key} (hk : KK g k) (h : ∀ r c i, dep k r c i → M' r c i = M r c i) : ent g M' o k = ent g M o k := by
  obtain ⟨t, a, b⟩ := k
  have ht := KK_tag hk
  have ht : t < 9 ∨ (20 ≤ t ∧ t < 31) := ht
  have ht : t = 0 ∨ t = 1 ∨ t = 2 ∨ t = 3 ∨ t = 4 ∨ t = 5 ∨ t = 6 ∨ t = 7 ∨ t = 8 ∨ t = 20 ∨ t = 21 ∨ t = 22 ∨ t = 23 ∨ t = 24 ∨ t = 25 ∨ t = 26 ∨ t = 27 ∨ t = 28 ∨ t = 29 ∨ t = 30 := by omega
  rcases ht with rfl | rfl | rfl | rfl | rfl | rfl | rfl | rfl | rfl | rfl | rfl | rfl | rfl | rfl | rfl | rfl | rfl | rfl | rfl | rfl <;> simp only [dep] at h <;> simp only [KK] at hk <;> simp only [ent]
  · rw [h a 3 b ⟨rfl, rfl, by omega, by omega⟩, h a 4 b ⟨rfl, rfl, by omega, by omega⟩, h a 5 b ⟨rfl, rfl, by omega, by omega⟩]
  · rw [h a 6 b ⟨rfl, rfl, by omega, by omega⟩, h a 7 b ⟨rfl, rfl, by omega, by omega⟩, h a 8 b ⟨rfl, rfl, by omega, by omega⟩, h a 9 b ⟨rfl, rfl, by omega, by omega⟩, h a 10 b ⟨rfl, rfl, by omega, by omega⟩, h a 11 b ⟨rfl, rfl, by omega, by omega⟩]
  · rw [h a 12 b ⟨rfl, rfl, by omega, by omega⟩, h a 13 b ⟨rfl, rfl, by omega, by omega⟩, h a 14 b ⟨rfl, rfl, by omega, by omega⟩, h a 15 b ⟨rfl, rfl, by omega, by omega⟩]
  · rw [h a 16 0 ⟨rfl, rfl, by omega⟩, h a 16 1 ⟨rfl, rfl, by omega⟩, h a 16 2 ⟨rfl, rfl, by omega⟩, h a 16 3 ⟨rfl, rfl, by omega⟩, h a 16 4 ⟨rfl, rfl, by omega⟩]
  · rw [show M' a b = M a b from funext fun i => h a b i ⟨rfl, rfl⟩]
  · rw [h 2 16 4 ⟨rfl, rfl, by omega⟩, h 2 16 3 ⟨rfl, rfl, by omega⟩]
  · rw [rG_congr (v := M 2) (w := M' 2) fun i hi => h 2 a i ⟨rfl, rfl, hi⟩]
  · rw [show M' 2 2 = M 2 2 from funext fun i => h 2 2 i ⟨rfl, rfl⟩]
  · rw [rH_congr (v := M 2) (w := M' 2) fun c h1 h2 => h 2 c b ⟨rfl, rfl, h1, h2⟩]
  · rw [rS_congr (v := M a) (w := M' a) fun c h1 h2 => h a c b ⟨rfl, rfl, h1, h2⟩]
  · rw [rW_congr (v := M a) (w := M' a) fun c h1 h2 => h a c b ⟨rfl, rfl, h1, h2⟩]
  · unfold nH
    rw [h 2 16 0 ⟨rfl, rfl, rfl⟩]
  · unfold nS
    rw [h a 16 1 ⟨rfl, rfl, rfl⟩]
  · unfold nW
    rw [h a 16 2 ⟨rfl, rfl, rfl⟩]
  · rw [show M' 3 a = M 3 a from funext fun i => h 3 a i ⟨rfl, Or.inl rfl⟩, tl_congr (v := M 3) (w := M' 3) (fun q => h 3 16 0 ⟨rfl, Or.inr ⟨rfl, Or.inl ⟨rfl, q⟩⟩⟩) (fun q => h 3 16 3 ⟨rfl, Or.inr ⟨rfl, Or.inr ⟨rfl, q⟩⟩⟩)]
/-- the world -/
abbrev WP (g : Gm) (M : Mem) (o : Nat → Int64) (H : Heap) : Prop := WPe g (KK g) (ent g M o) H
theorem WP.cast {g : Gm} {M M' : Mem} {o : Nat → Int64} {H : Heap} (h : WP g M o H) (e : M' = M) : WP g M' o H := by rw [e]; exact h
theorem WPe.castR {g : Gm} {M : Mem} {r : Nat} {v w : Vw} {o : Nat → Int64} {H : Heap} (h : WP g (setR M r v) o H) (e : w = v) : WP g (setR M r w) o H := by rw [e]; exact h
theorem WPe.castD {g : Gm} {M M' : Mem} {o : Nat → Int64} {H : Heap} (h : WP g M o H) (e : ∀ k, KK g k → ∀ r c i, dep k r c i → M' r c i = M r c i) : WP g M' o H := WPe.cast h (fun k hk => ent_congr hk (e k hk))
/-- one number written: the other cells stay -/
theorem ent_put (g : Gm) (M : Mem) (r : Nat) (v : Vw) (o : Nat → Int64) (c i : Nat) (x : Int32) {k : Key} (hk : keyOf r c i = k) : ∀ j, KK g j → j ≠ k → ent g (setR M r (up2 v c i x)) o j = ent g (setR M r v) o j := by
  intro j hj hne
  refine ent_congr hj fun r' c' i' hd => ?_
  by_cases h : r' = r
  · subst h
    rw [setR_same, setR_same]
    by_cases hc : c' = c
    · subst hc
      by_cases hi : i' = i
      · subst hi
        exact absurd ((dep_key hj hd).trans hk) hne
      · exact up2_i hi
    · exact up2_c hc
  · rw [setR_ne _ _ h, setR_ne _ _ h]
/-- the keys of the cells -/
theorem k_0 {g : Gm} {r h : Nat} (hr : r < 2) (hh : h < 12) : KK g (0, r, h) := ⟨hr, hh⟩
theorem k_1 {g : Gm} {r h : Nat} (hr : r < 2) (hh : h < 8) : KK g (1, r, h) := ⟨hr, hh⟩
theorem k_2 {g : Gm} {r h : Nat} (hr : r < 2) (hh : h < 3) : KK g (2, r, h) := ⟨hr, hh⟩
theorem k_3 {g : Gm} {r : Nat} (hr : r < 2) : KK g (3, r, 0) := ⟨hr, rfl⟩
theorem k_4 {g : Gm} {r c : Nat} (hr : r < 2) (hc : c < 3) : KK g (4, r, c) := ⟨hr, hc⟩
theorem k_5 {g : Gm} {r : Nat} (hr : r < 2) : KK g (5, r, 0) := ⟨hr, rfl⟩
theorem k_6 {g : Gm} {r : Nat} (hr : r < 2) : KK g (6, r, 0) := ⟨hr, rfl⟩
theorem k_7 {g : Gm} {r : Nat} (hr : r < 2) : KK g (7, r, 0) := ⟨hr, rfl⟩
theorem k_8 {g : Gm} : KK g (8, 0, 0) := ⟨rfl, rfl⟩

theorem e_0 {g : Gm} {M : Mem} {r : Nat} {v : Vw} {o : Nat → Int64} {h : Nat} : ent g (setR M r v) o (0, r, h) = .inr (0, [.int (v 3 h), .int (v 4 h), .int (v 5 h)]) := by
  show Sum.inr _ = _
  simp only [setR_same]
theorem f_0 {g : Gm} {M : Mem} {o : Nat → Int64} {r : Nat} {h : Nat} : ent g M o (0, r, h) = .inr (0, [.int (M r 3 h), .int (M r 4 h), .int (M r 5 h)]) := rfl
theorem p_0_0 {g : Gm} {M : Mem} {r : Nat} {v : Vw} {o : Nat → Int64} {x : Int32} {h : Nat} : ent g (setR M r (up2 v 3 h x)) o (0, r, h) = .inr (0, ([.int (v 3 h), .int (v 4 h), .int (v 5 h)] : List Value).set 0 (.int x)) := by
  rw [e_0]
  simp [up2]
theorem p_0_1 {g : Gm} {M : Mem} {r : Nat} {v : Vw} {o : Nat → Int64} {x : Int32} {h : Nat} : ent g (setR M r (up2 v 4 h x)) o (0, r, h) = .inr (0, ([.int (v 3 h), .int (v 4 h), .int (v 5 h)] : List Value).set 1 (.int x)) := by
  rw [e_0]
  simp [up2]
theorem p_0_2 {g : Gm} {M : Mem} {r : Nat} {v : Vw} {o : Nat → Int64} {x : Int32} {h : Nat} : ent g (setR M r (up2 v 5 h x)) o (0, r, h) = .inr (0, ([.int (v 3 h), .int (v 4 h), .int (v 5 h)] : List Value).set 2 (.int x)) := by
  rw [e_0]
  simp [up2]
theorem e_1 {g : Gm} {M : Mem} {r : Nat} {v : Vw} {o : Nat → Int64} {h : Nat} : ent g (setR M r v) o (1, r, h) = .inr (2, [.int (v 6 h), .int (v 7 h), .int (v 8 h), .int (v 9 h), .int (v 10 h), .int (v 11 h)]) := by
  show Sum.inr _ = _
  simp only [setR_same]
theorem f_1 {g : Gm} {M : Mem} {o : Nat → Int64} {r : Nat} {h : Nat} : ent g M o (1, r, h) = .inr (2, [.int (M r 6 h), .int (M r 7 h), .int (M r 8 h), .int (M r 9 h), .int (M r 10 h), .int (M r 11 h)]) := rfl
theorem p_1_0 {g : Gm} {M : Mem} {r : Nat} {v : Vw} {o : Nat → Int64} {x : Int32} {h : Nat} : ent g (setR M r (up2 v 6 h x)) o (1, r, h) = .inr (2, ([.int (v 6 h), .int (v 7 h), .int (v 8 h), .int (v 9 h), .int (v 10 h), .int (v 11 h)] : List Value).set 0 (.int x)) := by
  rw [e_1]
  simp [up2]
theorem p_1_1 {g : Gm} {M : Mem} {r : Nat} {v : Vw} {o : Nat → Int64} {x : Int32} {h : Nat} : ent g (setR M r (up2 v 7 h x)) o (1, r, h) = .inr (2, ([.int (v 6 h), .int (v 7 h), .int (v 8 h), .int (v 9 h), .int (v 10 h), .int (v 11 h)] : List Value).set 1 (.int x)) := by
  rw [e_1]
  simp [up2]
theorem p_1_2 {g : Gm} {M : Mem} {r : Nat} {v : Vw} {o : Nat → Int64} {x : Int32} {h : Nat} : ent g (setR M r (up2 v 8 h x)) o (1, r, h) = .inr (2, ([.int (v 6 h), .int (v 7 h), .int (v 8 h), .int (v 9 h), .int (v 10 h), .int (v 11 h)] : List Value).set 2 (.int x)) := by
  rw [e_1]
  simp [up2]
theorem p_1_3 {g : Gm} {M : Mem} {r : Nat} {v : Vw} {o : Nat → Int64} {x : Int32} {h : Nat} : ent g (setR M r (up2 v 9 h x)) o (1, r, h) = .inr (2, ([.int (v 6 h), .int (v 7 h), .int (v 8 h), .int (v 9 h), .int (v 10 h), .int (v 11 h)] : List Value).set 3 (.int x)) := by
  rw [e_1]
  simp [up2]
theorem p_1_4 {g : Gm} {M : Mem} {r : Nat} {v : Vw} {o : Nat → Int64} {x : Int32} {h : Nat} : ent g (setR M r (up2 v 10 h x)) o (1, r, h) = .inr (2, ([.int (v 6 h), .int (v 7 h), .int (v 8 h), .int (v 9 h), .int (v 10 h), .int (v 11 h)] : List Value).set 4 (.int x)) := by
  rw [e_1]
  simp [up2]
theorem p_1_5 {g : Gm} {M : Mem} {r : Nat} {v : Vw} {o : Nat → Int64} {x : Int32} {h : Nat} : ent g (setR M r (up2 v 11 h x)) o (1, r, h) = .inr (2, ([.int (v 6 h), .int (v 7 h), .int (v 8 h), .int (v 9 h), .int (v 10 h), .int (v 11 h)] : List Value).set 5 (.int x)) := by
  rw [e_1]
  simp [up2]
theorem e_2 {g : Gm} {M : Mem} {r : Nat} {v : Vw} {o : Nat → Int64} {h : Nat} : ent g (setR M r v) o (2, r, h) = .inr (3, [.int (v 12 h), .int (v 13 h), .int (v 14 h), .int (v 15 h)]) := by
  show Sum.inr _ = _
  simp only [setR_same]
theorem f_2 {g : Gm} {M : Mem} {o : Nat → Int64} {r : Nat} {h : Nat} : ent g M o (2, r, h) = .inr (3, [.int (M r 12 h), .int (M r 13 h), .int (M r 14 h), .int (M r 15 h)]) := rfl
theorem p_2_0 {g : Gm} {M : Mem} {r : Nat} {v : Vw} {o : Nat → Int64} {x : Int32} {h : Nat} : ent g (setR M r (up2 v 12 h x)) o (2, r, h) = .inr (3, ([.int (v 12 h), .int (v 13 h), .int (v 14 h), .int (v 15 h)] : List Value).set 0 (.int x)) := by
  rw [e_2]
  simp [up2]
theorem p_2_1 {g : Gm} {M : Mem} {r : Nat} {v : Vw} {o : Nat → Int64} {x : Int32} {h : Nat} : ent g (setR M r (up2 v 13 h x)) o (2, r, h) = .inr (3, ([.int (v 12 h), .int (v 13 h), .int (v 14 h), .int (v 15 h)] : List Value).set 1 (.int x)) := by
  rw [e_2]
  simp [up2]
theorem p_2_2 {g : Gm} {M : Mem} {r : Nat} {v : Vw} {o : Nat → Int64} {x : Int32} {h : Nat} : ent g (setR M r (up2 v 14 h x)) o (2, r, h) = .inr (3, ([.int (v 12 h), .int (v 13 h), .int (v 14 h), .int (v 15 h)] : List Value).set 2 (.int x)) := by
  rw [e_2]
  simp [up2]
theorem p_2_3 {g : Gm} {M : Mem} {r : Nat} {v : Vw} {o : Nat → Int64} {x : Int32} {h : Nat} : ent g (setR M r (up2 v 15 h x)) o (2, r, h) = .inr (3, ([.int (v 12 h), .int (v 13 h), .int (v 14 h), .int (v 15 h)] : List Value).set 3 (.int x)) := by
  rw [e_2]
  simp [up2]
theorem e_3 {g : Gm} {M : Mem} {r : Nat} {v : Vw} {o : Nat → Int64} : ent g (setR M r v) o (3, r, 0) = .inr (1, [.ref (ad g (4, r, 0)), .ref (ad g (4, r, 1)), .ref (ad g (4, r, 2)), .ref (ad g (5, r, 0)), .ref (ad g (6, r, 0)), .ref (ad g (7, r, 0)), .int (v 16 0), .int (v 16 1), .int (v 16 2), .int (v 16 3), .int (v 16 4)]) := by
  show Sum.inr _ = _
  simp only [setR_same]
theorem f_3 {g : Gm} {M : Mem} {o : Nat → Int64} {r : Nat} : ent g M o (3, r, 0) = .inr (1, [.ref (ad g (4, r, 0)), .ref (ad g (4, r, 1)), .ref (ad g (4, r, 2)), .ref (ad g (5, r, 0)), .ref (ad g (6, r, 0)), .ref (ad g (7, r, 0)), .int (M r 16 0), .int (M r 16 1), .int (M r 16 2), .int (M r 16 3), .int (M r 16 4)]) := rfl
theorem p_3_6 {g : Gm} {M : Mem} {r : Nat} {v : Vw} {o : Nat → Int64} {x : Int32} : ent g (setR M r (up2 v 16 0 x)) o (3, r, 0) = .inr (1, ([.ref (ad g (4, r, 0)), .ref (ad g (4, r, 1)), .ref (ad g (4, r, 2)), .ref (ad g (5, r, 0)), .ref (ad g (6, r, 0)), .ref (ad g (7, r, 0)), .int (v 16 0), .int (v 16 1), .int (v 16 2), .int (v 16 3), .int (v 16 4)] : List Value).set 6 (.int x)) := by
  rw [e_3]
  simp [up2]
theorem p_3_7 {g : Gm} {M : Mem} {r : Nat} {v : Vw} {o : Nat → Int64} {x : Int32} : ent g (setR M r (up2 v 16 1 x)) o (3, r, 0) = .inr (1, ([.ref (ad g (4, r, 0)), .ref (ad g (4, r, 1)), .ref (ad g (4, r, 2)), .ref (ad g (5, r, 0)), .ref (ad g (6, r, 0)), .ref (ad g (7, r, 0)), .int (v 16 0), .int (v 16 1), .int (v 16 2), .int (v 16 3), .int (v 16 4)] : List Value).set 7 (.int x)) := by
  rw [e_3]
  simp [up2]
theorem p_3_8 {g : Gm} {M : Mem} {r : Nat} {v : Vw} {o : Nat → Int64} {x : Int32} : ent g (setR M r (up2 v 16 2 x)) o (3, r, 0) = .inr (1, ([.ref (ad g (4, r, 0)), .ref (ad g (4, r, 1)), .ref (ad g (4, r, 2)), .ref (ad g (5, r, 0)), .ref (ad g (6, r, 0)), .ref (ad g (7, r, 0)), .int (v 16 0), .int (v 16 1), .int (v 16 2), .int (v 16 3), .int (v 16 4)] : List Value).set 8 (.int x)) := by
  rw [e_3]
  simp [up2]
theorem p_3_9 {g : Gm} {M : Mem} {r : Nat} {v : Vw} {o : Nat → Int64} {x : Int32} : ent g (setR M r (up2 v 16 3 x)) o (3, r, 0) = .inr (1, ([.ref (ad g (4, r, 0)), .ref (ad g (4, r, 1)), .ref (ad g (4, r, 2)), .ref (ad g (5, r, 0)), .ref (ad g (6, r, 0)), .ref (ad g (7, r, 0)), .int (v 16 0), .int (v 16 1), .int (v 16 2), .int (v 16 3), .int (v 16 4)] : List Value).set 9 (.int x)) := by
  rw [e_3]
  simp [up2]
theorem p_3_10 {g : Gm} {M : Mem} {r : Nat} {v : Vw} {o : Nat → Int64} {x : Int32} : ent g (setR M r (up2 v 16 4 x)) o (3, r, 0) = .inr (1, ([.ref (ad g (4, r, 0)), .ref (ad g (4, r, 1)), .ref (ad g (4, r, 2)), .ref (ad g (5, r, 0)), .ref (ad g (6, r, 0)), .ref (ad g (7, r, 0)), .int (v 16 0), .int (v 16 1), .int (v 16 2), .int (v 16 3), .int (v 16 4)] : List Value).set 10 (.int x)) := by
  rw [e_3]
  simp [up2]
theorem e_20 {g : Gm} {M : Mem} {v : Vw} {o : Nat → Int64} : ent g (setR M 2 v) o (20, 0, 0) = .inr (5, [.ref (ad g (26, 0, 0)), .ref (ad g (26, 1, 0)), .ref (ad g (22, 0, 0)), .ref (ad g (27, 0, 0)), .ref (ad g (28, 2, 0)), .ref (ad g (29, 2, 0)), .int (v 16 4), .int (v 16 3)]) := by
  show Sum.inr _ = _
  simp only [setR_same]
theorem f_20 {g : Gm} {M : Mem} {o : Nat → Int64} : ent g M o (20, 0, 0) = .inr (5, [.ref (ad g (26, 0, 0)), .ref (ad g (26, 1, 0)), .ref (ad g (22, 0, 0)), .ref (ad g (27, 0, 0)), .ref (ad g (28, 2, 0)), .ref (ad g (29, 2, 0)), .int (M 2 16 4), .int (M 2 16 3)]) := rfl
theorem p_20_6 {g : Gm} {M : Mem} {v : Vw} {o : Nat → Int64} {x : Int32} : ent g (setR M 2 (up2 v 16 4 x)) o (20, 0, 0) = .inr (5, ([.ref (ad g (26, 0, 0)), .ref (ad g (26, 1, 0)), .ref (ad g (22, 0, 0)), .ref (ad g (27, 0, 0)), .ref (ad g (28, 2, 0)), .ref (ad g (29, 2, 0)), .int (v 16 4), .int (v 16 3)] : List Value).set 6 (.int x)) := by
  rw [e_20]
  simp [up2]
theorem p_20_7 {g : Gm} {M : Mem} {v : Vw} {o : Nat → Int64} {x : Int32} : ent g (setR M 2 (up2 v 16 3 x)) o (20, 0, 0) = .inr (5, ([.ref (ad g (26, 0, 0)), .ref (ad g (26, 1, 0)), .ref (ad g (22, 0, 0)), .ref (ad g (27, 0, 0)), .ref (ad g (28, 2, 0)), .ref (ad g (29, 2, 0)), .int (v 16 4), .int (v 16 3)] : List Value).set 7 (.int x)) := by
  rw [e_20]
  simp [up2]
theorem kf_0 {r h c : Nat} (hr : r < 2) (h1 : 3 ≤ c) (h2 : c < 6) : keyOf r c h = (0, r, h) := by
  unfold keyOf
  rw [if_pos hr, if_neg (by omega), if_pos h1, if_pos h2]
theorem kf_1 {r h c : Nat} (hr : r < 2) (h1 : 6 ≤ c) (h2 : c < 12) : keyOf r c h = (1, r, h) := by
  unfold keyOf
  rw [if_pos hr, if_neg (by omega), if_pos (by omega), if_neg (by omega), if_pos h2]
theorem kf_2 {r h c : Nat} (hr : r < 2) (h1 : 12 ≤ c) (h2 : c < 16) : keyOf r c h = (2, r, h) := by
  unfold keyOf
  rw [if_pos hr, if_neg (by omega), if_pos (by omega), if_neg (by omega), if_neg (by omega)]
theorem kf_3 {r i : Nat} (hr : r < 2) : keyOf r 16 i = (3, r, 0) := by
  unfold keyOf
  rw [if_pos hr, if_pos rfl]
theorem kf_4 {r c i : Nat} (hr : r < 2) (hc : c < 3) : keyOf r c i = (4, r, c) := by
  unfold keyOf
  rw [if_pos hr, if_neg (by omega), if_neg (by omega)]
theorem kf_20 {i : Nat} (hi : 3 ≤ i) : keyOf 2 16 i = (20, 0, 0) := by
  unfold keyOf
  rw [if_neg (by decide), if_pos rfl, if_pos rfl, if_neg (by omega), if_neg (by omega), if_neg (by omega)]
theorem kf_21 {c i x : Nat} (hc : c < 2) (h : i % 9 = x) : keyOf 2 c i = (21, c, x) := by
  subst h
  unfold keyOf
  rw [if_neg (by decide), if_pos rfl, if_neg (by omega), if_pos hc]
theorem kf_22 {i : Nat} : keyOf 2 2 i = (22, 0, 0) := rfl
theorem kf_23 {c h : Nat} (h1 : 3 ≤ c) (h2 : c < 6) : keyOf 2 c h = (23, 0, h) := by
  unfold keyOf
  rw [if_neg (by decide), if_pos rfl, if_neg (by omega), if_neg (by omega), if_neg (by omega), if_pos h2]
theorem kf_24 {r c h : Nat} (hr : r = 2 ∨ r = 3) (h1 : 6 ≤ c) (h2 : c < 12) : keyOf r c h = (24, r, h) := by
  unfold keyOf
  rcases hr with rfl | rfl
  · rw [if_neg (by decide), if_pos rfl, if_neg (by omega), if_neg (by omega), if_neg (by omega), if_neg (by omega), if_pos h2]
  · rw [if_neg (by decide), if_neg (by decide), if_neg (by omega), if_neg (by omega), if_pos h2]
theorem kf_25 {r c h : Nat} (hr : r = 2 ∨ r = 3) (h1 : 12 ≤ c) (h2 : c < 16) : keyOf r c h = (25, r, h) := by
  unfold keyOf
  rcases hr with rfl | rfl
  · rw [if_neg (by decide), if_pos rfl, if_neg (by omega), if_neg (by omega), if_neg (by omega), if_neg (by omega), if_neg (by omega)]
  · rw [if_neg (by decide), if_neg (by decide), if_neg (by omega), if_neg (by omega), if_neg (by omega)]
theorem kf_30 {c i : Nat} (hc : c < 6) : keyOf 3 c i = (30, c, 0) := by
  unfold keyOf
  rw [if_neg (by decide), if_neg (by decide), if_neg (by omega), if_pos hc]
theorem e_4 {g : Gm} {M : Mem} {r c : Nat} {v : Vw} {o : Nat → Int64} : ent g (setR M r v) o (4, r, c) = .inl (gC g 0, alen c, .inl (v c)) := by
  show Sum.inl _ = _
  simp only [setR_same]
theorem p_4 {g : Gm} {M : Mem} {r c i : Nat} {v : Vw} {o : Nat → Int64} {x : Int32} : ent g (setR M r (up2 v c i x)) o (4, r, c) = .inl (gC g 0, alen c, .inl (upd (v c) i x)) := by
  rw [e_4, up2_upd]
theorem f_4 {g : Gm} {M : Mem} {r c : Nat} {o : Nat → Int64} : ent g M o (4, r, c) = .inl (gC g 0, alen c, .inl (M r c)) := rfl
theorem f_5 {g : Gm} {M : Mem} {r : Nat} {o : Nat → Int64} : ent g M o (5, r, 0) = .inl (gC g 1, 12, .inr (.inr (.inr (.inr (fun i => some (ad g (0, r, i))))))) := rfl
theorem f_6 {g : Gm} {M : Mem} {r : Nat} {o : Nat → Int64} : ent g M o (6, r, 0) = .inl (gC g 2, 8, .inr (.inr (.inr (.inr (fun i => some (ad g (1, r, i))))))) := rfl
theorem f_7 {g : Gm} {M : Mem} {r : Nat} {o : Nat → Int64} : ent g M o (7, r, 0) = .inl (gC g 3, 3, .inr (.inr (.inr (.inr (fun i => some (ad g (2, r, i))))))) := rfl
theorem f_8 {g : Gm} {M : Mem} {o : Nat → Int64} : ent g M o (8, 0, 0) = .inr (4, [.ref (ad g (3, 0, 0)), .ref (ad g (3, 1, 0))]) := rfl
/-- the law's own arrays: as they are, and with one number written -/
theorem rG_up {v : Vw} {c x y : Nat} {z : Int32} (hx : x < 9) : rG (up2 v c (9 * y + x) z) c x = upd (rG v c x) y z := by
  funext j
  unfold rG up2 upd
  by_cases h : j = y
  · subst h; simp
  · rw [if_neg (fun q => h (by omega)), if_neg h]
theorem rH_up {v : Vw} {h j : Nat} {z : Int32} (hj : j < 3) : rH (up2 v (3 + j) h z) h = upd (rH v h) j z := by
  have : j = 0 ∨ j = 1 ∨ j = 2 := by omega
  funext q
  rcases this with rfl | rfl | rfl <;> rcases q with _ | _ | _ | q <;> simp [rH, up2, upd]
theorem rS_up {v : Vw} {h j : Nat} {z : Int32} (hj : j < 6) : rS (up2 v (6 + j) h z) h = upd (rS v h) j z := by
  have : j = 0 ∨ j = 1 ∨ j = 2 ∨ j = 3 ∨ j = 4 ∨ j = 5 := by omega
  funext q
  rcases this with rfl | rfl | rfl | rfl | rfl | rfl <;> rcases q with _ | _ | _ | _ | _ | _ | q <;> simp [rS, up2, upd]
theorem rW_up {v : Vw} {h j : Nat} {z : Int32} (hj : j < 4) : rW (up2 v (12 + j) h z) h = upd (rW v h) j z := by
  have : j = 0 ∨ j = 1 ∨ j = 2 ∨ j = 3 := by omega
  funext q
  rcases this with rfl | rfl | rfl | rfl <;> rcases q with _ | _ | _ | _ | q <;> simp [rW, up2, upd]
theorem e_21 {g : Gm} {M : Mem} {v : Vw} {o : Nat → Int64} {c x : Nat} : ent g (setR M 2 v) o (21, c, x) = .inl (gC g 0, 9, .inl (rG v c x)) := by
  show Sum.inl _ = _
  simp only [setR_same]
theorem p_21 {g : Gm} {M : Mem} {v : Vw} {o : Nat → Int64} {c x y : Nat} {z : Int32} (hx : x < 9) : ent g (setR M 2 (up2 v c (9 * y + x) z)) o (21, c, x) = .inl (gC g 0, 9, .inl (upd (rG v c x) y z)) := by rw [e_21, rG_up hx]
theorem e_22 {g : Gm} {M : Mem} {v : Vw} {o : Nat → Int64} : ent g (setR M 2 v) o (22, 0, 0) = .inl (gC g 0, 7, .inl (v 2)) := by
  show Sum.inl _ = _
  simp only [setR_same]
theorem p_22 {g : Gm} {M : Mem} {v : Vw} {o : Nat → Int64} {y : Nat} {z : Int32} : ent g (setR M 2 (up2 v 2 y z)) o (22, 0, 0) = .inl (gC g 0, 7, .inl (upd (v 2) y z)) := by rw [e_22, up2_upd]
theorem e_23 {g : Gm} {M : Mem} {v : Vw} {o : Nat → Int64} {h : Nat} : ent g (setR M 2 v) o (23, 0, h) = .inl (gC g 0, 3, .inl (rH v h)) := by
  show Sum.inl _ = _
  simp only [setR_same]
theorem p_23 {g : Gm} {M : Mem} {v : Vw} {o : Nat → Int64} {h : Nat} (j : Nat) {z : Int32} (hj : j < 3) : ent g (setR M 2 (up2 v (3 + j) h z)) o (23, 0, h) = .inl (gC g 0, 3, .inl (upd (rH v h) j z)) := by rw [e_23, rH_up hj]
theorem e_24 {g : Gm} {M : Mem} {r : Nat} {v : Vw} {o : Nat → Int64} {h : Nat} : ent g (setR M r v) o (24, r, h) = .inl (gC g 0, 6, .inl (rS v h)) := by
  show Sum.inl _ = _
  simp only [setR_same]
theorem p_24 {g : Gm} {M : Mem} {r : Nat} {v : Vw} {o : Nat → Int64} {h : Nat} (j : Nat) {z : Int32} (hj : j < 6) : ent g (setR M r (up2 v (6 + j) h z)) o (24, r, h) = .inl (gC g 0, 6, .inl (upd (rS v h) j z)) := by rw [e_24, rS_up hj]
theorem e_25 {g : Gm} {M : Mem} {r : Nat} {v : Vw} {o : Nat → Int64} {h : Nat} : ent g (setR M r v) o (25, r, h) = .inl (gC g 0, 4, .inl (rW v h)) := by
  show Sum.inl _ = _
  simp only [setR_same]
theorem p_25 {g : Gm} {M : Mem} {r : Nat} {v : Vw} {o : Nat → Int64} {h : Nat} (j : Nat) {z : Int32} (hj : j < 4) : ent g (setR M r (up2 v (12 + j) h z)) o (25, r, h) = .inl (gC g 0, 4, .inl (upd (rW v h) j z)) := by rw [e_25, rW_up hj]
theorem f_26 {g : Gm} {M : Mem} {o : Nat → Int64} {c : Nat} : ent g M o (26, c, 0) = .inl (gC g 4, 9, .inr (.inr (.inr (.inr (fun i => some (ad g (21, c, i))))))) := rfl
theorem e_27 {g : Gm} {M : Mem} {v : Vw} {o : Nat → Int64} : ent g (setR M 2 v) o (27, 0, 0) = .inl (gC g 4, nH v, .inr (.inr (.inr (.inr (fun i => some (ad g (23, 0, i))))))) := by
  show Sum.inl _ = _
  simp only [setR_same]
  rfl
theorem e_28 {g : Gm} {M : Mem} {r : Nat} {v : Vw} {o : Nat → Int64} : ent g (setR M r v) o (28, r, 0) = .inl (gC g 4, nS v, .inr (.inr (.inr (.inr (fun i => some (ad g (24, r, i))))))) := by
  show Sum.inl _ = _
  simp only [setR_same]
  rfl
theorem e_29 {g : Gm} {M : Mem} {r : Nat} {v : Vw} {o : Nat → Int64} : ent g (setR M r v) o (29, r, 0) = .inl (gC g 4, nW v, .inr (.inr (.inr (.inr (fun i => some (ad g (25, r, i))))))) := by
  show Sum.inl _ = _
  simp only [setR_same]
  rfl
theorem e_30 {g : Gm} {M : Mem} {v : Vw} {o : Nat → Int64} {c : Nat} : ent g (setR M 3 v) o (30, c, 0) = .inl (gC g 0, tl v c, .inl (v c)) := by
  show Sum.inl _ = _
  simp only [setR_same]
theorem p_30 {g : Gm} {M : Mem} {v : Vw} {o : Nat → Int64} {c i : Nat} {x : Int32} (hc : c < 6) : ent g (setR M 3 (up2 v c i x)) o (30, c, 0) = .inl (gC g 0, tl v c, .inl (upd (v c) i x)) := by
  rw [e_30, up2_upd, tl_congr (v := v) (fun _ => up2_c (by omega)) (fun _ => up2_c (by omega))]

