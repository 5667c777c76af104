/-! New cells among the law's own. -/
/-- which cells a cell refers to -/
def rfs (M : Mem) (k j : Key) : Prop := match k.1 with
  | 3 => j.1 = 4 ∨ j.1 = 5 ∨ j.1 = 6 ∨ j.1 = 7
  | 5 => j.1 = 0
  | 6 => j.1 = 1
  | 7 => j.1 = 2
  | 8 => j.1 = 3
  | 20 => j = (26, 0, 0) ∨ j = (26, 1, 0) ∨ j = (22, 0, 0) ∨ j = (27, 0, 0) ∨ j = (28, 2, 0) ∨ j = (29, 2, 0)
  | 26 => j.1 = 21
  | 27 => ∃ i, i < nH (M 2) ∧ j = (23, 0, i)
  | 28 => ∃ i, i < nS (M k.2.1) ∧ j = (24, k.2.1, i)
  | 29 => ∃ i, i < nW (M k.2.1) ∧ j = (25, k.2.1, i)
  | _ => False
theorem refs_eq {cA : ClassId} {n : Nat} {f f' : Nat → Nat} (h : ∀ i, i < n → f' i = f i) : vp_cell cA (refs n f') = vp_cell cA (refs n f) := by
  unfold refs
  rw [vp_cell_q, vp_cell_q]
  refine arrV_eq fun j hj => ?_
  show va_rf (some (f' j)) = va_rf (some (f j))
  rw [h j hj]
/-- the same cell, though the address map or numbers that it doesn't hold moved -/
theorem ent_re {g g' : Gm} (hC : g'.1 = g.1) {M M' : Mem} {o : Nat → Int64} {k : Key} (hk : KK g k) (hd : ∀ r c i, dep k r c i → M' r c i = M r c i) (hr : ∀ j, rfs M k j → ad g' j = ad g j) {x : Nat} {H : Heap} (h : va_at (gD g) cls7 (x, ent g M o k) H) : va_at (gD g') cls7 (x, ent g' M' o k) H := by
  rw [← ent_congr (M' := M') (M := M) hk hd] at h
  have hd2 : nH (M' 2) = nH (M 2) ∨ k.1 ≠ 27 := by
    by_cases q : k.1 = 27
    · left
      unfold nH
      rw [hd 2 16 0 (by unfold dep; rw [q]; exact ⟨rfl, rfl, rfl⟩)]
    · exact Or.inr q
  have e1 : gD g' = gD g := by unfold gD; rw [hC]
  have e2 : gC g' = gC g := by unfold gC; rw [hC]
  rw [e1]
  obtain ⟨t, a, b⟩ := k
  have ht := KK_tag hk
  have ht : t < 9 ∨ (20 ≤ t ∧ t < 31) := ht
  have ht : t = 0 ∨ t = 1 ∨ t = 2 ∨ t = 3 ∨ t = 4 ∨ t = 5 ∨ t = 6 ∨ t = 7 ∨ t = 8 ∨ t = 20 ∨ t = 21 ∨ t = 22 ∨ t = 23 ∨ t = 24 ∨ t = 25 ∨ t = 26 ∨ t = 27 ∨ t = 28 ∨ t = 29 ∨ t = 30 := by omega
  rcases ht with rfl | rfl | rfl | rfl | rfl | rfl | rfl | rfl | rfl | rfl | rfl | rfl | rfl | rfl | rfl | rfl | rfl | rfl | rfl | rfl <;> simp only [rfs] at hr <;> simp only [dep] at hd <;> simp only [ent] at h ⊢
  · exact h
  · exact h
  · exact h
  · rw [hr (4, a, 0) (Or.inl rfl), hr (4, a, 1) (Or.inl rfl), hr (4, a, 2) (Or.inl rfl), hr (5, a, 0) (Or.inr (Or.inl rfl)), hr (6, a, 0) (Or.inr (Or.inr (Or.inl rfl))), hr (7, a, 0) (Or.inr (Or.inr (Or.inr rfl)))]
    exact h
  · rw [e2]; exact h
  · rw [e2, show (fun i => some (ad g' (0, a, i))) = fun i => some (ad g (0, a, i)) from funext fun i => by rw [hr (0, a, i) rfl]]; exact h
  · rw [e2, show (fun i => some (ad g' (1, a, i))) = fun i => some (ad g (1, a, i)) from funext fun i => by rw [hr (1, a, i) rfl]]; exact h
  · rw [e2, show (fun i => some (ad g' (2, a, i))) = fun i => some (ad g (2, a, i)) from funext fun i => by rw [hr (2, a, i) rfl]]; exact h
  · rw [hr (3, 0, 0) rfl, hr (3, 1, 0) rfl]; exact h
  · rw [hr (26, 0, 0) (Or.inl rfl), hr (26, 1, 0) (Or.inr (Or.inl rfl)), hr (22, 0, 0) (Or.inr (Or.inr (Or.inl rfl))), hr (27, 0, 0) (Or.inr (Or.inr (Or.inr (Or.inl rfl)))), hr (28, 2, 0) (Or.inr (Or.inr (Or.inr (Or.inr (Or.inl rfl))))), hr (29, 2, 0) (Or.inr (Or.inr (Or.inr (Or.inr (Or.inr rfl)))))]; exact h
  · rw [e2]; exact h
  · rw [e2]; exact h
  · rw [e2]; exact h
  · rw [e2]; exact h
  · rw [e2]; exact h
  · rw [e2, show (fun i => ad g' (21, a, i)) = fun i => ad g (21, a, i) from funext fun i => hr (21, a, i) rfl]; exact h
  · have q : nH (M' 2) = nH (M 2) := hd2.resolve_right (fun z => z rfl)
    rw [e2]
    show H[x]? = some (vp_cell _ _)
    rw [refs_eq (f := fun i => ad g (23, 0, i)) (fun i hi => hr (23, 0, i) ⟨i, by rw [← q]; exact hi, rfl⟩)]
    exact h
  · have q : nS (M' a) = nS (M a) := by unfold nS; rw [hd a 16 1 ⟨rfl, rfl, rfl⟩]
    rw [e2]
    show H[x]? = some (vp_cell _ _)
    rw [refs_eq (f := fun i => ad g (24, a, i)) (fun i hi => hr (24, a, i) ⟨i, by rw [← q]; exact hi, rfl⟩)]
    exact h
  · have q : nW (M' a) = nW (M a) := by unfold nW; rw [hd a 16 2 ⟨rfl, rfl, rfl⟩]
    rw [e2]
    show H[x]? = some (vp_cell _ _)
    rw [refs_eq (f := fun i => ad g (25, a, i)) (fun i hi => hr (25, a, i) ⟨i, by rw [← q]; exact hi, rfl⟩)]
    exact h
  · rw [e2]; exact h
/-- new cells NK beside the old ones -/
theorem grow {g g' : Gm} {M M' : Mem} {o : Nat → Int64} {H H1 : Heap} (NK : Key → Prop) (e1 : g'.1 = g.1) (e2 : bs g' = bs g) (hK : ∀ k, KK g' k → ¬ NK k → KK g k ∧ ad g' k = ad g k) (hn : ∀ k, KK g' k → NK k → H.size ≤ ad g' k ∧ va_at (gD g) cls7 (ad g' k, ent g' M' o k) H1) (hj : ∀ j k, NK j → NK k → KK g' j → KK g' k → ad g' j = ad g' k → j = k)
    (hd : ∀ k, KK g k → ¬ NK k → ∀ r c i, dep k r c i → M' r c i = M r c i) (hr : ∀ k j, KK g k → ¬ NK k → rfs M k j → ad g' j = ad g j) (o1 : ∀ q, q < H.size → H1[q]? = H[q]?) (hP : WP g M o H) (hI : IJ g (KK g)) (hb : bs g ≤ H.size) : WP g' M' o H1 ∧ IJ g' (KK g') := by
  have e3 : gD g' = gD g := by unfold gD; rw [e1]
  have old : ∀ k, KK g' k → ¬ NK k → ad g' k < H.size := fun k hk hz => by
    rw [(hK k hk hz).2]
    exact (hP k (hK k hk hz).1).lt
  refine ⟨fun k hk => ?_, fun j k h1 h2 e => ?_, fun k hk => ?_⟩
  · by_cases hz : NK k
    · rw [e3]; exact (hn k hk hz).2
    · obtain ⟨q1, q2⟩ := hK k hk hz
      refine va_at.kept (H := H) ?_ (o1 _ (old k hk hz))
      rw [q2]
      exact ent_re e1 q1 (hd k q1 hz) (fun j q => hr k j q1 hz q) (hP k q1)
  · by_cases z1 : NK j
    · by_cases z2 : NK k
      · exact hj j k z1 z2 h1 h2 e
      · have := old k h2 z2
        have := (hn j h1 z1).1
        omega
    · by_cases z2 : NK k
      · have := old j h1 z1
        have := (hn k h2 z2).1
        omega
      · exact hI.1 j k (hK j h1 z1).1 (hK k h2 z2).1 (by rw [← (hK j h1 z1).2, ← (hK k h2 z2).2]; exact e)
  · rw [e2]
    by_cases hz : NK k
    · exact Nat.le_trans hb (hn k hk hz).1
    · rw [(hK k hk hz).2]
      exact hI.2 k (hK k hk hz).1
theorem Ev.to {g g' : Gm} {s : State} (h : Ev g s) (e1 : g'.1 = g.1) (e2 : bs g' = bs g) : Ev g' s := by
  obtain ⟨⟨D, G⟩, a, b, lk'⟩ := g
  obtain ⟨⟨D', G'⟩, a', b', lk''⟩ := g'
  cases e1
  cases e2
  exact h
