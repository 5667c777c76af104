/-! What a copy holds; the lake and the reference's state side by side. -/
theorem up2_e {s w : Vw} {a b c i : Nat} : up2 w a b (s a b) c i = if c = a ∧ i = b then s c i else w c i := by
  unfold up2
  by_cases h : c = a ∧ i = b
  · rw [if_pos h, if_pos h, h.1, h.2]
  · rw [if_neg h, if_neg h]
theorem blk {s : Vw} {f : Nat → Vw → Vw} {lo hi : Nat} (h : ∀ k u c i, f k u c i = if lo ≤ c ∧ c < hi ∧ i = k then s c i else u c i) : ∀ (n : Nat) (v : Vw) (c i : Nat), it f n v c i = if lo ≤ c ∧ c < hi ∧ i < n then s c i else v c i
  | 0, v, c, i => by rw [if_neg (by omega)]; rfl
  | n + 1, v, c, i => by
    rw [it_s, h, blk h n v c i]
    by_cases h1 : lo ≤ c ∧ c < hi ∧ i = n
    · rw [if_pos h1, if_pos ⟨h1.1, h1.2.1, by omega⟩]
    · rw [if_neg h1]
      by_cases h2 : lo ≤ c ∧ c < hi ∧ i < n
      · rw [if_pos h2, if_pos ⟨h2.1, h2.2.1, by omega⟩]
      · rw [if_neg h2, if_neg (by omega)]
theorem ite_or {p q : Prop} [Decidable p] [Decidable q] {α : Type} {a b : α} : (if p then a else if q then a else b) = if p ∨ q then a else b := by
  by_cases h : p
  · rw [if_pos h, if_pos (Or.inl h)]
  · by_cases h2 : q
    · rw [if_neg h, if_pos h2, if_pos (Or.inr h2)]
    · rw [if_neg h, if_neg h2, if_neg (fun z => z.elim h h2)]
theorem ite_iff {p q : Prop} [Decidable p] [Decidable q] {α : Type} {a b : α} (h : p ↔ q) : (if p then a else b) = if q then a else b := by
  by_cases h1 : p
  · rw [if_pos h1, if_pos (h.mp h1)]
  · rw [if_neg h1, if_neg (fun z => h1 (h.mpr z))]
theorem b1_c {s u : Vw} {k c i : Nat} : b1 s k u c i = if 0 ≤ c ∧ c < 2 ∧ i = k then s c i else u c i := by
  unfold b1; rw [up2_e, up2_e, ite_or]; exact ite_iff (by omega)
theorem b2_c {s u : Vw} {k c i : Nat} : b2 s k u c i = if 2 ≤ c ∧ c < 3 ∧ i = k then s c i else u c i := by
  unfold b2; rw [up2_e]; exact ite_iff (by omega)
theorem b3_c {s u : Vw} {k c i : Nat} : b3 s k u c i = if 3 ≤ c ∧ c < 6 ∧ i = k then s c i else u c i := by
  unfold b3; rw [up2_e, up2_e, up2_e, ite_or, ite_or]; exact ite_iff (by omega)
theorem b4_c {s u : Vw} {k c i : Nat} : b4 s k u c i = if 6 ≤ c ∧ c < 12 ∧ i = k then s c i else u c i := by
  unfold b4; rw [up2_e, up2_e, up2_e, up2_e, up2_e, up2_e, ite_or, ite_or, ite_or, ite_or, ite_or]; exact ite_iff (by omega)
theorem b5_c {s u : Vw} {k c i : Nat} : b5 s k u c i = if 12 ≤ c ∧ c < 16 ∧ i = k then s c i else u c i := by
  unfold b5; rw [up2_e, up2_e, up2_e, up2_e, ite_or, ite_or, ite_or]; exact ite_iff (by omega)
theorem bec_ag (s v : Vw) : Ag s (bec s v) := by
  intro c i h
  unfold bec bcC bcB bcA
  rw [up2_e, up2_e, blk (f := b5 s) (fun _ _ _ _ => b5_c), up2_e, blk (f := b4 s) (fun _ _ _ _ => b4_c), up2_e, blk (f := b3 s) (fun _ _ _ _ => b3_c), up2_e, blk (f := b2 s) (fun _ _ _ _ => b2_c), blk (f := b1 s) (fun _ _ _ _ => b1_c)]
  simp only [ite_or]
  exact if_pos (by unfold Rv at h; omega)
/-- the draft of the reference: what it holds itself from w, what is shared from v -/
def dft (v w : Vw) : Vw := fun c i => if pv c = true ∨ (c = 16 ∧ (i = 3 ∨ i = 4)) then w c i else v c i
theorem cpC_e {k n : Nat} {s v : Vw} {c i : Nat} : cpC k n s v c i = if c = k ∧ i < n then s c i else v c i := by
  unfold cpC va_cpy
  by_cases h : c = k
  · rw [if_pos h]
    by_cases h2 : i < n
    · rw [if_pos ⟨Nat.zero_le _, by omega⟩, if_pos ⟨h, h2⟩, h]; congr 1; omega
    · rw [if_neg (by omega), if_neg (fun q => h2 q.2), h]
  · rw [if_neg h, if_neg (fun q => h q.1)]
theorem bem_ag {v : Vw} (hv : Inv v) (w : Vw) : Ag v (bem v (dft v w)) := by
  intro c i h
  unfold bem
  rw [cpC_e, cpC_e, cpC_e, cpC_e, cpC_e, cpC_e, cpC_e, cpC_e, cpC_e, up2_e, up2_e]
  simp only [ite_or]
  unfold dft
  have e : ∀ x : Int32, (if pv c = true ∨ (c = 16 ∧ (i = 3 ∨ i = 4)) then x else v c i) = if ¬ (pv c = true ∨ (c = 16 ∧ (i = 3 ∨ i = 4))) then v c i else x := fun x => by split <;> simp_all
  rw [e, ite_or]
  refine if_pos ?_
  by_cases hp : pv c = true ∨ (c = 16 ∧ (i = 3 ∨ i = 4))
  · refine Or.inl ?_
    have l1 := hv.lH
    have l2 := hv.lS
    have l3 := hv.lW
    have hc : c ≤ 16 := by unfold Rv at h; omega
    have ha : ∀ k n, c = k → alen k = n → c = k ∧ i < n → c = k ∧ i < alen k := fun k n _ q z => by rw [q]; exact z
    rcases hp with hp | hp
    · have : c = 0 ∨ c = 1 ∨ c = 2 ∨ c = 3 ∨ c = 4 ∨ c = 5 ∨ c = 6 ∨ c = 7 ∨ c = 8 ∨ c = 9 ∨ c = 10 ∨ c = 11 ∨ c = 12 ∨ c = 13 ∨ c = 14 ∨ c = 15 ∨ c = 16 := by omega
      unfold Rv at h
      rcases this with rfl | rfl | rfl | rfl | rfl | rfl | rfl | rfl | rfl | rfl | rfl | rfl | rfl | rfl | rfl | rfl | rfl <;> first | (exact absurd hp (by decide)) | (simp [alen]; omega)
    · simp [hp.1]
      omega
  · exact Or.inr hp
theorem dft_sh {c i : Nat} (h : shc c i = true) : ¬ (pv c = true ∨ (c = 16 ∧ (i = 3 ∨ i = 4))) := by
  have z := sh_ne h
  rintro (q | q)
  · unfold pv at q
    split at q <;> first | (cases q; done) | skip
    all_goals (first | exact z.1 rfl | exact z.2.1 rfl | simp [shc] at h)
  · rw [q.1] at h
    have h : decide (i < 3) = true := h
    rw [decide_eq_true_eq] at h
    omega
theorem sh_dft {M : Mem} {v w : Vw} : Sh (setR M 2 v) 3 (dft v w) := by
  intro c i h
  rw [setR_ne _ _ (by decide), setR_same]
  unfold dft
  rw [if_neg (dft_sh h)]
theorem sh_bem {M : Mem} {v w : Vw} : Sh (setR M 2 v) 3 (bem v (dft v w)) := by
  refine sh_dft.of (v := dft v w) fun c i h => ?_
  unfold bem
  rw [cpC_e, cpC_e, cpC_e, cpC_e, cpC_e, cpC_e, cpC_e, cpC_e, cpC_e, up2_e, up2_e]
  simp only [ite_or]
  have z := dft_sh h
  refine if_neg (fun q => z ?_)
  by_cases h16 : c = 16
  · refine Or.inr ⟨h16, ?_⟩
    rw [h16] at q
    omega
  · left
    have : c = 0 ∨ c = 5 ∨ c = 8 ∨ c = 9 ∨ c = 10 ∨ c = 11 ∨ c = 12 ∨ c = 13 ∨ c = 15 := by omega
    rcases this with rfl | rfl | rfl | rfl | rfl | rfl | rfl | rfl | rfl <;> rfl
theorem dft_en {g : Gm} {M : Mem} {v : Vw} {o : Nat → Int64} : ∀ k, KK k → ent g (setR (setR M 2 v) 3 (dft v (M 3))) o k = ent g (setR M 2 v) o k := by
  intro k hk
  refine ent_congr fun r c i hd => ?_
  by_cases h : r = 3
  · subst h
    rw [setR_same, setR_ne _ _ (by decide)]
    unfold dft
    refine if_pos ?_
    obtain ⟨t, a, b⟩ := k
    unfold KK at hk
    unfold dep at hd
    split at hd <;> rename_i ht <;> simp only at ht hd hk <;> (try subst ht) <;> simp only at hk
    · omega
    · omega
    · omega
    · omega
    · left
      obtain ⟨rfl, rfl⟩ := hd
      rcases hk with q | q | q
      · omega
      · omega
      · exact q.2
    · right; omega
    · omega
  · rw [setR_ne _ _ h]
/-- nothing is left where nobody is -/
def Z0 (v : Vw) : Prop := (∀ k, nS v ≤ k → k < 8 → v 9 k = 0 ∧ v 10 k = 0 ∧ v 11 k = 0) ∧ ∀ w, nW v ≤ w → w < 3 → v 15 w = 0
def Z8 (v : Vw) : Prop := ∀ k, nS v ≤ k → k < 8 → v 8 k = -1
/-- the lake v and the reference's state w -/
def Rl (v w : Vw) : Prop := Inv v ∧ Ag v w ∧ Z8 v ∧ Z0 v ∧ Z0 w
theorem Rl.iv {v w : Vw} (h : Rl v w) : Inv v := h.1
theorem Rl.iw {v w : Vw} (h : Rl v w) : Inv w := h.2.1.inv h.1
theorem Rl.ag {v w : Vw} (h : Rl v w) : Ag v w := h.2.1
theorem day_16 {x : Vw} {i : Nat} (h : i < 3) : day x 16 i = x 16 i := by
  show nig (frz (breA (kepA (sen (spe (lam x)))))) 16 i = x 16 i
  unfold nig
  rw [up2_i (by omega), frz_ne (by decide) (by decide) (by omega), breA_ne (by decide), kepA_ne (by decide), sen_ne (by decide) (by decide) (by decide) (by decide) (by decide) (by decide), spe_ne (by decide) (by decide), lam_ne (by decide)]
theorem days_16 {v : Vw} {i : Nat} (h : i < 3) (n : Nat) : days n v 16 i = v 16 i := it_keep (f := fun _ => day) (fun _ _ => day_16 h) n v
theorem days_no {v : Vw} (hv : Inv v) (n : Nat) {c i : Nat} (h : ¬ Rv v c i) : days n v c i = v c i := by
  have e := days_pt (u := v) hv n
  rw [pt_self] at e
  rw [e]
  refine pt_no (fun q => h ((Rv_of ?_ ?_ ?_ c i).mp q))
  · unfold nH; rw [days_16 (by decide)]
  · unfold nS; rw [days_16 (by decide)]
  · unfold nW; rw [days_16 (by decide)]
theorem Rl.gD {v w : Vw} (h : Rl v w) (n : Nat) : Rl (days n v) (days n w) := by
  obtain ⟨a, b, c, d, e⟩ := h
  have s : ∀ x, nS (days n x) = nS x := fun x => by unfold nS; rw [days_16 (by decide)]
  have t : ∀ x, nW (days n x) = nW x := fun x => by unfold nW; rw [days_16 (by decide)]
  have f0 : ∀ x, Inv x → Z0 x → Z0 (days n x) := by
    intro x hx hf
    refine ⟨fun k h1 h2 => ?_, fun k h1 h2 => ?_⟩
    · have h1 : nS x ≤ k := by rw [← s x]; exact h1
      rw [days_no hx n (by unfold Rv; omega), days_no hx n (by unfold Rv; omega), days_no hx n (by unfold Rv; omega)]
      exact hf.1 k h1 h2
    · have h1 : nW x ≤ k := by rw [← t x]; exact h1
      rw [days_no hx n (by unfold Rv; omega)]
      exact hf.2 k h1 h2
  refine ⟨days_inv a n, b.gD a n, fun k h1 h2 => ?_, f0 v a d, f0 w (b.inv a) e⟩
  have h1 : nS v ≤ k := by rw [← s v]; exact h1
  rw [days_no a n (by unfold Rv; omega)]
  exact c k h1 h2
theorem isIn_0 {x M : Int32} {n : Nat} (hM : M.toInt = n) (h : isIn x 0 M = true) : ∃ j : Nat, j ≤ n ∧ x = nI j := by
  rw [isIn_iff] at h
  have h0 : (0 : Int32).toInt = 0 := by decide
  refine nI_of2 hM (fun q => ?_) (Int32.le_iff_toInt_le.mpr h.2)
  rw [Int32.lt_iff_toInt_lt] at q
  omega
theorem isIn_1 {x M : Int32} {n : Nat} (hM : M.toInt = n) (h : isIn x 1 M = true) : ∃ j : Nat, j ≤ n ∧ x = nI j := by
  refine isIn_0 hM ?_
  rw [isIn_iff] at h ⊢
  have h0 : (0 : Int32).toInt = 0 := by decide
  have h1 : (1 : Int32).toInt = 1 := by decide
  omega
theorem isCell_9 {x y : Int32} (h : isCell x y = true) : ∃ a b : Nat, a < 9 ∧ b < 9 ∧ x = nI a ∧ y = nI b := by
  unfold isCell at h
  rw [Bool.and_eq_true] at h
  obtain ⟨a, ha, rfl⟩ := isIn_0 (n := 8) (by decide) h.1
  obtain ⟨b, hb, rfl⟩ := isIn_0 (n := 8) (by decide) h.2
  exact ⟨a, b, by omega, by omega, rfl, rfl⟩
theorem isIn_cnt {x : Int32} {n : Nat} (hn : n ≤ 12) (h : isIn x 0 (nI n - 1) = true) : ∃ j : Nat, j < n ∧ x = nI j := by
  cases n with
  | zero =>
    rw [isIn_iff] at h
    have h0 : (0 : Int32).toInt = 0 := by decide
    have h1 : (nI 0 - 1).toInt = -1 := by decide
    omega
  | succ n =>
    rw [nI_p] at h
    obtain ⟨j, hj, e⟩ := isIn_0 (M := nI n) (n := n) (nI_toInt (by omega)) h
    exact ⟨j, by omega, e⟩
/-- numbers that no invariant speaks of -/
theorem Inv.free {v : Vw} (hv : Inv v) {c i : Nat} {x : Int32} (h : c = 1 ∨ c = 2 ∨ c = 14 ∨ c = 15 ∨ c = 10 ∨ c = 11) : Inv (up2 v c i x) := by
  have e : ∀ a j, a ≠ c → up2 v c i x a j = v a j := fun a j q => up2_c q
  exact hv.step (e _ _ (by omega)) (e _ _ (by omega)) (e _ _ (by omega)) (fun _ => e _ _ (by omega)) (fun _ => e _ _ (by omega)) (fun _ _ => Or.inl (e _ _ (by omega))) (fun _ => e _ _ (by omega)) (fun _ => e _ _ (by omega)) (fun _ _ => Or.inl (e _ _ (by omega))) (fun k hk => by rw [e _ _ (by omega)]; exact (hv.hS k hk).2.2.2) (fun w hw => ⟨by rw [e _ _ (by omega)]; exact (hv.hW w hw).1, by rw [e _ _ (by omega)]; exact (hv.hW w hw).2⟩) (fun a ha => by unfold IC; rw [e _ _ (by omega)]; exact hv.hC a ha)
/-- one number written where both hold it -/
theorem Rl.up {v w : Vw} (h : Rl v w) {c i : Nat} {x : Int32} (hc : c < 8 ∨ (c = 8 ∧ i < nS v)) (hi : Inv (up2 v c i x)) : Rl (up2 v c i x) (up2 w c i x) := by
  obtain ⟨a, b, d, e, f⟩ := h
  have f0 : ∀ y, Z0 y → Z0 (up2 y c i x) := by
    intro y hy
    refine ⟨fun k h1 h2 => ?_, fun k h1 h2 => ?_⟩
    · rw [nS_u (by omega)] at h1
      rw [up2_c (by omega), up2_c (by omega), up2_c (by omega)]
      exact hy.1 k h1 h2
    · rw [nW_u (by omega)] at h1
      rw [up2_c (by omega)]
      exact hy.2 k h1 h2
  refine ⟨hi, b.up (by omega) x, fun k h1 h2 => ?_, f0 v e, f0 w f⟩
  rw [nS_u (by omega)] at h1
  rcases hc with q | q
  · rw [up2_c (by omega)]; exact d k h1 h2
  · rw [up2_i (by omega)]; exact d k h1 h2
theorem Rl.gV {v w : Vw} (h : Rl v w) {x y : Nat} (hx : x < 9) (hy : y < 9) {a b : Int32} (ha : isIn a 0 60 = true) : Rl (setV v x y a b) (setV w x y a b) := by
  obtain ⟨j, hj, rfl⟩ := isIn_0 (n := 60) (by decide) ha
  have i1 : Inv (up2 v 0 (9 * y + x) (nI j)) := h.1.eels (fun c i q => up2_c q) (fun c hc => by
    unfold IC
    by_cases q : c = 9 * y + x
    · rw [q, up2_same]; exact ⟨j, hj, rfl⟩
    · rw [up2_i q]; exact h.1.hC c hc)
  exact (h.up (Or.inl (by decide)) i1).up (Or.inl (by decide)) (i1.free (by omega))
theorem Rl.gF {v w : Vw} (h : Rl v w) {n : Nat} {a : Int32} : Rl (up2 v 2 n a) (up2 w 2 n a) := h.up (Or.inl (by decide)) (h.1.free (by omega))
theorem Rl.gG {v w : Vw} (h : Rl v w) {k : Nat} (hk : k < nS v) {a : Int32} (ha : a = -1 ∨ ∃ j, j < nH v ∧ a = nI j) : Rl (up2 v 8 k a) (up2 w 8 k a) := by
  refine h.up (Or.inr ⟨rfl, hk⟩) ?_
  have hv := h.1
  have eH : nH (up2 v 8 k a) = nH v := nH_u (by omega)
  refine ⟨⟨by rw [eH, up2_c (by decide)]; exact hv.eH, by rw [eH]; exact hv.lH⟩, ⟨by rw [nS_u (by omega), up2_c (by decide)]; exact hv.eS, by rw [nS_u (by omega)]; exact hv.lS⟩, ⟨by rw [nW_u (by omega), up2_c (by decide)]; exact hv.eW, by rw [nW_u (by omega)]; exact hv.lW⟩, ?_, ?_, ?_, ?_⟩
  · intro i hi
    rw [eH] at hi
    unfold IH
    rw [up2_c (by decide), up2_c (by decide), up2_c (by decide)]
    exact hv.hH i hi
  · intro i hi
    rw [nS_u (by omega)] at hi
    obtain ⟨q1, q2, q3, q4⟩ := hv.hS i hi
    unfold IS
    rw [eH, up2_c (c' := 7) (by decide), up2_c (c' := 6) (by decide), up2_c (c' := 9) (by decide)]
    refine ⟨?_, q2, q3, q4⟩
    by_cases z : i = k
    · rw [z, up2_same]; exact ha
    · rw [up2_i z]; exact q1
  · intro i hi
    rw [nW_u (by omega)] at hi
    unfold IW
    rw [up2_c (by decide), up2_c (by decide)]
    exact hv.hW i hi
  · intro i hi
    unfold IC
    rw [up2_c (by decide)]
    exact hv.hC i hi
