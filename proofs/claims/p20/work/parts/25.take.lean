/-! Pictures that both sides use: taken over from the whole claim. -/
section MCP
variable {p : Program} {l : Launch} {e : Jvm.Env} {R : Room} {s : State} {m : MethodId} {args : Array Value} {below : List Frame} {meth : Method} {c : Code} {H : Heap} {locs : List Loc} {cells slots : Nat} {Q : State → Prop}
variable {cc : ByteArray} {nL pc : Nat} {ls : Array Slot} {rest : List Value} {own : String} {g : Gm} {K : Key → Prop} {en : Key → va_E}
theorem m_alen (hC : CallFix p m c cc nL s args LG own) (hE : Ev g s) (hP : WPe g K en H) {k : Key} (hk : K k) {n : Nat} {f : Nat → Int32} (he : en k = .inl (gC g 0, n, .inl f)) {v : Int32} (hv : nI n = v) (hdg : decode cc pc = .ok (.arraylength, 1))
    (kk : W p l e R s m args below meth c H locs cells slots Q (F0 m (pc + 1) ls (.int v :: rest))) : W p l e R s m args below meth c H locs cells slots Q (F0 m pc ls (.ref (ad g k) :: rest)) := by
  obtain ⟨hx1, hb, hml, hown, hG⟩ := hC
  exact va_alen (D := gD g) (ty := .int) (x := (n, .inl f)) hx1 hb hE.1 (hP.one hk) 0 0 (by rw [he]; rfl) rfl hv hdg kk
end MCP
def addSM (v : Vw) (p q : Int32) : Vw := up2 (up2 (up2 (up2 v 6 (nS v) p) 7 (nS v) q) 8 (nS v) (-1)) 16 1 (nI (nS v + 1))
def setV (v : Vw) (x y : Nat) (e m : Int32) : Vw := up2 (up2 v 0 (9 * y + x) e) 1 (9 * y + x) m
def setA (v : Vw) (x y : Nat) : Int32 := 10 * v 0 (9 * y + x) + v 1 (9 * y + x)
theorem frzH_eq (v : Vw) (C : Nat → Prop) [DecidablePred C] : ∀ (n : Nat) (c j : Nat), it (fun h u => if C h then up2 u 5 h 0 else u) n v c j = if c = 5 ∧ j < n ∧ C j then 0 else v c j
  | 0, c, j => by rw [if_neg (by omega)]; rfl
  | n + 1, c, j => by
    show (if C n then up2 (it (fun h u => if C h then up2 u 5 h 0 else u) n v) 5 n 0 else it (fun h u => if C h then up2 u 5 h 0 else u) n v) c j = _
    by_cases h0 : C n
    · rw [if_pos h0]
      show (if c = 5 ∧ j = n then (0 : Int32) else it (fun h u => if C h then up2 u 5 h 0 else u) n v c j) = _
      by_cases h1 : c = 5 ∧ j = n
      · rw [if_pos h1, if_pos ⟨h1.1, by omega, by rw [h1.2]; exact h0⟩]
      · rw [if_neg h1, frzH_eq v C n c j]
        by_cases h2 : c = 5 ∧ j < n ∧ C j
        · rw [if_pos h2, if_pos ⟨h2.1, by omega, h2.2.2⟩]
        · rw [if_neg h2, if_neg (fun q => h2 ⟨q.1, by have := q.2.1; have := fun z => h1 ⟨q.1, z⟩; omega, q.2.2⟩)]
    · rw [if_neg h0, frzH_eq v C n c j]
      by_cases h2 : c = 5 ∧ j < n ∧ C j
      · rw [if_pos h2, if_pos ⟨h2.1, by omega, h2.2.2⟩]
      · rw [if_neg h2, if_neg]
        rintro ⟨q1, q2, q3⟩
        rcases Nat.lt_or_ge j n with z | z
        · exact h2 ⟨q1, z, q3⟩
        · have : j = n := by omega
          subst this
          exact h0 q3
def fzH (v : Vw) (n : Nat) : Vw := it (fun h u => if iceN v < 5 ∨ (0 < frostN v ∧ spAt v (nI h) = 0) then up2 u 5 h 0 else u) n (up2 v 16 3 (iceN v))
def fzA (v : Vw) (n : Nat) : Vw := it (fun k u => up2 u 8 k (if iceN v < 5 then -1 else u 8 k)) n (fzH v (nH v))
theorem fzH_eq (v : Vw) (n c j : Nat) : fzH v n c j = if c = 5 ∧ j < n ∧ (iceN v < 5 ∨ (0 < frostN v ∧ spAt v (nI j) = 0)) then 0 else up2 v 16 3 (iceN v) c j := frzH_eq _ _ n c j
theorem fzA_eq (v : Vw) : ∀ (n c j : Nat), fzA v n c j = if c = 8 ∧ j < n ∧ iceN v < 5 then -1 else fzH v (nH v) c j
  | 0, c, j => by rw [if_neg (by omega)]; rfl
  | n + 1, c, j => by
    show (if c = 8 ∧ j = n then (if iceN v < 5 then (-1 : Int32) else fzA v n 8 n) else fzA v n c j) = _
    by_cases h1 : c = 8 ∧ j = n
    · rw [if_pos h1]
      by_cases h2 : iceN v < 5
      · rw [if_pos h2, if_pos ⟨h1.1, by omega, h2⟩]
      · rw [if_neg h2, if_neg (fun q => h2 q.2.2), fzA_eq v n, if_neg (fun q => h2 q.2.2), h1.1, h1.2]
    · rw [if_neg h1, fzA_eq v n]
      by_cases h2 : c = 8 ∧ j < n ∧ iceN v < 5
      · rw [if_pos h2, if_pos ⟨h2.1, by omega, h2.2.2⟩]
      · rw [if_neg h2, if_neg (fun q => h2 ⟨q.1, by have := q.2.1; have := fun z => h1 ⟨q.1, z⟩; omega, q.2.2⟩)]
theorem fz_m {v : Vw} : frz v = fzA v (nS v) := by
  funext c j
  rw [fzA_eq, fzH_eq]
  unfold frz up2
  by_cases h1 : c = 16 ∧ j = 3
  · rw [if_pos h1, if_neg (by omega), if_neg (by omega), if_pos h1]
  · rw [if_neg h1, if_neg h1]
    by_cases h2 : c = 5 ∧ j < nH v ∧ (iceN v < 5 ∨ (0 < frostN v ∧ spAt v (nI j) = 0))
    · rw [if_pos h2, if_neg (by omega), if_pos h2]
    · rw [if_neg h2, if_neg h2]
theorem fzH_inv {v : Vw} (hv : Inv v) (n : Nat) : Inv (fzH v n) := by
  have h2 := ice_inv hv (iceN v)
  have e : ∀ c i, c ≠ 5 → fzH v n c i = up2 v 16 3 (iceN v) c i := fun c i h => by rw [fzH_eq, if_neg (fun q => h q.1)]
  refine h2.step (e _ _ (by decide)) (e _ _ (by decide)) (e _ _ (by decide)) (fun _ => e _ _ (by decide)) (fun _ => e _ _ (by decide)) (fun i _ => ?_) (fun _ => e _ _ (by decide)) (fun _ => e _ _ (by decide)) (fun _ _ => Or.inl (e _ _ (by decide))) (fun k hk => by rw [e _ _ (by decide)]; exact (h2.hS k hk).2.2.2) (fun w hw => ⟨by rw [e _ _ (by decide)]; exact (h2.hW w hw).1, by rw [e _ _ (by decide)]; exact (h2.hW w hw).2⟩) (fun c hc => by unfold IC; rw [e _ _ (by decide)]; exact h2.hC c hc)
  rw [fzH_eq]
  split
  · exact Or.inr rfl
  · exact Or.inl rfl
theorem spAt_fzH {v : Vw} {n : Nat} {x : Int32} : spAt (fzH v n) x = spAt v x := spAt_congr (fun k => by rw [fzH_eq, if_neg (by omega)]; exact up2_c (by decide)) (by rw [fzH_eq, if_neg (by omega)]; exact up2_i (by decide)) x
theorem fzH_ice {v : Vw} {n : Nat} : fzH v n 16 3 = iceN v := by rw [fzH_eq, if_neg (by omega)]; exact up2_same _ _ _ _
theorem fzH_16 {v : Vw} {n i : Nat} (h : i ≠ 3) : fzH v n 16 i = v 16 i := by rw [fzH_eq, if_neg (by omega)]; exact up2_i h
theorem fzA_ice {v : Vw} {n : Nat} : fzA v n 16 3 = iceN v := by rw [fzA_eq, if_neg (by omega)]; exact fzH_ice
theorem fzA_16 {v : Vw} {n i : Nat} (h : i ≠ 3) : fzA v n 16 i = v 16 i := by rw [fzA_eq, if_neg (by omega)]; exact fzH_16 h
theorem not_bear {x : Int32} : b2i (bear x) = if x < 5 then 0 else 1 := by
  unfold bear b2i
  by_cases h : x < 5 <;> simp [h]
theorem movI_inv {w h : Nat} {v : Vw} (hh : h < nH v) (hv : Inv v) (n : Nat) : Inv (it (fun _ u => stp w h u) n v) ∧ nH (it (fun _ u => stp w h u) n v) = nH v ∧ nW (it (fun _ u => stp w h u) n v) = nW v := it_inv (N := n) (P := fun u => Inv u ∧ nH u = nH v ∧ nW u = nW v) (fun k u _ q => ⟨stp_inv (by rw [q.2.1]; exact hh) q.1, nH_stp.trans q.2.1, by rw [← q.2.2]; unfold nW; rw [stp_ne (by decide) (by decide)]⟩) n v (Nat.le_refl _) ⟨hv, rfl, rfl⟩
theorem up2_e {s w : Vw} {a b c i : Nat} : up2 w a b (s a b) c i = if c = a ∧ i = b then s c i else w c i := by
  unfold up2
  by_cases h : c = a ∧ i = b
  · rw [if_pos h, if_pos h, h.1, h.2]
  · rw [if_neg h, if_neg h]
theorem blk {s : Vw} {f : Nat → Vw → Vw} {lo hi : Nat} (h : ∀ k u c i, f k u c i = if lo ≤ c ∧ c < hi ∧ i = k then s c i else u c i) : ∀ (n : Nat) (v : Vw) (c i : Nat), it f n v c i = if lo ≤ c ∧ c < hi ∧ i < n then s c i else v c i
  | 0, v, c, i => by rw [if_neg (by omega)]; rfl
  | n + 1, v, c, i => by
    rw [it_s, h, blk h n v c i]
    by_cases h1 : lo ≤ c ∧ c < hi ∧ i = n
    · rw [if_pos h1, if_pos ⟨h1.1, h1.2.1, by omega⟩]
    · rw [if_neg h1]
      by_cases h2 : lo ≤ c ∧ c < hi ∧ i < n
      · rw [if_pos h2, if_pos ⟨h2.1, h2.2.1, by omega⟩]
      · rw [if_neg h2, if_neg (by omega)]
theorem ite_or {p q : Prop} [Decidable p] [Decidable q] {α : Type} {a b : α} : (if p then a else if q then a else b) = if p ∨ q then a else b := by
  by_cases h : p
  · rw [if_pos h, if_pos (Or.inl h)]
  · by_cases h2 : q
    · rw [if_neg h, if_pos h2, if_pos (Or.inr h2)]
    · rw [if_neg h, if_neg h2, if_neg (fun z => z.elim h h2)]
theorem ite_iff {p q : Prop} [Decidable p] [Decidable q] {α : Type} {a b : α} (h : p ↔ q) : (if p then a else b) = if q then a else b := by
  by_cases h1 : p
  · rw [if_pos h1, if_pos (h.mp h1)]
  · rw [if_neg h1, if_neg (fun z => h1 (h.mpr z))]
theorem b1_c {s u : Vw} {k c i : Nat} : b1 s k u c i = if 0 ≤ c ∧ c < 2 ∧ i = k then s c i else u c i := by
  unfold b1; rw [up2_e, up2_e, ite_or]; exact ite_iff (by omega)
theorem b2_c {s u : Vw} {k c i : Nat} : b2 s k u c i = if 2 ≤ c ∧ c < 3 ∧ i = k then s c i else u c i := by
  unfold b2; rw [up2_e]; exact ite_iff (by omega)
theorem b3_c {s u : Vw} {k c i : Nat} : b3 s k u c i = if 3 ≤ c ∧ c < 6 ∧ i = k then s c i else u c i := by
  unfold b3; rw [up2_e, up2_e, up2_e, ite_or, ite_or]; exact ite_iff (by omega)
theorem b4_c {s u : Vw} {k c i : Nat} : b4 s k u c i = if 6 ≤ c ∧ c < 12 ∧ i = k then s c i else u c i := by
  unfold b4; rw [up2_e, up2_e, up2_e, up2_e, up2_e, up2_e, ite_or, ite_or, ite_or, ite_or, ite_or]; exact ite_iff (by omega)
theorem b5_c {s u : Vw} {k c i : Nat} : b5 s k u c i = if 12 ≤ c ∧ c < 16 ∧ i = k then s c i else u c i := by
  unfold b5; rw [up2_e, up2_e, up2_e, up2_e, ite_or, ite_or, ite_or]; exact ite_iff (by omega)
theorem bec_ag (s v : Vw) : Ag s (bec s v) := by
  intro c i h
  unfold bec bcC bcB bcA
  rw [up2_e, up2_e, blk (f := b5 s) (fun _ _ _ _ => b5_c), up2_e, blk (f := b4 s) (fun _ _ _ _ => b4_c), up2_e, blk (f := b3 s) (fun _ _ _ _ => b3_c), up2_e, blk (f := b2 s) (fun _ _ _ _ => b2_c), blk (f := b1 s) (fun _ _ _ _ => b1_c)]
  simp only [ite_or]
  exact if_pos (by unfold Rv at h; omega)
/-- nothing is left where nobody is -/
def Z0 (v : Vw) : Prop := (∀ k, nS v ≤ k → k < 8 → v 9 k = 0 ∧ v 10 k = 0 ∧ v 11 k = 0) ∧ ∀ w, nW v ≤ w → w < 3 → v 15 w = 0
def Z8 (v : Vw) : Prop := ∀ k, nS v ≤ k → k < 8 → v 8 k = -1
/-- the lake v and the reference's state w -/
def Rl (v w : Vw) : Prop := Inv v ∧ Ag v w ∧ Z8 v ∧ Z0 v ∧ Z0 w
theorem Rl.iv {v w : Vw} (h : Rl v w) : Inv v := h.1
theorem Rl.iw {v w : Vw} (h : Rl v w) : Inv w := h.2.1.inv h.1
theorem Rl.ag {v w : Vw} (h : Rl v w) : Ag v w := h.2.1
theorem day_16 {x : Vw} {i : Nat} (h : i < 3) : day x 16 i = x 16 i := by
  show nig (frz (breA (kepA (sen (spe (lam x)))))) 16 i = x 16 i
  unfold nig
  rw [up2_i (by omega), frz_ne (by decide) (by decide) (by omega), breA_ne (by decide), kepA_ne (by decide), sen_ne (by decide) (by decide) (by decide) (by decide) (by decide) (by decide), spe_ne (by decide) (by decide), lam_ne (by decide)]
theorem days_16 {v : Vw} {i : Nat} (h : i < 3) (n : Nat) : days n v 16 i = v 16 i := it_keep (f := fun _ => day) (fun _ _ => day_16 h) n v
theorem days_no {v : Vw} (hv : Inv v) (n : Nat) {c i : Nat} (h : ¬ Rv v c i) : days n v c i = v c i := by
  have e := days_pt (u := v) hv n
  rw [pt_self] at e
  rw [e]
  refine pt_no (fun q => h ((Rv_of ?_ ?_ ?_ c i).mp q))
  · unfold nH; rw [days_16 (by decide)]
  · unfold nS; rw [days_16 (by decide)]
  · unfold nW; rw [days_16 (by decide)]
theorem Rl.gD {v w : Vw} (h : Rl v w) (n : Nat) : Rl (days n v) (days n w) := by
  obtain ⟨a, b, c, d, e⟩ := h
  have s : ∀ x, nS (days n x) = nS x := fun x => by unfold nS; rw [days_16 (by decide)]
  have t : ∀ x, nW (days n x) = nW x := fun x => by unfold nW; rw [days_16 (by decide)]
  have f0 : ∀ x, Inv x → Z0 x → Z0 (days n x) := by
    intro x hx hf
    refine ⟨fun k h1 h2 => ?_, fun k h1 h2 => ?_⟩
    · have h1 : nS x ≤ k := by rw [← s x]; exact h1
      rw [days_no hx n (by unfold Rv; omega), days_no hx n (by unfold Rv; omega), days_no hx n (by unfold Rv; omega)]
      exact hf.1 k h1 h2
    · have h1 : nW x ≤ k := by rw [← t x]; exact h1
      rw [days_no hx n (by unfold Rv; omega)]
      exact hf.2 k h1 h2
  refine ⟨days_inv a n, b.gD a n, fun k h1 h2 => ?_, f0 v a d, f0 w (b.inv a) e⟩
  have h1 : nS v ≤ k := by rw [← s v]; exact h1
  rw [days_no a n (by unfold Rv; omega)]
  exact c k h1 h2
theorem isIn_0 {x M : Int32} {n : Nat} (hM : M.toInt = n) (h : isIn x 0 M = true) : ∃ j : Nat, j ≤ n ∧ x = nI j := by
  rw [isIn_iff] at h
  have h0 : (0 : Int32).toInt = 0 := by decide
  refine nI_of2 hM (fun q => ?_) (Int32.le_iff_toInt_le.mpr h.2)
  rw [Int32.lt_iff_toInt_lt] at q
  omega
theorem isIn_1 {x M : Int32} {n : Nat} (hM : M.toInt = n) (h : isIn x 1 M = true) : ∃ j : Nat, j ≤ n ∧ x = nI j := by
  refine isIn_0 hM ?_
  rw [isIn_iff] at h ⊢
  have h0 : (0 : Int32).toInt = 0 := by decide
  have h1 : (1 : Int32).toInt = 1 := by decide
  omega
theorem isCell_9 {x y : Int32} (h : isCell x y = true) : ∃ a b : Nat, a < 9 ∧ b < 9 ∧ x = nI a ∧ y = nI b := by
  unfold isCell at h
  rw [Bool.and_eq_true] at h
  obtain ⟨a, ha, rfl⟩ := isIn_0 (n := 8) (by decide) h.1
  obtain ⟨b, hb, rfl⟩ := isIn_0 (n := 8) (by decide) h.2
  exact ⟨a, b, by omega, by omega, rfl, rfl⟩
theorem isIn_cnt {x : Int32} {n : Nat} (hn : n ≤ 12) (h : isIn x 0 (nI n - 1) = true) : ∃ j : Nat, j < n ∧ x = nI j := by
  cases n with
  | zero =>
    rw [isIn_iff] at h
    have h0 : (0 : Int32).toInt = 0 := by decide
    have h1 : (nI 0 - 1).toInt = -1 := by decide
    omega
  | succ n =>
    rw [nI_p] at h
    obtain ⟨j, hj, e⟩ := isIn_0 (M := nI n) (n := n) (nI_toInt (by omega)) h
    exact ⟨j, by omega, e⟩
/-- numbers that no invariant speaks of -/
theorem Inv.free {v : Vw} (hv : Inv v) {c i : Nat} {x : Int32} (h : c = 1 ∨ c = 2 ∨ c = 14 ∨ c = 15 ∨ c = 10 ∨ c = 11) : Inv (up2 v c i x) := by
  have e : ∀ a j, a ≠ c → up2 v c i x a j = v a j := fun a j q => up2_c q
  exact hv.step (e _ _ (by omega)) (e _ _ (by omega)) (e _ _ (by omega)) (fun _ => e _ _ (by omega)) (fun _ => e _ _ (by omega)) (fun _ _ => Or.inl (e _ _ (by omega))) (fun _ => e _ _ (by omega)) (fun _ => e _ _ (by omega)) (fun _ _ => Or.inl (e _ _ (by omega))) (fun k hk => by rw [e _ _ (by omega)]; exact (hv.hS k hk).2.2.2) (fun w hw => ⟨by rw [e _ _ (by omega)]; exact (hv.hW w hw).1, by rw [e _ _ (by omega)]; exact (hv.hW w hw).2⟩) (fun a ha => by unfold IC; rw [e _ _ (by omega)]; exact hv.hC a ha)
/-- one number written where both hold it -/
theorem Rl.up {v w : Vw} (h : Rl v w) {c i : Nat} {x : Int32} (hc : c < 8 ∨ (c = 8 ∧ i < nS v)) (hi : Inv (up2 v c i x)) : Rl (up2 v c i x) (up2 w c i x) := by
  obtain ⟨a, b, d, e, f⟩ := h
  have f0 : ∀ y, Z0 y → Z0 (up2 y c i x) := by
    intro y hy
    refine ⟨fun k h1 h2 => ?_, fun k h1 h2 => ?_⟩
    · rw [nS_u (by omega)] at h1
      rw [up2_c (by omega), up2_c (by omega), up2_c (by omega)]
      exact hy.1 k h1 h2
    · rw [nW_u (by omega)] at h1
      rw [up2_c (by omega)]
      exact hy.2 k h1 h2
  refine ⟨hi, b.up (by omega) x, fun k h1 h2 => ?_, f0 v e, f0 w f⟩
  rw [nS_u (by omega)] at h1
  rcases hc with q | q
  · rw [up2_c (by omega)]; exact d k h1 h2
  · rw [up2_i (by omega)]; exact d k h1 h2
theorem Rl.gV {v w : Vw} (h : Rl v w) {x y : Nat} (hx : x < 9) (hy : y < 9) {a b : Int32} (ha : isIn a 0 60 = true) : Rl (setV v x y a b) (setV w x y a b) := by
  obtain ⟨j, hj, rfl⟩ := isIn_0 (n := 60) (by decide) ha
  have i1 : Inv (up2 v 0 (9 * y + x) (nI j)) := h.1.eels (fun c i q => up2_c q) (fun c hc => by
    unfold IC
    by_cases q : c = 9 * y + x
    · rw [q, up2_same]; exact ⟨j, hj, rfl⟩
    · rw [up2_i q]; exact h.1.hC c hc)
  exact (h.up (Or.inl (by decide)) i1).up (Or.inl (by decide)) (i1.free (by omega))
theorem Rl.gF {v w : Vw} (h : Rl v w) {n : Nat} {a : Int32} : Rl (up2 v 2 n a) (up2 w 2 n a) := h.up (Or.inl (by decide)) (h.1.free (by omega))
theorem Rl.gG {v w : Vw} (h : Rl v w) {k : Nat} (hk : k < nS v) {a : Int32} (ha : a = -1 ∨ ∃ j, j < nH v ∧ a = nI j) : Rl (up2 v 8 k a) (up2 w 8 k a) := by
  refine h.up (Or.inr ⟨rfl, hk⟩) ?_
  have hv := h.1
  have eH : nH (up2 v 8 k a) = nH v := nH_u (by omega)
  refine ⟨⟨by rw [eH, up2_c (by decide)]; exact hv.eH, by rw [eH]; exact hv.lH⟩, ⟨by rw [nS_u (by omega), up2_c (by decide)]; exact hv.eS, by rw [nS_u (by omega)]; exact hv.lS⟩, ⟨by rw [nW_u (by omega), up2_c (by decide)]; exact hv.eW, by rw [nW_u (by omega)]; exact hv.lW⟩, ?_, ?_, ?_, ?_⟩
  · intro i hi
    rw [eH] at hi
    unfold IH
    rw [up2_c (by decide), up2_c (by decide), up2_c (by decide)]
    exact hv.hH i hi
  · intro i hi
    rw [nS_u (by omega)] at hi
    obtain ⟨q1, q2, q3, q4⟩ := hv.hS i hi
    unfold IS
    rw [eH, up2_c (c' := 7) (by decide), up2_c (c' := 6) (by decide), up2_c (c' := 9) (by decide)]
    refine ⟨?_, q2, q3, q4⟩
    by_cases z : i = k
    · rw [z, up2_same]; exact ha
    · rw [up2_i z]; exact q1
  · intro i hi
    rw [nW_u (by omega)] at hi
    unfold IW
    rw [up2_c (by decide), up2_c (by decide)]
    exact hv.hW i hi
  · intro i hi
    unfold IC
    rw [up2_c (by decide)]
    exact hv.hC i hi
theorem RvH {v w : Vw} (a : nH w = nH v + 1) (b : nS w = nS v) (d : nW w = nW v) {c i : Nat} (q : Rv w c i) (h : 3 ≤ c → c < 6 → i ≠ nH v) : Rv v c i := by
  unfold Rv at q
  rw [a, b, d] at q
  rcases q with q | q | q | q | q | q
  · exact Or.inl q
  · exact Or.inr (Or.inl q)
  · have := h q.1 q.2.1
    exact RH q.1 q.2.1 (by omega)
  · exact RS q.1 q.2.1 q.2.2
  · exact RW q.1 q.2.1 q.2.2
  · rw [q.1]; exact R16 q.2
theorem RvS {v w : Vw} (a : nH w = nH v) (b : nS w = nS v + 1) (d : nW w = nW v) {c i : Nat} (q : Rv w c i) (h : 6 ≤ c → c < 12 → i ≠ nS v) : Rv v c i := by
  unfold Rv at q
  rw [a, b, d] at q
  rcases q with q | q | q | q | q | q
  · exact Or.inl q
  · exact Or.inr (Or.inl q)
  · exact RH q.1 q.2.1 q.2.2
  · have := h q.1 q.2.1
    exact RS q.1 q.2.1 (by omega)
  · exact RW q.1 q.2.1 q.2.2
  · rw [q.1]; exact R16 q.2
theorem RvW {v w : Vw} (a : nH w = nH v) (b : nS w = nS v) (d : nW w = nW v + 1) {c i : Nat} (q : Rv w c i) (h : 12 ≤ c → c < 16 → i ≠ nW v) : Rv v c i := by
  unfold Rv at q
  rw [a, b, d] at q
  rcases q with q | q | q | q | q | q
  · exact Or.inl q
  · exact Or.inr (Or.inl q)
  · exact RH q.1 q.2.1 q.2.2
  · exact RS q.1 q.2.1 q.2.2
  · have := h q.1 q.2.1
    exact RW q.1 q.2.1 (by omega)
  · rw [q.1]; exact R16 q.2
theorem nH_addH {v : Vw} {x y : Int32} (h : nH v < 12) : nH (addH v x y) = nH v + 1 := nI_clamp (by omega)
theorem nS_addH {v : Vw} {x y : Int32} : nS (addH v x y) = nS v := by unfold addH; rw [nS_u (by omega), nS_u (by omega), nS_u (by omega), nS_u (by omega)]
theorem nW_addH {v : Vw} {x y : Int32} : nW (addH v x y) = nW v := by unfold addH; rw [nW_u (by omega), nW_u (by omega), nW_u (by omega), nW_u (by omega)]
theorem addH_no {v : Vw} {x y : Int32} {c i : Nat} (h : c ≠ 16 ∨ i ≠ 0) (h2 : ¬ (3 ≤ c ∧ c < 6 ∧ i = nH v)) : addH v x y c i = v c i := by
  unfold addH up2
  rw [if_neg (by omega), if_neg (by omega), if_neg (by omega), if_neg (by omega)]
theorem addH_inv {v : Vw} (hv : Inv v) (hn : nH v < 12) {x y : Int32} (hx : lt9 x) (hy : lt9 y) : Inv (addH v x y) := by
  have eH := nH_addH (x := x) (y := y) hn
  refine ⟨⟨by rw [eH]; rfl, by rw [eH]; omega⟩, ⟨by rw [nS_addH, addH_no (by omega) (by omega)]; exact hv.eS, by rw [nS_addH]; exact hv.lS⟩, ⟨by rw [nW_addH, addH_no (by omega) (by omega)]; exact hv.eW, by rw [nW_addH]; exact hv.lW⟩, ?_, ?_, ?_, ?_⟩
  · intro i hi
    rw [eH] at hi
    unfold IH
    by_cases q : i = nH v
    · rw [q]
      have z1 : addH v x y 3 (nH v) = x := by simp [addH, up2]
      have z2 : addH v x y 4 (nH v) = y := by simp [addH, up2]
      have z3 : addH v x y 5 (nH v) = 1 := by simp [addH, up2]
      rw [z1, z2, z3]
      exact ⟨hx, hy, Or.inr rfl⟩
    · rw [addH_no (by omega) (by omega), addH_no (by omega) (by omega), addH_no (by omega) (by omega)]
      exact hv.hH i (by omega)
  · intro i hi
    rw [nS_addH] at hi
    unfold IS
    rw [addH_no (by omega) (by omega), addH_no (by omega) (by omega), addH_no (by omega) (by omega), addH_no (by omega) (by omega), eH]
    obtain ⟨q1, q2⟩ := hv.hS i hi
    exact ⟨q1.imp id fun ⟨j, a, b⟩ => ⟨j, by omega, b⟩, q2⟩
  · intro i hi
    rw [nW_addH] at hi
    unfold IW
    rw [addH_no (by omega) (by omega), addH_no (by omega) (by omega)]
    exact hv.hW i hi
  · intro i hi
    unfold IC
    rw [addH_no (by omega) (by omega)]
    exact hv.hC i hi
theorem Rl.gH {v w : Vw} (h : Rl v w) (hn : nH v < 12) {x y : Int32} (hx : lt9 x) (hy : lt9 y) : Rl (addH v x y) (addH w x y) := by
  obtain ⟨a, b, d, e, f⟩ := h
  have z0 : ∀ u, Z0 u → Z0 (addH u x y) := by
    intro u hu
    refine ⟨fun k h1 h2 => ?_, fun k h1 h2 => ?_⟩
    · rw [nS_addH] at h1
      rw [addH_no (by omega) (by omega), addH_no (by omega) (by omega), addH_no (by omega) (by omega)]
      exact hu.1 k h1 h2
    · rw [nW_addH] at h1
      rw [addH_no (by omega) (by omega)]
      exact hu.2 k h1 h2
  refine ⟨addH_inv a hn hx hy, ?_, fun k h1 h2 => ?_, z0 v e, z0 w f⟩
  · intro c i q
    have q := fun h => RvH (nH_addH hn) nS_addH nW_addH q h
    unfold addH
    rw [b.eH]
    unfold up2
    split
    · rfl
    · split
      · rfl
      · split
        · rfl
        · split
          · rfl
          · rename_i h1 h2 h3 h4
            exact b c i (q fun g1 g2 g3 => by
              have : c = 3 ∨ c = 4 ∨ c = 5 := by omega
              rcases this with z | z | z
              · exact h4 ⟨z, g3⟩
              · exact h3 ⟨z, g3⟩
              · exact h2 ⟨z, g3⟩)
  · rw [nS_addH] at h1
    rw [addH_no (by omega) (by omega)]
    exact d k h1 h2
theorem nS_addS {v : Vw} {x y : Int32} (h : nS v < 8) : nS (addS v x y) = nS v + 1 := nI_clamp (by omega)
theorem nH_addS {v : Vw} {x y : Int32} : nH (addS v x y) = nH v := by unfold addS; rw [nH_u (by omega), nH_u (by omega), nH_u (by omega)]
theorem nW_addS {v : Vw} {x y : Int32} : nW (addS v x y) = nW v := by unfold addS; rw [nW_u (by omega), nW_u (by omega), nW_u (by omega)]
theorem nS_addSM {v : Vw} {x y : Int32} (h : nS v < 8) : nS (addSM v x y) = nS v + 1 := nI_clamp (by omega)
theorem nW_addSM {v : Vw} {x y : Int32} : nW (addSM v x y) = nW v := by unfold addSM; rw [nW_u (by omega), nW_u (by omega), nW_u (by omega), nW_u (by omega)]
theorem addS_no {v : Vw} {x y : Int32} {c i : Nat} (h : c ≠ 16 ∨ i ≠ 1) (h2 : ¬ (6 ≤ c ∧ c < 8 ∧ i = nS v)) : addS v x y c i = v c i := by
  unfold addS up2
  rw [if_neg (by omega), if_neg (by omega), if_neg (by omega)]
theorem addSM_no {v : Vw} {x y : Int32} {c i : Nat} (h : c ≠ 16 ∨ i ≠ 1) (h2 : ¬ (6 ≤ c ∧ c < 9 ∧ i = nS v)) : addSM v x y c i = v c i := by
  unfold addSM up2
  rw [if_neg (by omega), if_neg (by omega), if_neg (by omega), if_neg (by omega)]
theorem addS_inv {v : Vw} (hv : Inv v) (hn : nS v < 8) (h8 : v 8 (nS v) = -1) (h9 : v 9 (nS v) = 0) {x y : Int32} (hx : ∃ j : Nat, j < 31 ∧ x = nI j) (hy : ∃ j : Nat, j < 5 ∧ y = nI j) : Inv (addS v x y) := by
  have eS := nS_addS (x := x) (y := y) hn
  refine ⟨⟨by rw [nH_addS, addS_no (by omega) (by omega)]; exact hv.eH, by rw [nH_addS]; exact hv.lH⟩, ⟨by rw [eS]; rfl, by rw [eS]; omega⟩, ⟨by rw [nW_addS, addS_no (by omega) (by omega)]; exact hv.eW, by rw [nW_addS]; exact hv.lW⟩, ?_, ?_, ?_, ?_⟩
  · intro i hi
    rw [nH_addS] at hi
    unfold IH
    rw [addS_no (by omega) (by omega), addS_no (by omega) (by omega), addS_no (by omega) (by omega)]
    exact hv.hH i hi
  · intro i hi
    rw [eS] at hi
    unfold IS
    rw [addS_no (c := 8) (by omega) (by omega), addS_no (c := 9) (by omega) (by omega), nH_addS]
    by_cases q : i = nS v
    · rw [q, h8, h9]
      refine ⟨Or.inl rfl, ?_, ?_, 0, by omega, rfl⟩
      · have z : addS v x y 7 (nS v) = y := by simp [addS, up2]
        rw [z]; exact hy
      · have z : addS v x y 6 (nS v) = x := by simp [addS, up2]
        rw [z]; exact hx
    · rw [addS_no (by omega) (by omega), addS_no (by omega) (by omega)]
      exact hv.hS i (by omega)
  · intro i hi
    rw [nW_addS] at hi
    unfold IW
    rw [addS_no (by omega) (by omega), addS_no (by omega) (by omega)]
    exact hv.hW i hi
  · intro i hi
    unfold IC
    rw [addS_no (by omega) (by omega)]
    exact hv.hC i hi
theorem Rl.gS {v w : Vw} (h : Rl v w) (hn : nS v < 8) {x y : Int32} (hx : ∃ j : Nat, j < 31 ∧ x = nI j) (hy : ∃ j : Nat, j < 5 ∧ y = nI j) : Rl (addS v x y) (addSM w x y) := by
  obtain ⟨a, b, d, e, f⟩ := h
  have hn2 : nS w < 8 := by rw [b.eS]; exact hn
  refine ⟨addS_inv a hn (d _ (Nat.le_refl _) hn) (e.1 _ (Nat.le_refl _) hn).1 hx hy, ?_, fun k h1 h2 => ?_, ⟨fun k h1 h2 => ?_, fun k h1 h2 => ?_⟩, ⟨fun k h1 h2 => ?_, fun k h1 h2 => ?_⟩⟩
  · intro c i q
    have q := fun h => RvS nH_addS (nS_addS hn) nW_addS q h
    by_cases z : 8 ≤ c ∧ c < 12 ∧ i = nS v
    · rw [addS_no (by omega) (by omega)]
      obtain ⟨z1, z2, z3⟩ := z
      subst z3
      have g1 := e.1 _ (Nat.le_refl _) hn
      have g2 := f.1 (nS v) (by rw [b.eS]; exact Nat.le_refl _) hn
      have : c = 8 ∨ c = 9 ∨ c = 10 ∨ c = 11 := by omega
      rcases this with rfl | rfl | rfl | rfl
      · rw [d _ (Nat.le_refl _) hn]
        unfold addSM
        rw [b.eS, up2_c (by decide), up2_same]
      · rw [addSM_no (by omega) (by omega), g1.1, g2.1]
      · rw [addSM_no (by omega) (by omega), g1.2.1, g2.2.1]
      · rw [addSM_no (by omega) (by omega), g1.2.2, g2.2.2]
    · unfold addS addSM
      rw [b.eS]
      unfold up2
      split
      · rfl
      · rw [if_neg (by omega)]
        split
        · rfl
        · split
          · rfl
          · rename_i h1 h3 h4
            exact b c i (q fun g1 g2 g3 => by
              have : c = 6 ∨ c = 7 ∨ 8 ≤ c := by omega
              rcases this with k | k | k
              · exact h4 ⟨k, g3⟩
              · exact h3 ⟨k, g3⟩
              · exact z ⟨k, g2, g3⟩)
  · rw [nS_addS hn] at h1
    rw [addS_no (by omega) (by omega)]
    exact d k (by omega) h2
  · rw [nS_addS hn] at h1
    rw [addS_no (by omega) (by omega), addS_no (by omega) (by omega), addS_no (by omega) (by omega)]
    exact e.1 k (by omega) h2
  · rw [nW_addS] at h1
    rw [addS_no (by omega) (by omega)]
    exact e.2 k h1 h2
  · rw [nS_addSM hn2] at h1
    rw [addSM_no (by omega) (by omega), addSM_no (by omega) (by omega), addSM_no (by omega) (by omega)]
    exact f.1 k (by omega) h2
  · rw [nW_addSM] at h1
    rw [addSM_no (by omega) (by omega)]
    exact f.2 k h1 h2
theorem nW_addW {v : Vw} {x y z : Int32} (h : nW v < 3) : nW (addW v x y z) = nW v + 1 := nI_clamp (by omega)
theorem nS_addW {v : Vw} {x y z : Int32} : nS (addW v x y z) = nS v := by unfold addW; rw [nS_u (by omega), nS_u (by omega), nS_u (by omega), nS_u (by omega)]
theorem nH_addW {v : Vw} {x y z : Int32} : nH (addW v x y z) = nH v := by unfold addW; rw [nH_u (by omega), nH_u (by omega), nH_u (by omega), nH_u (by omega)]
theorem addW_no {v : Vw} {x y z : Int32} {c i : Nat} (h : c ≠ 16 ∨ i ≠ 2) (h2 : ¬ (12 ≤ c ∧ c < 15 ∧ i = nW v)) : addW v x y z c i = v c i := by
  unfold addW up2
  rw [if_neg (by omega), if_neg (by omega), if_neg (by omega), if_neg (by omega)]
theorem addW_inv {v : Vw} (hv : Inv v) (hn : nW v < 3) {x y z : Int32} (hx : lt9 x) (hy : lt9 y) : Inv (addW v x y z) := by
  have eW := nW_addW (x := x) (y := y) (z := z) hn
  refine ⟨⟨by rw [nH_addW, addW_no (by omega) (by omega)]; exact hv.eH, by rw [nH_addW]; exact hv.lH⟩, ⟨by rw [nS_addW, addW_no (by omega) (by omega)]; exact hv.eS, by rw [nS_addW]; exact hv.lS⟩, ⟨by rw [eW]; rfl, by rw [eW]; omega⟩, ?_, ?_, ?_, ?_⟩
  · intro i hi
    rw [nH_addW] at hi
    unfold IH
    rw [addW_no (by omega) (by omega), addW_no (by omega) (by omega), addW_no (by omega) (by omega)]
    exact hv.hH i hi
  · intro i hi
    rw [nS_addW] at hi
    unfold IS
    rw [addW_no (by omega) (by omega), addW_no (by omega) (by omega), addW_no (by omega) (by omega), addW_no (by omega) (by omega), nH_addW]
    exact hv.hS i hi
  · intro i hi
    rw [eW] at hi
    unfold IW
    by_cases q : i = nW v
    · rw [q]
      have z1 : addW v x y z 12 (nW v) = x := by simp [addW, up2]
      have z2 : addW v x y z 13 (nW v) = y := by simp [addW, up2]
      rw [z1, z2]
      exact ⟨hx, hy⟩
    · rw [addW_no (by omega) (by omega), addW_no (by omega) (by omega)]
      exact hv.hW i (by omega)
  · intro i hi
    unfold IC
    rw [addW_no (by omega) (by omega)]
    exact hv.hC i hi
theorem Rl.gW {v w : Vw} (h : Rl v w) (hn : nW v < 3) {x y z : Int32} (hx : lt9 x) (hy : lt9 y) : Rl (addW v x y z) (addW w x y z) := by
  obtain ⟨a, b, d, e, f⟩ := h
  have z0 : ∀ u, nW u < 3 → Z0 u → Z0 (addW u x y z) := by
    intro u hn hu
    refine ⟨fun k h1 h2 => ?_, fun k h1 h2 => ?_⟩
    · rw [nS_addW] at h1
      rw [addW_no (by omega) (by omega), addW_no (by omega) (by omega), addW_no (by omega) (by omega)]
      exact hu.1 k h1 h2
    · rw [nW_addW hn] at h1
      rw [addW_no (by omega) (by omega)]
      exact hu.2 k (by omega) h2
  refine ⟨addW_inv a hn hx hy, ?_, fun k h1 h2 => ?_, z0 v hn e, z0 w (by rw [b.eW]; exact hn) f⟩
  · intro c i q
    have q := fun h => RvW nH_addW nS_addW (nW_addW hn) q h
    by_cases k : c = 15 ∧ i = nW v
    · rw [addW_no (by omega) (by omega), addW_no (by omega) (by omega), k.1, k.2, e.2 _ (Nat.le_refl _) hn, f.2 _ (by rw [b.eW]; exact Nat.le_refl _) hn]
    · unfold addW
      rw [b.eW]
      unfold up2
      split
      · rfl
      · split
        · rfl
        · split
          · rfl
          · split
            · rfl
            · rename_i h1 h2 h3 h4
              exact b c i (q fun g1 g2 g3 => by
                have : c = 12 ∨ c = 13 ∨ c = 14 ∨ c = 15 := by omega
                rcases this with z | z | z | z
                · exact h4 ⟨z, g3⟩
                · exact h3 ⟨z, g3⟩
                · exact h2 ⟨z, g3⟩
                · exact k ⟨z, g3⟩)
  · rw [nS_addW] at h1
    rw [addW_no (by omega) (by omega)]
    exact d k h1 h2

