/-! All wardens' night. Pure. -/
def SF (n : Nat) (s q : Vw) : Prop := (∀ k, (q 11 k = s 11 k ∧ q 9 k = s 9 k) ∨ (k < nS s ∧ q 11 k = s 11 k + 1 ∧ q 9 k = s 6 k ∧ ∃ h, h < nH s ∧ s 8 k = nI h ∧ ∃ w, w < n ∧ (∃ c, 1 ≤ c ∧ c ≤ 8 ∧ q 15 w = s 15 w + nI c) ∧ q 12 w = s 3 h ∧ q 13 w = s 4 h)) ∧ (∀ w, n ≤ w → q 12 w = s 12 w ∧ q 13 w = s 13 w ∧ q 15 w = s 15 w) ∧ (∀ w, w < nW s → (∃ c, c ≤ 8 ∧ q 15 w = s 15 w + nI c) ∧ Nr (s 14 w).toNatClampNeg (s 12 w) (q 12 w) ∧ Nr (s 14 w).toNatClampNeg (s 13 w) (q 13 w)) ∧ sumI (q 11) (nS s) = sumI (s 11) (nS s) + sumI (fun w => q 15 w - s 15 w) (nW s)
theorem sumI_z {f : Nat → Int32} : ∀ {n : Nat}, (∀ j, j < n → f j = 0) → sumI f n = 0
  | 0, _ => rfl
  | n + 1, h => by
    show sumI f n + f n = 0
    rw [sumI_z (fun j hj => h j (by omega)), h n (by omega)]
    rfl
theorem SF.z {s : Vw} (hv : Inv s) : SF 0 s s := by
  refine ⟨fun _ => Or.inl ⟨rfl, rfl⟩, fun _ _ => ⟨rfl, rfl, rfl⟩, fun w hw => ⟨⟨0, by omega, (Int32.add_zero _).symm⟩, Nr.rf (hv.hW w hw).1, Nr.rf (hv.hW w hw).2⟩, ?_⟩
  rw [sumI_z (f := fun w => s 15 w - s 15 w) (fun j _ => Int32.sub_self _), Int32.add_zero]
theorem SF.s {n : Nat} {s q : Vw} (hv : Inv q) (hn : n < nW s) (ec : ∀ c i, c ≠ 0 → c ≠ 9 → c ≠ 11 → c ≠ 12 → c ≠ 13 → c ≠ 15 → q c i = s c i) (h : SF n s q) : SF (n + 1) s (gua n q) := by
  obtain ⟨a, b, c, d⟩ := h
  have eS : nS q = nS s := by unfold nS; rw [ec 16 1 (by decide) (by decide) (by decide) (by decide) (by decide) (by decide)]
  have eH : nH q = nH s := by unfold nH; rw [ec 16 0 (by decide) (by decide) (by decide) (by decide) (by decide) (by decide)]
  have eW : nW q = nW s := by unfold nW; rw [ec 16 2 (by decide) (by decide) (by decide) (by decide) (by decide) (by decide)]
  have e6 : ∀ i, q 6 i = s 6 i := fun i => ec 6 i (by decide) (by decide) (by decide) (by decide) (by decide) (by decide)
  have e8 : ∀ i, q 8 i = s 8 i := fun i => ec 8 i (by decide) (by decide) (by decide) (by decide) (by decide) (by decide)
  have e3 : ∀ i, q 3 i = s 3 i := fun i => ec 3 i (by decide) (by decide) (by decide) (by decide) (by decide) (by decide)
  have e4 : ∀ i, q 4 i = s 4 i := fun i => ec 4 i (by decide) (by decide) (by decide) (by decide) (by decide) (by decide)
  have e14 : q 14 n = s 14 n := ec 14 n (by decide) (by decide) (by decide) (by decide) (by decide) (by decide)
  obtain ⟨bn1, bn2, bn3⟩ := b n (Nat.le_refl _)
  obtain ⟨m, g1, g2, g3, g4, g5, g6, g7⟩ := gua_f hv (w := n) (by rw [eW]; exact hn)
  generalize gua n q = u at g2 g3 g4 g5 g6 g7 ⊢
  rw [eS] at g4
  refine ⟨fun k => ?_, fun w hw => ?_, fun w hw => ?_, ?_⟩
  · rcases a k with ⟨a1, a2⟩ | ⟨a0, a1, a2, h, hh, a3, w, hw, a4, a5, a6⟩
    · rcases g5 k with ⟨y1, y2⟩ | ⟨y0, y1, y2, y3, y4, h, hh, y5, y6, y7⟩
      · exact Or.inl ⟨y1.trans a1, y2.trans a2⟩
      · right
        refine ⟨by omega, by rw [y1, a1], by rw [y2, e6], h, by omega, by rw [← e8]; exact y5, n, Nat.lt_succ_self _, ⟨m, y4, g1, by rw [g2, bn3]⟩, by rw [y6, e3], by rw [y7, e4]⟩
    · rcases g5 k with ⟨y1, y2⟩ | ⟨y0, y1, y2, y3, y4, h, hh, y5, y6, y7⟩
      · right
        have z := g3 w (by omega)
        refine ⟨a0, by rw [y1, a1], by rw [y2, a2], h, hh, a3, w, by omega, ?_, by rw [z.2.1, a5], by rw [z.2.2, a6]⟩
        obtain ⟨c0, c1, c2, c3⟩ := a4
        exact ⟨c0, c1, c2, by rw [z.1, c3]⟩
      · rw [e6, a2] at y3
        exact (Int32.lt_irrefl y3).elim
  · have z := g3 w (by omega)
    have y := b w (by omega)
    exact ⟨z.2.1.trans y.1, z.2.2.trans y.2.1, z.1.trans y.2.2⟩
  · by_cases z : w = n
    · subst z
      rw [e14, bn1] at g6
      rw [e14, bn2] at g7
      exact ⟨⟨m, g1, by rw [g2, bn3]⟩, g6, g7⟩
    · have y := g3 w z
      rw [y.1, y.2.1, y.2.2]
      exact c w hw
  · rw [g4, d, Int32.add_assoc]
    congr 1
    refine (sumI_one (f := fun w => q 15 w - s 15 w) (g := fun w => u 15 w - s 15 w) hn ?_ (fun j hj => ?_)).symm
    · show u 15 n - s 15 n = q 15 n - s 15 n + nI m
      rw [g2, Int32.sub_eq_add_neg, Int32.sub_eq_add_neg, Int32.add_assoc, Int32.add_comm (nI m), ← Int32.add_assoc]
    · show u 15 j - s 15 j = q 15 j - s 15 j
      rw [(g3 j hj).1]
theorem senI_f {s : Vw} (hv : Inv s) (n : Nat) (hn : n ≤ nW s) : SF n s (it gua n s) := by
  induction n with
  | zero => rw [it_zer]; exact SF.z hv
  | succ n ih =>
    rw [it_suc]
    exact SF.s (senI_inv hv n (by omega)) (by omega) (fun c i a b d e f g => it_keep (f := gua) (fun _ _ => gua_ne a b d e f g) n s) (ih (by omega))
theorem sen_f {s : Vw} (hv : Inv s) : SF (nW s) s (sen s) := senI_f hv (nW s) (Nat.le_refl _)
/-- the night's numbers: what is caught; nobody there, nothing caught; fines; wardens; sums -/
def Ngt (v d : Vw) : Prop := (∀ k, k < nS v → ∃ j, j < 32 ∧ d 9 k = nI j) ∧ (∀ k, k < nS v → v 8 k = -1 → d 9 k = 0 ∧ d 11 k = v 11 k) ∧ (∀ k, k < nS v → d 11 k = v 11 k ∨ (d 11 k = v 11 k + 1 ∧ d 9 k = v 6 k ∧ ∃ h, h < nH v ∧ v 8 k = nI h ∧ ∃ w, w < nW v ∧ (∃ c, 1 ≤ c ∧ c ≤ 8 ∧ d 15 w = v 15 w + nI c) ∧ d 12 w = v 3 h ∧ d 13 w = v 4 h)) ∧ (∀ w, w < nW v → (∃ c, c ≤ 8 ∧ d 15 w = v 15 w + nI c) ∧ Nr (v 14 w).toNatClampNeg (v 12 w) (d 12 w) ∧ Nr (v 14 w).toNatClampNeg (v 13 w) (d 13 w)) ∧ sumI (d 11) (nS v) = sumI (v 11) (nS v) + sumI (fun w => d 15 w - v 15 w) (nW v)
theorem Ngt.cb {v d : Vw} (h : Ngt v d) : ∀ k, k < nS v → ∃ j, j < 32 ∧ d 9 k = nI j := h.1
theorem Ngt.nb {v d : Vw} (h : Ngt v d) : ∀ k, k < nS v → v 8 k = -1 → d 9 k = 0 ∧ d 11 k = v 11 k := h.2.1
theorem Ngt.fi {v d : Vw} (h : Ngt v d) : ∀ k, k < nS v → d 11 k = v 11 k ∨ (d 11 k = v 11 k + 1 ∧ d 9 k = v 6 k ∧ ∃ h, h < nH v ∧ v 8 k = nI h ∧ ∃ w, w < nW v ∧ (∃ c, 1 ≤ c ∧ c ≤ 8 ∧ d 15 w = v 15 w + nI c) ∧ d 12 w = v 3 h ∧ d 13 w = v 4 h) := h.2.2.1
theorem Ngt.wa {v d : Vw} (h : Ngt v d) : ∀ w, w < nW v → (∃ c, c ≤ 8 ∧ d 15 w = v 15 w + nI c) ∧ Nr (v 14 w).toNatClampNeg (v 12 w) (d 12 w) ∧ Nr (v 14 w).toNatClampNeg (v 13 w) (d 13 w) := h.2.2.2.1
theorem Ngt.su {v d : Vw} (h : Ngt v d) : sumI (d 11) (nS v) = sumI (v 11) (nS v) + sumI (fun w => d 15 w - v 15 w) (nW v) := h.2.2.2.2
theorem pre1_n {v : Vw} (hv : Inv v) (hm : Mud v) : Ngt v (pre1 v) := by
  have il := lam_inv hv
  have el : ∀ c i, c ≠ 0 → lam v c i = v c i := fun c i h => lam_ne h
  have is := spe_inv il
  have ml : Mud (lam v) := fun c hc => by rw [el _ _ (by decide)]; exact hm c hc
  have nl : nS (lam v) = nS v := by unfold nS; rw [el _ _ (by decide)]
  have cb : ∀ k, k < nS v → (∃ j, j < 32 ∧ spe (lam v) 9 k = nI j) ∧ (lam v 8 k = -1 → spe (lam v) 9 k = 0) := fun k hk => speI_cb il ml (nS (lam v)) (Nat.le_refl _) k (by rw [nl]; exact hk)
  have es : ∀ c i, c ≠ 0 → c ≠ 9 → spe (lam v) c i = v c i := fun c i a b => (spe_ne a b).trans (el c i a)
  have sf := sen_f is
  have e8 : ∀ i, lam v 8 i = v 8 i := fun i => el 8 i (by decide)
  unfold pre1
  generalize spe (lam v) = s at cb es sf ⊢
  have nS_ : nS s = nS v := by unfold nS; rw [es _ _ (by decide) (by decide)]
  have nH_ : nH s = nH v := by unfold nH; rw [es _ _ (by decide) (by decide)]
  have nW_ : nW s = nW v := by unfold nW; rw [es _ _ (by decide) (by decide)]
  obtain ⟨a, b, c, d⟩ := sf
  generalize sen s = q at a b c d ⊢
  rw [nS_] at d
  rw [nW_] at d c
  have e11 : ∀ k, s 11 k = v 11 k := fun k => es 11 k (by decide) (by decide)
  have e15 : ∀ k, s 15 k = v 15 k := fun k => es 15 k (by decide) (by decide)
  have e6 : ∀ k, s 6 k = v 6 k := fun k => es 6 k (by decide) (by decide)
  have f8 : ∀ k, s 8 k = v 8 k := fun k => es 8 k (by decide) (by decide)
  refine ⟨fun k hk => ?_, fun k hk h8 => ?_, fun k hk => ?_, fun w hw => ?_, ?_⟩
  · rcases a k with y | ⟨y0, y1, y2, y3⟩
    · rw [y.2]; exact (cb k hk).1
    · rw [y2, e6]
      obtain ⟨j, hj, ej⟩ := (hv.hS k hk).2.2.1
      exact ⟨j, by omega, ej⟩
  · rcases a k with y | ⟨y0, y1, y2, h, hh, y3, y4⟩
    · exact ⟨by rw [y.2]; exact (cb k hk).2 (by rw [e8]; exact h8), by rw [y.1, e11]⟩
    · rw [f8, h8] at y3
      have := hv.lH
      exact absurd y3.symm (m1_ne h (by omega))
  · rcases a k with y | ⟨y0, y1, y2, h, hh, y3, w, hw, y4, y5, y6⟩
    · exact Or.inl (by rw [y.1, e11])
    · right
      obtain ⟨c0, c1, c2, c3⟩ := y4
      exact ⟨by rw [y1, e11], by rw [y2, e6], h, by omega, by rw [← f8]; exact y3, w, by omega, ⟨c0, c1, c2, by rw [c3, e15]⟩, by rw [y5, es _ _ (by decide) (by decide)], by rw [y6, es _ _ (by decide) (by decide)]⟩
  · obtain ⟨⟨c0, c1, c2⟩, c3, c4⟩ := c w hw
    rw [es 14 _ (by decide) (by decide), es 12 _ (by decide) (by decide)] at c3
    rw [es 14 _ (by decide) (by decide), es 13 _ (by decide) (by decide)] at c4
    exact ⟨⟨c0, c1, by rw [c2, e15]⟩, c3, c4⟩
  · rw [d, sumI_congr (fun j _ => e11 j)]
    congr 1
    exact sumI_congr fun j _ => by rw [e15]
theorem day_n {v : Vw} (hv : Inv v) (hm : Mud v) : Ngt v (day v) := by
  have h := pre1_n hv hm
  have e : ∀ c i, c ≠ 0 → c ≠ 5 → c ≠ 8 → c ≠ 10 → c ≠ 16 → day v c i = pre1 v c i := fun c i a b d f g => day_p a b d f g
  have e9 : ∀ k, day v 9 k = pre1 v 9 k := fun k => e 9 k (by decide) (by decide) (by decide) (by decide) (by decide)
  have e11 : ∀ k, day v 11 k = pre1 v 11 k := fun k => e 11 k (by decide) (by decide) (by decide) (by decide) (by decide)
  have e12 : ∀ k, day v 12 k = pre1 v 12 k := fun k => e 12 k (by decide) (by decide) (by decide) (by decide) (by decide)
  have e13 : ∀ k, day v 13 k = pre1 v 13 k := fun k => e 13 k (by decide) (by decide) (by decide) (by decide) (by decide)
  have e15 : ∀ k, day v 15 k = pre1 v 15 k := fun k => e 15 k (by decide) (by decide) (by decide) (by decide) (by decide)
  generalize day v = d at e e9 e11 e12 e13 e15 ⊢
  refine ⟨fun k hk => by rw [e9]; exact h.cb k hk, fun k hk h8 => by rw [e9, e11]; exact h.nb k hk h8, fun k hk => ?_, fun w hw => by rw [e15, e12, e13]; exact h.wa w hw, ?_⟩
  · rw [e11, e9]
    rcases h.fi k hk with y | ⟨y1, y2, h, hh, y3, w, hw, y4, y5, y6⟩
    · exact Or.inl y
    · exact Or.inr ⟨y1, y2, h, hh, y3, w, hw, by rw [e15]; exact y4, by rw [e12]; exact y5, by rw [e13]; exact y6⟩
  · rw [sumI_congr (fun j _ => e11 j), h.su]
    congr 1
    exact sumI_congr fun j _ => by rw [e15]
/-- a sound lake stays one, a night on -/
theorem Lw.next {n : Nat} {v : Vw} (h : Lw (n + 1) v) : Lw n (day v) := by
  obtain ⟨h1, h2, h3, h4, ⟨h5, h6⟩, h7⟩ := h
  have hN := day_n h1.1 h7
  have ht := tt_day h3.1
  have hlim := h3.2
  refine ⟨h1.gD 1, h2.next, ⟨day_Nt h3.1, by omega⟩, fun w hw => ?_, ⟨fun k hk => ?_, fun w hw => ?_⟩, fun c hc => ?_⟩
  · rw [day_W] at hw
    rw [day_ne (by decide) (by decide) (by decide) (by decide) (by decide) (by decide) (by decide) (by decide) (by decide) (by decide)]
    exact h4 w hw
  · rw [day_S] at hk
    obtain ⟨a, ha, ea⟩ := h5 k hk
    obtain ⟨j, hj, ej⟩ := hN.cb k hk
    rw [day_10 hk, ea, ej, nI_add, ht]
    exact ⟨_, by omega, rfl⟩
  · rw [day_W] at hw
    obtain ⟨a, ha, ea⟩ := h6 w hw
    obtain ⟨c, hc, ec⟩ := (hN.wa w hw).1
    rw [ec, ea, nI_add, ht]
    exact ⟨_, by omega, rfl⟩
  · rw [day_ne (by decide) (by decide) (by decide) (by decide) (by decide) (by decide) (by decide) (by decide) (by decide) (by decide)]
    exact h7 c hc
