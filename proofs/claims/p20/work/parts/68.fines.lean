/-! Wardens: how far they go, whom they fine. Pure. -/
theorem cmp_step : ∀ a, a < 9 → ∀ b, b < 9 → nI a + cmp3 (nI b) (nI a) = nI (nI a + cmp3 (nI b) (nI a)).toNatClampNeg ∧ (nI a + cmp3 (nI b) (nI a)).toNatClampNeg < 9 ∧ (nI a + cmp3 (nI b) (nI a)).toNatClampNeg ≤ a + 1 ∧ a ≤ (nI a + cmp3 (nI b) (nI a)).toNatClampNeg + 1 := by decide +kernel
/-- two places at most n apart -/
def Nr (n : Nat) (x y : Int32) : Prop := ∃ a b, a < 9 ∧ b < 9 ∧ x = nI a ∧ y = nI b ∧ b ≤ a + n ∧ a ≤ b + n
theorem Nr.rf {x : Int32} (h : lt9 x) {n : Nat} : Nr n x x := by
  obtain ⟨j, hj, e⟩ := h
  exact ⟨j, j, hj, hj, e, e, by omega, by omega⟩
theorem Nr.nx {n : Nat} {x y z : Int32} (h : Nr n x y) (hz : lt9 z) : Nr (n + 1) x (y + cmp3 z y) := by
  obtain ⟨a, b, ha, hb, rfl, rfl, h1, h2⟩ := h
  obtain ⟨c, hc, rfl⟩ := hz
  obtain ⟨q1, q2, q3, q4⟩ := cmp_step b hb c hc
  exact ⟨a, _, ha, q2, rfl, q1, by omega, by omega⟩
theorem stp_n {w h n : Nat} {r u : Vw} (h3 : lt9 (u 3 h)) (h4 : lt9 (u 4 h)) (ih : Nr n (r 12 w) (u 12 w) ∧ Nr n (r 13 w) (u 13 w)) : Nr (n + 1) (r 12 w) (stp w h u 12 w) ∧ Nr (n + 1) (r 13 w) (stp w h u 13 w) := by
  have e12 : stp w h u 12 w = u 12 w + cmp3 (u 3 h) (u 12 w) := by
    unfold stp
    rw [up2_c (by decide), up2_same]
  have e13 : stp w h u 13 w = u 13 w + cmp3 (u 4 h) (u 13 w) := by
    unfold stp
    rw [up2_same]
  rw [e12, e13]
  exact ⟨ih.1.nx h3, ih.2.nx h4⟩
theorem it_suc {α : Type} {f : Nat → α → α} {n : Nat} {v : α} : it f (n + 1) v = f n (it f n v) := rfl
theorem it_zer {α : Type} {f : Nat → α → α} {v : α} : it f 0 v = v := rfl
theorem movI {w h : Nat} {r : Vw} (h12 : lt9 (r 12 w)) (h13 : lt9 (r 13 w)) (h3 : lt9 (r 3 h)) (h4 : lt9 (r 4 h)) (n : Nat) : Nr n (r 12 w) (it (fun _ u => stp w h u) n r 12 w) ∧ Nr n (r 13 w) (it (fun _ u => stp w h u) n r 13 w) := by
  induction n with
  | zero =>
    rw [it_zer]
    exact ⟨Nr.rf h12, Nr.rf h13⟩
  | succ n ih =>
    have e3 : it (fun _ u => stp w h u) n r 3 h = r 3 h := it_keep (f := fun _ u => stp w h u) (fun _ _ => stp_ne (by decide) (by decide)) n r
    have e4 : it (fun _ u => stp w h u) n r 4 h = r 4 h := it_keep (f := fun _ u => stp w h u) (fun _ _ => stp_ne (by decide) (by decide)) n r
    rw [it_suc]
    exact stp_n (u := it (fun _ u => stp w h u) n r) (by rw [e3]; exact h3) (by rw [e4]; exact h4) ih
theorem mov_o {w h w' : Nat} {r : Vw} (hw : w' ≠ w) (c : Nat) : mov w h r c w' = r c w' := by
  refine it_keep (f := fun _ u => stp w h u) (fun k u => ?_) _ r
  show stp w h u c w' = u c w'
  unfold stp
  rw [up2_i hw, up2_i hw]
theorem ovr_iff {v : Vw} {h k : Nat} : ovr v h k = true ↔ v 8 k = nI h ∧ v 6 k < v 9 k := by
  unfold ovr
  rw [Bool.and_eq_true, decide_eq_true_eq, decide_eq_true_eq]
theorem finI_f {w h c : Nat} {r : Vw} : ∀ m, ∃ n, n ≤ m ∧ it (fin1 w h c) m r 15 w = r 15 w + nI n ∧ (∀ w', w' ≠ w → it (fin1 w h c) m r 15 w' = r 15 w') ∧ (∀ N, m ≤ N → sumI (it (fin1 w h c) m r 11) N = sumI (r 11) N + nI n) ∧ ∀ k, (it (fin1 w h c) m r 11 k = r 11 k ∧ it (fin1 w h c) m r 9 k = r 9 k) ∨ (k < m ∧ it (fin1 w h c) m r 11 k = r 11 k + 1 ∧ it (fin1 w h c) m r 9 k = r 6 k ∧ r 8 k = nI h ∧ r 6 k < r 9 k ∧ 1 ≤ n)
  | 0 => ⟨0, Nat.le_refl _, (Int32.add_zero _).symm, fun _ _ => rfl, fun _ _ => (Int32.add_zero _).symm, fun _ => Or.inl ⟨rfl, rfl⟩⟩
  | m + 1 => by
    obtain ⟨n, h1, h2, h3, h4, h5⟩ := finI_f (w := w) (h := h) (c := c) (r := r) m
    have e8 : ∀ k, it (fin1 w h c) m r 8 k = r 8 k := fun k => it_keep (f := fin1 w h c) (fun _ _ => fin1_ne (by decide) (by decide) (by decide) (by decide)) m r
    have e6 : ∀ k, it (fin1 w h c) m r 6 k = r 6 k := fun k => it_keep (f := fin1 w h c) (fun _ _ => fin1_ne (by decide) (by decide) (by decide) (by decide)) m r
    show ∃ n, n ≤ m + 1 ∧ fin1 w h c m (it (fin1 w h c) m r) 15 w = r 15 w + nI n ∧ (∀ w', w' ≠ w → fin1 w h c m (it (fin1 w h c) m r) 15 w' = r 15 w') ∧ (∀ N, m + 1 ≤ N → sumI (fin1 w h c m (it (fin1 w h c) m r) 11) N = sumI (r 11) N + nI n) ∧ ∀ k, (fin1 w h c m (it (fin1 w h c) m r) 11 k = r 11 k ∧ fin1 w h c m (it (fin1 w h c) m r) 9 k = r 9 k) ∨ (k < m + 1 ∧ fin1 w h c m (it (fin1 w h c) m r) 11 k = r 11 k + 1 ∧ fin1 w h c m (it (fin1 w h c) m r) 9 k = r 6 k ∧ r 8 k = nI h ∧ r 6 k < r 9 k ∧ 1 ≤ n)
    generalize it (fin1 w h c) m r = u at h2 h3 h4 h5 e8 e6 ⊢
    unfold fin1
    by_cases q : ovr u h m = true
    · rw [if_pos q]
      have qq := ovr_iff.mp q
      rw [e8, e6] at qq
      have em : u 11 m = r 11 m ∧ u 9 m = r 9 m := by
        rcases h5 m with z | z
        · exact z
        · exact absurd z.1 (Nat.lt_irrefl _)
      refine ⟨n + 1, by omega, ?_, fun w' hw => ?_, fun N hN => ?_, fun k => ?_⟩
      · rw [up2_same]
        repeat rw [up2_c (by decide)]
        rw [h2, Int32.add_assoc, nI_1]
      · rw [up2_i hw, up2_c (by decide), up2_c (by decide), up2_c (by decide)]
        exact h3 w' hw
      · rw [sumI_one (f := u 11) (x := 1) (k := m) (by omega) ?_ (fun j hj => ?_), h4 N (by omega), Int32.add_assoc, nI_1]
        · rw [up2_c (by decide), up2_same]
          repeat rw [up2_c (by decide)]
        · rw [up2_c (by decide), up2_i hj, up2_c (by decide), up2_c (by decide)]
      · by_cases z : k = m
        · subst z
          right
          refine ⟨Nat.lt_succ_self _, ?_, ?_, qq.1, by rw [← em.2]; exact qq.2, by omega⟩
          · rw [up2_c (by decide), up2_same]
            repeat rw [up2_c (by decide)]
            rw [em.1]
          · rw [up2_c (by decide), up2_c (by decide), up2_same]
            repeat rw [up2_c (by decide)]
            rw [e6]
        · rw [up2_c (by decide), up2_i z, up2_c (by decide), up2_c (by decide), up2_c (by decide), up2_c (by decide), up2_i z, up2_c (by decide)]
          rcases h5 k with y | y
          · exact Or.inl y
          · exact Or.inr ⟨by omega, y.2.1, y.2.2.1, y.2.2.2.1, y.2.2.2.2.1, by omega⟩
    · rw [if_neg q]
      refine ⟨n, by omega, h2, h3, fun N hN => h4 N (by omega), fun k => ?_⟩
      rcases h5 k with y | y
      · exact Or.inl y
      · exact Or.inr ⟨by omega, y.2⟩
theorem far_0 {a b x y : Int32} (ha : lt9 a) (hb : lt9 b) (hx : lt9 x) (hy : lt9 y) (h : ¬ 0 < far a b x y) : a = x ∧ b = y := by
  obtain ⟨a, ha, rfl⟩ := ha
  obtain ⟨b, hb, rfl⟩ := hb
  obtain ⟨x, hx, rfl⟩ := hx
  obtain ⟨y, hy, rfl⟩ := hy
  rw [far_nI (by omega) (by omega) (by omega) (by omega)] at h
  have e : ¬ 0 < max (dst a x) (dst b y) := fun z => h ((nI_ltI (a := 0) (by decide) (by unfold dst; omega)).mpr z)
  have e1 : dst a x = 0 := by omega
  have e2 : dst b y = 0 := by omega
  unfold dst at e1 e2
  exact ⟨by congr 1; omega, by congr 1; omega⟩
/-- one warden's night -/
theorem gua_f {w : Nat} {q : Vw} (hv : Inv q) (hw : w < nW q) : ∃ n, n ≤ 8 ∧ gua w q 15 w = q 15 w + nI n ∧ (∀ w', w' ≠ w → gua w q 15 w' = q 15 w' ∧ gua w q 12 w' = q 12 w' ∧ gua w q 13 w' = q 13 w') ∧ sumI (gua w q 11) (nS q) = sumI (q 11) (nS q) + nI n ∧ (∀ k, (gua w q 11 k = q 11 k ∧ gua w q 9 k = q 9 k) ∨ (k < nS q ∧ gua w q 11 k = q 11 k + 1 ∧ gua w q 9 k = q 6 k ∧ q 6 k < q 9 k ∧ 1 ≤ n ∧ ∃ h, h < nH q ∧ q 8 k = nI h ∧ gua w q 12 w = q 3 h ∧ gua w q 13 w = q 4 h)) ∧ Nr (q 14 w).toNatClampNeg (q 12 w) (gua w q 12 w) ∧ Nr (q 14 w).toNatClampNeg (q 13 w) (gua w q 13 w) := by
  have hS := hv.lS
  have hW := hv.hW w hw
  unfold gua
  by_cases g : gol q w = -1
  · rw [if_pos g]
    exact ⟨0, by omega, (Int32.add_zero _).symm, fun _ _ => ⟨rfl, rfl, rfl⟩, (Int32.add_zero _).symm, fun _ => Or.inl ⟨rfl, rfl⟩, Nr.rf hW.1, Nr.rf hW.2⟩
  · rw [if_neg g]
    have hg := (gol_of hv g).2
    generalize (gol q w).toNatClampNeg = h at hg ⊢
    have hh := hv.hH h hg
    obtain ⟨m1, m2⟩ := movI (w := w) (h := h) hW.1 hW.2 hh.1 hh.2.1 (q 14 w).toNatClampNeg
    have m1 : Nr (q 14 w).toNatClampNeg (q 12 w) (mov w h q 12 w) := m1
    have m2 : Nr (q 14 w).toNatClampNeg (q 13 w) (mov w h q 13 w) := m2
    have mo : ∀ w', w' ≠ w → ∀ c, mov w h q c w' = q c w' := fun w' z c => mov_o z c
    have mc : ∀ c i, c ≠ 12 → c ≠ 13 → mov w h q c i = q c i := fun c i a b => mov_ne a b
    have iv := mov_inv (w := w) hg hv
    have nw : nW (mov w h q) = nW q := nW_mov
    generalize mov w h q = r at m1 m2 mo mc iv nw ⊢
    by_cases f : 0 < farW r w h
    · rw [if_pos f]
      refine ⟨0, by omega, ?_, fun w' z => ⟨mo w' z _, mo w' z _, mo w' z _⟩, ?_, fun k => Or.inl ⟨mc _ _ (by decide) (by decide), mc _ _ (by decide) (by decide)⟩, m1, m2⟩
      · rw [mc _ _ (by decide) (by decide)]; exact (Int32.add_zero _).symm
      · rw [sumI_congr (fun j _ => mc 11 j (by decide) (by decide))]; exact (Int32.add_zero _).symm
    · rw [if_neg f]
      have e12 : finA w h r 12 w = r 12 w := finA_ne (by decide) (by decide) (by decide) (by decide)
      have e13 : finA w h r 13 w = r 13 w := finA_ne (by decide) (by decide) (by decide) (by decide)
      have es : nS r = nS q := by unfold nS; rw [mc _ _ (by decide) (by decide)]
      obtain ⟨n, n1, n2, n3, n4, n5⟩ := finI_f (w := w) (h := h) (c := cl r h) (r := r) (nS r)
      have hf : finA w h r = it (fin1 w h (cl r h)) (nS r) r := rfl
      have c3 : r 3 h = q 3 h := mc _ _ (by decide) (by decide)
      have c4 : r 4 h = q 4 h := mc _ _ (by decide) (by decide)
      have at0 := far_0 (iv.hW w (by rw [nw]; exact hw)).1 (iv.hW w (by rw [nw]; exact hw)).2 (by rw [c3]; exact hh.1) (by rw [c4]; exact hh.2.1) f
      rw [← hf] at n2 n3 n4 n5
      refine ⟨n, by omega, ?_, fun w' z => ⟨?_, ?_, ?_⟩, ?_, fun k => ?_, by rw [e12]; exact m1, by rw [e13]; exact m2⟩
      · rw [n2, mc _ _ (by decide) (by decide)]
      · rw [n3 w' z, mo w' z]
      · rw [finA_ne (by decide) (by decide) (by decide) (by decide), mo w' z]
      · rw [finA_ne (by decide) (by decide) (by decide) (by decide), mo w' z]
      · rw [n4 _ (by omega), sumI_congr (fun j _ => mc 11 j (by decide) (by decide))]
      · rcases n5 k with y | ⟨y1, y2, y3, y4, y5, y6⟩
        · left
          rw [y.1, y.2, mc _ _ (by decide) (by decide), mc _ _ (by decide) (by decide)]
          exact ⟨rfl, rfl⟩
        · right
          rw [y2, y3, e12, e13, mc 11 _ (by decide) (by decide), mc 6 _ (by decide) (by decide)]
          rw [mc 8 _ (by decide) (by decide)] at y4
          rw [mc 6 _ (by decide) (by decide), mc 9 _ (by decide) (by decide)] at y5
          exact ⟨by omega, rfl, rfl, y5, y6, h, hg, y4, by rw [at0.1, c3], by rw [at0.2, c4]⟩
