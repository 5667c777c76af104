/-! What a night leaves alone, and that a lake stays one. Pure. -/
theorem imin_nI {a b : Nat} (ha : a < 2 ^ 31) (hb : b < 2 ^ 31) : imin (nI a) (nI b) = nI (min a b) := by
  unfold imin
  by_cases h : b < a
  · rw [if_pos ((nI_ltI hb ha).mpr h), Nat.min_eq_right (by omega)]
  · rw [if_neg (fun q => h ((nI_ltI hb ha).mp q)), Nat.min_eq_left (by omega)]
theorem imax_nI {a b : Nat} (ha : a < 2 ^ 31) (hb : b < 2 ^ 31) : imax (nI a) (nI b) = nI (max a b) := by
  unfold imax
  by_cases h : a < b
  · rw [if_pos ((nI_ltI ha hb).mpr h), Nat.max_eq_right (by omega)]
  · rw [if_neg (fun q => h ((nI_ltI ha hb).mp q)), Nat.max_eq_left (by omega)]
def dst (a b : Nat) : Nat := (a - b) + (b - a)
theorem iabs_nI {a b : Nat} (ha : a < 2 ^ 30) (hb : b < 2 ^ 30) : iabs (nI a - nI b) = nI (dst a b) := by
  unfold iabs dst
  by_cases h : b ≤ a
  · rw [pk_sub h, if_pos (nI_pos' (by omega))]
    congr 1; omega
  · rw [if_neg, show (0 : Int32) - (nI a - nI b) = nI b - nI a from by rw [Int32.zero_sub, Int32.neg_sub], pk_sub (by omega)]
    · congr 1; omega
    · rw [Int32.le_iff_toInt_le, Int32.toInt_zero, pk_sub_toInt ha hb]; omega
theorem far_nI {a b x y : Nat} (ha : a < 2 ^ 30) (hb : b < 2 ^ 30) (hx : x < 2 ^ 30) (hy : y < 2 ^ 30) : far (nI a) (nI b) (nI x) (nI y) = nI (max (dst a x) (dst b y)) := by
  unfold far
  rw [iabs_nI ha hx, iabs_nI hb hy, imax_nI (by unfold dst; omega) (by unfold dst; omega)]
theorem imin_assoc (x y z : Int32) : imin x (imin y z) = imin (imin x y) z := by
  unfold imin
  by_cases h1 : z < y <;> by_cases h2 : y < x <;> by_cases h3 : z < x <;> simp only [h1, h2, h3, if_true, if_false] <;> (simp only [Int32.lt_iff_toInt_lt] at h1 h2 h3; exfalso; omega)
theorem mvc_ne {c own : Nat} {v : Vw} {k i : Nat} (h : k ≠ 0) : mvc c own v k i = v k i := by simp [mvc, up2, h]
theorem lurC_ne {own : Nat} {x y lt : Int32} {c : Nat} {v : Vw} {k i : Nat} (h : k ≠ 0) : lurC own x y lt c v k i = v k i := by
  unfold lurC
  split
  · rfl
  · exact mvc_ne h
theorem lurA_ne {q : Nat} {lt : Int32} {v : Vw} {k i : Nat} (h : k ≠ 0) : lurA q lt v k i = v k i := it_keep (fun _ _ => lurC_ne h) _ _
theorem lur_ne {s : Nat} {v : Vw} {k i : Nat} (h : k ≠ 0) : lur s v k i = v k i := by
  unfold lur
  split
  · rfl
  · exact lurA_ne h
theorem spr_ne {s : Nat} {v : Vw} {k i : Nat} (h : k ≠ 0) (h9 : k ≠ 9) : spr s v k i = v k i := by
  unfold spr
  split <;> simp [up2, h, h9]
theorem fin1_ne {w h c s : Nat} {v : Vw} {k i : Nat} (h0 : k ≠ 0) (h9 : k ≠ 9) (h11 : k ≠ 11) (h15 : k ≠ 15) : fin1 w h c s v k i = v k i := by
  unfold fin1
  split
  · simp [up2, h0, h9, h11, h15]
  · rfl
theorem finA_ne {w h : Nat} {v : Vw} {k i : Nat} (h0 : k ≠ 0) (h9 : k ≠ 9) (h11 : k ≠ 11) (h15 : k ≠ 15) : finA w h v k i = v k i := it_keep (fun _ _ => fin1_ne h0 h9 h11 h15) _ _
theorem gua_ne {w : Nat} {v : Vw} {k i : Nat} (h0 : k ≠ 0) (h9 : k ≠ 9) (h11 : k ≠ 11) (h12 : k ≠ 12) (h13 : k ≠ 13) (h15 : k ≠ 15) : gua w v k i = v k i := by
  unfold gua
  split
  · rfl
  · split
    · exact mov_ne h12 h13
    · exact (finA_ne h0 h9 h11 h15).trans (mov_ne h12 h13)
theorem kep_ne {s : Nat} {v : Vw} {k i : Nat} (h : k ≠ 10) : kep s v k i = v k i := by simp [kep, up2, h]
theorem bre_ne {s : Nat} {v : Vw} {k i : Nat} (h : k ≠ 0) : bre s v k i = v k i := by
  unfold bre
  split
  · simp [up2, h]
  · rfl
theorem frz_ne {v : Vw} {k i : Nat} (h5 : k ≠ 5) (h8 : k ≠ 8) (h16 : ¬ (k = 16 ∧ i = 3)) : frz v k i = v k i := by simp [frz, h5, h8, h16]
theorem lam_ne {v : Vw} {k i : Nat} (h : k ≠ 0) : lam v k i = v k i := it_keep (fun _ _ => lur_ne h) _ _
theorem spe_ne {v : Vw} {k i : Nat} (h : k ≠ 0) (h9 : k ≠ 9) : spe v k i = v k i := it_keep (fun _ _ => spr_ne h h9) _ _
theorem sen_ne {v : Vw} {k i : Nat} (h0 : k ≠ 0) (h9 : k ≠ 9) (h11 : k ≠ 11) (h12 : k ≠ 12) (h13 : k ≠ 13) (h15 : k ≠ 15) : sen v k i = v k i := it_keep (fun _ _ => gua_ne h0 h9 h11 h12 h13 h15) _ _
theorem kepA_ne {v : Vw} {k i : Nat} (h : k ≠ 10) : kepA v k i = v k i := it_keep (fun _ _ => kep_ne h) _ _
theorem breA_ne {v : Vw} {k i : Nat} (h : k ≠ 0) : breA v k i = v k i := it_keep (fun _ _ => bre_ne h) _ _
theorem Inv.step {v u : Vw} (hv : Inv v) (h0 : u 16 0 = v 16 0) (h1 : u 16 1 = v 16 1) (h2 : u 16 2 = v 16 2) (h3 : ∀ i, u 3 i = v 3 i) (h4 : ∀ i, u 4 i = v 4 i) (h5 : ∀ i, i < nH v → u 5 i = v 5 i ∨ u 5 i = 0) (h6 : ∀ i, u 6 i = v 6 i) (h7 : ∀ i, u 7 i = v 7 i) (h8 : ∀ k, k < nS v → u 8 k = v 8 k ∨ u 8 k = -1) (h9 : ∀ k, k < nS v → ∃ j : Nat, j ≤ 60 ∧ u 9 k = nI j) (hw : ∀ w, w < nW v → IW u w) (hc : ∀ c, c < 81 → IC u c) : Inv u := by
  have eH : nH u = nH v := by unfold nH; rw [h0]
  have eS : nS u = nS v := by unfold nS; rw [h1]
  have eW : nW u = nW v := by unfold nW; rw [h2]
  refine ⟨⟨by rw [h0, eH]; exact hv.eH, by rw [eH]; exact hv.lH⟩, ⟨by rw [h1, eS]; exact hv.eS, by rw [eS]; exact hv.lS⟩, ⟨by rw [h2, eW]; exact hv.eW, by rw [eW]; exact hv.lW⟩, ?_, ?_, ?_, hc⟩
  · intro i hi
    rw [eH] at hi
    obtain ⟨a, b, c⟩ := hv.hH i hi
    refine ⟨by rw [h3]; exact a, by rw [h4]; exact b, ?_⟩
    rcases h5 i hi with q | q
    · rw [q]; exact c
    · exact Or.inl q
  · intro k hk
    rw [eS] at hk
    obtain ⟨a, b, c, d⟩ := hv.hS k hk
    refine ⟨?_, by rw [h7]; exact b, by rw [h6]; exact c, h9 k hk⟩
    rw [eH]
    rcases h8 k hk with q | q
    · rw [q]; exact a
    · exact Or.inl q
  · intro w h
    rw [eW] at h
    exact hw w h
/-- only the eels of cells change -/
theorem Inv.eels {v u : Vw} (hv : Inv v) (h : ∀ c i, c ≠ 0 → u c i = v c i) (hc : ∀ c, c < 81 → IC u c) : Inv u :=
  hv.step (h _ _ (by decide)) (h _ _ (by decide)) (h _ _ (by decide)) (fun _ => h _ _ (by decide)) (fun _ => h _ _ (by decide)) (fun _ _ => Or.inl (h _ _ (by decide))) (fun _ => h _ _ (by decide)) (fun _ => h _ _ (by decide)) (fun _ _ => Or.inl (h _ _ (by decide))) (fun k hk => by rw [h _ _ (by decide)]; exact (hv.hS k hk).2.2.2) (fun w hw => ⟨by rw [h _ _ (by decide)]; exact (hv.hW w hw).1, by rw [h _ _ (by decide)]; exact (hv.hW w hw).2⟩) hc
theorem come_nI {v : Vw} {c own a b : Nat} (ha : a ≤ 60) (hb : b ≤ 60) (ea : v 0 c = nI a) (eb : v 0 own = nI b) : come v c own = nI (min (min 2 a) (60 - b)) := by
  unfold come
  rw [ea, eb, show (2 : Int32) = nI 2 from rfl, show (60 : Int32) = nI 60 from rfl, pk_sub hb, imin_nI (by decide) (by omega), imin_nI (by omega) (by omega)]
theorem mvc_IC {v : Vw} {c own : Nat} (hne : c ≠ own) (hc : IC v c) (ho : IC v own) : ∀ i, IC v i → IC (mvc c own v) i := by
  intro i hi
  obtain ⟨a, ha, ea⟩ := hc
  obtain ⟨b, hb, eb⟩ := ho
  have e := come_nI ha hb ea eb
  unfold IC mvc
  by_cases h1 : i = own
  · subst h1
    rw [up2_same, up2_i (Ne.symm hne), e, eb, nI_add]
    exact ⟨_, by omega, rfl⟩
  · rw [up2_i h1]
    by_cases h2 : i = c
    · subst h2
      rw [up2_same, e, ea, pk_sub (by omega)]
      exact ⟨_, by omega, rfl⟩
    · rw [up2_i h2]; exact hi
theorem lurC_inv {own : Nat} (ho : own < 81) {x y lt : Int32} {c : Nat} {v : Vw} (hc : c < 81) (hv : Inv v) : Inv (lurC own x y lt c v) := by
  refine hv.eels (fun k i h => lurC_ne h) (fun i hi => ?_)
  unfold lurC
  split
  · exact hv.hC i hi
  · rename_i h
    exact mvc_IC (fun q => h (Or.inl q)) (hv.hC c hc) (hv.hC own ho) i (hv.hC i hi)
theorem cl_lt {v : Vw} (hv : Inv v) {h : Nat} (hh : h < nH v) : cl v h < 81 := by
  have a := lt9_cl (hv.hH h hh).1
  have b := lt9_cl (hv.hH h hh).2.1
  unfold cl
  omega
theorem cl_eq {v : Vw} (hv : Inv v) {h : Nat} (hh : h < nH v) : 9 * v 4 h + v 3 h = nI (cl v h) := by
  have a := lt9_cl (hv.hH h hh).1
  have b := lt9_cl (hv.hH h hh).2.1
  unfold cl
  rw [a.1, b.1, nI_clamp (by omega), nI_clamp (by omega)]
  exact cell_nI _ _
theorem lurI_inv {v : Vw} {own : Nat} (ho : own < 81) {x y lt : Int32} (hv : Inv v) : ∀ n, n ≤ 81 → Inv (it (lurC own x y lt) n v) := fun n hn => it_inv (P := Inv) (fun _ _ hk h => lurC_inv ho hk h) n v hn hv
theorem lurA_inv {v : Vw} (hv : Inv v) {h : Nat} (hh : h < nH v) {lt : Int32} : Inv (lurA h lt v) := lurI_inv (cl_lt hv hh) hv 81 (Nat.le_refl _)
theorem m1_ne (n : Nat) (hn : n < 2 ^ 31) : ¬ nI n = -1 := by
  intro h
  have := congrArg Int32.toInt h
  rw [nI_toInt hn] at this
  have e : (-1 : Int32).toInt = -1 := by decide
  rw [e] at this
  omega
/-- where a spearer is: nowhere, or at the hole of that number -/
theorem hol_of {v : Vw} (hv : Inv v) {k : Nat} (hk : k < nS v) (h : ¬ v 8 k = -1) : v 8 k = nI (hol v k) ∧ hol v k < nH v := by
  rcases (hv.hS k hk).1 with q | ⟨j, hj, q⟩
  · exact absurd q h
  · unfold hol
    have := hv.lH
    rw [q, nI_clamp (by omega)]
    exact ⟨rfl, hj⟩
theorem has_t {v : Vw} (hv : Inv v) {h : Nat} (hh : h < nH v) : isIn (nI h) 0 (v 16 0 - 1) = true := by
  have := hv.lH
  rw [hv.eH, isIn_iff, Int32.toInt_zero, nI_toInt (by omega)]
  rw [show nI (nH v) - 1 = nI (nH v - 1) from by rw [show (1 : Int32) = nI 1 from rfl]; exact pk_sub (by omega), nI_toInt (by omega)]
  omega
theorem has_f {x hi : Int32} (h : x = -1) : isIn x 0 hi = false := by
  rw [h]; rfl
theorem has_iff {v : Vw} (hv : Inv v) {k : Nat} (hk : k < nS v) (h : isIn (v 8 k) 0 (v 16 0 - 1) = true) : ¬ v 8 k = -1 := fun q => by rw [has_f q] at h; cases h
theorem has_no {v : Vw} (hv : Inv v) {k : Nat} (hk : k < nS v) (h : isIn (v 8 k) 0 (v 16 0 - 1) = false) : v 8 k = -1 := by
  by_cases q : v 8 k = -1
  · exact q
  · have z := hol_of hv hk q
    rw [z.1, has_t hv z.2] at h
    cases h
theorem lur_inv {v : Vw} {k : Nat} (hk : k < nS v) (hv : Inv v) : Inv (lur k v) := by
  unfold lur
  split
  · exact hv
  · rename_i h
    exact lurA_inv hv (hol_of hv hk h).2
theorem nS_lur {k : Nat} {v : Vw} : nS (lur k v) = nS v := by unfold nS; rw [lur_ne (by decide)]
theorem lamI_inv {v : Vw} (hv : Inv v) : ∀ n, n ≤ nS v → Inv (it lur n v) ∧ nS (it lur n v) = nS v := fun n hn => it_inv (P := fun u => Inv u ∧ nS u = nS v) (fun k u hk h => ⟨lur_inv (by rw [h.2]; exact hk) h.1, nS_lur.trans h.2⟩) n v hn ⟨hv, rfl⟩
theorem lam_inv {v : Vw} (hv : Inv v) : Inv (lam v) := (lamI_inv hv _ (Nat.le_refl _)).1
theorem would_le {v : Vw} {c a : Nat} (ha : a ≤ 60) (e : v 0 c = nI a) : ∃ j : Nat, j ≤ a ∧ would v c = nI j := by
  unfold would
  rw [e]
  generalize nI a / 2 + 1 - v 1 c = z
  unfold imax imin
  by_cases h : z < nI a
  · rw [if_pos h]
    by_cases h0 : (0 : Int32) < z
    · rw [if_pos h0]
      obtain ⟨j, hj, rfl⟩ := nI_of (x := z) (by rw [Int32.lt_iff_toInt_lt] at h0 ⊢; omega)
      exact ⟨j, by have := (nI_ltI hj (by omega)).mp h; omega, rfl⟩
    · rw [if_neg h0]; exact ⟨0, by omega, rfl⟩
  · rw [if_neg h]
    split
    · exact ⟨a, Nat.le_refl _, rfl⟩
    · exact ⟨0, by omega, rfl⟩
theorem spr_inv {v : Vw} {k : Nat} (hk : k < nS v) (hv : Inv v) : Inv (spr k v) := by
  have hS := hv.lS
  have hIC : ∀ c, c < 81 → IC (spr k v) c := by
    intro c hc
    unfold spr
    split
    · unfold IC; rw [up2_c (by decide)]; exact hv.hC c hc
    · rename_i h
      have hh := (hol_of hv hk h).2
      obtain ⟨a, ha, ea⟩ := hv.hC _ (cl_lt hv hh)
      obtain ⟨j, hj, ej⟩ := would_le ha ea
      unfold IC
      by_cases hcc : c = cl v (hol v k)
      · subst hcc
        rw [up2_same, ea, ej, pk_sub hj]
        exact ⟨_, by omega, rfl⟩
      · rw [up2_i hcc, up2_c (by decide), up2_c (by decide)]
        exact hv.hC c hc
  have h9 : ∀ i, i < nS v → ∃ j : Nat, j ≤ 60 ∧ spr k v 9 i = nI j := by
    intro i hi
    unfold spr
    split
    · by_cases hik : i = k
      · subst hik; rw [up2_same]; exact ⟨0, by omega, rfl⟩
      · rw [up2_i hik]; exact (hv.hS i hi).2.2.2
    · rename_i h
      have hh := (hol_of hv hk h).2
      obtain ⟨a, ha, ea⟩ := hv.hC _ (cl_lt hv hh)
      obtain ⟨j, hj, ej⟩ := would_le ha ea
      rw [up2_c (by decide)]
      by_cases hik : i = k
      · subst hik; rw [up2_same]; exact ⟨j, by omega, ej⟩
      · rw [up2_i hik, up2_i hik]; exact (hv.hS i hi).2.2.2
  exact hv.step (spr_ne (by decide) (by decide)) (spr_ne (by decide) (by decide)) (spr_ne (by decide) (by decide)) (fun _ => spr_ne (by decide) (by decide)) (fun _ => spr_ne (by decide) (by decide)) (fun _ _ => Or.inl (spr_ne (by decide) (by decide))) (fun _ => spr_ne (by decide) (by decide)) (fun _ => spr_ne (by decide) (by decide)) (fun _ _ => Or.inl (spr_ne (by decide) (by decide))) h9 (fun w hw => ⟨by rw [spr_ne (by decide) (by decide)]; exact (hv.hW w hw).1, by rw [spr_ne (by decide) (by decide)]; exact (hv.hW w hw).2⟩) hIC
theorem nS_spr {k : Nat} {v : Vw} : nS (spr k v) = nS v := by unfold nS; rw [spr_ne (by decide) (by decide)]
theorem speI_inv {v : Vw} (hv : Inv v) : ∀ n, n ≤ nS v → Inv (it spr n v) ∧ nS (it spr n v) = nS v := fun n hn => it_inv (P := fun u => Inv u ∧ nS u = nS v) (fun k u hk h => ⟨spr_inv (by rw [h.2]; exact hk) h.1, nS_spr.trans h.2⟩) n v hn ⟨hv, rfl⟩
theorem spe_inv {v : Vw} (hv : Inv v) : Inv (spe v) := (speI_inv hv _ (Nat.le_refl _)).1
theorem cmp_lt9 {x y : Int32} (hx : lt9 x) (hy : lt9 y) : lt9 (x + cmp3 y x) := by
  obtain ⟨a, ha, rfl⟩ := hx
  obtain ⟨b, hb, rfl⟩ := hy
  unfold cmp3
  by_cases h : nI b < nI a
  · rw [if_pos h]
    have := (nI_ltI (by omega) (by omega)).mp h
    refine ⟨a - 1, by omega, ?_⟩
    rw [show nI a = nI (a - 1 + 1) from by congr 1; omega]
    exact pk_m1 _
  · rw [if_neg h]
    have h1 : a ≤ b := by rcases Nat.lt_or_ge b a with q | q; exact absurd ((nI_ltI (by omega) (by omega)).mpr q) h; exact q
    by_cases h2 : nI b = nI a
    · rw [if_pos h2, Int32.add_zero]; exact ⟨a, ha, rfl⟩
    · rw [if_neg h2]
      have h3 : a ≠ b := fun q => h2 (by rw [q])
      exact ⟨a + 1, by omega, nI_1 a⟩
theorem stp_inv {w h : Nat} {v : Vw} (hh : h < nH v) (hv : Inv v) : Inv (stp w h v) := by
  have e : ∀ c i, c ≠ 12 → c ≠ 13 → stp w h v c i = v c i := fun c i a b => stp_ne a b
  refine hv.step (e _ _ (by decide) (by decide)) (e _ _ (by decide) (by decide)) (e _ _ (by decide) (by decide)) (fun _ => e _ _ (by decide) (by decide)) (fun _ => e _ _ (by decide) (by decide)) (fun _ _ => Or.inl (e _ _ (by decide) (by decide))) (fun _ => e _ _ (by decide) (by decide)) (fun _ => e _ _ (by decide) (by decide)) (fun _ _ => Or.inl (e _ _ (by decide) (by decide))) (fun k hk => by rw [e _ _ (by decide) (by decide)]; exact (hv.hS k hk).2.2.2) (fun u hu => ?_) (fun c hc => by unfold IC; rw [e _ _ (by decide) (by decide)]; exact hv.hC c hc)
  have a := hv.hW u hu
  have b := hv.hH h hh
  unfold IW stp
  by_cases huw : u = w
  · subst huw
    rw [up2_c (by decide), up2_same, up2_same]
    exact ⟨cmp_lt9 a.1 b.1, cmp_lt9 a.2 b.2.1⟩
  · rw [up2_c (by decide), up2_i huw, up2_i huw, up2_c (by decide)]
    exact a
theorem nH_stp {w h : Nat} {v : Vw} : nH (stp w h v) = nH v := by unfold nH; rw [stp_ne (by decide) (by decide)]
theorem mov_inv {w h : Nat} {v : Vw} (hh : h < nH v) (hv : Inv v) : Inv (mov w h v) := (it_inv (N := (v 14 w).toNatClampNeg) (P := fun u => Inv u ∧ nH u = nH v) (fun k u _ q => ⟨stp_inv (by rw [q.2]; exact hh) q.1, nH_stp.trans q.2⟩) _ v (Nat.le_refl _) ⟨hv, rfl⟩).1
theorem nH_mov {w h : Nat} {v : Vw} : nH (mov w h v) = nH v := by unfold nH; rw [mov_ne (by decide) (by decide)]
theorem nS_mov {w h : Nat} {v : Vw} : nS (mov w h v) = nS v := by unfold nS; rw [mov_ne (by decide) (by decide)]
theorem fin1_inv {w h c k : Nat} {v : Vw} (hk : k < nS v) (hc : c < 81) (hv : Inv v) : Inv (fin1 w h c k v) := by
  have e : ∀ i j, i ≠ 0 → i ≠ 9 → i ≠ 11 → i ≠ 15 → fin1 w h c k v i j = v i j := fun i j a b c d => fin1_ne a b c d
  have hIC : ∀ i, i < 81 → IC (fin1 w h c k v) i := by
    intro i hi
    unfold fin1
    split
    · rename_i ho
      unfold IC
      rw [up2_c (by decide), up2_c (by decide), up2_c (by decide)]
      by_cases hic : i = c
      · subst hic
        rw [up2_same]
        obtain ⟨a, ha, ea⟩ := hv.hC i hi
        obtain ⟨p, hp, ep⟩ := (hv.hS k hk).2.2.1
        obtain ⟨q, hq, eq⟩ := (hv.hS k hk).2.2.2
        have hlt : p < q := by
          have h2 : v 6 k < v 9 k := by
            unfold ovr at ho
            rw [Bool.and_eq_true, decide_eq_true_eq, decide_eq_true_eq] at ho
            exact ho.2
          rw [ep, eq] at h2
          exact (nI_ltI (by omega) (by omega)).mp h2
        rw [ea, ep, eq, nI_add, pk_sub (by omega), show (60 : Int32) = nI 60 from rfl, imin_nI (by decide) (by omega)]
        exact ⟨_, by omega, rfl⟩
      · rw [up2_i hic]; exact hv.hC i hi
    · exact hv.hC i hi
  have h9 : ∀ i, i < nS v → ∃ j : Nat, j ≤ 60 ∧ fin1 w h c k v 9 i = nI j := by
    intro i hi
    unfold fin1
    split
    · rw [up2_c (by decide), up2_c (by decide)]
      by_cases hik : i = k
      · subst hik
        rw [up2_same]
        obtain ⟨p, hp, ep⟩ := (hv.hS i hk).2.2.1
        exact ⟨p, by omega, ep⟩
      · rw [up2_i hik, up2_c (by decide)]; exact (hv.hS i hi).2.2.2
    · exact (hv.hS i hi).2.2.2
  exact hv.step (e _ _ (by decide) (by decide) (by decide) (by decide)) (e _ _ (by decide) (by decide) (by decide) (by decide)) (e _ _ (by decide) (by decide) (by decide) (by decide)) (fun _ => e _ _ (by decide) (by decide) (by decide) (by decide)) (fun _ => e _ _ (by decide) (by decide) (by decide) (by decide)) (fun _ _ => Or.inl (e _ _ (by decide) (by decide) (by decide) (by decide))) (fun _ => e _ _ (by decide) (by decide) (by decide) (by decide)) (fun _ => e _ _ (by decide) (by decide) (by decide) (by decide)) (fun _ _ => Or.inl (e _ _ (by decide) (by decide) (by decide) (by decide))) h9 (fun w hw => ⟨by rw [e _ _ (by decide) (by decide) (by decide) (by decide)]; exact (hv.hW w hw).1, by rw [e _ _ (by decide) (by decide) (by decide) (by decide)]; exact (hv.hW w hw).2⟩) hIC
theorem nS_fin1 {w h c k : Nat} {v : Vw} : nS (fin1 w h c k v) = nS v := by unfold nS; rw [fin1_ne (by decide) (by decide) (by decide) (by decide)]
theorem finI_inv {w h c : Nat} {v : Vw} (hc : c < 81) (hv : Inv v) : ∀ n, n ≤ nS v → Inv (it (fin1 w h c) n v) ∧ nS (it (fin1 w h c) n v) = nS v := fun n hn => it_inv (P := fun u => Inv u ∧ nS u = nS v) (fun k u hk q => ⟨fin1_inv (by rw [q.2]; exact hk) hc q.1, nS_fin1.trans q.2⟩) n v hn ⟨hv, rfl⟩
theorem finA_inv {w h : Nat} {v : Vw} (hh : h < nH v) (hv : Inv v) : Inv (finA w h v) := (finI_inv (cl_lt hv hh) hv _ (Nat.le_refl _)).1
theorem golI {v : Vw} {w : Nat} : ∀ n, (it (golS v w) n (-1, 9)).1 = -1 ∨ ∃ h, h < n ∧ (it (golS v w) n (-1, 9)).1 = nI h
  | 0 => Or.inl rfl
  | n + 1 => by
    show (golS v w n (it (golS v w) n (-1, 9))).1 = -1 ∨ ∃ h, h < n + 1 ∧ (golS v w n (it (golS v w) n (-1, 9))).1 = nI h
    unfold golS
    split
    · exact Or.inr ⟨n, by omega, rfl⟩
    · rcases golI (v := v) (w := w) n with q | ⟨h, hh, q⟩
      · exact Or.inl q
      · exact Or.inr ⟨h, by omega, q⟩
theorem gol_of {v : Vw} (hv : Inv v) {w : Nat} (h : ¬ gol v w = -1) : gol v w = nI (gol v w).toNatClampNeg ∧ (gol v w).toNatClampNeg < nH v := by
  rcases golI (v := v) (w := w) (nH v) with q | ⟨j, hj, q⟩
  · exact absurd q h
  · have := hv.lH
    have q : gol v w = nI j := q
    rw [q, nI_clamp (by omega)]
    exact ⟨rfl, hj⟩
theorem gol_t {v : Vw} (hv : Inv v) {w : Nat} (h : isIn (gol v w) 0 (v 16 0 - 1) = true) : ¬ gol v w = -1 := fun q => by rw [has_f q] at h; cases h
theorem gol_f {v : Vw} (hv : Inv v) {w : Nat} (h : isIn (gol v w) 0 (v 16 0 - 1) = false) : gol v w = -1 := by
  by_cases q : gol v w = -1
  · exact q
  · have z := gol_of hv q
    rw [z.1, has_t hv z.2] at h
    cases h
theorem gua_inv {w : Nat} {v : Vw} (hv : Inv v) : Inv (gua w v) := by
  unfold gua
  split
  · exact hv
  · rename_i h
    have z := (gol_of hv h).2
    split
    · exact mov_inv z hv
    · exact finA_inv (by rw [nH_mov]; exact z) (mov_inv z hv)
theorem nW_gua {w : Nat} {v : Vw} : nW (gua w v) = nW v := by unfold nW; rw [gua_ne (by decide) (by decide) (by decide) (by decide) (by decide) (by decide)]
theorem senI_inv {v : Vw} (hv : Inv v) : ∀ n, n ≤ nW v → Inv (it gua n v) := fun n hn => it_inv (P := Inv) (fun k u _ q => gua_inv q) n v hn hv
theorem sen_inv {v : Vw} (hv : Inv v) : Inv (sen v) := senI_inv hv _ (Nat.le_refl _)
theorem kep_inv {k : Nat} {v : Vw} (hv : Inv v) : Inv (kep k v) := by
  have e : ∀ c i, c ≠ 10 → kep k v c i = v c i := fun c i h => kep_ne h
  exact hv.step (e _ _ (by decide)) (e _ _ (by decide)) (e _ _ (by decide)) (fun _ => e _ _ (by decide)) (fun _ => e _ _ (by decide)) (fun _ _ => Or.inl (e _ _ (by decide))) (fun _ => e _ _ (by decide)) (fun _ => e _ _ (by decide)) (fun _ _ => Or.inl (e _ _ (by decide))) (fun k hk => by rw [e _ _ (by decide)]; exact (hv.hS k hk).2.2.2) (fun w hw => ⟨by rw [e _ _ (by decide)]; exact (hv.hW w hw).1, by rw [e _ _ (by decide)]; exact (hv.hW w hw).2⟩) (fun c hc => by unfold IC; rw [e _ _ (by decide)]; exact hv.hC c hc)
theorem kepA_inv {v : Vw} (hv : Inv v) : Inv (kepA v) := it_inv (N := nS v) (P := Inv) (fun k u _ q => kep_inv q) _ v (Nat.le_refl _) hv
theorem bre_inv {k : Nat} (hk : k < 81) {v : Vw} (hv : Inv v) : Inv (bre k v) := by
  refine hv.eels (fun c i h => bre_ne h) (fun c hc => ?_)
  unfold bre
  split
  · rename_i h
    unfold IC
    by_cases hck : c = k
    · subst hck
      rw [up2_same]
      obtain ⟨a, ha, ea⟩ := hv.hC c hc
      rw [isIn_iff, ea, nI_toInt (by omega)] at h
      have h1 : (40 : Int32).toInt = 40 := by decide
      rw [h1] at h
      rw [ea, show (10 : Int32) = nI 10 from rfl, pk_div (by omega) (by decide) (by decide), nI_1, nI_add]
      exact ⟨_, by omega, rfl⟩
    · rw [up2_i hck]; exact hv.hC c hc
  · exact hv.hC c hc
theorem breI_inv {v : Vw} (hv : Inv v) : ∀ n, n ≤ 81 → Inv (it bre n v) := fun n hn => it_inv (P := Inv) (fun k u hk q => bre_inv hk q) n v hn hv
theorem breA_inv {v : Vw} (hv : Inv v) : Inv (breA v) := breI_inv hv 81 (Nat.le_refl _)
theorem frz_inv {v : Vw} (hv : Inv v) : Inv (frz v) := by
  have e : ∀ c i, c ≠ 5 → c ≠ 8 → ¬ (c = 16 ∧ i = 3) → frz v c i = v c i := fun c i a b d => frz_ne a b d
  refine hv.step (e _ _ (by decide) (by decide) (by decide)) (e _ _ (by decide) (by decide) (by decide)) (e _ _ (by decide) (by decide) (by decide)) (fun _ => e _ _ (by decide) (by decide) (by omega)) (fun _ => e _ _ (by decide) (by decide) (by omega)) (fun i _ => ?_) (fun _ => e _ _ (by decide) (by decide) (by omega)) (fun _ => e _ _ (by decide) (by decide) (by omega)) (fun k _ => ?_) (fun k hk => by rw [e _ _ (by decide) (by decide) (by omega)]; exact (hv.hS k hk).2.2.2) (fun w hw => ⟨by rw [e _ _ (by decide) (by decide) (by omega)]; exact (hv.hW w hw).1, by rw [e _ _ (by decide) (by decide) (by omega)]; exact (hv.hW w hw).2⟩) (fun c hc => by unfold IC; rw [e _ _ (by decide) (by decide) (by omega)]; exact hv.hC c hc)
  · unfold frz
    rw [if_neg (by omega)]
    split
    · exact Or.inr rfl
    · rw [if_neg (by omega)]; exact Or.inl rfl
  · unfold frz
    rw [if_neg (by omega), if_neg (by omega)]
    split
    · exact Or.inr rfl
    · exact Or.inl rfl
theorem nig_inv {v : Vw} (hv : Inv v) : Inv (nig v) := by
  have e : ∀ c i, ¬ (c = 16 ∧ i = 4) → nig v c i = v c i := fun c i h => by simp [nig, up2]; intro a b; exact absurd ⟨a, b⟩ h
  exact hv.step (e _ _ (by decide)) (e _ _ (by decide)) (e _ _ (by decide)) (fun _ => e _ _ (by omega)) (fun _ => e _ _ (by omega)) (fun _ _ => Or.inl (e _ _ (by omega))) (fun _ => e _ _ (by omega)) (fun _ => e _ _ (by omega)) (fun _ _ => Or.inl (e _ _ (by omega))) (fun k hk => by rw [e _ _ (by omega)]; exact (hv.hS k hk).2.2.2) (fun w hw => ⟨by rw [e _ _ (by omega)]; exact (hv.hW w hw).1, by rw [e _ _ (by omega)]; exact (hv.hW w hw).2⟩) (fun c hc => by unfold IC; rw [e _ _ (by omega)]; exact hv.hC c hc)
theorem pre1_inv {v : Vw} (hv : Inv v) : Inv (pre1 v) := sen_inv (spe_inv (lam_inv hv))
theorem day_inv {v : Vw} (hv : Inv v) : Inv (day v) := nig_inv (frz_inv (breA_inv (kepA_inv (pre1_inv hv))))
theorem days_inv {v : Vw} (hv : Inv v) (n : Nat) : Inv (days n v) := it_inv (N := n) (P := Inv) (fun _ _ _ q => day_inv q) n v (Nat.le_refl _) hv
def Nt (n : Nat) (v : Vw) : Prop := v 16 4 = nI (tt v) ∧ tt v + n < 2 ^ 30
theorem day_night {v : Vw} : day v 16 4 = v 16 4 + 1 := by
  unfold day nig
  rw [up2_same, frz_ne (by decide) (by decide) (by decide), breA_ne (by decide), kepA_ne (by decide)]
  unfold pre1
  rw [sen_ne (by decide) (by decide) (by decide) (by decide) (by decide) (by decide), spe_ne (by decide) (by decide), lam_ne (by decide)]
theorem day_Nt {n : Nat} {v : Vw} (h : Nt (n + 1) v) : Nt n (day v) := by
  obtain ⟨a, b⟩ := h
  have e : tt (day v) = tt v + 1 := by
    show (day v 16 4).toNatClampNeg = _
    rw [day_night, a, nI_1, nI_clamp (by omega)]
  refine ⟨?_, by rw [e]; omega⟩
  rw [day_night, e, a]
  exact nI_1 _
theorem days_Nt {v : Vw} : ∀ {m n : Nat}, Nt (m + n) v → Nt n (days m v)
  | 0, n, h => by rw [Nat.zero_add] at h; exact h
  | m + 1, n, h => day_Nt (days_Nt (m := m) (n := n + 1) (by rw [show m + (n + 1) = m + 1 + n from by omega]; exact h))
