/-! What a night does, number by number. Pure. -/
theorem sumI_one {f g : Nat → Int32} {x : Int32} : ∀ {n k : Nat}, k < n → g k = f k + x → (∀ j, j ≠ k → g j = f j) → sumI g n = sumI f n + x
  | 0, _, h, _, _ => absurd h (Nat.not_lt_zero _)
  | n + 1, k, h, e, o => by
    show sumI g n + g n = sumI f n + f n + x
    by_cases q : k = n
    · subst q
      rw [sumI_congr (fun j hj => o j (by omega)), e, Int32.add_assoc]
    · rw [sumI_one (by omega) e o, o n (fun z => q z.symm), Int32.add_assoc, Int32.add_comm x, ← Int32.add_assoc]
theorem pre1_ne {v : Vw} {k i : Nat} (h0 : k ≠ 0) (h9 : k ≠ 9) (h11 : k ≠ 11) (h12 : k ≠ 12) (h13 : k ≠ 13) (h15 : k ≠ 15) : pre1 v k i = v k i := by
  unfold pre1
  rw [sen_ne h0 h9 h11 h12 h13 h15, spe_ne h0 h9, lam_ne h0]
def eve (v : Vw) : Vw := breA (kepA (pre1 v))
theorem day_e {v : Vw} : day v = nig (frz (eve v)) := rfl
theorem eve_p {v : Vw} {k i : Nat} (h0 : k ≠ 0) (h10 : k ≠ 10) : eve v k i = pre1 v k i := (breA_ne h0).trans (kepA_ne h10)
theorem day_p {v : Vw} {k i : Nat} (h0 : k ≠ 0) (h5 : k ≠ 5) (h8 : k ≠ 8) (h10 : k ≠ 10) (h16 : k ≠ 16) : day v k i = pre1 v k i := by
  rw [day_e]
  unfold nig
  rw [up2_c h16, frz_ne h5 h8 (fun z => h16 z.1), eve_p h0 h10]
theorem day_ne {v : Vw} {k i : Nat} (h0 : k ≠ 0) (h5 : k ≠ 5) (h8 : k ≠ 8) (h9 : k ≠ 9) (h10 : k ≠ 10) (h11 : k ≠ 11) (h12 : k ≠ 12) (h13 : k ≠ 13) (h15 : k ≠ 15) (h16 : k ≠ 16) : day v k i = v k i := (day_p h0 h5 h8 h10 h16).trans (pre1_ne h0 h9 h11 h12 h13 h15)
theorem kepI {v : Vw} {k : Nat} : ∀ n, it kep n v 10 k = if k < n then v 10 k + v 9 k else v 10 k
  | 0 => by rw [if_neg (Nat.not_lt_zero _)]; rfl
  | n + 1 => by
    show kep n (it kep n v) 10 k = _
    unfold kep
    by_cases q : k = n
    · subst q
      have e := kepI (v := v) (k := k) k
      unfold kep at e
      rw [up2_same, if_pos (Nat.lt_succ_self _)]
      rw [if_neg (Nat.lt_irrefl _)] at e
      rw [e]
      congr 1
      exact it_keep (f := kep) (fun _ _ => kep_ne (by decide)) _ _
    · have e := kepI (v := v) (k := k) n
      unfold kep at e
      rw [up2_i q, e]
      by_cases z : k < n
      · rw [if_pos z, if_pos (by omega)]
      · rw [if_neg z, if_neg (by omega)]
theorem nS_pr {v : Vw} : nS (pre1 v) = nS v := by unfold nS; rw [pre1_ne (by decide) (by decide) (by decide) (by decide) (by decide) (by decide)]
theorem day_10 {v : Vw} {k : Nat} (hk : k < nS v) : day v 10 k = v 10 k + day v 9 k := by
  rw [day_p (k := 9) (by decide) (by decide) (by decide) (by decide) (by decide), day_e]
  unfold nig
  rw [up2_c (by decide), frz_ne (by decide) (by decide) (by omega)]
  unfold eve
  rw [breA_ne (by decide)]
  unfold kepA
  rw [kepI, nS_pr, if_pos hk, pre1_ne (k := 10) (by decide) (by decide) (by decide) (by decide) (by decide) (by decide)]
theorem eve_ne {v : Vw} {k i : Nat} (h0 : k ≠ 0) (h9 : k ≠ 9) (h10 : k ≠ 10) (h11 : k ≠ 11) (h12 : k ≠ 12) (h13 : k ≠ 13) (h15 : k ≠ 15) : eve v k i = v k i := (eve_p h0 h10).trans (pre1_ne h0 h9 h11 h12 h13 h15)
theorem eve_16 {v : Vw} {i : Nat} : eve v 16 i = v 16 i := eve_ne (by decide) (by decide) (by decide) (by decide) (by decide) (by decide) (by decide)
theorem eve_8 {v : Vw} {i : Nat} : eve v 8 i = v 8 i := eve_ne (by decide) (by decide) (by decide) (by decide) (by decide) (by decide) (by decide)
theorem eve_5 {v : Vw} {i : Nat} : eve v 5 i = v 5 i := eve_ne (by decide) (by decide) (by decide) (by decide) (by decide) (by decide) (by decide)
theorem eve_f {v : Vw} : frostN (eve v) = frostN v := by
  unfold frostN tt
  rw [eve_16, eve_ne (by decide) (by decide) (by decide) (by decide) (by decide) (by decide) (by decide)]
theorem eve_i {v : Vw} : iceN (eve v) = iceN v := by
  unfold iceN
  rw [eve_f, eve_16]
theorem eve_H {v : Vw} : nH (eve v) = nH v := by unfold nH; rw [eve_16]
theorem eve_S {v : Vw} : nS (eve v) = nS v := by unfold nS; rw [eve_16]
theorem eve_s {v : Vw} {x : Int32} : spAt (eve v) x = spAt v x := by
  unfold spAt
  rw [eve_S]
  exact sumI_congr fun j _ => by rw [eve_8]
theorem day_5 {v : Vw} {j : Nat} : day v 5 j = if j < nH v ∧ (iceN v < 5 ∨ (0 < frostN v ∧ spAt v (nI j) = 0)) then 0 else v 5 j := by
  rw [day_e]
  unfold nig
  rw [up2_c (by decide)]
  unfold frz
  rw [if_neg (by omega), eve_H, eve_i, eve_f, eve_s, eve_5]
  by_cases h : j < nH v ∧ (iceN v < 5 ∨ (0 < frostN v ∧ spAt v (nI j) = 0))
  · rw [if_pos ⟨rfl, h⟩, if_pos h]
  · rw [if_neg (fun z => h z.2), if_neg (by omega), if_neg h]
theorem day_8 {v : Vw} {j : Nat} : day v 8 j = if j < nS v ∧ iceN v < 5 then -1 else v 8 j := by
  rw [day_e]
  unfold nig
  rw [up2_c (by decide)]
  unfold frz
  rw [if_neg (by omega), if_neg (by omega), eve_S, eve_i, eve_8]
  by_cases h : j < nS v ∧ iceN v < 5
  · rw [if_pos ⟨rfl, h⟩, if_pos h]
  · rw [if_neg (fun z => h z.2), if_neg h]
theorem day_ice {v : Vw} : day v 16 3 = iceN v := by
  rw [day_e]
  unfold nig
  rw [up2_i (by decide)]
  unfold frz
  rw [if_pos ⟨rfl, rfl⟩, eve_i]
theorem day_H {v : Vw} : nH (day v) = nH v := by unfold nH; rw [day_16 (by decide)]
theorem day_S {v : Vw} : nS (day v) = nS v := by unfold nS; rw [day_16 (by decide)]
theorem day_W {v : Vw} : nW (day v) = nW v := by unfold nW; rw [day_16 (by decide)]
theorem tt_day {n : Nat} {v : Vw} (h : Nt (n + 1) v) : tt (day v) = tt v + 1 := by
  have := h.2
  show (day v 16 4).toNatClampNeg = _
  rw [day_night, h.1, nI_1, nI_clamp (by omega)]
theorem Uq.next {v : Vw} (h : Uq v) : Uq (day v) := by
  have key : ∀ i, day v 5 i = 1 → v 5 i = 1 := fun i hi => by
    rw [day_5] at hi
    split at hi
    · exact absurd hi (by decide)
    · exact hi
  intro i j hi hj a b c d
  rw [day_H] at hi hj
  rw [day_ne (by decide) (by decide) (by decide) (by decide) (by decide) (by decide) (by decide) (by decide) (by decide) (by decide), day_ne (by decide) (by decide) (by decide) (by decide) (by decide) (by decide) (by decide) (by decide) (by decide) (by decide)] at c d
  exact h i j hi hj (key i a) (key j b) c d
/-! what is caught -/
theorem w31 : ∀ a, a < 61 → ∀ j, j < 10 → imax 0 (imin (nI a) (nI a / 2 + 1 - nI j)) = nI (imax 0 (imin (nI a) (nI a / 2 + 1 - nI j))).toNatClampNeg ∧ (imax 0 (imin (nI a) (nI a / 2 + 1 - nI j))).toNatClampNeg < 32 := by decide +kernel
theorem would_31 {v : Vw} {c : Nat} (h : IC v c) (hm : ∃ j, j < 10 ∧ v 1 c = nI j) : ∃ j, j < 32 ∧ would v c = nI j := by
  obtain ⟨a, ha, ea⟩ := h
  obtain ⟨j, hj, ej⟩ := hm
  have q := w31 a (by omega) j hj
  refine ⟨_, q.2, ?_⟩
  unfold would
  rw [ea, ej]
  exact q.1
theorem speI_cb {v : Vw} (hv : Inv v) (hm : Mud v) : ∀ n, n ≤ nS v → ∀ k, k < n → (∃ j, j < 32 ∧ it spr n v 9 k = nI j) ∧ (v 8 k = -1 → it spr n v 9 k = 0)
  | 0, _, _, h => absurd h (Nat.not_lt_zero _)
  | n + 1, hn, k, hk => by
    have hi := speI_inv hv n (by omega)
    have e8 : it spr n v 8 k = v 8 k := it_keep (f := spr) (fun _ _ => spr_ne (by decide) (by decide)) n v
    have e1 : ∀ c, it spr n v 1 c = v 1 c := fun c => it_keep (f := spr) (fun _ _ => spr_ne (by decide) (by decide)) n v
    have ih := speI_cb hv hm n (by omega)
    show (∃ j, j < 32 ∧ spr n (it spr n v) 9 k = nI j) ∧ (v 8 k = -1 → spr n (it spr n v) 9 k = 0)
    generalize it spr n v = u at hi e8 e1 ih ⊢
    by_cases q : k = n
    · subst q
      unfold spr
      by_cases h : u 8 k = -1
      · rw [if_pos h, up2_same]
        exact ⟨⟨0, by decide, rfl⟩, fun _ => rfl⟩
      · rw [if_neg h, up2_c (by decide), up2_same]
        have hk2 : k < nS u := by rw [hi.2]; omega
        have hh := (hol_of hi.1 hk2 h).2
        have hc := cl_lt hi.1 hh
        refine ⟨would_31 (hi.1.hC _ hc) (by rw [e1]; exact hm _ hc), fun z => absurd (e8.trans z) h⟩
    · have e : spr n u 9 k = u 9 k := by
        unfold spr
        split
        · exact up2_i q
        · rw [up2_c (by decide), up2_i q, up2_i q]
      rw [e]
      exact ih k (by omega)
