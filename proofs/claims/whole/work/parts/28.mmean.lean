/-! the reference: mean -/
theorem dX6_mean_0 : decode cX6_mean 0 = .ok (.aload_n 0, 1) := by decide +kernel
theorem dX6_mean_1 : decode cX6_mean 1 = .ok (.iconst 0, 1) := by decide +kernel
theorem dX6_mean_2 : decode cX6_mean 2 = .ok (.putfield 43, 3) := by decide +kernel
theorem dX6_mean_5 : decode cX6_mean 5 = .ok (.aload_n 0, 1) := by decide +kernel
theorem dX6_mean_6 : decode cX6_mean 6 = .ok (.getfield 64, 3) := by decide +kernel
theorem dX6_mean_9 : decode cX6_mean 9 = .ok (.ifCond .ne 7, 3) := by decide +kernel
theorem dX6_mean_12 : decode cX6_mean 12 = .ok (.dconst 0, 1) := by decide +kernel
theorem dX6_mean_13 : decode cX6_mean 13 = .ok (.goto 28, 3) := by decide +kernel
theorem dX6_mean_16 : decode cX6_mean 16 = .ok (.aload_n 0, 1) := by decide +kernel
theorem dX6_mean_17 : decode cX6_mean 17 = .ok (.getfield 36, 3) := by decide +kernel
theorem dX6_mean_20 : decode cX6_mean 20 = .ok (.aload_n 0, 1) := by decide +kernel
theorem dX6_mean_21 : decode cX6_mean 21 = .ok (.getfield 36, 3) := by decide +kernel
theorem dX6_mean_24 : decode cX6_mean 24 = .ok (.getfield 126, 3) := by decide +kernel
theorem dX6_mean_27 : decode cX6_mean 27 = .ok (.aload_n 0, 1) := by decide +kernel
theorem dX6_mean_28 : decode cX6_mean 28 = .ok (.getfield 64, 3) := by decide +kernel
theorem dX6_mean_31 : decode cX6_mean 31 = .ok (.invokevirtual 160, 3) := by decide +kernel
theorem dX6_mean_34 : decode cX6_mean 34 = .ok (.i2d, 1) := by decide +kernel
theorem dX6_mean_35 : decode cX6_mean 35 = .ok (.aload_n 0, 1) := by decide +kernel
theorem dX6_mean_36 : decode cX6_mean 36 = .ok (.getfield 64, 3) := by decide +kernel
theorem dX6_mean_39 : decode cX6_mean 39 = .ok (.i2d, 1) := by decide +kernel
theorem dX6_mean_40 : decode cX6_mean 40 = .ok (.ddiv, 1) := by decide +kernel
theorem dX6_mean_41 : decode cX6_mean 41 = .ok (.dreturn, 1) := by decide +kernel
set_option maxRecDepth 100000 in
set_option maxHeartbeats 4000000 in
theorem mean_n : ∀ b, b < 9 → ∀ a, a < 481 → 0 < b → vf_n64 (FP.ddiv (FP.i2d (nI a)) (FP.i2d (nI b))) := by
  unfold vf_n64
  decide +kernel
theorem mean_z : FP.dconst0 = FP.i2d 0 := by decide +kernel
theorem mean_s {v : Vw} (hv : Inv v) : ∀ n, n ≤ nS v → ∃ a, a ≤ 60 * n ∧ sumI (v 9) n = nI a
  | 0, _ => ⟨0, by omega, rfl⟩
  | n + 1, h => by
    obtain ⟨a, ha, e⟩ := mean_s hv n (by omega)
    obtain ⟨b, hb, f⟩ := (hv.hS n (by omega)).2.2.2
    refine ⟨a + b, by omega, ?_⟩
    show sumI (v 9) n + v 9 n = _
    rw [e, f, nI_add]
theorem mean_nn {v : Vw} (hv : Inv v) (h : nS v ≠ 0) : vf_n64 (FP.ddiv (FP.i2d (sumI (v 9) (nS v))) (FP.i2d (nI (nS v)))) := by
  obtain ⟨a, ha, e⟩ := mean_s hv (nS v) (Nat.le_refl _)
  have := hv.lS
  rw [e]
  exact mean_n _ (by omega) a (by omega) (by omega)
set_option maxHeartbeats 4000000 in
set_option maxRecDepth 100000 in
theorem c_meanM (l : Launch) {g : Gm} (hI : IJ g KK) {M : Mem} {o : Nat → Int64} {v : Vw} (hv : Inv v) {t : Int32} (h5 : v 16 5 = 0) : MDd l yX6_mean cX6_mean 1 (rm 1 24) g KK (ent g (setR M 2 (up2 v 16 5 t)) o) [.ref (ad g (10, 0, 0))] (meanV v) (ent g (setR M 2 v) o) := by
  refine met_of (by decide +kernel) (Nat.le_of_ble_eq_true rfl) ?_
  intro p e s m below meth c ls hC hr_ hlk hnm hE hP hS hl
  obtain ⟨hx, hb, hml, hown, hG⟩ := id hC
  have hl : lv_has ls 1 [(0, .ref (ad g (10, 0, 0)))] := hl
  have qH := hv.lH
  have qS := hv.lS
  have qW := hv.lW
  refine lv_aload_n hx hb dX6_mean_0 rfl (lv_at hl 0 rfl) ?_
  refine lv_iconst (v := 0) hx hb dX6_mean_1 (by decide) ?_
  refine m_put hC hE hI hP hS k_10 e_10 rfl u_6 tyX6_ok nmX6 0 (by decide) w_679 rfl rfl rfl rfl (Nat.le_of_ble_eq_true rfl) p_10_0 (ent_put g M 2 (up2 v 16 5 t) o 16 5 (0 : Int32) (kf_10 (by decide))) dX6_mean_2 (fun H locs hP hS => ?_)
  replace hP := hP.castR (w := v) ((thr_back h5).symm)
  refine lv_aload_n hx hb dX6_mean_5 rfl (lv_at hl 0 rfl) ?_
  refine m_get hC hE hP k_10 e_10 rfl u_6 6 (by decide) w_691 rfl rfl dX6_mean_6 ?_
  refine m_top (y := nI (nS v)) (hv.eS) ?_
  refine lv_if_ne (tgt := 16) hx hb dX6_mean_9 (by decide) (fun c1 => ?_) (fun c1 => ?_)
  · have c1 : nS v ≠ 0 := fun z => c1 (by rw [z]; rfl)
    refine lv_aload_n hx hb dX6_mean_16 rfl (lv_at hl 0 rfl) ?_
    refine m_get hC hE hP k_10 e_10 rfl u_6 11 (by decide) w_700 rfl rfl dX6_mean_17 ?_
    refine lv_aload_n hx hb dX6_mean_20 rfl (lv_at hl 0 rfl) ?_
    refine m_get hC hE hP k_10 e_10 rfl u_6 11 (by decide) w_700 rfl rfl dX6_mean_21 ?_
    refine m_getN hC hE hP (k_9 (Or.inl rfl)) e_9 rfl u_5 5 (by decide) n_642 rfl rfl dX6_mean_24 ?_
    refine lv_aload_n hx hb dX6_mean_27 rfl (lv_at hl 0 rfl) ?_
    refine m_get hC hE hP k_10 e_10 rfl u_6 6 (by decide) w_691 rfl rfl dX6_mean_28 ?_
    refine m_top (y := nI (nS v)) (hv.eS) ?_
    refine on_i (run_VN hC hE hP hS (As := [.ref (ad g (4, 2, 9)), .int (nI (nS v))]) (c_sum9 l hI (Or.inl rfl) (v := v) (nS v) (show (nS v) ≤ 8 from by omega)) cal_X5_sum n_922 ⟨Nat.le_of_ble_eq_true rfl, Nat.le_of_ble_eq_true rfl⟩ (k_9 (Or.inl rfl)) e_9 rfl rfl rfl (Nat.le_of_ble_eq_true rfl) hl.1 ⟨Nat.le_of_ble_eq_true rfl, Nat.le_of_ble_eq_true rfl⟩ dX6_mean_31) hS (fun H locs hP hS => ?_)
    refine lv_i2d hx hb dX6_mean_34 ?_
    refine lv_aload_n hx hb dX6_mean_35 rfl (lv_at hl 0 rfl) ?_
    refine m_get hC hE hP k_10 e_10 rfl u_6 6 (by decide) w_691 rfl rfl dX6_mean_36 ?_
    refine m_top (y := nI (nS v)) (hv.eS) ?_
    refine lv_i2d hx hb dX6_mean_39 ?_
    refine lv_ddiv hx hb dX6_mean_40 (mean_nn hv c1) ?_
    exact m_dret hC hr_ hlk hS (hP.castR (rfl)) ((if_neg c1).symm) dX6_mean_41
  · have c1 : nS v = 0 := (nI_eq (b := 0) (by omega) (by decide)).mp c1
    refine lv_dconst0 hx hb dX6_mean_12 ?_
    refine lv_goto (tgt := 41) hx hb dX6_mean_13 (by decide) ?_
    exact m_dret hC hr_ hlk hS (hP.castR (rfl)) (mean_z.trans (if_pos c1).symm) dX6_mean_41
