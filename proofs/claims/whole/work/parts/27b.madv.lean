/-! the reference: advise -/
theorem dX6_advise_0 : decode cX6_advise 0 = .ok (.aload_n 0, 1) := by decide +kernel
theorem dX6_advise_1 : decode cX6_advise 1 = .ok (.iconst 0, 1) := by decide +kernel
theorem dX6_advise_2 : decode cX6_advise 2 = .ok (.putfield 43, 3) := by decide +kernel
theorem dX6_advise_5 : decode cX6_advise 5 = .ok (.aload_n 0, 1) := by decide +kernel
theorem dX6_advise_6 : decode cX6_advise 6 = .ok (.iload_n 1, 1) := by decide +kernel
theorem dX6_advise_7 : decode cX6_advise 7 = .ok (.invokevirtual 92, 3) := by decide +kernel
theorem dX6_advise_10 : decode cX6_advise 10 = .ok (.ifCond .ne 9, 3) := by decide +kernel
theorem dX6_advise_13 : decode cX6_advise 13 = .ok (.aload_n 0, 1) := by decide +kernel
theorem dX6_advise_14 : decode cX6_advise 14 = .ok (.iconst 1, 1) := by decide +kernel
theorem dX6_advise_15 : decode cX6_advise 15 = .ok (.invokevirtual 77, 3) := by decide +kernel
theorem dX6_advise_18 : decode cX6_advise 18 = .ok (.ireturn, 1) := by decide +kernel
theorem dX6_advise_19 : decode cX6_advise 19 = .ok (.iconst (-1), 1) := by decide +kernel
theorem dX6_advise_20 : decode cX6_advise 20 = .ok (.istore_n 2, 1) := by decide +kernel
theorem dX6_advise_21 : decode cX6_advise 21 = .ok (.iconst (-1), 1) := by decide +kernel
theorem dX6_advise_22 : decode cX6_advise 22 = .ok (.istore_n 3, 1) := by decide +kernel
theorem dX6_advise_23 : decode cX6_advise 23 = .ok (.iconst 0, 1) := by decide +kernel
theorem dX6_advise_24 : decode cX6_advise 24 = .ok (.istore 4, 2) := by decide +kernel
theorem dX6_advise_26 : decode cX6_advise 26 = .ok (.iload 4, 2) := by decide +kernel
theorem dX6_advise_28 : decode cX6_advise 28 = .ok (.aload_n 0, 1) := by decide +kernel
theorem dX6_advise_29 : decode cX6_advise 29 = .ok (.getfield 61, 3) := by decide +kernel
theorem dX6_advise_32 : decode cX6_advise 32 = .ok (.if_icmp .ge 85, 3) := by decide +kernel
theorem dX6_advise_35 : decode cX6_advise 35 = .ok (.aload_n 0, 1) := by decide +kernel
theorem dX6_advise_36 : decode cX6_advise 36 = .ok (.getfield 36, 3) := by decide +kernel
theorem dX6_advise_39 : decode cX6_advise 39 = .ok (.getfield 67, 3) := by decide +kernel
theorem dX6_advise_42 : decode cX6_advise 42 = .ok (.iload 4, 2) := by decide +kernel
theorem dX6_advise_44 : decode cX6_advise 44 = .ok (.iaload, 1) := by decide +kernel
theorem dX6_advise_45 : decode cX6_advise 45 = .ok (.ifCond .ne 6, 3) := by decide +kernel
theorem dX6_advise_48 : decode cX6_advise 48 = .ok (.goto 63, 3) := by decide +kernel
theorem dX6_advise_51 : decode cX6_advise 51 = .ok (.aload_n 0, 1) := by decide +kernel
theorem dX6_advise_52 : decode cX6_advise 52 = .ok (.getfield 40, 3) := by decide +kernel
theorem dX6_advise_55 : decode cX6_advise 55 = .ok (.aload_n 0, 1) := by decide +kernel
theorem dX6_advise_56 : decode cX6_advise 56 = .ok (.getfield 36, 3) := by decide +kernel
theorem dX6_advise_59 : decode cX6_advise 59 = .ok (.invokevirtual 156, 3) := by decide +kernel
theorem dX6_advise_62 : decode cX6_advise 62 = .ok (.aload_n 0, 1) := by decide +kernel
theorem dX6_advise_63 : decode cX6_advise 63 = .ok (.getfield 40, 3) := by decide +kernel
theorem dX6_advise_66 : decode cX6_advise 66 = .ok (.getfield 89, 3) := by decide +kernel
theorem dX6_advise_69 : decode cX6_advise 69 = .ok (.iload_n 1, 1) := by decide +kernel
theorem dX6_advise_70 : decode cX6_advise 70 = .ok (.iload 4, 2) := by decide +kernel
theorem dX6_advise_72 : decode cX6_advise 72 = .ok (.iastore, 1) := by decide +kernel
theorem dX6_advise_73 : decode cX6_advise 73 = .ok (.aload_n 0, 1) := by decide +kernel
theorem dX6_advise_74 : decode cX6_advise 74 = .ok (.getfield 40, 3) := by decide +kernel
theorem dX6_advise_77 : decode cX6_advise 77 = .ok (.iconst 5, 1) := by decide +kernel
theorem dX6_advise_78 : decode cX6_advise 78 = .ok (.invokevirtual 147, 3) := by decide +kernel
theorem dX6_advise_81 : decode cX6_advise 81 = .ok (.pop, 1) := by decide +kernel
theorem dX6_advise_82 : decode cX6_advise 82 = .ok (.aload_n 0, 1) := by decide +kernel
theorem dX6_advise_83 : decode cX6_advise 83 = .ok (.getfield 40, 3) := by decide +kernel
theorem dX6_advise_86 : decode cX6_advise 86 = .ok (.getfield 129, 3) := by decide +kernel
theorem dX6_advise_89 : decode cX6_advise 89 = .ok (.iload_n 1, 1) := by decide +kernel
theorem dX6_advise_90 : decode cX6_advise 90 = .ok (.iaload, 1) := by decide +kernel
theorem dX6_advise_91 : decode cX6_advise 91 = .ok (.iload_n 3, 1) := by decide +kernel
theorem dX6_advise_92 : decode cX6_advise 92 = .ok (.if_icmp .gt 6, 3) := by decide +kernel
theorem dX6_advise_95 : decode cX6_advise 95 = .ok (.goto 16, 3) := by decide +kernel
theorem dX6_advise_98 : decode cX6_advise 98 = .ok (.aload_n 0, 1) := by decide +kernel
theorem dX6_advise_99 : decode cX6_advise 99 = .ok (.getfield 40, 3) := by decide +kernel
theorem dX6_advise_102 : decode cX6_advise 102 = .ok (.getfield 129, 3) := by decide +kernel
theorem dX6_advise_105 : decode cX6_advise 105 = .ok (.iload_n 1, 1) := by decide +kernel
theorem dX6_advise_106 : decode cX6_advise 106 = .ok (.iaload, 1) := by decide +kernel
theorem dX6_advise_107 : decode cX6_advise 107 = .ok (.istore_n 3, 1) := by decide +kernel
theorem dX6_advise_108 : decode cX6_advise 108 = .ok (.iload 4, 2) := by decide +kernel
theorem dX6_advise_110 : decode cX6_advise 110 = .ok (.istore_n 2, 1) := by decide +kernel
theorem dX6_advise_111 : decode cX6_advise 111 = .ok (.iinc 4 1, 3) := by decide +kernel
theorem dX6_advise_114 : decode cX6_advise 114 = .ok (.goto (-88), 3) := by decide +kernel
theorem dX6_advise_117 : decode cX6_advise 117 = .ok (.iload_n 2, 1) := by decide +kernel
theorem dX6_advise_118 : decode cX6_advise 118 = .ok (.ireturn, 1) := by decide +kernel
theorem at_inv {v : Vw} (hv : Inv v) {k j : Nat} (hk : k < nS v) (hj : j < nH v) : Inv (up2 v 8 k (nI j)) := by
  have eH : nH (up2 v 8 k (nI j)) = nH v := nH_u (by omega)
  refine ⟨⟨by rw [eH, up2_c (by decide)]; exact hv.eH, by rw [eH]; exact hv.lH⟩, ⟨by rw [nS_u (by omega), up2_c (by decide)]; exact hv.eS, by rw [nS_u (by omega)]; exact hv.lS⟩, ⟨by rw [nW_u (by omega), up2_c (by decide)]; exact hv.eW, by rw [nW_u (by omega)]; exact hv.lW⟩, ?_, ?_, ?_, ?_⟩
  · intro i hi
    rw [eH] at hi
    unfold IH
    rw [up2_c (by decide), up2_c (by decide), up2_c (by decide)]
    exact hv.hH i hi
  · intro i hi
    rw [nS_u (by omega)] at hi
    obtain ⟨q1, q2, q3, q4⟩ := hv.hS i hi
    unfold IS
    rw [eH, up2_c (c' := 7) (by decide), up2_c (c' := 6) (by decide), up2_c (c' := 9) (by decide)]
    refine ⟨?_, q2, q3, q4⟩
    by_cases z : i = k
    · rw [z, up2_same]; exact Or.inr ⟨j, hj, rfl⟩
    · rw [up2_i z]; exact q1
  · intro i hi
    rw [nW_u (by omega)] at hi
    unfold IW
    rw [up2_c (by decide), up2_c (by decide)]
    exact hv.hW i hi
  · intro i hi
    unfold IC
    rw [up2_c (by decide)]
    exact hv.hC i hi
set_option maxHeartbeats 4000000 in
set_option maxRecDepth 100000 in
theorem c_adviseM_0 (l : Launch) {g : Gm} (hI : IJ g KK) {M : Mem} {o : Nat → Int64} {v : Vw} (hv : Inv v) {t : Int32} (h5 : v 16 5 = 0) (k : Nat) (hk : k < nS v) (h1 : isIn (nI k) 0 (v 16 1 - 1) = true) (hN : Nt 5 v) : MI l yX6_advise cX6_advise 5 .int (rm 7 161) g KK (ent g (setR M 2 (up2 v 16 5 t)) o) [.ref (ad g (10, 0, 0)), .int (nI k)] (advV v k) (ent g (setR (setR M 2 v) 3 (advD v (M 3) k (nH v))) o) := by
  refine met_of (by decide +kernel) (Nat.le_of_ble_eq_true rfl) ?_
  intro p e s m below meth c ls hC hr_ hlk hnm hE hP hS hl
  obtain ⟨hx, hb, hml, hown, hG⟩ := id hC
  have hl : lv_has ls 5 [(0, .ref (ad g (10, 0, 0))), (1, .int (nI k))] := hl
  have qH := hv.lH
  have qS := hv.lS
  have qW := hv.lW
  refine lv_aload_n hx hb dX6_advise_0 rfl (lv_at hl 0 rfl) ?_
  refine lv_iconst (v := 0) hx hb dX6_advise_1 (by decide) ?_
  refine m_put hC hE hI hP hS k_10 e_10 rfl u_6 tyX6_ok nmX6 0 (by decide) w_679 rfl rfl rfl rfl (Nat.le_of_ble_eq_true rfl) p_10_0 (ent_put g M 2 (up2 v 16 5 t) o 16 5 (0 : Int32) (kf_10 (by decide))) dX6_advise_2 (fun H locs hP hS => ?_)
  replace hP := hP.castR (w := v) ((thr_back h5).symm)
  refine lv_aload_n hx hb dX6_advise_5 rfl (lv_at hl 0 rfl) ?_
  refine lv_iload_n hx hb dX6_advise_6 rfl (lv_at hl 1 rfl) ?_
  refine on_i (run_V hC hE hP hS (As := [.int (nI k)]) (c_isSpearerM l hI hv (nI k)) cal_X6_isSpearer w_771 ⟨Nat.le_of_ble_eq_true rfl, Nat.le_of_ble_eq_true rfl⟩ k_10 e_10 rfl rfl rfl (Nat.le_of_ble_eq_true rfl) hl.1 ⟨Nat.le_of_ble_eq_true rfl, Nat.le_of_ble_eq_true rfl⟩ dX6_advise_7) hS (fun H locs hP hS => ?_)
  refine lv_if_ne (tgt := 19) hx hb dX6_advise_10 (by decide) (fun c1 => ?_) (fun c1 => absurd c1 (b2i_1 h1))
  replace hP : WPe g KK (ent g (setR (setR M 2 v) 3 (dft v (M 3))) o) _ := WPe.cast hP (fun k hk => dft_en k hk)
  refine lv_iconst (v := (-1)) hx hb dX6_advise_19 (by decide) ?_
  refine lv_istore_n (lv' := [(2, .int ((-1 : Int32))), (0, .ref (ad g (10, 0, 0))), (1, .int (nI k))]) hx hb dX6_advise_20 rfl hl (by decide) rfl (fun ls hl => ?_)
  refine lv_iconst (v := (-1)) hx hb dX6_advise_21 (by decide) ?_
  refine lv_istore_n (lv' := [(3, .int ((-1 : Int32))), (2, .int ((-1 : Int32))), (0, .ref (ad g (10, 0, 0))), (1, .int (nI k))]) hx hb dX6_advise_22 rfl hl (by decide) rfl (fun ls hl => ?_)
  refine lv_iconst (v := 0) hx hb dX6_advise_23 (by decide) ?_
  refine lv_istore (lv' := [(4, .int ((0 : Int32))), (3, .int ((-1 : Int32))), (2, .int ((-1 : Int32))), (0, .ref (ad g (10, 0, 0))), (1, .int (nI k))]) hx hb dX6_advise_24 hl (by decide) rfl (fun ls hl => ?_)
  refine lp_W (i0 := 0) (nH v) (fun i => ent g (setR (setR M 2 v) 3 (advD v (M 3) k i)) o) (fun i => [(4, .int (nI i)), (3, .int ((advQ v k i).2)), (2, .int ((advQ v k i).1)), (0, .ref (ad g (10, 0, 0))), (1, .int (nI k))]) (fun i => True) (Nat.zero_le _) (hP.castR (rfl)) hS (lv_sub hl [0, 1, 2, 3, 4] rfl) (trivial) (fun H locs ls hP hS hl J => ?_) (fun i hi IH H locs ls hP hS hl J => ?_)
  · have hX : ∀ c j, shc c j = true → (advD v (M 3) k (nH v)) c j = v c j := fun c j => advD_sh _ c j
    have hs1 : Sh (setR M 2 v) 3 (advD v (M 3) k (nH v)) := Sh_iff hX
    refine lv_iload hx hb dX6_advise_26 (lv_at hl 0 rfl) ?_
    refine lv_aload_n hx hb dX6_advise_28 rfl (lv_at hl 3 rfl) ?_
    refine m_get hC hE hP k_10 f_10 rfl u_6 3 (by decide) w_684 rfl rfl dX6_advise_29 ?_
    refine m_top (y := (advD v (M 3) k (nH v)) 16 0) (hs1 _ _ rfl) ?_
    refine m_top (y := nI (nH v)) ((hX 16 0 rfl).trans hv.eH) ?_
    refine lv_icmp_ge (tgt := 117) hx hb dX6_advise_32 (by decide) (fun c2 => ?_) (fun c2 => absurd (nI_le (Nat.le_refl _) (by omega)) c2)
    refine lv_iload_n hx hb dX6_advise_117 rfl (lv_at hl 2 rfl) ?_
    exact m_iret hC hr_ hlk hS (hP.castR (rfl)) rfl (rfl) dX6_advise_118
  · have hX : ∀ c j, shc c j = true → (advD v (M 3) k i) c j = v c j := fun c j => advD_sh i c j
    have hs1 : Sh (setR M 2 v) 3 (advD v (M 3) k i) := Sh_iff hX
    have hg1 : Ag v (bem v (advD v (M 3) k i)) := bem_ag2 hv hX
    have hg2 : Rl v v → True := fun _ => trivial
    have hu : Inv (up2 v 8 k (nI i)) := at_inv hv hk hi
    have hg3 : Ag (up2 v 8 k (nI i)) (up2 (bem v (advD v (M 3) k i)) 8 k (nI i)) := hg1.up (by omega) _
    have hvd : Inv (up2 (bem v (advD v (M 3) k i)) 8 k (nI i)) := hg3.inv hu
    have hNd : Nt 5 (up2 (bem v (advD v (M 3) k i)) 8 k (nI i)) := hg3.gN ⟨by rw [up2_c (by decide)]; exact hN.1.trans (congrArg nI (by unfold tt; rw [up2_c (by decide)])), by unfold tt; rw [up2_c (by decide)]; exact hN.2⟩
    have hsb : Sh (setR M 2 v) 3 (bem v (advD v (M 3) k i)) := Sh_iff (fun c j h => bem_sh hX h)
    refine lv_iload hx hb dX6_advise_26 (lv_at hl 0 rfl) ?_
    refine lv_aload_n hx hb dX6_advise_28 rfl (lv_at hl 3 rfl) ?_
    refine m_get hC hE hP k_10 f_10 rfl u_6 3 (by decide) w_684 rfl rfl dX6_advise_29 ?_
    refine m_top (y := (advD v (M 3) k i) 16 0) (hs1 _ _ rfl) ?_
    refine m_top (y := nI (nH v)) ((hX 16 0 rfl).trans hv.eH) ?_
    refine lv_icmp_ge (tgt := 117) hx hb dX6_advise_32 (by decide) (fun c3 => absurd c3 (nI_ge hi (by omega))) (fun c3 => ?_)
    refine lv_aload_n hx hb dX6_advise_35 rfl (lv_at hl 3 rfl) ?_
    refine m_get hC hE hP k_10 f_10 rfl u_6 11 (by decide) w_700 rfl rfl dX6_advise_36 ?_
    refine m_getN hC hE hP (k_9 (by decide)) f_9 rfl u_5 3 (by decide) n_638 rfl rfl dX6_advise_39 ?_
    refine lv_iload hx hb dX6_advise_42 (lv_at hl 0 rfl) ?_
    refine m_iald hC hE hP (k_4s (by decide)) f_4 i (rfl) (show i < 12 from by omega) (by decide) dX6_advise_44 ?_
    refine m_top (y := v 5 i) (by rw [setR_ne _ _ (by decide), setR_same]) ?_
    refine lv_if_ne (tgt := 51) hx hb dX6_advise_45 (by decide) (fun c1 => ?_) (fun c1 => ?_)
    · refine lv_aload_n hx hb dX6_advise_51 rfl (lv_at hl 3 rfl) ?_
      refine m_get hC hE hP k_10 f_10 rfl u_6 12 (by decide) w_701 rfl rfl dX6_advise_52 ?_
      refine lv_aload_n hx hb dX6_advise_55 rfl (lv_at hl 3 rfl) ?_
      refine m_get hC hE hP k_10 f_10 rfl u_6 11 (by decide) w_700 rfl rfl dX6_advise_56 ?_
      refine on_v (run_V hC hE hP hS (As := [.ref (ad g (9, 2, 0))]) (c_becomeT l hI (Or.inr rfl) (q := 2) (Or.inl rfl) (by decide) (v := advD v (M 3) k i)) cal_X5_become w_903 ⟨Nat.le_of_ble_eq_true rfl, Nat.le_of_ble_eq_true rfl⟩ (k_9 (Or.inr rfl)) e_9 rfl rfl rfl (Nat.le_of_ble_eq_true rfl) hl.1 ⟨Nat.le_of_ble_eq_true rfl, Nat.le_of_ble_eq_true rfl⟩ dX6_advise_59) hS (fun H locs hP hS => ?_)
      replace hP := hP.castR (w := bem v (advD v (M 3) k i)) (by rw [setR_same])
      refine lv_aload_n hx hb dX6_advise_62 rfl (lv_at hl 3 rfl) ?_
      refine m_get hC hE hP k_10 f_10 rfl u_6 12 (by decide) w_701 rfl rfl dX6_advise_63 ?_
      refine m_getN hC hE hP (k_9 (Or.inr rfl)) e_9 rfl u_5 4 (by decide) n_640 rfl rfl dX6_advise_66 ?_
      refine lv_iload_n hx hb dX6_advise_69 rfl (lv_at hl 4 rfl) ?_
      refine lv_iload hx hb dX6_advise_70 (lv_at hl 0 rfl) ?_
      refine m_iast hC hE hI hP hS (k_4p (Or.inr rfl) rfl) e_4 k (rfl) (show k < 8 from by omega) (by decide) p_4 (ent_put g (setR M 2 v) 3 (bem v (advD v (M 3) k i)) o 8 k (nI i) (kf_4m (Or.inr rfl) (by decide))) dX6_advise_72 (fun H locs hP hS => ?_)
      refine lv_aload_n hx hb dX6_advise_73 rfl (lv_at hl 3 rfl) ?_
      refine m_get hC hE hP k_10 f_10 rfl u_6 12 (by decide) w_701 rfl rfl dX6_advise_74 ?_
      refine lv_iconst (v := 5) hx hb dX6_advise_77 (by decide) ?_
      refine m_top (y := nI 5) (rfl) ?_
      refine on_i (run_V hC hE hP hS (As := [.int (nI 5)]) (c_passN l hI (Or.inr rfl) ((hsb.up rfl)) hvd 5 (by omega) hNd) cal_X5_pass_ w_854 ⟨Nat.le_of_ble_eq_true rfl, Nat.le_of_ble_eq_true rfl⟩ (k_9 (Or.inr rfl)) e_9 rfl rfl rfl (Nat.le_of_ble_eq_true rfl) hl.1 ⟨Nat.le_of_ble_eq_true rfl, Nat.le_of_ble_eq_true rfl⟩ dX6_advise_78) hS (fun H locs hP hS => ?_)
      refine lv_pop hx hb dX6_advise_81 rfl ?_
      refine lv_aload_n hx hb dX6_advise_82 rfl (lv_at hl 3 rfl) ?_
      refine m_get hC hE hP k_10 f_10 rfl u_6 12 (by decide) w_701 rfl rfl dX6_advise_83 ?_
      refine m_getN hC hE hP (k_9 (Or.inr rfl)) e_9 rfl u_5 6 (by decide) n_644 rfl rfl dX6_advise_86 ?_
      refine lv_iload_n hx hb dX6_advise_89 rfl (lv_at hl 4 rfl) ?_
      refine m_iald hC hE hP (k_4p (Or.inr rfl) rfl) e_4 k (rfl) (show k < 8 from by omega) (by decide) dX6_advise_90 ?_
      refine m_top (y := advE v k i) (advE_of hv hg1 hk hu) ?_
      refine lv_iload_n hx hb dX6_advise_91 rfl (lv_at hl 1 rfl) ?_
      refine lv_icmp_gt (tgt := 98) hx hb dX6_advise_92 (by decide) (fun c2 => ?_) (fun c2 => ?_)
      · refine lv_aload_n hx hb dX6_advise_98 rfl (lv_at hl 3 rfl) ?_
        refine m_get hC hE hP k_10 f_10 rfl u_6 12 (by decide) w_701 rfl rfl dX6_advise_99 ?_
        refine m_getN hC hE hP (k_9 (Or.inr rfl)) e_9 rfl u_5 6 (by decide) n_644 rfl rfl dX6_advise_102 ?_
        refine lv_iload_n hx hb dX6_advise_105 rfl (lv_at hl 4 rfl) ?_
        refine m_iald hC hE hP (k_4p (Or.inr rfl) rfl) e_4 k (rfl) (show k < 8 from by omega) (by decide) dX6_advise_106 ?_
        refine m_top (y := advE v k i) (advE_of hv hg1 hk hu) ?_
        refine lv_istore_n (lv' := [(3, .int (advE v k i)), (4, .int (nI i)), (2, .int ((advQ v k i).1)), (0, .ref (ad g (10, 0, 0))), (1, .int (nI k))]) hx hb dX6_advise_107 rfl hl (by decide) rfl (fun ls hl => ?_)
        refine lv_iload hx hb dX6_advise_108 (lv_at hl 1 rfl) ?_
        refine lv_istore_n (lv' := [(2, .int (nI i)), (3, .int (advE v k i)), (4, .int (nI i)), (0, .ref (ad g (10, 0, 0))), (1, .int (nI k))]) hx hb dX6_advise_110 rfl hl (by decide) rfl (fun ls hl => ?_)
        refine lv_iinc (v := nI (i + 1)) (lv' := [(4, .int (nI (i + 1))), (2, .int (nI i)), (3, .int (advE v k i)), (0, .ref (ad g (10, 0, 0))), (1, .int (nI k))]) hx hb dX6_advise_111 hl (k := 2) rfl (nI_1 _) (by decide) rfl (fun ls hl => ?_)
        refine lv_goto (tgt := 26) hx hb dX6_advise_114 (by decide) ?_
        exact IH H locs ls (hP.castR (advD_t c1)) hS (by show lv_has ls _ [(4, .int (nI (i + 1))), (3, .int ((advQ v k (i + 1)).2)), (2, .int ((advQ v k (i + 1)).1)), (0, .ref (ad g (10, 0, 0))), (1, .int (nI k))]; rw [show (advQ v k (i + 1)).2 = advE v k i from adv2_t c1 c2, show (advQ v k (i + 1)).1 = nI i from adv1_t c1 c2]; exact lv_sub hl [0, 2, 1, 3, 4] rfl) (trivial)
      · refine lv_goto (tgt := 111) hx hb dX6_advise_95 (by decide) ?_
        refine lv_iinc (v := nI (i + 1)) (lv' := [(4, .int (nI (i + 1))), (3, .int ((advQ v k i).2)), (2, .int ((advQ v k i).1)), (0, .ref (ad g (10, 0, 0))), (1, .int (nI k))]) hx hb dX6_advise_111 hl (k := 0) rfl (nI_1 _) (by decide) rfl (fun ls hl => ?_)
        refine lv_goto (tgt := 26) hx hb dX6_advise_114 (by decide) ?_
        exact IH H locs ls (hP.castR (advD_t c1)) hS (by show lv_has ls _ [(4, .int (nI (i + 1))), (3, .int ((advQ v k (i + 1)).2)), (2, .int ((advQ v k (i + 1)).1)), (0, .ref (ad g (10, 0, 0))), (1, .int (nI k))]; rw [show (advQ v k (i + 1)).2 = (advQ v k i).2 from adv2_f c1 c2, show (advQ v k (i + 1)).1 = (advQ v k i).1 from adv1_f c1 c2]; exact lv_sub hl [0, 1, 2, 3, 4] rfl) (trivial)
    · refine lv_goto (tgt := 111) hx hb dX6_advise_48 (by decide) ?_
      refine lv_iinc (v := nI (i + 1)) (lv' := [(4, .int (nI (i + 1))), (3, .int ((advQ v k i).2)), (2, .int ((advQ v k i).1)), (0, .ref (ad g (10, 0, 0))), (1, .int (nI k))]) hx hb dX6_advise_111 hl (k := 0) rfl (nI_1 _) (by decide) rfl (fun ls hl => ?_)
      refine lv_goto (tgt := 26) hx hb dX6_advise_114 (by decide) ?_
      exact IH H locs ls (hP.castR (advD_0 c1)) hS (by show lv_has ls _ [(4, .int (nI (i + 1))), (3, .int ((advQ v k (i + 1)).2)), (2, .int ((advQ v k (i + 1)).1)), (0, .ref (ad g (10, 0, 0))), (1, .int (nI k))]; rw [show (advQ v k (i + 1)).2 = (advQ v k i).2 from adv2_0 c1, show (advQ v k (i + 1)).1 = (advQ v k i).1 from adv1_0 c1]; exact lv_sub hl [0, 1, 2, 3, 4] rfl) (trivial)
set_option maxHeartbeats 4000000 in
set_option maxRecDepth 100000 in
theorem c_adviseM_1 (l : Launch) {g : Gm} (hI : IJ g KK) {M : Mem} {o : Nat → Int64} {v : Vw} (hv : Inv v) {t : Int32} (h5 : v 16 5 = 0) (k : Int32) (h1 : isIn k 0 (v 16 1 - 1) = false) : MI l yX6_advise cX6_advise 5 .int (rm 7 161) g KK (ent g (setR M 2 (up2 v 16 5 t)) o) [.ref (ad g (10, 0, 0)), .int (k)] 0 (ent g (setR M 2 (up2 v 16 5 1)) o) := by
  refine met_of (by decide +kernel) (Nat.le_of_ble_eq_true rfl) ?_
  intro p e s m below meth c ls hC hr_ hlk hnm hE hP hS hl
  obtain ⟨hx, hb, hml, hown, hG⟩ := id hC
  have hl : lv_has ls 5 [(0, .ref (ad g (10, 0, 0))), (1, .int (k))] := hl
  have qH := hv.lH
  have qS := hv.lS
  have qW := hv.lW
  refine lv_aload_n hx hb dX6_advise_0 rfl (lv_at hl 0 rfl) ?_
  refine lv_iconst (v := 0) hx hb dX6_advise_1 (by decide) ?_
  refine m_put hC hE hI hP hS k_10 e_10 rfl u_6 tyX6_ok nmX6 0 (by decide) w_679 rfl rfl rfl rfl (Nat.le_of_ble_eq_true rfl) p_10_0 (ent_put g M 2 (up2 v 16 5 t) o 16 5 (0 : Int32) (kf_10 (by decide))) dX6_advise_2 (fun H locs hP hS => ?_)
  replace hP := hP.castR (w := v) ((thr_back h5).symm)
  refine lv_aload_n hx hb dX6_advise_5 rfl (lv_at hl 0 rfl) ?_
  refine lv_iload_n hx hb dX6_advise_6 rfl (lv_at hl 1 rfl) ?_
  refine on_i (run_V hC hE hP hS (As := [.int (k)]) (c_isSpearerM l hI hv k) cal_X6_isSpearer w_771 ⟨Nat.le_of_ble_eq_true rfl, Nat.le_of_ble_eq_true rfl⟩ k_10 e_10 rfl rfl rfl (Nat.le_of_ble_eq_true rfl) hl.1 ⟨Nat.le_of_ble_eq_true rfl, Nat.le_of_ble_eq_true rfl⟩ dX6_advise_7) hS (fun H locs hP hS => ?_)
  refine lv_if_ne (tgt := 19) hx hb dX6_advise_10 (by decide) (fun c1 => absurd (b2i_0 h1) c1) (fun c1 => ?_)
  refine lv_aload_n hx hb dX6_advise_13 rfl (lv_at hl 0 rfl) ?_
  refine lv_iconst (v := 1) hx hb dX6_advise_14 (by decide) ?_
  refine on_i (run_V hC hE hP hS (As := [.int ((1 : Int32))]) (c_no l hI hv (1 : Int32)) cal_X6_no w_743 ⟨Nat.le_of_ble_eq_true rfl, Nat.le_of_ble_eq_true rfl⟩ k_10 e_10 rfl rfl rfl (Nat.le_of_ble_eq_true rfl) hl.1 ⟨Nat.le_of_ble_eq_true rfl, Nat.le_of_ble_eq_true rfl⟩ dX6_advise_15) hS (fun H locs hP hS => ?_)
  exact m_iret hC hr_ hlk hS (hP.castR (rfl)) rfl (rfl) dX6_advise_18
