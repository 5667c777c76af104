/-! The law looks at the facts after a night. -/
set_option maxHeartbeats 4000000 in
set_option maxRecDepth 100000 in
theorem w_facts {p : Program} {l : Launch} {e : Jvm.Env} {R : Room} {s : State} {m : MethodId} {args : Array Value} {below : List Frame} {meth : Method} {c : Code} {Q : State → Prop} {g : Gm} {cells slots n b t : Nat} {x ng fs ca be sm : Int32} {u : Vw} {M : Mem} {o : Nat → Int64} {H : Heap} {locs : List Loc} {ls : Array Slot} {v : Vw} (hC : CallFix p m c cL_law 32 s args LG RL) (hE : Ev g s) (hR : 9 ≤ R.frames ∧ 250 ≤ R.locals) (hf : cells ≤ R.cells ∧ slots ≤ R.slots) (hI : IJ g (KK g)) (hW : Lw n v) (hL : SimL g v) (e0 : M 0 = v) (e2 : M 2 = v) (h1 : factF v 0 = ng + 1) (h2 : factF v 7 = sm + ca) (h3 : factF v 4 = nI (nH v)) (h5 : 0 < be → (be = 1 ↔ factF v 2 = 0)) (h6 : ¬ v 16 3 < 0) (h7 : v 16 3 ≤ 90) (hP : WP g (setR M 3 u) o H) (hS : va_S (AA g) s.heap H locs) (IH : ∀ (H : Heap) (locs : List Loc) (ls : Array Slot), WP g (setR M 3 u) o H → va_S (AA g) s.heap H locs → lv_has ls 32 [(0, .ref b), (1, .ref (ad g (8, 0, 0))), (2, .ref (ad g (20, 0, 0))), (3, .ref (ad g (30, 0, 0))), (4, .int (nI t)), (5, .int (x)), (6, .int (nI (nH v))), (7, .int (nI (nS v))), (8, .int (nI (nW v))), (9, .ref (ad g (30, 2, 0))), (10, .ref (ad g (28, 3, 0))), (11, .ref (ad g (29, 3, 0))), (15, .int (be)), (18, .int (ng)), (19, .int (fs)), (20, .int (sm)), (21, .int (ca))] → W p l e R s m args below meth c H locs cells slots Q (F0 m 636 ls [])) (hl : lv_has ls 32 [(0, .ref b), (1, .ref (ad g (8, 0, 0))), (2, .ref (ad g (20, 0, 0))), (3, .ref (ad g (30, 0, 0))), (4, .int (nI t)), (5, .int (x)), (6, .int (nI (nH v))), (7, .int (nI (nS v))), (8, .int (nI (nW v))), (9, .ref (ad g (30, 2, 0))), (10, .ref (ad g (28, 3, 0))), (11, .ref (ad g (29, 3, 0))), (15, .int (be)), (18, .int (ng)), (19, .int (fs)), (20, .int (sm)), (21, .int (ca))]) : W p l e R s m args below meth c H locs cells slots Q (F0 m 526 ls []) := by
  obtain ⟨hx, hb, hml, hown, hG⟩ := id hC
  have hv := hW.iv
  have qH := hv.lH
  have qS := hv.lS
  have qW := hv.lW
  refine lv_aload_n hx hb dL_law_526 rfl (lv_at hl 1 rfl) ?_
  refine lv_iconst (v := 0) hx hb dL_law_527 (by decide) ?_
  refine on_i (run_V hC hE hP hS (As := [.int ((0 : Int32))]) (x_count l hI (M := setR M 3 u) hv 0 (by decide) ((setR_ne _ _ (by decide)).trans e0)) cal_X4_count w_319 ⟨by show _ + 1 ≤ R.frames; simp only; omega, by show _ + _ ≤ R.locals; simp only; omega⟩ k_8 f_8 rfl rfl rfl (Nat.le_of_ble_eq_true rfl) hl.1 hf dL_law_528) hS (fun H locs hP hS => ?_)
  refine lv_iload hx hb dL_law_531 (lv_at hl 13 rfl) ?_
  refine lv_iconst (v := 1) hx hb dL_law_533 (by decide) ?_
  refine lv_iadd hx hb dL_law_534 ?_
  refine lv_icmp_ne (tgt := 634) hx hb dL_law_535 (by decide) (fun c1 => absurd (h1) c1) (fun c1 => ?_)
  refine lv_aload_n hx hb dL_law_538 rfl (lv_at hl 1 rfl) ?_
  refine lv_bipush (v := 7) hx hb dL_law_539 (by decide) ?_
  refine on_i (run_V hC hE hP hS (As := [.int ((7 : Int32))]) (x_count l hI (M := setR M 3 u) hv 7 (by decide) ((setR_ne _ _ (by decide)).trans e0)) cal_X4_count w_319 ⟨by show _ + 1 ≤ R.frames; simp only; omega, by show _ + _ ≤ R.locals; simp only; omega⟩ k_8 f_8 rfl rfl rfl (Nat.le_of_ble_eq_true rfl) hl.1 hf dL_law_541) hS (fun H locs hP hS => ?_)
  refine lv_iload hx hb dL_law_544 (lv_at hl 15 rfl) ?_
  refine lv_iload hx hb dL_law_546 (lv_at hl 16 rfl) ?_
  refine lv_iadd hx hb dL_law_548 ?_
  refine lv_icmp_ne (tgt := 634) hx hb dL_law_549 (by decide) (fun c2 => absurd (h2) c2) (fun c2 => ?_)
  refine lv_aload_n hx hb dL_law_552 rfl (lv_at hl 1 rfl) ?_
  refine lv_iconst (v := 4) hx hb dL_law_553 (by decide) ?_
  refine on_i (run_V hC hE hP hS (As := [.int ((4 : Int32))]) (x_count l hI (M := setR M 3 u) hv 4 (by decide) ((setR_ne _ _ (by decide)).trans e0)) cal_X4_count w_319 ⟨by show _ + 1 ≤ R.frames; simp only; omega, by show _ + _ ≤ R.locals; simp only; omega⟩ k_8 f_8 rfl rfl rfl (Nat.le_of_ble_eq_true rfl) hl.1 hf dL_law_554) hS (fun H locs hP hS => ?_)
  refine lv_iload hx hb dL_law_557 (lv_at hl 6 rfl) ?_
  refine lv_icmp_ne (tgt := 634) hx hb dL_law_559 (by decide) (fun c3 => absurd (h3) c3) (fun c3 => ?_)
  refine lv_iload hx hb dL_law_562 (lv_at hl 12 rfl) ?_
  refine lv_if_le (tgt := 594) hx hb dL_law_564 (by decide) (fun c1 => ?_) (fun c1 => ?_)
  · refine lv_aload_n hx hb dL_law_594 rfl (lv_at hl 1 rfl) ?_
    refine lv_iconst (v := 2) hx hb dL_law_595 (by decide) ?_
    refine on_i (run_V hC hE hP hS (As := [.int ((2 : Int32))]) (x_count l hI (M := setR M 3 u) hv 2 (by decide) ((setR_ne _ _ (by decide)).trans e0)) cal_X4_count w_319 ⟨by show _ + 1 ≤ R.frames; simp only; omega, by show _ + _ ≤ R.locals; simp only; omega⟩ k_8 f_8 rfl rfl rfl (Nat.le_of_ble_eq_true rfl) hl.1 hf dL_law_596) hS (fun H locs hP hS => ?_)
    refine lv_aload_n hx hb dL_law_599 rfl (lv_at hl 1 rfl) ?_
    refine lv_iconst (v := 1) hx hb dL_law_600 (by decide) ?_
    refine on_i (run_V hC hE hP hS (As := [.int ((1 : Int32))]) (x_count l hI (M := setR M 3 u) hv 1 (by decide) ((setR_ne _ _ (by decide)).trans e0)) cal_X4_count w_319 ⟨by show _ + 1 ≤ R.frames; simp only; omega, by show _ + _ ≤ R.locals; simp only; omega⟩ k_8 f_8 rfl rfl rfl (Nat.le_of_ble_eq_true rfl) hl.1 hf dL_law_601) hS (fun H locs hP hS => ?_)
    refine m_top (y := v 16 3) (fact_1) ?_
    refine lv_iconst (v := 5) hx hb dL_law_604 (by decide) ?_
    refine lv_icmp_ge (tgt := 612) hx hb dL_law_605 (by decide) (fun q9 => ?_) (fun q9 => ?_)
    · refine lv_iconst (v := 1) hx hb dL_law_612 (by decide) ?_
      refine lv_icmp_ne (tgt := 634) hx hb dL_law_613 (by decide) (fun c4 => absurd (fact_2.trans (bear_b1 (Int32.not_lt.mpr q9))) c4) (fun c4 => ?_)
      refine lv_aload_n hx hb dL_law_616 rfl (lv_at hl 1 rfl) ?_
      refine lv_iconst (v := 1) hx hb dL_law_617 (by decide) ?_
      refine on_i (run_V hC hE hP hS (As := [.int ((1 : Int32))]) (x_count l hI (M := setR M 3 u) hv 1 (by decide) ((setR_ne _ _ (by decide)).trans e0)) cal_X4_count w_319 ⟨by show _ + 1 ≤ R.frames; simp only; omega, by show _ + _ ≤ R.locals; simp only; omega⟩ k_8 f_8 rfl rfl rfl (Nat.le_of_ble_eq_true rfl) hl.1 hf dL_law_618) hS (fun H locs hP hS => ?_)
      refine m_top (y := v 16 3) (fact_1) ?_
      refine lv_if_lt (tgt := 634) hx hb dL_law_621 (by decide) (fun c5 => absurd c5 (h6)) (fun c5 => ?_)
      refine lv_aload_n hx hb dL_law_624 rfl (lv_at hl 1 rfl) ?_
      refine lv_iconst (v := 1) hx hb dL_law_625 (by decide) ?_
      refine on_i (run_V hC hE hP hS (As := [.int ((1 : Int32))]) (x_count l hI (M := setR M 3 u) hv 1 (by decide) ((setR_ne _ _ (by decide)).trans e0)) cal_X4_count w_319 ⟨by show _ + 1 ≤ R.frames; simp only; omega, by show _ + _ ≤ R.locals; simp only; omega⟩ k_8 f_8 rfl rfl rfl (Nat.le_of_ble_eq_true rfl) hl.1 hf dL_law_626) hS (fun H locs hP hS => ?_)
      refine m_top (y := v 16 3) (fact_1) ?_
      refine lv_bipush (v := 90) hx hb dL_law_629 (by decide) ?_
      refine lv_icmp_le (tgt := 636) hx hb dL_law_631 (by decide) (fun c6 => ?_) (fun c6 => absurd (h7) c6)
      exact IH H locs ls hP hS hl
    · refine lv_iconst (v := 0) hx hb dL_law_608 (by decide) ?_
      refine lv_goto (tgt := 613) hx hb dL_law_609 (by decide) ?_
      refine lv_icmp_ne (tgt := 634) hx hb dL_law_613 (by decide) (fun c7 => absurd (fact_2.trans (bear_b0 (Int32.not_le.mp q9))) c7) (fun c7 => ?_)
      refine lv_aload_n hx hb dL_law_616 rfl (lv_at hl 1 rfl) ?_
      refine lv_iconst (v := 1) hx hb dL_law_617 (by decide) ?_
      refine on_i (run_V hC hE hP hS (As := [.int ((1 : Int32))]) (x_count l hI (M := setR M 3 u) hv 1 (by decide) ((setR_ne _ _ (by decide)).trans e0)) cal_X4_count w_319 ⟨by show _ + 1 ≤ R.frames; simp only; omega, by show _ + _ ≤ R.locals; simp only; omega⟩ k_8 f_8 rfl rfl rfl (Nat.le_of_ble_eq_true rfl) hl.1 hf dL_law_618) hS (fun H locs hP hS => ?_)
      refine m_top (y := v 16 3) (fact_1) ?_
      refine lv_if_lt (tgt := 634) hx hb dL_law_621 (by decide) (fun c8 => absurd c8 (h6)) (fun c8 => ?_)
      refine lv_aload_n hx hb dL_law_624 rfl (lv_at hl 1 rfl) ?_
      refine lv_iconst (v := 1) hx hb dL_law_625 (by decide) ?_
      refine on_i (run_V hC hE hP hS (As := [.int ((1 : Int32))]) (x_count l hI (M := setR M 3 u) hv 1 (by decide) ((setR_ne _ _ (by decide)).trans e0)) cal_X4_count w_319 ⟨by show _ + 1 ≤ R.frames; simp only; omega, by show _ + _ ≤ R.locals; simp only; omega⟩ k_8 f_8 rfl rfl rfl (Nat.le_of_ble_eq_true rfl) hl.1 hf dL_law_626) hS (fun H locs hP hS => ?_)
      refine m_top (y := v 16 3) (fact_1) ?_
      refine lv_bipush (v := 90) hx hb dL_law_629 (by decide) ?_
      refine lv_icmp_le (tgt := 636) hx hb dL_law_631 (by decide) (fun c9 => ?_) (fun c9 => absurd (h7) c9)
      exact IH H locs ls hP hS hl
  · refine lv_iload hx hb dL_law_567 (lv_at hl 12 rfl) ?_
    refine lv_iconst (v := 1) hx hb dL_law_569 (by decide) ?_
    refine lv_icmp_ne (tgt := 577) hx hb dL_law_570 (by decide) (fun c2 => ?_) (fun c2 => ?_)
    · refine lv_iconst (v := 0) hx hb dL_law_577 (by decide) ?_
      refine lv_aload_n hx hb dL_law_578 rfl (lv_at hl 1 rfl) ?_
      refine lv_iconst (v := 2) hx hb dL_law_579 (by decide) ?_
      refine on_i (run_V hC hE hP hS (As := [.int ((2 : Int32))]) (x_count l hI (M := setR M 3 u) hv 2 (by decide) ((setR_ne _ _ (by decide)).trans e0)) cal_X4_count w_319 ⟨by show _ + 1 ≤ R.frames; simp only; omega, by show _ + _ ≤ R.locals; simp only; omega⟩ k_8 f_8 rfl rfl rfl (Nat.le_of_ble_eq_true rfl) hl.1 hf dL_law_580) hS (fun H locs hP hS => ?_)
      refine lv_if_ne (tgt := 590) hx hb dL_law_583 (by decide) (fun c3 => ?_) (fun c3 => ?_)
      · refine lv_iconst (v := 0) hx hb dL_law_590 (by decide) ?_
        refine lv_icmp_ne (tgt := 634) hx hb dL_law_591 (by decide) (fun c10 => absurd (by first | rfl | exact absurd ((h5 (Int32.not_le.mp c1)).mpr c3) c2 | exact absurd ((h5 (Int32.not_le.mp c1)).mp c2) c3) c10) (fun c10 => ?_)
        refine lv_aload_n hx hb dL_law_594 rfl (lv_at hl 1 rfl) ?_
        refine lv_iconst (v := 2) hx hb dL_law_595 (by decide) ?_
        refine on_i (run_V hC hE hP hS (As := [.int ((2 : Int32))]) (x_count l hI (M := setR M 3 u) hv 2 (by decide) ((setR_ne _ _ (by decide)).trans e0)) cal_X4_count w_319 ⟨by show _ + 1 ≤ R.frames; simp only; omega, by show _ + _ ≤ R.locals; simp only; omega⟩ k_8 f_8 rfl rfl rfl (Nat.le_of_ble_eq_true rfl) hl.1 hf dL_law_596) hS (fun H locs hP hS => ?_)
        refine lv_aload_n hx hb dL_law_599 rfl (lv_at hl 1 rfl) ?_
        refine lv_iconst (v := 1) hx hb dL_law_600 (by decide) ?_
        refine on_i (run_V hC hE hP hS (As := [.int ((1 : Int32))]) (x_count l hI (M := setR M 3 u) hv 1 (by decide) ((setR_ne _ _ (by decide)).trans e0)) cal_X4_count w_319 ⟨by show _ + 1 ≤ R.frames; simp only; omega, by show _ + _ ≤ R.locals; simp only; omega⟩ k_8 f_8 rfl rfl rfl (Nat.le_of_ble_eq_true rfl) hl.1 hf dL_law_601) hS (fun H locs hP hS => ?_)
        refine m_top (y := v 16 3) (fact_1) ?_
        refine lv_iconst (v := 5) hx hb dL_law_604 (by decide) ?_
        refine lv_icmp_ge (tgt := 612) hx hb dL_law_605 (by decide) (fun q9 => ?_) (fun q9 => ?_)
        · refine lv_iconst (v := 1) hx hb dL_law_612 (by decide) ?_
          refine lv_icmp_ne (tgt := 634) hx hb dL_law_613 (by decide) (fun c11 => absurd (fact_2.trans (bear_b1 (Int32.not_lt.mpr q9))) c11) (fun c11 => ?_)
          refine lv_aload_n hx hb dL_law_616 rfl (lv_at hl 1 rfl) ?_
          refine lv_iconst (v := 1) hx hb dL_law_617 (by decide) ?_
          refine on_i (run_V hC hE hP hS (As := [.int ((1 : Int32))]) (x_count l hI (M := setR M 3 u) hv 1 (by decide) ((setR_ne _ _ (by decide)).trans e0)) cal_X4_count w_319 ⟨by show _ + 1 ≤ R.frames; simp only; omega, by show _ + _ ≤ R.locals; simp only; omega⟩ k_8 f_8 rfl rfl rfl (Nat.le_of_ble_eq_true rfl) hl.1 hf dL_law_618) hS (fun H locs hP hS => ?_)
          refine m_top (y := v 16 3) (fact_1) ?_
          refine lv_if_lt (tgt := 634) hx hb dL_law_621 (by decide) (fun c12 => absurd c12 (h6)) (fun c12 => ?_)
          refine lv_aload_n hx hb dL_law_624 rfl (lv_at hl 1 rfl) ?_
          refine lv_iconst (v := 1) hx hb dL_law_625 (by decide) ?_
          refine on_i (run_V hC hE hP hS (As := [.int ((1 : Int32))]) (x_count l hI (M := setR M 3 u) hv 1 (by decide) ((setR_ne _ _ (by decide)).trans e0)) cal_X4_count w_319 ⟨by show _ + 1 ≤ R.frames; simp only; omega, by show _ + _ ≤ R.locals; simp only; omega⟩ k_8 f_8 rfl rfl rfl (Nat.le_of_ble_eq_true rfl) hl.1 hf dL_law_626) hS (fun H locs hP hS => ?_)
          refine m_top (y := v 16 3) (fact_1) ?_
          refine lv_bipush (v := 90) hx hb dL_law_629 (by decide) ?_
          refine lv_icmp_le (tgt := 636) hx hb dL_law_631 (by decide) (fun c13 => ?_) (fun c13 => absurd (h7) c13)
          exact IH H locs ls hP hS hl
        · refine lv_iconst (v := 0) hx hb dL_law_608 (by decide) ?_
          refine lv_goto (tgt := 613) hx hb dL_law_609 (by decide) ?_
          refine lv_icmp_ne (tgt := 634) hx hb dL_law_613 (by decide) (fun c14 => absurd (fact_2.trans (bear_b0 (Int32.not_le.mp q9))) c14) (fun c14 => ?_)
          refine lv_aload_n hx hb dL_law_616 rfl (lv_at hl 1 rfl) ?_
          refine lv_iconst (v := 1) hx hb dL_law_617 (by decide) ?_
          refine on_i (run_V hC hE hP hS (As := [.int ((1 : Int32))]) (x_count l hI (M := setR M 3 u) hv 1 (by decide) ((setR_ne _ _ (by decide)).trans e0)) cal_X4_count w_319 ⟨by show _ + 1 ≤ R.frames; simp only; omega, by show _ + _ ≤ R.locals; simp only; omega⟩ k_8 f_8 rfl rfl rfl (Nat.le_of_ble_eq_true rfl) hl.1 hf dL_law_618) hS (fun H locs hP hS => ?_)
          refine m_top (y := v 16 3) (fact_1) ?_
          refine lv_if_lt (tgt := 634) hx hb dL_law_621 (by decide) (fun c15 => absurd c15 (h6)) (fun c15 => ?_)
          refine lv_aload_n hx hb dL_law_624 rfl (lv_at hl 1 rfl) ?_
          refine lv_iconst (v := 1) hx hb dL_law_625 (by decide) ?_
          refine on_i (run_V hC hE hP hS (As := [.int ((1 : Int32))]) (x_count l hI (M := setR M 3 u) hv 1 (by decide) ((setR_ne _ _ (by decide)).trans e0)) cal_X4_count w_319 ⟨by show _ + 1 ≤ R.frames; simp only; omega, by show _ + _ ≤ R.locals; simp only; omega⟩ k_8 f_8 rfl rfl rfl (Nat.le_of_ble_eq_true rfl) hl.1 hf dL_law_626) hS (fun H locs hP hS => ?_)
          refine m_top (y := v 16 3) (fact_1) ?_
          refine lv_bipush (v := 90) hx hb dL_law_629 (by decide) ?_
          refine lv_icmp_le (tgt := 636) hx hb dL_law_631 (by decide) (fun c16 => ?_) (fun c16 => absurd (h7) c16)
          exact IH H locs ls hP hS hl
      · refine lv_iconst (v := 1) hx hb dL_law_586 (by decide) ?_
        refine lv_goto (tgt := 591) hx hb dL_law_587 (by decide) ?_
        refine lv_icmp_ne (tgt := 634) hx hb dL_law_591 (by decide) (fun c17 => absurd (by first | rfl | exact absurd ((h5 (Int32.not_le.mp c1)).mpr c3) c2 | exact absurd ((h5 (Int32.not_le.mp c1)).mp c2) c3) c17) (fun c17 => ?_)
        refine lv_aload_n hx hb dL_law_594 rfl (lv_at hl 1 rfl) ?_
        refine lv_iconst (v := 2) hx hb dL_law_595 (by decide) ?_
        refine on_i (run_V hC hE hP hS (As := [.int ((2 : Int32))]) (x_count l hI (M := setR M 3 u) hv 2 (by decide) ((setR_ne _ _ (by decide)).trans e0)) cal_X4_count w_319 ⟨by show _ + 1 ≤ R.frames; simp only; omega, by show _ + _ ≤ R.locals; simp only; omega⟩ k_8 f_8 rfl rfl rfl (Nat.le_of_ble_eq_true rfl) hl.1 hf dL_law_596) hS (fun H locs hP hS => ?_)
        refine lv_aload_n hx hb dL_law_599 rfl (lv_at hl 1 rfl) ?_
        refine lv_iconst (v := 1) hx hb dL_law_600 (by decide) ?_
        refine on_i (run_V hC hE hP hS (As := [.int ((1 : Int32))]) (x_count l hI (M := setR M 3 u) hv 1 (by decide) ((setR_ne _ _ (by decide)).trans e0)) cal_X4_count w_319 ⟨by show _ + 1 ≤ R.frames; simp only; omega, by show _ + _ ≤ R.locals; simp only; omega⟩ k_8 f_8 rfl rfl rfl (Nat.le_of_ble_eq_true rfl) hl.1 hf dL_law_601) hS (fun H locs hP hS => ?_)
        refine m_top (y := v 16 3) (fact_1) ?_
        refine lv_iconst (v := 5) hx hb dL_law_604 (by decide) ?_
        refine lv_icmp_ge (tgt := 612) hx hb dL_law_605 (by decide) (fun q9 => ?_) (fun q9 => ?_)
        · refine lv_iconst (v := 1) hx hb dL_law_612 (by decide) ?_
          refine lv_icmp_ne (tgt := 634) hx hb dL_law_613 (by decide) (fun c18 => absurd (fact_2.trans (bear_b1 (Int32.not_lt.mpr q9))) c18) (fun c18 => ?_)
          refine lv_aload_n hx hb dL_law_616 rfl (lv_at hl 1 rfl) ?_
          refine lv_iconst (v := 1) hx hb dL_law_617 (by decide) ?_
          refine on_i (run_V hC hE hP hS (As := [.int ((1 : Int32))]) (x_count l hI (M := setR M 3 u) hv 1 (by decide) ((setR_ne _ _ (by decide)).trans e0)) cal_X4_count w_319 ⟨by show _ + 1 ≤ R.frames; simp only; omega, by show _ + _ ≤ R.locals; simp only; omega⟩ k_8 f_8 rfl rfl rfl (Nat.le_of_ble_eq_true rfl) hl.1 hf dL_law_618) hS (fun H locs hP hS => ?_)
          refine m_top (y := v 16 3) (fact_1) ?_
          refine lv_if_lt (tgt := 634) hx hb dL_law_621 (by decide) (fun c19 => absurd c19 (h6)) (fun c19 => ?_)
          refine lv_aload_n hx hb dL_law_624 rfl (lv_at hl 1 rfl) ?_
          refine lv_iconst (v := 1) hx hb dL_law_625 (by decide) ?_
          refine on_i (run_V hC hE hP hS (As := [.int ((1 : Int32))]) (x_count l hI (M := setR M 3 u) hv 1 (by decide) ((setR_ne _ _ (by decide)).trans e0)) cal_X4_count w_319 ⟨by show _ + 1 ≤ R.frames; simp only; omega, by show _ + _ ≤ R.locals; simp only; omega⟩ k_8 f_8 rfl rfl rfl (Nat.le_of_ble_eq_true rfl) hl.1 hf dL_law_626) hS (fun H locs hP hS => ?_)
          refine m_top (y := v 16 3) (fact_1) ?_
          refine lv_bipush (v := 90) hx hb dL_law_629 (by decide) ?_
          refine lv_icmp_le (tgt := 636) hx hb dL_law_631 (by decide) (fun c20 => ?_) (fun c20 => absurd (h7) c20)
          exact IH H locs ls hP hS hl
        · refine lv_iconst (v := 0) hx hb dL_law_608 (by decide) ?_
          refine lv_goto (tgt := 613) hx hb dL_law_609 (by decide) ?_
          refine lv_icmp_ne (tgt := 634) hx hb dL_law_613 (by decide) (fun c21 => absurd (fact_2.trans (bear_b0 (Int32.not_le.mp q9))) c21) (fun c21 => ?_)
          refine lv_aload_n hx hb dL_law_616 rfl (lv_at hl 1 rfl) ?_
          refine lv_iconst (v := 1) hx hb dL_law_617 (by decide) ?_
          refine on_i (run_V hC hE hP hS (As := [.int ((1 : Int32))]) (x_count l hI (M := setR M 3 u) hv 1 (by decide) ((setR_ne _ _ (by decide)).trans e0)) cal_X4_count w_319 ⟨by show _ + 1 ≤ R.frames; simp only; omega, by show _ + _ ≤ R.locals; simp only; omega⟩ k_8 f_8 rfl rfl rfl (Nat.le_of_ble_eq_true rfl) hl.1 hf dL_law_618) hS (fun H locs hP hS => ?_)
          refine m_top (y := v 16 3) (fact_1) ?_
          refine lv_if_lt (tgt := 634) hx hb dL_law_621 (by decide) (fun c22 => absurd c22 (h6)) (fun c22 => ?_)
          refine lv_aload_n hx hb dL_law_624 rfl (lv_at hl 1 rfl) ?_
          refine lv_iconst (v := 1) hx hb dL_law_625 (by decide) ?_
          refine on_i (run_V hC hE hP hS (As := [.int ((1 : Int32))]) (x_count l hI (M := setR M 3 u) hv 1 (by decide) ((setR_ne _ _ (by decide)).trans e0)) cal_X4_count w_319 ⟨by show _ + 1 ≤ R.frames; simp only; omega, by show _ + _ ≤ R.locals; simp only; omega⟩ k_8 f_8 rfl rfl rfl (Nat.le_of_ble_eq_true rfl) hl.1 hf dL_law_626) hS (fun H locs hP hS => ?_)
          refine m_top (y := v 16 3) (fact_1) ?_
          refine lv_bipush (v := 90) hx hb dL_law_629 (by decide) ?_
          refine lv_icmp_le (tgt := 636) hx hb dL_law_631 (by decide) (fun c23 => ?_) (fun c23 => absurd (h7) c23)
          exact IH H locs ls hP hS hl
    · refine lv_iconst (v := 1) hx hb dL_law_573 (by decide) ?_
      refine lv_goto (tgt := 578) hx hb dL_law_574 (by decide) ?_
      refine lv_aload_n hx hb dL_law_578 rfl (lv_at hl 1 rfl) ?_
      refine lv_iconst (v := 2) hx hb dL_law_579 (by decide) ?_
      refine on_i (run_V hC hE hP hS (As := [.int ((2 : Int32))]) (x_count l hI (M := setR M 3 u) hv 2 (by decide) ((setR_ne _ _ (by decide)).trans e0)) cal_X4_count w_319 ⟨by show _ + 1 ≤ R.frames; simp only; omega, by show _ + _ ≤ R.locals; simp only; omega⟩ k_8 f_8 rfl rfl rfl (Nat.le_of_ble_eq_true rfl) hl.1 hf dL_law_580) hS (fun H locs hP hS => ?_)
      refine lv_if_ne (tgt := 590) hx hb dL_law_583 (by decide) (fun c3 => ?_) (fun c3 => ?_)
      · refine lv_iconst (v := 0) hx hb dL_law_590 (by decide) ?_
        refine lv_icmp_ne (tgt := 634) hx hb dL_law_591 (by decide) (fun c24 => absurd (by first | rfl | exact absurd ((h5 (Int32.not_le.mp c1)).mpr c3) c2 | exact absurd ((h5 (Int32.not_le.mp c1)).mp c2) c3) c24) (fun c24 => ?_)
        refine lv_aload_n hx hb dL_law_594 rfl (lv_at hl 1 rfl) ?_
        refine lv_iconst (v := 2) hx hb dL_law_595 (by decide) ?_
        refine on_i (run_V hC hE hP hS (As := [.int ((2 : Int32))]) (x_count l hI (M := setR M 3 u) hv 2 (by decide) ((setR_ne _ _ (by decide)).trans e0)) cal_X4_count w_319 ⟨by show _ + 1 ≤ R.frames; simp only; omega, by show _ + _ ≤ R.locals; simp only; omega⟩ k_8 f_8 rfl rfl rfl (Nat.le_of_ble_eq_true rfl) hl.1 hf dL_law_596) hS (fun H locs hP hS => ?_)
        refine lv_aload_n hx hb dL_law_599 rfl (lv_at hl 1 rfl) ?_
        refine lv_iconst (v := 1) hx hb dL_law_600 (by decide) ?_
        refine on_i (run_V hC hE hP hS (As := [.int ((1 : Int32))]) (x_count l hI (M := setR M 3 u) hv 1 (by decide) ((setR_ne _ _ (by decide)).trans e0)) cal_X4_count w_319 ⟨by show _ + 1 ≤ R.frames; simp only; omega, by show _ + _ ≤ R.locals; simp only; omega⟩ k_8 f_8 rfl rfl rfl (Nat.le_of_ble_eq_true rfl) hl.1 hf dL_law_601) hS (fun H locs hP hS => ?_)
        refine m_top (y := v 16 3) (fact_1) ?_
        refine lv_iconst (v := 5) hx hb dL_law_604 (by decide) ?_
        refine lv_icmp_ge (tgt := 612) hx hb dL_law_605 (by decide) (fun q9 => ?_) (fun q9 => ?_)
        · refine lv_iconst (v := 1) hx hb dL_law_612 (by decide) ?_
          refine lv_icmp_ne (tgt := 634) hx hb dL_law_613 (by decide) (fun c25 => absurd (fact_2.trans (bear_b1 (Int32.not_lt.mpr q9))) c25) (fun c25 => ?_)
          refine lv_aload_n hx hb dL_law_616 rfl (lv_at hl 1 rfl) ?_
          refine lv_iconst (v := 1) hx hb dL_law_617 (by decide) ?_
          refine on_i (run_V hC hE hP hS (As := [.int ((1 : Int32))]) (x_count l hI (M := setR M 3 u) hv 1 (by decide) ((setR_ne _ _ (by decide)).trans e0)) cal_X4_count w_319 ⟨by show _ + 1 ≤ R.frames; simp only; omega, by show _ + _ ≤ R.locals; simp only; omega⟩ k_8 f_8 rfl rfl rfl (Nat.le_of_ble_eq_true rfl) hl.1 hf dL_law_618) hS (fun H locs hP hS => ?_)
          refine m_top (y := v 16 3) (fact_1) ?_
          refine lv_if_lt (tgt := 634) hx hb dL_law_621 (by decide) (fun c26 => absurd c26 (h6)) (fun c26 => ?_)
          refine lv_aload_n hx hb dL_law_624 rfl (lv_at hl 1 rfl) ?_
          refine lv_iconst (v := 1) hx hb dL_law_625 (by decide) ?_
          refine on_i (run_V hC hE hP hS (As := [.int ((1 : Int32))]) (x_count l hI (M := setR M 3 u) hv 1 (by decide) ((setR_ne _ _ (by decide)).trans e0)) cal_X4_count w_319 ⟨by show _ + 1 ≤ R.frames; simp only; omega, by show _ + _ ≤ R.locals; simp only; omega⟩ k_8 f_8 rfl rfl rfl (Nat.le_of_ble_eq_true rfl) hl.1 hf dL_law_626) hS (fun H locs hP hS => ?_)
          refine m_top (y := v 16 3) (fact_1) ?_
          refine lv_bipush (v := 90) hx hb dL_law_629 (by decide) ?_
          refine lv_icmp_le (tgt := 636) hx hb dL_law_631 (by decide) (fun c27 => ?_) (fun c27 => absurd (h7) c27)
          exact IH H locs ls hP hS hl
        · refine lv_iconst (v := 0) hx hb dL_law_608 (by decide) ?_
          refine lv_goto (tgt := 613) hx hb dL_law_609 (by decide) ?_
          refine lv_icmp_ne (tgt := 634) hx hb dL_law_613 (by decide) (fun c28 => absurd (fact_2.trans (bear_b0 (Int32.not_le.mp q9))) c28) (fun c28 => ?_)
          refine lv_aload_n hx hb dL_law_616 rfl (lv_at hl 1 rfl) ?_
          refine lv_iconst (v := 1) hx hb dL_law_617 (by decide) ?_
          refine on_i (run_V hC hE hP hS (As := [.int ((1 : Int32))]) (x_count l hI (M := setR M 3 u) hv 1 (by decide) ((setR_ne _ _ (by decide)).trans e0)) cal_X4_count w_319 ⟨by show _ + 1 ≤ R.frames; simp only; omega, by show _ + _ ≤ R.locals; simp only; omega⟩ k_8 f_8 rfl rfl rfl (Nat.le_of_ble_eq_true rfl) hl.1 hf dL_law_618) hS (fun H locs hP hS => ?_)
          refine m_top (y := v 16 3) (fact_1) ?_
          refine lv_if_lt (tgt := 634) hx hb dL_law_621 (by decide) (fun c29 => absurd c29 (h6)) (fun c29 => ?_)
          refine lv_aload_n hx hb dL_law_624 rfl (lv_at hl 1 rfl) ?_
          refine lv_iconst (v := 1) hx hb dL_law_625 (by decide) ?_
          refine on_i (run_V hC hE hP hS (As := [.int ((1 : Int32))]) (x_count l hI (M := setR M 3 u) hv 1 (by decide) ((setR_ne _ _ (by decide)).trans e0)) cal_X4_count w_319 ⟨by show _ + 1 ≤ R.frames; simp only; omega, by show _ + _ ≤ R.locals; simp only; omega⟩ k_8 f_8 rfl rfl rfl (Nat.le_of_ble_eq_true rfl) hl.1 hf dL_law_626) hS (fun H locs hP hS => ?_)
          refine m_top (y := v 16 3) (fact_1) ?_
          refine lv_bipush (v := 90) hx hb dL_law_629 (by decide) ?_
          refine lv_icmp_le (tgt := 636) hx hb dL_law_631 (by decide) (fun c30 => ?_) (fun c30 => absurd (h7) c30)
          exact IH H locs ls hP hS hl
      · refine lv_iconst (v := 1) hx hb dL_law_586 (by decide) ?_
        refine lv_goto (tgt := 591) hx hb dL_law_587 (by decide) ?_
        refine lv_icmp_ne (tgt := 634) hx hb dL_law_591 (by decide) (fun c31 => absurd (by first | rfl | exact absurd ((h5 (Int32.not_le.mp c1)).mpr c3) c2 | exact absurd ((h5 (Int32.not_le.mp c1)).mp c2) c3) c31) (fun c31 => ?_)
        refine lv_aload_n hx hb dL_law_594 rfl (lv_at hl 1 rfl) ?_
        refine lv_iconst (v := 2) hx hb dL_law_595 (by decide) ?_
        refine on_i (run_V hC hE hP hS (As := [.int ((2 : Int32))]) (x_count l hI (M := setR M 3 u) hv 2 (by decide) ((setR_ne _ _ (by decide)).trans e0)) cal_X4_count w_319 ⟨by show _ + 1 ≤ R.frames; simp only; omega, by show _ + _ ≤ R.locals; simp only; omega⟩ k_8 f_8 rfl rfl rfl (Nat.le_of_ble_eq_true rfl) hl.1 hf dL_law_596) hS (fun H locs hP hS => ?_)
        refine lv_aload_n hx hb dL_law_599 rfl (lv_at hl 1 rfl) ?_
        refine lv_iconst (v := 1) hx hb dL_law_600 (by decide) ?_
        refine on_i (run_V hC hE hP hS (As := [.int ((1 : Int32))]) (x_count l hI (M := setR M 3 u) hv 1 (by decide) ((setR_ne _ _ (by decide)).trans e0)) cal_X4_count w_319 ⟨by show _ + 1 ≤ R.frames; simp only; omega, by show _ + _ ≤ R.locals; simp only; omega⟩ k_8 f_8 rfl rfl rfl (Nat.le_of_ble_eq_true rfl) hl.1 hf dL_law_601) hS (fun H locs hP hS => ?_)
        refine m_top (y := v 16 3) (fact_1) ?_
        refine lv_iconst (v := 5) hx hb dL_law_604 (by decide) ?_
        refine lv_icmp_ge (tgt := 612) hx hb dL_law_605 (by decide) (fun q9 => ?_) (fun q9 => ?_)
        · refine lv_iconst (v := 1) hx hb dL_law_612 (by decide) ?_
          refine lv_icmp_ne (tgt := 634) hx hb dL_law_613 (by decide) (fun c32 => absurd (fact_2.trans (bear_b1 (Int32.not_lt.mpr q9))) c32) (fun c32 => ?_)
          refine lv_aload_n hx hb dL_law_616 rfl (lv_at hl 1 rfl) ?_
          refine lv_iconst (v := 1) hx hb dL_law_617 (by decide) ?_
          refine on_i (run_V hC hE hP hS (As := [.int ((1 : Int32))]) (x_count l hI (M := setR M 3 u) hv 1 (by decide) ((setR_ne _ _ (by decide)).trans e0)) cal_X4_count w_319 ⟨by show _ + 1 ≤ R.frames; simp only; omega, by show _ + _ ≤ R.locals; simp only; omega⟩ k_8 f_8 rfl rfl rfl (Nat.le_of_ble_eq_true rfl) hl.1 hf dL_law_618) hS (fun H locs hP hS => ?_)
          refine m_top (y := v 16 3) (fact_1) ?_
          refine lv_if_lt (tgt := 634) hx hb dL_law_621 (by decide) (fun c33 => absurd c33 (h6)) (fun c33 => ?_)
          refine lv_aload_n hx hb dL_law_624 rfl (lv_at hl 1 rfl) ?_
          refine lv_iconst (v := 1) hx hb dL_law_625 (by decide) ?_
          refine on_i (run_V hC hE hP hS (As := [.int ((1 : Int32))]) (x_count l hI (M := setR M 3 u) hv 1 (by decide) ((setR_ne _ _ (by decide)).trans e0)) cal_X4_count w_319 ⟨by show _ + 1 ≤ R.frames; simp only; omega, by show _ + _ ≤ R.locals; simp only; omega⟩ k_8 f_8 rfl rfl rfl (Nat.le_of_ble_eq_true rfl) hl.1 hf dL_law_626) hS (fun H locs hP hS => ?_)
          refine m_top (y := v 16 3) (fact_1) ?_
          refine lv_bipush (v := 90) hx hb dL_law_629 (by decide) ?_
          refine lv_icmp_le (tgt := 636) hx hb dL_law_631 (by decide) (fun c34 => ?_) (fun c34 => absurd (h7) c34)
          exact IH H locs ls hP hS hl
        · refine lv_iconst (v := 0) hx hb dL_law_608 (by decide) ?_
          refine lv_goto (tgt := 613) hx hb dL_law_609 (by decide) ?_
          refine lv_icmp_ne (tgt := 634) hx hb dL_law_613 (by decide) (fun c35 => absurd (fact_2.trans (bear_b0 (Int32.not_le.mp q9))) c35) (fun c35 => ?_)
          refine lv_aload_n hx hb dL_law_616 rfl (lv_at hl 1 rfl) ?_
          refine lv_iconst (v := 1) hx hb dL_law_617 (by decide) ?_
          refine on_i (run_V hC hE hP hS (As := [.int ((1 : Int32))]) (x_count l hI (M := setR M 3 u) hv 1 (by decide) ((setR_ne _ _ (by decide)).trans e0)) cal_X4_count w_319 ⟨by show _ + 1 ≤ R.frames; simp only; omega, by show _ + _ ≤ R.locals; simp only; omega⟩ k_8 f_8 rfl rfl rfl (Nat.le_of_ble_eq_true rfl) hl.1 hf dL_law_618) hS (fun H locs hP hS => ?_)
          refine m_top (y := v 16 3) (fact_1) ?_
          refine lv_if_lt (tgt := 634) hx hb dL_law_621 (by decide) (fun c36 => absurd c36 (h6)) (fun c36 => ?_)
          refine lv_aload_n hx hb dL_law_624 rfl (lv_at hl 1 rfl) ?_
          refine lv_iconst (v := 1) hx hb dL_law_625 (by decide) ?_
          refine on_i (run_V hC hE hP hS (As := [.int ((1 : Int32))]) (x_count l hI (M := setR M 3 u) hv 1 (by decide) ((setR_ne _ _ (by decide)).trans e0)) cal_X4_count w_319 ⟨by show _ + 1 ≤ R.frames; simp only; omega, by show _ + _ ≤ R.locals; simp only; omega⟩ k_8 f_8 rfl rfl rfl (Nat.le_of_ble_eq_true rfl) hl.1 hf dL_law_626) hS (fun H locs hP hS => ?_)
          refine m_top (y := v 16 3) (fact_1) ?_
          refine lv_bipush (v := 90) hx hb dL_law_629 (by decide) ?_
          refine lv_icmp_le (tgt := 636) hx hb dL_law_631 (by decide) (fun c37 => ?_) (fun c37 => absurd (h7) c37)
          exact IH H locs ls hP hS hl
