/-! The law adds up. -/
set_option maxHeartbeats 4000000 in
set_option maxRecDepth 100000 in
theorem w_sums {p : Program} {l : Launch} {e : Jvm.Env} {R : Room} {s : State} {m : MethodId} {args : Array Value} {below : List Frame} {meth : Method} {c : Code} {Q : State → Prop} {g : Gm} {cells slots n b t : Nat} {x ng fs ca al ct mo op gi : Int32} {u : Vw} {M : Mem} {o : Nat → Int64} {H : Heap} {locs : List Loc} {ls : Array Slot} {v : Vw} (hC : CallFix p m c cL_law 32 s args LG RL) (hE : Ev g s) (hR : 9 ≤ R.frames ∧ 250 ≤ R.locals) (hf : cells ≤ R.cells ∧ slots ≤ R.slots) (hI : IJ g (KK g)) (hW : Lw n v) (hL : SimL g v) (e0 : M 0 = v) (e2 : M 2 = v) (h1 : al = factF v 3) (h2 : ct = ca) (h3 : mo = gi) (h4 : factF v 8 = fs + gi) (h5 : op = factF v 5) (h6 : ct = sumI (v 9) (nS v)) (hP : WP g (setR M 3 u) o H) (hS : va_S (AA g) s.heap H locs) (IH : ∀ (H : Heap) (locs : List Loc) (ls : Array Slot), WP g (setR M 3 u) o H → va_S (AA g) s.heap H locs → lv_has ls 32 [(27, .int (gi)), (0, .ref b), (1, .ref (ad g (8, 0, 0))), (2, .ref (ad g (20, 0, 0))), (3, .ref (ad g (30, 0, 0))), (4, .int (nI t)), (5, .int (x)), (6, .int (nI (nH v))), (7, .int (nI (nS v))), (8, .int (nI (nW v))), (9, .ref (ad g (30, 2, 0))), (10, .ref (ad g (28, 3, 0))), (11, .ref (ad g (29, 3, 0))), (18, .int (ng)), (19, .int (fs)), (21, .int (ca)), (22, .int (al)), (24, .int (ct)), (25, .int (mo)), (26, .int (op))] → W p l e R s m args below meth c H locs cells slots Q (F0 m 1512 ls [])) (hl : lv_has ls 32 [(27, .int (gi)), (0, .ref b), (1, .ref (ad g (8, 0, 0))), (2, .ref (ad g (20, 0, 0))), (3, .ref (ad g (30, 0, 0))), (4, .int (nI t)), (5, .int (x)), (6, .int (nI (nH v))), (7, .int (nI (nS v))), (8, .int (nI (nW v))), (9, .ref (ad g (30, 2, 0))), (10, .ref (ad g (28, 3, 0))), (11, .ref (ad g (29, 3, 0))), (18, .int (ng)), (19, .int (fs)), (21, .int (ca)), (22, .int (al)), (24, .int (ct)), (25, .int (mo)), (26, .int (op))]) : W p l e R s m args below meth c H locs cells slots Q (F0 m 1438 ls []) := by
  obtain ⟨hx, hb, hml, hown, hG⟩ := id hC
  have hv := hW.iv
  have qH := hv.lH
  have qS := hv.lS
  have qW := hv.lW
  refine lv_iload hx hb dL_law_1438 (lv_at hl 16 rfl) ?_
  refine lv_aload_n hx hb dL_law_1440 rfl (lv_at hl 2 rfl) ?_
  refine lv_iconst (v := 3) hx hb dL_law_1441 (by decide) ?_
  refine on_i (run_V hC hE hP hS (As := [.int ((3 : Int32))]) (x_count l hI (M := setR M 3 u) hv 3 (by decide) ((setR_ne _ _ (by decide)).trans e0)) cal_X4_count w_319 ⟨by show _ + 1 ≤ R.frames; simp only; omega, by show _ + _ ≤ R.locals; simp only; omega⟩ k_8 f_8 rfl rfl rfl (Nat.le_of_ble_eq_true rfl) hl.1 hf dL_law_1442) hS (fun H locs hP hS => ?_)
  refine lv_icmp_ne (tgt := 1510) hx hb dL_law_1445 (by decide) (fun c1 => absurd (h1) c1) (fun c1 => ?_)
  refine lv_iload hx hb dL_law_1448 (lv_at hl 17 rfl) ?_
  refine lv_iload hx hb dL_law_1450 (lv_at hl 15 rfl) ?_
  refine lv_icmp_ne (tgt := 1510) hx hb dL_law_1452 (by decide) (fun c2 => absurd (h2) c2) (fun c2 => ?_)
  refine lv_iload hx hb dL_law_1455 (lv_at hl 18 rfl) ?_
  refine lv_iload hx hb dL_law_1457 (lv_at hl 0 rfl) ?_
  refine lv_icmp_ne (tgt := 1510) hx hb dL_law_1459 (by decide) (fun c3 => absurd (h3) c3) (fun c3 => ?_)
  refine lv_aload_n hx hb dL_law_1462 rfl (lv_at hl 2 rfl) ?_
  refine lv_bipush (v := 8) hx hb dL_law_1463 (by decide) ?_
  refine on_i (run_V hC hE hP hS (As := [.int ((8 : Int32))]) (x_count l hI (M := setR M 3 u) hv 8 (by decide) ((setR_ne _ _ (by decide)).trans e0)) cal_X4_count w_319 ⟨by show _ + 1 ≤ R.frames; simp only; omega, by show _ + _ ≤ R.locals; simp only; omega⟩ k_8 f_8 rfl rfl rfl (Nat.le_of_ble_eq_true rfl) hl.1 hf dL_law_1465) hS (fun H locs hP hS => ?_)
  refine lv_iload hx hb dL_law_1468 (lv_at hl 14 rfl) ?_
  refine lv_iload hx hb dL_law_1470 (lv_at hl 0 rfl) ?_
  refine lv_iadd hx hb dL_law_1472 ?_
  refine lv_icmp_ne (tgt := 1510) hx hb dL_law_1473 (by decide) (fun c4 => absurd (h4) c4) (fun c4 => ?_)
  refine lv_iload hx hb dL_law_1476 (lv_at hl 19 rfl) ?_
  refine lv_aload_n hx hb dL_law_1478 rfl (lv_at hl 2 rfl) ?_
  refine lv_iconst (v := 5) hx hb dL_law_1479 (by decide) ?_
  refine on_i (run_V hC hE hP hS (As := [.int ((5 : Int32))]) (x_count l hI (M := setR M 3 u) hv 5 (by decide) ((setR_ne _ _ (by decide)).trans e0)) cal_X4_count w_319 ⟨by show _ + 1 ≤ R.frames; simp only; omega, by show _ + _ ≤ R.locals; simp only; omega⟩ k_8 f_8 rfl rfl rfl (Nat.le_of_ble_eq_true rfl) hl.1 hf dL_law_1480) hS (fun H locs hP hS => ?_)
  refine lv_icmp_ne (tgt := 1510) hx hb dL_law_1483 (by decide) (fun c5 => absurd (h5) c5) (fun c5 => ?_)
  refine lv_aload_n hx hb dL_law_1486 rfl (lv_at hl 2 rfl) ?_
  refine on_d (run_V hC hE hP hS (As := []) (x_mean l hI (M := setR M 3 u) hv ((setR_ne _ _ (by decide)).trans e0)) cal_X4_mean w_486 ⟨by show _ + 1 ≤ R.frames; simp only; omega, by show _ + _ ≤ R.locals; simp only; omega⟩ k_8 f_8 rfl rfl rfl (Nat.le_of_ble_eq_true rfl) hl.1 hf dL_law_1487) hS (fun H locs hP hS => ?_)
  refine lv_iload hx hb dL_law_1490 (lv_at hl 8 rfl) ?_
  refine lv_if_ne (tgt := 1499) hx hb dL_law_1492 (by decide) (fun c1 => ?_) (fun c1 => ?_)
  · refine lv_iload hx hb dL_law_1499 (lv_at hl 17 rfl) ?_
    refine m_top (y := sumI (v 9) (nS v)) (h6) ?_
    refine lv_i2d hx hb dL_law_1501 ?_
    refine lv_iload hx hb dL_law_1502 (lv_at hl 8 rfl) ?_
    refine lv_i2d hx hb dL_law_1504 ?_
    refine lv_ddiv hx hb dL_law_1505 (mean_nn hv (fun z => c1 (by rw [z]; rfl))) ?_
    refine lv_dcmp hx hb dL_law_1506 ?_
    refine m_top (y := 0) (mean_1 hv (fun z => c1 (by rw [z]; rfl))) ?_
    refine lv_if_eq (tgt := 1512) hx hb dL_law_1507 (by decide) (fun c6 => ?_) (fun c6 => absurd (rfl) c6)
    exact IH H locs ls hP hS hl
  · refine lv_dconst0 hx hb dL_law_1495 ?_
    refine lv_goto (tgt := 1506) hx hb dL_law_1496 (by decide) ?_
    refine lv_dcmp hx hb dL_law_1506 ?_
    refine m_top (y := 0) (mean_0 (nI_inj (b := 0) (by omega) (by decide) c1)) ?_
    refine lv_if_eq (tgt := 1512) hx hb dL_law_1507 (by decide) (fun c7 => ?_) (fun c7 => absurd (rfl) c7)
    exact IH H locs ls hP hS hl
