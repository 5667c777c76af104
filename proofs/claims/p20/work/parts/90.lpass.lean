/-! The law lets a night pass. -/
set_option maxHeartbeats 4000000 in
set_option maxRecDepth 100000 in
theorem w_pass {p : Program} {l : Launch} {e : Jvm.Env} {R : Room} {s : State} {m : MethodId} {args : Array Value} {below : List Frame} {meth : Method} {c : Code} {Q : State → Prop} {g : Gm} {cells slots n b t : Nat} {x be : Int32} {M : Mem} {o : Nat → Int64} {H : Heap} {locs : List Loc} {ls : Array Slot} {v : Vw} (hC : CallFix p m c cL_law 32 s args LG RL) (hE : Ev g s) (hR : 9 ≤ R.frames ∧ 250 ≤ R.locals) (hf : cells ≤ R.cells ∧ slots ≤ R.slots) (hI : IJ g (KK g)) (hW : Lw (n + 1) v) (hL : SimL g v) (e0 : M 0 = v) (hP : WP g (setR M 2 v) o H) (hS : va_S (AA g) s.heap H locs) (IH : ∀ (H : Heap) (locs : List Loc) (ls : Array Slot), WP g (setR (setR M 0 (day v)) 2 (day v)) o H → va_S (AA g) s.heap H locs → lv_has ls 32 [(21, .int (got1 v)), (20, .int (factF v 7)), (19, .int (factF v 8)), (18, .int (factF v 0)), (0, .ref b), (1, .ref (ad g (8, 0, 0))), (2, .ref (ad g (20, 0, 0))), (3, .ref (ad g (30, 0, 0))), (4, .int (nI t)), (5, .int (x)), (6, .int (nI (nH v))), (7, .int (nI (nS v))), (8, .int (nI (nW v))), (9, .ref (ad g (30, 2, 0))), (10, .ref (ad g (28, 3, 0))), (11, .ref (ad g (29, 3, 0))), (14, .ref (ad g (30, 1, 0))), (15, .int (be))] → W p l e R s m args below meth c H locs cells slots Q (F0 m 493 ls [])) (hl : lv_has ls 32 [(0, .ref b), (1, .ref (ad g (8, 0, 0))), (2, .ref (ad g (20, 0, 0))), (3, .ref (ad g (30, 0, 0))), (4, .int (nI t)), (5, .int (x)), (6, .int (nI (nH v))), (7, .int (nI (nS v))), (8, .int (nI (nW v))), (9, .ref (ad g (30, 2, 0))), (10, .ref (ad g (28, 3, 0))), (11, .ref (ad g (29, 3, 0))), (14, .ref (ad g (30, 1, 0))), (15, .int (be))]) : W p l e R s m args below meth c H locs cells slots Q (F0 m 458 ls []) := by
  obtain ⟨hx, hb, hml, hown, hG⟩ := id hC
  have hv := hW.iv
  have qH := hv.lH
  have qS := hv.lS
  have qW := hv.lW
  refine lv_aload_n hx hb dL_law_458 rfl (lv_at hl 1 rfl) ?_
  refine lv_iconst (v := 0) hx hb dL_law_459 (by decide) ?_
  refine on_i (run_V hC hE hP hS (As := [.int ((0 : Int32))]) (q_count l hI (o := o) hv 0 (by decide) e0) cal_X4_count w_319 ⟨by show _ + 1 ≤ R.frames; simp only; omega, by show _ + _ ≤ R.locals; simp only; omega⟩ k_8 f_8 rfl rfl rfl (Nat.le_of_ble_eq_true rfl) hl.1 hf dL_law_460) hS (fun H locs hP hS => ?_)
  refine lv_istore (lv' := [(18, .int (factF v 0)), (0, .ref b), (1, .ref (ad g (8, 0, 0))), (2, .ref (ad g (20, 0, 0))), (3, .ref (ad g (30, 0, 0))), (4, .int (nI t)), (5, .int (x)), (6, .int (nI (nH v))), (7, .int (nI (nS v))), (8, .int (nI (nW v))), (9, .ref (ad g (30, 2, 0))), (10, .ref (ad g (28, 3, 0))), (11, .ref (ad g (29, 3, 0))), (14, .ref (ad g (30, 1, 0))), (15, .int (be))]) hx hb dL_law_463 hl (by decide) rfl (fun ls hl => ?_)
  refine lv_aload_n hx hb dL_law_465 rfl (lv_at hl 2 rfl) ?_
  refine lv_bipush (v := 8) hx hb dL_law_466 (by decide) ?_
  refine on_i (run_V hC hE hP hS (As := [.int ((8 : Int32))]) (q_count l hI (o := o) hv 8 (by decide) e0) cal_X4_count w_319 ⟨by show _ + 1 ≤ R.frames; simp only; omega, by show _ + _ ≤ R.locals; simp only; omega⟩ k_8 f_8 rfl rfl rfl (Nat.le_of_ble_eq_true rfl) hl.1 hf dL_law_468) hS (fun H locs hP hS => ?_)
  refine lv_istore (lv' := [(19, .int (factF v 8)), (18, .int (factF v 0)), (0, .ref b), (1, .ref (ad g (8, 0, 0))), (2, .ref (ad g (20, 0, 0))), (3, .ref (ad g (30, 0, 0))), (4, .int (nI t)), (5, .int (x)), (6, .int (nI (nH v))), (7, .int (nI (nS v))), (8, .int (nI (nW v))), (9, .ref (ad g (30, 2, 0))), (10, .ref (ad g (28, 3, 0))), (11, .ref (ad g (29, 3, 0))), (14, .ref (ad g (30, 1, 0))), (15, .int (be))]) hx hb dL_law_471 hl (by decide) rfl (fun ls hl => ?_)
  refine lv_aload_n hx hb dL_law_473 rfl (lv_at hl 3 rfl) ?_
  refine lv_bipush (v := 7) hx hb dL_law_474 (by decide) ?_
  refine on_i (run_V hC hE hP hS (As := [.int ((7 : Int32))]) (q_count l hI (o := o) hv 7 (by decide) e0) cal_X4_count w_319 ⟨by show _ + 1 ≤ R.frames; simp only; omega, by show _ + _ ≤ R.locals; simp only; omega⟩ k_8 f_8 rfl rfl rfl (Nat.le_of_ble_eq_true rfl) hl.1 hf dL_law_476) hS (fun H locs hP hS => ?_)
  refine lv_istore (lv' := [(20, .int (factF v 7)), (19, .int (factF v 8)), (18, .int (factF v 0)), (0, .ref b), (1, .ref (ad g (8, 0, 0))), (2, .ref (ad g (20, 0, 0))), (3, .ref (ad g (30, 0, 0))), (4, .int (nI t)), (5, .int (x)), (6, .int (nI (nH v))), (7, .int (nI (nS v))), (8, .int (nI (nW v))), (9, .ref (ad g (30, 2, 0))), (10, .ref (ad g (28, 3, 0))), (11, .ref (ad g (29, 3, 0))), (14, .ref (ad g (30, 1, 0))), (15, .int (be))]) hx hb dL_law_479 hl (by decide) rfl (fun ls hl => ?_)
  replace hP : WPe g (KK g) (ent g (setR (setR M 2 v) 0 v) o) _ := WP.cast hP (s2_id e0)
  refine lv_aload_n hx hb dL_law_481 rfl (lv_at hl 4 rfl) ?_
  refine lv_iconst (v := 1) hx hb dL_law_482 (by decide) ?_
  refine on_i (run_V hC hE hP hS (As := [.int ((1 : Int32))]) (c_passP_0 l hI (M := setR M 2 v) hv 1 (by decide) (by decide) (hW.nx 1 (by decide))) cal_X4_pass w_347 ⟨by show _ + 1 ≤ R.frames; simp only; omega, by show _ + _ ≤ R.locals; simp only; omega⟩ k_8 f_8 rfl rfl rfl (Nat.le_of_ble_eq_true rfl) hl.1 hf dL_law_483) hS (fun H locs hP hS => ?_)
  refine m_top (y := got1 v) (gots_1) ?_
  refine lv_istore (lv' := [(21, .int (got1 v)), (20, .int (factF v 7)), (19, .int (factF v 8)), (18, .int (factF v 0)), (0, .ref b), (1, .ref (ad g (8, 0, 0))), (2, .ref (ad g (20, 0, 0))), (3, .ref (ad g (30, 0, 0))), (4, .int (nI t)), (5, .int (x)), (6, .int (nI (nH v))), (7, .int (nI (nS v))), (8, .int (nI (nW v))), (9, .ref (ad g (30, 2, 0))), (10, .ref (ad g (28, 3, 0))), (11, .ref (ad g (29, 3, 0))), (14, .ref (ad g (30, 1, 0))), (15, .int (be))]) hx hb dL_law_486 hl (by decide) rfl (fun ls hl => ?_)
  replace hP : WPe g (KK g) (ent g (setR (setR M 0 (days 1 v)) 2 v) o) _ := WP.cast hP setR_cm
  refine lv_aload_n hx hb dL_law_488 rfl (lv_at hl 6 rfl) ?_
  refine on_i (run_V hC hE hP hS (As := []) (c_passS l hI hv hL (hW.nx 1 (by decide)) hW.2.2.2.1) cal_X5_pass w_507 ⟨by show _ + 1 ≤ R.frames; simp only; omega, by show _ + _ ≤ R.locals; simp only; omega⟩ (k_20 hL) e_20 rfl rfl rfl (Nat.le_of_ble_eq_true rfl) hl.1 hf dL_law_489) hS (fun H locs hP hS => ?_)
  refine lv_pop hx hb dL_law_492 rfl ?_
  exact IH H locs ls hP hS hl
