/-! The law looks at each warden. -/
theorem warF_0 {v : Vw} {k : Nat} : warF v k 0 = v 12 k := warF_n (j := 0) (by decide)
theorem warF_1 {v : Vw} {k : Nat} : warF v k 1 = v 13 k := warF_n (j := 1) (by decide)
theorem warF_2 {v : Vw} {k : Nat} : warF v k 2 = v 14 k := warF_n (j := 2) (by decide)
theorem warF_3 {v : Vw} {k : Nat} : warF v k 3 = v 15 k := warF_n (j := 3) (by decide)
theorem Nr_le {n : Nat} {x y p : Int32} (hn : n < 9) (hp : p = nI n) (h : Nr n x y) : iabs (y - x) ≤ p := by
  obtain ⟨a, b, ha, hb, rfl, rfl, h1, h2⟩ := h
  rw [hp, iabs_nI (by omega) (by omega)]
  exact nI_le (by unfold dst; omega) (by omega)
theorem Nr_no {n : Nat} {x y p : Int32} (hn : n < 9) (hp : p = nI n) (h : Nr n x y) : ¬ p < iabs (y - x) := Int32.not_lt.mpr (Nr_le hn hp h)
set_option maxHeartbeats 4000000 in
set_option maxRecDepth 100000 in
theorem w_wchk {p : Program} {l : Launch} {e : Jvm.Env} {R : Room} {s : State} {m : MethodId} {args : Array Value} {below : List Frame} {meth : Method} {c : Code} {Q : State → Prop} {g : Gm} {cells slots n b t : Nat} {x ng fs ca al ct mo op : Int32} {u : Vw} {M : Mem} {o : Nat → Int64} {H : Heap} {locs : List Loc} {ls : Array Slot} {v : Vw} (hC : CallFix p m c cL_law 32 s args LG RL) (hE : Ev g s) (hR : 9 ≤ R.frames ∧ 250 ≤ R.locals) (hf : cells ≤ R.cells ∧ slots ≤ R.slots) (hI : IJ g (KK g)) (hW : Lw n v) (hL : SimL g v) (e0 : M 0 = v) (e2 : M 2 = v) (kO : KK g (29, 3, 0)) (kR : ∀ k, k < nW v → KK g (25, 3, k)) (hu : nW u = nW v) (hq : ∀ w, w < nW v → v 14 w = u 14 w ∧ ∃ n, n < 9 ∧ u 14 w = nI n ∧ Nr n (u 12 w) (v 12 w) ∧ Nr n (u 13 w) (v 13 w)) (hP : WP g (setR M 3 u) o H) (hS : va_S (AA g) s.heap H locs) (IH : ∀ (H : Heap) (locs : List Loc) (ls : Array Slot), WP g (setR M 3 u) o H → va_S (AA g) s.heap H locs → lv_has ls 32 [(27, .int (sumI (fun w => v 15 w - u 15 w) (nW v))), (0, .ref b), (1, .ref (ad g (8, 0, 0))), (2, .ref (ad g (20, 0, 0))), (3, .ref (ad g (30, 0, 0))), (4, .int (nI t)), (5, .int (x)), (6, .int (nI (nH v))), (7, .int (nI (nS v))), (8, .int (nI (nW v))), (9, .ref (ad g (30, 2, 0))), (10, .ref (ad g (28, 3, 0))), (11, .ref (ad g (29, 3, 0))), (18, .int (ng)), (19, .int (fs)), (21, .int (ca)), (22, .int (al)), (24, .int (ct)), (25, .int (mo)), (26, .int (op))] → W p l e R s m args below meth c H locs cells slots Q (F0 m 1438 ls [])) (hl : lv_has ls 32 [(0, .ref b), (1, .ref (ad g (8, 0, 0))), (2, .ref (ad g (20, 0, 0))), (3, .ref (ad g (30, 0, 0))), (4, .int (nI t)), (5, .int (x)), (6, .int (nI (nH v))), (7, .int (nI (nS v))), (8, .int (nI (nW v))), (9, .ref (ad g (30, 2, 0))), (10, .ref (ad g (28, 3, 0))), (11, .ref (ad g (29, 3, 0))), (18, .int (ng)), (19, .int (fs)), (21, .int (ca)), (22, .int (al)), (24, .int (ct)), (25, .int (mo)), (26, .int (op))]) : W p l e R s m args below meth c H locs cells slots Q (F0 m 1324 ls []) := by
  obtain ⟨hx, hb, hml, hown, hG⟩ := id hC
  have hv := hW.iv
  have qH := hv.lH
  have qS := hv.lS
  have qW := hv.lW
  refine lv_iconst (v := 0) hx hb dL_law_1324 (by decide) ?_
  refine lv_istore (lv' := [(27, .int ((0 : Int32))), (0, .ref b), (1, .ref (ad g (8, 0, 0))), (2, .ref (ad g (20, 0, 0))), (3, .ref (ad g (30, 0, 0))), (4, .int (nI t)), (5, .int (x)), (6, .int (nI (nH v))), (7, .int (nI (nS v))), (8, .int (nI (nW v))), (9, .ref (ad g (30, 2, 0))), (10, .ref (ad g (28, 3, 0))), (11, .ref (ad g (29, 3, 0))), (18, .int (ng)), (19, .int (fs)), (21, .int (ca)), (22, .int (al)), (24, .int (ct)), (25, .int (mo)), (26, .int (op))]) hx hb dL_law_1325 hl (by decide) rfl (fun ls hl => ?_)
  refine lv_iconst (v := 0) hx hb dL_law_1327 (by decide) ?_
  refine lv_istore (lv' := [(28, .int ((0 : Int32))), (27, .int ((0 : Int32))), (0, .ref b), (1, .ref (ad g (8, 0, 0))), (2, .ref (ad g (20, 0, 0))), (3, .ref (ad g (30, 0, 0))), (4, .int (nI t)), (5, .int (x)), (6, .int (nI (nH v))), (7, .int (nI (nS v))), (8, .int (nI (nW v))), (9, .ref (ad g (30, 2, 0))), (10, .ref (ad g (28, 3, 0))), (11, .ref (ad g (29, 3, 0))), (18, .int (ng)), (19, .int (fs)), (21, .int (ca)), (22, .int (al)), (24, .int (ct)), (25, .int (mo)), (26, .int (op))]) hx hb dL_law_1328 hl (by decide) rfl (fun ls hl => ?_)
  refine lp_W (i0 := 0) (nW v) (fun i => ent g (setR M 3 u) o) (fun i => [(28, .int (nI i)), (27, .int (sumI (fun w => v 15 w - u 15 w) i)), (0, .ref b), (1, .ref (ad g (8, 0, 0))), (2, .ref (ad g (20, 0, 0))), (3, .ref (ad g (30, 0, 0))), (4, .int (nI t)), (5, .int (x)), (6, .int (nI (nH v))), (7, .int (nI (nS v))), (8, .int (nI (nW v))), (9, .ref (ad g (30, 2, 0))), (10, .ref (ad g (28, 3, 0))), (11, .ref (ad g (29, 3, 0))), (18, .int (ng)), (19, .int (fs)), (21, .int (ca)), (22, .int (al)), (24, .int (ct)), (25, .int (mo)), (26, .int (op))]) (fun i => True) (Nat.zero_le _) (hP.castR (rfl)) hS (by show lv_has ls _ [(28, .int (nI 0)), (27, .int (sumI (fun w => v 15 w - u 15 w) 0)), (0, .ref b), (1, .ref (ad g (8, 0, 0))), (2, .ref (ad g (20, 0, 0))), (3, .ref (ad g (30, 0, 0))), (4, .int (nI t)), (5, .int (x)), (6, .int (nI (nH v))), (7, .int (nI (nS v))), (8, .int (nI (nW v))), (9, .ref (ad g (30, 2, 0))), (10, .ref (ad g (28, 3, 0))), (11, .ref (ad g (29, 3, 0))), (18, .int (ng)), (19, .int (fs)), (21, .int (ca)), (22, .int (al)), (24, .int (ct)), (25, .int (mo)), (26, .int (op))]; rw [show sumI (fun w => v 15 w - u 15 w) 0 = (0 : Int32) from rfl]; exact lv_sub hl [0, 1, 2, 3, 4, 5, 6, 7, 8, 9, 10, 11, 12, 13, 14, 15, 16, 17, 18, 19, 20] rfl) (trivial) (fun H locs ls hP hS hl J => ?_) (fun i hi IH H locs ls hP hS hl J => ?_)
  · refine lv_iload hx hb dL_law_1330 (lv_at hl 0 rfl) ?_
    refine lv_iload hx hb dL_law_1332 (lv_at hl 10 rfl) ?_
    refine lv_icmp_ge (tgt := 1438) hx hb dL_law_1334 (by decide) (fun c1 => ?_) (fun c1 => absurd (nI_le (Nat.le_refl _) (by omega)) c1)
    exact IH H locs ls hP hS (lv_sub hl [1, 2, 3, 4, 5, 6, 7, 8, 9, 10, 11, 12, 13, 14, 15, 16, 17, 18, 19, 20] rfl)
  · refine lv_iload hx hb dL_law_1330 (lv_at hl 0 rfl) ?_
    refine lv_iload hx hb dL_law_1332 (lv_at hl 10 rfl) ?_
    refine lv_icmp_ge (tgt := 1438) hx hb dL_law_1334 (by decide) (fun c2 => absurd c2 (nI_ge hi (by omega))) (fun c2 => ?_)
    obtain ⟨q0, n9, q1, q2, q3, q4⟩ := hq i hi
    refine lv_iload hx hb dL_law_1337 (lv_at hl 1 rfl) ?_
    refine lv_aload_n hx hb dL_law_1339 rfl (lv_at hl 3 rfl) ?_
    refine lv_iload hx hb dL_law_1340 (lv_at hl 0 rfl) ?_
    refine lv_iconst (v := 3) hx hb dL_law_1342 (by decide) ?_
    refine on_i (run_V hC hE hP hS (As := [.int (nI i), .int ((3 : Int32))]) (x_about l hI (M := setR M 3 u) hv i hi 3 (in_W hv hi) (by decide) ((setR_ne _ _ (by decide)).trans e0)) cal_X4_about w_306 ⟨by show _ + 1 ≤ R.frames; simp only; omega, by show _ + _ ≤ R.locals; simp only; omega⟩ k_8 f_8 rfl rfl rfl (Nat.le_of_ble_eq_true rfl) hl.1 hf dL_law_1343) hS (fun H locs hP hS => ?_)
    refine m_top (y := v 15 i) (warF_3) ?_
    refine lv_aload hx hb dL_law_1346 (lv_at hl 13 rfl) ?_
    refine lv_iload hx hb dL_law_1348 (lv_at hl 0 rfl) ?_
    refine m_aalA hC hE hP kO e_29 i (rfl) (Cn.rf.lW (by omega)) (Cn.rf.bW (by omega)) dL_law_1350 ?_
    refine lv_iconst (v := 3) hx hb dL_law_1351 (by decide) ?_
    refine m_iald hC hE hP (kR i hi) e_25 3 (rfl) (show 3 < 4 from by omega) (by decide) dL_law_1352 ?_
    refine m_top (y := u 15 i) rfl ?_
    refine lv_isub hx hb dL_law_1353 ?_
    refine lv_iadd hx hb dL_law_1354 ?_
    refine lv_istore (lv' := [(27, .int ((sumI (fun w => v 15 w - u 15 w) i) + ((v 15 i) - (u 15 i)))), (28, .int (nI i)), (0, .ref b), (1, .ref (ad g (8, 0, 0))), (2, .ref (ad g (20, 0, 0))), (3, .ref (ad g (30, 0, 0))), (4, .int (nI t)), (5, .int (x)), (6, .int (nI (nH v))), (7, .int (nI (nS v))), (8, .int (nI (nW v))), (9, .ref (ad g (30, 2, 0))), (10, .ref (ad g (28, 3, 0))), (11, .ref (ad g (29, 3, 0))), (18, .int (ng)), (19, .int (fs)), (21, .int (ca)), (22, .int (al)), (24, .int (ct)), (25, .int (mo)), (26, .int (op))]) hx hb dL_law_1355 hl (by decide) rfl (fun ls hl => ?_)
    refine lv_aload_n hx hb dL_law_1357 rfl (lv_at hl 3 rfl) ?_
    refine lv_iload hx hb dL_law_1358 (lv_at hl 1 rfl) ?_
    refine lv_iconst (v := 2) hx hb dL_law_1360 (by decide) ?_
    refine on_i (run_V hC hE hP hS (As := [.int (nI i), .int ((2 : Int32))]) (x_about l hI (M := setR M 3 u) hv i hi 2 (in_W hv hi) (by decide) ((setR_ne _ _ (by decide)).trans e0)) cal_X4_about w_306 ⟨by show _ + 1 ≤ R.frames; simp only; omega, by show _ + _ ≤ R.locals; simp only; omega⟩ k_8 f_8 rfl rfl rfl (Nat.le_of_ble_eq_true rfl) hl.1 hf dL_law_1361) hS (fun H locs hP hS => ?_)
    refine m_top (y := v 14 i) (warF_2) ?_
    refine lv_aload hx hb dL_law_1364 (lv_at hl 13 rfl) ?_
    refine lv_iload hx hb dL_law_1366 (lv_at hl 1 rfl) ?_
    refine m_aalA hC hE hP kO e_29 i (rfl) (Cn.rf.lW (by omega)) (Cn.rf.bW (by omega)) dL_law_1368 ?_
    refine lv_iconst (v := 2) hx hb dL_law_1369 (by decide) ?_
    refine m_iald hC hE hP (kR i hi) e_25 2 (rfl) (show 2 < 4 from by omega) (by decide) dL_law_1370 ?_
    refine m_top (y := u 14 i) rfl ?_
    refine lv_icmp_ne (tgt := 1430) hx hb dL_law_1371 (by decide) (fun c3 => absurd (q0) c3) (fun c3 => ?_)
    refine lv_aload_n hx hb dL_law_1374 rfl (lv_at hl 3 rfl) ?_
    refine lv_iload hx hb dL_law_1375 (lv_at hl 1 rfl) ?_
    refine lv_iconst (v := 0) hx hb dL_law_1377 (by decide) ?_
    refine on_i (run_V hC hE hP hS (As := [.int (nI i), .int ((0 : Int32))]) (x_about l hI (M := setR M 3 u) hv i hi 0 (in_W hv hi) (by decide) ((setR_ne _ _ (by decide)).trans e0)) cal_X4_about w_306 ⟨by show _ + 1 ≤ R.frames; simp only; omega, by show _ + _ ≤ R.locals; simp only; omega⟩ k_8 f_8 rfl rfl rfl (Nat.le_of_ble_eq_true rfl) hl.1 hf dL_law_1378) hS (fun H locs hP hS => ?_)
    refine m_top (y := v 12 i) (warF_0) ?_
    refine lv_aload hx hb dL_law_1381 (lv_at hl 13 rfl) ?_
    refine lv_iload hx hb dL_law_1383 (lv_at hl 1 rfl) ?_
    refine m_aalA hC hE hP kO e_29 i (rfl) (Cn.rf.lW (by omega)) (Cn.rf.bW (by omega)) dL_law_1385 ?_
    refine lv_iconst (v := 0) hx hb dL_law_1386 (by decide) ?_
    refine m_iald hC hE hP (kR i hi) e_25 0 (rfl) (show 0 < 4 from by omega) (by decide) dL_law_1387 ?_
    refine m_top (y := u 12 i) rfl ?_
    refine lv_isub hx hb dL_law_1388 ?_
    refine m_abs hC w_682 w_290 w_14 w_291 hl.1 (Nat.le_trans (by decide) hR.1) (by exact Nat.le_trans (show _ ≤ 250 from Nat.le_of_ble_eq_true rfl) hR.2) hf.1 hf.2 dL_law_1389 ?_
    refine m_top (y := iabs ((v 12 i) - (u 12 i))) rfl ?_
    refine lv_aload hx hb dL_law_1392 (lv_at hl 13 rfl) ?_
    refine lv_iload hx hb dL_law_1394 (lv_at hl 1 rfl) ?_
    refine m_aalA hC hE hP kO e_29 i (rfl) (Cn.rf.lW (by omega)) (Cn.rf.bW (by omega)) dL_law_1396 ?_
    refine lv_iconst (v := 2) hx hb dL_law_1397 (by decide) ?_
    refine m_iald hC hE hP (kR i hi) e_25 2 (rfl) (show 2 < 4 from by omega) (by decide) dL_law_1398 ?_
    refine m_top (y := u 14 i) rfl ?_
    refine lv_icmp_gt (tgt := 1430) hx hb dL_law_1399 (by decide) (fun c4 => absurd c4 (Nr_no q1 q2 q3)) (fun c4 => ?_)
    refine lv_aload_n hx hb dL_law_1402 rfl (lv_at hl 3 rfl) ?_
    refine lv_iload hx hb dL_law_1403 (lv_at hl 1 rfl) ?_
    refine lv_iconst (v := 1) hx hb dL_law_1405 (by decide) ?_
    refine on_i (run_V hC hE hP hS (As := [.int (nI i), .int ((1 : Int32))]) (x_about l hI (M := setR M 3 u) hv i hi 1 (in_W hv hi) (by decide) ((setR_ne _ _ (by decide)).trans e0)) cal_X4_about w_306 ⟨by show _ + 1 ≤ R.frames; simp only; omega, by show _ + _ ≤ R.locals; simp only; omega⟩ k_8 f_8 rfl rfl rfl (Nat.le_of_ble_eq_true rfl) hl.1 hf dL_law_1406) hS (fun H locs hP hS => ?_)
    refine m_top (y := v 13 i) (warF_1) ?_
    refine lv_aload hx hb dL_law_1409 (lv_at hl 13 rfl) ?_
    refine lv_iload hx hb dL_law_1411 (lv_at hl 1 rfl) ?_
    refine m_aalA hC hE hP kO e_29 i (rfl) (Cn.rf.lW (by omega)) (Cn.rf.bW (by omega)) dL_law_1413 ?_
    refine lv_iconst (v := 1) hx hb dL_law_1414 (by decide) ?_
    refine m_iald hC hE hP (kR i hi) e_25 1 (rfl) (show 1 < 4 from by omega) (by decide) dL_law_1415 ?_
    refine m_top (y := u 13 i) rfl ?_
    refine lv_isub hx hb dL_law_1416 ?_
    refine m_abs hC w_682 w_290 w_14 w_291 hl.1 (Nat.le_trans (by decide) hR.1) (by exact Nat.le_trans (show _ ≤ 250 from Nat.le_of_ble_eq_true rfl) hR.2) hf.1 hf.2 dL_law_1417 ?_
    refine m_top (y := iabs ((v 13 i) - (u 13 i))) rfl ?_
    refine lv_aload hx hb dL_law_1420 (lv_at hl 13 rfl) ?_
    refine lv_iload hx hb dL_law_1422 (lv_at hl 1 rfl) ?_
    refine m_aalA hC hE hP kO e_29 i (rfl) (Cn.rf.lW (by omega)) (Cn.rf.bW (by omega)) dL_law_1424 ?_
    refine lv_iconst (v := 2) hx hb dL_law_1425 (by decide) ?_
    refine m_iald hC hE hP (kR i hi) e_25 2 (rfl) (show 2 < 4 from by omega) (by decide) dL_law_1426 ?_
    refine m_top (y := u 14 i) rfl ?_
    refine lv_icmp_le (tgt := 1432) hx hb dL_law_1427 (by decide) (fun c5 => ?_) (fun c5 => absurd (Nr_le q1 q2 q4) c5)
    refine lv_iinc (v := nI (i + 1)) (lv' := [(28, .int (nI (i + 1))), (27, .int ((sumI (fun w => v 15 w - u 15 w) i) + ((v 15 i) - (u 15 i)))), (0, .ref b), (1, .ref (ad g (8, 0, 0))), (2, .ref (ad g (20, 0, 0))), (3, .ref (ad g (30, 0, 0))), (4, .int (nI t)), (5, .int (x)), (6, .int (nI (nH v))), (7, .int (nI (nS v))), (8, .int (nI (nW v))), (9, .ref (ad g (30, 2, 0))), (10, .ref (ad g (28, 3, 0))), (11, .ref (ad g (29, 3, 0))), (18, .int (ng)), (19, .int (fs)), (21, .int (ca)), (22, .int (al)), (24, .int (ct)), (25, .int (mo)), (26, .int (op))]) hx hb dL_law_1432 hl (k := 1) rfl (nI_1 _) (by decide) rfl (fun ls hl => ?_)
    refine lv_goto (tgt := 1330) hx hb dL_law_1435 (by decide) ?_
    exact IH H locs ls (hP.castR (rfl)) hS (by show lv_has ls _ [(28, .int (nI (i + 1))), (27, .int (sumI (fun w => v 15 w - u 15 w) (i + 1))), (0, .ref b), (1, .ref (ad g (8, 0, 0))), (2, .ref (ad g (20, 0, 0))), (3, .ref (ad g (30, 0, 0))), (4, .int (nI t)), (5, .int (x)), (6, .int (nI (nH v))), (7, .int (nI (nS v))), (8, .int (nI (nW v))), (9, .ref (ad g (30, 2, 0))), (10, .ref (ad g (28, 3, 0))), (11, .ref (ad g (29, 3, 0))), (18, .int (ng)), (19, .int (fs)), (21, .int (ca)), (22, .int (al)), (24, .int (ct)), (25, .int (mo)), (26, .int (op))]; rw [show sumI (fun w => v 15 w - u 15 w) (i + 1) = (sumI (fun w => v 15 w - u 15 w) i) + ((v 15 i) - (u 15 i)) from rfl]; exact lv_sub hl [0, 1, 2, 3, 4, 5, 6, 7, 8, 9, 10, 11, 12, 13, 14, 15, 16, 17, 18, 19, 20] rfl) (trivial)
