/-! What was foreseen has come. -/
set_option maxHeartbeats 4000000 in
set_option maxRecDepth 100000 in
theorem w_come {p : Program} {l : Launch} {e : Jvm.Env} {R : Room} {s : State} {m : MethodId} {args : Array Value} {below : List Frame} {meth : Method} {c : Code} {Q : State → Prop} {g : Gm} {cells slots n b t : Nat} {x ng fs ca be sm : Int32} {f : Nat → Int32} {u : Vw} {M : Mem} {o : Nat → Int64} {H : Heap} {locs : List Loc} {ls : Array Slot} {v : Vw} (hC : CallFix p m c cL_law 32 s args LG RL) (hE : Ev g s) (hR : 9 ≤ R.frames ∧ 250 ≤ R.locals) (hf : cells ≤ R.cells ∧ slots ≤ R.slots) (hI : IJ g (KK g)) (hW : Lw n v) (hL : SimL g v) (e0 : M 0 = v) (e2 : M 2 = v) (kA : KK g (30, 0, 0)) (kB : KK g (30, 1, 0)) (hw : ∀ i, i < 5 → isIn (u 0 i) 0 8 = true) (ht : ∀ i, i < 5 → u 1 i = factF v (u 0 i)) (hP : WP g (setR M 3 u) o H) (hS : va_S (AA g) s.heap H locs) (IH : ∀ (H : Heap) (locs : List Loc) (ls : Array Slot), WP g (setR M 3 u) o H → va_S (AA g) s.heap H locs → lv_has ls 32 [(0, .ref b), (1, .ref (ad g (8, 0, 0))), (2, .ref (ad g (20, 0, 0))), (3, .ref (ad g (30, 0, 0))), (4, .int (nI t)), (5, .int (x)), (6, .int (nI (nH v))), (7, .int (nI (nS v))), (8, .int (nI (nW v))), (9, .ref (ad g (30, 2, 0))), (10, .ref (ad g (28, 3, 0))), (11, .ref (ad g (29, 3, 0))), (14, .ref (ad g (30, 1, 0))), (15, .int (be)), (18, .int (ng)), (19, .int (fs)), (20, .int (sm)), (21, .int (ca))] → W p l e R s m args below meth c H locs cells slots Q (F0 m 526 ls [])) (hl : lv_has ls 32 [(0, .ref b), (1, .ref (ad g (8, 0, 0))), (2, .ref (ad g (20, 0, 0))), (3, .ref (ad g (30, 0, 0))), (4, .int (nI t)), (5, .int (x)), (6, .int (nI (nH v))), (7, .int (nI (nS v))), (8, .int (nI (nW v))), (9, .ref (ad g (30, 2, 0))), (10, .ref (ad g (28, 3, 0))), (11, .ref (ad g (29, 3, 0))), (14, .ref (ad g (30, 1, 0))), (15, .int (be)), (18, .int (ng)), (19, .int (fs)), (20, .int (sm)), (21, .int (ca))]) : W p l e R s m args below meth c H locs cells slots Q (F0 m 493 ls []) := by
  obtain ⟨hx, hb, hml, hown, hG⟩ := id hC
  have hv := hW.iv
  have qH := hv.lH
  have qS := hv.lS
  have qW := hv.lW
  refine lv_iconst (v := 0) hx hb dL_law_493 (by decide) ?_
  refine lv_istore (lv' := [(22, .int ((0 : Int32))), (0, .ref b), (1, .ref (ad g (8, 0, 0))), (2, .ref (ad g (20, 0, 0))), (3, .ref (ad g (30, 0, 0))), (4, .int (nI t)), (5, .int (x)), (6, .int (nI (nH v))), (7, .int (nI (nS v))), (8, .int (nI (nW v))), (9, .ref (ad g (30, 2, 0))), (10, .ref (ad g (28, 3, 0))), (11, .ref (ad g (29, 3, 0))), (14, .ref (ad g (30, 1, 0))), (15, .int (be)), (18, .int (ng)), (19, .int (fs)), (20, .int (sm)), (21, .int (ca))]) hx hb dL_law_494 hl (by decide) rfl (fun ls hl => ?_)
  refine lp_W (i0 := 0) 5 (fun i => ent g (setR M 3 u) o) (fun i => [(22, .int (nI i)), (0, .ref b), (1, .ref (ad g (8, 0, 0))), (2, .ref (ad g (20, 0, 0))), (3, .ref (ad g (30, 0, 0))), (4, .int (nI t)), (5, .int (x)), (6, .int (nI (nH v))), (7, .int (nI (nS v))), (8, .int (nI (nW v))), (9, .ref (ad g (30, 2, 0))), (10, .ref (ad g (28, 3, 0))), (11, .ref (ad g (29, 3, 0))), (14, .ref (ad g (30, 1, 0))), (15, .int (be)), (18, .int (ng)), (19, .int (fs)), (20, .int (sm)), (21, .int (ca))]) (fun i => True) (Nat.zero_le _) (hP.castR (rfl)) hS (lv_sub hl [0, 1, 2, 3, 4, 5, 6, 7, 8, 9, 10, 11, 12, 13, 14, 15, 16, 17, 18] rfl) (trivial) (fun H locs ls hP hS hl J => ?_) (fun i hi IH H locs ls hP hS hl J => ?_)
  · refine lv_iload hx hb dL_law_496 (lv_at hl 0 rfl) ?_
    refine lv_iconst (v := 5) hx hb dL_law_498 (by decide) ?_
    refine lv_icmp_ge (tgt := 526) hx hb dL_law_499 (by decide) (fun c1 => ?_) (fun c1 => absurd (nI_le (a := 5) (b := 5) (Nat.le_refl _) (by omega)) c1)
    exact IH H locs ls hP hS (lv_sub hl [1, 2, 3, 4, 5, 6, 7, 8, 9, 10, 11, 12, 13, 14, 15, 16, 17, 18] rfl)
  · refine lv_iload hx hb dL_law_496 (lv_at hl 0 rfl) ?_
    refine lv_iconst (v := 5) hx hb dL_law_498 (by decide) ?_
    refine lv_icmp_ge (tgt := 526) hx hb dL_law_499 (by decide) (fun c2 => absurd c2 (nI_ge (b := 5) hi (by omega))) (fun c2 => ?_)
    refine lv_aload_n hx hb dL_law_502 rfl (lv_at hl 2 rfl) ?_
    refine lv_aload_n hx hb dL_law_503 rfl (lv_at hl 4 rfl) ?_
    refine lv_iload hx hb dL_law_504 (lv_at hl 0 rfl) ?_
    refine m_iald hC hE hP kA e_30 i rfl (show i < 5 from hi) (show 5 < 2 ^ 31 by decide) dL_law_506 ?_
    refine on_i (run_V hC hE hP hS (As := [.int (u 0 i)]) (x_count l hI (M := setR M 3 u) hv (u 0 i) (hw i hi) ((setR_ne _ _ (by decide)).trans e0)) cal_X4_count w_319 ⟨by show _ + 1 ≤ R.frames; simp only; omega, by show _ + _ ≤ R.locals; simp only; omega⟩ k_8 f_8 rfl rfl rfl (Nat.le_of_ble_eq_true rfl) hl.1 hf dL_law_507) hS (fun H locs hP hS => ?_)
    refine lv_aload hx hb dL_law_510 (lv_at hl 13 rfl) ?_
    refine lv_iload hx hb dL_law_512 (lv_at hl 0 rfl) ?_
    refine m_iald hC hE hP kB e_30 i rfl (show i < 5 from hi) (show 5 < 2 ^ 31 by decide) dL_law_514 ?_
    refine lv_icmp_eq (tgt := 520) hx hb dL_law_515 (by decide) (fun c3 => ?_) (fun c3 => absurd ((ht i hi).symm) c3)
    refine lv_iinc (v := nI (i + 1)) (lv' := [(22, .int (nI (i + 1))), (0, .ref b), (1, .ref (ad g (8, 0, 0))), (2, .ref (ad g (20, 0, 0))), (3, .ref (ad g (30, 0, 0))), (4, .int (nI t)), (5, .int (x)), (6, .int (nI (nH v))), (7, .int (nI (nS v))), (8, .int (nI (nW v))), (9, .ref (ad g (30, 2, 0))), (10, .ref (ad g (28, 3, 0))), (11, .ref (ad g (29, 3, 0))), (14, .ref (ad g (30, 1, 0))), (15, .int (be)), (18, .int (ng)), (19, .int (fs)), (20, .int (sm)), (21, .int (ca))]) hx hb dL_law_520 hl (k := 0) rfl (nI_1 _) (by decide) rfl (fun ls hl => ?_)
    refine lv_goto (tgt := 496) hx hb dL_law_523 (by decide) ?_
    exact IH H locs ls (hP.castR (rfl)) hS (lv_sub hl [0, 1, 2, 3, 4, 5, 6, 7, 8, 9, 10, 11, 12, 13, 14, 15, 16, 17, 18] rfl) (trivial)
