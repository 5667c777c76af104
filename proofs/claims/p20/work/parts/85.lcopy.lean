/-! What the law copies. -/
theorem cpO_H {v u : Vw} {i : Nat} : nH (cpO v u i) = nH u := by
  unfold nH cpO
  rw [if_neg (by omega)]
theorem holeF_2 {v : Vw} {h : Nat} : holeF v h 2 = v 5 h := by
  unfold holeF
  rw [if_neg (by decide), if_neg (by decide), if_pos rfl]
set_option maxHeartbeats 4000000 in
set_option maxRecDepth 100000 in
theorem w_open {p : Program} {l : Launch} {e : Jvm.Env} {R : Room} {s : State} {m : MethodId} {args : Array Value} {below : List Frame} {meth : Method} {c : Code} {Q : State → Prop} {g : Gm} {cells slots n b t : Nat} {x : Int32} {u : Vw} {M : Mem} {o : Nat → Int64} {H : Heap} {locs : List Loc} {ls : Array Slot} {v : Vw} (hC : CallFix p m c cL_law 32 s args LG RL) (hE : Ev g s) (hR : 9 ≤ R.frames ∧ 250 ≤ R.locals) (hf : cells ≤ R.cells ∧ slots ≤ R.slots) (hI : IJ g (KK g)) (hW : Lw n v) (hL : SimL g v) (e0 : M 0 = v) (e2 : M 2 = v) (kO : KK g (30, 2, 0)) (hu : nH u = nH v) (hP : WP g (setR M 3 u) o H) (hS : va_S (AA g) s.heap H locs) (IH : ∀ (H : Heap) (locs : List Loc) (ls : Array Slot), WP g (setR M 3 (cpO v u (nH v))) o H → va_S (AA g) s.heap H locs → lv_has ls 32 [(0, .ref b), (1, .ref (ad g (8, 0, 0))), (2, .ref (ad g (20, 0, 0))), (3, .ref (ad g (30, 0, 0))), (4, .int (nI t)), (5, .int (x)), (6, .int (nI (nH v))), (7, .int (nI (nS v))), (8, .int (nI (nW v))), (9, .ref (ad g (30, 2, 0)))] → W p l e R s m args below meth c H locs cells slots Q (F0 m 151 ls [])) (hl : lv_has ls 32 [(0, .ref b), (1, .ref (ad g (8, 0, 0))), (2, .ref (ad g (20, 0, 0))), (3, .ref (ad g (30, 0, 0))), (4, .int (nI t)), (5, .int (x)), (6, .int (nI (nH v))), (7, .int (nI (nS v))), (8, .int (nI (nW v))), (9, .ref (ad g (30, 2, 0)))]) : W p l e R s m args below meth c H locs cells slots Q (F0 m 123 ls []) := by
  obtain ⟨hx, hb, hml, hown, hG⟩ := id hC
  have hv := hW.iv
  have qH := hv.lH
  have qS := hv.lS
  have qW := hv.lW
  refine lv_iconst (v := 0) hx hb dL_law_123 (by decide) ?_
  refine lv_istore (lv' := [(10, .int ((0 : Int32))), (0, .ref b), (1, .ref (ad g (8, 0, 0))), (2, .ref (ad g (20, 0, 0))), (3, .ref (ad g (30, 0, 0))), (4, .int (nI t)), (5, .int (x)), (6, .int (nI (nH v))), (7, .int (nI (nS v))), (8, .int (nI (nW v))), (9, .ref (ad g (30, 2, 0)))]) hx hb dL_law_124 hl (by decide) rfl (fun ls hl => ?_)
  refine lp_W (i0 := 0) (nH v) (fun i => ent g (setR M 3 (cpO v u i)) o) (fun i => [(10, .int (nI i)), (0, .ref b), (1, .ref (ad g (8, 0, 0))), (2, .ref (ad g (20, 0, 0))), (3, .ref (ad g (30, 0, 0))), (4, .int (nI t)), (5, .int (x)), (6, .int (nI (nH v))), (7, .int (nI (nS v))), (8, .int (nI (nW v))), (9, .ref (ad g (30, 2, 0)))]) (fun i => True) (Nat.zero_le _) (hP.castR (cpO_0)) hS (lv_sub hl [0, 1, 2, 3, 4, 5, 6, 7, 8, 9, 10] rfl) (trivial) (fun H locs ls hP hS hl J => ?_) (fun i hi IH H locs ls hP hS hl J => ?_)
  · refine lv_iload hx hb dL_law_126 (lv_at hl 0 rfl) ?_
    refine lv_iload hx hb dL_law_128 (lv_at hl 7 rfl) ?_
    refine lv_icmp_ge (tgt := 151) hx hb dL_law_130 (by decide) (fun c1 => ?_) (fun c1 => absurd (nI_le (Nat.le_refl _) (by omega)) c1)
    exact IH H locs ls hP hS (lv_sub hl [1, 2, 3, 4, 5, 6, 7, 8, 9, 10] rfl)
  · refine lv_iload hx hb dL_law_126 (lv_at hl 0 rfl) ?_
    refine lv_iload hx hb dL_law_128 (lv_at hl 7 rfl) ?_
    refine lv_icmp_ge (tgt := 151) hx hb dL_law_130 (by decide) (fun c2 => absurd c2 (nI_ge hi (by omega))) (fun c2 => ?_)
    refine lv_aload hx hb dL_law_133 (lv_at hl 10 rfl) ?_
    refine lv_iload hx hb dL_law_135 (lv_at hl 0 rfl) ?_
    refine lv_aload_n hx hb dL_law_137 rfl (lv_at hl 2 rfl) ?_
    refine lv_iload hx hb dL_law_138 (lv_at hl 0 rfl) ?_
    refine lv_iconst (v := 2) hx hb dL_law_140 (by decide) ?_
    refine on_i (run_V hC hE hP hS (As := [.int (nI i), .int ((2 : Int32))]) (x_hole l hI (M := setR M 3 (cpO v u i)) hv i hi 2 (in_H hv hi) (by decide) ((setR_ne _ _ (by decide)).trans e0)) cal_X4_hole w_264 ⟨by show _ + 1 ≤ R.frames; simp only; omega, by show _ + _ ≤ R.locals; simp only; omega⟩ k_8 f_8 rfl rfl rfl (Nat.le_of_ble_eq_true rfl) hl.1 hf dL_law_141) hS (fun H locs hP hS => ?_)
    refine m_top (y := v 5 i) (holeF_2) ?_
    refine m_iast hC hE hI hP hS kO e_30 i rfl (show i < nH (cpO v u i) by rw [cpO_H, hu]; exact hi) (show nH (cpO v u i) < 2 ^ 31 by rw [cpO_H, hu]; omega) (p_30 (by decide)) (ent_put g M 3 (cpO v u i) o 2 i (v 5 i) (kf_30 (by decide))) dL_law_144 (fun H locs hP hS => ?_)
    replace hP := hP.castR cpO_s.symm
    refine lv_iinc (v := nI (i + 1)) (lv' := [(10, .int (nI (i + 1))), (0, .ref b), (1, .ref (ad g (8, 0, 0))), (2, .ref (ad g (20, 0, 0))), (3, .ref (ad g (30, 0, 0))), (4, .int (nI t)), (5, .int (x)), (6, .int (nI (nH v))), (7, .int (nI (nS v))), (8, .int (nI (nW v))), (9, .ref (ad g (30, 2, 0)))]) hx hb dL_law_145 hl (k := 0) rfl (nI_1 _) (by decide) rfl (fun ls hl => ?_)
    refine lv_goto (tgt := 126) hx hb dL_law_148 (by decide) ?_
    exact IH H locs ls (hP.castR (rfl)) hS (lv_sub hl [0, 1, 2, 3, 4, 5, 6, 7, 8, 9, 10] rfl) (trivial)
