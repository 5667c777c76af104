/-! What the law copies. -/
theorem cpO_H {v u : Vw} {i : Nat} : nH (cpO v u i) = nH u := by
  unfold nH cpO
  rw [if_neg (by omega)]
theorem holeF_2 {v : Vw} {h : Nat} : holeF v h 2 = v 5 h := by
  unfold holeF
  rw [if_neg (by decide), if_neg (by decide), if_pos rfl]
set_option maxHeartbeats 4000000 in
set_option maxRecDepth 100000 in
theorem w_open {p : Program} {l : Launch} {e : Jvm.Env} {R : Room} {s : State} {m : MethodId} {args : Array Value} {below : List Frame} {meth : Method} {c : Code} {Q : State → Prop} {g : Gm} {cells slots n b t : Nat} {x : Int32} {u : Vw} {M : Mem} {o : Nat → Int64} {H : Heap} {locs : List Loc} {ls : Array Slot} {v : Vw} (hC : CallFix p m c cL_law 32 s args LG RL) (hE : Ev g s) (hR : 9 ≤ R.frames ∧ 250 ≤ R.locals) (hf : cells ≤ R.cells ∧ slots ≤ R.slots) (hI : IJ g (KK g)) (hW : Lw n v) (hL : SimL g v) (e0 : M 0 = v) (e2 : M 2 = v) (kO : KK g (30, 2, 0)) (hu : nH u = nH v) (hP : WP g (setR M 3 u) o H) (hS : va_S (AA g) s.heap H locs) (IH : ∀ (H : Heap) (locs : List Loc) (ls : Array Slot), WP g (setR M 3 (cpO v u (nH v))) o H → va_S (AA g) s.heap H locs → lv_has ls 32 [(0, .ref b), (1, .ref (ad g (8, 0, 0))), (2, .ref (ad g (20, 0, 0))), (3, .ref (ad g (30, 0, 0))), (4, .int (nI t)), (5, .int (x)), (6, .int (nI (nH v))), (7, .int (nI (nS v))), (8, .int (nI (nW v))), (9, .ref (ad g (30, 2, 0)))] → W p l e R s m args below meth c H locs cells slots Q (F0 m 151 ls [])) (hl : lv_has ls 32 [(0, .ref b), (1, .ref (ad g (8, 0, 0))), (2, .ref (ad g (20, 0, 0))), (3, .ref (ad g (30, 0, 0))), (4, .int (nI t)), (5, .int (x)), (6, .int (nI (nH v))), (7, .int (nI (nS v))), (8, .int (nI (nW v))), (9, .ref (ad g (30, 2, 0)))]) : W p l e R s m args below meth c H locs cells slots Q (F0 m 123 ls []) := by
  obtain ⟨hx, hb, hml, hown, hG⟩ := id hC
  have hv := hW.iv
  have qH := hv.lH
  have qS := hv.lS
  have qW := hv.lW
  refine lv_iconst (v := 0) hx hb dL_law_123 (by decide) ?_
  refine lv_istore (lv' := [(10, .int ((0 : Int32))), (0, .ref b), (1, .ref (ad g (8, 0, 0))), (2, .ref (ad g (20, 0, 0))), (3, .ref (ad g (30, 0, 0))), (4, .int (nI t)), (5, .int (x)), (6, .int (nI (nH v))), (7, .int (nI (nS v))), (8, .int (nI (nW v))), (9, .ref (ad g (30, 2, 0)))]) hx hb dL_law_124 hl (by decide) rfl (fun ls hl => ?_)
  refine lp_W (i0 := 0) (nH v) (fun i => ent g (setR M 3 (cpO v u i)) o) (fun i => [(10, .int (nI i)), (0, .ref b), (1, .ref (ad g (8, 0, 0))), (2, .ref (ad g (20, 0, 0))), (3, .ref (ad g (30, 0, 0))), (4, .int (nI t)), (5, .int (x)), (6, .int (nI (nH v))), (7, .int (nI (nS v))), (8, .int (nI (nW v))), (9, .ref (ad g (30, 2, 0)))]) (fun i => True) (Nat.zero_le _) (hP.castR (cpO_0)) hS (lv_sub hl [0, 1, 2, 3, 4, 5, 6, 7, 8, 9, 10] rfl) (trivial) (fun H locs ls hP hS hl J => ?_) (fun i hi IH H locs ls hP hS hl J => ?_)
  · refine lv_iload hx hb dL_law_126 (lv_at hl 0 rfl) ?_
    refine lv_iload hx hb dL_law_128 (lv_at hl 7 rfl) ?_
    refine lv_icmp_ge (tgt := 151) hx hb dL_law_130 (by decide) (fun c1 => ?_) (fun c1 => absurd (nI_le (Nat.le_refl _) (by omega)) c1)
    exact IH H locs ls hP hS (lv_sub hl [1, 2, 3, 4, 5, 6, 7, 8, 9, 10] rfl)
  · refine lv_iload hx hb dL_law_126 (lv_at hl 0 rfl) ?_
    refine lv_iload hx hb dL_law_128 (lv_at hl 7 rfl) ?_
    refine lv_icmp_ge (tgt := 151) hx hb dL_law_130 (by decide) (fun c2 => absurd c2 (nI_ge hi (by omega))) (fun c2 => ?_)
    refine lv_aload hx hb dL_law_133 (lv_at hl 10 rfl) ?_
    refine lv_iload hx hb dL_law_135 (lv_at hl 0 rfl) ?_
    refine lv_aload_n hx hb dL_law_137 rfl (lv_at hl 2 rfl) ?_
    refine lv_iload hx hb dL_law_138 (lv_at hl 0 rfl) ?_
    refine lv_iconst (v := 2) hx hb dL_law_140 (by decide) ?_
    refine on_i (run_V hC hE hP hS (As := [.int (nI i), .int ((2 : Int32))]) (x_hole l hI (M := setR M 3 (cpO v u i)) hv i hi 2 (in_H hv hi) (by decide) ((setR_ne _ _ (by decide)).trans e0)) cal_X4_hole w_264 ⟨by show _ + 1 ≤ R.frames; simp only; omega, by show _ + _ ≤ R.locals; simp only; omega⟩ k_8 f_8 rfl rfl rfl (Nat.le_of_ble_eq_true rfl) hl.1 hf dL_law_141) hS (fun H locs hP hS => ?_)
    refine m_top (y := v 5 i) (holeF_2) ?_
    refine m_iast hC hE hI hP hS kO e_30 i rfl (show i < nH (cpO v u i) by rw [cpO_H, hu]; exact hi) (show nH (cpO v u i) < 2 ^ 31 by rw [cpO_H, hu]; omega) (p_30 (by decide)) (ent_put g M 3 (cpO v u i) o 2 i (v 5 i) (kf_30 (by decide))) dL_law_144 (fun H locs hP hS => ?_)
    replace hP := hP.castR cpO_s.symm
    refine lv_iinc (v := nI (i + 1)) (lv' := [(10, .int (nI (i + 1))), (0, .ref b), (1, .ref (ad g (8, 0, 0))), (2, .ref (ad g (20, 0, 0))), (3, .ref (ad g (30, 0, 0))), (4, .int (nI t)), (5, .int (x)), (6, .int (nI (nH v))), (7, .int (nI (nS v))), (8, .int (nI (nW v))), (9, .ref (ad g (30, 2, 0)))]) hx hb dL_law_145 hl (k := 0) rfl (nI_1 _) (by decide) rfl (fun ls hl => ?_)
    refine lv_goto (tgt := 126) hx hb dL_law_148 (by decide) ?_
    exact IH H locs ls (hP.castR (rfl)) hS (lv_sub hl [0, 1, 2, 3, 4, 5, 6, 7, 8, 9, 10] rfl) (trivial)
theorem cpS_S {v u : Vw} {i j : Nat} : nS (cpS v u i j) = nS u := by
  unfold nS cpS
  rw [if_neg (by omega)]
theorem cpW_W {v u : Vw} {i j : Nat} : nW (cpW v u i j) = nW u := by
  unfold nW cpW
  rw [if_neg (by omega)]
set_option maxHeartbeats 4000000 in
set_option maxRecDepth 100000 in
theorem w_sprs {p : Program} {l : Launch} {e : Jvm.Env} {R : Room} {s : State} {m : MethodId} {args : Array Value} {below : List Frame} {meth : Method} {c : Code} {Q : State → Prop} {g : Gm} {cells slots n b t : Nat} {x : Int32} {u : Vw} {M : Mem} {o : Nat → Int64} {H : Heap} {locs : List Loc} {ls : Array Slot} {v : Vw} (hC : CallFix p m c cL_law 32 s args LG RL) (hE : Ev g s) (hR : 9 ≤ R.frames ∧ 250 ≤ R.locals) (hf : cells ≤ R.cells ∧ slots ≤ R.slots) (hI : IJ g (KK g)) (hW : Lw n v) (hL : SimL g v) (e0 : M 0 = v) (e2 : M 2 = v) (kO : KK g (28, 3, 0)) (kR : ∀ k, k < nS v → KK g (24, 3, k)) (hu : nS u = nS v) (hP : WP g (setR M 3 u) o H) (hS : va_S (AA g) s.heap H locs) (IH : ∀ (H : Heap) (locs : List Loc) (ls : Array Slot), WP g (setR M 3 (cpS v u (nS v) 0)) o H → va_S (AA g) s.heap H locs → lv_has ls 32 [(0, .ref b), (1, .ref (ad g (8, 0, 0))), (2, .ref (ad g (20, 0, 0))), (3, .ref (ad g (30, 0, 0))), (4, .int (nI t)), (5, .int (x)), (6, .int (nI (nH v))), (7, .int (nI (nS v))), (8, .int (nI (nW v))), (9, .ref (ad g (30, 2, 0))), (10, .ref (ad g (28, 3, 0)))] → W p l e R s m args below meth c H locs cells slots Q (F0 m 209 ls [])) (hl : lv_has ls 32 [(0, .ref b), (1, .ref (ad g (8, 0, 0))), (2, .ref (ad g (20, 0, 0))), (3, .ref (ad g (30, 0, 0))), (4, .int (nI t)), (5, .int (x)), (6, .int (nI (nH v))), (7, .int (nI (nS v))), (8, .int (nI (nW v))), (9, .ref (ad g (30, 2, 0))), (10, .ref (ad g (28, 3, 0)))]) : W p l e R s m args below meth c H locs cells slots Q (F0 m 161 ls []) := by
  obtain ⟨hx, hb, hml, hown, hG⟩ := id hC
  have hv := hW.iv
  have qH := hv.lH
  have qS := hv.lS
  have qW := hv.lW
  refine lv_iconst (v := 0) hx hb dL_law_161 (by decide) ?_
  refine lv_istore (lv' := [(11, .int ((0 : Int32))), (0, .ref b), (1, .ref (ad g (8, 0, 0))), (2, .ref (ad g (20, 0, 0))), (3, .ref (ad g (30, 0, 0))), (4, .int (nI t)), (5, .int (x)), (6, .int (nI (nH v))), (7, .int (nI (nS v))), (8, .int (nI (nW v))), (9, .ref (ad g (30, 2, 0))), (10, .ref (ad g (28, 3, 0)))]) hx hb dL_law_162 hl (by decide) rfl (fun ls hl => ?_)
  refine lp_W (i0 := 0) (nS v) (fun i => ent g (setR M 3 (cpS v u i 0)) o) (fun i => [(11, .int (nI i)), (0, .ref b), (1, .ref (ad g (8, 0, 0))), (2, .ref (ad g (20, 0, 0))), (3, .ref (ad g (30, 0, 0))), (4, .int (nI t)), (5, .int (x)), (6, .int (nI (nH v))), (7, .int (nI (nS v))), (8, .int (nI (nW v))), (9, .ref (ad g (30, 2, 0))), (10, .ref (ad g (28, 3, 0)))]) (fun i => True) (Nat.zero_le _) (hP.castR (cpS_0)) hS (lv_sub hl [0, 1, 2, 3, 4, 5, 6, 7, 8, 9, 10, 11] rfl) (trivial) (fun H locs ls hP hS hl J => ?_) (fun i hi IH H locs ls hP hS hl J => ?_)
  · refine lv_iload hx hb dL_law_164 (lv_at hl 0 rfl) ?_
    refine lv_iload hx hb dL_law_166 (lv_at hl 8 rfl) ?_
    refine lv_icmp_ge (tgt := 209) hx hb dL_law_168 (by decide) (fun c1 => ?_) (fun c1 => absurd (nI_le (Nat.le_refl _) (by omega)) c1)
    exact IH H locs ls hP hS (lv_sub hl [1, 2, 3, 4, 5, 6, 7, 8, 9, 10, 11] rfl)
  · refine lv_iload hx hb dL_law_164 (lv_at hl 0 rfl) ?_
    refine lv_iload hx hb dL_law_166 (lv_at hl 8 rfl) ?_
    refine lv_icmp_ge (tgt := 209) hx hb dL_law_168 (by decide) (fun c2 => absurd c2 (nI_ge hi (by omega))) (fun c2 => ?_)
    refine lv_iconst (v := 0) hx hb dL_law_171 (by decide) ?_
    refine lv_istore (lv' := [(12, .int ((0 : Int32))), (11, .int (nI i)), (0, .ref b), (1, .ref (ad g (8, 0, 0))), (2, .ref (ad g (20, 0, 0))), (3, .ref (ad g (30, 0, 0))), (4, .int (nI t)), (5, .int (x)), (6, .int (nI (nH v))), (7, .int (nI (nS v))), (8, .int (nI (nW v))), (9, .ref (ad g (30, 2, 0))), (10, .ref (ad g (28, 3, 0)))]) hx hb dL_law_172 hl (by decide) rfl (fun ls hl => ?_)
    refine lp_W (i0 := 0) 6 (fun j => ent g (setR M 3 (cpS v u i j)) o) (fun j => [(12, .int (nI j)), (11, .int (nI i)), (0, .ref b), (1, .ref (ad g (8, 0, 0))), (2, .ref (ad g (20, 0, 0))), (3, .ref (ad g (30, 0, 0))), (4, .int (nI t)), (5, .int (x)), (6, .int (nI (nH v))), (7, .int (nI (nS v))), (8, .int (nI (nW v))), (9, .ref (ad g (30, 2, 0))), (10, .ref (ad g (28, 3, 0)))]) (fun j => True) (Nat.zero_le _) (hP.castR (rfl)) hS (lv_sub hl [0, 1, 2, 3, 4, 5, 6, 7, 8, 9, 10, 11, 12] rfl) (trivial) (fun H locs ls hP hS hl J => ?_) (fun j hj IHj H locs ls hP hS hl J => ?_)
    · refine lv_iload hx hb dL_law_174 (lv_at hl 0 rfl) ?_
      refine lv_bipush (v := 6) hx hb dL_law_176 (by decide) ?_
      refine lv_icmp_ge (tgt := 203) hx hb dL_law_178 (by decide) (fun c3 => ?_) (fun c3 => absurd (nI_le (a := 6) (b := 6) (Nat.le_refl _) (by omega)) c3)
      refine lv_iinc (v := nI (i + 1)) (lv' := [(11, .int (nI (i + 1))), (12, .int (nI 6)), (0, .ref b), (1, .ref (ad g (8, 0, 0))), (2, .ref (ad g (20, 0, 0))), (3, .ref (ad g (30, 0, 0))), (4, .int (nI t)), (5, .int (x)), (6, .int (nI (nH v))), (7, .int (nI (nS v))), (8, .int (nI (nW v))), (9, .ref (ad g (30, 2, 0))), (10, .ref (ad g (28, 3, 0)))]) hx hb dL_law_203 hl (k := 1) rfl (nI_1 _) (by decide) rfl (fun ls hl => ?_)
      refine lv_goto (tgt := 164) hx hb dL_law_206 (by decide) ?_
      exact IH H locs ls (hP.castR (cpS_n.symm)) hS (lv_sub hl [0, 2, 3, 4, 5, 6, 7, 8, 9, 10, 11, 12] rfl) (trivial)
    · refine lv_iload hx hb dL_law_174 (lv_at hl 0 rfl) ?_
      refine lv_bipush (v := 6) hx hb dL_law_176 (by decide) ?_
      refine lv_icmp_ge (tgt := 203) hx hb dL_law_178 (by decide) (fun c4 => absurd c4 (nI_ge (b := 6) hj (by omega))) (fun c4 => ?_)
      refine lv_aload hx hb dL_law_181 (lv_at hl 12 rfl) ?_
      refine lv_iload hx hb dL_law_183 (lv_at hl 1 rfl) ?_
      refine m_aalA hC hE hP kO e_28 i rfl (show i < nS (cpS v u i j) by rw [cpS_S, hu]; exact hi) (show nS (cpS v u i j) < 2 ^ 31 by rw [cpS_S, hu]; omega) dL_law_185 ?_
      refine lv_iload hx hb dL_law_186 (lv_at hl 0 rfl) ?_
      refine lv_aload_n hx hb dL_law_188 rfl (lv_at hl 3 rfl) ?_
      refine lv_iload hx hb dL_law_189 (lv_at hl 1 rfl) ?_
      refine lv_iload hx hb dL_law_191 (lv_at hl 0 rfl) ?_
      refine on_i (run_V hC hE hP hS (As := [.int (nI i), .int (nI j)]) (x_spearer l hI (M := setR M 3 (cpS v u i j)) hv i hi (nI j) (in_S hv hi) (in_5 j hj) ((setR_ne _ _ (by decide)).trans e0)) cal_X4_spearer w_293 ⟨by show _ + 1 ≤ R.frames; simp only; omega, by show _ + _ ≤ R.locals; simp only; omega⟩ k_8 f_8 rfl rfl rfl (Nat.le_of_ble_eq_true rfl) hl.1 hf dL_law_193) hS (fun H locs hP hS => ?_)
      refine m_top (y := v (6 + j) i) ((sprF_n hj).trans (rS_e hj)) ?_
      refine m_iast hC hE hI hP hS (kR i hi) e_24 j rfl hj (by decide) (p_24 j hj) (ent_put g M 3 (cpS v u i j) o (6 + j) i (v (6 + j) i) (kf_24 (Or.inr rfl) (by omega) (by omega))) dL_law_196 (fun H locs hP hS => ?_)
      replace hP := hP.castR (cpS_s hj).symm
      refine lv_iinc (v := nI (j + 1)) (lv' := [(12, .int (nI (j + 1))), (11, .int (nI i)), (0, .ref b), (1, .ref (ad g (8, 0, 0))), (2, .ref (ad g (20, 0, 0))), (3, .ref (ad g (30, 0, 0))), (4, .int (nI t)), (5, .int (x)), (6, .int (nI (nH v))), (7, .int (nI (nS v))), (8, .int (nI (nW v))), (9, .ref (ad g (30, 2, 0))), (10, .ref (ad g (28, 3, 0)))]) hx hb dL_law_197 hl (k := 0) rfl (nI_1 _) (by decide) rfl (fun ls hl => ?_)
      refine lv_goto (tgt := 174) hx hb dL_law_200 (by decide) ?_
      exact IHj H locs ls (hP.castR (rfl)) hS (lv_sub hl [0, 1, 2, 3, 4, 5, 6, 7, 8, 9, 10, 11, 12] rfl) (trivial)
set_option maxHeartbeats 4000000 in
set_option maxRecDepth 100000 in
theorem w_wars {p : Program} {l : Launch} {e : Jvm.Env} {R : Room} {s : State} {m : MethodId} {args : Array Value} {below : List Frame} {meth : Method} {c : Code} {Q : State → Prop} {g : Gm} {cells slots n b t : Nat} {x : Int32} {u : Vw} {M : Mem} {o : Nat → Int64} {H : Heap} {locs : List Loc} {ls : Array Slot} {v : Vw} (hC : CallFix p m c cL_law 32 s args LG RL) (hE : Ev g s) (hR : 9 ≤ R.frames ∧ 250 ≤ R.locals) (hf : cells ≤ R.cells ∧ slots ≤ R.slots) (hI : IJ g (KK g)) (hW : Lw n v) (hL : SimL g v) (e0 : M 0 = v) (e2 : M 2 = v) (kO : KK g (29, 3, 0)) (kR : ∀ k, k < nW v → KK g (25, 3, k)) (hu : nW u = nW v) (hP : WP g (setR M 3 u) o H) (hS : va_S (AA g) s.heap H locs) (IH : ∀ (H : Heap) (locs : List Loc) (ls : Array Slot), WP g (setR M 3 (cpW v u (nW v) 0)) o H → va_S (AA g) s.heap H locs → lv_has ls 32 [(0, .ref b), (1, .ref (ad g (8, 0, 0))), (2, .ref (ad g (20, 0, 0))), (3, .ref (ad g (30, 0, 0))), (4, .int (nI t)), (5, .int (x)), (6, .int (nI (nH v))), (7, .int (nI (nS v))), (8, .int (nI (nW v))), (9, .ref (ad g (30, 2, 0))), (10, .ref (ad g (28, 3, 0))), (11, .ref (ad g (29, 3, 0)))] → W p l e R s m args below meth c H locs cells slots Q (F0 m 265 ls [])) (hl : lv_has ls 32 [(0, .ref b), (1, .ref (ad g (8, 0, 0))), (2, .ref (ad g (20, 0, 0))), (3, .ref (ad g (30, 0, 0))), (4, .int (nI t)), (5, .int (x)), (6, .int (nI (nH v))), (7, .int (nI (nS v))), (8, .int (nI (nW v))), (9, .ref (ad g (30, 2, 0))), (10, .ref (ad g (28, 3, 0))), (11, .ref (ad g (29, 3, 0)))]) : W p l e R s m args below meth c H locs cells slots Q (F0 m 218 ls []) := by
  obtain ⟨hx, hb, hml, hown, hG⟩ := id hC
  have hv := hW.iv
  have qH := hv.lH
  have qS := hv.lS
  have qW := hv.lW
  refine lv_iconst (v := 0) hx hb dL_law_218 (by decide) ?_
  refine lv_istore (lv' := [(12, .int ((0 : Int32))), (0, .ref b), (1, .ref (ad g (8, 0, 0))), (2, .ref (ad g (20, 0, 0))), (3, .ref (ad g (30, 0, 0))), (4, .int (nI t)), (5, .int (x)), (6, .int (nI (nH v))), (7, .int (nI (nS v))), (8, .int (nI (nW v))), (9, .ref (ad g (30, 2, 0))), (10, .ref (ad g (28, 3, 0))), (11, .ref (ad g (29, 3, 0)))]) hx hb dL_law_219 hl (by decide) rfl (fun ls hl => ?_)
  refine lp_W (i0 := 0) (nW v) (fun i => ent g (setR M 3 (cpW v u i 0)) o) (fun i => [(12, .int (nI i)), (0, .ref b), (1, .ref (ad g (8, 0, 0))), (2, .ref (ad g (20, 0, 0))), (3, .ref (ad g (30, 0, 0))), (4, .int (nI t)), (5, .int (x)), (6, .int (nI (nH v))), (7, .int (nI (nS v))), (8, .int (nI (nW v))), (9, .ref (ad g (30, 2, 0))), (10, .ref (ad g (28, 3, 0))), (11, .ref (ad g (29, 3, 0)))]) (fun i => True) (Nat.zero_le _) (hP.castR (cpW_0)) hS (lv_sub hl [0, 1, 2, 3, 4, 5, 6, 7, 8, 9, 10, 11, 12] rfl) (trivial) (fun H locs ls hP hS hl J => ?_) (fun i hi IH H locs ls hP hS hl J => ?_)
  · refine lv_iload hx hb dL_law_221 (lv_at hl 0 rfl) ?_
    refine lv_iload hx hb dL_law_223 (lv_at hl 9 rfl) ?_
    refine lv_icmp_ge (tgt := 265) hx hb dL_law_225 (by decide) (fun c1 => ?_) (fun c1 => absurd (nI_le (Nat.le_refl _) (by omega)) c1)
    exact IH H locs ls hP hS (lv_sub hl [1, 2, 3, 4, 5, 6, 7, 8, 9, 10, 11, 12] rfl)
  · refine lv_iload hx hb dL_law_221 (lv_at hl 0 rfl) ?_
    refine lv_iload hx hb dL_law_223 (lv_at hl 9 rfl) ?_
    refine lv_icmp_ge (tgt := 265) hx hb dL_law_225 (by decide) (fun c2 => absurd c2 (nI_ge hi (by omega))) (fun c2 => ?_)
    refine lv_iconst (v := 0) hx hb dL_law_228 (by decide) ?_
    refine lv_istore (lv' := [(13, .int ((0 : Int32))), (12, .int (nI i)), (0, .ref b), (1, .ref (ad g (8, 0, 0))), (2, .ref (ad g (20, 0, 0))), (3, .ref (ad g (30, 0, 0))), (4, .int (nI t)), (5, .int (x)), (6, .int (nI (nH v))), (7, .int (nI (nS v))), (8, .int (nI (nW v))), (9, .ref (ad g (30, 2, 0))), (10, .ref (ad g (28, 3, 0))), (11, .ref (ad g (29, 3, 0)))]) hx hb dL_law_229 hl (by decide) rfl (fun ls hl => ?_)
    refine lp_W (i0 := 0) 4 (fun j => ent g (setR M 3 (cpW v u i j)) o) (fun j => [(13, .int (nI j)), (12, .int (nI i)), (0, .ref b), (1, .ref (ad g (8, 0, 0))), (2, .ref (ad g (20, 0, 0))), (3, .ref (ad g (30, 0, 0))), (4, .int (nI t)), (5, .int (x)), (6, .int (nI (nH v))), (7, .int (nI (nS v))), (8, .int (nI (nW v))), (9, .ref (ad g (30, 2, 0))), (10, .ref (ad g (28, 3, 0))), (11, .ref (ad g (29, 3, 0)))]) (fun j => True) (Nat.zero_le _) (hP.castR (rfl)) hS (lv_sub hl [0, 1, 2, 3, 4, 5, 6, 7, 8, 9, 10, 11, 12, 13] rfl) (trivial) (fun H locs ls hP hS hl J => ?_) (fun j hj IHj H locs ls hP hS hl J => ?_)
    · refine lv_iload hx hb dL_law_231 (lv_at hl 0 rfl) ?_
      refine lv_iconst (v := 4) hx hb dL_law_233 (by decide) ?_
      refine lv_icmp_ge (tgt := 259) hx hb dL_law_234 (by decide) (fun c3 => ?_) (fun c3 => absurd (nI_le (a := 4) (b := 4) (Nat.le_refl _) (by omega)) c3)
      refine lv_iinc (v := nI (i + 1)) (lv' := [(12, .int (nI (i + 1))), (13, .int (nI 4)), (0, .ref b), (1, .ref (ad g (8, 0, 0))), (2, .ref (ad g (20, 0, 0))), (3, .ref (ad g (30, 0, 0))), (4, .int (nI t)), (5, .int (x)), (6, .int (nI (nH v))), (7, .int (nI (nS v))), (8, .int (nI (nW v))), (9, .ref (ad g (30, 2, 0))), (10, .ref (ad g (28, 3, 0))), (11, .ref (ad g (29, 3, 0)))]) hx hb dL_law_259 hl (k := 1) rfl (nI_1 _) (by decide) rfl (fun ls hl => ?_)
      refine lv_goto (tgt := 221) hx hb dL_law_262 (by decide) ?_
      exact IH H locs ls (hP.castR (cpW_n.symm)) hS (lv_sub hl [0, 2, 3, 4, 5, 6, 7, 8, 9, 10, 11, 12, 13] rfl) (trivial)
    · refine lv_iload hx hb dL_law_231 (lv_at hl 0 rfl) ?_
      refine lv_iconst (v := 4) hx hb dL_law_233 (by decide) ?_
      refine lv_icmp_ge (tgt := 259) hx hb dL_law_234 (by decide) (fun c4 => absurd c4 (nI_ge (b := 4) hj (by omega))) (fun c4 => ?_)
      refine lv_aload hx hb dL_law_237 (lv_at hl 13 rfl) ?_
      refine lv_iload hx hb dL_law_239 (lv_at hl 1 rfl) ?_
      refine m_aalA hC hE hP kO e_29 i rfl (show i < nW (cpW v u i j) by rw [cpW_W, hu]; exact hi) (show nW (cpW v u i j) < 2 ^ 31 by rw [cpW_W, hu]; omega) dL_law_241 ?_
      refine lv_iload hx hb dL_law_242 (lv_at hl 0 rfl) ?_
      refine lv_aload_n hx hb dL_law_244 rfl (lv_at hl 3 rfl) ?_
      refine lv_iload hx hb dL_law_245 (lv_at hl 1 rfl) ?_
      refine lv_iload hx hb dL_law_247 (lv_at hl 0 rfl) ?_
      refine on_i (run_V hC hE hP hS (As := [.int (nI i), .int (nI j)]) (x_about l hI (M := setR M 3 (cpW v u i j)) hv i hi (nI j) (in_W hv hi) (in_3 j hj) ((setR_ne _ _ (by decide)).trans e0)) cal_X4_about w_306 ⟨by show _ + 1 ≤ R.frames; simp only; omega, by show _ + _ ≤ R.locals; simp only; omega⟩ k_8 f_8 rfl rfl rfl (Nat.le_of_ble_eq_true rfl) hl.1 hf dL_law_249) hS (fun H locs hP hS => ?_)
      refine m_top (y := v (12 + j) i) ((warF_n hj).trans (rW_e hj)) ?_
      refine m_iast hC hE hI hP hS (kR i hi) e_25 j rfl hj (by decide) (p_25 j hj) (ent_put g M 3 (cpW v u i j) o (12 + j) i (v (12 + j) i) (kf_25 (Or.inr rfl) (by omega) (by omega))) dL_law_252 (fun H locs hP hS => ?_)
      replace hP := hP.castR (cpW_s hj).symm
      refine lv_iinc (v := nI (j + 1)) (lv' := [(13, .int (nI (j + 1))), (12, .int (nI i)), (0, .ref b), (1, .ref (ad g (8, 0, 0))), (2, .ref (ad g (20, 0, 0))), (3, .ref (ad g (30, 0, 0))), (4, .int (nI t)), (5, .int (x)), (6, .int (nI (nH v))), (7, .int (nI (nS v))), (8, .int (nI (nW v))), (9, .ref (ad g (30, 2, 0))), (10, .ref (ad g (28, 3, 0))), (11, .ref (ad g (29, 3, 0)))]) hx hb dL_law_253 hl (k := 0) rfl (nI_1 _) (by decide) rfl (fun ls hl => ?_)
      refine lv_goto (tgt := 231) hx hb dL_law_256 (by decide) ?_
      exact IHj H locs ls (hP.castR (rfl)) hS (lv_sub hl [0, 1, 2, 3, 4, 5, 6, 7, 8, 9, 10, 11, 12, 13] rfl) (trivial)
