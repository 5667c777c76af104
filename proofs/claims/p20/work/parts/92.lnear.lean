/-! The nearest warden. -/
theorem near_min {v : Vw} {h n : Nat} (c : 0 ≤ nearI v h n) : nearI v h (n + 1) = imin (nearI v h n) (farW v n h) := by
  rw [nearI_s]
  unfold imin
  have e : ¬ nearI v h n = -1 := fun z => by rw [z] at c; exact absurd c (by decide)
  by_cases q : farW v n h < nearI v h n
  · rw [if_pos (Or.inr q), if_pos q]
  · rw [if_neg (fun z => z.elim e q), if_neg q]
set_option maxHeartbeats 4000000 in
set_option maxRecDepth 100000 in
theorem w_lnear {p : Program} {l : Launch} {e : Jvm.Env} {R : Room} {s : State} {m : MethodId} {args : Array Value} {below : List Frame} {meth : Method} {c : Code} {Q : State → Prop} {g : Gm} {cells slots n b t : Nat} {x ng fs ca al ct mo op is : Int32} {i : Nat} {f : Nat → Int32} {u : Vw} {M : Mem} {o : Nat → Int64} {H : Heap} {locs : List Loc} {ls : Array Slot} {v : Vw} (hC : CallFix p m c cL_law 32 s args LG RL) (hE : Ev g s) (hR : 9 ≤ R.frames ∧ 250 ≤ R.locals) (hf : cells ≤ R.cells ∧ slots ≤ R.slots) (hI : IJ g (KK g)) (hW : Lw n v) (hL : SimL g v) (e0 : M 0 = v) (e2 : M 2 = v) (hi : i < nH v) (hP : WP g (setR M 3 u) o H) (hS : va_S (AA g) s.heap H locs) (IH : ∀ (H : Heap) (locs : List Loc) (ls : Array Slot), WP g (setR M 3 u) o H → va_S (AA g) s.heap H locs → lv_has ls 32 [(29, .int (near v i)), (0, .ref b), (1, .ref (ad g (8, 0, 0))), (2, .ref (ad g (20, 0, 0))), (3, .ref (ad g (30, 0, 0))), (4, .int (nI t)), (5, .int (x)), (6, .int (nI (nH v))), (7, .int (nI (nS v))), (8, .int (nI (nW v))), (9, .ref (ad g (30, 2, 0))), (10, .ref (ad g (28, 3, 0))), (11, .ref (ad g (29, 3, 0))), (18, .int (ng)), (19, .int (fs)), (21, .int (ca)), (22, .int (al)), (24, .int (ct)), (25, .int (mo)), (26, .int (op)), (27, .int (nI i)), (28, .int (is))] → W p l e R s m args below meth c H locs cells slots Q (F0 m 1220 ls [])) (hl : lv_has ls 32 [(0, .ref b), (1, .ref (ad g (8, 0, 0))), (2, .ref (ad g (20, 0, 0))), (3, .ref (ad g (30, 0, 0))), (4, .int (nI t)), (5, .int (x)), (6, .int (nI (nH v))), (7, .int (nI (nS v))), (8, .int (nI (nW v))), (9, .ref (ad g (30, 2, 0))), (10, .ref (ad g (28, 3, 0))), (11, .ref (ad g (29, 3, 0))), (18, .int (ng)), (19, .int (fs)), (21, .int (ca)), (22, .int (al)), (24, .int (ct)), (25, .int (mo)), (26, .int (op)), (27, .int (nI i)), (28, .int (is))]) : W p l e R s m args below meth c H locs cells slots Q (F0 m 1141 ls []) := by
  obtain ⟨hx, hb, hml, hown, hG⟩ := id hC
  have hv := hW.iv
  have qH := hv.lH
  have qS := hv.lS
  have qW := hv.lW
  refine lv_iconst (v := (-1)) hx hb dL_law_1141 (by decide) ?_
  refine lv_istore (lv' := [(29, .int ((-1 : Int32))), (0, .ref b), (1, .ref (ad g (8, 0, 0))), (2, .ref (ad g (20, 0, 0))), (3, .ref (ad g (30, 0, 0))), (4, .int (nI t)), (5, .int (x)), (6, .int (nI (nH v))), (7, .int (nI (nS v))), (8, .int (nI (nW v))), (9, .ref (ad g (30, 2, 0))), (10, .ref (ad g (28, 3, 0))), (11, .ref (ad g (29, 3, 0))), (18, .int (ng)), (19, .int (fs)), (21, .int (ca)), (22, .int (al)), (24, .int (ct)), (25, .int (mo)), (26, .int (op)), (27, .int (nI i)), (28, .int (is))]) hx hb dL_law_1142 hl (by decide) rfl (fun ls hl => ?_)
  refine lv_iconst (v := 0) hx hb dL_law_1144 (by decide) ?_
  refine lv_istore (lv' := [(30, .int ((0 : Int32))), (29, .int ((-1 : Int32))), (0, .ref b), (1, .ref (ad g (8, 0, 0))), (2, .ref (ad g (20, 0, 0))), (3, .ref (ad g (30, 0, 0))), (4, .int (nI t)), (5, .int (x)), (6, .int (nI (nH v))), (7, .int (nI (nS v))), (8, .int (nI (nW v))), (9, .ref (ad g (30, 2, 0))), (10, .ref (ad g (28, 3, 0))), (11, .ref (ad g (29, 3, 0))), (18, .int (ng)), (19, .int (fs)), (21, .int (ca)), (22, .int (al)), (24, .int (ct)), (25, .int (mo)), (26, .int (op)), (27, .int (nI i)), (28, .int (is))]) hx hb dL_law_1145 hl (by decide) rfl (fun ls hl => ?_)
  refine lp_W (i0 := 0) (nW v) (fun j => ent g (setR M 3 u) o) (fun j => [(30, .int (nI j)), (29, .int (nearI v i j)), (0, .ref b), (1, .ref (ad g (8, 0, 0))), (2, .ref (ad g (20, 0, 0))), (3, .ref (ad g (30, 0, 0))), (4, .int (nI t)), (5, .int (x)), (6, .int (nI (nH v))), (7, .int (nI (nS v))), (8, .int (nI (nW v))), (9, .ref (ad g (30, 2, 0))), (10, .ref (ad g (28, 3, 0))), (11, .ref (ad g (29, 3, 0))), (18, .int (ng)), (19, .int (fs)), (21, .int (ca)), (22, .int (al)), (24, .int (ct)), (25, .int (mo)), (26, .int (op)), (27, .int (nI i)), (28, .int (is))]) (fun j => True) (Nat.zero_le _) (hP.castR (rfl)) hS (by show lv_has ls _ [(30, .int (nI 0)), (29, .int (nearI v i 0)), (0, .ref b), (1, .ref (ad g (8, 0, 0))), (2, .ref (ad g (20, 0, 0))), (3, .ref (ad g (30, 0, 0))), (4, .int (nI t)), (5, .int (x)), (6, .int (nI (nH v))), (7, .int (nI (nS v))), (8, .int (nI (nW v))), (9, .ref (ad g (30, 2, 0))), (10, .ref (ad g (28, 3, 0))), (11, .ref (ad g (29, 3, 0))), (18, .int (ng)), (19, .int (fs)), (21, .int (ca)), (22, .int (al)), (24, .int (ct)), (25, .int (mo)), (26, .int (op)), (27, .int (nI i)), (28, .int (is))]; rw [show nearI v i 0 = (-1 : Int32) from rfl]; exact lv_sub hl [0, 1, 2, 3, 4, 5, 6, 7, 8, 9, 10, 11, 12, 13, 14, 15, 16, 17, 18, 19, 20, 21, 22] rfl) (trivial) (fun H locs ls hP hS hl J => ?_) (fun j hj IHj H locs ls hP hS hl J => ?_)
  · refine lv_iload hx hb dL_law_1147 (lv_at hl 0 rfl) ?_
    refine lv_iload hx hb dL_law_1149 (lv_at hl 10 rfl) ?_
    refine lv_icmp_ge (tgt := 1220) hx hb dL_law_1151 (by decide) (fun c1 => ?_) (fun c1 => absurd (nI_le (Nat.le_refl _) (by omega)) c1)
    exact IH H locs ls hP hS (lv_sub hl [1, 2, 3, 4, 5, 6, 7, 8, 9, 10, 11, 12, 13, 14, 15, 16, 17, 18, 19, 20, 21, 22] rfl)
  · refine lv_iload hx hb dL_law_1147 (lv_at hl 0 rfl) ?_
    refine lv_iload hx hb dL_law_1149 (lv_at hl 10 rfl) ?_
    refine lv_icmp_ge (tgt := 1220) hx hb dL_law_1151 (by decide) (fun c2 => absurd c2 (nI_ge hj (by omega))) (fun c2 => ?_)
    refine lv_aload_n hx hb dL_law_1154 rfl (lv_at hl 3 rfl) ?_
    refine lv_iload hx hb dL_law_1155 (lv_at hl 0 rfl) ?_
    refine lv_iconst (v := 0) hx hb dL_law_1157 (by decide) ?_
    refine on_i (run_V hC hE hP hS (As := [.int (nI j), .int ((0 : Int32))]) (x_about l hI (M := setR M 3 u) hv j hj 0 (in_W hv hj) (by decide) ((setR_ne _ _ (by decide)).trans e0)) cal_X4_about w_306 ⟨by show _ + 1 ≤ R.frames; simp only; omega, by show _ + _ ≤ R.locals; simp only; omega⟩ k_8 f_8 rfl rfl rfl (Nat.le_of_ble_eq_true rfl) hl.1 hf dL_law_1158) hS (fun H locs hP hS => ?_)
    refine m_top (y := v 12 j) (warF_0) ?_
    refine lv_aload_n hx hb dL_law_1161 rfl (lv_at hl 3 rfl) ?_
    refine lv_iload hx hb dL_law_1162 (lv_at hl 21 rfl) ?_
    refine lv_iconst (v := 0) hx hb dL_law_1164 (by decide) ?_
    refine on_i (run_V hC hE hP hS (As := [.int (nI i), .int ((0 : Int32))]) (x_hole l hI (M := setR M 3 u) hv i hi 0 (in_H hv hi) (by decide) ((setR_ne _ _ (by decide)).trans e0)) cal_X4_hole w_264 ⟨by show _ + 1 ≤ R.frames; simp only; omega, by show _ + _ ≤ R.locals; simp only; omega⟩ k_8 f_8 rfl rfl rfl (Nat.le_of_ble_eq_true rfl) hl.1 hf dL_law_1165) hS (fun H locs hP hS => ?_)
    refine m_top (y := v 3 i) (holeF_0) ?_
    refine lv_isub hx hb dL_law_1168 ?_
    refine m_abs hC w_682 w_290 w_14 w_291 hl.1 (Nat.le_trans (by decide) hR.1) (by exact Nat.le_trans (show _ ≤ 250 from Nat.le_of_ble_eq_true rfl) hR.2) hf.1 hf.2 dL_law_1169 ?_
    refine m_top (y := iabs ((v 12 j) - (v 3 i))) rfl ?_
    refine lv_aload_n hx hb dL_law_1172 rfl (lv_at hl 3 rfl) ?_
    refine lv_iload hx hb dL_law_1173 (lv_at hl 0 rfl) ?_
    refine lv_iconst (v := 1) hx hb dL_law_1175 (by decide) ?_
    refine on_i (run_V hC hE hP hS (As := [.int (nI j), .int ((1 : Int32))]) (x_about l hI (M := setR M 3 u) hv j hj 1 (in_W hv hj) (by decide) ((setR_ne _ _ (by decide)).trans e0)) cal_X4_about w_306 ⟨by show _ + 1 ≤ R.frames; simp only; omega, by show _ + _ ≤ R.locals; simp only; omega⟩ k_8 f_8 rfl rfl rfl (Nat.le_of_ble_eq_true rfl) hl.1 hf dL_law_1176) hS (fun H locs hP hS => ?_)
    refine m_top (y := v 13 j) (warF_1) ?_
    refine lv_aload_n hx hb dL_law_1179 rfl (lv_at hl 3 rfl) ?_
    refine lv_iload hx hb dL_law_1180 (lv_at hl 21 rfl) ?_
    refine lv_iconst (v := 1) hx hb dL_law_1182 (by decide) ?_
    refine on_i (run_V hC hE hP hS (As := [.int (nI i), .int ((1 : Int32))]) (x_hole l hI (M := setR M 3 u) hv i hi 1 (in_H hv hi) (by decide) ((setR_ne _ _ (by decide)).trans e0)) cal_X4_hole w_264 ⟨by show _ + 1 ≤ R.frames; simp only; omega, by show _ + _ ≤ R.locals; simp only; omega⟩ k_8 f_8 rfl rfl rfl (Nat.le_of_ble_eq_true rfl) hl.1 hf dL_law_1183) hS (fun H locs hP hS => ?_)
    refine m_top (y := v 4 i) (holeF_1) ?_
    refine lv_isub hx hb dL_law_1186 ?_
    refine m_abs hC w_682 w_290 w_14 w_291 hl.1 (Nat.le_trans (by decide) hR.1) (by exact Nat.le_trans (show _ ≤ 250 from Nat.le_of_ble_eq_true rfl) hR.2) hf.1 hf.2 dL_law_1187 ?_
    refine m_top (y := iabs ((v 13 j) - (v 4 i))) rfl ?_
    refine m_max hC w_683 w_259 w_14 w_260 hl.1 (Nat.le_trans (by decide) hR.1) (by exact Nat.le_trans (show _ ≤ 250 from Nat.le_of_ble_eq_true rfl) hR.2) hf.1 hf.2 dL_law_1190 ?_
    refine m_top (y := imax (iabs ((v 12 j) - (v 3 i))) (iabs ((v 13 j) - (v 4 i)))) rfl ?_
    refine m_top (y := farW v j i) (rfl) ?_
    refine lv_istore (lv' := [(31, .int (farW v j i)), (30, .int (nI j)), (29, .int (nearI v i j)), (0, .ref b), (1, .ref (ad g (8, 0, 0))), (2, .ref (ad g (20, 0, 0))), (3, .ref (ad g (30, 0, 0))), (4, .int (nI t)), (5, .int (x)), (6, .int (nI (nH v))), (7, .int (nI (nS v))), (8, .int (nI (nW v))), (9, .ref (ad g (30, 2, 0))), (10, .ref (ad g (28, 3, 0))), (11, .ref (ad g (29, 3, 0))), (18, .int (ng)), (19, .int (fs)), (21, .int (ca)), (22, .int (al)), (24, .int (ct)), (25, .int (mo)), (26, .int (op)), (27, .int (nI i)), (28, .int (is))]) hx hb dL_law_1193 hl (by decide) rfl (fun ls hl => ?_)
    refine lv_iload hx hb dL_law_1195 (lv_at hl 2 rfl) ?_
    refine lv_if_ge (tgt := 1205) hx hb dL_law_1197 (by decide) (fun q1 => ?_) (fun q1 => ?_)
    · refine lv_iload hx hb dL_law_1205 (lv_at hl 2 rfl) ?_
      refine lv_iload hx hb dL_law_1207 (lv_at hl 0 rfl) ?_
      refine m_min hC w_684 w_262 w_14 w_263 hl.1 (Nat.le_trans (by decide) hR.1) (by exact Nat.le_trans (show _ ≤ 250 from Nat.le_of_ble_eq_true rfl) hR.2) hf.1 hf.2 dL_law_1209 ?_
      refine m_top (y := imin (nearI v i j) (farW v j i)) rfl ?_
      refine lv_istore (lv' := [(29, .int (imin (nearI v i j) (farW v j i))), (31, .int (farW v j i)), (30, .int (nI j)), (0, .ref b), (1, .ref (ad g (8, 0, 0))), (2, .ref (ad g (20, 0, 0))), (3, .ref (ad g (30, 0, 0))), (4, .int (nI t)), (5, .int (x)), (6, .int (nI (nH v))), (7, .int (nI (nS v))), (8, .int (nI (nW v))), (9, .ref (ad g (30, 2, 0))), (10, .ref (ad g (28, 3, 0))), (11, .ref (ad g (29, 3, 0))), (18, .int (ng)), (19, .int (fs)), (21, .int (ca)), (22, .int (al)), (24, .int (ct)), (25, .int (mo)), (26, .int (op)), (27, .int (nI i)), (28, .int (is))]) hx hb dL_law_1212 hl (by decide) rfl (fun ls hl => ?_)
      refine lv_iinc (v := nI (j + 1)) (lv' := [(30, .int (nI (j + 1))), (29, .int (imin (nearI v i j) (farW v j i))), (31, .int (farW v j i)), (0, .ref b), (1, .ref (ad g (8, 0, 0))), (2, .ref (ad g (20, 0, 0))), (3, .ref (ad g (30, 0, 0))), (4, .int (nI t)), (5, .int (x)), (6, .int (nI (nH v))), (7, .int (nI (nS v))), (8, .int (nI (nW v))), (9, .ref (ad g (30, 2, 0))), (10, .ref (ad g (28, 3, 0))), (11, .ref (ad g (29, 3, 0))), (18, .int (ng)), (19, .int (fs)), (21, .int (ca)), (22, .int (al)), (24, .int (ct)), (25, .int (mo)), (26, .int (op)), (27, .int (nI i)), (28, .int (is))]) hx hb dL_law_1214 hl (k := 2) rfl (nI_1 _) (by decide) rfl (fun ls hl => ?_)
      refine lv_goto (tgt := 1147) hx hb dL_law_1217 (by decide) ?_
      exact IHj H locs ls (hP.castR (rfl)) hS (by show lv_has ls _ [(30, .int (nI (j + 1))), (29, .int (nearI v i (j + 1))), (0, .ref b), (1, .ref (ad g (8, 0, 0))), (2, .ref (ad g (20, 0, 0))), (3, .ref (ad g (30, 0, 0))), (4, .int (nI t)), (5, .int (x)), (6, .int (nI (nH v))), (7, .int (nI (nS v))), (8, .int (nI (nW v))), (9, .ref (ad g (30, 2, 0))), (10, .ref (ad g (28, 3, 0))), (11, .ref (ad g (29, 3, 0))), (18, .int (ng)), (19, .int (fs)), (21, .int (ca)), (22, .int (al)), (24, .int (ct)), (25, .int (mo)), (26, .int (op)), (27, .int (nI i)), (28, .int (is))]; rw [show nearI v i (j + 1) = imin (nearI v i j) (farW v j i) from near_min q1]; exact lv_sub hl [0, 1, 3, 4, 5, 6, 7, 8, 9, 10, 11, 12, 13, 14, 15, 16, 17, 18, 19, 20, 21, 22, 23] rfl) (trivial)
    · refine lv_iload hx hb dL_law_1200 (lv_at hl 0 rfl) ?_
      refine lv_goto (tgt := 1212) hx hb dL_law_1202 (by decide) ?_
      refine lv_istore (lv' := [(29, .int (farW v j i)), (31, .int (farW v j i)), (30, .int (nI j)), (0, .ref b), (1, .ref (ad g (8, 0, 0))), (2, .ref (ad g (20, 0, 0))), (3, .ref (ad g (30, 0, 0))), (4, .int (nI t)), (5, .int (x)), (6, .int (nI (nH v))), (7, .int (nI (nS v))), (8, .int (nI (nW v))), (9, .ref (ad g (30, 2, 0))), (10, .ref (ad g (28, 3, 0))), (11, .ref (ad g (29, 3, 0))), (18, .int (ng)), (19, .int (fs)), (21, .int (ca)), (22, .int (al)), (24, .int (ct)), (25, .int (mo)), (26, .int (op)), (27, .int (nI i)), (28, .int (is))]) hx hb dL_law_1212 hl (by decide) rfl (fun ls hl => ?_)
      refine lv_iinc (v := nI (j + 1)) (lv' := [(30, .int (nI (j + 1))), (29, .int (farW v j i)), (31, .int (farW v j i)), (0, .ref b), (1, .ref (ad g (8, 0, 0))), (2, .ref (ad g (20, 0, 0))), (3, .ref (ad g (30, 0, 0))), (4, .int (nI t)), (5, .int (x)), (6, .int (nI (nH v))), (7, .int (nI (nS v))), (8, .int (nI (nW v))), (9, .ref (ad g (30, 2, 0))), (10, .ref (ad g (28, 3, 0))), (11, .ref (ad g (29, 3, 0))), (18, .int (ng)), (19, .int (fs)), (21, .int (ca)), (22, .int (al)), (24, .int (ct)), (25, .int (mo)), (26, .int (op)), (27, .int (nI i)), (28, .int (is))]) hx hb dL_law_1214 hl (k := 2) rfl (nI_1 _) (by decide) rfl (fun ls hl => ?_)
      refine lv_goto (tgt := 1147) hx hb dL_law_1217 (by decide) ?_
      exact IHj H locs ls (hP.castR (rfl)) hS (by show lv_has ls _ [(30, .int (nI (j + 1))), (29, .int (nearI v i (j + 1))), (0, .ref b), (1, .ref (ad g (8, 0, 0))), (2, .ref (ad g (20, 0, 0))), (3, .ref (ad g (30, 0, 0))), (4, .int (nI t)), (5, .int (x)), (6, .int (nI (nH v))), (7, .int (nI (nS v))), (8, .int (nI (nW v))), (9, .ref (ad g (30, 2, 0))), (10, .ref (ad g (28, 3, 0))), (11, .ref (ad g (29, 3, 0))), (18, .int (ng)), (19, .int (fs)), (21, .int (ca)), (22, .int (al)), (24, .int (ct)), (25, .int (mo)), (26, .int (op)), (27, .int (nI i)), (28, .int (is))]; rw [show nearI v i (j + 1) = farW v j i from near_a hv hi (by omega) (Int32.not_le.mp q1)]; exact lv_sub hl [0, 1, 3, 4, 5, 6, 7, 8, 9, 10, 11, 12, 13, 14, 15, 16, 17, 18, 19, 20, 21, 22, 23] rfl) (trivial)
