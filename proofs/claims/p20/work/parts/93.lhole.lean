/-! The law looks at each hole. -/
theorem holeF_3 {v : Vw} {h : Nat} : holeF v h 3 = spAt v (nI h) := by
  unfold holeF
  rw [if_neg (by decide), if_neg (by decide), if_neg (by decide), if_pos rfl]
theorem holeF_4 {v : Vw} {h : Nat} : holeF v h 4 = near v h := by
  unfold holeF
  rw [if_neg (by decide), if_neg (by decide), if_neg (by decide), if_neg (by decide)]
theorem b2i_ne {x : Int32} (h : ¬ x < 5) : ¬ b2i (bear x) = 0 := by rw [bear_b1 h]; decide
set_option maxHeartbeats 4000000 in
set_option maxRecDepth 100000 in
theorem w_hole {p : Program} {l : Launch} {e : Jvm.Env} {R : Room} {s : State} {m : MethodId} {args : Array Value} {below : List Frame} {meth : Method} {c : Code} {Q : State → Prop} {g : Gm} {cells slots n b t : Nat} {x ng fs ca al ct mo op is : Int32} {i a : Nat} {f : Nat → Int32} {u : Vw} {M : Mem} {o : Nat → Int64} {H : Heap} {locs : List Loc} {ls : Array Slot} {v : Vw} (hC : CallFix p m c cL_law 32 s args LG RL) (hE : Ev g s) (hR : 9 ≤ R.frames ∧ 250 ≤ R.locals) (hf : cells ≤ R.cells ∧ slots ≤ R.slots) (hI : IJ g (KK g)) (hW : Lw n v) (hL : SimL g v) (e0 : M 0 = v) (e2 : M 2 = v) {tn : Nat} (hi : i < nH v) (kO : KK g (30, 2, 0)) (kA : KK g (30, 3, 0)) (hu : nH u = nH v) (h163 : (u 16 3).toNatClampNeg = nH v) (hq1 : ¬ u 2 i < v 5 i) (hq2 : v 5 i = 1 → openIn v (v 3 i) (v 4 i) = nI i) (hq3 : v 5 i = 1 → ¬ v 16 3 < 5) (hq4 : ng - ng / 7 * 7 = nI (tn % 7)) (hq6 : v 5 i = 1 → 0 < v 2 (tn % 7) → ¬ u 3 i = 0) (hq7 : spAt v (nI i) = u 3 i) (hP : WP g (setR M 3 u) o H) (hS : va_S (AA g) s.heap H locs) (IH : ∀ (H : Heap) (locs : List Loc) (ls : Array Slot), WP g (setR M 3 u) o H → va_S (AA g) s.heap H locs → lv_has ls 32 [(0, .ref b), (1, .ref (ad g (8, 0, 0))), (2, .ref (ad g (20, 0, 0))), (3, .ref (ad g (30, 0, 0))), (4, .int (nI t)), (5, .int (x)), (6, .int (nI (nH v))), (7, .int (nI (nS v))), (8, .int (nI (nW v))), (9, .ref (ad g (30, 2, 0))), (10, .ref (ad g (28, 3, 0))), (11, .ref (ad g (29, 3, 0))), (18, .int (ng)), (19, .int (fs)), (21, .int (ca)), (22, .int (al)), (24, .int (ct)), (25, .int (mo)), (26, .int (op)), (27, .int (nI i)), (23, .ref (ad g (30, 3, 0)))] → W p l e R s m args below meth c H locs cells slots Q (F0 m 1318 ls [])) (hl : lv_has ls 32 [(29, .int (near v i)), (0, .ref b), (1, .ref (ad g (8, 0, 0))), (2, .ref (ad g (20, 0, 0))), (3, .ref (ad g (30, 0, 0))), (4, .int (nI t)), (5, .int (x)), (6, .int (nI (nH v))), (7, .int (nI (nS v))), (8, .int (nI (nW v))), (9, .ref (ad g (30, 2, 0))), (10, .ref (ad g (28, 3, 0))), (11, .ref (ad g (29, 3, 0))), (18, .int (ng)), (19, .int (fs)), (21, .int (ca)), (22, .int (al)), (24, .int (ct)), (25, .int (mo)), (26, .int (op)), (27, .int (nI i)), (28, .int (v 5 i)), (23, .ref (ad g (30, 3, 0)))]) : W p l e R s m args below meth c H locs cells slots Q (F0 m 1220 ls []) := by
  obtain ⟨hx, hb, hml, hown, hG⟩ := id hC
  have hv := hW.iv
  have qH := hv.lH
  have qS := hv.lS
  have qW := hv.lW
  refine lv_iload hx hb dL_law_1220 (lv_at hl 21 rfl) ?_
  refine lv_aload hx hb dL_law_1222 (lv_at hl 10 rfl) ?_
  refine lv_iload hx hb dL_law_1224 (lv_at hl 20 rfl) ?_
  refine m_iald hC hE hP kO e_30 i rfl (show i < nH u by rw [hu]; exact hi) (show nH u < 2 ^ 31 by rw [hu]; omega) dL_law_1226 ?_
  refine lv_icmp_gt (tgt := 1316) hx hb dL_law_1227 (by decide) (fun c1 => absurd c1 (hq1)) (fun c1 => ?_)
  refine lv_iload hx hb dL_law_1230 (lv_at hl 21 rfl) ?_
  refine lv_iconst (v := 1) hx hb dL_law_1232 (by decide) ?_
  refine lv_icmp_ne (tgt := 1289) hx hb dL_law_1233 (by decide) (fun q1 => ?_) (fun q1 => ?_)
  · refine lv_aload_n hx hb dL_law_1289 rfl (lv_at hl 2 rfl) ?_
    refine lv_iload hx hb dL_law_1290 (lv_at hl 20 rfl) ?_
    refine lv_iconst (v := 3) hx hb dL_law_1292 (by decide) ?_
    refine on_i (run_V hC hE hP hS (As := [.int (nI i), .int ((3 : Int32))]) (x_hole l hI (M := setR M 3 u) hv i hi 3 (in_H hv hi) (by decide) ((setR_ne _ _ (by decide)).trans e0)) cal_X4_hole w_264 ⟨by show _ + 1 ≤ R.frames; simp only; omega, by show _ + _ ≤ R.locals; simp only; omega⟩ k_8 f_8 rfl rfl rfl (Nat.le_of_ble_eq_true rfl) hl.1 hf dL_law_1293) hS (fun H locs hP hS => ?_)
    refine m_top (y := spAt v (nI i)) (holeF_3) ?_
    refine lv_aload hx hb dL_law_1296 (lv_at hl 22 rfl) ?_
    refine lv_iload hx hb dL_law_1298 (lv_at hl 20 rfl) ?_
    refine m_iald hC hE hP kA e_30 i rfl (show i < (u 16 3).toNatClampNeg by rw [h163]; exact hi) (show (u 16 3).toNatClampNeg < 2 ^ 31 by rw [h163]; omega) dL_law_1300 ?_
    refine lv_icmp_ne (tgt := 1316) hx hb dL_law_1301 (by decide) (fun c2 => absurd (hq7) c2) (fun c2 => ?_)
    refine lv_aload_n hx hb dL_law_1304 rfl (lv_at hl 2 rfl) ?_
    refine lv_iload hx hb dL_law_1305 (lv_at hl 20 rfl) ?_
    refine lv_iconst (v := 4) hx hb dL_law_1307 (by decide) ?_
    refine on_i (run_V hC hE hP hS (As := [.int (nI i), .int ((4 : Int32))]) (x_hole l hI (M := setR M 3 u) hv i hi 4 (in_H hv hi) (by decide) ((setR_ne _ _ (by decide)).trans e0)) cal_X4_hole w_264 ⟨by show _ + 1 ≤ R.frames; simp only; omega, by show _ + _ ≤ R.locals; simp only; omega⟩ k_8 f_8 rfl rfl rfl (Nat.le_of_ble_eq_true rfl) hl.1 hf dL_law_1308) hS (fun H locs hP hS => ?_)
    refine m_top (y := near v i) (holeF_4) ?_
    refine lv_iload hx hb dL_law_1311 (lv_at hl 0 rfl) ?_
    refine lv_icmp_eq (tgt := 1318) hx hb dL_law_1313 (by decide) (fun c3 => ?_) (fun c3 => absurd (rfl) c3)
    exact IH H locs ls hP hS (lv_sub hl [1, 2, 3, 4, 5, 6, 7, 8, 9, 10, 11, 12, 13, 14, 15, 16, 17, 18, 19, 20, 22] rfl)
  · obtain ⟨⟨a, ha9, ea⟩, ⟨b0, hb9, eb⟩, _⟩ := hv.hH i hi
    refine lv_aload_n hx hb dL_law_1236 rfl (lv_at hl 2 rfl) ?_
    refine lv_aload_n hx hb dL_law_1237 rfl (lv_at hl 2 rfl) ?_
    refine lv_iload hx hb dL_law_1238 (lv_at hl 20 rfl) ?_
    refine lv_iconst (v := 0) hx hb dL_law_1240 (by decide) ?_
    refine on_i (run_V hC hE hP hS (As := [.int (nI i), .int ((0 : Int32))]) (x_hole l hI (M := setR M 3 u) hv i hi 0 (in_H hv hi) (by decide) ((setR_ne _ _ (by decide)).trans e0)) cal_X4_hole w_264 ⟨by show _ + 1 ≤ R.frames; simp only; omega, by show _ + _ ≤ R.locals; simp only; omega⟩ k_8 f_8 rfl rfl rfl (Nat.le_of_ble_eq_true rfl) hl.1 hf dL_law_1241) hS (fun H locs hP hS => ?_)
    refine m_top (y := nI a) (holeF_0.trans ea) ?_
    refine lv_aload_n hx hb dL_law_1244 rfl (lv_at hl 2 rfl) ?_
    refine lv_iload hx hb dL_law_1245 (lv_at hl 20 rfl) ?_
    refine lv_iconst (v := 1) hx hb dL_law_1247 (by decide) ?_
    refine on_i (run_V hC hE hP hS (As := [.int (nI i), .int ((1 : Int32))]) (x_hole l hI (M := setR M 3 u) hv i hi 1 (in_H hv hi) (by decide) ((setR_ne _ _ (by decide)).trans e0)) cal_X4_hole w_264 ⟨by show _ + 1 ≤ R.frames; simp only; omega, by show _ + _ ≤ R.locals; simp only; omega⟩ k_8 f_8 rfl rfl rfl (Nat.le_of_ble_eq_true rfl) hl.1 hf dL_law_1248) hS (fun H locs hP hS => ?_)
    refine m_top (y := nI b0) (holeF_1.trans eb) ?_
    refine lv_iconst (v := 2) hx hb dL_law_1251 (by decide) ?_
    refine on_i (run_V hC hE hP hS (As := [.int (nI a), .int (nI b0), .int ((2 : Int32))]) (x_cell l hI (M := setR M 3 u) hv a b0 ha9 hb9 2 (cell_in ha9 hb9) (by decide) ((setR_ne _ _ (by decide)).trans e0)) cal_X4_cell w_165 ⟨by show _ + 1 ≤ R.frames; simp only; omega, by show _ + _ ≤ R.locals; simp only; omega⟩ k_8 f_8 rfl rfl rfl (Nat.le_of_ble_eq_true rfl) hl.1 hf dL_law_1252) hS (fun H locs hP hS => ?_)
    refine m_top (y := nI i) (cellF_2.trans (by rw [← ea, ← eb]; exact hq2 q1)) ?_
    refine lv_iload hx hb dL_law_1255 (lv_at hl 20 rfl) ?_
    refine lv_icmp_ne (tgt := 1316) hx hb dL_law_1257 (by decide) (fun c4 => absurd (rfl) c4) (fun c4 => ?_)
    refine lv_aload_n hx hb dL_law_1260 rfl (lv_at hl 2 rfl) ?_
    refine lv_iconst (v := 2) hx hb dL_law_1261 (by decide) ?_
    refine on_i (run_V hC hE hP hS (As := [.int ((2 : Int32))]) (x_count l hI (M := setR M 3 u) hv 2 (by decide) ((setR_ne _ _ (by decide)).trans e0)) cal_X4_count w_319 ⟨by show _ + 1 ≤ R.frames; simp only; omega, by show _ + _ ≤ R.locals; simp only; omega⟩ k_8 f_8 rfl rfl rfl (Nat.le_of_ble_eq_true rfl) hl.1 hf dL_law_1262) hS (fun H locs hP hS => ?_)
    refine lv_if_eq (tgt := 1316) hx hb dL_law_1265 (by decide) (fun c5 => absurd c5 (by rw [fact_2]; exact b2i_ne (hq3 q1))) (fun c5 => ?_)
    refine lv_aload_n hx hb dL_law_1268 rfl (lv_at hl 3 rfl) ?_
    refine m_get hC hE hP (k_20 hL) f_20 rfl u_5 2 (by decide) w_654 rfl rfl dL_law_1269 ?_
    refine lv_iload hx hb dL_law_1272 (lv_at hl 13 rfl) ?_
    refine lv_bipush (v := 7) hx hb dL_law_1274 (by decide) ?_
    refine lv_irem hx hb dL_law_1276 (by decide) ?_
    refine m_top (y := nI (tn % 7)) (hq4) ?_
    refine m_iald hC hE hP (k_22 hL) rfl (tn % 7) rfl (Nat.mod_lt _ (by decide)) (by decide) dL_law_1277 ?_
    refine m_top (y := v 2 (tn % 7)) (by show (setR M 3 u) 2 2 _ = _; rw [setR_ne _ _ (by decide), e2]) ?_
    refine lv_if_le (tgt := 1289) hx hb dL_law_1278 (by decide) (fun q5 => ?_) (fun q5 => ?_)
    · refine lv_aload_n hx hb dL_law_1289 rfl (lv_at hl 2 rfl) ?_
      refine lv_iload hx hb dL_law_1290 (lv_at hl 20 rfl) ?_
      refine lv_iconst (v := 3) hx hb dL_law_1292 (by decide) ?_
      refine on_i (run_V hC hE hP hS (As := [.int (nI i), .int ((3 : Int32))]) (x_hole l hI (M := setR M 3 u) hv i hi 3 (in_H hv hi) (by decide) ((setR_ne _ _ (by decide)).trans e0)) cal_X4_hole w_264 ⟨by show _ + 1 ≤ R.frames; simp only; omega, by show _ + _ ≤ R.locals; simp only; omega⟩ k_8 f_8 rfl rfl rfl (Nat.le_of_ble_eq_true rfl) hl.1 hf dL_law_1293) hS (fun H locs hP hS => ?_)
      refine m_top (y := spAt v (nI i)) (holeF_3) ?_
      refine lv_aload hx hb dL_law_1296 (lv_at hl 22 rfl) ?_
      refine lv_iload hx hb dL_law_1298 (lv_at hl 20 rfl) ?_
      refine m_iald hC hE hP kA e_30 i rfl (show i < (u 16 3).toNatClampNeg by rw [h163]; exact hi) (show (u 16 3).toNatClampNeg < 2 ^ 31 by rw [h163]; omega) dL_law_1300 ?_
      refine lv_icmp_ne (tgt := 1316) hx hb dL_law_1301 (by decide) (fun c6 => absurd (hq7) c6) (fun c6 => ?_)
      refine lv_aload_n hx hb dL_law_1304 rfl (lv_at hl 2 rfl) ?_
      refine lv_iload hx hb dL_law_1305 (lv_at hl 20 rfl) ?_
      refine lv_iconst (v := 4) hx hb dL_law_1307 (by decide) ?_
      refine on_i (run_V hC hE hP hS (As := [.int (nI i), .int ((4 : Int32))]) (x_hole l hI (M := setR M 3 u) hv i hi 4 (in_H hv hi) (by decide) ((setR_ne _ _ (by decide)).trans e0)) cal_X4_hole w_264 ⟨by show _ + 1 ≤ R.frames; simp only; omega, by show _ + _ ≤ R.locals; simp only; omega⟩ k_8 f_8 rfl rfl rfl (Nat.le_of_ble_eq_true rfl) hl.1 hf dL_law_1308) hS (fun H locs hP hS => ?_)
      refine m_top (y := near v i) (holeF_4) ?_
      refine lv_iload hx hb dL_law_1311 (lv_at hl 0 rfl) ?_
      refine lv_icmp_eq (tgt := 1318) hx hb dL_law_1313 (by decide) (fun c7 => ?_) (fun c7 => absurd (rfl) c7)
      exact IH H locs ls hP hS (lv_sub hl [1, 2, 3, 4, 5, 6, 7, 8, 9, 10, 11, 12, 13, 14, 15, 16, 17, 18, 19, 20, 22] rfl)
    · refine lv_aload hx hb dL_law_1281 (lv_at hl 22 rfl) ?_
      refine lv_iload hx hb dL_law_1283 (lv_at hl 20 rfl) ?_
      refine m_iald hC hE hP kA e_30 i rfl (show i < (u 16 3).toNatClampNeg by rw [h163]; exact hi) (show (u 16 3).toNatClampNeg < 2 ^ 31 by rw [h163]; omega) dL_law_1285 ?_
      refine lv_if_eq (tgt := 1316) hx hb dL_law_1286 (by decide) (fun c8 => absurd c8 (hq6 q1 (Int32.not_le.mp q5))) (fun c8 => ?_)
      refine lv_aload_n hx hb dL_law_1289 rfl (lv_at hl 2 rfl) ?_
      refine lv_iload hx hb dL_law_1290 (lv_at hl 20 rfl) ?_
      refine lv_iconst (v := 3) hx hb dL_law_1292 (by decide) ?_
      refine on_i (run_V hC hE hP hS (As := [.int (nI i), .int ((3 : Int32))]) (x_hole l hI (M := setR M 3 u) hv i hi 3 (in_H hv hi) (by decide) ((setR_ne _ _ (by decide)).trans e0)) cal_X4_hole w_264 ⟨by show _ + 1 ≤ R.frames; simp only; omega, by show _ + _ ≤ R.locals; simp only; omega⟩ k_8 f_8 rfl rfl rfl (Nat.le_of_ble_eq_true rfl) hl.1 hf dL_law_1293) hS (fun H locs hP hS => ?_)
      refine m_top (y := spAt v (nI i)) (holeF_3) ?_
      refine lv_aload hx hb dL_law_1296 (lv_at hl 22 rfl) ?_
      refine lv_iload hx hb dL_law_1298 (lv_at hl 20 rfl) ?_
      refine m_iald hC hE hP kA e_30 i rfl (show i < (u 16 3).toNatClampNeg by rw [h163]; exact hi) (show (u 16 3).toNatClampNeg < 2 ^ 31 by rw [h163]; omega) dL_law_1300 ?_
      refine lv_icmp_ne (tgt := 1316) hx hb dL_law_1301 (by decide) (fun c9 => absurd (hq7) c9) (fun c9 => ?_)
      refine lv_aload_n hx hb dL_law_1304 rfl (lv_at hl 2 rfl) ?_
      refine lv_iload hx hb dL_law_1305 (lv_at hl 20 rfl) ?_
      refine lv_iconst (v := 4) hx hb dL_law_1307 (by decide) ?_
      refine on_i (run_V hC hE hP hS (As := [.int (nI i), .int ((4 : Int32))]) (x_hole l hI (M := setR M 3 u) hv i hi 4 (in_H hv hi) (by decide) ((setR_ne _ _ (by decide)).trans e0)) cal_X4_hole w_264 ⟨by show _ + 1 ≤ R.frames; simp only; omega, by show _ + _ ≤ R.locals; simp only; omega⟩ k_8 f_8 rfl rfl rfl (Nat.le_of_ble_eq_true rfl) hl.1 hf dL_law_1308) hS (fun H locs hP hS => ?_)
      refine m_top (y := near v i) (holeF_4) ?_
      refine lv_iload hx hb dL_law_1311 (lv_at hl 0 rfl) ?_
      refine lv_icmp_eq (tgt := 1318) hx hb dL_law_1313 (by decide) (fun c10 => ?_) (fun c10 => absurd (rfl) c10)
      exact IH H locs ls hP hS (lv_sub hl [1, 2, 3, 4, 5, 6, 7, 8, 9, 10, 11, 12, 13, 14, 15, 16, 17, 18, 19, 20, 22] rfl)
