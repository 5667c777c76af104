/-! Things told: a cell, a frost. -/
set_option maxHeartbeats 4000000 in
set_option maxRecDepth 100000 in
theorem a_set {p : Program} {l : Launch} {e : Jvm.Env} {s : State} {m : MethodId} {below : List Frame} {meth : Method} {c : Code} {g : Gm} {x : Int32} {n : Nat} {M : Mem} {o : Nat → Int64} {H : Heap} {locs : List Loc} {ls : Array Slot} (A : AF p l s m meth c g x) {v : Vw} (hW : Lw n v) (hL : SimL g v) (e0 : M 0 = v) {a b : Nat} (ha9 : a < 9) (hb9 : b < 9) (hP : WP g (setR M 2 v) o H) (hS : va_S (AA g) s.heap H locs) (hl : lv_has ls 11 [(4, .int (nI b)), (3, .int (nI a)), (0, .ref (ad g (8, 0, 0))), (1, .ref (ad g (20, 0, 0))), (2, .int x)]) : WA p l e s m below meth c g x n M o H locs 0 0 (F0 m 120 ls []) := by
  obtain ⟨hC, hE, hr_, hlk, htab, hI, hl0⟩ := id A
  obtain ⟨hx, hb, hml, hown, hG⟩ := id hC
  have hv := hW.iv
  have qH := hv.lH
  have qS := hv.lS
  have qW := hv.lW
  have hvM : setR M 2 v 0 = v := by rw [setR_ne _ _ (by decide)]; exact e0
  refine lv_bipush (v := 10) hx hb dL_act_120 (by decide) ?_
  refine lv_aload_n hx hb dL_act_122 rfl (lv_at hl 3 rfl) ?_
  refine m_get hC hE hP (k_20 hL) e_20 rfl u_5 0 (by decide) w_650 rfl rfl dL_act_123 ?_
  refine lv_iload_n hx hb dL_act_126 rfl (lv_at hl 1 rfl) ?_
  refine m_aalA hC hE hP (k_26 hL (by decide)) f_26 a (rfl) (show a < 9 from by omega) (by decide) dL_act_127 ?_
  refine lv_iload hx hb dL_act_128 (lv_at hl 0 rfl) ?_
  refine m_iald hC hE hP (k_21 hL (by decide) (by omega)) e_21 b (rfl) (show b < 9 from by omega) (by decide) dL_act_130 ?_
  refine m_top (y := v 0 (9 * b + a)) rfl ?_
  refine lv_imul hx hb dL_act_131 ?_
  refine lv_aload_n hx hb dL_act_132 rfl (lv_at hl 3 rfl) ?_
  refine m_get hC hE hP (k_20 hL) e_20 rfl u_5 1 (by decide) w_652 rfl rfl dL_act_133 ?_
  refine lv_iload_n hx hb dL_act_136 rfl (lv_at hl 1 rfl) ?_
  refine m_aalA hC hE hP (k_26 hL (by decide)) f_26 a (rfl) (show a < 9 from by omega) (by decide) dL_act_137 ?_
  refine lv_iload hx hb dL_act_138 (lv_at hl 0 rfl) ?_
  refine m_iald hC hE hP (k_21 hL (by decide) (by omega)) e_21 b (rfl) (show b < 9 from by omega) (by decide) dL_act_140 ?_
  refine m_top (y := v 1 (9 * b + a)) rfl ?_
  refine lv_iadd hx hb dL_act_141 ?_
  refine lv_istore (lv' := [(6, .int (((10 : Int32) * (v 0 (9 * b + a))) + (v 1 (9 * b + a)))), (4, .int (nI b)), (3, .int (nI a)), (0, .ref (ad g (8, 0, 0))), (1, .ref (ad g (20, 0, 0))), (2, .int (x))]) hx hb dL_act_142 hl (by decide) rfl (fun ls hl => ?_)
  refine lv_aload_n hx hb dL_act_144 rfl (lv_at hl 4 rfl) ?_
  refine m_get hC hE hP (k_20 hL) e_20 rfl u_5 0 (by decide) w_650 rfl rfl dL_act_145 ?_
  refine lv_iload_n hx hb dL_act_148 rfl (lv_at hl 2 rfl) ?_
  refine m_aalA hC hE hP (k_26 hL (by decide)) f_26 a (rfl) (show a < 9 from by omega) (by decide) dL_act_149 ?_
  refine lv_iload hx hb dL_act_150 (lv_at hl 1 rfl) ?_
  refine lv_iload_n hx hb dL_act_152 rfl (lv_at hl 5 rfl) ?_
  refine lv_iconst (v := 3) hx hb dL_act_153 (by decide) ?_
  refine lv_ishr hx hb dL_act_154 ?_
  refine W_joinL (g := g) (K := KK g) (nL := 11) (ent g (setR M 2 v) o) [(6, .int (((10 : Int32) * (v 0 (9 * b + a))) + (v 1 (9 * b + a)))), (4, .int (nI b)), (3, .int (nI a)), (0, .ref (ad g (8, 0, 0))), (1, .ref (ad g (20, 0, 0))), (2, .int (x))] (pc := 176) [.int (nI (eF x)), .int (nI b), .ref (ad g (21, 0, a))] (fun hj176 => ?_) (fun H locs ls hP hS hl => ?_)
  · refine lv_iload_n hx hb dL_act_155 rfl (lv_at hl 5 rfl) ?_
    refine lv_bipush (v := 10) hx hb dL_act_156 (by decide) ?_
    refine lv_ishr hx hb dL_act_158 ?_
    refine lv_iconst (v := 2) hx hb dL_act_159 (by decide) ?_
    refine on_i (run_S hC hE hP hS (As := [.int (x >>> ((10 : Int32) &&& 31)), .int ((2 : Int32))]) (c_belowL l (x >>> ((10 : Int32) &&& 31)) 2 (by omega) (by omega)) cal_L_below w_553 ⟨Nat.le_of_ble_eq_true rfl, Nat.le_of_ble_eq_true rfl⟩ rfl rfl (Nat.le_of_ble_eq_true rfl) hl.1 ⟨Nat.le_of_ble_eq_true rfl, Nat.le_of_ble_eq_true rfl⟩ dL_act_160) hS (fun H locs hP hS => ?_)
    refine lv_if_ne (tgt := 171) hx hb dL_act_163 (by decide) (fun c1 => ?_) (fun c1 => ?_)
    · refine lv_bipush (v := 25) hx hb dL_act_171 (by decide) ?_
      refine on_i (run_S hC hE hP hS (As := [.int (x >>> ((3 : Int32) &&& 31)), .int ((25 : Int32))]) (c_belowL l (x >>> ((3 : Int32) &&& 31)) 25 (by omega) (by omega)) cal_L_below w_553 ⟨Nat.le_of_ble_eq_true rfl, Nat.le_of_ble_eq_true rfl⟩ rfl rfl (Nat.le_of_ble_eq_true rfl) hl.1 ⟨Nat.le_of_ble_eq_true rfl, Nat.le_of_ble_eq_true rfl⟩ dL_act_173) hS (fun H locs hP hS => ?_)
      refine m_top (y := nI (eF x)) (congrArg nI (if_neg (bel_0 (by decide) (by decide) c1)).symm) ?_
      exact hj176 H locs ls (hP.castR (rfl)) hS (lv_sub hl [0, 1, 2, 3, 4, 5] rfl)
    · refine lv_bipush (v := 61) hx hb dL_act_166 (by decide) ?_
      refine lv_goto (tgt := 173) hx hb dL_act_168 (by decide) ?_
      refine on_i (run_S hC hE hP hS (As := [.int (x >>> ((3 : Int32) &&& 31)), .int ((61 : Int32))]) (c_belowL l (x >>> ((3 : Int32) &&& 31)) 61 (by omega) (by omega)) cal_L_below w_553 ⟨Nat.le_of_ble_eq_true rfl, Nat.le_of_ble_eq_true rfl⟩ rfl rfl (Nat.le_of_ble_eq_true rfl) hl.1 ⟨Nat.le_of_ble_eq_true rfl, Nat.le_of_ble_eq_true rfl⟩ dL_act_173) hS (fun H locs hP hS => ?_)
      refine m_top (y := nI (eF x)) (congrArg nI (if_pos (bel_1 (by decide) (by decide) c1)).symm) ?_
      exact hj176 H locs ls (hP.castR (rfl)) hS (lv_sub hl [0, 1, 2, 3, 4, 5] rfl)
  · refine m_iast hC hE hI hP hS (k_21 hL (by decide) (by omega)) e_21 b (rfl) (show b < 9 from by omega) (by decide) (p_21 (by omega)) (ent_put g M 2 v o 0 (9 * b + a) (nI (eF x)) (kf_21 (by decide) (by omega))) dL_act_176 (fun H locs hP hS => ?_)
    refine lv_aload_n hx hb dL_act_177 rfl (lv_at hl 4 rfl) ?_
    refine m_get hC hE hP (k_20 hL) e_20 rfl u_5 1 (by decide) w_652 rfl rfl dL_act_178 ?_
    refine lv_iload_n hx hb dL_act_181 rfl (lv_at hl 2 rfl) ?_
    refine m_aalA hC hE hP (k_26 hL (by decide)) f_26 a (rfl) (show a < 9 from by omega) (by decide) dL_act_182 ?_
    refine lv_iload hx hb dL_act_183 (lv_at hl 1 rfl) ?_
    refine lv_iload_n hx hb dL_act_185 rfl (lv_at hl 5 rfl) ?_
    refine lv_iconst (v := 5) hx hb dL_act_186 (by decide) ?_
    refine lv_ishr hx hb dL_act_187 ?_
    refine W_joinL (g := g) (K := KK g) (nL := 11) (ent g (setR M 2 (up2 v 0 (9 * b + a) (nI (eF x)))) o) [(6, .int (((10 : Int32) * (v 0 (9 * b + a))) + (v 1 (9 * b + a)))), (4, .int (nI b)), (3, .int (nI a)), (0, .ref (ad g (8, 0, 0))), (1, .ref (ad g (20, 0, 0))), (2, .int (x))] (pc := 208) [.int (nI (dF x)), .int (nI b), .ref (ad g (21, 1, a))] (fun hj208 => ?_) (fun H locs ls hP hS hl => ?_)
    · refine lv_iload_n hx hb dL_act_188 rfl (lv_at hl 5 rfl) ?_
      refine lv_bipush (v := 11) hx hb dL_act_189 (by decide) ?_
      refine lv_ishr hx hb dL_act_191 ?_
      refine lv_iconst (v := 3) hx hb dL_act_192 (by decide) ?_
      refine on_i (run_S hC hE hP hS (As := [.int (x >>> ((11 : Int32) &&& 31)), .int ((3 : Int32))]) (c_belowL l (x >>> ((11 : Int32) &&& 31)) 3 (by omega) (by omega)) cal_L_below w_553 ⟨Nat.le_of_ble_eq_true rfl, Nat.le_of_ble_eq_true rfl⟩ rfl rfl (Nat.le_of_ble_eq_true rfl) hl.1 ⟨Nat.le_of_ble_eq_true rfl, Nat.le_of_ble_eq_true rfl⟩ dL_act_193) hS (fun H locs hP hS => ?_)
      refine lv_if_ne (tgt := 204) hx hb dL_act_196 (by decide) (fun c2 => ?_) (fun c2 => ?_)
      · refine lv_iconst (v := 4) hx hb dL_act_204 (by decide) ?_
        refine on_i (run_S hC hE hP hS (As := [.int (x >>> ((5 : Int32) &&& 31)), .int ((4 : Int32))]) (c_belowL l (x >>> ((5 : Int32) &&& 31)) 4 (by omega) (by omega)) cal_L_below w_553 ⟨Nat.le_of_ble_eq_true rfl, Nat.le_of_ble_eq_true rfl⟩ rfl rfl (Nat.le_of_ble_eq_true rfl) hl.1 ⟨Nat.le_of_ble_eq_true rfl, Nat.le_of_ble_eq_true rfl⟩ dL_act_205) hS (fun H locs hP hS => ?_)
        refine m_top (y := nI (dF x)) (congrArg nI (if_neg (bel_0 (by decide) (by decide) c2)).symm) ?_
        exact hj208 H locs ls (hP.castR (rfl)) hS (lv_sub hl [0, 1, 2, 3, 4, 5] rfl)
      · refine lv_bipush (v := 10) hx hb dL_act_199 (by decide) ?_
        refine lv_goto (tgt := 205) hx hb dL_act_201 (by decide) ?_
        refine on_i (run_S hC hE hP hS (As := [.int (x >>> ((5 : Int32) &&& 31)), .int ((10 : Int32))]) (c_belowL l (x >>> ((5 : Int32) &&& 31)) 10 (by omega) (by omega)) cal_L_below w_553 ⟨Nat.le_of_ble_eq_true rfl, Nat.le_of_ble_eq_true rfl⟩ rfl rfl (Nat.le_of_ble_eq_true rfl) hl.1 ⟨Nat.le_of_ble_eq_true rfl, Nat.le_of_ble_eq_true rfl⟩ dL_act_205) hS (fun H locs hP hS => ?_)
        refine m_top (y := nI (dF x)) (congrArg nI (if_pos (bel_1 (by decide) (by decide) c2)).symm) ?_
        exact hj208 H locs ls (hP.castR (rfl)) hS (lv_sub hl [0, 1, 2, 3, 4, 5] rfl)
    · refine m_iast hC hE hI hP hS (k_21 hL (by decide) (by omega)) e_21 b (rfl) (show b < 9 from by omega) (by decide) (p_21 (by omega)) (ent_put g M 2 (up2 v 0 (9 * b + a) (nI (eF x))) o 1 (9 * b + a) (nI (dF x)) (kf_21 (by decide) (by omega))) dL_act_208 (fun H locs hP hS => ?_)
      refine lv_aload_n hx hb dL_act_209 rfl (lv_at hl 3 rfl) ?_
      refine lv_iload_n hx hb dL_act_210 rfl (lv_at hl 2 rfl) ?_
      refine lv_iload hx hb dL_act_211 (lv_at hl 1 rfl) ?_
      refine lv_aload_n hx hb dL_act_213 rfl (lv_at hl 4 rfl) ?_
      refine m_get hC hE hP (k_20 hL) e_20 rfl u_5 0 (by decide) w_650 rfl rfl dL_act_214 ?_
      refine lv_iload_n hx hb dL_act_217 rfl (lv_at hl 2 rfl) ?_
      refine m_aalA hC hE hP (k_26 hL (by decide)) f_26 a (rfl) (show a < 9 from by omega) (by decide) dL_act_218 ?_
      refine lv_iload hx hb dL_act_219 (lv_at hl 1 rfl) ?_
      refine m_iald hC hE hP (k_21 hL (by decide) (by omega)) e_21 b (rfl) (show b < 9 from by omega) (by decide) dL_act_221 ?_
      refine m_top (y := (up2 (up2 v 0 (9 * b + a) (nI (eF x))) 1 (9 * b + a) (nI (dF x))) 0 (9 * b + a)) rfl ?_
      refine m_top (y := nI (eF x)) ((up2_c (by decide)).trans (up2_same _ _ _ _)) ?_
      refine lv_aload_n hx hb dL_act_222 rfl (lv_at hl 4 rfl) ?_
      refine m_get hC hE hP (k_20 hL) e_20 rfl u_5 1 (by decide) w_652 rfl rfl dL_act_223 ?_
      refine lv_iload_n hx hb dL_act_226 rfl (lv_at hl 2 rfl) ?_
      refine m_aalA hC hE hP (k_26 hL (by decide)) f_26 a (rfl) (show a < 9 from by omega) (by decide) dL_act_227 ?_
      refine lv_iload hx hb dL_act_228 (lv_at hl 1 rfl) ?_
      refine m_iald hC hE hP (k_21 hL (by decide) (by omega)) e_21 b (rfl) (show b < 9 from by omega) (by decide) dL_act_230 ?_
      refine m_top (y := (up2 (up2 v 0 (9 * b + a) (nI (eF x))) 1 (9 * b + a) (nI (dF x))) 1 (9 * b + a)) rfl ?_
      refine m_top (y := nI (dF x)) (up2_same _ _ _ _) ?_
      replace hP : WPe g (KK g) (ent g (setR (setR M 2 (up2 (up2 v 0 (9 * b + a) (nI (eF x))) 1 (9 * b + a) (nI (dF x)))) 0 v) o) _ := WP.cast hP (setR_id ((setR_ne _ _ (by decide)).trans e0))
      refine on_i (run_V hC hE hP hS (As := [.int (nI a), .int (nI b), .int (nI (eF x)), .int (nI (dF x))]) (c_setP_0 l hI (M := (setR M 2 (up2 (up2 v 0 (9 * b + a) (nI (eF x))) 1 (9 * b + a) (nI (dF x))))) hv a b ha9 hb9 (nI (eF x)) (nI (dF x)) (cell_in ha9 hb9) (isIn_60 eF_le) (in_nI (n := 10) dF_lt (by decide) (by decide))) cal_X4_set w_565 ⟨Nat.le_of_ble_eq_true rfl, Nat.le_of_ble_eq_true rfl⟩ k_8 f_8 rfl rfl rfl (Nat.le_of_ble_eq_true rfl) hl.1 ⟨Nat.le_of_ble_eq_true rfl, Nat.le_of_ble_eq_true rfl⟩ dL_act_231) hS (fun H locs hP hS => ?_)
      refine lv_iload hx hb dL_act_234 (lv_at hl 0 rfl) ?_
      refine lv_icmp_ne (tgt := 243) hx hb dL_act_236 (by decide) (fun c1 => absurd (rfl) c1) (fun c1 => ?_)
      refine lv_iconst (v := 1) hx hb dL_act_239 (by decide) ?_
      refine lv_goto (tgt := 244) hx hb dL_act_240 (by decide) ?_
      exact a_end A (by decide) (by decide) (u := (g, setR (setR M 2 (up2 (up2 v 0 (9 * b + a) (nI (eF x))) 1 (9 * b + a) (nI (dF x)))) 0 (setV v a b (nI (eF x)) (nI (dF x))))) hP hS (Ua_g hI hL (hW.set ha9 hb9 eF_le dF_lt) ((Cn.rf.up (by omega)).up (by omega))) rfl dL_act_244
set_option maxHeartbeats 4000000 in
set_option maxRecDepth 100000 in
theorem a_frost {p : Program} {l : Launch} {e : Jvm.Env} {s : State} {m : MethodId} {below : List Frame} {meth : Method} {c : Code} {g : Gm} {x : Int32} {n : Nat} {M : Mem} {o : Nat → Int64} {H : Heap} {locs : List Loc} {ls : Array Slot} (A : AF p l s m meth c g x) {v : Vw} (hW : Lw n v) (hL : SimL g v) (e0 : M 0 = v) {a b : Nat} (ha9 : a < 9) (hb9 : b < 9) (hP : WP g (setR M 2 v) o H) (hS : va_S (AA g) s.heap H locs) (hl : lv_has ls 11 [(4, .int (nI b)), (3, .int (nI a)), (0, .ref (ad g (8, 0, 0))), (1, .ref (ad g (20, 0, 0))), (2, .int x)]) : WA p l e s m below meth c g x n M o H locs 0 0 (F0 m 245 ls []) := by
  obtain ⟨hC, hE, hr_, hlk, htab, hI, hl0⟩ := id A
  obtain ⟨hx, hb, hml, hown, hG⟩ := id hC
  have hv := hW.iv
  have qH := hv.lH
  have qS := hv.lS
  have qW := hv.lW
  have hvM : setR M 2 v 0 = v := by rw [setR_ne _ _ (by decide)]; exact e0
  have ht7 : tF x < 7 := bel_lt (by decide)
  refine lv_iload_n hx hb dL_act_245 rfl (lv_at hl 4 rfl) ?_
  refine lv_iconst (v := 3) hx hb dL_act_246 (by decide) ?_
  refine lv_ishr hx hb dL_act_247 ?_
  refine lv_bipush (v := 7) hx hb dL_act_248 (by decide) ?_
  refine on_i (run_S hC hE hP hS (As := [.int (x >>> ((3 : Int32) &&& 31)), .int ((7 : Int32))]) (c_belowL l (x >>> ((3 : Int32) &&& 31)) 7 (by omega) (by omega)) cal_L_below w_553 ⟨Nat.le_of_ble_eq_true rfl, Nat.le_of_ble_eq_true rfl⟩ rfl rfl (Nat.le_of_ble_eq_true rfl) hl.1 ⟨Nat.le_of_ble_eq_true rfl, Nat.le_of_ble_eq_true rfl⟩ dL_act_250) hS (fun H locs hP hS => ?_)
  refine m_top (y := nI (tF x)) (rfl) ?_
  refine lv_istore (lv' := [(6, .int (nI (tF x))), (4, .int (nI b)), (3, .int (nI a)), (0, .ref (ad g (8, 0, 0))), (1, .ref (ad g (20, 0, 0))), (2, .int (x))]) hx hb dL_act_253 hl (by decide) rfl (fun ls hl => ?_)
  refine lv_aload_n hx hb dL_act_255 rfl (lv_at hl 4 rfl) ?_
  refine m_get hC hE hP (k_20 hL) e_20 rfl u_5 2 (by decide) w_654 rfl rfl dL_act_256 ?_
  refine lv_iload hx hb dL_act_259 (lv_at hl 0 rfl) ?_
  refine m_iald hC hE hP (k_22 hL) e_22 (tF x) (rfl) (show (tF x) < 7 from by omega) (by decide) dL_act_261 ?_
  refine m_top (y := v 2 (tF x)) rfl ?_
  refine lv_istore (lv' := [(7, .int (v 2 (tF x))), (6, .int (nI (tF x))), (4, .int (nI b)), (3, .int (nI a)), (0, .ref (ad g (8, 0, 0))), (1, .ref (ad g (20, 0, 0))), (2, .int (x))]) hx hb dL_act_262 hl (by decide) rfl (fun ls hl => ?_)
  refine lv_aload_n hx hb dL_act_264 rfl (lv_at hl 5 rfl) ?_
  refine m_get hC hE hP (k_20 hL) e_20 rfl u_5 2 (by decide) w_654 rfl rfl dL_act_265 ?_
  refine lv_iload hx hb dL_act_268 (lv_at hl 1 rfl) ?_
  refine W_joinL (g := g) (K := KK g) (nL := 11) (ent g (setR M 2 v) o) [(7, .int (v 2 (tF x))), (6, .int (nI (tF x))), (4, .int (nI b)), (3, .int (nI a)), (0, .ref (ad g (8, 0, 0))), (1, .ref (ad g (20, 0, 0))), (2, .int (x))] (pc := 305) [.int (fF x), .int (nI (tF x)), .ref (ad g (22, 0, 0))] (fun hj305 => ?_) (fun H locs ls hP hS hl => ?_)
  · refine lv_iload_n hx hb dL_act_270 rfl (lv_at hl 6 rfl) ?_
    refine lv_bipush (v := 9) hx hb dL_act_271 (by decide) ?_
    refine lv_ishr hx hb dL_act_273 ?_
    refine lv_iconst (v := 3) hx hb dL_act_274 (by decide) ?_
    refine on_i (run_S hC hE hP hS (As := [.int (x >>> ((9 : Int32) &&& 31)), .int ((3 : Int32))]) (c_belowL l (x >>> ((9 : Int32) &&& 31)) 3 (by omega) (by omega)) cal_L_below w_553 ⟨Nat.le_of_ble_eq_true rfl, Nat.le_of_ble_eq_true rfl⟩ rfl rfl (Nat.le_of_ble_eq_true rfl) hl.1 ⟨Nat.le_of_ble_eq_true rfl, Nat.le_of_ble_eq_true rfl⟩ dL_act_275) hS (fun H locs hP hS => ?_)
    refine lv_if_ne (tgt := 295) hx hb dL_act_278 (by decide) (fun c1 => ?_) (fun c1 => ?_)
    · refine lv_iload_n hx hb dL_act_295 rfl (lv_at hl 6 rfl) ?_
      refine lv_iconst (v := 5) hx hb dL_act_296 (by decide) ?_
      refine lv_ishr hx hb dL_act_297 ?_
      refine lv_bipush (v := 7) hx hb dL_act_298 (by decide) ?_
      refine on_i (run_S hC hE hP hS (As := [.int (x >>> ((5 : Int32) &&& 31)), .int ((7 : Int32))]) (c_belowL l (x >>> ((5 : Int32) &&& 31)) 7 (by omega) (by omega)) cal_L_below w_553 ⟨Nat.le_of_ble_eq_true rfl, Nat.le_of_ble_eq_true rfl⟩ rfl rfl (Nat.le_of_ble_eq_true rfl) hl.1 ⟨Nat.le_of_ble_eq_true rfl, Nat.le_of_ble_eq_true rfl⟩ dL_act_300) hS (fun H locs hP hS => ?_)
      refine lv_iconst (v := 2) hx hb dL_act_303 (by decide) ?_
      refine lv_isub hx hb dL_act_304 ?_
      refine m_top (y := fF x) ((if_neg (bel_0 (by decide) (by decide) c1)).symm) ?_
      exact hj305 H locs ls (hP.castR (rfl)) hS (lv_sub hl [0, 1, 2, 3, 4, 5, 6] rfl)
    · refine lv_iload_n hx hb dL_act_281 rfl (lv_at hl 6 rfl) ?_
      refine lv_iconst (v := 5) hx hb dL_act_282 (by decide) ?_
      refine lv_ishr hx hb dL_act_283 ?_
      refine lv_bipush (v := 41) hx hb dL_act_284 (by decide) ?_
      refine on_i (run_S hC hE hP hS (As := [.int (x >>> ((5 : Int32) &&& 31)), .int ((41 : Int32))]) (c_belowL l (x >>> ((5 : Int32) &&& 31)) 41 (by omega) (by omega)) cal_L_below w_553 ⟨Nat.le_of_ble_eq_true rfl, Nat.le_of_ble_eq_true rfl⟩ rfl rfl (Nat.le_of_ble_eq_true rfl) hl.1 ⟨Nat.le_of_ble_eq_true rfl, Nat.le_of_ble_eq_true rfl⟩ dL_act_286) hS (fun H locs hP hS => ?_)
      refine lv_bipush (v := 20) hx hb dL_act_289 (by decide) ?_
      refine lv_isub hx hb dL_act_291 ?_
      refine lv_goto (tgt := 305) hx hb dL_act_292 (by decide) ?_
      refine m_top (y := fF x) ((if_pos (bel_1 (by decide) (by decide) c1)).symm) ?_
      exact hj305 H locs ls (hP.castR (rfl)) hS (lv_sub hl [0, 1, 2, 3, 4, 5, 6] rfl)
  · refine m_iast hC hE hI hP hS (k_22 hL) e_22 (tF x) (rfl) (show (tF x) < 7 from by omega) (by decide) p_22 (ent_put g M 2 v o 2 (tF x) (fF x) kf_22) dL_act_305 (fun H locs hP hS => ?_)
    refine lv_aload_n hx hb dL_act_306 rfl (lv_at hl 4 rfl) ?_
    refine lv_iload hx hb dL_act_307 (lv_at hl 1 rfl) ?_
    refine lv_aload_n hx hb dL_act_309 rfl (lv_at hl 5 rfl) ?_
    refine m_get hC hE hP (k_20 hL) e_20 rfl u_5 2 (by decide) w_654 rfl rfl dL_act_310 ?_
    refine lv_iload hx hb dL_act_313 (lv_at hl 1 rfl) ?_
    refine m_iald hC hE hP (k_22 hL) e_22 (tF x) (rfl) (show (tF x) < 7 from by omega) (by decide) dL_act_315 ?_
    refine m_top (y := (up2 v 2 (tF x) (fF x)) 2 (tF x)) rfl ?_
    refine m_top (y := fF x) (up2_same _ _ _ _) ?_
    replace hP : WPe g (KK g) (ent g (setR (setR M 2 (up2 v 2 (tF x) (fF x))) 0 v) o) _ := WP.cast hP (setR_id ((setR_ne _ _ (by decide)).trans e0))
    refine on_i (run_V hC hE hP hS (As := [.int (nI (tF x)), .int (fF x)]) (c_setFrostP_0 l hI (M := (setR M 2 (up2 v 2 (tF x) (fF x)))) hv (tF x) ht7 (fF x) (in_nI (n := 7) ht7 (by decide) (by decide)) fF_in) cal_X4_setFrost w_572 ⟨Nat.le_of_ble_eq_true rfl, Nat.le_of_ble_eq_true rfl⟩ k_8 f_8 rfl rfl rfl (Nat.le_of_ble_eq_true rfl) hl.1 ⟨Nat.le_of_ble_eq_true rfl, Nat.le_of_ble_eq_true rfl⟩ dL_act_316) hS (fun H locs hP hS => ?_)
    refine lv_iload hx hb dL_act_319 (lv_at hl 0 rfl) ?_
    refine lv_icmp_ne (tgt := 328) hx hb dL_act_321 (by decide) (fun c1 => absurd (rfl) c1) (fun c1 => ?_)
    refine lv_iconst (v := 1) hx hb dL_act_324 (by decide) ?_
    refine lv_goto (tgt := 329) hx hb dL_act_325 (by decide) ?_
    exact a_end A (by decide) (by decide) (u := (g, setR (setR M 2 (up2 v 2 (tF x) (fF x))) 0 (up2 v 2 (tF x) (fF x)))) hP hS (Ua_g hI hL hW.frost (Cn.rf.up (by omega))) rfl dL_act_329
