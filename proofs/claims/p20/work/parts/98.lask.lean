/-! What the law asks ahead of a night. -/
theorem x_foresee (l : Launch) {g : Gm} (hI : IJ g (KK g)) {M : Mem} {o : Nat → Int64} {v u : Vw} (hv : Inv v) (q : Int32) (h2 : fsn q) (hN : Nt 1 v) (e0 : M 0 = v) : MI l yX4_foresee cX4_foresee 3 .int (rm 6 119) g (KK g) (ent g (setR M 3 u) o) [.ref (ad g (8, 0, 0)), .int (nI 1), .int q] (factF (day v) q) (ent g (setR (setR M 1 (day (bec v (M 1)))) 3 u) o) := by
  have h := c_foreseeP_0 l hI (M := setR M 3 u) (o := o) hv 1 (by decide) q (by decide) h2 hN
  have e : setR (setR (setR M 3 u) 0 v) 1 (days 1 (bec v (setR M 3 u 1))) = setR (setR M 1 (day (bec v (M 1)))) 3 u := by
    rw [setR_ne (r := 3) (r' := 1) _ _ (by decide), days_1, setR_id (M := setR M 3 u) (r := 0) (v := v) ((setR_ne _ _ (by decide)).trans e0)]
    funext r
    unfold setR
    by_cases z : r = 1
    · rw [if_pos z, if_neg (by omega), if_pos z]
    · rw [if_neg z]
      by_cases y : r = 3
      · rw [if_pos y, if_pos y]
      · rw [if_neg y, if_neg y, if_neg z]
  rw [e, setR_id (M := setR M 3 u) (r := 0) (v := v) ((setR_ne _ _ (by decide)).trans e0)] at h
  exact h
theorem x_advise (l : Launch) {g : Gm} (hI : IJ g (KK g)) {M : Mem} {o : Nat → Int64} {v u : Vw} (hv : Inv v) (k : Nat) (hk : k < nS v) (hN : Nt 5 v) (e0 : M 0 = v) : MI l yX4_advise cX4_advise 6 .int (rm 6 141) g (KK g) (ent g (setR M 3 u) o) [.ref (ad g (8, 0, 0)), .int (nI k)] (advV v k) (ent g (setR (setR M 1 (advL v (M 1) k (nH v))) 3 u) o) := by
  have h := c_adviseP_0 l hI (M := setR M 3 u) (o := o) hv k hk (in_S hv hk) hN
  have e : setR (setR (setR M 3 u) 0 v) 1 (advL v (setR M 3 u 1) k (nH v)) = setR (setR M 1 (advL v (M 1) k (nH v))) 3 u := by
    rw [setR_ne (r := 3) (r' := 1) _ _ (by decide), setR_id (M := setR M 3 u) (r := 0) (v := v) ((setR_ne _ _ (by decide)).trans e0)]
    funext r
    unfold setR
    by_cases z : r = 1
    · rw [if_pos z, if_neg (by omega), if_pos z]
    · rw [if_neg z]
      by_cases y : r = 3
      · rw [if_pos y, if_pos y]
      · rw [if_neg y, if_neg y, if_neg z]
  rw [e, setR_id (M := setR M 3 u) (r := 0) (v := v) ((setR_ne _ _ (by decide)).trans e0)] at h
  exact h
theorem lcmp_same {a : Int64} : lg_cmp a a = 0 := by simp [lg_cmp]
theorem bears_f {v : Vw} : bearsV v = 0 ↔ factF v 2 = 0 := by rw [fact_2]; exact bears_0.trans bear_0.symm
/-- what is foreseen, noted -/
def fsV (d u : Vw) (i : Nat) : Vw := fun c j => if c = 1 ∧ j < i then factF d (u 0 j) else u c j
theorem fsV_0 {d u : Vw} : fsV d u 0 = u := by
  funext c j
  unfold fsV
  rw [if_neg (by omega)]
theorem fsV_s {d u : Vw} {i : Nat} : up2 (fsV d u i) 1 i (factF d (u 0 i)) = fsV d u (i + 1) := by
  funext c h
  unfold up2 fsV
  by_cases q : c = 1 ∧ h = i
  · obtain ⟨rfl, rfl⟩ := q
    rw [if_pos ⟨rfl, rfl⟩, if_pos ⟨rfl, by omega⟩]
  · rw [if_neg q]
    by_cases z : c = 1 ∧ h < i
    · rw [if_pos z, if_pos ⟨z.1, by omega⟩]
    · rw [if_neg z, if_neg (by omega)]
theorem fsV_n {d u : Vw} {i c j : Nat} (h : c ≠ 1) : fsV d u i c j = u c j := if_neg (fun z => h z.1)
theorem fsV_1 {d u : Vw} {i j : Nat} (h : j < i) : fsV d u i 1 j = factF d (u 0 j) := if_pos ⟨rfl, h⟩
theorem mod5_0 {t : Nat} (h : nI (t % 5) = 0) : t % 5 = 0 := nI_inj (b := 0) (by omega) (by decide) h
set_option maxHeartbeats 4000000 in
set_option maxRecDepth 100000 in
theorem l_chk {p : Program} {l : Launch} {e : Jvm.Env} {R : Room} {s : State} {m : MethodId} {args : Array Value} {below : List Frame} {meth : Method} {c : Code} {Q : State → Prop} {g : Gm} {cells slots n b t : Nat} {x wh bt : Int32} {u : Vw} {M : Mem} {o : Nat → Int64} {H : Heap} {locs : List Loc} {ls : Array Slot} {v : Vw} (hC : CallFix p m c cL_law 32 s args LG RL) (hE : Ev g s) (hR : 9 ≤ R.frames ∧ 250 ≤ R.locals) (hf : cells ≤ R.cells ∧ slots ≤ R.slots) (hI : IJ g (KK g)) (hW : Lw n v) (hL : SimL g v) (e0 : M 0 = v) (e2 : M 2 = v) (ht : t < 30) (kO : KK g (30, 2, 0)) (hu : nH u = nH v) (hbt : ¬ bt < 0 → ∃ j, j < nH v ∧ bt = nI j ∧ ¬ u 2 j = 0) (hwh : ¬ wh < 0 → t % 5 = 0 → (bt < 0 ↔ factF v 5 = 0)) (hP : WP g (setR M 3 u) o H) (hS : va_S (AA g) s.heap H locs) (IH : ∀ (H : Heap) (locs : List Loc) (ls : Array Slot), WP g (setR M 3 u) o H → va_S (AA g) s.heap H locs → lv_has ls 32 [(0, .ref b), (1, .ref (ad g (8, 0, 0))), (2, .ref (ad g (20, 0, 0))), (3, .ref (ad g (30, 0, 0))), (4, .int (nI t)), (5, .int (x)), (6, .int (nI (nH v))), (7, .int (nI (nS v))), (8, .int (nI (nW v))), (9, .ref (ad g (30, 2, 0))), (10, .ref (ad g (28, 3, 0))), (11, .ref (ad g (29, 3, 0))), (14, .ref (ad g (30, 1, 0))), (15, .int (bearsV v))] → W p l e R s m args below meth c H locs cells slots Q (F0 m 458 ls [])) (hl : lv_has ls 32 [(0, .ref b), (1, .ref (ad g (8, 0, 0))), (2, .ref (ad g (20, 0, 0))), (3, .ref (ad g (30, 0, 0))), (4, .int (nI t)), (5, .int (x)), (6, .int (nI (nH v))), (7, .int (nI (nS v))), (8, .int (nI (nW v))), (9, .ref (ad g (30, 2, 0))), (10, .ref (ad g (28, 3, 0))), (11, .ref (ad g (29, 3, 0))), (12, .long (digV v)), (14, .ref (ad g (30, 1, 0))), (15, .int (bearsV v)), (16, .int (wh)), (17, .int (bt))]) : W p l e R s m args below meth c H locs cells slots Q (F0 m 355 ls []) := by
  obtain ⟨hx, hb, hml, hown, hG⟩ := id hC
  have hv := hW.iv
  have qH := hv.lH
  have qS := hv.lS
  have qW := hv.lW
  refine lv_aload_n hx hb dL_law_355 rfl (lv_at hl 1 rfl) ?_
  refine on_l (run_V hC hE hP hS (As := []) (x_digest l hI (M := setR M 3 u) hv ((setR_ne _ _ (by decide)).trans e0)) cal_X4_digest w_490 ⟨by show _ + 1 ≤ R.frames; simp only; omega, by show _ + _ ≤ R.locals; simp only; omega⟩ k_8 f_8 rfl rfl rfl (Nat.le_of_ble_eq_true rfl) hl.1 hf dL_law_356) hS (fun H locs hP hS => ?_)
  refine lv_lload hx hb dL_law_359 (lv_at hl 12 rfl) ?_
  refine W.lcmp hx hb dL_law_361 ?_
  refine m_top (y := 0) (lcmp_same) ?_
  refine lv_if_ne (tgt := 456) hx hb dL_law_362 (by decide) (fun c1 => absurd (rfl) c1) (fun c1 => ?_)
  refine lv_iload hx hb dL_law_365 (lv_at hl 14 rfl) ?_
  refine lv_iconst (v := (-1)) hx hb dL_law_367 (by decide) ?_
  refine lv_icmp_lt (tgt := 456) hx hb dL_law_368 (by decide) (fun c2 => absurd c2 (bears_lo)) (fun c2 => ?_)
  refine lv_iload hx hb dL_law_371 (lv_at hl 14 rfl) ?_
  refine lv_sipush (v := 200) hx hb dL_law_373 (by decide) ?_
  refine lv_icmp_gt (tgt := 456) hx hb dL_law_376 (by decide) (fun c3 => absurd c3 (bears_hi)) (fun c3 => ?_)
  refine lv_iload hx hb dL_law_379 (lv_at hl 14 rfl) ?_
  refine lv_if_ne (tgt := 388) hx hb dL_law_381 (by decide) (fun y1 => ?_) (fun y1 => ?_)
  · refine lv_iconst (v := 0) hx hb dL_law_388 (by decide) ?_
    refine lv_aload_n hx hb dL_law_389 rfl (lv_at hl 1 rfl) ?_
    refine lv_iconst (v := 2) hx hb dL_law_390 (by decide) ?_
    refine on_i (run_V hC hE hP hS (As := [.int ((2 : Int32))]) (x_count l hI (M := setR M 3 u) hv (2 : Int32) (by decide) ((setR_ne _ _ (by decide)).trans e0)) cal_X4_count w_319 ⟨by show _ + 1 ≤ R.frames; simp only; omega, by show _ + _ ≤ R.locals; simp only; omega⟩ k_8 f_8 rfl rfl rfl (Nat.le_of_ble_eq_true rfl) hl.1 hf dL_law_391) hS (fun H locs hP hS => ?_)
    refine lv_if_ne (tgt := 401) hx hb dL_law_394 (by decide) (fun y2 => ?_) (fun y2 => ?_)
    · refine lv_iconst (v := 0) hx hb dL_law_401 (by decide) ?_
      refine lv_icmp_ne (tgt := 456) hx hb dL_law_402 (by decide) (fun c4 => absurd (by first | rfl | exact absurd (bears_f.mpr y2) y1 | exact absurd (bears_f.mp y1) y2) c4) (fun c4 => ?_)
      refine lv_iload hx hb dL_law_405 (lv_at hl 16 rfl) ?_
      refine lv_if_lt (tgt := 418) hx hb dL_law_407 (by decide) (fun y3 => ?_) (fun y3 => ?_)
      · refine lv_iload hx hb dL_law_418 (lv_at hl 15 rfl) ?_
        refine lv_if_lt (tgt := 458) hx hb dL_law_420 (by decide) (fun y4 => ?_) (fun y4 => ?_)
        · exact IH H locs ls hP hS (lv_sub hl [0, 1, 2, 3, 4, 5, 6, 7, 8, 9, 10, 11, 13, 14] rfl)
        · refine lv_iload hx hb dL_law_423 (lv_at hl 4 rfl) ?_
          refine lv_iconst (v := 5) hx hb dL_law_425 (by decide) ?_
          refine lv_irem hx hb dL_law_426 (by decide) ?_
          refine m_top (y := nI (t % 5)) (mod5' t ht) ?_
          refine lv_if_ne (tgt := 458) hx hb dL_law_427 (by decide) (fun y5 => ?_) (fun y5 => ?_)
          · exact IH H locs ls hP hS (lv_sub hl [0, 1, 2, 3, 4, 5, 6, 7, 8, 9, 10, 11, 13, 14] rfl)
          · have hq := hwh y4 (mod5_0 y5)
            refine lv_iload hx hb dL_law_430 (lv_at hl 16 rfl) ?_
            refine lv_if_ge (tgt := 439) hx hb dL_law_432 (by decide) (fun y6 => ?_) (fun y6 => ?_)
            · refine lv_iconst (v := 0) hx hb dL_law_439 (by decide) ?_
              refine lv_aload_n hx hb dL_law_440 rfl (lv_at hl 1 rfl) ?_
              refine lv_iconst (v := 5) hx hb dL_law_441 (by decide) ?_
              refine on_i (run_V hC hE hP hS (As := [.int ((5 : Int32))]) (x_count l hI (M := setR M 3 u) hv (5 : Int32) (by decide) ((setR_ne _ _ (by decide)).trans e0)) cal_X4_count w_319 ⟨by show _ + 1 ≤ R.frames; simp only; omega, by show _ + _ ≤ R.locals; simp only; omega⟩ k_8 f_8 rfl rfl rfl (Nat.le_of_ble_eq_true rfl) hl.1 hf dL_law_442) hS (fun H locs hP hS => ?_)
              refine lv_if_ne (tgt := 452) hx hb dL_law_445 (by decide) (fun y7 => ?_) (fun y7 => ?_)
              · refine lv_iconst (v := 0) hx hb dL_law_452 (by decide) ?_
                refine lv_icmp_eq (tgt := 458) hx hb dL_law_453 (by decide) (fun c5 => ?_) (fun c5 => absurd (by first | rfl | exact absurd (hq.mpr y7) (Int32.not_lt.mpr y6) | exact absurd (hq.mp (Int32.not_le.mp y6)) y7) c5)
                exact IH H locs ls hP hS (lv_sub hl [0, 1, 2, 3, 4, 5, 6, 7, 8, 9, 10, 11, 13, 14] rfl)
              · refine lv_iconst (v := 1) hx hb dL_law_448 (by decide) ?_
                refine lv_goto (tgt := 453) hx hb dL_law_449 (by decide) ?_
                refine lv_icmp_eq (tgt := 458) hx hb dL_law_453 (by decide) (fun c6 => ?_) (fun c6 => absurd (by first | rfl | exact absurd (hq.mpr y7) (Int32.not_lt.mpr y6) | exact absurd (hq.mp (Int32.not_le.mp y6)) y7) c6)
                exact IH H locs ls hP hS (lv_sub hl [0, 1, 2, 3, 4, 5, 6, 7, 8, 9, 10, 11, 13, 14] rfl)
            · refine lv_iconst (v := 1) hx hb dL_law_435 (by decide) ?_
              refine lv_goto (tgt := 440) hx hb dL_law_436 (by decide) ?_
              refine lv_aload_n hx hb dL_law_440 rfl (lv_at hl 1 rfl) ?_
              refine lv_iconst (v := 5) hx hb dL_law_441 (by decide) ?_
              refine on_i (run_V hC hE hP hS (As := [.int ((5 : Int32))]) (x_count l hI (M := setR M 3 u) hv (5 : Int32) (by decide) ((setR_ne _ _ (by decide)).trans e0)) cal_X4_count w_319 ⟨by show _ + 1 ≤ R.frames; simp only; omega, by show _ + _ ≤ R.locals; simp only; omega⟩ k_8 f_8 rfl rfl rfl (Nat.le_of_ble_eq_true rfl) hl.1 hf dL_law_442) hS (fun H locs hP hS => ?_)
              refine lv_if_ne (tgt := 452) hx hb dL_law_445 (by decide) (fun y7 => ?_) (fun y7 => ?_)
              · refine lv_iconst (v := 0) hx hb dL_law_452 (by decide) ?_
                refine lv_icmp_eq (tgt := 458) hx hb dL_law_453 (by decide) (fun c7 => ?_) (fun c7 => absurd (by first | rfl | exact absurd (hq.mpr y7) (Int32.not_lt.mpr y6) | exact absurd (hq.mp (Int32.not_le.mp y6)) y7) c7)
                exact IH H locs ls hP hS (lv_sub hl [0, 1, 2, 3, 4, 5, 6, 7, 8, 9, 10, 11, 13, 14] rfl)
              · refine lv_iconst (v := 1) hx hb dL_law_448 (by decide) ?_
                refine lv_goto (tgt := 453) hx hb dL_law_449 (by decide) ?_
                refine lv_icmp_eq (tgt := 458) hx hb dL_law_453 (by decide) (fun c8 => ?_) (fun c8 => absurd (by first | rfl | exact absurd (hq.mpr y7) (Int32.not_lt.mpr y6) | exact absurd (hq.mp (Int32.not_le.mp y6)) y7) c8)
                exact IH H locs ls hP hS (lv_sub hl [0, 1, 2, 3, 4, 5, 6, 7, 8, 9, 10, 11, 13, 14] rfl)
      · obtain ⟨j, hj, ej, hn⟩ := hbt y3
        refine lv_aload hx hb dL_law_410 (lv_at hl 9 rfl) ?_
        refine lv_iload hx hb dL_law_412 (lv_at hl 16 rfl) ?_
        refine m_iald hC hE hP kO e_30 j ej (show j < nH u by rw [hu]; exact hj) (show nH u < 2 ^ 31 by rw [hu]; omega) dL_law_414 ?_
        refine lv_if_eq (tgt := 456) hx hb dL_law_415 (by decide) (fun c9 => absurd c9 (hn)) (fun c9 => ?_)
        refine lv_iload hx hb dL_law_418 (lv_at hl 15 rfl) ?_
        refine lv_if_lt (tgt := 458) hx hb dL_law_420 (by decide) (fun y4 => ?_) (fun y4 => ?_)
        · exact IH H locs ls hP hS (lv_sub hl [0, 1, 2, 3, 4, 5, 6, 7, 8, 9, 10, 11, 13, 14] rfl)
        · refine lv_iload hx hb dL_law_423 (lv_at hl 4 rfl) ?_
          refine lv_iconst (v := 5) hx hb dL_law_425 (by decide) ?_
          refine lv_irem hx hb dL_law_426 (by decide) ?_
          refine m_top (y := nI (t % 5)) (mod5' t ht) ?_
          refine lv_if_ne (tgt := 458) hx hb dL_law_427 (by decide) (fun y5 => ?_) (fun y5 => ?_)
          · exact IH H locs ls hP hS (lv_sub hl [0, 1, 2, 3, 4, 5, 6, 7, 8, 9, 10, 11, 13, 14] rfl)
          · have hq := hwh y4 (mod5_0 y5)
            refine lv_iload hx hb dL_law_430 (lv_at hl 16 rfl) ?_
            refine lv_if_ge (tgt := 439) hx hb dL_law_432 (by decide) (fun y6 => ?_) (fun y6 => ?_)
            · refine lv_iconst (v := 0) hx hb dL_law_439 (by decide) ?_
              refine lv_aload_n hx hb dL_law_440 rfl (lv_at hl 1 rfl) ?_
              refine lv_iconst (v := 5) hx hb dL_law_441 (by decide) ?_
              refine on_i (run_V hC hE hP hS (As := [.int ((5 : Int32))]) (x_count l hI (M := setR M 3 u) hv (5 : Int32) (by decide) ((setR_ne _ _ (by decide)).trans e0)) cal_X4_count w_319 ⟨by show _ + 1 ≤ R.frames; simp only; omega, by show _ + _ ≤ R.locals; simp only; omega⟩ k_8 f_8 rfl rfl rfl (Nat.le_of_ble_eq_true rfl) hl.1 hf dL_law_442) hS (fun H locs hP hS => ?_)
              refine lv_if_ne (tgt := 452) hx hb dL_law_445 (by decide) (fun y7 => ?_) (fun y7 => ?_)
              · refine lv_iconst (v := 0) hx hb dL_law_452 (by decide) ?_
                refine lv_icmp_eq (tgt := 458) hx hb dL_law_453 (by decide) (fun c10 => ?_) (fun c10 => absurd (by first | rfl | exact absurd (hq.mpr y7) (Int32.not_lt.mpr y6) | exact absurd (hq.mp (Int32.not_le.mp y6)) y7) c10)
                exact IH H locs ls hP hS (lv_sub hl [0, 1, 2, 3, 4, 5, 6, 7, 8, 9, 10, 11, 13, 14] rfl)
              · refine lv_iconst (v := 1) hx hb dL_law_448 (by decide) ?_
                refine lv_goto (tgt := 453) hx hb dL_law_449 (by decide) ?_
                refine lv_icmp_eq (tgt := 458) hx hb dL_law_453 (by decide) (fun c11 => ?_) (fun c11 => absurd (by first | rfl | exact absurd (hq.mpr y7) (Int32.not_lt.mpr y6) | exact absurd (hq.mp (Int32.not_le.mp y6)) y7) c11)
                exact IH H locs ls hP hS (lv_sub hl [0, 1, 2, 3, 4, 5, 6, 7, 8, 9, 10, 11, 13, 14] rfl)
            · refine lv_iconst (v := 1) hx hb dL_law_435 (by decide) ?_
              refine lv_goto (tgt := 440) hx hb dL_law_436 (by decide) ?_
              refine lv_aload_n hx hb dL_law_440 rfl (lv_at hl 1 rfl) ?_
              refine lv_iconst (v := 5) hx hb dL_law_441 (by decide) ?_
              refine on_i (run_V hC hE hP hS (As := [.int ((5 : Int32))]) (x_count l hI (M := setR M 3 u) hv (5 : Int32) (by decide) ((setR_ne _ _ (by decide)).trans e0)) cal_X4_count w_319 ⟨by show _ + 1 ≤ R.frames; simp only; omega, by show _ + _ ≤ R.locals; simp only; omega⟩ k_8 f_8 rfl rfl rfl (Nat.le_of_ble_eq_true rfl) hl.1 hf dL_law_442) hS (fun H locs hP hS => ?_)
              refine lv_if_ne (tgt := 452) hx hb dL_law_445 (by decide) (fun y7 => ?_) (fun y7 => ?_)
              · refine lv_iconst (v := 0) hx hb dL_law_452 (by decide) ?_
                refine lv_icmp_eq (tgt := 458) hx hb dL_law_453 (by decide) (fun c12 => ?_) (fun c12 => absurd (by first | rfl | exact absurd (hq.mpr y7) (Int32.not_lt.mpr y6) | exact absurd (hq.mp (Int32.not_le.mp y6)) y7) c12)
                exact IH H locs ls hP hS (lv_sub hl [0, 1, 2, 3, 4, 5, 6, 7, 8, 9, 10, 11, 13, 14] rfl)
              · refine lv_iconst (v := 1) hx hb dL_law_448 (by decide) ?_
                refine lv_goto (tgt := 453) hx hb dL_law_449 (by decide) ?_
                refine lv_icmp_eq (tgt := 458) hx hb dL_law_453 (by decide) (fun c13 => ?_) (fun c13 => absurd (by first | rfl | exact absurd (hq.mpr y7) (Int32.not_lt.mpr y6) | exact absurd (hq.mp (Int32.not_le.mp y6)) y7) c13)
                exact IH H locs ls hP hS (lv_sub hl [0, 1, 2, 3, 4, 5, 6, 7, 8, 9, 10, 11, 13, 14] rfl)
    · refine lv_iconst (v := 1) hx hb dL_law_397 (by decide) ?_
      refine lv_goto (tgt := 402) hx hb dL_law_398 (by decide) ?_
      refine lv_icmp_ne (tgt := 456) hx hb dL_law_402 (by decide) (fun c14 => absurd (by first | rfl | exact absurd (bears_f.mpr y2) y1 | exact absurd (bears_f.mp y1) y2) c14) (fun c14 => ?_)
      refine lv_iload hx hb dL_law_405 (lv_at hl 16 rfl) ?_
      refine lv_if_lt (tgt := 418) hx hb dL_law_407 (by decide) (fun y3 => ?_) (fun y3 => ?_)
      · refine lv_iload hx hb dL_law_418 (lv_at hl 15 rfl) ?_
        refine lv_if_lt (tgt := 458) hx hb dL_law_420 (by decide) (fun y4 => ?_) (fun y4 => ?_)
        · exact IH H locs ls hP hS (lv_sub hl [0, 1, 2, 3, 4, 5, 6, 7, 8, 9, 10, 11, 13, 14] rfl)
        · refine lv_iload hx hb dL_law_423 (lv_at hl 4 rfl) ?_
          refine lv_iconst (v := 5) hx hb dL_law_425 (by decide) ?_
          refine lv_irem hx hb dL_law_426 (by decide) ?_
          refine m_top (y := nI (t % 5)) (mod5' t ht) ?_
          refine lv_if_ne (tgt := 458) hx hb dL_law_427 (by decide) (fun y5 => ?_) (fun y5 => ?_)
          · exact IH H locs ls hP hS (lv_sub hl [0, 1, 2, 3, 4, 5, 6, 7, 8, 9, 10, 11, 13, 14] rfl)
          · have hq := hwh y4 (mod5_0 y5)
            refine lv_iload hx hb dL_law_430 (lv_at hl 16 rfl) ?_
            refine lv_if_ge (tgt := 439) hx hb dL_law_432 (by decide) (fun y6 => ?_) (fun y6 => ?_)
            · refine lv_iconst (v := 0) hx hb dL_law_439 (by decide) ?_
              refine lv_aload_n hx hb dL_law_440 rfl (lv_at hl 1 rfl) ?_
              refine lv_iconst (v := 5) hx hb dL_law_441 (by decide) ?_
              refine on_i (run_V hC hE hP hS (As := [.int ((5 : Int32))]) (x_count l hI (M := setR M 3 u) hv (5 : Int32) (by decide) ((setR_ne _ _ (by decide)).trans e0)) cal_X4_count w_319 ⟨by show _ + 1 ≤ R.frames; simp only; omega, by show _ + _ ≤ R.locals; simp only; omega⟩ k_8 f_8 rfl rfl rfl (Nat.le_of_ble_eq_true rfl) hl.1 hf dL_law_442) hS (fun H locs hP hS => ?_)
              refine lv_if_ne (tgt := 452) hx hb dL_law_445 (by decide) (fun y7 => ?_) (fun y7 => ?_)
              · refine lv_iconst (v := 0) hx hb dL_law_452 (by decide) ?_
                refine lv_icmp_eq (tgt := 458) hx hb dL_law_453 (by decide) (fun c15 => ?_) (fun c15 => absurd (by first | rfl | exact absurd (hq.mpr y7) (Int32.not_lt.mpr y6) | exact absurd (hq.mp (Int32.not_le.mp y6)) y7) c15)
                exact IH H locs ls hP hS (lv_sub hl [0, 1, 2, 3, 4, 5, 6, 7, 8, 9, 10, 11, 13, 14] rfl)
              · refine lv_iconst (v := 1) hx hb dL_law_448 (by decide) ?_
                refine lv_goto (tgt := 453) hx hb dL_law_449 (by decide) ?_
                refine lv_icmp_eq (tgt := 458) hx hb dL_law_453 (by decide) (fun c16 => ?_) (fun c16 => absurd (by first | rfl | exact absurd (hq.mpr y7) (Int32.not_lt.mpr y6) | exact absurd (hq.mp (Int32.not_le.mp y6)) y7) c16)
                exact IH H locs ls hP hS (lv_sub hl [0, 1, 2, 3, 4, 5, 6, 7, 8, 9, 10, 11, 13, 14] rfl)
            · refine lv_iconst (v := 1) hx hb dL_law_435 (by decide) ?_
              refine lv_goto (tgt := 440) hx hb dL_law_436 (by decide) ?_
              refine lv_aload_n hx hb dL_law_440 rfl (lv_at hl 1 rfl) ?_
              refine lv_iconst (v := 5) hx hb dL_law_441 (by decide) ?_
              refine on_i (run_V hC hE hP hS (As := [.int ((5 : Int32))]) (x_count l hI (M := setR M 3 u) hv (5 : Int32) (by decide) ((setR_ne _ _ (by decide)).trans e0)) cal_X4_count w_319 ⟨by show _ + 1 ≤ R.frames; simp only; omega, by show _ + _ ≤ R.locals; simp only; omega⟩ k_8 f_8 rfl rfl rfl (Nat.le_of_ble_eq_true rfl) hl.1 hf dL_law_442) hS (fun H locs hP hS => ?_)
              refine lv_if_ne (tgt := 452) hx hb dL_law_445 (by decide) (fun y7 => ?_) (fun y7 => ?_)
              · refine lv_iconst (v := 0) hx hb dL_law_452 (by decide) ?_
                refine lv_icmp_eq (tgt := 458) hx hb dL_law_453 (by decide) (fun c17 => ?_) (fun c17 => absurd (by first | rfl | exact absurd (hq.mpr y7) (Int32.not_lt.mpr y6) | exact absurd (hq.mp (Int32.not_le.mp y6)) y7) c17)
                exact IH H locs ls hP hS (lv_sub hl [0, 1, 2, 3, 4, 5, 6, 7, 8, 9, 10, 11, 13, 14] rfl)
              · refine lv_iconst (v := 1) hx hb dL_law_448 (by decide) ?_
                refine lv_goto (tgt := 453) hx hb dL_law_449 (by decide) ?_
                refine lv_icmp_eq (tgt := 458) hx hb dL_law_453 (by decide) (fun c18 => ?_) (fun c18 => absurd (by first | rfl | exact absurd (hq.mpr y7) (Int32.not_lt.mpr y6) | exact absurd (hq.mp (Int32.not_le.mp y6)) y7) c18)
                exact IH H locs ls hP hS (lv_sub hl [0, 1, 2, 3, 4, 5, 6, 7, 8, 9, 10, 11, 13, 14] rfl)
      · obtain ⟨j, hj, ej, hn⟩ := hbt y3
        refine lv_aload hx hb dL_law_410 (lv_at hl 9 rfl) ?_
        refine lv_iload hx hb dL_law_412 (lv_at hl 16 rfl) ?_
        refine m_iald hC hE hP kO e_30 j ej (show j < nH u by rw [hu]; exact hj) (show nH u < 2 ^ 31 by rw [hu]; omega) dL_law_414 ?_
        refine lv_if_eq (tgt := 456) hx hb dL_law_415 (by decide) (fun c19 => absurd c19 (hn)) (fun c19 => ?_)
        refine lv_iload hx hb dL_law_418 (lv_at hl 15 rfl) ?_
        refine lv_if_lt (tgt := 458) hx hb dL_law_420 (by decide) (fun y4 => ?_) (fun y4 => ?_)
        · exact IH H locs ls hP hS (lv_sub hl [0, 1, 2, 3, 4, 5, 6, 7, 8, 9, 10, 11, 13, 14] rfl)
        · refine lv_iload hx hb dL_law_423 (lv_at hl 4 rfl) ?_
          refine lv_iconst (v := 5) hx hb dL_law_425 (by decide) ?_
          refine lv_irem hx hb dL_law_426 (by decide) ?_
          refine m_top (y := nI (t % 5)) (mod5' t ht) ?_
          refine lv_if_ne (tgt := 458) hx hb dL_law_427 (by decide) (fun y5 => ?_) (fun y5 => ?_)
          · exact IH H locs ls hP hS (lv_sub hl [0, 1, 2, 3, 4, 5, 6, 7, 8, 9, 10, 11, 13, 14] rfl)
          · have hq := hwh y4 (mod5_0 y5)
            refine lv_iload hx hb dL_law_430 (lv_at hl 16 rfl) ?_
            refine lv_if_ge (tgt := 439) hx hb dL_law_432 (by decide) (fun y6 => ?_) (fun y6 => ?_)
            · refine lv_iconst (v := 0) hx hb dL_law_439 (by decide) ?_
              refine lv_aload_n hx hb dL_law_440 rfl (lv_at hl 1 rfl) ?_
              refine lv_iconst (v := 5) hx hb dL_law_441 (by decide) ?_
              refine on_i (run_V hC hE hP hS (As := [.int ((5 : Int32))]) (x_count l hI (M := setR M 3 u) hv (5 : Int32) (by decide) ((setR_ne _ _ (by decide)).trans e0)) cal_X4_count w_319 ⟨by show _ + 1 ≤ R.frames; simp only; omega, by show _ + _ ≤ R.locals; simp only; omega⟩ k_8 f_8 rfl rfl rfl (Nat.le_of_ble_eq_true rfl) hl.1 hf dL_law_442) hS (fun H locs hP hS => ?_)
              refine lv_if_ne (tgt := 452) hx hb dL_law_445 (by decide) (fun y7 => ?_) (fun y7 => ?_)
              · refine lv_iconst (v := 0) hx hb dL_law_452 (by decide) ?_
                refine lv_icmp_eq (tgt := 458) hx hb dL_law_453 (by decide) (fun c20 => ?_) (fun c20 => absurd (by first | rfl | exact absurd (hq.mpr y7) (Int32.not_lt.mpr y6) | exact absurd (hq.mp (Int32.not_le.mp y6)) y7) c20)
                exact IH H locs ls hP hS (lv_sub hl [0, 1, 2, 3, 4, 5, 6, 7, 8, 9, 10, 11, 13, 14] rfl)
              · refine lv_iconst (v := 1) hx hb dL_law_448 (by decide) ?_
                refine lv_goto (tgt := 453) hx hb dL_law_449 (by decide) ?_
                refine lv_icmp_eq (tgt := 458) hx hb dL_law_453 (by decide) (fun c21 => ?_) (fun c21 => absurd (by first | rfl | exact absurd (hq.mpr y7) (Int32.not_lt.mpr y6) | exact absurd (hq.mp (Int32.not_le.mp y6)) y7) c21)
                exact IH H locs ls hP hS (lv_sub hl [0, 1, 2, 3, 4, 5, 6, 7, 8, 9, 10, 11, 13, 14] rfl)
            · refine lv_iconst (v := 1) hx hb dL_law_435 (by decide) ?_
              refine lv_goto (tgt := 440) hx hb dL_law_436 (by decide) ?_
              refine lv_aload_n hx hb dL_law_440 rfl (lv_at hl 1 rfl) ?_
              refine lv_iconst (v := 5) hx hb dL_law_441 (by decide) ?_
              refine on_i (run_V hC hE hP hS (As := [.int ((5 : Int32))]) (x_count l hI (M := setR M 3 u) hv (5 : Int32) (by decide) ((setR_ne _ _ (by decide)).trans e0)) cal_X4_count w_319 ⟨by show _ + 1 ≤ R.frames; simp only; omega, by show _ + _ ≤ R.locals; simp only; omega⟩ k_8 f_8 rfl rfl rfl (Nat.le_of_ble_eq_true rfl) hl.1 hf dL_law_442) hS (fun H locs hP hS => ?_)
              refine lv_if_ne (tgt := 452) hx hb dL_law_445 (by decide) (fun y7 => ?_) (fun y7 => ?_)
              · refine lv_iconst (v := 0) hx hb dL_law_452 (by decide) ?_
                refine lv_icmp_eq (tgt := 458) hx hb dL_law_453 (by decide) (fun c22 => ?_) (fun c22 => absurd (by first | rfl | exact absurd (hq.mpr y7) (Int32.not_lt.mpr y6) | exact absurd (hq.mp (Int32.not_le.mp y6)) y7) c22)
                exact IH H locs ls hP hS (lv_sub hl [0, 1, 2, 3, 4, 5, 6, 7, 8, 9, 10, 11, 13, 14] rfl)
              · refine lv_iconst (v := 1) hx hb dL_law_448 (by decide) ?_
                refine lv_goto (tgt := 453) hx hb dL_law_449 (by decide) ?_
                refine lv_icmp_eq (tgt := 458) hx hb dL_law_453 (by decide) (fun c23 => ?_) (fun c23 => absurd (by first | rfl | exact absurd (hq.mpr y7) (Int32.not_lt.mpr y6) | exact absurd (hq.mp (Int32.not_le.mp y6)) y7) c23)
                exact IH H locs ls hP hS (lv_sub hl [0, 1, 2, 3, 4, 5, 6, 7, 8, 9, 10, 11, 13, 14] rfl)
  · refine lv_iconst (v := 1) hx hb dL_law_384 (by decide) ?_
    refine lv_goto (tgt := 389) hx hb dL_law_385 (by decide) ?_
    refine lv_aload_n hx hb dL_law_389 rfl (lv_at hl 1 rfl) ?_
    refine lv_iconst (v := 2) hx hb dL_law_390 (by decide) ?_
    refine on_i (run_V hC hE hP hS (As := [.int ((2 : Int32))]) (x_count l hI (M := setR M 3 u) hv (2 : Int32) (by decide) ((setR_ne _ _ (by decide)).trans e0)) cal_X4_count w_319 ⟨by show _ + 1 ≤ R.frames; simp only; omega, by show _ + _ ≤ R.locals; simp only; omega⟩ k_8 f_8 rfl rfl rfl (Nat.le_of_ble_eq_true rfl) hl.1 hf dL_law_391) hS (fun H locs hP hS => ?_)
    refine lv_if_ne (tgt := 401) hx hb dL_law_394 (by decide) (fun y2 => ?_) (fun y2 => ?_)
    · refine lv_iconst (v := 0) hx hb dL_law_401 (by decide) ?_
      refine lv_icmp_ne (tgt := 456) hx hb dL_law_402 (by decide) (fun c24 => absurd (by first | rfl | exact absurd (bears_f.mpr y2) y1 | exact absurd (bears_f.mp y1) y2) c24) (fun c24 => ?_)
      refine lv_iload hx hb dL_law_405 (lv_at hl 16 rfl) ?_
      refine lv_if_lt (tgt := 418) hx hb dL_law_407 (by decide) (fun y3 => ?_) (fun y3 => ?_)
      · refine lv_iload hx hb dL_law_418 (lv_at hl 15 rfl) ?_
        refine lv_if_lt (tgt := 458) hx hb dL_law_420 (by decide) (fun y4 => ?_) (fun y4 => ?_)
        · exact IH H locs ls hP hS (lv_sub hl [0, 1, 2, 3, 4, 5, 6, 7, 8, 9, 10, 11, 13, 14] rfl)
        · refine lv_iload hx hb dL_law_423 (lv_at hl 4 rfl) ?_
          refine lv_iconst (v := 5) hx hb dL_law_425 (by decide) ?_
          refine lv_irem hx hb dL_law_426 (by decide) ?_
          refine m_top (y := nI (t % 5)) (mod5' t ht) ?_
          refine lv_if_ne (tgt := 458) hx hb dL_law_427 (by decide) (fun y5 => ?_) (fun y5 => ?_)
          · exact IH H locs ls hP hS (lv_sub hl [0, 1, 2, 3, 4, 5, 6, 7, 8, 9, 10, 11, 13, 14] rfl)
          · have hq := hwh y4 (mod5_0 y5)
            refine lv_iload hx hb dL_law_430 (lv_at hl 16 rfl) ?_
            refine lv_if_ge (tgt := 439) hx hb dL_law_432 (by decide) (fun y6 => ?_) (fun y6 => ?_)
            · refine lv_iconst (v := 0) hx hb dL_law_439 (by decide) ?_
              refine lv_aload_n hx hb dL_law_440 rfl (lv_at hl 1 rfl) ?_
              refine lv_iconst (v := 5) hx hb dL_law_441 (by decide) ?_
              refine on_i (run_V hC hE hP hS (As := [.int ((5 : Int32))]) (x_count l hI (M := setR M 3 u) hv (5 : Int32) (by decide) ((setR_ne _ _ (by decide)).trans e0)) cal_X4_count w_319 ⟨by show _ + 1 ≤ R.frames; simp only; omega, by show _ + _ ≤ R.locals; simp only; omega⟩ k_8 f_8 rfl rfl rfl (Nat.le_of_ble_eq_true rfl) hl.1 hf dL_law_442) hS (fun H locs hP hS => ?_)
              refine lv_if_ne (tgt := 452) hx hb dL_law_445 (by decide) (fun y7 => ?_) (fun y7 => ?_)
              · refine lv_iconst (v := 0) hx hb dL_law_452 (by decide) ?_
                refine lv_icmp_eq (tgt := 458) hx hb dL_law_453 (by decide) (fun c25 => ?_) (fun c25 => absurd (by first | rfl | exact absurd (hq.mpr y7) (Int32.not_lt.mpr y6) | exact absurd (hq.mp (Int32.not_le.mp y6)) y7) c25)
                exact IH H locs ls hP hS (lv_sub hl [0, 1, 2, 3, 4, 5, 6, 7, 8, 9, 10, 11, 13, 14] rfl)
              · refine lv_iconst (v := 1) hx hb dL_law_448 (by decide) ?_
                refine lv_goto (tgt := 453) hx hb dL_law_449 (by decide) ?_
                refine lv_icmp_eq (tgt := 458) hx hb dL_law_453 (by decide) (fun c26 => ?_) (fun c26 => absurd (by first | rfl | exact absurd (hq.mpr y7) (Int32.not_lt.mpr y6) | exact absurd (hq.mp (Int32.not_le.mp y6)) y7) c26)
                exact IH H locs ls hP hS (lv_sub hl [0, 1, 2, 3, 4, 5, 6, 7, 8, 9, 10, 11, 13, 14] rfl)
            · refine lv_iconst (v := 1) hx hb dL_law_435 (by decide) ?_
              refine lv_goto (tgt := 440) hx hb dL_law_436 (by decide) ?_
              refine lv_aload_n hx hb dL_law_440 rfl (lv_at hl 1 rfl) ?_
              refine lv_iconst (v := 5) hx hb dL_law_441 (by decide) ?_
              refine on_i (run_V hC hE hP hS (As := [.int ((5 : Int32))]) (x_count l hI (M := setR M 3 u) hv (5 : Int32) (by decide) ((setR_ne _ _ (by decide)).trans e0)) cal_X4_count w_319 ⟨by show _ + 1 ≤ R.frames; simp only; omega, by show _ + _ ≤ R.locals; simp only; omega⟩ k_8 f_8 rfl rfl rfl (Nat.le_of_ble_eq_true rfl) hl.1 hf dL_law_442) hS (fun H locs hP hS => ?_)
              refine lv_if_ne (tgt := 452) hx hb dL_law_445 (by decide) (fun y7 => ?_) (fun y7 => ?_)
              · refine lv_iconst (v := 0) hx hb dL_law_452 (by decide) ?_
                refine lv_icmp_eq (tgt := 458) hx hb dL_law_453 (by decide) (fun c27 => ?_) (fun c27 => absurd (by first | rfl | exact absurd (hq.mpr y7) (Int32.not_lt.mpr y6) | exact absurd (hq.mp (Int32.not_le.mp y6)) y7) c27)
                exact IH H locs ls hP hS (lv_sub hl [0, 1, 2, 3, 4, 5, 6, 7, 8, 9, 10, 11, 13, 14] rfl)
              · refine lv_iconst (v := 1) hx hb dL_law_448 (by decide) ?_
                refine lv_goto (tgt := 453) hx hb dL_law_449 (by decide) ?_
                refine lv_icmp_eq (tgt := 458) hx hb dL_law_453 (by decide) (fun c28 => ?_) (fun c28 => absurd (by first | rfl | exact absurd (hq.mpr y7) (Int32.not_lt.mpr y6) | exact absurd (hq.mp (Int32.not_le.mp y6)) y7) c28)
                exact IH H locs ls hP hS (lv_sub hl [0, 1, 2, 3, 4, 5, 6, 7, 8, 9, 10, 11, 13, 14] rfl)
      · obtain ⟨j, hj, ej, hn⟩ := hbt y3
        refine lv_aload hx hb dL_law_410 (lv_at hl 9 rfl) ?_
        refine lv_iload hx hb dL_law_412 (lv_at hl 16 rfl) ?_
        refine m_iald hC hE hP kO e_30 j ej (show j < nH u by rw [hu]; exact hj) (show nH u < 2 ^ 31 by rw [hu]; omega) dL_law_414 ?_
        refine lv_if_eq (tgt := 456) hx hb dL_law_415 (by decide) (fun c29 => absurd c29 (hn)) (fun c29 => ?_)
        refine lv_iload hx hb dL_law_418 (lv_at hl 15 rfl) ?_
        refine lv_if_lt (tgt := 458) hx hb dL_law_420 (by decide) (fun y4 => ?_) (fun y4 => ?_)
        · exact IH H locs ls hP hS (lv_sub hl [0, 1, 2, 3, 4, 5, 6, 7, 8, 9, 10, 11, 13, 14] rfl)
        · refine lv_iload hx hb dL_law_423 (lv_at hl 4 rfl) ?_
          refine lv_iconst (v := 5) hx hb dL_law_425 (by decide) ?_
          refine lv_irem hx hb dL_law_426 (by decide) ?_
          refine m_top (y := nI (t % 5)) (mod5' t ht) ?_
          refine lv_if_ne (tgt := 458) hx hb dL_law_427 (by decide) (fun y5 => ?_) (fun y5 => ?_)
          · exact IH H locs ls hP hS (lv_sub hl [0, 1, 2, 3, 4, 5, 6, 7, 8, 9, 10, 11, 13, 14] rfl)
          · have hq := hwh y4 (mod5_0 y5)
            refine lv_iload hx hb dL_law_430 (lv_at hl 16 rfl) ?_
            refine lv_if_ge (tgt := 439) hx hb dL_law_432 (by decide) (fun y6 => ?_) (fun y6 => ?_)
            · refine lv_iconst (v := 0) hx hb dL_law_439 (by decide) ?_
              refine lv_aload_n hx hb dL_law_440 rfl (lv_at hl 1 rfl) ?_
              refine lv_iconst (v := 5) hx hb dL_law_441 (by decide) ?_
              refine on_i (run_V hC hE hP hS (As := [.int ((5 : Int32))]) (x_count l hI (M := setR M 3 u) hv (5 : Int32) (by decide) ((setR_ne _ _ (by decide)).trans e0)) cal_X4_count w_319 ⟨by show _ + 1 ≤ R.frames; simp only; omega, by show _ + _ ≤ R.locals; simp only; omega⟩ k_8 f_8 rfl rfl rfl (Nat.le_of_ble_eq_true rfl) hl.1 hf dL_law_442) hS (fun H locs hP hS => ?_)
              refine lv_if_ne (tgt := 452) hx hb dL_law_445 (by decide) (fun y7 => ?_) (fun y7 => ?_)
              · refine lv_iconst (v := 0) hx hb dL_law_452 (by decide) ?_
                refine lv_icmp_eq (tgt := 458) hx hb dL_law_453 (by decide) (fun c30 => ?_) (fun c30 => absurd (by first | rfl | exact absurd (hq.mpr y7) (Int32.not_lt.mpr y6) | exact absurd (hq.mp (Int32.not_le.mp y6)) y7) c30)
                exact IH H locs ls hP hS (lv_sub hl [0, 1, 2, 3, 4, 5, 6, 7, 8, 9, 10, 11, 13, 14] rfl)
              · refine lv_iconst (v := 1) hx hb dL_law_448 (by decide) ?_
                refine lv_goto (tgt := 453) hx hb dL_law_449 (by decide) ?_
                refine lv_icmp_eq (tgt := 458) hx hb dL_law_453 (by decide) (fun c31 => ?_) (fun c31 => absurd (by first | rfl | exact absurd (hq.mpr y7) (Int32.not_lt.mpr y6) | exact absurd (hq.mp (Int32.not_le.mp y6)) y7) c31)
                exact IH H locs ls hP hS (lv_sub hl [0, 1, 2, 3, 4, 5, 6, 7, 8, 9, 10, 11, 13, 14] rfl)
            · refine lv_iconst (v := 1) hx hb dL_law_435 (by decide) ?_
              refine lv_goto (tgt := 440) hx hb dL_law_436 (by decide) ?_
              refine lv_aload_n hx hb dL_law_440 rfl (lv_at hl 1 rfl) ?_
              refine lv_iconst (v := 5) hx hb dL_law_441 (by decide) ?_
              refine on_i (run_V hC hE hP hS (As := [.int ((5 : Int32))]) (x_count l hI (M := setR M 3 u) hv (5 : Int32) (by decide) ((setR_ne _ _ (by decide)).trans e0)) cal_X4_count w_319 ⟨by show _ + 1 ≤ R.frames; simp only; omega, by show _ + _ ≤ R.locals; simp only; omega⟩ k_8 f_8 rfl rfl rfl (Nat.le_of_ble_eq_true rfl) hl.1 hf dL_law_442) hS (fun H locs hP hS => ?_)
              refine lv_if_ne (tgt := 452) hx hb dL_law_445 (by decide) (fun y7 => ?_) (fun y7 => ?_)
              · refine lv_iconst (v := 0) hx hb dL_law_452 (by decide) ?_
                refine lv_icmp_eq (tgt := 458) hx hb dL_law_453 (by decide) (fun c32 => ?_) (fun c32 => absurd (by first | rfl | exact absurd (hq.mpr y7) (Int32.not_lt.mpr y6) | exact absurd (hq.mp (Int32.not_le.mp y6)) y7) c32)
                exact IH H locs ls hP hS (lv_sub hl [0, 1, 2, 3, 4, 5, 6, 7, 8, 9, 10, 11, 13, 14] rfl)
              · refine lv_iconst (v := 1) hx hb dL_law_448 (by decide) ?_
                refine lv_goto (tgt := 453) hx hb dL_law_449 (by decide) ?_
                refine lv_icmp_eq (tgt := 458) hx hb dL_law_453 (by decide) (fun c33 => ?_) (fun c33 => absurd (by first | rfl | exact absurd (hq.mpr y7) (Int32.not_lt.mpr y6) | exact absurd (hq.mp (Int32.not_le.mp y6)) y7) c33)
                exact IH H locs ls hP hS (lv_sub hl [0, 1, 2, 3, 4, 5, 6, 7, 8, 9, 10, 11, 13, 14] rfl)
    · refine lv_iconst (v := 1) hx hb dL_law_397 (by decide) ?_
      refine lv_goto (tgt := 402) hx hb dL_law_398 (by decide) ?_
      refine lv_icmp_ne (tgt := 456) hx hb dL_law_402 (by decide) (fun c34 => absurd (by first | rfl | exact absurd (bears_f.mpr y2) y1 | exact absurd (bears_f.mp y1) y2) c34) (fun c34 => ?_)
      refine lv_iload hx hb dL_law_405 (lv_at hl 16 rfl) ?_
      refine lv_if_lt (tgt := 418) hx hb dL_law_407 (by decide) (fun y3 => ?_) (fun y3 => ?_)
      · refine lv_iload hx hb dL_law_418 (lv_at hl 15 rfl) ?_
        refine lv_if_lt (tgt := 458) hx hb dL_law_420 (by decide) (fun y4 => ?_) (fun y4 => ?_)
        · exact IH H locs ls hP hS (lv_sub hl [0, 1, 2, 3, 4, 5, 6, 7, 8, 9, 10, 11, 13, 14] rfl)
        · refine lv_iload hx hb dL_law_423 (lv_at hl 4 rfl) ?_
          refine lv_iconst (v := 5) hx hb dL_law_425 (by decide) ?_
          refine lv_irem hx hb dL_law_426 (by decide) ?_
          refine m_top (y := nI (t % 5)) (mod5' t ht) ?_
          refine lv_if_ne (tgt := 458) hx hb dL_law_427 (by decide) (fun y5 => ?_) (fun y5 => ?_)
          · exact IH H locs ls hP hS (lv_sub hl [0, 1, 2, 3, 4, 5, 6, 7, 8, 9, 10, 11, 13, 14] rfl)
          · have hq := hwh y4 (mod5_0 y5)
            refine lv_iload hx hb dL_law_430 (lv_at hl 16 rfl) ?_
            refine lv_if_ge (tgt := 439) hx hb dL_law_432 (by decide) (fun y6 => ?_) (fun y6 => ?_)
            · refine lv_iconst (v := 0) hx hb dL_law_439 (by decide) ?_
              refine lv_aload_n hx hb dL_law_440 rfl (lv_at hl 1 rfl) ?_
              refine lv_iconst (v := 5) hx hb dL_law_441 (by decide) ?_
              refine on_i (run_V hC hE hP hS (As := [.int ((5 : Int32))]) (x_count l hI (M := setR M 3 u) hv (5 : Int32) (by decide) ((setR_ne _ _ (by decide)).trans e0)) cal_X4_count w_319 ⟨by show _ + 1 ≤ R.frames; simp only; omega, by show _ + _ ≤ R.locals; simp only; omega⟩ k_8 f_8 rfl rfl rfl (Nat.le_of_ble_eq_true rfl) hl.1 hf dL_law_442) hS (fun H locs hP hS => ?_)
              refine lv_if_ne (tgt := 452) hx hb dL_law_445 (by decide) (fun y7 => ?_) (fun y7 => ?_)
              · refine lv_iconst (v := 0) hx hb dL_law_452 (by decide) ?_
                refine lv_icmp_eq (tgt := 458) hx hb dL_law_453 (by decide) (fun c35 => ?_) (fun c35 => absurd (by first | rfl | exact absurd (hq.mpr y7) (Int32.not_lt.mpr y6) | exact absurd (hq.mp (Int32.not_le.mp y6)) y7) c35)
                exact IH H locs ls hP hS (lv_sub hl [0, 1, 2, 3, 4, 5, 6, 7, 8, 9, 10, 11, 13, 14] rfl)
              · refine lv_iconst (v := 1) hx hb dL_law_448 (by decide) ?_
                refine lv_goto (tgt := 453) hx hb dL_law_449 (by decide) ?_
                refine lv_icmp_eq (tgt := 458) hx hb dL_law_453 (by decide) (fun c36 => ?_) (fun c36 => absurd (by first | rfl | exact absurd (hq.mpr y7) (Int32.not_lt.mpr y6) | exact absurd (hq.mp (Int32.not_le.mp y6)) y7) c36)
                exact IH H locs ls hP hS (lv_sub hl [0, 1, 2, 3, 4, 5, 6, 7, 8, 9, 10, 11, 13, 14] rfl)
            · refine lv_iconst (v := 1) hx hb dL_law_435 (by decide) ?_
              refine lv_goto (tgt := 440) hx hb dL_law_436 (by decide) ?_
              refine lv_aload_n hx hb dL_law_440 rfl (lv_at hl 1 rfl) ?_
              refine lv_iconst (v := 5) hx hb dL_law_441 (by decide) ?_
              refine on_i (run_V hC hE hP hS (As := [.int ((5 : Int32))]) (x_count l hI (M := setR M 3 u) hv (5 : Int32) (by decide) ((setR_ne _ _ (by decide)).trans e0)) cal_X4_count w_319 ⟨by show _ + 1 ≤ R.frames; simp only; omega, by show _ + _ ≤ R.locals; simp only; omega⟩ k_8 f_8 rfl rfl rfl (Nat.le_of_ble_eq_true rfl) hl.1 hf dL_law_442) hS (fun H locs hP hS => ?_)
              refine lv_if_ne (tgt := 452) hx hb dL_law_445 (by decide) (fun y7 => ?_) (fun y7 => ?_)
              · refine lv_iconst (v := 0) hx hb dL_law_452 (by decide) ?_
                refine lv_icmp_eq (tgt := 458) hx hb dL_law_453 (by decide) (fun c37 => ?_) (fun c37 => absurd (by first | rfl | exact absurd (hq.mpr y7) (Int32.not_lt.mpr y6) | exact absurd (hq.mp (Int32.not_le.mp y6)) y7) c37)
                exact IH H locs ls hP hS (lv_sub hl [0, 1, 2, 3, 4, 5, 6, 7, 8, 9, 10, 11, 13, 14] rfl)
              · refine lv_iconst (v := 1) hx hb dL_law_448 (by decide) ?_
                refine lv_goto (tgt := 453) hx hb dL_law_449 (by decide) ?_
                refine lv_icmp_eq (tgt := 458) hx hb dL_law_453 (by decide) (fun c38 => ?_) (fun c38 => absurd (by first | rfl | exact absurd (hq.mpr y7) (Int32.not_lt.mpr y6) | exact absurd (hq.mp (Int32.not_le.mp y6)) y7) c38)
                exact IH H locs ls hP hS (lv_sub hl [0, 1, 2, 3, 4, 5, 6, 7, 8, 9, 10, 11, 13, 14] rfl)
      · obtain ⟨j, hj, ej, hn⟩ := hbt y3
        refine lv_aload hx hb dL_law_410 (lv_at hl 9 rfl) ?_
        refine lv_iload hx hb dL_law_412 (lv_at hl 16 rfl) ?_
        refine m_iald hC hE hP kO e_30 j ej (show j < nH u by rw [hu]; exact hj) (show nH u < 2 ^ 31 by rw [hu]; omega) dL_law_414 ?_
        refine lv_if_eq (tgt := 456) hx hb dL_law_415 (by decide) (fun c39 => absurd c39 (hn)) (fun c39 => ?_)
        refine lv_iload hx hb dL_law_418 (lv_at hl 15 rfl) ?_
        refine lv_if_lt (tgt := 458) hx hb dL_law_420 (by decide) (fun y4 => ?_) (fun y4 => ?_)
        · exact IH H locs ls hP hS (lv_sub hl [0, 1, 2, 3, 4, 5, 6, 7, 8, 9, 10, 11, 13, 14] rfl)
        · refine lv_iload hx hb dL_law_423 (lv_at hl 4 rfl) ?_
          refine lv_iconst (v := 5) hx hb dL_law_425 (by decide) ?_
          refine lv_irem hx hb dL_law_426 (by decide) ?_
          refine m_top (y := nI (t % 5)) (mod5' t ht) ?_
          refine lv_if_ne (tgt := 458) hx hb dL_law_427 (by decide) (fun y5 => ?_) (fun y5 => ?_)
          · exact IH H locs ls hP hS (lv_sub hl [0, 1, 2, 3, 4, 5, 6, 7, 8, 9, 10, 11, 13, 14] rfl)
          · have hq := hwh y4 (mod5_0 y5)
            refine lv_iload hx hb dL_law_430 (lv_at hl 16 rfl) ?_
            refine lv_if_ge (tgt := 439) hx hb dL_law_432 (by decide) (fun y6 => ?_) (fun y6 => ?_)
            · refine lv_iconst (v := 0) hx hb dL_law_439 (by decide) ?_
              refine lv_aload_n hx hb dL_law_440 rfl (lv_at hl 1 rfl) ?_
              refine lv_iconst (v := 5) hx hb dL_law_441 (by decide) ?_
              refine on_i (run_V hC hE hP hS (As := [.int ((5 : Int32))]) (x_count l hI (M := setR M 3 u) hv (5 : Int32) (by decide) ((setR_ne _ _ (by decide)).trans e0)) cal_X4_count w_319 ⟨by show _ + 1 ≤ R.frames; simp only; omega, by show _ + _ ≤ R.locals; simp only; omega⟩ k_8 f_8 rfl rfl rfl (Nat.le_of_ble_eq_true rfl) hl.1 hf dL_law_442) hS (fun H locs hP hS => ?_)
              refine lv_if_ne (tgt := 452) hx hb dL_law_445 (by decide) (fun y7 => ?_) (fun y7 => ?_)
              · refine lv_iconst (v := 0) hx hb dL_law_452 (by decide) ?_
                refine lv_icmp_eq (tgt := 458) hx hb dL_law_453 (by decide) (fun c40 => ?_) (fun c40 => absurd (by first | rfl | exact absurd (hq.mpr y7) (Int32.not_lt.mpr y6) | exact absurd (hq.mp (Int32.not_le.mp y6)) y7) c40)
                exact IH H locs ls hP hS (lv_sub hl [0, 1, 2, 3, 4, 5, 6, 7, 8, 9, 10, 11, 13, 14] rfl)
              · refine lv_iconst (v := 1) hx hb dL_law_448 (by decide) ?_
                refine lv_goto (tgt := 453) hx hb dL_law_449 (by decide) ?_
                refine lv_icmp_eq (tgt := 458) hx hb dL_law_453 (by decide) (fun c41 => ?_) (fun c41 => absurd (by first | rfl | exact absurd (hq.mpr y7) (Int32.not_lt.mpr y6) | exact absurd (hq.mp (Int32.not_le.mp y6)) y7) c41)
                exact IH H locs ls hP hS (lv_sub hl [0, 1, 2, 3, 4, 5, 6, 7, 8, 9, 10, 11, 13, 14] rfl)
            · refine lv_iconst (v := 1) hx hb dL_law_435 (by decide) ?_
              refine lv_goto (tgt := 440) hx hb dL_law_436 (by decide) ?_
              refine lv_aload_n hx hb dL_law_440 rfl (lv_at hl 1 rfl) ?_
              refine lv_iconst (v := 5) hx hb dL_law_441 (by decide) ?_
              refine on_i (run_V hC hE hP hS (As := [.int ((5 : Int32))]) (x_count l hI (M := setR M 3 u) hv (5 : Int32) (by decide) ((setR_ne _ _ (by decide)).trans e0)) cal_X4_count w_319 ⟨by show _ + 1 ≤ R.frames; simp only; omega, by show _ + _ ≤ R.locals; simp only; omega⟩ k_8 f_8 rfl rfl rfl (Nat.le_of_ble_eq_true rfl) hl.1 hf dL_law_442) hS (fun H locs hP hS => ?_)
              refine lv_if_ne (tgt := 452) hx hb dL_law_445 (by decide) (fun y7 => ?_) (fun y7 => ?_)
              · refine lv_iconst (v := 0) hx hb dL_law_452 (by decide) ?_
                refine lv_icmp_eq (tgt := 458) hx hb dL_law_453 (by decide) (fun c42 => ?_) (fun c42 => absurd (by first | rfl | exact absurd (hq.mpr y7) (Int32.not_lt.mpr y6) | exact absurd (hq.mp (Int32.not_le.mp y6)) y7) c42)
                exact IH H locs ls hP hS (lv_sub hl [0, 1, 2, 3, 4, 5, 6, 7, 8, 9, 10, 11, 13, 14] rfl)
              · refine lv_iconst (v := 1) hx hb dL_law_448 (by decide) ?_
                refine lv_goto (tgt := 453) hx hb dL_law_449 (by decide) ?_
                refine lv_icmp_eq (tgt := 458) hx hb dL_law_453 (by decide) (fun c43 => ?_) (fun c43 => absurd (by first | rfl | exact absurd (hq.mpr y7) (Int32.not_lt.mpr y6) | exact absurd (hq.mp (Int32.not_le.mp y6)) y7) c43)
                exact IH H locs ls hP hS (lv_sub hl [0, 1, 2, 3, 4, 5, 6, 7, 8, 9, 10, 11, 13, 14] rfl)
set_option maxHeartbeats 4000000 in
set_option maxRecDepth 100000 in
theorem l_best {p : Program} {l : Launch} {e : Jvm.Env} {R : Room} {s : State} {m : MethodId} {args : Array Value} {below : List Frame} {meth : Method} {c : Code} {Q : State → Prop} {g : Gm} {cells slots n b t : Nat} {x wh : Int32} {u : Vw} {M : Mem} {o : Nat → Int64} {H : Heap} {locs : List Loc} {ls : Array Slot} {v : Vw} (hC : CallFix p m c cL_law 32 s args LG RL) (hE : Ev g s) (hR : 9 ≤ R.frames ∧ 250 ≤ R.locals) (hf : cells + 0 ≤ R.cells ∧ slots + 0 ≤ R.slots) (hI : IJ g (KK g)) (hW : Lw n v) (hL : SimL g v) (e0 : M 0 = v) (e2 : M 2 = v) (ht : t < 30) {n5 : Nat} (hW5 : Lw (n5 + 5) v) (kO : KK g (30, 2, 0)) (hu : nH u = nH v) (hO : ∀ j, j < nH v → u 2 j = v 5 j) (hwk : ¬ wh < 0 → ∃ k, k < nS v ∧ wh = nI k) (hP : WP g (setR M 3 u) o H) (hS : va_S (AA g) s.heap H locs) (IH : ∀ (M1 : Mem) (H : Heap) (locs : List Loc) (ls : Array Slot), M1 0 = v → M1 2 = v → WP g (setR M1 3 u) o H → va_S (AA g) s.heap H locs → lv_has ls 32 [(0, .ref b), (1, .ref (ad g (8, 0, 0))), (2, .ref (ad g (20, 0, 0))), (3, .ref (ad g (30, 0, 0))), (4, .int (nI t)), (5, .int (x)), (6, .int (nI (nH v))), (7, .int (nI (nS v))), (8, .int (nI (nW v))), (9, .ref (ad g (30, 2, 0))), (10, .ref (ad g (28, 3, 0))), (11, .ref (ad g (29, 3, 0))), (14, .ref (ad g (30, 1, 0))), (15, .int (bearsV v))] → W p l e R s m args below meth c H locs cells slots Q (F0 m 458 ls [])) (hl : lv_has ls 32 [(0, .ref b), (1, .ref (ad g (8, 0, 0))), (2, .ref (ad g (20, 0, 0))), (3, .ref (ad g (30, 0, 0))), (4, .int (nI t)), (5, .int (x)), (6, .int (nI (nH v))), (7, .int (nI (nS v))), (8, .int (nI (nW v))), (9, .ref (ad g (30, 2, 0))), (10, .ref (ad g (28, 3, 0))), (11, .ref (ad g (29, 3, 0))), (12, .long (digV v)), (14, .ref (ad g (30, 1, 0))), (15, .int (bearsV v))]) : W p l e R s m args below meth c H locs cells slots Q (F0 m 329 ls [.int (wh)]) := by
  obtain ⟨hx, hb, hml, hown, hG⟩ := id hC
  have hv := hW.iv
  have qH := hv.lH
  have qS := hv.lS
  have qW := hv.lW
  refine lv_istore (lv' := [(16, .int (wh)), (0, .ref b), (1, .ref (ad g (8, 0, 0))), (2, .ref (ad g (20, 0, 0))), (3, .ref (ad g (30, 0, 0))), (4, .int (nI t)), (5, .int (x)), (6, .int (nI (nH v))), (7, .int (nI (nS v))), (8, .int (nI (nW v))), (9, .ref (ad g (30, 2, 0))), (10, .ref (ad g (28, 3, 0))), (11, .ref (ad g (29, 3, 0))), (12, .long (digV v)), (14, .ref (ad g (30, 1, 0))), (15, .int (bearsV v))]) hx hb dL_law_329 hl (by decide) rfl (fun ls hl => ?_)
  refine lv_iload hx hb dL_law_331 (lv_at hl 0 rfl) ?_
  refine lv_if_lt (tgt := 343) hx hb dL_law_333 (by decide) (fun y1 => ?_) (fun y1 => ?_)
  · refine lv_iconst (v := (-1)) hx hb dL_law_343 (by decide) ?_
    refine lv_goto (tgt := 353) hx hb dL_law_344 (by decide) ?_
    refine lv_istore (lv' := [(17, .int ((-1 : Int32))), (16, .int (wh)), (0, .ref b), (1, .ref (ad g (8, 0, 0))), (2, .ref (ad g (20, 0, 0))), (3, .ref (ad g (30, 0, 0))), (4, .int (nI t)), (5, .int (x)), (6, .int (nI (nH v))), (7, .int (nI (nS v))), (8, .int (nI (nW v))), (9, .ref (ad g (30, 2, 0))), (10, .ref (ad g (28, 3, 0))), (11, .ref (ad g (29, 3, 0))), (12, .long (digV v)), (14, .ref (ad g (30, 1, 0))), (15, .int (bearsV v))]) hx hb dL_law_353 hl (by decide) rfl (fun ls hl => ?_)
    exact l_chk (M := M) (bt := (-1)) (wh := wh) hC hE hR ⟨by first | omega | (simp only; omega), by first | omega | (simp only; omega)⟩ hI hW hL e0 e2 ht kO hu (fun z => absurd (by decide) z) (fun z => absurd y1 z) hP hS (fun H locs ls hP hS hl => IH _ H locs ls e0 e2 hP hS hl) (lv_sub hl [2, 3, 4, 5, 6, 7, 8, 9, 10, 11, 12, 13, 14, 15, 16, 1, 0] rfl)
  · refine lv_iload hx hb dL_law_336 (lv_at hl 5 rfl) ?_
    refine lv_iconst (v := 5) hx hb dL_law_338 (by decide) ?_
    refine lv_irem hx hb dL_law_339 (by decide) ?_
    refine m_top (y := nI (t % 5)) (mod5' t ht) ?_
    refine lv_if_le (tgt := 347) hx hb dL_law_340 (by decide) (fun y2 => ?_) (fun y2 => ?_)
    · refine lv_aload_n hx hb dL_law_347 rfl (lv_at hl 2 rfl) ?_
      refine lv_iload hx hb dL_law_348 (lv_at hl 0 rfl) ?_
      obtain ⟨k, hk, ek⟩ := hwk y1
      refine on_i (run_V hC hE hP hS (As := [.int wh]) (by rw [ek]; exact x_advise l hI hv k hk (hW.nx 5 (by decide)) e0) cal_X4_advise w_477 ⟨by show _ + 1 ≤ R.frames; simp only; omega, by show _ + _ ≤ R.locals; simp only; omega⟩ k_8 f_8 rfl rfl rfl (Nat.le_of_ble_eq_true rfl) hl.1 ⟨by simp only; omega, by simp only; omega⟩ dL_law_350) hS (fun H locs hP hS => ?_)
      refine lv_istore (lv' := [(17, .int (advV v k)), (16, .int (wh)), (0, .ref b), (1, .ref (ad g (8, 0, 0))), (2, .ref (ad g (20, 0, 0))), (3, .ref (ad g (30, 0, 0))), (4, .int (nI t)), (5, .int (x)), (6, .int (nI (nH v))), (7, .int (nI (nS v))), (8, .int (nI (nW v))), (9, .ref (ad g (30, 2, 0))), (10, .ref (ad g (28, 3, 0))), (11, .ref (ad g (29, 3, 0))), (12, .long (digV v)), (14, .ref (ad g (30, 1, 0))), (15, .int (bearsV v))]) hx hb dL_law_353 hl (by decide) rfl (fun ls hl => ?_)
      exact l_chk (M := (setR M 1 (advL v (M 1) k (nH v)))) (bt := advV v k) (wh := wh) hC hE hR ⟨by first | omega | (simp only; omega), by first | omega | (simp only; omega)⟩ hI hW hL ((setR_ne _ _ (by decide)).trans e0) ((setR_ne _ _ (by decide)).trans e2) ht kO hu (fun z => (advV_ran hW5 hk).elim (fun y => absurd (by rw [y.1]; decide) z) (fun ⟨j, hj, ej, e5⟩ => ⟨j, hj, ej, by rw [hO j hj, e5]; decide⟩)) (fun _ _ => advV_0 hW5 hk) hP hS (fun H locs ls hP hS hl => IH _ H locs ls ((setR_ne _ _ (by decide)).trans e0) ((setR_ne _ _ (by decide)).trans e2) hP hS hl) (lv_sub hl [2, 3, 4, 5, 6, 7, 8, 9, 10, 11, 12, 13, 14, 15, 16, 1, 0] rfl)
    · refine lv_iconst (v := (-1)) hx hb dL_law_343 (by decide) ?_
      refine lv_goto (tgt := 353) hx hb dL_law_344 (by decide) ?_
      refine lv_istore (lv' := [(17, .int ((-1 : Int32))), (16, .int (wh)), (0, .ref b), (1, .ref (ad g (8, 0, 0))), (2, .ref (ad g (20, 0, 0))), (3, .ref (ad g (30, 0, 0))), (4, .int (nI t)), (5, .int (x)), (6, .int (nI (nH v))), (7, .int (nI (nS v))), (8, .int (nI (nW v))), (9, .ref (ad g (30, 2, 0))), (10, .ref (ad g (28, 3, 0))), (11, .ref (ad g (29, 3, 0))), (12, .long (digV v)), (14, .ref (ad g (30, 1, 0))), (15, .int (bearsV v))]) hx hb dL_law_353 hl (by decide) rfl (fun ls hl => ?_)
      exact l_chk (M := M) (bt := (-1)) (wh := wh) hC hE hR ⟨by first | omega | (simp only; omega), by first | omega | (simp only; omega)⟩ hI hW hL e0 e2 ht kO hu (fun z => absurd (by decide) z) (fun _ z => absurd (by rw [z]; decide) y2) hP hS (fun H locs ls hP hS hl => IH _ H locs ls e0 e2 hP hS hl) (lv_sub hl [2, 3, 4, 5, 6, 7, 8, 9, 10, 11, 12, 13, 14, 15, 16, 1, 0] rfl)
set_option maxHeartbeats 4000000 in
set_option maxRecDepth 100000 in
theorem l_who {p : Program} {l : Launch} {e : Jvm.Env} {R : Room} {s : State} {m : MethodId} {args : Array Value} {below : List Frame} {meth : Method} {c : Code} {Q : State → Prop} {g : Gm} {cells slots n b t : Nat} {x : Int32} {u : Vw} {M : Mem} {o : Nat → Int64} {H : Heap} {locs : List Loc} {ls : Array Slot} {v : Vw} (hC : CallFix p m c cL_law 32 s args LG RL) (hE : Ev g s) (hR : 9 ≤ R.frames ∧ 250 ≤ R.locals) (hf : cells + 0 ≤ R.cells ∧ slots + 0 ≤ R.slots) (hI : IJ g (KK g)) (hW : Lw n v) (hL : SimL g v) (e0 : M 0 = v) (e2 : M 2 = v) (ht : t < 30) {n5 : Nat} (hW5 : Lw (n5 + 5) v) (kO : KK g (30, 2, 0)) (hu : nH u = nH v) (hO : ∀ j, j < nH v → u 2 j = v 5 j) (hP : WP g (setR M 3 u) o H) (hS : va_S (AA g) s.heap H locs) (IH : ∀ (M1 : Mem) (H : Heap) (locs : List Loc) (ls : Array Slot), M1 0 = v → M1 2 = v → WP g (setR M1 3 u) o H → va_S (AA g) s.heap H locs → lv_has ls 32 [(0, .ref b), (1, .ref (ad g (8, 0, 0))), (2, .ref (ad g (20, 0, 0))), (3, .ref (ad g (30, 0, 0))), (4, .int (nI t)), (5, .int (x)), (6, .int (nI (nH v))), (7, .int (nI (nS v))), (8, .int (nI (nW v))), (9, .ref (ad g (30, 2, 0))), (10, .ref (ad g (28, 3, 0))), (11, .ref (ad g (29, 3, 0))), (14, .ref (ad g (30, 1, 0))), (15, .int (bearsV v))] → W p l e R s m args below meth c H locs cells slots Q (F0 m 458 ls [])) (hl : lv_has ls 32 [(0, .ref b), (1, .ref (ad g (8, 0, 0))), (2, .ref (ad g (20, 0, 0))), (3, .ref (ad g (30, 0, 0))), (4, .int (nI t)), (5, .int (x)), (6, .int (nI (nH v))), (7, .int (nI (nS v))), (8, .int (nI (nW v))), (9, .ref (ad g (30, 2, 0))), (10, .ref (ad g (28, 3, 0))), (11, .ref (ad g (29, 3, 0))), (12, .long (digV v)), (14, .ref (ad g (30, 1, 0)))]) : W p l e R s m args below meth c H locs cells slots Q (F0 m 305 ls []) := by
  obtain ⟨hx, hb, hml, hown, hG⟩ := id hC
  have hv := hW.iv
  have qH := hv.lH
  have qS := hv.lS
  have qW := hv.lW
  refine lv_aload_n hx hb dL_law_305 rfl (lv_at hl 1 rfl) ?_
  refine on_i (run_V hC hE hP hS (As := []) (x_bears l hI (M := setR M 3 u) hv (hW.nx 200 (by decide)) ((setR_ne _ _ (by decide)).trans e0)) cal_X4_bears w_446 ⟨by show _ + 1 ≤ R.frames; simp only; omega, by show _ + _ ≤ R.locals; simp only; omega⟩ k_8 f_8 rfl rfl rfl (Nat.le_of_ble_eq_true rfl) hl.1 ⟨by simp only; omega, by simp only; omega⟩ dL_law_306) hS (fun H locs hP hS => ?_)
  refine lv_istore (lv' := [(15, .int (bearsV v)), (0, .ref b), (1, .ref (ad g (8, 0, 0))), (2, .ref (ad g (20, 0, 0))), (3, .ref (ad g (30, 0, 0))), (4, .int (nI t)), (5, .int (x)), (6, .int (nI (nH v))), (7, .int (nI (nS v))), (8, .int (nI (nW v))), (9, .ref (ad g (30, 2, 0))), (10, .ref (ad g (28, 3, 0))), (11, .ref (ad g (29, 3, 0))), (12, .long (digV v)), (14, .ref (ad g (30, 1, 0)))]) hx hb dL_law_309 hl (by decide) rfl (fun ls hl => ?_)
  refine lv_iload hx hb dL_law_311 (lv_at hl 8 rfl) ?_
  refine lv_if_ne (tgt := 320) hx hb dL_law_313 (by decide) (fun y1 => ?_) (fun y1 => ?_)
  · have hp : 0 < nS v := Nat.pos_of_ne_zero (fun z => y1 (by rw [z]; rfl))
    refine lv_iload hx hb dL_law_320 (lv_at hl 6 rfl) ?_
    refine lv_iconst (v := 3) hx hb dL_law_322 (by decide) ?_
    refine lv_ishr hx hb dL_law_323 ?_
    refine lv_iload hx hb dL_law_324 (lv_at hl 8 rfl) ?_
    refine on_i (run_S hC hE hP hS (As := [.int (x >>> ((3 : Int32) &&& 31)), .int (nI (nS v))]) (c_belowL l (x >>> ((3 : Int32) &&& 31)) (nS v) hp (by omega)) cal_L_below w_553 ⟨by show _ + 1 ≤ R.frames; simp only; omega, by show _ + _ ≤ R.locals; simp only; omega⟩ rfl rfl (Nat.le_of_ble_eq_true rfl) hl.1 ⟨by simp only; omega, by simp only; omega⟩ dL_law_326) hS (fun H locs hP hS => ?_)
    exact l_best (wh := nI (bel (x >>> ((3 : Int32) &&& 31)) (nS v))) hC hE hR ⟨by first | omega | (simp only; omega), by first | omega | (simp only; omega)⟩ hI hW hL e0 e2 ht hW5 kO hu hO (fun _ => ⟨_, bel_lt hp, rfl⟩) hP hS IH (lv_sub hl [1, 2, 3, 4, 5, 6, 7, 8, 9, 10, 11, 12, 13, 14, 0] rfl)
  · refine lv_iconst (v := (-1)) hx hb dL_law_316 (by decide) ?_
    refine lv_goto (tgt := 329) hx hb dL_law_317 (by decide) ?_
    exact l_best (wh := (-1)) hC hE hR ⟨by first | omega | (simp only; omega), by first | omega | (simp only; omega)⟩ hI hW hL e0 e2 ht hW5 kO hu hO (fun z => absurd (by decide) z) hP hS IH (lv_sub hl [1, 2, 3, 4, 5, 6, 7, 8, 9, 10, 11, 12, 13, 14, 0] rfl)
set_option maxHeartbeats 4000000 in
set_option maxRecDepth 100000 in
theorem l_fore {p : Program} {l : Launch} {e : Jvm.Env} {R : Room} {s : State} {m : MethodId} {args : Array Value} {below : List Frame} {meth : Method} {c : Code} {Q : State → Prop} {g : Gm} {cells slots n b t : Nat} {x : Int32} {u : Vw} {M : Mem} {o : Nat → Int64} {H : Heap} {locs : List Loc} {ls : Array Slot} {v : Vw} (hC : CallFix p m c cL_law 32 s args LG RL) (hE : Ev g s) (hR : 9 ≤ R.frames ∧ 250 ≤ R.locals) (hf : cells ≤ R.cells ∧ slots ≤ R.slots) (hI : IJ g (KK g)) (hW : Lw n v) (hL : SimL g v) (e0 : M 0 = v) (e2 : M 2 = v) (kA : KK g (30, 0, 0)) (kB : KK g (30, 1, 0)) (hw : ∀ i, i < 5 → fsn (u 0 i)) (hP : WP g (setR M 3 u) o H) (hS : va_S (AA g) s.heap H locs) (IH : ∀ (M1 : Mem) (H : Heap) (locs : List Loc) (ls : Array Slot), M1 0 = v → M1 2 = v → WP g (setR M1 3 (fsV (day v) u 5)) o H → va_S (AA g) s.heap H locs → lv_has ls 32 [(0, .ref b), (1, .ref (ad g (8, 0, 0))), (2, .ref (ad g (20, 0, 0))), (3, .ref (ad g (30, 0, 0))), (4, .int (nI t)), (5, .int (x)), (6, .int (nI (nH v))), (7, .int (nI (nS v))), (8, .int (nI (nW v))), (9, .ref (ad g (30, 2, 0))), (10, .ref (ad g (28, 3, 0))), (11, .ref (ad g (29, 3, 0))), (12, .long (digV v)), (14, .ref (ad g (30, 1, 0)))] → W p l e R s m args below meth c H locs cells slots Q (F0 m 305 ls [])) (hl : lv_has ls 32 [(0, .ref b), (1, .ref (ad g (8, 0, 0))), (2, .ref (ad g (20, 0, 0))), (3, .ref (ad g (30, 0, 0))), (4, .int (nI t)), (5, .int (x)), (6, .int (nI (nH v))), (7, .int (nI (nS v))), (8, .int (nI (nW v))), (9, .ref (ad g (30, 2, 0))), (10, .ref (ad g (28, 3, 0))), (11, .ref (ad g (29, 3, 0))), (12, .long (digV v)), (14, .ref (ad g (30, 1, 0)))]) : W p l e R s m args below meth c H locs cells slots Q (F0 m 276 ls []) := by
  obtain ⟨hx, hb, hml, hown, hG⟩ := id hC
  have hv := hW.iv
  have qH := hv.lH
  have qS := hv.lS
  have qW := hv.lW
  refine lv_iconst (v := 0) hx hb dL_law_276 (by decide) ?_
  refine lv_istore (lv' := [(15, .int (nI 0)), (0, .ref b), (1, .ref (ad g (8, 0, 0))), (2, .ref (ad g (20, 0, 0))), (3, .ref (ad g (30, 0, 0))), (4, .int (nI t)), (5, .int (x)), (6, .int (nI (nH v))), (7, .int (nI (nS v))), (8, .int (nI (nW v))), (9, .ref (ad g (30, 2, 0))), (10, .ref (ad g (28, 3, 0))), (11, .ref (ad g (29, 3, 0))), (12, .long (digV v)), (14, .ref (ad g (30, 1, 0)))]) hx hb dL_law_277 hl (by decide) rfl (fun ls hl => ?_)
  refine lp_up (P := fun i => ∀ (M1 : Mem) (H : Heap) (locs : List Loc) (ls : Array Slot), M1 0 = v → M1 2 = v → WP g (setR M1 3 (fsV (day v) u i)) o H → va_S (AA g) s.heap H locs → lv_has ls 32 [(15, .int (nI i)), (0, .ref b), (1, .ref (ad g (8, 0, 0))), (2, .ref (ad g (20, 0, 0))), (3, .ref (ad g (30, 0, 0))), (4, .int (nI t)), (5, .int (x)), (6, .int (nI (nH v))), (7, .int (nI (nS v))), (8, .int (nI (nW v))), (9, .ref (ad g (30, 2, 0))), (10, .ref (ad g (28, 3, 0))), (11, .ref (ad g (29, 3, 0))), (12, .long (digV v)), (14, .ref (ad g (30, 1, 0)))] → W p l e R s m args below meth c H locs cells slots Q (F0 m 279 ls [])) 5 ?_ ?_ 0 (Nat.zero_le _) M H locs ls e0 e2 (by rw [fsV_0]; exact hP) hS hl
  · intro M1 H locs ls f0 f2 hP hS hl
    refine lv_iload hx hb dL_law_279 (lv_at hl 0 rfl) ?_
    refine lv_iconst (v := 5) hx hb dL_law_281 (by decide) ?_
    refine lv_icmp_ge (tgt := 305) hx hb dL_law_282 (by decide) (fun c1 => ?_) (fun c1 => absurd (nI_le (a := 5) (b := 5) (Nat.le_refl _) (by omega)) c1)
    exact IH M1 H locs ls f0 f2 hP hS (lv_sub hl [1, 2, 3, 4, 5, 6, 7, 8, 9, 10, 11, 12, 13, 14] rfl)
  · intro i hi ih M1 H locs ls f0 f2 hP hS hl
    refine lv_iload hx hb dL_law_279 (lv_at hl 0 rfl) ?_
    refine lv_iconst (v := 5) hx hb dL_law_281 (by decide) ?_
    refine lv_icmp_ge (tgt := 305) hx hb dL_law_282 (by decide) (fun c1 => absurd c1 (nI_ge (b := 5) hi (by omega))) (fun c1 => ?_)
    refine lv_aload hx hb dL_law_285 (lv_at hl 14 rfl) ?_
    refine lv_iload hx hb dL_law_287 (lv_at hl 0 rfl) ?_
    refine lv_aload_n hx hb dL_law_289 rfl (lv_at hl 2 rfl) ?_
    refine lv_iconst (v := 1) hx hb dL_law_290 (by decide) ?_
    refine lv_aload_n hx hb dL_law_291 rfl (lv_at hl 4 rfl) ?_
    refine lv_iload hx hb dL_law_292 (lv_at hl 0 rfl) ?_
    refine m_iald hC hE hP kA e_30 i rfl (show i < 5 from hi) (show 5 < 2 ^ 31 by decide) dL_law_294 ?_
    refine m_top (y := u 0 i) (fsV_n (by decide)) ?_
    refine on_i (run_V hC hE hP hS (As := [.int (1 : Int32), .int (u 0 i)]) (x_foresee l hI (M := M1) (u := fsV (day v) u i) hv (u 0 i) (hw i hi) (hW.nx 1 (by decide)) f0) cal_X4_foresee w_453 ⟨by show _ + 1 ≤ R.frames; simp only; omega, by show _ + _ ≤ R.locals; simp only; omega⟩ k_8 f_8 rfl rfl rfl (Nat.le_of_ble_eq_true rfl) hl.1 hf dL_law_295) hS (fun H locs hP hS => ?_)
    refine m_iast hC hE hI hP hS kB e_30 i rfl (show i < 5 from hi) (show 5 < 2 ^ 31 by decide) (p_30 (by decide)) (ent_put g (setR M1 1 (day (bec v (M1 1)))) 3 (fsV (day v) u i) o 1 i (factF (day v) (u 0 i)) (kf_30 (by decide))) dL_law_298 (fun H locs hP hS => ?_)
    replace hP := hP.castR fsV_s.symm
    refine lv_iinc (v := nI (i + 1)) (lv' := [(15, .int (nI (i + 1))), (0, .ref b), (1, .ref (ad g (8, 0, 0))), (2, .ref (ad g (20, 0, 0))), (3, .ref (ad g (30, 0, 0))), (4, .int (nI t)), (5, .int (x)), (6, .int (nI (nH v))), (7, .int (nI (nS v))), (8, .int (nI (nW v))), (9, .ref (ad g (30, 2, 0))), (10, .ref (ad g (28, 3, 0))), (11, .ref (ad g (29, 3, 0))), (12, .long (digV v)), (14, .ref (ad g (30, 1, 0)))]) hx hb dL_law_299 hl (k := 0) rfl (nI_1 _) (by decide) rfl (fun ls hl => ?_)
    refine lv_goto (tgt := 279) hx hb dL_law_302 (by decide) ?_
    exact ih (setR M1 1 (day (bec v (M1 1)))) H locs ls ((setR_ne _ _ (by decide)).trans f0) ((setR_ne _ _ (by decide)).trans f2) hP hS hl
set_option maxHeartbeats 4000000 in
set_option maxRecDepth 100000 in
theorem l_then {p : Program} {l : Launch} {e : Jvm.Env} {R : Room} {s : State} {m : MethodId} {args : Array Value} {below : List Frame} {meth : Method} {c : Code} {Q : State → Prop} {g : Gm} {cells slots n b t : Nat} {x : Int32} {u : Vw} {M : Mem} {o : Nat → Int64} {H : Heap} {locs : List Loc} {ls : Array Slot} {v : Vw} (hC : CallFix p m c cL_law 32 s args LG RL) (hE : Ev g s) (hR : 9 ≤ R.frames ∧ 250 ≤ R.locals) (hf : cells + 1 ≤ R.cells ∧ slots + 12 ≤ R.slots) (hI : IJ g (KK g)) (hW : Lw n v) (hL : SimL g v) (e0 : M 0 = v) (e2 : M 2 = v) (hP : WP g (setR M 3 u) o H) (hS : va_S (AA g) s.heap H locs) (IH : ∀ (a : Nat) (H : Heap) (locs : List Loc) (ls : Array Slot), WP (gA g (30, 1, 0) a) (setR M 3 (mH u 1 5 (fun _ => 0))) o H → IJ (gA g (30, 1, 0) a) (KK (gA g (30, 1, 0) a)) → va_S (AA g) s.heap H locs → lv_has ls 32 [(0, .ref b), (1, .ref (ad (gA g (30, 1, 0) a) (8, 0, 0))), (2, .ref (ad (gA g (30, 1, 0) a) (20, 0, 0))), (3, .ref (ad (gA g (30, 1, 0) a) (30, 0, 0))), (4, .int (nI t)), (5, .int (x)), (6, .int (nI (nH v))), (7, .int (nI (nS v))), (8, .int (nI (nW v))), (9, .ref (ad (gA g (30, 1, 0) a) (30, 2, 0))), (10, .ref (ad (gA g (30, 1, 0) a) (28, 3, 0))), (11, .ref (ad (gA g (30, 1, 0) a) (29, 3, 0))), (12, .long (digV v)), (14, .ref (ad (gA g (30, 1, 0) a) (30, 1, 0)))] → W p l e R s m args below meth c H locs (cells + 1) (slots + 12) Q (F0 m 276 ls [])) (hl : lv_has ls 32 [(0, .ref b), (1, .ref (ad g (8, 0, 0))), (2, .ref (ad g (20, 0, 0))), (3, .ref (ad g (30, 0, 0))), (4, .int (nI t)), (5, .int (x)), (6, .int (nI (nH v))), (7, .int (nI (nS v))), (8, .int (nI (nW v))), (9, .ref (ad g (30, 2, 0))), (10, .ref (ad g (28, 3, 0))), (11, .ref (ad g (29, 3, 0)))]) : W p l e R s m args below meth c H locs cells slots Q (F0 m 265 ls []) := by
  obtain ⟨hx, hb, hml, hown, hG⟩ := id hC
  have hv := hW.iv
  have qH := hv.lH
  have qS := hv.lS
  have qW := hv.lW
  refine lv_aload_n hx hb dL_law_265 rfl (lv_at hl 1 rfl) ?_
  refine on_l (run_V hC hE hP hS (As := []) (x_digest l hI (M := setR M 3 u) hv ((setR_ne _ _ (by decide)).trans e0)) cal_X4_digest w_490 ⟨by show _ + 1 ≤ R.frames; simp only; omega, by show _ + _ ≤ R.locals; simp only; omega⟩ k_8 f_8 rfl rfl rfl (Nat.le_of_ble_eq_true rfl) hl.1 ⟨by simp only; omega, by simp only; omega⟩ dL_law_266) hS (fun H locs hP hS => ?_)
  refine lv_lstore (lv' := [(12, .long (digV v)), (0, .ref b), (1, .ref (ad g (8, 0, 0))), (2, .ref (ad g (20, 0, 0))), (3, .ref (ad g (30, 0, 0))), (4, .int (nI t)), (5, .int (x)), (6, .int (nI (nH v))), (7, .int (nI (nS v))), (8, .int (nI (nW v))), (9, .ref (ad g (30, 2, 0))), (10, .ref (ad g (28, 3, 0))), (11, .ref (ad g (29, 3, 0)))]) hx hb dL_law_269 hl (by decide) rfl (fun ls hl => ?_)
  refine lv_iconst (v := 5) hx hb dL_law_271 (by decide) ?_
  refine m_newN hC hE hI hP hS 1 (by decide) (N := 5) (by decide) (Or.inr (Or.inr ⟨Or.inr rfl, rfl⟩)) rfl hf.1 hf.2 dL_law_272 (fun a H hP hI1 hS => ?_)
  refine lv_astore (lv' := [(14, .ref (ad (gA g (30, 1, 0) a) (30, 1, 0))), (12, .long (digV v)), (0, .ref b), (1, .ref (ad g (8, 0, 0))), (2, .ref (ad g (20, 0, 0))), (3, .ref (ad g (30, 0, 0))), (4, .int (nI t)), (5, .int (x)), (6, .int (nI (nH v))), (7, .int (nI (nS v))), (8, .int (nI (nW v))), (9, .ref (ad g (30, 2, 0))), (10, .ref (ad g (28, 3, 0))), (11, .ref (ad g (29, 3, 0)))]) hx hb dL_law_274 hl (by decide) rfl (fun ls hl => ?_)
  exact IH a H locs ls hP hI1 hS (by rw [gA_ne (g := g) (k := (30, 1, 0)) (a := a) (j := (8, 0, 0)) (by decide), gA_ne (g := g) (k := (30, 1, 0)) (a := a) (j := (20, 0, 0)) (by decide), gA_ne (g := g) (k := (30, 1, 0)) (a := a) (j := (30, 0, 0)) (by decide), gA_ne (g := g) (k := (30, 1, 0)) (a := a) (j := (30, 2, 0)) (by decide), gA_ne (g := g) (k := (30, 1, 0)) (a := a) (j := (28, 3, 0)) (by decide), gA_ne (g := g) (k := (30, 1, 0)) (a := a) (j := (29, 3, 0)) (by decide)]; exact lv_sub hl [2, 3, 4, 5, 6, 7, 8, 9, 10, 11, 12, 13, 1, 0] rfl)
