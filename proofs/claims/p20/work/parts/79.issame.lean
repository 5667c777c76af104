/-! Its facts, its mean; all of isSame. -/
set_option maxRecDepth 100000 in
set_option maxHeartbeats 4000000 in
theorem mean_q : ∀ b, b < 9 → ∀ a, a < 481 → 0 < b → Op.cmpValue (FP.dcmp (FP.ddiv (FP.i2d (nI a)) (FP.i2d (nI b))) (FP.ddiv (FP.i2d (nI a)) (FP.i2d (nI b)))) .l = 0 := by decide +kernel
theorem mean_1 {v : Vw} (hv : Inv v) (h : nS v ≠ 0) : Op.cmpValue (FP.dcmp (meanV v) (FP.ddiv (FP.i2d (sumI (v 9) (nS v))) (FP.i2d (nI (nS v))))) .l = 0 := by
  obtain ⟨a, ha, e⟩ := mean_s hv (nS v) (Nat.le_refl _)
  have := hv.lS
  unfold meanV
  rw [if_neg h, e]
  exact mean_q _ (by omega) a (by omega) (by omega)
theorem mean_0 {v : Vw} (h : nS v = 0) : Op.cmpValue (FP.dcmp (meanV v) FP.dconst0) .l = 0 := by
  unfold meanV
  rw [if_pos h]
  decide +kernel
set_option maxHeartbeats 4000000 in
set_option maxRecDepth 100000 in
theorem z_cnt {p : Program} {l : Launch} {e : Jvm.Env} {R : Room} {s : State} {m : MethodId} {args : Array Value} {below : List Frame} {meth : Method} {c : Code} {Q : State → Prop} {g0 g : Gm} {cells slots n : Nat} {M : Mem} {o : Nat → Int64} {H : Heap} {locs : List Loc} {ls : Array Slot} {v : Vw} (G : Gj g0 g) (hE0 : Ev g0 s) (hC : CallFix p m c cX5_isSame 8 s args LG RX5) (hR : 8 ≤ R.frames ∧ 200 ≤ R.locals) (hf : cells + 0 ≤ R.cells ∧ slots + 0 ≤ R.slots) (hI : IJ g (KK g)) (hW : Lw n v) (hL : SimL g v) (e0 : M 0 = v) (hP : WP g (setR M 2 v) o H) (hS : va_S (AA g) s.heap H locs) (kD : KK g (30, 5, 0)) (hrow : ∀ j, j < 9 → M 3 5 j = factF v (nI j)) (IH : ∀ (H : Heap) (locs : List Loc) (ls : Array Slot), WP g (setR M 2 v) o H → va_S (AA g) s.heap H locs → W p l e R s m args below meth c H locs cells slots Q (F0 m 458 ls [.int 1])) (hl : lv_has ls 8 [(0, .ref (ad g (20, 0, 0))), (1, .ref (ad g (8, 0, 0))), (2, .int (sumI (v 9) (nS v)))]) : W p l e R s m args below meth c H locs cells slots Q (F0 m 392 ls [.ref (ad g (30, 5, 0))]) := by
  obtain ⟨hx, hb, hml, hown, hG⟩ := id hC
  have hE : Ev g s := hE0.to G.1 G.2.1
  have hv := hW.iv
  have qH := hv.lH
  have qS := hv.lS
  have qW := hv.lW
  refine lv_astore_n (lv' := [(3, .ref (ad g (30, 5, 0))), (0, .ref (ad g (20, 0, 0))), (1, .ref (ad g (8, 0, 0))), (2, .int (sumI (v 9) (nS v)))]) hx hb dX5_isSame_392 rfl hl (by decide) rfl (fun ls hl => ?_)
  refine lv_iconst (v := 0) hx hb dX5_isSame_393 (by decide) ?_
  refine lv_istore (lv' := [(4, .int ((0 : Int32))), (3, .ref (ad g (30, 5, 0))), (0, .ref (ad g (20, 0, 0))), (1, .ref (ad g (8, 0, 0))), (2, .int (sumI (v 9) (nS v)))]) hx hb dX5_isSame_394 hl (by decide) rfl (fun ls hl => ?_)
  refine lp_W (i0 := 0) 9 (fun j => ent g (setR M 2 v) o) (fun j => [(4, .int (nI j)), (3, .ref (ad g (30, 5, 0))), (0, .ref (ad g (20, 0, 0))), (1, .ref (ad g (8, 0, 0))), (2, .int (sumI (v 9) (nS v)))]) (fun j => True) (Nat.zero_le _) (hP.castR (rfl)) hS (lv_sub hl [0, 1, 2, 3, 4] rfl) (trivial) (fun H locs ls hP hS hl J => ?_) (fun j hj IHj H locs ls hP hS hl J => ?_)
  · refine lv_iload hx hb dX5_isSame_396 (lv_at hl 0 rfl) ?_
    refine lv_bipush (v := 9) hx hb dX5_isSame_398 (by decide) ?_
    refine lv_icmp_ge (tgt := 424) hx hb dX5_isSame_400 (by decide) (fun c1 => ?_) (fun c1 => absurd (nI_le (a := 9) (b := 9) (Nat.le_refl _) (by omega)) c1)
    refine lv_aload_n hx hb dX5_isSame_424 rfl (lv_at hl 3 rfl) ?_
    refine on_d (run_V hC hE hP hS (As := []) (q_mean l hI (o := o) hv e0) cal_X4_mean w_552 ⟨by show _ + 1 ≤ R.frames; simp only; omega, by show _ + _ ≤ R.locals; simp only; omega⟩ k_8 f_8 rfl rfl rfl (Nat.le_of_ble_eq_true rfl) hl.1 ⟨by simp only; omega, by simp only; omega⟩ dX5_isSame_425) hS (fun H locs hP hS => ?_)
    refine lv_aload_n hx hb dX5_isSame_428 rfl (lv_at hl 2 rfl) ?_
    refine m_get hC hE hP (k_20 hL) e_20 rfl u_5 4 (by decide) w_657 rfl rfl dX5_isSame_429 ?_
    refine m_alnA hC hE hP (k_28 hL) e_28 (congrArg nI Cn.rf.2.1) dX5_isSame_432 ?_
    refine lv_if_ne (tgt := 440) hx hb dX5_isSame_433 (by decide) (fun c1 => ?_) (fun c1 => ?_)
    · refine lv_iload_n hx hb dX5_isSame_440 rfl (lv_at hl 4 rfl) ?_
      refine lv_i2d hx hb dX5_isSame_441 ?_
      refine lv_aload_n hx hb dX5_isSame_442 rfl (lv_at hl 2 rfl) ?_
      refine m_get hC hE hP (k_20 hL) e_20 rfl u_5 4 (by decide) w_657 rfl rfl dX5_isSame_443 ?_
      refine m_alnA hC hE hP (k_28 hL) e_28 (congrArg nI Cn.rf.2.1) dX5_isSame_446 ?_
      refine lv_i2d hx hb dX5_isSame_447 ?_
      refine lv_ddiv hx hb dX5_isSame_448 (mean_nn hv (fun z => c1 (by rw [z]; rfl))) ?_
      refine lv_dcmp hx hb dX5_isSame_449 ?_
      refine m_top (y := 0) (mean_1 hv (fun z => c1 (by rw [z]; rfl))) ?_
      refine lv_if_ne (tgt := 457) hx hb dX5_isSame_450 (by decide) (fun c2 => absurd (rfl) c2) (fun c2 => ?_)
      refine lv_iconst (v := 1) hx hb dX5_isSame_453 (by decide) ?_
      refine lv_goto (tgt := 458) hx hb dX5_isSame_454 (by decide) ?_
      exact IH H locs ls hP hS
    · refine lv_dconst0 hx hb dX5_isSame_436 ?_
      refine lv_goto (tgt := 449) hx hb dX5_isSame_437 (by decide) ?_
      refine lv_dcmp hx hb dX5_isSame_449 ?_
      refine m_top (y := 0) (mean_0 (nI_inj (b := 0) (by omega) (by decide) c1)) ?_
      refine lv_if_ne (tgt := 457) hx hb dX5_isSame_450 (by decide) (fun c3 => absurd (rfl) c3) (fun c3 => ?_)
      refine lv_iconst (v := 1) hx hb dX5_isSame_453 (by decide) ?_
      refine lv_goto (tgt := 458) hx hb dX5_isSame_454 (by decide) ?_
      exact IH H locs ls hP hS
  · refine lv_iload hx hb dX5_isSame_396 (lv_at hl 0 rfl) ?_
    refine lv_bipush (v := 9) hx hb dX5_isSame_398 (by decide) ?_
    refine lv_icmp_ge (tgt := 424) hx hb dX5_isSame_400 (by decide) (fun c4 => absurd c4 (nI_ge (b := 9) hj (by omega))) (fun c4 => ?_)
    refine lv_aload_n hx hb dX5_isSame_403 rfl (lv_at hl 3 rfl) ?_
    refine lv_iload hx hb dX5_isSame_404 (lv_at hl 0 rfl) ?_
    refine on_i (run_V hC hE hP hS (As := [.int (nI j)]) (q_count l hI (o := o) hv (nI j) (in_8 j hj) e0) cal_X4_count w_551 ⟨by show _ + 1 ≤ R.frames; simp only; omega, by show _ + _ ≤ R.locals; simp only; omega⟩ k_8 f_8 rfl rfl rfl (Nat.le_of_ble_eq_true rfl) hl.1 ⟨by simp only; omega, by simp only; omega⟩ dX5_isSame_406) hS (fun H locs hP hS => ?_)
    refine lv_aload_n hx hb dX5_isSame_409 rfl (lv_at hl 1 rfl) ?_
    refine lv_iload hx hb dX5_isSame_410 (lv_at hl 0 rfl) ?_
    refine m_noteR hC hE hP 5 kD (by decide) j rfl (show j < 9 from hj) (show 9 < 2 ^ 31 by decide) (hrow j hj) dX5_isSame_412 ?_
    refine lv_icmp_eq (tgt := 418) hx hb dX5_isSame_413 (by decide) (fun c5 => ?_) (fun c5 => absurd (rfl) c5)
    refine lv_iinc (v := nI (j + 1)) (lv' := [(4, .int (nI (j + 1))), (3, .ref (ad g (30, 5, 0))), (0, .ref (ad g (20, 0, 0))), (1, .ref (ad g (8, 0, 0))), (2, .int (sumI (v 9) (nS v)))]) hx hb dX5_isSame_418 hl (k := 0) rfl (nI_1 _) (by decide) rfl (fun ls hl => ?_)
    refine lv_goto (tgt := 396) hx hb dX5_isSame_421 (by decide) ?_
    exact IHj H locs ls (hP.castR (rfl)) hS (lv_sub hl [0, 1, 2, 3, 4] rfl) (trivial)
set_option maxHeartbeats 4000000 in
set_option maxRecDepth 100000 in
theorem z_tail {p : Program} {l : Launch} {e : Jvm.Env} {R : Room} {s : State} {m : MethodId} {args : Array Value} {below : List Frame} {meth : Method} {c : Code} {Q : State → Prop} {g0 g : Gm} {cells slots n : Nat} {M : Mem} {o : Nat → Int64} {H : Heap} {locs : List Loc} {ls : Array Slot} {v : Vw} (G : Gj g0 g) (hE0 : Ev g0 s) (hC : CallFix p m c cX5_isSame 8 s args LG RX5) (hR : 8 ≤ R.frames ∧ 200 ≤ R.locals) (hf : cells + 1 ≤ R.cells ∧ slots + 9 ≤ R.slots) (hI : IJ g (KK g)) (hW : Lw n v) (hL : SimL g v) (e0 : M 0 = v) (hP : WP g (setR M 2 v) o H) (hS : va_S (AA g) s.heap H locs) (IH : ∀ (g1 : Gm) (M1 : Mem) (H : Heap) (locs : List Loc) (ls : Array Slot), Gj g0 g1 → WP g1 (setR M1 2 v) o H → va_S (AA g1) s.heap H locs → W p l e R s m args below meth c H locs (cells + 1) (slots + 9) Q (F0 m 458 ls [.int 1])) (hl : lv_has ls 8 [(0, .ref (ad g (20, 0, 0))), (1, .ref (ad g (8, 0, 0))), (2, .int (sumI (v 9) (nS v)))]) : W p l e R s m args below meth c H locs cells slots Q (F0 m 388 ls []) := by
  obtain ⟨hx, hb, hml, hown, hG⟩ := id hC
  have hE : Ev g s := hE0.to G.1 G.2.1
  have hv := hW.iv
  have qH := hv.lH
  have qS := hv.lS
  have qW := hv.lW
  refine lv_aload_n hx hb dX5_isSame_388 rfl (lv_at hl 0 rfl) ?_
  refine on_r (run_V hC hE hP hS (As := []) (c_countsS l hI hv hL) cal_X5_counts w_547 ⟨by show 0 + 1 ≤ R.frames; omega, by show 8 + (10 + 11) + 0 ≤ R.locals; omega⟩ (k_20 hL) e_20 rfl rfl rfl (Nat.le_of_ble_eq_true rfl) hl.1 ⟨by simp only; omega, by simp only; omega⟩ dX5_isSame_389) hS (fun ra H locs hP hB hS => ?_)
  obtain ⟨ha, hAa, hab⟩ := hB
  obtain ⟨hP1, hI1⟩ := own_n (M := setR M 2 v) 5 (by decide) rfl hI hP ha hAa hab
  have a8 : ad (gA g (30, 5, 0) ra) (8, 0, 0) = ad g (8, 0, 0) := gA_ne (by decide)
  have a20 : ad (gA g (30, 5, 0) ra) (20, 0, 0) = ad g (20, 0, 0) := gA_ne (by decide)
  have z := z_cnt (cells := cells + 1) (slots := slots + 9) (g := gA g (30, 5, 0) ra) (M := setR M 3 (mH ((setR M 2 v) 3) 5 9 (fun j => factF v (nI j)))) (G.tr Gj.gA) hE0 hC hR ⟨by omega, by omega⟩ hI1 hW (Gj.gA.sl hL) ((setR_ne _ _ (by decide)).trans e0) (WP.cast hP1 setR_c3) hS ⟨⟨by decide, rfl⟩, Or.inl rfl⟩ (fun j hj => by rw [setR_same]; exact if_pos rfl) (fun H locs ls hP hS => IH _ _ H locs ls (G.tr Gj.gA) hP hS) (by rw [a8, a20]; exact lv_sub hl [0, 1, 2] rfl)
  rw [gA_ad] at z
  exact z
def Qone (g : Gm) : Array Value → State → Outcome → State → Prop := va_Qi (fun (r : Int32) (_ : Unit) => r = 1) (fun _ _ => True) (AA g)
set_option maxHeartbeats 4000000 in
theorem c_sameS (l : Launch) {g : Gm} (hI : IJ g (KK g)) {n : Nat} {M : Mem} {o : Nat → Int64} {v : Vw} (hW : Lw n v) (hL : SimL g v) (e0 : M 0 = v) : Met l yX5_isSame (wy yX5_isSame cX5_isSame 8 (some .boolean)) { frames := 8, cells := 13, slots := 69, locals := 200 } (Pd g (KK g) (ent g (setR M 2 v) o) [.ref (ad g (20, 0, 0)), .ref (ad g (8, 0, 0))]) (Qone g) 13 69 (AA g) := by
  refine met_of (by decide +kernel) (Nat.le_of_ble_eq_true rfl) ?_
  intro p e s m below meth c ls hC hr_ hlk hnm hE hP hS hl
  obtain ⟨hx, hb, hml, hown, hG⟩ := id hC
  have hl : lv_has ls 8 [(0, .ref (ad g (20, 0, 0))), (1, .ref (ad g (8, 0, 0)))] := hl
  have R8 : 8 ≤ ({ frames := 8, cells := 13, slots := 69, locals := 200 } : Room).frames ∧ 200 ≤ ({ frames := 8, cells := 13, slots := 69, locals := 200 } : Room).locals := ⟨Nat.le_of_ble_eq_true rfl, Nat.le_of_ble_eq_true rfl⟩
  refine z_cells (n := n) hC hE R8 ⟨Nat.zero_le _, Nat.zero_le _⟩ hI hW hL e0 hP hS (fun H locs ls hP hS hl => ?_) hl
  refine z_holes (n := n) hE hC R8 ⟨Nat.le_of_ble_eq_true rfl, Nat.le_of_ble_eq_true rfl⟩ hI hW hL e0 hP hS (fun g1 M1 H locs ls G1 hI1 e1 hP hS hl => ?_) hl
  have hE1 : Ev g1 s := hE.to G1.1 G1.2.1
  refine z_sprs (n := n) hC hE1 R8 ⟨Nat.le_of_ble_eq_true rfl, Nat.le_of_ble_eq_true rfl⟩ hI1 hW (G1.sl hL) e1 hP hS (fun H locs ls hP hS hl => ?_) hl
  refine z_wars (n := n) hC hE1 R8 ⟨Nat.le_of_ble_eq_true rfl, Nat.le_of_ble_eq_true rfl⟩ hI1 hW (G1.sl hL) e1 hP hS (fun H locs ls hP hS hl => ?_) hl
  refine z_tail (n := n) G1 hE hC R8 ⟨Nat.le_of_ble_eq_true rfl, Nat.le_of_ble_eq_true rfl⟩ hI1 hW (G1.sl hL) e1 hP hS (fun g2 M2 H locs ls G2 hP hS => ?_) (lv_sub hl [0, 1, 2] rfl)
  have hS : va_S (AA g) s.heap H locs := G2.hS hS
  exact W.zret hx hb hr_ rfl (fun t ht hW => ⟨⟨1, (), rfl, rfl, trivial⟩, hS.F ht⟩) hS.2.2 dX5_isSame_458 hlk
