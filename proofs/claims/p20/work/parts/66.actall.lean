/-! The law's act, all of it. -/
section MHO
variable {l : Launch} {y : MethodName} {b : ByteArray} {n : Nat} {ret : Option FieldType} {hh : List (Nat × Nat × Nat × Nat)} {R : Room} {g : Gm} {K : Key → Prop} {en : Key → va_E} {av : List Value} {Qc : Array Value → State → Outcome → State → Prop} {XC : String → State → State → Prop}
theorem mh_of (hy : plainName y.cls = true) (hn : (lg_sl av).length ≤ n)
    (body : ∀ (p : Program) (e : Jvm.Env) (s : State) (m : MethodId) (below : List Frame) (meth : Method) (c : Code) (ls : Array Slot), CallFix p m c b n s av.toArray LG y.cls → meth.sig.returnType = ret → meth.locks = false → c.exceptionTable.toList = tableOf hh → Ev g s → WPe g K en s.heap → va_S (AA g) s.heap s.heap [] → lv_has ls n (lv_args 0 av) →
      W p l e R s m av.toArray below meth c s.heap [] 0 0 (vx_MQ below Qc XC av.toArray s R.cells R.slots (AA g)) (F0 m 0 ls [])) : vx_Met l y (Cond.codeWith y b n ret hh :: LG) R (Pd g K en av) Qc XC R.cells R.slots (AA g) := by
  refine vx_ofWH (cc := b) (maxL := n) (ret := ret) (hh := hh) hy rfl ?_
  intro p e s m args below meth c s₁ B hml hv
  obtain ⟨rfl, hE, hP⟩ := hv
  have hts := atoms_spec (ws := Cond.codeWith y b n ret hh :: LG) B.pre
  have hl := lv_entry av (n := n) hn
  rw [lg_entry_eq]
  exact body p e s m below meth c _ ⟨B.exec, B.bytes, hml, findClass_of_methodNamed B.named, fun w hw => hts w (List.mem_cons_of_mem _ hw)⟩ B.returns B.notSynchronized (vx_table (x := y) B (hts _ List.mem_cons_self)) hE hP va_S.rf hl
end MHO
theorem sw10 {k : Nat} (h : k < 10) : k = 0 ∨ k = 1 ∨ k = 2 ∨ k = 3 ∨ k = 4 ∨ k = 5 ∨ k = 6 ∨ k = 7 ∨ (8 ≤ k ∧ k < 10) := by omega
theorem nI_3 : ∀ k, k < 9 → (3 : Int32) + nI k = nI (3 + k) := by decide +kernel
set_option maxHeartbeats 4000000 in
set_option maxRecDepth 100000 in
theorem c_act (l : Launch) (hl0 : l.stackTraces = false) {g : Gm} (hI : IJ g (KK g)) {M : Mem} {o : Nat → Int64} {n : Nat} (hU : LI n g M) (x : Int32) : vx_Met l yL_act (Cond.codeWith yL_act cL_act 11 (some .boolean) HHt :: LG) RA (Pd g (KK g) (ent g M o) (av3 g x)) (QA n g M o) (vx_X (fun (_ : Unit) => True) (fun _ _ _ => False) (AA g)) 3 25 (AA g) := by
  refine mh_of (R := RA) (by decide +kernel) (Nat.le_of_ble_eq_true rfl) ?_
  intro p e s m below meth c ls hC hr_ hlk htab hE hP hS hl
  obtain ⟨hx, hb, hml, hown, hG⟩ := id hC
  obtain ⟨eM, hW, hL⟩ := hU
  have hl : lv_has ls 11 [(0, .ref (ad g (8, 0, 0))), (1, .ref (ad g (20, 0, 0))), (2, .int x)] := hl
  obtain ⟨v, e0⟩ : ∃ v, M 0 = v := ⟨_, rfl⟩
  rw [e0] at eM hW hL
  have A : AF p l s m meth c g x := ⟨hC, hE, hr_, hlk, htab, hI, hl0⟩
  replace hP : WPe g (KK g) (ent g (setR M 2 v) o) _ := WP.cast hP (setR_id eM)
  refine lv_iload_n hx hb dL_act_0 rfl (lv_at hl 2 rfl) ?_
  refine lv_bipush (v := 8) hx hb dL_act_1 (by decide) ?_
  refine lv_ishr hx hb dL_act_3 ?_
  refine lv_iconst (v := 3) hx hb dL_act_4 (by decide) ?_
  refine on_i (run_S hC hE hP hS (As := [.int (x >>> ((8 : Int32) &&& 31)), .int ((3 : Int32))]) (c_belowL l (x >>> ((8 : Int32) &&& 31)) 3 (by omega) (by omega)) cal_L_below w_553 ⟨Nat.le_of_ble_eq_true rfl, Nat.le_of_ble_eq_true rfl⟩ rfl rfl (Nat.le_of_ble_eq_true rfl) hl.1 ⟨Nat.le_of_ble_eq_true rfl, Nat.le_of_ble_eq_true rfl⟩ dL_act_5) hS (fun H locs hP hS => ?_)
  refine W_joinL (g := g) (K := KK g) (nL := 11) (ent g (setR M 2 v) o) [(0, .ref (ad g (8, 0, 0))), (1, .ref (ad g (20, 0, 0))), (2, .int (x))] (pc := 31) [.int (nI (aF x))] (fun hj31 => ?_) (fun H locs ls hP hS hl => ?_)
  · refine lv_if_ne (tgt := 22) hx hb dL_act_8 (by decide) (fun c1 => ?_) (fun c1 => ?_)
    · refine lv_iconst (v := 3) hx hb dL_act_22 (by decide) ?_
      refine lv_iload_n hx hb dL_act_23 rfl (lv_at hl 2 rfl) ?_
      refine lv_iconst (v := 5) hx hb dL_act_24 (by decide) ?_
      refine lv_ishr hx hb dL_act_25 ?_
      refine lv_iconst (v := 4) hx hb dL_act_26 (by decide) ?_
      refine on_i (run_S hC hE hP hS (As := [.int (x >>> ((5 : Int32) &&& 31)), .int ((4 : Int32))]) (c_belowL l (x >>> ((5 : Int32) &&& 31)) 4 (by omega) (by omega)) cal_L_below w_553 ⟨Nat.le_of_ble_eq_true rfl, Nat.le_of_ble_eq_true rfl⟩ rfl rfl (Nat.le_of_ble_eq_true rfl) hl.1 ⟨Nat.le_of_ble_eq_true rfl, Nat.le_of_ble_eq_true rfl⟩ dL_act_27) hS (fun H locs hP hS => ?_)
      refine lv_iadd hx hb dL_act_30 ?_
      refine m_top (y := nI (3 + bel (x >>> (5 &&& 31)) 4)) (nI_3 _ (Nat.lt_trans (bel_lt (n := 4) (by decide)) (by decide))) ?_
      refine m_top (y := nI (aF x)) (congrArg nI (if_neg (bel_0 (by decide) (by decide) c1)).symm) ?_
      exact hj31 H locs ls (hP.castR (rfl)) hS (lv_sub hl [0, 1, 2] rfl)
    · refine lv_iload_n hx hb dL_act_11 rfl (lv_at hl 2 rfl) ?_
      refine lv_iconst (v := 4) hx hb dL_act_12 (by decide) ?_
      refine lv_ishr hx hb dL_act_13 ?_
      refine lv_bipush (v := 9) hx hb dL_act_14 (by decide) ?_
      refine on_i (run_S hC hE hP hS (As := [.int (x >>> ((4 : Int32) &&& 31)), .int ((9 : Int32))]) (c_belowL l (x >>> ((4 : Int32) &&& 31)) 9 (by omega) (by omega)) cal_L_below w_553 ⟨Nat.le_of_ble_eq_true rfl, Nat.le_of_ble_eq_true rfl⟩ rfl rfl (Nat.le_of_ble_eq_true rfl) hl.1 ⟨Nat.le_of_ble_eq_true rfl, Nat.le_of_ble_eq_true rfl⟩ dL_act_16) hS (fun H locs hP hS => ?_)
      refine lv_goto (tgt := 31) hx hb dL_act_19 (by decide) ?_
      refine m_top (y := nI (aF x)) (congrArg nI (if_pos (bel_1 (by decide) (by decide) c1)).symm) ?_
      exact hj31 H locs ls (hP.castR (rfl)) hS (lv_sub hl [0, 1, 2] rfl)
  · refine lv_istore_n (lv' := [(3, .int (nI (aF x))), (0, .ref (ad g (8, 0, 0))), (1, .ref (ad g (20, 0, 0))), (2, .int (x))]) hx hb dL_act_31 rfl hl (by decide) rfl (fun ls hl => ?_)
    refine lv_iload_n hx hb dL_act_32 rfl (lv_at hl 3 rfl) ?_
    refine lv_bipush (v := 9) hx hb dL_act_33 (by decide) ?_
    refine lv_ishr hx hb dL_act_35 ?_
    refine lv_iconst (v := 3) hx hb dL_act_36 (by decide) ?_
    refine on_i (run_S hC hE hP hS (As := [.int (x >>> ((9 : Int32) &&& 31)), .int ((3 : Int32))]) (c_belowL l (x >>> ((9 : Int32) &&& 31)) 3 (by omega) (by omega)) cal_L_below w_553 ⟨Nat.le_of_ble_eq_true rfl, Nat.le_of_ble_eq_true rfl⟩ rfl rfl (Nat.le_of_ble_eq_true rfl) hl.1 ⟨Nat.le_of_ble_eq_true rfl, Nat.le_of_ble_eq_true rfl⟩ dL_act_37) hS (fun H locs hP hS => ?_)
    refine W_joinL (g := g) (K := KK g) (nL := 11) (ent g (setR M 2 v) o) [(3, .int (nI (aF x))), (0, .ref (ad g (8, 0, 0))), (1, .ref (ad g (20, 0, 0))), (2, .int (x))] (pc := 65) [.int (nI (bF x))] (fun hj65 => ?_) (fun H locs ls hP hS hl => ?_)
    · refine lv_if_ne (tgt := 55) hx hb dL_act_40 (by decide) (fun c2 => ?_) (fun c2 => ?_)
      · refine lv_iconst (v := 3) hx hb dL_act_55 (by decide) ?_
        refine lv_iload_n hx hb dL_act_56 rfl (lv_at hl 3 rfl) ?_
        refine lv_bipush (v := 7) hx hb dL_act_57 (by decide) ?_
        refine lv_ishr hx hb dL_act_59 ?_
        refine lv_iconst (v := 4) hx hb dL_act_60 (by decide) ?_
        refine on_i (run_S hC hE hP hS (As := [.int (x >>> ((7 : Int32) &&& 31)), .int ((4 : Int32))]) (c_belowL l (x >>> ((7 : Int32) &&& 31)) 4 (by omega) (by omega)) cal_L_below w_553 ⟨Nat.le_of_ble_eq_true rfl, Nat.le_of_ble_eq_true rfl⟩ rfl rfl (Nat.le_of_ble_eq_true rfl) hl.1 ⟨Nat.le_of_ble_eq_true rfl, Nat.le_of_ble_eq_true rfl⟩ dL_act_61) hS (fun H locs hP hS => ?_)
        refine lv_iadd hx hb dL_act_64 ?_
        refine m_top (y := nI (3 + bel (x >>> (7 &&& 31)) 4)) (nI_3 _ (Nat.lt_trans (bel_lt (n := 4) (by decide)) (by decide))) ?_
        refine m_top (y := nI (bF x)) (congrArg nI (if_neg (bel_0 (by decide) (by decide) c2)).symm) ?_
        exact hj65 H locs ls (hP.castR (rfl)) hS (lv_sub hl [0, 1, 2, 3] rfl)
      · refine lv_iload_n hx hb dL_act_43 rfl (lv_at hl 3 rfl) ?_
        refine lv_bipush (v := 6) hx hb dL_act_44 (by decide) ?_
        refine lv_ishr hx hb dL_act_46 ?_
        refine lv_bipush (v := 9) hx hb dL_act_47 (by decide) ?_
        refine on_i (run_S hC hE hP hS (As := [.int (x >>> ((6 : Int32) &&& 31)), .int ((9 : Int32))]) (c_belowL l (x >>> ((6 : Int32) &&& 31)) 9 (by omega) (by omega)) cal_L_below w_553 ⟨Nat.le_of_ble_eq_true rfl, Nat.le_of_ble_eq_true rfl⟩ rfl rfl (Nat.le_of_ble_eq_true rfl) hl.1 ⟨Nat.le_of_ble_eq_true rfl, Nat.le_of_ble_eq_true rfl⟩ dL_act_49) hS (fun H locs hP hS => ?_)
        refine lv_goto (tgt := 65) hx hb dL_act_52 (by decide) ?_
        refine m_top (y := nI (bF x)) (congrArg nI (if_pos (bel_1 (by decide) (by decide) c2)).symm) ?_
        exact hj65 H locs ls (hP.castR (rfl)) hS (lv_sub hl [0, 1, 2, 3] rfl)
    · refine lv_istore (lv' := [(4, .int (nI (bF x))), (3, .int (nI (aF x))), (0, .ref (ad g (8, 0, 0))), (1, .ref (ad g (20, 0, 0))), (2, .int (x))]) hx hb dL_act_65 hl (by decide) rfl (fun ls hl => ?_)
      refine lv_iload_n hx hb dL_act_67 rfl (lv_at hl 4 rfl) ?_
      refine lv_bipush (v := 10) hx hb dL_act_68 (by decide) ?_
      refine on_i (run_S hC hE hP hS (As := [.int (x), .int ((10 : Int32))]) (c_belowL l x 10 (by omega) (by omega)) cal_L_below w_553 ⟨Nat.le_of_ble_eq_true rfl, Nat.le_of_ble_eq_true rfl⟩ rfl rfl (Nat.le_of_ble_eq_true rfl) hl.1 ⟨Nat.le_of_ble_eq_true rfl, Nat.le_of_ble_eq_true rfl⟩ dL_act_70) hS (fun H locs hP hS => ?_)
      rcases sw10 (bel_lt (v := x) (n := 10) (by decide)) with h0 | h0 | h0 | h0 | h0 | h0 | h0 | h0 | h0
      · refine lv_tableIn (off := 47) (tgt := 120) hx hb dL_act_73 (by rw [h0]; decide) (by rw [h0]; decide) (by rw [h0]; decide) (by decide) ?_
        exact a_set A hW hL e0 aF_lt bF_lt hP hS hl
      · refine lv_tableIn (off := 47) (tgt := 120) hx hb dL_act_73 (by rw [h0]; decide) (by rw [h0]; decide) (by rw [h0]; decide) (by decide) ?_
        exact a_set A hW hL e0 aF_lt bF_lt hP hS hl
      · refine lv_tableIn (off := 47) (tgt := 120) hx hb dL_act_73 (by rw [h0]; decide) (by rw [h0]; decide) (by rw [h0]; decide) (by decide) ?_
        exact a_set A hW hL e0 aF_lt bF_lt hP hS hl
      · refine lv_tableIn (off := 172) (tgt := 245) hx hb dL_act_73 (by rw [h0]; decide) (by rw [h0]; decide) (by rw [h0]; decide) (by decide) ?_
        exact a_frost A hW hL e0 aF_lt bF_lt hP hS hl
      · refine lv_tableIn (off := 257) (tgt := 330) hx hb dL_act_73 (by rw [h0]; decide) (by rw [h0]; decide) (by rw [h0]; decide) (by decide) ?_
        exact a_cut A hW hL aF_lt bF_lt e0 hP hS hl
      · refine lv_tableIn (off := 257) (tgt := 330) hx hb dL_act_73 (by rw [h0]; decide) (by rw [h0]; decide) (by rw [h0]; decide) (by decide) ?_
        exact a_cut A hW hL aF_lt bF_lt e0 hP hS hl
      · refine lv_tableIn (off := 368) (tgt := 441) hx hb dL_act_73 (by rw [h0]; decide) (by rw [h0]; decide) (by rw [h0]; decide) (by decide) ?_
        exact a_lic A hW hL aF_lt bF_lt e0 hP hS hl
      · refine lv_tableIn (off := 497) (tgt := 570) hx hb dL_act_73 (by rw [h0]; decide) (by rw [h0]; decide) (by rw [h0]; decide) (by decide) ?_
        exact a_war A hW hL aF_lt bF_lt e0 hP hS hl
      · refine lv_tableOut (tgt := 668) hx hb dL_act_73 (Or.inr (by rw [nI_toInt (by omega)]; omega)) (by decide) ?_
        exact a_go A hW hL aF_lt bF_lt e0 hP hS hl
