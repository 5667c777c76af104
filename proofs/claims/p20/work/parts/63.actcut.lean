/-! The law's act: a hole cut. -/
theorem n_585 : Cond.castable E_st E_st ∈ NW := NW_in 611 (by decide +kernel) rfl
theorem Gk.hS {g0 g : Gm} (G : Gk g0 g) {H0 H : Heap} {locs : List Loc} (h : va_S (AA g) H0 H locs) : va_S (AA g0) H0 H locs := by
  have e : AA g = AA g0 := by unfold AA; rw [G.2.1]
  rw [← e]; exact h
theorem Gk.Sh {g0 g : Gm} (G : Gk g0 g) {H0 H : Heap} {locs : List Loc} (h : va_S (AA g0) H0 H locs) : va_S (AA g) H0 H locs := by
  have e : AA g = AA g0 := by unfold AA; rw [G.2.1]
  rw [e]; exact h
theorem Ua_2 {n : Nat} {g0 g' : Gm} {M0 M' : Mem} {v' : Vw} (G : Gk g0 g') (e3 : M' 3 = M0 3) (e2 : M' 2 = v') (e0 : M' 0 = v') (hW : Lw n v') (hL : SimL g' v') (hI : IJ g' (KK g')) : Ua n g0 M0 (g', M') := by
  refine ⟨G, e3, ⟨e2.trans e0.symm, ?_, ?_⟩, hI⟩
  · show Lw n (M' 0)
    rw [e0]; exact hW
  · show SimL g' (M' 0)
    rw [e0]; exact hL
theorem setR_cm {M : Mem} {a b : Vw} : setR (setR M 0 a) 2 b = setR (setR M 2 b) 0 a := by
  funext r
  unfold setR
  by_cases h : r = 2
  · rw [if_pos h, if_neg (by omega), if_pos h]
  · rw [if_neg h]
    by_cases h2 : r = 0
    · rw [if_pos h2, if_pos h2]
    · rw [if_neg h2, if_neg h2, if_neg h]
theorem lst1_or {p : Nat → Bool} : ∀ n, lst1 p n = -1 ∨ ∃ h, h < n ∧ lst1 p n = nI h := by
  intro n
  induction n with
  | zero => exact Or.inl rfl
  | succ n ih =>
    cases q : p n with
    | true => exact Or.inr ⟨n, by omega, lst1_t q⟩
    | false =>
      rw [lst1_f q]
      rcases ih with h | ⟨h, h1, h2⟩
      · exact Or.inl h
      · exact Or.inr ⟨h, by omega, h2⟩
theorem openIn_lt {v : Vw} (hv : Inv v) (hu : Uq v) {x y : Int32} (h : openIn v x y < 0) : openIn v x y = -1 := by
  have qH := hv.lH
  rcases lst1_or (p := opn1 v x y) (nH v) with q | ⟨i, h1, h2⟩
  · rw [← lst1_o hv hu]; exact q
  · rw [← lst1_o hv hu, h2] at h
    exact absurd h (nI_pos (by omega))
theorem openIn_ge {v : Vw} {x y : Int32} (h : 0 ≤ openIn v x y) : ¬ openIn v x y = -1 := fun z => by rw [z] at h; exact absurd h (by decide)
set_option maxHeartbeats 4000000 in
set_option maxRecDepth 100000 in
theorem a_cut2 {p : Program} {l : Launch} {e : Jvm.Env} {s : State} {m : MethodId} {below : List Frame} {meth : Method} {c : Code} {g0 g : Gm} {x : Int32} {n : Nat} {M0 M : Mem} {o : Nat → Int64} {H : Heap} {locs : List Loc} {ls : Array Slot} (A : AF p l s m meth c g0 x) (G : Gk g0 g) (hI : IJ g (KK g)) {v : Vw} (hW : Lw n v) (hL : SimL g v) {a b : Nat} (ha9 : a < 9) (hb9 : b < 9) (h12 : nH v < 12) (hW1 : Lw n (addH v (nI a) (nI b))) (e0 : M 0 = addH v (nI a) (nI b)) (e3 : M 3 = M0 3) (zL : lk g (23, 0, nH v)) {ra : Nat} (era : ad g (23, 0, nH v) = ra) (hP : WP g (setR M 2 (up2 (up2 (up2 v 3 (nH v) (nI a)) 4 (nH v) (nI b)) 5 (nH v) 1)) o H) (hS : va_S (AA g) s.heap H locs) (hl : lv_has ls 11 [(5, .int (nI (nH v))), (6, .int ((1 : Int32))), (4, .int (nI b)), (3, .int (nI a)), (0, .ref (ad g0 (8, 0, 0))), (1, .ref (ad g0 (20, 0, 0))), (2, .int (x))]) : WA p l e s m below meth c g0 x n M0 o H locs 1 3 (F0 m 419 ls [.ref ra]) := by
  obtain ⟨hC, hE0, hr_, hlk, htab, hI0, hl0⟩ := id A
  obtain ⟨hx, hb, hml, hown, hG⟩ := id hC
  have hE : Ev g s := hE0.to G.1 G.2.1
  rw [← (G.2.2 (8, 0, 0) (by unfold LK; decide)).1, ← (G.2.2 (20, 0, 0) (by unfold LK; decide)).1] at hl
  have hv := hW.iv
  have qH := hv.lH
  have qS := hv.lS
  have qW := hv.lW
  subst era
  have hc1 : Cn v (up2 (up2 (up2 v 3 (nH v) (nI a)) 4 (nH v) (nI b)) 5 (nH v) 1) := ((Cn.rf.up (by omega)).up (by omega)).up (by omega)
  have hL2 := hL.cn hc1
  refine lv_astore (lv' := [(7, .ref (ad g (23, 0, nH v))), (5, .int (nI (nH v))), (6, .int ((1 : Int32))), (4, .int (nI b)), (3, .int (nI a)), (0, .ref (ad g (8, 0, 0))), (1, .ref (ad g (20, 0, 0))), (2, .int (x))]) hx hb dL_act_419 hl (by decide) rfl (fun ls hl => ?_)
  refine lv_iload hx hb dL_act_421 (lv_at hl 2 rfl) ?_
  refine lv_if_eq (tgt := 439) hx hb dL_act_423 (by decide) (fun c1 => absurd c1 (by decide)) (fun c1 => ?_)
  refine lv_aload_n hx hb dL_act_426 rfl (lv_at hl 6 rfl) ?_
  refine lv_aload_n hx hb dL_act_427 rfl (lv_at hl 6 rfl) ?_
  refine m_get hC hE hP (k_20 hL2) e_20 rfl u_5 3 (by decide) w_656 rfl rfl dL_act_428 ?_
  refine lv_aload hx hb dL_act_431 (lv_at hl 0 rfl) ?_
  refine m_growH hC hE hI hL h12 zL hP hS dL_act_433 dL_act_436 hl.1 (Nat.le_of_ble_eq_true rfl) (Nat.le_of_ble_eq_true rfl) ⟨Nat.le_of_ble_eq_true rfl, Nat.le_of_ble_eq_true rfl⟩ (fun g1 H locs G1 hL1 hI1 hP hS => ?_)
  refine lv_iconst (v := 1) hx hb dL_act_439 (by decide) ?_
  exact a_end A (by decide) (by decide) (u := (g1, setR M 2 (addH v (nI a) (nI b)))) hP (G.hS hS) (Ua_2 (G.tr G1) ((setR_ne _ _ (by decide)).trans e3) (setR_same _ _ _) ((setR_ne _ _ (by decide)).trans e0) hW1 hL1 hI1) rfl dL_act_440
set_option maxHeartbeats 4000000 in
set_option maxRecDepth 100000 in
theorem a_cutY {p : Program} {l : Launch} {e : Jvm.Env} {s : State} {m : MethodId} {below : List Frame} {meth : Method} {c : Code} {g : Gm} {x : Int32} {n : Nat} {M : Mem} {o : Nat → Int64} {H : Heap} {locs : List Loc} {ls : Array Slot} (A : AF p l s m meth c g x) {v : Vw} (hW : Lw n v) (hL : SimL g v) {a b : Nat} (ha9 : a < 9) (hb9 : b < 9) (e0 : M 0 = v) (h5 : ¬ v 16 3 < 5) (h12 : nH v < 12) (ho : openIn v (nI a) (nI b) = -1) (hP : WP g (setR M 2 v) o H) (hS : va_S (AA g) s.heap H locs) (hl : lv_has ls 11 [(4, .int (nI b)), (3, .int (nI a)), (0, .ref (ad g (8, 0, 0))), (1, .ref (ad g (20, 0, 0))), (2, .int (x))]) : WA p l e s m below meth c g x n M o H locs 0 0 (F0 m 358 ls []) := by
  obtain ⟨hC, hE, hr_, hlk, htab, hI, hl0⟩ := id A
  obtain ⟨hx, hb, hml, hown, hG⟩ := id hC
  have hv := hW.iv
  have qH := hv.lH
  have qS := hv.lS
  have qW := hv.lW
  refine lv_iconst (v := 1) hx hb dL_act_358 (by decide) ?_
  refine lv_goto (tgt := 363) hx hb dL_act_359 (by decide) ?_
  refine lv_istore (lv' := [(6, .int ((1 : Int32))), (4, .int (nI b)), (3, .int (nI a)), (0, .ref (ad g (8, 0, 0))), (1, .ref (ad g (20, 0, 0))), (2, .int (x))]) hx hb dL_act_363 hl (by decide) rfl (fun ls hl => ?_)
  replace hP : WPe g (KK g) (ent g (setR (setR M 2 v) 0 v) o) _ := WP.cast hP (setR_id ((setR_ne _ _ (by decide)).trans e0))
  refine lv_aload_n hx hb dL_act_365 rfl (lv_at hl 3 rfl) ?_
  refine lv_iload_n hx hb dL_act_366 rfl (lv_at hl 2 rfl) ?_
  refine lv_iload hx hb dL_act_367 (lv_at hl 1 rfl) ?_
  refine on_i (run_V hC hE hP hS (As := [.int (nI a), .int (nI b)]) (c_cutP_0 l hI (M := (setR M 2 v)) hv a b ha9 hb9 (cell_in ha9 hb9) h5 h12 ho) cal_X4_cut w_579 ⟨Nat.le_of_ble_eq_true rfl, Nat.le_of_ble_eq_true rfl⟩ k_8 f_8 rfl rfl rfl (Nat.le_of_ble_eq_true rfl) hl.1 ⟨Nat.le_of_ble_eq_true rfl, Nat.le_of_ble_eq_true rfl⟩ dL_act_369) hS (fun H locs hP hS => ?_)
  replace hP : WPe g (KK g) (ent g (setR (setR M 0 (addH v (nI a) (nI b))) 2 v) o) _ := WP.cast hP setR_cm
  refine lv_istore (lv' := [(5, .int (nI (nH v))), (6, .int ((1 : Int32))), (4, .int (nI b)), (3, .int (nI a)), (0, .ref (ad g (8, 0, 0))), (1, .ref (ad g (20, 0, 0))), (2, .int (x))]) hx hb dL_act_372 hl (by decide) rfl (fun ls hl => ?_)
  refine lv_goto (tgt := 382) hx hb dL_act_374 (by decide) ?_
  refine lv_iload hx hb dL_act_382 (lv_at hl 0 rfl) ?_
  refine lv_iload hx hb dL_act_384 (lv_at hl 1 rfl) ?_
  refine lv_if_eq (tgt := 397) hx hb dL_act_386 (by decide) (fun c1 => absurd c1 (by decide)) (fun c1 => ?_)
  refine lv_aload_n hx hb dL_act_389 rfl (lv_at hl 5 rfl) ?_
  refine m_get hC hE hP (k_20 hL) e_20 rfl u_5 3 (by decide) w_656 rfl rfl dL_act_390 ?_
  refine m_alnA hC hE hP (k_27 hL) e_27 (congrArg nI Cn.rf.1) dL_act_393 ?_
  refine lv_goto (tgt := 398) hx hb dL_act_394 (by decide) ?_
  refine lv_icmp_eq (tgt := 403) hx hb dL_act_398 (by decide) (fun c2 => ?_) (fun c2 => absurd (rfl) c2)
  refine lv_iconst (v := 3) hx hb dL_act_403 (by decide) ?_
  have hAa : AA g H.size := Nat.le_trans hE.2.2.2.2.1 hS.1
  have hab : ∀ k, KK g k → ad g k ≠ H.size := fun k hk z => by have := (hP k hk).lt; rw [z] at this; exact absurd this (Nat.lt_irrefl _)
  have o0 := hP
  refine m_newI hC hE hS (N := 3) (by decide) rfl (by decide) (Nat.le_of_ble_eq_true rfl) (Nat.le_of_ble_eq_true rfl) dL_act_404 (fun H1 z1 o1 ha hS => ?_)
  replace hP := fun k hk => (o0 k hk).kept (o1 _ (o0 k hk).lt)
  change WPe g (KK g) _ H1 at hP
  obtain ⟨ra, era⟩ : ∃ ra, ra = H.size := ⟨_, rfl⟩
  rw [← era] at ha hab hAa ⊢
  refine lv_dup hx hb dL_act_406 rfl ?_
  refine lv_iconst (v := 0) hx hb dL_act_407 (by decide) ?_
  refine lv_iload_n hx hb dL_act_408 rfl (lv_at hl 3 rfl) ?_
  refine m_iasR hC hE hP hS ha hAa hab 0 rfl (by decide) (by decide) dL_act_409 (fun H locs z ha hP hS => ?_)
  refine lv_dup hx hb dL_act_410 rfl ?_
  refine lv_iconst (v := 1) hx hb dL_act_411 (by decide) ?_
  refine lv_iload hx hb dL_act_412 (lv_at hl 2 rfl) ?_
  refine m_iasR hC hE hP hS ha hAa hab 1 rfl (by decide) (by decide) dL_act_414 (fun H locs z ha hP hS => ?_)
  refine lv_dup hx hb dL_act_415 rfl ?_
  refine lv_iconst (v := 2) hx hb dL_act_416 (by decide) ?_
  refine lv_iconst (v := 1) hx hb dL_act_417 (by decide) ?_
  refine m_iasR hC hE hP hS ha hAa hab 2 rfl (by decide) (by decide) dL_act_418 (fun H locs z ha hP hS => ?_)
  obtain ⟨hP1, hI1⟩ := own_H hI hP ha hAa hab (x0 := nI a) (x1 := nI b) (x2 := 1) (fun j hj => by rcases (show j = 0 ∨ j = 1 ∨ j = 2 by omega) with rfl | rfl | rfl <;> simp [upd, rH, up2])
  exact a_cut2 A (Gk.gA (by unfold LK; show ¬ (23 ≤ 22 ∨ 23 = 26 ∨ 23 = 30); decide)) hI1 hW hL.gA ha9 hb9 h12 (hW.cut h12 ⟨a, ha9, rfl⟩ ⟨b, hb9, rfl⟩ ho) (setR_same _ _ _) (setR_ne _ _ (by decide)) (Or.inl rfl) gA_ad hP1 hS (lv_sub hl [0, 1, 2, 3, 4, 5, 6] rfl)
set_option maxHeartbeats 4000000 in
set_option maxRecDepth 100000 in
theorem a_cutN {p : Program} {l : Launch} {e : Jvm.Env} {s : State} {m : MethodId} {below : List Frame} {meth : Method} {c : Code} {g : Gm} {x : Int32} {n : Nat} {M : Mem} {o : Nat → Int64} {H : Heap} {locs : List Loc} {ls : Array Slot} (A : AF p l s m meth c g x) {v : Vw} (hW : Lw n v) (hL : SimL g v) {a b : Nat} (ha9 : a < 9) (hb9 : b < 9) (e0 : M 0 = v) (hM : MX l yX4_cut cX4_cut 3 .int (rmx 6 100) g (KK g) (ent g (setR (setR M 2 v) 0 v) o) [.ref (ad g (8, 0, 0)), .int (nI a), .int (nI b)] E_st) (hP : WP g (setR M 2 v) o H) (hS : va_S (AA g) s.heap H locs) (hl : lv_has ls 11 [(4, .int (nI b)), (3, .int (nI a)), (0, .ref (ad g (8, 0, 0))), (1, .ref (ad g (20, 0, 0))), (2, .int (x))]) : WA p l e s m below meth c g x n M o H locs 0 0 (F0 m 362 ls []) := by
  obtain ⟨hC, hE, hr_, hlk, htab, hI, hl0⟩ := id A
  obtain ⟨hx, hb, hml, hown, hG⟩ := id hC
  have hv := hW.iv
  have qH := hv.lH
  have qS := hv.lS
  have qW := hv.lW
  refine lv_iconst (v := 0) hx hb dL_act_362 (by decide) ?_
  refine lv_istore (lv' := [(6, .int ((0 : Int32))), (4, .int (nI b)), (3, .int (nI a)), (0, .ref (ad g (8, 0, 0))), (1, .ref (ad g (20, 0, 0))), (2, .int (x))]) hx hb dL_act_363 hl (by decide) rfl (fun ls hl => ?_)
  replace hP : WPe g (KK g) (ent g (setR (setR M 2 v) 0 v) o) _ := WP.cast hP (setR_id ((setR_ne _ _ (by decide)).trans e0))
  refine lv_aload_n hx hb dL_act_365 rfl (lv_at hl 3 rfl) ?_
  refine lv_iload_n hx hb dL_act_366 rfl (lv_at hl 2 rfl) ?_
  refine lv_iload hx hb dL_act_367 (lv_at hl 1 rfl) ?_
  refine on_x (run_VX hC hE hP hS (As := [.int (nI a), .int (nI b)]) (hM) cal_X4_cut w_579 ⟨Nat.le_of_ble_eq_true rfl, Nat.le_of_ble_eq_true rfl⟩ k_8 f_8 rfl rfl rfl (Nat.le_of_ble_eq_true rfl) hl.1 ⟨Nat.le_of_ble_eq_true rfl, Nat.le_of_ble_eq_true rfl⟩ dL_act_369) hS (fun ce q9 H locs hP hS hc1 hc2 hc3 => ?_)
  refine vx_catch (own := RL) (name := E_st) (E := E_st) hown [] (⟨365, 374, 377, 50⟩ : ExceptionTableEntry) [(⟨508, 522, 525, 50⟩ : ExceptionTableEntry), (⟨608, 621, 624, 50⟩ : ExceptionTableEntry), (⟨745, 755, 758, 50⟩ : ExceptionTableEntry)] (htab.trans rfl) (fun z hz => absurd hz List.not_mem_nil) (by decide) (by decide) (hG _ w_564) (NW_use n_585 (hE.2.1.1 _ n_585)) hc1 hc2 hc3 ?_
  replace hP : WPe g (KK g) (ent g (setR M 2 v) o) _ := WP.cast hP (setR_id ((setR_ne _ _ (by decide)).trans e0)).symm
  refine lv_astore (lv' := [(7, .ref q9), (6, .int ((0 : Int32))), (4, .int (nI b)), (3, .int (nI a)), (0, .ref (ad g (8, 0, 0))), (1, .ref (ad g (20, 0, 0))), (2, .int (x))]) hx hb dL_act_377 hl (by decide) rfl (fun ls hl => ?_)
  refine lv_iconst (v := (-1)) hx hb dL_act_379 (by decide) ?_
  refine lv_istore (lv' := [(5, .int ((-1 : Int32))), (7, .ref q9), (6, .int ((0 : Int32))), (4, .int (nI b)), (3, .int (nI a)), (0, .ref (ad g (8, 0, 0))), (1, .ref (ad g (20, 0, 0))), (2, .int (x))]) hx hb dL_act_380 hl (by decide) rfl (fun ls hl => ?_)
  refine lv_iload hx hb dL_act_382 (lv_at hl 0 rfl) ?_
  refine lv_iload hx hb dL_act_384 (lv_at hl 2 rfl) ?_
  refine lv_if_eq (tgt := 397) hx hb dL_act_386 (by decide) (fun c1 => ?_) (fun c1 => absurd (rfl) c1)
  refine lv_iconst (v := (-1)) hx hb dL_act_397 (by decide) ?_
  refine lv_icmp_eq (tgt := 403) hx hb dL_act_398 (by decide) (fun c2 => ?_) (fun c2 => absurd (rfl) c2)
  refine lv_iconst (v := 3) hx hb dL_act_403 (by decide) ?_
  have hAa : AA g H.size := Nat.le_trans hE.2.2.2.2.1 hS.1
  have hab : ∀ k, KK g k → ad g k ≠ H.size := fun k hk z => by have := (hP k hk).lt; rw [z] at this; exact absurd this (Nat.lt_irrefl _)
  have o0 := hP
  refine m_newI hC hE hS (N := 3) (by decide) rfl (by decide) (Nat.le_of_ble_eq_true rfl) (Nat.le_of_ble_eq_true rfl) dL_act_404 (fun H1 z1 o1 ha hS => ?_)
  replace hP := fun k hk => (o0 k hk).kept (o1 _ (o0 k hk).lt)
  change WPe g (KK g) _ H1 at hP
  obtain ⟨ra, era⟩ : ∃ ra, ra = H.size := ⟨_, rfl⟩
  rw [← era] at ha hab hAa ⊢
  refine lv_dup hx hb dL_act_406 rfl ?_
  refine lv_iconst (v := 0) hx hb dL_act_407 (by decide) ?_
  refine lv_iload_n hx hb dL_act_408 rfl (lv_at hl 4 rfl) ?_
  refine m_iasR hC hE hP hS ha hAa hab 0 rfl (by decide) (by decide) dL_act_409 (fun H locs z ha hP hS => ?_)
  refine lv_dup hx hb dL_act_410 rfl ?_
  refine lv_iconst (v := 1) hx hb dL_act_411 (by decide) ?_
  refine lv_iload hx hb dL_act_412 (lv_at hl 3 rfl) ?_
  refine m_iasR hC hE hP hS ha hAa hab 1 rfl (by decide) (by decide) dL_act_414 (fun H locs z ha hP hS => ?_)
  refine lv_dup hx hb dL_act_415 rfl ?_
  refine lv_iconst (v := 2) hx hb dL_act_416 (by decide) ?_
  refine lv_iconst (v := 1) hx hb dL_act_417 (by decide) ?_
  refine m_iasR hC hE hP hS ha hAa hab 2 rfl (by decide) (by decide) dL_act_418 (fun H locs z ha hP hS => ?_)
  refine lv_astore (lv' := [(7, .ref ra), (5, .int ((-1 : Int32))), (6, .int ((0 : Int32))), (4, .int (nI b)), (3, .int (nI a)), (0, .ref (ad g (8, 0, 0))), (1, .ref (ad g (20, 0, 0))), (2, .int (x))]) hx hb dL_act_419 hl (by decide) rfl (fun ls hl => ?_)
  refine lv_iload hx hb dL_act_421 (lv_at hl 2 rfl) ?_
  refine lv_if_eq (tgt := 439) hx hb dL_act_423 (by decide) (fun c3 => ?_) (fun c3 => absurd (rfl) c3)
  refine lv_iconst (v := 1) hx hb dL_act_439 (by decide) ?_
  exact a_end A (by decide) (by decide) (u := (g, setR M 2 v)) hP hS (Ua_2 Gk.rf (setR_ne _ _ (by decide)) (setR_same _ _ _) ((setR_ne _ _ (by decide)).trans e0) hW hL hI) rfl dL_act_440
set_option maxHeartbeats 4000000 in
set_option maxRecDepth 100000 in
theorem a_cut {p : Program} {l : Launch} {e : Jvm.Env} {s : State} {m : MethodId} {below : List Frame} {meth : Method} {c : Code} {g : Gm} {x : Int32} {n : Nat} {M : Mem} {o : Nat → Int64} {H : Heap} {locs : List Loc} {ls : Array Slot} (A : AF p l s m meth c g x) {v : Vw} (hW : Lw n v) (hL : SimL g v) {a b : Nat} (ha9 : a < 9) (hb9 : b < 9) (e0 : M 0 = v) (hP : WP g (setR M 2 v) o H) (hS : va_S (AA g) s.heap H locs) (hl : lv_has ls 11 [(4, .int (nI b)), (3, .int (nI a)), (0, .ref (ad g (8, 0, 0))), (1, .ref (ad g (20, 0, 0))), (2, .int (x))]) : WA p l e s m below meth c g x n M o H locs 0 0 (F0 m 330 ls []) := by
  obtain ⟨hC, hE, hr_, hlk, htab, hI, hl0⟩ := id A
  obtain ⟨hx, hb, hml, hown, hG⟩ := id hC
  have hv := hW.iv
  have qH := hv.lH
  have qS := hv.lS
  have qW := hv.lW
  refine lv_aload_n hx hb dL_act_330 rfl (lv_at hl 3 rfl) ?_
  refine m_get hC hE hP (k_20 hL) e_20 rfl u_5 7 (by decide) w_663 rfl rfl dL_act_331 ?_
  refine lv_iconst (v := 5) hx hb dL_act_334 (by decide) ?_
  refine lv_icmp_lt (tgt := 362) hx hb dL_act_335 (by decide) (fun c1 => ?_) (fun c1 => ?_)
  · exact a_cutN A hW hL ha9 hb9 e0 (by first | exact c_cutP_2a l hl0 hI _ _ (cell_in ha9 hb9) c1 | exact c_cutP_2b l hl0 hI hv _ _ (cell_in ha9 hb9) c1 (openIn_ge c2) | exact c_cutP_2c l hl0 hI hv _ _ (cell_in ha9 hb9) c1 (openIn_lt hv hW.2.1 (Int32.not_le.mp c2)) (Nat.le_antisymm qH (Nat.not_lt.mp fun z => nI_ge (b := 12) z (by decide) c3))) hP hS hl
  · refine lv_aload_n hx hb dL_act_338 rfl (lv_at hl 3 rfl) ?_
    refine lv_iload_n hx hb dL_act_339 rfl (lv_at hl 1 rfl) ?_
    refine lv_iload hx hb dL_act_340 (lv_at hl 0 rfl) ?_
    refine on_i (run_V hC hE hP hS (As := [.int (nI a), .int (nI b)]) (c_openAtS l hI hv hL (nI a) (nI b)) cal_X5_openAt w_578 ⟨Nat.le_of_ble_eq_true rfl, Nat.le_of_ble_eq_true rfl⟩ (k_20 hL) e_20 rfl rfl rfl (Nat.le_of_ble_eq_true rfl) hl.1 ⟨Nat.le_of_ble_eq_true rfl, Nat.le_of_ble_eq_true rfl⟩ dL_act_342) hS (fun H locs hP hS => ?_)
    refine m_top (y := openIn v (nI a) (nI b)) (lst1_o hv hW.2.1) ?_
    refine lv_if_ge (tgt := 362) hx hb dL_act_345 (by decide) (fun c2 => ?_) (fun c2 => ?_)
    · exact a_cutN A hW hL ha9 hb9 e0 (by first | exact c_cutP_2a l hl0 hI _ _ (cell_in ha9 hb9) c1 | exact c_cutP_2b l hl0 hI hv _ _ (cell_in ha9 hb9) c1 (openIn_ge c2) | exact c_cutP_2c l hl0 hI hv _ _ (cell_in ha9 hb9) c1 (openIn_lt hv hW.2.1 (Int32.not_le.mp c2)) (Nat.le_antisymm qH (Nat.not_lt.mp fun z => nI_ge (b := 12) z (by decide) c3))) hP hS hl
    · refine lv_aload_n hx hb dL_act_348 rfl (lv_at hl 3 rfl) ?_
      refine m_get hC hE hP (k_20 hL) e_20 rfl u_5 3 (by decide) w_656 rfl rfl dL_act_349 ?_
      refine m_alnA hC hE hP (k_27 hL) e_27 (congrArg nI Cn.rf.1) dL_act_352 ?_
      refine lv_bipush (v := 12) hx hb dL_act_353 (by decide) ?_
      refine lv_icmp_ge (tgt := 362) hx hb dL_act_355 (by decide) (fun c3 => ?_) (fun c3 => ?_)
      · exact a_cutN A hW hL ha9 hb9 e0 (by first | exact c_cutP_2a l hl0 hI _ _ (cell_in ha9 hb9) c1 | exact c_cutP_2b l hl0 hI hv _ _ (cell_in ha9 hb9) c1 (openIn_ge c2) | exact c_cutP_2c l hl0 hI hv _ _ (cell_in ha9 hb9) c1 (openIn_lt hv hW.2.1 (Int32.not_le.mp c2)) (Nat.le_antisymm qH (Nat.not_lt.mp fun z => nI_ge (b := 12) z (by decide) c3))) hP hS hl
      · exact a_cutY A hW hL ha9 hb9 e0 c1 (Nat.not_le.mp fun z => c3 (nI_le (a := 12) z (by omega))) (openIn_lt hv hW.2.1 (Int32.not_le.mp c2)) hP hS hl
