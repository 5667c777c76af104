/-! The law's act: a spearer, a warden let in. -/
theorem Gk.gX {g : Gm} {k : Key} (h : ¬ LK k) : Gk g (gX g k) := ⟨rfl, rfl, fun _ hj => ⟨rfl, fun q => ⟨fun z => h (z ▸ hj), q⟩⟩⟩
theorem gX_dn {g : Gm} {k j : Key} (h : KK (gX g k) j) : KK g j := KK_lk (fun q => And.right (show j ≠ k ∧ lk g j from q)) h
theorem IJ_gX {g : Gm} {k : Key} (h : IJ g (KK g)) : IJ (gX g k) (KK (gX g k)) := ⟨fun i j h1 h2 e => h.1 i j (gX_dn h1) (gX_dn h2) e, fun j hj => h.2 j (gX_dn hj)⟩
theorem pace_in : ∀ j, j < 8 → isIn (nI (j + 1)) 1 8 = true := by decide +kernel
/-- a number chosen, a row at hand -/
def kR : Key := (99, 0, 0)
theorem on_bel {p : Program} (l : Launch) {e : Jvm.Env} {R : Room} {s : State} {m : MethodId} {args : Array Value} {below : List Frame} {meth : Method} {c : Code} {H : Heap} {locs : List Loc} {cells slots : Nat} {Q : State → Prop} {cc : ByteArray} {nL pc : Nat} {ls : Array Slot} {rest : List Value} {g : Gm} {en : Key → va_E} (hC : CallFix p m c cc nL s args LG RL) (hE : Ev g s) (hP : WPe g (KK g) en H) (hS : va_S (AA g) s.heap H locs) {ra n0 : Nat} {f : Nat → Int32} (ha : H[ra]? = some (vp_cell (gC g 0) (n0, .inl f))) (v : Int32) (N : Nat) (h0 : 0 < N) (hN : N < 2 ^ 31) {y : Int32} (hy : y = nI N) (hR : 1 ≤ R.frames ∧ 21 ≤ R.locals) (hroom : (rest.map fun v => v.category).sum ≤ 8) (hls : ls.size = nL) (hf : cells ≤ R.cells ∧ slots ≤ R.slots) (hdg : decode cc pc = .ok (.invokestatic 9, 3))
    (kk : ∀ (H1 : Heap) (locs1 : List Loc), H1[ra]? = some (vp_cell (gC g 0) (n0, .inl f)) → WPe g (KK g) en H1 → va_S (AA g) s.heap H1 locs1 → W p l e R s m args below meth c H1 locs1 cells slots Q (F0 m (pc + 3) ls (.int (nI (bel v N)) :: rest))) : W p l e R s m args below meth c H locs cells slots Q (F0 m pc ls (.int y :: .int v :: rest)) := by
  subst hy
  have hn : ∀ k, KK g k → k ≠ kR := fun k hk z => by
    subst z
    have := KK_tag hk
    unfold kR at this
    simp at this
  have hP2 : WPe (gA g kR ra) (fun k => KK g k ∨ k = kR) (updE en kR (.inl (gC g 0, n0, .inl f))) H := fun k hk => by
    rcases hk with hk | rfl
    · rw [gA_ne (hn k hk), updE_ne (hn k hk)]
      exact hP k hk
    · rw [gA_ad, updE_same]
      exact ha
  refine on_i (cells := cells) (slots := slots) (run_S (g := gA g kR ra) hC (hE.to rfl rfl) hP2 hS (As := [.int v, .int (nI N)]) (c_belowL l v N h0 hN) cal_L_below w_553 ⟨hR.1, hR.2⟩ rfl rfl hroom hls hf hdg) hS (fun H1 locs1 hP1 hS1 => ?_)
  refine kk H1 locs1 ?_ (fun k hk => ?_) hS1
  · have q := hP1 kR (Or.inr rfl)
    rw [gA_ad, updE_same] at q
    exact q
  · have q := hP1 k (Or.inl hk)
    rw [gA_ne (hn k hk), updE_ne (hn k hk)] at q
    exact q
set_option maxHeartbeats 4000000 in
set_option maxRecDepth 100000 in
theorem a_lic3Y {p : Program} {l : Launch} {e : Jvm.Env} {s : State} {m : MethodId} {below : List Frame} {meth : Method} {c : Code} {g0 g : Gm} {x : Int32} {n : Nat} {M0 M : Mem} {o : Nat → Int64} {H : Heap} {locs : List Loc} {ls : Array Slot} (A : AF p l s m meth c g0 x) (G : Gk g0 g) (hI : IJ g (KK g)) {v : Vw} (hW : Lw n v) (hL : SimL g v) {a b : Nat} (ha9 : a < 9) (hb9 : b < 9) {p0 q0 : Nat} (hp : p0 < 31) (hq : q0 < 5) (h8 : nS v < 8) (e0 : M 0 = v) (e3 : M 3 = M0 3) (zL : lk g (24, 2, nS v)) {ra : Nat} (era : ad g (24, 2, nS v) = ra) (hP : WP g (setR M 2 (up2 (up2 (up2 (up2 (up2 (up2 v 6 (nS v) (nI p0)) 7 (nS v) (nI q0)) 8 (nS v) (-1)) 9 (nS v) 0) 10 (nS v) 0) 11 (nS v) 0)) o H) (hS : va_S (AA g) s.heap H locs) (hl : lv_has ls 11 [(7, .int (nI (nS v))), (6, .ref ra), (4, .int (nI b)), (3, .int (nI a)), (0, .ref (ad g0 (8, 0, 0))), (1, .ref (ad g0 (20, 0, 0))), (2, .int (x))]) : WA p l e s m below meth c g0 x n M0 o H locs 1 6 (F0 m 517 ls [.int (nI q0), .int (nI p0), .ref (ad g0 (8, 0, 0))]) := by
  obtain ⟨hC, hE0, hr_, hlk, htab, hI0, hl0⟩ := id A
  obtain ⟨hx, hb, hml, hown, hG⟩ := id hC
  have hE : Ev g s := hE0.to G.1 G.2.1
  rw [← (G.2.2 (8, 0, 0) (by unfold LK; decide)).1, ← (G.2.2 (20, 0, 0) (by unfold LK; decide)).1] at hl
  have hv := hW.iv
  have qH := hv.lH
  have qS := hv.lS
  have qW := hv.lW
  subst era
  have hc1 : Cn v (up2 (up2 (up2 (up2 (up2 (up2 v 6 (nS v) (nI p0)) 7 (nS v) (nI q0)) 8 (nS v) (-1)) 9 (nS v) 0) 10 (nS v) 0) 11 (nS v) 0) := (Cn.up (Cn.up (Cn.up (Cn.up (Cn.up (Cn.up Cn.rf (by omega)) (by omega)) (by omega)) (by omega)) (by omega)) (by omega))
  have hL2 := hL.cn hc1
  rw [← (G.2.2 (8, 0, 0) (by unfold LK; decide)).1]
  replace hP : WPe g (KK g) (ent g (setR (setR M 2 (up2 (up2 (up2 (up2 (up2 (up2 v 6 (nS v) (nI p0)) 7 (nS v) (nI q0)) 8 (nS v) (-1)) 9 (nS v) 0) 10 (nS v) 0) 11 (nS v) 0)) 0 v) o) _ := WP.cast hP (setR_id ((setR_ne _ _ (by decide)).trans e0))
  refine on_i (run_V hC hE hP hS (As := [.int (nI p0), .int (nI q0)]) (c_licenseP_0 l hI (M := (setR M 2 (up2 (up2 (up2 (up2 (up2 (up2 v 6 (nS v) (nI p0)) 7 (nS v) (nI q0)) 8 (nS v) (-1)) 9 (nS v) 0) 10 (nS v) 0) 11 (nS v) 0))) hv (nI p0) (nI q0) (in_nI (n := 31) hp (by decide) (by decide)) (in_nI (n := 5) hq (by decide) (by decide)) h8) cal_X4_license w_611 ⟨Nat.le_of_ble_eq_true rfl, Nat.le_of_ble_eq_true rfl⟩ k_8 f_8 rfl rfl rfl (Nat.le_of_ble_eq_true rfl) hl.1 ⟨Nat.le_of_ble_eq_true rfl, Nat.le_of_ble_eq_true rfl⟩ dL_act_517) hS (fun H locs hP hS => ?_)
  replace hP : WPe g (KK g) (ent g (setR (setR M 0 (addS v (nI p0) (nI q0))) 2 (up2 (up2 (up2 (up2 (up2 (up2 v 6 (nS v) (nI p0)) 7 (nS v) (nI q0)) 8 (nS v) (-1)) 9 (nS v) 0) 10 (nS v) 0) 11 (nS v) 0)) o) _ := WP.cast hP setR_cm
  refine lv_istore (lv' := [(5, .int (nI (nS v))), (7, .int (nI (nS v))), (6, .ref (ad g (24, 2, nS v))), (4, .int (nI b)), (3, .int (nI a)), (0, .ref (ad g (8, 0, 0))), (1, .ref (ad g (20, 0, 0))), (2, .int (x))]) hx hb dL_act_520 hl (by decide) rfl (fun ls hl => ?_)
  refine lv_goto (tgt := 530) hx hb dL_act_522 (by decide) ?_
  refine lv_iload hx hb dL_act_530 (lv_at hl 0 rfl) ?_
  refine lv_iload hx hb dL_act_532 (lv_at hl 1 rfl) ?_
  refine lv_bipush (v := 8) hx hb dL_act_534 (by decide) ?_
  refine lv_icmp_ge (tgt := 544) hx hb dL_act_536 (by decide) (fun c1 => absurd c1 (nI_ge (b := 8) h8 (by decide))) (fun c1 => ?_)
  refine lv_iload hx hb dL_act_539 (lv_at hl 1 rfl) ?_
  refine lv_goto (tgt := 545) hx hb dL_act_541 (by decide) ?_
  refine lv_icmp_eq (tgt := 550) hx hb dL_act_545 (by decide) (fun c2 => ?_) (fun c2 => absurd (rfl) c2)
  refine lv_iload hx hb dL_act_550 (lv_at hl 0 rfl) ?_
  refine lv_if_lt (tgt := 568) hx hb dL_act_552 (by decide) (fun c3 => absurd c3 (nI_pos (by omega))) (fun c3 => ?_)
  refine lv_aload_n hx hb dL_act_555 rfl (lv_at hl 6 rfl) ?_
  refine lv_aload_n hx hb dL_act_556 rfl (lv_at hl 6 rfl) ?_
  refine m_get hC hE hP (k_20 hL2) e_20 rfl u_5 4 (by decide) w_658 rfl rfl dL_act_557 ?_
  refine lv_aload hx hb dL_act_560 (lv_at hl 2 rfl) ?_
  have es : up2 (up2 (up2 (up2 (up2 (up2 (up2 v 6 (nS v) (nI p0)) 7 (nS v) (nI q0)) 8 (nS v) (-1)) 9 (nS v) 0) 10 (nS v) 0) 11 (nS v) 0) 16 1 (nI (nS v + 1)) = addS v (nI p0) (nI q0) := addS_eq (hW.z8 _ (Nat.le_refl _) h8) (hW.z0.1 _ (Nat.le_refl _) h8)
  refine m_growS hC hE hI hL h8 zL hP hS dL_act_562 dL_act_565 hl.1 (Nat.le_of_ble_eq_true rfl) (Nat.le_of_ble_eq_true rfl) ⟨Nat.le_of_ble_eq_true rfl, Nat.le_of_ble_eq_true rfl⟩ (fun g1 H locs G1 hL1 hI1 hP hS => ?_)
  rw [es] at hL1 hP
  refine lv_iconst (v := 1) hx hb dL_act_568 (by decide) ?_
  exact a_end A (by decide) (by decide) (u := (g1, setR (setR M 0 (addS v (nI p0) (nI q0))) 2 (addS v (nI p0) (nI q0)))) hP (G.hS hS) (Ua_2 (G.tr G1) ((setR_ne _ _ (by decide)).trans ((setR_ne _ _ (by decide)).trans e3)) (setR_same _ _ _) ((setR_ne _ _ (by decide)).trans (setR_same _ _ _)) (hW.lic h8 ⟨p0, hp, rfl⟩ ⟨q0, hq, rfl⟩) hL1 hI1) rfl dL_act_569
set_option maxHeartbeats 4000000 in
set_option maxRecDepth 100000 in
theorem a_lic3N {p : Program} {l : Launch} {e : Jvm.Env} {s : State} {m : MethodId} {below : List Frame} {meth : Method} {c : Code} {g0 g : Gm} {x : Int32} {n : Nat} {M0 M : Mem} {o : Nat → Int64} {H : Heap} {locs : List Loc} {ls : Array Slot} (A : AF p l s m meth c g0 x) (G : Gk g0 g) (hI : IJ g (KK g)) {v : Vw} (hW : Lw n v) (hL : SimL g v) {a b : Nat} (ha9 : a < 9) (hb9 : b < 9) {p0 q0 : Nat} (hp : p0 < 31) (hq : q0 < 5) (h8 : nS v = 8) (e0 : M 0 = v) (e3 : M 3 = M0 3) (zL : lk g (24, 2, nS v)) {ra : Nat} (era : ad g (24, 2, nS v) = ra) (hP : WP g (setR M 2 (up2 (up2 (up2 (up2 (up2 (up2 v 6 (nS v) (nI p0)) 7 (nS v) (nI q0)) 8 (nS v) (-1)) 9 (nS v) 0) 10 (nS v) 0) 11 (nS v) 0)) o H) (hS : va_S (AA g) s.heap H locs) (hl : lv_has ls 11 [(7, .int (nI (nS v))), (6, .ref ra), (4, .int (nI b)), (3, .int (nI a)), (0, .ref (ad g0 (8, 0, 0))), (1, .ref (ad g0 (20, 0, 0))), (2, .int (x))]) : WA p l e s m below meth c g0 x n M0 o H locs 1 6 (F0 m 517 ls [.int (nI q0), .int (nI p0), .ref (ad g0 (8, 0, 0))]) := by
  obtain ⟨hC, hE0, hr_, hlk, htab, hI0, hl0⟩ := id A
  obtain ⟨hx, hb, hml, hown, hG⟩ := id hC
  have hE : Ev g s := hE0.to G.1 G.2.1
  rw [← (G.2.2 (8, 0, 0) (by unfold LK; decide)).1, ← (G.2.2 (20, 0, 0) (by unfold LK; decide)).1] at hl
  have hv := hW.iv
  have qH := hv.lH
  have qS := hv.lS
  have qW := hv.lW
  subst era
  have hc1 : Cn v (up2 (up2 (up2 (up2 (up2 (up2 v 6 (nS v) (nI p0)) 7 (nS v) (nI q0)) 8 (nS v) (-1)) 9 (nS v) 0) 10 (nS v) 0) 11 (nS v) 0) := (Cn.up (Cn.up (Cn.up (Cn.up (Cn.up (Cn.up Cn.rf (by omega)) (by omega)) (by omega)) (by omega)) (by omega)) (by omega))
  have hL2 := hL.cn hc1
  rw [← (G.2.2 (8, 0, 0) (by unfold LK; decide)).1]
  replace hP : WPe g (KK g) (ent g (setR (setR M 2 (up2 (up2 (up2 (up2 (up2 (up2 v 6 (nS v) (nI p0)) 7 (nS v) (nI q0)) 8 (nS v) (-1)) 9 (nS v) 0) 10 (nS v) 0) 11 (nS v) 0)) 0 v) o) _ := WP.cast hP (setR_id ((setR_ne _ _ (by decide)).trans e0))
  refine on_x (run_VX hC hE hP hS (As := [.int (nI p0), .int (nI q0)]) (c_licenseP_2 l hl0 hI hv (nI p0) (nI q0) (in_nI (n := 31) hp (by decide) (by decide)) (in_nI (n := 5) hq (by decide) (by decide)) h8) cal_X4_license w_611 ⟨Nat.le_of_ble_eq_true rfl, Nat.le_of_ble_eq_true rfl⟩ k_8 f_8 rfl rfl rfl (Nat.le_of_ble_eq_true rfl) hl.1 ⟨Nat.le_of_ble_eq_true rfl, Nat.le_of_ble_eq_true rfl⟩ dL_act_517) hS (fun ce q9 H locs hP hS hc1 hc2 hc3 => ?_)
  refine vx_catch (own := RL) (name := E_st) (E := E_st) hown [(⟨365, 374, 377, 50⟩ : ExceptionTableEntry)] (⟨508, 522, 525, 50⟩ : ExceptionTableEntry) [(⟨608, 621, 624, 50⟩ : ExceptionTableEntry), (⟨745, 755, 758, 50⟩ : ExceptionTableEntry)] (htab.trans rfl) (fun z hz => (List.mem_cons.mp hz).elim (fun ez => by rw [ez]; exact Or.inl (by decide)) (fun hz => absurd hz List.not_mem_nil)) (by decide) (by decide) (hG _ w_564) (NW_use n_585 (hE.2.1.1 _ n_585)) hc1 hc2 hc3 ?_
  replace hP : WPe g (KK g) (ent g (setR M 2 (up2 (up2 (up2 (up2 (up2 (up2 v 6 (nS v) (nI p0)) 7 (nS v) (nI q0)) 8 (nS v) (-1)) 9 (nS v) 0) 10 (nS v) 0) 11 (nS v) 0)) o) _ := WP.cast hP (setR_id ((setR_ne _ _ (by decide)).trans e0)).symm
  refine lv_astore (lv' := [(8, .ref q9), (7, .int (nI (nS v))), (6, .ref (ad g (24, 2, nS v))), (4, .int (nI b)), (3, .int (nI a)), (0, .ref (ad g (8, 0, 0))), (1, .ref (ad g (20, 0, 0))), (2, .int (x))]) hx hb dL_act_525 hl (by decide) rfl (fun ls hl => ?_)
  refine lv_iconst (v := (-1)) hx hb dL_act_527 (by decide) ?_
  refine lv_istore (lv' := [(5, .int ((-1 : Int32))), (8, .ref q9), (7, .int (nI (nS v))), (6, .ref (ad g (24, 2, nS v))), (4, .int (nI b)), (3, .int (nI a)), (0, .ref (ad g (8, 0, 0))), (1, .ref (ad g (20, 0, 0))), (2, .int (x))]) hx hb dL_act_528 hl (by decide) rfl (fun ls hl => ?_)
  refine lv_iload hx hb dL_act_530 (lv_at hl 0 rfl) ?_
  refine lv_iload hx hb dL_act_532 (lv_at hl 2 rfl) ?_
  refine lv_bipush (v := 8) hx hb dL_act_534 (by decide) ?_
  refine lv_icmp_ge (tgt := 544) hx hb dL_act_536 (by decide) (fun c1 => ?_) (fun c1 => absurd (nI_le (a := 8) (Nat.le_of_eq h8.symm) (by omega)) c1)
  refine lv_iconst (v := (-1)) hx hb dL_act_544 (by decide) ?_
  refine lv_icmp_eq (tgt := 550) hx hb dL_act_545 (by decide) (fun c2 => ?_) (fun c2 => absurd (rfl) c2)
  refine lv_iload hx hb dL_act_550 (lv_at hl 0 rfl) ?_
  refine lv_if_lt (tgt := 568) hx hb dL_act_552 (by decide) (fun c3 => ?_) (fun c3 => absurd (by decide) c3)
  refine lv_iconst (v := 1) hx hb dL_act_568 (by decide) ?_
  obtain ⟨hP2, hL3⟩ := drop_S hP hL
  exact a_end A (by decide) (by decide) (u := (gX g (24, 2, nS v), setR M 2 v)) hP2 (G.hS hS) (Ua_2 (G.tr (Gk.gX (by unfold LK; show ¬ (24 ≤ 22 ∨ 24 = 26 ∨ 24 = 30); decide))) ((setR_ne _ _ (by decide)).trans e3) (setR_same _ _ _) ((setR_ne _ _ (by decide)).trans e0) hW hL3 (IJ_gX hI)) rfl dL_act_569
set_option maxHeartbeats 4000000 in
set_option maxRecDepth 100000 in
theorem a_lic2 {p : Program} {l : Launch} {e : Jvm.Env} {s : State} {m : MethodId} {below : List Frame} {meth : Method} {c : Code} {g0 g : Gm} {x : Int32} {n : Nat} {M0 M : Mem} {o : Nat → Int64} {H : Heap} {locs : List Loc} {ls : Array Slot} (A : AF p l s m meth c g0 x) (G : Gk g0 g) (hI : IJ g (KK g)) {v : Vw} (hW : Lw n v) (hL : SimL g v) {a b : Nat} (ha9 : a < 9) (hb9 : b < 9) {p0 q0 : Nat} (hp : p0 < 31) (hq : q0 < 5) (e0 : M 0 = v) (e3 : M 3 = M0 3) (zL : lk g (24, 2, nS v)) {ra : Nat} (era : ad g (24, 2, nS v) = ra) (hP : WP g (setR M 2 (up2 (up2 (up2 (up2 (up2 (up2 v 6 (nS v) (nI p0)) 7 (nS v) (nI q0)) 8 (nS v) (-1)) 9 (nS v) 0) 10 (nS v) 0) 11 (nS v) 0)) o H) (hS : va_S (AA g) s.heap H locs) (hl : lv_has ls 11 [(4, .int (nI b)), (3, .int (nI a)), (0, .ref (ad g0 (8, 0, 0))), (1, .ref (ad g0 (20, 0, 0))), (2, .int (x))]) : WA p l e s m below meth c g0 x n M0 o H locs 1 6 (F0 m 499 ls [.ref ra]) := by
  obtain ⟨hC, hE0, hr_, hlk, htab, hI0, hl0⟩ := id A
  obtain ⟨hx, hb, hml, hown, hG⟩ := id hC
  have hE : Ev g s := hE0.to G.1 G.2.1
  rw [← (G.2.2 (8, 0, 0) (by unfold LK; decide)).1, ← (G.2.2 (20, 0, 0) (by unfold LK; decide)).1] at hl
  have hv := hW.iv
  have qH := hv.lH
  have qS := hv.lS
  have qW := hv.lW
  subst era
  have hc1 : Cn v (up2 (up2 (up2 (up2 (up2 (up2 v 6 (nS v) (nI p0)) 7 (nS v) (nI q0)) 8 (nS v) (-1)) 9 (nS v) 0) 10 (nS v) 0) 11 (nS v) 0) := (Cn.up (Cn.up (Cn.up (Cn.up (Cn.up (Cn.up Cn.rf (by omega)) (by omega)) (by omega)) (by omega)) (by omega)) (by omega))
  have hL2 := hL.cn hc1
  refine lv_astore (lv' := [(6, .ref (ad g (24, 2, nS v))), (4, .int (nI b)), (3, .int (nI a)), (0, .ref (ad g (8, 0, 0))), (1, .ref (ad g (20, 0, 0))), (2, .int (x))]) hx hb dL_act_499 hl (by decide) rfl (fun ls hl => ?_)
  refine lv_aload_n hx hb dL_act_501 rfl (lv_at hl 4 rfl) ?_
  refine m_get hC hE hP (k_20 hL2) e_20 rfl u_5 4 (by decide) w_658 rfl rfl dL_act_502 ?_
  refine m_alnA hC hE hP (k_28 hL2) e_28 (congrArg nI hc1.2.1) dL_act_505 ?_
  refine lv_istore (lv' := [(7, .int (nI (nS v))), (6, .ref (ad g (24, 2, nS v))), (4, .int (nI b)), (3, .int (nI a)), (0, .ref (ad g (8, 0, 0))), (1, .ref (ad g (20, 0, 0))), (2, .int (x))]) hx hb dL_act_506 hl (by decide) rfl (fun ls hl => ?_)
  refine lv_aload_n hx hb dL_act_508 rfl (lv_at hl 4 rfl) ?_
  refine lv_aload hx hb dL_act_509 (lv_at hl 1 rfl) ?_
  refine lv_iconst (v := 0) hx hb dL_act_511 (by decide) ?_
  refine m_iald hC hE hP (show KK g (24, 2, nS v) from ⟨Or.inl rfl, zL⟩) e_24 0 (rfl) (show 0 < 6 from by omega) (by decide) dL_act_512 ?_
  refine m_top (y := (up2 (up2 (up2 (up2 (up2 (up2 v 6 (nS v) (nI p0)) 7 (nS v) (nI q0)) 8 (nS v) (-1)) 9 (nS v) 0) 10 (nS v) 0) 11 (nS v) 0) 6 (nS v)) rfl ?_
  refine m_top (y := nI p0) (by simp [up2]) ?_
  refine lv_aload hx hb dL_act_513 (lv_at hl 1 rfl) ?_
  refine lv_iconst (v := 1) hx hb dL_act_515 (by decide) ?_
  refine m_iald hC hE hP (show KK g (24, 2, nS v) from ⟨Or.inl rfl, zL⟩) e_24 1 (rfl) (show 1 < 6 from by omega) (by decide) dL_act_516 ?_
  refine m_top (y := (up2 (up2 (up2 (up2 (up2 (up2 v 6 (nS v) (nI p0)) 7 (nS v) (nI q0)) 8 (nS v) (-1)) 9 (nS v) 0) 10 (nS v) 0) 11 (nS v) 0) 7 (nS v)) rfl ?_
  refine m_top (y := nI q0) (by simp [up2]) ?_
  rw [(G.2.2 (8, 0, 0) (by unfold LK; decide)).1] at hl ⊢
  rw [(G.2.2 (20, 0, 0) (by unfold LK; decide)).1] at hl
  have qn : nS v < 8 ∨ nS v = 8 := by omega
  rcases qn with h8 | h8
  · exact a_lic3Y A G hI hW hL ha9 hb9 hp hq h8 e0 e3 zL rfl hP hS hl
  · exact a_lic3N A G hI hW hL ha9 hb9 hp hq h8 e0 e3 zL rfl hP hS hl
set_option maxHeartbeats 4000000 in
set_option maxRecDepth 100000 in
theorem a_war3Y {p : Program} {l : Launch} {e : Jvm.Env} {s : State} {m : MethodId} {below : List Frame} {meth : Method} {c : Code} {g0 g : Gm} {x : Int32} {n : Nat} {M0 M : Mem} {o : Nat → Int64} {H : Heap} {locs : List Loc} {ls : Array Slot} (A : AF p l s m meth c g0 x) (G : Gk g0 g) (hI : IJ g (KK g)) {v : Vw} (hW : Lw n v) (hL : SimL g v) {a b : Nat} (ha9 : a < 9) (hb9 : b < 9) {j0 : Nat} (hj : j0 < 8) (h8 : nW v < 3) (e0 : M 0 = v) (e3 : M 3 = M0 3) (zL : lk g (25, 2, nW v)) {ra : Nat} (era : ad g (25, 2, nW v) = ra) (hP : WP g (setR M 2 (up2 (up2 (up2 (up2 v 12 (nW v) (nI a)) 13 (nW v) (nI b)) 14 (nW v) (nI (j0 + 1))) 15 (nW v) 0)) o H) (hS : va_S (AA g) s.heap H locs) (hl : lv_has ls 11 [(7, .int (nI (nW v))), (6, .ref ra), (4, .int (nI b)), (3, .int (nI a)), (0, .ref (ad g0 (8, 0, 0))), (1, .ref (ad g0 (20, 0, 0))), (2, .int (x))]) : WA p l e s m below meth c g0 x n M0 o H locs 1 4 (F0 m 616 ls [.int (nI (j0 + 1)), .int (nI b), .int (nI a), .ref (ad g0 (8, 0, 0))]) := by
  obtain ⟨hC, hE0, hr_, hlk, htab, hI0, hl0⟩ := id A
  obtain ⟨hx, hb, hml, hown, hG⟩ := id hC
  have hE : Ev g s := hE0.to G.1 G.2.1
  rw [← (G.2.2 (8, 0, 0) (by unfold LK; decide)).1, ← (G.2.2 (20, 0, 0) (by unfold LK; decide)).1] at hl
  have hv := hW.iv
  have qH := hv.lH
  have qS := hv.lS
  have qW := hv.lW
  subst era
  have hc1 : Cn v (up2 (up2 (up2 (up2 v 12 (nW v) (nI a)) 13 (nW v) (nI b)) 14 (nW v) (nI (j0 + 1))) 15 (nW v) 0) := (Cn.up (Cn.up (Cn.up (Cn.up Cn.rf (by omega)) (by omega)) (by omega)) (by omega))
  have hL2 := hL.cn hc1
  rw [← (G.2.2 (8, 0, 0) (by unfold LK; decide)).1]
  replace hP : WPe g (KK g) (ent g (setR (setR M 2 (up2 (up2 (up2 (up2 v 12 (nW v) (nI a)) 13 (nW v) (nI b)) 14 (nW v) (nI (j0 + 1))) 15 (nW v) 0)) 0 v) o) _ := WP.cast hP (setR_id ((setR_ne _ _ (by decide)).trans e0))
  refine on_i (run_V hC hE hP hS (As := [.int (nI a), .int (nI b), .int (nI (j0 + 1))]) (c_wardenP_0 l hI (M := (setR M 2 (up2 (up2 (up2 (up2 v 12 (nW v) (nI a)) 13 (nW v) (nI b)) 14 (nW v) (nI (j0 + 1))) 15 (nW v) 0))) hv (nI a) (nI b) (nI (j0 + 1)) (cell_in ha9 hb9) (pace_in j0 hj) h8) cal_X4_warden w_621 ⟨Nat.le_of_ble_eq_true rfl, Nat.le_of_ble_eq_true rfl⟩ k_8 f_8 rfl rfl rfl (Nat.le_of_ble_eq_true rfl) hl.1 ⟨Nat.le_of_ble_eq_true rfl, Nat.le_of_ble_eq_true rfl⟩ dL_act_616) hS (fun H locs hP hS => ?_)
  replace hP : WPe g (KK g) (ent g (setR (setR M 0 (addW v (nI a) (nI b) (nI (j0 + 1)))) 2 (up2 (up2 (up2 (up2 v 12 (nW v) (nI a)) 13 (nW v) (nI b)) 14 (nW v) (nI (j0 + 1))) 15 (nW v) 0)) o) _ := WP.cast hP setR_cm
  refine lv_istore (lv' := [(5, .int (nI (nW v))), (7, .int (nI (nW v))), (6, .ref (ad g (25, 2, nW v))), (4, .int (nI b)), (3, .int (nI a)), (0, .ref (ad g (8, 0, 0))), (1, .ref (ad g (20, 0, 0))), (2, .int (x))]) hx hb dL_act_619 hl (by decide) rfl (fun ls hl => ?_)
  refine lv_goto (tgt := 629) hx hb dL_act_621 (by decide) ?_
  refine lv_iload hx hb dL_act_629 (lv_at hl 0 rfl) ?_
  refine lv_iload hx hb dL_act_631 (lv_at hl 1 rfl) ?_
  refine lv_iconst (v := 3) hx hb dL_act_633 (by decide) ?_
  refine lv_icmp_ge (tgt := 642) hx hb dL_act_634 (by decide) (fun c1 => absurd c1 (nI_ge (b := 3) h8 (by decide))) (fun c1 => ?_)
  refine lv_iload hx hb dL_act_637 (lv_at hl 1 rfl) ?_
  refine lv_goto (tgt := 643) hx hb dL_act_639 (by decide) ?_
  refine lv_icmp_eq (tgt := 648) hx hb dL_act_643 (by decide) (fun c2 => ?_) (fun c2 => absurd (rfl) c2)
  refine lv_iload hx hb dL_act_648 (lv_at hl 0 rfl) ?_
  refine lv_if_lt (tgt := 666) hx hb dL_act_650 (by decide) (fun c3 => absurd c3 (nI_pos (by omega))) (fun c3 => ?_)
  refine lv_aload_n hx hb dL_act_653 rfl (lv_at hl 6 rfl) ?_
  refine lv_aload_n hx hb dL_act_654 rfl (lv_at hl 6 rfl) ?_
  refine m_get hC hE hP (k_20 hL2) e_20 rfl u_5 5 (by decide) w_660 rfl rfl dL_act_655 ?_
  refine lv_aload hx hb dL_act_658 (lv_at hl 2 rfl) ?_
  have es : up2 (up2 (up2 (up2 (up2 v 12 (nW v) (nI a)) 13 (nW v) (nI b)) 14 (nW v) (nI (j0 + 1))) 15 (nW v) 0) 16 2 (nI (nW v + 1)) = addW v (nI a) (nI b) (nI (j0 + 1)) := addW_eq (hW.z0.2 _ (Nat.le_refl _) h8)
  refine m_growW hC hE hI hL h8 zL hP hS dL_act_660 dL_act_663 hl.1 (Nat.le_of_ble_eq_true rfl) (Nat.le_of_ble_eq_true rfl) ⟨Nat.le_of_ble_eq_true rfl, Nat.le_of_ble_eq_true rfl⟩ (fun g1 H locs G1 hL1 hI1 hP hS => ?_)
  rw [es] at hL1 hP
  refine lv_iconst (v := 1) hx hb dL_act_666 (by decide) ?_
  exact a_end A (by decide) (by decide) (u := (g1, setR (setR M 0 (addW v (nI a) (nI b) (nI (j0 + 1)))) 2 (addW v (nI a) (nI b) (nI (j0 + 1))))) hP (G.hS hS) (Ua_2 (G.tr G1) ((setR_ne _ _ (by decide)).trans ((setR_ne _ _ (by decide)).trans e3)) (setR_same _ _ _) ((setR_ne _ _ (by decide)).trans (setR_same _ _ _)) (hW.war h8 ⟨a, ha9, rfl⟩ ⟨b, hb9, rfl⟩ (by omega : j0 + 1 < 9)) hL1 hI1) rfl dL_act_667
set_option maxHeartbeats 4000000 in
set_option maxRecDepth 100000 in
theorem a_war3N {p : Program} {l : Launch} {e : Jvm.Env} {s : State} {m : MethodId} {below : List Frame} {meth : Method} {c : Code} {g0 g : Gm} {x : Int32} {n : Nat} {M0 M : Mem} {o : Nat → Int64} {H : Heap} {locs : List Loc} {ls : Array Slot} (A : AF p l s m meth c g0 x) (G : Gk g0 g) (hI : IJ g (KK g)) {v : Vw} (hW : Lw n v) (hL : SimL g v) {a b : Nat} (ha9 : a < 9) (hb9 : b < 9) {j0 : Nat} (hj : j0 < 8) (h8 : nW v = 3) (e0 : M 0 = v) (e3 : M 3 = M0 3) (zL : lk g (25, 2, nW v)) {ra : Nat} (era : ad g (25, 2, nW v) = ra) (hP : WP g (setR M 2 (up2 (up2 (up2 (up2 v 12 (nW v) (nI a)) 13 (nW v) (nI b)) 14 (nW v) (nI (j0 + 1))) 15 (nW v) 0)) o H) (hS : va_S (AA g) s.heap H locs) (hl : lv_has ls 11 [(7, .int (nI (nW v))), (6, .ref ra), (4, .int (nI b)), (3, .int (nI a)), (0, .ref (ad g0 (8, 0, 0))), (1, .ref (ad g0 (20, 0, 0))), (2, .int (x))]) : WA p l e s m below meth c g0 x n M0 o H locs 1 4 (F0 m 616 ls [.int (nI (j0 + 1)), .int (nI b), .int (nI a), .ref (ad g0 (8, 0, 0))]) := by
  obtain ⟨hC, hE0, hr_, hlk, htab, hI0, hl0⟩ := id A
  obtain ⟨hx, hb, hml, hown, hG⟩ := id hC
  have hE : Ev g s := hE0.to G.1 G.2.1
  rw [← (G.2.2 (8, 0, 0) (by unfold LK; decide)).1, ← (G.2.2 (20, 0, 0) (by unfold LK; decide)).1] at hl
  have hv := hW.iv
  have qH := hv.lH
  have qS := hv.lS
  have qW := hv.lW
  subst era
  have hc1 : Cn v (up2 (up2 (up2 (up2 v 12 (nW v) (nI a)) 13 (nW v) (nI b)) 14 (nW v) (nI (j0 + 1))) 15 (nW v) 0) := (Cn.up (Cn.up (Cn.up (Cn.up Cn.rf (by omega)) (by omega)) (by omega)) (by omega))
  have hL2 := hL.cn hc1
  rw [← (G.2.2 (8, 0, 0) (by unfold LK; decide)).1]
  replace hP : WPe g (KK g) (ent g (setR (setR M 2 (up2 (up2 (up2 (up2 v 12 (nW v) (nI a)) 13 (nW v) (nI b)) 14 (nW v) (nI (j0 + 1))) 15 (nW v) 0)) 0 v) o) _ := WP.cast hP (setR_id ((setR_ne _ _ (by decide)).trans e0))
  refine on_x (run_VX hC hE hP hS (As := [.int (nI a), .int (nI b), .int (nI (j0 + 1))]) (c_wardenP_3 l hl0 hI hv (nI a) (nI b) (nI (j0 + 1)) (cell_in ha9 hb9) (pace_in j0 hj) h8) cal_X4_warden w_621 ⟨Nat.le_of_ble_eq_true rfl, Nat.le_of_ble_eq_true rfl⟩ k_8 f_8 rfl rfl rfl (Nat.le_of_ble_eq_true rfl) hl.1 ⟨Nat.le_of_ble_eq_true rfl, Nat.le_of_ble_eq_true rfl⟩ dL_act_616) hS (fun ce q9 H locs hP hS hc1 hc2 hc3 => ?_)
  refine vx_catch (own := RL) (name := E_st) (E := E_st) hown [(⟨365, 374, 377, 50⟩ : ExceptionTableEntry), (⟨508, 522, 525, 50⟩ : ExceptionTableEntry)] (⟨608, 621, 624, 50⟩ : ExceptionTableEntry) [(⟨745, 755, 758, 50⟩ : ExceptionTableEntry)] (htab.trans rfl) (fun z hz => (List.mem_cons.mp hz).elim (fun ez => by rw [ez]; exact Or.inl (by decide)) (fun hz => (List.mem_cons.mp hz).elim (fun ez => by rw [ez]; exact Or.inl (by decide)) (fun hz => absurd hz List.not_mem_nil))) (by decide) (by decide) (hG _ w_564) (NW_use n_585 (hE.2.1.1 _ n_585)) hc1 hc2 hc3 ?_
  replace hP : WPe g (KK g) (ent g (setR M 2 (up2 (up2 (up2 (up2 v 12 (nW v) (nI a)) 13 (nW v) (nI b)) 14 (nW v) (nI (j0 + 1))) 15 (nW v) 0)) o) _ := WP.cast hP (setR_id ((setR_ne _ _ (by decide)).trans e0)).symm
  refine lv_astore (lv' := [(8, .ref q9), (7, .int (nI (nW v))), (6, .ref (ad g (25, 2, nW v))), (4, .int (nI b)), (3, .int (nI a)), (0, .ref (ad g (8, 0, 0))), (1, .ref (ad g (20, 0, 0))), (2, .int (x))]) hx hb dL_act_624 hl (by decide) rfl (fun ls hl => ?_)
  refine lv_iconst (v := (-1)) hx hb dL_act_626 (by decide) ?_
  refine lv_istore (lv' := [(5, .int ((-1 : Int32))), (8, .ref q9), (7, .int (nI (nW v))), (6, .ref (ad g (25, 2, nW v))), (4, .int (nI b)), (3, .int (nI a)), (0, .ref (ad g (8, 0, 0))), (1, .ref (ad g (20, 0, 0))), (2, .int (x))]) hx hb dL_act_627 hl (by decide) rfl (fun ls hl => ?_)
  refine lv_iload hx hb dL_act_629 (lv_at hl 0 rfl) ?_
  refine lv_iload hx hb dL_act_631 (lv_at hl 2 rfl) ?_
  refine lv_iconst (v := 3) hx hb dL_act_633 (by decide) ?_
  refine lv_icmp_ge (tgt := 642) hx hb dL_act_634 (by decide) (fun c1 => ?_) (fun c1 => absurd (nI_le (a := 3) (Nat.le_of_eq h8.symm) (by omega)) c1)
  refine lv_iconst (v := (-1)) hx hb dL_act_642 (by decide) ?_
  refine lv_icmp_eq (tgt := 648) hx hb dL_act_643 (by decide) (fun c2 => ?_) (fun c2 => absurd (rfl) c2)
  refine lv_iload hx hb dL_act_648 (lv_at hl 0 rfl) ?_
  refine lv_if_lt (tgt := 666) hx hb dL_act_650 (by decide) (fun c3 => ?_) (fun c3 => absurd (by decide) c3)
  refine lv_iconst (v := 1) hx hb dL_act_666 (by decide) ?_
  obtain ⟨hP2, hL3⟩ := drop_W hP hL
  exact a_end A (by decide) (by decide) (u := (gX g (25, 2, nW v), setR M 2 v)) hP2 (G.hS hS) (Ua_2 (G.tr (Gk.gX (by unfold LK; show ¬ (25 ≤ 22 ∨ 25 = 26 ∨ 25 = 30); decide))) ((setR_ne _ _ (by decide)).trans e3) (setR_same _ _ _) ((setR_ne _ _ (by decide)).trans e0) hW hL3 (IJ_gX hI)) rfl dL_act_667
set_option maxHeartbeats 4000000 in
set_option maxRecDepth 100000 in
theorem a_war2 {p : Program} {l : Launch} {e : Jvm.Env} {s : State} {m : MethodId} {below : List Frame} {meth : Method} {c : Code} {g0 g : Gm} {x : Int32} {n : Nat} {M0 M : Mem} {o : Nat → Int64} {H : Heap} {locs : List Loc} {ls : Array Slot} (A : AF p l s m meth c g0 x) (G : Gk g0 g) (hI : IJ g (KK g)) {v : Vw} (hW : Lw n v) (hL : SimL g v) {a b : Nat} (ha9 : a < 9) (hb9 : b < 9) {j0 : Nat} (hj : j0 < 8) (e0 : M 0 = v) (e3 : M 3 = M0 3) (zL : lk g (25, 2, nW v)) {ra : Nat} (era : ad g (25, 2, nW v) = ra) (hP : WP g (setR M 2 (up2 (up2 (up2 (up2 v 12 (nW v) (nI a)) 13 (nW v) (nI b)) 14 (nW v) (nI (j0 + 1))) 15 (nW v) 0)) o H) (hS : va_S (AA g) s.heap H locs) (hl : lv_has ls 11 [(4, .int (nI b)), (3, .int (nI a)), (0, .ref (ad g0 (8, 0, 0))), (1, .ref (ad g0 (20, 0, 0))), (2, .int (x))]) : WA p l e s m below meth c g0 x n M0 o H locs 1 4 (F0 m 599 ls [.ref ra]) := by
  obtain ⟨hC, hE0, hr_, hlk, htab, hI0, hl0⟩ := id A
  obtain ⟨hx, hb, hml, hown, hG⟩ := id hC
  have hE : Ev g s := hE0.to G.1 G.2.1
  rw [← (G.2.2 (8, 0, 0) (by unfold LK; decide)).1, ← (G.2.2 (20, 0, 0) (by unfold LK; decide)).1] at hl
  have hv := hW.iv
  have qH := hv.lH
  have qS := hv.lS
  have qW := hv.lW
  subst era
  have hc1 : Cn v (up2 (up2 (up2 (up2 v 12 (nW v) (nI a)) 13 (nW v) (nI b)) 14 (nW v) (nI (j0 + 1))) 15 (nW v) 0) := (Cn.up (Cn.up (Cn.up (Cn.up Cn.rf (by omega)) (by omega)) (by omega)) (by omega))
  have hL2 := hL.cn hc1
  refine lv_astore (lv' := [(6, .ref (ad g (25, 2, nW v))), (4, .int (nI b)), (3, .int (nI a)), (0, .ref (ad g (8, 0, 0))), (1, .ref (ad g (20, 0, 0))), (2, .int (x))]) hx hb dL_act_599 hl (by decide) rfl (fun ls hl => ?_)
  refine lv_aload_n hx hb dL_act_601 rfl (lv_at hl 4 rfl) ?_
  refine m_get hC hE hP (k_20 hL2) e_20 rfl u_5 5 (by decide) w_660 rfl rfl dL_act_602 ?_
  refine m_alnA hC hE hP (k_29 hL2) e_29 (congrArg nI hc1.2.2) dL_act_605 ?_
  refine lv_istore (lv' := [(7, .int (nI (nW v))), (6, .ref (ad g (25, 2, nW v))), (4, .int (nI b)), (3, .int (nI a)), (0, .ref (ad g (8, 0, 0))), (1, .ref (ad g (20, 0, 0))), (2, .int (x))]) hx hb dL_act_606 hl (by decide) rfl (fun ls hl => ?_)
  refine lv_aload_n hx hb dL_act_608 rfl (lv_at hl 4 rfl) ?_
  refine lv_iload_n hx hb dL_act_609 rfl (lv_at hl 3 rfl) ?_
  refine lv_iload hx hb dL_act_610 (lv_at hl 2 rfl) ?_
  refine lv_aload hx hb dL_act_612 (lv_at hl 1 rfl) ?_
  refine lv_iconst (v := 2) hx hb dL_act_614 (by decide) ?_
  refine m_iald hC hE hP (show KK g (25, 2, nW v) from ⟨Or.inl rfl, zL⟩) e_25 2 (rfl) (show 2 < 4 from by omega) (by decide) dL_act_615 ?_
  refine m_top (y := (up2 (up2 (up2 (up2 v 12 (nW v) (nI a)) 13 (nW v) (nI b)) 14 (nW v) (nI (j0 + 1))) 15 (nW v) 0) 14 (nW v)) rfl ?_
  refine m_top (y := nI (j0 + 1)) (by simp [up2]) ?_
  rw [(G.2.2 (8, 0, 0) (by unfold LK; decide)).1] at hl ⊢
  rw [(G.2.2 (20, 0, 0) (by unfold LK; decide)).1] at hl
  have qn : nW v < 3 ∨ nW v = 3 := by omega
  rcases qn with h8 | h8
  · exact a_war3Y A G hI hW hL ha9 hb9 hj h8 e0 e3 zL rfl hP hS hl
  · exact a_war3N A G hI hW hL ha9 hb9 hj h8 e0 e3 zL rfl hP hS hl
set_option maxHeartbeats 4000000 in
set_option maxRecDepth 100000 in
theorem a_lic {p : Program} {l : Launch} {e : Jvm.Env} {s : State} {m : MethodId} {below : List Frame} {meth : Method} {c : Code} {g : Gm} {x : Int32} {n : Nat} {M : Mem} {o : Nat → Int64} {H : Heap} {locs : List Loc} {ls : Array Slot} (A : AF p l s m meth c g x) {v : Vw} (hW : Lw n v) (hL : SimL g v) {a b : Nat} (ha9 : a < 9) (hb9 : b < 9) (e0 : M 0 = v) (hP : WP g (setR M 2 v) o H) (hS : va_S (AA g) s.heap H locs) (hl : lv_has ls 11 [(4, .int (nI b)), (3, .int (nI a)), (0, .ref (ad g (8, 0, 0))), (1, .ref (ad g (20, 0, 0))), (2, .int (x))]) : WA p l e s m below meth c g x n M o H locs 0 0 (F0 m 441 ls []) := by
  obtain ⟨hC, hE, hr_, hlk, htab, hI, hl0⟩ := id A
  obtain ⟨hx, hb, hml, hown, hG⟩ := id hC
  have hv := hW.iv
  have qH := hv.lH
  have qS := hv.lS
  have qW := hv.lW
  refine lv_bipush (v := 6) hx hb dL_act_441 (by decide) ?_
  have hAa : AA g H.size := Nat.le_trans hE.2.2.2.2.1 hS.1
  have hab : ∀ k, KK g k → ad g k ≠ H.size := fun k hk z => by have := (hP k hk).lt; rw [z] at this; exact absurd this (Nat.lt_irrefl _)
  have o0 := hP
  refine m_newI hC hE hS (N := 6) (by decide) rfl (by decide) (Nat.le_of_ble_eq_true rfl) (Nat.le_of_ble_eq_true rfl) dL_act_443 (fun H1 z1 o1 ha hS => ?_)
  replace hP := fun k hk => (o0 k hk).kept (o1 _ (o0 k hk).lt)
  change WPe g (KK g) _ H1 at hP
  obtain ⟨ra, era⟩ : ∃ ra, ra = H.size := ⟨_, rfl⟩
  rw [← era] at ha hab hAa ⊢
  refine lv_dup hx hb dL_act_445 rfl ?_
  refine lv_iconst (v := 0) hx hb dL_act_446 (by decide) ?_
  refine lv_iload_n hx hb dL_act_447 rfl (lv_at hl 4 rfl) ?_
  refine lv_iconst (v := 4) hx hb dL_act_448 (by decide) ?_
  refine lv_ishr hx hb dL_act_449 ?_
  refine lv_iload_n hx hb dL_act_450 rfl (lv_at hl 4 rfl) ?_
  refine lv_bipush (v := 7) hx hb dL_act_451 (by decide) ?_
  refine lv_ishr hx hb dL_act_453 ?_
  refine lv_iconst (v := 2) hx hb dL_act_454 (by decide) ?_
  refine on_bel l hC hE hP hS ha (x >>> ((7 : Int32) &&& 31)) 2 (by decide) (by decide) rfl ⟨Nat.le_of_ble_eq_true rfl, Nat.le_of_ble_eq_true rfl⟩ (Nat.le_of_ble_eq_true rfl) hl.1 ⟨Nat.le_of_ble_eq_true rfl, Nat.le_of_ble_eq_true rfl⟩ dL_act_455 (fun H locs ha hP hS => ?_)
  refine lv_if_ne (tgt := 466) hx hb dL_act_458 (by decide) (fun c1 => ?_) (fun c1 => ?_)
  · refine lv_bipush (v := 9) hx hb dL_act_466 (by decide) ?_
    refine on_bel l hC hE hP hS ha (x >>> ((4 : Int32) &&& 31)) 9 (by decide) (by decide) rfl ⟨Nat.le_of_ble_eq_true rfl, Nat.le_of_ble_eq_true rfl⟩ (Nat.le_of_ble_eq_true rfl) hl.1 ⟨Nat.le_of_ble_eq_true rfl, Nat.le_of_ble_eq_true rfl⟩ dL_act_468 (fun H locs ha hP hS => ?_)
    refine m_iasR hC hE hP hS ha hAa hab 0 rfl (by decide) (by decide) dL_act_471 (fun H locs z ha hP hS => ?_)
    refine lv_dup hx hb dL_act_472 rfl ?_
    refine lv_iconst (v := 1) hx hb dL_act_473 (by decide) ?_
    refine lv_iload_n hx hb dL_act_474 rfl (lv_at hl 4 rfl) ?_
    refine lv_bipush (v := 6) hx hb dL_act_475 (by decide) ?_
    refine lv_ishr hx hb dL_act_477 ?_
    refine lv_iconst (v := 5) hx hb dL_act_478 (by decide) ?_
    refine on_bel l hC hE hP hS ha (x >>> ((6 : Int32) &&& 31)) 5 (by decide) (by decide) rfl ⟨Nat.le_of_ble_eq_true rfl, Nat.le_of_ble_eq_true rfl⟩ (Nat.le_of_ble_eq_true rfl) hl.1 ⟨Nat.le_of_ble_eq_true rfl, Nat.le_of_ble_eq_true rfl⟩ dL_act_479 (fun H locs ha hP hS => ?_)
    refine m_iasR hC hE hP hS ha hAa hab 1 rfl (by decide) (by decide) dL_act_482 (fun H locs z ha hP hS => ?_)
    refine lv_dup hx hb dL_act_483 rfl ?_
    refine lv_iconst (v := 2) hx hb dL_act_484 (by decide) ?_
    refine lv_iconst (v := (-1)) hx hb dL_act_485 (by decide) ?_
    refine m_iasR hC hE hP hS ha hAa hab 2 rfl (by decide) (by decide) dL_act_486 (fun H locs z ha hP hS => ?_)
    refine lv_dup hx hb dL_act_487 rfl ?_
    refine lv_iconst (v := 3) hx hb dL_act_488 (by decide) ?_
    refine lv_iconst (v := 0) hx hb dL_act_489 (by decide) ?_
    refine m_iasR hC hE hP hS ha hAa hab 3 rfl (by decide) (by decide) dL_act_490 (fun H locs z ha hP hS => ?_)
    refine lv_dup hx hb dL_act_491 rfl ?_
    refine lv_iconst (v := 4) hx hb dL_act_492 (by decide) ?_
    refine lv_iconst (v := 0) hx hb dL_act_493 (by decide) ?_
    refine m_iasR hC hE hP hS ha hAa hab 4 rfl (by decide) (by decide) dL_act_494 (fun H locs z ha hP hS => ?_)
    refine lv_dup hx hb dL_act_495 rfl ?_
    refine lv_iconst (v := 5) hx hb dL_act_496 (by decide) ?_
    refine lv_iconst (v := 0) hx hb dL_act_497 (by decide) ?_
    refine m_iasR hC hE hP hS ha hAa hab 5 rfl (by decide) (by decide) dL_act_498 (fun H locs z ha hP hS => ?_)
    obtain ⟨hP1, hI1⟩ := own_S hI hP ha hAa hab (x0 := nI (bel (x >>> (4 &&& 31)) 9)) (x1 := nI (bel (x >>> (6 &&& 31)) 5)) (x2 := -1) (x3 := 0) (x4 := 0) (x5 := 0) (fun j hj => by rcases (show j = 0 ∨ j = 1 ∨ j = 2 ∨ j = 3 ∨ j = 4 ∨ j = 5 by omega) with rfl | rfl | rfl | rfl | rfl | rfl <;> simp [upd, rS, up2])
    exact a_lic2 (p0 := bel (x >>> (4 &&& 31)) 9) (q0 := bel (x >>> (6 &&& 31)) 5) A (Gk.gA (by unfold LK; show ¬ (24 ≤ 22 ∨ 24 = 26 ∨ 24 = 30); decide)) hI1 hW hL.gA ha9 hb9 (Nat.lt_trans (bel_lt (n := 9) (by decide)) (by decide)) (bel_lt (by decide)) e0 rfl (Or.inl rfl) gA_ad hP1 hS hl
  · refine lv_bipush (v := 31) hx hb dL_act_461 (by decide) ?_
    refine lv_goto (tgt := 468) hx hb dL_act_463 (by decide) ?_
    refine on_bel l hC hE hP hS ha (x >>> ((4 : Int32) &&& 31)) 31 (by decide) (by decide) rfl ⟨Nat.le_of_ble_eq_true rfl, Nat.le_of_ble_eq_true rfl⟩ (Nat.le_of_ble_eq_true rfl) hl.1 ⟨Nat.le_of_ble_eq_true rfl, Nat.le_of_ble_eq_true rfl⟩ dL_act_468 (fun H locs ha hP hS => ?_)
    refine m_iasR hC hE hP hS ha hAa hab 0 rfl (by decide) (by decide) dL_act_471 (fun H locs z ha hP hS => ?_)
    refine lv_dup hx hb dL_act_472 rfl ?_
    refine lv_iconst (v := 1) hx hb dL_act_473 (by decide) ?_
    refine lv_iload_n hx hb dL_act_474 rfl (lv_at hl 4 rfl) ?_
    refine lv_bipush (v := 6) hx hb dL_act_475 (by decide) ?_
    refine lv_ishr hx hb dL_act_477 ?_
    refine lv_iconst (v := 5) hx hb dL_act_478 (by decide) ?_
    refine on_bel l hC hE hP hS ha (x >>> ((6 : Int32) &&& 31)) 5 (by decide) (by decide) rfl ⟨Nat.le_of_ble_eq_true rfl, Nat.le_of_ble_eq_true rfl⟩ (Nat.le_of_ble_eq_true rfl) hl.1 ⟨Nat.le_of_ble_eq_true rfl, Nat.le_of_ble_eq_true rfl⟩ dL_act_479 (fun H locs ha hP hS => ?_)
    refine m_iasR hC hE hP hS ha hAa hab 1 rfl (by decide) (by decide) dL_act_482 (fun H locs z ha hP hS => ?_)
    refine lv_dup hx hb dL_act_483 rfl ?_
    refine lv_iconst (v := 2) hx hb dL_act_484 (by decide) ?_
    refine lv_iconst (v := (-1)) hx hb dL_act_485 (by decide) ?_
    refine m_iasR hC hE hP hS ha hAa hab 2 rfl (by decide) (by decide) dL_act_486 (fun H locs z ha hP hS => ?_)
    refine lv_dup hx hb dL_act_487 rfl ?_
    refine lv_iconst (v := 3) hx hb dL_act_488 (by decide) ?_
    refine lv_iconst (v := 0) hx hb dL_act_489 (by decide) ?_
    refine m_iasR hC hE hP hS ha hAa hab 3 rfl (by decide) (by decide) dL_act_490 (fun H locs z ha hP hS => ?_)
    refine lv_dup hx hb dL_act_491 rfl ?_
    refine lv_iconst (v := 4) hx hb dL_act_492 (by decide) ?_
    refine lv_iconst (v := 0) hx hb dL_act_493 (by decide) ?_
    refine m_iasR hC hE hP hS ha hAa hab 4 rfl (by decide) (by decide) dL_act_494 (fun H locs z ha hP hS => ?_)
    refine lv_dup hx hb dL_act_495 rfl ?_
    refine lv_iconst (v := 5) hx hb dL_act_496 (by decide) ?_
    refine lv_iconst (v := 0) hx hb dL_act_497 (by decide) ?_
    refine m_iasR hC hE hP hS ha hAa hab 5 rfl (by decide) (by decide) dL_act_498 (fun H locs z ha hP hS => ?_)
    obtain ⟨hP1, hI1⟩ := own_S hI hP ha hAa hab (x0 := nI (bel (x >>> (4 &&& 31)) 31)) (x1 := nI (bel (x >>> (6 &&& 31)) 5)) (x2 := -1) (x3 := 0) (x4 := 0) (x5 := 0) (fun j hj => by rcases (show j = 0 ∨ j = 1 ∨ j = 2 ∨ j = 3 ∨ j = 4 ∨ j = 5 by omega) with rfl | rfl | rfl | rfl | rfl | rfl <;> simp [upd, rS, up2])
    exact a_lic2 (p0 := bel (x >>> (4 &&& 31)) 31) (q0 := bel (x >>> (6 &&& 31)) 5) A (Gk.gA (by unfold LK; show ¬ (24 ≤ 22 ∨ 24 = 26 ∨ 24 = 30); decide)) hI1 hW hL.gA ha9 hb9 (bel_lt (by decide)) (bel_lt (by decide)) e0 rfl (Or.inl rfl) gA_ad hP1 hS hl
set_option maxHeartbeats 4000000 in
set_option maxRecDepth 100000 in
theorem a_war {p : Program} {l : Launch} {e : Jvm.Env} {s : State} {m : MethodId} {below : List Frame} {meth : Method} {c : Code} {g : Gm} {x : Int32} {n : Nat} {M : Mem} {o : Nat → Int64} {H : Heap} {locs : List Loc} {ls : Array Slot} (A : AF p l s m meth c g x) {v : Vw} (hW : Lw n v) (hL : SimL g v) {a b : Nat} (ha9 : a < 9) (hb9 : b < 9) (e0 : M 0 = v) (hP : WP g (setR M 2 v) o H) (hS : va_S (AA g) s.heap H locs) (hl : lv_has ls 11 [(4, .int (nI b)), (3, .int (nI a)), (0, .ref (ad g (8, 0, 0))), (1, .ref (ad g (20, 0, 0))), (2, .int (x))]) : WA p l e s m below meth c g x n M o H locs 0 0 (F0 m 570 ls []) := by
  obtain ⟨hC, hE, hr_, hlk, htab, hI, hl0⟩ := id A
  obtain ⟨hx, hb, hml, hown, hG⟩ := id hC
  have hv := hW.iv
  have qH := hv.lH
  have qS := hv.lS
  have qW := hv.lW
  refine lv_iconst (v := 4) hx hb dL_act_570 (by decide) ?_
  have hAa : AA g H.size := Nat.le_trans hE.2.2.2.2.1 hS.1
  have hab : ∀ k, KK g k → ad g k ≠ H.size := fun k hk z => by have := (hP k hk).lt; rw [z] at this; exact absurd this (Nat.lt_irrefl _)
  have o0 := hP
  refine m_newI hC hE hS (N := 4) (by decide) rfl (by decide) (Nat.le_of_ble_eq_true rfl) (Nat.le_of_ble_eq_true rfl) dL_act_571 (fun H1 z1 o1 ha hS => ?_)
  replace hP := fun k hk => (o0 k hk).kept (o1 _ (o0 k hk).lt)
  change WPe g (KK g) _ H1 at hP
  obtain ⟨ra, era⟩ : ∃ ra, ra = H.size := ⟨_, rfl⟩
  rw [← era] at ha hab hAa ⊢
  refine lv_dup hx hb dL_act_573 rfl ?_
  refine lv_iconst (v := 0) hx hb dL_act_574 (by decide) ?_
  refine lv_iload_n hx hb dL_act_575 rfl (lv_at hl 1 rfl) ?_
  refine m_iasR hC hE hP hS ha hAa hab 0 rfl (by decide) (by decide) dL_act_576 (fun H locs z ha hP hS => ?_)
  refine lv_dup hx hb dL_act_577 rfl ?_
  refine lv_iconst (v := 1) hx hb dL_act_578 (by decide) ?_
  refine lv_iload hx hb dL_act_579 (lv_at hl 0 rfl) ?_
  refine m_iasR hC hE hP hS ha hAa hab 1 rfl (by decide) (by decide) dL_act_581 (fun H locs z ha hP hS => ?_)
  refine lv_dup hx hb dL_act_582 rfl ?_
  refine lv_iconst (v := 2) hx hb dL_act_583 (by decide) ?_
  refine lv_iconst (v := 1) hx hb dL_act_584 (by decide) ?_
  refine lv_iload_n hx hb dL_act_585 rfl (lv_at hl 4 rfl) ?_
  refine lv_iconst (v := 5) hx hb dL_act_586 (by decide) ?_
  refine lv_ishr hx hb dL_act_587 ?_
  refine lv_bipush (v := 8) hx hb dL_act_588 (by decide) ?_
  refine on_bel l hC hE hP hS ha (x >>> ((5 : Int32) &&& 31)) 8 (by decide) (by decide) rfl ⟨Nat.le_of_ble_eq_true rfl, Nat.le_of_ble_eq_true rfl⟩ (Nat.le_of_ble_eq_true rfl) hl.1 ⟨Nat.le_of_ble_eq_true rfl, Nat.le_of_ble_eq_true rfl⟩ dL_act_590 (fun H locs ha hP hS => ?_)
  refine lv_iadd hx hb dL_act_593 ?_
  refine m_top (y := nI (bel (x >>> (5 &&& 31)) 8 + 1)) ((Int32.add_comm _ _).trans (nI_1 _)) ?_
  refine m_iasR hC hE hP hS ha hAa hab 2 rfl (by decide) (by decide) dL_act_594 (fun H locs z ha hP hS => ?_)
  refine lv_dup hx hb dL_act_595 rfl ?_
  refine lv_iconst (v := 3) hx hb dL_act_596 (by decide) ?_
  refine lv_iconst (v := 0) hx hb dL_act_597 (by decide) ?_
  refine m_iasR hC hE hP hS ha hAa hab 3 rfl (by decide) (by decide) dL_act_598 (fun H locs z ha hP hS => ?_)
  obtain ⟨hP1, hI1⟩ := own_W hI hP ha hAa hab (x0 := nI a) (x1 := nI b) (x2 := nI (bel (x >>> (5 &&& 31)) 8 + 1)) (x3 := 0) (fun j hj => by rcases (show j = 0 ∨ j = 1 ∨ j = 2 ∨ j = 3 by omega) with rfl | rfl | rfl | rfl <;> simp [upd, rW, up2])
  exact a_war2 (j0 := bel (x >>> (5 &&& 31)) 8) A (Gk.gA (by unfold LK; show ¬ (25 ≤ 22 ∨ 25 = 26 ∨ 25 = 30); decide)) hI1 hW hL.gA ha9 hb9 (bel_lt (by decide)) e0 rfl (Or.inl rfl) gA_ad hP1 hS hl
