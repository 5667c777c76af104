/-! The law, from its entry. -/
set_option maxHeartbeats 4000000 in
set_option maxRecDepth 100000 in
theorem whole_start {p : Program} {e : Env} {s : State} {m : MethodId} {below : List Frame} {meth : Method} {c : Code} (l : Launch) (hflags : l.flags = flags0) {b L : Nat} {xs : Nat → Int32} (hL : L ≤ 260) (C0 : lw_At p s m meth c b L xs) : W p l e room_1 s m #[Value.ref b] below meth c s.heap [] 0 0 (lw_Z below #[Value.ref b] s) (entryFrame m ([Value.ref b] : List Value).toArray 32) := by
  obtain ⟨hx, hb, hr, hml, hown, hts, hX, hbl, hlocks, hgv⟩ := C0
  have hl0 : l.stackTraces = false := by
    unfold Launch.stackTraces
    rw [hflags]
    decide +kernel
  obtain ⟨D, Gc, hKc⟩ := start_K hts
  obtain ⟨g, e1, e2, e3, e4, e5⟩ : ∃ g : Gm, gD g = D ∧ gC g = Gc ∧ bs g = s.heap.size ∧ (∀ k, ad g k = s.heap.size + off k) ∧ ∀ k, lk g k ↔ k ∈ SIL := ⟨((D, Gc), (fun k => s.heap.size + off k, (s.heap.size, fun k => k ∈ SIL))), rfl, rfl, rfl, fun _ => rfl, fun _ => Iff.rfl⟩
  have hg : Gz g := ⟨fun k => by rw [e4, e3], fun k h => (e5 k).mp h⟩
  have hs : ∀ k, k ∈ SIL → lk g k := fun k h => (e5 k).mpr h
  have hnA : ∀ a : Nat, a < s.heap.size → ¬ AA g a := fun a h z => by have z : bs g ≤ a := z; omega
  have hA := start_AO hts
  obtain ⟨z1, z2⟩ := start_Z (A := AA g) hts hgv hnA
  have hE : Ev g s := ⟨by rw [e1]; unfold tys5; rw [e2]; exact hKc, NN_of hts, z1, z2, Nat.le_of_eq e3, AOi.of (hts _ (List.mem_of_getElem? (i := 636) (by decide +kernel)))⟩
  have hC : CallFix p m c cL_law 32 s #[Value.ref b] LG RL := ⟨hx, hb, hml, hown, LG_of hts⟩
  have hb0 : ¬ AA g b := hnA b hbl
  have hS : va_S (AA g) s.heap s.heap [] := va_S.rf
  have hP : WSz g 0 (fun _ => .inr (0, [])) s.heap := ⟨fun k hk => absurd hk.2 (Nat.not_lt_zero _), by rw [e3]; rfl⟩
  have hl := lv_entry ([.ref b]) (n := 32) (Nat.le_of_ble_eq_true rfl)
  rw [lg_entry_eq]
  generalize (lg_sl ([.ref b]) ++ List.replicate (32 - (lg_sl ([.ref b])).length) Slot.unset).toArray = ls at hl ⊢
  have hl : lv_has ls 32 [(0, .ref b)] := hl
  refine m_new hC hE hg hP hS (8, 0, 0) k_8 rfl (ci := 4) rfl u_4 tyX4_ok w_16 w_17 w_1 [.null, .null] (fun j hj => by have : j = 0 ∨ j = 1 := (by omega); rcases this with rfl | rfl <;> rfl) (Nat.le_of_ble_eq_true rfl) (Nat.le_of_ble_eq_true rfl) dL_law_0 (fun H hP hS => ?_)
  refine lv_dup hx hb dL_law_3 rfl ?_
  refine run_I hC hE hA hP hS (As := []) (i_eel l hg updE_same) w_1 w_19 w_20 rfl (by decide +kernel) w_18 ⟨Nat.le_of_ble_eq_true rfl, Nat.le_of_ble_eq_true rfl⟩ rfl rfl (Nat.le_of_ble_eq_true rfl) hl.1 ⟨Nat.le_of_ble_eq_true rfl, Nat.le_of_ble_eq_true rfl⟩ dL_law_4 (fun H locs hP hS => ?_)
  refine lv_astore_n (lv' := [(1, .ref (ad g (8, 0, 0))), (0, .ref b)]) hx hb dL_law_7 rfl hl (by decide) rfl (fun ls hl => ?_)
  refine lv_aload_n hx hb dL_law_8 rfl (lv_at hl 0 rfl) ?_
  refine lv_aload_n hx hb dL_law_9 rfl (lv_at hl 1 rfl) ?_
  refine lv_bipush (v := 26) hx hb dL_law_10 (by decide) ?_
  obtain ⟨a1, a2, a3, a5⟩ := cal_L_build
  refine va_callr (va_runS (As := [.ref (ad g (8, 0, 0)), .ref b, .int 26]) hC (c_build l hl0 hg hs (b := b) (L := L) (xs := xs) (fun k hk h => XE_ent hk h) (by omega)) (va_cwS 3 hC.2.2.2.2 (LG_S w_637 a1 a2 a3) rfl rfl rfl a5 ⟨Nat.le_of_ble_eq_true rfl, Nat.le_of_ble_eq_true rfl⟩) ⟨Pbu.blind, fun U hU hW => ⟨⟨rfl, hE.call hS hU hW, hA.moved hW.alike, by rw [hU]; exact hP⟩, (hX.kept (H1 := U.heap) (by rw [hU]; exact hS.2.1 b hX.lt hb0)).moved hW.alike, hb0⟩⟩ rfl rfl hl.1 rfl (lv_room (Nat.le_of_ble_eq_true rfl)) dL_law_12 ⟨Nat.le_of_ble_eq_true rfl, Nat.le_of_ble_eq_true rfl⟩) hS (fun q _ h => h) (fun q h => h) (fun u ra t H1 locs1 ht hvm hw hB hz hk hS1 => ?_)
  obtain ⟨g1, M1⟩ := u
  obtain ⟨⟨q1, q2, q8⟩, hU, hI1⟩ := hw
  obtain ⟨era, hP1⟩ := hB
  rw [ht] at hP1
  subst era
  have G1 : Gb g g1 := ⟨q1, q2⟩
  have hS1 : va_S (AA g1) s.heap H1 locs1 := G1.Sh hS1
  have hE1 : Ev g1 s := hE.to q1 q2
  have hP1 : WP g1 (setR M1 3 (M1 3)) (fun _ => 0) H1 := WP.cast hP1 (setR_id rfl)
  have hI1 : IJ g1 (KK g1) := hI1
  have hU : LI 74 g1 M1 := hU
  have q8 : ad g1 (8, 0, 0) = ad g (8, 0, 0) := q8
  refine lv_astore_n (lv' := [(2, .ref (ad g1 (20, 0, 0))), (1, .ref (ad g (8, 0, 0))), (0, .ref b)]) hx hb dL_law_15 rfl hl (by decide) rfl (fun ls hl => ?_)
  refine lv_aload_n hx hb dL_law_16 rfl (lv_at hl 0 rfl) ?_
  refine lv_ifnonnull (tgt := 22) hx hb dL_law_17 (by decide) ?_
  refine lv_iconst (v := 5) hx hb dL_law_22 (by decide) ?_
  refine m_newN hC hE1 hI1 hP1 hS1 0 (by decide) (N := 5) (by decide) (Or.inr (Or.inr ⟨Or.inl rfl, rfl⟩)) rfl (Nat.le_of_ble_eq_true rfl) (Nat.le_of_ble_eq_true rfl) dL_law_23 (fun b2 H hP hI2 hS => ?_)
  have hE2 : Ev (gA g1 (30, 0, 0) b2) s := hE1.to rfl rfl
  have hL2 : SimL (gA g1 (30, 0, 0) b2) (M1 0) := hU.2.2.gA
  have k30 : KK (gA g1 (30, 0, 0) b2) (30, 0, 0) := ⟨⟨by decide, rfl⟩, Or.inl rfl⟩
  have x8 : ad (gA g1 (30, 0, 0) b2) (8, 0, 0) = ad g (8, 0, 0) := (gA_ne (by decide)).trans q8
  have x20 : ad (gA g1 (30, 0, 0) b2) (20, 0, 0) = ad g1 (20, 0, 0) := gA_ne (by decide)
  have hS2 : va_S (AA (gA g1 (30, 0, 0) b2)) s.heap H locs1 := hS
  have G2 : Gb g1 (gA g1 (30, 0, 0) b2) := ⟨rfl, rfl⟩
  obtain ⟨g2, eg⟩ : ∃ g2, g2 = gA g1 (30, 0, 0) b2 := ⟨_, rfl⟩
  obtain ⟨w, ew⟩ : ∃ w, w = mH (M1 3) 0 5 (fun _ => 0) := ⟨_, rfl⟩
  rw [← eg] at hE2 hL2 k30 x8 x20 hS2 G2 hP hI2 ⊢
  rw [← ew] at hP
  replace hS := hS2
  refine lv_dup hx hb dL_law_25 rfl ?_
  refine lv_iconst (v := 0) hx hb dL_law_26 (by decide) ?_
  refine lv_iconst (v := 1) hx hb dL_law_27 (by decide) ?_
  refine m_iast hC hE2 hI2 hP hS k30 e_30 0 rfl (show 0 < 5 by decide) (show 5 < 2 ^ 31 by decide) (p_30 (by decide)) (ent_put g2 M1 3 (w) (fun _ => 0) 0 0 1 (kf_30 (by decide))) dL_law_28 (fun H locs hP hS => ?_)
  refine lv_dup hx hb dL_law_29 rfl ?_
  refine lv_iconst (v := 1) hx hb dL_law_30 (by decide) ?_
  refine lv_iconst (v := 3) hx hb dL_law_31 (by decide) ?_
  refine m_iast hC hE2 hI2 hP hS k30 e_30 1 rfl (show 1 < 5 by decide) (show 5 < 2 ^ 31 by decide) (p_30 (by decide)) (ent_put g2 M1 3 (up2 (w) 0 0 1) (fun _ => 0) 0 1 3 (kf_30 (by decide))) dL_law_32 (fun H locs hP hS => ?_)
  refine lv_dup hx hb dL_law_33 rfl ?_
  refine lv_iconst (v := 2) hx hb dL_law_34 (by decide) ?_
  refine lv_iconst (v := 5) hx hb dL_law_35 (by decide) ?_
  refine m_iast hC hE2 hI2 hP hS k30 e_30 2 rfl (show 2 < 5 by decide) (show 5 < 2 ^ 31 by decide) (p_30 (by decide)) (ent_put g2 M1 3 (up2 (up2 (w) 0 0 1) 0 1 3) (fun _ => 0) 0 2 5 (kf_30 (by decide))) dL_law_36 (fun H locs hP hS => ?_)
  refine lv_dup hx hb dL_law_37 rfl ?_
  refine lv_iconst (v := 3) hx hb dL_law_38 (by decide) ?_
  refine lv_bipush (v := 7) hx hb dL_law_39 (by decide) ?_
  refine m_iast hC hE2 hI2 hP hS k30 e_30 3 rfl (show 3 < 5 by decide) (show 5 < 2 ^ 31 by decide) (p_30 (by decide)) (ent_put g2 M1 3 (up2 (up2 (up2 (w) 0 0 1) 0 1 3) 0 2 5) (fun _ => 0) 0 3 7 (kf_30 (by decide))) dL_law_41 (fun H locs hP hS => ?_)
  refine lv_dup hx hb dL_law_42 rfl ?_
  refine lv_iconst (v := 4) hx hb dL_law_43 (by decide) ?_
  refine lv_bipush (v := 8) hx hb dL_law_44 (by decide) ?_
  refine m_iast hC hE2 hI2 hP hS k30 e_30 4 rfl (show 4 < 5 by decide) (show 5 < 2 ^ 31 by decide) (p_30 (by decide)) (ent_put g2 M1 3 (up2 (up2 (up2 (up2 (w) 0 0 1) 0 1 3) 0 2 5) 0 3 7) (fun _ => 0) 0 4 8 (kf_30 (by decide))) dL_law_46 (fun H locs hP hS => ?_)
  refine lv_astore_n (lv' := [(3, .ref (ad g2 (30, 0, 0))), (2, .ref (ad g1 (20, 0, 0))), (1, .ref (ad g (8, 0, 0))), (0, .ref b)]) hx hb dL_law_47 rfl hl (by decide) rfl (fun ls hl => ?_)
  refine lv_iconst (v := 0) hx hb dL_law_48 (by decide) ?_
  refine lv_istore (lv' := [(4, .int 0), (3, .ref (ad g2 (30, 0, 0))), (2, .ref (ad g1 (20, 0, 0))), (1, .ref (ad g (8, 0, 0))), (0, .ref b)]) hx hb dL_law_49 hl (by decide) rfl (fun ls hl => ?_)
  rw [← x8, ← x20] at hl
  have h30 : ∀ j, j < 5 → setR M1 3 (up2 (up2 (up2 (up2 (up2 (w) 0 0 1) 0 1 3) 0 2 5) 0 3 7) 0 4 8) 3 0 j = wF j := fun j hj => by
    rw [setR_same]
    rcases (show j = 0 ∨ j = 1 ∨ j = 2 ∨ j = 3 ∨ j = 4 by omega) with rfl | rfl | rfl | rfl | rfl <;> simp [up2, wF]
  have n0 : setR M1 3 (up2 (up2 (up2 (up2 (up2 (w) 0 0 1) 0 1 3) 0 2 5) 0 3 7) 0 4 8) 0 = M1 0 := setR_ne _ _ (by decide)
  have n2 : setR M1 3 (up2 (up2 (up2 (up2 (up2 (w) 0 0 1) 0 1 3) 0 2 5) 0 3 7) 0 4 8) 2 = M1 2 := setR_ne _ _ (by decide)
  have hU2 : LI (74 - 0) g2 (setR M1 3 (up2 (up2 (up2 (up2 (up2 (w) 0 0 1) 0 1 3) 0 2 5) 0 3 7) 0 4 8)) := ⟨by rw [n0, n2]; exact hU.1, by rw [n0]; exact hU.2.1, by rw [n0]; exact hL2⟩
  refine W.widen (k := 166 + 19 * 0) (n := 1475 + 132 * 0) (Nat.le_of_ble_eq_true rfl) (Nat.le_of_ble_eq_true rfl) ?_
  refine l_loop (g0 := g) (o := fun _ => 0) hl0 hC hE hX hb0 (by omega) ⟨Nat.le_of_ble_eq_true rfl, Nat.le_of_ble_eq_true rfl⟩ ⟨Nat.le_of_ble_eq_true rfl, Nat.le_of_ble_eq_true rfl⟩ (fun g3 M3 H locs ls G3 hI3 hU3 _ _ hP hS hl => ?_) 0 (Nat.zero_le _) g2 (setR M1 3 (up2 (up2 (up2 (up2 (up2 (w) 0 0 1) 0 1 3) 0 2 5) 0 3 7) 0 4 8)) H locs ls (G1.tr G2) hI2 hU2 k30 h30 hP hS (lv_sub hl [0, 4, 3, 2, 1] rfl)
  refine lv_iload hx hb dL_law_51 (lv_at hl 0 rfl) ?_
  refine lv_bipush (v := 30) hx hb dL_law_53 (by decide) ?_
  refine lv_icmp_ge (tgt := 1518) hx hb dL_law_55 (by decide) (fun _ => ?_) (fun q => absurd (nI_le (a := 30) (b := 30) (Nat.le_refl _) (by decide)) q)
  refine lv_aload_n hx hb dL_law_1518 rfl (lv_at hl 3 rfl) ?_
  refine lv_aload_n hx hb dL_law_1519 rfl (lv_at hl 2 rfl) ?_
  obtain ⟨v, e0⟩ : ∃ v, M3 0 = v := ⟨_, rfl⟩
  have f2 : M3 2 = v := hU3.1.trans e0
  have hW : Lw 44 v := by rw [← e0]; exact hU3.2.1
  have hL3 : SimL g3 v := by rw [← e0]; exact hU3.2.2
  have hE3 : Ev g3 s := hE.to G3.1 G3.2
  have hP : WP g3 (setR M3 2 v) (fun _ => 0) H := WP.cast hP (setR_id f2)
  refine va_calli (run_V hC hE3 hP hS (As := [.ref (ad g3 (8, 0, 0))]) (c_sameS l hI3 hW hL3 e0) cal_X5_isSame w_535 ⟨Nat.le_of_ble_eq_true rfl, Nat.le_of_ble_eq_true rfl⟩ (k_20 hL3) e_20 rfl rfl rfl (Nat.le_of_ble_eq_true rfl) hl.1 ⟨Nat.le_of_ble_eq_true rfl, Nat.le_of_ble_eq_true rfl⟩ dL_law_1520) hS (fun q _ h => h) (fun q h => h) (fun r1 u t H1 locs1 ht hvm hw hB hz hk hS1 => ?_)
  subst hw
  refine va_forget (fun q hq => by have q1 : bs g3 ≤ q.base := hS1.2.2 q hq; rw [G3.2, e3] at q1; exact q1) ?_
  refine W.widen (k := 600104) (n := 7301314) (Nat.le_of_ble_eq_true rfl) (Nat.le_of_ble_eq_true rfl) ?_
  exact W.base (lw_ret (Drawn.sameBut.refl s.drawn lw_cs) hx hb hr hlocks dL_law_1523)
