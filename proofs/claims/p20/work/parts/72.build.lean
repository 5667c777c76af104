/-! The builder, all of it. -/
theorem b_loop {p : Program} {l : Launch} {e : Jvm.Env} {R : Room} {s : State} {m : MethodId} {args : Array Value} {below : List Frame} {meth : Method} {c : Code} {Q : State → Prop} {g0 : Gm} {b L : Nat} {xs : Nat → Int32} {o : Nat → Int64} (hl0 : l.stackTraces = false) (hC : CallFix p m c cL_build 7 s args LG RL) (hE0 : Ev g0 s) (hX : va_X b L xs s s.heap) (hb0 : ¬ AA g0 b) (hL30 : L < 2 ^ 30) (hR : 8 ≤ R.frames ∧ 160 ≤ R.locals) (hRc : 104 ≤ R.cells ∧ 863 ≤ R.slots)
    (IH : ∀ (g' : Gm) (M' : Mem) (H : Heap) (locs : List Loc) (ls : Array Slot), Gk g0 g' → IJ g' (KK g') → LI 74 g' M' → WP g' M' o H → va_S (AA g') s.heap H locs → lv_has ls 7 [(5, .int (nI 26)), (0, .ref (ad g' (8, 0, 0))), (1, .ref b), (2, .int 26), (3, .ref (ad g' (20, 0, 0))), (4, .ref (ad g' (30, 3, 0)))] → W p l e R s m args below meth c H locs 104 863 Q (F0 m 110 ls [])) :
    ∀ i, i ≤ 26 → ∀ (g' : Gm) (M' : Mem) (H : Heap) (locs : List Loc) (ls : Array Slot), Gk g0 g' → IJ g' (KK g') → LI (100 - i) g' M' → KK g' (30, 3, 0) → M' 3 16 3 = 18 → WP g' M' o H → va_S (AA g') s.heap H locs → lv_has ls 7 [(5, .int (nI i)), (0, .ref (ad g' (8, 0, 0))), (1, .ref b), (2, .int 26), (3, .ref (ad g' (20, 0, 0))), (4, .ref (ad g' (30, 3, 0)))] → W p l e R s m args below meth c H locs (26 + 3 * i) (213 + 25 * i) Q (F0 m 110 ls []) := by
  refine lp_up 26 ?_ ?_
  · intro g' M' H locs ls G hI hU _ _ hP hS hl
    exact IH g' M' H locs ls G hI hU hP hS hl
  · intro i hi ih g' M' H locs ls G hI hU kF h18 hP hS hl
    have e1 : 100 - i = (99 - i) + 1 := by omega
    rw [e1] at hU
    refine b_1 hl0 hC hE0 hX hb0 hL30 hR hi G hI kF h18 hP hS rfl hU ⟨by omega, by omega⟩ (fun g2 M2 H locs ls G2 hI2 hU2 kF2 h182 hP2 hS2 hl2 => ?_) hl
    have q := ih g2 M2 H locs ls G2 hI2 (by rw [show 100 - (i + 1) = 99 - i from by omega]; exact hU2) kF2 h182 hP2 hS2 hl2
    rw [show 26 + 3 * (i + 1) = 26 + 3 * i + 3 from by omega, show 213 + 25 * (i + 1) = 213 + 25 * i + 25 from by omega] at q
    exact q
theorem v0_inv : Inv v0 := by
  refine ⟨⟨by decide, by decide⟩, ⟨by decide, by decide⟩, ⟨by decide, by decide⟩, fun i hi => absurd hi (by decide +revert), fun i hi => absurd hi (by decide +revert), fun i hi => absurd hi (by decide +revert), fun c _ => ⟨0, by omega, rfl⟩⟩
theorem v0_H : nH v0 = 0 := by decide
theorem v0_S : nS v0 = 0 := by decide
theorem v0_W : nW v0 = 0 := by decide
theorem v0_t : tt v0 = 0 := by decide
theorem start_Lw : Lw 100 v0 := by
  refine ⟨⟨v0_inv, Ag.rf, fun _ _ _ => rfl, ⟨fun _ _ _ => ⟨rfl, rfl, rfl⟩, fun _ _ _ => rfl⟩, ⟨fun _ _ _ => ⟨rfl, rfl, rfl⟩, fun _ _ _ => rfl⟩⟩, fun i j hi => ?_, ⟨⟨by decide, by rw [v0_t]; decide⟩, by rw [v0_t]; decide⟩, fun w hw => ?_, ⟨fun k hk => ?_, fun w hw => ?_⟩, fun c hc => ⟨2, by decide, if_pos hc⟩⟩
  · rw [v0_H] at hi; omega
  · rw [v0_W] at hw; omega
  · rw [v0_S] at hk; omega
  · rw [v0_W] at hw; omega
theorem start_SL {g : Gm} (hs : ∀ k, k ∈ SIL → lk g k) : SimL g v0 := by
  refine ⟨hs _ (by decide), fun c x hc hx => hs _ ?_, hs _ (by decide), fun i hi => ?_, fun i hi => ?_, fun i hi => ?_, fun c hc => hs _ ?_, hs _ (by decide), hs _ (by decide), hs _ (by decide)⟩
  · have h : ∀ c, c < 2 → ∀ x, x < 9 → ((21, c, x) : Key) ∈ SIL := by decide +kernel
    exact h c hc x hx
  · rw [v0_H] at hi; omega
  · rw [v0_S] at hi; omega
  · rw [v0_W] at hi; omega
  · have h : ∀ c, c < 2 → ((26, c, 0) : Key) ∈ SIL := by decide +kernel
    exact h c hc
theorem SmF_ent {g : Gm} {en : Key → va_E} {z : va_E} (hen : ∀ k, KK g k → k.1 < 20 → en k = ent g (fun _ => v0) (fun _ => 0) k) {k : Key} (hk : KK g k) : SmF g (updE en (20, 0, 0) z) k = ent g (fun _ => v0) (fun _ => 0) k := by
  unfold SmF
  by_cases h : 20 ≤ k.1
  · rw [if_pos h]
  · rw [if_neg h, updE_ne (fun q => h (by rw [q]; decide)), hen k hk (by omega)]
theorem rfs_30 {M : Mem} {k j : Key} (h : rfs M k j) (hj : j.1 = 30) : False := by
  unfold rfs at h
  split at h <;> first | omega | (rcases h with rfl | rfl | rfl | rfl | rfl | rfl <;> cases hj) | (obtain ⟨i, _, rfl⟩ := h; cases hj) | exact h
/-- notes of length N -/
def mF (u : Vw) (N : Nat) (fb : Nat → Int32) : Vw := fun c i => if c = 3 then fb i else if c = 16 ∧ i = 3 then nI N else u c i
theorem own_30 {g : Gm} {M : Mem} {o : Nat → Int64} {H : Heap} {ra N : Nat} {fb : Nat → Int32} (hN : N < 2 ^ 31) (hI : IJ g (KK g)) (hP : WP g M o H) (ha : H[ra]? = some (vp_cell (gC g 0) (N, .inl fb))) (hA : AA g ra) (hab : ∀ k, KK g k → ad g k ≠ ra) : WP (gA g (30, 3, 0) ra) (setR M 3 (mF (M 3) N fb)) o H ∧ IJ (gA g (30, 3, 0) ra) (KK (gA g (30, 3, 0) ra)) := by
  refine adopt (g := g) (fun k => k = (30, 3, 0)) (30, 3, 0) rfl rfl rfl (fun k hk hz => ⟨gA_dn hz hk, gA_ne hz⟩) (fun k hk hz => by rw [gA_ad]; exact hab k hk) (by rw [gA_ad]; exact hA) (fun k hk hx => ?_) (fun k hk hz r c i hd => ?_) (fun k j hk hz hrf => gA_ne (fun z => rfs_30 hrf (by rw [z]))) (fun k hk _ => hP k hk) hI
  · subst hx
    rw [gA_ad, e_30]
    show H[ra]? = some (vp_cell (gC g 0) ((mF (M 3) N fb 16 3).toNatClampNeg, .inl (mF (M 3) N fb 3)))
    rw [ha, show mF (M 3) N fb 16 3 = nI N from rfl, nI_clamp hN]
    rfl
  · by_cases q : r = 3
    · subst q
      rw [setR_same]
      unfold mF
      by_cases q1 : c = 3
      · subst q1
        exact absurd ((dep_key hk hd).trans (kf_30 (by decide))) hz
      · rw [if_neg q1]
        by_cases q2 : c = 16 ∧ i = 3
        · obtain ⟨rfl, rfl⟩ := q2
          exact absurd ((dep_key hk hd).trans rfl) hz
        · rw [if_neg q2]
    · rw [setR_ne _ _ q]
/-- the builder's start and end -/
def Pbu (g : Gm) (en : Key → va_E) (b L : Nat) (xs : Nat → Int32) (av : List Value) : Array Value → State → Prop := fun v U => Pz g 61 en av v U ∧ va_X b L xs U U.heap ∧ ¬ AA g b
theorem Pbu.blind {g : Gm} {en : Key → va_E} {b L : Nat} {xs : Nat → Int32} {av : List Value} : FrameBlind (Pbu g en b L xs av) := fun a U f mk h => ⟨Pz.blind a U f mk h.1, h.2.1.moved (u := U) (U := U.calling f mk a) (Vm.Alike.refl U.vm), h.2.2⟩
def QB (g : Gm) : Array Value → State → Outcome → State → Prop := va_Qr (fun (u : Gm × Mem) => (u.1.1 = g.1 ∧ bs u.1 = bs g ∧ ad u.1 (8, 0, 0) = ad g (8, 0, 0)) ∧ LI 74 u.1 u.2 ∧ IJ u.1 (KK u.1)) (fun u a t => a = ad u.1 (20, 0, 0) ∧ WP u.1 u.2 (fun _ => 0) t.heap) (AA g)
abbrev RB : Room := { frames := 8, cells := 104, slots := 863, locals := 170 }
theorem bu_of {l : Launch} {y : MethodName} {b : ByteArray} {n : Nat} {ret : Option FieldType} {R : Room} {g : Gm} {en : Key → va_E} {bs L : Nat} {xs : Nat → Int32} {av : List Value} {Qc : Array Value → State → Outcome → State → Prop} (hy : plainName y.cls = true) (hn : (lg_sl av).length ≤ n)
    (body : ∀ (p : Program) (e : Jvm.Env) (s : State) (m : MethodId) (below : List Frame) (meth : Method) (c : Code) (ls : Array Slot), CallFix p m c b n s av.toArray LG y.cls → meth.sig.returnType = ret → meth.locks = false → Ev g s → AO3 s → va_X bs L xs s s.heap → ¬ AA g bs → WSz g 61 en s.heap → va_S (AA g) s.heap s.heap [] → lv_has ls n (lv_args 0 av) →
      W p l e R s m av.toArray below meth c s.heap [] 0 0 (MQ below Qc av.toArray s R.cells R.slots (AA g)) (F0 m 0 ls [])) : Met l y (wy y b n ret) R (Pbu g en bs L xs av) Qc R.cells R.slots (AA g) := by
  refine Met.ofW (cc := b) (maxL := n) (ret := ret) hy rfl ?_
  intro p e s m args below meth c s₁ B hml hv
  obtain ⟨⟨rfl, hE, hAO, hP⟩, hX, hA⟩ := hv
  have hts := atoms_spec (ws := wy y b n ret) B.pre
  have hl := lv_entry av (n := n) hn
  rw [lg_entry_eq]
  exact body p e s m below meth c _ ⟨B.exec, B.bytes, hml, findClass_of_methodNamed B.named, fun w hw => hts w (List.mem_cons_of_mem _ hw)⟩ B.returns B.notSynchronized hE hAO hX hA hP va_S.rf hl
set_option maxHeartbeats 4000000 in
set_option maxRecDepth 100000 in
theorem c_build (l : Launch) (hl0 : l.stackTraces = false) {g : Gm} (hg : Gz g) (hs : ∀ k, k ∈ SIL → lk g k) {en : Key → va_E} (hen : ∀ k, KK g k → k.1 < 20 → en k = ent g (fun _ => v0) (fun _ => 0) k) {b L : Nat} {xs : Nat → Int32} (hL30 : L < 2 ^ 30) : Met l yL_build (wy yL_build cL_build 7 (some (.object "EelPermitsLaw$Sim"))) RB (Pbu g en b L xs [.ref (ad g (8, 0, 0)), .ref b, .int 26]) (QB g) 104 863 (AA g) := by
  refine bu_of (R := RB) (by decide +kernel) (Nat.le_of_ble_eq_true rfl) ?_
  intro p e s m below meth c ls hC hr_ hlk hE hA hX hb0 hP hS hl
  obtain ⟨hx, hb, hml, hown, hG⟩ := id hC
  have hl : lv_has ls 7 [(0, .ref (ad g (8, 0, 0))), (1, .ref b), (2, .int 26)] := hl
  have hE0 := hE
  refine m_new hC hE hg hP hS (20, 0, 0) ⟨⟨rfl, rfl⟩, hs _ (by decide)⟩ rfl (ci := 5) rfl u_5 tyX5_ok w_640 w_514 w_6 [.null, .null, .null, .null, .null, .null, .int 0, .int 0] (fun j hj => by have : j = 0 ∨ j = 1 ∨ j = 2 ∨ j = 3 ∨ j = 4 ∨ j = 5 ∨ j = 6 ∨ j = 7 := (by omega); rcases this with rfl | rfl | rfl | rfl | rfl | rfl | rfl | rfl <;> rfl) (Nat.le_of_ble_eq_true rfl) (Nat.le_of_ble_eq_true rfl) dL_build_0 (fun H hP hS => ?_)
  refine lv_dup hx hb dL_build_3 rfl ?_
  refine run_I hC hE hA hP hS (As := []) (i_sim l hg hs updE_same) w_6 w_642 w_643 rfl (by decide +kernel) w_641 ⟨Nat.le_of_ble_eq_true rfl, Nat.le_of_ble_eq_true rfl⟩ rfl rfl (Nat.le_of_ble_eq_true rfl) hl.1 ⟨Nat.le_of_ble_eq_true rfl, Nat.le_of_ble_eq_true rfl⟩ dL_build_4 (fun H locs hP1 hS => ?_)
  have hI := hg.ij
  have hP : WP g (fun _ => v0) (fun _ => 0) H := fun k hk => by
    have q := hP1.1 k ⟨hk, KL_2 k (KL_in hg.2 hk)⟩
    rw [SmF_ent hen hk] at q
    exact q
  refine lv_astore_n (lv' := [(3, .ref (ad g (20, 0, 0))), (0, .ref (ad g (8, 0, 0))), (1, .ref b), (2, .int ((26 : Int32)))]) hx hb dL_build_7 rfl hl (by decide) rfl (fun ls hl => ?_)
  refine lv_bipush (v := 18) hx hb dL_build_8 (by decide) ?_
  have hAa : AA g H.size := Nat.le_trans hE.2.2.2.2.1 hS.1
  have hab : ∀ k, KK g k → ad g k ≠ H.size := fun k hk z => by have := (hP k hk).lt; rw [z] at this; exact absurd this (Nat.lt_irrefl _)
  have o0 := hP
  refine m_newI hC hE hS (N := 18) (by decide) rfl (by decide) (Nat.le_of_ble_eq_true rfl) (Nat.le_of_ble_eq_true rfl) dL_build_10 (fun H1 z1 o1 ha hS => ?_)
  replace hP := fun k hk => (o0 k hk).kept (o1 _ (o0 k hk).lt)
  change WPe g (KK g) _ H1 at hP
  obtain ⟨ra, era⟩ : ∃ ra, ra = H.size := ⟨_, rfl⟩
  rw [← era] at ha hab hAa ⊢
  refine lv_dup hx hb dL_build_12 rfl ?_
  refine lv_iconst (v := 0) hx hb dL_build_13 (by decide) ?_
  refine lv_iconst (v := 0) hx hb dL_build_14 (by decide) ?_
  refine m_iasR hC hE hP hS ha hAa hab 0 rfl (by decide) (by decide) dL_build_15 (fun H locs z ha hP hS => ?_)
  refine lv_dup hx hb dL_build_16 rfl ?_
  refine lv_iconst (v := 1) hx hb dL_build_17 (by decide) ?_
  refine lv_iconst (v := 1) hx hb dL_build_18 (by decide) ?_
  refine m_iasR hC hE hP hS ha hAa hab 1 rfl (by decide) (by decide) dL_build_19 (fun H locs z ha hP hS => ?_)
  refine lv_dup hx hb dL_build_20 rfl ?_
  refine lv_iconst (v := 2) hx hb dL_build_21 (by decide) ?_
  refine lv_iconst (v := 0) hx hb dL_build_22 (by decide) ?_
  refine m_iasR hC hE hP hS ha hAa hab 2 rfl (by decide) (by decide) dL_build_23 (fun H locs z ha hP hS => ?_)
  refine lv_dup hx hb dL_build_24 rfl ?_
  refine lv_iconst (v := 3) hx hb dL_build_25 (by decide) ?_
  refine lv_iconst (v := 4) hx hb dL_build_26 (by decide) ?_
  refine m_iasR hC hE hP hS ha hAa hab 3 rfl (by decide) (by decide) dL_build_27 (fun H locs z ha hP hS => ?_)
  refine lv_dup hx hb dL_build_28 rfl ?_
  refine lv_iconst (v := 4) hx hb dL_build_29 (by decide) ?_
  refine lv_iconst (v := 5) hx hb dL_build_30 (by decide) ?_
  refine m_iasR hC hE hP hS ha hAa hab 4 rfl (by decide) (by decide) dL_build_31 (fun H locs z ha hP hS => ?_)
  refine lv_dup hx hb dL_build_32 rfl ?_
  refine lv_iconst (v := 5) hx hb dL_build_33 (by decide) ?_
  refine lv_bipush (v := 6) hx hb dL_build_34 (by decide) ?_
  refine m_iasR hC hE hP hS ha hAa hab 5 rfl (by decide) (by decide) dL_build_36 (fun H locs z ha hP hS => ?_)
  refine lv_dup hx hb dL_build_37 rfl ?_
  refine lv_bipush (v := 6) hx hb dL_build_38 (by decide) ?_
  refine lv_bipush (v := 6) hx hb dL_build_40 (by decide) ?_
  refine m_iasR hC hE hP hS ha hAa hab 6 rfl (by decide) (by decide) dL_build_42 (fun H locs z ha hP hS => ?_)
  refine lv_dup hx hb dL_build_43 rfl ?_
  refine lv_bipush (v := 7) hx hb dL_build_44 (by decide) ?_
  refine lv_bipush (v := 8) hx hb dL_build_46 (by decide) ?_
  refine m_iasR hC hE hP hS ha hAa hab 7 rfl (by decide) (by decide) dL_build_48 (fun H locs z ha hP hS => ?_)
  refine lv_dup hx hb dL_build_49 rfl ?_
  refine lv_bipush (v := 8) hx hb dL_build_50 (by decide) ?_
  refine lv_bipush (v := 9) hx hb dL_build_52 (by decide) ?_
  refine m_iasR hC hE hP hS ha hAa hab 8 rfl (by decide) (by decide) dL_build_54 (fun H locs z ha hP hS => ?_)
  refine lv_dup hx hb dL_build_55 rfl ?_
  refine lv_bipush (v := 9) hx hb dL_build_56 (by decide) ?_
  refine lv_bipush (v := 8) hx hb dL_build_58 (by decide) ?_
  refine m_iasR hC hE hP hS ha hAa hab 9 rfl (by decide) (by decide) dL_build_60 (fun H locs z ha hP hS => ?_)
  refine lv_dup hx hb dL_build_61 rfl ?_
  refine lv_bipush (v := 10) hx hb dL_build_62 (by decide) ?_
  refine lv_iconst (v := 2) hx hb dL_build_64 (by decide) ?_
  refine m_iasR hC hE hP hS ha hAa hab 10 rfl (by decide) (by decide) dL_build_65 (fun H locs z ha hP hS => ?_)
  refine lv_dup hx hb dL_build_66 rfl ?_
  refine lv_bipush (v := 11) hx hb dL_build_67 (by decide) ?_
  refine lv_bipush (v := 7) hx hb dL_build_69 (by decide) ?_
  refine m_iasR hC hE hP hS ha hAa hab 11 rfl (by decide) (by decide) dL_build_71 (fun H locs z ha hP hS => ?_)
  refine lv_dup hx hb dL_build_72 rfl ?_
  refine lv_bipush (v := 12) hx hb dL_build_73 (by decide) ?_
  refine lv_iconst (v := 4) hx hb dL_build_75 (by decide) ?_
  refine m_iasR hC hE hP hS ha hAa hab 12 rfl (by decide) (by decide) dL_build_76 (fun H locs z ha hP hS => ?_)
  refine lv_dup hx hb dL_build_77 rfl ?_
  refine lv_bipush (v := 13) hx hb dL_build_78 (by decide) ?_
  refine lv_bipush (v := 6) hx hb dL_build_80 (by decide) ?_
  refine m_iasR hC hE hP hS ha hAa hab 13 rfl (by decide) (by decide) dL_build_82 (fun H locs z ha hP hS => ?_)
  refine lv_dup hx hb dL_build_83 rfl ?_
  refine lv_bipush (v := 14) hx hb dL_build_84 (by decide) ?_
  refine lv_bipush (v := 9) hx hb dL_build_86 (by decide) ?_
  refine m_iasR hC hE hP hS ha hAa hab 14 rfl (by decide) (by decide) dL_build_88 (fun H locs z ha hP hS => ?_)
  refine lv_dup hx hb dL_build_89 rfl ?_
  refine lv_bipush (v := 15) hx hb dL_build_90 (by decide) ?_
  refine lv_bipush (v := 8) hx hb dL_build_92 (by decide) ?_
  refine m_iasR hC hE hP hS ha hAa hab 15 rfl (by decide) (by decide) dL_build_94 (fun H locs z ha hP hS => ?_)
  refine lv_dup hx hb dL_build_95 rfl ?_
  refine lv_bipush (v := 16) hx hb dL_build_96 (by decide) ?_
  refine lv_iconst (v := 0) hx hb dL_build_98 (by decide) ?_
  refine m_iasR hC hE hP hS ha hAa hab 16 rfl (by decide) (by decide) dL_build_99 (fun H locs z ha hP hS => ?_)
  refine lv_dup hx hb dL_build_100 rfl ?_
  refine lv_bipush (v := 17) hx hb dL_build_101 (by decide) ?_
  refine lv_iconst (v := 1) hx hb dL_build_103 (by decide) ?_
  refine m_iasR hC hE hP hS ha hAa hab 17 rfl (by decide) (by decide) dL_build_104 (fun H locs z ha hP hS => ?_)
  refine lv_astore (lv' := [(4, .ref ra), (3, .ref (ad g (20, 0, 0))), (0, .ref (ad g (8, 0, 0))), (1, .ref b), (2, .int ((26 : Int32)))]) hx hb dL_build_105 hl (by decide) rfl (fun ls hl => ?_)
  refine lv_iconst (v := 0) hx hb dL_build_107 (by decide) ?_
  refine lv_istore (lv' := [(5, .int ((0 : Int32))), (4, .ref ra), (3, .ref (ad g (20, 0, 0))), (0, .ref (ad g (8, 0, 0))), (1, .ref b), (2, .int ((26 : Int32)))]) hx hb dL_build_108 hl (by decide) rfl (fun ls hl => ?_)
  have own := own_30 (N := 18) (by decide) hI hP ha hAa hab
  generalize hM3 : mF ((fun _ => v0 : Mem) 3) 18 _ = u3 at own
  have h18 : u3 16 3 = 18 := by rw [← hM3]; rfl
  obtain ⟨hP2, hI2⟩ := own
  have a8 : ad (gA g (30, 3, 0) ra) (8, 0, 0) = ad g (8, 0, 0) := gA_ne (by decide)
  have a20 : ad (gA g (30, 3, 0) ra) (20, 0, 0) = ad g (20, 0, 0) := gA_ne (by decide)
  have a30 : ad (gA g (30, 3, 0) ra) (30, 3, 0) = ra := gA_ad
  have kF : KK (gA g (30, 3, 0) ra) (30, 3, 0) := ⟨⟨by decide, rfl⟩, Or.inl rfl⟩
  have hE2 : Ev (gA g (30, 3, 0) ra) s := hE.to rfl rfl
  have hS2 : va_S (AA (gA g (30, 3, 0) ra)) s.heap _ _ := hS
  have hb2 : ¬ AA (gA g (30, 3, 0) ra) b := hb0
  have hU : LI (100 - 0) (gA g (30, 3, 0) ra) (setR (fun _ => v0) 3 u3) := ⟨by rw [setR_ne _ _ (by decide), setR_ne _ _ (by decide)], by rw [setR_ne _ _ (by decide)]; exact start_Lw, by rw [setR_ne _ _ (by decide)]; exact (start_SL hs).gA⟩
  have hl2 : lv_has ls 7 [(5, .int (nI 0)), (0, .ref (ad (gA g (30, 3, 0) ra) (8, 0, 0))), (1, .ref b), (2, .int 26), (3, .ref (ad (gA g (30, 3, 0) ra) (20, 0, 0))), (4, .ref (ad (gA g (30, 3, 0) ra) (30, 3, 0)))] := by rw [a8, a20, a30]; exact lv_sub hl [0, 3, 4, 5, 2, 1] rfl
  refine b_loop (g0 := gA g (30, 3, 0) ra) hl0 hC hE2 hX hb2 hL30 ⟨Nat.le_of_ble_eq_true rfl, Nat.le_of_ble_eq_true rfl⟩ ⟨Nat.le_of_ble_eq_true rfl, Nat.le_of_ble_eq_true rfl⟩ (fun g1 M1 H locs ls G hI hU hP hS hl => ?_) 0 (by omega) _ _ _ _ ls Gk.rf hI2 hU kF (by rw [setR_same]; exact h18) hP2 hS2 hl2
  have hS : va_S (AA g) s.heap H locs := G.hS hS
  refine lv_iload hx hb dL_build_110 (lv_at hl 0 rfl) ?_
  refine lv_iload_n hx hb dL_build_112 rfl (lv_at hl 3 rfl) ?_
  refine lv_icmp_ge (tgt := 217) hx hb dL_build_113 (by decide) (fun _ => ?_) (fun q => absurd (nI_le (a := 26) (b := 26) (Nat.le_refl _) (by decide)) q)
  refine lv_aload_n hx hb dL_build_217 rfl (lv_at hl 4 rfl) ?_
  exact W.aret hx hb hr_ (Or.inl ⟨_, rfl⟩) (Or.inr ⟨_, rfl⟩) (fun t ht hW => ⟨⟨(g1, M1), ad g1 (20, 0, 0), rfl, ⟨⟨G.1, G.2.1, (G.2.2 (8, 0, 0) (by unfold LK; decide)).1.trans a8⟩, hU, hI⟩, rfl, by rw [ht]; exact hP⟩, hS.F ht⟩) hS.2.2 dL_build_218 hlk
