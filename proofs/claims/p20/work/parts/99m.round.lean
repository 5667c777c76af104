/-! A whole round of the law. -/
/-- the cells that the law has of its own in a round -/
def Kk (g : Gm) (v : Vw) : Prop := SimL g v ∧ KK g (30, 0, 0) ∧ KK g (30, 2, 0) ∧ KK g (28, 3, 0) ∧ (∀ k, k < nS v → KK g (24, 3, k)) ∧ KK g (29, 3, 0) ∧ ∀ w, w < nW v → KK g (25, 3, w)
theorem Kk.gA {g : Gm} {v : Vw} {k : Key} {a : Nat} (h : Kk g v) : Kk (gA g k a) v := ⟨h.1.gA, gA_up h.2.1, gA_up h.2.2.1, gA_up h.2.2.2.1, fun i hi => gA_up (h.2.2.2.2.1 i hi), gA_up h.2.2.2.2.2.1, fun i hi => gA_up (h.2.2.2.2.2.2 i hi)⟩
theorem mH_163 {u : Vw} {N : Nat} {f : Nat → Int32} : mH u 3 N f 16 3 = nI N := by
  unfold mH
  rw [if_neg (by decide), if_pos ⟨rfl, Or.inr ⟨rfl, rfl⟩⟩]
theorem mo_eq2 {v d a b : Vw} (N : Ngt v d) (hS : ∀ k, k < nS v → a 11 k = v 11 k) (hW : ∀ w, w < nW v → b 15 w = v 15 w) : sumI (fun k => d 11 k - a 11 k) (nS v) = sumI (fun w => d 15 w - b 15 w) (nW v) := by
  refine (mo_eq (u := fun c i => if c = 15 then b 15 i else a c i) N (fun k hk => hS k hk) (fun w hw => hW w hw)).trans ?_
  exact sumI_congr fun w _ => rfl
theorem fine_eq {v d b : Vw} (N : Ngt v d) (hW : ∀ w, w < nW v → b 15 w = v 15 w) : sumI (d 11) (nS v) = sumI (v 11) (nS v) + sumI (fun w => d 15 w - b 15 w) (nW v) := by
  rw [N.su]
  exact congrArg (fun z => sumI (v 11) (nS v) + z) (sumI_congr fun w hw => by rw [hW w hw])
set_option maxHeartbeats 4000000 in
theorem l_a {p : Program} {l : Launch} {e : Jvm.Env} {R : Room} {s : State} {m : MethodId} {args : Array Value} {below : List Frame} {meth : Method} {c : Code} {Q : State → Prop} {g : Gm} {cells slots n b t : Nat} {x : Int32} {M : Mem} {o : Nat → Int64} {H : Heap} {locs : List Loc} {ls : Array Slot} {v u : Vw} (hC : CallFix p m c cL_law 32 s args LG RL) (hE : Ev g s) (hR : 9 ≤ R.frames ∧ 250 ≤ R.locals) (hf : cells + 14 ≤ R.cells ∧ slots + 83 ≤ R.slots) (hI : IJ g (KK g)) (hW : Lw n v) (hL : SimL g v) (e0 : M 0 = v) (e2 : M 2 = v) (k30 : KK g (30, 0, 0)) (hP : WP g (setR M 3 u) o H) (hS : va_S (AA g) s.heap H locs) (IH : ∀ (g1 : Gm) (H : Heap) (locs : List Loc) (ls : Array Slot), Gb g g1 → Kk g1 v → IJ g1 (KK g1) → WP g1 (setR M 3 (nt6 v u)) o H → va_S (AA g1) s.heap H locs → lv_has ls 32 [(0, .ref b), (1, .ref (ad g1 (8, 0, 0))), (2, .ref (ad g1 (20, 0, 0))), (3, .ref (ad g1 (30, 0, 0))), (4, .int (nI t)), (5, .int (x)), (6, .int (nI (nH v))), (7, .int (nI (nS v))), (8, .int (nI (nW v))), (9, .ref (ad g1 (30, 2, 0))), (10, .ref (ad g1 (28, 3, 0))), (11, .ref (ad g1 (29, 3, 0)))] → W p l e R s m args below meth c H locs (cells + 14) (slots + 83) Q (F0 m 265 ls [])) (hl : lv_has ls 32 [(0, .ref b), (1, .ref (ad g (8, 0, 0))), (2, .ref (ad g (20, 0, 0))), (3, .ref (ad g (30, 0, 0))), (4, .int (nI t)), (5, .int (x))]) : W p l e R s m args below meth c H locs cells slots Q (F0 m 95 ls []) := by
  have hv := hW.iv
  have qH := hv.lH
  refine l_open (t := t) (x := x) hC hE hR ⟨by omega, by omega⟩ hI hW hL e0 e2 hP hS (fun a1 H locs ls hP hI1 hS hl => ?_) hl
  have hE1 : Ev (gA g (30, 2, 0) a1) s := hE.to rfl rfl
  have hL1 : SimL (gA g (30, 2, 0) a1) v := hL.gA
  have k1 : KK (gA g (30, 2, 0) a1) (30, 0, 0) := gA_up k30
  have k2 : KK (gA g (30, 2, 0) a1) (30, 2, 0) := ⟨⟨by decide, rfl⟩, Or.inl rfl⟩
  have hS1 : va_S (AA (gA g (30, 2, 0) a1)) s.heap H locs := hS
  obtain ⟨g1, eg⟩ : ∃ g1, g1 = gA g (30, 2, 0) a1 := ⟨_, rfl⟩
  have G1 : Gb g g1 := by rw [eg]; exact ⟨rfl, rfl⟩
  rw [← eg] at hE1 hL1 k1 k2 hS1 hP hI1 hl
  have hu1 : nH (nt1 v u) = nH v := by
    show (mH u 2 (nH v) (fun _ => 0) 16 0).toNatClampNeg = nH v
    rw [mH_16]
    exact nI_clamp (by omega)
  refine w_open (t := t) (x := x) hC hE1 hR ⟨by omega, by omega⟩ hI1 hW hL1 e0 e2 k2 hu1 hP hS1 (fun H locs ls hP hS hl => ?_) hl
  refine l_rowS (t := t) (x := x) hC hE1 hR ⟨by omega, by omega⟩ hI1 hW hL1 e0 e2 hP hS (fun a2 H locs ls hP hI2 hS hl => ?_) hl
  have hE2 : Ev (gN g1 28 24 (nS v) a2) s := hE1.to rfl rfl
  have hL2 : SimL (gN g1 28 24 (nS v) a2) v := hL1.gN
  have j1 : KK (gN g1 28 24 (nS v) a2) (30, 0, 0) := gN_k (fun z => absurd z.1 (by decide)) k1
  have j2 : KK (gN g1 28 24 (nS v) a2) (30, 2, 0) := gN_k (fun z => absurd z.1 (by decide)) k2
  have j3 : KK (gN g1 28 24 (nS v) a2) (28, 3, 0) := ⟨⟨Or.inr rfl, rfl⟩, Or.inl rfl⟩
  have j4 : ∀ k, k < nS v → KK (gN g1 28 24 (nS v) a2) (24, 3, k) := fun k hk => ⟨Or.inr rfl, Or.inr (Or.inl ⟨rfl, rfl, hk⟩)⟩
  have hS2 : va_S (AA (gN g1 28 24 (nS v) a2)) s.heap H locs := hS
  obtain ⟨g2, eg2⟩ : ∃ g2, g2 = gN g1 28 24 (nS v) a2 := ⟨_, rfl⟩
  have G2 : Gb g1 g2 := by rw [eg2]; exact ⟨rfl, rfl⟩
  rw [← eg2] at hE2 hL2 j1 j2 j3 j4 hS2 hP hI2 hl
  refine w_sprs (t := t) (x := x) hC hE2 hR ⟨by omega, by omega⟩ hI2 hW hL2 e0 e2 j3 j4 (rzS_n hv.lS) hP hS2 (fun H locs ls hP hS hl => ?_) hl
  refine l_rowW (t := t) (x := x) hC hE2 hR ⟨by omega, by omega⟩ hI2 hW hL2 e0 e2 hP hS (fun a3 H locs ls hP hI3 hS hl => ?_) hl
  have hE3 : Ev (gN g2 29 25 (nW v) a3) s := hE2.to rfl rfl
  have hK3 : Kk (gN g2 29 25 (nW v) a3) v := ⟨hL2.gN, gN_k (fun z => absurd z.1 (by decide)) j1, gN_k (fun z => absurd z.1 (by decide)) j2, gN_k (fun z => absurd z.1 (by decide)) j3, fun k hk => gN_k (fun z => absurd (show 24 = 25 from z.1) (by decide)) (j4 k hk), ⟨⟨Or.inr rfl, rfl⟩, Or.inl rfl⟩, fun k hk => ⟨Or.inr rfl, Or.inr (Or.inl ⟨rfl, rfl, hk⟩)⟩⟩
  have hS3 : va_S (AA (gN g2 29 25 (nW v) a3)) s.heap H locs := hS
  obtain ⟨g3, eg3⟩ : ∃ g3, g3 = gN g2 29 25 (nW v) a3 := ⟨_, rfl⟩
  have G3 : Gb g2 g3 := by rw [eg3]; exact ⟨rfl, rfl⟩
  rw [← eg3] at hE3 hK3 hS3 hP hI3 hl
  refine w_wars (t := t) (x := x) hC hE3 hR ⟨by omega, by omega⟩ hI3 hW hK3.1 e0 e2 hK3.2.2.2.2.2.1 hK3.2.2.2.2.2.2 (rzW_n hv.lW) hP hS3 (fun H locs ls hP hS hl => ?_) hl
  exact W_cs (c2 := cells + 14) (s2 := slots + 83) (by omega) (by omega) (IH g3 H locs ls ((G1.tr G2).tr G3) hK3 hI3 hP hS hl)
set_option maxHeartbeats 4000000 in
theorem l_b {p : Program} {l : Launch} {e : Jvm.Env} {R : Room} {s : State} {m : MethodId} {args : Array Value} {below : List Frame} {meth : Method} {c : Code} {Q : State → Prop} {g : Gm} {cells slots n n5 b t : Nat} {x : Int32} {M : Mem} {o : Nat → Int64} {H : Heap} {locs : List Loc} {ls : Array Slot} {v u : Vw} (hC : CallFix p m c cL_law 32 s args LG RL) (hE : Ev g s) (hR : 9 ≤ R.frames ∧ 250 ≤ R.locals) (hf : cells + 1 ≤ R.cells ∧ slots + 12 ≤ R.slots) (hI : IJ g (KK g)) (ht : t < 30) (hW : Lw n v) (hW5 : Lw (n5 + 5) v) (hK : Kk g v) (hn : Nu v u) (e0 : M 0 = v) (e2 : M 2 = v) (hP : WP g (setR M 3 u) o H) (hS : va_S (AA g) s.heap H locs) (IH : ∀ (g1 : Gm) (M1 : Mem) (u1 : Vw) (H : Heap) (locs : List Loc) (ls : Array Slot), Gb g g1 → Kk g1 v → KK g1 (30, 1, 0) → IJ g1 (KK g1) → M1 0 = v → M1 2 = v → Nu v u1 → (∀ i, i < 5 → u1 1 i = factF (day v) (u1 0 i)) → WP g1 (setR M1 3 u1) o H → va_S (AA g1) s.heap H locs → lv_has ls 32 [(0, .ref b), (1, .ref (ad g1 (8, 0, 0))), (2, .ref (ad g1 (20, 0, 0))), (3, .ref (ad g1 (30, 0, 0))), (4, .int (nI t)), (5, .int (x)), (6, .int (nI (nH v))), (7, .int (nI (nS v))), (8, .int (nI (nW v))), (9, .ref (ad g1 (30, 2, 0))), (10, .ref (ad g1 (28, 3, 0))), (11, .ref (ad g1 (29, 3, 0))), (14, .ref (ad g1 (30, 1, 0))), (15, .int (bearsV v))] → W p l e R s m args below meth c H locs (cells + 1) (slots + 12) Q (F0 m 458 ls [])) (hl : lv_has ls 32 [(0, .ref b), (1, .ref (ad g (8, 0, 0))), (2, .ref (ad g (20, 0, 0))), (3, .ref (ad g (30, 0, 0))), (4, .int (nI t)), (5, .int (x)), (6, .int (nI (nH v))), (7, .int (nI (nS v))), (8, .int (nI (nW v))), (9, .ref (ad g (30, 2, 0))), (10, .ref (ad g (28, 3, 0))), (11, .ref (ad g (29, 3, 0)))]) : W p l e R s m args below meth c H locs cells slots Q (F0 m 265 ls []) := by
  have hv := hW.iv
  refine l_then (t := t) (x := x) hC hE hR ⟨by omega, by omega⟩ hI hW hK.1 e0 e2 hP hS (fun a1 H locs ls hP hI1 hS hl => ?_) hl
  have hE1 : Ev (gA g (30, 1, 0) a1) s := hE.to rfl rfl
  have hK1 : Kk (gA g (30, 1, 0) a1) v := hK.gA
  have k1 : KK (gA g (30, 1, 0) a1) (30, 1, 0) := ⟨⟨by decide, rfl⟩, Or.inl rfl⟩
  have hS1 : va_S (AA (gA g (30, 1, 0) a1)) s.heap H locs := hS
  obtain ⟨g1, eg⟩ : ∃ g1, g1 = gA g (30, 1, 0) a1 := ⟨_, rfl⟩
  have G1 : Gb g g1 := by rw [eg]; exact ⟨rfl, rfl⟩
  rw [← eg] at hE1 hK1 k1 hS1 hP hI1 hl
  have hn1 : Nu v (mH u 1 5 (fun _ => 0)) := hn.m1
  obtain ⟨u1, eu⟩ : ∃ u1, u1 = mH u 1 5 (fun _ => 0) := ⟨_, rfl⟩
  rw [← eu] at hn1 hP
  refine l_fore (t := t) (x := x) hC hE1 hR ⟨by omega, by omega⟩ hI1 hW hK1.1 e0 e2 hK1.2.1 k1 (fun i hi => by rw [hn1.2.2.2.2 i hi]; exact wF_f i hi) hP hS1 (fun M1 H locs ls f0 f2 hP hS hl => ?_) hl
  have hn2 : Nu v (fsV (day v) u1 5) := hn1.fs
  refine l_who (t := t) (x := x) (M := M1) hC hE1 hR ⟨by omega, by omega⟩ hI1 hW hK1.1 f0 f2 ht hW5 hK1.2.2.1 hn2.1.1 hn2.2.1 hP hS (fun M2 H locs ls h0 h2 hP hS hl => ?_) hl
  exact IH g1 M2 (fsV (day v) u1 5) H locs ls G1 hK1 k1 hI1 h0 h2 hn2 (fun i hi => by rw [fsV_1 hi, fsV_n (by decide)]) hP hS hl
set_option maxHeartbeats 4000000 in
set_option maxRecDepth 100000 in
theorem l_c {p : Program} {l : Launch} {e : Jvm.Env} {R : Room} {s : State} {m : MethodId} {args : Array Value} {below : List Frame} {meth : Method} {c : Code} {Q : State → Prop} {g : Gm} {cells slots n b t : Nat} {x : Int32} {M : Mem} {o : Nat → Int64} {H : Heap} {locs : List Loc} {ls : Array Slot} {v u : Vw} (hC : CallFix p m c cL_law 32 s args LG RL) (hE : Ev g s) (hR : 9 ≤ R.frames ∧ 250 ≤ R.locals) (hf : cells + 1 ≤ R.cells ∧ slots + 12 ≤ R.slots) (hI : IJ g (KK g)) (hW : Lw (n + 1) v) (hK : Kk g v) (k1 : KK g (30, 1, 0)) (hn : Nu v u) (hF : ∀ i, i < 5 → u 1 i = factF (day v) (u 0 i)) (e0 : M 0 = v) (e2 : M 2 = v) (hP : WP g (setR M 3 u) o H) (hS : va_S (AA g) s.heap H locs) (IH : ∀ (g1 : Gm) (M1 : Mem) (H : Heap) (locs : List Loc) (ls : Array Slot), Gb g g1 → KK g1 (30, 0, 0) → IJ g1 (KK g1) → LI n g1 M1 → (∀ j, j < 5 → M1 3 0 j = wF j) → WP g1 M1 o H → va_S (AA g1) s.heap H locs → lv_has ls 32 [(4, .int (nI t)), (0, .ref b), (1, .ref (ad g1 (8, 0, 0))), (2, .ref (ad g1 (20, 0, 0))), (3, .ref (ad g1 (30, 0, 0)))] → W p l e R s m args below meth c H locs (cells + 1) (slots + 12) Q (F0 m 1512 ls [])) (hl : lv_has ls 32 [(0, .ref b), (1, .ref (ad g (8, 0, 0))), (2, .ref (ad g (20, 0, 0))), (3, .ref (ad g (30, 0, 0))), (4, .int (nI t)), (5, .int (x)), (6, .int (nI (nH v))), (7, .int (nI (nS v))), (8, .int (nI (nW v))), (9, .ref (ad g (30, 2, 0))), (10, .ref (ad g (28, 3, 0))), (11, .ref (ad g (29, 3, 0))), (14, .ref (ad g (30, 1, 0))), (15, .int (bearsV v))]) : W p l e R s m args below meth c H locs cells slots Q (F0 m 458 ls []) := by
  have hv := hW.iv
  have qH := hv.lH
  have hd : Lw n (day v) := hW.next
  have hvd : Inv (day v) := hd.iv
  have N : Ngt v (day v) := day_n hv hW.2.2.2.2.2
  have f0 : setR M 3 u 0 = v := (setR_ne _ _ (by decide)).trans e0
  have f2 : setR M 3 u 2 = v := (setR_ne _ _ (by decide)).trans e2
  have hP : WP g (setR (setR M 3 u) 2 v) o H := WP.cast hP (setR_id f2)
  refine w_pass (t := t) (x := x) (be := bearsV v) (M := setR M 3 u) hC hE hR ⟨by omega, by omega⟩ hI hW hK.1 f0 hP hS (fun H locs ls hP hS hl => ?_) hl
  obtain ⟨M6, eM⟩ : ∃ M6, M6 = setR (setR (setR M 3 u) 0 (day v)) 2 (day v) := ⟨_, rfl⟩
  have a0 : M6 0 = day v := by rw [eM, setR_ne _ _ (by decide), setR_same]
  have a2 : M6 2 = day v := by rw [eM, setR_same]
  have a3 : M6 3 = u := by rw [eM, setR_ne _ _ (by decide), setR_ne _ _ (by decide), setR_same]
  rw [← eM] at hP
  have hP : WP g (setR M6 3 u) o H := WP.cast hP (setR_id a3)
  have hL1 : SimL g (day v) := hK.1.cn Cn.next
  have hl : lv_has ls 32 [(21, .int (got1 v)), (20, .int (factF v 7)), (19, .int (factF v 8)), (18, .int (factF v 0)), (0, .ref b), (1, .ref (ad g (8, 0, 0))), (2, .ref (ad g (20, 0, 0))), (3, .ref (ad g (30, 0, 0))), (4, .int (nI t)), (5, .int (x)), (6, .int (nI (nH (day v)))), (7, .int (nI (nS (day v)))), (8, .int (nI (nW (day v)))), (9, .ref (ad g (30, 2, 0))), (10, .ref (ad g (28, 3, 0))), (11, .ref (ad g (29, 3, 0))), (14, .ref (ad g (30, 1, 0))), (15, .int (bearsV v))] := by
    rw [day_H, day_S, day_W]
    exact hl
  refine w_come (t := t) (x := x) (f := fun _ => 0) (be := bearsV v) (ng := factF v 0) (fs := factF v 8) (sm := factF v 7) (ca := got1 v) (M := M6) hC hE hR ⟨by omega, by omega⟩ hI hd hL1 a0 a2 hK.2.1 k1 (fun i hi => by rw [hn.2.2.2.2 i hi]; exact wF_i i hi) hF hP hS (fun H locs ls hP hS hl => ?_) (lv_sub hl [4, 5, 6, 7, 8, 9, 10, 11, 12, 13, 14, 15, 16, 17, 3, 2, 1, 0] rfl)
  refine w_facts (t := t) (x := x) (be := bearsV v) (ng := factF v 0) (fs := factF v 8) (sm := factF v 7) (ca := got1 v) (M := M6) hC hE hR ⟨by omega, by omega⟩ hI hd hL1 a0 a2 (by rw [fact_0, fact_0]; exact day_night) (by rw [fact_7, fact_7, day_S]; exact all_eq) (fact_4.trans hvd.eH) (fun z => (bears_1 z).trans day_iceF.symm) (by rw [day_ice]; exact (ice2_b _ _).1) (by rw [day_ice]; exact (ice2_b _ _).2) hP hS (fun H locs ls hP hS hl => ?_) (lv_sub hl [0, 1, 2, 3, 4, 5, 6, 7, 8, 9, 10, 11, 13, 14, 15, 16, 17] rfl)
  refine w_cells (t := t) (x := x) (ng := factF v 0) (fs := factF v 8) (ca := got1 v) (M := M6) hC hE hR ⟨by omega, by omega⟩ hI hd hL1 a0 a2 hP hS (fun H locs ls hP hS hl => ?_) (lv_sub hl [0, 1, 2, 3, 4, 5, 6, 7, 8, 9, 10, 11, 13, 14, 16] rfl)
  refine l_at (t := t) (x := x) (ng := factF v 0) (fs := factF v 8) (ca := got1 v) (al := sumI (day v 0) 81) (ct := 0) (mo := 0) (M := M6) hC hE hR ⟨by omega, by omega⟩ hI hd hL1 a0 a2 hP hS (fun a1 H locs ls hP hI1 hS hl => ?_) hl
  have hE1 : Ev (gA g (30, 3, 0) a1) s := hE.to rfl rfl
  have hK1 : Kk (gA g (30, 3, 0) a1) v := hK.gA
  have kA : KK (gA g (30, 3, 0) a1) (30, 3, 0) := ⟨⟨by decide, rfl⟩, Or.inl rfl⟩
  have hS1 : va_S (AA (gA g (30, 3, 0) a1)) s.heap H locs := hS
  obtain ⟨g1, eg⟩ : ∃ g1, g1 = gA g (30, 3, 0) a1 := ⟨_, rfl⟩
  have G1 : Gb g g1 := by rw [eg]; exact ⟨rfl, rfl⟩
  rw [← eg] at hE1 hK1 kA hS1 hP hI1 hl
  have hL2 : SimL g1 (day v) := hK1.1.cn Cn.next
  have hn9 : Nu v (mH u 3 (nH (day v)) (fun _ => 0)) := hn.m3
  have h163 : (mH u 3 (nH (day v)) (fun _ => 0) 16 3).toNatClampNeg = nH (day v) := by
    rw [mH_163]
    exact nI_clamp (by rw [day_H]; omega)
  have h3z : ∀ h, h < 12 → mH u 3 (nH (day v)) (fun _ => 0) 3 h = 0 := fun h _ => if_pos rfl
  obtain ⟨u9, eu⟩ : ∃ u9, u9 = mH u 3 (nH (day v)) (fun _ => 0) := ⟨_, rfl⟩
  rw [← eu] at hn9 h163 h3z hP
  have kR : ∀ k, k < nS (day v) → KK g1 (24, 3, k) := fun k hk => hK1.2.2.2.2.1 k (by rw [← day_S]; exact hk)
  have kV : ∀ w, w < nW (day v) → KK g1 (25, 3, w) := fun w hw => hK1.2.2.2.2.2.2 w (by rw [← day_W]; exact hw)
  refine l_sprs (t := t) (x := x) (ng := factF v 0) (fs := factF v 8) (ca := got1 v) (al := sumI (day v 0) 81) (ct := 0) (mo := 0) (M := M6) hC hE1 hR ⟨by omega, by omega⟩ hI1 hd hL2 a0 a2 hK1.2.2.2.1 kR hK1.2.2.2.2.2.1 kV (hn9.1.2.1.trans day_S.symm) (hn9.1.2.2.trans day_W.symm) kA h163 h3z (fun k hk => SQ_of hW hn9 (by rw [← day_S]; exact hk)) hP hS1 (fun H locs ls hP hS hl => ?_) hl
  have hn10 : Nu v (atV (day v) u9 (nS (day v))) := hn9.av
  have at3 : ∀ i, i < nH (day v) → (atV (day v) u9 (nS (day v))) 3 i = spAt (day v) (nI i) := fun i hi => atV_3 (by rw [day_H] at hi; omega)
  have h163' : ((atV (day v) u9 (nS (day v))) 16 3).toNatClampNeg = nH (day v) := by
    rw [atV_n (by decide)]
    exact h163
  obtain ⟨u10, eu10⟩ : ∃ u10, u10 = atV (day v) u9 (nS (day v)) := ⟨_, rfl⟩
  rw [← eu10] at hn10 at3 h163' hP
  have iH : ∀ i, i < nH (day v) → i < nH v := fun i hi => by rw [← day_H]; exact hi
  refine w_holes (t := t) (x := x) (f := fun _ => 0) (tn := tt v) (ng := factF v 0) (fs := factF v 8) (ca := got1 v) (al := sumI (day v 0) 81) (ct := sumI (day v 9) (nS (day v))) (mo := sumI (fun k => day v 11 k - u9 11 k) (nS (day v))) (u := u10) (M := M6) hC hE1 hR ⟨by omega, by omega⟩ hI1 hd hL2 a0 a2 hK1.2.2.1 kA (hn10.1.1.trans day_H.symm) h163'
    (fun i hi => by rw [hn10.2.1 i (iH i hi)]; exact day_5le hv (iH i hi)) (fun i hi h5 => open_is hvd hd.2.1 hi h5) (fun i hi h5 => by rw [day_ice]; exact (day_5i (iH i hi) h5).1)
    (by rw [fact_0, hW.nt.1]; exact pk_rem (a := tt v) (d := 7) (by have := hW.2.2.1.2; omega) (by decide) (by decide))
    (fun i hi h5 hz => by rw [at3 i hi, day_sp (day_5i (iH i hi) h5).1]; exact fun z => (day_5i (iH i hi) h5).2 ⟨by rw [day_2] at hz; exact hz, z⟩)
    (fun i hi => (at3 i hi).symm) hP hS (fun H locs ls hP hS hl => ?_) hl
  refine w_wchk (t := t) (x := x) (ng := factF v 0) (fs := factF v 8) (ca := got1 v) (al := sumI (day v 0) 81) (ct := sumI (day v 9) (nS (day v))) (mo := sumI (fun k => day v 11 k - u9 11 k) (nS (day v))) (op := sumI (day v 5) (nH (day v))) (u := u10) (M := M6) hC hE1 hR ⟨by omega, by omega⟩ hI1 hd hL2 a0 a2 hK1.2.2.2.2.2.1 kV (hn10.1.2.2.trans day_W.symm) (fun w hw => WQ_of hW hn10 (by rw [← day_W]; exact hw)) hP hS (fun H locs ls hP hS hl => ?_) (lv_sub hl [1, 2, 3, 4, 5, 6, 7, 8, 9, 10, 11, 12, 13, 14, 15, 16, 17, 18, 0] rfl)
  have hs9 : ∀ k, k < nS v → u9 11 k = v 11 k := fun k hk => hn9.2.2.1 11 k (by decide) (by decide) hk
  have hw10 : ∀ w, w < nW v → u10 15 w = v 15 w := fun w hw => hn10.2.2.2.1 15 w (by decide) (by decide) hw
  refine w_sums (t := t) (x := x) (ng := factF v 0) (fs := factF v 8) (ca := got1 v) (al := sumI (day v 0) 81) (ct := sumI (day v 9) (nS (day v))) (mo := sumI (fun k => day v 11 k - u9 11 k) (nS (day v))) (op := sumI (day v 5) (nH (day v))) (gi := sumI (fun w => day v 15 w - u10 15 w) (nW (day v))) (u := u10) (M := M6) hC hE1 hR ⟨by omega, by omega⟩ hI1 hd hL2 a0 a2 fact_3.symm (by rw [day_S]; exact ca_eq) (by rw [day_S, day_W]; exact mo_eq2 N hs9 hw10) (by rw [fact_8, fact_8, day_S, day_W]; exact fine_eq N hw10) fact_5.symm rfl hP hS (fun H locs ls hP hS hl => ?_) hl
  have b0 : setR M6 3 u10 0 = day v := (setR_ne _ _ (by decide)).trans a0
  have b2 : setR M6 3 u10 2 = day v := (setR_ne _ _ (by decide)).trans a2
  exact IH g1 (setR M6 3 u10) H locs ls G1 hK1.2.1 hI1 ⟨b2.trans b0.symm, by rw [b0]; exact hd, by rw [b0]; exact hL2⟩ (fun j hj => by rw [setR_same]; exact hn10.2.2.2.2 j hj) hP hS (lv_sub hl [5, 1, 2, 3, 4] rfl)
set_option maxHeartbeats 4000000 in
theorem l_round {p : Program} {l : Launch} {e : Jvm.Env} {R : Room} {s : State} {m : MethodId} {args : Array Value} {below : List Frame} {meth : Method} {c : Code} {Q : State → Prop} {g0 g : Gm} {b L : Nat} {xs : Nat → Int32} {cells slots n5 t : Nat} {M : Mem} {o : Nat → Int64} {H : Heap} {locs : List Loc} {ls : Array Slot} (hl0 : l.stackTraces = false) (hC : CallFix p m c cL_law 32 s args LG RL) (hE0 : Ev g0 s) (hX : va_X b L xs s s.heap) (hb0 : ¬ AA g0 b) (hL30 : L < 2 ^ 30) (hR : 9 ≤ R.frames ∧ 250 ≤ R.locals) (ht : t < 30) (G : Gb g0 g) (hI : IJ g (KK g)) (hP : WP g M o H) (hS : va_S (AA g) s.heap H locs) (hU : LI (n5 + 6) g M) (k30 : KK g (30, 0, 0)) (h30 : ∀ j, j < 5 → M 3 0 j = wF j) (hf : cells + 19 ≤ R.cells ∧ slots + 132 ≤ R.slots) (IH : ∀ (g1 : Gm) (M1 : Mem) (H : Heap) (locs : List Loc) (ls : Array Slot), Gb g0 g1 → IJ g1 (KK g1) → LI (n5 + 5) g1 M1 → KK g1 (30, 0, 0) → (∀ j, j < 5 → M1 3 0 j = wF j) → WP g1 M1 o H → va_S (AA g1) s.heap H locs → lv_has ls 32 [(4, .int (nI (t + 1))), (0, .ref b), (1, .ref (ad g1 (8, 0, 0))), (2, .ref (ad g1 (20, 0, 0))), (3, .ref (ad g1 (30, 0, 0)))] → W p l e R s m args below meth c H locs (cells + 19) (slots + 132) Q (F0 m 51 ls [])) (hl : lv_has ls 32 [(4, .int (nI t)), (0, .ref b), (1, .ref (ad g (8, 0, 0))), (2, .ref (ad g (20, 0, 0))), (3, .ref (ad g (30, 0, 0)))]) : W p l e R s m args below meth c H locs cells slots Q (F0 m 51 ls []) := by
  obtain ⟨hx, hb, hml, hown, hG⟩ := id hC
  refine l_top hl0 hC hE0 hX hb0 hL30 hR ht G hI hP hS hU ⟨by omega, by omega⟩ (fun x g1 M1 H locs ls G1 e3 hU1 hI1 hP hS hl => ?_) hl
  have Gb1 : Gb g g1 := ⟨G1.1, G1.2.1⟩
  have G01 : Gb g0 g1 := G.tr Gb1
  have hE1 : Ev g1 s := hE0.to G01.1 G01.2
  obtain ⟨v, e0⟩ : ∃ v, M1 0 = v := ⟨_, rfl⟩
  have e2 : M1 2 = v := hU1.1.trans e0
  have hW : Lw (n5 + 5 + 1) v := by rw [← e0]; exact hU1.2.1
  have hL : SimL g1 v := by rw [← e0]; exact hU1.2.2
  have hv := hW.iv
  obtain ⟨u, eu⟩ : ∃ u, M1 3 = u := ⟨_, rfl⟩
  have h0u : ∀ j, j < 5 → u 0 j = wF j := fun j hj => by rw [← eu, e3]; exact h30 j hj
  have hP : WP g1 (setR M1 3 u) o H := WP.cast hP (setR_id eu)
  have k1 : KK g1 (30, 0, 0) := KK_lk (G1.2.2 (30, 0, 0) (by unfold LK; decide)).2 k30
  refine l_a (t := t) (x := x) hC hE1 hR ⟨by omega, by omega⟩ hI1 hW hL e0 e2 k1 hP hS (fun g2 H locs ls G2 hK2 hI2 hP hS hl => ?_) (lv_sub hl [2, 3, 4, 5, 1, 0] rfl)
  have G02 : Gb g0 g2 := G01.tr G2
  refine l_b (t := t) (x := x) (n5 := n5) hC (hE0.to G02.1 G02.2) hR ⟨by omega, by omega⟩ hI2 ht hW (hW.le (by omega)) hK2 (nt6_Nu hv h0u) e0 e2 hP hS (fun g3 M3 u3 H locs ls G3 hK3 k3 hI3 f0 f2 hn3 hF3 hP hS hl => ?_) hl
  have G03 : Gb g0 g3 := G02.tr G3
  refine l_c (t := t) (x := x) hC (hE0.to G03.1 G03.2) hR ⟨by omega, by omega⟩ hI3 hW hK3 k3 hn3 hF3 f0 f2 hP hS (fun g4 M4 H locs ls G4 k4 hI4 hU4 h4 hP hS hl => ?_) hl
  refine lv_iinc (v := nI (t + 1)) (lv' := [(4, .int (nI (t + 1))), (0, .ref b), (1, .ref (ad g4 (8, 0, 0))), (2, .ref (ad g4 (20, 0, 0))), (3, .ref (ad g4 (30, 0, 0)))]) hx hb dL_law_1512 hl (k := 0) rfl (nI_1 _) (by decide) rfl (fun ls hl => ?_)
  refine lv_goto (tgt := 51) hx hb dL_law_1515 (by decide) ?_
  exact W_cs (c2 := cells + 19) (s2 := slots + 132) (by omega) (by omega) (IH g4 M4 H locs ls (G03.tr G4) hI4 hU4 k4 h4 hP hS hl)
