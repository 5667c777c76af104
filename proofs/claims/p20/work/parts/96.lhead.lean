/-! A round of the law begins. -/
def Gb (g g' : Gm) : Prop := g'.1 = g.1 ∧ bs g' = bs g
theorem Gb.rf {g : Gm} : Gb g g := ⟨rfl, rfl⟩
theorem Gb.tr {g h k : Gm} (a : Gb g h) (b : Gb h k) : Gb g k := ⟨b.1.trans a.1, b.2.trans a.2⟩
theorem Gb.hA {g0 g : Gm} (G : Gb g0 g) : AA g = AA g0 := by unfold AA; rw [G.2]
theorem Gb.hS {g0 g : Gm} (G : Gb g0 g) {H0 H : Heap} {locs : List Loc} (h : va_S (AA g) H0 H locs) : va_S (AA g0) H0 H locs := by rw [← G.hA]; exact h
theorem Gb.Sh {g0 g : Gm} (G : Gb g0 g) {H0 H : Heap} {locs : List Loc} (h : va_S (AA g0) H0 H locs) : va_S (AA g) H0 H locs := by rw [G.hA]; exact h
theorem mod16' : ∀ i, i < 30 → nI i - nI i / 16 * 16 = nI (i % 16) := by decide +kernel
theorem mod5' : ∀ i, i < 30 → nI i - nI i / 5 * 5 = nI (i % 5) := by decide +kernel
set_option maxHeartbeats 4000000 in
set_option maxRecDepth 100000 in
theorem l_top {p : Program} {l : Launch} {e : Jvm.Env} {R : Room} {s : State} {m : MethodId} {args : Array Value} {below : List Frame} {meth : Method} {c : Code} {Q : State → Prop} {g0 g : Gm} {b L : Nat} {xs : Nat → Int32} {cells slots n t : Nat} {M : Mem} {o : Nat → Int64} {H : Heap} {locs : List Loc} {ls : Array Slot} (hl0 : l.stackTraces = false) (hC : CallFix p m c cL_law 32 s args LG RL) (hE0 : Ev g0 s) (hX : va_X b L xs s s.heap) (hb0 : ¬ AA g0 b) (hL30 : L < 2 ^ 30) (hR : 9 ≤ R.frames ∧ 250 ≤ R.locals) (ht : t < 30) (G : Gb g0 g) (hI : IJ g (KK g)) (hP : WP g M o H) (hS : va_S (AA g) s.heap H locs) (hU : LI n g M) (hf : cells + 3 ≤ R.cells ∧ slots + 25 ≤ R.slots) (IH : ∀ (x : Int32) (g1 : Gm) (M1 : Mem) (H : Heap) (locs : List Loc) (ls : Array Slot), Gk g g1 → M1 3 = M 3 → LI n g1 M1 → IJ g1 (KK g1) → WP g1 M1 o H → va_S (AA g1) s.heap H locs → lv_has ls 32 [(5, .int (x)), (4, .int (nI t)), (0, .ref b), (1, .ref (ad g1 (8, 0, 0))), (2, .ref (ad g1 (20, 0, 0))), (3, .ref (ad g1 (30, 0, 0)))] → W p l e R s m args below meth c H locs (cells + 3) (slots + 25) Q (F0 m 95 ls [])) (hl : lv_has ls 32 [(4, .int (nI t)), (0, .ref b), (1, .ref (ad g (8, 0, 0))), (2, .ref (ad g (20, 0, 0))), (3, .ref (ad g (30, 0, 0)))]) : W p l e R s m args below meth c H locs cells slots Q (F0 m 51 ls []) := by
  obtain ⟨hx, hb, hml, hown, hG⟩ := id hC
  have hE : Ev g s := hE0.to G.1 G.2
  have hb1 : ¬ AA g b := by rw [G.hA]; exact hb0
  refine lv_iload hx hb dL_law_51 (lv_at hl 0 rfl) ?_
  refine lv_bipush (v := 30) hx hb dL_law_53 (by decide) ?_
  refine lv_icmp_ge (tgt := 1518) hx hb dL_law_55 (by decide) (fun c1 => absurd c1 (nI_ge (b := 30) ht (by decide))) (fun c1 => ?_)
  refine lv_aload_n hx hb dL_law_58 rfl (lv_at hl 1 rfl) ?_
  refine lv_iload hx hb dL_law_59 (lv_at hl 0 rfl) ?_
  refine lv_bipush (v := 16) hx hb dL_law_61 (by decide) ?_
  refine lv_irem hx hb dL_law_63 (by decide) ?_
  refine m_top (y := nI (t % 16)) (mod16' t (by omega)) ?_
  refine on_cell hC hE hP hS hX hb1 hL30 (t % 16) (by omega) rfl ⟨by omega, by omega⟩ (Nat.le_of_ble_eq_true rfl) hl.1 ⟨by omega, by omega⟩ dL_law_64 (fun H locs hP hS => ?_)
  refine lv_iload hx hb dL_law_67 (lv_at hl 0 rfl) ?_
  refine lv_bipush (v := 16) hx hb dL_law_69 (by decide) ?_
  refine lv_idiv hx hb dL_law_71 (by decide) ?_
  refine lv_iconst (v := 5) hx hb dL_law_72 (by decide) ?_
  refine lv_imul hx hb dL_law_73 ?_
  refine lv_ishr hx hb dL_law_74 ?_
  refine lv_bipush (v := 71) hx hb dL_law_75 (by decide) ?_
  refine lv_iload hx hb dL_law_77 (lv_at hl 0 rfl) ?_
  refine lv_imul hx hb dL_law_79 ?_
  refine lv_iadd hx hb dL_law_80 ?_
  refine lv_istore (lv' := [(5, .int (((scr L xs (t % 16)) >>> ((((nI t) / (16 : Int32)) * (5 : Int32)) &&& 31)) + ((71 : Int32) * (nI t)))), (4, .int (nI t)), (0, .ref b), (1, .ref (ad g (8, 0, 0))), (2, .ref (ad g (20, 0, 0))), (3, .ref (ad g (30, 0, 0)))]) hx hb dL_law_81 hl (by decide) rfl (fun ls hl => ?_)
  refine lv_aload_n hx hb dL_law_83 rfl (lv_at hl 3 rfl) ?_
  refine lv_aload_n hx hb dL_law_84 rfl (lv_at hl 4 rfl) ?_
  refine lv_iload hx hb dL_law_85 (lv_at hl 0 rfl) ?_
  refine on_act hl0 hC hE hI hU hP hS ⟨by omega, by omega⟩ (Nat.le_of_ble_eq_true rfl) hl.1 hf dL_law_87 (fun u H locs hUa hP hS => ?_)
  obtain ⟨g1, M1⟩ := u
  have hP : WP g1 M1 o H := hP
  have G1 : Gk g g1 := hUa.1
  have e3 : M1 3 = M 3 := hUa.2.1
  have hU1 : LI n g1 M1 := hUa.2.2.1
  have hI1 : IJ g1 (KK g1) := hUa.2.2.2
  refine lv_if_ne (tgt := 95) hx hb dL_law_90 (by decide) (fun _ => ?_) (fun q => absurd q (by decide))
  have hl1 : lv_has ls 32 [(5, .int (((scr L xs (t % 16)) >>> ((((nI t) / (16 : Int32)) * (5 : Int32)) &&& 31)) + ((71 : Int32) * (nI t)))), (4, .int (nI t)), (0, .ref b), (1, .ref (ad g1 (8, 0, 0))), (2, .ref (ad g1 (20, 0, 0))), (3, .ref (ad g1 (30, 0, 0)))] := by rw [(G1.2.2 (8, 0, 0) (by unfold LK; decide)).1, (G1.2.2 (20, 0, 0) (by unfold LK; decide)).1, (G1.2.2 (30, 0, 0) (by unfold LK; decide)).1]; exact hl
  exact IH _ g1 M1 H locs ls G1 e3 hU1 hI1 hP (G1.Sh hS) hl1
set_option maxHeartbeats 4000000 in
set_option maxRecDepth 100000 in
theorem l_open {p : Program} {l : Launch} {e : Jvm.Env} {R : Room} {s : State} {m : MethodId} {args : Array Value} {below : List Frame} {meth : Method} {c : Code} {Q : State → Prop} {g : Gm} {cells slots n b t : Nat} {x : Int32} {u : Vw} {M : Mem} {o : Nat → Int64} {H : Heap} {locs : List Loc} {ls : Array Slot} {v : Vw} (hC : CallFix p m c cL_law 32 s args LG RL) (hE : Ev g s) (hR : 9 ≤ R.frames ∧ 250 ≤ R.locals) (hf : cells + 1 ≤ R.cells ∧ slots + 12 ≤ R.slots) (hI : IJ g (KK g)) (hW : Lw n v) (hL : SimL g v) (e0 : M 0 = v) (e2 : M 2 = v) (hP : WP g (setR M 3 u) o H) (hS : va_S (AA g) s.heap H locs) (IH : ∀ (a : Nat) (H : Heap) (locs : List Loc) (ls : Array Slot), WP (gA g (30, 2, 0) a) (setR M 3 (mH u 2 (nH v) (fun _ => 0))) o H → IJ (gA g (30, 2, 0) a) (KK (gA g (30, 2, 0) a)) → va_S (AA g) s.heap H locs → lv_has ls 32 [(0, .ref b), (1, .ref (ad (gA g (30, 2, 0) a) (8, 0, 0))), (2, .ref (ad (gA g (30, 2, 0) a) (20, 0, 0))), (3, .ref (ad (gA g (30, 2, 0) a) (30, 0, 0))), (4, .int (nI t)), (5, .int (x)), (6, .int (nI (nH v))), (7, .int (nI (nS v))), (8, .int (nI (nW v))), (9, .ref (ad (gA g (30, 2, 0) a) (30, 2, 0)))] → W p l e R s m args below meth c H locs (cells + 1) (slots + 12) Q (F0 m 123 ls [])) (hl : lv_has ls 32 [(0, .ref b), (1, .ref (ad g (8, 0, 0))), (2, .ref (ad g (20, 0, 0))), (3, .ref (ad g (30, 0, 0))), (4, .int (nI t)), (5, .int (x))]) : W p l e R s m args below meth c H locs cells slots Q (F0 m 95 ls []) := by
  obtain ⟨hx, hb, hml, hown, hG⟩ := id hC
  have hv := hW.iv
  have qH := hv.lH
  have qS := hv.lS
  have qW := hv.lW
  refine lv_aload_n hx hb dL_law_95 rfl (lv_at hl 1 rfl) ?_
  refine lv_iconst (v := 4) hx hb dL_law_96 (by decide) ?_
  refine on_i (run_V hC hE hP hS (As := [.int ((4 : Int32))]) (x_count l hI (M := setR M 3 u) hv (4 : Int32) (by decide) ((setR_ne _ _ (by decide)).trans e0)) cal_X4_count w_319 ⟨by show _ + 1 ≤ R.frames; simp only; omega, by show _ + _ ≤ R.locals; simp only; omega⟩ k_8 f_8 rfl rfl rfl (Nat.le_of_ble_eq_true rfl) hl.1 ⟨by simp only; omega, by simp only; omega⟩ dL_law_97) hS (fun H locs hP hS => ?_)
  refine m_top (y := nI (nH v)) (fact_4.trans hv.eH) ?_
  refine lv_istore (lv' := [(6, .int (nI (nH v))), (0, .ref b), (1, .ref (ad g (8, 0, 0))), (2, .ref (ad g (20, 0, 0))), (3, .ref (ad g (30, 0, 0))), (4, .int (nI t)), (5, .int (x))]) hx hb dL_law_100 hl (by decide) rfl (fun ls hl => ?_)
  refine lv_aload_n hx hb dL_law_102 rfl (lv_at hl 2 rfl) ?_
  refine lv_bipush (v := 6) hx hb dL_law_103 (by decide) ?_
  refine on_i (run_V hC hE hP hS (As := [.int ((6 : Int32))]) (x_count l hI (M := setR M 3 u) hv (6 : Int32) (by decide) ((setR_ne _ _ (by decide)).trans e0)) cal_X4_count w_319 ⟨by show _ + 1 ≤ R.frames; simp only; omega, by show _ + _ ≤ R.locals; simp only; omega⟩ k_8 f_8 rfl rfl rfl (Nat.le_of_ble_eq_true rfl) hl.1 ⟨by simp only; omega, by simp only; omega⟩ dL_law_105) hS (fun H locs hP hS => ?_)
  refine m_top (y := nI (nS v)) (fact_6.trans hv.eS) ?_
  refine lv_istore (lv' := [(7, .int (nI (nS v))), (6, .int (nI (nH v))), (0, .ref b), (1, .ref (ad g (8, 0, 0))), (2, .ref (ad g (20, 0, 0))), (3, .ref (ad g (30, 0, 0))), (4, .int (nI t)), (5, .int (x))]) hx hb dL_law_108 hl (by decide) rfl (fun ls hl => ?_)
  refine lv_aload_n hx hb dL_law_110 rfl (lv_at hl 4 rfl) ?_
  refine m_get hC hE hP (k_20 hL) f_20 rfl u_5 5 (by decide) w_660 rfl rfl dL_law_111 ?_
  refine m_alnA hC hE hP (k_29 hL) rfl (show nI (nW (setR M 3 u 2)) = nI (nW v) by rw [setR_ne _ _ (by decide), e2]) dL_law_114 ?_
  refine lv_istore (lv' := [(8, .int (nI (nW v))), (7, .int (nI (nS v))), (6, .int (nI (nH v))), (0, .ref b), (1, .ref (ad g (8, 0, 0))), (2, .ref (ad g (20, 0, 0))), (3, .ref (ad g (30, 0, 0))), (4, .int (nI t)), (5, .int (x))]) hx hb dL_law_115 hl (by decide) rfl (fun ls hl => ?_)
  refine lv_iload hx hb dL_law_117 (lv_at hl 2 rfl) ?_
  refine m_newN hC hE hI hP hS 2 (by decide) (N := nH v) qH (Or.inl rfl) rfl hf.1 hf.2 dL_law_119 (fun a H hP hI1 hS => ?_)
  refine lv_astore (lv' := [(9, .ref (ad (gA g (30, 2, 0) a) (30, 2, 0))), (8, .int (nI (nW v))), (7, .int (nI (nS v))), (6, .int (nI (nH v))), (0, .ref b), (1, .ref (ad g (8, 0, 0))), (2, .ref (ad g (20, 0, 0))), (3, .ref (ad g (30, 0, 0))), (4, .int (nI t)), (5, .int (x))]) hx hb dL_law_121 hl (by decide) rfl (fun ls hl => ?_)
  exact IH a H locs ls hP hI1 hS (by rw [gA_ne (g := g) (k := (30, 2, 0)) (a := a) (j := (8, 0, 0)) (by decide), gA_ne (g := g) (k := (30, 2, 0)) (a := a) (j := (20, 0, 0)) (by decide), gA_ne (g := g) (k := (30, 2, 0)) (a := a) (j := (30, 0, 0)) (by decide)]; exact lv_sub hl [4, 5, 6, 7, 8, 9, 3, 2, 1, 0] rfl)
