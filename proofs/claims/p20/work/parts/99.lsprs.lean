/-! The law looks at each spearer. -/
theorem sprF_0 {v : Vw} {k : Nat} : sprF v k 0 = v 6 k := sprF_n (j := 0) (by decide)
theorem sprF_1 {v : Vw} {k : Nat} : sprF v k 1 = v 7 k := sprF_n (j := 1) (by decide)
theorem sprF_2 {v : Vw} {k : Nat} : sprF v k 2 = v 8 k := sprF_n (j := 2) (by decide)
theorem sprF_3 {v : Vw} {k : Nat} : sprF v k 3 = v 9 k := sprF_n (j := 3) (by decide)
theorem sprF_4 {v : Vw} {k : Nat} : sprF v k 4 = v 10 k := sprF_n (j := 4) (by decide)
theorem sprF_5 {v : Vw} {k : Nat} : sprF v k 5 = v 11 k := sprF_n (j := 5) (by decide)
/-- who is counted at each hole, so far -/
def atV (v u : Vw) (i : Nat) : Vw := fun c h => if c = 3 ∧ h < 12 then sumI (fun k => if v 8 k = nI h then 1 else 0) i else u c h
theorem atV_n {v u : Vw} {i c h : Nat} (hc : c ≠ 3) : atV v u i c h = u c h := if_neg (fun z => hc z.1)
theorem atV_3 {v u : Vw} {h : Nat} (hh : h < 12) : atV v u (nS v) 3 h = spAt v (nI h) := if_pos ⟨rfl, hh⟩
theorem atV_0 {v u : Vw} (h3 : ∀ h, h < 12 → u 3 h = 0) : atV v u 0 = u := by
  funext c h
  unfold atV
  by_cases q : c = 3 ∧ h < 12
  · rw [if_pos q, q.1, h3 h q.2]
    rfl
  · rw [if_neg q]
theorem atV_o {v u : Vw} {i : Nat} (h8 : v 8 i = -1) : atV v u (i + 1) = atV v u i := by
  funext c h
  unfold atV
  by_cases q : c = 3 ∧ h < 12
  · rw [if_pos q, if_pos q]
    show sumI _ i + (if v 8 i = nI h then 1 else 0) = _
    rw [if_neg (fun z => m1_ne h (by omega) (z.symm.trans h8)), Int32.add_zero]
  · rw [if_neg q, if_neg q]
theorem atV_s {v u : Vw} {i j : Nat} (hj : j < 12) (h8 : v 8 i = nI j) : up2 (atV v u i) 3 j (atV v u i 3 j + 1) = atV v u (i + 1) := by
  funext c h
  by_cases q : c = 3 ∧ h < 12
  · obtain ⟨rfl, hh⟩ := q
    have e : atV v u (i + 1) 3 h = atV v u i 3 h + (if v 8 i = nI h then 1 else 0) := by
      unfold atV
      rw [if_pos ⟨rfl, hh⟩, if_pos ⟨rfl, hh⟩]
      rfl
    rw [e]
    by_cases z : h = j
    · rw [z, up2_same, if_pos h8]
    · rw [up2_i z, if_neg (fun y => z (nI_inj (by omega) (by omega) (y.symm.trans h8))), Int32.add_zero]
  · have z : ¬ (c = 3 ∧ h = j) := fun y => q ⟨y.1, by omega⟩
    unfold up2
    rw [if_neg z]
    unfold atV
    rw [if_neg q, if_neg q]
theorem atV_cn {v u : Vw} {i : Nat} : Cn u (atV v u i) := Cn.of (fun _ _ => atV_n (by decide))
/-- what is due of a spearer after a night: v the lake, u the notes -/
def SQ (v u : Vw) (k : Nat) : Prop := v 6 k = u 6 k ∧ v 7 k = u 7 k ∧ v 10 k = u 10 k + v 9 k ∧ (∃ j, j < 32 ∧ v 9 k = nI j) ∧ (v 11 k - u 11 k = 0 ∨ (v 11 k - u 11 k = 1 ∧ v 9 k = u 6 k ∧ ∃ h, h < nH v ∧ u 8 k = nI h ∧ ∃ w, w < nW v ∧ u 15 w < v 15 w ∧ v 12 w = v 3 h ∧ v 13 w = v 4 h)) ∧ (u 8 k < 0 → v 9 k = 0 ∧ v 11 k - u 11 k = 0) ∧ (factF v 2 = 0 → v 8 k = -1) ∧ (¬ factF v 2 = 0 → v 8 k = u 8 k)
theorem f01_lt {f : Int32} (h : f = 0 ∨ f = 1) : ¬ f < 0 := by
  rcases h with h | h <;> rw [h] <;> decide
theorem f01_gt {f : Int32} (h : f = 0 ∨ f = 1) : ¬ 1 < f := by
  rcases h with h | h <;> rw [h] <;> decide
theorem SQ.f01 {v u : Vw} {k : Nat} (h : SQ v u k) : v 11 k - u 11 k = 0 ∨ v 11 k - u 11 k = 1 := h.2.2.2.2.1.imp (fun z => z) (fun z => z.1)
theorem SQ.c6 {v u : Vw} {k : Nat} (h : SQ v u k) (y : v 11 k - u 11 k = 1) : v 9 k = u 6 k := h.2.2.2.2.1.elim (fun z => absurd (z.symm.trans y) (by decide)) (fun z => z.2.1)
theorem SQ.wh {v u : Vw} {k : Nat} (h : SQ v u k) (y : ¬ v 11 k - u 11 k = 0) : ∃ h, h < nH v ∧ u 8 k = nI h ∧ ∃ w, w < nW v ∧ u 15 w < v 15 w ∧ v 12 w = v 3 h ∧ v 13 w = v 4 h := h.2.2.2.2.1.elim (fun z => absurd z y) (fun z => z.2.2)
theorem SQ.z {v u : Vw} {k : Nat} (h : SQ v u k) (y : u 8 k < 0) : ¬ 0 < v 9 k + (v 11 k - u 11 k) := by
  rw [(h.2.2.2.2.2.1 y).1, (h.2.2.2.2.2.1 y).2]
  decide
theorem c32_lt {x : Int32} (h : ∃ j, j < 32 ∧ x = nI j) : ¬ x < 0 := by
  obtain ⟨j, hj, rfl⟩ := h
  exact nI_pos (by omega)
theorem c32_gt {x : Int32} (h : ∃ j, j < 32 ∧ x = nI j) : ¬ 31 < x := by
  obtain ⟨j, hj, rfl⟩ := h
  exact fun z => absurd ((nI_ltI (a := 31) (by decide) (by omega)).mp z) (by omega)
theorem at_no {v : Vw} (hv : Inv v) {k : Nat} (hk : k < nS v) (h : v 8 k < 0) : v 8 k = -1 := by
  rcases (hv.hS k hk).1 with q | ⟨j, hj, e⟩
  · exact q
  · rw [e] at h
    have := hv.lH
    exact absurd h (nI_pos (by omega))
theorem at_yes {v : Vw} (hv : Inv v) {k : Nat} (hk : k < nS v) (h : ¬ v 8 k < 0) : ∃ j, j < nH v ∧ v 8 k = nI j := by
  rcases (hv.hS k hk).1 with q | q
  · rw [q] at h
    exact absurd (by decide) h
  · exact q
/-- a warden at the hole who gave a fine more -/
def tp (v u : Vw) (h w : Nat) : Bool := decide (u 15 w < v 15 w) && (decide (v 12 w = v 3 h) && decide (v 13 w = v 4 h))
theorem tp_1 {v u : Vw} {h w : Nat} (y : v 15 w ≤ u 15 w) : tp v u h w = false := by
  unfold tp
  rw [decide_eq_false (Int32.not_lt.mpr y)]
  rfl
theorem tp_2 {v u : Vw} {h w : Nat} (y : ¬ v 12 w = v 3 h) : tp v u h w = false := by
  unfold tp
  rw [decide_eq_false y, Bool.false_and, Bool.and_false]
theorem tp_3 {v u : Vw} {h w : Nat} (y : ¬ v 13 w = v 4 h) : tp v u h w = false := by
  unfold tp
  rw [decide_eq_false y, Bool.and_false, Bool.and_false]
theorem tp_t {v u : Vw} {h w : Nat} (y1 : u 15 w < v 15 w) (y2 : v 12 w = v 3 h) (y3 : v 13 w = v 4 h) : tp v u h w = true := by
  unfold tp
  rw [decide_eq_true y1, decide_eq_true y2, decide_eq_true y3]
  rfl
theorem ior_f {p : Nat → Bool} {j : Nat} (h : p j = false) : b2i (anyB p j) ||| 0 = b2i (anyB p (j + 1)) := by
  show _ = b2i (anyB p j || p j)
  rw [h]
  cases anyB p j <;> decide
theorem ior_t {p : Nat → Bool} {j : Nat} (h : p j = true) : b2i (anyB p j) ||| 1 = b2i (anyB p (j + 1)) := by
  show _ = b2i (anyB p j || p j)
  rw [h]
  cases anyB p j <;> decide
set_option maxHeartbeats 4000000 in
set_option maxRecDepth 100000 in
theorem w_there {p : Program} {l : Launch} {e : Jvm.Env} {R : Room} {s : State} {m : MethodId} {args : Array Value} {below : List Frame} {meth : Method} {c : Code} {Q : State → Prop} {g : Gm} {cells slots n b t : Nat} {x ng fs ca al ct mo : Int32} {i h : Nat} {f11 : Int32} {u : Vw} {M : Mem} {o : Nat → Int64} {H : Heap} {locs : List Loc} {ls : Array Slot} {v : Vw} (hC : CallFix p m c cL_law 32 s args LG RL) (hE : Ev g s) (hR : 9 ≤ R.frames ∧ 250 ≤ R.locals) (hf : cells ≤ R.cells ∧ slots ≤ R.slots) (hI : IJ g (KK g)) (hW : Lw n v) (hL : SimL g v) (e0 : M 0 = v) (e2 : M 2 = v) (kS : KK g (28, 3, 0)) (kR : ∀ k, k < nS v → KK g (24, 3, k)) (kW : KK g (29, 3, 0)) (kV : ∀ k, k < nW v → KK g (25, 3, k)) (hS8 : nS u = nS v) (hW3 : nW u = nW v) (hi : i < nS v) (hh : h < nH v) (eh : u 8 i = nI h) (hex : anyB (tp v u h) (nW v) = true) (hP : WP g (setR M 3 u) o H) (hS : va_S (AA g) s.heap H locs) (IH : ∀ (H : Heap) (locs : List Loc) (ls : Array Slot), WP g (setR M 3 u) o H → va_S (AA g) s.heap H locs → lv_has ls 32 [(0, .ref b), (1, .ref (ad g (8, 0, 0))), (2, .ref (ad g (20, 0, 0))), (3, .ref (ad g (30, 0, 0))), (4, .int (nI t)), (5, .int (x)), (6, .int (nI (nH v))), (7, .int (nI (nS v))), (8, .int (nI (nW v))), (9, .ref (ad g (30, 2, 0))), (10, .ref (ad g (28, 3, 0))), (11, .ref (ad g (29, 3, 0))), (18, .int (ng)), (19, .int (fs)), (21, .int (ca)), (22, .int (al)), (24, .int (ct)), (25, .int (mo)), (23, .ref (ad g (30, 3, 0))), (26, .int (nI i))] → W p l e R s m args below meth c H locs cells slots Q (F0 m 1106 ls [])) (hl : lv_has ls 32 [(0, .ref b), (1, .ref (ad g (8, 0, 0))), (2, .ref (ad g (20, 0, 0))), (3, .ref (ad g (30, 0, 0))), (4, .int (nI t)), (5, .int (x)), (6, .int (nI (nH v))), (7, .int (nI (nS v))), (8, .int (nI (nW v))), (9, .ref (ad g (30, 2, 0))), (10, .ref (ad g (28, 3, 0))), (11, .ref (ad g (29, 3, 0))), (18, .int (ng)), (19, .int (fs)), (21, .int (ca)), (22, .int (al)), (24, .int (ct)), (25, .int (mo)), (23, .ref (ad g (30, 3, 0))), (26, .int (nI i)), (27, .int (v 9 i)), (28, .int (v 8 i)), (29, .int ((v 11 i) - (f11)))]) : W p l e R s m args below meth c H locs cells slots Q (F0 m 1009 ls []) := by
  obtain ⟨hx, hb, hml, hown, hG⟩ := id hC
  have hv := hW.iv
  have qH := hv.lH
  have qS := hv.lS
  have qW := hv.lW
  refine lv_iconst (v := 0) hx hb dL_law_1009 (by decide) ?_
  refine lv_istore (lv' := [(30, .int ((0 : Int32))), (0, .ref b), (1, .ref (ad g (8, 0, 0))), (2, .ref (ad g (20, 0, 0))), (3, .ref (ad g (30, 0, 0))), (4, .int (nI t)), (5, .int (x)), (6, .int (nI (nH v))), (7, .int (nI (nS v))), (8, .int (nI (nW v))), (9, .ref (ad g (30, 2, 0))), (10, .ref (ad g (28, 3, 0))), (11, .ref (ad g (29, 3, 0))), (18, .int (ng)), (19, .int (fs)), (21, .int (ca)), (22, .int (al)), (24, .int (ct)), (25, .int (mo)), (23, .ref (ad g (30, 3, 0))), (26, .int (nI i)), (27, .int (v 9 i)), (28, .int (v 8 i)), (29, .int ((v 11 i) - (f11)))]) hx hb dL_law_1010 hl (by decide) rfl (fun ls hl => ?_)
  refine lv_iconst (v := 0) hx hb dL_law_1012 (by decide) ?_
  refine lv_istore (lv' := [(31, .int ((0 : Int32))), (30, .int ((0 : Int32))), (0, .ref b), (1, .ref (ad g (8, 0, 0))), (2, .ref (ad g (20, 0, 0))), (3, .ref (ad g (30, 0, 0))), (4, .int (nI t)), (5, .int (x)), (6, .int (nI (nH v))), (7, .int (nI (nS v))), (8, .int (nI (nW v))), (9, .ref (ad g (30, 2, 0))), (10, .ref (ad g (28, 3, 0))), (11, .ref (ad g (29, 3, 0))), (18, .int (ng)), (19, .int (fs)), (21, .int (ca)), (22, .int (al)), (24, .int (ct)), (25, .int (mo)), (23, .ref (ad g (30, 3, 0))), (26, .int (nI i)), (27, .int (v 9 i)), (28, .int (v 8 i)), (29, .int ((v 11 i) - (f11)))]) hx hb dL_law_1013 hl (by decide) rfl (fun ls hl => ?_)
  refine lp_W (i0 := 0) (nW v) (fun j => ent g (setR M 3 u) o) (fun j => [(31, .int (nI j)), (30, .int (b2i (anyB (tp v u h) j))), (0, .ref b), (1, .ref (ad g (8, 0, 0))), (2, .ref (ad g (20, 0, 0))), (3, .ref (ad g (30, 0, 0))), (4, .int (nI t)), (5, .int (x)), (6, .int (nI (nH v))), (7, .int (nI (nS v))), (8, .int (nI (nW v))), (9, .ref (ad g (30, 2, 0))), (10, .ref (ad g (28, 3, 0))), (11, .ref (ad g (29, 3, 0))), (18, .int (ng)), (19, .int (fs)), (21, .int (ca)), (22, .int (al)), (24, .int (ct)), (25, .int (mo)), (23, .ref (ad g (30, 3, 0))), (26, .int (nI i)), (27, .int (v 9 i)), (28, .int (v 8 i)), (29, .int ((v 11 i) - (f11)))]) (fun j => True) (Nat.zero_le _) (hP.castR (rfl)) hS (by show lv_has ls _ [(31, .int (nI 0)), (30, .int (b2i (anyB (tp v u h) 0))), (0, .ref b), (1, .ref (ad g (8, 0, 0))), (2, .ref (ad g (20, 0, 0))), (3, .ref (ad g (30, 0, 0))), (4, .int (nI t)), (5, .int (x)), (6, .int (nI (nH v))), (7, .int (nI (nS v))), (8, .int (nI (nW v))), (9, .ref (ad g (30, 2, 0))), (10, .ref (ad g (28, 3, 0))), (11, .ref (ad g (29, 3, 0))), (18, .int (ng)), (19, .int (fs)), (21, .int (ca)), (22, .int (al)), (24, .int (ct)), (25, .int (mo)), (23, .ref (ad g (30, 3, 0))), (26, .int (nI i)), (27, .int (v 9 i)), (28, .int (v 8 i)), (29, .int ((v 11 i) - (f11)))]; rw [show b2i (anyB (tp v u h) 0) = (0 : Int32) from rfl]; exact lv_sub hl [0, 1, 2, 3, 4, 5, 6, 7, 8, 9, 10, 11, 12, 13, 14, 15, 16, 17, 18, 19, 20, 21, 22, 23, 24] rfl) (trivial) (fun H locs ls hP hS hl J => ?_) (fun j hj IHj H locs ls hP hS hl J => ?_)
  · refine lv_iload hx hb dL_law_1015 (lv_at hl 0 rfl) ?_
    refine lv_iload hx hb dL_law_1017 (lv_at hl 10 rfl) ?_
    refine lv_icmp_ge (tgt := 1099) hx hb dL_law_1019 (by decide) (fun c1 => ?_) (fun c1 => absurd (nI_le (Nat.le_refl _) (by omega)) c1)
    refine lv_iload hx hb dL_law_1099 (lv_at hl 1 rfl) ?_
    refine lv_if_ne (tgt := 1106) hx hb dL_law_1101 (by decide) (fun c2 => ?_) (fun c2 => absurd c2 (b2i_1 hex))
    exact IH H locs ls hP hS (lv_sub hl [2, 3, 4, 5, 6, 7, 8, 9, 10, 11, 12, 13, 14, 15, 16, 17, 18, 19, 20, 21] rfl)
  · refine lv_iload hx hb dL_law_1015 (lv_at hl 0 rfl) ?_
    refine lv_iload hx hb dL_law_1017 (lv_at hl 10 rfl) ?_
    refine lv_icmp_ge (tgt := 1099) hx hb dL_law_1019 (by decide) (fun c3 => absurd c3 (nI_ge hj (by omega))) (fun c3 => ?_)
    refine lv_iload hx hb dL_law_1022 (lv_at hl 1 rfl) ?_
    refine lv_aload_n hx hb dL_law_1024 rfl (lv_at hl 3 rfl) ?_
    refine lv_iload hx hb dL_law_1025 (lv_at hl 0 rfl) ?_
    refine lv_iconst (v := 3) hx hb dL_law_1027 (by decide) ?_
    refine on_i (run_V hC hE hP hS (As := [.int (nI j), .int ((3 : Int32))]) (x_about l hI (M := setR M 3 u) hv j hj 3 (in_W hv hj) (by decide) ((setR_ne _ _ (by decide)).trans e0)) cal_X4_about w_306 ⟨by show _ + 1 ≤ R.frames; simp only; omega, by show _ + _ ≤ R.locals; simp only; omega⟩ k_8 f_8 rfl rfl rfl (Nat.le_of_ble_eq_true rfl) hl.1 hf dL_law_1028) hS (fun H locs hP hS => ?_)
    refine m_top (y := v 15 j) (warF_3) ?_
    refine lv_aload hx hb dL_law_1031 (lv_at hl 13 rfl) ?_
    refine lv_iload hx hb dL_law_1033 (lv_at hl 0 rfl) ?_
    refine m_aalA hC hE hP kW e_29 j (rfl) (Cn.rf.lW (by omega)) (Cn.rf.bW (by omega)) dL_law_1035 ?_
    refine lv_iconst (v := 3) hx hb dL_law_1036 (by decide) ?_
    refine m_iald hC hE hP (kV j hj) e_25 3 (rfl) (show 3 < 4 from by omega) (by decide) dL_law_1037 ?_
    refine m_top (y := u 15 j) rfl ?_
    refine lv_icmp_le (tgt := 1089) hx hb dL_law_1038 (by decide) (fun y1 => ?_) (fun y1 => ?_)
    · refine lv_iconst (v := 0) hx hb dL_law_1089 (by decide) ?_
      refine lv_ior hx hb dL_law_1090 ?_
      refine m_top (y := b2i (anyB (tp v u h) (j + 1))) (ior_f (tp_1 y1)) ?_
      refine lv_istore (lv' := [(30, .int (b2i (anyB (tp v u h) (j + 1)))), (31, .int (nI j)), (0, .ref b), (1, .ref (ad g (8, 0, 0))), (2, .ref (ad g (20, 0, 0))), (3, .ref (ad g (30, 0, 0))), (4, .int (nI t)), (5, .int (x)), (6, .int (nI (nH v))), (7, .int (nI (nS v))), (8, .int (nI (nW v))), (9, .ref (ad g (30, 2, 0))), (10, .ref (ad g (28, 3, 0))), (11, .ref (ad g (29, 3, 0))), (18, .int (ng)), (19, .int (fs)), (21, .int (ca)), (22, .int (al)), (24, .int (ct)), (25, .int (mo)), (23, .ref (ad g (30, 3, 0))), (26, .int (nI i)), (27, .int (v 9 i)), (28, .int (v 8 i)), (29, .int ((v 11 i) - (f11)))]) hx hb dL_law_1091 hl (by decide) rfl (fun ls hl => ?_)
      refine lv_iinc (v := nI (j + 1)) (lv' := [(31, .int (nI (j + 1))), (30, .int (b2i (anyB (tp v u h) (j + 1)))), (0, .ref b), (1, .ref (ad g (8, 0, 0))), (2, .ref (ad g (20, 0, 0))), (3, .ref (ad g (30, 0, 0))), (4, .int (nI t)), (5, .int (x)), (6, .int (nI (nH v))), (7, .int (nI (nS v))), (8, .int (nI (nW v))), (9, .ref (ad g (30, 2, 0))), (10, .ref (ad g (28, 3, 0))), (11, .ref (ad g (29, 3, 0))), (18, .int (ng)), (19, .int (fs)), (21, .int (ca)), (22, .int (al)), (24, .int (ct)), (25, .int (mo)), (23, .ref (ad g (30, 3, 0))), (26, .int (nI i)), (27, .int (v 9 i)), (28, .int (v 8 i)), (29, .int ((v 11 i) - (f11)))]) hx hb dL_law_1093 hl (k := 1) rfl (nI_1 _) (by decide) rfl (fun ls hl => ?_)
      refine lv_goto (tgt := 1015) hx hb dL_law_1096 (by decide) ?_
      exact IHj H locs ls (hP.castR (rfl)) hS (lv_sub hl [0, 1, 2, 3, 4, 5, 6, 7, 8, 9, 10, 11, 12, 13, 14, 15, 16, 17, 18, 19, 20, 21, 22, 23, 24] rfl) (trivial)
    · refine lv_aload_n hx hb dL_law_1041 rfl (lv_at hl 3 rfl) ?_
      refine lv_iload hx hb dL_law_1042 (lv_at hl 0 rfl) ?_
      refine lv_iconst (v := 0) hx hb dL_law_1044 (by decide) ?_
      refine on_i (run_V hC hE hP hS (As := [.int (nI j), .int ((0 : Int32))]) (x_about l hI (M := setR M 3 u) hv j hj 0 (in_W hv hj) (by decide) ((setR_ne _ _ (by decide)).trans e0)) cal_X4_about w_306 ⟨by show _ + 1 ≤ R.frames; simp only; omega, by show _ + _ ≤ R.locals; simp only; omega⟩ k_8 f_8 rfl rfl rfl (Nat.le_of_ble_eq_true rfl) hl.1 hf dL_law_1045) hS (fun H locs hP hS => ?_)
      refine m_top (y := v 12 j) (warF_0) ?_
      refine lv_aload_n hx hb dL_law_1048 rfl (lv_at hl 3 rfl) ?_
      refine lv_aload hx hb dL_law_1049 (lv_at hl 12 rfl) ?_
      refine lv_iload hx hb dL_law_1051 (lv_at hl 21 rfl) ?_
      refine m_aalA hC hE hP kS e_28 i (rfl) (Cn.rf.lS (by omega)) (Cn.rf.bS (by omega)) dL_law_1053 ?_
      refine lv_iconst (v := 2) hx hb dL_law_1054 (by decide) ?_
      refine m_iald hC hE hP (kR i hi) e_24 2 (rfl) (show 2 < 6 from by omega) (by decide) dL_law_1055 ?_
      refine m_top (y := u 8 i) rfl ?_
      refine m_top (y := nI h) (eh) ?_
      refine lv_iconst (v := 0) hx hb dL_law_1056 (by decide) ?_
      refine on_i (run_V hC hE hP hS (As := [.int (nI h), .int ((0 : Int32))]) (x_hole l hI (M := setR M 3 u) hv h hh 0 (in_H hv hh) (by decide) ((setR_ne _ _ (by decide)).trans e0)) cal_X4_hole w_264 ⟨by show _ + 1 ≤ R.frames; simp only; omega, by show _ + _ ≤ R.locals; simp only; omega⟩ k_8 f_8 rfl rfl rfl (Nat.le_of_ble_eq_true rfl) hl.1 hf dL_law_1057) hS (fun H locs hP hS => ?_)
      refine m_top (y := v 3 h) (holeF_0) ?_
      refine lv_icmp_ne (tgt := 1089) hx hb dL_law_1060 (by decide) (fun y2 => ?_) (fun y2 => ?_)
      · refine lv_iconst (v := 0) hx hb dL_law_1089 (by decide) ?_
        refine lv_ior hx hb dL_law_1090 ?_
        refine m_top (y := b2i (anyB (tp v u h) (j + 1))) (ior_f (tp_2 y2)) ?_
        refine lv_istore (lv' := [(30, .int (b2i (anyB (tp v u h) (j + 1)))), (31, .int (nI j)), (0, .ref b), (1, .ref (ad g (8, 0, 0))), (2, .ref (ad g (20, 0, 0))), (3, .ref (ad g (30, 0, 0))), (4, .int (nI t)), (5, .int (x)), (6, .int (nI (nH v))), (7, .int (nI (nS v))), (8, .int (nI (nW v))), (9, .ref (ad g (30, 2, 0))), (10, .ref (ad g (28, 3, 0))), (11, .ref (ad g (29, 3, 0))), (18, .int (ng)), (19, .int (fs)), (21, .int (ca)), (22, .int (al)), (24, .int (ct)), (25, .int (mo)), (23, .ref (ad g (30, 3, 0))), (26, .int (nI i)), (27, .int (v 9 i)), (28, .int (v 8 i)), (29, .int ((v 11 i) - (f11)))]) hx hb dL_law_1091 hl (by decide) rfl (fun ls hl => ?_)
        refine lv_iinc (v := nI (j + 1)) (lv' := [(31, .int (nI (j + 1))), (30, .int (b2i (anyB (tp v u h) (j + 1)))), (0, .ref b), (1, .ref (ad g (8, 0, 0))), (2, .ref (ad g (20, 0, 0))), (3, .ref (ad g (30, 0, 0))), (4, .int (nI t)), (5, .int (x)), (6, .int (nI (nH v))), (7, .int (nI (nS v))), (8, .int (nI (nW v))), (9, .ref (ad g (30, 2, 0))), (10, .ref (ad g (28, 3, 0))), (11, .ref (ad g (29, 3, 0))), (18, .int (ng)), (19, .int (fs)), (21, .int (ca)), (22, .int (al)), (24, .int (ct)), (25, .int (mo)), (23, .ref (ad g (30, 3, 0))), (26, .int (nI i)), (27, .int (v 9 i)), (28, .int (v 8 i)), (29, .int ((v 11 i) - (f11)))]) hx hb dL_law_1093 hl (k := 1) rfl (nI_1 _) (by decide) rfl (fun ls hl => ?_)
        refine lv_goto (tgt := 1015) hx hb dL_law_1096 (by decide) ?_
        exact IHj H locs ls (hP.castR (rfl)) hS (lv_sub hl [0, 1, 2, 3, 4, 5, 6, 7, 8, 9, 10, 11, 12, 13, 14, 15, 16, 17, 18, 19, 20, 21, 22, 23, 24] rfl) (trivial)
      · refine lv_aload_n hx hb dL_law_1063 rfl (lv_at hl 3 rfl) ?_
        refine lv_iload hx hb dL_law_1064 (lv_at hl 0 rfl) ?_
        refine lv_iconst (v := 1) hx hb dL_law_1066 (by decide) ?_
        refine on_i (run_V hC hE hP hS (As := [.int (nI j), .int ((1 : Int32))]) (x_about l hI (M := setR M 3 u) hv j hj 1 (in_W hv hj) (by decide) ((setR_ne _ _ (by decide)).trans e0)) cal_X4_about w_306 ⟨by show _ + 1 ≤ R.frames; simp only; omega, by show _ + _ ≤ R.locals; simp only; omega⟩ k_8 f_8 rfl rfl rfl (Nat.le_of_ble_eq_true rfl) hl.1 hf dL_law_1067) hS (fun H locs hP hS => ?_)
        refine m_top (y := v 13 j) (warF_1) ?_
        refine lv_aload_n hx hb dL_law_1070 rfl (lv_at hl 3 rfl) ?_
        refine lv_aload hx hb dL_law_1071 (lv_at hl 12 rfl) ?_
        refine lv_iload hx hb dL_law_1073 (lv_at hl 21 rfl) ?_
        refine m_aalA hC hE hP kS e_28 i (rfl) (Cn.rf.lS (by omega)) (Cn.rf.bS (by omega)) dL_law_1075 ?_
        refine lv_iconst (v := 2) hx hb dL_law_1076 (by decide) ?_
        refine m_iald hC hE hP (kR i hi) e_24 2 (rfl) (show 2 < 6 from by omega) (by decide) dL_law_1077 ?_
        refine m_top (y := u 8 i) rfl ?_
        refine m_top (y := nI h) (eh) ?_
        refine lv_iconst (v := 1) hx hb dL_law_1078 (by decide) ?_
        refine on_i (run_V hC hE hP hS (As := [.int (nI h), .int ((1 : Int32))]) (x_hole l hI (M := setR M 3 u) hv h hh 1 (in_H hv hh) (by decide) ((setR_ne _ _ (by decide)).trans e0)) cal_X4_hole w_264 ⟨by show _ + 1 ≤ R.frames; simp only; omega, by show _ + _ ≤ R.locals; simp only; omega⟩ k_8 f_8 rfl rfl rfl (Nat.le_of_ble_eq_true rfl) hl.1 hf dL_law_1079) hS (fun H locs hP hS => ?_)
        refine m_top (y := v 4 h) (holeF_1) ?_
        refine lv_icmp_ne (tgt := 1089) hx hb dL_law_1082 (by decide) (fun y3 => ?_) (fun y3 => ?_)
        · refine lv_iconst (v := 0) hx hb dL_law_1089 (by decide) ?_
          refine lv_ior hx hb dL_law_1090 ?_
          refine m_top (y := b2i (anyB (tp v u h) (j + 1))) (ior_f (tp_3 y3)) ?_
          refine lv_istore (lv' := [(30, .int (b2i (anyB (tp v u h) (j + 1)))), (31, .int (nI j)), (0, .ref b), (1, .ref (ad g (8, 0, 0))), (2, .ref (ad g (20, 0, 0))), (3, .ref (ad g (30, 0, 0))), (4, .int (nI t)), (5, .int (x)), (6, .int (nI (nH v))), (7, .int (nI (nS v))), (8, .int (nI (nW v))), (9, .ref (ad g (30, 2, 0))), (10, .ref (ad g (28, 3, 0))), (11, .ref (ad g (29, 3, 0))), (18, .int (ng)), (19, .int (fs)), (21, .int (ca)), (22, .int (al)), (24, .int (ct)), (25, .int (mo)), (23, .ref (ad g (30, 3, 0))), (26, .int (nI i)), (27, .int (v 9 i)), (28, .int (v 8 i)), (29, .int ((v 11 i) - (f11)))]) hx hb dL_law_1091 hl (by decide) rfl (fun ls hl => ?_)
          refine lv_iinc (v := nI (j + 1)) (lv' := [(31, .int (nI (j + 1))), (30, .int (b2i (anyB (tp v u h) (j + 1)))), (0, .ref b), (1, .ref (ad g (8, 0, 0))), (2, .ref (ad g (20, 0, 0))), (3, .ref (ad g (30, 0, 0))), (4, .int (nI t)), (5, .int (x)), (6, .int (nI (nH v))), (7, .int (nI (nS v))), (8, .int (nI (nW v))), (9, .ref (ad g (30, 2, 0))), (10, .ref (ad g (28, 3, 0))), (11, .ref (ad g (29, 3, 0))), (18, .int (ng)), (19, .int (fs)), (21, .int (ca)), (22, .int (al)), (24, .int (ct)), (25, .int (mo)), (23, .ref (ad g (30, 3, 0))), (26, .int (nI i)), (27, .int (v 9 i)), (28, .int (v 8 i)), (29, .int ((v 11 i) - (f11)))]) hx hb dL_law_1093 hl (k := 1) rfl (nI_1 _) (by decide) rfl (fun ls hl => ?_)
          refine lv_goto (tgt := 1015) hx hb dL_law_1096 (by decide) ?_
          exact IHj H locs ls (hP.castR (rfl)) hS (lv_sub hl [0, 1, 2, 3, 4, 5, 6, 7, 8, 9, 10, 11, 12, 13, 14, 15, 16, 17, 18, 19, 20, 21, 22, 23, 24] rfl) (trivial)
        · refine lv_iconst (v := 1) hx hb dL_law_1085 (by decide) ?_
          refine lv_goto (tgt := 1090) hx hb dL_law_1086 (by decide) ?_
          refine lv_ior hx hb dL_law_1090 ?_
          refine m_top (y := b2i (anyB (tp v u h) (j + 1))) (ior_t (tp_t (Int32.not_le.mp y1) y2 y3)) ?_
          refine lv_istore (lv' := [(30, .int (b2i (anyB (tp v u h) (j + 1)))), (31, .int (nI j)), (0, .ref b), (1, .ref (ad g (8, 0, 0))), (2, .ref (ad g (20, 0, 0))), (3, .ref (ad g (30, 0, 0))), (4, .int (nI t)), (5, .int (x)), (6, .int (nI (nH v))), (7, .int (nI (nS v))), (8, .int (nI (nW v))), (9, .ref (ad g (30, 2, 0))), (10, .ref (ad g (28, 3, 0))), (11, .ref (ad g (29, 3, 0))), (18, .int (ng)), (19, .int (fs)), (21, .int (ca)), (22, .int (al)), (24, .int (ct)), (25, .int (mo)), (23, .ref (ad g (30, 3, 0))), (26, .int (nI i)), (27, .int (v 9 i)), (28, .int (v 8 i)), (29, .int ((v 11 i) - (f11)))]) hx hb dL_law_1091 hl (by decide) rfl (fun ls hl => ?_)
          refine lv_iinc (v := nI (j + 1)) (lv' := [(31, .int (nI (j + 1))), (30, .int (b2i (anyB (tp v u h) (j + 1)))), (0, .ref b), (1, .ref (ad g (8, 0, 0))), (2, .ref (ad g (20, 0, 0))), (3, .ref (ad g (30, 0, 0))), (4, .int (nI t)), (5, .int (x)), (6, .int (nI (nH v))), (7, .int (nI (nS v))), (8, .int (nI (nW v))), (9, .ref (ad g (30, 2, 0))), (10, .ref (ad g (28, 3, 0))), (11, .ref (ad g (29, 3, 0))), (18, .int (ng)), (19, .int (fs)), (21, .int (ca)), (22, .int (al)), (24, .int (ct)), (25, .int (mo)), (23, .ref (ad g (30, 3, 0))), (26, .int (nI i)), (27, .int (v 9 i)), (28, .int (v 8 i)), (29, .int ((v 11 i) - (f11)))]) hx hb dL_law_1093 hl (k := 1) rfl (nI_1 _) (by decide) rfl (fun ls hl => ?_)
          refine lv_goto (tgt := 1015) hx hb dL_law_1096 (by decide) ?_
          exact IHj H locs ls (hP.castR (rfl)) hS (lv_sub hl [0, 1, 2, 3, 4, 5, 6, 7, 8, 9, 10, 11, 12, 13, 14, 15, 16, 17, 18, 19, 20, 21, 22, 23, 24] rfl) (trivial)
set_option maxHeartbeats 4000000 in
set_option maxRecDepth 100000 in
theorem l_sprs {p : Program} {l : Launch} {e : Jvm.Env} {R : Room} {s : State} {m : MethodId} {args : Array Value} {below : List Frame} {meth : Method} {c : Code} {Q : State → Prop} {g : Gm} {cells slots n b t : Nat} {x ng fs ca al ct mo : Int32} {u : Vw} {M : Mem} {o : Nat → Int64} {H : Heap} {locs : List Loc} {ls : Array Slot} {v : Vw} (hC : CallFix p m c cL_law 32 s args LG RL) (hE : Ev g s) (hR : 9 ≤ R.frames ∧ 250 ≤ R.locals) (hf : cells ≤ R.cells ∧ slots ≤ R.slots) (hI : IJ g (KK g)) (hW : Lw n v) (hL : SimL g v) (e0 : M 0 = v) (e2 : M 2 = v) (kS : KK g (28, 3, 0)) (kR : ∀ k, k < nS v → KK g (24, 3, k)) (kW : KK g (29, 3, 0)) (kV : ∀ k, k < nW v → KK g (25, 3, k)) (hS8 : nS u = nS v) (hW3 : nW u = nW v) (kA : KK g (30, 3, 0)) (h163 : (u 16 3).toNatClampNeg = nH v) (h3 : ∀ h, h < 12 → u 3 h = 0) (hq : ∀ k, k < nS v → SQ v u k) (hP : WP g (setR M 3 u) o H) (hS : va_S (AA g) s.heap H locs) (IH : ∀ (H : Heap) (locs : List Loc) (ls : Array Slot), WP g (setR M 3 (atV v u (nS v))) o H → va_S (AA g) s.heap H locs → lv_has ls 32 [(0, .ref b), (1, .ref (ad g (8, 0, 0))), (2, .ref (ad g (20, 0, 0))), (3, .ref (ad g (30, 0, 0))), (4, .int (nI t)), (5, .int (x)), (6, .int (nI (nH v))), (7, .int (nI (nS v))), (8, .int (nI (nW v))), (9, .ref (ad g (30, 2, 0))), (10, .ref (ad g (28, 3, 0))), (11, .ref (ad g (29, 3, 0))), (18, .int (ng)), (19, .int (fs)), (21, .int (ca)), (22, .int (al)), (24, .int (sumI (v 9) (nS v))), (25, .int (sumI (fun k => v 11 k - u 11 k) (nS v))), (23, .ref (ad g (30, 3, 0)))] → W p l e R s m args below meth c H locs cells slots Q (F0 m 1112 ls [])) (hl : lv_has ls 32 [(0, .ref b), (1, .ref (ad g (8, 0, 0))), (2, .ref (ad g (20, 0, 0))), (3, .ref (ad g (30, 0, 0))), (4, .int (nI t)), (5, .int (x)), (6, .int (nI (nH v))), (7, .int (nI (nS v))), (8, .int (nI (nW v))), (9, .ref (ad g (30, 2, 0))), (10, .ref (ad g (28, 3, 0))), (11, .ref (ad g (29, 3, 0))), (18, .int (ng)), (19, .int (fs)), (21, .int (ca)), (22, .int (al)), (23, .ref (ad g (30, 3, 0)))]) : W p l e R s m args below meth c H locs cells slots Q (F0 m 783 ls []) := by
  obtain ⟨hx, hb, hml, hown, hG⟩ := id hC
  have hv := hW.iv
  have qH := hv.lH
  have qS := hv.lS
  have qW := hv.lW
  refine lv_iconst (v := 0) hx hb dL_law_783 (by decide) ?_
  refine lv_istore (lv' := [(24, .int ((0 : Int32))), (0, .ref b), (1, .ref (ad g (8, 0, 0))), (2, .ref (ad g (20, 0, 0))), (3, .ref (ad g (30, 0, 0))), (4, .int (nI t)), (5, .int (x)), (6, .int (nI (nH v))), (7, .int (nI (nS v))), (8, .int (nI (nW v))), (9, .ref (ad g (30, 2, 0))), (10, .ref (ad g (28, 3, 0))), (11, .ref (ad g (29, 3, 0))), (18, .int (ng)), (19, .int (fs)), (21, .int (ca)), (22, .int (al)), (23, .ref (ad g (30, 3, 0)))]) hx hb dL_law_784 hl (by decide) rfl (fun ls hl => ?_)
  refine lv_iconst (v := 0) hx hb dL_law_786 (by decide) ?_
  refine lv_istore (lv' := [(25, .int ((0 : Int32))), (24, .int ((0 : Int32))), (0, .ref b), (1, .ref (ad g (8, 0, 0))), (2, .ref (ad g (20, 0, 0))), (3, .ref (ad g (30, 0, 0))), (4, .int (nI t)), (5, .int (x)), (6, .int (nI (nH v))), (7, .int (nI (nS v))), (8, .int (nI (nW v))), (9, .ref (ad g (30, 2, 0))), (10, .ref (ad g (28, 3, 0))), (11, .ref (ad g (29, 3, 0))), (18, .int (ng)), (19, .int (fs)), (21, .int (ca)), (22, .int (al)), (23, .ref (ad g (30, 3, 0)))]) hx hb dL_law_787 hl (by decide) rfl (fun ls hl => ?_)
  refine lv_iconst (v := 0) hx hb dL_law_789 (by decide) ?_
  refine lv_istore (lv' := [(26, .int ((0 : Int32))), (25, .int ((0 : Int32))), (24, .int ((0 : Int32))), (0, .ref b), (1, .ref (ad g (8, 0, 0))), (2, .ref (ad g (20, 0, 0))), (3, .ref (ad g (30, 0, 0))), (4, .int (nI t)), (5, .int (x)), (6, .int (nI (nH v))), (7, .int (nI (nS v))), (8, .int (nI (nW v))), (9, .ref (ad g (30, 2, 0))), (10, .ref (ad g (28, 3, 0))), (11, .ref (ad g (29, 3, 0))), (18, .int (ng)), (19, .int (fs)), (21, .int (ca)), (22, .int (al)), (23, .ref (ad g (30, 3, 0)))]) hx hb dL_law_790 hl (by decide) rfl (fun ls hl => ?_)
  refine lp_W (i0 := 0) (nS v) (fun i => ent g (setR M 3 (atV v u i)) o) (fun i => [(26, .int (nI i)), (25, .int (sumI (fun k => v 11 k - u 11 k) i)), (24, .int (sumI (v 9) i)), (0, .ref b), (1, .ref (ad g (8, 0, 0))), (2, .ref (ad g (20, 0, 0))), (3, .ref (ad g (30, 0, 0))), (4, .int (nI t)), (5, .int (x)), (6, .int (nI (nH v))), (7, .int (nI (nS v))), (8, .int (nI (nW v))), (9, .ref (ad g (30, 2, 0))), (10, .ref (ad g (28, 3, 0))), (11, .ref (ad g (29, 3, 0))), (18, .int (ng)), (19, .int (fs)), (21, .int (ca)), (22, .int (al)), (23, .ref (ad g (30, 3, 0)))]) (fun i => True) (Nat.zero_le _) (hP.castR (atV_0 h3)) hS (by show lv_has ls _ [(26, .int (nI 0)), (25, .int (sumI (fun k => v 11 k - u 11 k) 0)), (24, .int (sumI (v 9) 0)), (0, .ref b), (1, .ref (ad g (8, 0, 0))), (2, .ref (ad g (20, 0, 0))), (3, .ref (ad g (30, 0, 0))), (4, .int (nI t)), (5, .int (x)), (6, .int (nI (nH v))), (7, .int (nI (nS v))), (8, .int (nI (nW v))), (9, .ref (ad g (30, 2, 0))), (10, .ref (ad g (28, 3, 0))), (11, .ref (ad g (29, 3, 0))), (18, .int (ng)), (19, .int (fs)), (21, .int (ca)), (22, .int (al)), (23, .ref (ad g (30, 3, 0)))]; rw [show sumI (v 9) 0 = (0 : Int32) from rfl, show sumI (fun k => v 11 k - u 11 k) 0 = (0 : Int32) from rfl]; exact lv_sub hl [0, 1, 2, 3, 4, 5, 6, 7, 8, 9, 10, 11, 12, 13, 14, 15, 16, 17, 18, 19] rfl) (trivial) (fun H locs ls hP hS hl J => ?_) (fun i hi IH H locs ls hP hS hl J => ?_)
  · refine lv_iload hx hb dL_law_792 (lv_at hl 0 rfl) ?_
    refine lv_iload hx hb dL_law_794 (lv_at hl 10 rfl) ?_
    refine lv_icmp_ge (tgt := 1112) hx hb dL_law_796 (by decide) (fun c1 => ?_) (fun c1 => absurd (nI_le (Nat.le_refl _) (by omega)) c1)
    exact IH H locs ls hP hS (lv_sub hl [3, 4, 5, 6, 7, 8, 9, 10, 11, 12, 13, 14, 15, 16, 17, 18, 2, 1, 19] rfl)
  · refine lv_iload hx hb dL_law_792 (lv_at hl 0 rfl) ?_
    refine lv_iload hx hb dL_law_794 (lv_at hl 10 rfl) ?_
    refine lv_icmp_ge (tgt := 1112) hx hb dL_law_796 (by decide) (fun c2 => absurd c2 (nI_ge hi (by omega))) (fun c2 => ?_)
    refine lv_aload_n hx hb dL_law_799 rfl (lv_at hl 4 rfl) ?_
    refine lv_iload hx hb dL_law_800 (lv_at hl 0 rfl) ?_
    refine lv_iconst (v := 3) hx hb dL_law_802 (by decide) ?_
    refine on_i (run_V hC hE hP hS (As := [.int (nI i), .int ((3 : Int32))]) (x_spearer l hI (M := setR M 3 (atV v u i)) hv i hi 3 (in_S hv hi) (by decide) ((setR_ne _ _ (by decide)).trans e0)) cal_X4_spearer w_293 ⟨by show _ + 1 ≤ R.frames; simp only; omega, by show _ + _ ≤ R.locals; simp only; omega⟩ k_8 f_8 rfl rfl rfl (Nat.le_of_ble_eq_true rfl) hl.1 hf dL_law_803) hS (fun H locs hP hS => ?_)
    refine m_top (y := v 9 i) (sprF_3) ?_
    refine lv_istore (lv' := [(27, .int (v 9 i)), (26, .int (nI i)), (25, .int (sumI (fun k => v 11 k - u 11 k) i)), (24, .int (sumI (v 9) i)), (0, .ref b), (1, .ref (ad g (8, 0, 0))), (2, .ref (ad g (20, 0, 0))), (3, .ref (ad g (30, 0, 0))), (4, .int (nI t)), (5, .int (x)), (6, .int (nI (nH v))), (7, .int (nI (nS v))), (8, .int (nI (nW v))), (9, .ref (ad g (30, 2, 0))), (10, .ref (ad g (28, 3, 0))), (11, .ref (ad g (29, 3, 0))), (18, .int (ng)), (19, .int (fs)), (21, .int (ca)), (22, .int (al)), (23, .ref (ad g (30, 3, 0)))]) hx hb dL_law_806 hl (by decide) rfl (fun ls hl => ?_)
    refine lv_aload_n hx hb dL_law_808 rfl (lv_at hl 5 rfl) ?_
    refine lv_iload hx hb dL_law_809 (lv_at hl 1 rfl) ?_
    refine lv_iconst (v := 2) hx hb dL_law_811 (by decide) ?_
    refine on_i (run_V hC hE hP hS (As := [.int (nI i), .int ((2 : Int32))]) (x_spearer l hI (M := setR M 3 (atV v u i)) hv i hi 2 (in_S hv hi) (by decide) ((setR_ne _ _ (by decide)).trans e0)) cal_X4_spearer w_293 ⟨by show _ + 1 ≤ R.frames; simp only; omega, by show _ + _ ≤ R.locals; simp only; omega⟩ k_8 f_8 rfl rfl rfl (Nat.le_of_ble_eq_true rfl) hl.1 hf dL_law_812) hS (fun H locs hP hS => ?_)
    refine m_top (y := v 8 i) (sprF_2) ?_
    refine lv_istore (lv' := [(28, .int (v 8 i)), (27, .int (v 9 i)), (26, .int (nI i)), (25, .int (sumI (fun k => v 11 k - u 11 k) i)), (24, .int (sumI (v 9) i)), (0, .ref b), (1, .ref (ad g (8, 0, 0))), (2, .ref (ad g (20, 0, 0))), (3, .ref (ad g (30, 0, 0))), (4, .int (nI t)), (5, .int (x)), (6, .int (nI (nH v))), (7, .int (nI (nS v))), (8, .int (nI (nW v))), (9, .ref (ad g (30, 2, 0))), (10, .ref (ad g (28, 3, 0))), (11, .ref (ad g (29, 3, 0))), (18, .int (ng)), (19, .int (fs)), (21, .int (ca)), (22, .int (al)), (23, .ref (ad g (30, 3, 0)))]) hx hb dL_law_815 hl (by decide) rfl (fun ls hl => ?_)
    refine lv_aload_n hx hb dL_law_817 rfl (lv_at hl 6 rfl) ?_
    refine lv_iload hx hb dL_law_818 (lv_at hl 2 rfl) ?_
    refine lv_iconst (v := 5) hx hb dL_law_820 (by decide) ?_
    refine on_i (run_V hC hE hP hS (As := [.int (nI i), .int ((5 : Int32))]) (x_spearer l hI (M := setR M 3 (atV v u i)) hv i hi 5 (in_S hv hi) (by decide) ((setR_ne _ _ (by decide)).trans e0)) cal_X4_spearer w_293 ⟨by show _ + 1 ≤ R.frames; simp only; omega, by show _ + _ ≤ R.locals; simp only; omega⟩ k_8 f_8 rfl rfl rfl (Nat.le_of_ble_eq_true rfl) hl.1 hf dL_law_821) hS (fun H locs hP hS => ?_)
    refine m_top (y := v 11 i) (sprF_5) ?_
    refine lv_aload hx hb dL_law_824 (lv_at hl 15 rfl) ?_
    refine lv_iload hx hb dL_law_826 (lv_at hl 2 rfl) ?_
    refine m_aalA hC hE hP kS e_28 i (rfl) (atV_cn.lS (by omega)) (atV_cn.bS (by omega)) dL_law_828 ?_
    refine lv_iconst (v := 5) hx hb dL_law_829 (by decide) ?_
    refine m_iald hC hE hP (kR i hi) e_24 5 (rfl) (show 5 < 6 from by omega) (by decide) dL_law_830 ?_
    refine m_top (y := (atV v u i) 11 i) rfl ?_
    refine m_top (y := u 11 i) (atV_n (by decide)) ?_
    refine lv_isub hx hb dL_law_831 ?_
    refine lv_istore (lv' := [(29, .int ((v 11 i) - (u 11 i))), (28, .int (v 8 i)), (27, .int (v 9 i)), (26, .int (nI i)), (25, .int (sumI (fun k => v 11 k - u 11 k) i)), (24, .int (sumI (v 9) i)), (0, .ref b), (1, .ref (ad g (8, 0, 0))), (2, .ref (ad g (20, 0, 0))), (3, .ref (ad g (30, 0, 0))), (4, .int (nI t)), (5, .int (x)), (6, .int (nI (nH v))), (7, .int (nI (nS v))), (8, .int (nI (nW v))), (9, .ref (ad g (30, 2, 0))), (10, .ref (ad g (28, 3, 0))), (11, .ref (ad g (29, 3, 0))), (18, .int (ng)), (19, .int (fs)), (21, .int (ca)), (22, .int (al)), (23, .ref (ad g (30, 3, 0)))]) hx hb dL_law_832 hl (by decide) rfl (fun ls hl => ?_)
    refine lv_iload hx hb dL_law_834 (lv_at hl 5 rfl) ?_
    refine lv_iload hx hb dL_law_836 (lv_at hl 2 rfl) ?_
    refine lv_iadd hx hb dL_law_838 ?_
    refine lv_istore (lv' := [(24, .int ((sumI (v 9) i) + (v 9 i))), (29, .int ((v 11 i) - (u 11 i))), (28, .int (v 8 i)), (27, .int (v 9 i)), (26, .int (nI i)), (25, .int (sumI (fun k => v 11 k - u 11 k) i)), (0, .ref b), (1, .ref (ad g (8, 0, 0))), (2, .ref (ad g (20, 0, 0))), (3, .ref (ad g (30, 0, 0))), (4, .int (nI t)), (5, .int (x)), (6, .int (nI (nH v))), (7, .int (nI (nS v))), (8, .int (nI (nW v))), (9, .ref (ad g (30, 2, 0))), (10, .ref (ad g (28, 3, 0))), (11, .ref (ad g (29, 3, 0))), (18, .int (ng)), (19, .int (fs)), (21, .int (ca)), (22, .int (al)), (23, .ref (ad g (30, 3, 0)))]) hx hb dL_law_839 hl (by decide) rfl (fun ls hl => ?_)
    refine lv_iload hx hb dL_law_841 (lv_at hl 5 rfl) ?_
    refine lv_iload hx hb dL_law_843 (lv_at hl 1 rfl) ?_
    refine lv_iadd hx hb dL_law_845 ?_
    refine lv_istore (lv' := [(25, .int ((sumI (fun k => v 11 k - u 11 k) i) + ((v 11 i) - (u 11 i)))), (24, .int ((sumI (v 9) i) + (v 9 i))), (29, .int ((v 11 i) - (u 11 i))), (28, .int (v 8 i)), (27, .int (v 9 i)), (26, .int (nI i)), (0, .ref b), (1, .ref (ad g (8, 0, 0))), (2, .ref (ad g (20, 0, 0))), (3, .ref (ad g (30, 0, 0))), (4, .int (nI t)), (5, .int (x)), (6, .int (nI (nH v))), (7, .int (nI (nS v))), (8, .int (nI (nW v))), (9, .ref (ad g (30, 2, 0))), (10, .ref (ad g (28, 3, 0))), (11, .ref (ad g (29, 3, 0))), (18, .int (ng)), (19, .int (fs)), (21, .int (ca)), (22, .int (al)), (23, .ref (ad g (30, 3, 0)))]) hx hb dL_law_846 hl (by decide) rfl (fun ls hl => ?_)
    refine W_joinL (g := g) (K := KK g) (nL := 32) (ent g (setR M 3 (atV v u (i + 1))) o) [(25, .int ((sumI (fun k => v 11 k - u 11 k) i) + ((v 11 i) - (u 11 i)))), (24, .int ((sumI (v 9) i) + (v 9 i))), (29, .int ((v 11 i) - (u 11 i))), (28, .int (v 8 i)), (27, .int (v 9 i)), (26, .int (nI i)), (0, .ref b), (1, .ref (ad g (8, 0, 0))), (2, .ref (ad g (20, 0, 0))), (3, .ref (ad g (30, 0, 0))), (4, .int (nI t)), (5, .int (x)), (6, .int (nI (nH v))), (7, .int (nI (nS v))), (8, .int (nI (nW v))), (9, .ref (ad g (30, 2, 0))), (10, .ref (ad g (28, 3, 0))), (11, .ref (ad g (29, 3, 0))), (18, .int (ng)), (19, .int (fs)), (21, .int (ca)), (22, .int (al)), (23, .ref (ad g (30, 3, 0)))] (pc := 862) [] (fun hj862 => ?_) (fun H locs ls hP hS hl => ?_)
    · refine lv_iload hx hb dL_law_848 (lv_at hl 3 rfl) ?_
      refine lv_if_lt (tgt := 862) hx hb dL_law_850 (by decide) (fun y1 => ?_) (fun y1 => ?_)
      · exact hj862 H locs ls (hP.castR (atV_o (at_no hv hi y1))) hS (lv_sub hl [0, 1, 2, 3, 4, 5, 6, 7, 8, 9, 10, 11, 12, 13, 14, 15, 16, 17, 18, 19, 20, 21, 22] rfl)
      · obtain ⟨j, hj, ej⟩ := at_yes hv hi y1
        refine lv_aload hx hb dL_law_853 (lv_at hl 22 rfl) ?_
        refine lv_iload hx hb dL_law_855 (lv_at hl 3 rfl) ?_
        refine lv_dup2_11 hx hb dL_law_857 rfl rfl ?_
        refine m_iald hC hE hP kA e_30 j ej (show j < (atV v u i 16 3).toNatClampNeg by rw [atV_n (by decide), h163]; exact hj) (show (atV v u i 16 3).toNatClampNeg < 2 ^ 31 by rw [atV_n (by decide), h163]; omega) dL_law_858 ?_
        refine lv_iconst (v := 1) hx hb dL_law_859 (by decide) ?_
        refine lv_iadd hx hb dL_law_860 ?_
        refine m_iast hC hE hI hP hS kA e_30 j ej (show j < (atV v u i 16 3).toNatClampNeg by rw [atV_n (by decide), h163]; exact hj) (show (atV v u i 16 3).toNatClampNeg < 2 ^ 31 by rw [atV_n (by decide), h163]; omega) (p_30 (by decide)) (ent_put g M 3 (atV v u i) o 3 j ((atV v u i 3 j) + (1 : Int32)) (kf_30 (by decide))) dL_law_861 (fun H locs hP hS => ?_)
        exact hj862 H locs ls (hP.castR ((atV_s (by omega) ej).symm)) hS (lv_sub hl [0, 1, 2, 3, 4, 5, 6, 7, 8, 9, 10, 11, 12, 13, 14, 15, 16, 17, 18, 19, 20, 21, 22] rfl)
    · refine lv_aload_n hx hb dL_law_862 rfl (lv_at hl 7 rfl) ?_
      refine lv_iload hx hb dL_law_863 (lv_at hl 5 rfl) ?_
      refine lv_iconst (v := 0) hx hb dL_law_865 (by decide) ?_
      refine on_i (run_V hC hE hP hS (As := [.int (nI i), .int ((0 : Int32))]) (x_spearer l hI (M := setR M 3 (atV v u (i + 1))) hv i hi 0 (in_S hv hi) (by decide) ((setR_ne _ _ (by decide)).trans e0)) cal_X4_spearer w_293 ⟨by show _ + 1 ≤ R.frames; simp only; omega, by show _ + _ ≤ R.locals; simp only; omega⟩ k_8 f_8 rfl rfl rfl (Nat.le_of_ble_eq_true rfl) hl.1 hf dL_law_866) hS (fun H locs hP hS => ?_)
      refine m_top (y := v 6 i) (sprF_0) ?_
      refine lv_aload hx hb dL_law_869 (lv_at hl 16 rfl) ?_
      refine lv_iload hx hb dL_law_871 (lv_at hl 5 rfl) ?_
      refine m_aalA hC hE hP kS e_28 i (rfl) (atV_cn.lS (by omega)) (atV_cn.bS (by omega)) dL_law_873 ?_
      refine lv_iconst (v := 0) hx hb dL_law_874 (by decide) ?_
      refine m_iald hC hE hP (kR i hi) e_24 0 (rfl) (show 0 < 6 from by omega) (by decide) dL_law_875 ?_
      refine m_top (y := (atV v u (i + 1)) 6 i) rfl ?_
      refine m_top (y := u 6 i) (atV_n (by decide)) ?_
      refine lv_icmp_ne (tgt := 999) hx hb dL_law_876 (by decide) (fun c3 => absurd ((hq i hi).1) c3) (fun c3 => ?_)
      refine lv_aload_n hx hb dL_law_879 rfl (lv_at hl 7 rfl) ?_
      refine lv_iload hx hb dL_law_880 (lv_at hl 5 rfl) ?_
      refine lv_iconst (v := 1) hx hb dL_law_882 (by decide) ?_
      refine on_i (run_V hC hE hP hS (As := [.int (nI i), .int ((1 : Int32))]) (x_spearer l hI (M := setR M 3 (atV v u (i + 1))) hv i hi 1 (in_S hv hi) (by decide) ((setR_ne _ _ (by decide)).trans e0)) cal_X4_spearer w_293 ⟨by show _ + 1 ≤ R.frames; simp only; omega, by show _ + _ ≤ R.locals; simp only; omega⟩ k_8 f_8 rfl rfl rfl (Nat.le_of_ble_eq_true rfl) hl.1 hf dL_law_883) hS (fun H locs hP hS => ?_)
      refine m_top (y := v 7 i) (sprF_1) ?_
      refine lv_aload hx hb dL_law_886 (lv_at hl 16 rfl) ?_
      refine lv_iload hx hb dL_law_888 (lv_at hl 5 rfl) ?_
      refine m_aalA hC hE hP kS e_28 i (rfl) (atV_cn.lS (by omega)) (atV_cn.bS (by omega)) dL_law_890 ?_
      refine lv_iconst (v := 1) hx hb dL_law_891 (by decide) ?_
      refine m_iald hC hE hP (kR i hi) e_24 1 (rfl) (show 1 < 6 from by omega) (by decide) dL_law_892 ?_
      refine m_top (y := (atV v u (i + 1)) 7 i) rfl ?_
      refine m_top (y := u 7 i) (atV_n (by decide)) ?_
      refine lv_icmp_ne (tgt := 999) hx hb dL_law_893 (by decide) (fun c4 => absurd ((hq i hi).2.1) c4) (fun c4 => ?_)
      refine lv_aload_n hx hb dL_law_896 rfl (lv_at hl 7 rfl) ?_
      refine lv_iload hx hb dL_law_897 (lv_at hl 5 rfl) ?_
      refine lv_iconst (v := 4) hx hb dL_law_899 (by decide) ?_
      refine on_i (run_V hC hE hP hS (As := [.int (nI i), .int ((4 : Int32))]) (x_spearer l hI (M := setR M 3 (atV v u (i + 1))) hv i hi 4 (in_S hv hi) (by decide) ((setR_ne _ _ (by decide)).trans e0)) cal_X4_spearer w_293 ⟨by show _ + 1 ≤ R.frames; simp only; omega, by show _ + _ ≤ R.locals; simp only; omega⟩ k_8 f_8 rfl rfl rfl (Nat.le_of_ble_eq_true rfl) hl.1 hf dL_law_900) hS (fun H locs hP hS => ?_)
      refine m_top (y := v 10 i) (sprF_4) ?_
      refine lv_aload hx hb dL_law_903 (lv_at hl 16 rfl) ?_
      refine lv_iload hx hb dL_law_905 (lv_at hl 5 rfl) ?_
      refine m_aalA hC hE hP kS e_28 i (rfl) (atV_cn.lS (by omega)) (atV_cn.bS (by omega)) dL_law_907 ?_
      refine lv_iconst (v := 4) hx hb dL_law_908 (by decide) ?_
      refine m_iald hC hE hP (kR i hi) e_24 4 (rfl) (show 4 < 6 from by omega) (by decide) dL_law_909 ?_
      refine m_top (y := (atV v u (i + 1)) 10 i) rfl ?_
      refine m_top (y := u 10 i) (atV_n (by decide)) ?_
      refine lv_iload hx hb dL_law_910 (lv_at hl 4 rfl) ?_
      refine lv_iadd hx hb dL_law_912 ?_
      refine lv_icmp_ne (tgt := 999) hx hb dL_law_913 (by decide) (fun c5 => absurd ((hq i hi).2.2.1) c5) (fun c5 => ?_)
      refine lv_iload hx hb dL_law_916 (lv_at hl 4 rfl) ?_
      refine lv_if_lt (tgt := 999) hx hb dL_law_918 (by decide) (fun c6 => absurd c6 (c32_lt (hq i hi).2.2.2.1)) (fun c6 => ?_)
      refine lv_iload hx hb dL_law_921 (lv_at hl 4 rfl) ?_
      refine lv_bipush (v := 31) hx hb dL_law_923 (by decide) ?_
      refine lv_icmp_gt (tgt := 999) hx hb dL_law_925 (by decide) (fun c7 => absurd c7 (c32_gt (hq i hi).2.2.2.1)) (fun c7 => ?_)
      refine lv_iload hx hb dL_law_928 (lv_at hl 2 rfl) ?_
      refine lv_if_lt (tgt := 999) hx hb dL_law_930 (by decide) (fun c8 => absurd c8 (f01_lt (hq i hi).f01)) (fun c8 => ?_)
      refine lv_iload hx hb dL_law_933 (lv_at hl 2 rfl) ?_
      refine lv_iconst (v := 1) hx hb dL_law_935 (by decide) ?_
      refine lv_icmp_gt (tgt := 999) hx hb dL_law_936 (by decide) (fun c9 => absurd c9 (f01_gt (hq i hi).f01)) (fun c9 => ?_)
      refine W_joinL (g := g) (K := KK g) (nL := 32) (ent g (setR M 3 (atV v u (i + 1))) o) [(25, .int ((sumI (fun k => v 11 k - u 11 k) i) + ((v 11 i) - (u 11 i)))), (24, .int ((sumI (v 9) i) + (v 9 i))), (29, .int ((v 11 i) - (u 11 i))), (28, .int (v 8 i)), (27, .int (v 9 i)), (26, .int (nI i)), (0, .ref b), (1, .ref (ad g (8, 0, 0))), (2, .ref (ad g (20, 0, 0))), (3, .ref (ad g (30, 0, 0))), (4, .int (nI t)), (5, .int (x)), (6, .int (nI (nH v))), (7, .int (nI (nS v))), (8, .int (nI (nW v))), (9, .ref (ad g (30, 2, 0))), (10, .ref (ad g (28, 3, 0))), (11, .ref (ad g (29, 3, 0))), (18, .int (ng)), (19, .int (fs)), (21, .int (ca)), (22, .int (al)), (23, .ref (ad g (30, 3, 0)))] (pc := 957) [] (fun hj957 => ?_) (fun H locs ls hP hS hl => ?_)
      · refine lv_iload hx hb dL_law_939 (lv_at hl 2 rfl) ?_
        refine lv_iconst (v := 1) hx hb dL_law_941 (by decide) ?_
        refine lv_icmp_ne (tgt := 957) hx hb dL_law_942 (by decide) (fun y2 => ?_) (fun y2 => ?_)
        · exact hj957 H locs ls (hP.castR (rfl)) hS (lv_sub hl [0, 1, 2, 3, 4, 5, 6, 7, 8, 9, 10, 11, 12, 13, 14, 15, 16, 17, 18, 19, 20, 21, 22] rfl)
        · refine lv_iload hx hb dL_law_945 (lv_at hl 4 rfl) ?_
          refine lv_aload hx hb dL_law_947 (lv_at hl 16 rfl) ?_
          refine lv_iload hx hb dL_law_949 (lv_at hl 5 rfl) ?_
          refine m_aalA hC hE hP kS e_28 i (rfl) (atV_cn.lS (by omega)) (atV_cn.bS (by omega)) dL_law_951 ?_
          refine lv_iconst (v := 0) hx hb dL_law_952 (by decide) ?_
          refine m_iald hC hE hP (kR i hi) e_24 0 (rfl) (show 0 < 6 from by omega) (by decide) dL_law_953 ?_
          refine m_top (y := (atV v u (i + 1)) 6 i) rfl ?_
          refine m_top (y := u 6 i) (atV_n (by decide)) ?_
          refine lv_icmp_ne (tgt := 999) hx hb dL_law_954 (by decide) (fun c10 => absurd ((hq i hi).c6 y2) c10) (fun c10 => ?_)
          exact hj957 H locs ls (hP.castR (rfl)) hS (lv_sub hl [0, 1, 2, 3, 4, 5, 6, 7, 8, 9, 10, 11, 12, 13, 14, 15, 16, 17, 18, 19, 20, 21, 22] rfl)
      · refine W_joinL (g := g) (K := KK g) (nL := 32) (ent g (setR M 3 (atV v u (i + 1))) o) [(25, .int ((sumI (fun k => v 11 k - u 11 k) i) + ((v 11 i) - (u 11 i)))), (24, .int ((sumI (v 9) i) + (v 9 i))), (29, .int ((v 11 i) - (u 11 i))), (28, .int (v 8 i)), (27, .int (v 9 i)), (26, .int (nI i)), (0, .ref b), (1, .ref (ad g (8, 0, 0))), (2, .ref (ad g (20, 0, 0))), (3, .ref (ad g (30, 0, 0))), (4, .int (nI t)), (5, .int (x)), (6, .int (nI (nH v))), (7, .int (nI (nS v))), (8, .int (nI (nW v))), (9, .ref (ad g (30, 2, 0))), (10, .ref (ad g (28, 3, 0))), (11, .ref (ad g (29, 3, 0))), (18, .int (ng)), (19, .int (fs)), (21, .int (ca)), (22, .int (al)), (23, .ref (ad g (30, 3, 0)))] (pc := 975) [] (fun hj975 => ?_) (fun H locs ls hP hS hl => ?_)
        · refine lv_aload hx hb dL_law_957 (lv_at hl 16 rfl) ?_
          refine lv_iload hx hb dL_law_959 (lv_at hl 5 rfl) ?_
          refine m_aalA hC hE hP kS e_28 i (rfl) (atV_cn.lS (by omega)) (atV_cn.bS (by omega)) dL_law_961 ?_
          refine lv_iconst (v := 2) hx hb dL_law_962 (by decide) ?_
          refine m_iald hC hE hP (kR i hi) e_24 2 (rfl) (show 2 < 6 from by omega) (by decide) dL_law_963 ?_
          refine m_top (y := (atV v u (i + 1)) 8 i) rfl ?_
          refine m_top (y := u 8 i) (atV_n (by decide)) ?_
          refine lv_if_ge (tgt := 975) hx hb dL_law_964 (by decide) (fun y3 => ?_) (fun y3 => ?_)
          · exact hj975 H locs ls (hP.castR (rfl)) hS (lv_sub hl [0, 1, 2, 3, 4, 5, 6, 7, 8, 9, 10, 11, 12, 13, 14, 15, 16, 17, 18, 19, 20, 21, 22] rfl)
          · refine lv_iload hx hb dL_law_967 (lv_at hl 4 rfl) ?_
            refine lv_iload hx hb dL_law_969 (lv_at hl 2 rfl) ?_
            refine lv_iadd hx hb dL_law_971 ?_
            refine lv_if_gt (tgt := 999) hx hb dL_law_972 (by decide) (fun c11 => absurd c11 ((hq i hi).z (Int32.not_le.mp y3))) (fun c11 => ?_)
            exact hj975 H locs ls (hP.castR (rfl)) hS (lv_sub hl [0, 1, 2, 3, 4, 5, 6, 7, 8, 9, 10, 11, 12, 13, 14, 15, 16, 17, 18, 19, 20, 21, 22] rfl)
        · refine W_joinL (g := g) (K := KK g) (nL := 32) (ent g (setR M 3 (atV v u (i + 1))) o) [(25, .int ((sumI (fun k => v 11 k - u 11 k) i) + ((v 11 i) - (u 11 i)))), (24, .int ((sumI (v 9) i) + (v 9 i))), (29, .int ((v 11 i) - (u 11 i))), (28, .int (v 8 i)), (27, .int (v 9 i)), (26, .int (nI i)), (0, .ref b), (1, .ref (ad g (8, 0, 0))), (2, .ref (ad g (20, 0, 0))), (3, .ref (ad g (30, 0, 0))), (4, .int (nI t)), (5, .int (x)), (6, .int (nI (nH v))), (7, .int (nI (nS v))), (8, .int (nI (nW v))), (9, .ref (ad g (30, 2, 0))), (10, .ref (ad g (28, 3, 0))), (11, .ref (ad g (29, 3, 0))), (18, .int (ng)), (19, .int (fs)), (21, .int (ca)), (22, .int (al)), (23, .ref (ad g (30, 3, 0)))] (pc := 1001) [] (fun hj1001 => ?_) (fun H locs ls hP hS hl => ?_)
          · refine lv_iload hx hb dL_law_975 (lv_at hl 3 rfl) ?_
            refine lv_aload_n hx hb dL_law_977 rfl (lv_at hl 7 rfl) ?_
            refine lv_iconst (v := 2) hx hb dL_law_978 (by decide) ?_
            refine on_i (run_V hC hE hP hS (As := [.int ((2 : Int32))]) (x_count l hI (M := setR M 3 (atV v u (i + 1))) hv (2 : Int32) (by decide) ((setR_ne _ _ (by decide)).trans e0)) cal_X4_count w_319 ⟨by show _ + 1 ≤ R.frames; simp only; omega, by show _ + _ ≤ R.locals; simp only; omega⟩ k_8 f_8 rfl rfl rfl (Nat.le_of_ble_eq_true rfl) hl.1 hf dL_law_979) hS (fun H locs hP hS => ?_)
            refine lv_if_ne (tgt := 989) hx hb dL_law_982 (by decide) (fun y4 => ?_) (fun y4 => ?_)
            · refine lv_aload hx hb dL_law_989 (lv_at hl 16 rfl) ?_
              refine lv_iload hx hb dL_law_991 (lv_at hl 5 rfl) ?_
              refine m_aalA hC hE hP kS e_28 i (rfl) (atV_cn.lS (by omega)) (atV_cn.bS (by omega)) dL_law_993 ?_
              refine lv_iconst (v := 2) hx hb dL_law_994 (by decide) ?_
              refine m_iald hC hE hP (kR i hi) e_24 2 (rfl) (show 2 < 6 from by omega) (by decide) dL_law_995 ?_
              refine m_top (y := (atV v u (i + 1)) 8 i) rfl ?_
              refine m_top (y := u 8 i) (atV_n (by decide)) ?_
              refine lv_icmp_eq (tgt := 1001) hx hb dL_law_996 (by decide) (fun c12 => ?_) (fun c12 => absurd ((hq i hi).2.2.2.2.2.2.2 y4) c12)
              exact hj1001 H locs ls (hP.castR (rfl)) hS (lv_sub hl [0, 1, 2, 3, 4, 5, 6, 7, 8, 9, 10, 11, 12, 13, 14, 15, 16, 17, 18, 19, 20, 21, 22] rfl)
            · refine lv_iconst (v := (-1)) hx hb dL_law_985 (by decide) ?_
              refine lv_goto (tgt := 996) hx hb dL_law_986 (by decide) ?_
              refine lv_icmp_eq (tgt := 1001) hx hb dL_law_996 (by decide) (fun c13 => ?_) (fun c13 => absurd ((hq i hi).2.2.2.2.2.2.1 y4) c13)
              exact hj1001 H locs ls (hP.castR (rfl)) hS (lv_sub hl [0, 1, 2, 3, 4, 5, 6, 7, 8, 9, 10, 11, 12, 13, 14, 15, 16, 17, 18, 19, 20, 21, 22] rfl)
          · refine lv_iload hx hb dL_law_1001 (lv_at hl 2 rfl) ?_
            refine lv_if_ne (tgt := 1009) hx hb dL_law_1003 (by decide) (fun y5 => ?_) (fun y5 => ?_)
            · obtain ⟨h, hh, eh, w, hw, w1, w2, w3⟩ := SQ.wh (hq i hi) y5
              refine w_there (cells := cells) (slots := slots) (u := atV v u (i + 1)) (i := i) (h := h) (f11 := u 11 i) (ct := (sumI (v 9) i) + (v 9 i)) (mo := (sumI (fun k => v 11 k - u 11 k) i) + ((v 11 i) - (u 11 i))) hC hE hR (by first | exact hf | exact ⟨by simp only; omega, by simp only; omega⟩) hI hW hL e0 e2 kS kR kW kV (atV_cn.2.1.trans hS8) (atV_cn.2.2.trans hW3) hi hh ((atV_n (by decide)).trans eh) (anyB_yes hw (tp_t (by rw [atV_n (by decide)]; exact w1) w2 w3)) hP hS (fun H locs ls hP hS hl => ?_) (lv_sub hl [6, 7, 8, 9, 10, 11, 12, 13, 14, 15, 16, 17, 18, 19, 20, 21, 1, 0, 22, 5, 4, 3, 2] rfl)
              refine lv_iinc (v := nI (i + 1)) (lv' := [(26, .int (nI (i + 1))), (0, .ref b), (1, .ref (ad g (8, 0, 0))), (2, .ref (ad g (20, 0, 0))), (3, .ref (ad g (30, 0, 0))), (4, .int (nI t)), (5, .int (x)), (6, .int (nI (nH v))), (7, .int (nI (nS v))), (8, .int (nI (nW v))), (9, .ref (ad g (30, 2, 0))), (10, .ref (ad g (28, 3, 0))), (11, .ref (ad g (29, 3, 0))), (18, .int (ng)), (19, .int (fs)), (21, .int (ca)), (22, .int (al)), (24, .int ((sumI (v 9) i) + (v 9 i))), (25, .int ((sumI (fun k => v 11 k - u 11 k) i) + ((v 11 i) - (u 11 i)))), (23, .ref (ad g (30, 3, 0)))]) hx hb dL_law_1106 hl (k := 19) rfl (nI_1 _) (by decide) rfl (fun ls hl => ?_)
              refine lv_goto (tgt := 792) hx hb dL_law_1109 (by decide) ?_
              exact IH H locs ls (hP.castR (rfl)) hS (by show lv_has ls _ [(26, .int (nI (i + 1))), (25, .int (sumI (fun k => v 11 k - u 11 k) (i + 1))), (24, .int (sumI (v 9) (i + 1))), (0, .ref b), (1, .ref (ad g (8, 0, 0))), (2, .ref (ad g (20, 0, 0))), (3, .ref (ad g (30, 0, 0))), (4, .int (nI t)), (5, .int (x)), (6, .int (nI (nH v))), (7, .int (nI (nS v))), (8, .int (nI (nW v))), (9, .ref (ad g (30, 2, 0))), (10, .ref (ad g (28, 3, 0))), (11, .ref (ad g (29, 3, 0))), (18, .int (ng)), (19, .int (fs)), (21, .int (ca)), (22, .int (al)), (23, .ref (ad g (30, 3, 0)))]; rw [show sumI (fun k => v 11 k - u 11 k) (i + 1) = (sumI (fun k => v 11 k - u 11 k) i) + ((v 11 i) - (u 11 i)) from rfl, show sumI (v 9) (i + 1) = (sumI (v 9) i) + (v 9 i) from rfl]; exact lv_sub hl [0, 18, 17, 1, 2, 3, 4, 5, 6, 7, 8, 9, 10, 11, 12, 13, 14, 15, 16, 19] rfl) (trivial)
            · refine lv_goto (tgt := 1106) hx hb dL_law_1006 (by decide) ?_
              refine lv_iinc (v := nI (i + 1)) (lv' := [(26, .int (nI (i + 1))), (25, .int ((sumI (fun k => v 11 k - u 11 k) i) + ((v 11 i) - (u 11 i)))), (24, .int ((sumI (v 9) i) + (v 9 i))), (29, .int ((v 11 i) - (u 11 i))), (28, .int (v 8 i)), (27, .int (v 9 i)), (0, .ref b), (1, .ref (ad g (8, 0, 0))), (2, .ref (ad g (20, 0, 0))), (3, .ref (ad g (30, 0, 0))), (4, .int (nI t)), (5, .int (x)), (6, .int (nI (nH v))), (7, .int (nI (nS v))), (8, .int (nI (nW v))), (9, .ref (ad g (30, 2, 0))), (10, .ref (ad g (28, 3, 0))), (11, .ref (ad g (29, 3, 0))), (18, .int (ng)), (19, .int (fs)), (21, .int (ca)), (22, .int (al)), (23, .ref (ad g (30, 3, 0)))]) hx hb dL_law_1106 hl (k := 5) rfl (nI_1 _) (by decide) rfl (fun ls hl => ?_)
              refine lv_goto (tgt := 792) hx hb dL_law_1109 (by decide) ?_
              exact IH H locs ls (hP.castR (rfl)) hS (by show lv_has ls _ [(26, .int (nI (i + 1))), (25, .int (sumI (fun k => v 11 k - u 11 k) (i + 1))), (24, .int (sumI (v 9) (i + 1))), (0, .ref b), (1, .ref (ad g (8, 0, 0))), (2, .ref (ad g (20, 0, 0))), (3, .ref (ad g (30, 0, 0))), (4, .int (nI t)), (5, .int (x)), (6, .int (nI (nH v))), (7, .int (nI (nS v))), (8, .int (nI (nW v))), (9, .ref (ad g (30, 2, 0))), (10, .ref (ad g (28, 3, 0))), (11, .ref (ad g (29, 3, 0))), (18, .int (ng)), (19, .int (fs)), (21, .int (ca)), (22, .int (al)), (23, .ref (ad g (30, 3, 0)))]; rw [show sumI (fun k => v 11 k - u 11 k) (i + 1) = (sumI (fun k => v 11 k - u 11 k) i) + ((v 11 i) - (u 11 i)) from rfl, show sumI (v 9) (i + 1) = (sumI (v 9) i) + (v 9 i) from rfl]; exact lv_sub hl [0, 1, 2, 6, 7, 8, 9, 10, 11, 12, 13, 14, 15, 16, 17, 18, 19, 20, 21, 22] rfl) (trivial)
set_option maxHeartbeats 4000000 in
set_option maxRecDepth 100000 in
theorem l_at {p : Program} {l : Launch} {e : Jvm.Env} {R : Room} {s : State} {m : MethodId} {args : Array Value} {below : List Frame} {meth : Method} {c : Code} {Q : State → Prop} {g : Gm} {cells slots n b t : Nat} {x ng fs ca al ct mo : Int32} {u : Vw} {M : Mem} {o : Nat → Int64} {H : Heap} {locs : List Loc} {ls : Array Slot} {v : Vw} (hC : CallFix p m c cL_law 32 s args LG RL) (hE : Ev g s) (hR : 9 ≤ R.frames ∧ 250 ≤ R.locals) (hf : cells + 1 ≤ R.cells ∧ slots + 12 ≤ R.slots) (hI : IJ g (KK g)) (hW : Lw n v) (hL : SimL g v) (e0 : M 0 = v) (e2 : M 2 = v) (hP : WP g (setR M 3 u) o H) (hS : va_S (AA g) s.heap H locs) (IH : ∀ (a : Nat) (H : Heap) (locs : List Loc) (ls : Array Slot), WP (gA g (30, 3, 0) a) (setR M 3 (mH u 3 (nH v) (fun _ => 0))) o H → IJ (gA g (30, 3, 0) a) (KK (gA g (30, 3, 0) a)) → va_S (AA g) s.heap H locs → lv_has ls 32 [(0, .ref b), (1, .ref (ad (gA g (30, 3, 0) a) (8, 0, 0))), (2, .ref (ad (gA g (30, 3, 0) a) (20, 0, 0))), (3, .ref (ad (gA g (30, 3, 0) a) (30, 0, 0))), (4, .int (nI t)), (5, .int (x)), (6, .int (nI (nH v))), (7, .int (nI (nS v))), (8, .int (nI (nW v))), (9, .ref (ad (gA g (30, 3, 0) a) (30, 2, 0))), (10, .ref (ad (gA g (30, 3, 0) a) (28, 3, 0))), (11, .ref (ad (gA g (30, 3, 0) a) (29, 3, 0))), (18, .int (ng)), (19, .int (fs)), (21, .int (ca)), (22, .int (al)), (23, .ref (ad (gA g (30, 3, 0) a) (30, 3, 0)))] → W p l e R s m args below meth c H locs (cells + 1) (slots + 12) Q (F0 m 783 ls [])) (hl : lv_has ls 32 [(22, .int (al)), (0, .ref b), (1, .ref (ad g (8, 0, 0))), (2, .ref (ad g (20, 0, 0))), (3, .ref (ad g (30, 0, 0))), (4, .int (nI t)), (5, .int (x)), (6, .int (nI (nH v))), (7, .int (nI (nS v))), (8, .int (nI (nW v))), (9, .ref (ad g (30, 2, 0))), (10, .ref (ad g (28, 3, 0))), (11, .ref (ad g (29, 3, 0))), (18, .int (ng)), (19, .int (fs)), (21, .int (ca))]) : W p l e R s m args below meth c H locs cells slots Q (F0 m 777 ls []) := by
  obtain ⟨hx, hb, hml, hown, hG⟩ := id hC
  have hv := hW.iv
  have qH := hv.lH
  have qS := hv.lS
  have qW := hv.lW
  refine lv_iload hx hb dL_law_777 (lv_at hl 7 rfl) ?_
  refine m_newN hC hE hI hP hS 3 (by decide) (N := nH v) qH (Or.inr (Or.inl rfl)) rfl hf.1 hf.2 dL_law_779 (fun a H hP hI1 hS => ?_)
  refine lv_astore (lv' := [(23, .ref (ad (gA g (30, 3, 0) a) (30, 3, 0))), (22, .int (al)), (0, .ref b), (1, .ref (ad g (8, 0, 0))), (2, .ref (ad g (20, 0, 0))), (3, .ref (ad g (30, 0, 0))), (4, .int (nI t)), (5, .int (x)), (6, .int (nI (nH v))), (7, .int (nI (nS v))), (8, .int (nI (nW v))), (9, .ref (ad g (30, 2, 0))), (10, .ref (ad g (28, 3, 0))), (11, .ref (ad g (29, 3, 0))), (18, .int (ng)), (19, .int (fs)), (21, .int (ca))]) hx hb dL_law_781 hl (by decide) rfl (fun ls hl => ?_)
  exact IH a H locs ls hP hI1 hS (by rw [gA_ne (g := g) (k := (30, 3, 0)) (a := a) (j := (8, 0, 0)) (by decide), gA_ne (g := g) (k := (30, 3, 0)) (a := a) (j := (20, 0, 0)) (by decide), gA_ne (g := g) (k := (30, 3, 0)) (a := a) (j := (30, 0, 0)) (by decide), gA_ne (g := g) (k := (30, 3, 0)) (a := a) (j := (30, 2, 0)) (by decide), gA_ne (g := g) (k := (30, 3, 0)) (a := a) (j := (28, 3, 0)) (by decide), gA_ne (g := g) (k := (30, 3, 0)) (a := a) (j := (29, 3, 0)) (by decide)]; exact lv_sub hl [2, 3, 4, 5, 6, 7, 8, 9, 10, 11, 12, 13, 14, 15, 16, 1, 0] rfl)
