/-! The law looks at each cell. -/
theorem ic_ge {v : Vw} {c : Nat} (h : IC v c) : ¬ v 0 c < 0 := Int32.not_lt.mpr h.pos
theorem ic_60 {v : Vw} {c : Nat} (h : IC v c) : ¬ 60 < v 0 c := by
  obtain ⟨j, hj, e⟩ := h
  rw [e]
  exact fun z => absurd ((nI_ltI (a := 60) (by decide) (by omega)).mp z) (by omega)
theorem would_ge {v : Vw} {c : Nat} (h : IC v c) : ¬ would v c < 0 := by
  obtain ⟨a, ha, ea⟩ := h
  obtain ⟨j, hj, ej⟩ := would_le ha ea
  rw [ej]
  exact nI_pos (by omega)
theorem would_no {v : Vw} {c : Nat} (h : IC v c) : ¬ v 0 c < would v c := by
  obtain ⟨a, ha, ea⟩ := h
  obtain ⟨j, hj, ej⟩ := would_le ha ea
  rw [ej, ea]
  exact fun z => absurd ((nI_ltI (by omega) (by omega)).mp z) (by omega)
theorem open_of {v : Vw} (hv : Inv v) {x y : Int32} (h : ¬ openIn v x y < 0) : ∃ k, k < nH v ∧ openIn v x y = nI k ∧ v 3 k = x ∧ v 4 k = y ∧ v 5 k = 1 := by
  unfold openIn at h ⊢
  rcases fst1_ran (p := opn v x y) (nH v) with q | ⟨i, hi, e, h1, _⟩
  · rw [q] at h; exact absurd (by decide) h
  · unfold opn at h1
    simp only [Bool.and_eq_true, decide_eq_true_eq, Bool.not_eq_true', decide_eq_false_iff_not] at h1
    exact ⟨i, hi, e, h1.2.1, h1.2.2, (hv.hH i hi).2.2.resolve_left h1.1⟩
theorem holeF_0 {v : Vw} {h : Nat} : holeF v h 0 = v 3 h := if_pos rfl
theorem holeF_1 {v : Vw} {h : Nat} : holeF v h 1 = v 4 h := by
  unfold holeF
  rw [if_neg (by decide), if_pos rfl]
set_option maxHeartbeats 4000000 in
set_option maxRecDepth 100000 in
theorem w_cells {p : Program} {l : Launch} {e : Jvm.Env} {R : Room} {s : State} {m : MethodId} {args : Array Value} {below : List Frame} {meth : Method} {c : Code} {Q : State → Prop} {g : Gm} {cells slots n b t : Nat} {x ng fs ca : Int32} {u : Vw} {M : Mem} {o : Nat → Int64} {H : Heap} {locs : List Loc} {ls : Array Slot} {v : Vw} (hC : CallFix p m c cL_law 32 s args LG RL) (hE : Ev g s) (hR : 9 ≤ R.frames ∧ 250 ≤ R.locals) (hf : cells ≤ R.cells ∧ slots ≤ R.slots) (hI : IJ g (KK g)) (hW : Lw n v) (hL : SimL g v) (e0 : M 0 = v) (e2 : M 2 = v) (hP : WP g (setR M 3 u) o H) (hS : va_S (AA g) s.heap H locs) (IH : ∀ (H : Heap) (locs : List Loc) (ls : Array Slot), WP g (setR M 3 u) o H → va_S (AA g) s.heap H locs → lv_has ls 32 [(22, .int (sumI (v 0) 81)), (0, .ref b), (1, .ref (ad g (8, 0, 0))), (2, .ref (ad g (20, 0, 0))), (3, .ref (ad g (30, 0, 0))), (4, .int (nI t)), (5, .int (x)), (6, .int (nI (nH v))), (7, .int (nI (nS v))), (8, .int (nI (nW v))), (9, .ref (ad g (30, 2, 0))), (10, .ref (ad g (28, 3, 0))), (11, .ref (ad g (29, 3, 0))), (18, .int (ng)), (19, .int (fs)), (21, .int (ca))] → W p l e R s m args below meth c H locs cells slots Q (F0 m 777 ls [])) (hl : lv_has ls 32 [(0, .ref b), (1, .ref (ad g (8, 0, 0))), (2, .ref (ad g (20, 0, 0))), (3, .ref (ad g (30, 0, 0))), (4, .int (nI t)), (5, .int (x)), (6, .int (nI (nH v))), (7, .int (nI (nS v))), (8, .int (nI (nW v))), (9, .ref (ad g (30, 2, 0))), (10, .ref (ad g (28, 3, 0))), (11, .ref (ad g (29, 3, 0))), (18, .int (ng)), (19, .int (fs)), (21, .int (ca))]) : W p l e R s m args below meth c H locs cells slots Q (F0 m 636 ls []) := by
  obtain ⟨hx, hb, hml, hown, hG⟩ := id hC
  have hv := hW.iv
  have qH := hv.lH
  have qS := hv.lS
  have qW := hv.lW
  refine lv_iconst (v := 0) hx hb dL_law_636 (by decide) ?_
  refine lv_istore (lv' := [(22, .int ((0 : Int32))), (0, .ref b), (1, .ref (ad g (8, 0, 0))), (2, .ref (ad g (20, 0, 0))), (3, .ref (ad g (30, 0, 0))), (4, .int (nI t)), (5, .int (x)), (6, .int (nI (nH v))), (7, .int (nI (nS v))), (8, .int (nI (nW v))), (9, .ref (ad g (30, 2, 0))), (10, .ref (ad g (28, 3, 0))), (11, .ref (ad g (29, 3, 0))), (18, .int (ng)), (19, .int (fs)), (21, .int (ca))]) hx hb dL_law_637 hl (by decide) rfl (fun ls hl => ?_)
  refine lv_iconst (v := 0) hx hb dL_law_639 (by decide) ?_
  refine lv_istore (lv' := [(23, .int ((0 : Int32))), (22, .int ((0 : Int32))), (0, .ref b), (1, .ref (ad g (8, 0, 0))), (2, .ref (ad g (20, 0, 0))), (3, .ref (ad g (30, 0, 0))), (4, .int (nI t)), (5, .int (x)), (6, .int (nI (nH v))), (7, .int (nI (nS v))), (8, .int (nI (nW v))), (9, .ref (ad g (30, 2, 0))), (10, .ref (ad g (28, 3, 0))), (11, .ref (ad g (29, 3, 0))), (18, .int (ng)), (19, .int (fs)), (21, .int (ca))]) hx hb dL_law_640 hl (by decide) rfl (fun ls hl => ?_)
  refine lp_W (i0 := 0) 9 (fun i => ent g (setR M 3 u) o) (fun i => [(23, .int (nI i)), (22, .int (sumI (fun q => sumI (fun y => v 0 (9 * y + q)) 9) i)), (0, .ref b), (1, .ref (ad g (8, 0, 0))), (2, .ref (ad g (20, 0, 0))), (3, .ref (ad g (30, 0, 0))), (4, .int (nI t)), (5, .int (x)), (6, .int (nI (nH v))), (7, .int (nI (nS v))), (8, .int (nI (nW v))), (9, .ref (ad g (30, 2, 0))), (10, .ref (ad g (28, 3, 0))), (11, .ref (ad g (29, 3, 0))), (18, .int (ng)), (19, .int (fs)), (21, .int (ca))]) (fun i => True) (Nat.zero_le _) (hP.castR (rfl)) hS (by show lv_has ls _ [(23, .int (nI 0)), (22, .int (sumI (fun q => sumI (fun y => v 0 (9 * y + q)) 9) 0)), (0, .ref b), (1, .ref (ad g (8, 0, 0))), (2, .ref (ad g (20, 0, 0))), (3, .ref (ad g (30, 0, 0))), (4, .int (nI t)), (5, .int (x)), (6, .int (nI (nH v))), (7, .int (nI (nS v))), (8, .int (nI (nW v))), (9, .ref (ad g (30, 2, 0))), (10, .ref (ad g (28, 3, 0))), (11, .ref (ad g (29, 3, 0))), (18, .int (ng)), (19, .int (fs)), (21, .int (ca))]; rw [show sumI (fun q => sumI (fun y => v 0 (9 * y + q)) 9) 0 = (0 : Int32) from rfl]; exact lv_sub hl [0, 1, 2, 3, 4, 5, 6, 7, 8, 9, 10, 11, 12, 13, 14, 15, 16] rfl) (trivial) (fun H locs ls hP hS hl J => ?_) (fun i hi IH H locs ls hP hS hl J => ?_)
  · refine lv_iload hx hb dL_law_642 (lv_at hl 0 rfl) ?_
    refine lv_bipush (v := 9) hx hb dL_law_644 (by decide) ?_
    refine lv_icmp_ge (tgt := 777) hx hb dL_law_646 (by decide) (fun c1 => ?_) (fun c1 => absurd (nI_le (a := 9) (b := 9) (Nat.le_refl _) (by omega)) c1)
    exact IH H locs ls (hP.castR rfl) hS (by show lv_has ls 32 _; rw [← sum_xy]; exact lv_sub hl [1, 2, 3, 4, 5, 6, 7, 8, 9, 10, 11, 12, 13, 14, 15, 16] rfl)
  · refine lv_iload hx hb dL_law_642 (lv_at hl 0 rfl) ?_
    refine lv_bipush (v := 9) hx hb dL_law_644 (by decide) ?_
    refine lv_icmp_ge (tgt := 777) hx hb dL_law_646 (by decide) (fun c2 => absurd c2 (nI_ge (b := 9) hi (by omega))) (fun c2 => ?_)
    refine lv_iconst (v := 0) hx hb dL_law_649 (by decide) ?_
    refine lv_istore (lv' := [(24, .int ((0 : Int32))), (23, .int (nI i)), (22, .int (sumI (fun q => sumI (fun y => v 0 (9 * y + q)) 9) i)), (0, .ref b), (1, .ref (ad g (8, 0, 0))), (2, .ref (ad g (20, 0, 0))), (3, .ref (ad g (30, 0, 0))), (4, .int (nI t)), (5, .int (x)), (6, .int (nI (nH v))), (7, .int (nI (nS v))), (8, .int (nI (nW v))), (9, .ref (ad g (30, 2, 0))), (10, .ref (ad g (28, 3, 0))), (11, .ref (ad g (29, 3, 0))), (18, .int (ng)), (19, .int (fs)), (21, .int (ca))]) hx hb dL_law_650 hl (by decide) rfl (fun ls hl => ?_)
    refine lp_W (i0 := 0) 9 (fun j => ent g (setR M 3 u) o) (fun j => [(24, .int (nI j)), (23, .int (nI i)), (22, .int (sumI (fun q => sumI (fun y => v 0 (9 * y + q)) 9) i + sumI (fun y => v 0 (9 * y + i)) j)), (0, .ref b), (1, .ref (ad g (8, 0, 0))), (2, .ref (ad g (20, 0, 0))), (3, .ref (ad g (30, 0, 0))), (4, .int (nI t)), (5, .int (x)), (6, .int (nI (nH v))), (7, .int (nI (nS v))), (8, .int (nI (nW v))), (9, .ref (ad g (30, 2, 0))), (10, .ref (ad g (28, 3, 0))), (11, .ref (ad g (29, 3, 0))), (18, .int (ng)), (19, .int (fs)), (21, .int (ca))]) (fun j => True) (Nat.zero_le _) (hP.castR (rfl)) hS (by show lv_has ls _ [(24, .int (nI 0)), (23, .int (nI i)), (22, .int (sumI (fun q => sumI (fun y => v 0 (9 * y + q)) 9) i + sumI (fun y => v 0 (9 * y + i)) 0)), (0, .ref b), (1, .ref (ad g (8, 0, 0))), (2, .ref (ad g (20, 0, 0))), (3, .ref (ad g (30, 0, 0))), (4, .int (nI t)), (5, .int (x)), (6, .int (nI (nH v))), (7, .int (nI (nS v))), (8, .int (nI (nW v))), (9, .ref (ad g (30, 2, 0))), (10, .ref (ad g (28, 3, 0))), (11, .ref (ad g (29, 3, 0))), (18, .int (ng)), (19, .int (fs)), (21, .int (ca))]; rw [show sumI (fun q => sumI (fun y => v 0 (9 * y + q)) 9) i + sumI (fun y => v 0 (9 * y + i)) 0 = sumI (fun q => sumI (fun y => v 0 (9 * y + q)) 9) i from Int32.add_zero _]; exact lv_sub hl [0, 1, 2, 3, 4, 5, 6, 7, 8, 9, 10, 11, 12, 13, 14, 15, 16, 17] rfl) (trivial) (fun H locs ls hP hS hl J => ?_) (fun j hj IHj H locs ls hP hS hl J => ?_)
    · refine lv_iload hx hb dL_law_652 (lv_at hl 0 rfl) ?_
      refine lv_bipush (v := 9) hx hb dL_law_654 (by decide) ?_
      refine lv_icmp_ge (tgt := 771) hx hb dL_law_656 (by decide) (fun c3 => ?_) (fun c3 => absurd (nI_le (a := 9) (b := 9) (Nat.le_refl _) (by omega)) c3)
      refine lv_iinc (v := nI (i + 1)) (lv' := [(23, .int (nI (i + 1))), (24, .int (nI 9)), (22, .int (sumI (fun q => sumI (fun y => v 0 (9 * y + q)) 9) i + sumI (fun y => v 0 (9 * y + i)) 9)), (0, .ref b), (1, .ref (ad g (8, 0, 0))), (2, .ref (ad g (20, 0, 0))), (3, .ref (ad g (30, 0, 0))), (4, .int (nI t)), (5, .int (x)), (6, .int (nI (nH v))), (7, .int (nI (nS v))), (8, .int (nI (nW v))), (9, .ref (ad g (30, 2, 0))), (10, .ref (ad g (28, 3, 0))), (11, .ref (ad g (29, 3, 0))), (18, .int (ng)), (19, .int (fs)), (21, .int (ca))]) hx hb dL_law_771 hl (k := 1) rfl (nI_1 _) (by decide) rfl (fun ls hl => ?_)
      refine lv_goto (tgt := 642) hx hb dL_law_774 (by decide) ?_
      exact IH H locs ls (hP.castR (rfl)) hS (by show lv_has ls _ [(23, .int (nI (i + 1))), (22, .int (sumI (fun q => sumI (fun y => v 0 (9 * y + q)) 9) (i + 1))), (0, .ref b), (1, .ref (ad g (8, 0, 0))), (2, .ref (ad g (20, 0, 0))), (3, .ref (ad g (30, 0, 0))), (4, .int (nI t)), (5, .int (x)), (6, .int (nI (nH v))), (7, .int (nI (nS v))), (8, .int (nI (nW v))), (9, .ref (ad g (30, 2, 0))), (10, .ref (ad g (28, 3, 0))), (11, .ref (ad g (29, 3, 0))), (18, .int (ng)), (19, .int (fs)), (21, .int (ca))]; rw [show sumI (fun q => sumI (fun y => v 0 (9 * y + q)) 9) (i + 1) = sumI (fun q => sumI (fun y => v 0 (9 * y + q)) 9) i + sumI (fun y => v 0 (9 * y + i)) 9 from rfl]; exact lv_sub hl [0, 2, 3, 4, 5, 6, 7, 8, 9, 10, 11, 12, 13, 14, 15, 16, 17] rfl) (trivial)
    · refine lv_iload hx hb dL_law_652 (lv_at hl 0 rfl) ?_
      refine lv_bipush (v := 9) hx hb dL_law_654 (by decide) ?_
      refine lv_icmp_ge (tgt := 771) hx hb dL_law_656 (by decide) (fun c4 => absurd c4 (nI_ge (b := 9) hj (by omega))) (fun c4 => ?_)
      refine lv_aload_n hx hb dL_law_659 rfl (lv_at hl 4 rfl) ?_
      refine lv_iload hx hb dL_law_660 (lv_at hl 1 rfl) ?_
      refine lv_iload hx hb dL_law_662 (lv_at hl 0 rfl) ?_
      refine lv_iconst (v := 0) hx hb dL_law_664 (by decide) ?_
      refine on_i (run_V hC hE hP hS (As := [.int (nI i), .int (nI j), .int ((0 : Int32))]) (x_cell l hI (M := setR M 3 u) hv i j hi hj 0 (cell_in hi hj) (by decide) ((setR_ne _ _ (by decide)).trans e0)) cal_X4_cell w_165 ⟨by show _ + 1 ≤ R.frames; simp only; omega, by show _ + _ ≤ R.locals; simp only; omega⟩ k_8 f_8 rfl rfl rfl (Nat.le_of_ble_eq_true rfl) hl.1 hf dL_law_665) hS (fun H locs hP hS => ?_)
      refine m_top (y := v 0 (9 * j + i)) (cellF_0) ?_
      refine lv_istore (lv' := [(25, .int (v 0 (9 * j + i))), (24, .int (nI j)), (23, .int (nI i)), (22, .int (sumI (fun q => sumI (fun y => v 0 (9 * y + q)) 9) i + sumI (fun y => v 0 (9 * y + i)) j)), (0, .ref b), (1, .ref (ad g (8, 0, 0))), (2, .ref (ad g (20, 0, 0))), (3, .ref (ad g (30, 0, 0))), (4, .int (nI t)), (5, .int (x)), (6, .int (nI (nH v))), (7, .int (nI (nS v))), (8, .int (nI (nW v))), (9, .ref (ad g (30, 2, 0))), (10, .ref (ad g (28, 3, 0))), (11, .ref (ad g (29, 3, 0))), (18, .int (ng)), (19, .int (fs)), (21, .int (ca))]) hx hb dL_law_668 hl (by decide) rfl (fun ls hl => ?_)
      refine lv_aload_n hx hb dL_law_670 rfl (lv_at hl 5 rfl) ?_
      refine lv_iload hx hb dL_law_671 (lv_at hl 2 rfl) ?_
      refine lv_iload hx hb dL_law_673 (lv_at hl 1 rfl) ?_
      refine lv_iconst (v := 3) hx hb dL_law_675 (by decide) ?_
      refine on_i (run_V hC hE hP hS (As := [.int (nI i), .int (nI j), .int ((3 : Int32))]) (x_cell l hI (M := setR M 3 u) hv i j hi hj 3 (cell_in hi hj) (by decide) ((setR_ne _ _ (by decide)).trans e0)) cal_X4_cell w_165 ⟨by show _ + 1 ≤ R.frames; simp only; omega, by show _ + _ ≤ R.locals; simp only; omega⟩ k_8 f_8 rfl rfl rfl (Nat.le_of_ble_eq_true rfl) hl.1 hf dL_law_676) hS (fun H locs hP hS => ?_)
      refine m_top (y := would v (9 * j + i)) (cellF_3) ?_
      refine lv_istore (lv' := [(26, .int (would v (9 * j + i))), (25, .int (v 0 (9 * j + i))), (24, .int (nI j)), (23, .int (nI i)), (22, .int (sumI (fun q => sumI (fun y => v 0 (9 * y + q)) 9) i + sumI (fun y => v 0 (9 * y + i)) j)), (0, .ref b), (1, .ref (ad g (8, 0, 0))), (2, .ref (ad g (20, 0, 0))), (3, .ref (ad g (30, 0, 0))), (4, .int (nI t)), (5, .int (x)), (6, .int (nI (nH v))), (7, .int (nI (nS v))), (8, .int (nI (nW v))), (9, .ref (ad g (30, 2, 0))), (10, .ref (ad g (28, 3, 0))), (11, .ref (ad g (29, 3, 0))), (18, .int (ng)), (19, .int (fs)), (21, .int (ca))]) hx hb dL_law_679 hl (by decide) rfl (fun ls hl => ?_)
      refine lv_aload_n hx hb dL_law_681 rfl (lv_at hl 6 rfl) ?_
      refine lv_iload hx hb dL_law_682 (lv_at hl 3 rfl) ?_
      refine lv_iload hx hb dL_law_684 (lv_at hl 2 rfl) ?_
      refine lv_iconst (v := 2) hx hb dL_law_686 (by decide) ?_
      refine on_i (run_V hC hE hP hS (As := [.int (nI i), .int (nI j), .int ((2 : Int32))]) (x_cell l hI (M := setR M 3 u) hv i j hi hj 2 (cell_in hi hj) (by decide) ((setR_ne _ _ (by decide)).trans e0)) cal_X4_cell w_165 ⟨by show _ + 1 ≤ R.frames; simp only; omega, by show _ + _ ≤ R.locals; simp only; omega⟩ k_8 f_8 rfl rfl rfl (Nat.le_of_ble_eq_true rfl) hl.1 hf dL_law_687) hS (fun H locs hP hS => ?_)
      refine m_top (y := openIn v (nI i) (nI j)) (cellF_2) ?_
      refine lv_istore (lv' := [(27, .int (openIn v (nI i) (nI j))), (26, .int (would v (9 * j + i))), (25, .int (v 0 (9 * j + i))), (24, .int (nI j)), (23, .int (nI i)), (22, .int (sumI (fun q => sumI (fun y => v 0 (9 * y + q)) 9) i + sumI (fun y => v 0 (9 * y + i)) j)), (0, .ref b), (1, .ref (ad g (8, 0, 0))), (2, .ref (ad g (20, 0, 0))), (3, .ref (ad g (30, 0, 0))), (4, .int (nI t)), (5, .int (x)), (6, .int (nI (nH v))), (7, .int (nI (nS v))), (8, .int (nI (nW v))), (9, .ref (ad g (30, 2, 0))), (10, .ref (ad g (28, 3, 0))), (11, .ref (ad g (29, 3, 0))), (18, .int (ng)), (19, .int (fs)), (21, .int (ca))]) hx hb dL_law_690 hl (by decide) rfl (fun ls hl => ?_)
      refine lv_iload hx hb dL_law_692 (lv_at hl 5 rfl) ?_
      refine lv_iload hx hb dL_law_694 (lv_at hl 2 rfl) ?_
      refine lv_iadd hx hb dL_law_696 ?_
      refine lv_istore (lv' := [(22, .int ((sumI (fun q => sumI (fun y => v 0 (9 * y + q)) 9) i + sumI (fun y => v 0 (9 * y + i)) j) + (v 0 (9 * j + i)))), (27, .int (openIn v (nI i) (nI j))), (26, .int (would v (9 * j + i))), (25, .int (v 0 (9 * j + i))), (24, .int (nI j)), (23, .int (nI i)), (0, .ref b), (1, .ref (ad g (8, 0, 0))), (2, .ref (ad g (20, 0, 0))), (3, .ref (ad g (30, 0, 0))), (4, .int (nI t)), (5, .int (x)), (6, .int (nI (nH v))), (7, .int (nI (nS v))), (8, .int (nI (nW v))), (9, .ref (ad g (30, 2, 0))), (10, .ref (ad g (28, 3, 0))), (11, .ref (ad g (29, 3, 0))), (18, .int (ng)), (19, .int (fs)), (21, .int (ca))]) hx hb dL_law_697 hl (by decide) rfl (fun ls hl => ?_)
      refine lv_iload hx hb dL_law_699 (lv_at hl 3 rfl) ?_
      refine lv_if_lt (tgt := 763) hx hb dL_law_701 (by decide) (fun c5 => absurd c5 (ic_ge (hv.hC _ (by omega)))) (fun c5 => ?_)
      refine lv_iload hx hb dL_law_704 (lv_at hl 3 rfl) ?_
      refine lv_bipush (v := 60) hx hb dL_law_706 (by decide) ?_
      refine lv_icmp_gt (tgt := 763) hx hb dL_law_708 (by decide) (fun c6 => absurd c6 (ic_60 (hv.hC _ (by omega)))) (fun c6 => ?_)
      refine lv_iload hx hb dL_law_711 (lv_at hl 2 rfl) ?_
      refine lv_if_lt (tgt := 763) hx hb dL_law_713 (by decide) (fun c7 => absurd c7 (would_ge (hv.hC _ (by omega)))) (fun c7 => ?_)
      refine lv_iload hx hb dL_law_716 (lv_at hl 2 rfl) ?_
      refine lv_iload hx hb dL_law_718 (lv_at hl 3 rfl) ?_
      refine lv_icmp_gt (tgt := 763) hx hb dL_law_720 (by decide) (fun c8 => absurd c8 (would_no (hv.hC _ (by omega)))) (fun c8 => ?_)
      refine lv_iload hx hb dL_law_723 (lv_at hl 1 rfl) ?_
      refine lv_if_lt (tgt := 765) hx hb dL_law_725 (by decide) (fun c1 => ?_) (fun c1 => ?_)
      · refine lv_iinc (v := nI (j + 1)) (lv' := [(24, .int (nI (j + 1))), (22, .int ((sumI (fun q => sumI (fun y => v 0 (9 * y + q)) 9) i + sumI (fun y => v 0 (9 * y + i)) j) + (v 0 (9 * j + i)))), (27, .int (openIn v (nI i) (nI j))), (26, .int (would v (9 * j + i))), (25, .int (v 0 (9 * j + i))), (23, .int (nI i)), (0, .ref b), (1, .ref (ad g (8, 0, 0))), (2, .ref (ad g (20, 0, 0))), (3, .ref (ad g (30, 0, 0))), (4, .int (nI t)), (5, .int (x)), (6, .int (nI (nH v))), (7, .int (nI (nS v))), (8, .int (nI (nW v))), (9, .ref (ad g (30, 2, 0))), (10, .ref (ad g (28, 3, 0))), (11, .ref (ad g (29, 3, 0))), (18, .int (ng)), (19, .int (fs)), (21, .int (ca))]) hx hb dL_law_765 hl (k := 4) rfl (nI_1 _) (by decide) rfl (fun ls hl => ?_)
        refine lv_goto (tgt := 652) hx hb dL_law_768 (by decide) ?_
        exact IHj H locs ls (hP.castR (rfl)) hS (by show lv_has ls _ [(24, .int (nI (j + 1))), (23, .int (nI i)), (22, .int (sumI (fun q => sumI (fun y => v 0 (9 * y + q)) 9) i + sumI (fun y => v 0 (9 * y + i)) (j + 1))), (0, .ref b), (1, .ref (ad g (8, 0, 0))), (2, .ref (ad g (20, 0, 0))), (3, .ref (ad g (30, 0, 0))), (4, .int (nI t)), (5, .int (x)), (6, .int (nI (nH v))), (7, .int (nI (nS v))), (8, .int (nI (nW v))), (9, .ref (ad g (30, 2, 0))), (10, .ref (ad g (28, 3, 0))), (11, .ref (ad g (29, 3, 0))), (18, .int (ng)), (19, .int (fs)), (21, .int (ca))]; rw [show sumI (fun q => sumI (fun y => v 0 (9 * y + q)) 9) i + sumI (fun y => v 0 (9 * y + i)) (j + 1) = (sumI (fun q => sumI (fun y => v 0 (9 * y + q)) 9) i + sumI (fun y => v 0 (9 * y + i)) j) + (v 0 (9 * j + i)) from (Int32.add_assoc _ _ _).symm]; exact lv_sub hl [0, 5, 1, 6, 7, 8, 9, 10, 11, 12, 13, 14, 15, 16, 17, 18, 19, 20] rfl) (trivial)
      · obtain ⟨k, hk, ek, e3, e4, e5⟩ := open_of hv c1
        refine lv_aload_n hx hb dL_law_728 rfl (lv_at hl 7 rfl) ?_
        refine lv_iload hx hb dL_law_729 (lv_at hl 1 rfl) ?_
        refine m_top (y := nI k) (ek) ?_
        refine lv_iconst (v := 0) hx hb dL_law_731 (by decide) ?_
        refine on_i (run_V hC hE hP hS (As := [.int (nI k), .int ((0 : Int32))]) (x_hole l hI (M := setR M 3 u) hv k hk 0 (in_H hv hk) (by decide) ((setR_ne _ _ (by decide)).trans e0)) cal_X4_hole w_264 ⟨by show _ + 1 ≤ R.frames; simp only; omega, by show _ + _ ≤ R.locals; simp only; omega⟩ k_8 f_8 rfl rfl rfl (Nat.le_of_ble_eq_true rfl) hl.1 hf dL_law_732) hS (fun H locs hP hS => ?_)
        refine m_top (y := v 3 k) (holeF_0) ?_
        refine lv_iload hx hb dL_law_735 (lv_at hl 5 rfl) ?_
        refine lv_icmp_ne (tgt := 763) hx hb dL_law_737 (by decide) (fun c9 => absurd (e3) c9) (fun c9 => ?_)
        refine lv_aload_n hx hb dL_law_740 rfl (lv_at hl 7 rfl) ?_
        refine lv_iload hx hb dL_law_741 (lv_at hl 1 rfl) ?_
        refine m_top (y := nI k) (ek) ?_
        refine lv_iconst (v := 1) hx hb dL_law_743 (by decide) ?_
        refine on_i (run_V hC hE hP hS (As := [.int (nI k), .int ((1 : Int32))]) (x_hole l hI (M := setR M 3 u) hv k hk 1 (in_H hv hk) (by decide) ((setR_ne _ _ (by decide)).trans e0)) cal_X4_hole w_264 ⟨by show _ + 1 ≤ R.frames; simp only; omega, by show _ + _ ≤ R.locals; simp only; omega⟩ k_8 f_8 rfl rfl rfl (Nat.le_of_ble_eq_true rfl) hl.1 hf dL_law_744) hS (fun H locs hP hS => ?_)
        refine m_top (y := v 4 k) (holeF_1) ?_
        refine lv_iload hx hb dL_law_747 (lv_at hl 4 rfl) ?_
        refine lv_icmp_ne (tgt := 763) hx hb dL_law_749 (by decide) (fun c10 => absurd (e4) c10) (fun c10 => ?_)
        refine lv_aload_n hx hb dL_law_752 rfl (lv_at hl 7 rfl) ?_
        refine lv_iload hx hb dL_law_753 (lv_at hl 1 rfl) ?_
        refine m_top (y := nI k) (ek) ?_
        refine lv_iconst (v := 2) hx hb dL_law_755 (by decide) ?_
        refine on_i (run_V hC hE hP hS (As := [.int (nI k), .int ((2 : Int32))]) (x_hole l hI (M := setR M 3 u) hv k hk 2 (in_H hv hk) (by decide) ((setR_ne _ _ (by decide)).trans e0)) cal_X4_hole w_264 ⟨by show _ + 1 ≤ R.frames; simp only; omega, by show _ + _ ≤ R.locals; simp only; omega⟩ k_8 f_8 rfl rfl rfl (Nat.le_of_ble_eq_true rfl) hl.1 hf dL_law_756) hS (fun H locs hP hS => ?_)
        refine m_top (y := v 5 k) (holeF_2) ?_
        refine lv_iconst (v := 1) hx hb dL_law_759 (by decide) ?_
        refine lv_icmp_eq (tgt := 765) hx hb dL_law_760 (by decide) (fun c11 => ?_) (fun c11 => absurd (e5) c11)
        refine lv_iinc (v := nI (j + 1)) (lv' := [(24, .int (nI (j + 1))), (22, .int ((sumI (fun q => sumI (fun y => v 0 (9 * y + q)) 9) i + sumI (fun y => v 0 (9 * y + i)) j) + (v 0 (9 * j + i)))), (27, .int (openIn v (nI i) (nI j))), (26, .int (would v (9 * j + i))), (25, .int (v 0 (9 * j + i))), (23, .int (nI i)), (0, .ref b), (1, .ref (ad g (8, 0, 0))), (2, .ref (ad g (20, 0, 0))), (3, .ref (ad g (30, 0, 0))), (4, .int (nI t)), (5, .int (x)), (6, .int (nI (nH v))), (7, .int (nI (nS v))), (8, .int (nI (nW v))), (9, .ref (ad g (30, 2, 0))), (10, .ref (ad g (28, 3, 0))), (11, .ref (ad g (29, 3, 0))), (18, .int (ng)), (19, .int (fs)), (21, .int (ca))]) hx hb dL_law_765 hl (k := 4) rfl (nI_1 _) (by decide) rfl (fun ls hl => ?_)
        refine lv_goto (tgt := 652) hx hb dL_law_768 (by decide) ?_
        exact IHj H locs ls (hP.castR (rfl)) hS (by show lv_has ls _ [(24, .int (nI (j + 1))), (23, .int (nI i)), (22, .int (sumI (fun q => sumI (fun y => v 0 (9 * y + q)) 9) i + sumI (fun y => v 0 (9 * y + i)) (j + 1))), (0, .ref b), (1, .ref (ad g (8, 0, 0))), (2, .ref (ad g (20, 0, 0))), (3, .ref (ad g (30, 0, 0))), (4, .int (nI t)), (5, .int (x)), (6, .int (nI (nH v))), (7, .int (nI (nS v))), (8, .int (nI (nW v))), (9, .ref (ad g (30, 2, 0))), (10, .ref (ad g (28, 3, 0))), (11, .ref (ad g (29, 3, 0))), (18, .int (ng)), (19, .int (fs)), (21, .int (ca))]; rw [show sumI (fun q => sumI (fun y => v 0 (9 * y + q)) 9) i + sumI (fun y => v 0 (9 * y + i)) (j + 1) = (sumI (fun q => sumI (fun y => v 0 (9 * y + q)) 9) i + sumI (fun y => v 0 (9 * y + i)) j) + (v 0 (9 * j + i)) from (Int32.add_assoc _ _ _).symm]; exact lv_sub hl [0, 5, 1, 6, 7, 8, 9, 10, 11, 12, 13, 14, 15, 16, 17, 18, 19, 20] rfl) (trivial)
