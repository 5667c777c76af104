/-! The law's act: a spearer sent; all of it. -/
theorem in_cn : ∀ n, n < 13 → ∀ k, k < n → isIn (nI k) 0 (nI n - 1) = true := by decide +kernel
theorem in_S {v : Vw} (hv : Inv v) {k : Nat} (hk : k < nS v) : isIn (nI k) 0 (v 16 1 - 1) = true := by
  have := hv.lS
  rw [hv.eS]; exact in_cn _ (by omega) _ hk
theorem in_H {v : Vw} (hv : Inv v) {k : Nat} (hk : k < nH v) : isIn (nI k) 0 (v 16 0 - 1) = true := by
  have := hv.lH
  rw [hv.eH]; exact in_cn _ (by omega) _ hk
theorem nI_m1 {j : Nat} : nI (j + 1) - 1 = nI j := by rw [← nI_1, Int32.add_sub_cancel]
set_option maxHeartbeats 4000000 in
set_option maxRecDepth 100000 in
theorem a_goA {p : Program} {l : Launch} {e : Jvm.Env} {s : State} {m : MethodId} {below : List Frame} {meth : Method} {c : Code} {g : Gm} {x : Int32} {n : Nat} {M : Mem} {o : Nat → Int64} {H : Heap} {locs : List Loc} {ls : Array Slot} (A : AF p l s m meth c g x) {v : Vw} (hW : Lw n v) (hL : SimL g v) {a b : Nat} (ha9 : a < 9) (hb9 : b < 9) (e0 : M 0 = v) {k : Nat} (hk : k < nS v) (hP : WP g (setR M 2 v) o H) (hS : va_S (AA g) s.heap H locs) (hl : lv_has ls 11 [(6, .int (nI k)), (4, .int (nI b)), (3, .int (nI a)), (0, .ref (ad g (8, 0, 0))), (1, .ref (ad g (20, 0, 0))), (2, .int (x))]) : WA p l e s m below meth c g x n M o H locs 0 0 (F0 m 707 ls [.int (-1)]) := by
  obtain ⟨hC, hE, hr_, hlk, htab, hI, hl0⟩ := id A
  obtain ⟨hx, hb, hml, hown, hG⟩ := id hC
  have hv := hW.iv
  have qH := hv.lH
  have qS := hv.lS
  have qW := hv.lW
  refine lv_istore (lv' := [(7, .int (-1)), (6, .int (nI k)), (4, .int (nI b)), (3, .int (nI a)), (0, .ref (ad g (8, 0, 0))), (1, .ref (ad g (20, 0, 0))), (2, .int (x))]) hx hb dL_act_707 hl (by decide) rfl (fun ls hl => ?_)
  refine lv_aload_n hx hb dL_act_709 rfl (lv_at hl 5 rfl) ?_
  refine m_get hC hE hP (k_20 hL) e_20 rfl u_5 4 (by decide) w_658 rfl rfl dL_act_710 ?_
  refine lv_iload hx hb dL_act_713 (lv_at hl 1 rfl) ?_
  refine m_aalA hC hE hP (k_28 hL) e_28 k (rfl) (Cn.rf.lS (by omega)) (Cn.rf.bS (by omega)) dL_act_715 ?_
  refine lv_iconst (v := 2) hx hb dL_act_716 (by decide) ?_
  refine m_iald hC hE hP (k_24 hL (by omega)) e_24 2 (rfl) (show 2 < 6 from by omega) (by decide) dL_act_717 ?_
  refine m_top (y := v 8 k) rfl ?_
  refine lv_istore (lv' := [(8, .int (v 8 k)), (7, .int (-1)), (6, .int (nI k)), (4, .int (nI b)), (3, .int (nI a)), (0, .ref (ad g (8, 0, 0))), (1, .ref (ad g (20, 0, 0))), (2, .int (x))]) hx hb dL_act_718 hl (by decide) rfl (fun ls hl => ?_)
  refine lv_iload hx hb dL_act_720 (lv_at hl 1 rfl) ?_
  refine lv_if_lt (tgt := 738) hx hb dL_act_722 (by decide) (fun c1 => ?_) (fun c1 => absurd (by decide) c1)
  refine lv_iconst (v := 1) hx hb dL_act_738 (by decide) ?_
  refine lv_goto (tgt := 743) hx hb dL_act_739 (by decide) ?_
  refine lv_istore (lv' := [(9, .int ((1 : Int32))), (8, .int (v 8 k)), (7, .int (-1)), (6, .int (nI k)), (4, .int (nI b)), (3, .int (nI a)), (0, .ref (ad g (8, 0, 0))), (1, .ref (ad g (20, 0, 0))), (2, .int (x))]) hx hb dL_act_743 hl (by decide) rfl (fun ls hl => ?_)
  replace hP : WPe g (KK g) (ent g (setR (setR M 2 v) 0 v) o) _ := WP.cast hP (setR_id ((setR_ne _ _ (by decide)).trans e0))
  refine lv_aload_n hx hb dL_act_745 rfl (lv_at hl 6 rfl) ?_
  refine lv_iload hx hb dL_act_746 (lv_at hl 3 rfl) ?_
  refine lv_iload hx hb dL_act_748 (lv_at hl 2 rfl) ?_
  refine on_i (run_V hC hE hP hS (As := [.int (nI k), .int (-1)]) (c_goP_0a l hI (M := (setR M 2 v)) hv k hk (in_S hv hk)) cal_X4_go w_631 ⟨Nat.le_of_ble_eq_true rfl, Nat.le_of_ble_eq_true rfl⟩ k_8 f_8 rfl rfl rfl (Nat.le_of_ble_eq_true rfl) hl.1 ⟨Nat.le_of_ble_eq_true rfl, Nat.le_of_ble_eq_true rfl⟩ dL_act_750) hS (fun H locs hP hS => ?_)
  replace hP : WPe g (KK g) (ent g (setR (setR M 0 (up2 v 8 k (-1))) 2 v) o) _ := WP.cast hP setR_cm
  refine lv_istore (lv' := [(5, .int (v 8 k)), (9, .int ((1 : Int32))), (8, .int (v 8 k)), (7, .int (-1)), (6, .int (nI k)), (4, .int (nI b)), (3, .int (nI a)), (0, .ref (ad g (8, 0, 0))), (1, .ref (ad g (20, 0, 0))), (2, .int (x))]) hx hb dL_act_753 hl (by decide) rfl (fun ls hl => ?_)
  refine lv_goto (tgt := 764) hx hb dL_act_755 (by decide) ?_
  refine lv_iload hx hb dL_act_764 (lv_at hl 1 rfl) ?_
  refine lv_if_eq (tgt := 780) hx hb dL_act_766 (by decide) (fun c2 => absurd c2 (by decide)) (fun c2 => ?_)
  refine lv_aload_n hx hb dL_act_769 rfl (lv_at hl 8 rfl) ?_
  refine m_get hC hE hP (k_20 hL) e_20 rfl u_5 4 (by decide) w_658 rfl rfl dL_act_770 ?_
  refine lv_iload hx hb dL_act_773 (lv_at hl 4 rfl) ?_
  refine m_aalA hC hE hP (k_28 hL) e_28 k (rfl) (Cn.rf.lS (by omega)) (Cn.rf.bS (by omega)) dL_act_775 ?_
  refine lv_iconst (v := 2) hx hb dL_act_776 (by decide) ?_
  refine lv_iload hx hb dL_act_777 (lv_at hl 3 rfl) ?_
  refine m_iast hC hE hI hP hS (k_24 hL (by omega)) e_24 2 (rfl) (show 2 < 6 from by omega) (by decide) (p_24 2 (by decide)) (ent_put g (setR M 0 (up2 v 8 k (-1))) 2 v o 8 k (-1) (kf_24 (Or.inl rfl) (by decide) (by decide))) dL_act_779 (fun H locs hP hS => ?_)
  refine lv_iload hx hb dL_act_780 (lv_at hl 0 rfl) ?_
  refine lv_iload hx hb dL_act_782 (lv_at hl 1 rfl) ?_
  refine lv_if_eq (tgt := 792) hx hb dL_act_784 (by decide) (fun c3 => absurd c3 (by decide)) (fun c3 => ?_)
  refine lv_iload hx hb dL_act_787 (lv_at hl 2 rfl) ?_
  refine lv_goto (tgt := 794) hx hb dL_act_789 (by decide) ?_
  refine lv_icmp_ne (tgt := 801) hx hb dL_act_794 (by decide) (fun c4 => absurd (rfl) c4) (fun c4 => ?_)
  refine lv_iconst (v := 1) hx hb dL_act_797 (by decide) ?_
  refine lv_goto (tgt := 802) hx hb dL_act_798 (by decide) ?_
  exact a_end A (by decide) (by decide) (u := (g, setR (setR M 0 (up2 v 8 k (-1))) 2 (up2 v 8 k (-1)))) hP hS (Ua_2 Gk.rf ((setR_ne _ _ (by decide)).trans (setR_ne _ _ (by decide))) (setR_same _ _ _) ((setR_ne _ _ (by decide)).trans (setR_same _ _ _)) (hW.go hk (Or.inl rfl)) (hL.cn (Cn.rf.up (by omega))) hI) rfl dL_act_802
set_option maxHeartbeats 4000000 in
set_option maxRecDepth 100000 in
theorem a_goB {p : Program} {l : Launch} {e : Jvm.Env} {s : State} {m : MethodId} {below : List Frame} {meth : Method} {c : Code} {g : Gm} {x : Int32} {n : Nat} {M : Mem} {o : Nat → Int64} {H : Heap} {locs : List Loc} {ls : Array Slot} (A : AF p l s m meth c g x) {v : Vw} (hW : Lw n v) (hL : SimL g v) {a b : Nat} (ha9 : a < 9) (hb9 : b < 9) (e0 : M 0 = v) {k : Nat} (hk : k < nS v) {j : Nat} (hj : j < nH v) (h5 : v 5 j = 1) (hP : WP g (setR M 2 v) o H) (hS : va_S (AA g) s.heap H locs) (hl : lv_has ls 11 [(6, .int (nI k)), (4, .int (nI b)), (3, .int (nI a)), (0, .ref (ad g (8, 0, 0))), (1, .ref (ad g (20, 0, 0))), (2, .int (x))]) : WA p l e s m below meth c g x n M o H locs 0 0 (F0 m 707 ls [.int (nI j)]) := by
  obtain ⟨hC, hE, hr_, hlk, htab, hI, hl0⟩ := id A
  obtain ⟨hx, hb, hml, hown, hG⟩ := id hC
  have hv := hW.iv
  have qH := hv.lH
  have qS := hv.lS
  have qW := hv.lW
  refine lv_istore (lv' := [(7, .int (nI j)), (6, .int (nI k)), (4, .int (nI b)), (3, .int (nI a)), (0, .ref (ad g (8, 0, 0))), (1, .ref (ad g (20, 0, 0))), (2, .int (x))]) hx hb dL_act_707 hl (by decide) rfl (fun ls hl => ?_)
  refine lv_aload_n hx hb dL_act_709 rfl (lv_at hl 5 rfl) ?_
  refine m_get hC hE hP (k_20 hL) e_20 rfl u_5 4 (by decide) w_658 rfl rfl dL_act_710 ?_
  refine lv_iload hx hb dL_act_713 (lv_at hl 1 rfl) ?_
  refine m_aalA hC hE hP (k_28 hL) e_28 k (rfl) (Cn.rf.lS (by omega)) (Cn.rf.bS (by omega)) dL_act_715 ?_
  refine lv_iconst (v := 2) hx hb dL_act_716 (by decide) ?_
  refine m_iald hC hE hP (k_24 hL (by omega)) e_24 2 (rfl) (show 2 < 6 from by omega) (by decide) dL_act_717 ?_
  refine m_top (y := v 8 k) rfl ?_
  refine lv_istore (lv' := [(8, .int (v 8 k)), (7, .int (nI j)), (6, .int (nI k)), (4, .int (nI b)), (3, .int (nI a)), (0, .ref (ad g (8, 0, 0))), (1, .ref (ad g (20, 0, 0))), (2, .int (x))]) hx hb dL_act_718 hl (by decide) rfl (fun ls hl => ?_)
  refine lv_iload hx hb dL_act_720 (lv_at hl 1 rfl) ?_
  refine lv_if_lt (tgt := 738) hx hb dL_act_722 (by decide) (fun c1 => absurd c1 (nI_pos (by omega))) (fun c1 => ?_)
  refine lv_aload_n hx hb dL_act_725 rfl (lv_at hl 6 rfl) ?_
  refine m_get hC hE hP (k_20 hL) e_20 rfl u_5 3 (by decide) w_656 rfl rfl dL_act_726 ?_
  refine lv_iload hx hb dL_act_729 (lv_at hl 1 rfl) ?_
  refine m_aalA hC hE hP (k_27 hL) e_27 j (rfl) (Cn.rf.lH (by omega)) (Cn.rf.bH (by omega)) dL_act_731 ?_
  refine lv_iconst (v := 2) hx hb dL_act_732 (by decide) ?_
  refine m_iald hC hE hP (k_23 hL (by omega)) e_23 2 (rfl) (show 2 < 3 from by omega) (by decide) dL_act_733 ?_
  refine m_top (y := v 5 j) rfl ?_
  refine lv_iconst (v := 1) hx hb dL_act_734 (by decide) ?_
  refine lv_icmp_ne (tgt := 742) hx hb dL_act_735 (by decide) (fun c2 => absurd (h5) c2) (fun c2 => ?_)
  refine lv_iconst (v := 1) hx hb dL_act_738 (by decide) ?_
  refine lv_goto (tgt := 743) hx hb dL_act_739 (by decide) ?_
  refine lv_istore (lv' := [(9, .int ((1 : Int32))), (8, .int (v 8 k)), (7, .int (nI j)), (6, .int (nI k)), (4, .int (nI b)), (3, .int (nI a)), (0, .ref (ad g (8, 0, 0))), (1, .ref (ad g (20, 0, 0))), (2, .int (x))]) hx hb dL_act_743 hl (by decide) rfl (fun ls hl => ?_)
  replace hP : WPe g (KK g) (ent g (setR (setR M 2 v) 0 v) o) _ := WP.cast hP (setR_id ((setR_ne _ _ (by decide)).trans e0))
  refine lv_aload_n hx hb dL_act_745 rfl (lv_at hl 6 rfl) ?_
  refine lv_iload hx hb dL_act_746 (lv_at hl 3 rfl) ?_
  refine lv_iload hx hb dL_act_748 (lv_at hl 2 rfl) ?_
  refine on_i (run_V hC hE hP hS (As := [.int (nI k), .int (nI j)]) (c_goP_0b l hI (M := (setR M 2 v)) hv k hk (in_S hv hk) j hj (in_H hv hj) (fun z => by rw [h5] at z; exact absurd z (by decide))) cal_X4_go w_631 ⟨Nat.le_of_ble_eq_true rfl, Nat.le_of_ble_eq_true rfl⟩ k_8 f_8 rfl rfl rfl (Nat.le_of_ble_eq_true rfl) hl.1 ⟨Nat.le_of_ble_eq_true rfl, Nat.le_of_ble_eq_true rfl⟩ dL_act_750) hS (fun H locs hP hS => ?_)
  replace hP : WPe g (KK g) (ent g (setR (setR M 0 (up2 v 8 k (nI j))) 2 v) o) _ := WP.cast hP setR_cm
  refine lv_istore (lv' := [(5, .int (v 8 k)), (9, .int ((1 : Int32))), (8, .int (v 8 k)), (7, .int (nI j)), (6, .int (nI k)), (4, .int (nI b)), (3, .int (nI a)), (0, .ref (ad g (8, 0, 0))), (1, .ref (ad g (20, 0, 0))), (2, .int (x))]) hx hb dL_act_753 hl (by decide) rfl (fun ls hl => ?_)
  refine lv_goto (tgt := 764) hx hb dL_act_755 (by decide) ?_
  refine lv_iload hx hb dL_act_764 (lv_at hl 1 rfl) ?_
  refine lv_if_eq (tgt := 780) hx hb dL_act_766 (by decide) (fun c3 => absurd c3 (by decide)) (fun c3 => ?_)
  refine lv_aload_n hx hb dL_act_769 rfl (lv_at hl 8 rfl) ?_
  refine m_get hC hE hP (k_20 hL) e_20 rfl u_5 4 (by decide) w_658 rfl rfl dL_act_770 ?_
  refine lv_iload hx hb dL_act_773 (lv_at hl 4 rfl) ?_
  refine m_aalA hC hE hP (k_28 hL) e_28 k (rfl) (Cn.rf.lS (by omega)) (Cn.rf.bS (by omega)) dL_act_775 ?_
  refine lv_iconst (v := 2) hx hb dL_act_776 (by decide) ?_
  refine lv_iload hx hb dL_act_777 (lv_at hl 3 rfl) ?_
  refine m_iast hC hE hI hP hS (k_24 hL (by omega)) e_24 2 (rfl) (show 2 < 6 from by omega) (by decide) (p_24 2 (by decide)) (ent_put g (setR M 0 (up2 v 8 k (nI j))) 2 v o 8 k (nI j) (kf_24 (Or.inl rfl) (by decide) (by decide))) dL_act_779 (fun H locs hP hS => ?_)
  refine lv_iload hx hb dL_act_780 (lv_at hl 0 rfl) ?_
  refine lv_iload hx hb dL_act_782 (lv_at hl 1 rfl) ?_
  refine lv_if_eq (tgt := 792) hx hb dL_act_784 (by decide) (fun c4 => absurd c4 (by decide)) (fun c4 => ?_)
  refine lv_iload hx hb dL_act_787 (lv_at hl 2 rfl) ?_
  refine lv_goto (tgt := 794) hx hb dL_act_789 (by decide) ?_
  refine lv_icmp_ne (tgt := 801) hx hb dL_act_794 (by decide) (fun c5 => absurd (rfl) c5) (fun c5 => ?_)
  refine lv_iconst (v := 1) hx hb dL_act_797 (by decide) ?_
  refine lv_goto (tgt := 802) hx hb dL_act_798 (by decide) ?_
  exact a_end A (by decide) (by decide) (u := (g, setR (setR M 0 (up2 v 8 k (nI j))) 2 (up2 v 8 k (nI j)))) hP hS (Ua_2 Gk.rf ((setR_ne _ _ (by decide)).trans (setR_ne _ _ (by decide))) (setR_same _ _ _) ((setR_ne _ _ (by decide)).trans (setR_same _ _ _)) (hW.go hk (Or.inr ⟨j, hj, rfl⟩)) (hL.cn (Cn.rf.up (by omega))) hI) rfl dL_act_802
set_option maxHeartbeats 4000000 in
set_option maxRecDepth 100000 in
theorem a_goC {p : Program} {l : Launch} {e : Jvm.Env} {s : State} {m : MethodId} {below : List Frame} {meth : Method} {c : Code} {g : Gm} {x : Int32} {n : Nat} {M : Mem} {o : Nat → Int64} {H : Heap} {locs : List Loc} {ls : Array Slot} (A : AF p l s m meth c g x) {v : Vw} (hW : Lw n v) (hL : SimL g v) {a b : Nat} (ha9 : a < 9) (hb9 : b < 9) (e0 : M 0 = v) {k : Nat} (hk : k < nS v) {j : Nat} (hj : j < nH v) (h5 : v 5 j = 0) (hP : WP g (setR M 2 v) o H) (hS : va_S (AA g) s.heap H locs) (hl : lv_has ls 11 [(6, .int (nI k)), (4, .int (nI b)), (3, .int (nI a)), (0, .ref (ad g (8, 0, 0))), (1, .ref (ad g (20, 0, 0))), (2, .int (x))]) : WA p l e s m below meth c g x n M o H locs 0 0 (F0 m 707 ls [.int (nI j)]) := by
  obtain ⟨hC, hE, hr_, hlk, htab, hI, hl0⟩ := id A
  obtain ⟨hx, hb, hml, hown, hG⟩ := id hC
  have hv := hW.iv
  have qH := hv.lH
  have qS := hv.lS
  have qW := hv.lW
  refine lv_istore (lv' := [(7, .int (nI j)), (6, .int (nI k)), (4, .int (nI b)), (3, .int (nI a)), (0, .ref (ad g (8, 0, 0))), (1, .ref (ad g (20, 0, 0))), (2, .int (x))]) hx hb dL_act_707 hl (by decide) rfl (fun ls hl => ?_)
  refine lv_aload_n hx hb dL_act_709 rfl (lv_at hl 5 rfl) ?_
  refine m_get hC hE hP (k_20 hL) e_20 rfl u_5 4 (by decide) w_658 rfl rfl dL_act_710 ?_
  refine lv_iload hx hb dL_act_713 (lv_at hl 1 rfl) ?_
  refine m_aalA hC hE hP (k_28 hL) e_28 k (rfl) (Cn.rf.lS (by omega)) (Cn.rf.bS (by omega)) dL_act_715 ?_
  refine lv_iconst (v := 2) hx hb dL_act_716 (by decide) ?_
  refine m_iald hC hE hP (k_24 hL (by omega)) e_24 2 (rfl) (show 2 < 6 from by omega) (by decide) dL_act_717 ?_
  refine m_top (y := v 8 k) rfl ?_
  refine lv_istore (lv' := [(8, .int (v 8 k)), (7, .int (nI j)), (6, .int (nI k)), (4, .int (nI b)), (3, .int (nI a)), (0, .ref (ad g (8, 0, 0))), (1, .ref (ad g (20, 0, 0))), (2, .int (x))]) hx hb dL_act_718 hl (by decide) rfl (fun ls hl => ?_)
  refine lv_iload hx hb dL_act_720 (lv_at hl 1 rfl) ?_
  refine lv_if_lt (tgt := 738) hx hb dL_act_722 (by decide) (fun c1 => absurd c1 (nI_pos (by omega))) (fun c1 => ?_)
  refine lv_aload_n hx hb dL_act_725 rfl (lv_at hl 6 rfl) ?_
  refine m_get hC hE hP (k_20 hL) e_20 rfl u_5 3 (by decide) w_656 rfl rfl dL_act_726 ?_
  refine lv_iload hx hb dL_act_729 (lv_at hl 1 rfl) ?_
  refine m_aalA hC hE hP (k_27 hL) e_27 j (rfl) (Cn.rf.lH (by omega)) (Cn.rf.bH (by omega)) dL_act_731 ?_
  refine lv_iconst (v := 2) hx hb dL_act_732 (by decide) ?_
  refine m_iald hC hE hP (k_23 hL (by omega)) e_23 2 (rfl) (show 2 < 3 from by omega) (by decide) dL_act_733 ?_
  refine m_top (y := v 5 j) rfl ?_
  refine lv_iconst (v := 1) hx hb dL_act_734 (by decide) ?_
  refine lv_icmp_ne (tgt := 742) hx hb dL_act_735 (by decide) (fun c2 => ?_) (fun c2 => absurd c2 (fun z => by rw [h5] at z; exact absurd z (by decide)))
  refine lv_iconst (v := 0) hx hb dL_act_742 (by decide) ?_
  refine lv_istore (lv' := [(9, .int ((0 : Int32))), (8, .int (v 8 k)), (7, .int (nI j)), (6, .int (nI k)), (4, .int (nI b)), (3, .int (nI a)), (0, .ref (ad g (8, 0, 0))), (1, .ref (ad g (20, 0, 0))), (2, .int (x))]) hx hb dL_act_743 hl (by decide) rfl (fun ls hl => ?_)
  replace hP : WPe g (KK g) (ent g (setR (setR M 2 v) 0 v) o) _ := WP.cast hP (setR_id ((setR_ne _ _ (by decide)).trans e0))
  refine lv_aload_n hx hb dL_act_745 rfl (lv_at hl 6 rfl) ?_
  refine lv_iload hx hb dL_act_746 (lv_at hl 3 rfl) ?_
  refine lv_iload hx hb dL_act_748 (lv_at hl 2 rfl) ?_
  refine on_x (run_VX hC hE hP hS (As := [.int (nI k), .int (nI j)]) (c_goP_2 l hl0 hI hv (nI k) (in_S hv hk) j hj (in_H hv hj) h5) cal_X4_go w_631 ⟨Nat.le_of_ble_eq_true rfl, Nat.le_of_ble_eq_true rfl⟩ k_8 f_8 rfl rfl rfl (Nat.le_of_ble_eq_true rfl) hl.1 ⟨Nat.le_of_ble_eq_true rfl, Nat.le_of_ble_eq_true rfl⟩ dL_act_750) hS (fun ce q9 H locs hP hS hc1 hc2 hc3 => ?_)
  refine vx_catch (own := RL) (name := E_st) (E := E_st) hown [(⟨365, 374, 377, 50⟩ : ExceptionTableEntry), (⟨508, 522, 525, 50⟩ : ExceptionTableEntry), (⟨608, 621, 624, 50⟩ : ExceptionTableEntry)] (⟨745, 755, 758, 50⟩ : ExceptionTableEntry) [] (htab.trans rfl) (fun z hz => (List.mem_cons.mp hz).elim (fun ez => by rw [ez]; exact Or.inl (by decide)) (fun hz => (List.mem_cons.mp hz).elim (fun ez => by rw [ez]; exact Or.inl (by decide)) (fun hz => (List.mem_cons.mp hz).elim (fun ez => by rw [ez]; exact Or.inl (by decide)) (fun hz => absurd hz List.not_mem_nil)))) (by decide) (by decide) (hG _ w_564) (NW_use n_585 (hE.2.1.1 _ n_585)) hc1 hc2 hc3 ?_
  replace hP : WPe g (KK g) (ent g (setR M 2 v) o) _ := WP.cast hP (setR_id ((setR_ne _ _ (by decide)).trans e0)).symm
  refine lv_astore (lv' := [(10, .ref q9), (9, .int ((0 : Int32))), (8, .int (v 8 k)), (7, .int (nI j)), (6, .int (nI k)), (4, .int (nI b)), (3, .int (nI a)), (0, .ref (ad g (8, 0, 0))), (1, .ref (ad g (20, 0, 0))), (2, .int (x))]) hx hb dL_act_758 hl (by decide) rfl (fun ls hl => ?_)
  refine lv_bipush (v := (-2)) hx hb dL_act_760 (by decide) ?_
  refine lv_istore (lv' := [(5, .int ((-2 : Int32))), (10, .ref q9), (9, .int ((0 : Int32))), (8, .int (v 8 k)), (7, .int (nI j)), (6, .int (nI k)), (4, .int (nI b)), (3, .int (nI a)), (0, .ref (ad g (8, 0, 0))), (1, .ref (ad g (20, 0, 0))), (2, .int (x))]) hx hb dL_act_762 hl (by decide) rfl (fun ls hl => ?_)
  refine lv_iload hx hb dL_act_764 (lv_at hl 2 rfl) ?_
  refine lv_if_eq (tgt := 780) hx hb dL_act_766 (by decide) (fun c3 => ?_) (fun c3 => absurd (rfl) c3)
  refine lv_iload hx hb dL_act_780 (lv_at hl 0 rfl) ?_
  refine lv_iload hx hb dL_act_782 (lv_at hl 2 rfl) ?_
  refine lv_if_eq (tgt := 792) hx hb dL_act_784 (by decide) (fun c4 => ?_) (fun c4 => absurd (rfl) c4)
  refine lv_bipush (v := (-2)) hx hb dL_act_792 (by decide) ?_
  refine lv_icmp_ne (tgt := 801) hx hb dL_act_794 (by decide) (fun c5 => absurd (rfl) c5) (fun c5 => ?_)
  refine lv_iconst (v := 1) hx hb dL_act_797 (by decide) ?_
  refine lv_goto (tgt := 802) hx hb dL_act_798 (by decide) ?_
  exact a_end A (by decide) (by decide) (u := (g, setR M 2 v)) hP hS (Ua_2 Gk.rf (setR_ne _ _ (by decide)) (setR_same _ _ _) ((setR_ne _ _ (by decide)).trans e0) hW hL hI) rfl dL_act_802
set_option maxHeartbeats 4000000 in
set_option maxRecDepth 100000 in
theorem a_go {p : Program} {l : Launch} {e : Jvm.Env} {s : State} {m : MethodId} {below : List Frame} {meth : Method} {c : Code} {g : Gm} {x : Int32} {n : Nat} {M : Mem} {o : Nat → Int64} {H : Heap} {locs : List Loc} {ls : Array Slot} (A : AF p l s m meth c g x) {v : Vw} (hW : Lw n v) (hL : SimL g v) {a b : Nat} (ha9 : a < 9) (hb9 : b < 9) (e0 : M 0 = v) (hP : WP g (setR M 2 v) o H) (hS : va_S (AA g) s.heap H locs) (hl : lv_has ls 11 [(4, .int (nI b)), (3, .int (nI a)), (0, .ref (ad g (8, 0, 0))), (1, .ref (ad g (20, 0, 0))), (2, .int (x))]) : WA p l e s m below meth c g x n M o H locs 0 0 (F0 m 668 ls []) := by
  obtain ⟨hC, hE, hr_, hlk, htab, hI, hl0⟩ := id A
  obtain ⟨hx, hb, hml, hown, hG⟩ := id hC
  have hv := hW.iv
  have qH := hv.lH
  have qS := hv.lS
  have qW := hv.lW
  refine lv_aload_n hx hb dL_act_668 rfl (lv_at hl 3 rfl) ?_
  refine m_get hC hE hP (k_20 hL) e_20 rfl u_5 4 (by decide) w_658 rfl rfl dL_act_669 ?_
  refine m_alnA hC hE hP (k_28 hL) e_28 (congrArg nI Cn.rf.2.1) dL_act_672 ?_
  refine lv_if_ne (tgt := 678) hx hb dL_act_673 (by decide) (fun c1 => ?_) (fun c1 => ?_)
  · have hS0 : 0 < nS v := Nat.pos_of_ne_zero fun z => c1 (by rw [z]; rfl)
    refine lv_iload_n hx hb dL_act_678 rfl (lv_at hl 4 rfl) ?_
    refine lv_iconst (v := 4) hx hb dL_act_679 (by decide) ?_
    refine lv_ishr hx hb dL_act_680 ?_
    refine lv_aload_n hx hb dL_act_681 rfl (lv_at hl 3 rfl) ?_
    refine m_get hC hE hP (k_20 hL) e_20 rfl u_5 4 (by decide) w_658 rfl rfl dL_act_682 ?_
    refine m_alnA hC hE hP (k_28 hL) e_28 (congrArg nI Cn.rf.2.1) dL_act_685 ?_
    refine on_i (run_S hC hE hP hS (As := [.int (x >>> ((4 : Int32) &&& 31)), .int (nI (nS v))]) (c_belowL l (x >>> ((4 : Int32) &&& 31)) (nS v) (by omega) (by omega)) cal_L_below w_553 ⟨Nat.le_of_ble_eq_true rfl, Nat.le_of_ble_eq_true rfl⟩ rfl rfl (Nat.le_of_ble_eq_true rfl) hl.1 ⟨Nat.le_of_ble_eq_true rfl, Nat.le_of_ble_eq_true rfl⟩ dL_act_686) hS (fun H locs hP hS => ?_)
    refine lv_istore (lv' := [(6, .int (nI (bel (x >>> ((4 : Int32) &&& 31)) (nS v)))), (4, .int (nI b)), (3, .int (nI a)), (0, .ref (ad g (8, 0, 0))), (1, .ref (ad g (20, 0, 0))), (2, .int (x))]) hx hb dL_act_689 hl (by decide) rfl (fun ls hl => ?_)
    refine lv_iload_n hx hb dL_act_691 rfl (lv_at hl 5 rfl) ?_
    refine lv_bipush (v := 6) hx hb dL_act_692 (by decide) ?_
    refine lv_ishr hx hb dL_act_694 ?_
    refine lv_aload_n hx hb dL_act_695 rfl (lv_at hl 4 rfl) ?_
    refine m_get hC hE hP (k_20 hL) e_20 rfl u_5 3 (by decide) w_656 rfl rfl dL_act_696 ?_
    refine m_alnA hC hE hP (k_27 hL) e_27 (congrArg nI Cn.rf.1) dL_act_699 ?_
    refine lv_iconst (v := 1) hx hb dL_act_700 (by decide) ?_
    refine lv_iadd hx hb dL_act_701 ?_
    refine m_top (y := nI (nH v + 1)) (nI_1 _) ?_
    refine on_i (run_S hC hE hP hS (As := [.int (x >>> ((6 : Int32) &&& 31)), .int (nI (nH v + 1))]) (c_belowL l (x >>> ((6 : Int32) &&& 31)) (nH v + 1) (by omega) (by omega)) cal_L_below w_553 ⟨Nat.le_of_ble_eq_true rfl, Nat.le_of_ble_eq_true rfl⟩ rfl rfl (Nat.le_of_ble_eq_true rfl) hl.1 ⟨Nat.le_of_ble_eq_true rfl, Nat.le_of_ble_eq_true rfl⟩ dL_act_702) hS (fun H locs hP hS => ?_)
    refine lv_iconst (v := 1) hx hb dL_act_705 (by decide) ?_
    refine lv_isub hx hb dL_act_706 ?_
    have hk : bel (x >>> (4 &&& 31)) (nS v) < nS v := bel_lt hS0
    have hq : bel (x >>> (6 &&& 31)) (nH v + 1) < nH v + 1 := bel_lt (by omega)
    rcases Nat.eq_zero_or_pos (bel (x >>> (6 &&& 31)) (nH v + 1)) with h0 | h0
    · rw [h0, show nI 0 - 1 = (-1 : Int32) from by decide]; exact a_goA A hW hL ha9 hb9 e0 hk hP hS hl
    · obtain ⟨j, ej⟩ : ∃ j, bel (x >>> (6 &&& 31)) (nH v + 1) = j + 1 := ⟨bel (x >>> (6 &&& 31)) (nH v + 1) - 1, by omega⟩
      rw [ej, nI_m1]
      have hj : j < nH v := by omega
      rcases (hv.hH j hj).2.2 with h5 | h5
      · exact a_goC A hW hL ha9 hb9 e0 hk hj h5 hP hS hl
      · exact a_goB A hW hL ha9 hb9 e0 hk hj h5 hP hS hl
  · refine lv_iconst (v := 1) hx hb dL_act_676 (by decide) ?_
    exact a_end A (by decide) (by decide) (u := (g, setR M 2 v)) hP hS (Ua_2 Gk.rf (setR_ne _ _ (by decide)) (setR_same _ _ _) ((setR_ne _ _ (by decide)).trans e0) hW hL hI) rfl dL_act_677
