/-! The law's loop. -/
theorem toInt_5 {L : Nat} (hL : L ≤ 2560) : (nI L - 5).toInt = (L : Int) - 5 := by
  rw [Int32.toInt_sub, nI_toInt (by omega), show (5 : Int32).toInt = 5 from by decide]
  rw [Int.bmod_def]
  omega
theorem St.lo {n n' : Nat} {M : Mem} (h : St n M) (k : n' ≤ n) : St n' M := by
  obtain ⟨w, t, e, h5, hr, hn⟩ := h
  exact ⟨w, t, e, h5, hr, hn.le k⟩
section LOOP
variable {p : Program} {l : Launch} {e : Jvm.Env} {s : State} {m : MethodId} {below : List Frame} {meth : Method} {c : Code} {Q : State → Prop}
variable {b L : Nat} {xs : Nat → Int32} {g : Gm}
set_option maxHeartbeats 4000000 in
set_option maxRecDepth 100000 in
theorem w_loop (F : LF p s m meth c b L xs g) (hl0 : l.stackTraces = false) (hL : L ≤ 2560) {N : Nat} (hN1 : 5 * N ≤ L) (hN2 : L < 5 * N + 5)
    (hend : ∀ (H : Heap) (locs : List Loc) (ls : Array Slot), va_S (AA g) s.heap H locs → W p l e room_1 s m #[Value.ref b] below meth c H locs (90 + N) (1037 + 6 * N) Q (F0 m 1158 ls [])) :
    ∀ q, q ≤ N → ∀ (H : Heap) (locs : List Loc) (ls : Array Slot) (M : Mem) (o : Nat → Int64), WPe g KK (ent g M o) H → va_S (AA g) s.heap H locs → lv_has ls 9 [(0, .ref b), (1, .ref (ad g (8, 0, 0))), (2, .ref (ad g (10, 0, 0))), (3, .ref (ad g (11, 0, 0))), (4, .int (nI (5 * q)))] → St (40 * (N - q) + 200) M → W p l e room_1 s m #[Value.ref b] below meth c H locs (90 + q) (1037 + 6 * q) Q (F0 m 23 ls []) := by
  obtain ⟨hC, hE, hN, hI, hX, hbl, hbA⟩ := id F
  obtain ⟨hx, hb, hml, hown, hG⟩ := id hC
  refine lp_up N ?_ ?_
  · intro H locs ls M o hP hS hl hst
    refine lv_iload hx hb dL_law_23 (lv_at hl 4 rfl) ?_
    refine lv_aload_n hx hb dL_law_25 rfl (lv_at hl 0 rfl) ?_
    refine va_slen hx hb hX hbl hbA hS dL_law_26 ?_
    refine lv_iconst (v := 5) hx hb dL_law_27 (by decide) ?_
    refine lv_isub hx hb dL_law_28 ?_
    refine lv_icmp_gt (tgt := 1158) hx hb dL_law_29 (by decide) (fun _ => hend H locs ls hS) (fun z => absurd ?_ z)
    show nI L - 5 < nI (5 * N)
    rw [Int32.lt_iff_toInt_lt, toInt_5 hL, nI_toInt (by omega)]
    omega
  · intro q hq ih H locs ls M o hP hS hl hst
    have hi : 5 * q + 5 ≤ L := by omega
    obtain ⟨n, hn, h2n⟩ : ∃ n, n = 40 * (N - (q + 1)) + 200 ∧ 200 ≤ n := ⟨_, rfl, by omega⟩
    have hst : St (40 + n) M := hst.lo (by omega)
    have hc : 90 + q + 1 ≤ 639974 := by omega
    have hs : 1037 + 6 * q + 6 ≤ 7176183 := by omega
    have kk : ∀ (H : Heap) (locs : List Loc) (ls : Array Slot) (M : Mem) (o : Nat → Int64), WPe g KK (ent g M o) H → va_S (AA g) s.heap H locs → lv_has ls 9 [(0, .ref b), (1, .ref (ad g (8, 0, 0))), (2, .ref (ad g (10, 0, 0))), (3, .ref (ad g (11, 0, 0))), (4, .int (nI (5 * q)))] → St n M → W p l e room_1 s m #[Value.ref b] below meth c H locs (90 + q + 1) (1037 + 6 * q + 6) Q (F0 m 1152 ls []) := by
      intro H locs ls M o hP hS hl hst
      refine lv_iinc (v := nI (5 * (q + 1))) (lv' := [(4, .int (nI (5 * (q + 1)))), (0, .ref b), (1, .ref (ad g (8, 0, 0))), (2, .ref (ad g (10, 0, 0))), (3, .ref (ad g (11, 0, 0)))]) hx hb dL_law_1152 hl (k := 4) rfl (show nI (5 * q) + nI 5 = nI (5 * (q + 1)) from by rw [nI_add]; rfl) (by decide) rfl (fun ls hl => ?_)
      refine lv_goto (tgt := 23) hx hb dL_law_1155 (by decide) ?_
      refine W_cs (c2 := 90 + (q + 1)) (s2 := 1037 + 6 * (q + 1)) (by omega) (by omega) ?_
      exact ih H locs ls M o hP hS (lv_sub hl [1, 2, 3, 4, 0] rfl) (by rw [← hn]; exact hst)
    refine lv_iload hx hb dL_law_23 (lv_at hl 4 rfl) ?_
    refine lv_aload_n hx hb dL_law_25 rfl (lv_at hl 0 rfl) ?_
    refine va_slen hx hb hX hbl hbA hS dL_law_26 ?_
    refine lv_iconst (v := 5) hx hb dL_law_27 (by decide) ?_
    refine lv_isub hx hb dL_law_28 ?_
    refine lv_icmp_gt (tgt := 1158) hx hb dL_law_29 (by decide) (fun z => absurd z ?_) (fun _ => ?_)
    · show ¬ nI L - 5 < nI (5 * q)
      rw [Int32.lt_iff_toInt_lt, toInt_5 hL, nI_toInt (by omega)]
      omega
    refine lv_aload_n hx hb dL_law_32 rfl (lv_at hl 0 rfl) ?_
    refine lv_iload hx hb dL_law_33 (lv_at hl 4 rfl) ?_
    refine va_sld hx hb hX hbl hbA hS (vp_in_nI (by omega) (by omega)) dL_law_35 ?_
    refine lv_bipush (v := 31) hx hb dL_law_36 (by decide) ?_
    refine lv_iand hx hb dL_law_38 ?_
    refine lv_topi (fun x ex => ?_)
    by_cases hr : x.toInt < 0 ∨ 16 < x.toInt
    · refine lv_tableOut (tgt := 1152) hx hb dL_law_39 hr (by decide) ?_
      refine W.widen (k := 90 + q + 1) (n := 1037 + 6 * q + 6) (by omega) (by omega) ?_
      exact kk H locs ls M o hP hS hl (hst.lo (by omega))
    · obtain ⟨j, hj, hx0⟩ : ∃ j : Nat, j < 17 ∧ x.toInt = (j : Int) := ⟨x.toInt.toNat, by omega, by omega⟩
      have h1 : ¬ x.toInt < 0 := by omega
      have h2 : ¬ (16 : Int) < x.toInt := by omega
      have : j = 0 ∨ j = 1 ∨ j = 2 ∨ j = 3 ∨ j = 4 ∨ j = 5 ∨ j = 6 ∨ j = 7 ∨ j = 8 ∨ j = 9 ∨ j = 10 ∨ j = 11 ∨ j = 12 ∨ j = 13 ∨ j = 14 ∨ j = 15 ∨ j = 16 := by omega
      rcases this with rfl | rfl | rfl | rfl | rfl | rfl | rfl | rfl | rfl | rfl | rfl | rfl | rfl | rfl | rfl | rfl | rfl
      · refine lv_tableIn (off := 81) (tgt := 120) hx hb dL_law_39 h1 h2 (by rw [hx0]; rfl) (by decide) ?_
        exact q_set F hL hi (b_set l hl0 hI h2n hst (xs (5 * q + 1)) (xs (5 * q + 2)) (xs (5 * q + 3)) (xs (5 * q + 4))) hP hS hl hc hs kk
      · refine lv_tableIn (off := 173) (tgt := 212) hx hb dL_law_39 h1 h2 (by rw [hx0]; rfl) (by decide) ?_
        exact q_setFrost F hL hi (b_setFrost l hl0 hI h2n hst (xs (5 * q + 1)) (xs (5 * q + 2))) hP hS hl hc hs kk
      · refine lv_tableIn (off := 241) (tgt := 280) hx hb dL_law_39 h1 h2 (by rw [hx0]; rfl) (by decide) ?_
        exact q_cut F hL hi (b_cut l hl0 hI h2n hst (xs (5 * q + 1)) (xs (5 * q + 2))) hP hS hl hc hs kk
      · refine lv_tableIn (off := 309) (tgt := 348) hx hb dL_law_39 h1 h2 (by rw [hx0]; rfl) (by decide) ?_
        exact q_license F hL hi (b_license l hl0 hI h2n hst (xs (5 * q + 1)) (xs (5 * q + 2))) hP hS hl hc hs kk
      · refine lv_tableIn (off := 377) (tgt := 416) hx hb dL_law_39 h1 h2 (by rw [hx0]; rfl) (by decide) ?_
        exact q_go F hL hi (b_go l hl0 hI h2n hst (xs (5 * q + 1)) (xs (5 * q + 2))) hP hS hl hc hs kk
      · refine lv_tableIn (off := 445) (tgt := 484) hx hb dL_law_39 h1 h2 (by rw [hx0]; rfl) (by decide) ?_
        exact q_warden F hL hi (b_warden l hl0 hI h2n hst (xs (5 * q + 1)) (xs (5 * q + 2)) (xs (5 * q + 3))) hP hS hl hc hs kk
      · refine lv_tableIn (off := 525) (tgt := 564) hx hb dL_law_39 h1 h2 (by rw [hx0]; rfl) (by decide) ?_
        exact q_cell F hL hi (b_cell l hl0 hI h2n hst (xs (5 * q + 1)) (xs (5 * q + 2)) (xs (5 * q + 3))) hP hS hl hc hs kk
      · refine lv_tableIn (off := 605) (tgt := 644) hx hb dL_law_39 h1 h2 (by rw [hx0]; rfl) (by decide) ?_
        exact q_hole F hL hi (b_hole l hl0 hI h2n hst (xs (5 * q + 1)) (xs (5 * q + 2))) hP hS hl hc hs kk
      · refine lv_tableIn (off := 673) (tgt := 712) hx hb dL_law_39 h1 h2 (by rw [hx0]; rfl) (by decide) ?_
        exact q_spearer F hL hi (b_spearer l hl0 hI h2n hst (xs (5 * q + 1)) (xs (5 * q + 2))) hP hS hl hc hs kk
      · refine lv_tableIn (off := 741) (tgt := 780) hx hb dL_law_39 h1 h2 (by rw [hx0]; rfl) (by decide) ?_
        exact q_about F hL hi (b_about l hl0 hI h2n hst (xs (5 * q + 1)) (xs (5 * q + 2))) hP hS hl hc hs kk
      · refine lv_tableIn (off := 809) (tgt := 848) hx hb dL_law_39 h1 h2 (by rw [hx0]; rfl) (by decide) ?_
        exact q_count F hL hi (b_count l hl0 hI h2n hst (xs (5 * q + 1))) hP hS hl hc hs kk
      · refine lv_tableIn (off := 865) (tgt := 904) hx hb dL_law_39 h1 h2 (by rw [hx0]; rfl) (by decide) ?_
        exact q_pass F hL hi (b_pass l hl0 hI h2n hst (xs (5 * q + 1))) hP hS hl hc hs kk
      · refine lv_tableIn (off := 921) (tgt := 960) hx hb dL_law_39 h1 h2 (by rw [hx0]; rfl) (by decide) ?_
        exact q_bears F h2n hst hP hS hl hc hs kk
      · refine lv_tableIn (off := 934) (tgt := 973) hx hb dL_law_39 h1 h2 (by rw [hx0]; rfl) (by decide) ?_
        exact q_foresee F hL hi (b_foresee l hl0 hI h2n hst (xs (5 * q + 1)) (xs (5 * q + 2))) hP hS hl hc hs kk
      · refine lv_tableIn (off := 1002) (tgt := 1041) hx hb dL_law_39 h1 h2 (by rw [hx0]; rfl) (by decide) ?_
        exact q_advise F hL hi (b_advise l hl0 hI h2n hst (xs (5 * q + 1))) hP hS hl hc hs kk
      · refine lv_tableIn (off := 1058) (tgt := 1097) hx hb dL_law_39 h1 h2 (by rw [hx0]; rfl) (by decide) ?_
        exact q_mean F hst hP hS hl hc hs kk
      · refine lv_tableIn (off := 1099) (tgt := 1138) hx hb dL_law_39 h1 h2 (by rw [hx0]; rfl) (by decide) ?_
        exact q_digest F hst hP hS hl hc hs kk
end LOOP
