/-! the static methods -/
theorem dX4_isWithin_0 : decode cX4_isWithin 0 = .ok (.iload_n 0, 1) := by decide +kernel
theorem dX4_isWithin_1 : decode cX4_isWithin 1 = .ok (.iload_n 1, 1) := by decide +kernel
theorem dX4_isWithin_2 : decode cX4_isWithin 2 = .ok (.if_icmp .lt 12, 3) := by decide +kernel
theorem dX4_isWithin_5 : decode cX4_isWithin 5 = .ok (.iload_n 0, 1) := by decide +kernel
theorem dX4_isWithin_6 : decode cX4_isWithin 6 = .ok (.iload_n 2, 1) := by decide +kernel
theorem dX4_isWithin_7 : decode cX4_isWithin 7 = .ok (.if_icmp .gt 7, 3) := by decide +kernel
theorem dX4_isWithin_10 : decode cX4_isWithin 10 = .ok (.iconst 1, 1) := by decide +kernel
theorem dX4_isWithin_11 : decode cX4_isWithin 11 = .ok (.goto 4, 3) := by decide +kernel
theorem dX4_isWithin_14 : decode cX4_isWithin 14 = .ok (.iconst 0, 1) := by decide +kernel
theorem dX4_isWithin_15 : decode cX4_isWithin 15 = .ok (.ireturn, 1) := by decide +kernel
theorem dX4_isCell_0 : decode cX4_isCell 0 = .ok (.iload_n 0, 1) := by decide +kernel
theorem dX4_isCell_1 : decode cX4_isCell 1 = .ok (.iconst 0, 1) := by decide +kernel
theorem dX4_isCell_2 : decode cX4_isCell 2 = .ok (.bipush 8, 2) := by decide +kernel
theorem dX4_isCell_4 : decode cX4_isCell 4 = .ok (.invokestatic 30, 3) := by decide +kernel
theorem dX4_isCell_7 : decode cX4_isCell 7 = .ok (.ifCond .eq 17, 3) := by decide +kernel
theorem dX4_isCell_10 : decode cX4_isCell 10 = .ok (.iload_n 1, 1) := by decide +kernel
theorem dX4_isCell_11 : decode cX4_isCell 11 = .ok (.iconst 0, 1) := by decide +kernel
theorem dX4_isCell_12 : decode cX4_isCell 12 = .ok (.bipush 8, 2) := by decide +kernel
theorem dX4_isCell_14 : decode cX4_isCell 14 = .ok (.invokestatic 30, 3) := by decide +kernel
theorem dX4_isCell_17 : decode cX4_isCell 17 = .ok (.ifCond .eq 7, 3) := by decide +kernel
theorem dX4_isCell_20 : decode cX4_isCell 20 = .ok (.iconst 1, 1) := by decide +kernel
theorem dX4_isCell_21 : decode cX4_isCell 21 = .ok (.goto 4, 3) := by decide +kernel
theorem dX4_isCell_24 : decode cX4_isCell 24 = .ok (.iconst 0, 1) := by decide +kernel
theorem dX4_isCell_25 : decode cX4_isCell 25 = .ok (.ireturn, 1) := by decide +kernel
theorem dX4_cellAt_0 : decode cX4_cellAt 0 = .ok (.bipush 9, 2) := by decide +kernel
theorem dX4_cellAt_2 : decode cX4_cellAt 2 = .ok (.iload_n 1, 1) := by decide +kernel
theorem dX4_cellAt_3 : decode cX4_cellAt 3 = .ok (.imul, 1) := by decide +kernel
theorem dX4_cellAt_4 : decode cX4_cellAt 4 = .ok (.iload_n 0, 1) := by decide +kernel
theorem dX4_cellAt_5 : decode cX4_cellAt 5 = .ok (.iadd, 1) := by decide +kernel
theorem dX4_cellAt_6 : decode cX4_cellAt 6 = .ok (.ireturn, 1) := by decide +kernel
theorem dX4_distance_0 : decode cX4_distance 0 = .ok (.iload_n 0, 1) := by decide +kernel
theorem dX4_distance_1 : decode cX4_distance 1 = .ok (.iload_n 2, 1) := by decide +kernel
theorem dX4_distance_2 : decode cX4_distance 2 = .ok (.isub, 1) := by decide +kernel
theorem dX4_distance_3 : decode cX4_distance 3 = .ok (.invokestatic 214, 3) := by decide +kernel
theorem dX4_distance_6 : decode cX4_distance 6 = .ok (.iload_n 1, 1) := by decide +kernel
theorem dX4_distance_7 : decode cX4_distance 7 = .ok (.iload_n 3, 1) := by decide +kernel
theorem dX4_distance_8 : decode cX4_distance 8 = .ok (.isub, 1) := by decide +kernel
theorem dX4_distance_9 : decode cX4_distance 9 = .ok (.invokestatic 214, 3) := by decide +kernel
theorem dX4_distance_12 : decode cX4_distance 12 = .ok (.invokestatic 219, 3) := by decide +kernel
theorem dX4_distance_15 : decode cX4_distance 15 = .ok (.ireturn, 1) := by decide +kernel
theorem dX4_iceBears_0 : decode cX4_iceBears 0 = .ok (.iload_n 0, 1) := by decide +kernel
theorem dX4_iceBears_1 : decode cX4_iceBears 1 = .ok (.iconst 5, 1) := by decide +kernel
theorem dX4_iceBears_2 : decode cX4_iceBears 2 = .ok (.if_icmp .lt 7, 3) := by decide +kernel
theorem dX4_iceBears_5 : decode cX4_iceBears 5 = .ok (.iconst 1, 1) := by decide +kernel
theorem dX4_iceBears_6 : decode cX4_iceBears 6 = .ok (.goto 4, 3) := by decide +kernel
theorem dX4_iceBears_9 : decode cX4_iceBears 9 = .ok (.iconst 0, 1) := by decide +kernel
theorem dX4_iceBears_10 : decode cX4_iceBears 10 = .ok (.ireturn, 1) := by decide +kernel
theorem dX4_iceBehind_0 : decode cX4_iceBehind 0 = .ok (.iconst 0, 1) := by decide +kernel
theorem dX4_iceBehind_1 : decode cX4_iceBehind 1 = .ok (.bipush 90, 2) := by decide +kernel
theorem dX4_iceBehind_3 : decode cX4_iceBehind 3 = .ok (.iload_n 0, 1) := by decide +kernel
theorem dX4_iceBehind_4 : decode cX4_iceBehind 4 = .ok (.iload_n 1, 1) := by decide +kernel
theorem dX4_iceBehind_5 : decode cX4_iceBehind 5 = .ok (.iadd, 1) := by decide +kernel
theorem dX4_iceBehind_6 : decode cX4_iceBehind 6 = .ok (.invokestatic 222, 3) := by decide +kernel
theorem dX4_iceBehind_9 : decode cX4_iceBehind 9 = .ok (.invokestatic 219, 3) := by decide +kernel
theorem dX4_iceBehind_12 : decode cX4_iceBehind 12 = .ok (.ireturn, 1) := by decide +kernel
theorem dX4_mixed_0 : decode cX4_mixed 0 = .ok (.lload_n 0, 1) := by decide +kernel
theorem dX4_mixed_1 : decode cX4_mixed 1 = .ok (.ldc2_w 212, 3) := by decide +kernel
theorem dX4_mixed_4 : decode cX4_mixed 4 = .ok (.lmul, 1) := by decide +kernel
theorem dX4_mixed_5 : decode cX4_mixed 5 = .ok (.iload_n 2, 1) := by decide +kernel
theorem dX4_mixed_6 : decode cX4_mixed 6 = .ok (.i2l, 1) := by decide +kernel
theorem dX4_mixed_7 : decode cX4_mixed 7 = .ok (.ladd, 1) := by decide +kernel
theorem dX4_mixed_8 : decode cX4_mixed 8 = .ok (.lreturn, 1) := by decide +kernel
theorem dX4_isForeseen_0 : decode cX4_isForeseen 0 = .ok (.iload_n 0, 1) := by decide +kernel
theorem dX4_isForeseen_1 : decode cX4_isForeseen 1 = .ok (.iconst 1, 1) := by decide +kernel
theorem dX4_isForeseen_2 : decode cX4_isForeseen 2 = .ok (.if_icmp .eq 25, 3) := by decide +kernel
theorem dX4_isForeseen_5 : decode cX4_isForeseen 5 = .ok (.iload_n 0, 1) := by decide +kernel
theorem dX4_isForeseen_6 : decode cX4_isForeseen 6 = .ok (.iconst 3, 1) := by decide +kernel
theorem dX4_isForeseen_7 : decode cX4_isForeseen 7 = .ok (.if_icmp .eq 20, 3) := by decide +kernel
theorem dX4_isForeseen_10 : decode cX4_isForeseen 10 = .ok (.iload_n 0, 1) := by decide +kernel
theorem dX4_isForeseen_11 : decode cX4_isForeseen 11 = .ok (.iconst 5, 1) := by decide +kernel
theorem dX4_isForeseen_12 : decode cX4_isForeseen 12 = .ok (.if_icmp .eq 15, 3) := by decide +kernel
theorem dX4_isForeseen_15 : decode cX4_isForeseen 15 = .ok (.iload_n 0, 1) := by decide +kernel
theorem dX4_isForeseen_16 : decode cX4_isForeseen 16 = .ok (.bipush 7, 2) := by decide +kernel
theorem dX4_isForeseen_18 : decode cX4_isForeseen 18 = .ok (.if_icmp .eq 9, 3) := by decide +kernel
theorem dX4_isForeseen_21 : decode cX4_isForeseen 21 = .ok (.iload_n 0, 1) := by decide +kernel
theorem dX4_isForeseen_22 : decode cX4_isForeseen 22 = .ok (.bipush 8, 2) := by decide +kernel
theorem dX4_isForeseen_24 : decode cX4_isForeseen 24 = .ok (.if_icmp .ne 7, 3) := by decide +kernel
theorem dX4_isForeseen_27 : decode cX4_isForeseen 27 = .ok (.iconst 1, 1) := by decide +kernel
theorem dX4_isForeseen_28 : decode cX4_isForeseen 28 = .ok (.goto 4, 3) := by decide +kernel
theorem dX4_isForeseen_31 : decode cX4_isForeseen 31 = .ok (.iconst 0, 1) := by decide +kernel
theorem dX4_isForeseen_32 : decode cX4_isForeseen 32 = .ok (.ireturn, 1) := by decide +kernel
theorem dJ6_compare_7cf53_0 : decode cJ6_compare_7cf53 0 = .ok (.iload_n 0, 1) := by decide +kernel
theorem dJ6_compare_7cf53_1 : decode cJ6_compare_7cf53 1 = .ok (.iload_n 1, 1) := by decide +kernel
theorem dJ6_compare_7cf53_2 : decode cJ6_compare_7cf53 2 = .ok (.if_icmp .ge 7, 3) := by decide +kernel
theorem dJ6_compare_7cf53_5 : decode cJ6_compare_7cf53 5 = .ok (.iconst (-1), 1) := by decide +kernel
theorem dJ6_compare_7cf53_6 : decode cJ6_compare_7cf53 6 = .ok (.goto 13, 3) := by decide +kernel
theorem dJ6_compare_7cf53_9 : decode cJ6_compare_7cf53 9 = .ok (.iload_n 0, 1) := by decide +kernel
theorem dJ6_compare_7cf53_10 : decode cJ6_compare_7cf53 10 = .ok (.iload_n 1, 1) := by decide +kernel
theorem dJ6_compare_7cf53_11 : decode cJ6_compare_7cf53 11 = .ok (.if_icmp .ne 7, 3) := by decide +kernel
theorem dJ6_compare_7cf53_14 : decode cJ6_compare_7cf53 14 = .ok (.iconst 0, 1) := by decide +kernel
theorem dJ6_compare_7cf53_15 : decode cJ6_compare_7cf53 15 = .ok (.goto 4, 3) := by decide +kernel
theorem dJ6_compare_7cf53_18 : decode cJ6_compare_7cf53 18 = .ok (.iconst 1, 1) := by decide +kernel
theorem dJ6_compare_7cf53_19 : decode cJ6_compare_7cf53 19 = .ok (.ireturn, 1) := by decide +kernel
set_option maxHeartbeats 4000000 in
set_option maxRecDepth 100000 in
theorem c_isWithin (l : Launch) {g : Gm} {en : Key → va_E} (v lo hi : Int32) : MI l yX4_isWithin cX4_isWithin 3 .boolean (rm 0 0) g (KK g) en [.int (v), .int (lo), .int (hi)] (b2i (isIn v lo hi)) en := by
  refine met_of (by decide +kernel) (Nat.le_of_ble_eq_true rfl) ?_
  intro p e s m below meth c ls hC hr_ hlk hnm hE hP hS hl
  obtain ⟨hx, hb, hml, hown, hG⟩ := id hC
  have hl : lv_has ls 3 [(0, .int (v)), (1, .int (lo)), (2, .int (hi))] := hl
  refine lv_iload_n hx hb dX4_isWithin_0 rfl (lv_at hl 0 rfl) ?_
  refine lv_iload_n hx hb dX4_isWithin_1 rfl (lv_at hl 1 rfl) ?_
  refine lv_icmp_lt (tgt := 14) hx hb dX4_isWithin_2 (by decide) (fun c1 => ?_) (fun c1 => ?_)
  · refine lv_iconst (v := 0) hx hb dX4_isWithin_14 (by decide) ?_
    exact m_iret hC hr_ hlk hS hP (by first | rfl | exact nar_b _) (by first | rfl | (simp [b2i, isIn, isCell, c1]; done) | (simp [b2i, isIn, isCell, c1, c2]; done)) dX4_isWithin_15
  · refine lv_iload_n hx hb dX4_isWithin_5 rfl (lv_at hl 0 rfl) ?_
    refine lv_iload_n hx hb dX4_isWithin_6 rfl (lv_at hl 2 rfl) ?_
    refine lv_icmp_gt (tgt := 14) hx hb dX4_isWithin_7 (by decide) (fun c2 => ?_) (fun c2 => ?_)
    · refine lv_iconst (v := 0) hx hb dX4_isWithin_14 (by decide) ?_
      exact m_iret hC hr_ hlk hS hP (by first | rfl | exact nar_b _) (by first | rfl | (simp [b2i, isIn, isCell, c1]; done) | (simp [b2i, isIn, isCell, c1, c2]; done)) dX4_isWithin_15
    · refine lv_iconst (v := 1) hx hb dX4_isWithin_10 (by decide) ?_
      refine lv_goto (tgt := 15) hx hb dX4_isWithin_11 (by decide) ?_
      exact m_iret hC hr_ hlk hS hP (by first | rfl | exact nar_b _) (by first | rfl | (simp [b2i, isIn, isCell, c1]; done) | (simp [b2i, isIn, isCell, c1, c2]; done)) dX4_isWithin_15
set_option maxHeartbeats 4000000 in
set_option maxRecDepth 100000 in
theorem c_isCell (l : Launch) {g : Gm} {en : Key → va_E} (x y : Int32) : MI l yX4_isCell cX4_isCell 2 .boolean (rm 1 22) g (KK g) en [.int (x), .int (y)] (b2i (isCell x y)) en := by
  refine met_of (by decide +kernel) (Nat.le_of_ble_eq_true rfl) ?_
  intro p e s m below meth c ls hC hr_ hlk hnm hE hP hS hl
  obtain ⟨hx, hb, hml, hown, hG⟩ := id hC
  have hl : lv_has ls 2 [(0, .int (x)), (1, .int (y))] := hl
  refine lv_iload_n hx hb dX4_isCell_0 rfl (lv_at hl 0 rfl) ?_
  refine lv_iconst (v := 0) hx hb dX4_isCell_1 (by decide) ?_
  refine lv_bipush (v := 8) hx hb dX4_isCell_2 (by decide) ?_
  refine on_i (run_S hC hE hP hS (As := [.int (x), .int ((0 : Int32)), .int ((8 : Int32))]) (c_isWithin l x (0 : Int32) (8 : Int32)) cal_X4_isWithin w_172 ⟨Nat.le_of_ble_eq_true rfl, Nat.le_of_ble_eq_true rfl⟩ rfl rfl (Nat.le_of_ble_eq_true rfl) hl.1 ⟨Nat.le_of_ble_eq_true rfl, Nat.le_of_ble_eq_true rfl⟩ dX4_isCell_4) hS (fun H locs hP hS => ?_)
  refine lv_if_eq (tgt := 24) hx hb dX4_isCell_7 (by decide) (fun c1 => ?_) (fun c1 => ?_)
  · have c1 := b2i_f c1
    refine lv_iconst (v := 0) hx hb dX4_isCell_24 (by decide) ?_
    exact m_iret hC hr_ hlk hS hP (by first | rfl | exact nar_b _) (by first | (unfold isCell; rw [c1]; rfl) | (unfold isCell; rw [c1, c2]; rfl)) dX4_isCell_25
  · have c1 := b2i_t c1
    refine lv_iload_n hx hb dX4_isCell_10 rfl (lv_at hl 1 rfl) ?_
    refine lv_iconst (v := 0) hx hb dX4_isCell_11 (by decide) ?_
    refine lv_bipush (v := 8) hx hb dX4_isCell_12 (by decide) ?_
    refine on_i (run_S hC hE hP hS (As := [.int (y), .int ((0 : Int32)), .int ((8 : Int32))]) (c_isWithin l y (0 : Int32) (8 : Int32)) cal_X4_isWithin w_172 ⟨Nat.le_of_ble_eq_true rfl, Nat.le_of_ble_eq_true rfl⟩ rfl rfl (Nat.le_of_ble_eq_true rfl) hl.1 ⟨Nat.le_of_ble_eq_true rfl, Nat.le_of_ble_eq_true rfl⟩ dX4_isCell_14) hS (fun H locs hP hS => ?_)
    refine lv_if_eq (tgt := 24) hx hb dX4_isCell_17 (by decide) (fun c2 => ?_) (fun c2 => ?_)
    · have c2 := b2i_f c2
      refine lv_iconst (v := 0) hx hb dX4_isCell_24 (by decide) ?_
      exact m_iret hC hr_ hlk hS hP (by first | rfl | exact nar_b _) (by first | (unfold isCell; rw [c1]; rfl) | (unfold isCell; rw [c1, c2]; rfl)) dX4_isCell_25
    · have c2 := b2i_t c2
      refine lv_iconst (v := 1) hx hb dX4_isCell_20 (by decide) ?_
      refine lv_goto (tgt := 25) hx hb dX4_isCell_21 (by decide) ?_
      exact m_iret hC hr_ hlk hS hP (by first | rfl | exact nar_b _) (by first | (unfold isCell; rw [c1]; rfl) | (unfold isCell; rw [c1, c2]; rfl)) dX4_isCell_25
set_option maxHeartbeats 4000000 in
set_option maxRecDepth 100000 in
theorem c_cellAt (l : Launch) {g : Gm} {en : Key → va_E} (x y : Int32) : MI l yX4_cellAt cX4_cellAt 2 .int (rm 0 0) g (KK g) en [.int (x), .int (y)] (9 * y + x) en := by
  refine met_of (by decide +kernel) (Nat.le_of_ble_eq_true rfl) ?_
  intro p e s m below meth c ls hC hr_ hlk hnm hE hP hS hl
  obtain ⟨hx, hb, hml, hown, hG⟩ := id hC
  have hl : lv_has ls 2 [(0, .int (x)), (1, .int (y))] := hl
  refine lv_bipush (v := 9) hx hb dX4_cellAt_0 (by decide) ?_
  refine lv_iload_n hx hb dX4_cellAt_2 rfl (lv_at hl 1 rfl) ?_
  refine lv_imul hx hb dX4_cellAt_3 ?_
  refine lv_iload_n hx hb dX4_cellAt_4 rfl (lv_at hl 0 rfl) ?_
  refine lv_iadd hx hb dX4_cellAt_5 ?_
  exact m_iret hC hr_ hlk hS hP rfl (rfl) dX4_cellAt_6
set_option maxHeartbeats 4000000 in
set_option maxRecDepth 100000 in
theorem c_distance (l : Launch) {g : Gm} {en : Key → va_E} (x y a b : Int32) : MI l yX4_distance cX4_distance 4 .int (rm 1 21) g (KK g) en [.int (x), .int (y), .int (a), .int (b)] (far x y a b) en := by
  refine met_of (by decide +kernel) (Nat.le_of_ble_eq_true rfl) ?_
  intro p e s m below meth c ls hC hr_ hlk hnm hE hP hS hl
  obtain ⟨hx, hb, hml, hown, hG⟩ := id hC
  have hl : lv_has ls 4 [(0, .int (x)), (1, .int (y)), (2, .int (a)), (3, .int (b))] := hl
  refine lv_iload_n hx hb dX4_distance_0 rfl (lv_at hl 0 rfl) ?_
  refine lv_iload_n hx hb dX4_distance_1 rfl (lv_at hl 2 rfl) ?_
  refine lv_isub hx hb dX4_distance_2 ?_
  refine m_abs hC w_289 w_290 w_14 w_291 hl.1 (by decide) (Nat.le_of_ble_eq_true rfl) (Nat.zero_le _) (Nat.zero_le _) dX4_distance_3 ?_
  refine m_top (y := iabs (x - a)) rfl ?_
  refine lv_iload_n hx hb dX4_distance_6 rfl (lv_at hl 1 rfl) ?_
  refine lv_iload_n hx hb dX4_distance_7 rfl (lv_at hl 3 rfl) ?_
  refine lv_isub hx hb dX4_distance_8 ?_
  refine m_abs hC w_289 w_290 w_14 w_291 hl.1 (by decide) (Nat.le_of_ble_eq_true rfl) (Nat.zero_le _) (Nat.zero_le _) dX4_distance_9 ?_
  refine m_top (y := iabs (y - b)) rfl ?_
  refine m_max hC w_292 w_259 w_14 w_260 hl.1 (by decide) (Nat.le_of_ble_eq_true rfl) (Nat.zero_le _) (Nat.zero_le _) dX4_distance_12 ?_
  refine m_top (y := imax (iabs (x - a)) (iabs (y - b))) rfl ?_
  exact m_iret hC hr_ hlk hS hP rfl (rfl) dX4_distance_15
set_option maxHeartbeats 4000000 in
set_option maxRecDepth 100000 in
theorem c_iceBears (l : Launch) {g : Gm} {en : Key → va_E} (x : Int32) : MI l yX4_iceBears cX4_iceBears 1 .boolean (rm 0 0) g (KK g) en [.int (x)] (b2i (bear x)) en := by
  refine met_of (by decide +kernel) (Nat.le_of_ble_eq_true rfl) ?_
  intro p e s m below meth c ls hC hr_ hlk hnm hE hP hS hl
  obtain ⟨hx, hb, hml, hown, hG⟩ := id hC
  have hl : lv_has ls 1 [(0, .int (x))] := hl
  refine lv_iload_n hx hb dX4_iceBears_0 rfl (lv_at hl 0 rfl) ?_
  refine lv_iconst (v := 5) hx hb dX4_iceBears_1 (by decide) ?_
  refine lv_icmp_lt (tgt := 9) hx hb dX4_iceBears_2 (by decide) (fun c1 => ?_) (fun c1 => ?_)
  · refine lv_iconst (v := 0) hx hb dX4_iceBears_9 (by decide) ?_
    exact m_iret hC hr_ hlk hS hP (by first | rfl | exact nar_b _) (by simp [bear, b2i, c1]) dX4_iceBears_10
  · refine lv_iconst (v := 1) hx hb dX4_iceBears_5 (by decide) ?_
    refine lv_goto (tgt := 10) hx hb dX4_iceBears_6 (by decide) ?_
    exact m_iret hC hr_ hlk hS hP (by first | rfl | exact nar_b _) (by simp [bear, b2i, c1]) dX4_iceBears_10
set_option maxHeartbeats 4000000 in
set_option maxRecDepth 100000 in
theorem c_iceBehind (l : Launch) {g : Gm} {en : Key → va_E} (x y : Int32) : MI l yX4_iceBehind cX4_iceBehind 2 .int (rm 1 21) g (KK g) en [.int (x), .int (y)] (ice2 x y) en := by
  refine met_of (by decide +kernel) (Nat.le_of_ble_eq_true rfl) ?_
  intro p e s m below meth c ls hC hr_ hlk hnm hE hP hS hl
  obtain ⟨hx, hb, hml, hown, hG⟩ := id hC
  have hl : lv_has ls 2 [(0, .int (x)), (1, .int (y))] := hl
  refine lv_iconst (v := 0) hx hb dX4_iceBehind_0 (by decide) ?_
  refine lv_bipush (v := 90) hx hb dX4_iceBehind_1 (by decide) ?_
  refine lv_iload_n hx hb dX4_iceBehind_3 rfl (lv_at hl 0 rfl) ?_
  refine lv_iload_n hx hb dX4_iceBehind_4 rfl (lv_at hl 1 rfl) ?_
  refine lv_iadd hx hb dX4_iceBehind_5 ?_
  refine m_min hC w_437 w_262 w_14 w_263 hl.1 (by decide) (Nat.le_of_ble_eq_true rfl) (Nat.zero_le _) (Nat.zero_le _) dX4_iceBehind_6 ?_
  refine m_top (y := imin (90 : Int32) (x + y)) rfl ?_
  refine m_max hC w_292 w_259 w_14 w_260 hl.1 (by decide) (Nat.le_of_ble_eq_true rfl) (Nat.zero_le _) (Nat.zero_le _) dX4_iceBehind_9 ?_
  refine m_top (y := imax (0 : Int32) (imin (90 : Int32) (x + y))) rfl ?_
  exact m_iret hC hr_ hlk hS hP rfl (rfl) dX4_iceBehind_12
set_option maxHeartbeats 4000000 in
set_option maxRecDepth 100000 in
theorem c_mixed (l : Launch) {g : Gm} {en : Key → va_E} (d : Int64) (x : Int32) : ML l yX4_mixed cX4_mixed 3 (rm 0 0) g (KK g) en [.long (d), .int (x)] (mix d x) en := by
  refine met_of (by decide +kernel) (Nat.le_of_ble_eq_true rfl) ?_
  intro p e s m below meth c ls hC hr_ hlk hnm hE hP hS hl
  obtain ⟨hx, hb, hml, hown, hG⟩ := id hC
  have hl : lv_has ls 3 [(0, .long (d)), (2, .int (x))] := hl
  refine lv_lload_n hx hb dX4_mixed_0 rfl (lv_at hl 0 rfl) ?_
  refine lv_ldc2 (v := 31) hx hb hown (hG _ w_498) dX4_mixed_1 ?_
  refine lv_lmul hx hb dX4_mixed_4 ?_
  refine lv_iload_n hx hb dX4_mixed_5 rfl (lv_at hl 1 rfl) ?_
  refine lv_i2l hx hb dX4_mixed_6 rfl ?_
  refine lv_ladd hx hb dX4_mixed_7 ?_
  exact m_lret hC hr_ hlk hS hP (rfl) dX4_mixed_8
set_option maxHeartbeats 4000000 in
set_option maxRecDepth 100000 in
theorem c_isForeseen (l : Launch) {g : Gm} {en : Key → va_E} (x : Int32) : MI l yX4_isForeseen cX4_isForeseen 1 .boolean (rm 0 0) g (KK g) en [.int (x)] (b2i (decide (x = 1 ∨ x = 3 ∨ x = 5 ∨ x = 7 ∨ x = 8))) en := by
  refine met_of (by decide +kernel) (Nat.le_of_ble_eq_true rfl) ?_
  intro p e s m below meth c ls hC hr_ hlk hnm hE hP hS hl
  obtain ⟨hx, hb, hml, hown, hG⟩ := id hC
  have hl : lv_has ls 1 [(0, .int (x))] := hl
  refine lv_iload_n hx hb dX4_isForeseen_0 rfl (lv_at hl 0 rfl) ?_
  refine lv_iconst (v := 1) hx hb dX4_isForeseen_1 (by decide) ?_
  refine lv_icmp_eq (tgt := 27) hx hb dX4_isForeseen_2 (by decide) (fun c1 => ?_) (fun c1 => ?_)
  · refine lv_iconst (v := 1) hx hb dX4_isForeseen_27 (by decide) ?_
    refine lv_goto (tgt := 32) hx hb dX4_isForeseen_28 (by decide) ?_
    exact m_iret hC hr_ hlk hS hP (by first | rfl | exact nar_b _) (by first | (simp [b2i, c1]; done) | (simp [b2i, c1, c2]; done) | (simp [b2i, c1, c2, c3]; done) | (simp [b2i, c1, c2, c3, c4]; done) | (simp [b2i, c1, c2, c3, c4, c5]; done)) dX4_isForeseen_32
  · refine lv_iload_n hx hb dX4_isForeseen_5 rfl (lv_at hl 0 rfl) ?_
    refine lv_iconst (v := 3) hx hb dX4_isForeseen_6 (by decide) ?_
    refine lv_icmp_eq (tgt := 27) hx hb dX4_isForeseen_7 (by decide) (fun c2 => ?_) (fun c2 => ?_)
    · refine lv_iconst (v := 1) hx hb dX4_isForeseen_27 (by decide) ?_
      refine lv_goto (tgt := 32) hx hb dX4_isForeseen_28 (by decide) ?_
      exact m_iret hC hr_ hlk hS hP (by first | rfl | exact nar_b _) (by first | (simp [b2i, c1]; done) | (simp [b2i, c1, c2]; done) | (simp [b2i, c1, c2, c3]; done) | (simp [b2i, c1, c2, c3, c4]; done) | (simp [b2i, c1, c2, c3, c4, c5]; done)) dX4_isForeseen_32
    · refine lv_iload_n hx hb dX4_isForeseen_10 rfl (lv_at hl 0 rfl) ?_
      refine lv_iconst (v := 5) hx hb dX4_isForeseen_11 (by decide) ?_
      refine lv_icmp_eq (tgt := 27) hx hb dX4_isForeseen_12 (by decide) (fun c3 => ?_) (fun c3 => ?_)
      · refine lv_iconst (v := 1) hx hb dX4_isForeseen_27 (by decide) ?_
        refine lv_goto (tgt := 32) hx hb dX4_isForeseen_28 (by decide) ?_
        exact m_iret hC hr_ hlk hS hP (by first | rfl | exact nar_b _) (by first | (simp [b2i, c1]; done) | (simp [b2i, c1, c2]; done) | (simp [b2i, c1, c2, c3]; done) | (simp [b2i, c1, c2, c3, c4]; done) | (simp [b2i, c1, c2, c3, c4, c5]; done)) dX4_isForeseen_32
      · refine lv_iload_n hx hb dX4_isForeseen_15 rfl (lv_at hl 0 rfl) ?_
        refine lv_bipush (v := 7) hx hb dX4_isForeseen_16 (by decide) ?_
        refine lv_icmp_eq (tgt := 27) hx hb dX4_isForeseen_18 (by decide) (fun c4 => ?_) (fun c4 => ?_)
        · refine lv_iconst (v := 1) hx hb dX4_isForeseen_27 (by decide) ?_
          refine lv_goto (tgt := 32) hx hb dX4_isForeseen_28 (by decide) ?_
          exact m_iret hC hr_ hlk hS hP (by first | rfl | exact nar_b _) (by first | (simp [b2i, c1]; done) | (simp [b2i, c1, c2]; done) | (simp [b2i, c1, c2, c3]; done) | (simp [b2i, c1, c2, c3, c4]; done) | (simp [b2i, c1, c2, c3, c4, c5]; done)) dX4_isForeseen_32
        · refine lv_iload_n hx hb dX4_isForeseen_21 rfl (lv_at hl 0 rfl) ?_
          refine lv_bipush (v := 8) hx hb dX4_isForeseen_22 (by decide) ?_
          refine lv_icmp_ne (tgt := 31) hx hb dX4_isForeseen_24 (by decide) (fun c5 => ?_) (fun c5 => ?_)
          · refine lv_iconst (v := 0) hx hb dX4_isForeseen_31 (by decide) ?_
            exact m_iret hC hr_ hlk hS hP (by first | rfl | exact nar_b _) (by first | (simp [b2i, c1]; done) | (simp [b2i, c1, c2]; done) | (simp [b2i, c1, c2, c3]; done) | (simp [b2i, c1, c2, c3, c4]; done) | (simp [b2i, c1, c2, c3, c4, c5]; done)) dX4_isForeseen_32
          · refine lv_iconst (v := 1) hx hb dX4_isForeseen_27 (by decide) ?_
            refine lv_goto (tgt := 32) hx hb dX4_isForeseen_28 (by decide) ?_
            exact m_iret hC hr_ hlk hS hP (by first | rfl | exact nar_b _) (by first | (simp [b2i, c1]; done) | (simp [b2i, c1, c2]; done) | (simp [b2i, c1, c2, c3]; done) | (simp [b2i, c1, c2, c3, c4]; done) | (simp [b2i, c1, c2, c3, c4, c5]; done)) dX4_isForeseen_32
set_option maxHeartbeats 4000000 in
set_option maxRecDepth 100000 in
theorem c_compare (l : Launch) {g : Gm} {en : Key → va_E} (a b : Int32) : MI l yJ6_compare_7cf53 cJ6_compare_7cf53 2 .int (rm 0 0) g (KK g) en [.int (a), .int (b)] (cmp3 a b) en := by
  refine met_of (by decide +kernel) (Nat.le_of_ble_eq_true rfl) ?_
  intro p e s m below meth c ls hC hr_ hlk hnm hE hP hS hl
  obtain ⟨hx, hb, hml, hown, hG⟩ := id hC
  have hl : lv_has ls 2 [(0, .int (a)), (1, .int (b))] := hl
  refine lv_iload_n hx hb dJ6_compare_7cf53_0 rfl (lv_at hl 0 rfl) ?_
  refine lv_iload_n hx hb dJ6_compare_7cf53_1 rfl (lv_at hl 1 rfl) ?_
  refine lv_icmp_ge (tgt := 9) hx hb dJ6_compare_7cf53_2 (by decide) (fun c1 => ?_) (fun c1 => ?_)
  · refine lv_iload_n hx hb dJ6_compare_7cf53_9 rfl (lv_at hl 0 rfl) ?_
    refine lv_iload_n hx hb dJ6_compare_7cf53_10 rfl (lv_at hl 1 rfl) ?_
    refine lv_icmp_ne (tgt := 18) hx hb dJ6_compare_7cf53_11 (by decide) (fun c2 => ?_) (fun c2 => ?_)
    · refine lv_iconst (v := 1) hx hb dJ6_compare_7cf53_18 (by decide) ?_
      exact m_iret hC hr_ hlk hS hP rfl (by first | (unfold cmp3; rw [if_pos (Decidable.not_not.mp (fun q => c1 (Int32.not_lt.mp q)))]; done) | (unfold cmp3; rw [if_neg (Int32.not_lt.mpr c1), if_pos (Decidable.not_not.mp c2)]; done) | (unfold cmp3; rw [if_neg (Int32.not_lt.mpr c1), if_neg c2]; done) | (unfold cmp3; rw [if_neg (Int32.not_lt.mpr c1), if_pos c2]; done)) dJ6_compare_7cf53_19
    · refine lv_iconst (v := 0) hx hb dJ6_compare_7cf53_14 (by decide) ?_
      refine lv_goto (tgt := 19) hx hb dJ6_compare_7cf53_15 (by decide) ?_
      exact m_iret hC hr_ hlk hS hP rfl (by first | (unfold cmp3; rw [if_pos (Decidable.not_not.mp (fun q => c1 (Int32.not_lt.mp q)))]; done) | (unfold cmp3; rw [if_neg (Int32.not_lt.mpr c1), if_pos (Decidable.not_not.mp c2)]; done) | (unfold cmp3; rw [if_neg (Int32.not_lt.mpr c1), if_neg c2]; done) | (unfold cmp3; rw [if_neg (Int32.not_lt.mpr c1), if_pos c2]; done)) dJ6_compare_7cf53_19
  · refine lv_iconst (v := (-1)) hx hb dJ6_compare_7cf53_5 (by decide) ?_
    refine lv_goto (tgt := 19) hx hb dJ6_compare_7cf53_6 (by decide) ?_
    exact m_iret hC hr_ hlk hS hP rfl (by first | (unfold cmp3; rw [if_pos (Decidable.not_not.mp (fun q => c1 (Int32.not_lt.mp q)))]; done) | (unfold cmp3; rw [if_neg (Int32.not_lt.mpr c1), if_pos (Decidable.not_not.mp c2)]; done) | (unfold cmp3; rw [if_neg (Int32.not_lt.mpr c1), if_neg c2]; done) | (unfold cmp3; rw [if_neg (Int32.not_lt.mpr c1), if_pos c2]; done)) dJ6_compare_7cf53_19
