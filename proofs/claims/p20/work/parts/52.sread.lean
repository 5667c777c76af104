/-! the law's own picture: what is read of it -/
theorem dX5_far_0 : decode cX5_far 0 = .ok (.aload_n 0, 1) := by decide +kernel
theorem dX5_far_1 : decode cX5_far 1 = .ok (.iconst 0, 1) := by decide +kernel
theorem dX5_far_2 : decode cX5_far 2 = .ok (.iaload, 1) := by decide +kernel
theorem dX5_far_3 : decode cX5_far 3 = .ok (.aload_n 1, 1) := by decide +kernel
theorem dX5_far_4 : decode cX5_far 4 = .ok (.iconst 0, 1) := by decide +kernel
theorem dX5_far_5 : decode cX5_far 5 = .ok (.iaload, 1) := by decide +kernel
theorem dX5_far_6 : decode cX5_far 6 = .ok (.if_icmp .ge 13, 3) := by decide +kernel
theorem dX5_far_9 : decode cX5_far 9 = .ok (.aload_n 1, 1) := by decide +kernel
theorem dX5_far_10 : decode cX5_far 10 = .ok (.iconst 0, 1) := by decide +kernel
theorem dX5_far_11 : decode cX5_far 11 = .ok (.iaload, 1) := by decide +kernel
theorem dX5_far_12 : decode cX5_far 12 = .ok (.aload_n 0, 1) := by decide +kernel
theorem dX5_far_13 : decode cX5_far 13 = .ok (.iconst 0, 1) := by decide +kernel
theorem dX5_far_14 : decode cX5_far 14 = .ok (.iaload, 1) := by decide +kernel
theorem dX5_far_15 : decode cX5_far 15 = .ok (.isub, 1) := by decide +kernel
theorem dX5_far_16 : decode cX5_far 16 = .ok (.goto 10, 3) := by decide +kernel
theorem dX5_far_19 : decode cX5_far 19 = .ok (.aload_n 0, 1) := by decide +kernel
theorem dX5_far_20 : decode cX5_far 20 = .ok (.iconst 0, 1) := by decide +kernel
theorem dX5_far_21 : decode cX5_far 21 = .ok (.iaload, 1) := by decide +kernel
theorem dX5_far_22 : decode cX5_far 22 = .ok (.aload_n 1, 1) := by decide +kernel
theorem dX5_far_23 : decode cX5_far 23 = .ok (.iconst 0, 1) := by decide +kernel
theorem dX5_far_24 : decode cX5_far 24 = .ok (.iaload, 1) := by decide +kernel
theorem dX5_far_25 : decode cX5_far 25 = .ok (.isub, 1) := by decide +kernel
theorem dX5_far_26 : decode cX5_far 26 = .ok (.istore_n 2, 1) := by decide +kernel
theorem dX5_far_27 : decode cX5_far 27 = .ok (.aload_n 0, 1) := by decide +kernel
theorem dX5_far_28 : decode cX5_far 28 = .ok (.iconst 1, 1) := by decide +kernel
theorem dX5_far_29 : decode cX5_far 29 = .ok (.iaload, 1) := by decide +kernel
theorem dX5_far_30 : decode cX5_far 30 = .ok (.aload_n 1, 1) := by decide +kernel
theorem dX5_far_31 : decode cX5_far 31 = .ok (.iconst 1, 1) := by decide +kernel
theorem dX5_far_32 : decode cX5_far 32 = .ok (.iaload, 1) := by decide +kernel
theorem dX5_far_33 : decode cX5_far 33 = .ok (.if_icmp .ge 13, 3) := by decide +kernel
theorem dX5_far_36 : decode cX5_far 36 = .ok (.aload_n 1, 1) := by decide +kernel
theorem dX5_far_37 : decode cX5_far 37 = .ok (.iconst 1, 1) := by decide +kernel
theorem dX5_far_38 : decode cX5_far 38 = .ok (.iaload, 1) := by decide +kernel
theorem dX5_far_39 : decode cX5_far 39 = .ok (.aload_n 0, 1) := by decide +kernel
theorem dX5_far_40 : decode cX5_far 40 = .ok (.iconst 1, 1) := by decide +kernel
theorem dX5_far_41 : decode cX5_far 41 = .ok (.iaload, 1) := by decide +kernel
theorem dX5_far_42 : decode cX5_far 42 = .ok (.isub, 1) := by decide +kernel
theorem dX5_far_43 : decode cX5_far 43 = .ok (.goto 10, 3) := by decide +kernel
theorem dX5_far_46 : decode cX5_far 46 = .ok (.aload_n 0, 1) := by decide +kernel
theorem dX5_far_47 : decode cX5_far 47 = .ok (.iconst 1, 1) := by decide +kernel
theorem dX5_far_48 : decode cX5_far 48 = .ok (.iaload, 1) := by decide +kernel
theorem dX5_far_49 : decode cX5_far 49 = .ok (.aload_n 1, 1) := by decide +kernel
theorem dX5_far_50 : decode cX5_far 50 = .ok (.iconst 1, 1) := by decide +kernel
theorem dX5_far_51 : decode cX5_far 51 = .ok (.iaload, 1) := by decide +kernel
theorem dX5_far_52 : decode cX5_far 52 = .ok (.isub, 1) := by decide +kernel
theorem dX5_far_53 : decode cX5_far 53 = .ok (.istore_n 3, 1) := by decide +kernel
theorem dX5_far_54 : decode cX5_far 54 = .ok (.iload_n 2, 1) := by decide +kernel
theorem dX5_far_55 : decode cX5_far 55 = .ok (.iload_n 3, 1) := by decide +kernel
theorem dX5_far_56 : decode cX5_far 56 = .ok (.if_icmp .ge 7, 3) := by decide +kernel
theorem dX5_far_59 : decode cX5_far 59 = .ok (.iload_n 3, 1) := by decide +kernel
theorem dX5_far_60 : decode cX5_far 60 = .ok (.goto 4, 3) := by decide +kernel
theorem dX5_far_63 : decode cX5_far 63 = .ok (.iload_n 2, 1) := by decide +kernel
theorem dX5_far_64 : decode cX5_far 64 = .ok (.ireturn, 1) := by decide +kernel
theorem dX5_would_0 : decode cX5_would 0 = .ok (.aload_n 0, 1) := by decide +kernel
theorem dX5_would_1 : decode cX5_would 1 = .ok (.getfield 9, 3) := by decide +kernel
theorem dX5_would_4 : decode cX5_would 4 = .ok (.iload_n 1, 1) := by decide +kernel
theorem dX5_would_5 : decode cX5_would 5 = .ok (.aaload, 1) := by decide +kernel
theorem dX5_would_6 : decode cX5_would 6 = .ok (.iload_n 2, 1) := by decide +kernel
theorem dX5_would_7 : decode cX5_would 7 = .ok (.iaload, 1) := by decide +kernel
theorem dX5_would_8 : decode cX5_would 8 = .ok (.istore_n 3, 1) := by decide +kernel
theorem dX5_would_9 : decode cX5_would 9 = .ok (.iload_n 3, 1) := by decide +kernel
theorem dX5_would_10 : decode cX5_would 10 = .ok (.iconst 2, 1) := by decide +kernel
theorem dX5_would_11 : decode cX5_would 11 = .ok (.idiv, 1) := by decide +kernel
theorem dX5_would_12 : decode cX5_would 12 = .ok (.iconst 1, 1) := by decide +kernel
theorem dX5_would_13 : decode cX5_would 13 = .ok (.iadd, 1) := by decide +kernel
theorem dX5_would_14 : decode cX5_would 14 = .ok (.aload_n 0, 1) := by decide +kernel
theorem dX5_would_15 : decode cX5_would 15 = .ok (.getfield 14, 3) := by decide +kernel
theorem dX5_would_18 : decode cX5_would 18 = .ok (.iload_n 1, 1) := by decide +kernel
theorem dX5_would_19 : decode cX5_would 19 = .ok (.aaload, 1) := by decide +kernel
theorem dX5_would_20 : decode cX5_would 20 = .ok (.iload_n 2, 1) := by decide +kernel
theorem dX5_would_21 : decode cX5_would 21 = .ok (.iaload, 1) := by decide +kernel
theorem dX5_would_22 : decode cX5_would 22 = .ok (.isub, 1) := by decide +kernel
theorem dX5_would_23 : decode cX5_would 23 = .ok (.istore 4, 2) := by decide +kernel
theorem dX5_would_25 : decode cX5_would 25 = .ok (.iload 4, 2) := by decide +kernel
theorem dX5_would_27 : decode cX5_would 27 = .ok (.ifCond .ge 7, 3) := by decide +kernel
theorem dX5_would_30 : decode cX5_would 30 = .ok (.iconst 0, 1) := by decide +kernel
theorem dX5_would_31 : decode cX5_would 31 = .ok (.goto 15, 3) := by decide +kernel
theorem dX5_would_34 : decode cX5_would 34 = .ok (.iload 4, 2) := by decide +kernel
theorem dX5_would_36 : decode cX5_would 36 = .ok (.iload_n 3, 1) := by decide +kernel
theorem dX5_would_37 : decode cX5_would 37 = .ok (.if_icmp .le 7, 3) := by decide +kernel
theorem dX5_would_40 : decode cX5_would 40 = .ok (.iload_n 3, 1) := by decide +kernel
theorem dX5_would_41 : decode cX5_would 41 = .ok (.goto 5, 3) := by decide +kernel
theorem dX5_would_44 : decode cX5_would 44 = .ok (.iload 4, 2) := by decide +kernel
theorem dX5_would_46 : decode cX5_would 46 = .ok (.ireturn, 1) := by decide +kernel
theorem dX5_openAt_0 : decode cX5_openAt 0 = .ok (.iconst (-1), 1) := by decide +kernel
theorem dX5_openAt_1 : decode cX5_openAt 1 = .ok (.istore_n 3, 1) := by decide +kernel
theorem dX5_openAt_2 : decode cX5_openAt 2 = .ok (.iconst 0, 1) := by decide +kernel
theorem dX5_openAt_3 : decode cX5_openAt 3 = .ok (.istore 4, 2) := by decide +kernel
theorem dX5_openAt_5 : decode cX5_openAt 5 = .ok (.iload 4, 2) := by decide +kernel
theorem dX5_openAt_7 : decode cX5_openAt 7 = .ok (.aload_n 0, 1) := by decide +kernel
theorem dX5_openAt_8 : decode cX5_openAt 8 = .ok (.getfield 22, 3) := by decide +kernel
theorem dX5_openAt_11 : decode cX5_openAt 11 = .ok (.arraylength, 1) := by decide +kernel
theorem dX5_openAt_12 : decode cX5_openAt 12 = .ok (.if_icmp .ge 51, 3) := by decide +kernel
theorem dX5_openAt_15 : decode cX5_openAt 15 = .ok (.aload_n 0, 1) := by decide +kernel
theorem dX5_openAt_16 : decode cX5_openAt 16 = .ok (.getfield 22, 3) := by decide +kernel
theorem dX5_openAt_19 : decode cX5_openAt 19 = .ok (.iload 4, 2) := by decide +kernel
theorem dX5_openAt_21 : decode cX5_openAt 21 = .ok (.aaload, 1) := by decide +kernel
theorem dX5_openAt_22 : decode cX5_openAt 22 = .ok (.iconst 0, 1) := by decide +kernel
theorem dX5_openAt_23 : decode cX5_openAt 23 = .ok (.iaload, 1) := by decide +kernel
theorem dX5_openAt_24 : decode cX5_openAt 24 = .ok (.iload_n 1, 1) := by decide +kernel
theorem dX5_openAt_25 : decode cX5_openAt 25 = .ok (.if_icmp .ne 32, 3) := by decide +kernel
theorem dX5_openAt_28 : decode cX5_openAt 28 = .ok (.aload_n 0, 1) := by decide +kernel
theorem dX5_openAt_29 : decode cX5_openAt 29 = .ok (.getfield 22, 3) := by decide +kernel
theorem dX5_openAt_32 : decode cX5_openAt 32 = .ok (.iload 4, 2) := by decide +kernel
theorem dX5_openAt_34 : decode cX5_openAt 34 = .ok (.aaload, 1) := by decide +kernel
theorem dX5_openAt_35 : decode cX5_openAt 35 = .ok (.iconst 1, 1) := by decide +kernel
theorem dX5_openAt_36 : decode cX5_openAt 36 = .ok (.iaload, 1) := by decide +kernel
theorem dX5_openAt_37 : decode cX5_openAt 37 = .ok (.iload_n 2, 1) := by decide +kernel
theorem dX5_openAt_38 : decode cX5_openAt 38 = .ok (.if_icmp .ne 19, 3) := by decide +kernel
theorem dX5_openAt_41 : decode cX5_openAt 41 = .ok (.aload_n 0, 1) := by decide +kernel
theorem dX5_openAt_42 : decode cX5_openAt 42 = .ok (.getfield 22, 3) := by decide +kernel
theorem dX5_openAt_45 : decode cX5_openAt 45 = .ok (.iload 4, 2) := by decide +kernel
theorem dX5_openAt_47 : decode cX5_openAt 47 = .ok (.aaload, 1) := by decide +kernel
theorem dX5_openAt_48 : decode cX5_openAt 48 = .ok (.iconst 2, 1) := by decide +kernel
theorem dX5_openAt_49 : decode cX5_openAt 49 = .ok (.iaload, 1) := by decide +kernel
theorem dX5_openAt_50 : decode cX5_openAt 50 = .ok (.iconst 1, 1) := by decide +kernel
theorem dX5_openAt_51 : decode cX5_openAt 51 = .ok (.if_icmp .ne 6, 3) := by decide +kernel
theorem dX5_openAt_54 : decode cX5_openAt 54 = .ok (.iload 4, 2) := by decide +kernel
theorem dX5_openAt_56 : decode cX5_openAt 56 = .ok (.istore_n 3, 1) := by decide +kernel
theorem dX5_openAt_57 : decode cX5_openAt 57 = .ok (.iinc 4 1, 3) := by decide +kernel
theorem dX5_openAt_60 : decode cX5_openAt 60 = .ok (.goto (-55), 3) := by decide +kernel
theorem dX5_openAt_63 : decode cX5_openAt 63 = .ok (.iload_n 3, 1) := by decide +kernel
theorem dX5_openAt_64 : decode cX5_openAt 64 = .ok (.ireturn, 1) := by decide +kernel
theorem dX5_many_0 : decode cX5_many 0 = .ok (.iconst 0, 1) := by decide +kernel
theorem dX5_many_1 : decode cX5_many 1 = .ok (.istore_n 2, 1) := by decide +kernel
theorem dX5_many_2 : decode cX5_many 2 = .ok (.aload_n 0, 1) := by decide +kernel
theorem dX5_many_3 : decode cX5_many 3 = .ok (.getfield 25, 3) := by decide +kernel
theorem dX5_many_6 : decode cX5_many 6 = .ok (.astore_n 3, 1) := by decide +kernel
theorem dX5_many_7 : decode cX5_many 7 = .ok (.aload_n 3, 1) := by decide +kernel
theorem dX5_many_8 : decode cX5_many 8 = .ok (.arraylength, 1) := by decide +kernel
theorem dX5_many_9 : decode cX5_many 9 = .ok (.istore 4, 2) := by decide +kernel
theorem dX5_many_11 : decode cX5_many 11 = .ok (.iconst 0, 1) := by decide +kernel
theorem dX5_many_12 : decode cX5_many 12 = .ok (.istore 5, 2) := by decide +kernel
theorem dX5_many_14 : decode cX5_many 14 = .ok (.iload 5, 2) := by decide +kernel
theorem dX5_many_16 : decode cX5_many 16 = .ok (.iload 4, 2) := by decide +kernel
theorem dX5_many_18 : decode cX5_many 18 = .ok (.if_icmp .ge 31, 3) := by decide +kernel
theorem dX5_many_21 : decode cX5_many 21 = .ok (.aload_n 3, 1) := by decide +kernel
theorem dX5_many_22 : decode cX5_many 22 = .ok (.iload 5, 2) := by decide +kernel
theorem dX5_many_24 : decode cX5_many 24 = .ok (.aaload, 1) := by decide +kernel
theorem dX5_many_25 : decode cX5_many 25 = .ok (.astore 6, 2) := by decide +kernel
theorem dX5_many_27 : decode cX5_many 27 = .ok (.iload_n 2, 1) := by decide +kernel
theorem dX5_many_28 : decode cX5_many 28 = .ok (.aload 6, 2) := by decide +kernel
theorem dX5_many_30 : decode cX5_many 30 = .ok (.iconst 2, 1) := by decide +kernel
theorem dX5_many_31 : decode cX5_many 31 = .ok (.iaload, 1) := by decide +kernel
theorem dX5_many_32 : decode cX5_many 32 = .ok (.iload_n 1, 1) := by decide +kernel
theorem dX5_many_33 : decode cX5_many 33 = .ok (.if_icmp .ne 7, 3) := by decide +kernel
theorem dX5_many_36 : decode cX5_many 36 = .ok (.iconst 1, 1) := by decide +kernel
theorem dX5_many_37 : decode cX5_many 37 = .ok (.goto 4, 3) := by decide +kernel
theorem dX5_many_40 : decode cX5_many 40 = .ok (.iconst 0, 1) := by decide +kernel
theorem dX5_many_41 : decode cX5_many 41 = .ok (.iadd, 1) := by decide +kernel
theorem dX5_many_42 : decode cX5_many 42 = .ok (.istore_n 2, 1) := by decide +kernel
theorem dX5_many_43 : decode cX5_many 43 = .ok (.iinc 5 1, 3) := by decide +kernel
theorem dX5_many_46 : decode cX5_many 46 = .ok (.goto (-32), 3) := by decide +kernel
theorem dX5_many_49 : decode cX5_many 49 = .ok (.iload_n 2, 1) := by decide +kernel
theorem dX5_many_50 : decode cX5_many 50 = .ok (.ireturn, 1) := by decide +kernel
theorem dX5_isOver_0 : decode cX5_isOver 0 = .ok (.aload_n 0, 1) := by decide +kernel
theorem dX5_isOver_1 : decode cX5_isOver 1 = .ok (.getfield 25, 3) := by decide +kernel
theorem dX5_isOver_4 : decode cX5_isOver 4 = .ok (.astore_n 2, 1) := by decide +kernel
theorem dX5_isOver_5 : decode cX5_isOver 5 = .ok (.aload_n 2, 1) := by decide +kernel
theorem dX5_isOver_6 : decode cX5_isOver 6 = .ok (.arraylength, 1) := by decide +kernel
theorem dX5_isOver_7 : decode cX5_isOver 7 = .ok (.istore_n 3, 1) := by decide +kernel
theorem dX5_isOver_8 : decode cX5_isOver 8 = .ok (.iconst 0, 1) := by decide +kernel
theorem dX5_isOver_9 : decode cX5_isOver 9 = .ok (.istore 4, 2) := by decide +kernel
theorem dX5_isOver_11 : decode cX5_isOver 11 = .ok (.iload 4, 2) := by decide +kernel
theorem dX5_isOver_13 : decode cX5_isOver 13 = .ok (.iload_n 3, 1) := by decide +kernel
theorem dX5_isOver_14 : decode cX5_isOver 14 = .ok (.if_icmp .ge 36, 3) := by decide +kernel
theorem dX5_isOver_17 : decode cX5_isOver 17 = .ok (.aload_n 2, 1) := by decide +kernel
theorem dX5_isOver_18 : decode cX5_isOver 18 = .ok (.iload 4, 2) := by decide +kernel
theorem dX5_isOver_20 : decode cX5_isOver 20 = .ok (.aaload, 1) := by decide +kernel
theorem dX5_isOver_21 : decode cX5_isOver 21 = .ok (.astore 5, 2) := by decide +kernel
theorem dX5_isOver_23 : decode cX5_isOver 23 = .ok (.aload 5, 2) := by decide +kernel
theorem dX5_isOver_25 : decode cX5_isOver 25 = .ok (.iconst 2, 1) := by decide +kernel
theorem dX5_isOver_26 : decode cX5_isOver 26 = .ok (.iaload, 1) := by decide +kernel
theorem dX5_isOver_27 : decode cX5_isOver 27 = .ok (.iload_n 1, 1) := by decide +kernel
theorem dX5_isOver_28 : decode cX5_isOver 28 = .ok (.if_icmp .ne 16, 3) := by decide +kernel
theorem dX5_isOver_31 : decode cX5_isOver 31 = .ok (.aload 5, 2) := by decide +kernel
theorem dX5_isOver_33 : decode cX5_isOver 33 = .ok (.iconst 3, 1) := by decide +kernel
theorem dX5_isOver_34 : decode cX5_isOver 34 = .ok (.iaload, 1) := by decide +kernel
theorem dX5_isOver_35 : decode cX5_isOver 35 = .ok (.aload 5, 2) := by decide +kernel
theorem dX5_isOver_37 : decode cX5_isOver 37 = .ok (.iconst 0, 1) := by decide +kernel
theorem dX5_isOver_38 : decode cX5_isOver 38 = .ok (.iaload, 1) := by decide +kernel
theorem dX5_isOver_39 : decode cX5_isOver 39 = .ok (.if_icmp .le 5, 3) := by decide +kernel
theorem dX5_isOver_42 : decode cX5_isOver 42 = .ok (.iconst 1, 1) := by decide +kernel
theorem dX5_isOver_43 : decode cX5_isOver 43 = .ok (.ireturn, 1) := by decide +kernel
theorem dX5_isOver_44 : decode cX5_isOver 44 = .ok (.iinc 4 1, 3) := by decide +kernel
theorem dX5_isOver_47 : decode cX5_isOver 47 = .ok (.goto (-36), 3) := by decide +kernel
theorem dX5_isOver_50 : decode cX5_isOver 50 = .ok (.iconst 0, 1) := by decide +kernel
theorem dX5_isOver_51 : decode cX5_isOver 51 = .ok (.ireturn, 1) := by decide +kernel
theorem abs9 : ∀ a, a < 9 → ∀ b, b < 9 → (if nI a < nI b then nI b - nI a else nI a - nI b) = iabs (nI a - nI b) := by decide +kernel
theorem abs_lt9 {x y : Int32} (hx : lt9 x) (hy : lt9 y) : (if x < y then y - x else x - y) = iabs (x - y) := by
  obtain ⟨a, ha, rfl⟩ := hx
  obtain ⟨b, hb, rfl⟩ := hy
  exact abs9 a ha b hb
theorem abs_t {x y : Int32} (hx : lt9 x) (hy : lt9 y) (h : x < y) : y - x = iabs (x - y) := by rw [← abs_lt9 hx hy, if_pos h]
theorem abs_f {x y : Int32} (hx : lt9 x) (hy : lt9 y) (h : ¬ x < y) : x - y = iabs (x - y) := by rw [← abs_lt9 hx hy, if_neg h]
set_option maxHeartbeats 4000000 in
set_option maxRecDepth 100000 in
theorem c_farS (l : Launch) {g : Gm} (hI : IJ g (KK g)) {M : Mem} {o : Nat → Int64} {v : Vw} (hv : Inv v) (hL : SimL g v) (w h : Nat) (hw : w < nW v) (hh : h < nH v) : MI l yX5_far cX5_far 4 .int (rm 0 0) g (KK g) (ent g (setR M 2 v) o) [.ref (ad g (25, 2, w)), .ref (ad g (23, 0, h))] (farW v w h) (ent g (setR M 2 v) o) := by
  refine met_of (by decide +kernel) (Nat.le_of_ble_eq_true rfl) ?_
  intro p e s m below meth c ls hC hr_ hlk hnm hE hP hS hl
  obtain ⟨hx, hb, hml, hown, hG⟩ := id hC
  have hl : lv_has ls 4 [(0, .ref (ad g (25, 2, w))), (1, .ref (ad g (23, 0, h)))] := hl
  have qH := hv.lH
  have qS := hv.lS
  have qW := hv.lW
  refine lv_aload_n hx hb dX5_far_0 rfl (lv_at hl 0 rfl) ?_
  refine lv_iconst (v := 0) hx hb dX5_far_1 (by decide) ?_
  refine m_iald hC hE hP (k_25 hL (by omega)) e_25 0 (rfl) (show 0 < 4 from by omega) (by decide) dX5_far_2 ?_
  refine m_top (y := v 12 w) rfl ?_
  refine lv_aload_n hx hb dX5_far_3 rfl (lv_at hl 1 rfl) ?_
  refine lv_iconst (v := 0) hx hb dX5_far_4 (by decide) ?_
  refine m_iald hC hE hP (k_23 hL (by omega)) e_23 0 (rfl) (show 0 < 3 from by omega) (by decide) dX5_far_5 ?_
  refine m_top (y := v 3 h) rfl ?_
  refine lv_icmp_ge (tgt := 19) hx hb dX5_far_6 (by decide) (fun c1 => ?_) (fun c1 => ?_)
  · refine lv_aload_n hx hb dX5_far_19 rfl (lv_at hl 0 rfl) ?_
    refine lv_iconst (v := 0) hx hb dX5_far_20 (by decide) ?_
    refine m_iald hC hE hP (k_25 hL (by omega)) e_25 0 (rfl) (show 0 < 4 from by omega) (by decide) dX5_far_21 ?_
    refine m_top (y := v 12 w) rfl ?_
    refine lv_aload_n hx hb dX5_far_22 rfl (lv_at hl 1 rfl) ?_
    refine lv_iconst (v := 0) hx hb dX5_far_23 (by decide) ?_
    refine m_iald hC hE hP (k_23 hL (by omega)) e_23 0 (rfl) (show 0 < 3 from by omega) (by decide) dX5_far_24 ?_
    refine m_top (y := v 3 h) rfl ?_
    refine lv_isub hx hb dX5_far_25 ?_
    refine m_top (y := iabs (v 12 w - v 3 h)) (abs_f (hv.hW w hw).1 (hv.hH h hh).1 (Int32.not_lt.mpr c1)) ?_
    refine lv_istore_n (lv' := [(2, .int (iabs (v 12 w - v 3 h))), (0, .ref (ad g (25, 2, w))), (1, .ref (ad g (23, 0, h)))]) hx hb dX5_far_26 rfl hl (by decide) rfl (fun ls hl => ?_)
    refine lv_aload_n hx hb dX5_far_27 rfl (lv_at hl 1 rfl) ?_
    refine lv_iconst (v := 1) hx hb dX5_far_28 (by decide) ?_
    refine m_iald hC hE hP (k_25 hL (by omega)) e_25 1 (rfl) (show 1 < 4 from by omega) (by decide) dX5_far_29 ?_
    refine m_top (y := v 13 w) rfl ?_
    refine lv_aload_n hx hb dX5_far_30 rfl (lv_at hl 2 rfl) ?_
    refine lv_iconst (v := 1) hx hb dX5_far_31 (by decide) ?_
    refine m_iald hC hE hP (k_23 hL (by omega)) e_23 1 (rfl) (show 1 < 3 from by omega) (by decide) dX5_far_32 ?_
    refine m_top (y := v 4 h) rfl ?_
    refine lv_icmp_ge (tgt := 46) hx hb dX5_far_33 (by decide) (fun c2 => ?_) (fun c2 => ?_)
    · refine lv_aload_n hx hb dX5_far_46 rfl (lv_at hl 1 rfl) ?_
      refine lv_iconst (v := 1) hx hb dX5_far_47 (by decide) ?_
      refine m_iald hC hE hP (k_25 hL (by omega)) e_25 1 (rfl) (show 1 < 4 from by omega) (by decide) dX5_far_48 ?_
      refine m_top (y := v 13 w) rfl ?_
      refine lv_aload_n hx hb dX5_far_49 rfl (lv_at hl 2 rfl) ?_
      refine lv_iconst (v := 1) hx hb dX5_far_50 (by decide) ?_
      refine m_iald hC hE hP (k_23 hL (by omega)) e_23 1 (rfl) (show 1 < 3 from by omega) (by decide) dX5_far_51 ?_
      refine m_top (y := v 4 h) rfl ?_
      refine lv_isub hx hb dX5_far_52 ?_
      refine m_top (y := iabs (v 13 w - v 4 h)) (abs_f (hv.hW w hw).2 (hv.hH h hh).2.1 (Int32.not_lt.mpr c2)) ?_
      refine lv_istore_n (lv' := [(3, .int (iabs (v 13 w - v 4 h))), (2, .int (iabs (v 12 w - v 3 h))), (0, .ref (ad g (25, 2, w))), (1, .ref (ad g (23, 0, h)))]) hx hb dX5_far_53 rfl hl (by decide) rfl (fun ls hl => ?_)
      refine lv_iload_n hx hb dX5_far_54 rfl (lv_at hl 1 rfl) ?_
      refine lv_iload_n hx hb dX5_far_55 rfl (lv_at hl 0 rfl) ?_
      refine lv_icmp_ge (tgt := 63) hx hb dX5_far_56 (by decide) (fun c3 => ?_) (fun c3 => ?_)
      · refine lv_iload_n hx hb dX5_far_63 rfl (lv_at hl 1 rfl) ?_
        exact m_iret hC hr_ hlk hS (hP.castR (rfl)) rfl (by first | exact (if_pos (Int32.not_le.mp c3)).symm | exact (if_neg (Int32.not_lt.mpr c3)).symm) dX5_far_64
      · refine lv_iload_n hx hb dX5_far_59 rfl (lv_at hl 0 rfl) ?_
        refine lv_goto (tgt := 64) hx hb dX5_far_60 (by decide) ?_
        exact m_iret hC hr_ hlk hS (hP.castR (rfl)) rfl (by first | exact (if_pos (Int32.not_le.mp c3)).symm | exact (if_neg (Int32.not_lt.mpr c3)).symm) dX5_far_64
    · refine lv_aload_n hx hb dX5_far_36 rfl (lv_at hl 2 rfl) ?_
      refine lv_iconst (v := 1) hx hb dX5_far_37 (by decide) ?_
      refine m_iald hC hE hP (k_23 hL (by omega)) e_23 1 (rfl) (show 1 < 3 from by omega) (by decide) dX5_far_38 ?_
      refine m_top (y := v 4 h) rfl ?_
      refine lv_aload_n hx hb dX5_far_39 rfl (lv_at hl 1 rfl) ?_
      refine lv_iconst (v := 1) hx hb dX5_far_40 (by decide) ?_
      refine m_iald hC hE hP (k_25 hL (by omega)) e_25 1 (rfl) (show 1 < 4 from by omega) (by decide) dX5_far_41 ?_
      refine m_top (y := v 13 w) rfl ?_
      refine lv_isub hx hb dX5_far_42 ?_
      refine m_top (y := iabs (v 13 w - v 4 h)) (abs_t (hv.hW w hw).2 (hv.hH h hh).2.1 (Int32.not_le.mp c2)) ?_
      refine lv_goto (tgt := 53) hx hb dX5_far_43 (by decide) ?_
      refine lv_istore_n (lv' := [(3, .int (iabs (v 13 w - v 4 h))), (2, .int (iabs (v 12 w - v 3 h))), (0, .ref (ad g (25, 2, w))), (1, .ref (ad g (23, 0, h)))]) hx hb dX5_far_53 rfl hl (by decide) rfl (fun ls hl => ?_)
      refine lv_iload_n hx hb dX5_far_54 rfl (lv_at hl 1 rfl) ?_
      refine lv_iload_n hx hb dX5_far_55 rfl (lv_at hl 0 rfl) ?_
      refine lv_icmp_ge (tgt := 63) hx hb dX5_far_56 (by decide) (fun c3 => ?_) (fun c3 => ?_)
      · refine lv_iload_n hx hb dX5_far_63 rfl (lv_at hl 1 rfl) ?_
        exact m_iret hC hr_ hlk hS (hP.castR (rfl)) rfl (by first | exact (if_pos (Int32.not_le.mp c3)).symm | exact (if_neg (Int32.not_lt.mpr c3)).symm) dX5_far_64
      · refine lv_iload_n hx hb dX5_far_59 rfl (lv_at hl 0 rfl) ?_
        refine lv_goto (tgt := 64) hx hb dX5_far_60 (by decide) ?_
        exact m_iret hC hr_ hlk hS (hP.castR (rfl)) rfl (by first | exact (if_pos (Int32.not_le.mp c3)).symm | exact (if_neg (Int32.not_lt.mpr c3)).symm) dX5_far_64
  · refine lv_aload_n hx hb dX5_far_9 rfl (lv_at hl 1 rfl) ?_
    refine lv_iconst (v := 0) hx hb dX5_far_10 (by decide) ?_
    refine m_iald hC hE hP (k_23 hL (by omega)) e_23 0 (rfl) (show 0 < 3 from by omega) (by decide) dX5_far_11 ?_
    refine m_top (y := v 3 h) rfl ?_
    refine lv_aload_n hx hb dX5_far_12 rfl (lv_at hl 0 rfl) ?_
    refine lv_iconst (v := 0) hx hb dX5_far_13 (by decide) ?_
    refine m_iald hC hE hP (k_25 hL (by omega)) e_25 0 (rfl) (show 0 < 4 from by omega) (by decide) dX5_far_14 ?_
    refine m_top (y := v 12 w) rfl ?_
    refine lv_isub hx hb dX5_far_15 ?_
    refine m_top (y := iabs (v 12 w - v 3 h)) (abs_t (hv.hW w hw).1 (hv.hH h hh).1 (Int32.not_le.mp c1)) ?_
    refine lv_goto (tgt := 26) hx hb dX5_far_16 (by decide) ?_
    refine lv_istore_n (lv' := [(2, .int (iabs (v 12 w - v 3 h))), (0, .ref (ad g (25, 2, w))), (1, .ref (ad g (23, 0, h)))]) hx hb dX5_far_26 rfl hl (by decide) rfl (fun ls hl => ?_)
    refine lv_aload_n hx hb dX5_far_27 rfl (lv_at hl 1 rfl) ?_
    refine lv_iconst (v := 1) hx hb dX5_far_28 (by decide) ?_
    refine m_iald hC hE hP (k_25 hL (by omega)) e_25 1 (rfl) (show 1 < 4 from by omega) (by decide) dX5_far_29 ?_
    refine m_top (y := v 13 w) rfl ?_
    refine lv_aload_n hx hb dX5_far_30 rfl (lv_at hl 2 rfl) ?_
    refine lv_iconst (v := 1) hx hb dX5_far_31 (by decide) ?_
    refine m_iald hC hE hP (k_23 hL (by omega)) e_23 1 (rfl) (show 1 < 3 from by omega) (by decide) dX5_far_32 ?_
    refine m_top (y := v 4 h) rfl ?_
    refine lv_icmp_ge (tgt := 46) hx hb dX5_far_33 (by decide) (fun c2 => ?_) (fun c2 => ?_)
    · refine lv_aload_n hx hb dX5_far_46 rfl (lv_at hl 1 rfl) ?_
      refine lv_iconst (v := 1) hx hb dX5_far_47 (by decide) ?_
      refine m_iald hC hE hP (k_25 hL (by omega)) e_25 1 (rfl) (show 1 < 4 from by omega) (by decide) dX5_far_48 ?_
      refine m_top (y := v 13 w) rfl ?_
      refine lv_aload_n hx hb dX5_far_49 rfl (lv_at hl 2 rfl) ?_
      refine lv_iconst (v := 1) hx hb dX5_far_50 (by decide) ?_
      refine m_iald hC hE hP (k_23 hL (by omega)) e_23 1 (rfl) (show 1 < 3 from by omega) (by decide) dX5_far_51 ?_
      refine m_top (y := v 4 h) rfl ?_
      refine lv_isub hx hb dX5_far_52 ?_
      refine m_top (y := iabs (v 13 w - v 4 h)) (abs_f (hv.hW w hw).2 (hv.hH h hh).2.1 (Int32.not_lt.mpr c2)) ?_
      refine lv_istore_n (lv' := [(3, .int (iabs (v 13 w - v 4 h))), (2, .int (iabs (v 12 w - v 3 h))), (0, .ref (ad g (25, 2, w))), (1, .ref (ad g (23, 0, h)))]) hx hb dX5_far_53 rfl hl (by decide) rfl (fun ls hl => ?_)
      refine lv_iload_n hx hb dX5_far_54 rfl (lv_at hl 1 rfl) ?_
      refine lv_iload_n hx hb dX5_far_55 rfl (lv_at hl 0 rfl) ?_
      refine lv_icmp_ge (tgt := 63) hx hb dX5_far_56 (by decide) (fun c3 => ?_) (fun c3 => ?_)
      · refine lv_iload_n hx hb dX5_far_63 rfl (lv_at hl 1 rfl) ?_
        exact m_iret hC hr_ hlk hS (hP.castR (rfl)) rfl (by first | exact (if_pos (Int32.not_le.mp c3)).symm | exact (if_neg (Int32.not_lt.mpr c3)).symm) dX5_far_64
      · refine lv_iload_n hx hb dX5_far_59 rfl (lv_at hl 0 rfl) ?_
        refine lv_goto (tgt := 64) hx hb dX5_far_60 (by decide) ?_
        exact m_iret hC hr_ hlk hS (hP.castR (rfl)) rfl (by first | exact (if_pos (Int32.not_le.mp c3)).symm | exact (if_neg (Int32.not_lt.mpr c3)).symm) dX5_far_64
    · refine lv_aload_n hx hb dX5_far_36 rfl (lv_at hl 2 rfl) ?_
      refine lv_iconst (v := 1) hx hb dX5_far_37 (by decide) ?_
      refine m_iald hC hE hP (k_23 hL (by omega)) e_23 1 (rfl) (show 1 < 3 from by omega) (by decide) dX5_far_38 ?_
      refine m_top (y := v 4 h) rfl ?_
      refine lv_aload_n hx hb dX5_far_39 rfl (lv_at hl 1 rfl) ?_
      refine lv_iconst (v := 1) hx hb dX5_far_40 (by decide) ?_
      refine m_iald hC hE hP (k_25 hL (by omega)) e_25 1 (rfl) (show 1 < 4 from by omega) (by decide) dX5_far_41 ?_
      refine m_top (y := v 13 w) rfl ?_
      refine lv_isub hx hb dX5_far_42 ?_
      refine m_top (y := iabs (v 13 w - v 4 h)) (abs_t (hv.hW w hw).2 (hv.hH h hh).2.1 (Int32.not_le.mp c2)) ?_
      refine lv_goto (tgt := 53) hx hb dX5_far_43 (by decide) ?_
      refine lv_istore_n (lv' := [(3, .int (iabs (v 13 w - v 4 h))), (2, .int (iabs (v 12 w - v 3 h))), (0, .ref (ad g (25, 2, w))), (1, .ref (ad g (23, 0, h)))]) hx hb dX5_far_53 rfl hl (by decide) rfl (fun ls hl => ?_)
      refine lv_iload_n hx hb dX5_far_54 rfl (lv_at hl 1 rfl) ?_
      refine lv_iload_n hx hb dX5_far_55 rfl (lv_at hl 0 rfl) ?_
      refine lv_icmp_ge (tgt := 63) hx hb dX5_far_56 (by decide) (fun c3 => ?_) (fun c3 => ?_)
      · refine lv_iload_n hx hb dX5_far_63 rfl (lv_at hl 1 rfl) ?_
        exact m_iret hC hr_ hlk hS (hP.castR (rfl)) rfl (by first | exact (if_pos (Int32.not_le.mp c3)).symm | exact (if_neg (Int32.not_lt.mpr c3)).symm) dX5_far_64
      · refine lv_iload_n hx hb dX5_far_59 rfl (lv_at hl 0 rfl) ?_
        refine lv_goto (tgt := 64) hx hb dX5_far_60 (by decide) ?_
        exact m_iret hC hr_ hlk hS (hP.castR (rfl)) rfl (by first | exact (if_pos (Int32.not_le.mp c3)).symm | exact (if_neg (Int32.not_lt.mpr c3)).symm) dX5_far_64
theorem wld_1 {a b : Int32} (ha : 0 ≤ a) (h : b < 0) : (0 : Int32) = imax 0 (imin a b) := by
  have h1 := Int32.le_iff_toInt_le.mp ha
  have h2 := Int32.lt_iff_toInt_lt.mp h
  rw [Int32.toInt_zero] at h1 h2
  unfold imin
  rw [if_pos (by rw [Int32.lt_iff_toInt_lt]; omega)]
  unfold imax
  rw [if_neg (by rw [Int32.lt_iff_toInt_lt, Int32.toInt_zero]; omega)]
theorem wld_2 {a b : Int32} (ha : 0 ≤ a) (h2 : ¬ b ≤ a) : a = imax 0 (imin a b) := by
  have h2 := Int32.not_le.mp h2
  unfold imin
  rw [if_neg (by rw [Int32.lt_iff_toInt_lt] at h2 ⊢; omega)]
  unfold imax
  by_cases h : 0 < a
  · rw [if_pos h]
  · rw [if_neg h]
    exact Int32.le_antisymm (Int32.not_lt.mp h) ha
theorem wld_3 {a b : Int32} (h : 0 ≤ b) (h2 : b ≤ a) : b = imax 0 (imin a b) := by
  have e : imin a b = b := by
    unfold imin
    by_cases q : b < a
    · rw [if_pos q]
    · rw [if_neg q]
      exact Int32.le_antisymm (Int32.not_lt.mp q) h2
  rw [e]
  unfold imax
  by_cases q : 0 < b
  · rw [if_pos q]
  · rw [if_neg q]
    exact Int32.le_antisymm (Int32.not_lt.mp q) h
theorem IC.pos {v : Vw} {c : Nat} (h : IC v c) : 0 ≤ v 0 c := by
  obtain ⟨j, hj, e⟩ := h
  rw [e, Int32.le_iff_toInt_le, Int32.toInt_zero, nI_toInt (by omega)]
  omega
theorem would_1 {v : Vw} {c : Nat} (ha : 0 ≤ v 0 c) (h : v 0 c / 2 + 1 - v 1 c < 0) : (0 : Int32) = would v c := wld_1 ha h
theorem would_2 {v : Vw} {c : Nat} (ha : 0 ≤ v 0 c) (h : ¬ v 0 c / 2 + 1 - v 1 c ≤ v 0 c) : v 0 c = would v c := wld_2 ha h
theorem would_3 {v : Vw} {c : Nat} (h1 : 0 ≤ v 0 c / 2 + 1 - v 1 c) (h : v 0 c / 2 + 1 - v 1 c ≤ v 0 c) : v 0 c / 2 + 1 - v 1 c = would v c := wld_3 h1 h
set_option maxHeartbeats 4000000 in
set_option maxRecDepth 100000 in
theorem c_wouldS (l : Launch) {g : Gm} (hI : IJ g (KK g)) {M : Mem} {o : Nat → Int64} {v : Vw} (hL : SimL g v) (x y : Nat) (hx9 : x < 9) (hy9 : y < 9) (hp0 : 0 ≤ v 0 (9 * y + x)) : MI l yX5_would cX5_would 5 .int (rm 0 0) g (KK g) (ent g (setR M 2 v) o) [.ref (ad g (20, 0, 0)), .int (nI x), .int (nI y)] (would v (9 * y + x)) (ent g (setR M 2 v) o) := by
  refine met_of (by decide +kernel) (Nat.le_of_ble_eq_true rfl) ?_
  intro p e s m below meth c ls hC hr_ hlk hnm hE hP hS hl
  obtain ⟨hx, hb, hml, hown, hG⟩ := id hC
  have hl : lv_has ls 5 [(0, .ref (ad g (20, 0, 0))), (1, .int (nI x)), (2, .int (nI y))] := hl
  refine lv_aload_n hx hb dX5_would_0 rfl (lv_at hl 0 rfl) ?_
  refine m_get hC hE hP (k_20 hL) e_20 rfl u_5 0 (by decide) w_649 rfl rfl dX5_would_1 ?_
  refine lv_iload_n hx hb dX5_would_4 rfl (lv_at hl 1 rfl) ?_
  refine m_aalA hC hE hP (k_26 hL (by decide)) f_26 x (rfl) (show x < 9 from by omega) (by decide) dX5_would_5 ?_
  refine lv_iload_n hx hb dX5_would_6 rfl (lv_at hl 2 rfl) ?_
  refine m_iald hC hE hP (k_21 hL (by decide) (by omega)) e_21 y (rfl) (show y < 9 from by omega) (by decide) dX5_would_7 ?_
  refine m_top (y := v 0 (9 * y + x)) rfl ?_
  refine lv_istore_n (lv' := [(3, .int (v 0 (9 * y + x))), (0, .ref (ad g (20, 0, 0))), (1, .int (nI x)), (2, .int (nI y))]) hx hb dX5_would_8 rfl hl (by decide) rfl (fun ls hl => ?_)
  refine lv_iload_n hx hb dX5_would_9 rfl (lv_at hl 0 rfl) ?_
  refine lv_iconst (v := 2) hx hb dX5_would_10 (by decide) ?_
  refine lv_idiv hx hb dX5_would_11 (by decide) ?_
  refine lv_iconst (v := 1) hx hb dX5_would_12 (by decide) ?_
  refine lv_iadd hx hb dX5_would_13 ?_
  refine lv_aload_n hx hb dX5_would_14 rfl (lv_at hl 1 rfl) ?_
  refine m_get hC hE hP (k_20 hL) e_20 rfl u_5 1 (by decide) w_651 rfl rfl dX5_would_15 ?_
  refine lv_iload_n hx hb dX5_would_18 rfl (lv_at hl 2 rfl) ?_
  refine m_aalA hC hE hP (k_26 hL (by decide)) f_26 x (rfl) (show x < 9 from by omega) (by decide) dX5_would_19 ?_
  refine lv_iload_n hx hb dX5_would_20 rfl (lv_at hl 3 rfl) ?_
  refine m_iald hC hE hP (k_21 hL (by decide) (by omega)) e_21 y (rfl) (show y < 9 from by omega) (by decide) dX5_would_21 ?_
  refine m_top (y := v 1 (9 * y + x)) rfl ?_
  refine lv_isub hx hb dX5_would_22 ?_
  refine lv_istore (lv' := [(4, .int ((((v 0 (9 * y + x)) / (2 : Int32)) + (1 : Int32)) - (v 1 (9 * y + x)))), (3, .int (v 0 (9 * y + x))), (0, .ref (ad g (20, 0, 0))), (1, .int (nI x)), (2, .int (nI y))]) hx hb dX5_would_23 hl (by decide) rfl (fun ls hl => ?_)
  refine lv_iload hx hb dX5_would_25 (lv_at hl 0 rfl) ?_
  refine lv_if_ge (tgt := 34) hx hb dX5_would_27 (by decide) (fun c1 => ?_) (fun c1 => ?_)
  · refine lv_iload hx hb dX5_would_34 (lv_at hl 0 rfl) ?_
    refine lv_iload_n hx hb dX5_would_36 rfl (lv_at hl 1 rfl) ?_
    refine lv_icmp_le (tgt := 44) hx hb dX5_would_37 (by decide) (fun c2 => ?_) (fun c2 => ?_)
    · refine lv_iload hx hb dX5_would_44 (lv_at hl 0 rfl) ?_
      exact m_iret hC hr_ hlk hS (hP.castR (rfl)) rfl (would_3 c1 c2) dX5_would_46
    · refine lv_iload_n hx hb dX5_would_40 rfl (lv_at hl 1 rfl) ?_
      refine lv_goto (tgt := 46) hx hb dX5_would_41 (by decide) ?_
      exact m_iret hC hr_ hlk hS (hP.castR (rfl)) rfl (would_2 hp0 c2) dX5_would_46
  · refine lv_iconst (v := 0) hx hb dX5_would_30 (by decide) ?_
    refine lv_goto (tgt := 46) hx hb dX5_would_31 (by decide) ?_
    exact m_iret hC hr_ hlk hS (hP.castR (rfl)) rfl (would_1 hp0 (Int32.not_le.mp c1)) dX5_would_46
/-- the last place of n that has p, or -1 -/
def lst1 (p : Nat → Bool) (n : Nat) : Int32 := it (fun h q => if p h = true then nI h else q) n (-1)
def opn1 (v : Vw) (x y : Int32) (h : Nat) : Bool := decide (v 3 h = x) && (decide (v 4 h = y) && decide (v 5 h = 1))
theorem opn1_1 {v : Vw} {x y : Int32} {h : Nat} (c : ¬ v 3 h = x) : opn1 v x y h = false := by unfold opn1; rw [decide_eq_false c]; rfl
theorem opn1_2 {v : Vw} {x y : Int32} {h : Nat} (c : ¬ v 4 h = y) : opn1 v x y h = false := by unfold opn1; rw [decide_eq_false c, Bool.false_and, Bool.and_false]
theorem opn1_3 {v : Vw} {x y : Int32} {h : Nat} (c : ¬ v 5 h = 1) : opn1 v x y h = false := by unfold opn1; rw [decide_eq_false c, Bool.and_false, Bool.and_false]
theorem opn1_t {v : Vw} {x y : Int32} {h : Nat} (c1 : v 3 h = x) (c2 : v 4 h = y) (c3 : v 5 h = 1) : opn1 v x y h = true := by unfold opn1; rw [decide_eq_true c1, decide_eq_true c2, decide_eq_true c3]; rfl
theorem lst1_t {p : Nat → Bool} {i : Nat} (h : p i = true) : lst1 p (i + 1) = nI i := if_pos h
theorem lst1_f {p : Nat → Bool} {i : Nat} (h : p i = false) : lst1 p (i + 1) = lst1 p i := if_neg (by rw [h]; decide)
set_option maxHeartbeats 4000000 in
set_option maxRecDepth 100000 in
theorem c_openAtS (l : Launch) {g : Gm} (hI : IJ g (KK g)) {M : Mem} {o : Nat → Int64} {v : Vw} (hv : Inv v) (hL : SimL g v) (x y : Int32) : MI l yX5_openAt cX5_openAt 5 .int (rm 0 0) g (KK g) (ent g (setR M 2 v) o) [.ref (ad g (20, 0, 0)), .int (x), .int (y)] (lst1 (opn1 v x y) (nH v)) (ent g (setR M 2 v) o) := by
  refine met_of (by decide +kernel) (Nat.le_of_ble_eq_true rfl) ?_
  intro p e s m below meth c ls hC hr_ hlk hnm hE hP hS hl
  obtain ⟨hx, hb, hml, hown, hG⟩ := id hC
  have hl : lv_has ls 5 [(0, .ref (ad g (20, 0, 0))), (1, .int (x)), (2, .int (y))] := hl
  have qH := hv.lH
  have qS := hv.lS
  have qW := hv.lW
  refine lv_iconst (v := (-1)) hx hb dX5_openAt_0 (by decide) ?_
  refine lv_istore_n (lv' := [(3, .int ((-1 : Int32))), (0, .ref (ad g (20, 0, 0))), (1, .int (x)), (2, .int (y))]) hx hb dX5_openAt_1 rfl hl (by decide) rfl (fun ls hl => ?_)
  refine lv_iconst (v := 0) hx hb dX5_openAt_2 (by decide) ?_
  refine lv_istore (lv' := [(4, .int ((0 : Int32))), (3, .int ((-1 : Int32))), (0, .ref (ad g (20, 0, 0))), (1, .int (x)), (2, .int (y))]) hx hb dX5_openAt_3 hl (by decide) rfl (fun ls hl => ?_)
  refine lp_W (i0 := 0) (nH v) (fun i => ent g (setR M 2 v) o) (fun i => [(4, .int (nI i)), (3, .int (lst1 (opn1 v x y) i)), (0, .ref (ad g (20, 0, 0))), (1, .int (x)), (2, .int (y))]) (fun i => True) (Nat.zero_le _) (hP.castR (rfl)) hS (lv_sub hl [0, 1, 2, 3, 4] rfl) (trivial) (fun H locs ls hP hS hl J => ?_) (fun i hi IH H locs ls hP hS hl J => ?_)
  · refine lv_iload hx hb dX5_openAt_5 (lv_at hl 0 rfl) ?_
    refine lv_aload_n hx hb dX5_openAt_7 rfl (lv_at hl 2 rfl) ?_
    refine m_get hC hE hP (k_20 hL) e_20 rfl u_5 3 (by decide) w_655 rfl rfl dX5_openAt_8 ?_
    refine m_alnA hC hE hP (k_27 hL) e_27 (congrArg nI Cn.rf.1) dX5_openAt_11 ?_
    refine lv_icmp_ge (tgt := 63) hx hb dX5_openAt_12 (by decide) (fun c1 => ?_) (fun c1 => absurd (nI_le (Nat.le_refl _) (by omega)) c1)
    refine lv_iload_n hx hb dX5_openAt_63 rfl (lv_at hl 1 rfl) ?_
    exact m_iret hC hr_ hlk hS (hP.castR (rfl)) rfl (rfl) dX5_openAt_64
  · refine lv_iload hx hb dX5_openAt_5 (lv_at hl 0 rfl) ?_
    refine lv_aload_n hx hb dX5_openAt_7 rfl (lv_at hl 2 rfl) ?_
    refine m_get hC hE hP (k_20 hL) e_20 rfl u_5 3 (by decide) w_655 rfl rfl dX5_openAt_8 ?_
    refine m_alnA hC hE hP (k_27 hL) e_27 (congrArg nI Cn.rf.1) dX5_openAt_11 ?_
    refine lv_icmp_ge (tgt := 63) hx hb dX5_openAt_12 (by decide) (fun c2 => absurd c2 (nI_ge hi (by omega))) (fun c2 => ?_)
    refine lv_aload_n hx hb dX5_openAt_15 rfl (lv_at hl 2 rfl) ?_
    refine m_get hC hE hP (k_20 hL) e_20 rfl u_5 3 (by decide) w_655 rfl rfl dX5_openAt_16 ?_
    refine lv_iload hx hb dX5_openAt_19 (lv_at hl 0 rfl) ?_
    refine m_aalA hC hE hP (k_27 hL) e_27 i (rfl) (Cn.rf.lH (by omega)) (Cn.rf.bH (by omega)) dX5_openAt_21 ?_
    refine lv_iconst (v := 0) hx hb dX5_openAt_22 (by decide) ?_
    refine m_iald hC hE hP (k_23 hL (by omega)) e_23 0 (rfl) (show 0 < 3 from by omega) (by decide) dX5_openAt_23 ?_
    refine m_top (y := v 3 i) rfl ?_
    refine lv_iload_n hx hb dX5_openAt_24 rfl (lv_at hl 3 rfl) ?_
    refine lv_icmp_ne (tgt := 57) hx hb dX5_openAt_25 (by decide) (fun c1 => ?_) (fun c1 => ?_)
    · refine lv_iinc (v := nI (i + 1)) (lv' := [(4, .int (nI (i + 1))), (3, .int (lst1 (opn1 v x y) i)), (0, .ref (ad g (20, 0, 0))), (1, .int (x)), (2, .int (y))]) hx hb dX5_openAt_57 hl (k := 0) rfl (nI_1 _) (by decide) rfl (fun ls hl => ?_)
      refine lv_goto (tgt := 5) hx hb dX5_openAt_60 (by decide) ?_
      exact IH H locs ls (hP.castR (rfl)) hS (by show lv_has ls _ [(4, .int (nI (i + 1))), (3, .int (lst1 (opn1 v x y) (i + 1))), (0, .ref (ad g (20, 0, 0))), (1, .int (x)), (2, .int (y))]; rw [show lst1 (opn1 v x y) (i + 1) = lst1 (opn1 v x y) i from lst1_f (opn1_1 c1)]; exact lv_sub hl [0, 1, 2, 3, 4] rfl) (trivial)
    · refine lv_aload_n hx hb dX5_openAt_28 rfl (lv_at hl 2 rfl) ?_
      refine m_get hC hE hP (k_20 hL) e_20 rfl u_5 3 (by decide) w_655 rfl rfl dX5_openAt_29 ?_
      refine lv_iload hx hb dX5_openAt_32 (lv_at hl 0 rfl) ?_
      refine m_aalA hC hE hP (k_27 hL) e_27 i (rfl) (Cn.rf.lH (by omega)) (Cn.rf.bH (by omega)) dX5_openAt_34 ?_
      refine lv_iconst (v := 1) hx hb dX5_openAt_35 (by decide) ?_
      refine m_iald hC hE hP (k_23 hL (by omega)) e_23 1 (rfl) (show 1 < 3 from by omega) (by decide) dX5_openAt_36 ?_
      refine m_top (y := v 4 i) rfl ?_
      refine lv_iload_n hx hb dX5_openAt_37 rfl (lv_at hl 4 rfl) ?_
      refine lv_icmp_ne (tgt := 57) hx hb dX5_openAt_38 (by decide) (fun c2 => ?_) (fun c2 => ?_)
      · refine lv_iinc (v := nI (i + 1)) (lv' := [(4, .int (nI (i + 1))), (3, .int (lst1 (opn1 v x y) i)), (0, .ref (ad g (20, 0, 0))), (1, .int (x)), (2, .int (y))]) hx hb dX5_openAt_57 hl (k := 0) rfl (nI_1 _) (by decide) rfl (fun ls hl => ?_)
        refine lv_goto (tgt := 5) hx hb dX5_openAt_60 (by decide) ?_
        exact IH H locs ls (hP.castR (rfl)) hS (by show lv_has ls _ [(4, .int (nI (i + 1))), (3, .int (lst1 (opn1 v x y) (i + 1))), (0, .ref (ad g (20, 0, 0))), (1, .int (x)), (2, .int (y))]; rw [show lst1 (opn1 v x y) (i + 1) = lst1 (opn1 v x y) i from lst1_f (opn1_2 c2)]; exact lv_sub hl [0, 1, 2, 3, 4] rfl) (trivial)
      · refine lv_aload_n hx hb dX5_openAt_41 rfl (lv_at hl 2 rfl) ?_
        refine m_get hC hE hP (k_20 hL) e_20 rfl u_5 3 (by decide) w_655 rfl rfl dX5_openAt_42 ?_
        refine lv_iload hx hb dX5_openAt_45 (lv_at hl 0 rfl) ?_
        refine m_aalA hC hE hP (k_27 hL) e_27 i (rfl) (Cn.rf.lH (by omega)) (Cn.rf.bH (by omega)) dX5_openAt_47 ?_
        refine lv_iconst (v := 2) hx hb dX5_openAt_48 (by decide) ?_
        refine m_iald hC hE hP (k_23 hL (by omega)) e_23 2 (rfl) (show 2 < 3 from by omega) (by decide) dX5_openAt_49 ?_
        refine m_top (y := v 5 i) rfl ?_
        refine lv_iconst (v := 1) hx hb dX5_openAt_50 (by decide) ?_
        refine lv_icmp_ne (tgt := 57) hx hb dX5_openAt_51 (by decide) (fun c3 => ?_) (fun c3 => ?_)
        · refine lv_iinc (v := nI (i + 1)) (lv' := [(4, .int (nI (i + 1))), (3, .int (lst1 (opn1 v x y) i)), (0, .ref (ad g (20, 0, 0))), (1, .int (x)), (2, .int (y))]) hx hb dX5_openAt_57 hl (k := 0) rfl (nI_1 _) (by decide) rfl (fun ls hl => ?_)
          refine lv_goto (tgt := 5) hx hb dX5_openAt_60 (by decide) ?_
          exact IH H locs ls (hP.castR (rfl)) hS (by show lv_has ls _ [(4, .int (nI (i + 1))), (3, .int (lst1 (opn1 v x y) (i + 1))), (0, .ref (ad g (20, 0, 0))), (1, .int (x)), (2, .int (y))]; rw [show lst1 (opn1 v x y) (i + 1) = lst1 (opn1 v x y) i from lst1_f (opn1_3 c3)]; exact lv_sub hl [0, 1, 2, 3, 4] rfl) (trivial)
        · refine lv_iload hx hb dX5_openAt_54 (lv_at hl 0 rfl) ?_
          refine lv_istore_n (lv' := [(3, .int (nI i)), (4, .int (nI i)), (0, .ref (ad g (20, 0, 0))), (1, .int (x)), (2, .int (y))]) hx hb dX5_openAt_56 rfl hl (by decide) rfl (fun ls hl => ?_)
          refine lv_iinc (v := nI (i + 1)) (lv' := [(4, .int (nI (i + 1))), (3, .int (nI i)), (0, .ref (ad g (20, 0, 0))), (1, .int (x)), (2, .int (y))]) hx hb dX5_openAt_57 hl (k := 1) rfl (nI_1 _) (by decide) rfl (fun ls hl => ?_)
          refine lv_goto (tgt := 5) hx hb dX5_openAt_60 (by decide) ?_
          exact IH H locs ls (hP.castR (rfl)) hS (by show lv_has ls _ [(4, .int (nI (i + 1))), (3, .int (lst1 (opn1 v x y) (i + 1))), (0, .ref (ad g (20, 0, 0))), (1, .int (x)), (2, .int (y))]; rw [show lst1 (opn1 v x y) (i + 1) = nI i from lst1_t (opn1_t c1 c2 c3)]; exact lv_sub hl [0, 1, 2, 3, 4] rfl) (trivial)
theorem sum_f0 {v : Vw} {h : Int32} {i : Nat} (c : ¬ v 8 i = h) : sumI (fun k => if v 8 k = h then (1 : Int32) else 0) (i + 1) = sumI (fun k => if v 8 k = h then (1 : Int32) else 0) i + 0 := by
  show _ + (if v 8 i = h then (1 : Int32) else 0) = _
  rw [if_neg c]
set_option maxHeartbeats 4000000 in
set_option maxRecDepth 100000 in
theorem c_manyS (l : Launch) {g : Gm} (hI : IJ g (KK g)) {M : Mem} {o : Nat → Int64} {v : Vw} (hv : Inv v) (hL : SimL g v) (h : Int32) : MI l yX5_many cX5_many 7 .int (rm 0 0) g (KK g) (ent g (setR M 2 v) o) [.ref (ad g (20, 0, 0)), .int (h)] (spAt v h) (ent g (setR M 2 v) o) := by
  refine met_of (by decide +kernel) (Nat.le_of_ble_eq_true rfl) ?_
  intro p e s m below meth c ls hC hr_ hlk hnm hE hP hS hl
  obtain ⟨hx, hb, hml, hown, hG⟩ := id hC
  have hl : lv_has ls 7 [(0, .ref (ad g (20, 0, 0))), (1, .int (h))] := hl
  have qH := hv.lH
  have qS := hv.lS
  have qW := hv.lW
  refine lv_iconst (v := 0) hx hb dX5_many_0 (by decide) ?_
  refine lv_istore_n (lv' := [(2, .int ((0 : Int32))), (0, .ref (ad g (20, 0, 0))), (1, .int (h))]) hx hb dX5_many_1 rfl hl (by decide) rfl (fun ls hl => ?_)
  refine lv_aload_n hx hb dX5_many_2 rfl (lv_at hl 1 rfl) ?_
  refine m_get hC hE hP (k_20 hL) e_20 rfl u_5 4 (by decide) w_657 rfl rfl dX5_many_3 ?_
  refine lv_astore_n (lv' := [(3, .ref (ad g (28, 2, 0))), (2, .int ((0 : Int32))), (0, .ref (ad g (20, 0, 0))), (1, .int (h))]) hx hb dX5_many_6 rfl hl (by decide) rfl (fun ls hl => ?_)
  refine lv_aload_n hx hb dX5_many_7 rfl (lv_at hl 0 rfl) ?_
  refine m_alnA hC hE hP (k_28 hL) e_28 (congrArg nI Cn.rf.2.1) dX5_many_8 ?_
  refine lv_istore (lv' := [(4, .int (nI (nS v))), (3, .ref (ad g (28, 2, 0))), (2, .int ((0 : Int32))), (0, .ref (ad g (20, 0, 0))), (1, .int (h))]) hx hb dX5_many_9 hl (by decide) rfl (fun ls hl => ?_)
  refine lv_iconst (v := 0) hx hb dX5_many_11 (by decide) ?_
  refine lv_istore (lv' := [(5, .int ((0 : Int32))), (4, .int (nI (nS v))), (3, .ref (ad g (28, 2, 0))), (2, .int ((0 : Int32))), (0, .ref (ad g (20, 0, 0))), (1, .int (h))]) hx hb dX5_many_12 hl (by decide) rfl (fun ls hl => ?_)
  refine lp_W (i0 := 0) (nS v) (fun i => ent g (setR M 2 v) o) (fun i => [(5, .int (nI i)), (4, .int (nI (nS v))), (3, .ref (ad g (28, 2, 0))), (2, .int (sumI (fun k => if v 8 k = h then 1 else 0) i)), (0, .ref (ad g (20, 0, 0))), (1, .int (h))]) (fun i => True) (Nat.zero_le _) (hP.castR (rfl)) hS (lv_sub hl [0, 1, 2, 3, 4, 5] rfl) (trivial) (fun H locs ls hP hS hl J => ?_) (fun i hi IH H locs ls hP hS hl J => ?_)
  · refine lv_iload hx hb dX5_many_14 (lv_at hl 0 rfl) ?_
    refine lv_iload hx hb dX5_many_16 (lv_at hl 1 rfl) ?_
    refine lv_icmp_ge (tgt := 49) hx hb dX5_many_18 (by decide) (fun c1 => ?_) (fun c1 => absurd (nI_le (Nat.le_refl _) (by omega)) c1)
    refine lv_iload_n hx hb dX5_many_49 rfl (lv_at hl 3 rfl) ?_
    exact m_iret hC hr_ hlk hS (hP.castR (rfl)) rfl (rfl) dX5_many_50
  · refine lv_iload hx hb dX5_many_14 (lv_at hl 0 rfl) ?_
    refine lv_iload hx hb dX5_many_16 (lv_at hl 1 rfl) ?_
    refine lv_icmp_ge (tgt := 49) hx hb dX5_many_18 (by decide) (fun c2 => absurd c2 (nI_ge hi (by omega))) (fun c2 => ?_)
    refine lv_aload_n hx hb dX5_many_21 rfl (lv_at hl 2 rfl) ?_
    refine lv_iload hx hb dX5_many_22 (lv_at hl 0 rfl) ?_
    refine m_aalA hC hE hP (k_28 hL) e_28 i (rfl) (Cn.rf.lS (by omega)) (Cn.rf.bS (by omega)) dX5_many_24 ?_
    refine lv_astore (lv' := [(6, .ref (ad g (24, 2, i))), (5, .int (nI i)), (4, .int (nI (nS v))), (3, .ref (ad g (28, 2, 0))), (2, .int (sumI (fun k => if v 8 k = h then 1 else 0) i)), (0, .ref (ad g (20, 0, 0))), (1, .int (h))]) hx hb dX5_many_25 hl (by decide) rfl (fun ls hl => ?_)
    refine lv_iload_n hx hb dX5_many_27 rfl (lv_at hl 4 rfl) ?_
    refine lv_aload hx hb dX5_many_28 (lv_at hl 0 rfl) ?_
    refine lv_iconst (v := 2) hx hb dX5_many_30 (by decide) ?_
    refine m_iald hC hE hP (k_24 hL (by omega)) e_24 2 (rfl) (show 2 < 6 from by omega) (by decide) dX5_many_31 ?_
    refine m_top (y := v 8 i) rfl ?_
    refine lv_iload_n hx hb dX5_many_32 rfl (lv_at hl 6 rfl) ?_
    refine lv_icmp_ne (tgt := 40) hx hb dX5_many_33 (by decide) (fun c1 => ?_) (fun c1 => ?_)
    · refine lv_iconst (v := 0) hx hb dX5_many_40 (by decide) ?_
      refine lv_iadd hx hb dX5_many_41 ?_
      refine lv_istore_n (lv' := [(2, .int ((sumI (fun k => if v 8 k = h then 1 else 0) i) + (0 : Int32))), (6, .ref (ad g (24, 2, i))), (5, .int (nI i)), (4, .int (nI (nS v))), (3, .ref (ad g (28, 2, 0))), (0, .ref (ad g (20, 0, 0))), (1, .int (h))]) hx hb dX5_many_42 rfl hl (by decide) rfl (fun ls hl => ?_)
      refine lv_iinc (v := nI (i + 1)) (lv' := [(5, .int (nI (i + 1))), (2, .int ((sumI (fun k => if v 8 k = h then 1 else 0) i) + (0 : Int32))), (6, .ref (ad g (24, 2, i))), (4, .int (nI (nS v))), (3, .ref (ad g (28, 2, 0))), (0, .ref (ad g (20, 0, 0))), (1, .int (h))]) hx hb dX5_many_43 hl (k := 2) rfl (nI_1 _) (by decide) rfl (fun ls hl => ?_)
      refine lv_goto (tgt := 14) hx hb dX5_many_46 (by decide) ?_
      exact IH H locs ls (hP.castR (rfl)) hS (by show lv_has ls _ [(5, .int (nI (i + 1))), (4, .int (nI (nS v))), (3, .ref (ad g (28, 2, 0))), (2, .int (sumI (fun k => if v 8 k = h then 1 else 0) (i + 1))), (0, .ref (ad g (20, 0, 0))), (1, .int (h))]; rw [show sumI (fun k => if v 8 k = h then 1 else 0) (i + 1) = (sumI (fun k => if v 8 k = h then 1 else 0) i) + (0 : Int32) from by first | exact sum_t c1 | exact sum_f0 c1]; exact lv_sub hl [0, 3, 4, 1, 5, 6] rfl) (trivial)
    · refine lv_iconst (v := 1) hx hb dX5_many_36 (by decide) ?_
      refine lv_goto (tgt := 41) hx hb dX5_many_37 (by decide) ?_
      refine lv_iadd hx hb dX5_many_41 ?_
      refine lv_istore_n (lv' := [(2, .int ((sumI (fun k => if v 8 k = h then 1 else 0) i) + (1 : Int32))), (6, .ref (ad g (24, 2, i))), (5, .int (nI i)), (4, .int (nI (nS v))), (3, .ref (ad g (28, 2, 0))), (0, .ref (ad g (20, 0, 0))), (1, .int (h))]) hx hb dX5_many_42 rfl hl (by decide) rfl (fun ls hl => ?_)
      refine lv_iinc (v := nI (i + 1)) (lv' := [(5, .int (nI (i + 1))), (2, .int ((sumI (fun k => if v 8 k = h then 1 else 0) i) + (1 : Int32))), (6, .ref (ad g (24, 2, i))), (4, .int (nI (nS v))), (3, .ref (ad g (28, 2, 0))), (0, .ref (ad g (20, 0, 0))), (1, .int (h))]) hx hb dX5_many_43 hl (k := 2) rfl (nI_1 _) (by decide) rfl (fun ls hl => ?_)
      refine lv_goto (tgt := 14) hx hb dX5_many_46 (by decide) ?_
      exact IH H locs ls (hP.castR (rfl)) hS (by show lv_has ls _ [(5, .int (nI (i + 1))), (4, .int (nI (nS v))), (3, .ref (ad g (28, 2, 0))), (2, .int (sumI (fun k => if v 8 k = h then 1 else 0) (i + 1))), (0, .ref (ad g (20, 0, 0))), (1, .int (h))]; rw [show sumI (fun k => if v 8 k = h then 1 else 0) (i + 1) = (sumI (fun k => if v 8 k = h then 1 else 0) i) + (1 : Int32) from by first | exact sum_t c1 | exact sum_f0 c1]; exact lv_sub hl [0, 3, 4, 1, 5, 6] rfl) (trivial)
theorem ovr_1 {v : Vw} {h k : Nat} (c : ¬ v 8 k = nI h) : ovr v h k = false := by unfold ovr; rw [decide_eq_false c]; rfl
theorem ovr_2 {v : Vw} {h k : Nat} (c : ¬ v 6 k < v 9 k) : ovr v h k = false := by unfold ovr; rw [decide_eq_false c, Bool.and_false]
theorem ovr_t {v : Vw} {h k : Nat} (c1 : v 8 k = nI h) (c : v 6 k < v 9 k) : ovr v h k = true := by unfold ovr; rw [decide_eq_true c1, decide_eq_true c]; rfl
set_option maxHeartbeats 4000000 in
set_option maxRecDepth 100000 in
theorem c_isOverS (l : Launch) {g : Gm} (hI : IJ g (KK g)) {M : Mem} {o : Nat → Int64} {v : Vw} (hv : Inv v) (hL : SimL g v) (h : Nat) : MI l yX5_isOver cX5_isOver 6 .boolean (rm 0 0) g (KK g) (ent g (setR M 2 v) o) [.ref (ad g (20, 0, 0)), .int (nI h)] (b2i (anyB (ovr v h) (nS v))) (ent g (setR M 2 v) o) := by
  refine met_of (by decide +kernel) (Nat.le_of_ble_eq_true rfl) ?_
  intro p e s m below meth c ls hC hr_ hlk hnm hE hP hS hl
  obtain ⟨hx, hb, hml, hown, hG⟩ := id hC
  have hl : lv_has ls 6 [(0, .ref (ad g (20, 0, 0))), (1, .int (nI h))] := hl
  have qH := hv.lH
  have qS := hv.lS
  have qW := hv.lW
  refine lv_aload_n hx hb dX5_isOver_0 rfl (lv_at hl 0 rfl) ?_
  refine m_get hC hE hP (k_20 hL) e_20 rfl u_5 4 (by decide) w_657 rfl rfl dX5_isOver_1 ?_
  refine lv_astore_n (lv' := [(2, .ref (ad g (28, 2, 0))), (0, .ref (ad g (20, 0, 0))), (1, .int (nI h))]) hx hb dX5_isOver_4 rfl hl (by decide) rfl (fun ls hl => ?_)
  refine lv_aload_n hx hb dX5_isOver_5 rfl (lv_at hl 0 rfl) ?_
  refine m_alnA hC hE hP (k_28 hL) e_28 (congrArg nI Cn.rf.2.1) dX5_isOver_6 ?_
  refine lv_istore_n (lv' := [(3, .int (nI (nS v))), (2, .ref (ad g (28, 2, 0))), (0, .ref (ad g (20, 0, 0))), (1, .int (nI h))]) hx hb dX5_isOver_7 rfl hl (by decide) rfl (fun ls hl => ?_)
  refine lv_iconst (v := 0) hx hb dX5_isOver_8 (by decide) ?_
  refine lv_istore (lv' := [(4, .int ((0 : Int32))), (3, .int (nI (nS v))), (2, .ref (ad g (28, 2, 0))), (0, .ref (ad g (20, 0, 0))), (1, .int (nI h))]) hx hb dX5_isOver_9 hl (by decide) rfl (fun ls hl => ?_)
  refine lp_W (i0 := 0) (nS v) (fun i => ent g (setR M 2 v) o) (fun i => [(4, .int (nI i)), (3, .int (nI (nS v))), (2, .ref (ad g (28, 2, 0))), (0, .ref (ad g (20, 0, 0))), (1, .int (nI h))]) (fun i => ∀ j, j < i → ovr v h j = false) (Nat.zero_le _) (hP.castR (rfl)) hS (lv_sub hl [0, 1, 2, 3, 4] rfl) (fun j h => absurd h (Nat.not_lt_zero _)) (fun H locs ls hP hS hl J => ?_) (fun i hi IH H locs ls hP hS hl J => ?_)
  · refine lv_iload hx hb dX5_isOver_11 (lv_at hl 0 rfl) ?_
    refine lv_iload_n hx hb dX5_isOver_13 rfl (lv_at hl 1 rfl) ?_
    refine lv_icmp_ge (tgt := 50) hx hb dX5_isOver_14 (by decide) (fun c1 => ?_) (fun c1 => absurd (nI_le (Nat.le_refl _) (by omega)) c1)
    refine lv_iconst (v := 0) hx hb dX5_isOver_50 (by decide) ?_
    exact m_iret hC hr_ hlk hS (hP.castR (rfl)) (by first | rfl | exact nar_b _) ((congrArg b2i (anyB_no J)).symm) dX5_isOver_51
  · refine lv_iload hx hb dX5_isOver_11 (lv_at hl 0 rfl) ?_
    refine lv_iload_n hx hb dX5_isOver_13 rfl (lv_at hl 1 rfl) ?_
    refine lv_icmp_ge (tgt := 50) hx hb dX5_isOver_14 (by decide) (fun c2 => absurd c2 (nI_ge hi (by omega))) (fun c2 => ?_)
    refine lv_aload_n hx hb dX5_isOver_17 rfl (lv_at hl 2 rfl) ?_
    refine lv_iload hx hb dX5_isOver_18 (lv_at hl 0 rfl) ?_
    refine m_aalA hC hE hP (k_28 hL) e_28 i (rfl) (Cn.rf.lS (by omega)) (Cn.rf.bS (by omega)) dX5_isOver_20 ?_
    refine lv_astore (lv' := [(5, .ref (ad g (24, 2, i))), (4, .int (nI i)), (3, .int (nI (nS v))), (2, .ref (ad g (28, 2, 0))), (0, .ref (ad g (20, 0, 0))), (1, .int (nI h))]) hx hb dX5_isOver_21 hl (by decide) rfl (fun ls hl => ?_)
    refine lv_aload hx hb dX5_isOver_23 (lv_at hl 0 rfl) ?_
    refine lv_iconst (v := 2) hx hb dX5_isOver_25 (by decide) ?_
    refine m_iald hC hE hP (k_24 hL (by omega)) e_24 2 (rfl) (show 2 < 6 from by omega) (by decide) dX5_isOver_26 ?_
    refine m_top (y := v 8 i) rfl ?_
    refine lv_iload_n hx hb dX5_isOver_27 rfl (lv_at hl 5 rfl) ?_
    refine lv_icmp_ne (tgt := 44) hx hb dX5_isOver_28 (by decide) (fun c1 => ?_) (fun c1 => ?_)
    · refine lv_iinc (v := nI (i + 1)) (lv' := [(4, .int (nI (i + 1))), (5, .ref (ad g (24, 2, i))), (3, .int (nI (nS v))), (2, .ref (ad g (28, 2, 0))), (0, .ref (ad g (20, 0, 0))), (1, .int (nI h))]) hx hb dX5_isOver_44 hl (k := 1) rfl (nI_1 _) (by decide) rfl (fun ls hl => ?_)
      refine lv_goto (tgt := 11) hx hb dX5_isOver_47 (by decide) ?_
      exact IH H locs ls (hP.castR (rfl)) hS (lv_sub hl [0, 2, 3, 4, 5] rfl) (lt_s J (ovr_1 c1))
    · refine lv_aload hx hb dX5_isOver_31 (lv_at hl 0 rfl) ?_
      refine lv_iconst (v := 3) hx hb dX5_isOver_33 (by decide) ?_
      refine m_iald hC hE hP (k_24 hL (by omega)) e_24 3 (rfl) (show 3 < 6 from by omega) (by decide) dX5_isOver_34 ?_
      refine m_top (y := v 9 i) rfl ?_
      refine lv_aload hx hb dX5_isOver_35 (lv_at hl 0 rfl) ?_
      refine lv_iconst (v := 0) hx hb dX5_isOver_37 (by decide) ?_
      refine m_iald hC hE hP (k_24 hL (by omega)) e_24 0 (rfl) (show 0 < 6 from by omega) (by decide) dX5_isOver_38 ?_
      refine m_top (y := v 6 i) rfl ?_
      refine lv_icmp_le (tgt := 44) hx hb dX5_isOver_39 (by decide) (fun c2 => ?_) (fun c2 => ?_)
      · refine lv_iinc (v := nI (i + 1)) (lv' := [(4, .int (nI (i + 1))), (5, .ref (ad g (24, 2, i))), (3, .int (nI (nS v))), (2, .ref (ad g (28, 2, 0))), (0, .ref (ad g (20, 0, 0))), (1, .int (nI h))]) hx hb dX5_isOver_44 hl (k := 1) rfl (nI_1 _) (by decide) rfl (fun ls hl => ?_)
        refine lv_goto (tgt := 11) hx hb dX5_isOver_47 (by decide) ?_
        exact IH H locs ls (hP.castR (rfl)) hS (lv_sub hl [0, 2, 3, 4, 5] rfl) (lt_s J (ovr_2 (Int32.not_lt.mpr c2)))
      · refine lv_iconst (v := 1) hx hb dX5_isOver_42 (by decide) ?_
        exact m_iret hC hr_ hlk hS (hP.castR (rfl)) (by first | rfl | exact nar_b _) ((congrArg b2i (anyB_yes hi (ovr_t c1 (Int32.not_le.mp c2)))).symm) dX5_isOver_43
