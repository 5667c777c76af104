/-! class EelPermits: the calls that throw -/
theorem sr_25 : Cond.stringRef RX4 25 "no such cell" ∈ lw_tbl := List.mem_of_getElem? (i := 595) (by decide +kernel)
theorem sr_36 : Cond.stringRef RX4 36 "eels are 0 to 60, mud is 0 to 9" ∈ lw_tbl := List.mem_of_getElem? (i := 596) (by decide +kernel)
theorem sr_50 : Cond.stringRef RX4 50 "no such night in the table" ∈ lw_tbl := List.mem_of_getElem? (i := 602) (by decide +kernel)
theorem sr_52 : Cond.stringRef RX4 52 "frost is -20 to 20" ∈ lw_tbl := List.mem_of_getElem? (i := 603) (by decide +kernel)
theorem sr_67 : Cond.stringRef RX4 67 "the ice does not bear" ∈ lw_tbl := List.mem_of_getElem? (i := 618) (by decide +kernel)
theorem sr_73 : Cond.stringRef RX4 73 "an open hole is there" ∈ lw_tbl := List.mem_of_getElem? (i := 626) (by decide +kernel)
theorem sr_78 : Cond.stringRef RX4 78 "there are 12 holes" ∈ lw_tbl := List.mem_of_getElem? (i := 627) (by decide +kernel)
theorem sr_83 : Cond.stringRef RX4 83 "a permit is 0 to 30, light is 0 to 4" ∈ lw_tbl := List.mem_of_getElem? (i := 641) (by decide +kernel)
theorem sr_88 : Cond.stringRef RX4 88 "there are 8 spearers" ∈ lw_tbl := List.mem_of_getElem? (i := 642) (by decide +kernel)
theorem sr_96 : Cond.stringRef RX4 96 "no such spearer" ∈ lw_tbl := List.mem_of_getElem? (i := 507) (by decide +kernel)
theorem sr_101 : Cond.stringRef RX4 101 "no such hole" ∈ lw_tbl := List.mem_of_getElem? (i := 661) (by decide +kernel)
theorem sr_113 : Cond.stringRef RX4 113 "the hole is closed" ∈ lw_tbl := List.mem_of_getElem? (i := 662) (by decide +kernel)
theorem sr_124 : Cond.stringRef RX4 124 "a pace is 1 to 8" ∈ lw_tbl := List.mem_of_getElem? (i := 651) (by decide +kernel)
theorem sr_129 : Cond.stringRef RX4 129 "there are 3 wardens" ∈ lw_tbl := List.mem_of_getElem? (i := 652) (by decide +kernel)
theorem sr_135 : Cond.stringRef RX4 135 "no such cell, or nothing to tell of it" ∈ lw_tbl := List.mem_of_getElem? (i := 242) (by decide +kernel)
theorem sr_140 : Cond.stringRef RX4 140 "no such hole, or nothing to tell of it" ∈ lw_tbl := List.mem_of_getElem? (i := 299) (by decide +kernel)
theorem sr_145 : Cond.stringRef RX4 145 "no such spearer, or nothing to tell of this one" ∈ lw_tbl := List.mem_of_getElem? (i := 327) (by decide +kernel)
theorem sr_154 : Cond.stringRef RX4 154 "no such warden, or nothing to tell of this one" ∈ lw_tbl := List.mem_of_getElem? (i := 340) (by decide +kernel)
theorem sr_163 : Cond.stringRef RX4 163 "nothing to count" ∈ lw_tbl := List.mem_of_getElem? (i := 349) (by decide +kernel)
theorem sr_168 : Cond.stringRef RX4 168 "nights are 1 to 40" ∈ lw_tbl := List.mem_of_getElem? (i := 386) (by decide +kernel)
theorem sr_185 : Cond.stringRef RX4 185 "this is not foreseen" ∈ lw_tbl := List.mem_of_getElem? (i := 486) (by decide +kernel)
set_option maxHeartbeats 4000000 in
set_option maxRecDepth 100000 in
theorem c_setP_1 (l : Launch) (hl0 : l.stackTraces = false) {g : Gm} (hI : IJ g (KK g)) {M : Mem} {o : Nat → Int64} {v : Vw} (x y z q : Int32) (h1 : isCell x y = false) : MX l yX4_set cX4_set 7 .int (rmx 6 100) g (KK g) (ent g (setR M 0 v) o) [.ref (ad g (8, 0, 0)), .int (x), .int (y), .int (z), .int (q)] E_ix := by
  refine mx_of (by decide +kernel) (Nat.le_of_ble_eq_true rfl) ?_
  intro p e s m below meth c ls hC hr_ hlk htab hE hP hS hl
  obtain ⟨hx, hb, hml, hown, hG⟩ := id hC
  have hl : lv_has ls 7 [(0, .ref (ad g (8, 0, 0))), (1, .int (x)), (2, .int (y)), (3, .int (z)), (4, .int (q))] := hl
  refine lv_iload_n hx hb dX4_set_0 rfl (lv_at hl 1 rfl) ?_
  refine lv_iload_n hx hb dX4_set_1 rfl (lv_at hl 2 rfl) ?_
  refine on_i (run_S hC hE hP hS (As := [.int (x), .int (y)]) (c_isCell l x y) cal_X4_isCell w_169 ⟨Nat.le_of_ble_eq_true rfl, Nat.le_of_ble_eq_true rfl⟩ rfl rfl (Nat.le_of_ble_eq_true rfl) hl.1 ⟨Nat.le_of_ble_eq_true rfl, Nat.le_of_ble_eq_true rfl⟩ dX4_set_2) hS (fun H locs hP hS => ?_)
  refine lv_if_ne (tgt := 18) hx hb dX4_set_5 (by decide) (fun c1 => absurd (b2i_0 h1) c1) (fun c1 => ?_)
  exact m_throw hC hE hP hS hl0 hlk htab hl.1 (thr_ix sr_25) dX4_set_8 dX4_set_11 dX4_set_12 dX4_set_14 dX4_set_17 (Nat.le_of_ble_eq_true rfl) (Nat.le_of_ble_eq_true rfl) (Nat.le_of_ble_eq_true rfl) (Nat.le_of_ble_eq_true rfl)
set_option maxHeartbeats 4000000 in
set_option maxRecDepth 100000 in
theorem c_setP_2a (l : Launch) (hl0 : l.stackTraces = false) {g : Gm} (hI : IJ g (KK g)) {M : Mem} {o : Nat → Int64} {v : Vw} (x y z q : Int32) (h1 : isCell x y = true) (h2 : isIn z 0 60 = false) : MX l yX4_set cX4_set 7 .int (rmx 6 100) g (KK g) (ent g (setR M 0 v) o) [.ref (ad g (8, 0, 0)), .int (x), .int (y), .int (z), .int (q)] E_arg := by
  refine mx_of (by decide +kernel) (Nat.le_of_ble_eq_true rfl) ?_
  intro p e s m below meth c ls hC hr_ hlk htab hE hP hS hl
  obtain ⟨hx, hb, hml, hown, hG⟩ := id hC
  have hl : lv_has ls 7 [(0, .ref (ad g (8, 0, 0))), (1, .int (x)), (2, .int (y)), (3, .int (z)), (4, .int (q))] := hl
  refine lv_iload_n hx hb dX4_set_0 rfl (lv_at hl 1 rfl) ?_
  refine lv_iload_n hx hb dX4_set_1 rfl (lv_at hl 2 rfl) ?_
  refine on_i (run_S hC hE hP hS (As := [.int (x), .int (y)]) (c_isCell l x y) cal_X4_isCell w_169 ⟨Nat.le_of_ble_eq_true rfl, Nat.le_of_ble_eq_true rfl⟩ rfl rfl (Nat.le_of_ble_eq_true rfl) hl.1 ⟨Nat.le_of_ble_eq_true rfl, Nat.le_of_ble_eq_true rfl⟩ dX4_set_2) hS (fun H locs hP hS => ?_)
  refine lv_if_ne (tgt := 18) hx hb dX4_set_5 (by decide) (fun c1 => ?_) (fun c1 => absurd c1 (b2i_1 h1))
  refine lv_iload_n hx hb dX4_set_18 rfl (lv_at hl 3 rfl) ?_
  refine lv_iconst (v := 0) hx hb dX4_set_19 (by decide) ?_
  refine lv_bipush (v := 60) hx hb dX4_set_20 (by decide) ?_
  refine on_i (run_S hC hE hP hS (As := [.int (z), .int ((0 : Int32)), .int ((60 : Int32))]) (c_isWithin l z (0 : Int32) (60 : Int32)) cal_X4_isWithin w_172 ⟨Nat.le_of_ble_eq_true rfl, Nat.le_of_ble_eq_true rfl⟩ rfl rfl (Nat.le_of_ble_eq_true rfl) hl.1 ⟨Nat.le_of_ble_eq_true rfl, Nat.le_of_ble_eq_true rfl⟩ dX4_set_22) hS (fun H locs hP hS => ?_)
  refine lv_if_eq (tgt := 39) hx hb dX4_set_25 (by decide) (fun c2 => ?_) (fun c2 => absurd (b2i_0 h2) c2)
  exact m_throw hC hE hP hS hl0 hlk htab hl.1 (thr_arg sr_36) dX4_set_39 dX4_set_42 dX4_set_43 dX4_set_45 dX4_set_48 (Nat.le_of_ble_eq_true rfl) (Nat.le_of_ble_eq_true rfl) (Nat.le_of_ble_eq_true rfl) (Nat.le_of_ble_eq_true rfl)
set_option maxHeartbeats 4000000 in
set_option maxRecDepth 100000 in
theorem c_setP_2b (l : Launch) (hl0 : l.stackTraces = false) {g : Gm} (hI : IJ g (KK g)) {M : Mem} {o : Nat → Int64} {v : Vw} (x y z q : Int32) (h1 : isCell x y = true) (h2 : isIn z 0 60 = true) (h3 : isIn q 0 9 = false) : MX l yX4_set cX4_set 7 .int (rmx 6 100) g (KK g) (ent g (setR M 0 v) o) [.ref (ad g (8, 0, 0)), .int (x), .int (y), .int (z), .int (q)] E_arg := by
  refine mx_of (by decide +kernel) (Nat.le_of_ble_eq_true rfl) ?_
  intro p e s m below meth c ls hC hr_ hlk htab hE hP hS hl
  obtain ⟨hx, hb, hml, hown, hG⟩ := id hC
  have hl : lv_has ls 7 [(0, .ref (ad g (8, 0, 0))), (1, .int (x)), (2, .int (y)), (3, .int (z)), (4, .int (q))] := hl
  refine lv_iload_n hx hb dX4_set_0 rfl (lv_at hl 1 rfl) ?_
  refine lv_iload_n hx hb dX4_set_1 rfl (lv_at hl 2 rfl) ?_
  refine on_i (run_S hC hE hP hS (As := [.int (x), .int (y)]) (c_isCell l x y) cal_X4_isCell w_169 ⟨Nat.le_of_ble_eq_true rfl, Nat.le_of_ble_eq_true rfl⟩ rfl rfl (Nat.le_of_ble_eq_true rfl) hl.1 ⟨Nat.le_of_ble_eq_true rfl, Nat.le_of_ble_eq_true rfl⟩ dX4_set_2) hS (fun H locs hP hS => ?_)
  refine lv_if_ne (tgt := 18) hx hb dX4_set_5 (by decide) (fun c1 => ?_) (fun c1 => absurd c1 (b2i_1 h1))
  refine lv_iload_n hx hb dX4_set_18 rfl (lv_at hl 3 rfl) ?_
  refine lv_iconst (v := 0) hx hb dX4_set_19 (by decide) ?_
  refine lv_bipush (v := 60) hx hb dX4_set_20 (by decide) ?_
  refine on_i (run_S hC hE hP hS (As := [.int (z), .int ((0 : Int32)), .int ((60 : Int32))]) (c_isWithin l z (0 : Int32) (60 : Int32)) cal_X4_isWithin w_172 ⟨Nat.le_of_ble_eq_true rfl, Nat.le_of_ble_eq_true rfl⟩ rfl rfl (Nat.le_of_ble_eq_true rfl) hl.1 ⟨Nat.le_of_ble_eq_true rfl, Nat.le_of_ble_eq_true rfl⟩ dX4_set_22) hS (fun H locs hP hS => ?_)
  refine lv_if_eq (tgt := 39) hx hb dX4_set_25 (by decide) (fun c2 => absurd c2 (b2i_1 h2)) (fun c2 => ?_)
  refine lv_iload hx hb dX4_set_28 (lv_at hl 4 rfl) ?_
  refine lv_iconst (v := 0) hx hb dX4_set_30 (by decide) ?_
  refine lv_bipush (v := 9) hx hb dX4_set_31 (by decide) ?_
  refine on_i (run_S hC hE hP hS (As := [.int (q), .int ((0 : Int32)), .int ((9 : Int32))]) (c_isWithin l q (0 : Int32) (9 : Int32)) cal_X4_isWithin w_172 ⟨Nat.le_of_ble_eq_true rfl, Nat.le_of_ble_eq_true rfl⟩ rfl rfl (Nat.le_of_ble_eq_true rfl) hl.1 ⟨Nat.le_of_ble_eq_true rfl, Nat.le_of_ble_eq_true rfl⟩ dX4_set_33) hS (fun H locs hP hS => ?_)
  refine lv_if_ne (tgt := 49) hx hb dX4_set_36 (by decide) (fun c3 => absurd (b2i_0 h3) c3) (fun c3 => ?_)
  exact m_throw hC hE hP hS hl0 hlk htab hl.1 (thr_arg sr_36) dX4_set_39 dX4_set_42 dX4_set_43 dX4_set_45 dX4_set_48 (Nat.le_of_ble_eq_true rfl) (Nat.le_of_ble_eq_true rfl) (Nat.le_of_ble_eq_true rfl) (Nat.le_of_ble_eq_true rfl)
set_option maxHeartbeats 4000000 in
set_option maxRecDepth 100000 in
theorem c_setFrostP_1 (l : Launch) (hl0 : l.stackTraces = false) {g : Gm} (hI : IJ g (KK g)) {M : Mem} {o : Nat → Int64} {v : Vw} (n q : Int32) (h1 : isIn n 0 6 = false) : MX l yX4_setFrost cX4_setFrost 4 .int (rmx 6 100) g (KK g) (ent g (setR M 0 v) o) [.ref (ad g (8, 0, 0)), .int (n), .int (q)] E_ix := by
  refine mx_of (by decide +kernel) (Nat.le_of_ble_eq_true rfl) ?_
  intro p e s m below meth c ls hC hr_ hlk htab hE hP hS hl
  obtain ⟨hx, hb, hml, hown, hG⟩ := id hC
  have hl : lv_has ls 4 [(0, .ref (ad g (8, 0, 0))), (1, .int (n)), (2, .int (q))] := hl
  refine lv_iload_n hx hb dX4_setFrost_0 rfl (lv_at hl 1 rfl) ?_
  refine lv_iconst (v := 0) hx hb dX4_setFrost_1 (by decide) ?_
  refine lv_bipush (v := 6) hx hb dX4_setFrost_2 (by decide) ?_
  refine on_i (run_S hC hE hP hS (As := [.int (n), .int ((0 : Int32)), .int ((6 : Int32))]) (c_isWithin l n (0 : Int32) (6 : Int32)) cal_X4_isWithin w_172 ⟨Nat.le_of_ble_eq_true rfl, Nat.le_of_ble_eq_true rfl⟩ rfl rfl (Nat.le_of_ble_eq_true rfl) hl.1 ⟨Nat.le_of_ble_eq_true rfl, Nat.le_of_ble_eq_true rfl⟩ dX4_setFrost_4) hS (fun H locs hP hS => ?_)
  refine lv_if_ne (tgt := 20) hx hb dX4_setFrost_7 (by decide) (fun c1 => absurd (b2i_0 h1) c1) (fun c1 => ?_)
  exact m_throw hC hE hP hS hl0 hlk htab hl.1 (thr_ix sr_50) dX4_setFrost_10 dX4_setFrost_13 dX4_setFrost_14 dX4_setFrost_16 dX4_setFrost_19 (Nat.le_of_ble_eq_true rfl) (Nat.le_of_ble_eq_true rfl) (Nat.le_of_ble_eq_true rfl) (Nat.le_of_ble_eq_true rfl)
set_option maxHeartbeats 4000000 in
set_option maxRecDepth 100000 in
theorem c_setFrostP_2 (l : Launch) (hl0 : l.stackTraces = false) {g : Gm} (hI : IJ g (KK g)) {M : Mem} {o : Nat → Int64} {v : Vw} (n q : Int32) (h1 : isIn n 0 6 = true) (h2 : isIn q (-20) 20 = false) : MX l yX4_setFrost cX4_setFrost 4 .int (rmx 6 100) g (KK g) (ent g (setR M 0 v) o) [.ref (ad g (8, 0, 0)), .int (n), .int (q)] E_arg := by
  refine mx_of (by decide +kernel) (Nat.le_of_ble_eq_true rfl) ?_
  intro p e s m below meth c ls hC hr_ hlk htab hE hP hS hl
  obtain ⟨hx, hb, hml, hown, hG⟩ := id hC
  have hl : lv_has ls 4 [(0, .ref (ad g (8, 0, 0))), (1, .int (n)), (2, .int (q))] := hl
  refine lv_iload_n hx hb dX4_setFrost_0 rfl (lv_at hl 1 rfl) ?_
  refine lv_iconst (v := 0) hx hb dX4_setFrost_1 (by decide) ?_
  refine lv_bipush (v := 6) hx hb dX4_setFrost_2 (by decide) ?_
  refine on_i (run_S hC hE hP hS (As := [.int (n), .int ((0 : Int32)), .int ((6 : Int32))]) (c_isWithin l n (0 : Int32) (6 : Int32)) cal_X4_isWithin w_172 ⟨Nat.le_of_ble_eq_true rfl, Nat.le_of_ble_eq_true rfl⟩ rfl rfl (Nat.le_of_ble_eq_true rfl) hl.1 ⟨Nat.le_of_ble_eq_true rfl, Nat.le_of_ble_eq_true rfl⟩ dX4_setFrost_4) hS (fun H locs hP hS => ?_)
  refine lv_if_ne (tgt := 20) hx hb dX4_setFrost_7 (by decide) (fun c1 => ?_) (fun c1 => absurd c1 (b2i_1 h1))
  refine lv_iload_n hx hb dX4_setFrost_20 rfl (lv_at hl 2 rfl) ?_
  refine lv_bipush (v := (-20)) hx hb dX4_setFrost_21 (by decide) ?_
  refine lv_bipush (v := 20) hx hb dX4_setFrost_23 (by decide) ?_
  refine on_i (run_S hC hE hP hS (As := [.int (q), .int ((-20 : Int32)), .int ((20 : Int32))]) (c_isWithin l q (-20 : Int32) (20 : Int32)) cal_X4_isWithin w_172 ⟨Nat.le_of_ble_eq_true rfl, Nat.le_of_ble_eq_true rfl⟩ rfl rfl (Nat.le_of_ble_eq_true rfl) hl.1 ⟨Nat.le_of_ble_eq_true rfl, Nat.le_of_ble_eq_true rfl⟩ dX4_setFrost_25) hS (fun H locs hP hS => ?_)
  refine lv_if_ne (tgt := 41) hx hb dX4_setFrost_28 (by decide) (fun c2 => absurd (b2i_0 h2) c2) (fun c2 => ?_)
  exact m_throw hC hE hP hS hl0 hlk htab hl.1 (thr_arg sr_52) dX4_setFrost_31 dX4_setFrost_34 dX4_setFrost_35 dX4_setFrost_37 dX4_setFrost_40 (Nat.le_of_ble_eq_true rfl) (Nat.le_of_ble_eq_true rfl) (Nat.le_of_ble_eq_true rfl) (Nat.le_of_ble_eq_true rfl)
set_option maxHeartbeats 4000000 in
set_option maxRecDepth 100000 in
theorem c_cutP_1 (l : Launch) (hl0 : l.stackTraces = false) {g : Gm} (hI : IJ g (KK g)) {M : Mem} {o : Nat → Int64} {v : Vw} (x y : Int32) (h1 : isCell x y = false) : MX l yX4_cut cX4_cut 3 .int (rmx 6 100) g (KK g) (ent g (setR M 0 v) o) [.ref (ad g (8, 0, 0)), .int (x), .int (y)] E_ix := by
  refine mx_of (by decide +kernel) (Nat.le_of_ble_eq_true rfl) ?_
  intro p e s m below meth c ls hC hr_ hlk htab hE hP hS hl
  obtain ⟨hx, hb, hml, hown, hG⟩ := id hC
  have hl : lv_has ls 3 [(0, .ref (ad g (8, 0, 0))), (1, .int (x)), (2, .int (y))] := hl
  refine lv_iload_n hx hb dX4_cut_0 rfl (lv_at hl 1 rfl) ?_
  refine lv_iload_n hx hb dX4_cut_1 rfl (lv_at hl 2 rfl) ?_
  refine on_i (run_S hC hE hP hS (As := [.int (x), .int (y)]) (c_isCell l x y) cal_X4_isCell w_169 ⟨Nat.le_of_ble_eq_true rfl, Nat.le_of_ble_eq_true rfl⟩ rfl rfl (Nat.le_of_ble_eq_true rfl) hl.1 ⟨Nat.le_of_ble_eq_true rfl, Nat.le_of_ble_eq_true rfl⟩ dX4_cut_2) hS (fun H locs hP hS => ?_)
  refine lv_if_ne (tgt := 18) hx hb dX4_cut_5 (by decide) (fun c1 => absurd (b2i_0 h1) c1) (fun c1 => ?_)
  exact m_throw hC hE hP hS hl0 hlk htab hl.1 (thr_ix sr_25) dX4_cut_8 dX4_cut_11 dX4_cut_12 dX4_cut_14 dX4_cut_17 (Nat.le_of_ble_eq_true rfl) (Nat.le_of_ble_eq_true rfl) (Nat.le_of_ble_eq_true rfl) (Nat.le_of_ble_eq_true rfl)
set_option maxHeartbeats 4000000 in
set_option maxRecDepth 100000 in
theorem c_cutP_2a (l : Launch) (hl0 : l.stackTraces = false) {g : Gm} (hI : IJ g (KK g)) {M : Mem} {o : Nat → Int64} {v : Vw} (x y : Int32) (h1 : isCell x y = true) (h2 : v 16 3 < 5) : MX l yX4_cut cX4_cut 3 .int (rmx 6 100) g (KK g) (ent g (setR M 0 v) o) [.ref (ad g (8, 0, 0)), .int (x), .int (y)] E_st := by
  refine mx_of (by decide +kernel) (Nat.le_of_ble_eq_true rfl) ?_
  intro p e s m below meth c ls hC hr_ hlk htab hE hP hS hl
  obtain ⟨hx, hb, hml, hown, hG⟩ := id hC
  have hl : lv_has ls 3 [(0, .ref (ad g (8, 0, 0))), (1, .int (x)), (2, .int (y))] := hl
  refine lv_iload_n hx hb dX4_cut_0 rfl (lv_at hl 1 rfl) ?_
  refine lv_iload_n hx hb dX4_cut_1 rfl (lv_at hl 2 rfl) ?_
  refine on_i (run_S hC hE hP hS (As := [.int (x), .int (y)]) (c_isCell l x y) cal_X4_isCell w_169 ⟨Nat.le_of_ble_eq_true rfl, Nat.le_of_ble_eq_true rfl⟩ rfl rfl (Nat.le_of_ble_eq_true rfl) hl.1 ⟨Nat.le_of_ble_eq_true rfl, Nat.le_of_ble_eq_true rfl⟩ dX4_cut_2) hS (fun H locs hP hS => ?_)
  refine lv_if_ne (tgt := 18) hx hb dX4_cut_5 (by decide) (fun c1 => ?_) (fun c1 => absurd c1 (b2i_1 h1))
  refine lv_aload_n hx hb dX4_cut_18 rfl (lv_at hl 0 rfl) ?_
  refine m_get hC hE hP k_8 f_8 rfl u_4 0 (by decide) w_158 rfl rfl dX4_cut_19 ?_
  refine m_get hC hE hP (k_3 (by decide)) e_3 rfl u_1 9 (by decide) w_132 rfl rfl dX4_cut_22 ?_
  refine on_i (run_S hC hE hP hS (As := [.int (v 16 3)]) (c_iceBears l (v 16 3)) cal_X4_iceBears w_450 ⟨Nat.le_of_ble_eq_true rfl, Nat.le_of_ble_eq_true rfl⟩ rfl rfl (Nat.le_of_ble_eq_true rfl) hl.1 ⟨Nat.le_of_ble_eq_true rfl, Nat.le_of_ble_eq_true rfl⟩ dX4_cut_25) hS (fun H locs hP hS => ?_)
  refine lv_if_ne (tgt := 41) hx hb dX4_cut_28 (by decide) (fun c2 => absurd (b2i_0 (bearx_f h2)) c2) (fun c2 => ?_)
  exact m_throw hC hE hP hS hl0 hlk htab hl.1 (thr_st sr_67) dX4_cut_31 dX4_cut_34 dX4_cut_35 dX4_cut_37 dX4_cut_40 (Nat.le_of_ble_eq_true rfl) (Nat.le_of_ble_eq_true rfl) (Nat.le_of_ble_eq_true rfl) (Nat.le_of_ble_eq_true rfl)
set_option maxHeartbeats 4000000 in
set_option maxRecDepth 100000 in
theorem c_cutP_2b (l : Launch) (hl0 : l.stackTraces = false) {g : Gm} (hI : IJ g (KK g)) {M : Mem} {o : Nat → Int64} {v : Vw} (hv : Inv v) (x y : Int32) (h1 : isCell x y = true) (h2 : ¬ v 16 3 < 5) (h3 : ¬ openIn v x y = -1) : MX l yX4_cut cX4_cut 3 .int (rmx 6 100) g (KK g) (ent g (setR M 0 v) o) [.ref (ad g (8, 0, 0)), .int (x), .int (y)] E_st := by
  refine mx_of (by decide +kernel) (Nat.le_of_ble_eq_true rfl) ?_
  intro p e s m below meth c ls hC hr_ hlk htab hE hP hS hl
  obtain ⟨hx, hb, hml, hown, hG⟩ := id hC
  have hl : lv_has ls 3 [(0, .ref (ad g (8, 0, 0))), (1, .int (x)), (2, .int (y))] := hl
  have qH := hv.lH
  have qS := hv.lS
  have qW := hv.lW
  refine lv_iload_n hx hb dX4_cut_0 rfl (lv_at hl 1 rfl) ?_
  refine lv_iload_n hx hb dX4_cut_1 rfl (lv_at hl 2 rfl) ?_
  refine on_i (run_S hC hE hP hS (As := [.int (x), .int (y)]) (c_isCell l x y) cal_X4_isCell w_169 ⟨Nat.le_of_ble_eq_true rfl, Nat.le_of_ble_eq_true rfl⟩ rfl rfl (Nat.le_of_ble_eq_true rfl) hl.1 ⟨Nat.le_of_ble_eq_true rfl, Nat.le_of_ble_eq_true rfl⟩ dX4_cut_2) hS (fun H locs hP hS => ?_)
  refine lv_if_ne (tgt := 18) hx hb dX4_cut_5 (by decide) (fun c1 => ?_) (fun c1 => absurd c1 (b2i_1 h1))
  refine lv_aload_n hx hb dX4_cut_18 rfl (lv_at hl 0 rfl) ?_
  refine m_get hC hE hP k_8 f_8 rfl u_4 0 (by decide) w_158 rfl rfl dX4_cut_19 ?_
  refine m_get hC hE hP (k_3 (by decide)) e_3 rfl u_1 9 (by decide) w_132 rfl rfl dX4_cut_22 ?_
  refine on_i (run_S hC hE hP hS (As := [.int (v 16 3)]) (c_iceBears l (v 16 3)) cal_X4_iceBears w_450 ⟨Nat.le_of_ble_eq_true rfl, Nat.le_of_ble_eq_true rfl⟩ rfl rfl (Nat.le_of_ble_eq_true rfl) hl.1 ⟨Nat.le_of_ble_eq_true rfl, Nat.le_of_ble_eq_true rfl⟩ dX4_cut_25) hS (fun H locs hP hS => ?_)
  refine lv_if_ne (tgt := 41) hx hb dX4_cut_28 (by decide) (fun c2 => ?_) (fun c2 => absurd c2 (b2i_1 (bearx_t h2)))
  refine lv_aload_n hx hb dX4_cut_41 rfl (lv_at hl 0 rfl) ?_
  refine m_get hC hE hP k_8 f_8 rfl u_4 0 (by decide) w_158 rfl rfl dX4_cut_42 ?_
  refine lv_iload_n hx hb dX4_cut_45 rfl (lv_at hl 1 rfl) ?_
  refine lv_iload_n hx hb dX4_cut_46 rfl (lv_at hl 2 rfl) ?_
  refine on_i (run_V hC hE hP hS (As := [.int (x), .int (y)]) (c_openHoleIn l hI (by decide) hv x y) cal_X1_openHoleIn w_599 ⟨Nat.le_of_ble_eq_true rfl, Nat.le_of_ble_eq_true rfl⟩ (k_3 (by decide)) e_3 rfl rfl rfl (Nat.le_of_ble_eq_true rfl) hl.1 ⟨Nat.le_of_ble_eq_true rfl, Nat.le_of_ble_eq_true rfl⟩ dX4_cut_47) hS (fun H locs hP hS => ?_)
  refine lv_iconst (v := (-1)) hx hb dX4_cut_50 (by decide) ?_
  refine lv_icmp_eq (tgt := 64) hx hb dX4_cut_51 (by decide) (fun c3 => absurd c3 (h3)) (fun c3 => ?_)
  exact m_throw hC hE hP hS hl0 hlk htab hl.1 (thr_st sr_73) dX4_cut_54 dX4_cut_57 dX4_cut_58 dX4_cut_60 dX4_cut_63 (Nat.le_of_ble_eq_true rfl) (Nat.le_of_ble_eq_true rfl) (Nat.le_of_ble_eq_true rfl) (Nat.le_of_ble_eq_true rfl)
set_option maxHeartbeats 4000000 in
set_option maxRecDepth 100000 in
theorem c_cutP_2c (l : Launch) (hl0 : l.stackTraces = false) {g : Gm} (hI : IJ g (KK g)) {M : Mem} {o : Nat → Int64} {v : Vw} (hv : Inv v) (x y : Int32) (h1 : isCell x y = true) (h2 : ¬ v 16 3 < 5) (h3 : openIn v x y = -1) (h4 : nH v = 12) : MX l yX4_cut cX4_cut 3 .int (rmx 6 100) g (KK g) (ent g (setR M 0 v) o) [.ref (ad g (8, 0, 0)), .int (x), .int (y)] E_st := by
  refine mx_of (by decide +kernel) (Nat.le_of_ble_eq_true rfl) ?_
  intro p e s m below meth c ls hC hr_ hlk htab hE hP hS hl
  obtain ⟨hx, hb, hml, hown, hG⟩ := id hC
  have hl : lv_has ls 3 [(0, .ref (ad g (8, 0, 0))), (1, .int (x)), (2, .int (y))] := hl
  have qH := hv.lH
  have qS := hv.lS
  have qW := hv.lW
  refine lv_iload_n hx hb dX4_cut_0 rfl (lv_at hl 1 rfl) ?_
  refine lv_iload_n hx hb dX4_cut_1 rfl (lv_at hl 2 rfl) ?_
  refine on_i (run_S hC hE hP hS (As := [.int (x), .int (y)]) (c_isCell l x y) cal_X4_isCell w_169 ⟨Nat.le_of_ble_eq_true rfl, Nat.le_of_ble_eq_true rfl⟩ rfl rfl (Nat.le_of_ble_eq_true rfl) hl.1 ⟨Nat.le_of_ble_eq_true rfl, Nat.le_of_ble_eq_true rfl⟩ dX4_cut_2) hS (fun H locs hP hS => ?_)
  refine lv_if_ne (tgt := 18) hx hb dX4_cut_5 (by decide) (fun c1 => ?_) (fun c1 => absurd c1 (b2i_1 h1))
  refine lv_aload_n hx hb dX4_cut_18 rfl (lv_at hl 0 rfl) ?_
  refine m_get hC hE hP k_8 f_8 rfl u_4 0 (by decide) w_158 rfl rfl dX4_cut_19 ?_
  refine m_get hC hE hP (k_3 (by decide)) e_3 rfl u_1 9 (by decide) w_132 rfl rfl dX4_cut_22 ?_
  refine on_i (run_S hC hE hP hS (As := [.int (v 16 3)]) (c_iceBears l (v 16 3)) cal_X4_iceBears w_450 ⟨Nat.le_of_ble_eq_true rfl, Nat.le_of_ble_eq_true rfl⟩ rfl rfl (Nat.le_of_ble_eq_true rfl) hl.1 ⟨Nat.le_of_ble_eq_true rfl, Nat.le_of_ble_eq_true rfl⟩ dX4_cut_25) hS (fun H locs hP hS => ?_)
  refine lv_if_ne (tgt := 41) hx hb dX4_cut_28 (by decide) (fun c2 => ?_) (fun c2 => absurd c2 (b2i_1 (bearx_t h2)))
  refine lv_aload_n hx hb dX4_cut_41 rfl (lv_at hl 0 rfl) ?_
  refine m_get hC hE hP k_8 f_8 rfl u_4 0 (by decide) w_158 rfl rfl dX4_cut_42 ?_
  refine lv_iload_n hx hb dX4_cut_45 rfl (lv_at hl 1 rfl) ?_
  refine lv_iload_n hx hb dX4_cut_46 rfl (lv_at hl 2 rfl) ?_
  refine on_i (run_V hC hE hP hS (As := [.int (x), .int (y)]) (c_openHoleIn l hI (by decide) hv x y) cal_X1_openHoleIn w_599 ⟨Nat.le_of_ble_eq_true rfl, Nat.le_of_ble_eq_true rfl⟩ (k_3 (by decide)) e_3 rfl rfl rfl (Nat.le_of_ble_eq_true rfl) hl.1 ⟨Nat.le_of_ble_eq_true rfl, Nat.le_of_ble_eq_true rfl⟩ dX4_cut_47) hS (fun H locs hP hS => ?_)
  refine lv_iconst (v := (-1)) hx hb dX4_cut_50 (by decide) ?_
  refine lv_icmp_eq (tgt := 64) hx hb dX4_cut_51 (by decide) (fun c3 => ?_) (fun c3 => absurd (h3) c3)
  refine lv_aload_n hx hb dX4_cut_64 rfl (lv_at hl 0 rfl) ?_
  refine m_get hC hE hP k_8 f_8 rfl u_4 0 (by decide) w_158 rfl rfl dX4_cut_65 ?_
  refine m_get hC hE hP (k_3 (by decide)) e_3 rfl u_1 6 (by decide) w_126 rfl rfl dX4_cut_68 ?_
  refine m_top (y := nI (nH v)) (hv.eH) ?_
  refine lv_bipush (v := 12) hx hb dX4_cut_71 (by decide) ?_
  refine lv_icmp_lt (tgt := 86) hx hb dX4_cut_73 (by decide) (fun c4 => absurd c4 (by rw [h4]; decide)) (fun c4 => ?_)
  exact m_throw hC hE hP hS hl0 hlk htab hl.1 (thr_st sr_78) dX4_cut_76 dX4_cut_79 dX4_cut_80 dX4_cut_82 dX4_cut_85 (Nat.le_of_ble_eq_true rfl) (Nat.le_of_ble_eq_true rfl) (Nat.le_of_ble_eq_true rfl) (Nat.le_of_ble_eq_true rfl)
set_option maxHeartbeats 4000000 in
set_option maxRecDepth 100000 in
theorem c_licenseP_1a (l : Launch) (hl0 : l.stackTraces = false) {g : Gm} (hI : IJ g (KK g)) {M : Mem} {o : Nat → Int64} {v : Vw} (a q : Int32) (h1 : isIn a 0 30 = false) : MX l yX4_license cX4_license 3 .int (rmx 6 100) g (KK g) (ent g (setR M 0 v) o) [.ref (ad g (8, 0, 0)), .int (a), .int (q)] E_arg := by
  refine mx_of (by decide +kernel) (Nat.le_of_ble_eq_true rfl) ?_
  intro p e s m below meth c ls hC hr_ hlk htab hE hP hS hl
  obtain ⟨hx, hb, hml, hown, hG⟩ := id hC
  have hl : lv_has ls 3 [(0, .ref (ad g (8, 0, 0))), (1, .int (a)), (2, .int (q))] := hl
  refine lv_iload_n hx hb dX4_license_0 rfl (lv_at hl 1 rfl) ?_
  refine lv_iconst (v := 0) hx hb dX4_license_1 (by decide) ?_
  refine lv_bipush (v := 30) hx hb dX4_license_2 (by decide) ?_
  refine on_i (run_S hC hE hP hS (As := [.int (a), .int ((0 : Int32)), .int ((30 : Int32))]) (c_isWithin l a (0 : Int32) (30 : Int32)) cal_X4_isWithin w_172 ⟨Nat.le_of_ble_eq_true rfl, Nat.le_of_ble_eq_true rfl⟩ rfl rfl (Nat.le_of_ble_eq_true rfl) hl.1 ⟨Nat.le_of_ble_eq_true rfl, Nat.le_of_ble_eq_true rfl⟩ dX4_license_4) hS (fun H locs hP hS => ?_)
  refine lv_if_eq (tgt := 19) hx hb dX4_license_7 (by decide) (fun c1 => ?_) (fun c1 => absurd (b2i_0 h1) c1)
  exact m_throw hC hE hP hS hl0 hlk htab hl.1 (thr_arg sr_83) dX4_license_19 dX4_license_22 dX4_license_23 dX4_license_25 dX4_license_28 (Nat.le_of_ble_eq_true rfl) (Nat.le_of_ble_eq_true rfl) (Nat.le_of_ble_eq_true rfl) (Nat.le_of_ble_eq_true rfl)
set_option maxHeartbeats 4000000 in
set_option maxRecDepth 100000 in
theorem c_licenseP_1b (l : Launch) (hl0 : l.stackTraces = false) {g : Gm} (hI : IJ g (KK g)) {M : Mem} {o : Nat → Int64} {v : Vw} (a q : Int32) (h1 : isIn a 0 30 = true) (h2 : isIn q 0 4 = false) : MX l yX4_license cX4_license 3 .int (rmx 6 100) g (KK g) (ent g (setR M 0 v) o) [.ref (ad g (8, 0, 0)), .int (a), .int (q)] E_arg := by
  refine mx_of (by decide +kernel) (Nat.le_of_ble_eq_true rfl) ?_
  intro p e s m below meth c ls hC hr_ hlk htab hE hP hS hl
  obtain ⟨hx, hb, hml, hown, hG⟩ := id hC
  have hl : lv_has ls 3 [(0, .ref (ad g (8, 0, 0))), (1, .int (a)), (2, .int (q))] := hl
  refine lv_iload_n hx hb dX4_license_0 rfl (lv_at hl 1 rfl) ?_
  refine lv_iconst (v := 0) hx hb dX4_license_1 (by decide) ?_
  refine lv_bipush (v := 30) hx hb dX4_license_2 (by decide) ?_
  refine on_i (run_S hC hE hP hS (As := [.int (a), .int ((0 : Int32)), .int ((30 : Int32))]) (c_isWithin l a (0 : Int32) (30 : Int32)) cal_X4_isWithin w_172 ⟨Nat.le_of_ble_eq_true rfl, Nat.le_of_ble_eq_true rfl⟩ rfl rfl (Nat.le_of_ble_eq_true rfl) hl.1 ⟨Nat.le_of_ble_eq_true rfl, Nat.le_of_ble_eq_true rfl⟩ dX4_license_4) hS (fun H locs hP hS => ?_)
  refine lv_if_eq (tgt := 19) hx hb dX4_license_7 (by decide) (fun c1 => absurd c1 (b2i_1 h1)) (fun c1 => ?_)
  refine lv_iload_n hx hb dX4_license_10 rfl (lv_at hl 2 rfl) ?_
  refine lv_iconst (v := 0) hx hb dX4_license_11 (by decide) ?_
  refine lv_iconst (v := 4) hx hb dX4_license_12 (by decide) ?_
  refine on_i (run_S hC hE hP hS (As := [.int (q), .int ((0 : Int32)), .int ((4 : Int32))]) (c_isWithin l q (0 : Int32) (4 : Int32)) cal_X4_isWithin w_172 ⟨Nat.le_of_ble_eq_true rfl, Nat.le_of_ble_eq_true rfl⟩ rfl rfl (Nat.le_of_ble_eq_true rfl) hl.1 ⟨Nat.le_of_ble_eq_true rfl, Nat.le_of_ble_eq_true rfl⟩ dX4_license_13) hS (fun H locs hP hS => ?_)
  refine lv_if_ne (tgt := 29) hx hb dX4_license_16 (by decide) (fun c2 => absurd (b2i_0 h2) c2) (fun c2 => ?_)
  exact m_throw hC hE hP hS hl0 hlk htab hl.1 (thr_arg sr_83) dX4_license_19 dX4_license_22 dX4_license_23 dX4_license_25 dX4_license_28 (Nat.le_of_ble_eq_true rfl) (Nat.le_of_ble_eq_true rfl) (Nat.le_of_ble_eq_true rfl) (Nat.le_of_ble_eq_true rfl)
set_option maxHeartbeats 4000000 in
set_option maxRecDepth 100000 in
theorem c_licenseP_2 (l : Launch) (hl0 : l.stackTraces = false) {g : Gm} (hI : IJ g (KK g)) {M : Mem} {o : Nat → Int64} {v : Vw} (hv : Inv v) (a q : Int32) (h1 : isIn a 0 30 = true) (h2 : isIn q 0 4 = true) (h3 : nS v = 8) : MX l yX4_license cX4_license 3 .int (rmx 6 100) g (KK g) (ent g (setR M 0 v) o) [.ref (ad g (8, 0, 0)), .int (a), .int (q)] E_st := by
  refine mx_of (by decide +kernel) (Nat.le_of_ble_eq_true rfl) ?_
  intro p e s m below meth c ls hC hr_ hlk htab hE hP hS hl
  obtain ⟨hx, hb, hml, hown, hG⟩ := id hC
  have hl : lv_has ls 3 [(0, .ref (ad g (8, 0, 0))), (1, .int (a)), (2, .int (q))] := hl
  have qH := hv.lH
  have qS := hv.lS
  have qW := hv.lW
  refine lv_iload_n hx hb dX4_license_0 rfl (lv_at hl 1 rfl) ?_
  refine lv_iconst (v := 0) hx hb dX4_license_1 (by decide) ?_
  refine lv_bipush (v := 30) hx hb dX4_license_2 (by decide) ?_
  refine on_i (run_S hC hE hP hS (As := [.int (a), .int ((0 : Int32)), .int ((30 : Int32))]) (c_isWithin l a (0 : Int32) (30 : Int32)) cal_X4_isWithin w_172 ⟨Nat.le_of_ble_eq_true rfl, Nat.le_of_ble_eq_true rfl⟩ rfl rfl (Nat.le_of_ble_eq_true rfl) hl.1 ⟨Nat.le_of_ble_eq_true rfl, Nat.le_of_ble_eq_true rfl⟩ dX4_license_4) hS (fun H locs hP hS => ?_)
  refine lv_if_eq (tgt := 19) hx hb dX4_license_7 (by decide) (fun c1 => absurd c1 (b2i_1 h1)) (fun c1 => ?_)
  refine lv_iload_n hx hb dX4_license_10 rfl (lv_at hl 2 rfl) ?_
  refine lv_iconst (v := 0) hx hb dX4_license_11 (by decide) ?_
  refine lv_iconst (v := 4) hx hb dX4_license_12 (by decide) ?_
  refine on_i (run_S hC hE hP hS (As := [.int (q), .int ((0 : Int32)), .int ((4 : Int32))]) (c_isWithin l q (0 : Int32) (4 : Int32)) cal_X4_isWithin w_172 ⟨Nat.le_of_ble_eq_true rfl, Nat.le_of_ble_eq_true rfl⟩ rfl rfl (Nat.le_of_ble_eq_true rfl) hl.1 ⟨Nat.le_of_ble_eq_true rfl, Nat.le_of_ble_eq_true rfl⟩ dX4_license_13) hS (fun H locs hP hS => ?_)
  refine lv_if_ne (tgt := 29) hx hb dX4_license_16 (by decide) (fun c2 => ?_) (fun c2 => absurd c2 (b2i_1 h2))
  refine lv_aload_n hx hb dX4_license_29 rfl (lv_at hl 0 rfl) ?_
  refine m_get hC hE hP k_8 f_8 rfl u_4 0 (by decide) w_158 rfl rfl dX4_license_30 ?_
  refine m_get hC hE hP (k_3 (by decide)) e_3 rfl u_1 7 (by decide) w_128 rfl rfl dX4_license_33 ?_
  refine m_top (y := nI (nS v)) (hv.eS) ?_
  refine lv_bipush (v := 8) hx hb dX4_license_36 (by decide) ?_
  refine lv_icmp_lt (tgt := 51) hx hb dX4_license_38 (by decide) (fun c3 => absurd c3 (by rw [h3]; decide)) (fun c3 => ?_)
  exact m_throw hC hE hP hS hl0 hlk htab hl.1 (thr_st sr_88) dX4_license_41 dX4_license_44 dX4_license_45 dX4_license_47 dX4_license_50 (Nat.le_of_ble_eq_true rfl) (Nat.le_of_ble_eq_true rfl) (Nat.le_of_ble_eq_true rfl) (Nat.le_of_ble_eq_true rfl)
set_option maxHeartbeats 4000000 in
set_option maxRecDepth 100000 in
theorem c_goP_1a (l : Launch) (hl0 : l.stackTraces = false) {g : Gm} (hI : IJ g (KK g)) {M : Mem} {o : Nat → Int64} {v : Vw} (k q : Int32) (h1 : isIn k 0 (v 16 1 - 1) = false) : MX l yX4_go cX4_go 5 .int (rmx 6 100) g (KK g) (ent g (setR M 0 v) o) [.ref (ad g (8, 0, 0)), .int (k), .int (q)] E_ix := by
  refine mx_of (by decide +kernel) (Nat.le_of_ble_eq_true rfl) ?_
  intro p e s m below meth c ls hC hr_ hlk htab hE hP hS hl
  obtain ⟨hx, hb, hml, hown, hG⟩ := id hC
  have hl : lv_has ls 5 [(0, .ref (ad g (8, 0, 0))), (1, .int (k)), (2, .int (q))] := hl
  refine lv_aload_n hx hb dX4_go_0 rfl (lv_at hl 0 rfl) ?_
  refine m_get hC hE hP k_8 f_8 rfl u_4 0 (by decide) w_158 rfl rfl dX4_go_1 ?_
  refine lv_iload_n hx hb dX4_go_4 rfl (lv_at hl 1 rfl) ?_
  refine on_i (run_V hC hE hP hS (As := [.int (k)]) (c_hasSpearer l hI (by decide) (v := v) k) cal_X1_hasSpearer w_297 ⟨Nat.le_of_ble_eq_true rfl, Nat.le_of_ble_eq_true rfl⟩ (k_3 (by decide)) e_3 rfl rfl rfl (Nat.le_of_ble_eq_true rfl) hl.1 ⟨Nat.le_of_ble_eq_true rfl, Nat.le_of_ble_eq_true rfl⟩ dX4_go_5) hS (fun H locs hP hS => ?_)
  refine lv_if_ne (tgt := 21) hx hb dX4_go_8 (by decide) (fun c1 => absurd (b2i_0 h1) c1) (fun c1 => ?_)
  exact m_throw hC hE hP hS hl0 hlk htab hl.1 (thr_ix sr_96) dX4_go_11 dX4_go_14 dX4_go_15 dX4_go_17 dX4_go_20 (Nat.le_of_ble_eq_true rfl) (Nat.le_of_ble_eq_true rfl) (Nat.le_of_ble_eq_true rfl) (Nat.le_of_ble_eq_true rfl)
set_option maxHeartbeats 4000000 in
set_option maxRecDepth 100000 in
theorem c_goP_1b (l : Launch) (hl0 : l.stackTraces = false) {g : Gm} (hI : IJ g (KK g)) {M : Mem} {o : Nat → Int64} {v : Vw} (k q : Int32) (h1 : isIn k 0 (v 16 1 - 1) = true) (h2 : ¬ q = -1) (h3 : isIn q 0 (v 16 0 - 1) = false) : MX l yX4_go cX4_go 5 .int (rmx 6 100) g (KK g) (ent g (setR M 0 v) o) [.ref (ad g (8, 0, 0)), .int (k), .int (q)] E_ix := by
  refine mx_of (by decide +kernel) (Nat.le_of_ble_eq_true rfl) ?_
  intro p e s m below meth c ls hC hr_ hlk htab hE hP hS hl
  obtain ⟨hx, hb, hml, hown, hG⟩ := id hC
  have hl : lv_has ls 5 [(0, .ref (ad g (8, 0, 0))), (1, .int (k)), (2, .int (q))] := hl
  refine lv_aload_n hx hb dX4_go_0 rfl (lv_at hl 0 rfl) ?_
  refine m_get hC hE hP k_8 f_8 rfl u_4 0 (by decide) w_158 rfl rfl dX4_go_1 ?_
  refine lv_iload_n hx hb dX4_go_4 rfl (lv_at hl 1 rfl) ?_
  refine on_i (run_V hC hE hP hS (As := [.int (k)]) (c_hasSpearer l hI (by decide) (v := v) k) cal_X1_hasSpearer w_297 ⟨Nat.le_of_ble_eq_true rfl, Nat.le_of_ble_eq_true rfl⟩ (k_3 (by decide)) e_3 rfl rfl rfl (Nat.le_of_ble_eq_true rfl) hl.1 ⟨Nat.le_of_ble_eq_true rfl, Nat.le_of_ble_eq_true rfl⟩ dX4_go_5) hS (fun H locs hP hS => ?_)
  refine lv_if_ne (tgt := 21) hx hb dX4_go_8 (by decide) (fun c1 => ?_) (fun c1 => absurd c1 (b2i_1 h1))
  refine lv_iload_n hx hb dX4_go_21 rfl (lv_at hl 2 rfl) ?_
  refine lv_iconst (v := (-1)) hx hb dX4_go_22 (by decide) ?_
  refine lv_icmp_eq (tgt := 47) hx hb dX4_go_23 (by decide) (fun c2 => absurd c2 (h2)) (fun c2 => ?_)
  refine lv_aload_n hx hb dX4_go_26 rfl (lv_at hl 0 rfl) ?_
  refine m_get hC hE hP k_8 f_8 rfl u_4 0 (by decide) w_158 rfl rfl dX4_go_27 ?_
  refine lv_iload_n hx hb dX4_go_30 rfl (lv_at hl 2 rfl) ?_
  refine on_i (run_V hC hE hP hS (As := [.int (q)]) (c_hasHole l hI (by decide) (v := v) q) cal_X1_hasHole w_268 ⟨Nat.le_of_ble_eq_true rfl, Nat.le_of_ble_eq_true rfl⟩ (k_3 (by decide)) e_3 rfl rfl rfl (Nat.le_of_ble_eq_true rfl) hl.1 ⟨Nat.le_of_ble_eq_true rfl, Nat.le_of_ble_eq_true rfl⟩ dX4_go_31) hS (fun H locs hP hS => ?_)
  refine lv_if_ne (tgt := 47) hx hb dX4_go_34 (by decide) (fun c3 => absurd (b2i_0 h3) c3) (fun c3 => ?_)
  exact m_throw hC hE hP hS hl0 hlk htab hl.1 (thr_ix sr_101) dX4_go_37 dX4_go_40 dX4_go_41 dX4_go_43 dX4_go_46 (Nat.le_of_ble_eq_true rfl) (Nat.le_of_ble_eq_true rfl) (Nat.le_of_ble_eq_true rfl) (Nat.le_of_ble_eq_true rfl)
set_option maxHeartbeats 4000000 in
set_option maxRecDepth 100000 in
theorem c_goP_2 (l : Launch) (hl0 : l.stackTraces = false) {g : Gm} (hI : IJ g (KK g)) {M : Mem} {o : Nat → Int64} {v : Vw} (hv : Inv v) (k : Int32) (h1 : isIn k 0 (v 16 1 - 1) = true) (h : Nat) (hh : h < nH v) (h2 : isIn (nI h) 0 (v 16 0 - 1) = true) (h3 : v 5 h = 0) : MX l yX4_go cX4_go 5 .int (rmx 6 100) g (KK g) (ent g (setR M 0 v) o) [.ref (ad g (8, 0, 0)), .int (k), .int (nI h)] E_st := by
  refine mx_of (by decide +kernel) (Nat.le_of_ble_eq_true rfl) ?_
  intro p e s m below meth c ls hC hr_ hlk htab hE hP hS hl
  obtain ⟨hx, hb, hml, hown, hG⟩ := id hC
  have hl : lv_has ls 5 [(0, .ref (ad g (8, 0, 0))), (1, .int (k)), (2, .int (nI h))] := hl
  have qH := hv.lH
  have qS := hv.lS
  have qW := hv.lW
  refine lv_aload_n hx hb dX4_go_0 rfl (lv_at hl 0 rfl) ?_
  refine m_get hC hE hP k_8 f_8 rfl u_4 0 (by decide) w_158 rfl rfl dX4_go_1 ?_
  refine lv_iload_n hx hb dX4_go_4 rfl (lv_at hl 1 rfl) ?_
  refine on_i (run_V hC hE hP hS (As := [.int (k)]) (c_hasSpearer l hI (by decide) (v := v) k) cal_X1_hasSpearer w_297 ⟨Nat.le_of_ble_eq_true rfl, Nat.le_of_ble_eq_true rfl⟩ (k_3 (by decide)) e_3 rfl rfl rfl (Nat.le_of_ble_eq_true rfl) hl.1 ⟨Nat.le_of_ble_eq_true rfl, Nat.le_of_ble_eq_true rfl⟩ dX4_go_5) hS (fun H locs hP hS => ?_)
  refine lv_if_ne (tgt := 21) hx hb dX4_go_8 (by decide) (fun c1 => ?_) (fun c1 => absurd c1 (b2i_1 h1))
  refine lv_iload_n hx hb dX4_go_21 rfl (lv_at hl 2 rfl) ?_
  refine lv_iconst (v := (-1)) hx hb dX4_go_22 (by decide) ?_
  refine lv_icmp_eq (tgt := 47) hx hb dX4_go_23 (by decide) (fun c2 => absurd c2 (m1_ne h (by omega))) (fun c2 => ?_)
  refine lv_aload_n hx hb dX4_go_26 rfl (lv_at hl 0 rfl) ?_
  refine m_get hC hE hP k_8 f_8 rfl u_4 0 (by decide) w_158 rfl rfl dX4_go_27 ?_
  refine lv_iload_n hx hb dX4_go_30 rfl (lv_at hl 2 rfl) ?_
  refine on_i (run_V hC hE hP hS (As := [.int (nI h)]) (c_hasHole l hI (by decide) (v := v) (nI h)) cal_X1_hasHole w_268 ⟨Nat.le_of_ble_eq_true rfl, Nat.le_of_ble_eq_true rfl⟩ (k_3 (by decide)) e_3 rfl rfl rfl (Nat.le_of_ble_eq_true rfl) hl.1 ⟨Nat.le_of_ble_eq_true rfl, Nat.le_of_ble_eq_true rfl⟩ dX4_go_31) hS (fun H locs hP hS => ?_)
  refine lv_if_ne (tgt := 47) hx hb dX4_go_34 (by decide) (fun c3 => ?_) (fun c3 => absurd c3 (b2i_1 h2))
  refine lv_iload_n hx hb dX4_go_47 rfl (lv_at hl 2 rfl) ?_
  refine lv_iconst (v := (-1)) hx hb dX4_go_48 (by decide) ?_
  refine lv_icmp_eq (tgt := 77) hx hb dX4_go_49 (by decide) (fun c4 => absurd c4 (m1_ne h (by omega))) (fun c4 => ?_)
  refine lv_aload_n hx hb dX4_go_52 rfl (lv_at hl 0 rfl) ?_
  refine m_get hC hE hP k_8 f_8 rfl u_4 0 (by decide) w_158 rfl rfl dX4_go_53 ?_
  refine m_get hC hE hP (k_3 (by decide)) e_3 rfl u_1 3 (by decide) w_120 rfl rfl dX4_go_56 ?_
  refine lv_iload_n hx hb dX4_go_59 rfl (lv_at hl 2 rfl) ?_
  refine m_aald hC hE hP (k_5 (by decide)) f_5 rfl h (rfl) (by omega) (by decide) rfl dX4_go_60 ?_
  refine m_get hC hE hP (k_0 (by decide) (by omega)) e_0 rfl u_0 2 (by decide) w_45 rfl rfl dX4_go_61 ?_
  refine lv_if_ne (tgt := 77) hx hb dX4_go_64 (by decide) (fun c5 => absurd (h3) c5) (fun c5 => ?_)
  exact m_throw hC hE hP hS hl0 hlk htab hl.1 (thr_st sr_113) dX4_go_67 dX4_go_70 dX4_go_71 dX4_go_73 dX4_go_76 (Nat.le_of_ble_eq_true rfl) (Nat.le_of_ble_eq_true rfl) (Nat.le_of_ble_eq_true rfl) (Nat.le_of_ble_eq_true rfl)
set_option maxHeartbeats 4000000 in
set_option maxRecDepth 100000 in
theorem c_wardenP_1 (l : Launch) (hl0 : l.stackTraces = false) {g : Gm} (hI : IJ g (KK g)) {M : Mem} {o : Nat → Int64} {v : Vw} (x y q : Int32) (h1 : isCell x y = false) : MX l yX4_warden cX4_warden 4 .int (rmx 6 100) g (KK g) (ent g (setR M 0 v) o) [.ref (ad g (8, 0, 0)), .int (x), .int (y), .int (q)] E_ix := by
  refine mx_of (by decide +kernel) (Nat.le_of_ble_eq_true rfl) ?_
  intro p e s m below meth c ls hC hr_ hlk htab hE hP hS hl
  obtain ⟨hx, hb, hml, hown, hG⟩ := id hC
  have hl : lv_has ls 4 [(0, .ref (ad g (8, 0, 0))), (1, .int (x)), (2, .int (y)), (3, .int (q))] := hl
  refine lv_iload_n hx hb dX4_warden_0 rfl (lv_at hl 1 rfl) ?_
  refine lv_iload_n hx hb dX4_warden_1 rfl (lv_at hl 2 rfl) ?_
  refine on_i (run_S hC hE hP hS (As := [.int (x), .int (y)]) (c_isCell l x y) cal_X4_isCell w_169 ⟨Nat.le_of_ble_eq_true rfl, Nat.le_of_ble_eq_true rfl⟩ rfl rfl (Nat.le_of_ble_eq_true rfl) hl.1 ⟨Nat.le_of_ble_eq_true rfl, Nat.le_of_ble_eq_true rfl⟩ dX4_warden_2) hS (fun H locs hP hS => ?_)
  refine lv_if_ne (tgt := 18) hx hb dX4_warden_5 (by decide) (fun c1 => absurd (b2i_0 h1) c1) (fun c1 => ?_)
  exact m_throw hC hE hP hS hl0 hlk htab hl.1 (thr_ix sr_25) dX4_warden_8 dX4_warden_11 dX4_warden_12 dX4_warden_14 dX4_warden_17 (Nat.le_of_ble_eq_true rfl) (Nat.le_of_ble_eq_true rfl) (Nat.le_of_ble_eq_true rfl) (Nat.le_of_ble_eq_true rfl)
set_option maxHeartbeats 4000000 in
set_option maxRecDepth 100000 in
theorem c_wardenP_2 (l : Launch) (hl0 : l.stackTraces = false) {g : Gm} (hI : IJ g (KK g)) {M : Mem} {o : Nat → Int64} {v : Vw} (x y q : Int32) (h1 : isCell x y = true) (h2 : isIn q 1 8 = false) : MX l yX4_warden cX4_warden 4 .int (rmx 6 100) g (KK g) (ent g (setR M 0 v) o) [.ref (ad g (8, 0, 0)), .int (x), .int (y), .int (q)] E_arg := by
  refine mx_of (by decide +kernel) (Nat.le_of_ble_eq_true rfl) ?_
  intro p e s m below meth c ls hC hr_ hlk htab hE hP hS hl
  obtain ⟨hx, hb, hml, hown, hG⟩ := id hC
  have hl : lv_has ls 4 [(0, .ref (ad g (8, 0, 0))), (1, .int (x)), (2, .int (y)), (3, .int (q))] := hl
  refine lv_iload_n hx hb dX4_warden_0 rfl (lv_at hl 1 rfl) ?_
  refine lv_iload_n hx hb dX4_warden_1 rfl (lv_at hl 2 rfl) ?_
  refine on_i (run_S hC hE hP hS (As := [.int (x), .int (y)]) (c_isCell l x y) cal_X4_isCell w_169 ⟨Nat.le_of_ble_eq_true rfl, Nat.le_of_ble_eq_true rfl⟩ rfl rfl (Nat.le_of_ble_eq_true rfl) hl.1 ⟨Nat.le_of_ble_eq_true rfl, Nat.le_of_ble_eq_true rfl⟩ dX4_warden_2) hS (fun H locs hP hS => ?_)
  refine lv_if_ne (tgt := 18) hx hb dX4_warden_5 (by decide) (fun c1 => ?_) (fun c1 => absurd c1 (b2i_1 h1))
  refine lv_iload_n hx hb dX4_warden_18 rfl (lv_at hl 3 rfl) ?_
  refine lv_iconst (v := 1) hx hb dX4_warden_19 (by decide) ?_
  refine lv_bipush (v := 8) hx hb dX4_warden_20 (by decide) ?_
  refine on_i (run_S hC hE hP hS (As := [.int (q), .int ((1 : Int32)), .int ((8 : Int32))]) (c_isWithin l q (1 : Int32) (8 : Int32)) cal_X4_isWithin w_172 ⟨Nat.le_of_ble_eq_true rfl, Nat.le_of_ble_eq_true rfl⟩ rfl rfl (Nat.le_of_ble_eq_true rfl) hl.1 ⟨Nat.le_of_ble_eq_true rfl, Nat.le_of_ble_eq_true rfl⟩ dX4_warden_22) hS (fun H locs hP hS => ?_)
  refine lv_if_ne (tgt := 38) hx hb dX4_warden_25 (by decide) (fun c2 => absurd (b2i_0 h2) c2) (fun c2 => ?_)
  exact m_throw hC hE hP hS hl0 hlk htab hl.1 (thr_arg sr_124) dX4_warden_28 dX4_warden_31 dX4_warden_32 dX4_warden_34 dX4_warden_37 (Nat.le_of_ble_eq_true rfl) (Nat.le_of_ble_eq_true rfl) (Nat.le_of_ble_eq_true rfl) (Nat.le_of_ble_eq_true rfl)
set_option maxHeartbeats 4000000 in
set_option maxRecDepth 100000 in
theorem c_wardenP_3 (l : Launch) (hl0 : l.stackTraces = false) {g : Gm} (hI : IJ g (KK g)) {M : Mem} {o : Nat → Int64} {v : Vw} (hv : Inv v) (x y q : Int32) (h1 : isCell x y = true) (h2 : isIn q 1 8 = true) (h3 : nW v = 3) : MX l yX4_warden cX4_warden 4 .int (rmx 6 100) g (KK g) (ent g (setR M 0 v) o) [.ref (ad g (8, 0, 0)), .int (x), .int (y), .int (q)] E_st := by
  refine mx_of (by decide +kernel) (Nat.le_of_ble_eq_true rfl) ?_
  intro p e s m below meth c ls hC hr_ hlk htab hE hP hS hl
  obtain ⟨hx, hb, hml, hown, hG⟩ := id hC
  have hl : lv_has ls 4 [(0, .ref (ad g (8, 0, 0))), (1, .int (x)), (2, .int (y)), (3, .int (q))] := hl
  have qH := hv.lH
  have qS := hv.lS
  have qW := hv.lW
  refine lv_iload_n hx hb dX4_warden_0 rfl (lv_at hl 1 rfl) ?_
  refine lv_iload_n hx hb dX4_warden_1 rfl (lv_at hl 2 rfl) ?_
  refine on_i (run_S hC hE hP hS (As := [.int (x), .int (y)]) (c_isCell l x y) cal_X4_isCell w_169 ⟨Nat.le_of_ble_eq_true rfl, Nat.le_of_ble_eq_true rfl⟩ rfl rfl (Nat.le_of_ble_eq_true rfl) hl.1 ⟨Nat.le_of_ble_eq_true rfl, Nat.le_of_ble_eq_true rfl⟩ dX4_warden_2) hS (fun H locs hP hS => ?_)
  refine lv_if_ne (tgt := 18) hx hb dX4_warden_5 (by decide) (fun c1 => ?_) (fun c1 => absurd c1 (b2i_1 h1))
  refine lv_iload_n hx hb dX4_warden_18 rfl (lv_at hl 3 rfl) ?_
  refine lv_iconst (v := 1) hx hb dX4_warden_19 (by decide) ?_
  refine lv_bipush (v := 8) hx hb dX4_warden_20 (by decide) ?_
  refine on_i (run_S hC hE hP hS (As := [.int (q), .int ((1 : Int32)), .int ((8 : Int32))]) (c_isWithin l q (1 : Int32) (8 : Int32)) cal_X4_isWithin w_172 ⟨Nat.le_of_ble_eq_true rfl, Nat.le_of_ble_eq_true rfl⟩ rfl rfl (Nat.le_of_ble_eq_true rfl) hl.1 ⟨Nat.le_of_ble_eq_true rfl, Nat.le_of_ble_eq_true rfl⟩ dX4_warden_22) hS (fun H locs hP hS => ?_)
  refine lv_if_ne (tgt := 38) hx hb dX4_warden_25 (by decide) (fun c2 => ?_) (fun c2 => absurd c2 (b2i_1 h2))
  refine lv_aload_n hx hb dX4_warden_38 rfl (lv_at hl 0 rfl) ?_
  refine m_get hC hE hP k_8 f_8 rfl u_4 0 (by decide) w_158 rfl rfl dX4_warden_39 ?_
  refine m_get hC hE hP (k_3 (by decide)) e_3 rfl u_1 8 (by decide) w_130 rfl rfl dX4_warden_42 ?_
  refine m_top (y := nI (nW v)) (hv.eW) ?_
  refine lv_iconst (v := 3) hx hb dX4_warden_45 (by decide) ?_
  refine lv_icmp_lt (tgt := 59) hx hb dX4_warden_46 (by decide) (fun c3 => absurd c3 (by rw [h3]; decide)) (fun c3 => ?_)
  exact m_throw hC hE hP hS hl0 hlk htab hl.1 (thr_st sr_129) dX4_warden_49 dX4_warden_52 dX4_warden_53 dX4_warden_55 dX4_warden_58 (Nat.le_of_ble_eq_true rfl) (Nat.le_of_ble_eq_true rfl) (Nat.le_of_ble_eq_true rfl) (Nat.le_of_ble_eq_true rfl)
set_option maxHeartbeats 4000000 in
set_option maxRecDepth 100000 in
theorem c_cellP_1a (l : Launch) (hl0 : l.stackTraces = false) {g : Gm} (hI : IJ g (KK g)) {M : Mem} {o : Nat → Int64} {v : Vw} (x y q : Int32) (h1 : isCell x y = false) : MX l yX4_cell cX4_cell 4 .int (rmx 6 100) g (KK g) (ent g (setR M 0 v) o) [.ref (ad g (8, 0, 0)), .int (x), .int (y), .int (q)] E_ix := by
  refine mx_of (by decide +kernel) (Nat.le_of_ble_eq_true rfl) ?_
  intro p e s m below meth c ls hC hr_ hlk htab hE hP hS hl
  obtain ⟨hx, hb, hml, hown, hG⟩ := id hC
  have hl : lv_has ls 4 [(0, .ref (ad g (8, 0, 0))), (1, .int (x)), (2, .int (y)), (3, .int (q))] := hl
  refine lv_iload_n hx hb dX4_cell_0 rfl (lv_at hl 1 rfl) ?_
  refine lv_iload_n hx hb dX4_cell_1 rfl (lv_at hl 2 rfl) ?_
  refine on_i (run_S hC hE hP hS (As := [.int (x), .int (y)]) (c_isCell l x y) cal_X4_isCell w_169 ⟨Nat.le_of_ble_eq_true rfl, Nat.le_of_ble_eq_true rfl⟩ rfl rfl (Nat.le_of_ble_eq_true rfl) hl.1 ⟨Nat.le_of_ble_eq_true rfl, Nat.le_of_ble_eq_true rfl⟩ dX4_cell_2) hS (fun H locs hP hS => ?_)
  refine lv_if_eq (tgt := 17) hx hb dX4_cell_5 (by decide) (fun c1 => ?_) (fun c1 => absurd (b2i_0 h1) c1)
  exact m_throw hC hE hP hS hl0 hlk htab hl.1 (thr_ix sr_135) dX4_cell_17 dX4_cell_20 dX4_cell_21 dX4_cell_23 dX4_cell_26 (Nat.le_of_ble_eq_true rfl) (Nat.le_of_ble_eq_true rfl) (Nat.le_of_ble_eq_true rfl) (Nat.le_of_ble_eq_true rfl)
set_option maxHeartbeats 4000000 in
set_option maxRecDepth 100000 in
theorem c_cellP_1b (l : Launch) (hl0 : l.stackTraces = false) {g : Gm} (hI : IJ g (KK g)) {M : Mem} {o : Nat → Int64} {v : Vw} (x y q : Int32) (h1 : isCell x y = true) (h2 : isIn q 0 3 = false) : MX l yX4_cell cX4_cell 4 .int (rmx 6 100) g (KK g) (ent g (setR M 0 v) o) [.ref (ad g (8, 0, 0)), .int (x), .int (y), .int (q)] E_ix := by
  refine mx_of (by decide +kernel) (Nat.le_of_ble_eq_true rfl) ?_
  intro p e s m below meth c ls hC hr_ hlk htab hE hP hS hl
  obtain ⟨hx, hb, hml, hown, hG⟩ := id hC
  have hl : lv_has ls 4 [(0, .ref (ad g (8, 0, 0))), (1, .int (x)), (2, .int (y)), (3, .int (q))] := hl
  refine lv_iload_n hx hb dX4_cell_0 rfl (lv_at hl 1 rfl) ?_
  refine lv_iload_n hx hb dX4_cell_1 rfl (lv_at hl 2 rfl) ?_
  refine on_i (run_S hC hE hP hS (As := [.int (x), .int (y)]) (c_isCell l x y) cal_X4_isCell w_169 ⟨Nat.le_of_ble_eq_true rfl, Nat.le_of_ble_eq_true rfl⟩ rfl rfl (Nat.le_of_ble_eq_true rfl) hl.1 ⟨Nat.le_of_ble_eq_true rfl, Nat.le_of_ble_eq_true rfl⟩ dX4_cell_2) hS (fun H locs hP hS => ?_)
  refine lv_if_eq (tgt := 17) hx hb dX4_cell_5 (by decide) (fun c1 => absurd c1 (b2i_1 h1)) (fun c1 => ?_)
  refine lv_iload_n hx hb dX4_cell_8 rfl (lv_at hl 3 rfl) ?_
  refine lv_iconst (v := 0) hx hb dX4_cell_9 (by decide) ?_
  refine lv_iconst (v := 3) hx hb dX4_cell_10 (by decide) ?_
  refine on_i (run_S hC hE hP hS (As := [.int (q), .int ((0 : Int32)), .int ((3 : Int32))]) (c_isWithin l q (0 : Int32) (3 : Int32)) cal_X4_isWithin w_172 ⟨Nat.le_of_ble_eq_true rfl, Nat.le_of_ble_eq_true rfl⟩ rfl rfl (Nat.le_of_ble_eq_true rfl) hl.1 ⟨Nat.le_of_ble_eq_true rfl, Nat.le_of_ble_eq_true rfl⟩ dX4_cell_11) hS (fun H locs hP hS => ?_)
  refine lv_if_ne (tgt := 27) hx hb dX4_cell_14 (by decide) (fun c2 => absurd (b2i_0 h2) c2) (fun c2 => ?_)
  exact m_throw hC hE hP hS hl0 hlk htab hl.1 (thr_ix sr_135) dX4_cell_17 dX4_cell_20 dX4_cell_21 dX4_cell_23 dX4_cell_26 (Nat.le_of_ble_eq_true rfl) (Nat.le_of_ble_eq_true rfl) (Nat.le_of_ble_eq_true rfl) (Nat.le_of_ble_eq_true rfl)
set_option maxHeartbeats 4000000 in
set_option maxRecDepth 100000 in
theorem c_holeP_1a (l : Launch) (hl0 : l.stackTraces = false) {g : Gm} (hI : IJ g (KK g)) {M : Mem} {o : Nat → Int64} {v : Vw} (k q : Int32) (h1 : isIn k 0 (v 16 0 - 1) = false) : MX l yX4_hole cX4_hole 3 .int (rmx 6 100) g (KK g) (ent g (setR M 0 v) o) [.ref (ad g (8, 0, 0)), .int (k), .int (q)] E_ix := by
  refine mx_of (by decide +kernel) (Nat.le_of_ble_eq_true rfl) ?_
  intro p e s m below meth c ls hC hr_ hlk htab hE hP hS hl
  obtain ⟨hx, hb, hml, hown, hG⟩ := id hC
  have hl : lv_has ls 3 [(0, .ref (ad g (8, 0, 0))), (1, .int (k)), (2, .int (q))] := hl
  refine lv_aload_n hx hb dX4_hole_0 rfl (lv_at hl 0 rfl) ?_
  refine m_get hC hE hP k_8 f_8 rfl u_4 0 (by decide) w_158 rfl rfl dX4_hole_1 ?_
  refine lv_iload_n hx hb dX4_hole_4 rfl (lv_at hl 1 rfl) ?_
  refine on_i (run_V hC hE hP hS (As := [.int (k)]) (c_hasHole l hI (by decide) (v := v) k) cal_X1_hasHole w_268 ⟨Nat.le_of_ble_eq_true rfl, Nat.le_of_ble_eq_true rfl⟩ (k_3 (by decide)) e_3 rfl rfl rfl (Nat.le_of_ble_eq_true rfl) hl.1 ⟨Nat.le_of_ble_eq_true rfl, Nat.le_of_ble_eq_true rfl⟩ dX4_hole_5) hS (fun H locs hP hS => ?_)
  refine lv_if_eq (tgt := 20) hx hb dX4_hole_8 (by decide) (fun c1 => ?_) (fun c1 => absurd (b2i_0 h1) c1)
  exact m_throw hC hE hP hS hl0 hlk htab hl.1 (thr_ix sr_140) dX4_hole_20 dX4_hole_23 dX4_hole_24 dX4_hole_26 dX4_hole_29 (Nat.le_of_ble_eq_true rfl) (Nat.le_of_ble_eq_true rfl) (Nat.le_of_ble_eq_true rfl) (Nat.le_of_ble_eq_true rfl)
set_option maxHeartbeats 4000000 in
set_option maxRecDepth 100000 in
theorem c_holeP_1b (l : Launch) (hl0 : l.stackTraces = false) {g : Gm} (hI : IJ g (KK g)) {M : Mem} {o : Nat → Int64} {v : Vw} (k q : Int32) (h1 : isIn k 0 (v 16 0 - 1) = true) (h2 : isIn q 0 4 = false) : MX l yX4_hole cX4_hole 3 .int (rmx 6 100) g (KK g) (ent g (setR M 0 v) o) [.ref (ad g (8, 0, 0)), .int (k), .int (q)] E_ix := by
  refine mx_of (by decide +kernel) (Nat.le_of_ble_eq_true rfl) ?_
  intro p e s m below meth c ls hC hr_ hlk htab hE hP hS hl
  obtain ⟨hx, hb, hml, hown, hG⟩ := id hC
  have hl : lv_has ls 3 [(0, .ref (ad g (8, 0, 0))), (1, .int (k)), (2, .int (q))] := hl
  refine lv_aload_n hx hb dX4_hole_0 rfl (lv_at hl 0 rfl) ?_
  refine m_get hC hE hP k_8 f_8 rfl u_4 0 (by decide) w_158 rfl rfl dX4_hole_1 ?_
  refine lv_iload_n hx hb dX4_hole_4 rfl (lv_at hl 1 rfl) ?_
  refine on_i (run_V hC hE hP hS (As := [.int (k)]) (c_hasHole l hI (by decide) (v := v) k) cal_X1_hasHole w_268 ⟨Nat.le_of_ble_eq_true rfl, Nat.le_of_ble_eq_true rfl⟩ (k_3 (by decide)) e_3 rfl rfl rfl (Nat.le_of_ble_eq_true rfl) hl.1 ⟨Nat.le_of_ble_eq_true rfl, Nat.le_of_ble_eq_true rfl⟩ dX4_hole_5) hS (fun H locs hP hS => ?_)
  refine lv_if_eq (tgt := 20) hx hb dX4_hole_8 (by decide) (fun c1 => absurd c1 (b2i_1 h1)) (fun c1 => ?_)
  refine lv_iload_n hx hb dX4_hole_11 rfl (lv_at hl 2 rfl) ?_
  refine lv_iconst (v := 0) hx hb dX4_hole_12 (by decide) ?_
  refine lv_iconst (v := 4) hx hb dX4_hole_13 (by decide) ?_
  refine on_i (run_S hC hE hP hS (As := [.int (q), .int ((0 : Int32)), .int ((4 : Int32))]) (c_isWithin l q (0 : Int32) (4 : Int32)) cal_X4_isWithin w_172 ⟨Nat.le_of_ble_eq_true rfl, Nat.le_of_ble_eq_true rfl⟩ rfl rfl (Nat.le_of_ble_eq_true rfl) hl.1 ⟨Nat.le_of_ble_eq_true rfl, Nat.le_of_ble_eq_true rfl⟩ dX4_hole_14) hS (fun H locs hP hS => ?_)
  refine lv_if_ne (tgt := 30) hx hb dX4_hole_17 (by decide) (fun c2 => absurd (b2i_0 h2) c2) (fun c2 => ?_)
  exact m_throw hC hE hP hS hl0 hlk htab hl.1 (thr_ix sr_140) dX4_hole_20 dX4_hole_23 dX4_hole_24 dX4_hole_26 dX4_hole_29 (Nat.le_of_ble_eq_true rfl) (Nat.le_of_ble_eq_true rfl) (Nat.le_of_ble_eq_true rfl) (Nat.le_of_ble_eq_true rfl)
set_option maxHeartbeats 4000000 in
set_option maxRecDepth 100000 in
theorem c_spearerP_1a (l : Launch) (hl0 : l.stackTraces = false) {g : Gm} (hI : IJ g (KK g)) {M : Mem} {o : Nat → Int64} {v : Vw} (k q : Int32) (h1 : isIn k 0 (v 16 1 - 1) = false) : MX l yX4_spearer cX4_spearer 3 .int (rmx 6 100) g (KK g) (ent g (setR M 0 v) o) [.ref (ad g (8, 0, 0)), .int (k), .int (q)] E_ix := by
  refine mx_of (by decide +kernel) (Nat.le_of_ble_eq_true rfl) ?_
  intro p e s m below meth c ls hC hr_ hlk htab hE hP hS hl
  obtain ⟨hx, hb, hml, hown, hG⟩ := id hC
  have hl : lv_has ls 3 [(0, .ref (ad g (8, 0, 0))), (1, .int (k)), (2, .int (q))] := hl
  refine lv_aload_n hx hb dX4_spearer_0 rfl (lv_at hl 0 rfl) ?_
  refine m_get hC hE hP k_8 f_8 rfl u_4 0 (by decide) w_158 rfl rfl dX4_spearer_1 ?_
  refine lv_iload_n hx hb dX4_spearer_4 rfl (lv_at hl 1 rfl) ?_
  refine on_i (run_V hC hE hP hS (As := [.int (k)]) (c_hasSpearer l hI (by decide) (v := v) k) cal_X1_hasSpearer w_297 ⟨Nat.le_of_ble_eq_true rfl, Nat.le_of_ble_eq_true rfl⟩ (k_3 (by decide)) e_3 rfl rfl rfl (Nat.le_of_ble_eq_true rfl) hl.1 ⟨Nat.le_of_ble_eq_true rfl, Nat.le_of_ble_eq_true rfl⟩ dX4_spearer_5) hS (fun H locs hP hS => ?_)
  refine lv_if_eq (tgt := 20) hx hb dX4_spearer_8 (by decide) (fun c1 => ?_) (fun c1 => absurd (b2i_0 h1) c1)
  exact m_throw hC hE hP hS hl0 hlk htab hl.1 (thr_ix sr_145) dX4_spearer_20 dX4_spearer_23 dX4_spearer_24 dX4_spearer_26 dX4_spearer_29 (Nat.le_of_ble_eq_true rfl) (Nat.le_of_ble_eq_true rfl) (Nat.le_of_ble_eq_true rfl) (Nat.le_of_ble_eq_true rfl)
set_option maxHeartbeats 4000000 in
set_option maxRecDepth 100000 in
theorem c_spearerP_1b (l : Launch) (hl0 : l.stackTraces = false) {g : Gm} (hI : IJ g (KK g)) {M : Mem} {o : Nat → Int64} {v : Vw} (k q : Int32) (h1 : isIn k 0 (v 16 1 - 1) = true) (h2 : isIn q 0 5 = false) : MX l yX4_spearer cX4_spearer 3 .int (rmx 6 100) g (KK g) (ent g (setR M 0 v) o) [.ref (ad g (8, 0, 0)), .int (k), .int (q)] E_ix := by
  refine mx_of (by decide +kernel) (Nat.le_of_ble_eq_true rfl) ?_
  intro p e s m below meth c ls hC hr_ hlk htab hE hP hS hl
  obtain ⟨hx, hb, hml, hown, hG⟩ := id hC
  have hl : lv_has ls 3 [(0, .ref (ad g (8, 0, 0))), (1, .int (k)), (2, .int (q))] := hl
  refine lv_aload_n hx hb dX4_spearer_0 rfl (lv_at hl 0 rfl) ?_
  refine m_get hC hE hP k_8 f_8 rfl u_4 0 (by decide) w_158 rfl rfl dX4_spearer_1 ?_
  refine lv_iload_n hx hb dX4_spearer_4 rfl (lv_at hl 1 rfl) ?_
  refine on_i (run_V hC hE hP hS (As := [.int (k)]) (c_hasSpearer l hI (by decide) (v := v) k) cal_X1_hasSpearer w_297 ⟨Nat.le_of_ble_eq_true rfl, Nat.le_of_ble_eq_true rfl⟩ (k_3 (by decide)) e_3 rfl rfl rfl (Nat.le_of_ble_eq_true rfl) hl.1 ⟨Nat.le_of_ble_eq_true rfl, Nat.le_of_ble_eq_true rfl⟩ dX4_spearer_5) hS (fun H locs hP hS => ?_)
  refine lv_if_eq (tgt := 20) hx hb dX4_spearer_8 (by decide) (fun c1 => absurd c1 (b2i_1 h1)) (fun c1 => ?_)
  refine lv_iload_n hx hb dX4_spearer_11 rfl (lv_at hl 2 rfl) ?_
  refine lv_iconst (v := 0) hx hb dX4_spearer_12 (by decide) ?_
  refine lv_iconst (v := 5) hx hb dX4_spearer_13 (by decide) ?_
  refine on_i (run_S hC hE hP hS (As := [.int (q), .int ((0 : Int32)), .int ((5 : Int32))]) (c_isWithin l q (0 : Int32) (5 : Int32)) cal_X4_isWithin w_172 ⟨Nat.le_of_ble_eq_true rfl, Nat.le_of_ble_eq_true rfl⟩ rfl rfl (Nat.le_of_ble_eq_true rfl) hl.1 ⟨Nat.le_of_ble_eq_true rfl, Nat.le_of_ble_eq_true rfl⟩ dX4_spearer_14) hS (fun H locs hP hS => ?_)
  refine lv_if_ne (tgt := 30) hx hb dX4_spearer_17 (by decide) (fun c2 => absurd (b2i_0 h2) c2) (fun c2 => ?_)
  exact m_throw hC hE hP hS hl0 hlk htab hl.1 (thr_ix sr_145) dX4_spearer_20 dX4_spearer_23 dX4_spearer_24 dX4_spearer_26 dX4_spearer_29 (Nat.le_of_ble_eq_true rfl) (Nat.le_of_ble_eq_true rfl) (Nat.le_of_ble_eq_true rfl) (Nat.le_of_ble_eq_true rfl)
set_option maxHeartbeats 4000000 in
set_option maxRecDepth 100000 in
theorem c_aboutP_1a (l : Launch) (hl0 : l.stackTraces = false) {g : Gm} (hI : IJ g (KK g)) {M : Mem} {o : Nat → Int64} {v : Vw} (k q : Int32) (h1 : isIn k 0 (v 16 2 - 1) = false) : MX l yX4_about cX4_about 3 .int (rmx 6 100) g (KK g) (ent g (setR M 0 v) o) [.ref (ad g (8, 0, 0)), .int (k), .int (q)] E_ix := by
  refine mx_of (by decide +kernel) (Nat.le_of_ble_eq_true rfl) ?_
  intro p e s m below meth c ls hC hr_ hlk htab hE hP hS hl
  obtain ⟨hx, hb, hml, hown, hG⟩ := id hC
  have hl : lv_has ls 3 [(0, .ref (ad g (8, 0, 0))), (1, .int (k)), (2, .int (q))] := hl
  refine lv_aload_n hx hb dX4_about_0 rfl (lv_at hl 0 rfl) ?_
  refine m_get hC hE hP k_8 f_8 rfl u_4 0 (by decide) w_158 rfl rfl dX4_about_1 ?_
  refine lv_iload_n hx hb dX4_about_4 rfl (lv_at hl 1 rfl) ?_
  refine on_i (run_V hC hE hP hS (As := [.int (k)]) (c_hasWarden l hI (by decide) (v := v) k) cal_X1_hasWarden w_310 ⟨Nat.le_of_ble_eq_true rfl, Nat.le_of_ble_eq_true rfl⟩ (k_3 (by decide)) e_3 rfl rfl rfl (Nat.le_of_ble_eq_true rfl) hl.1 ⟨Nat.le_of_ble_eq_true rfl, Nat.le_of_ble_eq_true rfl⟩ dX4_about_5) hS (fun H locs hP hS => ?_)
  refine lv_if_eq (tgt := 20) hx hb dX4_about_8 (by decide) (fun c1 => ?_) (fun c1 => absurd (b2i_0 h1) c1)
  exact m_throw hC hE hP hS hl0 hlk htab hl.1 (thr_ix sr_154) dX4_about_20 dX4_about_23 dX4_about_24 dX4_about_26 dX4_about_29 (Nat.le_of_ble_eq_true rfl) (Nat.le_of_ble_eq_true rfl) (Nat.le_of_ble_eq_true rfl) (Nat.le_of_ble_eq_true rfl)
set_option maxHeartbeats 4000000 in
set_option maxRecDepth 100000 in
theorem c_aboutP_1b (l : Launch) (hl0 : l.stackTraces = false) {g : Gm} (hI : IJ g (KK g)) {M : Mem} {o : Nat → Int64} {v : Vw} (k q : Int32) (h1 : isIn k 0 (v 16 2 - 1) = true) (h2 : isIn q 0 3 = false) : MX l yX4_about cX4_about 3 .int (rmx 6 100) g (KK g) (ent g (setR M 0 v) o) [.ref (ad g (8, 0, 0)), .int (k), .int (q)] E_ix := by
  refine mx_of (by decide +kernel) (Nat.le_of_ble_eq_true rfl) ?_
  intro p e s m below meth c ls hC hr_ hlk htab hE hP hS hl
  obtain ⟨hx, hb, hml, hown, hG⟩ := id hC
  have hl : lv_has ls 3 [(0, .ref (ad g (8, 0, 0))), (1, .int (k)), (2, .int (q))] := hl
  refine lv_aload_n hx hb dX4_about_0 rfl (lv_at hl 0 rfl) ?_
  refine m_get hC hE hP k_8 f_8 rfl u_4 0 (by decide) w_158 rfl rfl dX4_about_1 ?_
  refine lv_iload_n hx hb dX4_about_4 rfl (lv_at hl 1 rfl) ?_
  refine on_i (run_V hC hE hP hS (As := [.int (k)]) (c_hasWarden l hI (by decide) (v := v) k) cal_X1_hasWarden w_310 ⟨Nat.le_of_ble_eq_true rfl, Nat.le_of_ble_eq_true rfl⟩ (k_3 (by decide)) e_3 rfl rfl rfl (Nat.le_of_ble_eq_true rfl) hl.1 ⟨Nat.le_of_ble_eq_true rfl, Nat.le_of_ble_eq_true rfl⟩ dX4_about_5) hS (fun H locs hP hS => ?_)
  refine lv_if_eq (tgt := 20) hx hb dX4_about_8 (by decide) (fun c1 => absurd c1 (b2i_1 h1)) (fun c1 => ?_)
  refine lv_iload_n hx hb dX4_about_11 rfl (lv_at hl 2 rfl) ?_
  refine lv_iconst (v := 0) hx hb dX4_about_12 (by decide) ?_
  refine lv_iconst (v := 3) hx hb dX4_about_13 (by decide) ?_
  refine on_i (run_S hC hE hP hS (As := [.int (q), .int ((0 : Int32)), .int ((3 : Int32))]) (c_isWithin l q (0 : Int32) (3 : Int32)) cal_X4_isWithin w_172 ⟨Nat.le_of_ble_eq_true rfl, Nat.le_of_ble_eq_true rfl⟩ rfl rfl (Nat.le_of_ble_eq_true rfl) hl.1 ⟨Nat.le_of_ble_eq_true rfl, Nat.le_of_ble_eq_true rfl⟩ dX4_about_14) hS (fun H locs hP hS => ?_)
  refine lv_if_ne (tgt := 30) hx hb dX4_about_17 (by decide) (fun c2 => absurd (b2i_0 h2) c2) (fun c2 => ?_)
  exact m_throw hC hE hP hS hl0 hlk htab hl.1 (thr_ix sr_154) dX4_about_20 dX4_about_23 dX4_about_24 dX4_about_26 dX4_about_29 (Nat.le_of_ble_eq_true rfl) (Nat.le_of_ble_eq_true rfl) (Nat.le_of_ble_eq_true rfl) (Nat.le_of_ble_eq_true rfl)
set_option maxHeartbeats 4000000 in
set_option maxRecDepth 100000 in
theorem c_countP_1 (l : Launch) (hl0 : l.stackTraces = false) {g : Gm} (hI : IJ g (KK g)) {M : Mem} {o : Nat → Int64} {v : Vw} (q : Int32) (h1 : isIn q 0 8 = false) : MX l yX4_count cX4_count 2 .int (rmx 6 100) g (KK g) (ent g (setR M 0 v) o) [.ref (ad g (8, 0, 0)), .int (q)] E_ix := by
  refine mx_of (by decide +kernel) (Nat.le_of_ble_eq_true rfl) ?_
  intro p e s m below meth c ls hC hr_ hlk htab hE hP hS hl
  obtain ⟨hx, hb, hml, hown, hG⟩ := id hC
  have hl : lv_has ls 2 [(0, .ref (ad g (8, 0, 0))), (1, .int (q))] := hl
  refine lv_iload_n hx hb dX4_count_0 rfl (lv_at hl 1 rfl) ?_
  refine lv_iconst (v := 0) hx hb dX4_count_1 (by decide) ?_
  refine lv_bipush (v := 8) hx hb dX4_count_2 (by decide) ?_
  refine on_i (run_S hC hE hP hS (As := [.int (q), .int ((0 : Int32)), .int ((8 : Int32))]) (c_isWithin l q (0 : Int32) (8 : Int32)) cal_X4_isWithin w_172 ⟨Nat.le_of_ble_eq_true rfl, Nat.le_of_ble_eq_true rfl⟩ rfl rfl (Nat.le_of_ble_eq_true rfl) hl.1 ⟨Nat.le_of_ble_eq_true rfl, Nat.le_of_ble_eq_true rfl⟩ dX4_count_4) hS (fun H locs hP hS => ?_)
  refine lv_if_ne (tgt := 20) hx hb dX4_count_7 (by decide) (fun c1 => absurd (b2i_0 h1) c1) (fun c1 => ?_)
  exact m_throw hC hE hP hS hl0 hlk htab hl.1 (thr_ix sr_163) dX4_count_10 dX4_count_13 dX4_count_14 dX4_count_16 dX4_count_19 (Nat.le_of_ble_eq_true rfl) (Nat.le_of_ble_eq_true rfl) (Nat.le_of_ble_eq_true rfl) (Nat.le_of_ble_eq_true rfl)
set_option maxHeartbeats 4000000 in
set_option maxRecDepth 100000 in
theorem c_passP_1 (l : Launch) (hl0 : l.stackTraces = false) {g : Gm} (hI : IJ g (KK g)) {M : Mem} {o : Nat → Int64} {v : Vw} (n : Int32) (h1 : isIn n 1 40 = false) : MX l yX4_pass cX4_pass 2 .int (rmx 6 119) g (KK g) (ent g (setR M 0 v) o) [.ref (ad g (8, 0, 0)), .int (n)] E_arg := by
  refine mx_of (by decide +kernel) (Nat.le_of_ble_eq_true rfl) ?_
  intro p e s m below meth c ls hC hr_ hlk htab hE hP hS hl
  obtain ⟨hx, hb, hml, hown, hG⟩ := id hC
  have hl : lv_has ls 2 [(0, .ref (ad g (8, 0, 0))), (1, .int (n))] := hl
  refine lv_iload_n hx hb dX4_pass_0 rfl (lv_at hl 1 rfl) ?_
  refine lv_iconst (v := 1) hx hb dX4_pass_1 (by decide) ?_
  refine lv_bipush (v := 40) hx hb dX4_pass_2 (by decide) ?_
  refine on_i (run_S hC hE hP hS (As := [.int (n), .int ((1 : Int32)), .int ((40 : Int32))]) (c_isWithin l n (1 : Int32) (40 : Int32)) cal_X4_isWithin w_172 ⟨Nat.le_of_ble_eq_true rfl, Nat.le_of_ble_eq_true rfl⟩ rfl rfl (Nat.le_of_ble_eq_true rfl) hl.1 ⟨Nat.le_of_ble_eq_true rfl, Nat.le_of_ble_eq_true rfl⟩ dX4_pass_4) hS (fun H locs hP hS => ?_)
  refine lv_if_ne (tgt := 20) hx hb dX4_pass_7 (by decide) (fun c1 => absurd (b2i_0 h1) c1) (fun c1 => ?_)
  exact m_throw hC hE hP hS hl0 hlk htab hl.1 (thr_arg sr_168) dX4_pass_10 dX4_pass_13 dX4_pass_14 dX4_pass_16 dX4_pass_19 (Nat.le_of_ble_eq_true rfl) (Nat.le_of_ble_eq_true rfl) (Nat.le_of_ble_eq_true rfl) (Nat.le_of_ble_eq_true rfl)
set_option maxHeartbeats 4000000 in
set_option maxRecDepth 100000 in
theorem c_foreseeP_1 (l : Launch) (hl0 : l.stackTraces = false) {g : Gm} (hI : IJ g (KK g)) {M : Mem} {o : Nat → Int64} {v : Vw} (n q : Int32) (h1 : isIn n 1 40 = false) : MX l yX4_foresee cX4_foresee 3 .int (rmx 6 119) g (KK g) (ent g (setR M 0 v) o) [.ref (ad g (8, 0, 0)), .int (n), .int (q)] E_arg := by
  refine mx_of (by decide +kernel) (Nat.le_of_ble_eq_true rfl) ?_
  intro p e s m below meth c ls hC hr_ hlk htab hE hP hS hl
  obtain ⟨hx, hb, hml, hown, hG⟩ := id hC
  have hl : lv_has ls 3 [(0, .ref (ad g (8, 0, 0))), (1, .int (n)), (2, .int (q))] := hl
  refine lv_iload_n hx hb dX4_foresee_0 rfl (lv_at hl 1 rfl) ?_
  refine lv_iconst (v := 1) hx hb dX4_foresee_1 (by decide) ?_
  refine lv_bipush (v := 40) hx hb dX4_foresee_2 (by decide) ?_
  refine on_i (run_S hC hE hP hS (As := [.int (n), .int ((1 : Int32)), .int ((40 : Int32))]) (c_isWithin l n (1 : Int32) (40 : Int32)) cal_X4_isWithin w_172 ⟨Nat.le_of_ble_eq_true rfl, Nat.le_of_ble_eq_true rfl⟩ rfl rfl (Nat.le_of_ble_eq_true rfl) hl.1 ⟨Nat.le_of_ble_eq_true rfl, Nat.le_of_ble_eq_true rfl⟩ dX4_foresee_4) hS (fun H locs hP hS => ?_)
  refine lv_if_ne (tgt := 20) hx hb dX4_foresee_7 (by decide) (fun c1 => absurd (b2i_0 h1) c1) (fun c1 => ?_)
  exact m_throw hC hE hP hS hl0 hlk htab hl.1 (thr_arg sr_168) dX4_foresee_10 dX4_foresee_13 dX4_foresee_14 dX4_foresee_16 dX4_foresee_19 (Nat.le_of_ble_eq_true rfl) (Nat.le_of_ble_eq_true rfl) (Nat.le_of_ble_eq_true rfl) (Nat.le_of_ble_eq_true rfl)
set_option maxHeartbeats 4000000 in
set_option maxRecDepth 100000 in
theorem c_foreseeP_2 (l : Launch) (hl0 : l.stackTraces = false) {g : Gm} (hI : IJ g (KK g)) {M : Mem} {o : Nat → Int64} {v : Vw} (n q : Int32) (h1 : isIn n 1 40 = true) (h2 : ¬ fsn q) : MX l yX4_foresee cX4_foresee 3 .int (rmx 6 119) g (KK g) (ent g (setR M 0 v) o) [.ref (ad g (8, 0, 0)), .int (n), .int (q)] E_ix := by
  refine mx_of (by decide +kernel) (Nat.le_of_ble_eq_true rfl) ?_
  intro p e s m below meth c ls hC hr_ hlk htab hE hP hS hl
  obtain ⟨hx, hb, hml, hown, hG⟩ := id hC
  have hl : lv_has ls 3 [(0, .ref (ad g (8, 0, 0))), (1, .int (n)), (2, .int (q))] := hl
  refine lv_iload_n hx hb dX4_foresee_0 rfl (lv_at hl 1 rfl) ?_
  refine lv_iconst (v := 1) hx hb dX4_foresee_1 (by decide) ?_
  refine lv_bipush (v := 40) hx hb dX4_foresee_2 (by decide) ?_
  refine on_i (run_S hC hE hP hS (As := [.int (n), .int ((1 : Int32)), .int ((40 : Int32))]) (c_isWithin l n (1 : Int32) (40 : Int32)) cal_X4_isWithin w_172 ⟨Nat.le_of_ble_eq_true rfl, Nat.le_of_ble_eq_true rfl⟩ rfl rfl (Nat.le_of_ble_eq_true rfl) hl.1 ⟨Nat.le_of_ble_eq_true rfl, Nat.le_of_ble_eq_true rfl⟩ dX4_foresee_4) hS (fun H locs hP hS => ?_)
  refine lv_if_ne (tgt := 20) hx hb dX4_foresee_7 (by decide) (fun c1 => ?_) (fun c1 => absurd c1 (b2i_1 h1))
  refine lv_iload_n hx hb dX4_foresee_20 rfl (lv_at hl 2 rfl) ?_
  refine on_i (run_S hC hE hP hS (As := [.int (q)]) (c_isForeseen l q) cal_X4_isForeseen w_457 ⟨Nat.le_of_ble_eq_true rfl, Nat.le_of_ble_eq_true rfl⟩ rfl rfl (Nat.le_of_ble_eq_true rfl) hl.1 ⟨Nat.le_of_ble_eq_true rfl, Nat.le_of_ble_eq_true rfl⟩ dX4_foresee_21) hS (fun H locs hP hS => ?_)
  refine lv_if_ne (tgt := 37) hx hb dX4_foresee_24 (by decide) (fun c2 => absurd (b2i_0 (frs_f h2)) c2) (fun c2 => ?_)
  exact m_throw hC hE hP hS hl0 hlk htab hl.1 (thr_ix sr_185) dX4_foresee_27 dX4_foresee_30 dX4_foresee_31 dX4_foresee_33 dX4_foresee_36 (Nat.le_of_ble_eq_true rfl) (Nat.le_of_ble_eq_true rfl) (Nat.le_of_ble_eq_true rfl) (Nat.le_of_ble_eq_true rfl)
set_option maxHeartbeats 4000000 in
set_option maxRecDepth 100000 in
theorem c_adviseP_1 (l : Launch) (hl0 : l.stackTraces = false) {g : Gm} (hI : IJ g (KK g)) {M : Mem} {o : Nat → Int64} {v : Vw} (k : Int32) (h1 : isIn k 0 (v 16 1 - 1) = false) : MX l yX4_advise cX4_advise 6 .int (rmx 6 141) g (KK g) (ent g (setR M 0 v) o) [.ref (ad g (8, 0, 0)), .int (k)] E_ix := by
  refine mx_of (by decide +kernel) (Nat.le_of_ble_eq_true rfl) ?_
  intro p e s m below meth c ls hC hr_ hlk htab hE hP hS hl
  obtain ⟨hx, hb, hml, hown, hG⟩ := id hC
  have hl : lv_has ls 6 [(0, .ref (ad g (8, 0, 0))), (1, .int (k))] := hl
  refine lv_aload_n hx hb dX4_advise_0 rfl (lv_at hl 0 rfl) ?_
  refine m_get hC hE hP k_8 f_8 rfl u_4 0 (by decide) w_158 rfl rfl dX4_advise_1 ?_
  refine lv_iload_n hx hb dX4_advise_4 rfl (lv_at hl 1 rfl) ?_
  refine on_i (run_V hC hE hP hS (As := [.int (k)]) (c_hasSpearer l hI (by decide) (v := v) k) cal_X1_hasSpearer w_297 ⟨Nat.le_of_ble_eq_true rfl, Nat.le_of_ble_eq_true rfl⟩ (k_3 (by decide)) e_3 rfl rfl rfl (Nat.le_of_ble_eq_true rfl) hl.1 ⟨Nat.le_of_ble_eq_true rfl, Nat.le_of_ble_eq_true rfl⟩ dX4_advise_5) hS (fun H locs hP hS => ?_)
  refine lv_if_ne (tgt := 21) hx hb dX4_advise_8 (by decide) (fun c1 => absurd (b2i_0 h1) c1) (fun c1 => ?_)
  exact m_throw hC hE hP hS hl0 hlk htab hl.1 (thr_ix sr_96) dX4_advise_11 dX4_advise_14 dX4_advise_15 dX4_advise_17 dX4_advise_20 (Nat.le_of_ble_eq_true rfl) (Nat.le_of_ble_eq_true rfl) (Nat.le_of_ble_eq_true rfl) (Nat.le_of_ble_eq_true rfl)
