/-! The constructor of EelPermits. -/
theorem dX4_init_0 : decode cX4_init 0 = .ok (.aload_n 0, 1) := by decide +kernel
theorem dX4_init_1 : decode cX4_init 1 = .ok (.invokespecial 1, 3) := by decide +kernel
theorem dX4_init_4 : decode cX4_init 4 = .ok (.aload_n 0, 1) := by decide +kernel
theorem dX4_init_5 : decode cX4_init 5 = .ok (.new 7, 3) := by decide +kernel
theorem dX4_init_8 : decode cX4_init 8 = .ok (.dup, 1) := by decide +kernel
theorem dX4_init_9 : decode cX4_init 9 = .ok (.invokespecial 9, 3) := by decide +kernel
theorem dX4_init_12 : decode cX4_init 12 = .ok (.putfield 10, 3) := by decide +kernel
theorem dX4_init_15 : decode cX4_init 15 = .ok (.aload_n 0, 1) := by decide +kernel
theorem dX4_init_16 : decode cX4_init 16 = .ok (.new 7, 3) := by decide +kernel
theorem dX4_init_19 : decode cX4_init 19 = .ok (.dup, 1) := by decide +kernel
theorem dX4_init_20 : decode cX4_init 20 = .ok (.invokespecial 9, 3) := by decide +kernel
theorem dX4_init_23 : decode cX4_init 23 = .ok (.putfield 16, 3) := by decide +kernel
theorem dX4_init_26 : decode cX4_init 26 = .ok (.return_, 1) := by decide +kernel
def XE (g : Gm) (en : Key → va_E) : Key → va_E := updE (LkE g 1 (updE (updE (LkE g 0 (updE en (3, 0, 0) (.inr (1, [.null, .null, .null, .null, .null, .null, .int 0, .int 0, .int 0, .int 0, .int 0])))) (8, 0, 0) (.inr (4, [.ref (ad g (3, 0, 0)), .null]))) (3, 1, 0) (.inr (1, [.null, .null, .null, .null, .null, .null, .int 0, .int 0, .int 0, .int 0, .int 0])))) (8, 0, 0) (.inr (4, [.ref (ad g (3, 0, 0)), .ref (ad g (3, 1, 0))]))
set_option maxHeartbeats 4000000 in
set_option maxRecDepth 100000 in
theorem i_eel (l : Launch) {g : Gm} (hg : Gz g) {en : Key → va_E} (he : en (8, 0, 0) = .inr (4, [.null, .null])) : MC l yX4_init cX4_init 1 { frames := 4, cells := 60, slots := 598, locals := 80 } g 1 en [.ref (ad g (8, 0, 0))] 61 (XE g en) := by
  refine mc_of (by decide +kernel) (Nat.le_of_ble_eq_true rfl) ?_
  intro p e s m below meth c ls hC hr_ hlk hnm hE hA hP hS hl
  obtain ⟨hx, hb, hml, hown, hG⟩ := id hC
  have hl : lv_has ls 1 [(0, .ref (ad g (8, 0, 0)))] := hl
  refine lv_aload_n hx hb dX4_init_0 rfl (lv_at hl 0 rfl) ?_
  refine m_oinit hC w_21 hl.1 dX4_init_1 (Nat.le_of_ble_eq_true rfl) (Nat.le_of_ble_eq_true rfl) ?_
  refine lv_aload_n hx hb dX4_init_4 rfl (lv_at hl 0 rfl) ?_
  refine m_new hC hE hg hP hS (3, 0, 0) (k_3 (by decide)) rfl (ci := 1) rfl u_1 tyX1_ok w_24 w_25 w_2 [.null, .null, .null, .null, .null, .null, .int 0, .int 0, .int 0, .int 0, .int 0] (fun j hj => by have : j = 0 ∨ j = 1 ∨ j = 2 ∨ j = 3 ∨ j = 4 ∨ j = 5 ∨ j = 6 ∨ j = 7 ∨ j = 8 ∨ j = 9 ∨ j = 10 := (by omega); rcases this with rfl | rfl | rfl | rfl | rfl | rfl | rfl | rfl | rfl | rfl | rfl <;> rfl) (Nat.le_of_ble_eq_true rfl) (Nat.le_of_ble_eq_true rfl) dX4_init_5 (fun H hP hS => ?_)
  refine lv_dup hx hb dX4_init_8 rfl ?_
  refine run_I hC hE hA hP hS (As := []) (i_lake l hg (r := 0) (by decide) updE_same) w_2 w_27 w_28 rfl (by decide +kernel) w_26 ⟨Nat.le_of_ble_eq_true rfl, Nat.le_of_ble_eq_true rfl⟩ rfl rfl (Nat.le_of_ble_eq_true rfl) hl.1 ⟨Nat.le_of_ble_eq_true rfl, Nat.le_of_ble_eq_true rfl⟩ dX4_init_9 (fun H locs hP hS => ?_)
  refine m_putF hC hE (hg.ijn _) hP.1 hS hnm ⟨k_8, by decide⟩ ((LkE_no (by decide)).trans ((updE_ne (by decide)).trans he)) rfl u_4 tyX4_ok nmX4 0 (by decide) w_158 rfl rfl rfl rfl rfl (Nat.le_of_ble_eq_true rfl) (en' := updE (LkE g 0 (updE en (3, 0, 0) (.inr (1, [.null, .null, .null, .null, .null, .null, .int 0, .int 0, .int 0, .int 0, .int 0])))) (8, 0, 0) (.inr (4, [.ref (ad g (3, 0, 0)), .null]))) updE_same (fun j _ hj => updE_ne hj) dX4_init_12 (fun H locs z hP1 hS => ?_)
  replace hP := hP.put hP1 z
  refine lv_aload_n hx hb dX4_init_15 rfl (lv_at hl 0 rfl) ?_
  refine m_new hC hE hg hP hS (3, 1, 0) (k_3 (by decide)) rfl (ci := 1) rfl u_1 tyX1_ok w_24 w_25 w_2 [.null, .null, .null, .null, .null, .null, .int 0, .int 0, .int 0, .int 0, .int 0] (fun j hj => by have : j = 0 ∨ j = 1 ∨ j = 2 ∨ j = 3 ∨ j = 4 ∨ j = 5 ∨ j = 6 ∨ j = 7 ∨ j = 8 ∨ j = 9 ∨ j = 10 := (by omega); rcases this with rfl | rfl | rfl | rfl | rfl | rfl | rfl | rfl | rfl | rfl | rfl <;> rfl) (Nat.le_of_ble_eq_true rfl) (Nat.le_of_ble_eq_true rfl) dX4_init_16 (fun H hP hS => ?_)
  refine lv_dup hx hb dX4_init_19 rfl ?_
  refine run_I hC hE hA hP hS (As := []) (i_lake l hg (r := 1) (by decide) updE_same) w_2 w_27 w_28 rfl (by decide +kernel) w_26 ⟨Nat.le_of_ble_eq_true rfl, Nat.le_of_ble_eq_true rfl⟩ rfl rfl (Nat.le_of_ble_eq_true rfl) hl.1 ⟨Nat.le_of_ble_eq_true rfl, Nat.le_of_ble_eq_true rfl⟩ dX4_init_20 (fun H locs hP hS => ?_)
  refine m_putF hC hE (hg.ijn _) hP.1 hS hnm ⟨k_8, by decide⟩ ((LkE_no (by decide)).trans ((updE_ne (by decide)).trans updE_same)) rfl u_4 tyX4_ok nmX4 1 (by decide) w_159 rfl rfl rfl rfl rfl (Nat.le_of_ble_eq_true rfl) (en' := updE (LkE g 1 (updE (updE (LkE g 0 (updE en (3, 0, 0) (.inr (1, [.null, .null, .null, .null, .null, .null, .int 0, .int 0, .int 0, .int 0, .int 0])))) (8, 0, 0) (.inr (4, [.ref (ad g (3, 0, 0)), .null]))) (3, 1, 0) (.inr (1, [.null, .null, .null, .null, .null, .null, .int 0, .int 0, .int 0, .int 0, .int 0])))) (8, 0, 0) (.inr (4, [.ref (ad g (3, 0, 0)), .ref (ad g (3, 1, 0))]))) updE_same (fun j _ hj => updE_ne hj) dX4_init_23 (fun H locs z hP1 hS => ?_)
  replace hP := hP.put hP1 z
  exact mc_vret hC hr_ hlk hS hP dX4_init_26
