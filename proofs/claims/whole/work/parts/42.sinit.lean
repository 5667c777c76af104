/-! The constructor of a state of the reference. -/
theorem dX5_init_0 : decode cX5_init 0 = .ok (.aload_n 0, 1) := by decide +kernel
theorem dX5_init_1 : decode cX5_init 1 = .ok (.aload_n 1, 1) := by decide +kernel
theorem dX5_init_2 : decode cX5_init 2 = .ok (.putfield 3, 3) := by decide +kernel
theorem dX5_init_5 : decode cX5_init 5 = .ok (.aload_n 0, 1) := by decide +kernel
theorem dX5_init_6 : decode cX5_init 6 = .ok (.invokespecial 9, 3) := by decide +kernel
theorem dX5_init_9 : decode cX5_init 9 = .ok (.aload_n 0, 1) := by decide +kernel
theorem dX5_init_10 : decode cX5_init 10 = .ok (.bipush 20, 2) := by decide +kernel
theorem dX5_init_12 : decode cX5_init 12 = .ok (.putfield 15, 3) := by decide +kernel
theorem dX5_init_15 : decode cX5_init 15 = .ok (.aload_n 0, 1) := by decide +kernel
theorem dX5_init_16 : decode cX5_init 16 = .ok (.bipush 81, 2) := by decide +kernel
theorem dX5_init_18 : decode cX5_init 18 = .ok (.newarray .int, 2) := by decide +kernel
theorem dX5_init_20 : decode cX5_init 20 = .ok (.putfield 19, 3) := by decide +kernel
theorem dX5_init_23 : decode cX5_init 23 = .ok (.aload_n 0, 1) := by decide +kernel
theorem dX5_init_24 : decode cX5_init 24 = .ok (.bipush 12, 2) := by decide +kernel
theorem dX5_init_26 : decode cX5_init 26 = .ok (.newarray .int, 2) := by decide +kernel
theorem dX5_init_28 : decode cX5_init 28 = .ok (.putfield 23, 3) := by decide +kernel
theorem dX5_init_31 : decode cX5_init 31 = .ok (.aload_n 0, 1) := by decide +kernel
theorem dX5_init_32 : decode cX5_init 32 = .ok (.bipush 8, 2) := by decide +kernel
theorem dX5_init_34 : decode cX5_init 34 = .ok (.newarray .int, 2) := by decide +kernel
theorem dX5_init_36 : decode cX5_init 36 = .ok (.putfield 26, 3) := by decide +kernel
theorem dX5_init_39 : decode cX5_init 39 = .ok (.aload_n 0, 1) := by decide +kernel
theorem dX5_init_40 : decode cX5_init 40 = .ok (.bipush 8, 2) := by decide +kernel
theorem dX5_init_42 : decode cX5_init 42 = .ok (.newarray .int, 2) := by decide +kernel
theorem dX5_init_44 : decode cX5_init 44 = .ok (.putfield 29, 3) := by decide +kernel
theorem dX5_init_47 : decode cX5_init 47 = .ok (.aload_n 0, 1) := by decide +kernel
theorem dX5_init_48 : decode cX5_init 48 = .ok (.bipush 8, 2) := by decide +kernel
theorem dX5_init_50 : decode cX5_init 50 = .ok (.newarray .int, 2) := by decide +kernel
theorem dX5_init_52 : decode cX5_init 52 = .ok (.putfield 32, 3) := by decide +kernel
theorem dX5_init_55 : decode cX5_init 55 = .ok (.aload_n 0, 1) := by decide +kernel
theorem dX5_init_56 : decode cX5_init 56 = .ok (.bipush 8, 2) := by decide +kernel
theorem dX5_init_58 : decode cX5_init 58 = .ok (.newarray .int, 2) := by decide +kernel
theorem dX5_init_60 : decode cX5_init 60 = .ok (.putfield 35, 3) := by decide +kernel
theorem dX5_init_63 : decode cX5_init 63 = .ok (.aload_n 0, 1) := by decide +kernel
theorem dX5_init_64 : decode cX5_init 64 = .ok (.iconst 3, 1) := by decide +kernel
theorem dX5_init_65 : decode cX5_init 65 = .ok (.newarray .int, 2) := by decide +kernel
theorem dX5_init_67 : decode cX5_init 67 = .ok (.putfield 38, 3) := by decide +kernel
theorem dX5_init_70 : decode cX5_init 70 = .ok (.aload_n 0, 1) := by decide +kernel
theorem dX5_init_71 : decode cX5_init 71 = .ok (.iconst 3, 1) := by decide +kernel
theorem dX5_init_72 : decode cX5_init 72 = .ok (.newarray .int, 2) := by decide +kernel
theorem dX5_init_74 : decode cX5_init 74 = .ok (.putfield 41, 3) := by decide +kernel
theorem dX5_init_77 : decode cX5_init 77 = .ok (.aload_n 0, 1) := by decide +kernel
theorem dX5_init_78 : decode cX5_init 78 = .ok (.iconst 3, 1) := by decide +kernel
theorem dX5_init_79 : decode cX5_init 79 = .ok (.newarray .int, 2) := by decide +kernel
theorem dX5_init_81 : decode cX5_init 81 = .ok (.putfield 44, 3) := by decide +kernel
theorem dX5_init_84 : decode cX5_init 84 = .ok (.return_, 1) := by decide +kernel
def vM : Vw := fun c i => match c with
  | 1 => if i < 81 then 2 else 0
  | 2 => if i < 7 then 2 else 0
  | 16 => if i = 3 then 20 else 0
  | _ => 0
def StB (g : Gm) (q : Nat) (en : Key → va_E) : Key → va_E := fun k => if k.1 = 4 ∧ k.2.1 = q ∧ pv k.2.2 = true then ent g (fun _ => vM) (fun _ => 0) k else en k
theorem StB_in {g : Gm} {q : Nat} {en : Key → va_E} {c : Nat} (h : pv c = true) : StB g q en (4, q, c) = ent g (fun _ => vM) (fun _ => 0) (4, q, c) := if_pos ⟨rfl, rfl, h⟩
theorem StB_no {g : Gm} {q : Nat} {en : Key → va_E} {k : Key} (h : ¬ (k.1 = 4 ∧ k.2.1 = q ∧ pv k.2.2 = true)) : StB g q en k = en k := if_neg h
def StS (g : Gm) (q : Nat) (en : Key → va_E) (fs : List Value) : Key → va_E := updE (StB g q en) (9, q, 0) (.inr (5, fs))
theorem StS_9 {g : Gm} {q : Nat} {en : Key → va_E} {fs : List Value} : StS g q en fs (9, q, 0) = .inr (5, fs) := updE_same
theorem StS_no {g : Gm} {q : Nat} {en : Key → va_E} {fs : List Value} {k : Key} (h : k ≠ (9, q, 0)) : StS g q en fs k = StB g q en k := updE_ne h
theorem offS2 : ∀ c, c < 16 → pv c = true → 70 ≤ off (4, 2, c) := by decide +kernel
theorem offS3 : ∀ c, c < 16 → pv c = true → 80 ≤ off (4, 3, c) := by decide +kernel
theorem StS_start {g : Gm} {q n : Nat} (ho : ∀ c, c < 16 → pv c = true → n ≤ off (4, q, c)) {en : Key → va_E} {fs : List Value} {H : Heap} (h : WSz g n en H) (he : en (9, q, 0) = .inr (5, fs)) : WSz g n (StS g q en fs) H := by
  refine h.cast fun k hk => ?_
  by_cases z : k = (9, q, 0)
  · rw [z, StS_9, he]
  · rw [StS_no z, StB_no]
    rintro ⟨h1, h2, h3⟩
    obtain ⟨a, b, c⟩ := k
    simp only at h1 h2 h3
    subst h1; subst h2
    have := ho c (pv_16 c h3) h3
    have := hk.2
    omega
set_option maxHeartbeats 4000000 in
set_option maxRecDepth 100000 in
theorem i_state2 (l : Launch) {g : Gm} (hg : Gz g) {en : Key → va_E} (he : en (9, 2, 0) = .inr (5, [.int 0, .int 0, .null, .null, .null, .null, .null, .null, .null, .null, .null, .null])) : MC l yX5_init cX5_init 2 { frames := 2, cells := 9, slots := 134, locals := 30 } g 70 en [.ref (ad g (9, 2, 0)), .ref (ad g (10, 0, 0))] 79 (StS g 2 en [.int 0, .int 20, .ref (ad g (4, 2, 0)), .ref (ad g (4, 2, 5)), .ref (ad g (4, 2, 8)), .ref (ad g (4, 2, 9)), .ref (ad g (4, 2, 10)), .ref (ad g (4, 2, 11)), .ref (ad g (4, 2, 12)), .ref (ad g (4, 2, 13)), .ref (ad g (4, 2, 15)), .ref (ad g (10, 0, 0))]) := by
  refine mc_of (by decide +kernel) (Nat.le_of_ble_eq_true rfl) ?_
  intro p e s m below meth c ls hC hr_ hlk hnm hE hA hP hS hl
  obtain ⟨hx, hb, hml, hown, hG⟩ := id hC
  have hl : lv_has ls 2 [(0, .ref (ad g (9, 2, 0))), (1, .ref (ad g (10, 0, 0)))] := hl
  have hI0 : s.vm.findClass ("[" ++ (newarray.typeOf .int).toString) = some (gC g 0) := (hE.1.2 0 _ rfl).2
  have hP := StS_start offS2 hP he
  refine lv_aload_n hx hb dX5_init_0 rfl (lv_at hl 0 rfl) ?_
  refine lv_aload_n hx hb dX5_init_1 rfl (lv_at hl 1 rfl) ?_
  refine m_putF hC hE (hg.ijn _) hP.1 hS hnm ⟨k_9 (by decide), by decide⟩ StS_9 rfl u_5 tyX5_ok nmX5 11 (by decide) w_653 rfl rfl rfl rfl rfl (Nat.le_of_ble_eq_true rfl) (en' := StS g 2 en [.int 0, .int 0, .null, .null, .null, .null, .null, .null, .null, .null, .null, .ref (ad g (10, 0, 0))]) StS_9 (fun j _ hj => by rw [StS_no hj, StS_no hj]) dX5_init_2 (fun H locs z hP1 hS => ?_)
  replace hP := hP.put hP1 z
  refine lv_aload_n hx hb dX5_init_5 rfl (lv_at hl 0 rfl) ?_
  refine m_oinit hC w_630 hl.1 dX5_init_6 (Nat.le_of_ble_eq_true rfl) (Nat.le_of_ble_eq_true rfl) ?_
  refine lv_aload_n hx hb dX5_init_9 rfl (lv_at hl 0 rfl) ?_
  refine lv_bipush (v := 20) hx hb dX5_init_10 (by decide) ?_
  refine m_putS hC hE (hg.ijn _) hP.1 hS ⟨k_9 (by decide), by decide⟩ StS_9 rfl u_5 tyX5_ok nmX5 1 (by decide) w_633 rfl rfl rfl rfl (Nat.le_of_ble_eq_true rfl) (en' := StS g 2 en [.int 0, .int 20, .null, .null, .null, .null, .null, .null, .null, .null, .null, .ref (ad g (10, 0, 0))]) StS_9 (fun j _ hj => by rw [StS_no hj, StS_no hj]) dX5_init_12 (fun H locs z hP1 hS => ?_)
  replace hP := hP.put hP1 z
  refine lv_aload_n hx hb dX5_init_15 rfl (lv_at hl 0 rfl) ?_
  refine lv_bipush (v := 81) hx hb dX5_init_16 (by decide) ?_
  refine m_newa hC hg hP hS (4, 2, 0) (k_4s (by decide)) rfl (atype := .int) w_54 hI0 (N := 81) (a0 := (81, .inl (fun _ => 0))) rfl (by decide) (by decide) (by decide) (Nat.le_of_ble_eq_true rfl) (Nat.le_of_ble_eq_true rfl) dX5_init_18 (fun H hP hS => ?_)
  replace hP := hP.cast (en' := StS g 2 en [.int 0, .int 20, .null, .null, .null, .null, .null, .null, .null, .null, .null, .ref (ad g (10, 0, 0))]) (fun k _ => (updE_id (by rw [StS_no (by decide), StB_in rfl]; rfl) k).symm)
  refine m_putF hC hE (hg.ijn _) hP.1 hS hnm ⟨k_9 (by decide), by decide⟩ StS_9 rfl u_5 tyX5_ok nmX5 2 (by decide) w_635 rfl rfl rfl rfl rfl (Nat.le_of_ble_eq_true rfl) (en' := StS g 2 en [.int 0, .int 20, .ref (ad g (4, 2, 0)), .null, .null, .null, .null, .null, .null, .null, .null, .ref (ad g (10, 0, 0))]) StS_9 (fun j _ hj => by rw [StS_no hj, StS_no hj]) dX5_init_20 (fun H locs z hP1 hS => ?_)
  replace hP := hP.put hP1 z
  refine lv_aload_n hx hb dX5_init_23 rfl (lv_at hl 0 rfl) ?_
  refine lv_bipush (v := 12) hx hb dX5_init_24 (by decide) ?_
  refine m_newa hC hg hP hS (4, 2, 5) (k_4s (by decide)) rfl (atype := .int) w_54 hI0 (N := 12) (a0 := (12, .inl (fun _ => 0))) rfl (by decide) (by decide) (by decide) (Nat.le_of_ble_eq_true rfl) (Nat.le_of_ble_eq_true rfl) dX5_init_26 (fun H hP hS => ?_)
  replace hP := hP.cast (en' := StS g 2 en [.int 0, .int 20, .ref (ad g (4, 2, 0)), .null, .null, .null, .null, .null, .null, .null, .null, .ref (ad g (10, 0, 0))]) (fun k _ => (updE_id (by rw [StS_no (by decide), StB_in rfl]; rfl) k).symm)
  refine m_putF hC hE (hg.ijn _) hP.1 hS hnm ⟨k_9 (by decide), by decide⟩ StS_9 rfl u_5 tyX5_ok nmX5 3 (by decide) w_637 rfl rfl rfl rfl rfl (Nat.le_of_ble_eq_true rfl) (en' := StS g 2 en [.int 0, .int 20, .ref (ad g (4, 2, 0)), .ref (ad g (4, 2, 5)), .null, .null, .null, .null, .null, .null, .null, .ref (ad g (10, 0, 0))]) StS_9 (fun j _ hj => by rw [StS_no hj, StS_no hj]) dX5_init_28 (fun H locs z hP1 hS => ?_)
  replace hP := hP.put hP1 z
  refine lv_aload_n hx hb dX5_init_31 rfl (lv_at hl 0 rfl) ?_
  refine lv_bipush (v := 8) hx hb dX5_init_32 (by decide) ?_
  refine m_newa hC hg hP hS (4, 2, 8) (k_4s (by decide)) rfl (atype := .int) w_54 hI0 (N := 8) (a0 := (8, .inl (fun _ => 0))) rfl (by decide) (by decide) (by decide) (Nat.le_of_ble_eq_true rfl) (Nat.le_of_ble_eq_true rfl) dX5_init_34 (fun H hP hS => ?_)
  replace hP := hP.cast (en' := StS g 2 en [.int 0, .int 20, .ref (ad g (4, 2, 0)), .ref (ad g (4, 2, 5)), .null, .null, .null, .null, .null, .null, .null, .ref (ad g (10, 0, 0))]) (fun k _ => (updE_id (by rw [StS_no (by decide), StB_in rfl]; rfl) k).symm)
  refine m_putF hC hE (hg.ijn _) hP.1 hS hnm ⟨k_9 (by decide), by decide⟩ StS_9 rfl u_5 tyX5_ok nmX5 4 (by decide) w_639 rfl rfl rfl rfl rfl (Nat.le_of_ble_eq_true rfl) (en' := StS g 2 en [.int 0, .int 20, .ref (ad g (4, 2, 0)), .ref (ad g (4, 2, 5)), .ref (ad g (4, 2, 8)), .null, .null, .null, .null, .null, .null, .ref (ad g (10, 0, 0))]) StS_9 (fun j _ hj => by rw [StS_no hj, StS_no hj]) dX5_init_36 (fun H locs z hP1 hS => ?_)
  replace hP := hP.put hP1 z
  refine lv_aload_n hx hb dX5_init_39 rfl (lv_at hl 0 rfl) ?_
  refine lv_bipush (v := 8) hx hb dX5_init_40 (by decide) ?_
  refine m_newa hC hg hP hS (4, 2, 9) (k_4s (by decide)) rfl (atype := .int) w_54 hI0 (N := 8) (a0 := (8, .inl (fun _ => 0))) rfl (by decide) (by decide) (by decide) (Nat.le_of_ble_eq_true rfl) (Nat.le_of_ble_eq_true rfl) dX5_init_42 (fun H hP hS => ?_)
  replace hP := hP.cast (en' := StS g 2 en [.int 0, .int 20, .ref (ad g (4, 2, 0)), .ref (ad g (4, 2, 5)), .ref (ad g (4, 2, 8)), .null, .null, .null, .null, .null, .null, .ref (ad g (10, 0, 0))]) (fun k _ => (updE_id (by rw [StS_no (by decide), StB_in rfl]; rfl) k).symm)
  refine m_putF hC hE (hg.ijn _) hP.1 hS hnm ⟨k_9 (by decide), by decide⟩ StS_9 rfl u_5 tyX5_ok nmX5 5 (by decide) w_641 rfl rfl rfl rfl rfl (Nat.le_of_ble_eq_true rfl) (en' := StS g 2 en [.int 0, .int 20, .ref (ad g (4, 2, 0)), .ref (ad g (4, 2, 5)), .ref (ad g (4, 2, 8)), .ref (ad g (4, 2, 9)), .null, .null, .null, .null, .null, .ref (ad g (10, 0, 0))]) StS_9 (fun j _ hj => by rw [StS_no hj, StS_no hj]) dX5_init_44 (fun H locs z hP1 hS => ?_)
  replace hP := hP.put hP1 z
  refine lv_aload_n hx hb dX5_init_47 rfl (lv_at hl 0 rfl) ?_
  refine lv_bipush (v := 8) hx hb dX5_init_48 (by decide) ?_
  refine m_newa hC hg hP hS (4, 2, 10) (k_4s (by decide)) rfl (atype := .int) w_54 hI0 (N := 8) (a0 := (8, .inl (fun _ => 0))) rfl (by decide) (by decide) (by decide) (Nat.le_of_ble_eq_true rfl) (Nat.le_of_ble_eq_true rfl) dX5_init_50 (fun H hP hS => ?_)
  replace hP := hP.cast (en' := StS g 2 en [.int 0, .int 20, .ref (ad g (4, 2, 0)), .ref (ad g (4, 2, 5)), .ref (ad g (4, 2, 8)), .ref (ad g (4, 2, 9)), .null, .null, .null, .null, .null, .ref (ad g (10, 0, 0))]) (fun k _ => (updE_id (by rw [StS_no (by decide), StB_in rfl]; rfl) k).symm)
  refine m_putF hC hE (hg.ijn _) hP.1 hS hnm ⟨k_9 (by decide), by decide⟩ StS_9 rfl u_5 tyX5_ok nmX5 6 (by decide) w_643 rfl rfl rfl rfl rfl (Nat.le_of_ble_eq_true rfl) (en' := StS g 2 en [.int 0, .int 20, .ref (ad g (4, 2, 0)), .ref (ad g (4, 2, 5)), .ref (ad g (4, 2, 8)), .ref (ad g (4, 2, 9)), .ref (ad g (4, 2, 10)), .null, .null, .null, .null, .ref (ad g (10, 0, 0))]) StS_9 (fun j _ hj => by rw [StS_no hj, StS_no hj]) dX5_init_52 (fun H locs z hP1 hS => ?_)
  replace hP := hP.put hP1 z
  refine lv_aload_n hx hb dX5_init_55 rfl (lv_at hl 0 rfl) ?_
  refine lv_bipush (v := 8) hx hb dX5_init_56 (by decide) ?_
  refine m_newa hC hg hP hS (4, 2, 11) (k_4s (by decide)) rfl (atype := .int) w_54 hI0 (N := 8) (a0 := (8, .inl (fun _ => 0))) rfl (by decide) (by decide) (by decide) (Nat.le_of_ble_eq_true rfl) (Nat.le_of_ble_eq_true rfl) dX5_init_58 (fun H hP hS => ?_)
  replace hP := hP.cast (en' := StS g 2 en [.int 0, .int 20, .ref (ad g (4, 2, 0)), .ref (ad g (4, 2, 5)), .ref (ad g (4, 2, 8)), .ref (ad g (4, 2, 9)), .ref (ad g (4, 2, 10)), .null, .null, .null, .null, .ref (ad g (10, 0, 0))]) (fun k _ => (updE_id (by rw [StS_no (by decide), StB_in rfl]; rfl) k).symm)
  refine m_putF hC hE (hg.ijn _) hP.1 hS hnm ⟨k_9 (by decide), by decide⟩ StS_9 rfl u_5 tyX5_ok nmX5 7 (by decide) w_645 rfl rfl rfl rfl rfl (Nat.le_of_ble_eq_true rfl) (en' := StS g 2 en [.int 0, .int 20, .ref (ad g (4, 2, 0)), .ref (ad g (4, 2, 5)), .ref (ad g (4, 2, 8)), .ref (ad g (4, 2, 9)), .ref (ad g (4, 2, 10)), .ref (ad g (4, 2, 11)), .null, .null, .null, .ref (ad g (10, 0, 0))]) StS_9 (fun j _ hj => by rw [StS_no hj, StS_no hj]) dX5_init_60 (fun H locs z hP1 hS => ?_)
  replace hP := hP.put hP1 z
  refine lv_aload_n hx hb dX5_init_63 rfl (lv_at hl 0 rfl) ?_
  refine lv_iconst (v := 3) hx hb dX5_init_64 (by decide) ?_
  refine m_newa hC hg hP hS (4, 2, 12) (k_4s (by decide)) rfl (atype := .int) w_54 hI0 (N := 3) (a0 := (3, .inl (fun _ => 0))) rfl (by decide) (by decide) (by decide) (Nat.le_of_ble_eq_true rfl) (Nat.le_of_ble_eq_true rfl) dX5_init_65 (fun H hP hS => ?_)
  replace hP := hP.cast (en' := StS g 2 en [.int 0, .int 20, .ref (ad g (4, 2, 0)), .ref (ad g (4, 2, 5)), .ref (ad g (4, 2, 8)), .ref (ad g (4, 2, 9)), .ref (ad g (4, 2, 10)), .ref (ad g (4, 2, 11)), .null, .null, .null, .ref (ad g (10, 0, 0))]) (fun k _ => (updE_id (by rw [StS_no (by decide), StB_in rfl]; rfl) k).symm)
  refine m_putF hC hE (hg.ijn _) hP.1 hS hnm ⟨k_9 (by decide), by decide⟩ StS_9 rfl u_5 tyX5_ok nmX5 8 (by decide) w_647 rfl rfl rfl rfl rfl (Nat.le_of_ble_eq_true rfl) (en' := StS g 2 en [.int 0, .int 20, .ref (ad g (4, 2, 0)), .ref (ad g (4, 2, 5)), .ref (ad g (4, 2, 8)), .ref (ad g (4, 2, 9)), .ref (ad g (4, 2, 10)), .ref (ad g (4, 2, 11)), .ref (ad g (4, 2, 12)), .null, .null, .ref (ad g (10, 0, 0))]) StS_9 (fun j _ hj => by rw [StS_no hj, StS_no hj]) dX5_init_67 (fun H locs z hP1 hS => ?_)
  replace hP := hP.put hP1 z
  refine lv_aload_n hx hb dX5_init_70 rfl (lv_at hl 0 rfl) ?_
  refine lv_iconst (v := 3) hx hb dX5_init_71 (by decide) ?_
  refine m_newa hC hg hP hS (4, 2, 13) (k_4s (by decide)) rfl (atype := .int) w_54 hI0 (N := 3) (a0 := (3, .inl (fun _ => 0))) rfl (by decide) (by decide) (by decide) (Nat.le_of_ble_eq_true rfl) (Nat.le_of_ble_eq_true rfl) dX5_init_72 (fun H hP hS => ?_)
  replace hP := hP.cast (en' := StS g 2 en [.int 0, .int 20, .ref (ad g (4, 2, 0)), .ref (ad g (4, 2, 5)), .ref (ad g (4, 2, 8)), .ref (ad g (4, 2, 9)), .ref (ad g (4, 2, 10)), .ref (ad g (4, 2, 11)), .ref (ad g (4, 2, 12)), .null, .null, .ref (ad g (10, 0, 0))]) (fun k _ => (updE_id (by rw [StS_no (by decide), StB_in rfl]; rfl) k).symm)
  refine m_putF hC hE (hg.ijn _) hP.1 hS hnm ⟨k_9 (by decide), by decide⟩ StS_9 rfl u_5 tyX5_ok nmX5 9 (by decide) w_649 rfl rfl rfl rfl rfl (Nat.le_of_ble_eq_true rfl) (en' := StS g 2 en [.int 0, .int 20, .ref (ad g (4, 2, 0)), .ref (ad g (4, 2, 5)), .ref (ad g (4, 2, 8)), .ref (ad g (4, 2, 9)), .ref (ad g (4, 2, 10)), .ref (ad g (4, 2, 11)), .ref (ad g (4, 2, 12)), .ref (ad g (4, 2, 13)), .null, .ref (ad g (10, 0, 0))]) StS_9 (fun j _ hj => by rw [StS_no hj, StS_no hj]) dX5_init_74 (fun H locs z hP1 hS => ?_)
  replace hP := hP.put hP1 z
  refine lv_aload_n hx hb dX5_init_77 rfl (lv_at hl 0 rfl) ?_
  refine lv_iconst (v := 3) hx hb dX5_init_78 (by decide) ?_
  refine m_newa hC hg hP hS (4, 2, 15) (k_4s (by decide)) rfl (atype := .int) w_54 hI0 (N := 3) (a0 := (3, .inl (fun _ => 0))) rfl (by decide) (by decide) (by decide) (Nat.le_of_ble_eq_true rfl) (Nat.le_of_ble_eq_true rfl) dX5_init_79 (fun H hP hS => ?_)
  replace hP := hP.cast (en' := StS g 2 en [.int 0, .int 20, .ref (ad g (4, 2, 0)), .ref (ad g (4, 2, 5)), .ref (ad g (4, 2, 8)), .ref (ad g (4, 2, 9)), .ref (ad g (4, 2, 10)), .ref (ad g (4, 2, 11)), .ref (ad g (4, 2, 12)), .ref (ad g (4, 2, 13)), .null, .ref (ad g (10, 0, 0))]) (fun k _ => (updE_id (by rw [StS_no (by decide), StB_in rfl]; rfl) k).symm)
  refine m_putF hC hE (hg.ijn _) hP.1 hS hnm ⟨k_9 (by decide), by decide⟩ StS_9 rfl u_5 tyX5_ok nmX5 10 (by decide) w_651 rfl rfl rfl rfl rfl (Nat.le_of_ble_eq_true rfl) (en' := StS g 2 en [.int 0, .int 20, .ref (ad g (4, 2, 0)), .ref (ad g (4, 2, 5)), .ref (ad g (4, 2, 8)), .ref (ad g (4, 2, 9)), .ref (ad g (4, 2, 10)), .ref (ad g (4, 2, 11)), .ref (ad g (4, 2, 12)), .ref (ad g (4, 2, 13)), .ref (ad g (4, 2, 15)), .ref (ad g (10, 0, 0))]) StS_9 (fun j _ hj => by rw [StS_no hj, StS_no hj]) dX5_init_81 (fun H locs z hP1 hS => ?_)
  replace hP := hP.put hP1 z
  exact mc_vret hC hr_ hlk hS hP dX5_init_84
set_option maxHeartbeats 4000000 in
set_option maxRecDepth 100000 in
theorem i_state3 (l : Launch) {g : Gm} (hg : Gz g) {en : Key → va_E} (he : en (9, 3, 0) = .inr (5, [.int 0, .int 0, .null, .null, .null, .null, .null, .null, .null, .null, .null, .null])) : MC l yX5_init cX5_init 2 { frames := 2, cells := 9, slots := 134, locals := 30 } g 80 en [.ref (ad g (9, 3, 0)), .ref (ad g (10, 0, 0))] 89 (StS g 3 en [.int 0, .int 20, .ref (ad g (4, 3, 0)), .ref (ad g (4, 3, 5)), .ref (ad g (4, 3, 8)), .ref (ad g (4, 3, 9)), .ref (ad g (4, 3, 10)), .ref (ad g (4, 3, 11)), .ref (ad g (4, 3, 12)), .ref (ad g (4, 3, 13)), .ref (ad g (4, 3, 15)), .ref (ad g (10, 0, 0))]) := by
  refine mc_of (by decide +kernel) (Nat.le_of_ble_eq_true rfl) ?_
  intro p e s m below meth c ls hC hr_ hlk hnm hE hA hP hS hl
  obtain ⟨hx, hb, hml, hown, hG⟩ := id hC
  have hl : lv_has ls 2 [(0, .ref (ad g (9, 3, 0))), (1, .ref (ad g (10, 0, 0)))] := hl
  have hI0 : s.vm.findClass ("[" ++ (newarray.typeOf .int).toString) = some (gC g 0) := (hE.1.2 0 _ rfl).2
  have hP := StS_start offS3 hP he
  refine lv_aload_n hx hb dX5_init_0 rfl (lv_at hl 0 rfl) ?_
  refine lv_aload_n hx hb dX5_init_1 rfl (lv_at hl 1 rfl) ?_
  refine m_putF hC hE (hg.ijn _) hP.1 hS hnm ⟨k_9 (by decide), by decide⟩ StS_9 rfl u_5 tyX5_ok nmX5 11 (by decide) w_653 rfl rfl rfl rfl rfl (Nat.le_of_ble_eq_true rfl) (en' := StS g 3 en [.int 0, .int 0, .null, .null, .null, .null, .null, .null, .null, .null, .null, .ref (ad g (10, 0, 0))]) StS_9 (fun j _ hj => by rw [StS_no hj, StS_no hj]) dX5_init_2 (fun H locs z hP1 hS => ?_)
  replace hP := hP.put hP1 z
  refine lv_aload_n hx hb dX5_init_5 rfl (lv_at hl 0 rfl) ?_
  refine m_oinit hC w_630 hl.1 dX5_init_6 (Nat.le_of_ble_eq_true rfl) (Nat.le_of_ble_eq_true rfl) ?_
  refine lv_aload_n hx hb dX5_init_9 rfl (lv_at hl 0 rfl) ?_
  refine lv_bipush (v := 20) hx hb dX5_init_10 (by decide) ?_
  refine m_putS hC hE (hg.ijn _) hP.1 hS ⟨k_9 (by decide), by decide⟩ StS_9 rfl u_5 tyX5_ok nmX5 1 (by decide) w_633 rfl rfl rfl rfl (Nat.le_of_ble_eq_true rfl) (en' := StS g 3 en [.int 0, .int 20, .null, .null, .null, .null, .null, .null, .null, .null, .null, .ref (ad g (10, 0, 0))]) StS_9 (fun j _ hj => by rw [StS_no hj, StS_no hj]) dX5_init_12 (fun H locs z hP1 hS => ?_)
  replace hP := hP.put hP1 z
  refine lv_aload_n hx hb dX5_init_15 rfl (lv_at hl 0 rfl) ?_
  refine lv_bipush (v := 81) hx hb dX5_init_16 (by decide) ?_
  refine m_newa hC hg hP hS (4, 3, 0) (k_4p (by decide) rfl) rfl (atype := .int) w_54 hI0 (N := 81) (a0 := (81, .inl (fun _ => 0))) rfl (by decide) (by decide) (by decide) (Nat.le_of_ble_eq_true rfl) (Nat.le_of_ble_eq_true rfl) dX5_init_18 (fun H hP hS => ?_)
  replace hP := hP.cast (en' := StS g 3 en [.int 0, .int 20, .null, .null, .null, .null, .null, .null, .null, .null, .null, .ref (ad g (10, 0, 0))]) (fun k _ => (updE_id (by rw [StS_no (by decide), StB_in rfl]; rfl) k).symm)
  refine m_putF hC hE (hg.ijn _) hP.1 hS hnm ⟨k_9 (by decide), by decide⟩ StS_9 rfl u_5 tyX5_ok nmX5 2 (by decide) w_635 rfl rfl rfl rfl rfl (Nat.le_of_ble_eq_true rfl) (en' := StS g 3 en [.int 0, .int 20, .ref (ad g (4, 3, 0)), .null, .null, .null, .null, .null, .null, .null, .null, .ref (ad g (10, 0, 0))]) StS_9 (fun j _ hj => by rw [StS_no hj, StS_no hj]) dX5_init_20 (fun H locs z hP1 hS => ?_)
  replace hP := hP.put hP1 z
  refine lv_aload_n hx hb dX5_init_23 rfl (lv_at hl 0 rfl) ?_
  refine lv_bipush (v := 12) hx hb dX5_init_24 (by decide) ?_
  refine m_newa hC hg hP hS (4, 3, 5) (k_4p (by decide) rfl) rfl (atype := .int) w_54 hI0 (N := 12) (a0 := (12, .inl (fun _ => 0))) rfl (by decide) (by decide) (by decide) (Nat.le_of_ble_eq_true rfl) (Nat.le_of_ble_eq_true rfl) dX5_init_26 (fun H hP hS => ?_)
  replace hP := hP.cast (en' := StS g 3 en [.int 0, .int 20, .ref (ad g (4, 3, 0)), .null, .null, .null, .null, .null, .null, .null, .null, .ref (ad g (10, 0, 0))]) (fun k _ => (updE_id (by rw [StS_no (by decide), StB_in rfl]; rfl) k).symm)
  refine m_putF hC hE (hg.ijn _) hP.1 hS hnm ⟨k_9 (by decide), by decide⟩ StS_9 rfl u_5 tyX5_ok nmX5 3 (by decide) w_637 rfl rfl rfl rfl rfl (Nat.le_of_ble_eq_true rfl) (en' := StS g 3 en [.int 0, .int 20, .ref (ad g (4, 3, 0)), .ref (ad g (4, 3, 5)), .null, .null, .null, .null, .null, .null, .null, .ref (ad g (10, 0, 0))]) StS_9 (fun j _ hj => by rw [StS_no hj, StS_no hj]) dX5_init_28 (fun H locs z hP1 hS => ?_)
  replace hP := hP.put hP1 z
  refine lv_aload_n hx hb dX5_init_31 rfl (lv_at hl 0 rfl) ?_
  refine lv_bipush (v := 8) hx hb dX5_init_32 (by decide) ?_
  refine m_newa hC hg hP hS (4, 3, 8) (k_4p (by decide) rfl) rfl (atype := .int) w_54 hI0 (N := 8) (a0 := (8, .inl (fun _ => 0))) rfl (by decide) (by decide) (by decide) (Nat.le_of_ble_eq_true rfl) (Nat.le_of_ble_eq_true rfl) dX5_init_34 (fun H hP hS => ?_)
  replace hP := hP.cast (en' := StS g 3 en [.int 0, .int 20, .ref (ad g (4, 3, 0)), .ref (ad g (4, 3, 5)), .null, .null, .null, .null, .null, .null, .null, .ref (ad g (10, 0, 0))]) (fun k _ => (updE_id (by rw [StS_no (by decide), StB_in rfl]; rfl) k).symm)
  refine m_putF hC hE (hg.ijn _) hP.1 hS hnm ⟨k_9 (by decide), by decide⟩ StS_9 rfl u_5 tyX5_ok nmX5 4 (by decide) w_639 rfl rfl rfl rfl rfl (Nat.le_of_ble_eq_true rfl) (en' := StS g 3 en [.int 0, .int 20, .ref (ad g (4, 3, 0)), .ref (ad g (4, 3, 5)), .ref (ad g (4, 3, 8)), .null, .null, .null, .null, .null, .null, .ref (ad g (10, 0, 0))]) StS_9 (fun j _ hj => by rw [StS_no hj, StS_no hj]) dX5_init_36 (fun H locs z hP1 hS => ?_)
  replace hP := hP.put hP1 z
  refine lv_aload_n hx hb dX5_init_39 rfl (lv_at hl 0 rfl) ?_
  refine lv_bipush (v := 8) hx hb dX5_init_40 (by decide) ?_
  refine m_newa hC hg hP hS (4, 3, 9) (k_4p (by decide) rfl) rfl (atype := .int) w_54 hI0 (N := 8) (a0 := (8, .inl (fun _ => 0))) rfl (by decide) (by decide) (by decide) (Nat.le_of_ble_eq_true rfl) (Nat.le_of_ble_eq_true rfl) dX5_init_42 (fun H hP hS => ?_)
  replace hP := hP.cast (en' := StS g 3 en [.int 0, .int 20, .ref (ad g (4, 3, 0)), .ref (ad g (4, 3, 5)), .ref (ad g (4, 3, 8)), .null, .null, .null, .null, .null, .null, .ref (ad g (10, 0, 0))]) (fun k _ => (updE_id (by rw [StS_no (by decide), StB_in rfl]; rfl) k).symm)
  refine m_putF hC hE (hg.ijn _) hP.1 hS hnm ⟨k_9 (by decide), by decide⟩ StS_9 rfl u_5 tyX5_ok nmX5 5 (by decide) w_641 rfl rfl rfl rfl rfl (Nat.le_of_ble_eq_true rfl) (en' := StS g 3 en [.int 0, .int 20, .ref (ad g (4, 3, 0)), .ref (ad g (4, 3, 5)), .ref (ad g (4, 3, 8)), .ref (ad g (4, 3, 9)), .null, .null, .null, .null, .null, .ref (ad g (10, 0, 0))]) StS_9 (fun j _ hj => by rw [StS_no hj, StS_no hj]) dX5_init_44 (fun H locs z hP1 hS => ?_)
  replace hP := hP.put hP1 z
  refine lv_aload_n hx hb dX5_init_47 rfl (lv_at hl 0 rfl) ?_
  refine lv_bipush (v := 8) hx hb dX5_init_48 (by decide) ?_
  refine m_newa hC hg hP hS (4, 3, 10) (k_4p (by decide) rfl) rfl (atype := .int) w_54 hI0 (N := 8) (a0 := (8, .inl (fun _ => 0))) rfl (by decide) (by decide) (by decide) (Nat.le_of_ble_eq_true rfl) (Nat.le_of_ble_eq_true rfl) dX5_init_50 (fun H hP hS => ?_)
  replace hP := hP.cast (en' := StS g 3 en [.int 0, .int 20, .ref (ad g (4, 3, 0)), .ref (ad g (4, 3, 5)), .ref (ad g (4, 3, 8)), .ref (ad g (4, 3, 9)), .null, .null, .null, .null, .null, .ref (ad g (10, 0, 0))]) (fun k _ => (updE_id (by rw [StS_no (by decide), StB_in rfl]; rfl) k).symm)
  refine m_putF hC hE (hg.ijn _) hP.1 hS hnm ⟨k_9 (by decide), by decide⟩ StS_9 rfl u_5 tyX5_ok nmX5 6 (by decide) w_643 rfl rfl rfl rfl rfl (Nat.le_of_ble_eq_true rfl) (en' := StS g 3 en [.int 0, .int 20, .ref (ad g (4, 3, 0)), .ref (ad g (4, 3, 5)), .ref (ad g (4, 3, 8)), .ref (ad g (4, 3, 9)), .ref (ad g (4, 3, 10)), .null, .null, .null, .null, .ref (ad g (10, 0, 0))]) StS_9 (fun j _ hj => by rw [StS_no hj, StS_no hj]) dX5_init_52 (fun H locs z hP1 hS => ?_)
  replace hP := hP.put hP1 z
  refine lv_aload_n hx hb dX5_init_55 rfl (lv_at hl 0 rfl) ?_
  refine lv_bipush (v := 8) hx hb dX5_init_56 (by decide) ?_
  refine m_newa hC hg hP hS (4, 3, 11) (k_4p (by decide) rfl) rfl (atype := .int) w_54 hI0 (N := 8) (a0 := (8, .inl (fun _ => 0))) rfl (by decide) (by decide) (by decide) (Nat.le_of_ble_eq_true rfl) (Nat.le_of_ble_eq_true rfl) dX5_init_58 (fun H hP hS => ?_)
  replace hP := hP.cast (en' := StS g 3 en [.int 0, .int 20, .ref (ad g (4, 3, 0)), .ref (ad g (4, 3, 5)), .ref (ad g (4, 3, 8)), .ref (ad g (4, 3, 9)), .ref (ad g (4, 3, 10)), .null, .null, .null, .null, .ref (ad g (10, 0, 0))]) (fun k _ => (updE_id (by rw [StS_no (by decide), StB_in rfl]; rfl) k).symm)
  refine m_putF hC hE (hg.ijn _) hP.1 hS hnm ⟨k_9 (by decide), by decide⟩ StS_9 rfl u_5 tyX5_ok nmX5 7 (by decide) w_645 rfl rfl rfl rfl rfl (Nat.le_of_ble_eq_true rfl) (en' := StS g 3 en [.int 0, .int 20, .ref (ad g (4, 3, 0)), .ref (ad g (4, 3, 5)), .ref (ad g (4, 3, 8)), .ref (ad g (4, 3, 9)), .ref (ad g (4, 3, 10)), .ref (ad g (4, 3, 11)), .null, .null, .null, .ref (ad g (10, 0, 0))]) StS_9 (fun j _ hj => by rw [StS_no hj, StS_no hj]) dX5_init_60 (fun H locs z hP1 hS => ?_)
  replace hP := hP.put hP1 z
  refine lv_aload_n hx hb dX5_init_63 rfl (lv_at hl 0 rfl) ?_
  refine lv_iconst (v := 3) hx hb dX5_init_64 (by decide) ?_
  refine m_newa hC hg hP hS (4, 3, 12) (k_4p (by decide) rfl) rfl (atype := .int) w_54 hI0 (N := 3) (a0 := (3, .inl (fun _ => 0))) rfl (by decide) (by decide) (by decide) (Nat.le_of_ble_eq_true rfl) (Nat.le_of_ble_eq_true rfl) dX5_init_65 (fun H hP hS => ?_)
  replace hP := hP.cast (en' := StS g 3 en [.int 0, .int 20, .ref (ad g (4, 3, 0)), .ref (ad g (4, 3, 5)), .ref (ad g (4, 3, 8)), .ref (ad g (4, 3, 9)), .ref (ad g (4, 3, 10)), .ref (ad g (4, 3, 11)), .null, .null, .null, .ref (ad g (10, 0, 0))]) (fun k _ => (updE_id (by rw [StS_no (by decide), StB_in rfl]; rfl) k).symm)
  refine m_putF hC hE (hg.ijn _) hP.1 hS hnm ⟨k_9 (by decide), by decide⟩ StS_9 rfl u_5 tyX5_ok nmX5 8 (by decide) w_647 rfl rfl rfl rfl rfl (Nat.le_of_ble_eq_true rfl) (en' := StS g 3 en [.int 0, .int 20, .ref (ad g (4, 3, 0)), .ref (ad g (4, 3, 5)), .ref (ad g (4, 3, 8)), .ref (ad g (4, 3, 9)), .ref (ad g (4, 3, 10)), .ref (ad g (4, 3, 11)), .ref (ad g (4, 3, 12)), .null, .null, .ref (ad g (10, 0, 0))]) StS_9 (fun j _ hj => by rw [StS_no hj, StS_no hj]) dX5_init_67 (fun H locs z hP1 hS => ?_)
  replace hP := hP.put hP1 z
  refine lv_aload_n hx hb dX5_init_70 rfl (lv_at hl 0 rfl) ?_
  refine lv_iconst (v := 3) hx hb dX5_init_71 (by decide) ?_
  refine m_newa hC hg hP hS (4, 3, 13) (k_4p (by decide) rfl) rfl (atype := .int) w_54 hI0 (N := 3) (a0 := (3, .inl (fun _ => 0))) rfl (by decide) (by decide) (by decide) (Nat.le_of_ble_eq_true rfl) (Nat.le_of_ble_eq_true rfl) dX5_init_72 (fun H hP hS => ?_)
  replace hP := hP.cast (en' := StS g 3 en [.int 0, .int 20, .ref (ad g (4, 3, 0)), .ref (ad g (4, 3, 5)), .ref (ad g (4, 3, 8)), .ref (ad g (4, 3, 9)), .ref (ad g (4, 3, 10)), .ref (ad g (4, 3, 11)), .ref (ad g (4, 3, 12)), .null, .null, .ref (ad g (10, 0, 0))]) (fun k _ => (updE_id (by rw [StS_no (by decide), StB_in rfl]; rfl) k).symm)
  refine m_putF hC hE (hg.ijn _) hP.1 hS hnm ⟨k_9 (by decide), by decide⟩ StS_9 rfl u_5 tyX5_ok nmX5 9 (by decide) w_649 rfl rfl rfl rfl rfl (Nat.le_of_ble_eq_true rfl) (en' := StS g 3 en [.int 0, .int 20, .ref (ad g (4, 3, 0)), .ref (ad g (4, 3, 5)), .ref (ad g (4, 3, 8)), .ref (ad g (4, 3, 9)), .ref (ad g (4, 3, 10)), .ref (ad g (4, 3, 11)), .ref (ad g (4, 3, 12)), .ref (ad g (4, 3, 13)), .null, .ref (ad g (10, 0, 0))]) StS_9 (fun j _ hj => by rw [StS_no hj, StS_no hj]) dX5_init_74 (fun H locs z hP1 hS => ?_)
  replace hP := hP.put hP1 z
  refine lv_aload_n hx hb dX5_init_77 rfl (lv_at hl 0 rfl) ?_
  refine lv_iconst (v := 3) hx hb dX5_init_78 (by decide) ?_
  refine m_newa hC hg hP hS (4, 3, 15) (k_4p (by decide) rfl) rfl (atype := .int) w_54 hI0 (N := 3) (a0 := (3, .inl (fun _ => 0))) rfl (by decide) (by decide) (by decide) (Nat.le_of_ble_eq_true rfl) (Nat.le_of_ble_eq_true rfl) dX5_init_79 (fun H hP hS => ?_)
  replace hP := hP.cast (en' := StS g 3 en [.int 0, .int 20, .ref (ad g (4, 3, 0)), .ref (ad g (4, 3, 5)), .ref (ad g (4, 3, 8)), .ref (ad g (4, 3, 9)), .ref (ad g (4, 3, 10)), .ref (ad g (4, 3, 11)), .ref (ad g (4, 3, 12)), .ref (ad g (4, 3, 13)), .null, .ref (ad g (10, 0, 0))]) (fun k _ => (updE_id (by rw [StS_no (by decide), StB_in rfl]; rfl) k).symm)
  refine m_putF hC hE (hg.ijn _) hP.1 hS hnm ⟨k_9 (by decide), by decide⟩ StS_9 rfl u_5 tyX5_ok nmX5 10 (by decide) w_651 rfl rfl rfl rfl rfl (Nat.le_of_ble_eq_true rfl) (en' := StS g 3 en [.int 0, .int 20, .ref (ad g (4, 3, 0)), .ref (ad g (4, 3, 5)), .ref (ad g (4, 3, 8)), .ref (ad g (4, 3, 9)), .ref (ad g (4, 3, 10)), .ref (ad g (4, 3, 11)), .ref (ad g (4, 3, 12)), .ref (ad g (4, 3, 13)), .ref (ad g (4, 3, 15)), .ref (ad g (10, 0, 0))]) StS_9 (fun j _ hj => by rw [StS_no hj, StS_no hj]) dX5_init_81 (fun H locs z hP1 hS => ?_)
  replace hP := hP.put hP1 z
  exact mc_vret hC hr_ hlk hS hP dX5_init_84
