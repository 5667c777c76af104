/-! The constructor of a lake. -/
theorem dX1_init_0 : decode cX1_init 0 = .ok (.aload_n 0, 1) := by decide +kernel
theorem dX1_init_1 : decode cX1_init 1 = .ok (.invokespecial 3, 3) := by decide +kernel
theorem dX1_init_4 : decode cX1_init 4 = .ok (.aload_n 0, 1) := by decide +kernel
theorem dX1_init_5 : decode cX1_init 5 = .ok (.bipush 81, 2) := by decide +kernel
theorem dX1_init_7 : decode cX1_init 7 = .ok (.newarray .int, 2) := by decide +kernel
theorem dX1_init_9 : decode cX1_init 9 = .ok (.putfield 9, 3) := by decide +kernel
theorem dX1_init_12 : decode cX1_init 12 = .ok (.aload_n 0, 1) := by decide +kernel
theorem dX1_init_13 : decode cX1_init 13 = .ok (.bipush 81, 2) := by decide +kernel
theorem dX1_init_15 : decode cX1_init 15 = .ok (.newarray .int, 2) := by decide +kernel
theorem dX1_init_17 : decode cX1_init 17 = .ok (.putfield 15, 3) := by decide +kernel
theorem dX1_init_20 : decode cX1_init 20 = .ok (.iconst 0, 1) := by decide +kernel
theorem dX1_init_21 : decode cX1_init 21 = .ok (.istore_n 1, 1) := by decide +kernel
theorem dX1_init_22 : decode cX1_init 22 = .ok (.iload_n 1, 1) := by decide +kernel
theorem dX1_init_23 : decode cX1_init 23 = .ok (.bipush 81, 2) := by decide +kernel
theorem dX1_init_25 : decode cX1_init 25 = .ok (.if_icmp .ge 16, 3) := by decide +kernel
theorem dX1_init_28 : decode cX1_init 28 = .ok (.aload_n 0, 1) := by decide +kernel
theorem dX1_init_29 : decode cX1_init 29 = .ok (.getfield 15, 3) := by decide +kernel
theorem dX1_init_32 : decode cX1_init 32 = .ok (.iload_n 1, 1) := by decide +kernel
theorem dX1_init_33 : decode cX1_init 33 = .ok (.iconst 2, 1) := by decide +kernel
theorem dX1_init_34 : decode cX1_init 34 = .ok (.iastore, 1) := by decide +kernel
theorem dX1_init_35 : decode cX1_init 35 = .ok (.iinc 1 1, 3) := by decide +kernel
theorem dX1_init_38 : decode cX1_init 38 = .ok (.goto (-16), 3) := by decide +kernel
theorem dX1_init_41 : decode cX1_init 41 = .ok (.aload_n 0, 1) := by decide +kernel
theorem dX1_init_42 : decode cX1_init 42 = .ok (.bipush 7, 2) := by decide +kernel
theorem dX1_init_44 : decode cX1_init 44 = .ok (.newarray .int, 2) := by decide +kernel
theorem dX1_init_46 : decode cX1_init 46 = .ok (.putfield 18, 3) := by decide +kernel
theorem dX1_init_49 : decode cX1_init 49 = .ok (.iconst 0, 1) := by decide +kernel
theorem dX1_init_50 : decode cX1_init 50 = .ok (.istore_n 1, 1) := by decide +kernel
theorem dX1_init_51 : decode cX1_init 51 = .ok (.iload_n 1, 1) := by decide +kernel
theorem dX1_init_52 : decode cX1_init 52 = .ok (.bipush 7, 2) := by decide +kernel
theorem dX1_init_54 : decode cX1_init 54 = .ok (.if_icmp .ge 16, 3) := by decide +kernel
theorem dX1_init_57 : decode cX1_init 57 = .ok (.aload_n 0, 1) := by decide +kernel
theorem dX1_init_58 : decode cX1_init 58 = .ok (.getfield 18, 3) := by decide +kernel
theorem dX1_init_61 : decode cX1_init 61 = .ok (.iload_n 1, 1) := by decide +kernel
theorem dX1_init_62 : decode cX1_init 62 = .ok (.iconst 2, 1) := by decide +kernel
theorem dX1_init_63 : decode cX1_init 63 = .ok (.iastore, 1) := by decide +kernel
theorem dX1_init_64 : decode cX1_init 64 = .ok (.iinc 1 1, 3) := by decide +kernel
theorem dX1_init_67 : decode cX1_init 67 = .ok (.goto (-16), 3) := by decide +kernel
theorem dX1_init_70 : decode cX1_init 70 = .ok (.aload_n 0, 1) := by decide +kernel
theorem dX1_init_71 : decode cX1_init 71 = .ok (.bipush 12, 2) := by decide +kernel
theorem dX1_init_73 : decode cX1_init 73 = .ok (.anewarray 21, 3) := by decide +kernel
theorem dX1_init_76 : decode cX1_init 76 = .ok (.putfield 23, 3) := by decide +kernel
theorem dX1_init_79 : decode cX1_init 79 = .ok (.iconst 0, 1) := by decide +kernel
theorem dX1_init_80 : decode cX1_init 80 = .ok (.istore_n 1, 1) := by decide +kernel
theorem dX1_init_81 : decode cX1_init 81 = .ok (.iload_n 1, 1) := by decide +kernel
theorem dX1_init_82 : decode cX1_init 82 = .ok (.bipush 12, 2) := by decide +kernel
theorem dX1_init_84 : decode cX1_init 84 = .ok (.if_icmp .ge 22, 3) := by decide +kernel
theorem dX1_init_87 : decode cX1_init 87 = .ok (.aload_n 0, 1) := by decide +kernel
theorem dX1_init_88 : decode cX1_init 88 = .ok (.getfield 23, 3) := by decide +kernel
theorem dX1_init_91 : decode cX1_init 91 = .ok (.iload_n 1, 1) := by decide +kernel
theorem dX1_init_92 : decode cX1_init 92 = .ok (.new 21, 3) := by decide +kernel
theorem dX1_init_95 : decode cX1_init 95 = .ok (.dup, 1) := by decide +kernel
theorem dX1_init_96 : decode cX1_init 96 = .ok (.invokespecial 27, 3) := by decide +kernel
theorem dX1_init_99 : decode cX1_init 99 = .ok (.aastore, 1) := by decide +kernel
theorem dX1_init_100 : decode cX1_init 100 = .ok (.iinc 1 1, 3) := by decide +kernel
theorem dX1_init_103 : decode cX1_init 103 = .ok (.goto (-22), 3) := by decide +kernel
theorem dX1_init_106 : decode cX1_init 106 = .ok (.aload_n 0, 1) := by decide +kernel
theorem dX1_init_107 : decode cX1_init 107 = .ok (.bipush 8, 2) := by decide +kernel
theorem dX1_init_109 : decode cX1_init 109 = .ok (.anewarray 28, 3) := by decide +kernel
theorem dX1_init_112 : decode cX1_init 112 = .ok (.putfield 30, 3) := by decide +kernel
theorem dX1_init_115 : decode cX1_init 115 = .ok (.iconst 0, 1) := by decide +kernel
theorem dX1_init_116 : decode cX1_init 116 = .ok (.istore_n 1, 1) := by decide +kernel
theorem dX1_init_117 : decode cX1_init 117 = .ok (.iload_n 1, 1) := by decide +kernel
theorem dX1_init_118 : decode cX1_init 118 = .ok (.bipush 8, 2) := by decide +kernel
theorem dX1_init_120 : decode cX1_init 120 = .ok (.if_icmp .ge 22, 3) := by decide +kernel
theorem dX1_init_123 : decode cX1_init 123 = .ok (.aload_n 0, 1) := by decide +kernel
theorem dX1_init_124 : decode cX1_init 124 = .ok (.getfield 30, 3) := by decide +kernel
theorem dX1_init_127 : decode cX1_init 127 = .ok (.iload_n 1, 1) := by decide +kernel
theorem dX1_init_128 : decode cX1_init 128 = .ok (.new 28, 3) := by decide +kernel
theorem dX1_init_131 : decode cX1_init 131 = .ok (.dup, 1) := by decide +kernel
theorem dX1_init_132 : decode cX1_init 132 = .ok (.invokespecial 34, 3) := by decide +kernel
theorem dX1_init_135 : decode cX1_init 135 = .ok (.aastore, 1) := by decide +kernel
theorem dX1_init_136 : decode cX1_init 136 = .ok (.iinc 1 1, 3) := by decide +kernel
theorem dX1_init_139 : decode cX1_init 139 = .ok (.goto (-22), 3) := by decide +kernel
theorem dX1_init_142 : decode cX1_init 142 = .ok (.aload_n 0, 1) := by decide +kernel
theorem dX1_init_143 : decode cX1_init 143 = .ok (.iconst 3, 1) := by decide +kernel
theorem dX1_init_144 : decode cX1_init 144 = .ok (.anewarray 35, 3) := by decide +kernel
theorem dX1_init_147 : decode cX1_init 147 = .ok (.putfield 37, 3) := by decide +kernel
theorem dX1_init_150 : decode cX1_init 150 = .ok (.iconst 0, 1) := by decide +kernel
theorem dX1_init_151 : decode cX1_init 151 = .ok (.istore_n 1, 1) := by decide +kernel
theorem dX1_init_152 : decode cX1_init 152 = .ok (.iload_n 1, 1) := by decide +kernel
theorem dX1_init_153 : decode cX1_init 153 = .ok (.iconst 3, 1) := by decide +kernel
theorem dX1_init_154 : decode cX1_init 154 = .ok (.if_icmp .ge 22, 3) := by decide +kernel
theorem dX1_init_157 : decode cX1_init 157 = .ok (.aload_n 0, 1) := by decide +kernel
theorem dX1_init_158 : decode cX1_init 158 = .ok (.getfield 37, 3) := by decide +kernel
theorem dX1_init_161 : decode cX1_init 161 = .ok (.iload_n 1, 1) := by decide +kernel
theorem dX1_init_162 : decode cX1_init 162 = .ok (.new 35, 3) := by decide +kernel
theorem dX1_init_165 : decode cX1_init 165 = .ok (.dup, 1) := by decide +kernel
theorem dX1_init_166 : decode cX1_init 166 = .ok (.invokespecial 41, 3) := by decide +kernel
theorem dX1_init_169 : decode cX1_init 169 = .ok (.aastore, 1) := by decide +kernel
theorem dX1_init_170 : decode cX1_init 170 = .ok (.iinc 1 1, 3) := by decide +kernel
theorem dX1_init_173 : decode cX1_init 173 = .ok (.goto (-21), 3) := by decide +kernel
theorem dX1_init_176 : decode cX1_init 176 = .ok (.aload_n 0, 1) := by decide +kernel
theorem dX1_init_177 : decode cX1_init 177 = .ok (.bipush 20, 2) := by decide +kernel
theorem dX1_init_179 : decode cX1_init 179 = .ok (.putfield 42, 3) := by decide +kernel
theorem dX1_init_182 : decode cX1_init 182 = .ok (.return_, 1) := by decide +kernel
theorem WSz_full {g : Gm} {n N : Nat} {en : Key → va_E} {k0 : Key} {cA : ClassId} {f : Nat → Nat} {H : Heap} (h0 : en k0 = .inl (cA, N, .inr (.inr (.inr (.inr (fun i => some (f i))))))) (h : WSz g n (updE en k0 (.inl (cA, N, .inr (.inr (.inr (.inr (fqo f N))))))) H) : WSz g n en H := by
  refine ⟨fun k hk => ?_, h.2⟩
  have h1 := h.1 k hk
  by_cases q : k = k0
  · rw [q, updE_same] at h1
    rw [q, h0]
    exact fqo_full h1
  · rw [updE_ne q] at h1
    exact h1
abbrev rm3 (f lo : Nat) : Room := { frames := f, cells := 29, slots := 288, locals := lo }
set_option maxHeartbeats 4000000 in
set_option maxRecDepth 100000 in
theorem i_lake (l : Launch) {g : Gm} (hg : Gz g) {r : Nat} (hr : r < 2) {en : Key → va_E} (he : en (3, r, 0) = .inr (1, [.null, .null, .null, .null, .null, .null, .int 0, .int 0, .int 0, .int 0, .int 0])) : MC l yX1_init cX1_init 2 (rm3 3 50) g (2 + 30 * r) en [.ref (ad g (3, r, 0))] (31 + 30 * r) (LkE g r en) := by
  refine mc_of (by decide +kernel) (Nat.le_of_ble_eq_true rfl) ?_
  intro p e s m below meth c ls hC hr_ hlk hnm hE hA hP hS hl
  obtain ⟨hx, hb, hml, hown, hG⟩ := id hC
  have hl : lv_has ls 2 [(0, .ref (ad g (3, r, 0)))] := hl
  have hI0 : s.vm.findClass ("[" ++ (newarray.typeOf .int).toString) = some (gC g 0) := (hE.1.2 0 _ rfl).2
  have hP := LkS_start hr hP he
  refine lv_aload_n hx hb dX1_init_0 rfl (lv_at hl 0 rfl) ?_
  refine m_oinit hC w_29 hl.1 dX1_init_1 (Nat.le_of_ble_eq_true rfl) (Nat.le_of_ble_eq_true rfl) ?_
  refine lv_aload_n hx hb dX1_init_4 rfl (lv_at hl 0 rfl) ?_
  refine lv_bipush (v := 81) hx hb dX1_init_5 (by decide) ?_
  refine m_newa hC hg hP hS (4, r, 0) (k_4 hr (by decide)) rfl (atype := .int) w_53 hI0 (N := 81) (a0 := (81, .inl (fun _ => 0))) rfl (by decide) (by decide) (by decide) (by show 0 + 1 ≤ 29; decide) (by show 0 + 81 ≤ 288; decide) dX1_init_7 (fun H hP hS => ?_)
  replace hP := hP.cast (en' := LkS g r en [.null, .null, .null, .null, .null, .null, .int 0, .int 0, .int 0, .int 0, .int 0]) (fun k _ => (updE_id (by rw [LkS_no (by intro h; simp at h), LkE_in (by decide)]; rfl) k).symm)
  replace hP := hP.n (n' := 2 + 30 * r + 1) (by omega)
  refine m_putF hC hE (hg.ijn _) hP.1 hS hnm ⟨k_3 hr, by show off (3, r, 0) < _; simp [off, hr] <;> omega⟩ LkS_3 rfl u_1 tyX1_ok nmX1 0 (by decide) w_113 rfl rfl rfl rfl rfl (Nat.le_of_ble_eq_true rfl) (en' := LkS g r en [.ref (ad g (4, r, 0)), .null, .null, .null, .null, .null, .int 0, .int 0, .int 0, .int 0, .int 0]) LkS_3 (fun j _ hj => by rw [LkS_no hj, LkS_no hj]) dX1_init_9 (fun H locs z hP1 hS => ?_)
  replace hP := hP.put hP1 z
  refine lv_aload_n hx hb dX1_init_12 rfl (lv_at hl 0 rfl) ?_
  refine lv_bipush (v := 81) hx hb dX1_init_13 (by decide) ?_
  refine m_newa hC hg hP hS (4, r, 1) (k_4 hr (by decide)) rfl (atype := .int) w_53 hI0 (N := 81) (a0 := (81, .inl (fun _ => 0))) rfl (by decide) (by decide) (by decide) (by show 0 + 1 + 1 ≤ 29; decide) (by show 0 + 81 + 81 ≤ 288; decide) dX1_init_15 (fun H hP hS => ?_)
  replace hP := hP.cast (en' := updE (LkS g r en [.ref (ad g (4, r, 0)), .null, .null, .null, .null, .null, .int 0, .int 0, .int 0, .int 0, .int 0]) (4, r, 1) (.inl (gC g 0, 81, .inl (fl2 0)))) (fun k _ => by rw [fl2_0])
  replace hP := hP.n (n' := 2 + 30 * r + 2) (by omega)
  refine m_putF hC hE (hg.ijn _) hP.1 hS hnm ⟨k_3 hr, by show off (3, r, 0) < _; simp [off, hr] <;> omega⟩ (by rw [updE_ne (by intro h; simp at h)]; exact LkS_3) rfl u_1 tyX1_ok nmX1 1 (by decide) w_115 rfl rfl rfl rfl rfl (Nat.le_of_ble_eq_true rfl) (en' := updE (LkS g r en [.ref (ad g (4, r, 0)), .ref (ad g (4, r, 1)), .null, .null, .null, .null, .int 0, .int 0, .int 0, .int 0, .int 0]) (4, r, 1) (.inl (gC g 0, 81, .inl (fl2 0)))) (by rw [updE_ne (by intro h; simp at h)]; exact LkS_3) (fun j _ hj => by unfold updE; split; rfl; rw [LkS_no hj, LkS_no hj]) dX1_init_17 (fun H locs z hP1 hS => ?_)
  replace hP := hP.put hP1 z
  refine lv_iconst (v := 0) hx hb dX1_init_20 (by decide) ?_
  refine lv_istore_n (lv' := [(1, .int (nI 0)), (0, .ref (ad g (3, r, 0)))]) hx hb dX1_init_21 rfl hl (by decide) rfl (fun ls hl => ?_)
  refine lp_up (P := fun i => ∀ (H : Heap) (locs : List Loc) (ls : Array Slot), WSz g (2 + 30 * r + 2) (updE (LkS g r en [.ref (ad g (4, r, 0)), .ref (ad g (4, r, 1)), .null, .null, .null, .null, .int 0, .int 0, .int 0, .int 0, .int 0]) (4, r, 1) (.inl (gC g 0, 81, .inl (fl2 i)))) H → va_S (AA g) s.heap H locs → lv_has ls 2 [(1, .int (nI i)), (0, .ref (ad g (3, r, 0)))] → W p l e (rm3 3 50) s m ([.ref (ad g (3, r, 0))] : List Value).toArray below meth c H locs (0 + 1 + 1) (0 + 81 + 81) (MQ below (Qz g (31 + 30 * r) (LkE g r en)) ([.ref (ad g (3, r, 0))] : List Value).toArray s 29 288 (AA g)) (F0 m 22 ls [])) 81 ?hx22 ?hs22 0 (Nat.zero_le _) H locs ls hP hS hl
  case hs22 =>
    intro i hi IH H locs ls hP hS hl
    refine lv_iload_n hx hb dX1_init_22 rfl (lv_at hl 0 rfl) ?_
    refine lv_bipush (v := 81) hx hb dX1_init_23 (by decide) ?_
    refine lv_icmp_ge (tgt := 41) hx hb dX1_init_25 (by decide) (fun c1 => absurd c1 (nI_ge (b := 81) hi (by decide))) (fun c1 => ?_)
    refine lv_aload_n hx hb dX1_init_28 rfl (lv_at hl 1 rfl) ?_
    refine m_get hC hE hP.1 ⟨k_3 hr, by show off (3, r, 0) < _; simp [off, hr] <;> omega⟩ (by rw [updE_ne (by intro h; simp at h)]; exact LkS_3) rfl u_1 1 (by decide) w_115 rfl rfl dX1_init_29 ?_
    refine lv_iload_n hx hb dX1_init_32 rfl (lv_at hl 0 rfl) ?_
    refine lv_iconst (v := 2) hx hb dX1_init_33 (by decide) ?_
    refine m_iastS hC hE (hg.ijn _) hP.1 hS ⟨k_4 hr (by decide), by show off (4, r, 1) < _; simp [off, hr] <;> omega⟩ updE_same i rfl hi (by decide) (en' := updE (LkS g r en [.ref (ad g (4, r, 0)), .ref (ad g (4, r, 1)), .null, .null, .null, .null, .int 0, .int 0, .int 0, .int 0, .int 0]) (4, r, 1) (.inl (gC g 0, 81, .inl (fl2 (i + 1))))) (by rw [updE_same, fl2_s]) (fun j _ hj => by rw [updE_ne hj, updE_ne hj]) dX1_init_34 (fun H locs z hP1 hS => ?_)
    replace hP := hP.put hP1 z
    refine lv_iinc (v := nI (i + 1)) (lv' := [(1, .int (nI (i + 1))), (0, .ref (ad g (3, r, 0)))]) hx hb dX1_init_35 hl (k := 0) rfl (nI_1 _) (by decide) rfl (fun ls hl => ?_)
    refine lv_goto (tgt := 22) hx hb dX1_init_38 (by decide) ?_
    exact IH H locs ls hP hS hl
  intro H locs ls hP hS hl
  refine lv_iload_n hx hb dX1_init_22 rfl (lv_at hl 0 rfl) ?_
  refine lv_bipush (v := 81) hx hb dX1_init_23 (by decide) ?_
  refine lv_icmp_ge (tgt := 41) hx hb dX1_init_25 (by decide) (fun c1 => ?_) (fun c1 => absurd (nI_le (Nat.le_refl _) (by decide)) c1)
  replace hP := hP.cast (en' := LkS g r en [.ref (ad g (4, r, 0)), .ref (ad g (4, r, 1)), .null, .null, .null, .null, .int 0, .int 0, .int 0, .int 0, .int 0]) (fun k _ => (updE_id (by rw [LkS_no (by intro h; simp at h), LkE_in (by decide)]; rfl) k).symm)
  refine lv_aload_n hx hb dX1_init_41 rfl (lv_at hl 1 rfl) ?_
  refine lv_bipush (v := 7) hx hb dX1_init_42 (by decide) ?_
  refine m_newa hC hg hP hS (4, r, 2) (k_4 hr (by decide)) rfl (atype := .int) w_53 hI0 (N := 7) (a0 := (7, .inl (fun _ => 0))) rfl (by decide) (by decide) (by decide) (by show 0 + 1 + 1 + 1 ≤ 29; decide) (by show 0 + 81 + 81 + 7 ≤ 288; decide) dX1_init_44 (fun H hP hS => ?_)
  replace hP := hP.cast (en' := updE (LkS g r en [.ref (ad g (4, r, 0)), .ref (ad g (4, r, 1)), .null, .null, .null, .null, .int 0, .int 0, .int 0, .int 0, .int 0]) (4, r, 2) (.inl (gC g 0, 7, .inl (fl2 0)))) (fun k _ => by rw [fl2_0])
  replace hP := hP.n (n' := 2 + 30 * r + 3) (by omega)
  refine m_putF hC hE (hg.ijn _) hP.1 hS hnm ⟨k_3 hr, by show off (3, r, 0) < _; simp [off, hr] <;> omega⟩ (by rw [updE_ne (by intro h; simp at h)]; exact LkS_3) rfl u_1 tyX1_ok nmX1 2 (by decide) w_117 rfl rfl rfl rfl rfl (Nat.le_of_ble_eq_true rfl) (en' := updE (LkS g r en [.ref (ad g (4, r, 0)), .ref (ad g (4, r, 1)), .ref (ad g (4, r, 2)), .null, .null, .null, .int 0, .int 0, .int 0, .int 0, .int 0]) (4, r, 2) (.inl (gC g 0, 7, .inl (fl2 0)))) (by rw [updE_ne (by intro h; simp at h)]; exact LkS_3) (fun j _ hj => by unfold updE; split; rfl; rw [LkS_no hj, LkS_no hj]) dX1_init_46 (fun H locs z hP1 hS => ?_)
  replace hP := hP.put hP1 z
  refine lv_iconst (v := 0) hx hb dX1_init_49 (by decide) ?_
  refine lv_istore_n (lv' := [(1, .int (nI 0)), (0, .ref (ad g (3, r, 0)))]) hx hb dX1_init_50 rfl hl (by decide) rfl (fun ls hl => ?_)
  refine lp_up (P := fun i => ∀ (H : Heap) (locs : List Loc) (ls : Array Slot), WSz g (2 + 30 * r + 3) (updE (LkS g r en [.ref (ad g (4, r, 0)), .ref (ad g (4, r, 1)), .ref (ad g (4, r, 2)), .null, .null, .null, .int 0, .int 0, .int 0, .int 0, .int 0]) (4, r, 2) (.inl (gC g 0, 7, .inl (fl2 i)))) H → va_S (AA g) s.heap H locs → lv_has ls 2 [(1, .int (nI i)), (0, .ref (ad g (3, r, 0)))] → W p l e (rm3 3 50) s m ([.ref (ad g (3, r, 0))] : List Value).toArray below meth c H locs (0 + 1 + 1 + 1) (0 + 81 + 81 + 7) (MQ below (Qz g (31 + 30 * r) (LkE g r en)) ([.ref (ad g (3, r, 0))] : List Value).toArray s 29 288 (AA g)) (F0 m 51 ls [])) 7 ?hx51 ?hs51 0 (Nat.zero_le _) H locs ls hP hS hl
  case hs51 =>
    intro i hi IH H locs ls hP hS hl
    refine lv_iload_n hx hb dX1_init_51 rfl (lv_at hl 0 rfl) ?_
    refine lv_bipush (v := 7) hx hb dX1_init_52 (by decide) ?_
    refine lv_icmp_ge (tgt := 70) hx hb dX1_init_54 (by decide) (fun c1 => absurd c1 (nI_ge (b := 7) hi (by decide))) (fun c1 => ?_)
    refine lv_aload_n hx hb dX1_init_57 rfl (lv_at hl 1 rfl) ?_
    refine m_get hC hE hP.1 ⟨k_3 hr, by show off (3, r, 0) < _; simp [off, hr] <;> omega⟩ (by rw [updE_ne (by intro h; simp at h)]; exact LkS_3) rfl u_1 2 (by decide) w_117 rfl rfl dX1_init_58 ?_
    refine lv_iload_n hx hb dX1_init_61 rfl (lv_at hl 0 rfl) ?_
    refine lv_iconst (v := 2) hx hb dX1_init_62 (by decide) ?_
    refine m_iastS hC hE (hg.ijn _) hP.1 hS ⟨k_4 hr (by decide), by show off (4, r, 2) < _; simp [off, hr] <;> omega⟩ updE_same i rfl hi (by decide) (en' := updE (LkS g r en [.ref (ad g (4, r, 0)), .ref (ad g (4, r, 1)), .ref (ad g (4, r, 2)), .null, .null, .null, .int 0, .int 0, .int 0, .int 0, .int 0]) (4, r, 2) (.inl (gC g 0, 7, .inl (fl2 (i + 1))))) (by rw [updE_same, fl2_s]) (fun j _ hj => by rw [updE_ne hj, updE_ne hj]) dX1_init_63 (fun H locs z hP1 hS => ?_)
    replace hP := hP.put hP1 z
    refine lv_iinc (v := nI (i + 1)) (lv' := [(1, .int (nI (i + 1))), (0, .ref (ad g (3, r, 0)))]) hx hb dX1_init_64 hl (k := 0) rfl (nI_1 _) (by decide) rfl (fun ls hl => ?_)
    refine lv_goto (tgt := 51) hx hb dX1_init_67 (by decide) ?_
    exact IH H locs ls hP hS hl
  intro H locs ls hP hS hl
  refine lv_iload_n hx hb dX1_init_51 rfl (lv_at hl 0 rfl) ?_
  refine lv_bipush (v := 7) hx hb dX1_init_52 (by decide) ?_
  refine lv_icmp_ge (tgt := 70) hx hb dX1_init_54 (by decide) (fun c1 => ?_) (fun c1 => absurd (nI_le (Nat.le_refl _) (by decide)) c1)
  replace hP := hP.cast (en' := LkS g r en [.ref (ad g (4, r, 0)), .ref (ad g (4, r, 1)), .ref (ad g (4, r, 2)), .null, .null, .null, .int 0, .int 0, .int 0, .int 0, .int 0]) (fun k _ => (updE_id (by rw [LkS_no (by intro h; simp at h), LkE_in (by decide)]; rfl) k).symm)
  refine lv_aload_n hx hb dX1_init_70 rfl (lv_at hl 1 rfl) ?_
  refine lv_bipush (v := 12) hx hb dX1_init_71 (by decide) ?_
  replace hP := hP.n (n' := 5 + 30 * r) (by omega)
  obtain ⟨kA5, cp5, -, -, -, hI5⟩ := (hE.1.2 1 _ rfl).2
  refine m_newq hC hg hP hS (5, r, 0) (k_5 hr) rfl w_30 hA.1 hI5 (N := 12) (by decide) (by decide) (by decide) (by show 0 + 1 + 1 + 1 + 1 ≤ 29; decide) (by show 0 + 81 + 81 + 7 + 12 ≤ 288; decide) dX1_init_73 (fun H hP hS => ?_)
  replace hP := hP.cast (en' := updE (LkS g r en [.ref (ad g (4, r, 0)), .ref (ad g (4, r, 1)), .ref (ad g (4, r, 2)), .null, .null, .null, .int 0, .int 0, .int 0, .int 0, .int 0]) (5, r, 0) (.inl (gC g 1, 12, .inr (.inr (.inr (.inr (fqo (fun j => ad g (0, r, j)) 0))))))) (fun k _ => by rw [fqo_0])
  replace hP := hP.n (n' := 6 + 30 * r + 0) (by omega)
  refine m_putF hC hE (hg.ijn _) hP.1 hS hnm ⟨k_3 hr, by show off (3, r, 0) < _; simp [off, hr] <;> omega⟩ (by rw [updE_ne (by intro h; simp at h)]; exact LkS_3) rfl u_1 tyX1_ok nmX1 3 (by decide) w_119 rfl rfl rfl rfl rfl (Nat.le_of_ble_eq_true rfl) (en' := updE (LkS g r en [.ref (ad g (4, r, 0)), .ref (ad g (4, r, 1)), .ref (ad g (4, r, 2)), .ref (ad g (5, r, 0)), .null, .null, .int 0, .int 0, .int 0, .int 0, .int 0]) (5, r, 0) (.inl (gC g 1, 12, .inr (.inr (.inr (.inr (fqo (fun j => ad g (0, r, j)) 0))))))) (by rw [updE_ne (by intro h; simp at h)]; exact LkS_3) (fun j _ hj => by unfold updE; split; rfl; rw [LkS_no hj, LkS_no hj]) dX1_init_76 (fun H locs z hP1 hS => ?_)
  replace hP := hP.put hP1 z
  refine lv_iconst (v := 0) hx hb dX1_init_79 (by decide) ?_
  refine lv_istore_n (lv' := [(1, .int (nI 0)), (0, .ref (ad g (3, r, 0)))]) hx hb dX1_init_80 rfl hl (by decide) rfl (fun ls hl => ?_)
  refine lp_up (P := fun i => ∀ (H : Heap) (locs : List Loc) (ls : Array Slot), WSz g (6 + 30 * r + i) (updE (LkS g r en [.ref (ad g (4, r, 0)), .ref (ad g (4, r, 1)), .ref (ad g (4, r, 2)), .ref (ad g (5, r, 0)), .null, .null, .int 0, .int 0, .int 0, .int 0, .int 0]) (5, r, 0) (.inl (gC g 1, 12, .inr (.inr (.inr (.inr (fqo (fun j => ad g (0, r, j)) i))))))) H → va_S (AA g) s.heap H locs → lv_has ls 2 [(1, .int (nI i)), (0, .ref (ad g (3, r, 0)))] → W p l e (rm3 3 50) s m ([.ref (ad g (3, r, 0))] : List Value).toArray below meth c H locs (0 + 1 + 1 + 1 + 1 + i) (0 + 81 + 81 + 7 + 12 + 3 * i) (MQ below (Qz g (31 + 30 * r) (LkE g r en)) ([.ref (ad g (3, r, 0))] : List Value).toArray s 29 288 (AA g)) (F0 m 81 ls [])) 12 ?hx81 ?hs81 0 (Nat.zero_le _) H locs ls hP hS hl
  case hs81 =>
    intro i hi IH H locs ls hP hS hl
    refine lv_iload_n hx hb dX1_init_81 rfl (lv_at hl 0 rfl) ?_
    refine lv_bipush (v := 12) hx hb dX1_init_82 (by decide) ?_
    refine lv_icmp_ge (tgt := 106) hx hb dX1_init_84 (by decide) (fun c1 => absurd c1 (nI_ge (b := 12) hi (by decide))) (fun c1 => ?_)
    refine lv_aload_n hx hb dX1_init_87 rfl (lv_at hl 1 rfl) ?_
    refine m_get hC hE hP.1 ⟨k_3 hr, by show off (3, r, 0) < _; simp [off, hr] <;> omega⟩ (by rw [updE_ne (by intro h; simp at h)]; exact LkS_3) rfl u_1 3 (by decide) w_119 rfl rfl dX1_init_88 ?_
    refine lv_iload_n hx hb dX1_init_91 rfl (lv_at hl 0 rfl) ?_
    refine m_new hC hE hg hP hS (0, r, i) (k_0 hr (by omega)) rfl (ci := 0) rfl u_0 tyX0_ok w_30 w_32 w_3 [.int 0, .int 0, .int 0] (fun j hj => by have : j = 0 ∨ j = 1 ∨ j = 2 := (by omega); rcases this with rfl | rfl | rfl <;> rfl) (by show 0 + 1 + 1 + 1 + 1 + i + 1 ≤ 29; omega) (by show 0 + 81 + 81 + 7 + 12 + 3 * i + 3 ≤ 288; omega) dX1_init_92 (fun H hP hS => ?_)
    replace hP := hP.cast (en' := updE (LkS g r en [.ref (ad g (4, r, 0)), .ref (ad g (4, r, 1)), .ref (ad g (4, r, 2)), .ref (ad g (5, r, 0)), .null, .null, .int 0, .int 0, .int 0, .int 0, .int 0]) (5, r, 0) (.inl (gC g 1, 12, .inr (.inr (.inr (.inr (fqo (fun j => ad g (0, r, j)) i))))))) (fun k _ => (updE_id (by rw [updE_ne (by intro h; simp at h), LkS_no (by intro h; simp at h), LkE_in (by decide)]; rfl) k).symm)
    refine lv_dup hx hb dX1_init_95 rfl ?_
    refine run_I hC hE hA hP hS (As := []) (i_hole l (0, r, i)) w_3 w_34 w_35 rfl (by decide +kernel) w_33 ⟨Nat.le_of_ble_eq_true rfl, Nat.le_of_ble_eq_true rfl⟩ rfl rfl (Nat.le_of_ble_eq_true rfl) hl.1 ⟨by show 0 + 1 + 1 + 1 + 1 + i + 1 + 0 ≤ 29; omega, by show 0 + 81 + 81 + 7 + 12 + 3 * i + 3 + 0 ≤ 288; omega⟩ dX1_init_96 (fun H locs hP hS => ?_)
    refine m_aast hC hE (hg.ijn _) hP.1 hS ⟨k_5 hr, by show off (5, r, 0) < _; simp [off, hr] <;> omega⟩ ⟨k_0 hr (by omega), by show off (0, r, i) < _; simp [off] <;> omega⟩ updE_same rfl (by rw [updE_ne (by intro h; simp at h), LkS_no (by intro h; simp at h), LkE_in (by decide)]; rfl) rfl i rfl hi (by decide) (en' := updE (LkS g r en [.ref (ad g (4, r, 0)), .ref (ad g (4, r, 1)), .ref (ad g (4, r, 2)), .ref (ad g (5, r, 0)), .null, .null, .int 0, .int 0, .int 0, .int 0, .int 0]) (5, r, 0) (.inl (gC g 1, 12, .inr (.inr (.inr (.inr (fqo (fun j => ad g (0, r, j)) (i + 1)))))))) (by rw [updE_same, fqo_s]) (fun j _ hj => by rw [updE_ne hj, updE_ne hj]) dX1_init_99 (fun H locs z hP1 hS => ?_)
    replace hP := hP.put hP1 z
    refine lv_iinc (v := nI (i + 1)) (lv' := [(1, .int (nI (i + 1))), (0, .ref (ad g (3, r, 0)))]) hx hb dX1_init_100 hl (k := 0) rfl (nI_1 _) (by decide) rfl (fun ls hl => ?_)
    refine lv_goto (tgt := 81) hx hb dX1_init_103 (by decide) ?_
    exact W_cs (by show 0 + 1 + 1 + 1 + 1 + i + 1 + 0 = 0 + 1 + 1 + 1 + 1 + (i + 1); omega) (by show 0 + 81 + 81 + 7 + 12 + 3 * i + 3 + 0 = 0 + 81 + 81 + 7 + 12 + 3 * (i + 1); omega) (IH H locs ls hP hS hl)
  intro H locs ls hP hS hl
  refine lv_iload_n hx hb dX1_init_81 rfl (lv_at hl 0 rfl) ?_
  refine lv_bipush (v := 12) hx hb dX1_init_82 (by decide) ?_
  refine lv_icmp_ge (tgt := 106) hx hb dX1_init_84 (by decide) (fun c1 => ?_) (fun c1 => absurd (nI_le (Nat.le_refl _) (by decide)) c1)
  replace hP := WSz_full (by rw [LkS_no (by intro h; simp at h), LkE_in (by decide)]; rfl) hP
  refine lv_aload_n hx hb dX1_init_106 rfl (lv_at hl 1 rfl) ?_
  refine lv_bipush (v := 8) hx hb dX1_init_107 (by decide) ?_
  replace hP := hP.n (n' := 18 + 30 * r) (by omega)
  obtain ⟨kA6, cp6, -, -, -, hI6⟩ := (hE.1.2 2 _ rfl).2
  refine m_newq hC hg hP hS (6, r, 0) (k_6 hr) rfl w_54 hA.2.1 hI6 (N := 8) (by decide) (by decide) (by decide) (by show 0 + 1 + 1 + 1 + 1 + 12 + 1 ≤ 29; decide) (by show 0 + 81 + 81 + 7 + 12 + 3 * 12 + 8 ≤ 288; decide) dX1_init_109 (fun H hP hS => ?_)
  replace hP := hP.cast (en' := updE (LkS g r en [.ref (ad g (4, r, 0)), .ref (ad g (4, r, 1)), .ref (ad g (4, r, 2)), .ref (ad g (5, r, 0)), .null, .null, .int 0, .int 0, .int 0, .int 0, .int 0]) (6, r, 0) (.inl (gC g 2, 8, .inr (.inr (.inr (.inr (fqo (fun j => ad g (1, r, j)) 0))))))) (fun k _ => by rw [fqo_0])
  replace hP := hP.n (n' := 19 + 30 * r + 0) (by omega)
  refine m_putF hC hE (hg.ijn _) hP.1 hS hnm ⟨k_3 hr, by show off (3, r, 0) < _; simp [off, hr] <;> omega⟩ (by rw [updE_ne (by intro h; simp at h)]; exact LkS_3) rfl u_1 tyX1_ok nmX1 4 (by decide) w_121 rfl rfl rfl rfl rfl (Nat.le_of_ble_eq_true rfl) (en' := updE (LkS g r en [.ref (ad g (4, r, 0)), .ref (ad g (4, r, 1)), .ref (ad g (4, r, 2)), .ref (ad g (5, r, 0)), .ref (ad g (6, r, 0)), .null, .int 0, .int 0, .int 0, .int 0, .int 0]) (6, r, 0) (.inl (gC g 2, 8, .inr (.inr (.inr (.inr (fqo (fun j => ad g (1, r, j)) 0))))))) (by rw [updE_ne (by intro h; simp at h)]; exact LkS_3) (fun j _ hj => by unfold updE; split; rfl; rw [LkS_no hj, LkS_no hj]) dX1_init_112 (fun H locs z hP1 hS => ?_)
  replace hP := hP.put hP1 z
  refine lv_iconst (v := 0) hx hb dX1_init_115 (by decide) ?_
  refine lv_istore_n (lv' := [(1, .int (nI 0)), (0, .ref (ad g (3, r, 0)))]) hx hb dX1_init_116 rfl hl (by decide) rfl (fun ls hl => ?_)
  refine lp_up (P := fun i => ∀ (H : Heap) (locs : List Loc) (ls : Array Slot), WSz g (19 + 30 * r + i) (updE (LkS g r en [.ref (ad g (4, r, 0)), .ref (ad g (4, r, 1)), .ref (ad g (4, r, 2)), .ref (ad g (5, r, 0)), .ref (ad g (6, r, 0)), .null, .int 0, .int 0, .int 0, .int 0, .int 0]) (6, r, 0) (.inl (gC g 2, 8, .inr (.inr (.inr (.inr (fqo (fun j => ad g (1, r, j)) i))))))) H → va_S (AA g) s.heap H locs → lv_has ls 2 [(1, .int (nI i)), (0, .ref (ad g (3, r, 0)))] → W p l e (rm3 3 50) s m ([.ref (ad g (3, r, 0))] : List Value).toArray below meth c H locs (0 + 1 + 1 + 1 + 1 + 12 + 1 + i) (0 + 81 + 81 + 7 + 12 + 3 * 12 + 8 + 6 * i) (MQ below (Qz g (31 + 30 * r) (LkE g r en)) ([.ref (ad g (3, r, 0))] : List Value).toArray s 29 288 (AA g)) (F0 m 117 ls [])) 8 ?hx117 ?hs117 0 (Nat.zero_le _) H locs ls hP hS hl
  case hs117 =>
    intro i hi IH H locs ls hP hS hl
    refine lv_iload_n hx hb dX1_init_117 rfl (lv_at hl 0 rfl) ?_
    refine lv_bipush (v := 8) hx hb dX1_init_118 (by decide) ?_
    refine lv_icmp_ge (tgt := 142) hx hb dX1_init_120 (by decide) (fun c1 => absurd c1 (nI_ge (b := 8) hi (by decide))) (fun c1 => ?_)
    refine lv_aload_n hx hb dX1_init_123 rfl (lv_at hl 1 rfl) ?_
    refine m_get hC hE hP.1 ⟨k_3 hr, by show off (3, r, 0) < _; simp [off, hr] <;> omega⟩ (by rw [updE_ne (by intro h; simp at h)]; exact LkS_3) rfl u_1 4 (by decide) w_121 rfl rfl dX1_init_124 ?_
    refine lv_iload_n hx hb dX1_init_127 rfl (lv_at hl 0 rfl) ?_
    refine m_new hC hE hg hP hS (1, r, i) (k_1 hr (by omega)) rfl (ci := 2) rfl u_2 tyX2_ok w_54 w_56 w_4 [.int 0, .int 0, .int 0, .int 0, .int 0, .int 0] (fun j hj => by have : j = 0 ∨ j = 1 ∨ j = 2 ∨ j = 3 ∨ j = 4 ∨ j = 5 := (by omega); rcases this with rfl | rfl | rfl | rfl | rfl | rfl <;> rfl) (by show 0 + 1 + 1 + 1 + 1 + 12 + 1 + i + 1 ≤ 29; omega) (by show 0 + 81 + 81 + 7 + 12 + 3 * 12 + 8 + 6 * i + 6 ≤ 288; omega) dX1_init_128 (fun H hP hS => ?_)
    refine lv_dup hx hb dX1_init_131 rfl ?_
    refine run_I hC hE hA hP hS (As := []) (i_spearer l hg (1, r, i) ⟨k_1 hr (by omega), by show off (1, r, i) < _; simp [off]⟩ updE_same) w_4 w_58 w_59 rfl (by decide +kernel) w_57 ⟨Nat.le_of_ble_eq_true rfl, Nat.le_of_ble_eq_true rfl⟩ rfl rfl (Nat.le_of_ble_eq_true rfl) hl.1 ⟨by show 0 + 1 + 1 + 1 + 1 + 12 + 1 + i + 1 + 0 ≤ 29; omega, by show 0 + 81 + 81 + 7 + 12 + 3 * 12 + 8 + 6 * i + 6 + 0 ≤ 288; omega⟩ dX1_init_132 (fun H locs hP hS => ?_)
    replace hP := hP.cast (en' := updE (LkS g r en [.ref (ad g (4, r, 0)), .ref (ad g (4, r, 1)), .ref (ad g (4, r, 2)), .ref (ad g (5, r, 0)), .ref (ad g (6, r, 0)), .null, .int 0, .int 0, .int 0, .int 0, .int 0]) (6, r, 0) (.inl (gC g 2, 8, .inr (.inr (.inr (.inr (fqo (fun j => ad g (1, r, j)) i))))))) (fun k _ => by
      by_cases q : k = (1, r, i)
      · rw [q, updE_same, updE_ne (by intro h; simp at h), LkS_no (by intro h; simp at h), LkE_in (by decide)]; rfl
      · rw [updE_ne q, updE_ne q])
    refine m_aast hC hE (hg.ijn _) hP.1 hS ⟨k_6 hr, by show off (6, r, 0) < _; simp [off, hr] <;> omega⟩ ⟨k_1 hr (by omega), by show off (1, r, i) < _; simp [off] <;> omega⟩ updE_same rfl (by rw [updE_ne (by intro h; simp at h), LkS_no (by intro h; simp at h), LkE_in (by decide)]; rfl) rfl i rfl hi (by decide) (en' := updE (LkS g r en [.ref (ad g (4, r, 0)), .ref (ad g (4, r, 1)), .ref (ad g (4, r, 2)), .ref (ad g (5, r, 0)), .ref (ad g (6, r, 0)), .null, .int 0, .int 0, .int 0, .int 0, .int 0]) (6, r, 0) (.inl (gC g 2, 8, .inr (.inr (.inr (.inr (fqo (fun j => ad g (1, r, j)) (i + 1)))))))) (by rw [updE_same, fqo_s]) (fun j _ hj => by rw [updE_ne hj, updE_ne hj]) dX1_init_135 (fun H locs z hP1 hS => ?_)
    replace hP := hP.put hP1 z
    refine lv_iinc (v := nI (i + 1)) (lv' := [(1, .int (nI (i + 1))), (0, .ref (ad g (3, r, 0)))]) hx hb dX1_init_136 hl (k := 0) rfl (nI_1 _) (by decide) rfl (fun ls hl => ?_)
    refine lv_goto (tgt := 117) hx hb dX1_init_139 (by decide) ?_
    exact W_cs (by show 0 + 1 + 1 + 1 + 1 + 12 + 1 + i + 1 + 0 = 0 + 1 + 1 + 1 + 1 + 12 + 1 + (i + 1); omega) (by show 0 + 81 + 81 + 7 + 12 + 3 * 12 + 8 + 6 * i + 6 + 0 = 0 + 81 + 81 + 7 + 12 + 3 * 12 + 8 + 6 * (i + 1); omega) (IH H locs ls hP hS hl)
  intro H locs ls hP hS hl
  refine lv_iload_n hx hb dX1_init_117 rfl (lv_at hl 0 rfl) ?_
  refine lv_bipush (v := 8) hx hb dX1_init_118 (by decide) ?_
  refine lv_icmp_ge (tgt := 142) hx hb dX1_init_120 (by decide) (fun c1 => ?_) (fun c1 => absurd (nI_le (Nat.le_refl _) (by decide)) c1)
  replace hP := WSz_full (by rw [LkS_no (by intro h; simp at h), LkE_in (by decide)]; rfl) hP
  refine lv_aload_n hx hb dX1_init_142 rfl (lv_at hl 1 rfl) ?_
  refine lv_iconst (v := 3) hx hb dX1_init_143 (by decide) ?_
  replace hP := hP.n (n' := 27 + 30 * r) (by omega)
  obtain ⟨kA7, cp7, -, -, -, hI7⟩ := (hE.1.2 3 _ rfl).2
  refine m_newq hC hg hP hS (7, r, 0) (k_7 hr) rfl w_89 hA.2.2 hI7 (N := 3) (by decide) (by decide) (by decide) (by show 0 + 1 + 1 + 1 + 1 + 12 + 1 + 8 + 1 ≤ 29; decide) (by show 0 + 81 + 81 + 7 + 12 + 3 * 12 + 8 + 6 * 8 + 3 ≤ 288; decide) dX1_init_144 (fun H hP hS => ?_)
  replace hP := hP.cast (en' := updE (LkS g r en [.ref (ad g (4, r, 0)), .ref (ad g (4, r, 1)), .ref (ad g (4, r, 2)), .ref (ad g (5, r, 0)), .ref (ad g (6, r, 0)), .null, .int 0, .int 0, .int 0, .int 0, .int 0]) (7, r, 0) (.inl (gC g 3, 3, .inr (.inr (.inr (.inr (fqo (fun j => ad g (2, r, j)) 0))))))) (fun k _ => by rw [fqo_0])
  replace hP := hP.n (n' := 28 + 30 * r + 0) (by omega)
  refine m_putF hC hE (hg.ijn _) hP.1 hS hnm ⟨k_3 hr, by show off (3, r, 0) < _; simp [off, hr] <;> omega⟩ (by rw [updE_ne (by intro h; simp at h)]; exact LkS_3) rfl u_1 tyX1_ok nmX1 5 (by decide) w_123 rfl rfl rfl rfl rfl (Nat.le_of_ble_eq_true rfl) (en' := updE (LkS g r en [.ref (ad g (4, r, 0)), .ref (ad g (4, r, 1)), .ref (ad g (4, r, 2)), .ref (ad g (5, r, 0)), .ref (ad g (6, r, 0)), .ref (ad g (7, r, 0)), .int 0, .int 0, .int 0, .int 0, .int 0]) (7, r, 0) (.inl (gC g 3, 3, .inr (.inr (.inr (.inr (fqo (fun j => ad g (2, r, j)) 0))))))) (by rw [updE_ne (by intro h; simp at h)]; exact LkS_3) (fun j _ hj => by unfold updE; split; rfl; rw [LkS_no hj, LkS_no hj]) dX1_init_147 (fun H locs z hP1 hS => ?_)
  replace hP := hP.put hP1 z
  refine lv_iconst (v := 0) hx hb dX1_init_150 (by decide) ?_
  refine lv_istore_n (lv' := [(1, .int (nI 0)), (0, .ref (ad g (3, r, 0)))]) hx hb dX1_init_151 rfl hl (by decide) rfl (fun ls hl => ?_)
  refine lp_up (P := fun i => ∀ (H : Heap) (locs : List Loc) (ls : Array Slot), WSz g (28 + 30 * r + i) (updE (LkS g r en [.ref (ad g (4, r, 0)), .ref (ad g (4, r, 1)), .ref (ad g (4, r, 2)), .ref (ad g (5, r, 0)), .ref (ad g (6, r, 0)), .ref (ad g (7, r, 0)), .int 0, .int 0, .int 0, .int 0, .int 0]) (7, r, 0) (.inl (gC g 3, 3, .inr (.inr (.inr (.inr (fqo (fun j => ad g (2, r, j)) i))))))) H → va_S (AA g) s.heap H locs → lv_has ls 2 [(1, .int (nI i)), (0, .ref (ad g (3, r, 0)))] → W p l e (rm3 3 50) s m ([.ref (ad g (3, r, 0))] : List Value).toArray below meth c H locs (0 + 1 + 1 + 1 + 1 + 12 + 1 + 8 + 1 + i) (0 + 81 + 81 + 7 + 12 + 3 * 12 + 8 + 6 * 8 + 3 + 4 * i) (MQ below (Qz g (31 + 30 * r) (LkE g r en)) ([.ref (ad g (3, r, 0))] : List Value).toArray s 29 288 (AA g)) (F0 m 152 ls [])) 3 ?hx152 ?hs152 0 (Nat.zero_le _) H locs ls hP hS hl
  case hs152 =>
    intro i hi IH H locs ls hP hS hl
    refine lv_iload_n hx hb dX1_init_152 rfl (lv_at hl 0 rfl) ?_
    refine lv_iconst (v := 3) hx hb dX1_init_153 (by decide) ?_
    refine lv_icmp_ge (tgt := 176) hx hb dX1_init_154 (by decide) (fun c1 => absurd c1 (nI_ge (b := 3) hi (by decide))) (fun c1 => ?_)
    refine lv_aload_n hx hb dX1_init_157 rfl (lv_at hl 1 rfl) ?_
    refine m_get hC hE hP.1 ⟨k_3 hr, by show off (3, r, 0) < _; simp [off, hr] <;> omega⟩ (by rw [updE_ne (by intro h; simp at h)]; exact LkS_3) rfl u_1 5 (by decide) w_123 rfl rfl dX1_init_158 ?_
    refine lv_iload_n hx hb dX1_init_161 rfl (lv_at hl 0 rfl) ?_
    refine m_new hC hE hg hP hS (2, r, i) (k_2 hr (by omega)) rfl (ci := 3) rfl u_3 tyX3_ok w_89 w_91 w_5 [.int 0, .int 0, .int 0, .int 0] (fun j hj => by have : j = 0 ∨ j = 1 ∨ j = 2 ∨ j = 3 := (by omega); rcases this with rfl | rfl | rfl | rfl <;> rfl) (by show 0 + 1 + 1 + 1 + 1 + 12 + 1 + 8 + 1 + i + 1 ≤ 29; omega) (by show 0 + 81 + 81 + 7 + 12 + 3 * 12 + 8 + 6 * 8 + 3 + 4 * i + 4 ≤ 288; omega) dX1_init_162 (fun H hP hS => ?_)
    replace hP := hP.cast (en' := updE (LkS g r en [.ref (ad g (4, r, 0)), .ref (ad g (4, r, 1)), .ref (ad g (4, r, 2)), .ref (ad g (5, r, 0)), .ref (ad g (6, r, 0)), .ref (ad g (7, r, 0)), .int 0, .int 0, .int 0, .int 0, .int 0]) (7, r, 0) (.inl (gC g 3, 3, .inr (.inr (.inr (.inr (fqo (fun j => ad g (2, r, j)) i))))))) (fun k _ => (updE_id (by rw [updE_ne (by intro h; simp at h), LkS_no (by intro h; simp at h), LkE_in (by decide)]; rfl) k).symm)
    refine lv_dup hx hb dX1_init_165 rfl ?_
    refine run_I hC hE hA hP hS (As := []) (i_warden l (2, r, i)) w_5 w_93 w_94 rfl (by decide +kernel) w_92 ⟨Nat.le_of_ble_eq_true rfl, Nat.le_of_ble_eq_true rfl⟩ rfl rfl (Nat.le_of_ble_eq_true rfl) hl.1 ⟨by show 0 + 1 + 1 + 1 + 1 + 12 + 1 + 8 + 1 + i + 1 + 0 ≤ 29; omega, by show 0 + 81 + 81 + 7 + 12 + 3 * 12 + 8 + 6 * 8 + 3 + 4 * i + 4 + 0 ≤ 288; omega⟩ dX1_init_166 (fun H locs hP hS => ?_)
    refine m_aast hC hE (hg.ijn _) hP.1 hS ⟨k_7 hr, by show off (7, r, 0) < _; simp [off, hr] <;> omega⟩ ⟨k_2 hr (by omega), by show off (2, r, i) < _; simp [off] <;> omega⟩ updE_same rfl (by rw [updE_ne (by intro h; simp at h), LkS_no (by intro h; simp at h), LkE_in (by decide)]; rfl) rfl i rfl hi (by decide) (en' := updE (LkS g r en [.ref (ad g (4, r, 0)), .ref (ad g (4, r, 1)), .ref (ad g (4, r, 2)), .ref (ad g (5, r, 0)), .ref (ad g (6, r, 0)), .ref (ad g (7, r, 0)), .int 0, .int 0, .int 0, .int 0, .int 0]) (7, r, 0) (.inl (gC g 3, 3, .inr (.inr (.inr (.inr (fqo (fun j => ad g (2, r, j)) (i + 1)))))))) (by rw [updE_same, fqo_s]) (fun j _ hj => by rw [updE_ne hj, updE_ne hj]) dX1_init_169 (fun H locs z hP1 hS => ?_)
    replace hP := hP.put hP1 z
    refine lv_iinc (v := nI (i + 1)) (lv' := [(1, .int (nI (i + 1))), (0, .ref (ad g (3, r, 0)))]) hx hb dX1_init_170 hl (k := 0) rfl (nI_1 _) (by decide) rfl (fun ls hl => ?_)
    refine lv_goto (tgt := 152) hx hb dX1_init_173 (by decide) ?_
    exact W_cs (by show 0 + 1 + 1 + 1 + 1 + 12 + 1 + 8 + 1 + i + 1 + 0 = 0 + 1 + 1 + 1 + 1 + 12 + 1 + 8 + 1 + (i + 1); omega) (by show 0 + 81 + 81 + 7 + 12 + 3 * 12 + 8 + 6 * 8 + 3 + 4 * i + 4 + 0 = 0 + 81 + 81 + 7 + 12 + 3 * 12 + 8 + 6 * 8 + 3 + 4 * (i + 1); omega) (IH H locs ls hP hS hl)
  intro H locs ls hP hS hl
  refine lv_iload_n hx hb dX1_init_152 rfl (lv_at hl 0 rfl) ?_
  refine lv_iconst (v := 3) hx hb dX1_init_153 (by decide) ?_
  refine lv_icmp_ge (tgt := 176) hx hb dX1_init_154 (by decide) (fun c1 => ?_) (fun c1 => absurd (nI_le (Nat.le_refl _) (by decide)) c1)
  replace hP := WSz_full (by rw [LkS_no (by intro h; simp at h), LkE_in (by decide)]; rfl) hP
  refine lv_aload_n hx hb dX1_init_176 rfl (lv_at hl 1 rfl) ?_
  refine lv_bipush (v := 20) hx hb dX1_init_177 (by decide) ?_
  refine m_putS hC hE (hg.ijn _) hP.1 hS ⟨k_3 hr, by show off (3, r, 0) < _; simp [off, hr] <;> omega⟩ LkS_3 rfl u_1 tyX1_ok nmX1 9 (by decide) w_131 rfl rfl rfl rfl (Nat.le_of_ble_eq_true rfl) (en' := LkS g r en [.ref (ad g (4, r, 0)), .ref (ad g (4, r, 1)), .ref (ad g (4, r, 2)), .ref (ad g (5, r, 0)), .ref (ad g (6, r, 0)), .ref (ad g (7, r, 0)), .int 0, .int 0, .int 0, .int 20, .int 0]) LkS_3 (fun j _ hj => by rw [LkS_no hj, LkS_no hj]) dX1_init_179 (fun H locs z hP1 hS => ?_)
  replace hP := hP.put hP1 z
  replace hP := hP.cast (en' := LkE g r en) (fun k _ => (updE_id (by rw [LkE_in (by decide)]; rfl) k).symm)
  exact mc_vret hC hr_ hlk hS (hP.n (by omega)) dX1_init_182
