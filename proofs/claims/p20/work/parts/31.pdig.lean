/-! class EelPermits: digest -/
theorem dX4_digestOfCells_0 : decode cX4_digestOfCells 0 = .ok (.lload_n 1, 1) := by decide +kernel
theorem dX4_digestOfCells_1 : decode cX4_digestOfCells 1 = .ok (.lstore_n 3, 1) := by decide +kernel
theorem dX4_digestOfCells_2 : decode cX4_digestOfCells 2 = .ok (.iconst 0, 1) := by decide +kernel
theorem dX4_digestOfCells_3 : decode cX4_digestOfCells 3 = .ok (.istore 5, 2) := by decide +kernel
theorem dX4_digestOfCells_5 : decode cX4_digestOfCells 5 = .ok (.iload 5, 2) := by decide +kernel
theorem dX4_digestOfCells_7 : decode cX4_digestOfCells 7 = .ok (.bipush 9, 2) := by decide +kernel
theorem dX4_digestOfCells_9 : decode cX4_digestOfCells 9 = .ok (.if_icmp .ge 58, 3) := by decide +kernel
theorem dX4_digestOfCells_12 : decode cX4_digestOfCells 12 = .ok (.iconst 0, 1) := by decide +kernel
theorem dX4_digestOfCells_13 : decode cX4_digestOfCells 13 = .ok (.istore 6, 2) := by decide +kernel
theorem dX4_digestOfCells_15 : decode cX4_digestOfCells 15 = .ok (.iload 6, 2) := by decide +kernel
theorem dX4_digestOfCells_17 : decode cX4_digestOfCells 17 = .ok (.bipush 9, 2) := by decide +kernel
theorem dX4_digestOfCells_19 : decode cX4_digestOfCells 19 = .ok (.if_icmp .ge 42, 3) := by decide +kernel
theorem dX4_digestOfCells_22 : decode cX4_digestOfCells 22 = .ok (.iconst 0, 1) := by decide +kernel
theorem dX4_digestOfCells_23 : decode cX4_digestOfCells 23 = .ok (.istore 7, 2) := by decide +kernel
theorem dX4_digestOfCells_25 : decode cX4_digestOfCells 25 = .ok (.iload 7, 2) := by decide +kernel
theorem dX4_digestOfCells_27 : decode cX4_digestOfCells 27 = .ok (.iconst 4, 1) := by decide +kernel
theorem dX4_digestOfCells_28 : decode cX4_digestOfCells 28 = .ok (.if_icmp .ge 27, 3) := by decide +kernel
theorem dX4_digestOfCells_31 : decode cX4_digestOfCells 31 = .ok (.lload_n 3, 1) := by decide +kernel
theorem dX4_digestOfCells_32 : decode cX4_digestOfCells 32 = .ok (.aload_n 0, 1) := by decide +kernel
theorem dX4_digestOfCells_33 : decode cX4_digestOfCells 33 = .ok (.getfield 10, 3) := by decide +kernel
theorem dX4_digestOfCells_36 : decode cX4_digestOfCells 36 = .ok (.iload 6, 2) := by decide +kernel
theorem dX4_digestOfCells_38 : decode cX4_digestOfCells 38 = .ok (.iload 5, 2) := by decide +kernel
theorem dX4_digestOfCells_40 : decode cX4_digestOfCells 40 = .ok (.iload 7, 2) := by decide +kernel
theorem dX4_digestOfCells_42 : decode cX4_digestOfCells 42 = .ok (.invokevirtual 137, 3) := by decide +kernel
theorem dX4_digestOfCells_45 : decode cX4_digestOfCells 45 = .ok (.invokestatic 199, 3) := by decide +kernel
theorem dX4_digestOfCells_48 : decode cX4_digestOfCells 48 = .ok (.lstore_n 3, 1) := by decide +kernel
theorem dX4_digestOfCells_49 : decode cX4_digestOfCells 49 = .ok (.iinc 7 1, 3) := by decide +kernel
theorem dX4_digestOfCells_52 : decode cX4_digestOfCells 52 = .ok (.goto (-27), 3) := by decide +kernel
theorem dX4_digestOfCells_55 : decode cX4_digestOfCells 55 = .ok (.iinc 6 1, 3) := by decide +kernel
theorem dX4_digestOfCells_58 : decode cX4_digestOfCells 58 = .ok (.goto (-43), 3) := by decide +kernel
theorem dX4_digestOfCells_61 : decode cX4_digestOfCells 61 = .ok (.iinc 5 1, 3) := by decide +kernel
theorem dX4_digestOfCells_64 : decode cX4_digestOfCells 64 = .ok (.goto (-59), 3) := by decide +kernel
theorem dX4_digestOfCells_67 : decode cX4_digestOfCells 67 = .ok (.lload_n 3, 1) := by decide +kernel
theorem dX4_digestOfCells_68 : decode cX4_digestOfCells 68 = .ok (.lreturn, 1) := by decide +kernel
theorem dX4_digestOfPeople_0 : decode cX4_digestOfPeople 0 = .ok (.lload_n 1, 1) := by decide +kernel
theorem dX4_digestOfPeople_1 : decode cX4_digestOfPeople 1 = .ok (.lstore_n 3, 1) := by decide +kernel
theorem dX4_digestOfPeople_2 : decode cX4_digestOfPeople 2 = .ok (.iconst 0, 1) := by decide +kernel
theorem dX4_digestOfPeople_3 : decode cX4_digestOfPeople 3 = .ok (.istore 5, 2) := by decide +kernel
theorem dX4_digestOfPeople_5 : decode cX4_digestOfPeople 5 = .ok (.iload 5, 2) := by decide +kernel
theorem dX4_digestOfPeople_7 : decode cX4_digestOfPeople 7 = .ok (.aload_n 0, 1) := by decide +kernel
theorem dX4_digestOfPeople_8 : decode cX4_digestOfPeople 8 = .ok (.getfield 10, 3) := by decide +kernel
theorem dX4_digestOfPeople_11 : decode cX4_digestOfPeople 11 = .ok (.getfield 85, 3) := by decide +kernel
theorem dX4_digestOfPeople_14 : decode cX4_digestOfPeople 14 = .ok (.if_icmp .ge 45, 3) := by decide +kernel
theorem dX4_digestOfPeople_17 : decode cX4_digestOfPeople 17 = .ok (.iconst 0, 1) := by decide +kernel
theorem dX4_digestOfPeople_18 : decode cX4_digestOfPeople 18 = .ok (.istore 6, 2) := by decide +kernel
theorem dX4_digestOfPeople_20 : decode cX4_digestOfPeople 20 = .ok (.iload 6, 2) := by decide +kernel
theorem dX4_digestOfPeople_22 : decode cX4_digestOfPeople 22 = .ok (.bipush 6, 2) := by decide +kernel
theorem dX4_digestOfPeople_24 : decode cX4_digestOfPeople 24 = .ok (.if_icmp .ge 29, 3) := by decide +kernel
theorem dX4_digestOfPeople_27 : decode cX4_digestOfPeople 27 = .ok (.lload_n 3, 1) := by decide +kernel
theorem dX4_digestOfPeople_28 : decode cX4_digestOfPeople 28 = .ok (.aload_n 0, 1) := by decide +kernel
theorem dX4_digestOfPeople_29 : decode cX4_digestOfPeople 29 = .ok (.getfield 10, 3) := by decide +kernel
theorem dX4_digestOfPeople_32 : decode cX4_digestOfPeople 32 = .ok (.getfield 115, 3) := by decide +kernel
theorem dX4_digestOfPeople_35 : decode cX4_digestOfPeople 35 = .ok (.iload 5, 2) := by decide +kernel
theorem dX4_digestOfPeople_37 : decode cX4_digestOfPeople 37 = .ok (.aaload, 1) := by decide +kernel
theorem dX4_digestOfPeople_38 : decode cX4_digestOfPeople 38 = .ok (.iload 6, 2) := by decide +kernel
theorem dX4_digestOfPeople_40 : decode cX4_digestOfPeople 40 = .ok (.invokevirtual 147, 3) := by decide +kernel
theorem dX4_digestOfPeople_43 : decode cX4_digestOfPeople 43 = .ok (.invokestatic 199, 3) := by decide +kernel
theorem dX4_digestOfPeople_46 : decode cX4_digestOfPeople 46 = .ok (.lstore_n 3, 1) := by decide +kernel
theorem dX4_digestOfPeople_47 : decode cX4_digestOfPeople 47 = .ok (.iinc 6 1, 3) := by decide +kernel
theorem dX4_digestOfPeople_50 : decode cX4_digestOfPeople 50 = .ok (.goto (-30), 3) := by decide +kernel
theorem dX4_digestOfPeople_53 : decode cX4_digestOfPeople 53 = .ok (.iinc 5 1, 3) := by decide +kernel
theorem dX4_digestOfPeople_56 : decode cX4_digestOfPeople 56 = .ok (.goto (-51), 3) := by decide +kernel
theorem dX4_digestOfPeople_59 : decode cX4_digestOfPeople 59 = .ok (.iconst 0, 1) := by decide +kernel
theorem dX4_digestOfPeople_60 : decode cX4_digestOfPeople 60 = .ok (.istore 5, 2) := by decide +kernel
theorem dX4_digestOfPeople_62 : decode cX4_digestOfPeople 62 = .ok (.iload 5, 2) := by decide +kernel
theorem dX4_digestOfPeople_64 : decode cX4_digestOfPeople 64 = .ok (.aload_n 0, 1) := by decide +kernel
theorem dX4_digestOfPeople_65 : decode cX4_digestOfPeople 65 = .ok (.getfield 10, 3) := by decide +kernel
theorem dX4_digestOfPeople_68 : decode cX4_digestOfPeople 68 = .ok (.getfield 126, 3) := by decide +kernel
theorem dX4_digestOfPeople_71 : decode cX4_digestOfPeople 71 = .ok (.if_icmp .ge 44, 3) := by decide +kernel
theorem dX4_digestOfPeople_74 : decode cX4_digestOfPeople 74 = .ok (.iconst 0, 1) := by decide +kernel
theorem dX4_digestOfPeople_75 : decode cX4_digestOfPeople 75 = .ok (.istore 6, 2) := by decide +kernel
theorem dX4_digestOfPeople_77 : decode cX4_digestOfPeople 77 = .ok (.iload 6, 2) := by decide +kernel
theorem dX4_digestOfPeople_79 : decode cX4_digestOfPeople 79 = .ok (.iconst 4, 1) := by decide +kernel
theorem dX4_digestOfPeople_80 : decode cX4_digestOfPeople 80 = .ok (.if_icmp .ge 29, 3) := by decide +kernel
theorem dX4_digestOfPeople_83 : decode cX4_digestOfPeople 83 = .ok (.lload_n 3, 1) := by decide +kernel
theorem dX4_digestOfPeople_84 : decode cX4_digestOfPeople 84 = .ok (.aload_n 0, 1) := by decide +kernel
theorem dX4_digestOfPeople_85 : decode cX4_digestOfPeople 85 = .ok (.getfield 10, 3) := by decide +kernel
theorem dX4_digestOfPeople_88 : decode cX4_digestOfPeople 88 = .ok (.getfield 156, 3) := by decide +kernel
theorem dX4_digestOfPeople_91 : decode cX4_digestOfPeople 91 = .ok (.iload 5, 2) := by decide +kernel
theorem dX4_digestOfPeople_93 : decode cX4_digestOfPeople 93 = .ok (.aaload, 1) := by decide +kernel
theorem dX4_digestOfPeople_94 : decode cX4_digestOfPeople 94 = .ok (.iload 6, 2) := by decide +kernel
theorem dX4_digestOfPeople_96 : decode cX4_digestOfPeople 96 = .ok (.invokevirtual 160, 3) := by decide +kernel
theorem dX4_digestOfPeople_99 : decode cX4_digestOfPeople 99 = .ok (.invokestatic 199, 3) := by decide +kernel
theorem dX4_digestOfPeople_102 : decode cX4_digestOfPeople 102 = .ok (.lstore_n 3, 1) := by decide +kernel
theorem dX4_digestOfPeople_103 : decode cX4_digestOfPeople 103 = .ok (.iinc 6 1, 3) := by decide +kernel
theorem dX4_digestOfPeople_106 : decode cX4_digestOfPeople 106 = .ok (.goto (-29), 3) := by decide +kernel
theorem dX4_digestOfPeople_109 : decode cX4_digestOfPeople 109 = .ok (.iinc 5 1, 3) := by decide +kernel
theorem dX4_digestOfPeople_112 : decode cX4_digestOfPeople 112 = .ok (.goto (-50), 3) := by decide +kernel
theorem dX4_digestOfPeople_115 : decode cX4_digestOfPeople 115 = .ok (.lload_n 3, 1) := by decide +kernel
theorem dX4_digestOfPeople_116 : decode cX4_digestOfPeople 116 = .ok (.lreturn, 1) := by decide +kernel
theorem dX4_digest_0 : decode cX4_digest 0 = .ok (.ldc2_w 197, 3) := by decide +kernel
theorem dX4_digest_3 : decode cX4_digest 3 = .ok (.lstore_n 1, 1) := by decide +kernel
theorem dX4_digest_4 : decode cX4_digest 4 = .ok (.iconst 0, 1) := by decide +kernel
theorem dX4_digest_5 : decode cX4_digest 5 = .ok (.istore_n 3, 1) := by decide +kernel
theorem dX4_digest_6 : decode cX4_digest 6 = .ok (.iload_n 3, 1) := by decide +kernel
theorem dX4_digest_7 : decode cX4_digest 7 = .ok (.bipush 9, 2) := by decide +kernel
theorem dX4_digest_9 : decode cX4_digest 9 = .ok (.if_icmp .ge 22, 3) := by decide +kernel
theorem dX4_digest_12 : decode cX4_digest 12 = .ok (.lload_n 1, 1) := by decide +kernel
theorem dX4_digest_13 : decode cX4_digest 13 = .ok (.aload_n 0, 1) := by decide +kernel
theorem dX4_digest_14 : decode cX4_digest 14 = .ok (.getfield 10, 3) := by decide +kernel
theorem dX4_digest_17 : decode cX4_digest 17 = .ok (.iload_n 3, 1) := by decide +kernel
theorem dX4_digest_18 : decode cX4_digest 18 = .ok (.invokevirtual 165, 3) := by decide +kernel
theorem dX4_digest_21 : decode cX4_digest 21 = .ok (.invokestatic 199, 3) := by decide +kernel
theorem dX4_digest_24 : decode cX4_digest 24 = .ok (.lstore_n 1, 1) := by decide +kernel
theorem dX4_digest_25 : decode cX4_digest 25 = .ok (.iinc 3 1, 3) := by decide +kernel
theorem dX4_digest_28 : decode cX4_digest 28 = .ok (.goto (-22), 3) := by decide +kernel
theorem dX4_digest_31 : decode cX4_digest 31 = .ok (.aload_n 0, 1) := by decide +kernel
theorem dX4_digest_32 : decode cX4_digest 32 = .ok (.lload_n 1, 1) := by decide +kernel
theorem dX4_digest_33 : decode cX4_digest 33 = .ok (.invokevirtual 203, 3) := by decide +kernel
theorem dX4_digest_36 : decode cX4_digest 36 = .ok (.lstore_n 1, 1) := by decide +kernel
theorem dX4_digest_37 : decode cX4_digest 37 = .ok (.iconst 0, 1) := by decide +kernel
theorem dX4_digest_38 : decode cX4_digest 38 = .ok (.istore_n 3, 1) := by decide +kernel
theorem dX4_digest_39 : decode cX4_digest 39 = .ok (.iload_n 3, 1) := by decide +kernel
theorem dX4_digest_40 : decode cX4_digest 40 = .ok (.bipush 7, 2) := by decide +kernel
theorem dX4_digest_42 : decode cX4_digest 42 = .ok (.if_icmp .ge 23, 3) := by decide +kernel
theorem dX4_digest_45 : decode cX4_digest 45 = .ok (.lload_n 1, 1) := by decide +kernel
theorem dX4_digest_46 : decode cX4_digest 46 = .ok (.aload_n 0, 1) := by decide +kernel
theorem dX4_digest_47 : decode cX4_digest 47 = .ok (.getfield 10, 3) := by decide +kernel
theorem dX4_digest_50 : decode cX4_digest 50 = .ok (.getfield 54, 3) := by decide +kernel
theorem dX4_digest_53 : decode cX4_digest 53 = .ok (.iload_n 3, 1) := by decide +kernel
theorem dX4_digest_54 : decode cX4_digest 54 = .ok (.iaload, 1) := by decide +kernel
theorem dX4_digest_55 : decode cX4_digest 55 = .ok (.invokestatic 199, 3) := by decide +kernel
theorem dX4_digest_58 : decode cX4_digest 58 = .ok (.lstore_n 1, 1) := by decide +kernel
theorem dX4_digest_59 : decode cX4_digest 59 = .ok (.iinc 3 1, 3) := by decide +kernel
theorem dX4_digest_62 : decode cX4_digest 62 = .ok (.goto (-23), 3) := by decide +kernel
theorem dX4_digest_65 : decode cX4_digest 65 = .ok (.iconst 0, 1) := by decide +kernel
theorem dX4_digest_66 : decode cX4_digest 66 = .ok (.istore_n 3, 1) := by decide +kernel
theorem dX4_digest_67 : decode cX4_digest 67 = .ok (.iload_n 3, 1) := by decide +kernel
theorem dX4_digest_68 : decode cX4_digest 68 = .ok (.aload_n 0, 1) := by decide +kernel
theorem dX4_digest_69 : decode cX4_digest 69 = .ok (.getfield 10, 3) := by decide +kernel
theorem dX4_digest_72 : decode cX4_digest 72 = .ok (.getfield 75, 3) := by decide +kernel
theorem dX4_digest_75 : decode cX4_digest 75 = .ok (.if_icmp .ge 39, 3) := by decide +kernel
theorem dX4_digest_78 : decode cX4_digest 78 = .ok (.iconst 0, 1) := by decide +kernel
theorem dX4_digest_79 : decode cX4_digest 79 = .ok (.istore 4, 2) := by decide +kernel
theorem dX4_digest_81 : decode cX4_digest 81 = .ok (.iload 4, 2) := by decide +kernel
theorem dX4_digest_83 : decode cX4_digest 83 = .ok (.iconst 5, 1) := by decide +kernel
theorem dX4_digest_84 : decode cX4_digest 84 = .ok (.if_icmp .ge 24, 3) := by decide +kernel
theorem dX4_digest_87 : decode cX4_digest 87 = .ok (.lload_n 1, 1) := by decide +kernel
theorem dX4_digest_88 : decode cX4_digest 88 = .ok (.aload_n 0, 1) := by decide +kernel
theorem dX4_digest_89 : decode cX4_digest 89 = .ok (.getfield 10, 3) := by decide +kernel
theorem dX4_digest_92 : decode cX4_digest 92 = .ok (.iload_n 3, 1) := by decide +kernel
theorem dX4_digest_93 : decode cX4_digest 93 = .ok (.iload 4, 2) := by decide +kernel
theorem dX4_digest_95 : decode cX4_digest 95 = .ok (.invokevirtual 142, 3) := by decide +kernel
theorem dX4_digest_98 : decode cX4_digest 98 = .ok (.invokestatic 199, 3) := by decide +kernel
theorem dX4_digest_101 : decode cX4_digest 101 = .ok (.lstore_n 1, 1) := by decide +kernel
theorem dX4_digest_102 : decode cX4_digest 102 = .ok (.iinc 4 1, 3) := by decide +kernel
theorem dX4_digest_105 : decode cX4_digest 105 = .ok (.goto (-24), 3) := by decide +kernel
theorem dX4_digest_108 : decode cX4_digest 108 = .ok (.iinc 3 1, 3) := by decide +kernel
theorem dX4_digest_111 : decode cX4_digest 111 = .ok (.goto (-44), 3) := by decide +kernel
theorem dX4_digest_114 : decode cX4_digest 114 = .ok (.aload_n 0, 1) := by decide +kernel
theorem dX4_digest_115 : decode cX4_digest 115 = .ok (.lload_n 1, 1) := by decide +kernel
theorem dX4_digest_116 : decode cX4_digest 116 = .ok (.invokevirtual 207, 3) := by decide +kernel
theorem dX4_digest_119 : decode cX4_digest 119 = .ok (.lreturn, 1) := by decide +kernel
set_option maxHeartbeats 4000000 in
set_option maxRecDepth 100000 in
theorem c_digestOfCells (l : Launch) {g : Gm} (hI : IJ g (KK g)) {M : Mem} {o : Nat → Int64} {v : Vw} (hv : Inv v) (d : Int64) : ML l yX4_digestOfCells cX4_digestOfCells 8 (rm 3 67) g (KK g) (ent g (setR M 0 v) o) [.ref (ad g (8, 0, 0)), .long (d)] (dgC v 81 d) (ent g (setR M 0 v) o) := by
  refine met_of (by decide +kernel) (Nat.le_of_ble_eq_true rfl) ?_
  intro p e s m below meth c ls hC hr_ hlk hnm hE hP hS hl
  obtain ⟨hx, hb, hml, hown, hG⟩ := id hC
  have hl : lv_has ls 8 [(0, .ref (ad g (8, 0, 0))), (1, .long (d))] := hl
  have qH := hv.lH
  have qS := hv.lS
  have qW := hv.lW
  obtain ⟨DD, z0, s0, r0⟩ : ∃ D : Nat → (Nat → Int32) → Int64 → Int64, (∀ f d, D 0 f d = d) ∧ (∀ n f d, D (n + 1) f d = mix (D n f d) (f n)) ∧ D = dg := ⟨dg, fun _ _ => rfl, fun _ _ _ => rfl, rfl⟩
  obtain ⟨DC, zC, sC, rC⟩ : ∃ D : Nat → Int64 → Int64, (∀ d, D 0 d = d) ∧ (∀ n d, D (n + 1) d = DD 4 (fun a => cellF v (n % 9) (n / 9) (nI a)) (D n d)) ∧ D = dgC v := ⟨dgC v, fun _ => rfl, fun _ _ => by rw [r0]; rfl, rfl⟩
  have sC : ∀ a b d, b < 9 → DC (9 * a + b + 1) d = DD 4 (fun z => cellF v b a (nI z)) (DC (9 * a + b) d) := fun a b d h => (sC _ _).trans (by rw [show (9 * a + b) % 9 = b from by omega, show (9 * a + b) / 9 = a from by omega])
  refine lv_lload_n hx hb dX4_digestOfCells_0 rfl (lv_at hl 1 rfl) ?_
  refine lv_lstore_n (lv' := [(3, .long (d)), (0, .ref (ad g (8, 0, 0))), (1, .long (d))]) hx hb dX4_digestOfCells_1 rfl hl (by decide) rfl (fun ls hl => ?_)
  refine lv_iconst (v := 0) hx hb dX4_digestOfCells_2 (by decide) ?_
  refine lv_istore (lv' := [(5, .int ((0 : Int32))), (3, .long (d)), (0, .ref (ad g (8, 0, 0))), (1, .long (d))]) hx hb dX4_digestOfCells_3 hl (by decide) rfl (fun ls hl => ?_)
  refine lp_W (i0 := 0) 9 (fun i => ent g (setR M 0 v) o) (fun i => [(5, .int (nI i)), (3, .long (DC (9 * i) d)), (0, .ref (ad g (8, 0, 0))), (1, .long (d))]) (fun i => True) (Nat.zero_le _) (hP.castR (rfl)) hS (by show lv_has ls _ [(5, .int (nI 0)), (3, .long (DC (9 * 0) d)), (0, .ref (ad g (8, 0, 0))), (1, .long (d))]; rw [show DC (9 * 0) d = d from zC _]; exact lv_sub hl [0, 1, 2, 3] rfl) (trivial) (fun H locs ls hP hS hl J => ?_) (fun i hi IH H locs ls hP hS hl J => ?_)
  · refine lv_iload hx hb dX4_digestOfCells_5 (lv_at hl 0 rfl) ?_
    refine lv_bipush (v := 9) hx hb dX4_digestOfCells_7 (by decide) ?_
    refine lv_icmp_ge (tgt := 67) hx hb dX4_digestOfCells_9 (by decide) (fun c1 => ?_) (fun c1 => absurd (nI_le (Nat.le_refl _) (by decide)) c1)
    refine lv_lload_n hx hb dX4_digestOfCells_67 rfl (lv_at hl 1 rfl) ?_
    exact m_lret hC hr_ hlk hS (hP.castR (rfl)) (by rw [rC]) dX4_digestOfCells_68
  · refine lv_iload hx hb dX4_digestOfCells_5 (lv_at hl 0 rfl) ?_
    refine lv_bipush (v := 9) hx hb dX4_digestOfCells_7 (by decide) ?_
    refine lv_icmp_ge (tgt := 67) hx hb dX4_digestOfCells_9 (by decide) (fun c2 => absurd c2 (nI_ge (b := 9) hi (by decide))) (fun c2 => ?_)
    refine lv_iconst (v := 0) hx hb dX4_digestOfCells_12 (by decide) ?_
    refine lv_istore (lv' := [(6, .int ((0 : Int32))), (5, .int (nI i)), (3, .long (DC (9 * i) d)), (0, .ref (ad g (8, 0, 0))), (1, .long (d))]) hx hb dX4_digestOfCells_13 hl (by decide) rfl (fun ls hl => ?_)
    refine lp_W (i0 := 0) 9 (fun j => ent g (setR M 0 v) o) (fun j => [(6, .int (nI j)), (5, .int (nI i)), (3, .long (DC (9 * i + j) d)), (0, .ref (ad g (8, 0, 0))), (1, .long (d))]) (fun j => True) (Nat.zero_le _) (hP.castR (rfl)) hS (by show lv_has ls _ [(6, .int (nI 0)), (5, .int (nI i)), (3, .long (DC (9 * i + 0) d)), (0, .ref (ad g (8, 0, 0))), (1, .long (d))]; rw [show DC (9 * i + 0) d = DC (9 * i) d from rfl]; exact lv_sub hl [0, 1, 2, 3, 4] rfl) (trivial) (fun H locs ls hP hS hl J => ?_) (fun j hj IHj H locs ls hP hS hl J => ?_)
    · refine lv_iload hx hb dX4_digestOfCells_15 (lv_at hl 0 rfl) ?_
      refine lv_bipush (v := 9) hx hb dX4_digestOfCells_17 (by decide) ?_
      refine lv_icmp_ge (tgt := 61) hx hb dX4_digestOfCells_19 (by decide) (fun c3 => ?_) (fun c3 => absurd (nI_le (Nat.le_refl _) (by decide)) c3)
      refine lv_iinc (v := nI (i + 1)) (lv' := [(5, .int (nI (i + 1))), (6, .int (nI 9)), (3, .long (DC (9 * i + 9) d)), (0, .ref (ad g (8, 0, 0))), (1, .long (d))]) hx hb dX4_digestOfCells_61 hl (k := 1) rfl (nI_1 _) (by decide) rfl (fun ls hl => ?_)
      refine lv_goto (tgt := 5) hx hb dX4_digestOfCells_64 (by decide) ?_
      exact IH H locs ls (hP.castR (rfl)) hS (by show lv_has ls _ [(5, .int (nI (i + 1))), (3, .long (DC (9 * (i + 1)) d)), (0, .ref (ad g (8, 0, 0))), (1, .long (d))]; rw [show DC (9 * (i + 1)) d = DC (9 * i + 9) d from rfl]; exact lv_sub hl [0, 2, 3, 4] rfl) (trivial)
    · refine lv_iload hx hb dX4_digestOfCells_15 (lv_at hl 0 rfl) ?_
      refine lv_bipush (v := 9) hx hb dX4_digestOfCells_17 (by decide) ?_
      refine lv_icmp_ge (tgt := 61) hx hb dX4_digestOfCells_19 (by decide) (fun c4 => absurd c4 (nI_ge (b := 9) hj (by decide))) (fun c4 => ?_)
      refine lv_iconst (v := 0) hx hb dX4_digestOfCells_22 (by decide) ?_
      refine lv_istore (lv' := [(7, .int ((0 : Int32))), (6, .int (nI j)), (5, .int (nI i)), (3, .long (DC (9 * i + j) d)), (0, .ref (ad g (8, 0, 0))), (1, .long (d))]) hx hb dX4_digestOfCells_23 hl (by decide) rfl (fun ls hl => ?_)
      refine lp_W (i0 := 0) 4 (fun k => ent g (setR M 0 v) o) (fun k => [(7, .int (nI k)), (6, .int (nI j)), (5, .int (nI i)), (3, .long (DD k (fun z => cellF v j i (nI z)) (DC (9 * i + j) d))), (0, .ref (ad g (8, 0, 0))), (1, .long (d))]) (fun k => True) (Nat.zero_le _) (hP.castR (rfl)) hS (by show lv_has ls _ [(7, .int (nI 0)), (6, .int (nI j)), (5, .int (nI i)), (3, .long (DD 0 (fun z => cellF v j i (nI z)) (DC (9 * i + j) d))), (0, .ref (ad g (8, 0, 0))), (1, .long (d))]; rw [show DD 0 (fun z => cellF v j i (nI z)) (DC (9 * i + j) d) = DC (9 * i + j) d from z0 _ _]; exact lv_sub hl [0, 1, 2, 3, 4, 5] rfl) (trivial) (fun H locs ls hP hS hl J => ?_) (fun k hk IHk H locs ls hP hS hl J => ?_)
      · refine lv_iload hx hb dX4_digestOfCells_25 (lv_at hl 0 rfl) ?_
        refine lv_iconst (v := 4) hx hb dX4_digestOfCells_27 (by decide) ?_
        refine lv_icmp_ge (tgt := 55) hx hb dX4_digestOfCells_28 (by decide) (fun c5 => ?_) (fun c5 => absurd (nI_le (Nat.le_refl _) (by decide)) c5)
        refine lv_iinc (v := nI (j + 1)) (lv' := [(6, .int (nI (j + 1))), (7, .int (nI 4)), (5, .int (nI i)), (3, .long (DD 4 (fun z => cellF v j i (nI z)) (DC (9 * i + j) d))), (0, .ref (ad g (8, 0, 0))), (1, .long (d))]) hx hb dX4_digestOfCells_55 hl (k := 1) rfl (nI_1 _) (by decide) rfl (fun ls hl => ?_)
        refine lv_goto (tgt := 15) hx hb dX4_digestOfCells_58 (by decide) ?_
        exact IHj H locs ls (hP.castR (rfl)) hS (by show lv_has ls _ [(6, .int (nI (j + 1))), (5, .int (nI i)), (3, .long (DC (9 * i + (j + 1)) d)), (0, .ref (ad g (8, 0, 0))), (1, .long (d))]; rw [show DC (9 * i + (j + 1)) d = DD 4 (fun z => cellF v j i (nI z)) (DC (9 * i + j) d) from sC i j d hj]; exact lv_sub hl [0, 2, 3, 4, 5] rfl) (trivial)
      · refine lv_iload hx hb dX4_digestOfCells_25 (lv_at hl 0 rfl) ?_
        refine lv_iconst (v := 4) hx hb dX4_digestOfCells_27 (by decide) ?_
        refine lv_icmp_ge (tgt := 55) hx hb dX4_digestOfCells_28 (by decide) (fun c6 => absurd c6 (nI_ge (b := 4) hk (by decide))) (fun c6 => ?_)
        refine lv_lload_n hx hb dX4_digestOfCells_31 rfl (lv_at hl 3 rfl) ?_
        refine lv_aload_n hx hb dX4_digestOfCells_32 rfl (lv_at hl 4 rfl) ?_
        refine m_get hC hE hP k_8 f_8 rfl u_4 0 (by decide) w_158 rfl rfl dX4_digestOfCells_33 ?_
        refine lv_iload hx hb dX4_digestOfCells_36 (lv_at hl 1 rfl) ?_
        refine lv_iload hx hb dX4_digestOfCells_38 (lv_at hl 2 rfl) ?_
        refine lv_iload hx hb dX4_digestOfCells_40 (lv_at hl 0 rfl) ?_
        refine on_i (run_V hC hE hP hS (As := [.int (nI j), .int (nI i), .int (nI k)]) (c_cellFact l hI (by decide) hv j i (by omega) (by omega) (nI k)) cal_X1_cellFact w_243 ⟨Nat.le_of_ble_eq_true rfl, Nat.le_of_ble_eq_true rfl⟩ (k_3 (by decide)) e_3 rfl rfl rfl (Nat.le_of_ble_eq_true rfl) hl.1 ⟨Nat.le_of_ble_eq_true rfl, Nat.le_of_ble_eq_true rfl⟩ dX4_digestOfCells_42) hS (fun H locs hP hS => ?_)
        refine on_l (run_S hC hE hP hS (As := [.long (DD k (fun z => cellF v j i (nI z)) (DC (9 * i + j) d)), .int (cellF v j i (nI k))]) (c_mixed l (DD k (fun z => cellF v j i (nI z)) (DC (9 * i + j) d)) (cellF v j i (nI k))) cal_X4_mixed w_495 ⟨Nat.le_of_ble_eq_true rfl, Nat.le_of_ble_eq_true rfl⟩ rfl rfl (Nat.le_of_ble_eq_true rfl) hl.1 ⟨Nat.le_of_ble_eq_true rfl, Nat.le_of_ble_eq_true rfl⟩ dX4_digestOfCells_45) hS (fun H locs hP hS => ?_)
        refine lv_lstore_n (lv' := [(3, .long (mix (DD k (fun z => cellF v j i (nI z)) (DC (9 * i + j) d)) (cellF v j i (nI k)))), (7, .int (nI k)), (6, .int (nI j)), (5, .int (nI i)), (0, .ref (ad g (8, 0, 0))), (1, .long (d))]) hx hb dX4_digestOfCells_48 rfl hl (by decide) rfl (fun ls hl => ?_)
        refine lv_iinc (v := nI (k + 1)) (lv' := [(7, .int (nI (k + 1))), (3, .long (mix (DD k (fun z => cellF v j i (nI z)) (DC (9 * i + j) d)) (cellF v j i (nI k)))), (6, .int (nI j)), (5, .int (nI i)), (0, .ref (ad g (8, 0, 0))), (1, .long (d))]) hx hb dX4_digestOfCells_49 hl (k := 1) rfl (nI_1 _) (by decide) rfl (fun ls hl => ?_)
        refine lv_goto (tgt := 25) hx hb dX4_digestOfCells_52 (by decide) ?_
        exact IHk H locs ls (hP.castR (rfl)) hS (by show lv_has ls _ [(7, .int (nI (k + 1))), (6, .int (nI j)), (5, .int (nI i)), (3, .long (DD (k + 1) (fun z => cellF v j i (nI z)) (DC (9 * i + j) d))), (0, .ref (ad g (8, 0, 0))), (1, .long (d))]; rw [show DD (k + 1) (fun z => cellF v j i (nI z)) (DC (9 * i + j) d) = mix (DD k (fun z => cellF v j i (nI z)) (DC (9 * i + j) d)) (cellF v j i (nI k)) from s0 _ _ _]; exact lv_sub hl [0, 2, 3, 1, 4, 5] rfl) (trivial)
set_option maxHeartbeats 4000000 in
set_option maxRecDepth 100000 in
theorem c_digestOfPeople (l : Launch) {g : Gm} (hI : IJ g (KK g)) {M : Mem} {o : Nat → Int64} {v : Vw} (hv : Inv v) (d : Int64) : ML l yX4_digestOfPeople cX4_digestOfPeople 7 (rm 1 22) g (KK g) (ent g (setR M 0 v) o) [.ref (ad g (8, 0, 0)), .long (d)] (dgW v (nW v) (dgS v (nS v) d)) (ent g (setR M 0 v) o) := by
  refine met_of (by decide +kernel) (Nat.le_of_ble_eq_true rfl) ?_
  intro p e s m below meth c ls hC hr_ hlk hnm hE hP hS hl
  obtain ⟨hx, hb, hml, hown, hG⟩ := id hC
  have hl : lv_has ls 7 [(0, .ref (ad g (8, 0, 0))), (1, .long (d))] := hl
  have qH := hv.lH
  have qS := hv.lS
  have qW := hv.lW
  obtain ⟨DD, z0, s0, r0⟩ : ∃ D : Nat → (Nat → Int32) → Int64 → Int64, (∀ f d, D 0 f d = d) ∧ (∀ n f d, D (n + 1) f d = mix (D n f d) (f n)) ∧ D = dg := ⟨dg, fun _ _ => rfl, fun _ _ _ => rfl, rfl⟩
  obtain ⟨DS, zS, sS, rS⟩ : ∃ D : Nat → Int64 → Int64, (∀ d, D 0 d = d) ∧ (∀ n d, D (n + 1) d = DD 6 (fun a => sprF v n (nI a)) (D n d)) ∧ D = dgS v := ⟨dgS v, fun _ => rfl, fun _ _ => by rw [r0]; rfl, rfl⟩
  obtain ⟨DW, zW, sW, rW⟩ : ∃ D : Nat → Int64 → Int64, (∀ d, D 0 d = d) ∧ (∀ n d, D (n + 1) d = DD 4 (fun a => warF v n (nI a)) (D n d)) ∧ D = dgW v := ⟨dgW v, fun _ => rfl, fun _ _ => by rw [r0]; rfl, rfl⟩
  refine lv_lload_n hx hb dX4_digestOfPeople_0 rfl (lv_at hl 1 rfl) ?_
  refine lv_lstore_n (lv' := [(3, .long (d)), (0, .ref (ad g (8, 0, 0))), (1, .long (d))]) hx hb dX4_digestOfPeople_1 rfl hl (by decide) rfl (fun ls hl => ?_)
  refine lv_iconst (v := 0) hx hb dX4_digestOfPeople_2 (by decide) ?_
  refine lv_istore (lv' := [(5, .int ((0 : Int32))), (3, .long (d)), (0, .ref (ad g (8, 0, 0))), (1, .long (d))]) hx hb dX4_digestOfPeople_3 hl (by decide) rfl (fun ls hl => ?_)
  refine lp_W (i0 := 0) (nS v) (fun i => ent g (setR M 0 v) o) (fun i => [(5, .int (nI i)), (3, .long (DS i d)), (0, .ref (ad g (8, 0, 0))), (1, .long (d))]) (fun i => True) (Nat.zero_le _) (hP.castR (rfl)) hS (by show lv_has ls _ [(5, .int (nI 0)), (3, .long (DS 0 d)), (0, .ref (ad g (8, 0, 0))), (1, .long (d))]; rw [show DS 0 d = d from zS _]; exact lv_sub hl [0, 1, 2, 3] rfl) (trivial) (fun H locs ls hP hS hl J => ?_) (fun i hi IH H locs ls hP hS hl J => ?_)
  · generalize hD5 : DS (nS v) d = D5 at hl
    refine lv_iload hx hb dX4_digestOfPeople_5 (lv_at hl 0 rfl) ?_
    refine lv_aload_n hx hb dX4_digestOfPeople_7 rfl (lv_at hl 2 rfl) ?_
    refine m_get hC hE hP k_8 f_8 rfl u_4 0 (by decide) w_158 rfl rfl dX4_digestOfPeople_8 ?_
    refine m_get hC hE hP (k_3 (by decide)) e_3 rfl u_1 7 (by decide) w_128 rfl rfl dX4_digestOfPeople_11 ?_
    refine m_top (y := nI (nS v)) (hv.eS) ?_
    refine lv_icmp_ge (tgt := 59) hx hb dX4_digestOfPeople_14 (by decide) (fun c1 => ?_) (fun c1 => absurd (nI_le (Nat.le_refl _) (by omega)) c1)
    refine lv_iconst (v := 0) hx hb dX4_digestOfPeople_59 (by decide) ?_
    refine lv_istore (lv' := [(5, .int ((0 : Int32))), (3, .long (D5)), (0, .ref (ad g (8, 0, 0))), (1, .long (d))]) hx hb dX4_digestOfPeople_60 hl (by decide) rfl (fun ls hl => ?_)
    refine lp_W (i0 := 0) (nW v) (fun i => ent g (setR M 0 v) o) (fun i => [(5, .int (nI i)), (3, .long (DW i D5)), (0, .ref (ad g (8, 0, 0))), (1, .long (d))]) (fun i => True) (Nat.zero_le _) (hP.castR (rfl)) hS (by show lv_has ls _ [(5, .int (nI 0)), (3, .long (DW 0 D5)), (0, .ref (ad g (8, 0, 0))), (1, .long (d))]; rw [show DW 0 D5 = D5 from zW _]; exact lv_sub hl [0, 1, 2, 3] rfl) (trivial) (fun H locs ls hP hS hl J => ?_) (fun i hi IH H locs ls hP hS hl J => ?_)
    · refine lv_iload hx hb dX4_digestOfPeople_62 (lv_at hl 0 rfl) ?_
      refine lv_aload_n hx hb dX4_digestOfPeople_64 rfl (lv_at hl 2 rfl) ?_
      refine m_get hC hE hP k_8 f_8 rfl u_4 0 (by decide) w_158 rfl rfl dX4_digestOfPeople_65 ?_
      refine m_get hC hE hP (k_3 (by decide)) e_3 rfl u_1 8 (by decide) w_130 rfl rfl dX4_digestOfPeople_68 ?_
      refine m_top (y := nI (nW v)) (hv.eW) ?_
      refine lv_icmp_ge (tgt := 115) hx hb dX4_digestOfPeople_71 (by decide) (fun c2 => ?_) (fun c2 => absurd (nI_le (Nat.le_refl _) (by omega)) c2)
      refine lv_lload_n hx hb dX4_digestOfPeople_115 rfl (lv_at hl 1 rfl) ?_
      exact m_lret hC hr_ hlk hS (hP.castR (rfl)) (by rw [← hD5, rW, rS]) dX4_digestOfPeople_116
    · refine lv_iload hx hb dX4_digestOfPeople_62 (lv_at hl 0 rfl) ?_
      refine lv_aload_n hx hb dX4_digestOfPeople_64 rfl (lv_at hl 2 rfl) ?_
      refine m_get hC hE hP k_8 f_8 rfl u_4 0 (by decide) w_158 rfl rfl dX4_digestOfPeople_65 ?_
      refine m_get hC hE hP (k_3 (by decide)) e_3 rfl u_1 8 (by decide) w_130 rfl rfl dX4_digestOfPeople_68 ?_
      refine m_top (y := nI (nW v)) (hv.eW) ?_
      refine lv_icmp_ge (tgt := 115) hx hb dX4_digestOfPeople_71 (by decide) (fun c3 => absurd c3 (nI_ge (b := nW v) hi (by omega))) (fun c3 => ?_)
      refine lv_iconst (v := 0) hx hb dX4_digestOfPeople_74 (by decide) ?_
      refine lv_istore (lv' := [(6, .int ((0 : Int32))), (5, .int (nI i)), (3, .long (DW i D5)), (0, .ref (ad g (8, 0, 0))), (1, .long (d))]) hx hb dX4_digestOfPeople_75 hl (by decide) rfl (fun ls hl => ?_)
      refine lp_W (i0 := 0) 4 (fun j => ent g (setR M 0 v) o) (fun j => [(6, .int (nI j)), (5, .int (nI i)), (3, .long (DD j (fun a => warF v i (nI a)) (DW i D5))), (0, .ref (ad g (8, 0, 0))), (1, .long (d))]) (fun j => True) (Nat.zero_le _) (hP.castR (rfl)) hS (by show lv_has ls _ [(6, .int (nI 0)), (5, .int (nI i)), (3, .long (DD 0 (fun a => warF v i (nI a)) (DW i D5))), (0, .ref (ad g (8, 0, 0))), (1, .long (d))]; rw [show DD 0 (fun a => warF v i (nI a)) (DW i D5) = DW i D5 from z0 _ _]; exact lv_sub hl [0, 1, 2, 3, 4] rfl) (trivial) (fun H locs ls hP hS hl J => ?_) (fun j hj IHj H locs ls hP hS hl J => ?_)
      · refine lv_iload hx hb dX4_digestOfPeople_77 (lv_at hl 0 rfl) ?_
        refine lv_iconst (v := 4) hx hb dX4_digestOfPeople_79 (by decide) ?_
        refine lv_icmp_ge (tgt := 109) hx hb dX4_digestOfPeople_80 (by decide) (fun c4 => ?_) (fun c4 => absurd (nI_le (Nat.le_refl _) (by decide)) c4)
        refine lv_iinc (v := nI (i + 1)) (lv' := [(5, .int (nI (i + 1))), (6, .int (nI 4)), (3, .long (DD 4 (fun a => warF v i (nI a)) (DW i D5))), (0, .ref (ad g (8, 0, 0))), (1, .long (d))]) hx hb dX4_digestOfPeople_109 hl (k := 1) rfl (nI_1 _) (by decide) rfl (fun ls hl => ?_)
        refine lv_goto (tgt := 62) hx hb dX4_digestOfPeople_112 (by decide) ?_
        exact IH H locs ls (hP.castR (rfl)) hS (by show lv_has ls _ [(5, .int (nI (i + 1))), (3, .long (DW (i + 1) D5)), (0, .ref (ad g (8, 0, 0))), (1, .long (d))]; rw [show DW (i + 1) D5 = DD 4 (fun a => warF v i (nI a)) (DW i D5) from sW _ _]; exact lv_sub hl [0, 2, 3, 4] rfl) (trivial)
      · refine lv_iload hx hb dX4_digestOfPeople_77 (lv_at hl 0 rfl) ?_
        refine lv_iconst (v := 4) hx hb dX4_digestOfPeople_79 (by decide) ?_
        refine lv_icmp_ge (tgt := 109) hx hb dX4_digestOfPeople_80 (by decide) (fun c5 => absurd c5 (nI_ge (b := 4) hj (by decide))) (fun c5 => ?_)
        refine lv_lload_n hx hb dX4_digestOfPeople_83 rfl (lv_at hl 2 rfl) ?_
        refine lv_aload_n hx hb dX4_digestOfPeople_84 rfl (lv_at hl 3 rfl) ?_
        refine m_get hC hE hP k_8 f_8 rfl u_4 0 (by decide) w_158 rfl rfl dX4_digestOfPeople_85 ?_
        refine m_get hC hE hP (k_3 (by decide)) e_3 rfl u_1 5 (by decide) w_124 rfl rfl dX4_digestOfPeople_88 ?_
        refine lv_iload hx hb dX4_digestOfPeople_91 (lv_at hl 1 rfl) ?_
        refine m_aald hC hE hP (k_7 (by decide)) f_7 rfl i (rfl) (by omega) (by decide) rfl dX4_digestOfPeople_93 ?_
        refine lv_iload hx hb dX4_digestOfPeople_94 (lv_at hl 0 rfl) ?_
        refine on_i (run_V hC hE hP hS (As := [.int (nI j)]) (c_tellW l hI (by decide) (v := v) i (by omega) (nI j)) cal_X3_tell w_315 ⟨Nat.le_of_ble_eq_true rfl, Nat.le_of_ble_eq_true rfl⟩ (k_2 (by decide) (by omega)) e_2 rfl rfl rfl (Nat.le_of_ble_eq_true rfl) hl.1 ⟨Nat.le_of_ble_eq_true rfl, Nat.le_of_ble_eq_true rfl⟩ dX4_digestOfPeople_96) hS (fun H locs hP hS => ?_)
        refine on_l (run_S hC hE hP hS (As := [.long (DD j (fun a => warF v i (nI a)) (DW i D5)), .int (warF v i (nI j))]) (c_mixed l (DD j (fun a => warF v i (nI a)) (DW i D5)) (warF v i (nI j))) cal_X4_mixed w_495 ⟨Nat.le_of_ble_eq_true rfl, Nat.le_of_ble_eq_true rfl⟩ rfl rfl (Nat.le_of_ble_eq_true rfl) hl.1 ⟨Nat.le_of_ble_eq_true rfl, Nat.le_of_ble_eq_true rfl⟩ dX4_digestOfPeople_99) hS (fun H locs hP hS => ?_)
        refine lv_lstore_n (lv' := [(3, .long (mix (DD j (fun a => warF v i (nI a)) (DW i D5)) (warF v i (nI j)))), (6, .int (nI j)), (5, .int (nI i)), (0, .ref (ad g (8, 0, 0))), (1, .long (d))]) hx hb dX4_digestOfPeople_102 rfl hl (by decide) rfl (fun ls hl => ?_)
        refine lv_iinc (v := nI (j + 1)) (lv' := [(6, .int (nI (j + 1))), (3, .long (mix (DD j (fun a => warF v i (nI a)) (DW i D5)) (warF v i (nI j)))), (5, .int (nI i)), (0, .ref (ad g (8, 0, 0))), (1, .long (d))]) hx hb dX4_digestOfPeople_103 hl (k := 1) rfl (nI_1 _) (by decide) rfl (fun ls hl => ?_)
        refine lv_goto (tgt := 77) hx hb dX4_digestOfPeople_106 (by decide) ?_
        exact IHj H locs ls (hP.castR (rfl)) hS (by show lv_has ls _ [(6, .int (nI (j + 1))), (5, .int (nI i)), (3, .long (DD (j + 1) (fun a => warF v i (nI a)) (DW i D5))), (0, .ref (ad g (8, 0, 0))), (1, .long (d))]; rw [show DD (j + 1) (fun a => warF v i (nI a)) (DW i D5) = mix (DD j (fun a => warF v i (nI a)) (DW i D5)) (warF v i (nI j)) from s0 _ _ _]; exact lv_sub hl [0, 2, 1, 3, 4] rfl) (trivial)
  · refine lv_iload hx hb dX4_digestOfPeople_5 (lv_at hl 0 rfl) ?_
    refine lv_aload_n hx hb dX4_digestOfPeople_7 rfl (lv_at hl 2 rfl) ?_
    refine m_get hC hE hP k_8 f_8 rfl u_4 0 (by decide) w_158 rfl rfl dX4_digestOfPeople_8 ?_
    refine m_get hC hE hP (k_3 (by decide)) e_3 rfl u_1 7 (by decide) w_128 rfl rfl dX4_digestOfPeople_11 ?_
    refine m_top (y := nI (nS v)) (hv.eS) ?_
    refine lv_icmp_ge (tgt := 59) hx hb dX4_digestOfPeople_14 (by decide) (fun c6 => absurd c6 (nI_ge (b := nS v) hi (by omega))) (fun c6 => ?_)
    refine lv_iconst (v := 0) hx hb dX4_digestOfPeople_17 (by decide) ?_
    refine lv_istore (lv' := [(6, .int ((0 : Int32))), (5, .int (nI i)), (3, .long (DS i d)), (0, .ref (ad g (8, 0, 0))), (1, .long (d))]) hx hb dX4_digestOfPeople_18 hl (by decide) rfl (fun ls hl => ?_)
    refine lp_W (i0 := 0) 6 (fun j => ent g (setR M 0 v) o) (fun j => [(6, .int (nI j)), (5, .int (nI i)), (3, .long (DD j (fun a => sprF v i (nI a)) (DS i d))), (0, .ref (ad g (8, 0, 0))), (1, .long (d))]) (fun j => True) (Nat.zero_le _) (hP.castR (rfl)) hS (by show lv_has ls _ [(6, .int (nI 0)), (5, .int (nI i)), (3, .long (DD 0 (fun a => sprF v i (nI a)) (DS i d))), (0, .ref (ad g (8, 0, 0))), (1, .long (d))]; rw [show DD 0 (fun a => sprF v i (nI a)) (DS i d) = DS i d from z0 _ _]; exact lv_sub hl [0, 1, 2, 3, 4] rfl) (trivial) (fun H locs ls hP hS hl J => ?_) (fun j hj IHj H locs ls hP hS hl J => ?_)
    · refine lv_iload hx hb dX4_digestOfPeople_20 (lv_at hl 0 rfl) ?_
      refine lv_bipush (v := 6) hx hb dX4_digestOfPeople_22 (by decide) ?_
      refine lv_icmp_ge (tgt := 53) hx hb dX4_digestOfPeople_24 (by decide) (fun c7 => ?_) (fun c7 => absurd (nI_le (Nat.le_refl _) (by decide)) c7)
      refine lv_iinc (v := nI (i + 1)) (lv' := [(5, .int (nI (i + 1))), (6, .int (nI 6)), (3, .long (DD 6 (fun a => sprF v i (nI a)) (DS i d))), (0, .ref (ad g (8, 0, 0))), (1, .long (d))]) hx hb dX4_digestOfPeople_53 hl (k := 1) rfl (nI_1 _) (by decide) rfl (fun ls hl => ?_)
      refine lv_goto (tgt := 5) hx hb dX4_digestOfPeople_56 (by decide) ?_
      exact IH H locs ls (hP.castR (rfl)) hS (by show lv_has ls _ [(5, .int (nI (i + 1))), (3, .long (DS (i + 1) d)), (0, .ref (ad g (8, 0, 0))), (1, .long (d))]; rw [show DS (i + 1) d = DD 6 (fun a => sprF v i (nI a)) (DS i d) from sS _ _]; exact lv_sub hl [0, 2, 3, 4] rfl) (trivial)
    · refine lv_iload hx hb dX4_digestOfPeople_20 (lv_at hl 0 rfl) ?_
      refine lv_bipush (v := 6) hx hb dX4_digestOfPeople_22 (by decide) ?_
      refine lv_icmp_ge (tgt := 53) hx hb dX4_digestOfPeople_24 (by decide) (fun c8 => absurd c8 (nI_ge (b := 6) hj (by decide))) (fun c8 => ?_)
      refine lv_lload_n hx hb dX4_digestOfPeople_27 rfl (lv_at hl 2 rfl) ?_
      refine lv_aload_n hx hb dX4_digestOfPeople_28 rfl (lv_at hl 3 rfl) ?_
      refine m_get hC hE hP k_8 f_8 rfl u_4 0 (by decide) w_158 rfl rfl dX4_digestOfPeople_29 ?_
      refine m_get hC hE hP (k_3 (by decide)) e_3 rfl u_1 4 (by decide) w_122 rfl rfl dX4_digestOfPeople_32 ?_
      refine lv_iload hx hb dX4_digestOfPeople_35 (lv_at hl 1 rfl) ?_
      refine m_aald hC hE hP (k_6 (by decide)) f_6 rfl i (rfl) (by omega) (by decide) rfl dX4_digestOfPeople_37 ?_
      refine lv_iload hx hb dX4_digestOfPeople_38 (lv_at hl 0 rfl) ?_
      refine on_i (run_V hC hE hP hS (As := [.int (nI j)]) (c_tellS l hI (by decide) (v := v) i (by omega) (nI j)) cal_X2_tell w_302 ⟨Nat.le_of_ble_eq_true rfl, Nat.le_of_ble_eq_true rfl⟩ (k_1 (by decide) (by omega)) e_1 rfl rfl rfl (Nat.le_of_ble_eq_true rfl) hl.1 ⟨Nat.le_of_ble_eq_true rfl, Nat.le_of_ble_eq_true rfl⟩ dX4_digestOfPeople_40) hS (fun H locs hP hS => ?_)
      refine on_l (run_S hC hE hP hS (As := [.long (DD j (fun a => sprF v i (nI a)) (DS i d)), .int (sprF v i (nI j))]) (c_mixed l (DD j (fun a => sprF v i (nI a)) (DS i d)) (sprF v i (nI j))) cal_X4_mixed w_495 ⟨Nat.le_of_ble_eq_true rfl, Nat.le_of_ble_eq_true rfl⟩ rfl rfl (Nat.le_of_ble_eq_true rfl) hl.1 ⟨Nat.le_of_ble_eq_true rfl, Nat.le_of_ble_eq_true rfl⟩ dX4_digestOfPeople_43) hS (fun H locs hP hS => ?_)
      refine lv_lstore_n (lv' := [(3, .long (mix (DD j (fun a => sprF v i (nI a)) (DS i d)) (sprF v i (nI j)))), (6, .int (nI j)), (5, .int (nI i)), (0, .ref (ad g (8, 0, 0))), (1, .long (d))]) hx hb dX4_digestOfPeople_46 rfl hl (by decide) rfl (fun ls hl => ?_)
      refine lv_iinc (v := nI (j + 1)) (lv' := [(6, .int (nI (j + 1))), (3, .long (mix (DD j (fun a => sprF v i (nI a)) (DS i d)) (sprF v i (nI j)))), (5, .int (nI i)), (0, .ref (ad g (8, 0, 0))), (1, .long (d))]) hx hb dX4_digestOfPeople_47 hl (k := 1) rfl (nI_1 _) (by decide) rfl (fun ls hl => ?_)
      refine lv_goto (tgt := 20) hx hb dX4_digestOfPeople_50 (by decide) ?_
      exact IHj H locs ls (hP.castR (rfl)) hS (by show lv_has ls _ [(6, .int (nI (j + 1))), (5, .int (nI i)), (3, .long (DD (j + 1) (fun a => sprF v i (nI a)) (DS i d))), (0, .ref (ad g (8, 0, 0))), (1, .long (d))]; rw [show DD (j + 1) (fun a => sprF v i (nI a)) (DS i d) = mix (DD j (fun a => sprF v i (nI a)) (DS i d)) (sprF v i (nI j)) from s0 _ _ _]; exact lv_sub hl [0, 2, 1, 3, 4] rfl) (trivial)
set_option maxHeartbeats 4000000 in
set_option maxRecDepth 100000 in
theorem c_digestP (l : Launch) {g : Gm} (hI : IJ g (KK g)) {M : Mem} {o : Nat → Int64} {v : Vw} (hv : Inv v) : ML l yX4_digest cX4_digest 5 (rm 4 94) g (KK g) (ent g (setR M 0 v) o) [.ref (ad g (8, 0, 0))] (digV v) (ent g (setR M 0 v) o) := by
  refine met_of (by decide +kernel) (Nat.le_of_ble_eq_true rfl) ?_
  intro p e s m below meth c ls hC hr_ hlk hnm hE hP hS hl
  obtain ⟨hx, hb, hml, hown, hG⟩ := id hC
  have hl : lv_has ls 5 [(0, .ref (ad g (8, 0, 0)))] := hl
  have qH := hv.lH
  have qS := hv.lS
  have qW := hv.lW
  obtain ⟨DD, z0, s0, r0⟩ : ∃ D : Nat → (Nat → Int32) → Int64 → Int64, (∀ f d, D 0 f d = d) ∧ (∀ n f d, D (n + 1) f d = mix (D n f d) (f n)) ∧ D = dg := ⟨dg, fun _ _ => rfl, fun _ _ _ => rfl, rfl⟩
  obtain ⟨DH, zH, sH, rH⟩ : ∃ D : Nat → Int64 → Int64, (∀ d, D 0 d = d) ∧ (∀ n d, D (n + 1) d = DD 5 (fun a => holeF v n (nI a)) (D n d)) ∧ D = dgH v := ⟨dgH v, fun _ => rfl, fun _ _ => by rw [r0]; rfl, rfl⟩
  refine lv_ldc2 (v := 1187) hx hb hown (hG _ w_494) dX4_digest_0 ?_
  refine lv_lstore_n (lv' := [(1, .long ((1187 : Int64))), (0, .ref (ad g (8, 0, 0)))]) hx hb dX4_digest_3 rfl hl (by decide) rfl (fun ls hl => ?_)
  refine lv_iconst (v := 0) hx hb dX4_digest_4 (by decide) ?_
  refine lv_istore_n (lv' := [(3, .int ((0 : Int32))), (1, .long ((1187 : Int64))), (0, .ref (ad g (8, 0, 0)))]) hx hb dX4_digest_5 rfl hl (by decide) rfl (fun ls hl => ?_)
  refine lp_W (i0 := 0) 9 (fun i => ent g (setR M 0 v) o) (fun i => [(3, .int (nI i)), (1, .long (DD i (fun a => factF v (nI a)) 1187)), (0, .ref (ad g (8, 0, 0)))]) (fun i => True) (Nat.zero_le _) (hP.castR (rfl)) hS (by show lv_has ls _ [(3, .int (nI 0)), (1, .long (DD 0 (fun a => factF v (nI a)) 1187)), (0, .ref (ad g (8, 0, 0)))]; rw [show DD 0 (fun a => factF v (nI a)) 1187 = (1187 : Int64) from z0 _ _]; exact lv_sub hl [0, 1, 2] rfl) (trivial) (fun H locs ls hP hS hl J => ?_) (fun i hi IH H locs ls hP hS hl J => ?_)
  · generalize hD1 : DD 9 (fun a => factF v (nI a)) 1187 = D1 at hl
    refine lv_iload_n hx hb dX4_digest_6 rfl (lv_at hl 0 rfl) ?_
    refine lv_bipush (v := 9) hx hb dX4_digest_7 (by decide) ?_
    refine lv_icmp_ge (tgt := 31) hx hb dX4_digest_9 (by decide) (fun c1 => ?_) (fun c1 => absurd (nI_le (Nat.le_refl _) (by decide)) c1)
    refine lv_aload_n hx hb dX4_digest_31 rfl (lv_at hl 2 rfl) ?_
    refine lv_lload_n hx hb dX4_digest_32 rfl (lv_at hl 1 rfl) ?_
    refine on_l (run_V hC hE hP hS (As := [.long (D1)]) (c_digestOfCells l hI hv D1) cal_X4_digestOfCells w_499 ⟨Nat.le_of_ble_eq_true rfl, Nat.le_of_ble_eq_true rfl⟩ k_8 f_8 rfl rfl rfl (Nat.le_of_ble_eq_true rfl) hl.1 ⟨Nat.le_of_ble_eq_true rfl, Nat.le_of_ble_eq_true rfl⟩ dX4_digest_33) hS (fun H locs hP hS => ?_)
    refine lv_lstore_n (lv' := [(1, .long (dgC v 81 D1)), (3, .int (nI 9)), (0, .ref (ad g (8, 0, 0)))]) hx hb dX4_digest_36 rfl hl (by decide) rfl (fun ls hl => ?_)
    refine lv_iconst (v := 0) hx hb dX4_digest_37 (by decide) ?_
    refine lv_istore_n (lv' := [(3, .int ((0 : Int32))), (1, .long (dgC v 81 D1)), (0, .ref (ad g (8, 0, 0)))]) hx hb dX4_digest_38 rfl hl (by decide) rfl (fun ls hl => ?_)
    refine lp_W (i0 := 0) 7 (fun i => ent g (setR M 0 v) o) (fun i => [(3, .int (nI i)), (1, .long (DD i (v 2) (dgC v 81 D1))), (0, .ref (ad g (8, 0, 0)))]) (fun i => True) (Nat.zero_le _) (hP.castR (rfl)) hS (by show lv_has ls _ [(3, .int (nI 0)), (1, .long (DD 0 (v 2) (dgC v 81 D1))), (0, .ref (ad g (8, 0, 0)))]; rw [show DD 0 (v 2) (dgC v 81 D1) = dgC v 81 D1 from z0 _ _]; exact lv_sub hl [0, 1, 2] rfl) (trivial) (fun H locs ls hP hS hl J => ?_) (fun i hi IH H locs ls hP hS hl J => ?_)
    · generalize hD3 : DD 7 (v 2) (dgC v 81 D1) = D3 at hl
      refine lv_iload_n hx hb dX4_digest_39 rfl (lv_at hl 0 rfl) ?_
      refine lv_bipush (v := 7) hx hb dX4_digest_40 (by decide) ?_
      refine lv_icmp_ge (tgt := 65) hx hb dX4_digest_42 (by decide) (fun c2 => ?_) (fun c2 => absurd (nI_le (Nat.le_refl _) (by decide)) c2)
      refine lv_iconst (v := 0) hx hb dX4_digest_65 (by decide) ?_
      refine lv_istore_n (lv' := [(3, .int ((0 : Int32))), (1, .long (D3)), (0, .ref (ad g (8, 0, 0)))]) hx hb dX4_digest_66 rfl hl (by decide) rfl (fun ls hl => ?_)
      refine lp_W (i0 := 0) (nH v) (fun i => ent g (setR M 0 v) o) (fun i => [(3, .int (nI i)), (1, .long (DH i D3)), (0, .ref (ad g (8, 0, 0)))]) (fun i => True) (Nat.zero_le _) (hP.castR (rfl)) hS (by show lv_has ls _ [(3, .int (nI 0)), (1, .long (DH 0 D3)), (0, .ref (ad g (8, 0, 0)))]; rw [show DH 0 D3 = D3 from zH _]; exact lv_sub hl [0, 1, 2] rfl) (trivial) (fun H locs ls hP hS hl J => ?_) (fun i hi IH H locs ls hP hS hl J => ?_)
      · generalize hD4 : DH (nH v) D3 = D4 at hl
        refine lv_iload_n hx hb dX4_digest_67 rfl (lv_at hl 0 rfl) ?_
        refine lv_aload_n hx hb dX4_digest_68 rfl (lv_at hl 2 rfl) ?_
        refine m_get hC hE hP k_8 f_8 rfl u_4 0 (by decide) w_158 rfl rfl dX4_digest_69 ?_
        refine m_get hC hE hP (k_3 (by decide)) e_3 rfl u_1 6 (by decide) w_126 rfl rfl dX4_digest_72 ?_
        refine m_top (y := nI (nH v)) (hv.eH) ?_
        refine lv_icmp_ge (tgt := 114) hx hb dX4_digest_75 (by decide) (fun c3 => ?_) (fun c3 => absurd (nI_le (Nat.le_refl _) (by omega)) c3)
        refine lv_aload_n hx hb dX4_digest_114 rfl (lv_at hl 2 rfl) ?_
        refine lv_lload_n hx hb dX4_digest_115 rfl (lv_at hl 1 rfl) ?_
        refine on_l (run_V hC hE hP hS (As := [.long (D4)]) (c_digestOfPeople l hI hv D4) cal_X4_digestOfPeople w_503 ⟨Nat.le_of_ble_eq_true rfl, Nat.le_of_ble_eq_true rfl⟩ k_8 f_8 rfl rfl rfl (Nat.le_of_ble_eq_true rfl) hl.1 ⟨Nat.le_of_ble_eq_true rfl, Nat.le_of_ble_eq_true rfl⟩ dX4_digest_116) hS (fun H locs hP hS => ?_)
        exact m_lret hC hr_ hlk hS (hP.castR (rfl)) (by rw [← hD4, ← hD3, ← hD1, rH, r0, dig_e]) dX4_digest_119
      · refine lv_iload_n hx hb dX4_digest_67 rfl (lv_at hl 0 rfl) ?_
        refine lv_aload_n hx hb dX4_digest_68 rfl (lv_at hl 2 rfl) ?_
        refine m_get hC hE hP k_8 f_8 rfl u_4 0 (by decide) w_158 rfl rfl dX4_digest_69 ?_
        refine m_get hC hE hP (k_3 (by decide)) e_3 rfl u_1 6 (by decide) w_126 rfl rfl dX4_digest_72 ?_
        refine m_top (y := nI (nH v)) (hv.eH) ?_
        refine lv_icmp_ge (tgt := 114) hx hb dX4_digest_75 (by decide) (fun c4 => absurd c4 (nI_ge (b := nH v) hi (by omega))) (fun c4 => ?_)
        refine lv_iconst (v := 0) hx hb dX4_digest_78 (by decide) ?_
        refine lv_istore (lv' := [(4, .int ((0 : Int32))), (3, .int (nI i)), (1, .long (DH i D3)), (0, .ref (ad g (8, 0, 0)))]) hx hb dX4_digest_79 hl (by decide) rfl (fun ls hl => ?_)
        refine lp_W (i0 := 0) 5 (fun j => ent g (setR M 0 v) o) (fun j => [(4, .int (nI j)), (3, .int (nI i)), (1, .long (DD j (fun a => holeF v i (nI a)) (DH i D3))), (0, .ref (ad g (8, 0, 0)))]) (fun j => True) (Nat.zero_le _) (hP.castR (rfl)) hS (by show lv_has ls _ [(4, .int (nI 0)), (3, .int (nI i)), (1, .long (DD 0 (fun a => holeF v i (nI a)) (DH i D3))), (0, .ref (ad g (8, 0, 0)))]; rw [show DD 0 (fun a => holeF v i (nI a)) (DH i D3) = DH i D3 from z0 _ _]; exact lv_sub hl [0, 1, 2, 3] rfl) (trivial) (fun H locs ls hP hS hl J => ?_) (fun j hj IHj H locs ls hP hS hl J => ?_)
        · refine lv_iload hx hb dX4_digest_81 (lv_at hl 0 rfl) ?_
          refine lv_iconst (v := 5) hx hb dX4_digest_83 (by decide) ?_
          refine lv_icmp_ge (tgt := 108) hx hb dX4_digest_84 (by decide) (fun c5 => ?_) (fun c5 => absurd (nI_le (Nat.le_refl _) (by decide)) c5)
          refine lv_iinc (v := nI (i + 1)) (lv' := [(3, .int (nI (i + 1))), (4, .int (nI 5)), (1, .long (DD 5 (fun a => holeF v i (nI a)) (DH i D3))), (0, .ref (ad g (8, 0, 0)))]) hx hb dX4_digest_108 hl (k := 1) rfl (nI_1 _) (by decide) rfl (fun ls hl => ?_)
          refine lv_goto (tgt := 67) hx hb dX4_digest_111 (by decide) ?_
          exact IH H locs ls (hP.castR (rfl)) hS (by show lv_has ls _ [(3, .int (nI (i + 1))), (1, .long (DH (i + 1) D3)), (0, .ref (ad g (8, 0, 0)))]; rw [show DH (i + 1) D3 = DD 5 (fun a => holeF v i (nI a)) (DH i D3) from sH _ _]; exact lv_sub hl [0, 2, 3] rfl) (trivial)
        · refine lv_iload hx hb dX4_digest_81 (lv_at hl 0 rfl) ?_
          refine lv_iconst (v := 5) hx hb dX4_digest_83 (by decide) ?_
          refine lv_icmp_ge (tgt := 108) hx hb dX4_digest_84 (by decide) (fun c6 => absurd c6 (nI_ge (b := 5) hj (by decide))) (fun c6 => ?_)
          refine lv_lload_n hx hb dX4_digest_87 rfl (lv_at hl 2 rfl) ?_
          refine lv_aload_n hx hb dX4_digest_88 rfl (lv_at hl 3 rfl) ?_
          refine m_get hC hE hP k_8 f_8 rfl u_4 0 (by decide) w_158 rfl rfl dX4_digest_89 ?_
          refine lv_iload_n hx hb dX4_digest_92 rfl (lv_at hl 1 rfl) ?_
          refine lv_iload hx hb dX4_digest_93 (lv_at hl 0 rfl) ?_
          refine on_i (run_V hC hE hP hS (As := [.int (nI i), .int (nI j)]) (c_holeFact l hI (by decide) hv i (by omega) (nI j)) cal_X1_holeFact w_274 ⟨Nat.le_of_ble_eq_true rfl, Nat.le_of_ble_eq_true rfl⟩ (k_3 (by decide)) e_3 rfl rfl rfl (Nat.le_of_ble_eq_true rfl) hl.1 ⟨Nat.le_of_ble_eq_true rfl, Nat.le_of_ble_eq_true rfl⟩ dX4_digest_95) hS (fun H locs hP hS => ?_)
          refine on_l (run_S hC hE hP hS (As := [.long (DD j (fun a => holeF v i (nI a)) (DH i D3)), .int (holeF v i (nI j))]) (c_mixed l (DD j (fun a => holeF v i (nI a)) (DH i D3)) (holeF v i (nI j))) cal_X4_mixed w_495 ⟨Nat.le_of_ble_eq_true rfl, Nat.le_of_ble_eq_true rfl⟩ rfl rfl (Nat.le_of_ble_eq_true rfl) hl.1 ⟨Nat.le_of_ble_eq_true rfl, Nat.le_of_ble_eq_true rfl⟩ dX4_digest_98) hS (fun H locs hP hS => ?_)
          refine lv_lstore_n (lv' := [(1, .long (mix (DD j (fun a => holeF v i (nI a)) (DH i D3)) (holeF v i (nI j)))), (4, .int (nI j)), (3, .int (nI i)), (0, .ref (ad g (8, 0, 0)))]) hx hb dX4_digest_101 rfl hl (by decide) rfl (fun ls hl => ?_)
          refine lv_iinc (v := nI (j + 1)) (lv' := [(4, .int (nI (j + 1))), (1, .long (mix (DD j (fun a => holeF v i (nI a)) (DH i D3)) (holeF v i (nI j)))), (3, .int (nI i)), (0, .ref (ad g (8, 0, 0)))]) hx hb dX4_digest_102 hl (k := 1) rfl (nI_1 _) (by decide) rfl (fun ls hl => ?_)
          refine lv_goto (tgt := 81) hx hb dX4_digest_105 (by decide) ?_
          exact IHj H locs ls (hP.castR (rfl)) hS (by show lv_has ls _ [(4, .int (nI (j + 1))), (3, .int (nI i)), (1, .long (DD (j + 1) (fun a => holeF v i (nI a)) (DH i D3))), (0, .ref (ad g (8, 0, 0)))]; rw [show DD (j + 1) (fun a => holeF v i (nI a)) (DH i D3) = mix (DD j (fun a => holeF v i (nI a)) (DH i D3)) (holeF v i (nI j)) from s0 _ _ _]; exact lv_sub hl [0, 2, 1, 3] rfl) (trivial)
    · refine lv_iload_n hx hb dX4_digest_39 rfl (lv_at hl 0 rfl) ?_
      refine lv_bipush (v := 7) hx hb dX4_digest_40 (by decide) ?_
      refine lv_icmp_ge (tgt := 65) hx hb dX4_digest_42 (by decide) (fun c7 => absurd c7 (nI_ge (b := 7) hi (by decide))) (fun c7 => ?_)
      refine lv_lload_n hx hb dX4_digest_45 rfl (lv_at hl 1 rfl) ?_
      refine lv_aload_n hx hb dX4_digest_46 rfl (lv_at hl 2 rfl) ?_
      refine m_get hC hE hP k_8 f_8 rfl u_4 0 (by decide) w_158 rfl rfl dX4_digest_47 ?_
      refine m_get hC hE hP (k_3 (by decide)) e_3 rfl u_1 2 (by decide) w_118 rfl rfl dX4_digest_50 ?_
      refine lv_iload_n hx hb dX4_digest_53 rfl (lv_at hl 0 rfl) ?_
      refine m_iald hC hE hP (k_4 (by decide) (by decide)) e_4 i (rfl) (show i < 7 from by omega) (by decide) dX4_digest_54 ?_
      refine on_l (run_S hC hE hP hS (As := [.long (DD i (v 2) (dgC v 81 D1)), .int (v 2 i)]) (c_mixed l (DD i (v 2) (dgC v 81 D1)) (v 2 i)) cal_X4_mixed w_495 ⟨Nat.le_of_ble_eq_true rfl, Nat.le_of_ble_eq_true rfl⟩ rfl rfl (Nat.le_of_ble_eq_true rfl) hl.1 ⟨Nat.le_of_ble_eq_true rfl, Nat.le_of_ble_eq_true rfl⟩ dX4_digest_55) hS (fun H locs hP hS => ?_)
      refine lv_lstore_n (lv' := [(1, .long (mix (DD i (v 2) (dgC v 81 D1)) (v 2 i))), (3, .int (nI i)), (0, .ref (ad g (8, 0, 0)))]) hx hb dX4_digest_58 rfl hl (by decide) rfl (fun ls hl => ?_)
      refine lv_iinc (v := nI (i + 1)) (lv' := [(3, .int (nI (i + 1))), (1, .long (mix (DD i (v 2) (dgC v 81 D1)) (v 2 i))), (0, .ref (ad g (8, 0, 0)))]) hx hb dX4_digest_59 hl (k := 1) rfl (nI_1 _) (by decide) rfl (fun ls hl => ?_)
      refine lv_goto (tgt := 39) hx hb dX4_digest_62 (by decide) ?_
      exact IH H locs ls (hP.castR (rfl)) hS (by show lv_has ls _ [(3, .int (nI (i + 1))), (1, .long (DD (i + 1) (v 2) (dgC v 81 D1))), (0, .ref (ad g (8, 0, 0)))]; rw [show DD (i + 1) (v 2) (dgC v 81 D1) = mix (DD i (v 2) (dgC v 81 D1)) (v 2 i) from s0 _ _ _]; exact lv_sub hl [0, 1, 2] rfl) (trivial)
  · refine lv_iload_n hx hb dX4_digest_6 rfl (lv_at hl 0 rfl) ?_
    refine lv_bipush (v := 9) hx hb dX4_digest_7 (by decide) ?_
    refine lv_icmp_ge (tgt := 31) hx hb dX4_digest_9 (by decide) (fun c8 => absurd c8 (nI_ge (b := 9) hi (by decide))) (fun c8 => ?_)
    refine lv_lload_n hx hb dX4_digest_12 rfl (lv_at hl 1 rfl) ?_
    refine lv_aload_n hx hb dX4_digest_13 rfl (lv_at hl 2 rfl) ?_
    refine m_get hC hE hP k_8 f_8 rfl u_4 0 (by decide) w_158 rfl rfl dX4_digest_14 ?_
    refine lv_iload_n hx hb dX4_digest_17 rfl (lv_at hl 0 rfl) ?_
    refine on_i (run_V hC hE hP hS (As := [.int (nI i)]) (c_fact l hI (by decide) hv (nI i)) cal_X1_fact w_324 ⟨Nat.le_of_ble_eq_true rfl, Nat.le_of_ble_eq_true rfl⟩ (k_3 (by decide)) e_3 rfl rfl rfl (Nat.le_of_ble_eq_true rfl) hl.1 ⟨Nat.le_of_ble_eq_true rfl, Nat.le_of_ble_eq_true rfl⟩ dX4_digest_18) hS (fun H locs hP hS => ?_)
    refine on_l (run_S hC hE hP hS (As := [.long (DD i (fun a => factF v (nI a)) 1187), .int (factF v (nI i))]) (c_mixed l (DD i (fun a => factF v (nI a)) 1187) (factF v (nI i))) cal_X4_mixed w_495 ⟨Nat.le_of_ble_eq_true rfl, Nat.le_of_ble_eq_true rfl⟩ rfl rfl (Nat.le_of_ble_eq_true rfl) hl.1 ⟨Nat.le_of_ble_eq_true rfl, Nat.le_of_ble_eq_true rfl⟩ dX4_digest_21) hS (fun H locs hP hS => ?_)
    refine lv_lstore_n (lv' := [(1, .long (mix (DD i (fun a => factF v (nI a)) 1187) (factF v (nI i)))), (3, .int (nI i)), (0, .ref (ad g (8, 0, 0)))]) hx hb dX4_digest_24 rfl hl (by decide) rfl (fun ls hl => ?_)
    refine lv_iinc (v := nI (i + 1)) (lv' := [(3, .int (nI (i + 1))), (1, .long (mix (DD i (fun a => factF v (nI a)) 1187) (factF v (nI i)))), (0, .ref (ad g (8, 0, 0)))]) hx hb dX4_digest_25 hl (k := 1) rfl (nI_1 _) (by decide) rfl (fun ls hl => ?_)
    refine lv_goto (tgt := 6) hx hb dX4_digest_28 (by decide) ?_
    exact IH H locs ls (hP.castR (rfl)) hS (by show lv_has ls _ [(3, .int (nI (i + 1))), (1, .long (DD (i + 1) (fun a => factF v (nI a)) 1187)), (0, .ref (ad g (8, 0, 0)))]; rw [show DD (i + 1) (fun a => factF v (nI a)) 1187 = mix (DD i (fun a => factF v (nI a)) 1187) (factF v (nI i)) from s0 _ _ _]; exact lv_sub hl [0, 1, 2] rfl) (trivial)
