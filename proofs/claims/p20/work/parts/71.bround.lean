/-! The builder: one round of its loop. -/
theorem dL_build_0 : decode cL_build 0 = .ok (.new 16, 3) := by decide +kernel
theorem dL_build_3 : decode cL_build 3 = .ok (.dup, 1) := by decide +kernel
theorem dL_build_4 : decode cL_build 4 = .ok (.invokespecial 72, 3) := by decide +kernel
theorem dL_build_7 : decode cL_build 7 = .ok (.astore_n 3, 1) := by decide +kernel
theorem dL_build_8 : decode cL_build 8 = .ok (.bipush 18, 2) := by decide +kernel
theorem dL_build_10 : decode cL_build 10 = .ok (.newarray .int, 2) := by decide +kernel
theorem dL_build_12 : decode cL_build 12 = .ok (.dup, 1) := by decide +kernel
theorem dL_build_13 : decode cL_build 13 = .ok (.iconst 0, 1) := by decide +kernel
theorem dL_build_14 : decode cL_build 14 = .ok (.iconst 0, 1) := by decide +kernel
theorem dL_build_15 : decode cL_build 15 = .ok (.iastore, 1) := by decide +kernel
theorem dL_build_16 : decode cL_build 16 = .ok (.dup, 1) := by decide +kernel
theorem dL_build_17 : decode cL_build 17 = .ok (.iconst 1, 1) := by decide +kernel
theorem dL_build_18 : decode cL_build 18 = .ok (.iconst 1, 1) := by decide +kernel
theorem dL_build_19 : decode cL_build 19 = .ok (.iastore, 1) := by decide +kernel
theorem dL_build_20 : decode cL_build 20 = .ok (.dup, 1) := by decide +kernel
theorem dL_build_21 : decode cL_build 21 = .ok (.iconst 2, 1) := by decide +kernel
theorem dL_build_22 : decode cL_build 22 = .ok (.iconst 0, 1) := by decide +kernel
theorem dL_build_23 : decode cL_build 23 = .ok (.iastore, 1) := by decide +kernel
theorem dL_build_24 : decode cL_build 24 = .ok (.dup, 1) := by decide +kernel
theorem dL_build_25 : decode cL_build 25 = .ok (.iconst 3, 1) := by decide +kernel
theorem dL_build_26 : decode cL_build 26 = .ok (.iconst 4, 1) := by decide +kernel
theorem dL_build_27 : decode cL_build 27 = .ok (.iastore, 1) := by decide +kernel
theorem dL_build_28 : decode cL_build 28 = .ok (.dup, 1) := by decide +kernel
theorem dL_build_29 : decode cL_build 29 = .ok (.iconst 4, 1) := by decide +kernel
theorem dL_build_30 : decode cL_build 30 = .ok (.iconst 5, 1) := by decide +kernel
theorem dL_build_31 : decode cL_build 31 = .ok (.iastore, 1) := by decide +kernel
theorem dL_build_32 : decode cL_build 32 = .ok (.dup, 1) := by decide +kernel
theorem dL_build_33 : decode cL_build 33 = .ok (.iconst 5, 1) := by decide +kernel
theorem dL_build_34 : decode cL_build 34 = .ok (.bipush 6, 2) := by decide +kernel
theorem dL_build_36 : decode cL_build 36 = .ok (.iastore, 1) := by decide +kernel
theorem dL_build_37 : decode cL_build 37 = .ok (.dup, 1) := by decide +kernel
theorem dL_build_38 : decode cL_build 38 = .ok (.bipush 6, 2) := by decide +kernel
theorem dL_build_40 : decode cL_build 40 = .ok (.bipush 6, 2) := by decide +kernel
theorem dL_build_42 : decode cL_build 42 = .ok (.iastore, 1) := by decide +kernel
theorem dL_build_43 : decode cL_build 43 = .ok (.dup, 1) := by decide +kernel
theorem dL_build_44 : decode cL_build 44 = .ok (.bipush 7, 2) := by decide +kernel
theorem dL_build_46 : decode cL_build 46 = .ok (.bipush 8, 2) := by decide +kernel
theorem dL_build_48 : decode cL_build 48 = .ok (.iastore, 1) := by decide +kernel
theorem dL_build_49 : decode cL_build 49 = .ok (.dup, 1) := by decide +kernel
theorem dL_build_50 : decode cL_build 50 = .ok (.bipush 8, 2) := by decide +kernel
theorem dL_build_52 : decode cL_build 52 = .ok (.bipush 9, 2) := by decide +kernel
theorem dL_build_54 : decode cL_build 54 = .ok (.iastore, 1) := by decide +kernel
theorem dL_build_55 : decode cL_build 55 = .ok (.dup, 1) := by decide +kernel
theorem dL_build_56 : decode cL_build 56 = .ok (.bipush 9, 2) := by decide +kernel
theorem dL_build_58 : decode cL_build 58 = .ok (.bipush 8, 2) := by decide +kernel
theorem dL_build_60 : decode cL_build 60 = .ok (.iastore, 1) := by decide +kernel
theorem dL_build_61 : decode cL_build 61 = .ok (.dup, 1) := by decide +kernel
theorem dL_build_62 : decode cL_build 62 = .ok (.bipush 10, 2) := by decide +kernel
theorem dL_build_64 : decode cL_build 64 = .ok (.iconst 2, 1) := by decide +kernel
theorem dL_build_65 : decode cL_build 65 = .ok (.iastore, 1) := by decide +kernel
theorem dL_build_66 : decode cL_build 66 = .ok (.dup, 1) := by decide +kernel
theorem dL_build_67 : decode cL_build 67 = .ok (.bipush 11, 2) := by decide +kernel
theorem dL_build_69 : decode cL_build 69 = .ok (.bipush 7, 2) := by decide +kernel
theorem dL_build_71 : decode cL_build 71 = .ok (.iastore, 1) := by decide +kernel
theorem dL_build_72 : decode cL_build 72 = .ok (.dup, 1) := by decide +kernel
theorem dL_build_73 : decode cL_build 73 = .ok (.bipush 12, 2) := by decide +kernel
theorem dL_build_75 : decode cL_build 75 = .ok (.iconst 4, 1) := by decide +kernel
theorem dL_build_76 : decode cL_build 76 = .ok (.iastore, 1) := by decide +kernel
theorem dL_build_77 : decode cL_build 77 = .ok (.dup, 1) := by decide +kernel
theorem dL_build_78 : decode cL_build 78 = .ok (.bipush 13, 2) := by decide +kernel
theorem dL_build_80 : decode cL_build 80 = .ok (.bipush 6, 2) := by decide +kernel
theorem dL_build_82 : decode cL_build 82 = .ok (.iastore, 1) := by decide +kernel
theorem dL_build_83 : decode cL_build 83 = .ok (.dup, 1) := by decide +kernel
theorem dL_build_84 : decode cL_build 84 = .ok (.bipush 14, 2) := by decide +kernel
theorem dL_build_86 : decode cL_build 86 = .ok (.bipush 9, 2) := by decide +kernel
theorem dL_build_88 : decode cL_build 88 = .ok (.iastore, 1) := by decide +kernel
theorem dL_build_89 : decode cL_build 89 = .ok (.dup, 1) := by decide +kernel
theorem dL_build_90 : decode cL_build 90 = .ok (.bipush 15, 2) := by decide +kernel
theorem dL_build_92 : decode cL_build 92 = .ok (.bipush 8, 2) := by decide +kernel
theorem dL_build_94 : decode cL_build 94 = .ok (.iastore, 1) := by decide +kernel
theorem dL_build_95 : decode cL_build 95 = .ok (.dup, 1) := by decide +kernel
theorem dL_build_96 : decode cL_build 96 = .ok (.bipush 16, 2) := by decide +kernel
theorem dL_build_98 : decode cL_build 98 = .ok (.iconst 0, 1) := by decide +kernel
theorem dL_build_99 : decode cL_build 99 = .ok (.iastore, 1) := by decide +kernel
theorem dL_build_100 : decode cL_build 100 = .ok (.dup, 1) := by decide +kernel
theorem dL_build_101 : decode cL_build 101 = .ok (.bipush 17, 2) := by decide +kernel
theorem dL_build_103 : decode cL_build 103 = .ok (.iconst 1, 1) := by decide +kernel
theorem dL_build_104 : decode cL_build 104 = .ok (.iastore, 1) := by decide +kernel
theorem dL_build_105 : decode cL_build 105 = .ok (.astore 4, 2) := by decide +kernel
theorem dL_build_107 : decode cL_build 107 = .ok (.iconst 0, 1) := by decide +kernel
theorem dL_build_108 : decode cL_build 108 = .ok (.istore 5, 2) := by decide +kernel
theorem dL_build_110 : decode cL_build 110 = .ok (.iload 5, 2) := by decide +kernel
theorem dL_build_112 : decode cL_build 112 = .ok (.iload_n 2, 1) := by decide +kernel
theorem dL_build_113 : decode cL_build 113 = .ok (.if_icmp .ge 104, 3) := by decide +kernel
theorem dL_build_116 : decode cL_build 116 = .ok (.aload_n 1, 1) := by decide +kernel
theorem dL_build_117 : decode cL_build 117 = .ok (.iload 5, 2) := by decide +kernel
theorem dL_build_119 : decode cL_build 119 = .ok (.bipush 16, 2) := by decide +kernel
theorem dL_build_121 : decode cL_build 121 = .ok (.irem, 1) := by decide +kernel
theorem dL_build_122 : decode cL_build 122 = .ok (.invokestatic 73, 3) := by decide +kernel
theorem dL_build_125 : decode cL_build 125 = .ok (.iload 5, 2) := by decide +kernel
theorem dL_build_127 : decode cL_build 127 = .ok (.bipush 16, 2) := by decide +kernel
theorem dL_build_129 : decode cL_build 129 = .ok (.idiv, 1) := by decide +kernel
theorem dL_build_130 : decode cL_build 130 = .ok (.iconst 4, 1) := by decide +kernel
theorem dL_build_131 : decode cL_build 131 = .ok (.imul, 1) := by decide +kernel
theorem dL_build_132 : decode cL_build 132 = .ok (.ishr, 1) := by decide +kernel
theorem dL_build_133 : decode cL_build 133 = .ok (.bipush 83, 2) := by decide +kernel
theorem dL_build_135 : decode cL_build 135 = .ok (.iload 5, 2) := by decide +kernel
theorem dL_build_137 : decode cL_build 137 = .ok (.imul, 1) := by decide +kernel
theorem dL_build_138 : decode cL_build 138 = .ok (.iadd, 1) := by decide +kernel
theorem dL_build_139 : decode cL_build 139 = .ok (.istore 6, 2) := by decide +kernel
theorem dL_build_141 : decode cL_build 141 = .ok (.iload 5, 2) := by decide +kernel
theorem dL_build_143 : decode cL_build 143 = .ok (.aload 4, 2) := by decide +kernel
theorem dL_build_145 : decode cL_build 145 = .ok (.arraylength, 1) := by decide +kernel
theorem dL_build_146 : decode cL_build 146 = .ok (.if_icmp .ge 21, 3) := by decide +kernel
theorem dL_build_149 : decode cL_build 149 = .ok (.iload 6, 2) := by decide +kernel
theorem dL_build_151 : decode cL_build 151 = .ok (.ldc 77, 2) := by decide +kernel
theorem dL_build_153 : decode cL_build 153 = .ok (.invokestatic 9, 3) := by decide +kernel
theorem dL_build_156 : decode cL_build 156 = .ok (.bipush 10, 2) := by decide +kernel
theorem dL_build_158 : decode cL_build 158 = .ok (.imul, 1) := by decide +kernel
theorem dL_build_159 : decode cL_build 159 = .ok (.aload 4, 2) := by decide +kernel
theorem dL_build_161 : decode cL_build 161 = .ok (.iload 5, 2) := by decide +kernel
theorem dL_build_163 : decode cL_build 163 = .ok (.iaload, 1) := by decide +kernel
theorem dL_build_164 : decode cL_build 164 = .ok (.iadd, 1) := by decide +kernel
theorem dL_build_165 : decode cL_build 165 = .ok (.istore 6, 2) := by decide +kernel
theorem dL_build_167 : decode cL_build 167 = .ok (.aload_n 0, 1) := by decide +kernel
theorem dL_build_168 : decode cL_build 168 = .ok (.aload_n 3, 1) := by decide +kernel
theorem dL_build_169 : decode cL_build 169 = .ok (.iload 6, 2) := by decide +kernel
theorem dL_build_171 : decode cL_build 171 = .ok (.invokestatic 78, 3) := by decide +kernel
theorem dL_build_174 : decode cL_build 174 = .ok (.ifCond .ne 5, 3) := by decide +kernel
theorem dL_build_177 : decode cL_build 177 = .ok (.aconst_null, 1) := by decide +kernel
theorem dL_build_178 : decode cL_build 178 = .ok (.areturn, 1) := by decide +kernel
theorem dL_build_179 : decode cL_build 179 = .ok (.iload 5, 2) := by decide +kernel
theorem dL_build_181 : decode cL_build 181 = .ok (.bipush 16, 2) := by decide +kernel
theorem dL_build_183 : decode cL_build 183 = .ok (.if_icmp .le 28, 3) := by decide +kernel
theorem dL_build_186 : decode cL_build 186 = .ok (.iload 6, 2) := by decide +kernel
theorem dL_build_188 : decode cL_build 188 = .ok (.iconst 5, 1) := by decide +kernel
theorem dL_build_189 : decode cL_build 189 = .ok (.ishr, 1) := by decide +kernel
theorem dL_build_190 : decode cL_build 190 = .ok (.iconst 3, 1) := by decide +kernel
theorem dL_build_191 : decode cL_build 191 = .ok (.invokestatic 9, 3) := by decide +kernel
theorem dL_build_194 : decode cL_build 194 = .ok (.ifCond .ne 17, 3) := by decide +kernel
theorem dL_build_197 : decode cL_build 197 = .ok (.aload_n 0, 1) := by decide +kernel
theorem dL_build_198 : decode cL_build 198 = .ok (.iconst 1, 1) := by decide +kernel
theorem dL_build_199 : decode cL_build 199 = .ok (.invokevirtual 82, 3) := by decide +kernel
theorem dL_build_202 : decode cL_build 202 = .ok (.aload_n 3, 1) := by decide +kernel
theorem dL_build_203 : decode cL_build 203 = .ok (.invokevirtual 86, 3) := by decide +kernel
theorem dL_build_206 : decode cL_build 206 = .ok (.if_icmp .eq 5, 3) := by decide +kernel
theorem dL_build_209 : decode cL_build 209 = .ok (.aconst_null, 1) := by decide +kernel
theorem dL_build_210 : decode cL_build 210 = .ok (.areturn, 1) := by decide +kernel
theorem dL_build_211 : decode cL_build 211 = .ok (.iinc 5 1, 3) := by decide +kernel
theorem dL_build_214 : decode cL_build 214 = .ok (.goto (-104), 3) := by decide +kernel
theorem dL_build_217 : decode cL_build 217 = .ok (.aload_n 3, 1) := by decide +kernel
theorem dL_build_218 : decode cL_build 218 = .ok (.areturn, 1) := by decide +kernel
theorem mod16 : ∀ i, i < 30 → nI i - nI i / 16 * 16 = nI (i % 16) := by decide +kernel
theorem gots_1 {v : Vw} : gots 1 v = got1 v := by
  show 0 + got1 (days 0 v) = got1 v
  rw [Int32.zero_add]
  rfl
theorem days_1 {v : Vw} : days 1 v = day v := rfl
theorem LI.le {m n : Nat} {g : Gm} {M : Mem} (h : LI n g M) (k : m ≤ n) : LI m g M := ⟨h.1, h.2.1.le k, h.2.2⟩
theorem Cn.next {v : Vw} : Cn v (day v) := ⟨day_H, day_S, day_W⟩
theorem LI.next {n : Nat} {g : Gm} {M : Mem} {v : Vw} (hW : Lw (n + 1) v) (hL : SimL g v) : LI n g (setR (setR M 0 (day v)) 2 (day v)) := by
  have e0 : setR (setR M 0 (day v)) 2 (day v) 0 = day v := by rw [setR_ne _ _ (by decide), setR_same]
  refine ⟨(setR_same _ _ _).trans e0.symm, ?_, ?_⟩
  · rw [e0]; exact hW.next
  · rw [e0]; exact hL.cn Cn.next
set_option maxHeartbeats 4000000 in
set_option maxRecDepth 100000 in
theorem b_3 {p : Program} {l : Launch} {e : Jvm.Env} {R : Room} {s : State} {m : MethodId} {args : Array Value} {below : List Frame} {meth : Method} {c : Code} {Q : State → Prop} {g0 g : Gm} {b L : Nat} {xs : Nat → Int32} {cells slots n i : Nat} {M : Mem} {o : Nat → Int64} {H : Heap} {locs : List Loc} {ls : Array Slot} (hl0 : l.stackTraces = false) (hC : CallFix p m c cL_build 7 s args LG RL) (hE0 : Ev g0 s) (hX : va_X b L xs s s.heap) (hb0 : ¬ AA g0 b) (hL30 : L < 2 ^ 30) (hR : 8 ≤ R.frames ∧ 160 ≤ R.locals) (hi : i < 26) (G : Gk g0 g) (hI : IJ g (KK g)) (kF : KK g (30, 3, 0)) (h18 : M 3 16 3 = 18) (hP : WP g M o H) (hS : va_S (AA g) s.heap H locs)  {x : Int32} {v : Vw} (hW : Lw (n + 1) v) (hL : SimL g v) (e0 : M 0 = v) (e2 : M 2 = v) (hf : cells ≤ R.cells ∧ slots ≤ R.slots) (IH : ∀ (g' : Gm) (M' : Mem) (H : Heap) (locs : List Loc) (ls : Array Slot), Gk g0 g' → IJ g' (KK g') → LI n g' M' → KK g' (30, 3, 0) → M' 3 16 3 = 18 → WP g' M' o H → va_S (AA g') s.heap H locs → lv_has ls 7 [(5, .int (nI (i + 1))), (0, .ref (ad g' (8, 0, 0))), (1, .ref b), (2, .int 26), (3, .ref (ad g' (20, 0, 0))), (4, .ref (ad g' (30, 3, 0)))] → W p l e R s m args below meth c H locs (cells) (slots) Q (F0 m 110 ls [])) (hl : lv_has ls 7 [(6, .int (x)), (5, .int (nI i)), (0, .ref (ad g (8, 0, 0))), (1, .ref b), (2, .int ((26 : Int32))), (3, .ref (ad g (20, 0, 0))), (4, .ref (ad g (30, 3, 0)))]) : W p l e R s m args below meth c H locs cells slots Q (F0 m 179 ls []) := by
  obtain ⟨hx, hb, hml, hown, hG⟩ := id hC
  have hE : Ev g s := hE0.to G.1 G.2.1
  have hb1 : ¬ AA g b := by rw [show AA g = AA g0 from by unfold AA; rw [G.2.1]]; exact hb0
  have hv := hW.iv
  refine lv_iload hx hb dL_build_179 (lv_at hl 1 rfl) ?_
  refine lv_bipush (v := 16) hx hb dL_build_181 (by decide) ?_
  refine lv_icmp_le (tgt := 211) hx hb dL_build_183 (by decide) (fun c1 => ?_) (fun c1 => ?_)
  · refine lv_iinc (v := nI (i + 1)) (lv' := [(5, .int (nI (i + 1))), (6, .int x), (0, .ref (ad g (8, 0, 0))), (1, .ref b), (2, .int (26 : Int32)), (3, .ref (ad g (20, 0, 0))), (4, .ref (ad g (30, 3, 0)))]) hx hb dL_build_211 hl (k := 1) rfl (nI_1 _) (by decide) rfl (fun ls hl => ?_)
    refine lv_goto (tgt := 110) hx hb dL_build_214 (by decide) ?_
    exact IH g (M) H locs ls G hI ⟨e2.trans e0.symm, by rw [e0]; exact hW.le (by omega), by rw [e0]; exact hL⟩ kF h18 hP hS (lv_sub hl [0, 2, 3, 4, 5, 6] rfl)
  · refine lv_iload hx hb dL_build_186 (lv_at hl 0 rfl) ?_
    refine lv_iconst (v := 5) hx hb dL_build_188 (by decide) ?_
    refine lv_ishr hx hb dL_build_189 ?_
    refine lv_iconst (v := 3) hx hb dL_build_190 (by decide) ?_
    refine on_i (run_S hC hE hP hS (As := [.int (x >>> ((5 : Int32) &&& 31)), .int ((3 : Int32))]) (c_belowL l (x >>> ((5 : Int32) &&& 31)) 3 (by omega) (by omega)) cal_L_below w_553 ⟨by simp only; omega, by simp only; omega⟩ rfl rfl (Nat.le_of_ble_eq_true rfl) hl.1 hf dL_build_191) hS (fun H locs hP hS => ?_)
    refine lv_if_ne (tgt := 211) hx hb dL_build_194 (by decide) (fun c2 => ?_) (fun c2 => ?_)
    · refine lv_iinc (v := nI (i + 1)) (lv' := [(5, .int (nI (i + 1))), (6, .int x), (0, .ref (ad g (8, 0, 0))), (1, .ref b), (2, .int (26 : Int32)), (3, .ref (ad g (20, 0, 0))), (4, .ref (ad g (30, 3, 0)))]) hx hb dL_build_211 hl (k := 1) rfl (nI_1 _) (by decide) rfl (fun ls hl => ?_)
      refine lv_goto (tgt := 110) hx hb dL_build_214 (by decide) ?_
      exact IH g (M) H locs ls G hI ⟨e2.trans e0.symm, by rw [e0]; exact hW.le (by omega), by rw [e0]; exact hL⟩ kF h18 hP hS (lv_sub hl [0, 2, 3, 4, 5, 6] rfl)
    · replace hP : WPe g (KK g) (ent g (setR M 0 v) o) _ := WP.cast hP (setR_id e0)
      refine lv_aload_n hx hb dL_build_197 rfl (lv_at hl 2 rfl) ?_
      refine lv_iconst (v := 1) hx hb dL_build_198 (by decide) ?_
      refine on_i (run_V hC hE hP hS (As := [.int ((1 : Int32))]) (c_passP_0 l hI (M := M) hv 1 (by decide) (by decide) (hW.nt.le (by omega))) cal_X4_pass w_347 ⟨by show _ + 1 ≤ R.frames; simp only; omega, by show _ + _ ≤ R.locals; simp only; omega⟩ k_8 f_8 rfl rfl rfl (Nat.le_of_ble_eq_true rfl) hl.1 hf dL_build_199) hS (fun H locs hP hS => ?_)
      replace hP : WPe g (KK g) (ent g (setR (setR M 0 (days 1 v)) 2 v) o) _ := WP.cast hP (setR_id ((setR_ne _ _ (by decide)).trans e2))
      refine lv_aload_n hx hb dL_build_202 rfl (lv_at hl 5 rfl) ?_
      refine on_i (run_V hC hE hP hS (As := []) (c_passS l hI hv hL (hW.nt.le (by omega)) hW.2.2.2.1) cal_X5_pass w_507 ⟨by show _ + 1 ≤ R.frames; simp only; omega, by show _ + _ ≤ R.locals; simp only; omega⟩ (k_20 hL) e_20 rfl rfl rfl (Nat.le_of_ble_eq_true rfl) hl.1 hf dL_build_203) hS (fun H locs hP hS => ?_)
      refine lv_icmp_eq (tgt := 211) hx hb dL_build_206 (by decide) (fun c1 => ?_) (fun c1 => absurd (gots_1) c1)
      refine lv_iinc (v := nI (i + 1)) (lv' := [(5, .int (nI (i + 1))), (6, .int x), (0, .ref (ad g (8, 0, 0))), (1, .ref b), (2, .int (26 : Int32)), (3, .ref (ad g (20, 0, 0))), (4, .ref (ad g (30, 3, 0)))]) hx hb dL_build_211 hl (k := 1) rfl (nI_1 _) (by decide) rfl (fun ls hl => ?_)
      refine lv_goto (tgt := 110) hx hb dL_build_214 (by decide) ?_
      exact IH g (setR (setR M 0 (day v)) 2 (day v)) H locs ls G hI (LI.next hW hL) kF (by rw [setR_ne _ _ (by decide), setR_ne _ _ (by decide)]; exact h18) hP hS (lv_sub hl [0, 2, 3, 4, 5, 6] rfl)
set_option maxHeartbeats 4000000 in
set_option maxRecDepth 100000 in
theorem b_2 {p : Program} {l : Launch} {e : Jvm.Env} {R : Room} {s : State} {m : MethodId} {args : Array Value} {below : List Frame} {meth : Method} {c : Code} {Q : State → Prop} {g0 g : Gm} {b L : Nat} {xs : Nat → Int32} {cells slots n i : Nat} {M : Mem} {o : Nat → Int64} {H : Heap} {locs : List Loc} {ls : Array Slot} (hl0 : l.stackTraces = false) (hC : CallFix p m c cL_build 7 s args LG RL) (hE0 : Ev g0 s) (hX : va_X b L xs s s.heap) (hb0 : ¬ AA g0 b) (hL30 : L < 2 ^ 30) (hR : 8 ≤ R.frames ∧ 160 ≤ R.locals) (hi : i < 26) (G : Gk g0 g) (hI : IJ g (KK g)) (kF : KK g (30, 3, 0)) (h18 : M 3 16 3 = 18) (hP : WP g M o H) (hS : va_S (AA g) s.heap H locs)  {x : Int32} {v : Vw} (e0 : M 0 = v) (hU : LI (n + 1) g M) (hf : cells + 3 ≤ R.cells ∧ slots + 25 ≤ R.slots) (IH : ∀ (g' : Gm) (M' : Mem) (H : Heap) (locs : List Loc) (ls : Array Slot), Gk g0 g' → IJ g' (KK g') → LI n g' M' → KK g' (30, 3, 0) → M' 3 16 3 = 18 → WP g' M' o H → va_S (AA g') s.heap H locs → lv_has ls 7 [(5, .int (nI (i + 1))), (0, .ref (ad g' (8, 0, 0))), (1, .ref b), (2, .int 26), (3, .ref (ad g' (20, 0, 0))), (4, .ref (ad g' (30, 3, 0)))] → W p l e R s m args below meth c H locs (cells + 3) (slots + 25) Q (F0 m 110 ls [])) (hl : lv_has ls 7 [(6, .int (x)), (5, .int (nI i)), (0, .ref (ad g (8, 0, 0))), (1, .ref b), (2, .int ((26 : Int32))), (3, .ref (ad g (20, 0, 0))), (4, .ref (ad g (30, 3, 0)))]) : W p l e R s m args below meth c H locs cells slots Q (F0 m 167 ls []) := by
  obtain ⟨hx, hb, hml, hown, hG⟩ := id hC
  have hE : Ev g s := hE0.to G.1 G.2.1
  have hb1 : ¬ AA g b := by rw [show AA g = AA g0 from by unfold AA; rw [G.2.1]]; exact hb0
  refine lv_aload_n hx hb dL_build_167 rfl (lv_at hl 2 rfl) ?_
  refine lv_aload_n hx hb dL_build_168 rfl (lv_at hl 5 rfl) ?_
  refine lv_iload hx hb dL_build_169 (lv_at hl 0 rfl) ?_
  refine on_act hl0 hC hE hI hU hP hS ⟨by omega, by omega⟩ (Nat.le_of_ble_eq_true rfl) hl.1 hf dL_build_171 (fun u H locs hUa hP hS => ?_)
  obtain ⟨g1, M1⟩ := u
  have hP : WP g1 M1 o H := hP
  have G1 : Gk g g1 := hUa.1
  have e3 : M1 3 = M 3 := hUa.2.1
  have hU1 : LI (n + 1) g1 M1 := hUa.2.2.1
  have hI1 : IJ g1 (KK g1) := hUa.2.2.2
  refine lv_if_ne (tgt := 179) hx hb dL_build_174 (by decide) (fun _ => ?_) (fun q => absurd q (by decide))
  have hl1 : lv_has ls 7 [(6, .int (x)), (5, .int (nI i)), (0, .ref (ad g1 (8, 0, 0))), (1, .ref b), (2, .int ((26 : Int32))), (3, .ref (ad g1 (20, 0, 0))), (4, .ref (ad g1 (30, 3, 0)))] := by rw [(G1.2.2 (8, 0, 0) (by unfold LK; decide)).1, (G1.2.2 (20, 0, 0) (by unfold LK; decide)).1, (G1.2.2 (30, 3, 0) (by unfold LK; decide)).1]; exact hl
  exact b_3 hl0 hC hE0 hX hb0 hL30 hR hi (G.tr G1) hI1 (KK_lk (G1.2.2 (30, 3, 0) (by unfold LK; decide)).2 kF) (by rw [e3]; exact h18) hP (G1.Sh hS) (v := M1 0) hU1.2.1 hU1.2.2 rfl hU1.1 hf IH hl1
set_option maxHeartbeats 4000000 in
set_option maxRecDepth 100000 in
theorem b_1 {p : Program} {l : Launch} {e : Jvm.Env} {R : Room} {s : State} {m : MethodId} {args : Array Value} {below : List Frame} {meth : Method} {c : Code} {Q : State → Prop} {g0 g : Gm} {b L : Nat} {xs : Nat → Int32} {cells slots n i : Nat} {M : Mem} {o : Nat → Int64} {H : Heap} {locs : List Loc} {ls : Array Slot} (hl0 : l.stackTraces = false) (hC : CallFix p m c cL_build 7 s args LG RL) (hE0 : Ev g0 s) (hX : va_X b L xs s s.heap) (hb0 : ¬ AA g0 b) (hL30 : L < 2 ^ 30) (hR : 8 ≤ R.frames ∧ 160 ≤ R.locals) (hi : i < 26) (G : Gk g0 g) (hI : IJ g (KK g)) (kF : KK g (30, 3, 0)) (h18 : M 3 16 3 = 18) (hP : WP g M o H) (hS : va_S (AA g) s.heap H locs)  {v : Vw} (e0 : M 0 = v) (hU : LI (n + 1) g M) (hf : cells + 3 ≤ R.cells ∧ slots + 25 ≤ R.slots) (IH : ∀ (g' : Gm) (M' : Mem) (H : Heap) (locs : List Loc) (ls : Array Slot), Gk g0 g' → IJ g' (KK g') → LI n g' M' → KK g' (30, 3, 0) → M' 3 16 3 = 18 → WP g' M' o H → va_S (AA g') s.heap H locs → lv_has ls 7 [(5, .int (nI (i + 1))), (0, .ref (ad g' (8, 0, 0))), (1, .ref b), (2, .int 26), (3, .ref (ad g' (20, 0, 0))), (4, .ref (ad g' (30, 3, 0)))] → W p l e R s m args below meth c H locs (cells + 3) (slots + 25) Q (F0 m 110 ls [])) (hl : lv_has ls 7 [(5, .int (nI i)), (0, .ref (ad g (8, 0, 0))), (1, .ref b), (2, .int ((26 : Int32))), (3, .ref (ad g (20, 0, 0))), (4, .ref (ad g (30, 3, 0)))]) : W p l e R s m args below meth c H locs cells slots Q (F0 m 110 ls []) := by
  obtain ⟨hx, hb, hml, hown, hG⟩ := id hC
  have hE : Ev g s := hE0.to G.1 G.2.1
  have hb1 : ¬ AA g b := by rw [show AA g = AA g0 from by unfold AA; rw [G.2.1]]; exact hb0
  have h18n : tl (M 3) 3 = 18 := by show (M 3 16 3).toNatClampNeg = 18; rw [h18]; rfl
  refine lv_iload hx hb dL_build_110 (lv_at hl 0 rfl) ?_
  refine lv_iload_n hx hb dL_build_112 rfl (lv_at hl 3 rfl) ?_
  refine lv_icmp_ge (tgt := 217) hx hb dL_build_113 (by decide) (fun c1 => absurd c1 (nI_ge (b := 26) hi (by decide))) (fun c1 => ?_)
  refine lv_aload_n hx hb dL_build_116 rfl (lv_at hl 2 rfl) ?_
  refine lv_iload hx hb dL_build_117 (lv_at hl 0 rfl) ?_
  refine lv_bipush (v := 16) hx hb dL_build_119 (by decide) ?_
  refine lv_irem hx hb dL_build_121 (by decide) ?_
  refine m_top (y := nI (i % 16)) (mod16 i (by omega)) ?_
  refine on_cell hC hE hP hS hX hb1 hL30 (i % 16) (by omega) rfl ⟨by omega, by omega⟩ (Nat.le_of_ble_eq_true rfl) hl.1 ⟨by omega, by omega⟩ dL_build_122 (fun H locs hP hS => ?_)
  refine lv_iload hx hb dL_build_125 (lv_at hl 0 rfl) ?_
  refine lv_bipush (v := 16) hx hb dL_build_127 (by decide) ?_
  refine lv_idiv hx hb dL_build_129 (by decide) ?_
  refine lv_iconst (v := 4) hx hb dL_build_130 (by decide) ?_
  refine lv_imul hx hb dL_build_131 ?_
  refine lv_ishr hx hb dL_build_132 ?_
  refine lv_bipush (v := 83) hx hb dL_build_133 (by decide) ?_
  refine lv_iload hx hb dL_build_135 (lv_at hl 0 rfl) ?_
  refine lv_imul hx hb dL_build_137 ?_
  refine lv_iadd hx hb dL_build_138 ?_
  refine lv_istore (lv' := [(6, .int (((scr L xs (i % 16)) >>> ((((nI i) / (16 : Int32)) * (4 : Int32)) &&& 31)) + ((83 : Int32) * (nI i)))), (5, .int (nI i)), (0, .ref (ad g (8, 0, 0))), (1, .ref b), (2, .int ((26 : Int32))), (3, .ref (ad g (20, 0, 0))), (4, .ref (ad g (30, 3, 0)))]) hx hb dL_build_139 hl (by decide) rfl (fun ls hl => ?_)
  refine lv_iload hx hb dL_build_141 (lv_at hl 1 rfl) ?_
  refine lv_aload hx hb dL_build_143 (lv_at hl 6 rfl) ?_
  refine m_alen hC hE hP kF rfl (congrArg nI h18n) dL_build_145 ?_
  refine lv_icmp_ge (tgt := 167) hx hb dL_build_146 (by decide) (fun c1 => ?_) (fun c1 => ?_)
  · exact b_2 hl0 hC hE0 hX hb0 hL30 hR hi G hI kF h18 hP hS e0 hU hf IH hl
  · have i18 : i < 18 := Nat.not_le.mp fun z => c1 (nI_le (a := 18) z (by omega))
    refine lv_iload hx hb dL_build_149 (lv_at hl 0 rfl) ?_
    refine lv_ldc (v := 100000) hx hb hown (hG _ w_681) dL_build_151 ?_
    refine on_i (run_S hC hE hP hS (As := [.int (((scr L xs (i % 16)) >>> ((((nI i) / (16 : Int32)) * (4 : Int32)) &&& 31)) + ((83 : Int32) * (nI i))), .int (nI 100000)]) (c_belowL l (((scr L xs (i % 16)) >>> ((((nI i) / (16 : Int32)) * (4 : Int32)) &&& 31)) + ((83 : Int32) * (nI i))) 100000 (by decide) (by decide)) cal_L_below w_553 ⟨by show 0 + 1 ≤ R.frames; omega, by show 8 + (2 + 11) + 0 ≤ R.locals; omega⟩ rfl rfl (Nat.le_of_ble_eq_true rfl) hl.1 ⟨by show cells + 0 ≤ R.cells; omega, by show slots + 0 ≤ R.slots; omega⟩ dL_build_153) hS (fun H locs hP hS => ?_)
    refine lv_bipush (v := 10) hx hb dL_build_156 (by decide) ?_
    refine lv_imul hx hb dL_build_158 ?_
    refine lv_aload hx hb dL_build_159 (lv_at hl 6 rfl) ?_
    refine lv_iload hx hb dL_build_161 (lv_at hl 1 rfl) ?_
    refine m_iald hC hE hP kF rfl i rfl (by rw [h18n]; exact i18) (by rw [h18n]; decide) dL_build_163 ?_
    refine lv_iadd hx hb dL_build_164 ?_
    refine lv_istore (lv' := [(6, .int (((nI (bel (((scr L xs (i % 16)) >>> ((((nI i) / (16 : Int32)) * (4 : Int32)) &&& 31)) + ((83 : Int32) * (nI i))) 100000)) * (10 : Int32)) + (M 3 3 i))), (5, .int (nI i)), (0, .ref (ad g (8, 0, 0))), (1, .ref b), (2, .int ((26 : Int32))), (3, .ref (ad g (20, 0, 0))), (4, .ref (ad g (30, 3, 0)))]) hx hb dL_build_165 hl (by decide) rfl (fun ls hl => ?_)
    exact b_2 hl0 hC hE0 hX hb0 hL30 hR hi G hI kF h18 hP hS e0 hU hf IH hl
