/-! The picture's nine facts. -/
theorem dX5_counts_0 : decode cX5_counts 0 = .ok (.iconst 0, 1) := by decide +kernel
theorem dX5_counts_1 : decode cX5_counts 1 = .ok (.istore_n 1, 1) := by decide +kernel
theorem dX5_counts_2 : decode cX5_counts 2 = .ok (.aload_n 0, 1) := by decide +kernel
theorem dX5_counts_3 : decode cX5_counts 3 = .ok (.getfield 9, 3) := by decide +kernel
theorem dX5_counts_6 : decode cX5_counts 6 = .ok (.astore_n 2, 1) := by decide +kernel
theorem dX5_counts_7 : decode cX5_counts 7 = .ok (.aload_n 2, 1) := by decide +kernel
theorem dX5_counts_8 : decode cX5_counts 8 = .ok (.arraylength, 1) := by decide +kernel
theorem dX5_counts_9 : decode cX5_counts 9 = .ok (.istore_n 3, 1) := by decide +kernel
theorem dX5_counts_10 : decode cX5_counts 10 = .ok (.iconst 0, 1) := by decide +kernel
theorem dX5_counts_11 : decode cX5_counts 11 = .ok (.istore 4, 2) := by decide +kernel
theorem dX5_counts_13 : decode cX5_counts 13 = .ok (.iload 4, 2) := by decide +kernel
theorem dX5_counts_15 : decode cX5_counts 15 = .ok (.iload_n 3, 1) := by decide +kernel
theorem dX5_counts_16 : decode cX5_counts 16 = .ok (.if_icmp .ge 52, 3) := by decide +kernel
theorem dX5_counts_19 : decode cX5_counts 19 = .ok (.aload_n 2, 1) := by decide +kernel
theorem dX5_counts_20 : decode cX5_counts 20 = .ok (.iload 4, 2) := by decide +kernel
theorem dX5_counts_22 : decode cX5_counts 22 = .ok (.aaload, 1) := by decide +kernel
theorem dX5_counts_23 : decode cX5_counts 23 = .ok (.astore 5, 2) := by decide +kernel
theorem dX5_counts_25 : decode cX5_counts 25 = .ok (.aload 5, 2) := by decide +kernel
theorem dX5_counts_27 : decode cX5_counts 27 = .ok (.astore 6, 2) := by decide +kernel
theorem dX5_counts_29 : decode cX5_counts 29 = .ok (.aload 6, 2) := by decide +kernel
theorem dX5_counts_31 : decode cX5_counts 31 = .ok (.arraylength, 1) := by decide +kernel
theorem dX5_counts_32 : decode cX5_counts 32 = .ok (.istore 7, 2) := by decide +kernel
theorem dX5_counts_34 : decode cX5_counts 34 = .ok (.iconst 0, 1) := by decide +kernel
theorem dX5_counts_35 : decode cX5_counts 35 = .ok (.istore 8, 2) := by decide +kernel
theorem dX5_counts_37 : decode cX5_counts 37 = .ok (.iload 8, 2) := by decide +kernel
theorem dX5_counts_39 : decode cX5_counts 39 = .ok (.iload 7, 2) := by decide +kernel
theorem dX5_counts_41 : decode cX5_counts 41 = .ok (.if_icmp .ge 21, 3) := by decide +kernel
theorem dX5_counts_44 : decode cX5_counts 44 = .ok (.aload 6, 2) := by decide +kernel
theorem dX5_counts_46 : decode cX5_counts 46 = .ok (.iload 8, 2) := by decide +kernel
theorem dX5_counts_48 : decode cX5_counts 48 = .ok (.iaload, 1) := by decide +kernel
theorem dX5_counts_49 : decode cX5_counts 49 = .ok (.istore 9, 2) := by decide +kernel
theorem dX5_counts_51 : decode cX5_counts 51 = .ok (.iload_n 1, 1) := by decide +kernel
theorem dX5_counts_52 : decode cX5_counts 52 = .ok (.iload 9, 2) := by decide +kernel
theorem dX5_counts_54 : decode cX5_counts 54 = .ok (.iadd, 1) := by decide +kernel
theorem dX5_counts_55 : decode cX5_counts 55 = .ok (.istore_n 1, 1) := by decide +kernel
theorem dX5_counts_56 : decode cX5_counts 56 = .ok (.iinc 8 1, 3) := by decide +kernel
theorem dX5_counts_59 : decode cX5_counts 59 = .ok (.goto (-22), 3) := by decide +kernel
theorem dX5_counts_62 : decode cX5_counts 62 = .ok (.iinc 4 1, 3) := by decide +kernel
theorem dX5_counts_65 : decode cX5_counts 65 = .ok (.goto (-52), 3) := by decide +kernel
theorem dX5_counts_68 : decode cX5_counts 68 = .ok (.iconst 0, 1) := by decide +kernel
theorem dX5_counts_69 : decode cX5_counts 69 = .ok (.istore_n 2, 1) := by decide +kernel
theorem dX5_counts_70 : decode cX5_counts 70 = .ok (.aload_n 0, 1) := by decide +kernel
theorem dX5_counts_71 : decode cX5_counts 71 = .ok (.getfield 22, 3) := by decide +kernel
theorem dX5_counts_74 : decode cX5_counts 74 = .ok (.astore_n 3, 1) := by decide +kernel
theorem dX5_counts_75 : decode cX5_counts 75 = .ok (.aload_n 3, 1) := by decide +kernel
theorem dX5_counts_76 : decode cX5_counts 76 = .ok (.arraylength, 1) := by decide +kernel
theorem dX5_counts_77 : decode cX5_counts 77 = .ok (.istore 4, 2) := by decide +kernel
theorem dX5_counts_79 : decode cX5_counts 79 = .ok (.iconst 0, 1) := by decide +kernel
theorem dX5_counts_80 : decode cX5_counts 80 = .ok (.istore 5, 2) := by decide +kernel
theorem dX5_counts_82 : decode cX5_counts 82 = .ok (.iload 5, 2) := by decide +kernel
theorem dX5_counts_84 : decode cX5_counts 84 = .ok (.iload 4, 2) := by decide +kernel
theorem dX5_counts_86 : decode cX5_counts 86 = .ok (.if_icmp .ge 22, 3) := by decide +kernel
theorem dX5_counts_89 : decode cX5_counts 89 = .ok (.aload_n 3, 1) := by decide +kernel
theorem dX5_counts_90 : decode cX5_counts 90 = .ok (.iload 5, 2) := by decide +kernel
theorem dX5_counts_92 : decode cX5_counts 92 = .ok (.aaload, 1) := by decide +kernel
theorem dX5_counts_93 : decode cX5_counts 93 = .ok (.astore 6, 2) := by decide +kernel
theorem dX5_counts_95 : decode cX5_counts 95 = .ok (.iload_n 2, 1) := by decide +kernel
theorem dX5_counts_96 : decode cX5_counts 96 = .ok (.aload 6, 2) := by decide +kernel
theorem dX5_counts_98 : decode cX5_counts 98 = .ok (.iconst 2, 1) := by decide +kernel
theorem dX5_counts_99 : decode cX5_counts 99 = .ok (.iaload, 1) := by decide +kernel
theorem dX5_counts_100 : decode cX5_counts 100 = .ok (.iadd, 1) := by decide +kernel
theorem dX5_counts_101 : decode cX5_counts 101 = .ok (.istore_n 2, 1) := by decide +kernel
theorem dX5_counts_102 : decode cX5_counts 102 = .ok (.iinc 5 1, 3) := by decide +kernel
theorem dX5_counts_105 : decode cX5_counts 105 = .ok (.goto (-23), 3) := by decide +kernel
theorem dX5_counts_108 : decode cX5_counts 108 = .ok (.iconst 0, 1) := by decide +kernel
theorem dX5_counts_109 : decode cX5_counts 109 = .ok (.istore_n 3, 1) := by decide +kernel
theorem dX5_counts_110 : decode cX5_counts 110 = .ok (.iconst 0, 1) := by decide +kernel
theorem dX5_counts_111 : decode cX5_counts 111 = .ok (.istore 4, 2) := by decide +kernel
theorem dX5_counts_113 : decode cX5_counts 113 = .ok (.aload_n 0, 1) := by decide +kernel
theorem dX5_counts_114 : decode cX5_counts 114 = .ok (.getfield 25, 3) := by decide +kernel
theorem dX5_counts_117 : decode cX5_counts 117 = .ok (.astore 5, 2) := by decide +kernel
theorem dX5_counts_119 : decode cX5_counts 119 = .ok (.aload 5, 2) := by decide +kernel
theorem dX5_counts_121 : decode cX5_counts 121 = .ok (.arraylength, 1) := by decide +kernel
theorem dX5_counts_122 : decode cX5_counts 122 = .ok (.istore 6, 2) := by decide +kernel
theorem dX5_counts_124 : decode cX5_counts 124 = .ok (.iconst 0, 1) := by decide +kernel
theorem dX5_counts_125 : decode cX5_counts 125 = .ok (.istore 7, 2) := by decide +kernel
theorem dX5_counts_127 : decode cX5_counts 127 = .ok (.iload 7, 2) := by decide +kernel
theorem dX5_counts_129 : decode cX5_counts 129 = .ok (.iload 6, 2) := by decide +kernel
theorem dX5_counts_131 : decode cX5_counts 131 = .ok (.if_icmp .ge 32, 3) := by decide +kernel
theorem dX5_counts_134 : decode cX5_counts 134 = .ok (.aload 5, 2) := by decide +kernel
theorem dX5_counts_136 : decode cX5_counts 136 = .ok (.iload 7, 2) := by decide +kernel
theorem dX5_counts_138 : decode cX5_counts 138 = .ok (.aaload, 1) := by decide +kernel
theorem dX5_counts_139 : decode cX5_counts 139 = .ok (.astore 8, 2) := by decide +kernel
theorem dX5_counts_141 : decode cX5_counts 141 = .ok (.iload_n 3, 1) := by decide +kernel
theorem dX5_counts_142 : decode cX5_counts 142 = .ok (.aload 8, 2) := by decide +kernel
theorem dX5_counts_144 : decode cX5_counts 144 = .ok (.iconst 4, 1) := by decide +kernel
theorem dX5_counts_145 : decode cX5_counts 145 = .ok (.iaload, 1) := by decide +kernel
theorem dX5_counts_146 : decode cX5_counts 146 = .ok (.iadd, 1) := by decide +kernel
theorem dX5_counts_147 : decode cX5_counts 147 = .ok (.istore_n 3, 1) := by decide +kernel
theorem dX5_counts_148 : decode cX5_counts 148 = .ok (.iload 4, 2) := by decide +kernel
theorem dX5_counts_150 : decode cX5_counts 150 = .ok (.aload 8, 2) := by decide +kernel
theorem dX5_counts_152 : decode cX5_counts 152 = .ok (.iconst 5, 1) := by decide +kernel
theorem dX5_counts_153 : decode cX5_counts 153 = .ok (.iaload, 1) := by decide +kernel
theorem dX5_counts_154 : decode cX5_counts 154 = .ok (.iadd, 1) := by decide +kernel
theorem dX5_counts_155 : decode cX5_counts 155 = .ok (.istore 4, 2) := by decide +kernel
theorem dX5_counts_157 : decode cX5_counts 157 = .ok (.iinc 7 1, 3) := by decide +kernel
theorem dX5_counts_160 : decode cX5_counts 160 = .ok (.goto (-33), 3) := by decide +kernel
theorem dX5_counts_163 : decode cX5_counts 163 = .ok (.bipush 9, 2) := by decide +kernel
theorem dX5_counts_165 : decode cX5_counts 165 = .ok (.newarray .int, 2) := by decide +kernel
theorem dX5_counts_167 : decode cX5_counts 167 = .ok (.dup, 1) := by decide +kernel
theorem dX5_counts_168 : decode cX5_counts 168 = .ok (.iconst 0, 1) := by decide +kernel
theorem dX5_counts_169 : decode cX5_counts 169 = .ok (.aload_n 0, 1) := by decide +kernel
theorem dX5_counts_170 : decode cX5_counts 170 = .ok (.getfield 50, 3) := by decide +kernel
theorem dX5_counts_173 : decode cX5_counts 173 = .ok (.iastore, 1) := by decide +kernel
theorem dX5_counts_174 : decode cX5_counts 174 = .ok (.dup, 1) := by decide +kernel
theorem dX5_counts_175 : decode cX5_counts 175 = .ok (.iconst 1, 1) := by decide +kernel
theorem dX5_counts_176 : decode cX5_counts 176 = .ok (.aload_n 0, 1) := by decide +kernel
theorem dX5_counts_177 : decode cX5_counts 177 = .ok (.getfield 31, 3) := by decide +kernel
theorem dX5_counts_180 : decode cX5_counts 180 = .ok (.iastore, 1) := by decide +kernel
theorem dX5_counts_181 : decode cX5_counts 181 = .ok (.dup, 1) := by decide +kernel
theorem dX5_counts_182 : decode cX5_counts 182 = .ok (.iconst 2, 1) := by decide +kernel
theorem dX5_counts_183 : decode cX5_counts 183 = .ok (.aload_n 0, 1) := by decide +kernel
theorem dX5_counts_184 : decode cX5_counts 184 = .ok (.getfield 31, 3) := by decide +kernel
theorem dX5_counts_187 : decode cX5_counts 187 = .ok (.iconst 5, 1) := by decide +kernel
theorem dX5_counts_188 : decode cX5_counts 188 = .ok (.if_icmp .ge 7, 3) := by decide +kernel
theorem dX5_counts_191 : decode cX5_counts 191 = .ok (.iconst 0, 1) := by decide +kernel
theorem dX5_counts_192 : decode cX5_counts 192 = .ok (.goto 4, 3) := by decide +kernel
theorem dX5_counts_195 : decode cX5_counts 195 = .ok (.iconst 1, 1) := by decide +kernel
theorem dX5_counts_196 : decode cX5_counts 196 = .ok (.iastore, 1) := by decide +kernel
theorem dX5_counts_197 : decode cX5_counts 197 = .ok (.dup, 1) := by decide +kernel
theorem dX5_counts_198 : decode cX5_counts 198 = .ok (.iconst 3, 1) := by decide +kernel
theorem dX5_counts_199 : decode cX5_counts 199 = .ok (.iload_n 1, 1) := by decide +kernel
theorem dX5_counts_200 : decode cX5_counts 200 = .ok (.iastore, 1) := by decide +kernel
theorem dX5_counts_201 : decode cX5_counts 201 = .ok (.dup, 1) := by decide +kernel
theorem dX5_counts_202 : decode cX5_counts 202 = .ok (.iconst 4, 1) := by decide +kernel
theorem dX5_counts_203 : decode cX5_counts 203 = .ok (.aload_n 0, 1) := by decide +kernel
theorem dX5_counts_204 : decode cX5_counts 204 = .ok (.getfield 22, 3) := by decide +kernel
theorem dX5_counts_207 : decode cX5_counts 207 = .ok (.arraylength, 1) := by decide +kernel
theorem dX5_counts_208 : decode cX5_counts 208 = .ok (.iastore, 1) := by decide +kernel
theorem dX5_counts_209 : decode cX5_counts 209 = .ok (.dup, 1) := by decide +kernel
theorem dX5_counts_210 : decode cX5_counts 210 = .ok (.iconst 5, 1) := by decide +kernel
theorem dX5_counts_211 : decode cX5_counts 211 = .ok (.iload_n 2, 1) := by decide +kernel
theorem dX5_counts_212 : decode cX5_counts 212 = .ok (.iastore, 1) := by decide +kernel
theorem dX5_counts_213 : decode cX5_counts 213 = .ok (.dup, 1) := by decide +kernel
theorem dX5_counts_214 : decode cX5_counts 214 = .ok (.bipush 6, 2) := by decide +kernel
theorem dX5_counts_216 : decode cX5_counts 216 = .ok (.aload_n 0, 1) := by decide +kernel
theorem dX5_counts_217 : decode cX5_counts 217 = .ok (.getfield 25, 3) := by decide +kernel
theorem dX5_counts_220 : decode cX5_counts 220 = .ok (.arraylength, 1) := by decide +kernel
theorem dX5_counts_221 : decode cX5_counts 221 = .ok (.iastore, 1) := by decide +kernel
theorem dX5_counts_222 : decode cX5_counts 222 = .ok (.dup, 1) := by decide +kernel
theorem dX5_counts_223 : decode cX5_counts 223 = .ok (.bipush 7, 2) := by decide +kernel
theorem dX5_counts_225 : decode cX5_counts 225 = .ok (.iload_n 3, 1) := by decide +kernel
theorem dX5_counts_226 : decode cX5_counts 226 = .ok (.iastore, 1) := by decide +kernel
theorem dX5_counts_227 : decode cX5_counts 227 = .ok (.dup, 1) := by decide +kernel
theorem dX5_counts_228 : decode cX5_counts 228 = .ok (.bipush 8, 2) := by decide +kernel
theorem dX5_counts_230 : decode cX5_counts 230 = .ok (.iload 4, 2) := by decide +kernel
theorem dX5_counts_232 : decode cX5_counts 232 = .ok (.iastore, 1) := by decide +kernel
theorem dX5_counts_233 : decode cX5_counts 233 = .ok (.astore 5, 2) := by decide +kernel
theorem dX5_counts_235 : decode cX5_counts 235 = .ok (.aload 5, 2) := by decide +kernel
theorem dX5_counts_237 : decode cX5_counts 237 = .ok (.areturn, 1) := by decide +kernel
theorem arr9 {H : Heap} {cA : ClassId} {a : Nat} {x0 x1 x2 x3 x4 x5 x6 x7 x8 : Int32} {g0 f : Nat → Int32} (h : H[a]? = some (vp_cell cA (9, .inl (upd (upd (upd (upd (upd (upd (upd (upd (upd g0 0 x0) 1 x1) 2 x2) 3 x3) 4 x4) 5 x5) 6 x6) 7 x7) 8 x8)))) (e0 : x0 = f 0) (e1 : x1 = f 1) (e2 : x2 = f 2) (e3 : x3 = f 3) (e4 : x4 = f 4) (e5 : x5 = f 5) (e6 : x6 = f 6) (e7 : x7 = f 7) (e8 : x8 = f 8) : H[a]? = some (vp_cell cA (9, .inl f)) := by
  rw [h, vp_cell_i, vp_cell_i]
  congr 1
  refine arrV_eq fun j hj => congrArg Value.int ?_
  rcases (show j = 0 ∨ j = 1 ∨ j = 2 ∨ j = 3 ∨ j = 4 ∨ j = 5 ∨ j = 6 ∨ j = 7 ∨ j = 8 by omega) with rfl | rfl | rfl | rfl | rfl | rfl | rfl | rfl | rfl <;> simp [upd, e0, e1, e2, e3, e4, e5, e6, e7, e8]
set_option maxHeartbeats 4000000 in
set_option maxRecDepth 100000 in
theorem c_countsS (l : Launch) {g : Gm} (hI : IJ g (KK g)) {M : Mem} {o : Nat → Int64} {v : Vw} (hv : Inv v) (hL : SimL g v) : Met l yX5_counts (wy yX5_counts cX5_counts 10 (some (.array .int))) { frames := 0, cells := 1, slots := 9, locals := 0 } (Pd g (KK g) (ent g (setR M 2 v) o) [.ref (ad g (20, 0, 0))]) (Qr g (KK g) (ent g (setR M 2 v) o) (fun a H => H[a]? = some (vp_cell (gC g 0) (9, .inl (fun j => factF v (nI j)))) ∧ AA g a ∧ ∀ k, KK g k → ad g k ≠ a)) 1 9 (AA g) := by
  refine met_of (by decide +kernel) (Nat.le_of_ble_eq_true rfl) ?_
  intro p e s m below meth c ls hC hr_ hlk hnm hE hP hS hl
  obtain ⟨hx, hb, hml, hown, hG⟩ := id hC
  have hl : lv_has ls 10 [(0, .ref (ad g (20, 0, 0)))] := hl
  have qH := hv.lH
  have qS := hv.lS
  have qW := hv.lW
  refine lv_iconst (v := 0) hx hb dX5_counts_0 (by decide) ?_
  refine lv_istore_n (lv' := [(1, .int ((0 : Int32))), (0, .ref (ad g (20, 0, 0)))]) hx hb dX5_counts_1 rfl hl (by decide) rfl (fun ls hl => ?_)
  refine lv_aload_n hx hb dX5_counts_2 rfl (lv_at hl 1 rfl) ?_
  refine m_get hC hE hP (k_20 hL) e_20 rfl u_5 0 (by decide) w_649 rfl rfl dX5_counts_3 ?_
  refine lv_astore_n (lv' := [(2, .ref (ad g (26, 0, 0))), (1, .int ((0 : Int32))), (0, .ref (ad g (20, 0, 0)))]) hx hb dX5_counts_6 rfl hl (by decide) rfl (fun ls hl => ?_)
  refine lv_aload_n hx hb dX5_counts_7 rfl (lv_at hl 0 rfl) ?_
  refine m_alnA hC hE hP (k_26 hL (by decide)) f_26 rfl dX5_counts_8 ?_
  refine lv_istore_n (lv' := [(3, .int (nI 9)), (2, .ref (ad g (26, 0, 0))), (1, .int ((0 : Int32))), (0, .ref (ad g (20, 0, 0)))]) hx hb dX5_counts_9 rfl hl (by decide) rfl (fun ls hl => ?_)
  refine lv_iconst (v := 0) hx hb dX5_counts_10 (by decide) ?_
  refine lv_istore (lv' := [(4, .int ((0 : Int32))), (3, .int (nI 9)), (2, .ref (ad g (26, 0, 0))), (1, .int ((0 : Int32))), (0, .ref (ad g (20, 0, 0)))]) hx hb dX5_counts_11 hl (by decide) rfl (fun ls hl => ?_)
  refine lp_W (i0 := 0) 9 (fun i => ent g (setR M 2 v) o) (fun i => [(4, .int (nI i)), (3, .int (nI 9)), (2, .ref (ad g (26, 0, 0))), (1, .int (sumI (fun q => sumI (fun y => v 0 (9 * y + q)) 9) i)), (0, .ref (ad g (20, 0, 0)))]) (fun i => True) (Nat.zero_le _) (hP.castR (rfl)) hS (by show lv_has ls _ [(4, .int (nI 0)), (3, .int (nI 9)), (2, .ref (ad g (26, 0, 0))), (1, .int (sumI (fun q => sumI (fun y => v 0 (9 * y + q)) 9) 0)), (0, .ref (ad g (20, 0, 0)))]; rw [show sumI (fun q => sumI (fun y => v 0 (9 * y + q)) 9) 0 = (0 : Int32) from rfl]; exact lv_sub hl [0, 1, 2, 3, 4] rfl) (trivial) (fun H locs ls hP hS hl J => ?_) (fun i hi IH H locs ls hP hS hl J => ?_)
  · refine lv_iload hx hb dX5_counts_13 (lv_at hl 0 rfl) ?_
    refine lv_iload_n hx hb dX5_counts_15 rfl (lv_at hl 1 rfl) ?_
    refine lv_icmp_ge (tgt := 68) hx hb dX5_counts_16 (by decide) (fun c1 => ?_) (fun c1 => absurd (nI_le (Nat.le_refl _) (by omega)) c1)
    refine lv_iconst (v := 0) hx hb dX5_counts_68 (by decide) ?_
    refine lv_istore_n (lv' := [(2, .int ((0 : Int32))), (4, .int (nI 9)), (3, .int (nI 9)), (1, .int (sumI (fun q => sumI (fun y => v 0 (9 * y + q)) 9) 9)), (0, .ref (ad g (20, 0, 0)))]) hx hb dX5_counts_69 rfl hl (by decide) rfl (fun ls hl => ?_)
    refine lv_aload_n hx hb dX5_counts_70 rfl (lv_at hl 4 rfl) ?_
    refine m_get hC hE hP (k_20 hL) e_20 rfl u_5 3 (by decide) w_655 rfl rfl dX5_counts_71 ?_
    refine lv_astore_n (lv' := [(3, .ref (ad g (27, 0, 0))), (2, .int ((0 : Int32))), (4, .int (nI 9)), (1, .int (sumI (fun q => sumI (fun y => v 0 (9 * y + q)) 9) 9)), (0, .ref (ad g (20, 0, 0)))]) hx hb dX5_counts_74 rfl hl (by decide) rfl (fun ls hl => ?_)
    refine lv_aload_n hx hb dX5_counts_75 rfl (lv_at hl 0 rfl) ?_
    refine m_alnA hC hE hP (k_27 hL) e_27 (congrArg nI Cn.rf.1) dX5_counts_76 ?_
    refine lv_istore (lv' := [(4, .int (nI (nH v))), (3, .ref (ad g (27, 0, 0))), (2, .int ((0 : Int32))), (1, .int (sumI (fun q => sumI (fun y => v 0 (9 * y + q)) 9) 9)), (0, .ref (ad g (20, 0, 0)))]) hx hb dX5_counts_77 hl (by decide) rfl (fun ls hl => ?_)
    refine lv_iconst (v := 0) hx hb dX5_counts_79 (by decide) ?_
    refine lv_istore (lv' := [(5, .int ((0 : Int32))), (4, .int (nI (nH v))), (3, .ref (ad g (27, 0, 0))), (2, .int ((0 : Int32))), (1, .int (sumI (fun q => sumI (fun y => v 0 (9 * y + q)) 9) 9)), (0, .ref (ad g (20, 0, 0)))]) hx hb dX5_counts_80 hl (by decide) rfl (fun ls hl => ?_)
    refine lp_W (i0 := 0) (nH v) (fun i => ent g (setR M 2 v) o) (fun i => [(5, .int (nI i)), (4, .int (nI (nH v))), (3, .ref (ad g (27, 0, 0))), (2, .int (sumI (v 5) i)), (1, .int (sumI (fun q => sumI (fun y => v 0 (9 * y + q)) 9) 9)), (0, .ref (ad g (20, 0, 0)))]) (fun i => True) (Nat.zero_le _) (hP.castR (rfl)) hS (by show lv_has ls _ [(5, .int (nI 0)), (4, .int (nI (nH v))), (3, .ref (ad g (27, 0, 0))), (2, .int (sumI (v 5) 0)), (1, .int (sumI (fun q => sumI (fun y => v 0 (9 * y + q)) 9) 9)), (0, .ref (ad g (20, 0, 0)))]; rw [show sumI (v 5) 0 = (0 : Int32) from rfl]; exact lv_sub hl [0, 1, 2, 3, 4, 5] rfl) (trivial) (fun H locs ls hP hS hl J => ?_) (fun i hi IH H locs ls hP hS hl J => ?_)
    · refine lv_iload hx hb dX5_counts_82 (lv_at hl 0 rfl) ?_
      refine lv_iload hx hb dX5_counts_84 (lv_at hl 1 rfl) ?_
      refine lv_icmp_ge (tgt := 108) hx hb dX5_counts_86 (by decide) (fun c2 => ?_) (fun c2 => absurd (nI_le (Nat.le_refl _) (by omega)) c2)
      refine lv_iconst (v := 0) hx hb dX5_counts_108 (by decide) ?_
      refine lv_istore_n (lv' := [(3, .int ((0 : Int32))), (5, .int (nI (nH v))), (4, .int (nI (nH v))), (2, .int (sumI (v 5) (nH v))), (1, .int (sumI (fun q => sumI (fun y => v 0 (9 * y + q)) 9) 9)), (0, .ref (ad g (20, 0, 0)))]) hx hb dX5_counts_109 rfl hl (by decide) rfl (fun ls hl => ?_)
      refine lv_iconst (v := 0) hx hb dX5_counts_110 (by decide) ?_
      refine lv_istore (lv' := [(4, .int ((0 : Int32))), (3, .int ((0 : Int32))), (5, .int (nI (nH v))), (2, .int (sumI (v 5) (nH v))), (1, .int (sumI (fun q => sumI (fun y => v 0 (9 * y + q)) 9) 9)), (0, .ref (ad g (20, 0, 0)))]) hx hb dX5_counts_111 hl (by decide) rfl (fun ls hl => ?_)
      refine lv_aload_n hx hb dX5_counts_113 rfl (lv_at hl 5 rfl) ?_
      refine m_get hC hE hP (k_20 hL) e_20 rfl u_5 4 (by decide) w_657 rfl rfl dX5_counts_114 ?_
      refine lv_astore (lv' := [(5, .ref (ad g (28, 2, 0))), (4, .int ((0 : Int32))), (3, .int ((0 : Int32))), (2, .int (sumI (v 5) (nH v))), (1, .int (sumI (fun q => sumI (fun y => v 0 (9 * y + q)) 9) 9)), (0, .ref (ad g (20, 0, 0)))]) hx hb dX5_counts_117 hl (by decide) rfl (fun ls hl => ?_)
      refine lv_aload hx hb dX5_counts_119 (lv_at hl 0 rfl) ?_
      refine m_alnA hC hE hP (k_28 hL) e_28 (congrArg nI Cn.rf.2.1) dX5_counts_121 ?_
      refine lv_istore (lv' := [(6, .int (nI (nS v))), (5, .ref (ad g (28, 2, 0))), (4, .int ((0 : Int32))), (3, .int ((0 : Int32))), (2, .int (sumI (v 5) (nH v))), (1, .int (sumI (fun q => sumI (fun y => v 0 (9 * y + q)) 9) 9)), (0, .ref (ad g (20, 0, 0)))]) hx hb dX5_counts_122 hl (by decide) rfl (fun ls hl => ?_)
      refine lv_iconst (v := 0) hx hb dX5_counts_124 (by decide) ?_
      refine lv_istore (lv' := [(7, .int ((0 : Int32))), (6, .int (nI (nS v))), (5, .ref (ad g (28, 2, 0))), (4, .int ((0 : Int32))), (3, .int ((0 : Int32))), (2, .int (sumI (v 5) (nH v))), (1, .int (sumI (fun q => sumI (fun y => v 0 (9 * y + q)) 9) 9)), (0, .ref (ad g (20, 0, 0)))]) hx hb dX5_counts_125 hl (by decide) rfl (fun ls hl => ?_)
      refine lp_W (i0 := 0) (nS v) (fun i => ent g (setR M 2 v) o) (fun i => [(7, .int (nI i)), (6, .int (nI (nS v))), (5, .ref (ad g (28, 2, 0))), (4, .int (sumI (v 11) i)), (3, .int (sumI (v 10) i)), (2, .int (sumI (v 5) (nH v))), (1, .int (sumI (fun q => sumI (fun y => v 0 (9 * y + q)) 9) 9)), (0, .ref (ad g (20, 0, 0)))]) (fun i => True) (Nat.zero_le _) (hP.castR (rfl)) hS (by show lv_has ls _ [(7, .int (nI 0)), (6, .int (nI (nS v))), (5, .ref (ad g (28, 2, 0))), (4, .int (sumI (v 11) 0)), (3, .int (sumI (v 10) 0)), (2, .int (sumI (v 5) (nH v))), (1, .int (sumI (fun q => sumI (fun y => v 0 (9 * y + q)) 9) 9)), (0, .ref (ad g (20, 0, 0)))]; rw [show sumI (v 10) 0 = (0 : Int32) from rfl, show sumI (v 11) 0 = (0 : Int32) from rfl]; exact lv_sub hl [0, 1, 2, 3, 4, 5, 6, 7] rfl) (trivial) (fun H locs ls hP hS hl J => ?_) (fun i hi IH H locs ls hP hS hl J => ?_)
      · refine lv_iload hx hb dX5_counts_127 (lv_at hl 0 rfl) ?_
        refine lv_iload hx hb dX5_counts_129 (lv_at hl 1 rfl) ?_
        refine lv_icmp_ge (tgt := 163) hx hb dX5_counts_131 (by decide) (fun c3 => ?_) (fun c3 => absurd (nI_le (Nat.le_refl _) (by omega)) c3)
        refine lv_bipush (v := 9) hx hb dX5_counts_163 (by decide) ?_
        have hAa : AA g H.size := Nat.le_trans hE.2.2.2.2.1 hS.1
        have hab : ∀ k, KK g k → ad g k ≠ H.size := fun k hk z => by have := (hP k hk).lt; rw [z] at this; exact absurd this (Nat.lt_irrefl _)
        have o0 := hP
        refine m_newI hC hE hS (N := 9) (by decide) rfl (by decide) (Nat.le_of_ble_eq_true rfl) (Nat.le_of_ble_eq_true rfl) dX5_counts_165 (fun H1 z1 o1 ha hS => ?_)
        replace hP := fun k hk => (o0 k hk).kept (o1 _ (o0 k hk).lt)
        change WPe g (KK g) _ H1 at hP
        obtain ⟨ra, era⟩ : ∃ ra, ra = H.size := ⟨_, rfl⟩
        rw [← era] at ha hab hAa ⊢
        refine lv_dup hx hb dX5_counts_167 rfl ?_
        refine lv_iconst (v := 0) hx hb dX5_counts_168 (by decide) ?_
        refine lv_aload_n hx hb dX5_counts_169 rfl (lv_at hl 7 rfl) ?_
        refine m_get hC hE hP (k_20 hL) e_20 rfl u_5 6 (by decide) w_661 rfl rfl dX5_counts_170 ?_
        refine m_iasR hC hE hP hS ha hAa hab 0 rfl (by decide) (by decide) dX5_counts_173 (fun H locs z ha hP hS => ?_)
        refine lv_dup hx hb dX5_counts_174 rfl ?_
        refine lv_iconst (v := 1) hx hb dX5_counts_175 (by decide) ?_
        refine lv_aload_n hx hb dX5_counts_176 rfl (lv_at hl 7 rfl) ?_
        refine m_get hC hE hP (k_20 hL) e_20 rfl u_5 7 (by decide) w_662 rfl rfl dX5_counts_177 ?_
        refine m_iasR hC hE hP hS ha hAa hab 1 rfl (by decide) (by decide) dX5_counts_180 (fun H locs z ha hP hS => ?_)
        refine lv_dup hx hb dX5_counts_181 rfl ?_
        refine lv_iconst (v := 2) hx hb dX5_counts_182 (by decide) ?_
        refine lv_aload_n hx hb dX5_counts_183 rfl (lv_at hl 7 rfl) ?_
        refine m_get hC hE hP (k_20 hL) e_20 rfl u_5 7 (by decide) w_662 rfl rfl dX5_counts_184 ?_
        refine lv_iconst (v := 5) hx hb dX5_counts_187 (by decide) ?_
        refine lv_icmp_ge (tgt := 195) hx hb dX5_counts_188 (by decide) (fun c9 => ?_) (fun c9 => ?_)
        · refine lv_iconst (v := 1) hx hb dX5_counts_195 (by decide) ?_
          refine m_iasR hC hE hP hS ha hAa hab 2 rfl (by decide) (by decide) dX5_counts_196 (fun H locs z ha hP hS => ?_)
          refine lv_dup hx hb dX5_counts_197 rfl ?_
          refine lv_iconst (v := 3) hx hb dX5_counts_198 (by decide) ?_
          refine lv_iload_n hx hb dX5_counts_199 rfl (lv_at hl 6 rfl) ?_
          refine m_iasR hC hE hP hS ha hAa hab 3 rfl (by decide) (by decide) dX5_counts_200 (fun H locs z ha hP hS => ?_)
          refine lv_dup hx hb dX5_counts_201 rfl ?_
          refine lv_iconst (v := 4) hx hb dX5_counts_202 (by decide) ?_
          refine lv_aload_n hx hb dX5_counts_203 rfl (lv_at hl 7 rfl) ?_
          refine m_get hC hE hP (k_20 hL) e_20 rfl u_5 3 (by decide) w_655 rfl rfl dX5_counts_204 ?_
          refine m_alnA hC hE hP (k_27 hL) e_27 (congrArg nI Cn.rf.1) dX5_counts_207 ?_
          refine m_iasR hC hE hP hS ha hAa hab 4 rfl (by decide) (by decide) dX5_counts_208 (fun H locs z ha hP hS => ?_)
          refine lv_dup hx hb dX5_counts_209 rfl ?_
          refine lv_iconst (v := 5) hx hb dX5_counts_210 (by decide) ?_
          refine lv_iload_n hx hb dX5_counts_211 rfl (lv_at hl 5 rfl) ?_
          refine m_iasR hC hE hP hS ha hAa hab 5 rfl (by decide) (by decide) dX5_counts_212 (fun H locs z ha hP hS => ?_)
          refine lv_dup hx hb dX5_counts_213 rfl ?_
          refine lv_bipush (v := 6) hx hb dX5_counts_214 (by decide) ?_
          refine lv_aload_n hx hb dX5_counts_216 rfl (lv_at hl 7 rfl) ?_
          refine m_get hC hE hP (k_20 hL) e_20 rfl u_5 4 (by decide) w_657 rfl rfl dX5_counts_217 ?_
          refine m_alnA hC hE hP (k_28 hL) e_28 (congrArg nI Cn.rf.2.1) dX5_counts_220 ?_
          refine m_iasR hC hE hP hS ha hAa hab 6 rfl (by decide) (by decide) dX5_counts_221 (fun H locs z ha hP hS => ?_)
          refine lv_dup hx hb dX5_counts_222 rfl ?_
          refine lv_bipush (v := 7) hx hb dX5_counts_223 (by decide) ?_
          refine lv_iload_n hx hb dX5_counts_225 rfl (lv_at hl 4 rfl) ?_
          refine m_iasR hC hE hP hS ha hAa hab 7 rfl (by decide) (by decide) dX5_counts_226 (fun H locs z ha hP hS => ?_)
          refine lv_dup hx hb dX5_counts_227 rfl ?_
          refine lv_bipush (v := 8) hx hb dX5_counts_228 (by decide) ?_
          refine lv_iload hx hb dX5_counts_230 (lv_at hl 3 rfl) ?_
          refine m_iasR hC hE hP hS ha hAa hab 8 rfl (by decide) (by decide) dX5_counts_232 (fun H locs z ha hP hS => ?_)
          refine lv_astore (lv' := [(5, .ref ra), (7, .int (nI (nS v))), (6, .int (nI (nS v))), (4, .int (sumI (v 11) (nS v))), (3, .int (sumI (v 10) (nS v))), (2, .int (sumI (v 5) (nH v))), (1, .int (sumI (fun q => sumI (fun y => v 0 (9 * y + q)) 9) 9)), (0, .ref (ad g (20, 0, 0)))]) hx hb dX5_counts_233 hl (by decide) rfl (fun ls hl => ?_)
          refine lv_aload hx hb dX5_counts_235 (lv_at hl 0 rfl) ?_
          have hrow := arr9 (f := fun j => factF v (nI j)) ha fact_0.symm fact_1.symm (fact_2.trans (bear_b1 (Int32.not_lt.mpr c9))).symm (fact_3.trans sum_xy.symm).symm (fact_4.trans hv.eH).symm fact_5.symm (fact_6.trans hv.eS).symm fact_7.symm fact_8.symm
          refine W.widen (k := 1) (n := 9) (Nat.le_of_ble_eq_true rfl) (Nat.le_of_ble_eq_true rfl) ?_
          exact W.aret hx hb hr_ (Or.inr ⟨_, rfl⟩) (Or.inr ⟨_, rfl⟩) (fun t ht hW => ⟨⟨(), ra, rfl, trivial, by rw [ht]; exact hP, by rw [ht]; exact ⟨hrow, hAa, hab⟩⟩, hS.F ht⟩) hS.2.2 dX5_counts_237 hlk
        · refine lv_iconst (v := 0) hx hb dX5_counts_191 (by decide) ?_
          refine lv_goto (tgt := 196) hx hb dX5_counts_192 (by decide) ?_
          refine m_iasR hC hE hP hS ha hAa hab 2 rfl (by decide) (by decide) dX5_counts_196 (fun H locs z ha hP hS => ?_)
          refine lv_dup hx hb dX5_counts_197 rfl ?_
          refine lv_iconst (v := 3) hx hb dX5_counts_198 (by decide) ?_
          refine lv_iload_n hx hb dX5_counts_199 rfl (lv_at hl 6 rfl) ?_
          refine m_iasR hC hE hP hS ha hAa hab 3 rfl (by decide) (by decide) dX5_counts_200 (fun H locs z ha hP hS => ?_)
          refine lv_dup hx hb dX5_counts_201 rfl ?_
          refine lv_iconst (v := 4) hx hb dX5_counts_202 (by decide) ?_
          refine lv_aload_n hx hb dX5_counts_203 rfl (lv_at hl 7 rfl) ?_
          refine m_get hC hE hP (k_20 hL) e_20 rfl u_5 3 (by decide) w_655 rfl rfl dX5_counts_204 ?_
          refine m_alnA hC hE hP (k_27 hL) e_27 (congrArg nI Cn.rf.1) dX5_counts_207 ?_
          refine m_iasR hC hE hP hS ha hAa hab 4 rfl (by decide) (by decide) dX5_counts_208 (fun H locs z ha hP hS => ?_)
          refine lv_dup hx hb dX5_counts_209 rfl ?_
          refine lv_iconst (v := 5) hx hb dX5_counts_210 (by decide) ?_
          refine lv_iload_n hx hb dX5_counts_211 rfl (lv_at hl 5 rfl) ?_
          refine m_iasR hC hE hP hS ha hAa hab 5 rfl (by decide) (by decide) dX5_counts_212 (fun H locs z ha hP hS => ?_)
          refine lv_dup hx hb dX5_counts_213 rfl ?_
          refine lv_bipush (v := 6) hx hb dX5_counts_214 (by decide) ?_
          refine lv_aload_n hx hb dX5_counts_216 rfl (lv_at hl 7 rfl) ?_
          refine m_get hC hE hP (k_20 hL) e_20 rfl u_5 4 (by decide) w_657 rfl rfl dX5_counts_217 ?_
          refine m_alnA hC hE hP (k_28 hL) e_28 (congrArg nI Cn.rf.2.1) dX5_counts_220 ?_
          refine m_iasR hC hE hP hS ha hAa hab 6 rfl (by decide) (by decide) dX5_counts_221 (fun H locs z ha hP hS => ?_)
          refine lv_dup hx hb dX5_counts_222 rfl ?_
          refine lv_bipush (v := 7) hx hb dX5_counts_223 (by decide) ?_
          refine lv_iload_n hx hb dX5_counts_225 rfl (lv_at hl 4 rfl) ?_
          refine m_iasR hC hE hP hS ha hAa hab 7 rfl (by decide) (by decide) dX5_counts_226 (fun H locs z ha hP hS => ?_)
          refine lv_dup hx hb dX5_counts_227 rfl ?_
          refine lv_bipush (v := 8) hx hb dX5_counts_228 (by decide) ?_
          refine lv_iload hx hb dX5_counts_230 (lv_at hl 3 rfl) ?_
          refine m_iasR hC hE hP hS ha hAa hab 8 rfl (by decide) (by decide) dX5_counts_232 (fun H locs z ha hP hS => ?_)
          refine lv_astore (lv' := [(5, .ref ra), (7, .int (nI (nS v))), (6, .int (nI (nS v))), (4, .int (sumI (v 11) (nS v))), (3, .int (sumI (v 10) (nS v))), (2, .int (sumI (v 5) (nH v))), (1, .int (sumI (fun q => sumI (fun y => v 0 (9 * y + q)) 9) 9)), (0, .ref (ad g (20, 0, 0)))]) hx hb dX5_counts_233 hl (by decide) rfl (fun ls hl => ?_)
          refine lv_aload hx hb dX5_counts_235 (lv_at hl 0 rfl) ?_
          have hrow := arr9 (f := fun j => factF v (nI j)) ha fact_0.symm fact_1.symm (fact_2.trans (bear_b0 (Int32.not_le.mp c9))).symm (fact_3.trans sum_xy.symm).symm (fact_4.trans hv.eH).symm fact_5.symm (fact_6.trans hv.eS).symm fact_7.symm fact_8.symm
          refine W.widen (k := 1) (n := 9) (Nat.le_of_ble_eq_true rfl) (Nat.le_of_ble_eq_true rfl) ?_
          exact W.aret hx hb hr_ (Or.inr ⟨_, rfl⟩) (Or.inr ⟨_, rfl⟩) (fun t ht hW => ⟨⟨(), ra, rfl, trivial, by rw [ht]; exact hP, by rw [ht]; exact ⟨hrow, hAa, hab⟩⟩, hS.F ht⟩) hS.2.2 dX5_counts_237 hlk
      · refine lv_iload hx hb dX5_counts_127 (lv_at hl 0 rfl) ?_
        refine lv_iload hx hb dX5_counts_129 (lv_at hl 1 rfl) ?_
        refine lv_icmp_ge (tgt := 163) hx hb dX5_counts_131 (by decide) (fun c4 => absurd c4 (nI_ge hi (by omega))) (fun c4 => ?_)
        refine lv_aload hx hb dX5_counts_134 (lv_at hl 2 rfl) ?_
        refine lv_iload hx hb dX5_counts_136 (lv_at hl 0 rfl) ?_
        refine m_aalA hC hE hP (k_28 hL) e_28 i (rfl) (Cn.rf.lS (by omega)) (Cn.rf.bS (by omega)) dX5_counts_138 ?_
        refine lv_astore (lv' := [(8, .ref (ad g (24, 2, i))), (7, .int (nI i)), (6, .int (nI (nS v))), (5, .ref (ad g (28, 2, 0))), (4, .int (sumI (v 11) i)), (3, .int (sumI (v 10) i)), (2, .int (sumI (v 5) (nH v))), (1, .int (sumI (fun q => sumI (fun y => v 0 (9 * y + q)) 9) 9)), (0, .ref (ad g (20, 0, 0)))]) hx hb dX5_counts_139 hl (by decide) rfl (fun ls hl => ?_)
        refine lv_iload_n hx hb dX5_counts_141 rfl (lv_at hl 5 rfl) ?_
        refine lv_aload hx hb dX5_counts_142 (lv_at hl 0 rfl) ?_
        refine lv_iconst (v := 4) hx hb dX5_counts_144 (by decide) ?_
        refine m_iald hC hE hP (k_24 hL (by omega)) e_24 4 (rfl) (show 4 < 6 from by omega) (by decide) dX5_counts_145 ?_
        refine m_top (y := v 10 i) rfl ?_
        refine lv_iadd hx hb dX5_counts_146 ?_
        refine lv_istore_n (lv' := [(3, .int ((sumI (v 10) i) + (v 10 i))), (8, .ref (ad g (24, 2, i))), (7, .int (nI i)), (6, .int (nI (nS v))), (5, .ref (ad g (28, 2, 0))), (4, .int (sumI (v 11) i)), (2, .int (sumI (v 5) (nH v))), (1, .int (sumI (fun q => sumI (fun y => v 0 (9 * y + q)) 9) 9)), (0, .ref (ad g (20, 0, 0)))]) hx hb dX5_counts_147 rfl hl (by decide) rfl (fun ls hl => ?_)
        refine lv_iload hx hb dX5_counts_148 (lv_at hl 5 rfl) ?_
        refine lv_aload hx hb dX5_counts_150 (lv_at hl 1 rfl) ?_
        refine lv_iconst (v := 5) hx hb dX5_counts_152 (by decide) ?_
        refine m_iald hC hE hP (k_24 hL (by omega)) e_24 5 (rfl) (show 5 < 6 from by omega) (by decide) dX5_counts_153 ?_
        refine m_top (y := v 11 i) rfl ?_
        refine lv_iadd hx hb dX5_counts_154 ?_
        refine lv_istore (lv' := [(4, .int ((sumI (v 11) i) + (v 11 i))), (3, .int ((sumI (v 10) i) + (v 10 i))), (8, .ref (ad g (24, 2, i))), (7, .int (nI i)), (6, .int (nI (nS v))), (5, .ref (ad g (28, 2, 0))), (2, .int (sumI (v 5) (nH v))), (1, .int (sumI (fun q => sumI (fun y => v 0 (9 * y + q)) 9) 9)), (0, .ref (ad g (20, 0, 0)))]) hx hb dX5_counts_155 hl (by decide) rfl (fun ls hl => ?_)
        refine lv_iinc (v := nI (i + 1)) (lv' := [(7, .int (nI (i + 1))), (4, .int ((sumI (v 11) i) + (v 11 i))), (3, .int ((sumI (v 10) i) + (v 10 i))), (8, .ref (ad g (24, 2, i))), (6, .int (nI (nS v))), (5, .ref (ad g (28, 2, 0))), (2, .int (sumI (v 5) (nH v))), (1, .int (sumI (fun q => sumI (fun y => v 0 (9 * y + q)) 9) 9)), (0, .ref (ad g (20, 0, 0)))]) hx hb dX5_counts_157 hl (k := 3) rfl (nI_1 _) (by decide) rfl (fun ls hl => ?_)
        refine lv_goto (tgt := 127) hx hb dX5_counts_160 (by decide) ?_
        exact IH H locs ls (hP.castR (rfl)) hS (by show lv_has ls _ [(7, .int (nI (i + 1))), (6, .int (nI (nS v))), (5, .ref (ad g (28, 2, 0))), (4, .int (sumI (v 11) (i + 1))), (3, .int (sumI (v 10) (i + 1))), (2, .int (sumI (v 5) (nH v))), (1, .int (sumI (fun q => sumI (fun y => v 0 (9 * y + q)) 9) 9)), (0, .ref (ad g (20, 0, 0)))]; rw [show sumI (v 11) (i + 1) = (sumI (v 11) i) + (v 11 i) from rfl, show sumI (v 10) (i + 1) = (sumI (v 10) i) + (v 10 i) from rfl]; exact lv_sub hl [0, 4, 5, 1, 2, 6, 7, 8] rfl) (trivial)
    · refine lv_iload hx hb dX5_counts_82 (lv_at hl 0 rfl) ?_
      refine lv_iload hx hb dX5_counts_84 (lv_at hl 1 rfl) ?_
      refine lv_icmp_ge (tgt := 108) hx hb dX5_counts_86 (by decide) (fun c5 => absurd c5 (nI_ge hi (by omega))) (fun c5 => ?_)
      refine lv_aload_n hx hb dX5_counts_89 rfl (lv_at hl 2 rfl) ?_
      refine lv_iload hx hb dX5_counts_90 (lv_at hl 0 rfl) ?_
      refine m_aalA hC hE hP (k_27 hL) e_27 i (rfl) (Cn.rf.lH (by omega)) (Cn.rf.bH (by omega)) dX5_counts_92 ?_
      refine lv_astore (lv' := [(6, .ref (ad g (23, 0, i))), (5, .int (nI i)), (4, .int (nI (nH v))), (3, .ref (ad g (27, 0, 0))), (2, .int (sumI (v 5) i)), (1, .int (sumI (fun q => sumI (fun y => v 0 (9 * y + q)) 9) 9)), (0, .ref (ad g (20, 0, 0)))]) hx hb dX5_counts_93 hl (by decide) rfl (fun ls hl => ?_)
      refine lv_iload_n hx hb dX5_counts_95 rfl (lv_at hl 4 rfl) ?_
      refine lv_aload hx hb dX5_counts_96 (lv_at hl 0 rfl) ?_
      refine lv_iconst (v := 2) hx hb dX5_counts_98 (by decide) ?_
      refine m_iald hC hE hP (k_23 hL (by omega)) e_23 2 (rfl) (show 2 < 3 from by omega) (by decide) dX5_counts_99 ?_
      refine m_top (y := v 5 i) rfl ?_
      refine lv_iadd hx hb dX5_counts_100 ?_
      refine lv_istore_n (lv' := [(2, .int ((sumI (v 5) i) + (v 5 i))), (6, .ref (ad g (23, 0, i))), (5, .int (nI i)), (4, .int (nI (nH v))), (3, .ref (ad g (27, 0, 0))), (1, .int (sumI (fun q => sumI (fun y => v 0 (9 * y + q)) 9) 9)), (0, .ref (ad g (20, 0, 0)))]) hx hb dX5_counts_101 rfl hl (by decide) rfl (fun ls hl => ?_)
      refine lv_iinc (v := nI (i + 1)) (lv' := [(5, .int (nI (i + 1))), (2, .int ((sumI (v 5) i) + (v 5 i))), (6, .ref (ad g (23, 0, i))), (4, .int (nI (nH v))), (3, .ref (ad g (27, 0, 0))), (1, .int (sumI (fun q => sumI (fun y => v 0 (9 * y + q)) 9) 9)), (0, .ref (ad g (20, 0, 0)))]) hx hb dX5_counts_102 hl (k := 2) rfl (nI_1 _) (by decide) rfl (fun ls hl => ?_)
      refine lv_goto (tgt := 82) hx hb dX5_counts_105 (by decide) ?_
      exact IH H locs ls (hP.castR (rfl)) hS (by show lv_has ls _ [(5, .int (nI (i + 1))), (4, .int (nI (nH v))), (3, .ref (ad g (27, 0, 0))), (2, .int (sumI (v 5) (i + 1))), (1, .int (sumI (fun q => sumI (fun y => v 0 (9 * y + q)) 9) 9)), (0, .ref (ad g (20, 0, 0)))]; rw [show sumI (v 5) (i + 1) = (sumI (v 5) i) + (v 5 i) from rfl]; exact lv_sub hl [0, 3, 4, 1, 5, 6] rfl) (trivial)
  · refine lv_iload hx hb dX5_counts_13 (lv_at hl 0 rfl) ?_
    refine lv_iload_n hx hb dX5_counts_15 rfl (lv_at hl 1 rfl) ?_
    refine lv_icmp_ge (tgt := 68) hx hb dX5_counts_16 (by decide) (fun c6 => absurd c6 (nI_ge hi (by omega))) (fun c6 => ?_)
    refine lv_aload_n hx hb dX5_counts_19 rfl (lv_at hl 2 rfl) ?_
    refine lv_iload hx hb dX5_counts_20 (lv_at hl 0 rfl) ?_
    refine m_aalA hC hE hP (k_26 hL (by decide)) f_26 i (rfl) (show i < 9 from by omega) (by decide) dX5_counts_22 ?_
    refine lv_astore (lv' := [(5, .ref (ad g (21, 0, i))), (4, .int (nI i)), (3, .int (nI 9)), (2, .ref (ad g (26, 0, 0))), (1, .int (sumI (fun q => sumI (fun y => v 0 (9 * y + q)) 9) i)), (0, .ref (ad g (20, 0, 0)))]) hx hb dX5_counts_23 hl (by decide) rfl (fun ls hl => ?_)
    refine lv_aload hx hb dX5_counts_25 (lv_at hl 0 rfl) ?_
    refine lv_astore (lv' := [(6, .ref (ad g (21, 0, i))), (5, .ref (ad g (21, 0, i))), (4, .int (nI i)), (3, .int (nI 9)), (2, .ref (ad g (26, 0, 0))), (1, .int (sumI (fun q => sumI (fun y => v 0 (9 * y + q)) 9) i)), (0, .ref (ad g (20, 0, 0)))]) hx hb dX5_counts_27 hl (by decide) rfl (fun ls hl => ?_)
    refine lv_aload hx hb dX5_counts_29 (lv_at hl 0 rfl) ?_
    refine m_alen hC hE hP (k_21 hL (by decide) (by omega)) e_21 rfl dX5_counts_31 ?_
    refine lv_istore (lv' := [(7, .int (nI 9)), (6, .ref (ad g (21, 0, i))), (5, .ref (ad g (21, 0, i))), (4, .int (nI i)), (3, .int (nI 9)), (2, .ref (ad g (26, 0, 0))), (1, .int (sumI (fun q => sumI (fun y => v 0 (9 * y + q)) 9) i)), (0, .ref (ad g (20, 0, 0)))]) hx hb dX5_counts_32 hl (by decide) rfl (fun ls hl => ?_)
    refine lv_iconst (v := 0) hx hb dX5_counts_34 (by decide) ?_
    refine lv_istore (lv' := [(8, .int ((0 : Int32))), (7, .int (nI 9)), (6, .ref (ad g (21, 0, i))), (5, .ref (ad g (21, 0, i))), (4, .int (nI i)), (3, .int (nI 9)), (2, .ref (ad g (26, 0, 0))), (1, .int (sumI (fun q => sumI (fun y => v 0 (9 * y + q)) 9) i)), (0, .ref (ad g (20, 0, 0)))]) hx hb dX5_counts_35 hl (by decide) rfl (fun ls hl => ?_)
    refine lp_W (i0 := 0) 9 (fun j => ent g (setR M 2 v) o) (fun j => [(8, .int (nI j)), (7, .int (nI 9)), (6, .ref (ad g (21, 0, i))), (5, .ref (ad g (21, 0, i))), (4, .int (nI i)), (3, .int (nI 9)), (2, .ref (ad g (26, 0, 0))), (1, .int (sumI (fun q => sumI (fun y => v 0 (9 * y + q)) 9) i + sumI (fun y => v 0 (9 * y + i)) j)), (0, .ref (ad g (20, 0, 0)))]) (fun j => True) (Nat.zero_le _) (hP.castR (rfl)) hS (by show lv_has ls _ [(8, .int (nI 0)), (7, .int (nI 9)), (6, .ref (ad g (21, 0, i))), (5, .ref (ad g (21, 0, i))), (4, .int (nI i)), (3, .int (nI 9)), (2, .ref (ad g (26, 0, 0))), (1, .int (sumI (fun q => sumI (fun y => v 0 (9 * y + q)) 9) i + sumI (fun y => v 0 (9 * y + i)) 0)), (0, .ref (ad g (20, 0, 0)))]; rw [show sumI (fun q => sumI (fun y => v 0 (9 * y + q)) 9) i + sumI (fun y => v 0 (9 * y + i)) 0 = sumI (fun q => sumI (fun y => v 0 (9 * y + q)) 9) i from Int32.add_zero _]; exact lv_sub hl [0, 1, 2, 3, 4, 5, 6, 7, 8] rfl) (trivial) (fun H locs ls hP hS hl J => ?_) (fun j hj IHj H locs ls hP hS hl J => ?_)
    · refine lv_iload hx hb dX5_counts_37 (lv_at hl 0 rfl) ?_
      refine lv_iload hx hb dX5_counts_39 (lv_at hl 1 rfl) ?_
      refine lv_icmp_ge (tgt := 62) hx hb dX5_counts_41 (by decide) (fun c7 => ?_) (fun c7 => absurd (nI_le (Nat.le_refl _) (by omega)) c7)
      refine lv_iinc (v := nI (i + 1)) (lv' := [(4, .int (nI (i + 1))), (8, .int (nI 9)), (7, .int (nI 9)), (6, .ref (ad g (21, 0, i))), (5, .ref (ad g (21, 0, i))), (3, .int (nI 9)), (2, .ref (ad g (26, 0, 0))), (1, .int (sumI (fun q => sumI (fun y => v 0 (9 * y + q)) 9) i + sumI (fun y => v 0 (9 * y + i)) 9)), (0, .ref (ad g (20, 0, 0)))]) hx hb dX5_counts_62 hl (k := 4) rfl (nI_1 _) (by decide) rfl (fun ls hl => ?_)
      refine lv_goto (tgt := 13) hx hb dX5_counts_65 (by decide) ?_
      exact IH H locs ls (hP.castR (rfl)) hS (by show lv_has ls _ [(4, .int (nI (i + 1))), (3, .int (nI 9)), (2, .ref (ad g (26, 0, 0))), (1, .int (sumI (fun q => sumI (fun y => v 0 (9 * y + q)) 9) (i + 1))), (0, .ref (ad g (20, 0, 0)))]; rw [show sumI (fun q => sumI (fun y => v 0 (9 * y + q)) 9) (i + 1) = sumI (fun q => sumI (fun y => v 0 (9 * y + q)) 9) i + sumI (fun y => v 0 (9 * y + i)) 9 from rfl]; exact lv_sub hl [0, 5, 6, 7, 8] rfl) (trivial)
    · refine lv_iload hx hb dX5_counts_37 (lv_at hl 0 rfl) ?_
      refine lv_iload hx hb dX5_counts_39 (lv_at hl 1 rfl) ?_
      refine lv_icmp_ge (tgt := 62) hx hb dX5_counts_41 (by decide) (fun c8 => absurd c8 (nI_ge hj (by omega))) (fun c8 => ?_)
      refine lv_aload hx hb dX5_counts_44 (lv_at hl 2 rfl) ?_
      refine lv_iload hx hb dX5_counts_46 (lv_at hl 0 rfl) ?_
      refine m_iald hC hE hP (k_21 hL (by decide) (by omega)) e_21 j (rfl) (show j < 9 from by omega) (by decide) dX5_counts_48 ?_
      refine m_top (y := v 0 (9 * j + i)) rfl ?_
      refine lv_istore (lv' := [(9, .int (v 0 (9 * j + i))), (8, .int (nI j)), (7, .int (nI 9)), (6, .ref (ad g (21, 0, i))), (5, .ref (ad g (21, 0, i))), (4, .int (nI i)), (3, .int (nI 9)), (2, .ref (ad g (26, 0, 0))), (1, .int (sumI (fun q => sumI (fun y => v 0 (9 * y + q)) 9) i + sumI (fun y => v 0 (9 * y + i)) j)), (0, .ref (ad g (20, 0, 0)))]) hx hb dX5_counts_49 hl (by decide) rfl (fun ls hl => ?_)
      refine lv_iload_n hx hb dX5_counts_51 rfl (lv_at hl 8 rfl) ?_
      refine lv_iload hx hb dX5_counts_52 (lv_at hl 0 rfl) ?_
      refine lv_iadd hx hb dX5_counts_54 ?_
      refine lv_istore_n (lv' := [(1, .int ((sumI (fun q => sumI (fun y => v 0 (9 * y + q)) 9) i + sumI (fun y => v 0 (9 * y + i)) j) + (v 0 (9 * j + i)))), (9, .int (v 0 (9 * j + i))), (8, .int (nI j)), (7, .int (nI 9)), (6, .ref (ad g (21, 0, i))), (5, .ref (ad g (21, 0, i))), (4, .int (nI i)), (3, .int (nI 9)), (2, .ref (ad g (26, 0, 0))), (0, .ref (ad g (20, 0, 0)))]) hx hb dX5_counts_55 rfl hl (by decide) rfl (fun ls hl => ?_)
      refine lv_iinc (v := nI (j + 1)) (lv' := [(8, .int (nI (j + 1))), (1, .int ((sumI (fun q => sumI (fun y => v 0 (9 * y + q)) 9) i + sumI (fun y => v 0 (9 * y + i)) j) + (v 0 (9 * j + i)))), (9, .int (v 0 (9 * j + i))), (7, .int (nI 9)), (6, .ref (ad g (21, 0, i))), (5, .ref (ad g (21, 0, i))), (4, .int (nI i)), (3, .int (nI 9)), (2, .ref (ad g (26, 0, 0))), (0, .ref (ad g (20, 0, 0)))]) hx hb dX5_counts_56 hl (k := 2) rfl (nI_1 _) (by decide) rfl (fun ls hl => ?_)
      refine lv_goto (tgt := 37) hx hb dX5_counts_59 (by decide) ?_
      exact IHj H locs ls (hP.castR (rfl)) hS (by show lv_has ls _ [(8, .int (nI (j + 1))), (7, .int (nI 9)), (6, .ref (ad g (21, 0, i))), (5, .ref (ad g (21, 0, i))), (4, .int (nI i)), (3, .int (nI 9)), (2, .ref (ad g (26, 0, 0))), (1, .int (sumI (fun q => sumI (fun y => v 0 (9 * y + q)) 9) i + sumI (fun y => v 0 (9 * y + i)) (j + 1))), (0, .ref (ad g (20, 0, 0)))]; rw [show sumI (fun q => sumI (fun y => v 0 (9 * y + q)) 9) i + sumI (fun y => v 0 (9 * y + i)) (j + 1) = (sumI (fun q => sumI (fun y => v 0 (9 * y + q)) 9) i + sumI (fun y => v 0 (9 * y + i)) j) + (v 0 (9 * j + i)) from (Int32.add_assoc _ _ _).symm]; exact lv_sub hl [0, 3, 4, 5, 6, 7, 8, 1, 9] rfl) (trivial)
