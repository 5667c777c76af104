/-! the reference: digest -/
theorem dX6_digest_0 : decode cX6_digest 0 = .ok (.aload_n 0, 1) := by decide +kernel
theorem dX6_digest_1 : decode cX6_digest 1 = .ok (.iconst 0, 1) := by decide +kernel
theorem dX6_digest_2 : decode cX6_digest 2 = .ok (.putfield 43, 3) := by decide +kernel
theorem dX6_digest_5 : decode cX6_digest 5 = .ok (.ldc2_w 164, 3) := by decide +kernel
theorem dX6_digest_8 : decode cX6_digest 8 = .ok (.lstore_n 1, 1) := by decide +kernel
theorem dX6_digest_9 : decode cX6_digest 9 = .ok (.iconst 0, 1) := by decide +kernel
theorem dX6_digest_10 : decode cX6_digest 10 = .ok (.istore_n 3, 1) := by decide +kernel
theorem dX6_digest_11 : decode cX6_digest 11 = .ok (.iload_n 3, 1) := by decide +kernel
theorem dX6_digest_12 : decode cX6_digest 12 = .ok (.bipush 8, 2) := by decide +kernel
theorem dX6_digest_14 : decode cX6_digest 14 = .ok (.if_icmp .gt 25, 3) := by decide +kernel
theorem dX6_digest_17 : decode cX6_digest 17 = .ok (.lload_n 1, 1) := by decide +kernel
theorem dX6_digest_18 : decode cX6_digest 18 = .ok (.ldc2_w 166, 3) := by decide +kernel
theorem dX6_digest_21 : decode cX6_digest 21 = .ok (.lmul, 1) := by decide +kernel
theorem dX6_digest_22 : decode cX6_digest 22 = .ok (.aload_n 0, 1) := by decide +kernel
theorem dX6_digest_23 : decode cX6_digest 23 = .ok (.getfield 36, 3) := by decide +kernel
theorem dX6_digest_26 : decode cX6_digest 26 = .ok (.iload_n 3, 1) := by decide +kernel
theorem dX6_digest_27 : decode cX6_digest 27 = .ok (.invokevirtual 144, 3) := by decide +kernel
theorem dX6_digest_30 : decode cX6_digest 30 = .ok (.i2l, 1) := by decide +kernel
theorem dX6_digest_31 : decode cX6_digest 31 = .ok (.ladd, 1) := by decide +kernel
theorem dX6_digest_32 : decode cX6_digest 32 = .ok (.lstore_n 1, 1) := by decide +kernel
theorem dX6_digest_33 : decode cX6_digest 33 = .ok (.iinc 3 1, 3) := by decide +kernel
theorem dX6_digest_36 : decode cX6_digest 36 = .ok (.goto (-25), 3) := by decide +kernel
theorem dX6_digest_39 : decode cX6_digest 39 = .ok (.iconst 0, 1) := by decide +kernel
theorem dX6_digest_40 : decode cX6_digest 40 = .ok (.istore_n 3, 1) := by decide +kernel
theorem dX6_digest_41 : decode cX6_digest 41 = .ok (.iload_n 3, 1) := by decide +kernel
theorem dX6_digest_42 : decode cX6_digest 42 = .ok (.bipush 81, 2) := by decide +kernel
theorem dX6_digest_44 : decode cX6_digest 44 = .ok (.if_icmp .ge 39, 3) := by decide +kernel
theorem dX6_digest_47 : decode cX6_digest 47 = .ok (.iconst 0, 1) := by decide +kernel
theorem dX6_digest_48 : decode cX6_digest 48 = .ok (.istore 4, 2) := by decide +kernel
theorem dX6_digest_50 : decode cX6_digest 50 = .ok (.iload 4, 2) := by decide +kernel
theorem dX6_digest_52 : decode cX6_digest 52 = .ok (.iconst 3, 1) := by decide +kernel
theorem dX6_digest_53 : decode cX6_digest 53 = .ok (.if_icmp .gt 24, 3) := by decide +kernel
theorem dX6_digest_56 : decode cX6_digest 56 = .ok (.lload_n 1, 1) := by decide +kernel
theorem dX6_digest_57 : decode cX6_digest 57 = .ok (.ldc2_w 166, 3) := by decide +kernel
theorem dX6_digest_60 : decode cX6_digest 60 = .ok (.lmul, 1) := by decide +kernel
theorem dX6_digest_61 : decode cX6_digest 61 = .ok (.aload_n 0, 1) := by decide +kernel
theorem dX6_digest_62 : decode cX6_digest 62 = .ok (.iload_n 3, 1) := by decide +kernel
theorem dX6_digest_63 : decode cX6_digest 63 = .ok (.iload 4, 2) := by decide +kernel
theorem dX6_digest_65 : decode cX6_digest 65 = .ok (.invokevirtual 111, 3) := by decide +kernel
theorem dX6_digest_68 : decode cX6_digest 68 = .ok (.i2l, 1) := by decide +kernel
theorem dX6_digest_69 : decode cX6_digest 69 = .ok (.ladd, 1) := by decide +kernel
theorem dX6_digest_70 : decode cX6_digest 70 = .ok (.lstore_n 1, 1) := by decide +kernel
theorem dX6_digest_71 : decode cX6_digest 71 = .ok (.iinc 4 1, 3) := by decide +kernel
theorem dX6_digest_74 : decode cX6_digest 74 = .ok (.goto (-24), 3) := by decide +kernel
theorem dX6_digest_77 : decode cX6_digest 77 = .ok (.iinc 3 1, 3) := by decide +kernel
theorem dX6_digest_80 : decode cX6_digest 80 = .ok (.goto (-39), 3) := by decide +kernel
theorem dX6_digest_83 : decode cX6_digest 83 = .ok (.aload_n 0, 1) := by decide +kernel
theorem dX6_digest_84 : decode cX6_digest 84 = .ok (.getfield 13, 3) := by decide +kernel
theorem dX6_digest_87 : decode cX6_digest 87 = .ok (.astore_n 3, 1) := by decide +kernel
theorem dX6_digest_88 : decode cX6_digest 88 = .ok (.aload_n 3, 1) := by decide +kernel
theorem dX6_digest_89 : decode cX6_digest 89 = .ok (.arraylength, 1) := by decide +kernel
theorem dX6_digest_90 : decode cX6_digest 90 = .ok (.istore 4, 2) := by decide +kernel
theorem dX6_digest_92 : decode cX6_digest 92 = .ok (.iconst 0, 1) := by decide +kernel
theorem dX6_digest_93 : decode cX6_digest 93 = .ok (.istore 5, 2) := by decide +kernel
theorem dX6_digest_95 : decode cX6_digest 95 = .ok (.iload 5, 2) := by decide +kernel
theorem dX6_digest_97 : decode cX6_digest 97 = .ok (.iload 4, 2) := by decide +kernel
theorem dX6_digest_99 : decode cX6_digest 99 = .ok (.if_icmp .ge 25, 3) := by decide +kernel
theorem dX6_digest_102 : decode cX6_digest 102 = .ok (.aload_n 3, 1) := by decide +kernel
theorem dX6_digest_103 : decode cX6_digest 103 = .ok (.iload 5, 2) := by decide +kernel
theorem dX6_digest_105 : decode cX6_digest 105 = .ok (.iaload, 1) := by decide +kernel
theorem dX6_digest_106 : decode cX6_digest 106 = .ok (.istore 6, 2) := by decide +kernel
theorem dX6_digest_108 : decode cX6_digest 108 = .ok (.lload_n 1, 1) := by decide +kernel
theorem dX6_digest_109 : decode cX6_digest 109 = .ok (.ldc2_w 166, 3) := by decide +kernel
theorem dX6_digest_112 : decode cX6_digest 112 = .ok (.lmul, 1) := by decide +kernel
theorem dX6_digest_113 : decode cX6_digest 113 = .ok (.iload 6, 2) := by decide +kernel
theorem dX6_digest_115 : decode cX6_digest 115 = .ok (.i2l, 1) := by decide +kernel
theorem dX6_digest_116 : decode cX6_digest 116 = .ok (.ladd, 1) := by decide +kernel
theorem dX6_digest_117 : decode cX6_digest 117 = .ok (.lstore_n 1, 1) := by decide +kernel
theorem dX6_digest_118 : decode cX6_digest 118 = .ok (.iinc 5 1, 3) := by decide +kernel
theorem dX6_digest_121 : decode cX6_digest 121 = .ok (.goto (-26), 3) := by decide +kernel
theorem dX6_digest_124 : decode cX6_digest 124 = .ok (.iconst 0, 1) := by decide +kernel
theorem dX6_digest_125 : decode cX6_digest 125 = .ok (.istore_n 3, 1) := by decide +kernel
theorem dX6_digest_126 : decode cX6_digest 126 = .ok (.iload_n 3, 1) := by decide +kernel
theorem dX6_digest_127 : decode cX6_digest 127 = .ok (.aload_n 0, 1) := by decide +kernel
theorem dX6_digest_128 : decode cX6_digest 128 = .ok (.getfield 61, 3) := by decide +kernel
theorem dX6_digest_131 : decode cX6_digest 131 = .ok (.if_icmp .ge 39, 3) := by decide +kernel
theorem dX6_digest_134 : decode cX6_digest 134 = .ok (.iconst 0, 1) := by decide +kernel
theorem dX6_digest_135 : decode cX6_digest 135 = .ok (.istore 4, 2) := by decide +kernel
theorem dX6_digest_137 : decode cX6_digest 137 = .ok (.iload 4, 2) := by decide +kernel
theorem dX6_digest_139 : decode cX6_digest 139 = .ok (.iconst 4, 1) := by decide +kernel
theorem dX6_digest_140 : decode cX6_digest 140 = .ok (.if_icmp .gt 24, 3) := by decide +kernel
theorem dX6_digest_143 : decode cX6_digest 143 = .ok (.lload_n 1, 1) := by decide +kernel
theorem dX6_digest_144 : decode cX6_digest 144 = .ok (.ldc2_w 166, 3) := by decide +kernel
theorem dX6_digest_147 : decode cX6_digest 147 = .ok (.lmul, 1) := by decide +kernel
theorem dX6_digest_148 : decode cX6_digest 148 = .ok (.aload_n 0, 1) := by decide +kernel
theorem dX6_digest_149 : decode cX6_digest 149 = .ok (.iload_n 3, 1) := by decide +kernel
theorem dX6_digest_150 : decode cX6_digest 150 = .ok (.iload 4, 2) := by decide +kernel
theorem dX6_digest_152 : decode cX6_digest 152 = .ok (.invokevirtual 123, 3) := by decide +kernel
theorem dX6_digest_155 : decode cX6_digest 155 = .ok (.i2l, 1) := by decide +kernel
theorem dX6_digest_156 : decode cX6_digest 156 = .ok (.ladd, 1) := by decide +kernel
theorem dX6_digest_157 : decode cX6_digest 157 = .ok (.lstore_n 1, 1) := by decide +kernel
theorem dX6_digest_158 : decode cX6_digest 158 = .ok (.iinc 4 1, 3) := by decide +kernel
theorem dX6_digest_161 : decode cX6_digest 161 = .ok (.goto (-24), 3) := by decide +kernel
theorem dX6_digest_164 : decode cX6_digest 164 = .ok (.iinc 3 1, 3) := by decide +kernel
theorem dX6_digest_167 : decode cX6_digest 167 = .ok (.goto (-41), 3) := by decide +kernel
theorem dX6_digest_170 : decode cX6_digest 170 = .ok (.iconst 0, 1) := by decide +kernel
theorem dX6_digest_171 : decode cX6_digest 171 = .ok (.istore_n 3, 1) := by decide +kernel
theorem dX6_digest_172 : decode cX6_digest 172 = .ok (.iload_n 3, 1) := by decide +kernel
theorem dX6_digest_173 : decode cX6_digest 173 = .ok (.aload_n 0, 1) := by decide +kernel
theorem dX6_digest_174 : decode cX6_digest 174 = .ok (.getfield 64, 3) := by decide +kernel
theorem dX6_digest_177 : decode cX6_digest 177 = .ok (.if_icmp .ge 39, 3) := by decide +kernel
theorem dX6_digest_180 : decode cX6_digest 180 = .ok (.iconst 0, 1) := by decide +kernel
theorem dX6_digest_181 : decode cX6_digest 181 = .ok (.istore 4, 2) := by decide +kernel
theorem dX6_digest_183 : decode cX6_digest 183 = .ok (.iload 4, 2) := by decide +kernel
theorem dX6_digest_185 : decode cX6_digest 185 = .ok (.iconst 5, 1) := by decide +kernel
theorem dX6_digest_186 : decode cX6_digest 186 = .ok (.if_icmp .gt 24, 3) := by decide +kernel
theorem dX6_digest_189 : decode cX6_digest 189 = .ok (.lload_n 1, 1) := by decide +kernel
theorem dX6_digest_190 : decode cX6_digest 190 = .ok (.ldc2_w 166, 3) := by decide +kernel
theorem dX6_digest_193 : decode cX6_digest 193 = .ok (.lmul, 1) := by decide +kernel
theorem dX6_digest_194 : decode cX6_digest 194 = .ok (.aload_n 0, 1) := by decide +kernel
theorem dX6_digest_195 : decode cX6_digest 195 = .ok (.iload_n 3, 1) := by decide +kernel
theorem dX6_digest_196 : decode cX6_digest 196 = .ok (.iload 4, 2) := by decide +kernel
theorem dX6_digest_198 : decode cX6_digest 198 = .ok (.invokevirtual 135, 3) := by decide +kernel
theorem dX6_digest_201 : decode cX6_digest 201 = .ok (.i2l, 1) := by decide +kernel
theorem dX6_digest_202 : decode cX6_digest 202 = .ok (.ladd, 1) := by decide +kernel
theorem dX6_digest_203 : decode cX6_digest 203 = .ok (.lstore_n 1, 1) := by decide +kernel
theorem dX6_digest_204 : decode cX6_digest 204 = .ok (.iinc 4 1, 3) := by decide +kernel
theorem dX6_digest_207 : decode cX6_digest 207 = .ok (.goto (-24), 3) := by decide +kernel
theorem dX6_digest_210 : decode cX6_digest 210 = .ok (.iinc 3 1, 3) := by decide +kernel
theorem dX6_digest_213 : decode cX6_digest 213 = .ok (.goto (-41), 3) := by decide +kernel
theorem dX6_digest_216 : decode cX6_digest 216 = .ok (.iconst 0, 1) := by decide +kernel
theorem dX6_digest_217 : decode cX6_digest 217 = .ok (.istore_n 3, 1) := by decide +kernel
theorem dX6_digest_218 : decode cX6_digest 218 = .ok (.iload_n 3, 1) := by decide +kernel
theorem dX6_digest_219 : decode cX6_digest 219 = .ok (.aload_n 0, 1) := by decide +kernel
theorem dX6_digest_220 : decode cX6_digest 220 = .ok (.getfield 99, 3) := by decide +kernel
theorem dX6_digest_223 : decode cX6_digest 223 = .ok (.if_icmp .ge 39, 3) := by decide +kernel
theorem dX6_digest_226 : decode cX6_digest 226 = .ok (.iconst 0, 1) := by decide +kernel
theorem dX6_digest_227 : decode cX6_digest 227 = .ok (.istore 4, 2) := by decide +kernel
theorem dX6_digest_229 : decode cX6_digest 229 = .ok (.iload 4, 2) := by decide +kernel
theorem dX6_digest_231 : decode cX6_digest 231 = .ok (.iconst 3, 1) := by decide +kernel
theorem dX6_digest_232 : decode cX6_digest 232 = .ok (.if_icmp .gt 24, 3) := by decide +kernel
theorem dX6_digest_235 : decode cX6_digest 235 = .ok (.lload_n 1, 1) := by decide +kernel
theorem dX6_digest_236 : decode cX6_digest 236 = .ok (.ldc2_w 166, 3) := by decide +kernel
theorem dX6_digest_239 : decode cX6_digest 239 = .ok (.lmul, 1) := by decide +kernel
theorem dX6_digest_240 : decode cX6_digest 240 = .ok (.aload_n 0, 1) := by decide +kernel
theorem dX6_digest_241 : decode cX6_digest 241 = .ok (.iload_n 3, 1) := by decide +kernel
theorem dX6_digest_242 : decode cX6_digest 242 = .ok (.iload 4, 2) := by decide +kernel
theorem dX6_digest_244 : decode cX6_digest 244 = .ok (.invokevirtual 141, 3) := by decide +kernel
theorem dX6_digest_247 : decode cX6_digest 247 = .ok (.i2l, 1) := by decide +kernel
theorem dX6_digest_248 : decode cX6_digest 248 = .ok (.ladd, 1) := by decide +kernel
theorem dX6_digest_249 : decode cX6_digest 249 = .ok (.lstore_n 1, 1) := by decide +kernel
theorem dX6_digest_250 : decode cX6_digest 250 = .ok (.iinc 4 1, 3) := by decide +kernel
theorem dX6_digest_253 : decode cX6_digest 253 = .ok (.goto (-24), 3) := by decide +kernel
theorem dX6_digest_256 : decode cX6_digest 256 = .ok (.iinc 3 1, 3) := by decide +kernel
theorem dX6_digest_259 : decode cX6_digest 259 = .ok (.goto (-41), 3) := by decide +kernel
theorem dX6_digest_262 : decode cX6_digest 262 = .ok (.lload_n 1, 1) := by decide +kernel
theorem dX6_digest_263 : decode cX6_digest 263 = .ok (.lreturn, 1) := by decide +kernel
theorem dg_0 {f : Nat → Int32} {d : Int64} : dg 0 f d = d := rfl
theorem dg_s {n : Nat} {f : Nat → Int32} {d : Int64} : dg (n + 1) f d = dg n f d * 31 + (f n).toInt64 := rfl
theorem dgC_0 {v : Vw} {d : Int64} : dgC v 0 d = d := rfl
theorem dgC_s {v : Vw} {n : Nat} {d : Int64} : dgC v (n + 1) d = dg 4 (fun a => cellF v (n % 9) (n / 9) (nI a)) (dgC v n d) := rfl
theorem dgH_0 {v : Vw} {d : Int64} : dgH v 0 d = d := rfl
theorem dgH_s {v : Vw} {n : Nat} {d : Int64} : dgH v (n + 1) d = dg 5 (fun a => holeF v n (nI a)) (dgH v n d) := rfl
theorem dgS_0 {v : Vw} {d : Int64} : dgS v 0 d = d := rfl
theorem dgS_s {v : Vw} {n : Nat} {d : Int64} : dgS v (n + 1) d = dg 6 (fun a => sprF v n (nI a)) (dgS v n d) := rfl
theorem dgW_0 {v : Vw} {d : Int64} : dgW v 0 d = d := rfl
theorem dgW_s {v : Vw} {n : Nat} {d : Int64} : dgW v (n + 1) d = dg 4 (fun a => warF v n (nI a)) (dgW v n d) := rfl
theorem dig_e {v : Vw} : digV v = dgW v (nW v) (dgS v (nS v) (dgH v (nH v) (dg 7 (v 2) (dgC v 81 (dg 9 (fun a => factF v (nI a)) 1187))))) := rfl
set_option maxHeartbeats 4000000 in
set_option maxRecDepth 100000 in
theorem c_digestM (l : Launch) {g : Gm} (hI : IJ g KK) {M : Mem} {o : Nat → Int64} {v : Vw} (hv : Inv v) {t : Int32} (h5 : v 16 5 = 0) : ML l yX6_digest cX6_digest 7 (rm 5 111) g KK (ent g (setR M 2 (up2 v 16 5 t)) o) [.ref (ad g (10, 0, 0))] (digV v) (ent g (setR M 2 v) o) := by
  refine met_of (by decide +kernel) (Nat.le_of_ble_eq_true rfl) ?_
  intro p e s m below meth c ls hC hr_ hlk hnm hE hP hS hl
  obtain ⟨hx, hb, hml, hown, hG⟩ := id hC
  have hl : lv_has ls 7 [(0, .ref (ad g (10, 0, 0)))] := hl
  have qH := hv.lH
  have qS := hv.lS
  have qW := hv.lW
  obtain ⟨DD, z0, s0, r0⟩ : ∃ D : Nat → (Nat → Int32) → Int64 → Int64, (∀ f d, D 0 f d = d) ∧ (∀ n f d, D (n + 1) f d = D n f d * 31 + (f n).toInt64) ∧ D = dg := ⟨dg, fun _ _ => rfl, fun _ _ _ => rfl, rfl⟩
  obtain ⟨DC, zC, sC, rC⟩ : ∃ D : Nat → Int64 → Int64, (∀ d, D 0 d = d) ∧ (∀ n d, D (n + 1) d = DD 4 (fun a => cellF v (n % 9) (n / 9) (nI a)) (D n d)) ∧ D = dgC v := ⟨dgC v, fun _ => rfl, fun _ _ => by rw [r0]; rfl, rfl⟩
  obtain ⟨DH, zH, sH, rH⟩ : ∃ D : Nat → Int64 → Int64, (∀ d, D 0 d = d) ∧ (∀ n d, D (n + 1) d = DD 5 (fun a => holeF v n (nI a)) (D n d)) ∧ D = dgH v := ⟨dgH v, fun _ => rfl, fun _ _ => by rw [r0]; rfl, rfl⟩
  obtain ⟨DS, zS, sS, rS⟩ : ∃ D : Nat → Int64 → Int64, (∀ d, D 0 d = d) ∧ (∀ n d, D (n + 1) d = DD 6 (fun a => sprF v n (nI a)) (D n d)) ∧ D = dgS v := ⟨dgS v, fun _ => rfl, fun _ _ => by rw [r0]; rfl, rfl⟩
  obtain ⟨DW, zW, sW, rW⟩ : ∃ D : Nat → Int64 → Int64, (∀ d, D 0 d = d) ∧ (∀ n d, D (n + 1) d = DD 4 (fun a => warF v n (nI a)) (D n d)) ∧ D = dgW v := ⟨dgW v, fun _ => rfl, fun _ _ => by rw [r0]; rfl, rfl⟩
  refine lv_aload_n hx hb dX6_digest_0 rfl (lv_at hl 0 rfl) ?_
  refine lv_iconst (v := 0) hx hb dX6_digest_1 (by decide) ?_
  refine m_put hC hE hI hP hS k_10 e_10 rfl u_6 tyX6_ok nmX6 0 (by decide) w_679 rfl rfl rfl rfl (Nat.le_of_ble_eq_true rfl) p_10_0 (ent_put g M 2 (up2 v 16 5 t) o 16 5 (0 : Int32) (kf_10 (by decide))) dX6_digest_2 (fun H locs hP hS => ?_)
  replace hP := hP.castR (w := v) ((thr_back h5).symm)
  refine lv_ldc2 (v := 1187) hx hb hown (hG _ w_927) dX6_digest_5 ?_
  refine lv_lstore_n (lv' := [(1, .long ((1187 : Int64))), (0, .ref (ad g (10, 0, 0)))]) hx hb dX6_digest_8 rfl hl (by decide) rfl (fun ls hl => ?_)
  refine lv_iconst (v := 0) hx hb dX6_digest_9 (by decide) ?_
  refine lv_istore_n (lv' := [(3, .int ((0 : Int32))), (1, .long ((1187 : Int64))), (0, .ref (ad g (10, 0, 0)))]) hx hb dX6_digest_10 rfl hl (by decide) rfl (fun ls hl => ?_)
  refine lp_W (i0 := 0) 9 (fun i => ent g (setR M 2 v) o) (fun i => [(3, .int (nI i)), (1, .long (DD i (fun a => factF v (nI a)) 1187)), (0, .ref (ad g (10, 0, 0)))]) (fun i => True) (Nat.zero_le _) (hP.castR (rfl)) hS (by show lv_has ls _ [(3, .int (nI 0)), (1, .long (DD 0 (fun a => factF v (nI a)) 1187)), (0, .ref (ad g (10, 0, 0)))]; rw [show DD 0 (fun a => factF v (nI a)) 1187 = (1187 : Int64) from z0 _ _]; exact lv_sub hl [0, 1, 2] rfl) (trivial) (fun H locs ls hP hS hl J => ?_) (fun i hi IH H locs ls hP hS hl J => ?_)
  · generalize hD1 : DD 9 (fun a => factF v (nI a)) 1187 = D1 at hl
    refine lv_iload_n hx hb dX6_digest_11 rfl (lv_at hl 0 rfl) ?_
    refine lv_bipush (v := 8) hx hb dX6_digest_12 (by decide) ?_
    refine lv_icmp_gt (tgt := 39) hx hb dX6_digest_14 (by decide) (fun c1 => ?_) (fun c1 => absurd (by decide) c1)
    refine lv_iconst (v := 0) hx hb dX6_digest_39 (by decide) ?_
    refine lv_istore_n (lv' := [(3, .int ((0 : Int32))), (1, .long (D1)), (0, .ref (ad g (10, 0, 0)))]) hx hb dX6_digest_40 rfl hl (by decide) rfl (fun ls hl => ?_)
    refine lp_W (i0 := 0) 81 (fun i => ent g (setR M 2 v) o) (fun i => [(3, .int (nI i)), (1, .long (DC i D1)), (0, .ref (ad g (10, 0, 0)))]) (fun i => True) (Nat.zero_le _) (hP.castR (rfl)) hS (by show lv_has ls _ [(3, .int (nI 0)), (1, .long (DC 0 D1)), (0, .ref (ad g (10, 0, 0)))]; rw [show DC 0 D1 = D1 from zC _]; exact lv_sub hl [0, 1, 2] rfl) (trivial) (fun H locs ls hP hS hl J => ?_) (fun i hi IH H locs ls hP hS hl J => ?_)
    · generalize hD2 : DC 81 D1 = D2 at hl
      refine lv_iload_n hx hb dX6_digest_41 rfl (lv_at hl 0 rfl) ?_
      refine lv_bipush (v := 81) hx hb dX6_digest_42 (by decide) ?_
      refine lv_icmp_ge (tgt := 83) hx hb dX6_digest_44 (by decide) (fun c2 => ?_) (fun c2 => absurd (nI_le (Nat.le_refl _) (by decide)) c2)
      refine lv_aload_n hx hb dX6_digest_83 rfl (lv_at hl 2 rfl) ?_
      refine m_get hC hE hP k_10 e_10 rfl u_6 2 (by decide) w_682 rfl rfl dX6_digest_84 ?_
      refine lv_astore_n (lv' := [(3, .ref (ad g (4, 2, 2))), (1, .long (D2)), (0, .ref (ad g (10, 0, 0)))]) hx hb dX6_digest_87 rfl hl (by decide) rfl (fun ls hl => ?_)
      refine lv_aload_n hx hb dX6_digest_88 rfl (lv_at hl 0 rfl) ?_
      refine m_alen hC hE hP (k_4s (by decide)) e_4 rfl dX6_digest_89 ?_
      refine lv_istore (lv' := [(4, .int (nI 7)), (3, .ref (ad g (4, 2, 2))), (1, .long (D2)), (0, .ref (ad g (10, 0, 0)))]) hx hb dX6_digest_90 hl (by decide) rfl (fun ls hl => ?_)
      refine lv_iconst (v := 0) hx hb dX6_digest_92 (by decide) ?_
      refine lv_istore (lv' := [(5, .int ((0 : Int32))), (4, .int (nI 7)), (3, .ref (ad g (4, 2, 2))), (1, .long (D2)), (0, .ref (ad g (10, 0, 0)))]) hx hb dX6_digest_93 hl (by decide) rfl (fun ls hl => ?_)
      refine lp_W (i0 := 0) 7 (fun i => ent g (setR M 2 v) o) (fun i => [(5, .int (nI i)), (4, .int (nI 7)), (3, .ref (ad g (4, 2, 2))), (1, .long (DD i (v 2) D2)), (0, .ref (ad g (10, 0, 0)))]) (fun i => True) (Nat.zero_le _) (hP.castR (rfl)) hS (by show lv_has ls _ [(5, .int (nI 0)), (4, .int (nI 7)), (3, .ref (ad g (4, 2, 2))), (1, .long (DD 0 (v 2) D2)), (0, .ref (ad g (10, 0, 0)))]; rw [show DD 0 (v 2) D2 = D2 from z0 _ _]; exact lv_sub hl [0, 1, 2, 3, 4] rfl) (trivial) (fun H locs ls hP hS hl J => ?_) (fun i hi IH H locs ls hP hS hl J => ?_)
      · generalize hD3 : DD 7 (v 2) D2 = D3 at hl
        refine lv_iload hx hb dX6_digest_95 (lv_at hl 0 rfl) ?_
        refine lv_iload hx hb dX6_digest_97 (lv_at hl 1 rfl) ?_
        refine lv_icmp_ge (tgt := 124) hx hb dX6_digest_99 (by decide) (fun c3 => ?_) (fun c3 => absurd (nI_le (Nat.le_refl _) (by decide)) c3)
        refine lv_iconst (v := 0) hx hb dX6_digest_124 (by decide) ?_
        refine lv_istore_n (lv' := [(3, .int ((0 : Int32))), (5, .int (nI 7)), (4, .int (nI 7)), (1, .long (D3)), (0, .ref (ad g (10, 0, 0)))]) hx hb dX6_digest_125 rfl hl (by decide) rfl (fun ls hl => ?_)
        refine lp_W (i0 := 0) (nH v) (fun i => ent g (setR M 2 v) o) (fun i => [(3, .int (nI i)), (1, .long (DH i D3)), (0, .ref (ad g (10, 0, 0)))]) (fun i => True) (Nat.zero_le _) (hP.castR (rfl)) hS (by show lv_has ls _ [(3, .int (nI 0)), (1, .long (DH 0 D3)), (0, .ref (ad g (10, 0, 0)))]; rw [show DH 0 D3 = D3 from zH _]; exact lv_sub hl [0, 3, 4] rfl) (trivial) (fun H locs ls hP hS hl J => ?_) (fun i hi IH H locs ls hP hS hl J => ?_)
        · generalize hD4 : DH (nH v) D3 = D4 at hl
          refine lv_iload_n hx hb dX6_digest_126 rfl (lv_at hl 0 rfl) ?_
          refine lv_aload_n hx hb dX6_digest_127 rfl (lv_at hl 2 rfl) ?_
          refine m_get hC hE hP k_10 e_10 rfl u_6 3 (by decide) w_684 rfl rfl dX6_digest_128 ?_
          refine m_top (y := nI (nH v)) (hv.eH) ?_
          refine lv_icmp_ge (tgt := 170) hx hb dX6_digest_131 (by decide) (fun c4 => ?_) (fun c4 => absurd (nI_le (Nat.le_refl _) (by omega)) c4)
          refine lv_iconst (v := 0) hx hb dX6_digest_170 (by decide) ?_
          refine lv_istore_n (lv' := [(3, .int ((0 : Int32))), (1, .long (D4)), (0, .ref (ad g (10, 0, 0)))]) hx hb dX6_digest_171 rfl hl (by decide) rfl (fun ls hl => ?_)
          refine lp_W (i0 := 0) (nS v) (fun i => ent g (setR M 2 v) o) (fun i => [(3, .int (nI i)), (1, .long (DS i D4)), (0, .ref (ad g (10, 0, 0)))]) (fun i => True) (Nat.zero_le _) (hP.castR (rfl)) hS (by show lv_has ls _ [(3, .int (nI 0)), (1, .long (DS 0 D4)), (0, .ref (ad g (10, 0, 0)))]; rw [show DS 0 D4 = D4 from zS _]; exact lv_sub hl [0, 1, 2] rfl) (trivial) (fun H locs ls hP hS hl J => ?_) (fun i hi IH H locs ls hP hS hl J => ?_)
          · generalize hD5 : DS (nS v) D4 = D5 at hl
            refine lv_iload_n hx hb dX6_digest_172 rfl (lv_at hl 0 rfl) ?_
            refine lv_aload_n hx hb dX6_digest_173 rfl (lv_at hl 2 rfl) ?_
            refine m_get hC hE hP k_10 e_10 rfl u_6 6 (by decide) w_691 rfl rfl dX6_digest_174 ?_
            refine m_top (y := nI (nS v)) (hv.eS) ?_
            refine lv_icmp_ge (tgt := 216) hx hb dX6_digest_177 (by decide) (fun c5 => ?_) (fun c5 => absurd (nI_le (Nat.le_refl _) (by omega)) c5)
            refine lv_iconst (v := 0) hx hb dX6_digest_216 (by decide) ?_
            refine lv_istore_n (lv' := [(3, .int ((0 : Int32))), (1, .long (D5)), (0, .ref (ad g (10, 0, 0)))]) hx hb dX6_digest_217 rfl hl (by decide) rfl (fun ls hl => ?_)
            refine lp_W (i0 := 0) (nW v) (fun i => ent g (setR M 2 v) o) (fun i => [(3, .int (nI i)), (1, .long (DW i D5)), (0, .ref (ad g (10, 0, 0)))]) (fun i => True) (Nat.zero_le _) (hP.castR (rfl)) hS (by show lv_has ls _ [(3, .int (nI 0)), (1, .long (DW 0 D5)), (0, .ref (ad g (10, 0, 0)))]; rw [show DW 0 D5 = D5 from zW _]; exact lv_sub hl [0, 1, 2] rfl) (trivial) (fun H locs ls hP hS hl J => ?_) (fun i hi IH H locs ls hP hS hl J => ?_)
            · refine lv_iload_n hx hb dX6_digest_218 rfl (lv_at hl 0 rfl) ?_
              refine lv_aload_n hx hb dX6_digest_219 rfl (lv_at hl 2 rfl) ?_
              refine m_get hC hE hP k_10 e_10 rfl u_6 9 (by decide) w_697 rfl rfl dX6_digest_220 ?_
              refine m_top (y := nI (nW v)) (hv.eW) ?_
              refine lv_icmp_ge (tgt := 262) hx hb dX6_digest_223 (by decide) (fun c6 => ?_) (fun c6 => absurd (nI_le (Nat.le_refl _) (by omega)) c6)
              refine lv_lload_n hx hb dX6_digest_262 rfl (lv_at hl 1 rfl) ?_
              exact m_lret hC hr_ hlk hS (hP.castR (rfl)) (by rw [← hD5, ← hD4, ← hD3, ← hD2, ← hD1, rW, rS, rH, rC, r0, dig_e]) dX6_digest_263
            · refine lv_iload_n hx hb dX6_digest_218 rfl (lv_at hl 0 rfl) ?_
              refine lv_aload_n hx hb dX6_digest_219 rfl (lv_at hl 2 rfl) ?_
              refine m_get hC hE hP k_10 e_10 rfl u_6 9 (by decide) w_697 rfl rfl dX6_digest_220 ?_
              refine m_top (y := nI (nW v)) (hv.eW) ?_
              refine lv_icmp_ge (tgt := 262) hx hb dX6_digest_223 (by decide) (fun c7 => absurd c7 (nI_ge (b := nW v) hi (by omega))) (fun c7 => ?_)
              refine lv_iconst (v := 0) hx hb dX6_digest_226 (by decide) ?_
              refine lv_istore (lv' := [(4, .int ((0 : Int32))), (3, .int (nI i)), (1, .long (DW i D5)), (0, .ref (ad g (10, 0, 0)))]) hx hb dX6_digest_227 hl (by decide) rfl (fun ls hl => ?_)
              refine lp_W (i0 := 0) 4 (fun j => ent g (setR M 2 v) o) (fun j => [(4, .int (nI j)), (3, .int (nI i)), (1, .long (DD j (fun a => warF v i (nI a)) (DW i D5))), (0, .ref (ad g (10, 0, 0)))]) (fun j => True) (Nat.zero_le _) (hP.castR (rfl)) hS (by show lv_has ls _ [(4, .int (nI 0)), (3, .int (nI i)), (1, .long (DD 0 (fun a => warF v i (nI a)) (DW i D5))), (0, .ref (ad g (10, 0, 0)))]; rw [show DD 0 (fun a => warF v i (nI a)) (DW i D5) = DW i D5 from z0 _ _]; exact lv_sub hl [0, 1, 2, 3] rfl) (trivial) (fun H locs ls hP hS hl J => ?_) (fun j hj IHj H locs ls hP hS hl J => ?_)
              · refine lv_iload hx hb dX6_digest_229 (lv_at hl 0 rfl) ?_
                refine lv_iconst (v := 3) hx hb dX6_digest_231 (by decide) ?_
                refine lv_icmp_gt (tgt := 256) hx hb dX6_digest_232 (by decide) (fun c8 => ?_) (fun c8 => absurd (by decide) c8)
                refine lv_iinc (v := nI (i + 1)) (lv' := [(3, .int (nI (i + 1))), (4, .int (nI 4)), (1, .long (DD 4 (fun a => warF v i (nI a)) (DW i D5))), (0, .ref (ad g (10, 0, 0)))]) hx hb dX6_digest_256 hl (k := 1) rfl (nI_1 _) (by decide) rfl (fun ls hl => ?_)
                refine lv_goto (tgt := 218) hx hb dX6_digest_259 (by decide) ?_
                exact IH H locs ls (hP.castR (rfl)) hS (by show lv_has ls _ [(3, .int (nI (i + 1))), (1, .long (DW (i + 1) D5)), (0, .ref (ad g (10, 0, 0)))]; rw [show DW (i + 1) D5 = DD 4 (fun a => warF v i (nI a)) (DW i D5) from sW _ _]; exact lv_sub hl [0, 2, 3] rfl) (trivial)
              · refine lv_iload hx hb dX6_digest_229 (lv_at hl 0 rfl) ?_
                refine lv_iconst (v := 3) hx hb dX6_digest_231 (by decide) ?_
                refine lv_icmp_gt (tgt := 256) hx hb dX6_digest_232 (by decide) (fun c9 => absurd c9 (nI_gtF (n := 3) hj (by decide))) (fun c9 => ?_)
                refine lv_lload_n hx hb dX6_digest_235 rfl (lv_at hl 2 rfl) ?_
                refine lv_ldc2 (v := 31) hx hb hown (hG _ w_928) dX6_digest_236 ?_
                refine lv_lmul hx hb dX6_digest_239 ?_
                refine lv_aload_n hx hb dX6_digest_240 rfl (lv_at hl 3 rfl) ?_
                refine lv_iload_n hx hb dX6_digest_241 rfl (lv_at hl 1 rfl) ?_
                refine lv_iload hx hb dX6_digest_242 (lv_at hl 0 rfl) ?_
                refine on_i (run_V hC hE hP hS (As := [.int (nI i), .int (nI j)]) (c_wardenTold l hI hv i (by omega) (nI j)) cal_X6_wardenTold w_834 ⟨Nat.le_of_ble_eq_true rfl, Nat.le_of_ble_eq_true rfl⟩ k_10 e_10 rfl rfl rfl (Nat.le_of_ble_eq_true rfl) hl.1 ⟨Nat.le_of_ble_eq_true rfl, Nat.le_of_ble_eq_true rfl⟩ dX6_digest_244) hS (fun H locs hP hS => ?_)
                refine lv_i2l hx hb dX6_digest_247 rfl ?_
                refine lv_ladd hx hb dX6_digest_248 ?_
                refine lv_lstore_n (lv' := [(1, .long (((DD j (fun a => warF v i (nI a)) (DW i D5)) * (31 : Int64)) + ((warF v i (nI j)).toInt64))), (4, .int (nI j)), (3, .int (nI i)), (0, .ref (ad g (10, 0, 0)))]) hx hb dX6_digest_249 rfl hl (by decide) rfl (fun ls hl => ?_)
                refine lv_iinc (v := nI (j + 1)) (lv' := [(4, .int (nI (j + 1))), (1, .long (((DD j (fun a => warF v i (nI a)) (DW i D5)) * (31 : Int64)) + ((warF v i (nI j)).toInt64))), (3, .int (nI i)), (0, .ref (ad g (10, 0, 0)))]) hx hb dX6_digest_250 hl (k := 1) rfl (nI_1 _) (by decide) rfl (fun ls hl => ?_)
                refine lv_goto (tgt := 229) hx hb dX6_digest_253 (by decide) ?_
                exact IHj H locs ls (hP.castR (rfl)) hS (by show lv_has ls _ [(4, .int (nI (j + 1))), (3, .int (nI i)), (1, .long (DD (j + 1) (fun a => warF v i (nI a)) (DW i D5))), (0, .ref (ad g (10, 0, 0)))]; rw [show DD (j + 1) (fun a => warF v i (nI a)) (DW i D5) = ((DD j (fun a => warF v i (nI a)) (DW i D5)) * (31 : Int64)) + ((warF v i (nI j)).toInt64) from s0 _ _ _]; exact lv_sub hl [0, 2, 1, 3] rfl) (trivial)
          · refine lv_iload_n hx hb dX6_digest_172 rfl (lv_at hl 0 rfl) ?_
            refine lv_aload_n hx hb dX6_digest_173 rfl (lv_at hl 2 rfl) ?_
            refine m_get hC hE hP k_10 e_10 rfl u_6 6 (by decide) w_691 rfl rfl dX6_digest_174 ?_
            refine m_top (y := nI (nS v)) (hv.eS) ?_
            refine lv_icmp_ge (tgt := 216) hx hb dX6_digest_177 (by decide) (fun c10 => absurd c10 (nI_ge (b := nS v) hi (by omega))) (fun c10 => ?_)
            refine lv_iconst (v := 0) hx hb dX6_digest_180 (by decide) ?_
            refine lv_istore (lv' := [(4, .int ((0 : Int32))), (3, .int (nI i)), (1, .long (DS i D4)), (0, .ref (ad g (10, 0, 0)))]) hx hb dX6_digest_181 hl (by decide) rfl (fun ls hl => ?_)
            refine lp_W (i0 := 0) 6 (fun j => ent g (setR M 2 v) o) (fun j => [(4, .int (nI j)), (3, .int (nI i)), (1, .long (DD j (fun a => sprF v i (nI a)) (DS i D4))), (0, .ref (ad g (10, 0, 0)))]) (fun j => True) (Nat.zero_le _) (hP.castR (rfl)) hS (by show lv_has ls _ [(4, .int (nI 0)), (3, .int (nI i)), (1, .long (DD 0 (fun a => sprF v i (nI a)) (DS i D4))), (0, .ref (ad g (10, 0, 0)))]; rw [show DD 0 (fun a => sprF v i (nI a)) (DS i D4) = DS i D4 from z0 _ _]; exact lv_sub hl [0, 1, 2, 3] rfl) (trivial) (fun H locs ls hP hS hl J => ?_) (fun j hj IHj H locs ls hP hS hl J => ?_)
            · refine lv_iload hx hb dX6_digest_183 (lv_at hl 0 rfl) ?_
              refine lv_iconst (v := 5) hx hb dX6_digest_185 (by decide) ?_
              refine lv_icmp_gt (tgt := 210) hx hb dX6_digest_186 (by decide) (fun c11 => ?_) (fun c11 => absurd (by decide) c11)
              refine lv_iinc (v := nI (i + 1)) (lv' := [(3, .int (nI (i + 1))), (4, .int (nI 6)), (1, .long (DD 6 (fun a => sprF v i (nI a)) (DS i D4))), (0, .ref (ad g (10, 0, 0)))]) hx hb dX6_digest_210 hl (k := 1) rfl (nI_1 _) (by decide) rfl (fun ls hl => ?_)
              refine lv_goto (tgt := 172) hx hb dX6_digest_213 (by decide) ?_
              exact IH H locs ls (hP.castR (rfl)) hS (by show lv_has ls _ [(3, .int (nI (i + 1))), (1, .long (DS (i + 1) D4)), (0, .ref (ad g (10, 0, 0)))]; rw [show DS (i + 1) D4 = DD 6 (fun a => sprF v i (nI a)) (DS i D4) from sS _ _]; exact lv_sub hl [0, 2, 3] rfl) (trivial)
            · refine lv_iload hx hb dX6_digest_183 (lv_at hl 0 rfl) ?_
              refine lv_iconst (v := 5) hx hb dX6_digest_185 (by decide) ?_
              refine lv_icmp_gt (tgt := 210) hx hb dX6_digest_186 (by decide) (fun c12 => absurd c12 (nI_gtF (n := 5) hj (by decide))) (fun c12 => ?_)
              refine lv_lload_n hx hb dX6_digest_189 rfl (lv_at hl 2 rfl) ?_
              refine lv_ldc2 (v := 31) hx hb hown (hG _ w_928) dX6_digest_190 ?_
              refine lv_lmul hx hb dX6_digest_193 ?_
              refine lv_aload_n hx hb dX6_digest_194 rfl (lv_at hl 3 rfl) ?_
              refine lv_iload_n hx hb dX6_digest_195 rfl (lv_at hl 1 rfl) ?_
              refine lv_iload hx hb dX6_digest_196 (lv_at hl 0 rfl) ?_
              refine on_i (run_V hC hE hP hS (As := [.int (nI i), .int (nI j)]) (c_spearerTold l hI hv i (by omega) (nI j)) cal_X6_spearerTold w_826 ⟨Nat.le_of_ble_eq_true rfl, Nat.le_of_ble_eq_true rfl⟩ k_10 e_10 rfl rfl rfl (Nat.le_of_ble_eq_true rfl) hl.1 ⟨Nat.le_of_ble_eq_true rfl, Nat.le_of_ble_eq_true rfl⟩ dX6_digest_198) hS (fun H locs hP hS => ?_)
              refine lv_i2l hx hb dX6_digest_201 rfl ?_
              refine lv_ladd hx hb dX6_digest_202 ?_
              refine lv_lstore_n (lv' := [(1, .long (((DD j (fun a => sprF v i (nI a)) (DS i D4)) * (31 : Int64)) + ((sprF v i (nI j)).toInt64))), (4, .int (nI j)), (3, .int (nI i)), (0, .ref (ad g (10, 0, 0)))]) hx hb dX6_digest_203 rfl hl (by decide) rfl (fun ls hl => ?_)
              refine lv_iinc (v := nI (j + 1)) (lv' := [(4, .int (nI (j + 1))), (1, .long (((DD j (fun a => sprF v i (nI a)) (DS i D4)) * (31 : Int64)) + ((sprF v i (nI j)).toInt64))), (3, .int (nI i)), (0, .ref (ad g (10, 0, 0)))]) hx hb dX6_digest_204 hl (k := 1) rfl (nI_1 _) (by decide) rfl (fun ls hl => ?_)
              refine lv_goto (tgt := 183) hx hb dX6_digest_207 (by decide) ?_
              exact IHj H locs ls (hP.castR (rfl)) hS (by show lv_has ls _ [(4, .int (nI (j + 1))), (3, .int (nI i)), (1, .long (DD (j + 1) (fun a => sprF v i (nI a)) (DS i D4))), (0, .ref (ad g (10, 0, 0)))]; rw [show DD (j + 1) (fun a => sprF v i (nI a)) (DS i D4) = ((DD j (fun a => sprF v i (nI a)) (DS i D4)) * (31 : Int64)) + ((sprF v i (nI j)).toInt64) from s0 _ _ _]; exact lv_sub hl [0, 2, 1, 3] rfl) (trivial)
        · refine lv_iload_n hx hb dX6_digest_126 rfl (lv_at hl 0 rfl) ?_
          refine lv_aload_n hx hb dX6_digest_127 rfl (lv_at hl 2 rfl) ?_
          refine m_get hC hE hP k_10 e_10 rfl u_6 3 (by decide) w_684 rfl rfl dX6_digest_128 ?_
          refine m_top (y := nI (nH v)) (hv.eH) ?_
          refine lv_icmp_ge (tgt := 170) hx hb dX6_digest_131 (by decide) (fun c13 => absurd c13 (nI_ge (b := nH v) hi (by omega))) (fun c13 => ?_)
          refine lv_iconst (v := 0) hx hb dX6_digest_134 (by decide) ?_
          refine lv_istore (lv' := [(4, .int ((0 : Int32))), (3, .int (nI i)), (1, .long (DH i D3)), (0, .ref (ad g (10, 0, 0)))]) hx hb dX6_digest_135 hl (by decide) rfl (fun ls hl => ?_)
          refine lp_W (i0 := 0) 5 (fun j => ent g (setR M 2 v) o) (fun j => [(4, .int (nI j)), (3, .int (nI i)), (1, .long (DD j (fun a => holeF v i (nI a)) (DH i D3))), (0, .ref (ad g (10, 0, 0)))]) (fun j => True) (Nat.zero_le _) (hP.castR (rfl)) hS (by show lv_has ls _ [(4, .int (nI 0)), (3, .int (nI i)), (1, .long (DD 0 (fun a => holeF v i (nI a)) (DH i D3))), (0, .ref (ad g (10, 0, 0)))]; rw [show DD 0 (fun a => holeF v i (nI a)) (DH i D3) = DH i D3 from z0 _ _]; exact lv_sub hl [0, 1, 2, 3] rfl) (trivial) (fun H locs ls hP hS hl J => ?_) (fun j hj IHj H locs ls hP hS hl J => ?_)
          · refine lv_iload hx hb dX6_digest_137 (lv_at hl 0 rfl) ?_
            refine lv_iconst (v := 4) hx hb dX6_digest_139 (by decide) ?_
            refine lv_icmp_gt (tgt := 164) hx hb dX6_digest_140 (by decide) (fun c14 => ?_) (fun c14 => absurd (by decide) c14)
            refine lv_iinc (v := nI (i + 1)) (lv' := [(3, .int (nI (i + 1))), (4, .int (nI 5)), (1, .long (DD 5 (fun a => holeF v i (nI a)) (DH i D3))), (0, .ref (ad g (10, 0, 0)))]) hx hb dX6_digest_164 hl (k := 1) rfl (nI_1 _) (by decide) rfl (fun ls hl => ?_)
            refine lv_goto (tgt := 126) hx hb dX6_digest_167 (by decide) ?_
            exact IH H locs ls (hP.castR (rfl)) hS (by show lv_has ls _ [(3, .int (nI (i + 1))), (1, .long (DH (i + 1) D3)), (0, .ref (ad g (10, 0, 0)))]; rw [show DH (i + 1) D3 = DD 5 (fun a => holeF v i (nI a)) (DH i D3) from sH _ _]; exact lv_sub hl [0, 2, 3] rfl) (trivial)
          · refine lv_iload hx hb dX6_digest_137 (lv_at hl 0 rfl) ?_
            refine lv_iconst (v := 4) hx hb dX6_digest_139 (by decide) ?_
            refine lv_icmp_gt (tgt := 164) hx hb dX6_digest_140 (by decide) (fun c15 => absurd c15 (nI_gtF (n := 4) hj (by decide))) (fun c15 => ?_)
            refine lv_lload_n hx hb dX6_digest_143 rfl (lv_at hl 2 rfl) ?_
            refine lv_ldc2 (v := 31) hx hb hown (hG _ w_928) dX6_digest_144 ?_
            refine lv_lmul hx hb dX6_digest_147 ?_
            refine lv_aload_n hx hb dX6_digest_148 rfl (lv_at hl 3 rfl) ?_
            refine lv_iload_n hx hb dX6_digest_149 rfl (lv_at hl 1 rfl) ?_
            refine lv_iload hx hb dX6_digest_150 (lv_at hl 0 rfl) ?_
            refine on_i (run_V hC hE hP hS (As := [.int (nI i), .int (nI j)]) (c_holeTold l hI hv i (by omega) (nI j)) cal_X6_holeTold w_801 ⟨Nat.le_of_ble_eq_true rfl, Nat.le_of_ble_eq_true rfl⟩ k_10 e_10 rfl rfl rfl (Nat.le_of_ble_eq_true rfl) hl.1 ⟨Nat.le_of_ble_eq_true rfl, Nat.le_of_ble_eq_true rfl⟩ dX6_digest_152) hS (fun H locs hP hS => ?_)
            refine lv_i2l hx hb dX6_digest_155 rfl ?_
            refine lv_ladd hx hb dX6_digest_156 ?_
            refine lv_lstore_n (lv' := [(1, .long (((DD j (fun a => holeF v i (nI a)) (DH i D3)) * (31 : Int64)) + ((holeF v i (nI j)).toInt64))), (4, .int (nI j)), (3, .int (nI i)), (0, .ref (ad g (10, 0, 0)))]) hx hb dX6_digest_157 rfl hl (by decide) rfl (fun ls hl => ?_)
            refine lv_iinc (v := nI (j + 1)) (lv' := [(4, .int (nI (j + 1))), (1, .long (((DD j (fun a => holeF v i (nI a)) (DH i D3)) * (31 : Int64)) + ((holeF v i (nI j)).toInt64))), (3, .int (nI i)), (0, .ref (ad g (10, 0, 0)))]) hx hb dX6_digest_158 hl (k := 1) rfl (nI_1 _) (by decide) rfl (fun ls hl => ?_)
            refine lv_goto (tgt := 137) hx hb dX6_digest_161 (by decide) ?_
            exact IHj H locs ls (hP.castR (rfl)) hS (by show lv_has ls _ [(4, .int (nI (j + 1))), (3, .int (nI i)), (1, .long (DD (j + 1) (fun a => holeF v i (nI a)) (DH i D3))), (0, .ref (ad g (10, 0, 0)))]; rw [show DD (j + 1) (fun a => holeF v i (nI a)) (DH i D3) = ((DD j (fun a => holeF v i (nI a)) (DH i D3)) * (31 : Int64)) + ((holeF v i (nI j)).toInt64) from s0 _ _ _]; exact lv_sub hl [0, 2, 1, 3] rfl) (trivial)
      · refine lv_iload hx hb dX6_digest_95 (lv_at hl 0 rfl) ?_
        refine lv_iload hx hb dX6_digest_97 (lv_at hl 1 rfl) ?_
        refine lv_icmp_ge (tgt := 124) hx hb dX6_digest_99 (by decide) (fun c16 => absurd c16 (nI_ge (b := 7) hi (by decide))) (fun c16 => ?_)
        refine lv_aload_n hx hb dX6_digest_102 rfl (lv_at hl 2 rfl) ?_
        refine lv_iload hx hb dX6_digest_103 (lv_at hl 0 rfl) ?_
        refine m_iald hC hE hP (k_4s (by decide)) e_4 i (rfl) (show i < 7 from by omega) (by decide) dX6_digest_105 ?_
        refine lv_istore (lv' := [(6, .int (v 2 i)), (5, .int (nI i)), (4, .int (nI 7)), (3, .ref (ad g (4, 2, 2))), (1, .long (DD i (v 2) D2)), (0, .ref (ad g (10, 0, 0)))]) hx hb dX6_digest_106 hl (by decide) rfl (fun ls hl => ?_)
        refine lv_lload_n hx hb dX6_digest_108 rfl (lv_at hl 4 rfl) ?_
        refine lv_ldc2 (v := 31) hx hb hown (hG _ w_928) dX6_digest_109 ?_
        refine lv_lmul hx hb dX6_digest_112 ?_
        refine lv_iload hx hb dX6_digest_113 (lv_at hl 0 rfl) ?_
        refine lv_i2l hx hb dX6_digest_115 rfl ?_
        refine lv_ladd hx hb dX6_digest_116 ?_
        refine lv_lstore_n (lv' := [(1, .long (((DD i (v 2) D2) * (31 : Int64)) + ((v 2 i).toInt64))), (6, .int (v 2 i)), (5, .int (nI i)), (4, .int (nI 7)), (3, .ref (ad g (4, 2, 2))), (0, .ref (ad g (10, 0, 0)))]) hx hb dX6_digest_117 rfl hl (by decide) rfl (fun ls hl => ?_)
        refine lv_iinc (v := nI (i + 1)) (lv' := [(5, .int (nI (i + 1))), (1, .long (((DD i (v 2) D2) * (31 : Int64)) + ((v 2 i).toInt64))), (6, .int (v 2 i)), (4, .int (nI 7)), (3, .ref (ad g (4, 2, 2))), (0, .ref (ad g (10, 0, 0)))]) hx hb dX6_digest_118 hl (k := 2) rfl (nI_1 _) (by decide) rfl (fun ls hl => ?_)
        refine lv_goto (tgt := 95) hx hb dX6_digest_121 (by decide) ?_
        exact IH H locs ls (hP.castR (rfl)) hS (by show lv_has ls _ [(5, .int (nI (i + 1))), (4, .int (nI 7)), (3, .ref (ad g (4, 2, 2))), (1, .long (DD (i + 1) (v 2) D2)), (0, .ref (ad g (10, 0, 0)))]; rw [show DD (i + 1) (v 2) D2 = ((DD i (v 2) D2) * (31 : Int64)) + ((v 2 i).toInt64) from s0 _ _ _]; exact lv_sub hl [0, 3, 4, 1, 5] rfl) (trivial)
    · refine lv_iload_n hx hb dX6_digest_41 rfl (lv_at hl 0 rfl) ?_
      refine lv_bipush (v := 81) hx hb dX6_digest_42 (by decide) ?_
      refine lv_icmp_ge (tgt := 83) hx hb dX6_digest_44 (by decide) (fun c17 => absurd c17 (nI_ge (b := 81) hi (by decide))) (fun c17 => ?_)
      refine lv_iconst (v := 0) hx hb dX6_digest_47 (by decide) ?_
      refine lv_istore (lv' := [(4, .int ((0 : Int32))), (3, .int (nI i)), (1, .long (DC i D1)), (0, .ref (ad g (10, 0, 0)))]) hx hb dX6_digest_48 hl (by decide) rfl (fun ls hl => ?_)
      refine lp_W (i0 := 0) 4 (fun j => ent g (setR M 2 v) o) (fun j => [(4, .int (nI j)), (3, .int (nI i)), (1, .long (DD j (fun a => cellF v (i % 9) (i / 9) (nI a)) (DC i D1))), (0, .ref (ad g (10, 0, 0)))]) (fun j => True) (Nat.zero_le _) (hP.castR (rfl)) hS (by show lv_has ls _ [(4, .int (nI 0)), (3, .int (nI i)), (1, .long (DD 0 (fun a => cellF v (i % 9) (i / 9) (nI a)) (DC i D1))), (0, .ref (ad g (10, 0, 0)))]; rw [show DD 0 (fun a => cellF v (i % 9) (i / 9) (nI a)) (DC i D1) = DC i D1 from z0 _ _]; exact lv_sub hl [0, 1, 2, 3] rfl) (trivial) (fun H locs ls hP hS hl J => ?_) (fun j hj IHj H locs ls hP hS hl J => ?_)
      · refine lv_iload hx hb dX6_digest_50 (lv_at hl 0 rfl) ?_
        refine lv_iconst (v := 3) hx hb dX6_digest_52 (by decide) ?_
        refine lv_icmp_gt (tgt := 77) hx hb dX6_digest_53 (by decide) (fun c18 => ?_) (fun c18 => absurd (by decide) c18)
        refine lv_iinc (v := nI (i + 1)) (lv' := [(3, .int (nI (i + 1))), (4, .int (nI 4)), (1, .long (DD 4 (fun a => cellF v (i % 9) (i / 9) (nI a)) (DC i D1))), (0, .ref (ad g (10, 0, 0)))]) hx hb dX6_digest_77 hl (k := 1) rfl (nI_1 _) (by decide) rfl (fun ls hl => ?_)
        refine lv_goto (tgt := 41) hx hb dX6_digest_80 (by decide) ?_
        exact IH H locs ls (hP.castR (rfl)) hS (by show lv_has ls _ [(3, .int (nI (i + 1))), (1, .long (DC (i + 1) D1)), (0, .ref (ad g (10, 0, 0)))]; rw [show DC (i + 1) D1 = DD 4 (fun a => cellF v (i % 9) (i / 9) (nI a)) (DC i D1) from sC _ _]; exact lv_sub hl [0, 2, 3] rfl) (trivial)
      · refine lv_iload hx hb dX6_digest_50 (lv_at hl 0 rfl) ?_
        refine lv_iconst (v := 3) hx hb dX6_digest_52 (by decide) ?_
        refine lv_icmp_gt (tgt := 77) hx hb dX6_digest_53 (by decide) (fun c19 => absurd c19 (nI_gtF (n := 3) hj (by decide))) (fun c19 => ?_)
        refine lv_lload_n hx hb dX6_digest_56 rfl (lv_at hl 2 rfl) ?_
        refine lv_ldc2 (v := 31) hx hb hown (hG _ w_928) dX6_digest_57 ?_
        refine lv_lmul hx hb dX6_digest_60 ?_
        refine lv_aload_n hx hb dX6_digest_61 rfl (lv_at hl 3 rfl) ?_
        refine lv_iload_n hx hb dX6_digest_62 rfl (lv_at hl 1 rfl) ?_
        refine m_top (y := nI (9 * (i / 9) + i % 9)) (congrArg nI (by omega)) ?_
        refine lv_iload hx hb dX6_digest_63 (lv_at hl 0 rfl) ?_
        refine on_i (run_V hC hE hP hS (As := [.int (nI (9 * (i / 9) + i % 9)), .int (nI j)]) (c_cellTold l hI hv (i % 9) (i / 9) (by omega) (by omega) (nI j)) cal_X6_cellTold w_787 ⟨Nat.le_of_ble_eq_true rfl, Nat.le_of_ble_eq_true rfl⟩ k_10 e_10 rfl rfl rfl (Nat.le_of_ble_eq_true rfl) hl.1 ⟨Nat.le_of_ble_eq_true rfl, Nat.le_of_ble_eq_true rfl⟩ dX6_digest_65) hS (fun H locs hP hS => ?_)
        refine lv_i2l hx hb dX6_digest_68 rfl ?_
        refine lv_ladd hx hb dX6_digest_69 ?_
        refine lv_lstore_n (lv' := [(1, .long (((DD j (fun a => cellF v (i % 9) (i / 9) (nI a)) (DC i D1)) * (31 : Int64)) + ((cellF v (i % 9) (i / 9) (nI j)).toInt64))), (4, .int (nI j)), (3, .int (nI i)), (0, .ref (ad g (10, 0, 0)))]) hx hb dX6_digest_70 rfl hl (by decide) rfl (fun ls hl => ?_)
        refine lv_iinc (v := nI (j + 1)) (lv' := [(4, .int (nI (j + 1))), (1, .long (((DD j (fun a => cellF v (i % 9) (i / 9) (nI a)) (DC i D1)) * (31 : Int64)) + ((cellF v (i % 9) (i / 9) (nI j)).toInt64))), (3, .int (nI i)), (0, .ref (ad g (10, 0, 0)))]) hx hb dX6_digest_71 hl (k := 1) rfl (nI_1 _) (by decide) rfl (fun ls hl => ?_)
        refine lv_goto (tgt := 50) hx hb dX6_digest_74 (by decide) ?_
        exact IHj H locs ls (hP.castR (rfl)) hS (by show lv_has ls _ [(4, .int (nI (j + 1))), (3, .int (nI i)), (1, .long (DD (j + 1) (fun a => cellF v (i % 9) (i / 9) (nI a)) (DC i D1))), (0, .ref (ad g (10, 0, 0)))]; rw [show DD (j + 1) (fun a => cellF v (i % 9) (i / 9) (nI a)) (DC i D1) = ((DD j (fun a => cellF v (i % 9) (i / 9) (nI a)) (DC i D1)) * (31 : Int64)) + ((cellF v (i % 9) (i / 9) (nI j)).toInt64) from s0 _ _ _]; exact lv_sub hl [0, 2, 1, 3] rfl) (trivial)
  · refine lv_iload_n hx hb dX6_digest_11 rfl (lv_at hl 0 rfl) ?_
    refine lv_bipush (v := 8) hx hb dX6_digest_12 (by decide) ?_
    refine lv_icmp_gt (tgt := 39) hx hb dX6_digest_14 (by decide) (fun c20 => absurd c20 (nI_gtF (n := 8) hi (by decide))) (fun c20 => ?_)
    refine lv_lload_n hx hb dX6_digest_17 rfl (lv_at hl 1 rfl) ?_
    refine lv_ldc2 (v := 31) hx hb hown (hG _ w_928) dX6_digest_18 ?_
    refine lv_lmul hx hb dX6_digest_21 ?_
    refine lv_aload_n hx hb dX6_digest_22 rfl (lv_at hl 2 rfl) ?_
    refine m_get hC hE hP k_10 e_10 rfl u_6 11 (by decide) w_700 rfl rfl dX6_digest_23 ?_
    refine lv_iload_n hx hb dX6_digest_26 rfl (lv_at hl 0 rfl) ?_
    refine on_i (run_V hC hE hP hS (As := [.int (nI i)]) (c_countM l hI (Or.inl rfl) (sh_2) hv (nI i)) cal_X5_count w_842 ⟨Nat.le_of_ble_eq_true rfl, Nat.le_of_ble_eq_true rfl⟩ (k_9 (Or.inl rfl)) e_9 rfl rfl rfl (Nat.le_of_ble_eq_true rfl) hl.1 ⟨Nat.le_of_ble_eq_true rfl, Nat.le_of_ble_eq_true rfl⟩ dX6_digest_27) hS (fun H locs hP hS => ?_)
    refine lv_i2l hx hb dX6_digest_30 rfl ?_
    refine lv_ladd hx hb dX6_digest_31 ?_
    refine lv_lstore_n (lv' := [(1, .long (((DD i (fun a => factF v (nI a)) 1187) * (31 : Int64)) + ((factF v (nI i)).toInt64))), (3, .int (nI i)), (0, .ref (ad g (10, 0, 0)))]) hx hb dX6_digest_32 rfl hl (by decide) rfl (fun ls hl => ?_)
    refine lv_iinc (v := nI (i + 1)) (lv' := [(3, .int (nI (i + 1))), (1, .long (((DD i (fun a => factF v (nI a)) 1187) * (31 : Int64)) + ((factF v (nI i)).toInt64))), (0, .ref (ad g (10, 0, 0)))]) hx hb dX6_digest_33 hl (k := 1) rfl (nI_1 _) (by decide) rfl (fun ls hl => ?_)
    refine lv_goto (tgt := 11) hx hb dX6_digest_36 (by decide) ?_
    exact IH H locs ls (hP.castR (rfl)) hS (by show lv_has ls _ [(3, .int (nI (i + 1))), (1, .long (DD (i + 1) (fun a => factF v (nI a)) 1187)), (0, .ref (ad g (10, 0, 0)))]; rw [show DD (i + 1) (fun a => factF v (nI a)) 1187 = ((DD i (fun a => factF v (nI a)) 1187) * (31 : Int64)) + ((factF v (nI i)).toInt64) from s0 _ _ _]; exact lv_sub hl [0, 1, 2] rfl) (trivial)
