/-! The law's cases. -/
/-- what holds all through the law -/
def LF (p : Program) (s : State) (m : MethodId) (meth : Method) (c : Code) (b L : Nat) (xs : Nat → Int32) (g : Gm) : Prop := CallFix p m c code 9 s #[Value.ref b] LG RL ∧ Ev g s ∧ NC s ∧ IJ g KK ∧ va_X b L xs s s.heap ∧ b < s.heap.size ∧ ¬ AA g b
theorem lg_self (x : Int64) : lg_cmp x x = 0 := (lg_cmp_eq x x).mpr rfl
section LAW
variable {p : Program} {l : Launch} {e : Jvm.Env} {s : State} {m : MethodId} {below : List Frame} {meth : Method} {c : Code} {H : Heap} {locs : List Loc} {cells slots : Nat} {Q : State → Prop}
variable {b L pc : Nat} {xs : Nat → Int32} {g : Gm} {ls : Array Slot} {rest : List Value} {i : Nat} {M : Mem} {o : Nat → Int64} {n : Nat}
theorem w_arg (F : LF p s m meth c b L xs g) (hS : va_S (AA g) s.heap H locs) {j : Nat} {k : Int} (hj : Int32.ofInt k = nI j) (hij : i + j < L) (hL : L ≤ 2560) (h0 : ls[0]? = some (.val (.ref b))) (h4 : ls[4]? = some (.val (.int (nI i)))) (d0 : decode code pc = .ok (.aload_n 0, 1)) (d1 : decode code (pc + 1) = .ok (.iload 4, 2)) (d2 : decode code (pc + 3) = .ok (.iconst k, 1)) (d3 : decode code (pc + 4) = .ok (.iadd, 1)) (d4 : decode code (pc + 5) = .ok (.iaload, 1))
    (kk : W p l e room_1 s m #[Value.ref b] below meth c H locs cells slots Q (F0 m (pc + 6) ls (.int (xs (i + j)) :: rest))) : W p l e room_1 s m #[Value.ref b] below meth c H locs cells slots Q (F0 m pc ls rest) := by
  obtain ⟨⟨hx, hb, hml, hown, hG⟩, hE, hN, hI, hX, hbl, hbA⟩ := F
  refine lv_aload_n hx hb d0 rfl h0 ?_
  refine lv_iload hx hb d1 h4 ?_
  refine lv_iconst hx hb d2 hj ?_
  refine lv_iadd hx hb d3 ?_
  rw [nI_add]
  refine va_sld hx hb hX hbl hbA hS (vp_in_nI hij (by omega)) d4 ?_
  rw [nI_clamp (by omega)]
  exact kk
theorem m_lald (hC : CallFix p m c code 9 s #[Value.ref b] LG RL) (hE : Ev g s) (hP : WPe g KK (ent g M o) H) (hdg : decode code pc = .ok (.laload, 1))
    (kk : W p l e room_1 s m #[Value.ref b] below meth c H locs cells slots Q (F0 m (pc + 1) ls (.long (o 0) :: rest))) : W p l e room_1 s m #[Value.ref b] below meth c H locs cells slots Q (F0 m pc ls (.int 0 :: .ref (ad g (11, 0, 0)) :: rest)) := by
  obtain ⟨hx1, hb, hml, hown, hG⟩ := hC
  exact va_lald (D := gD g) (f := o) (n := 1) hx1 hb hE.1 (hP.one k_11) 0 4 (by rw [f_11]; rfl) rfl (vp_in_nI (n := 0) (N := 1) (by decide) (by decide)) hdg kk
/-- the end of a case: both threw alike, and answered alike -/
theorem w_tail (F : LF p s m meth c b L xs g) {t : Nat} {k r : Int32} {off : Int} (hv : k = 0 → o 0 = r.toInt64) (hP : WPe g KK (ent g M o) H) (hl : lv_has ls 9 [(6, .int r), (5, .int k), (0, .ref b), (1, .ref (ad g (8, 0, 0))), (2, .ref (ad g (10, 0, 0))), (3, .ref (ad g (11, 0, 0))), (4, .int (nI i))])
    (d0 : decode code t = .ok (.iload 5, 2)) (d1 : decode code (t + 2) = .ok (.if_icmp .eq 5, 3)) (d2 : decode code (t + 7) = .ok (.iload 5, 2)) (d3 : decode code (t + 9) = .ok (.ifCond .ne 15, 3)) (d4 : decode code (t + 12) = .ok (.aload_n 3, 1)) (d5 : decode code (t + 13) = .ok (.iconst 0, 1)) (d6 : decode code (t + 14) = .ok (.laload, 1)) (d7 : decode code (t + 15) = .ok (.iload 6, 2)) (d8 : decode code (t + 17) = .ok (.i2l, 1)) (d9 : decode code (t + 18) = .ok (.lcmp, 1)) (d10 : decode code (t + 19) = .ok (.ifCond .eq 5, 3)) (d11 : decode code (t + 24) = .ok (.goto off, 3)) (ht : ((t + 24 : Nat) : Int) + off = ((1152 : Nat) : Int))
    (kk : W p l e room_1 s m #[Value.ref b] below meth c H locs cells slots Q (F0 m 1152 ls [])) : W p l e room_1 s m #[Value.ref b] below meth c H locs cells slots Q (F0 m t ls [.int k]) := by
  obtain ⟨hC, hE, hN, hI, hX, hbl, hbA⟩ := F
  obtain ⟨hx, hb, hml, hown, hG⟩ := id hC
  refine lv_iload hx hb d0 (lv_at hl 1 rfl) ?_
  refine lv_icmp_eq (tgt := t + 7) hx hb d1 (by omega) (fun _ => ?_) (fun q => absurd rfl q)
  refine lv_iload hx hb d2 (lv_at hl 1 rfl) ?_
  have hend : W p l e room_1 s m #[Value.ref b] below meth c H locs cells slots Q (F0 m (t + 24) ls []) := lv_goto (tgt := 1152) hx hb d11 ht kk
  refine lv_if_ne (tgt := t + 24) hx hb d3 (by omega) (fun _ => hend) (fun q => ?_)
  refine lv_aload_n hx hb d4 rfl (lv_at hl 5 rfl) ?_
  refine lv_iconst (v := 0) hx hb d5 (by decide) ?_
  refine m_lald hC hE hP d6 ?_
  refine lv_iload hx hb d7 (lv_at hl 0 rfl) ?_
  refine lv_i2l hx hb d8 rfl ?_
  refine W.lcmp hx hb d9 ?_
  rw [hv q, lg_self]
  exact lv_if_eq (tgt := t + 24) hx hb d10 (by omega) (fun _ => hend) (fun q => absurd rfl q)
end LAW
section CASES
variable {p : Program} {l : Launch} {e : Jvm.Env} {s : State} {m : MethodId} {below : List Frame} {meth : Method} {c : Code} {H : Heap} {locs : List Loc} {cells slots : Nat} {Q : State → Prop}
variable {b L : Nat} {xs : Nat → Int32} {g : Gm} {ls : Array Slot} {i : Nat} {M : Mem} {o : Nat → Int64} {n : Nat}
set_option maxHeartbeats 4000000 in
set_option maxRecDepth 100000 in
theorem q_set (F : LF p s m meth c b L xs g) (hL : L ≤ 2560) (hi : i + 5 ≤ L) (hB : Both l g yL_set cL_set 7 [((0 : Nat), (14 : Nat), (17 : Nat), (13 : Nat)), ((0 : Nat), (14 : Nat), (21 : Nat), (15 : Nat))] yX6_set cX6_set 7 (rm 2 43) n M o [.int (xs (i + 1)), .int (xs (i + 2)), .int (xs (i + 3)), .int (xs (i + 4))]) (hP : WPe g KK (ent g M o) H) (hS : va_S (AA g) s.heap H locs) (hl : lv_has ls 9 [(0, .ref b), (1, .ref (ad g (8, 0, 0))), (2, .ref (ad g (10, 0, 0))), (3, .ref (ad g (11, 0, 0))), (4, .int (nI i))]) (hc : cells + 1 ≤ 639974) (hs : slots + 6 ≤ 7176183)
    (kk : ∀ (H : Heap) (locs : List Loc) (ls : Array Slot) (M : Mem) (o : Nat → Int64), WPe g KK (ent g M o) H → va_S (AA g) s.heap H locs → lv_has ls 9 [(0, .ref b), (1, .ref (ad g (8, 0, 0))), (2, .ref (ad g (10, 0, 0))), (3, .ref (ad g (11, 0, 0))), (4, .int (nI i))] → St n M → W p l e room_1 s m #[Value.ref b] below meth c H locs (cells + 1) (slots + 6) Q (F0 m 1152 ls [])) : W p l e room_1 s m #[Value.ref b] below meth c H locs cells slots Q (F0 m 120 ls []) := by
  obtain ⟨R1, k, r, o1, M1, M2, hR, hW, hM, h5, hv, hst⟩ := hB
  obtain ⟨hC, hE, hN, hI, hX, hbl, hbA⟩ := id F
  obtain ⟨hx, hb, hml, hown, hG⟩ := id hC
  refine lv_aload_n hx hb dL_law_120 rfl (lv_at hl 1 rfl) ?_
  refine w_arg F hS (j := 1) (by decide) (by omega) hL (lv_at hl 0 rfl) (lv_at hl 4 rfl) dL_law_121 dL_law_122 dL_law_124 dL_law_125 dL_law_126 ?_
  refine w_arg F hS (j := 2) (by decide) (by omega) hL (lv_at hl 0 rfl) (lv_at hl 4 rfl) dL_law_127 dL_law_128 dL_law_130 dL_law_131 dL_law_132 ?_
  refine w_arg F hS (j := 3) (by decide) (by omega) hL (lv_at hl 0 rfl) (lv_at hl 4 rfl) dL_law_133 dL_law_134 dL_law_136 dL_law_137 dL_law_138 ?_
  refine w_arg F hS (j := 4) (by decide) (by omega) hL (lv_at hl 0 rfl) (lv_at hl 4 rfl) dL_law_139 dL_law_140 dL_law_142 dL_law_143 dL_law_144 ?_
  refine lv_aload_n hx hb dL_law_145 rfl (lv_at hl 3 rfl) ?_
  refine run_W hC hE hN hP hS (As := [.ref (ad g (8, 0, 0)), .int (xs (i + 1)), .int (xs (i + 2)), .int (xs (i + 3)), .int (xs (i + 4)), .ref (ad g (11, 0, 0))]) (na := 6) hW w_275 w_0 w_276 w_274 (by decide +kernel) ⟨(by omega : R1.frames + 1 ≤ 10), (by omega : 8 + (7 + 11) + R1.locals ≤ 378)⟩ rfl rfl (Nat.le_of_ble_eq_true rfl) hl.1 ⟨(by omega : cells + R1.cells ≤ 639974), (by omega : slots + R1.slots ≤ 7176183)⟩ dL_law_146 (fun H locs hP hS => ?_)
  refine W.widen (k := cells + 1) (n := slots + 6) (by omega) (by omega) ?_
  refine lv_istore (lv' := [(5, .int k), (0, .ref b), (1, .ref (ad g (8, 0, 0))), (2, .ref (ad g (10, 0, 0))), (3, .ref (ad g (11, 0, 0))), (4, .int (nI i))]) hx hb dL_law_149 hl (by decide) rfl (fun ls hl => ?_)
  refine lv_aload_n hx hb dL_law_151 rfl (lv_at hl 3 rfl) ?_
  refine w_arg F hS (j := 1) (by decide) (by omega) hL (lv_at hl 1 rfl) (lv_at hl 5 rfl) dL_law_152 dL_law_153 dL_law_155 dL_law_156 dL_law_157 ?_
  refine w_arg F hS (j := 2) (by decide) (by omega) hL (lv_at hl 1 rfl) (lv_at hl 5 rfl) dL_law_158 dL_law_159 dL_law_161 dL_law_162 dL_law_163 ?_
  refine w_arg F hS (j := 3) (by decide) (by omega) hL (lv_at hl 1 rfl) (lv_at hl 5 rfl) dL_law_164 dL_law_165 dL_law_167 dL_law_168 dL_law_169 ?_
  refine w_arg F hS (j := 4) (by decide) (by omega) hL (lv_at hl 1 rfl) (lv_at hl 5 rfl) dL_law_170 dL_law_171 dL_law_173 dL_law_174 dL_law_175 ?_
  refine on_i (run_V hC hE hP hS (As := [.int (xs (i + 1)), .int (xs (i + 2)), .int (xs (i + 3)), .int (xs (i + 4))]) hM cal_X6_set w_733 ⟨Nat.le_of_ble_eq_true rfl, Nat.le_of_ble_eq_true rfl⟩ k_10 f_10 rfl rfl rfl (Nat.le_of_ble_eq_true rfl) hl.1 ⟨hc, hs⟩ dL_law_176) hS (fun H locs hP hS => ?_)
  refine lv_istore (lv' := [(6, .int r), (5, .int k), (0, .ref b), (1, .ref (ad g (8, 0, 0))), (2, .ref (ad g (10, 0, 0))), (3, .ref (ad g (11, 0, 0))), (4, .int (nI i))]) hx hb dL_law_179 hl (by decide) rfl (fun ls hl => ?_)
  refine lv_aload_n hx hb dL_law_181 rfl (lv_at hl 4 rfl) ?_
  refine on_i (run_V hC hE hP hS (As := []) (b_thr l hI hst) cal_X6_thrown w_729 ⟨Nat.le_of_ble_eq_true rfl, Nat.le_of_ble_eq_true rfl⟩ k_10 f_10 rfl rfl rfl (Nat.le_of_ble_eq_true rfl) hl.1 ⟨hc, hs⟩ dL_law_182) hS (fun H locs hP hS => ?_)
  refine m_top (y := k) h5 ?_
  exact w_tail F (t := 185) hv hP hl dL_law_185 dL_law_187 dL_law_192 dL_law_194 dL_law_197 dL_law_198 dL_law_199 dL_law_200 dL_law_202 dL_law_203 dL_law_204 dL_law_209 (by decide) (kk _ _ _ _ _ hP hS (lv_sub hl [2, 3, 4, 5, 6] rfl) hst)
set_option maxHeartbeats 4000000 in
set_option maxRecDepth 100000 in
theorem q_setFrost (F : LF p s m meth c b L xs g) (hL : L ≤ 2560) (hi : i + 5 ≤ L) (hB : Both l g yL_setFrost cL_setFrost 5 [((0 : Nat), (10 : Nat), (13 : Nat), (13 : Nat)), ((0 : Nat), (10 : Nat), (17 : Nat), (15 : Nat))] yX6_setFrost cX6_setFrost 4 (rm 1 22) n M o [.int (xs (i + 1)), .int (xs (i + 2))]) (hP : WPe g KK (ent g M o) H) (hS : va_S (AA g) s.heap H locs) (hl : lv_has ls 9 [(0, .ref b), (1, .ref (ad g (8, 0, 0))), (2, .ref (ad g (10, 0, 0))), (3, .ref (ad g (11, 0, 0))), (4, .int (nI i))]) (hc : cells + 1 ≤ 639974) (hs : slots + 6 ≤ 7176183)
    (kk : ∀ (H : Heap) (locs : List Loc) (ls : Array Slot) (M : Mem) (o : Nat → Int64), WPe g KK (ent g M o) H → va_S (AA g) s.heap H locs → lv_has ls 9 [(0, .ref b), (1, .ref (ad g (8, 0, 0))), (2, .ref (ad g (10, 0, 0))), (3, .ref (ad g (11, 0, 0))), (4, .int (nI i))] → St n M → W p l e room_1 s m #[Value.ref b] below meth c H locs (cells + 1) (slots + 6) Q (F0 m 1152 ls [])) : W p l e room_1 s m #[Value.ref b] below meth c H locs cells slots Q (F0 m 212 ls []) := by
  obtain ⟨R1, k, r, o1, M1, M2, hR, hW, hM, h5, hv, hst⟩ := hB
  obtain ⟨hC, hE, hN, hI, hX, hbl, hbA⟩ := id F
  obtain ⟨hx, hb, hml, hown, hG⟩ := id hC
  refine lv_aload_n hx hb dL_law_212 rfl (lv_at hl 1 rfl) ?_
  refine w_arg F hS (j := 1) (by decide) (by omega) hL (lv_at hl 0 rfl) (lv_at hl 4 rfl) dL_law_213 dL_law_214 dL_law_216 dL_law_217 dL_law_218 ?_
  refine w_arg F hS (j := 2) (by decide) (by omega) hL (lv_at hl 0 rfl) (lv_at hl 4 rfl) dL_law_219 dL_law_220 dL_law_222 dL_law_223 dL_law_224 ?_
  refine lv_aload_n hx hb dL_law_225 rfl (lv_at hl 3 rfl) ?_
  refine run_W hC hE hN hP hS (As := [.ref (ad g (8, 0, 0)), .int (xs (i + 1)), .int (xs (i + 2)), .ref (ad g (11, 0, 0))]) (na := 4) hW w_375 w_0 w_376 w_374 (by decide +kernel) ⟨(by omega : R1.frames + 1 ≤ 10), (by omega : 8 + (5 + 11) + R1.locals ≤ 378)⟩ rfl rfl (Nat.le_of_ble_eq_true rfl) hl.1 ⟨(by omega : cells + R1.cells ≤ 639974), (by omega : slots + R1.slots ≤ 7176183)⟩ dL_law_226 (fun H locs hP hS => ?_)
  refine W.widen (k := cells + 1) (n := slots + 6) (by omega) (by omega) ?_
  refine lv_istore (lv' := [(5, .int k), (0, .ref b), (1, .ref (ad g (8, 0, 0))), (2, .ref (ad g (10, 0, 0))), (3, .ref (ad g (11, 0, 0))), (4, .int (nI i))]) hx hb dL_law_229 hl (by decide) rfl (fun ls hl => ?_)
  refine lv_aload_n hx hb dL_law_231 rfl (lv_at hl 3 rfl) ?_
  refine w_arg F hS (j := 1) (by decide) (by omega) hL (lv_at hl 1 rfl) (lv_at hl 5 rfl) dL_law_232 dL_law_233 dL_law_235 dL_law_236 dL_law_237 ?_
  refine w_arg F hS (j := 2) (by decide) (by omega) hL (lv_at hl 1 rfl) (lv_at hl 5 rfl) dL_law_238 dL_law_239 dL_law_241 dL_law_242 dL_law_243 ?_
  refine on_i (run_V hC hE hP hS (As := [.int (xs (i + 1)), .int (xs (i + 2))]) hM cal_X6_setFrost w_747 ⟨Nat.le_of_ble_eq_true rfl, Nat.le_of_ble_eq_true rfl⟩ k_10 f_10 rfl rfl rfl (Nat.le_of_ble_eq_true rfl) hl.1 ⟨hc, hs⟩ dL_law_244) hS (fun H locs hP hS => ?_)
  refine lv_istore (lv' := [(6, .int r), (5, .int k), (0, .ref b), (1, .ref (ad g (8, 0, 0))), (2, .ref (ad g (10, 0, 0))), (3, .ref (ad g (11, 0, 0))), (4, .int (nI i))]) hx hb dL_law_247 hl (by decide) rfl (fun ls hl => ?_)
  refine lv_aload_n hx hb dL_law_249 rfl (lv_at hl 4 rfl) ?_
  refine on_i (run_V hC hE hP hS (As := []) (b_thr l hI hst) cal_X6_thrown w_729 ⟨Nat.le_of_ble_eq_true rfl, Nat.le_of_ble_eq_true rfl⟩ k_10 f_10 rfl rfl rfl (Nat.le_of_ble_eq_true rfl) hl.1 ⟨hc, hs⟩ dL_law_250) hS (fun H locs hP hS => ?_)
  refine m_top (y := k) h5 ?_
  exact w_tail F (t := 253) hv hP hl dL_law_253 dL_law_255 dL_law_260 dL_law_262 dL_law_265 dL_law_266 dL_law_267 dL_law_268 dL_law_270 dL_law_271 dL_law_272 dL_law_277 (by decide) (kk _ _ _ _ _ hP hS (lv_sub hl [2, 3, 4, 5, 6] rfl) hst)
set_option maxHeartbeats 4000000 in
set_option maxRecDepth 100000 in
theorem q_cut (F : LF p s m meth c b L xs g) (hL : L ≤ 2560) (hi : i + 5 ≤ L) (hB : Both l g yL_cut cL_cut 5 [((0 : Nat), (10 : Nat), (13 : Nat), (13 : Nat)), ((0 : Nat), (10 : Nat), (17 : Nat), (24 : Nat))] yX6_cut cX6_cut 3 (rm 2 43) n M o [.int (xs (i + 1)), .int (xs (i + 2))]) (hP : WPe g KK (ent g M o) H) (hS : va_S (AA g) s.heap H locs) (hl : lv_has ls 9 [(0, .ref b), (1, .ref (ad g (8, 0, 0))), (2, .ref (ad g (10, 0, 0))), (3, .ref (ad g (11, 0, 0))), (4, .int (nI i))]) (hc : cells + 1 ≤ 639974) (hs : slots + 6 ≤ 7176183)
    (kk : ∀ (H : Heap) (locs : List Loc) (ls : Array Slot) (M : Mem) (o : Nat → Int64), WPe g KK (ent g M o) H → va_S (AA g) s.heap H locs → lv_has ls 9 [(0, .ref b), (1, .ref (ad g (8, 0, 0))), (2, .ref (ad g (10, 0, 0))), (3, .ref (ad g (11, 0, 0))), (4, .int (nI i))] → St n M → W p l e room_1 s m #[Value.ref b] below meth c H locs (cells + 1) (slots + 6) Q (F0 m 1152 ls [])) : W p l e room_1 s m #[Value.ref b] below meth c H locs cells slots Q (F0 m 280 ls []) := by
  obtain ⟨R1, k, r, o1, M1, M2, hR, hW, hM, h5, hv, hst⟩ := hB
  obtain ⟨hC, hE, hN, hI, hX, hbl, hbA⟩ := id F
  obtain ⟨hx, hb, hml, hown, hG⟩ := id hC
  refine lv_aload_n hx hb dL_law_280 rfl (lv_at hl 1 rfl) ?_
  refine w_arg F hS (j := 1) (by decide) (by omega) hL (lv_at hl 0 rfl) (lv_at hl 4 rfl) dL_law_281 dL_law_282 dL_law_284 dL_law_285 dL_law_286 ?_
  refine w_arg F hS (j := 2) (by decide) (by omega) hL (lv_at hl 0 rfl) (lv_at hl 4 rfl) dL_law_287 dL_law_288 dL_law_290 dL_law_291 dL_law_292 ?_
  refine lv_aload_n hx hb dL_law_293 rfl (lv_at hl 3 rfl) ?_
  refine run_W hC hE hN hP hS (As := [.ref (ad g (8, 0, 0)), .int (xs (i + 1)), .int (xs (i + 2)), .ref (ad g (11, 0, 0))]) (na := 4) hW w_384 w_0 w_385 w_383 (by decide +kernel) ⟨(by omega : R1.frames + 1 ≤ 10), (by omega : 8 + (5 + 11) + R1.locals ≤ 378)⟩ rfl rfl (Nat.le_of_ble_eq_true rfl) hl.1 ⟨(by omega : cells + R1.cells ≤ 639974), (by omega : slots + R1.slots ≤ 7176183)⟩ dL_law_294 (fun H locs hP hS => ?_)
  refine W.widen (k := cells + 1) (n := slots + 6) (by omega) (by omega) ?_
  refine lv_istore (lv' := [(5, .int k), (0, .ref b), (1, .ref (ad g (8, 0, 0))), (2, .ref (ad g (10, 0, 0))), (3, .ref (ad g (11, 0, 0))), (4, .int (nI i))]) hx hb dL_law_297 hl (by decide) rfl (fun ls hl => ?_)
  refine lv_aload_n hx hb dL_law_299 rfl (lv_at hl 3 rfl) ?_
  refine w_arg F hS (j := 1) (by decide) (by omega) hL (lv_at hl 1 rfl) (lv_at hl 5 rfl) dL_law_300 dL_law_301 dL_law_303 dL_law_304 dL_law_305 ?_
  refine w_arg F hS (j := 2) (by decide) (by omega) hL (lv_at hl 1 rfl) (lv_at hl 5 rfl) dL_law_306 dL_law_307 dL_law_309 dL_law_310 dL_law_311 ?_
  refine on_i (run_V hC hE hP hS (As := [.int (xs (i + 1)), .int (xs (i + 2))]) hM cal_X6_cut w_751 ⟨Nat.le_of_ble_eq_true rfl, Nat.le_of_ble_eq_true rfl⟩ k_10 f_10 rfl rfl rfl (Nat.le_of_ble_eq_true rfl) hl.1 ⟨hc, hs⟩ dL_law_312) hS (fun H locs hP hS => ?_)
  refine lv_istore (lv' := [(6, .int r), (5, .int k), (0, .ref b), (1, .ref (ad g (8, 0, 0))), (2, .ref (ad g (10, 0, 0))), (3, .ref (ad g (11, 0, 0))), (4, .int (nI i))]) hx hb dL_law_315 hl (by decide) rfl (fun ls hl => ?_)
  refine lv_aload_n hx hb dL_law_317 rfl (lv_at hl 4 rfl) ?_
  refine on_i (run_V hC hE hP hS (As := []) (b_thr l hI hst) cal_X6_thrown w_729 ⟨Nat.le_of_ble_eq_true rfl, Nat.le_of_ble_eq_true rfl⟩ k_10 f_10 rfl rfl rfl (Nat.le_of_ble_eq_true rfl) hl.1 ⟨hc, hs⟩ dL_law_318) hS (fun H locs hP hS => ?_)
  refine m_top (y := k) h5 ?_
  exact w_tail F (t := 321) hv hP hl dL_law_321 dL_law_323 dL_law_328 dL_law_330 dL_law_333 dL_law_334 dL_law_335 dL_law_336 dL_law_338 dL_law_339 dL_law_340 dL_law_345 (by decide) (kk _ _ _ _ _ hP hS (lv_sub hl [2, 3, 4, 5, 6] rfl) hst)
set_option maxHeartbeats 4000000 in
set_option maxRecDepth 100000 in
theorem q_license (F : LF p s m meth c b L xs g) (hL : L ≤ 2560) (hi : i + 5 ≤ L) (hB : Both l g yL_license cL_license 5 [((0 : Nat), (10 : Nat), (13 : Nat), (15 : Nat)), ((0 : Nat), (10 : Nat), (17 : Nat), (24 : Nat))] yX6_license cX6_license 3 (rm 1 22) n M o [.int (xs (i + 1)), .int (xs (i + 2))]) (hP : WPe g KK (ent g M o) H) (hS : va_S (AA g) s.heap H locs) (hl : lv_has ls 9 [(0, .ref b), (1, .ref (ad g (8, 0, 0))), (2, .ref (ad g (10, 0, 0))), (3, .ref (ad g (11, 0, 0))), (4, .int (nI i))]) (hc : cells + 1 ≤ 639974) (hs : slots + 6 ≤ 7176183)
    (kk : ∀ (H : Heap) (locs : List Loc) (ls : Array Slot) (M : Mem) (o : Nat → Int64), WPe g KK (ent g M o) H → va_S (AA g) s.heap H locs → lv_has ls 9 [(0, .ref b), (1, .ref (ad g (8, 0, 0))), (2, .ref (ad g (10, 0, 0))), (3, .ref (ad g (11, 0, 0))), (4, .int (nI i))] → St n M → W p l e room_1 s m #[Value.ref b] below meth c H locs (cells + 1) (slots + 6) Q (F0 m 1152 ls [])) : W p l e room_1 s m #[Value.ref b] below meth c H locs cells slots Q (F0 m 348 ls []) := by
  obtain ⟨R1, k, r, o1, M1, M2, hR, hW, hM, h5, hv, hst⟩ := hB
  obtain ⟨hC, hE, hN, hI, hX, hbl, hbA⟩ := id F
  obtain ⟨hx, hb, hml, hown, hG⟩ := id hC
  refine lv_aload_n hx hb dL_law_348 rfl (lv_at hl 1 rfl) ?_
  refine w_arg F hS (j := 1) (by decide) (by omega) hL (lv_at hl 0 rfl) (lv_at hl 4 rfl) dL_law_349 dL_law_350 dL_law_352 dL_law_353 dL_law_354 ?_
  refine w_arg F hS (j := 2) (by decide) (by omega) hL (lv_at hl 0 rfl) (lv_at hl 4 rfl) dL_law_355 dL_law_356 dL_law_358 dL_law_359 dL_law_360 ?_
  refine lv_aload_n hx hb dL_law_361 rfl (lv_at hl 3 rfl) ?_
  refine run_W hC hE hN hP hS (As := [.ref (ad g (8, 0, 0)), .int (xs (i + 1)), .int (xs (i + 2)), .ref (ad g (11, 0, 0))]) (na := 4) hW w_415 w_0 w_416 w_414 (by decide +kernel) ⟨(by omega : R1.frames + 1 ≤ 10), (by omega : 8 + (5 + 11) + R1.locals ≤ 378)⟩ rfl rfl (Nat.le_of_ble_eq_true rfl) hl.1 ⟨(by omega : cells + R1.cells ≤ 639974), (by omega : slots + R1.slots ≤ 7176183)⟩ dL_law_362 (fun H locs hP hS => ?_)
  refine W.widen (k := cells + 1) (n := slots + 6) (by omega) (by omega) ?_
  refine lv_istore (lv' := [(5, .int k), (0, .ref b), (1, .ref (ad g (8, 0, 0))), (2, .ref (ad g (10, 0, 0))), (3, .ref (ad g (11, 0, 0))), (4, .int (nI i))]) hx hb dL_law_365 hl (by decide) rfl (fun ls hl => ?_)
  refine lv_aload_n hx hb dL_law_367 rfl (lv_at hl 3 rfl) ?_
  refine w_arg F hS (j := 1) (by decide) (by omega) hL (lv_at hl 1 rfl) (lv_at hl 5 rfl) dL_law_368 dL_law_369 dL_law_371 dL_law_372 dL_law_373 ?_
  refine w_arg F hS (j := 2) (by decide) (by omega) hL (lv_at hl 1 rfl) (lv_at hl 5 rfl) dL_law_374 dL_law_375 dL_law_377 dL_law_378 dL_law_379 ?_
  refine on_i (run_V hC hE hP hS (As := [.int (xs (i + 1)), .int (xs (i + 2))]) hM cal_X6_license w_763 ⟨Nat.le_of_ble_eq_true rfl, Nat.le_of_ble_eq_true rfl⟩ k_10 f_10 rfl rfl rfl (Nat.le_of_ble_eq_true rfl) hl.1 ⟨hc, hs⟩ dL_law_380) hS (fun H locs hP hS => ?_)
  refine lv_istore (lv' := [(6, .int r), (5, .int k), (0, .ref b), (1, .ref (ad g (8, 0, 0))), (2, .ref (ad g (10, 0, 0))), (3, .ref (ad g (11, 0, 0))), (4, .int (nI i))]) hx hb dL_law_383 hl (by decide) rfl (fun ls hl => ?_)
  refine lv_aload_n hx hb dL_law_385 rfl (lv_at hl 4 rfl) ?_
  refine on_i (run_V hC hE hP hS (As := []) (b_thr l hI hst) cal_X6_thrown w_729 ⟨Nat.le_of_ble_eq_true rfl, Nat.le_of_ble_eq_true rfl⟩ k_10 f_10 rfl rfl rfl (Nat.le_of_ble_eq_true rfl) hl.1 ⟨hc, hs⟩ dL_law_386) hS (fun H locs hP hS => ?_)
  refine m_top (y := k) h5 ?_
  exact w_tail F (t := 389) hv hP hl dL_law_389 dL_law_391 dL_law_396 dL_law_398 dL_law_401 dL_law_402 dL_law_403 dL_law_404 dL_law_406 dL_law_407 dL_law_408 dL_law_413 (by decide) (kk _ _ _ _ _ hP hS (lv_sub hl [2, 3, 4, 5, 6] rfl) hst)
set_option maxHeartbeats 4000000 in
set_option maxRecDepth 100000 in
theorem q_go (F : LF p s m meth c b L xs g) (hL : L ≤ 2560) (hi : i + 5 ≤ L) (hB : Both l g yL_go cL_go 5 [((0 : Nat), (10 : Nat), (13 : Nat), (13 : Nat)), ((0 : Nat), (10 : Nat), (17 : Nat), (24 : Nat))] yX6_go cX6_go 4 (rm 2 43) n M o [.int (xs (i + 1)), .int (xs (i + 2))]) (hP : WPe g KK (ent g M o) H) (hS : va_S (AA g) s.heap H locs) (hl : lv_has ls 9 [(0, .ref b), (1, .ref (ad g (8, 0, 0))), (2, .ref (ad g (10, 0, 0))), (3, .ref (ad g (11, 0, 0))), (4, .int (nI i))]) (hc : cells + 1 ≤ 639974) (hs : slots + 6 ≤ 7176183)
    (kk : ∀ (H : Heap) (locs : List Loc) (ls : Array Slot) (M : Mem) (o : Nat → Int64), WPe g KK (ent g M o) H → va_S (AA g) s.heap H locs → lv_has ls 9 [(0, .ref b), (1, .ref (ad g (8, 0, 0))), (2, .ref (ad g (10, 0, 0))), (3, .ref (ad g (11, 0, 0))), (4, .int (nI i))] → St n M → W p l e room_1 s m #[Value.ref b] below meth c H locs (cells + 1) (slots + 6) Q (F0 m 1152 ls [])) : W p l e room_1 s m #[Value.ref b] below meth c H locs cells slots Q (F0 m 416 ls []) := by
  obtain ⟨R1, k, r, o1, M1, M2, hR, hW, hM, h5, hv, hst⟩ := hB
  obtain ⟨hC, hE, hN, hI, hX, hbl, hbA⟩ := id F
  obtain ⟨hx, hb, hml, hown, hG⟩ := id hC
  refine lv_aload_n hx hb dL_law_416 rfl (lv_at hl 1 rfl) ?_
  refine w_arg F hS (j := 1) (by decide) (by omega) hL (lv_at hl 0 rfl) (lv_at hl 4 rfl) dL_law_417 dL_law_418 dL_law_420 dL_law_421 dL_law_422 ?_
  refine w_arg F hS (j := 2) (by decide) (by omega) hL (lv_at hl 0 rfl) (lv_at hl 4 rfl) dL_law_423 dL_law_424 dL_law_426 dL_law_427 dL_law_428 ?_
  refine lv_aload_n hx hb dL_law_429 rfl (lv_at hl 3 rfl) ?_
  refine run_W hC hE hN hP hS (As := [.ref (ad g (8, 0, 0)), .int (xs (i + 1)), .int (xs (i + 2)), .ref (ad g (11, 0, 0))]) (na := 4) hW w_428 w_0 w_429 w_427 (by decide +kernel) ⟨(by omega : R1.frames + 1 ≤ 10), (by omega : 8 + (5 + 11) + R1.locals ≤ 378)⟩ rfl rfl (Nat.le_of_ble_eq_true rfl) hl.1 ⟨(by omega : cells + R1.cells ≤ 639974), (by omega : slots + R1.slots ≤ 7176183)⟩ dL_law_430 (fun H locs hP hS => ?_)
  refine W.widen (k := cells + 1) (n := slots + 6) (by omega) (by omega) ?_
  refine lv_istore (lv' := [(5, .int k), (0, .ref b), (1, .ref (ad g (8, 0, 0))), (2, .ref (ad g (10, 0, 0))), (3, .ref (ad g (11, 0, 0))), (4, .int (nI i))]) hx hb dL_law_433 hl (by decide) rfl (fun ls hl => ?_)
  refine lv_aload_n hx hb dL_law_435 rfl (lv_at hl 3 rfl) ?_
  refine w_arg F hS (j := 1) (by decide) (by omega) hL (lv_at hl 1 rfl) (lv_at hl 5 rfl) dL_law_436 dL_law_437 dL_law_439 dL_law_440 dL_law_441 ?_
  refine w_arg F hS (j := 2) (by decide) (by omega) hL (lv_at hl 1 rfl) (lv_at hl 5 rfl) dL_law_442 dL_law_443 dL_law_445 dL_law_446 dL_law_447 ?_
  refine on_i (run_V hC hE hP hS (As := [.int (xs (i + 1)), .int (xs (i + 2))]) hM cal_X6_go w_767 ⟨Nat.le_of_ble_eq_true rfl, Nat.le_of_ble_eq_true rfl⟩ k_10 f_10 rfl rfl rfl (Nat.le_of_ble_eq_true rfl) hl.1 ⟨hc, hs⟩ dL_law_448) hS (fun H locs hP hS => ?_)
  refine lv_istore (lv' := [(6, .int r), (5, .int k), (0, .ref b), (1, .ref (ad g (8, 0, 0))), (2, .ref (ad g (10, 0, 0))), (3, .ref (ad g (11, 0, 0))), (4, .int (nI i))]) hx hb dL_law_451 hl (by decide) rfl (fun ls hl => ?_)
  refine lv_aload_n hx hb dL_law_453 rfl (lv_at hl 4 rfl) ?_
  refine on_i (run_V hC hE hP hS (As := []) (b_thr l hI hst) cal_X6_thrown w_729 ⟨Nat.le_of_ble_eq_true rfl, Nat.le_of_ble_eq_true rfl⟩ k_10 f_10 rfl rfl rfl (Nat.le_of_ble_eq_true rfl) hl.1 ⟨hc, hs⟩ dL_law_454) hS (fun H locs hP hS => ?_)
  refine m_top (y := k) h5 ?_
  exact w_tail F (t := 457) hv hP hl dL_law_457 dL_law_459 dL_law_464 dL_law_466 dL_law_469 dL_law_470 dL_law_471 dL_law_472 dL_law_474 dL_law_475 dL_law_476 dL_law_481 (by decide) (kk _ _ _ _ _ hP hS (lv_sub hl [2, 3, 4, 5, 6] rfl) hst)
set_option maxHeartbeats 4000000 in
set_option maxRecDepth 100000 in
theorem q_warden (F : LF p s m meth c b L xs g) (hL : L ≤ 2560) (hi : i + 5 ≤ L) (hB : Both l g yL_warden cL_warden 6 [((0 : Nat), (12 : Nat), (15 : Nat), (13 : Nat)), ((0 : Nat), (12 : Nat), (19 : Nat), (15 : Nat)), ((0 : Nat), (12 : Nat), (23 : Nat), (24 : Nat))] yX6_warden cX6_warden 4 (rm 2 43) n M o [.int (xs (i + 1)), .int (xs (i + 2)), .int (xs (i + 3))]) (hP : WPe g KK (ent g M o) H) (hS : va_S (AA g) s.heap H locs) (hl : lv_has ls 9 [(0, .ref b), (1, .ref (ad g (8, 0, 0))), (2, .ref (ad g (10, 0, 0))), (3, .ref (ad g (11, 0, 0))), (4, .int (nI i))]) (hc : cells + 1 ≤ 639974) (hs : slots + 6 ≤ 7176183)
    (kk : ∀ (H : Heap) (locs : List Loc) (ls : Array Slot) (M : Mem) (o : Nat → Int64), WPe g KK (ent g M o) H → va_S (AA g) s.heap H locs → lv_has ls 9 [(0, .ref b), (1, .ref (ad g (8, 0, 0))), (2, .ref (ad g (10, 0, 0))), (3, .ref (ad g (11, 0, 0))), (4, .int (nI i))] → St n M → W p l e room_1 s m #[Value.ref b] below meth c H locs (cells + 1) (slots + 6) Q (F0 m 1152 ls [])) : W p l e room_1 s m #[Value.ref b] below meth c H locs cells slots Q (F0 m 484 ls []) := by
  obtain ⟨R1, k, r, o1, M1, M2, hR, hW, hM, h5, hv, hst⟩ := hB
  obtain ⟨hC, hE, hN, hI, hX, hbl, hbA⟩ := id F
  obtain ⟨hx, hb, hml, hown, hG⟩ := id hC
  refine lv_aload_n hx hb dL_law_484 rfl (lv_at hl 1 rfl) ?_
  refine w_arg F hS (j := 1) (by decide) (by omega) hL (lv_at hl 0 rfl) (lv_at hl 4 rfl) dL_law_485 dL_law_486 dL_law_488 dL_law_489 dL_law_490 ?_
  refine w_arg F hS (j := 2) (by decide) (by omega) hL (lv_at hl 0 rfl) (lv_at hl 4 rfl) dL_law_491 dL_law_492 dL_law_494 dL_law_495 dL_law_496 ?_
  refine w_arg F hS (j := 3) (by decide) (by omega) hL (lv_at hl 0 rfl) (lv_at hl 4 rfl) dL_law_497 dL_law_498 dL_law_500 dL_law_501 dL_law_502 ?_
  refine lv_aload_n hx hb dL_law_503 rfl (lv_at hl 3 rfl) ?_
  refine run_W hC hE hN hP hS (As := [.ref (ad g (8, 0, 0)), .int (xs (i + 1)), .int (xs (i + 2)), .int (xs (i + 3)), .ref (ad g (11, 0, 0))]) (na := 5) hW w_447 w_0 w_448 w_446 (by decide +kernel) ⟨(by omega : R1.frames + 1 ≤ 10), (by omega : 8 + (6 + 11) + R1.locals ≤ 378)⟩ rfl rfl (Nat.le_of_ble_eq_true rfl) hl.1 ⟨(by omega : cells + R1.cells ≤ 639974), (by omega : slots + R1.slots ≤ 7176183)⟩ dL_law_504 (fun H locs hP hS => ?_)
  refine W.widen (k := cells + 1) (n := slots + 6) (by omega) (by omega) ?_
  refine lv_istore (lv' := [(5, .int k), (0, .ref b), (1, .ref (ad g (8, 0, 0))), (2, .ref (ad g (10, 0, 0))), (3, .ref (ad g (11, 0, 0))), (4, .int (nI i))]) hx hb dL_law_507 hl (by decide) rfl (fun ls hl => ?_)
  refine lv_aload_n hx hb dL_law_509 rfl (lv_at hl 3 rfl) ?_
  refine w_arg F hS (j := 1) (by decide) (by omega) hL (lv_at hl 1 rfl) (lv_at hl 5 rfl) dL_law_510 dL_law_511 dL_law_513 dL_law_514 dL_law_515 ?_
  refine w_arg F hS (j := 2) (by decide) (by omega) hL (lv_at hl 1 rfl) (lv_at hl 5 rfl) dL_law_516 dL_law_517 dL_law_519 dL_law_520 dL_law_521 ?_
  refine w_arg F hS (j := 3) (by decide) (by omega) hL (lv_at hl 1 rfl) (lv_at hl 5 rfl) dL_law_522 dL_law_523 dL_law_525 dL_law_526 dL_law_527 ?_
  refine on_i (run_V hC hE hP hS (As := [.int (xs (i + 1)), .int (xs (i + 2)), .int (xs (i + 3))]) hM cal_X6_warden w_779 ⟨Nat.le_of_ble_eq_true rfl, Nat.le_of_ble_eq_true rfl⟩ k_10 f_10 rfl rfl rfl (Nat.le_of_ble_eq_true rfl) hl.1 ⟨hc, hs⟩ dL_law_528) hS (fun H locs hP hS => ?_)
  refine lv_istore (lv' := [(6, .int r), (5, .int k), (0, .ref b), (1, .ref (ad g (8, 0, 0))), (2, .ref (ad g (10, 0, 0))), (3, .ref (ad g (11, 0, 0))), (4, .int (nI i))]) hx hb dL_law_531 hl (by decide) rfl (fun ls hl => ?_)
  refine lv_aload_n hx hb dL_law_533 rfl (lv_at hl 4 rfl) ?_
  refine on_i (run_V hC hE hP hS (As := []) (b_thr l hI hst) cal_X6_thrown w_729 ⟨Nat.le_of_ble_eq_true rfl, Nat.le_of_ble_eq_true rfl⟩ k_10 f_10 rfl rfl rfl (Nat.le_of_ble_eq_true rfl) hl.1 ⟨hc, hs⟩ dL_law_534) hS (fun H locs hP hS => ?_)
  refine m_top (y := k) h5 ?_
  exact w_tail F (t := 537) hv hP hl dL_law_537 dL_law_539 dL_law_544 dL_law_546 dL_law_549 dL_law_550 dL_law_551 dL_law_552 dL_law_554 dL_law_555 dL_law_556 dL_law_561 (by decide) (kk _ _ _ _ _ hP hS (lv_sub hl [2, 3, 4, 5, 6] rfl) hst)
set_option maxHeartbeats 4000000 in
set_option maxRecDepth 100000 in
theorem q_cell (F : LF p s m meth c b L xs g) (hL : L ≤ 2560) (hi : i + 5 ≤ L) (hB : Both l g yL_cell cL_cell 6 [((0 : Nat), (12 : Nat), (15 : Nat), (13 : Nat))] yX6_cell cX6_cell 4 (rm 3 65) n M o [.int (xs (i + 1)), .int (xs (i + 2)), .int (xs (i + 3))]) (hP : WPe g KK (ent g M o) H) (hS : va_S (AA g) s.heap H locs) (hl : lv_has ls 9 [(0, .ref b), (1, .ref (ad g (8, 0, 0))), (2, .ref (ad g (10, 0, 0))), (3, .ref (ad g (11, 0, 0))), (4, .int (nI i))]) (hc : cells + 1 ≤ 639974) (hs : slots + 6 ≤ 7176183)
    (kk : ∀ (H : Heap) (locs : List Loc) (ls : Array Slot) (M : Mem) (o : Nat → Int64), WPe g KK (ent g M o) H → va_S (AA g) s.heap H locs → lv_has ls 9 [(0, .ref b), (1, .ref (ad g (8, 0, 0))), (2, .ref (ad g (10, 0, 0))), (3, .ref (ad g (11, 0, 0))), (4, .int (nI i))] → St n M → W p l e room_1 s m #[Value.ref b] below meth c H locs (cells + 1) (slots + 6) Q (F0 m 1152 ls [])) : W p l e room_1 s m #[Value.ref b] below meth c H locs cells slots Q (F0 m 564 ls []) := by
  obtain ⟨R1, k, r, o1, M1, M2, hR, hW, hM, h5, hv, hst⟩ := hB
  obtain ⟨hC, hE, hN, hI, hX, hbl, hbA⟩ := id F
  obtain ⟨hx, hb, hml, hown, hG⟩ := id hC
  refine lv_aload_n hx hb dL_law_564 rfl (lv_at hl 1 rfl) ?_
  refine w_arg F hS (j := 1) (by decide) (by omega) hL (lv_at hl 0 rfl) (lv_at hl 4 rfl) dL_law_565 dL_law_566 dL_law_568 dL_law_569 dL_law_570 ?_
  refine w_arg F hS (j := 2) (by decide) (by omega) hL (lv_at hl 0 rfl) (lv_at hl 4 rfl) dL_law_571 dL_law_572 dL_law_574 dL_law_575 dL_law_576 ?_
  refine w_arg F hS (j := 3) (by decide) (by omega) hL (lv_at hl 0 rfl) (lv_at hl 4 rfl) dL_law_577 dL_law_578 dL_law_580 dL_law_581 dL_law_582 ?_
  refine lv_aload_n hx hb dL_law_583 rfl (lv_at hl 3 rfl) ?_
  refine run_W hC hE hN hP hS (As := [.ref (ad g (8, 0, 0)), .int (xs (i + 1)), .int (xs (i + 2)), .int (xs (i + 3)), .ref (ad g (11, 0, 0))]) (na := 5) hW w_460 w_0 w_461 w_459 (by decide +kernel) ⟨(by omega : R1.frames + 1 ≤ 10), (by omega : 8 + (6 + 11) + R1.locals ≤ 378)⟩ rfl rfl (Nat.le_of_ble_eq_true rfl) hl.1 ⟨(by omega : cells + R1.cells ≤ 639974), (by omega : slots + R1.slots ≤ 7176183)⟩ dL_law_584 (fun H locs hP hS => ?_)
  refine W.widen (k := cells + 1) (n := slots + 6) (by omega) (by omega) ?_
  refine lv_istore (lv' := [(5, .int k), (0, .ref b), (1, .ref (ad g (8, 0, 0))), (2, .ref (ad g (10, 0, 0))), (3, .ref (ad g (11, 0, 0))), (4, .int (nI i))]) hx hb dL_law_587 hl (by decide) rfl (fun ls hl => ?_)
  refine lv_aload_n hx hb dL_law_589 rfl (lv_at hl 3 rfl) ?_
  refine w_arg F hS (j := 1) (by decide) (by omega) hL (lv_at hl 1 rfl) (lv_at hl 5 rfl) dL_law_590 dL_law_591 dL_law_593 dL_law_594 dL_law_595 ?_
  refine w_arg F hS (j := 2) (by decide) (by omega) hL (lv_at hl 1 rfl) (lv_at hl 5 rfl) dL_law_596 dL_law_597 dL_law_599 dL_law_600 dL_law_601 ?_
  refine w_arg F hS (j := 3) (by decide) (by omega) hL (lv_at hl 1 rfl) (lv_at hl 5 rfl) dL_law_602 dL_law_603 dL_law_605 dL_law_606 dL_law_607 ?_
  refine on_i (run_V hC hE hP hS (As := [.int (xs (i + 1)), .int (xs (i + 2)), .int (xs (i + 3))]) hM cal_X6_cell w_783 ⟨Nat.le_of_ble_eq_true rfl, Nat.le_of_ble_eq_true rfl⟩ k_10 f_10 rfl rfl rfl (Nat.le_of_ble_eq_true rfl) hl.1 ⟨hc, hs⟩ dL_law_608) hS (fun H locs hP hS => ?_)
  refine lv_istore (lv' := [(6, .int r), (5, .int k), (0, .ref b), (1, .ref (ad g (8, 0, 0))), (2, .ref (ad g (10, 0, 0))), (3, .ref (ad g (11, 0, 0))), (4, .int (nI i))]) hx hb dL_law_611 hl (by decide) rfl (fun ls hl => ?_)
  refine lv_aload_n hx hb dL_law_613 rfl (lv_at hl 4 rfl) ?_
  refine on_i (run_V hC hE hP hS (As := []) (b_thr l hI hst) cal_X6_thrown w_729 ⟨Nat.le_of_ble_eq_true rfl, Nat.le_of_ble_eq_true rfl⟩ k_10 f_10 rfl rfl rfl (Nat.le_of_ble_eq_true rfl) hl.1 ⟨hc, hs⟩ dL_law_614) hS (fun H locs hP hS => ?_)
  refine m_top (y := k) h5 ?_
  exact w_tail F (t := 617) hv hP hl dL_law_617 dL_law_619 dL_law_624 dL_law_626 dL_law_629 dL_law_630 dL_law_631 dL_law_632 dL_law_634 dL_law_635 dL_law_636 dL_law_641 (by decide) (kk _ _ _ _ _ hP hS (lv_sub hl [2, 3, 4, 5, 6] rfl) hst)
set_option maxHeartbeats 4000000 in
set_option maxRecDepth 100000 in
theorem q_hole (F : LF p s m meth c b L xs g) (hL : L ≤ 2560) (hi : i + 5 ≤ L) (hB : Both l g yL_hole cL_hole 5 [((0 : Nat), (10 : Nat), (13 : Nat), (13 : Nat))] yX6_hole cX6_hole 3 (rm 5 111) n M o [.int (xs (i + 1)), .int (xs (i + 2))]) (hP : WPe g KK (ent g M o) H) (hS : va_S (AA g) s.heap H locs) (hl : lv_has ls 9 [(0, .ref b), (1, .ref (ad g (8, 0, 0))), (2, .ref (ad g (10, 0, 0))), (3, .ref (ad g (11, 0, 0))), (4, .int (nI i))]) (hc : cells + 1 ≤ 639974) (hs : slots + 6 ≤ 7176183)
    (kk : ∀ (H : Heap) (locs : List Loc) (ls : Array Slot) (M : Mem) (o : Nat → Int64), WPe g KK (ent g M o) H → va_S (AA g) s.heap H locs → lv_has ls 9 [(0, .ref b), (1, .ref (ad g (8, 0, 0))), (2, .ref (ad g (10, 0, 0))), (3, .ref (ad g (11, 0, 0))), (4, .int (nI i))] → St n M → W p l e room_1 s m #[Value.ref b] below meth c H locs (cells + 1) (slots + 6) Q (F0 m 1152 ls [])) : W p l e room_1 s m #[Value.ref b] below meth c H locs cells slots Q (F0 m 644 ls []) := by
  obtain ⟨R1, k, r, o1, M1, M2, hR, hW, hM, h5, hv, hst⟩ := hB
  obtain ⟨hC, hE, hN, hI, hX, hbl, hbA⟩ := id F
  obtain ⟨hx, hb, hml, hown, hG⟩ := id hC
  refine lv_aload_n hx hb dL_law_644 rfl (lv_at hl 1 rfl) ?_
  refine w_arg F hS (j := 1) (by decide) (by omega) hL (lv_at hl 0 rfl) (lv_at hl 4 rfl) dL_law_645 dL_law_646 dL_law_648 dL_law_649 dL_law_650 ?_
  refine w_arg F hS (j := 2) (by decide) (by omega) hL (lv_at hl 0 rfl) (lv_at hl 4 rfl) dL_law_651 dL_law_652 dL_law_654 dL_law_655 dL_law_656 ?_
  refine lv_aload_n hx hb dL_law_657 rfl (lv_at hl 3 rfl) ?_
  refine run_W hC hE hN hP hS (As := [.ref (ad g (8, 0, 0)), .int (xs (i + 1)), .int (xs (i + 2)), .ref (ad g (11, 0, 0))]) (na := 4) hW w_468 w_0 w_469 w_467 (by decide +kernel) ⟨(by omega : R1.frames + 1 ≤ 10), (by omega : 8 + (5 + 11) + R1.locals ≤ 378)⟩ rfl rfl (Nat.le_of_ble_eq_true rfl) hl.1 ⟨(by omega : cells + R1.cells ≤ 639974), (by omega : slots + R1.slots ≤ 7176183)⟩ dL_law_658 (fun H locs hP hS => ?_)
  refine W.widen (k := cells + 1) (n := slots + 6) (by omega) (by omega) ?_
  refine lv_istore (lv' := [(5, .int k), (0, .ref b), (1, .ref (ad g (8, 0, 0))), (2, .ref (ad g (10, 0, 0))), (3, .ref (ad g (11, 0, 0))), (4, .int (nI i))]) hx hb dL_law_661 hl (by decide) rfl (fun ls hl => ?_)
  refine lv_aload_n hx hb dL_law_663 rfl (lv_at hl 3 rfl) ?_
  refine w_arg F hS (j := 1) (by decide) (by omega) hL (lv_at hl 1 rfl) (lv_at hl 5 rfl) dL_law_664 dL_law_665 dL_law_667 dL_law_668 dL_law_669 ?_
  refine w_arg F hS (j := 2) (by decide) (by omega) hL (lv_at hl 1 rfl) (lv_at hl 5 rfl) dL_law_670 dL_law_671 dL_law_673 dL_law_674 dL_law_675 ?_
  refine on_i (run_V hC hE hP hS (As := [.int (xs (i + 1)), .int (xs (i + 2))]) hM cal_X6_hole w_797 ⟨Nat.le_of_ble_eq_true rfl, Nat.le_of_ble_eq_true rfl⟩ k_10 f_10 rfl rfl rfl (Nat.le_of_ble_eq_true rfl) hl.1 ⟨hc, hs⟩ dL_law_676) hS (fun H locs hP hS => ?_)
  refine lv_istore (lv' := [(6, .int r), (5, .int k), (0, .ref b), (1, .ref (ad g (8, 0, 0))), (2, .ref (ad g (10, 0, 0))), (3, .ref (ad g (11, 0, 0))), (4, .int (nI i))]) hx hb dL_law_679 hl (by decide) rfl (fun ls hl => ?_)
  refine lv_aload_n hx hb dL_law_681 rfl (lv_at hl 4 rfl) ?_
  refine on_i (run_V hC hE hP hS (As := []) (b_thr l hI hst) cal_X6_thrown w_729 ⟨Nat.le_of_ble_eq_true rfl, Nat.le_of_ble_eq_true rfl⟩ k_10 f_10 rfl rfl rfl (Nat.le_of_ble_eq_true rfl) hl.1 ⟨hc, hs⟩ dL_law_682) hS (fun H locs hP hS => ?_)
  refine m_top (y := k) h5 ?_
  exact w_tail F (t := 685) hv hP hl dL_law_685 dL_law_687 dL_law_692 dL_law_694 dL_law_697 dL_law_698 dL_law_699 dL_law_700 dL_law_702 dL_law_703 dL_law_704 dL_law_709 (by decide) (kk _ _ _ _ _ hP hS (lv_sub hl [2, 3, 4, 5, 6] rfl) hst)
set_option maxHeartbeats 4000000 in
set_option maxRecDepth 100000 in
theorem q_spearer (F : LF p s m meth c b L xs g) (hL : L ≤ 2560) (hi : i + 5 ≤ L) (hB : Both l g yL_spearer cL_spearer 5 [((0 : Nat), (10 : Nat), (13 : Nat), (13 : Nat))] yX6_spearer cX6_spearer 3 (rm 2 43) n M o [.int (xs (i + 1)), .int (xs (i + 2))]) (hP : WPe g KK (ent g M o) H) (hS : va_S (AA g) s.heap H locs) (hl : lv_has ls 9 [(0, .ref b), (1, .ref (ad g (8, 0, 0))), (2, .ref (ad g (10, 0, 0))), (3, .ref (ad g (11, 0, 0))), (4, .int (nI i))]) (hc : cells + 1 ≤ 639974) (hs : slots + 6 ≤ 7176183)
    (kk : ∀ (H : Heap) (locs : List Loc) (ls : Array Slot) (M : Mem) (o : Nat → Int64), WPe g KK (ent g M o) H → va_S (AA g) s.heap H locs → lv_has ls 9 [(0, .ref b), (1, .ref (ad g (8, 0, 0))), (2, .ref (ad g (10, 0, 0))), (3, .ref (ad g (11, 0, 0))), (4, .int (nI i))] → St n M → W p l e room_1 s m #[Value.ref b] below meth c H locs (cells + 1) (slots + 6) Q (F0 m 1152 ls [])) : W p l e room_1 s m #[Value.ref b] below meth c H locs cells slots Q (F0 m 712 ls []) := by
  obtain ⟨R1, k, r, o1, M1, M2, hR, hW, hM, h5, hv, hst⟩ := hB
  obtain ⟨hC, hE, hN, hI, hX, hbl, hbA⟩ := id F
  obtain ⟨hx, hb, hml, hown, hG⟩ := id hC
  refine lv_aload_n hx hb dL_law_712 rfl (lv_at hl 1 rfl) ?_
  refine w_arg F hS (j := 1) (by decide) (by omega) hL (lv_at hl 0 rfl) (lv_at hl 4 rfl) dL_law_713 dL_law_714 dL_law_716 dL_law_717 dL_law_718 ?_
  refine w_arg F hS (j := 2) (by decide) (by omega) hL (lv_at hl 0 rfl) (lv_at hl 4 rfl) dL_law_719 dL_law_720 dL_law_722 dL_law_723 dL_law_724 ?_
  refine lv_aload_n hx hb dL_law_725 rfl (lv_at hl 3 rfl) ?_
  refine run_W hC hE hN hP hS (As := [.ref (ad g (8, 0, 0)), .int (xs (i + 1)), .int (xs (i + 2)), .ref (ad g (11, 0, 0))]) (na := 4) hW w_476 w_0 w_477 w_475 (by decide +kernel) ⟨(by omega : R1.frames + 1 ≤ 10), (by omega : 8 + (5 + 11) + R1.locals ≤ 378)⟩ rfl rfl (Nat.le_of_ble_eq_true rfl) hl.1 ⟨(by omega : cells + R1.cells ≤ 639974), (by omega : slots + R1.slots ≤ 7176183)⟩ dL_law_726 (fun H locs hP hS => ?_)
  refine W.widen (k := cells + 1) (n := slots + 6) (by omega) (by omega) ?_
  refine lv_istore (lv' := [(5, .int k), (0, .ref b), (1, .ref (ad g (8, 0, 0))), (2, .ref (ad g (10, 0, 0))), (3, .ref (ad g (11, 0, 0))), (4, .int (nI i))]) hx hb dL_law_729 hl (by decide) rfl (fun ls hl => ?_)
  refine lv_aload_n hx hb dL_law_731 rfl (lv_at hl 3 rfl) ?_
  refine w_arg F hS (j := 1) (by decide) (by omega) hL (lv_at hl 1 rfl) (lv_at hl 5 rfl) dL_law_732 dL_law_733 dL_law_735 dL_law_736 dL_law_737 ?_
  refine w_arg F hS (j := 2) (by decide) (by omega) hL (lv_at hl 1 rfl) (lv_at hl 5 rfl) dL_law_738 dL_law_739 dL_law_741 dL_law_742 dL_law_743 ?_
  refine on_i (run_V hC hE hP hS (As := [.int (xs (i + 1)), .int (xs (i + 2))]) hM cal_X6_spearer w_822 ⟨Nat.le_of_ble_eq_true rfl, Nat.le_of_ble_eq_true rfl⟩ k_10 f_10 rfl rfl rfl (Nat.le_of_ble_eq_true rfl) hl.1 ⟨hc, hs⟩ dL_law_744) hS (fun H locs hP hS => ?_)
  refine lv_istore (lv' := [(6, .int r), (5, .int k), (0, .ref b), (1, .ref (ad g (8, 0, 0))), (2, .ref (ad g (10, 0, 0))), (3, .ref (ad g (11, 0, 0))), (4, .int (nI i))]) hx hb dL_law_747 hl (by decide) rfl (fun ls hl => ?_)
  refine lv_aload_n hx hb dL_law_749 rfl (lv_at hl 4 rfl) ?_
  refine on_i (run_V hC hE hP hS (As := []) (b_thr l hI hst) cal_X6_thrown w_729 ⟨Nat.le_of_ble_eq_true rfl, Nat.le_of_ble_eq_true rfl⟩ k_10 f_10 rfl rfl rfl (Nat.le_of_ble_eq_true rfl) hl.1 ⟨hc, hs⟩ dL_law_750) hS (fun H locs hP hS => ?_)
  refine m_top (y := k) h5 ?_
  exact w_tail F (t := 753) hv hP hl dL_law_753 dL_law_755 dL_law_760 dL_law_762 dL_law_765 dL_law_766 dL_law_767 dL_law_768 dL_law_770 dL_law_771 dL_law_772 dL_law_777 (by decide) (kk _ _ _ _ _ hP hS (lv_sub hl [2, 3, 4, 5, 6] rfl) hst)
set_option maxHeartbeats 4000000 in
set_option maxRecDepth 100000 in
theorem q_about (F : LF p s m meth c b L xs g) (hL : L ≤ 2560) (hi : i + 5 ≤ L) (hB : Both l g yL_about cL_about 5 [((0 : Nat), (10 : Nat), (13 : Nat), (13 : Nat))] yX6_about cX6_about 3 (rm 1 22) n M o [.int (xs (i + 1)), .int (xs (i + 2))]) (hP : WPe g KK (ent g M o) H) (hS : va_S (AA g) s.heap H locs) (hl : lv_has ls 9 [(0, .ref b), (1, .ref (ad g (8, 0, 0))), (2, .ref (ad g (10, 0, 0))), (3, .ref (ad g (11, 0, 0))), (4, .int (nI i))]) (hc : cells + 1 ≤ 639974) (hs : slots + 6 ≤ 7176183)
    (kk : ∀ (H : Heap) (locs : List Loc) (ls : Array Slot) (M : Mem) (o : Nat → Int64), WPe g KK (ent g M o) H → va_S (AA g) s.heap H locs → lv_has ls 9 [(0, .ref b), (1, .ref (ad g (8, 0, 0))), (2, .ref (ad g (10, 0, 0))), (3, .ref (ad g (11, 0, 0))), (4, .int (nI i))] → St n M → W p l e room_1 s m #[Value.ref b] below meth c H locs (cells + 1) (slots + 6) Q (F0 m 1152 ls [])) : W p l e room_1 s m #[Value.ref b] below meth c H locs cells slots Q (F0 m 780 ls []) := by
  obtain ⟨R1, k, r, o1, M1, M2, hR, hW, hM, h5, hv, hst⟩ := hB
  obtain ⟨hC, hE, hN, hI, hX, hbl, hbA⟩ := id F
  obtain ⟨hx, hb, hml, hown, hG⟩ := id hC
  refine lv_aload_n hx hb dL_law_780 rfl (lv_at hl 1 rfl) ?_
  refine w_arg F hS (j := 1) (by decide) (by omega) hL (lv_at hl 0 rfl) (lv_at hl 4 rfl) dL_law_781 dL_law_782 dL_law_784 dL_law_785 dL_law_786 ?_
  refine w_arg F hS (j := 2) (by decide) (by omega) hL (lv_at hl 0 rfl) (lv_at hl 4 rfl) dL_law_787 dL_law_788 dL_law_790 dL_law_791 dL_law_792 ?_
  refine lv_aload_n hx hb dL_law_793 rfl (lv_at hl 3 rfl) ?_
  refine run_W hC hE hN hP hS (As := [.ref (ad g (8, 0, 0)), .int (xs (i + 1)), .int (xs (i + 2)), .ref (ad g (11, 0, 0))]) (na := 4) hW w_484 w_0 w_485 w_483 (by decide +kernel) ⟨(by omega : R1.frames + 1 ≤ 10), (by omega : 8 + (5 + 11) + R1.locals ≤ 378)⟩ rfl rfl (Nat.le_of_ble_eq_true rfl) hl.1 ⟨(by omega : cells + R1.cells ≤ 639974), (by omega : slots + R1.slots ≤ 7176183)⟩ dL_law_794 (fun H locs hP hS => ?_)
  refine W.widen (k := cells + 1) (n := slots + 6) (by omega) (by omega) ?_
  refine lv_istore (lv' := [(5, .int k), (0, .ref b), (1, .ref (ad g (8, 0, 0))), (2, .ref (ad g (10, 0, 0))), (3, .ref (ad g (11, 0, 0))), (4, .int (nI i))]) hx hb dL_law_797 hl (by decide) rfl (fun ls hl => ?_)
  refine lv_aload_n hx hb dL_law_799 rfl (lv_at hl 3 rfl) ?_
  refine w_arg F hS (j := 1) (by decide) (by omega) hL (lv_at hl 1 rfl) (lv_at hl 5 rfl) dL_law_800 dL_law_801 dL_law_803 dL_law_804 dL_law_805 ?_
  refine w_arg F hS (j := 2) (by decide) (by omega) hL (lv_at hl 1 rfl) (lv_at hl 5 rfl) dL_law_806 dL_law_807 dL_law_809 dL_law_810 dL_law_811 ?_
  refine on_i (run_V hC hE hP hS (As := [.int (xs (i + 1)), .int (xs (i + 2))]) hM cal_X6_about w_830 ⟨Nat.le_of_ble_eq_true rfl, Nat.le_of_ble_eq_true rfl⟩ k_10 f_10 rfl rfl rfl (Nat.le_of_ble_eq_true rfl) hl.1 ⟨hc, hs⟩ dL_law_812) hS (fun H locs hP hS => ?_)
  refine lv_istore (lv' := [(6, .int r), (5, .int k), (0, .ref b), (1, .ref (ad g (8, 0, 0))), (2, .ref (ad g (10, 0, 0))), (3, .ref (ad g (11, 0, 0))), (4, .int (nI i))]) hx hb dL_law_815 hl (by decide) rfl (fun ls hl => ?_)
  refine lv_aload_n hx hb dL_law_817 rfl (lv_at hl 4 rfl) ?_
  refine on_i (run_V hC hE hP hS (As := []) (b_thr l hI hst) cal_X6_thrown w_729 ⟨Nat.le_of_ble_eq_true rfl, Nat.le_of_ble_eq_true rfl⟩ k_10 f_10 rfl rfl rfl (Nat.le_of_ble_eq_true rfl) hl.1 ⟨hc, hs⟩ dL_law_818) hS (fun H locs hP hS => ?_)
  refine m_top (y := k) h5 ?_
  exact w_tail F (t := 821) hv hP hl dL_law_821 dL_law_823 dL_law_828 dL_law_830 dL_law_833 dL_law_834 dL_law_835 dL_law_836 dL_law_838 dL_law_839 dL_law_840 dL_law_845 (by decide) (kk _ _ _ _ _ hP hS (lv_sub hl [2, 3, 4, 5, 6] rfl) hst)
set_option maxHeartbeats 4000000 in
set_option maxRecDepth 100000 in
theorem q_count (F : LF p s m meth c b L xs g) (hL : L ≤ 2560) (hi : i + 5 ≤ L) (hB : Both l g yL_count cL_count 4 [((0 : Nat), (9 : Nat), (12 : Nat), (13 : Nat))] yX6_count cX6_count 2 (rm 2 45) n M o [.int (xs (i + 1))]) (hP : WPe g KK (ent g M o) H) (hS : va_S (AA g) s.heap H locs) (hl : lv_has ls 9 [(0, .ref b), (1, .ref (ad g (8, 0, 0))), (2, .ref (ad g (10, 0, 0))), (3, .ref (ad g (11, 0, 0))), (4, .int (nI i))]) (hc : cells + 1 ≤ 639974) (hs : slots + 6 ≤ 7176183)
    (kk : ∀ (H : Heap) (locs : List Loc) (ls : Array Slot) (M : Mem) (o : Nat → Int64), WPe g KK (ent g M o) H → va_S (AA g) s.heap H locs → lv_has ls 9 [(0, .ref b), (1, .ref (ad g (8, 0, 0))), (2, .ref (ad g (10, 0, 0))), (3, .ref (ad g (11, 0, 0))), (4, .int (nI i))] → St n M → W p l e room_1 s m #[Value.ref b] below meth c H locs (cells + 1) (slots + 6) Q (F0 m 1152 ls [])) : W p l e room_1 s m #[Value.ref b] below meth c H locs cells slots Q (F0 m 848 ls []) := by
  obtain ⟨R1, k, r, o1, M1, M2, hR, hW, hM, h5, hv, hst⟩ := hB
  obtain ⟨hC, hE, hN, hI, hX, hbl, hbA⟩ := id F
  obtain ⟨hx, hb, hml, hown, hG⟩ := id hC
  refine lv_aload_n hx hb dL_law_848 rfl (lv_at hl 1 rfl) ?_
  refine w_arg F hS (j := 1) (by decide) (by omega) hL (lv_at hl 0 rfl) (lv_at hl 4 rfl) dL_law_849 dL_law_850 dL_law_852 dL_law_853 dL_law_854 ?_
  refine lv_aload_n hx hb dL_law_855 rfl (lv_at hl 3 rfl) ?_
  refine run_W hC hE hN hP hS (As := [.ref (ad g (8, 0, 0)), .int (xs (i + 1)), .ref (ad g (11, 0, 0))]) (na := 3) hW w_496 w_0 w_497 w_495 (by decide +kernel) ⟨(by omega : R1.frames + 1 ≤ 10), (by omega : 8 + (4 + 11) + R1.locals ≤ 378)⟩ rfl rfl (Nat.le_of_ble_eq_true rfl) hl.1 ⟨(by omega : cells + R1.cells ≤ 639974), (by omega : slots + R1.slots ≤ 7176183)⟩ dL_law_856 (fun H locs hP hS => ?_)
  refine W.widen (k := cells + 1) (n := slots + 6) (by omega) (by omega) ?_
  refine lv_istore (lv' := [(5, .int k), (0, .ref b), (1, .ref (ad g (8, 0, 0))), (2, .ref (ad g (10, 0, 0))), (3, .ref (ad g (11, 0, 0))), (4, .int (nI i))]) hx hb dL_law_859 hl (by decide) rfl (fun ls hl => ?_)
  refine lv_aload_n hx hb dL_law_861 rfl (lv_at hl 3 rfl) ?_
  refine w_arg F hS (j := 1) (by decide) (by omega) hL (lv_at hl 1 rfl) (lv_at hl 5 rfl) dL_law_862 dL_law_863 dL_law_865 dL_law_866 dL_law_867 ?_
  refine on_i (run_V hC hE hP hS (As := [.int (xs (i + 1))]) hM cal_X6_count w_838 ⟨Nat.le_of_ble_eq_true rfl, Nat.le_of_ble_eq_true rfl⟩ k_10 f_10 rfl rfl rfl (Nat.le_of_ble_eq_true rfl) hl.1 ⟨hc, hs⟩ dL_law_868) hS (fun H locs hP hS => ?_)
  refine lv_istore (lv' := [(6, .int r), (5, .int k), (0, .ref b), (1, .ref (ad g (8, 0, 0))), (2, .ref (ad g (10, 0, 0))), (3, .ref (ad g (11, 0, 0))), (4, .int (nI i))]) hx hb dL_law_871 hl (by decide) rfl (fun ls hl => ?_)
  refine lv_aload_n hx hb dL_law_873 rfl (lv_at hl 4 rfl) ?_
  refine on_i (run_V hC hE hP hS (As := []) (b_thr l hI hst) cal_X6_thrown w_729 ⟨Nat.le_of_ble_eq_true rfl, Nat.le_of_ble_eq_true rfl⟩ k_10 f_10 rfl rfl rfl (Nat.le_of_ble_eq_true rfl) hl.1 ⟨hc, hs⟩ dL_law_874) hS (fun H locs hP hS => ?_)
  refine m_top (y := k) h5 ?_
  exact w_tail F (t := 877) hv hP hl dL_law_877 dL_law_879 dL_law_884 dL_law_886 dL_law_889 dL_law_890 dL_law_891 dL_law_892 dL_law_894 dL_law_895 dL_law_896 dL_law_901 (by decide) (kk _ _ _ _ _ hP hS (lv_sub hl [2, 3, 4, 5, 6] rfl) hst)
set_option maxHeartbeats 4000000 in
set_option maxRecDepth 100000 in
theorem q_pass (F : LF p s m meth c b L xs g) (hL : L ≤ 2560) (hi : i + 5 ≤ L) (hB : Both l g yL_pass cL_pass 4 [((0 : Nat), (9 : Nat), (12 : Nat), (15 : Nat))] yX6_pass cX6_pass 2 (rm 7 161) n M o [.int (xs (i + 1))]) (hP : WPe g KK (ent g M o) H) (hS : va_S (AA g) s.heap H locs) (hl : lv_has ls 9 [(0, .ref b), (1, .ref (ad g (8, 0, 0))), (2, .ref (ad g (10, 0, 0))), (3, .ref (ad g (11, 0, 0))), (4, .int (nI i))]) (hc : cells + 1 ≤ 639974) (hs : slots + 6 ≤ 7176183)
    (kk : ∀ (H : Heap) (locs : List Loc) (ls : Array Slot) (M : Mem) (o : Nat → Int64), WPe g KK (ent g M o) H → va_S (AA g) s.heap H locs → lv_has ls 9 [(0, .ref b), (1, .ref (ad g (8, 0, 0))), (2, .ref (ad g (10, 0, 0))), (3, .ref (ad g (11, 0, 0))), (4, .int (nI i))] → St n M → W p l e room_1 s m #[Value.ref b] below meth c H locs (cells + 1) (slots + 6) Q (F0 m 1152 ls [])) : W p l e room_1 s m #[Value.ref b] below meth c H locs cells slots Q (F0 m 904 ls []) := by
  obtain ⟨R1, k, r, o1, M1, M2, hR, hW, hM, h5, hv, hst⟩ := hB
  obtain ⟨hC, hE, hN, hI, hX, hbl, hbA⟩ := id F
  obtain ⟨hx, hb, hml, hown, hG⟩ := id hC
  refine lv_aload_n hx hb dL_law_904 rfl (lv_at hl 1 rfl) ?_
  refine w_arg F hS (j := 1) (by decide) (by omega) hL (lv_at hl 0 rfl) (lv_at hl 4 rfl) dL_law_905 dL_law_906 dL_law_908 dL_law_909 dL_law_910 ?_
  refine lv_aload_n hx hb dL_law_911 rfl (lv_at hl 3 rfl) ?_
  refine run_W hC hE hN hP hS (As := [.ref (ad g (8, 0, 0)), .int (xs (i + 1)), .ref (ad g (11, 0, 0))]) (na := 3) hW w_504 w_0 w_505 w_503 (by decide +kernel) ⟨(by omega : R1.frames + 1 ≤ 10), (by omega : 8 + (4 + 11) + R1.locals ≤ 378)⟩ rfl rfl (Nat.le_of_ble_eq_true rfl) hl.1 ⟨(by omega : cells + R1.cells ≤ 639974), (by omega : slots + R1.slots ≤ 7176183)⟩ dL_law_912 (fun H locs hP hS => ?_)
  refine W.widen (k := cells + 1) (n := slots + 6) (by omega) (by omega) ?_
  refine lv_istore (lv' := [(5, .int k), (0, .ref b), (1, .ref (ad g (8, 0, 0))), (2, .ref (ad g (10, 0, 0))), (3, .ref (ad g (11, 0, 0))), (4, .int (nI i))]) hx hb dL_law_915 hl (by decide) rfl (fun ls hl => ?_)
  refine lv_aload_n hx hb dL_law_917 rfl (lv_at hl 3 rfl) ?_
  refine w_arg F hS (j := 1) (by decide) (by omega) hL (lv_at hl 1 rfl) (lv_at hl 5 rfl) dL_law_918 dL_law_919 dL_law_921 dL_law_922 dL_law_923 ?_
  refine on_i (run_V hC hE hP hS (As := [.int (xs (i + 1))]) hM cal_X6_pass w_850 ⟨Nat.le_of_ble_eq_true rfl, Nat.le_of_ble_eq_true rfl⟩ k_10 f_10 rfl rfl rfl (Nat.le_of_ble_eq_true rfl) hl.1 ⟨hc, hs⟩ dL_law_924) hS (fun H locs hP hS => ?_)
  refine lv_istore (lv' := [(6, .int r), (5, .int k), (0, .ref b), (1, .ref (ad g (8, 0, 0))), (2, .ref (ad g (10, 0, 0))), (3, .ref (ad g (11, 0, 0))), (4, .int (nI i))]) hx hb dL_law_927 hl (by decide) rfl (fun ls hl => ?_)
  refine lv_aload_n hx hb dL_law_929 rfl (lv_at hl 4 rfl) ?_
  refine on_i (run_V hC hE hP hS (As := []) (b_thr l hI hst) cal_X6_thrown w_729 ⟨Nat.le_of_ble_eq_true rfl, Nat.le_of_ble_eq_true rfl⟩ k_10 f_10 rfl rfl rfl (Nat.le_of_ble_eq_true rfl) hl.1 ⟨hc, hs⟩ dL_law_930) hS (fun H locs hP hS => ?_)
  refine m_top (y := k) h5 ?_
  exact w_tail F (t := 933) hv hP hl dL_law_933 dL_law_935 dL_law_940 dL_law_942 dL_law_945 dL_law_946 dL_law_947 dL_law_948 dL_law_950 dL_law_951 dL_law_952 dL_law_957 (by decide) (kk _ _ _ _ _ hP hS (lv_sub hl [2, 3, 4, 5, 6] rfl) hst)
set_option maxHeartbeats 4000000 in
set_option maxRecDepth 100000 in
theorem q_foresee (F : LF p s m meth c b L xs g) (hL : L ≤ 2560) (hi : i + 5 ≤ L) (hB : Both l g yL_foresee cL_foresee 5 [((0 : Nat), (10 : Nat), (13 : Nat), (15 : Nat)), ((0 : Nat), (10 : Nat), (17 : Nat), (13 : Nat))] yX6_foresee cX6_foresee 3 (rm 7 161) n M o [.int (xs (i + 1)), .int (xs (i + 2))]) (hP : WPe g KK (ent g M o) H) (hS : va_S (AA g) s.heap H locs) (hl : lv_has ls 9 [(0, .ref b), (1, .ref (ad g (8, 0, 0))), (2, .ref (ad g (10, 0, 0))), (3, .ref (ad g (11, 0, 0))), (4, .int (nI i))]) (hc : cells + 1 ≤ 639974) (hs : slots + 6 ≤ 7176183)
    (kk : ∀ (H : Heap) (locs : List Loc) (ls : Array Slot) (M : Mem) (o : Nat → Int64), WPe g KK (ent g M o) H → va_S (AA g) s.heap H locs → lv_has ls 9 [(0, .ref b), (1, .ref (ad g (8, 0, 0))), (2, .ref (ad g (10, 0, 0))), (3, .ref (ad g (11, 0, 0))), (4, .int (nI i))] → St n M → W p l e room_1 s m #[Value.ref b] below meth c H locs (cells + 1) (slots + 6) Q (F0 m 1152 ls [])) : W p l e room_1 s m #[Value.ref b] below meth c H locs cells slots Q (F0 m 973 ls []) := by
  obtain ⟨R1, k, r, o1, M1, M2, hR, hW, hM, h5, hv, hst⟩ := hB
  obtain ⟨hC, hE, hN, hI, hX, hbl, hbA⟩ := id F
  obtain ⟨hx, hb, hml, hown, hG⟩ := id hC
  refine lv_aload_n hx hb dL_law_973 rfl (lv_at hl 1 rfl) ?_
  refine w_arg F hS (j := 1) (by decide) (by omega) hL (lv_at hl 0 rfl) (lv_at hl 4 rfl) dL_law_974 dL_law_975 dL_law_977 dL_law_978 dL_law_979 ?_
  refine w_arg F hS (j := 2) (by decide) (by omega) hL (lv_at hl 0 rfl) (lv_at hl 4 rfl) dL_law_980 dL_law_981 dL_law_983 dL_law_984 dL_law_985 ?_
  refine lv_aload_n hx hb dL_law_986 rfl (lv_at hl 3 rfl) ?_
  refine run_W hC hE hN hP hS (As := [.ref (ad g (8, 0, 0)), .int (xs (i + 1)), .int (xs (i + 2)), .ref (ad g (11, 0, 0))]) (na := 4) hW w_582 w_0 w_583 w_581 (by decide +kernel) ⟨(by omega : R1.frames + 1 ≤ 10), (by omega : 8 + (5 + 11) + R1.locals ≤ 378)⟩ rfl rfl (Nat.le_of_ble_eq_true rfl) hl.1 ⟨(by omega : cells + R1.cells ≤ 639974), (by omega : slots + R1.slots ≤ 7176183)⟩ dL_law_987 (fun H locs hP hS => ?_)
  refine W.widen (k := cells + 1) (n := slots + 6) (by omega) (by omega) ?_
  refine lv_istore (lv' := [(5, .int k), (0, .ref b), (1, .ref (ad g (8, 0, 0))), (2, .ref (ad g (10, 0, 0))), (3, .ref (ad g (11, 0, 0))), (4, .int (nI i))]) hx hb dL_law_990 hl (by decide) rfl (fun ls hl => ?_)
  refine lv_aload_n hx hb dL_law_992 rfl (lv_at hl 3 rfl) ?_
  refine w_arg F hS (j := 1) (by decide) (by omega) hL (lv_at hl 1 rfl) (lv_at hl 5 rfl) dL_law_993 dL_law_994 dL_law_996 dL_law_997 dL_law_998 ?_
  refine w_arg F hS (j := 2) (by decide) (by omega) hL (lv_at hl 1 rfl) (lv_at hl 5 rfl) dL_law_999 dL_law_1000 dL_law_1002 dL_law_1003 dL_law_1004 ?_
  refine on_i (run_V hC hE hP hS (As := [.int (xs (i + 1)), .int (xs (i + 2))]) hM cal_X6_foresee w_899 ⟨Nat.le_of_ble_eq_true rfl, Nat.le_of_ble_eq_true rfl⟩ k_10 f_10 rfl rfl rfl (Nat.le_of_ble_eq_true rfl) hl.1 ⟨hc, hs⟩ dL_law_1005) hS (fun H locs hP hS => ?_)
  refine lv_istore (lv' := [(6, .int r), (5, .int k), (0, .ref b), (1, .ref (ad g (8, 0, 0))), (2, .ref (ad g (10, 0, 0))), (3, .ref (ad g (11, 0, 0))), (4, .int (nI i))]) hx hb dL_law_1008 hl (by decide) rfl (fun ls hl => ?_)
  refine lv_aload_n hx hb dL_law_1010 rfl (lv_at hl 4 rfl) ?_
  refine on_i (run_V hC hE hP hS (As := []) (b_thr l hI hst) cal_X6_thrown w_729 ⟨Nat.le_of_ble_eq_true rfl, Nat.le_of_ble_eq_true rfl⟩ k_10 f_10 rfl rfl rfl (Nat.le_of_ble_eq_true rfl) hl.1 ⟨hc, hs⟩ dL_law_1011) hS (fun H locs hP hS => ?_)
  refine m_top (y := k) h5 ?_
  exact w_tail F (t := 1014) hv hP hl dL_law_1014 dL_law_1016 dL_law_1021 dL_law_1023 dL_law_1026 dL_law_1027 dL_law_1028 dL_law_1029 dL_law_1031 dL_law_1032 dL_law_1033 dL_law_1038 (by decide) (kk _ _ _ _ _ hP hS (lv_sub hl [2, 3, 4, 5, 6] rfl) hst)
set_option maxHeartbeats 4000000 in
set_option maxRecDepth 100000 in
theorem q_advise (F : LF p s m meth c b L xs g) (hL : L ≤ 2560) (hi : i + 5 ≤ L) (hB : Both l g yL_advise cL_advise 4 [((0 : Nat), (9 : Nat), (12 : Nat), (13 : Nat))] yX6_advise cX6_advise 5 (rm 7 161) n M o [.int (xs (i + 1))]) (hP : WPe g KK (ent g M o) H) (hS : va_S (AA g) s.heap H locs) (hl : lv_has ls 9 [(0, .ref b), (1, .ref (ad g (8, 0, 0))), (2, .ref (ad g (10, 0, 0))), (3, .ref (ad g (11, 0, 0))), (4, .int (nI i))]) (hc : cells + 1 ≤ 639974) (hs : slots + 6 ≤ 7176183)
    (kk : ∀ (H : Heap) (locs : List Loc) (ls : Array Slot) (M : Mem) (o : Nat → Int64), WPe g KK (ent g M o) H → va_S (AA g) s.heap H locs → lv_has ls 9 [(0, .ref b), (1, .ref (ad g (8, 0, 0))), (2, .ref (ad g (10, 0, 0))), (3, .ref (ad g (11, 0, 0))), (4, .int (nI i))] → St n M → W p l e room_1 s m #[Value.ref b] below meth c H locs (cells + 1) (slots + 6) Q (F0 m 1152 ls [])) : W p l e room_1 s m #[Value.ref b] below meth c H locs cells slots Q (F0 m 1041 ls []) := by
  obtain ⟨R1, k, r, o1, M1, M2, hR, hW, hM, h5, hv, hst⟩ := hB
  obtain ⟨hC, hE, hN, hI, hX, hbl, hbA⟩ := id F
  obtain ⟨hx, hb, hml, hown, hG⟩ := id hC
  refine lv_aload_n hx hb dL_law_1041 rfl (lv_at hl 1 rfl) ?_
  refine w_arg F hS (j := 1) (by decide) (by omega) hL (lv_at hl 0 rfl) (lv_at hl 4 rfl) dL_law_1042 dL_law_1043 dL_law_1045 dL_law_1046 dL_law_1047 ?_
  refine lv_aload_n hx hb dL_law_1048 rfl (lv_at hl 3 rfl) ?_
  refine run_W hC hE hN hP hS (As := [.ref (ad g (8, 0, 0)), .int (xs (i + 1)), .ref (ad g (11, 0, 0))]) (na := 3) hW w_609 w_0 w_610 w_608 (by decide +kernel) ⟨(by omega : R1.frames + 1 ≤ 10), (by omega : 8 + (4 + 11) + R1.locals ≤ 378)⟩ rfl rfl (Nat.le_of_ble_eq_true rfl) hl.1 ⟨(by omega : cells + R1.cells ≤ 639974), (by omega : slots + R1.slots ≤ 7176183)⟩ dL_law_1049 (fun H locs hP hS => ?_)
  refine W.widen (k := cells + 1) (n := slots + 6) (by omega) (by omega) ?_
  refine lv_istore (lv' := [(5, .int k), (0, .ref b), (1, .ref (ad g (8, 0, 0))), (2, .ref (ad g (10, 0, 0))), (3, .ref (ad g (11, 0, 0))), (4, .int (nI i))]) hx hb dL_law_1052 hl (by decide) rfl (fun ls hl => ?_)
  refine lv_aload_n hx hb dL_law_1054 rfl (lv_at hl 3 rfl) ?_
  refine w_arg F hS (j := 1) (by decide) (by omega) hL (lv_at hl 1 rfl) (lv_at hl 5 rfl) dL_law_1055 dL_law_1056 dL_law_1058 dL_law_1059 dL_law_1060 ?_
  refine on_i (run_V hC hE hP hS (As := [.int (xs (i + 1))]) hM cal_X6_advise w_914 ⟨Nat.le_of_ble_eq_true rfl, Nat.le_of_ble_eq_true rfl⟩ k_10 f_10 rfl rfl rfl (Nat.le_of_ble_eq_true rfl) hl.1 ⟨hc, hs⟩ dL_law_1061) hS (fun H locs hP hS => ?_)
  refine lv_istore (lv' := [(6, .int r), (5, .int k), (0, .ref b), (1, .ref (ad g (8, 0, 0))), (2, .ref (ad g (10, 0, 0))), (3, .ref (ad g (11, 0, 0))), (4, .int (nI i))]) hx hb dL_law_1064 hl (by decide) rfl (fun ls hl => ?_)
  refine lv_aload_n hx hb dL_law_1066 rfl (lv_at hl 4 rfl) ?_
  refine on_i (run_V hC hE hP hS (As := []) (b_thr l hI hst) cal_X6_thrown w_729 ⟨Nat.le_of_ble_eq_true rfl, Nat.le_of_ble_eq_true rfl⟩ k_10 f_10 rfl rfl rfl (Nat.le_of_ble_eq_true rfl) hl.1 ⟨hc, hs⟩ dL_law_1067) hS (fun H locs hP hS => ?_)
  refine m_top (y := k) h5 ?_
  exact w_tail F (t := 1070) hv hP hl dL_law_1070 dL_law_1072 dL_law_1077 dL_law_1079 dL_law_1082 dL_law_1083 dL_law_1084 dL_law_1085 dL_law_1087 dL_law_1088 dL_law_1089 dL_law_1094 (by decide) (kk _ _ _ _ _ hP hS (lv_sub hl [2, 3, 4, 5, 6] rfl) hst)
set_option maxHeartbeats 4000000 in
set_option maxRecDepth 100000 in
theorem q_bears (F : LF p s m meth c b L xs g) (h2n : 200 ≤ n) (h : St (40 + n) M) (hP : WPe g KK (ent g M o) H) (hS : va_S (AA g) s.heap H locs) (hl : lv_has ls 9 [(0, .ref b), (1, .ref (ad g (8, 0, 0))), (2, .ref (ad g (10, 0, 0))), (3, .ref (ad g (11, 0, 0))), (4, .int (nI i))]) (hc : cells + 1 ≤ 639974) (hs : slots + 6 ≤ 7176183)
    (kk : ∀ (H : Heap) (locs : List Loc) (ls : Array Slot) (M : Mem) (o : Nat → Int64), WPe g KK (ent g M o) H → va_S (AA g) s.heap H locs → lv_has ls 9 [(0, .ref b), (1, .ref (ad g (8, 0, 0))), (2, .ref (ad g (10, 0, 0))), (3, .ref (ad g (11, 0, 0))), (4, .int (nI i))] → St n M → W p l e room_1 s m #[Value.ref b] below meth c H locs (cells + 1) (slots + 6) Q (F0 m 1152 ls [])) : W p l e room_1 s m #[Value.ref b] below meth c H locs cells slots Q (F0 m 960 ls []) := by
  obtain ⟨hC, hE, hN, hI, hX, hbl, hbA⟩ := id F
  obtain ⟨hx, hb, hml, hown, hG⟩ := id hC
  obtain ⟨r, M2, hA, hM, hst⟩ := b_bears l hI h2n h (o := o)
  refine W.widen (k := cells + 1) (n := slots + 6) (by omega) (by omega) ?_
  refine lv_aload_n hx hb dL_law_960 rfl (lv_at hl 1 rfl) ?_
  refine on_i (run_V hC hE hP hS (As := []) hA cal_X4_bears w_166 ⟨Nat.le_of_ble_eq_true rfl, Nat.le_of_ble_eq_true rfl⟩ k_8 f_8 rfl rfl rfl (Nat.le_of_ble_eq_true rfl) hl.1 ⟨hc, hs⟩ dL_law_961) hS (fun H locs hP hS => ?_)
  refine lv_aload_n hx hb dL_law_964 rfl (lv_at hl 2 rfl) ?_
  refine on_i (run_V hC hE hP hS (As := []) hM cal_X6_bears w_894 ⟨Nat.le_of_ble_eq_true rfl, Nat.le_of_ble_eq_true rfl⟩ k_10 f_10 rfl rfl rfl (Nat.le_of_ble_eq_true rfl) hl.1 ⟨hc, hs⟩ dL_law_965) hS (fun H locs hP hS => ?_)
  exact lv_icmp_eq (tgt := 1152) hx hb dL_law_968 (by decide) (fun _ => kk _ _ _ _ _ hP hS hl hst) (fun q => absurd rfl q)
set_option maxHeartbeats 4000000 in
set_option maxRecDepth 100000 in
theorem q_digest (F : LF p s m meth c b L xs g)  (h : St (40 + n) M) (hP : WPe g KK (ent g M o) H) (hS : va_S (AA g) s.heap H locs) (hl : lv_has ls 9 [(0, .ref b), (1, .ref (ad g (8, 0, 0))), (2, .ref (ad g (10, 0, 0))), (3, .ref (ad g (11, 0, 0))), (4, .int (nI i))]) (hc : cells + 1 ≤ 639974) (hs : slots + 6 ≤ 7176183)
    (kk : ∀ (H : Heap) (locs : List Loc) (ls : Array Slot) (M : Mem) (o : Nat → Int64), WPe g KK (ent g M o) H → va_S (AA g) s.heap H locs → lv_has ls 9 [(0, .ref b), (1, .ref (ad g (8, 0, 0))), (2, .ref (ad g (10, 0, 0))), (3, .ref (ad g (11, 0, 0))), (4, .int (nI i))] → St n M → W p l e room_1 s m #[Value.ref b] below meth c H locs (cells + 1) (slots + 6) Q (F0 m 1152 ls [])) : W p l e room_1 s m #[Value.ref b] below meth c H locs cells slots Q (F0 m 1138 ls []) := by
  obtain ⟨hC, hE, hN, hI, hX, hbl, hbA⟩ := id F
  obtain ⟨hx, hb, hml, hown, hG⟩ := id hC
  obtain ⟨r, M2, hA, hM, hst⟩ := b_digest l hI h (o := o)
  refine W.widen (k := cells + 1) (n := slots + 6) (by omega) (by omega) ?_
  refine lv_aload_n hx hb dL_law_1138 rfl (lv_at hl 1 rfl) ?_
  refine on_l (run_V hC hE hP hS (As := []) hA cal_X4_digest w_193 ⟨Nat.le_of_ble_eq_true rfl, Nat.le_of_ble_eq_true rfl⟩ k_8 f_8 rfl rfl rfl (Nat.le_of_ble_eq_true rfl) hl.1 ⟨hc, hs⟩ dL_law_1139) hS (fun H locs hP hS => ?_)
  refine lv_aload_n hx hb dL_law_1142 rfl (lv_at hl 2 rfl) ?_
  refine on_l (run_V hC hE hP hS (As := []) hM cal_X6_digest w_923 ⟨Nat.le_of_ble_eq_true rfl, Nat.le_of_ble_eq_true rfl⟩ k_10 f_10 rfl rfl rfl (Nat.le_of_ble_eq_true rfl) hl.1 ⟨hc, hs⟩ dL_law_1143) hS (fun H locs hP hS => ?_)
  refine W.lcmp hx hb dL_law_1146 ?_
  rw [lg_self]
  exact lv_if_eq (tgt := 1152) hx hb dL_law_1147 (by decide) (fun _ => kk _ _ _ _ _ hP hS hl hst) (fun q => absurd rfl q)
set_option maxHeartbeats 4000000 in
set_option maxRecDepth 100000 in
theorem q_mean (F : LF p s m meth c b L xs g)  (h : St (40 + n) M) (hP : WPe g KK (ent g M o) H) (hS : va_S (AA g) s.heap H locs) (hl : lv_has ls 9 [(0, .ref b), (1, .ref (ad g (8, 0, 0))), (2, .ref (ad g (10, 0, 0))), (3, .ref (ad g (11, 0, 0))), (4, .int (nI i))]) (hc : cells + 1 ≤ 639974) (hs : slots + 6 ≤ 7176183)
    (kk : ∀ (H : Heap) (locs : List Loc) (ls : Array Slot) (M : Mem) (o : Nat → Int64), WPe g KK (ent g M o) H → va_S (AA g) s.heap H locs → lv_has ls 9 [(0, .ref b), (1, .ref (ad g (8, 0, 0))), (2, .ref (ad g (10, 0, 0))), (3, .ref (ad g (11, 0, 0))), (4, .int (nI i))] → St n M → W p l e room_1 s m #[Value.ref b] below meth c H locs (cells + 1) (slots + 6) Q (F0 m 1152 ls [])) : W p l e room_1 s m #[Value.ref b] below meth c H locs cells slots Q (F0 m 1097 ls []) := by
  obtain ⟨hC, hE, hN, hI, hX, hbl, hbA⟩ := id F
  obtain ⟨hx, hb, hml, hown, hG⟩ := id hC
  obtain ⟨r, M2, hA, hM, hst⟩ := b_mean l hI h (o := o)
  refine W.widen (k := cells + 1) (n := slots + 6) (by omega) (by omega) ?_
  refine lv_aload_n hx hb dL_law_1097 rfl (lv_at hl 1 rfl) ?_
  refine on_d (run_V hC hE hP hS (As := []) hA cal_X4_mean w_189 ⟨Nat.le_of_ble_eq_true rfl, Nat.le_of_ble_eq_true rfl⟩ k_8 f_8 rfl rfl rfl (Nat.le_of_ble_eq_true rfl) hl.1 ⟨hc, hs⟩ dL_law_1098) hS (fun H locs hP hS => ?_)
  refine lv_dstore (lv' := [(5, .double r), (0, .ref b), (1, .ref (ad g (8, 0, 0))), (2, .ref (ad g (10, 0, 0))), (3, .ref (ad g (11, 0, 0))), (4, .int (nI i))]) hx hb dL_law_1101 hl (by decide) rfl (fun ls hl => ?_)
  refine lv_aload_n hx hb dL_law_1103 rfl (lv_at hl 3 rfl) ?_
  refine on_d (run_V hC hE hP hS (As := []) hM cal_X6_mean w_918 ⟨Nat.le_of_ble_eq_true rfl, Nat.le_of_ble_eq_true rfl⟩ k_10 f_10 rfl rfl rfl (Nat.le_of_ble_eq_true rfl) hl.1 ⟨hc, hs⟩ dL_law_1104) hS (fun H locs hP hS => ?_)
  refine lv_dstore (lv' := [(7, .double r), (5, .double r), (0, .ref b), (1, .ref (ad g (8, 0, 0))), (2, .ref (ad g (10, 0, 0))), (3, .ref (ad g (11, 0, 0))), (4, .int (nI i))]) hx hb dL_law_1107 hl (by decide) rfl (fun ls hl => ?_)
  have hend : ∀ ls : Array Slot, lv_has ls 9 [(7, .double r), (5, .double r), (0, .ref b), (1, .ref (ad g (8, 0, 0))), (2, .ref (ad g (10, 0, 0))), (3, .ref (ad g (11, 0, 0))), (4, .int (nI i))] → W p l e room_1 s m #[Value.ref b] below meth c H locs (cells + 1) (slots + 6) Q (F0 m 1135 ls []) := fun ls hl => lv_goto (tgt := 1152) hx hb dL_law_1135 (by decide) (kk _ _ _ _ _ hP hS (lv_sub hl [2, 3, 4, 5, 6] rfl) hst)
  obtain ⟨v, hv0⟩ : ∃ v, v = Op.cmpValue (FP.dcmp r r) CmpOp.l := ⟨_, rfl⟩
  refine lv_dload hx hb dL_law_1109 (lv_at hl 1 rfl) ?_
  refine lv_dload hx hb dL_law_1111 (lv_at hl 0 rfl) ?_
  refine lv_dcmp hx hb dL_law_1113 ?_
  rw [← hv0]
  refine lv_if_eq (tgt := 1135) hx hb dL_law_1114 (by decide) (fun _ => hend _ hl) (fun q => ?_)
  refine lv_dload hx hb dL_law_1117 (lv_at hl 1 rfl) ?_
  refine lv_dload hx hb dL_law_1119 (lv_at hl 1 rfl) ?_
  refine lv_dcmp hx hb dL_law_1121 ?_
  rw [← hv0]
  refine lv_if_eq (tgt := 1133) hx hb dL_law_1122 (by decide) (fun h0 => absurd h0 q) (fun _ => ?_)
  refine lv_dload hx hb dL_law_1125 (lv_at hl 0 rfl) ?_
  refine lv_dload hx hb dL_law_1127 (lv_at hl 0 rfl) ?_
  refine lv_dcmp hx hb dL_law_1129 ?_
  rw [← hv0]
  exact lv_if_ne (tgt := 1135) hx hb dL_law_1130 (by decide) (fun _ => hend _ hl) (fun h0 => absurd h0 q)
end CASES
