/-! Its holes. -/
theorem setR_c3 {M : Mem} {a b : Vw} : setR (setR M 3 a) 2 b = setR (setR M 2 b) 3 a := by
  funext r
  unfold setR
  by_cases h : r = 2
  · rw [if_pos h, if_neg (by omega), if_pos h]
  · rw [if_neg h]
    by_cases h2 : r = 3
    · rw [if_pos h2, if_pos h2]
    · rw [if_neg h2, if_neg h2, if_neg h]
section NR
variable {p : Program} {l : Launch} {e : Jvm.Env} {R : Room} {s : State} {m : MethodId} {args : Array Value} {below : List Frame} {meth : Method} {c : Code} {H : Heap} {locs : List Loc} {cells slots : Nat} {Q : State → Prop}
variable {cc : ByteArray} {nL pc : Nat} {ls : Array Slot} {rest : List Value} {own : String} {g : Gm} {M : Mem} {o : Nat → Int64} {v : Vw}
/-- a note written -/
theorem m_note (hC : CallFix p m c cc nL s args LG own) (hE : Ev g s) (hI : IJ g (KK g)) (hP : WP g (setR M 2 v) o H) (hS : va_S (AA g) s.heap H locs) (q : Nat) (hq : q < 6) (kD : KK g (30, q, 0)) (i : Nat) {x z : Int32} (hx : x = nI i) (hi : i < tl (M 3) q) (hn : tl (M 3) q < 2 ^ 31) (hdg : decode cc pc = .ok (.iastore, 1))
    (kk : ∀ (M1 : Mem) (H1 : Heap) (locs1 : List Loc), (∀ r, r ≠ 3 → M1 r = M r) → M1 3 = up2 (M 3) q i z → WP g (setR M1 2 v) o H1 → va_S (AA g) s.heap H1 locs1 → W p l e R s m args below meth c H1 locs1 cells slots Q (F0 m (pc + 1) ls rest)) : W p l e R s m args below meth c H locs cells slots Q (F0 m pc ls (.int z :: .int x :: .ref (ad g (30, q, 0)) :: rest)) := by
  have hP3 : WP g (setR (setR M 2 v) 3 (M 3)) o H := WP.cast hP (setR_id (setR_ne _ _ (by decide)))
  refine m_iast hC hE hI hP3 hS kD e_30 i hx hi hn (p_30 hq) (ent_put g (setR M 2 v) 3 (M 3) o q i z (kf_30 hq)) hdg (fun H1 locs1 hP1 hS1 => ?_)
  exact kk (setR M 3 (up2 (M 3) q i z)) H1 locs1 (fun r hr => setR_ne _ _ hr) (setR_same _ _ _) (WP.cast hP1 setR_c3) hS1
theorem m_noteR (hC : CallFix p m c cc nL s args LG own) (hE : Ev g s) (hP : WP g (setR M 2 v) o H) (q : Nat) (kD : KK g (30, q, 0)) (hq : q < 6) (i : Nat) {x y : Int32} (hx : x = nI i) (hi : i < tl (M 3) q) (hn : tl (M 3) q < 2 ^ 31) (hy : M 3 q i = y) (hdg : decode cc pc = .ok (.iaload, 1))
    (kk : W p l e R s m args below meth c H locs cells slots Q (F0 m (pc + 1) ls (.int y :: rest))) : W p l e R s m args below meth c H locs cells slots Q (F0 m pc ls (.int x :: .ref (ad g (30, q, 0)) :: rest)) := by
  subst hy
  have hP3 : WP g (setR (setR M 2 v) 3 (M 3)) o H := WP.cast hP (setR_id (setR_ne _ _ (by decide)))
  exact m_iald hC hE hP3 kD e_30 i hx hi hn hdg kk
end NR
def nearI (v : Vw) (h n : Nat) : Int32 := it (fun w q => if q = -1 ∨ farW v w h < q then farW v w h else q) n (-1)
theorem nearI_e {v : Vw} {h : Nat} : nearI v h (nW v) = near v h := rfl
theorem nearI_s {v : Vw} {h n : Nat} : nearI v h (n + 1) = if nearI v h n = -1 ∨ farW v n h < nearI v h n then farW v n h else nearI v h n := rfl
theorem farW_9 {v : Vw} (hv : Inv v) {w h : Nat} (hw : w < nW v) (hh : h < nH v) : ∃ q, q < 9 ∧ farW v w h = nI q := by
  unfold farW
  obtain ⟨⟨a, ha, ea⟩, b, hb, eb⟩ := hv.hW w hw
  obtain ⟨⟨x, hx, ex⟩, ⟨y, hy, ey⟩, _⟩ := hv.hH h hh
  rw [ea, eb, ex, ey, far_nI (by omega) (by omega) (by omega) (by omega)]
  exact ⟨_, by unfold dst; omega, rfl⟩
theorem nearI_or {v : Vw} (hv : Inv v) {h : Nat} (hh : h < nH v) (n : Nat) (hn : n ≤ nW v) : nearI v h n = -1 ∨ ∃ q, q < 9 ∧ nearI v h n = nI q := by
  induction n with
  | zero => exact Or.inl rfl
  | succ n ih =>
    rw [nearI_s]
    split
    · exact Or.inr (farW_9 hv (by omega) hh)
    · exact ih (by omega)
theorem near_a {v : Vw} (hv : Inv v) {h n : Nat} (hh : h < nH v) (hn : n ≤ nW v) (c : nearI v h n < 0) : nearI v h (n + 1) = farW v n h := by
  rw [nearI_s]
  rcases nearI_or hv hh n hn with q | ⟨q, hq, e⟩
  · rw [if_pos (Or.inl q)]
  · rw [e] at c; exact absurd c (nI_pos (by omega))
theorem near_b {v : Vw} {h n : Nat} (c : ¬ nearI v h n ≤ farW v n h) : nearI v h (n + 1) = farW v n h := by
  rw [nearI_s, if_pos (Or.inr (Int32.not_le.mp c))]
theorem near_c {v : Vw} {h n : Nat} (c1 : ¬ nearI v h n < 0) (c : nearI v h n ≤ farW v n h) : nearI v h (n + 1) = nearI v h n := by
  rw [nearI_s, if_neg]
  intro z
  rcases z with z | z
  · rw [z] at c1; exact c1 (by decide)
  · exact absurd c (Int32.not_le.mpr z)
theorem holeF_n {v : Vw} {h : Nat} {f : Nat → Int32} (e0 : f 0 = v 3 h) (e1 : f 1 = v 4 h) (e2 : f 2 = v 5 h) (e3 : f 3 = spAt v (nI h)) (e4 : f 4 = near v h) {j : Nat} (hj : j < 5) : holeF v h (nI j) = f j := by
  rcases (show j = 0 ∨ j = 1 ∨ j = 2 ∨ j = 3 ∨ j = 4 by omega) with rfl | rfl | rfl | rfl | rfl
  · rw [e0]; exact if_pos rfl
  · rw [e1]; unfold holeF; rw [if_neg (by decide), if_pos (by decide)]
  · rw [e2]; unfold holeF; rw [if_neg (by decide), if_neg (by decide), if_pos (by decide)]
  · rw [e3]; unfold holeF; rw [if_neg (by decide), if_neg (by decide), if_neg (by decide), if_pos (by decide)]
  · rw [e4]; unfold holeF; rw [if_neg (by decide), if_neg (by decide), if_neg (by decide), if_neg (by decide)]
set_option maxHeartbeats 4000000 in
set_option maxRecDepth 100000 in
theorem z_cmp {p : Program} {l : Launch} {e : Jvm.Env} {R : Room} {s : State} {m : MethodId} {args : Array Value} {below : List Frame} {meth : Method} {c : Code} {Q : State → Prop} {g0 g : Gm} {cells slots n : Nat} {M : Mem} {o : Nat → Int64} {H : Heap} {locs : List Loc} {ls : Array Slot} {v : Vw} (G : Gj g0 g) (hE0 : Ev g0 s) (hC : CallFix p m c cX5_isSame 8 s args LG RX5) (hR : 8 ≤ R.frames ∧ 200 ≤ R.locals) (hf : cells + 0 ≤ R.cells ∧ slots + 0 ≤ R.slots) (hI : IJ g (KK g)) (hW : Lw n v) (hL : SimL g v) (e0 : M 0 = v) (hP : WP g (setR M 2 v) o H) (hS : va_S (AA g) s.heap H locs) {i : Nat} (hi : i < nH v) (kD : KK g (30, 4, 0)) (hrow : ∀ j, j < 5 → M 3 4 j = holeF v i (nI j)) (IH : ∀ (g1 : Gm) (M1 : Mem) (H : Heap) (locs : List Loc) (ls : Array Slot), Gj g0 g1 → IJ g1 (KK g1) → M1 0 = v → WP g1 (setR M1 2 v) o H → va_S (AA g1) s.heap H locs → lv_has ls 8 [(2, .int (nI (i + 1))), (0, .ref (ad g1 (20, 0, 0))), (1, .ref (ad g1 (8, 0, 0)))] → W p l e R s m args below meth c H locs (cells) (slots) Q (F0 m 100 ls [])) (hl : lv_has ls 8 [(4, .ref (ad g (30, 4, 0))), (3, .int (near v i)), (2, .int (nI i)), (0, .ref (ad g (20, 0, 0))), (1, .ref (ad g (8, 0, 0)))]) : W p l e R s m args below meth c H locs cells slots Q (F0 m 230 ls []) := by
  obtain ⟨hx, hb, hml, hown, hG⟩ := id hC
  have hE : Ev g s := hE0.to G.1 G.2.1
  have hv := hW.iv
  have qH := hv.lH
  have qS := hv.lS
  have qW := hv.lW
  refine lv_iconst (v := 0) hx hb dX5_isSame_230 (by decide) ?_
  refine lv_istore (lv' := [(5, .int ((0 : Int32))), (4, .ref (ad g (30, 4, 0))), (3, .int (near v i)), (2, .int (nI i)), (0, .ref (ad g (20, 0, 0))), (1, .ref (ad g (8, 0, 0)))]) hx hb dX5_isSame_231 hl (by decide) rfl (fun ls hl => ?_)
  refine lp_W (i0 := 0) 5 (fun j => ent g (setR M 2 v) o) (fun j => [(5, .int (nI j)), (4, .ref (ad g (30, 4, 0))), (3, .int (near v i)), (2, .int (nI i)), (0, .ref (ad g (20, 0, 0))), (1, .ref (ad g (8, 0, 0)))]) (fun j => True) (Nat.zero_le _) (hP.castR (rfl)) hS (lv_sub hl [0, 1, 2, 3, 4, 5] rfl) (trivial) (fun H locs ls hP hS hl J => ?_) (fun j hj IHj H locs ls hP hS hl J => ?_)
  · refine lv_iload hx hb dX5_isSame_233 (lv_at hl 0 rfl) ?_
    refine lv_iconst (v := 5) hx hb dX5_isSame_235 (by decide) ?_
    refine lv_icmp_ge (tgt := 262) hx hb dX5_isSame_236 (by decide) (fun c1 => ?_) (fun c1 => absurd (nI_le (a := 5) (b := 5) (Nat.le_refl _) (by omega)) c1)
    refine lv_iinc (v := nI (i + 1)) (lv' := [(2, .int (nI (i + 1))), (5, .int (nI 5)), (4, .ref (ad g (30, 4, 0))), (3, .int (near v i)), (0, .ref (ad g (20, 0, 0))), (1, .ref (ad g (8, 0, 0)))]) hx hb dX5_isSame_262 hl (k := 3) rfl (nI_1 _) (by decide) rfl (fun ls hl => ?_)
    refine lv_goto (tgt := 100) hx hb dX5_isSame_265 (by decide) ?_
    exact IH g M H locs ls G hI e0 hP hS (lv_sub hl [0, 4, 5] rfl)
  · refine lv_iload hx hb dX5_isSame_233 (lv_at hl 0 rfl) ?_
    refine lv_iconst (v := 5) hx hb dX5_isSame_235 (by decide) ?_
    refine lv_icmp_ge (tgt := 262) hx hb dX5_isSame_236 (by decide) (fun c2 => absurd c2 (nI_ge (b := 5) hj (by omega))) (fun c2 => ?_)
    refine lv_aload_n hx hb dX5_isSame_239 rfl (lv_at hl 5 rfl) ?_
    refine lv_iload_n hx hb dX5_isSame_240 rfl (lv_at hl 3 rfl) ?_
    refine lv_iload hx hb dX5_isSame_241 (lv_at hl 0 rfl) ?_
    refine on_i (run_V hC hE hP hS (As := [.int (nI i), .int (nI j)]) (q_hole l hI (o := o) hv i hi (nI j) (in_H hv hi) (in_4 j hj) e0) cal_X4_hole w_544 ⟨by show _ + 1 ≤ R.frames; simp only; omega, by show _ + _ ≤ R.locals; simp only; omega⟩ k_8 f_8 rfl rfl rfl (Nat.le_of_ble_eq_true rfl) hl.1 ⟨by simp only; omega, by simp only; omega⟩ dX5_isSame_243) hS (fun H locs hP hS => ?_)
    refine lv_aload hx hb dX5_isSame_246 (lv_at hl 1 rfl) ?_
    refine lv_iload hx hb dX5_isSame_248 (lv_at hl 0 rfl) ?_
    refine m_noteR hC hE hP 4 kD (by decide) j rfl (show j < 5 from hj) (show 5 < 2 ^ 31 by decide) (hrow j hj) dX5_isSame_250 ?_
    refine lv_icmp_eq (tgt := 256) hx hb dX5_isSame_251 (by decide) (fun c3 => ?_) (fun c3 => absurd (rfl) c3)
    refine lv_iinc (v := nI (j + 1)) (lv' := [(5, .int (nI (j + 1))), (4, .ref (ad g (30, 4, 0))), (3, .int (near v i)), (2, .int (nI i)), (0, .ref (ad g (20, 0, 0))), (1, .ref (ad g (8, 0, 0)))]) hx hb dX5_isSame_256 hl (k := 0) rfl (nI_1 _) (by decide) rfl (fun ls hl => ?_)
    refine lv_goto (tgt := 233) hx hb dX5_isSame_259 (by decide) ?_
    exact IHj H locs ls (hP.castR (rfl)) hS (lv_sub hl [0, 1, 2, 3, 4, 5] rfl) (trivial)
set_option maxHeartbeats 4000000 in
set_option maxRecDepth 100000 in
theorem z_due {p : Program} {l : Launch} {e : Jvm.Env} {R : Room} {s : State} {m : MethodId} {args : Array Value} {below : List Frame} {meth : Method} {c : Code} {Q : State → Prop} {g0 g : Gm} {cells slots n : Nat} {M : Mem} {o : Nat → Int64} {H : Heap} {locs : List Loc} {ls : Array Slot} {v : Vw} (G : Gj g0 g) (hE0 : Ev g0 s) (hC : CallFix p m c cX5_isSame 8 s args LG RX5) (hR : 8 ≤ R.frames ∧ 200 ≤ R.locals) (hf : cells + 0 ≤ R.cells ∧ slots + 0 ≤ R.slots) (hI : IJ g (KK g)) (hW : Lw n v) (hL : SimL g v) (e0 : M 0 = v) (hP : WP g (setR M 2 v) o H) (hS : va_S (AA g) s.heap H locs) {i : Nat} (hi : i < nH v) (kD : KK g (30, 4, 0)) (IH : ∀ (g1 : Gm) (M1 : Mem) (H : Heap) (locs : List Loc) (ls : Array Slot), Gj g0 g1 → IJ g1 (KK g1) → M1 0 = v → WP g1 (setR M1 2 v) o H → va_S (AA g1) s.heap H locs → lv_has ls 8 [(2, .int (nI (i + 1))), (0, .ref (ad g1 (20, 0, 0))), (1, .ref (ad g1 (8, 0, 0)))] → W p l e R s m args below meth c H locs (cells) (slots) Q (F0 m 100 ls [])) (hl : lv_has ls 8 [(3, .int (near v i)), (2, .int (nI i)), (0, .ref (ad g (20, 0, 0))), (1, .ref (ad g (8, 0, 0)))]) : W p l e R s m args below meth c H locs cells slots Q (F0 m 183 ls [.ref (ad g (30, 4, 0))]) := by
  obtain ⟨hx, hb, hml, hown, hG⟩ := id hC
  have hE : Ev g s := hE0.to G.1 G.2.1
  have hv := hW.iv
  have qH := hv.lH
  have qS := hv.lS
  have qW := hv.lW
  refine lv_dup hx hb dX5_isSame_183 rfl ?_
  refine lv_iconst (v := 0) hx hb dX5_isSame_184 (by decide) ?_
  refine lv_aload_n hx hb dX5_isSame_185 rfl (lv_at hl 2 rfl) ?_
  refine m_get hC hE hP (k_20 hL) e_20 rfl u_5 3 (by decide) w_655 rfl rfl dX5_isSame_186 ?_
  refine lv_iload_n hx hb dX5_isSame_189 rfl (lv_at hl 1 rfl) ?_
  refine m_aalA hC hE hP (k_27 hL) e_27 i (rfl) (Cn.rf.lH (by omega)) (Cn.rf.bH (by omega)) dX5_isSame_190 ?_
  refine lv_iconst (v := 0) hx hb dX5_isSame_191 (by decide) ?_
  refine m_iald hC hE hP (k_23 hL (by omega)) e_23 0 (rfl) (show 0 < 3 from by omega) (by decide) dX5_isSame_192 ?_
  refine m_top (y := v 3 i) rfl ?_
  refine m_note hC hE hI hP hS 4 (by decide) kD 0 rfl (show 0 < 5 by decide) (show 5 < 2 ^ 31 by decide) dX5_isSame_193 (fun N1 H locs f1 t1 hP hS => ?_)
  replace e0 := (f1 0 (by decide)).trans e0
  refine lv_dup hx hb dX5_isSame_194 rfl ?_
  refine lv_iconst (v := 1) hx hb dX5_isSame_195 (by decide) ?_
  refine lv_aload_n hx hb dX5_isSame_196 rfl (lv_at hl 2 rfl) ?_
  refine m_get hC hE hP (k_20 hL) e_20 rfl u_5 3 (by decide) w_655 rfl rfl dX5_isSame_197 ?_
  refine lv_iload_n hx hb dX5_isSame_200 rfl (lv_at hl 1 rfl) ?_
  refine m_aalA hC hE hP (k_27 hL) e_27 i (rfl) (Cn.rf.lH (by omega)) (Cn.rf.bH (by omega)) dX5_isSame_201 ?_
  refine lv_iconst (v := 1) hx hb dX5_isSame_202 (by decide) ?_
  refine m_iald hC hE hP (k_23 hL (by omega)) e_23 1 (rfl) (show 1 < 3 from by omega) (by decide) dX5_isSame_203 ?_
  refine m_top (y := v 4 i) rfl ?_
  refine m_note hC hE hI hP hS 4 (by decide) kD 1 rfl (show 1 < 5 by decide) (show 5 < 2 ^ 31 by decide) dX5_isSame_204 (fun N2 H locs f2 t2 hP hS => ?_)
  replace e0 := (f2 0 (by decide)).trans e0
  refine lv_dup hx hb dX5_isSame_205 rfl ?_
  refine lv_iconst (v := 2) hx hb dX5_isSame_206 (by decide) ?_
  refine lv_aload_n hx hb dX5_isSame_207 rfl (lv_at hl 2 rfl) ?_
  refine m_get hC hE hP (k_20 hL) e_20 rfl u_5 3 (by decide) w_655 rfl rfl dX5_isSame_208 ?_
  refine lv_iload_n hx hb dX5_isSame_211 rfl (lv_at hl 1 rfl) ?_
  refine m_aalA hC hE hP (k_27 hL) e_27 i (rfl) (Cn.rf.lH (by omega)) (Cn.rf.bH (by omega)) dX5_isSame_212 ?_
  refine lv_iconst (v := 2) hx hb dX5_isSame_213 (by decide) ?_
  refine m_iald hC hE hP (k_23 hL (by omega)) e_23 2 (rfl) (show 2 < 3 from by omega) (by decide) dX5_isSame_214 ?_
  refine m_top (y := v 5 i) rfl ?_
  refine m_note hC hE hI hP hS 4 (by decide) kD 2 rfl (show 2 < 5 by decide) (show 5 < 2 ^ 31 by decide) dX5_isSame_215 (fun N3 H locs f3 t3 hP hS => ?_)
  replace e0 := (f3 0 (by decide)).trans e0
  refine lv_dup hx hb dX5_isSame_216 rfl ?_
  refine lv_iconst (v := 3) hx hb dX5_isSame_217 (by decide) ?_
  refine lv_aload_n hx hb dX5_isSame_218 rfl (lv_at hl 2 rfl) ?_
  refine lv_iload_n hx hb dX5_isSame_219 rfl (lv_at hl 1 rfl) ?_
  refine on_i (run_V hC hE hP hS (As := [.int (nI i)]) (c_manyS l hI hv hL (nI i)) cal_X5_many w_531 ⟨by show _ + 1 ≤ R.frames; simp only; omega, by show _ + _ ≤ R.locals; simp only; omega⟩ (k_20 hL) e_20 rfl rfl rfl (Nat.le_of_ble_eq_true rfl) hl.1 ⟨by simp only; omega, by simp only; omega⟩ dX5_isSame_220) hS (fun H locs hP hS => ?_)
  refine m_note hC hE hI hP hS 4 (by decide) kD 3 rfl (show 3 < 5 by decide) (show 5 < 2 ^ 31 by decide) dX5_isSame_223 (fun N4 H locs f4 t4 hP hS => ?_)
  replace e0 := (f4 0 (by decide)).trans e0
  refine lv_dup hx hb dX5_isSame_224 rfl ?_
  refine lv_iconst (v := 4) hx hb dX5_isSame_225 (by decide) ?_
  refine lv_iload_n hx hb dX5_isSame_226 rfl (lv_at hl 0 rfl) ?_
  refine m_note hC hE hI hP hS 4 (by decide) kD 4 rfl (show 4 < 5 by decide) (show 5 < 2 ^ 31 by decide) dX5_isSame_227 (fun N5 H locs f5 t5 hP hS => ?_)
  replace e0 := (f5 0 (by decide)).trans e0
  refine lv_astore (lv' := [(4, .ref (ad g (30, 4, 0))), (3, .int (near v i)), (2, .int (nI i)), (0, .ref (ad g (20, 0, 0))), (1, .ref (ad g (8, 0, 0)))]) hx hb dX5_isSame_228 hl (by decide) rfl (fun ls hl => ?_)
  have hrow : ∀ j, j < 5 → N5 3 4 j = holeF v i (nI j) := fun j hj => by
    refine (holeF_n (f := N5 3 4) ?_ ?_ ?_ ?_ ?_ hj).symm <;> rw [t5, t4, t3, t2, t1] <;> simp [up2]
  exact z_cmp (cells := cells) (slots := slots) G hE0 hC hR ⟨by omega, by omega⟩ hI hW hL e0 hP hS hi kD hrow IH hl
