/-! All its holes. -/
set_option maxHeartbeats 4000000 in
set_option maxRecDepth 100000 in
theorem z_hole {p : Program} {l : Launch} {e : Jvm.Env} {R : Room} {s : State} {m : MethodId} {args : Array Value} {below : List Frame} {meth : Method} {c : Code} {Q : State → Prop} {g0 g : Gm} {cells slots n : Nat} {M : Mem} {o : Nat → Int64} {H : Heap} {locs : List Loc} {ls : Array Slot} {v : Vw} (G : Gj g0 g) (hE0 : Ev g0 s) (hC : CallFix p m c cX5_isSame 8 s args LG RX5) (hR : 8 ≤ R.frames ∧ 200 ≤ R.locals) (hf : cells + 1 ≤ R.cells ∧ slots + 5 ≤ R.slots) (hI : IJ g (KK g)) (hW : Lw n v) (hL : SimL g v) (e0 : M 0 = v) (hP : WP g (setR M 2 v) o H) (hS : va_S (AA g) s.heap H locs) {i : Nat} (hi : i < nH v) (IH : ∀ (g1 : Gm) (M1 : Mem) (H : Heap) (locs : List Loc) (ls : Array Slot), Gj g0 g1 → IJ g1 (KK g1) → M1 0 = v → WP g1 (setR M1 2 v) o H → va_S (AA g1) s.heap H locs → lv_has ls 8 [(2, .int (nI (i + 1))), (0, .ref (ad g1 (20, 0, 0))), (1, .ref (ad g1 (8, 0, 0)))] → W p l e R s m args below meth c H locs (cells + 1) (slots + 5) Q (F0 m 100 ls [])) (hl : lv_has ls 8 [(2, .int (nI i)), (0, .ref (ad g (20, 0, 0))), (1, .ref (ad g (8, 0, 0)))]) : W p l e R s m args below meth c H locs cells slots Q (F0 m 100 ls []) := by
  obtain ⟨hx, hb, hml, hown, hG⟩ := id hC
  have hE : Ev g s := hE0.to G.1 G.2.1
  have hv := hW.iv
  have qH := hv.lH
  have qS := hv.lS
  have qW := hv.lW
  refine lv_iload_n hx hb dX5_isSame_100 rfl (lv_at hl 0 rfl) ?_
  refine lv_aload_n hx hb dX5_isSame_101 rfl (lv_at hl 1 rfl) ?_
  refine m_get hC hE hP (k_20 hL) e_20 rfl u_5 3 (by decide) w_655 rfl rfl dX5_isSame_102 ?_
  refine m_alnA hC hE hP (k_27 hL) e_27 (congrArg nI Cn.rf.1) dX5_isSame_105 ?_
  refine lv_icmp_ge (tgt := 268) hx hb dX5_isSame_106 (by decide) (fun c1 => absurd c1 (nI_ge hi (by omega))) (fun c1 => ?_)
  refine lv_iconst (v := (-1)) hx hb dX5_isSame_109 (by decide) ?_
  refine lv_istore_n (lv' := [(3, .int ((-1 : Int32))), (2, .int (nI i)), (0, .ref (ad g (20, 0, 0))), (1, .ref (ad g (8, 0, 0)))]) hx hb dX5_isSame_110 rfl hl (by decide) rfl (fun ls hl => ?_)
  refine lv_aload_n hx hb dX5_isSame_111 rfl (lv_at hl 2 rfl) ?_
  refine m_get hC hE hP (k_20 hL) e_20 rfl u_5 5 (by decide) w_659 rfl rfl dX5_isSame_112 ?_
  refine lv_astore (lv' := [(4, .ref (ad g (29, 2, 0))), (3, .int ((-1 : Int32))), (2, .int (nI i)), (0, .ref (ad g (20, 0, 0))), (1, .ref (ad g (8, 0, 0)))]) hx hb dX5_isSame_115 hl (by decide) rfl (fun ls hl => ?_)
  refine lv_aload hx hb dX5_isSame_117 (lv_at hl 0 rfl) ?_
  refine m_alnA hC hE hP (k_29 hL) e_29 (congrArg nI Cn.rf.2.2) dX5_isSame_119 ?_
  refine lv_istore (lv' := [(5, .int (nI (nW v))), (4, .ref (ad g (29, 2, 0))), (3, .int ((-1 : Int32))), (2, .int (nI i)), (0, .ref (ad g (20, 0, 0))), (1, .ref (ad g (8, 0, 0)))]) hx hb dX5_isSame_120 hl (by decide) rfl (fun ls hl => ?_)
  refine lv_iconst (v := 0) hx hb dX5_isSame_122 (by decide) ?_
  refine lv_istore (lv' := [(6, .int ((0 : Int32))), (5, .int (nI (nW v))), (4, .ref (ad g (29, 2, 0))), (3, .int ((-1 : Int32))), (2, .int (nI i)), (0, .ref (ad g (20, 0, 0))), (1, .ref (ad g (8, 0, 0)))]) hx hb dX5_isSame_123 hl (by decide) rfl (fun ls hl => ?_)
  refine lp_W (i0 := 0) (nW v) (fun j => ent g (setR M 2 v) o) (fun j => [(6, .int (nI j)), (5, .int (nI (nW v))), (4, .ref (ad g (29, 2, 0))), (3, .int (nearI v i j)), (2, .int (nI i)), (0, .ref (ad g (20, 0, 0))), (1, .ref (ad g (8, 0, 0)))]) (fun j => True) (Nat.zero_le _) (hP.castR (rfl)) hS (by show lv_has ls _ [(6, .int (nI 0)), (5, .int (nI (nW v))), (4, .ref (ad g (29, 2, 0))), (3, .int (nearI v i 0)), (2, .int (nI i)), (0, .ref (ad g (20, 0, 0))), (1, .ref (ad g (8, 0, 0)))]; rw [show nearI v i 0 = (-1 : Int32) from rfl]; exact lv_sub hl [0, 1, 2, 3, 4, 5, 6] rfl) (trivial) (fun H locs ls hP hS hl J => ?_) (fun j hj IHj H locs ls hP hS hl J => ?_)
  · refine lv_iload hx hb dX5_isSame_125 (lv_at hl 0 rfl) ?_
    refine lv_iload hx hb dX5_isSame_127 (lv_at hl 1 rfl) ?_
    refine lv_icmp_ge (tgt := 180) hx hb dX5_isSame_129 (by decide) (fun c2 => ?_) (fun c2 => absurd (nI_le (Nat.le_refl _) (by omega)) c2)
    refine lv_iconst (v := 5) hx hb dX5_isSame_180 (by decide) ?_
    have hAa : AA g H.size := Nat.le_trans hE.2.2.2.2.1 hS.1
    have hab : ∀ k, KK g k → ad g k ≠ H.size := fun k hk z => by have := (hP k hk).lt; rw [z] at this; exact absurd this (Nat.lt_irrefl _)
    have o0 := hP
    refine m_newI hC hE hS (N := 5) (by decide) rfl (by decide) (by omega) (by omega) dX5_isSame_181 (fun H1 z1 o1 ha hS => ?_)
    replace hP := fun k hk => (o0 k hk).kept (o1 _ (o0 k hk).lt)
    change WPe g (KK g) _ H1 at hP
    obtain ⟨ra, era⟩ : ∃ ra, ra = H.size := ⟨_, rfl⟩
    rw [← era] at ha hab hAa ⊢
    obtain ⟨hP1, hI1⟩ := own_n (M := setR M 2 v) 4 (by decide) rfl hI hP ha hAa hab
    have a8 : ad (gA g (30, 4, 0) ra) (8, 0, 0) = ad g (8, 0, 0) := gA_ne (by decide)
    have a20 : ad (gA g (30, 4, 0) ra) (20, 0, 0) = ad g (20, 0, 0) := gA_ne (by decide)
    have z := z_due (cells := cells + 1) (slots := slots + 5) (g := gA g (30, 4, 0) ra) (M := setR M 3 (mH ((setR M 2 v) 3) 4 5 (fun _ => 0))) (G.tr Gj.gA) hE0 hC hR ⟨by omega, by omega⟩ hI1 hW (Gj.gA.sl hL) ((setR_ne _ _ (by decide)).trans e0) (WP.cast hP1 setR_c3) hS hi ⟨⟨by decide, rfl⟩, Or.inl rfl⟩ IH (by rw [a8, a20]; exact lv_sub hl [3, 4, 5, 6] rfl)
    rw [gA_ad] at z
    exact z
  · refine lv_iload hx hb dX5_isSame_125 (lv_at hl 0 rfl) ?_
    refine lv_iload hx hb dX5_isSame_127 (lv_at hl 1 rfl) ?_
    refine lv_icmp_ge (tgt := 180) hx hb dX5_isSame_129 (by decide) (fun c3 => absurd c3 (nI_ge hj (by omega))) (fun c3 => ?_)
    refine lv_aload hx hb dX5_isSame_132 (lv_at hl 2 rfl) ?_
    refine lv_iload hx hb dX5_isSame_134 (lv_at hl 0 rfl) ?_
    refine m_aalA hC hE hP (k_29 hL) e_29 j (rfl) (Cn.rf.lW (by omega)) (Cn.rf.bW (by omega)) dX5_isSame_136 ?_
    refine lv_astore (lv' := [(7, .ref (ad g (25, 2, j))), (6, .int (nI j)), (5, .int (nI (nW v))), (4, .ref (ad g (29, 2, 0))), (3, .int (nearI v i j)), (2, .int (nI i)), (0, .ref (ad g (20, 0, 0))), (1, .ref (ad g (8, 0, 0)))]) hx hb dX5_isSame_137 hl (by decide) rfl (fun ls hl => ?_)
    refine lv_iload_n hx hb dX5_isSame_139 rfl (lv_at hl 4 rfl) ?_
    refine lv_if_lt (tgt := 158) hx hb dX5_isSame_140 (by decide) (fun c1 => ?_) (fun c1 => ?_)
    · refine lv_aload hx hb dX5_isSame_158 (lv_at hl 0 rfl) ?_
      refine lv_aload_n hx hb dX5_isSame_160 rfl (lv_at hl 6 rfl) ?_
      refine m_get hC hE hP (k_20 hL) e_20 rfl u_5 3 (by decide) w_655 rfl rfl dX5_isSame_161 ?_
      refine lv_iload_n hx hb dX5_isSame_164 rfl (lv_at hl 5 rfl) ?_
      refine m_aalA hC hE hP (k_27 hL) e_27 i (rfl) (Cn.rf.lH (by omega)) (Cn.rf.bH (by omega)) dX5_isSame_165 ?_
      refine on_i (run_S hC hE hP hS (As := [.ref (ad g (25, 2, j)), .ref (ad g (23, 0, i))]) (c_farS l hI hv hL j i hj hi) cal_X5_far w_524 ⟨by simp only; omega, by simp only; omega⟩ rfl rfl (Nat.le_of_ble_eq_true rfl) hl.1 ⟨by simp only; omega, by simp only; omega⟩ dX5_isSame_166) hS (fun H locs hP hS => ?_)
      refine lv_goto (tgt := 173) hx hb dX5_isSame_169 (by decide) ?_
      refine lv_istore_n (lv' := [(3, .int (farW v j i)), (7, .ref (ad g (25, 2, j))), (6, .int (nI j)), (5, .int (nI (nW v))), (4, .ref (ad g (29, 2, 0))), (2, .int (nI i)), (0, .ref (ad g (20, 0, 0))), (1, .ref (ad g (8, 0, 0)))]) hx hb dX5_isSame_173 rfl hl (by decide) rfl (fun ls hl => ?_)
      refine lv_iinc (v := nI (j + 1)) (lv' := [(6, .int (nI (j + 1))), (3, .int (farW v j i)), (7, .ref (ad g (25, 2, j))), (5, .int (nI (nW v))), (4, .ref (ad g (29, 2, 0))), (2, .int (nI i)), (0, .ref (ad g (20, 0, 0))), (1, .ref (ad g (8, 0, 0)))]) hx hb dX5_isSame_174 hl (k := 2) rfl (nI_1 _) (by decide) rfl (fun ls hl => ?_)
      refine lv_goto (tgt := 125) hx hb dX5_isSame_177 (by decide) ?_
      exact IHj H locs ls (hP.castR (rfl)) hS (by show lv_has ls _ [(6, .int (nI (j + 1))), (5, .int (nI (nW v))), (4, .ref (ad g (29, 2, 0))), (3, .int (nearI v i (j + 1))), (2, .int (nI i)), (0, .ref (ad g (20, 0, 0))), (1, .ref (ad g (8, 0, 0)))]; rw [show nearI v i (j + 1) = farW v j i from near_a hv hi (by omega) c1]; exact lv_sub hl [0, 3, 4, 1, 5, 6, 7] rfl) (trivial)
    · refine lv_aload hx hb dX5_isSame_143 (lv_at hl 0 rfl) ?_
      refine lv_aload_n hx hb dX5_isSame_145 rfl (lv_at hl 6 rfl) ?_
      refine m_get hC hE hP (k_20 hL) e_20 rfl u_5 3 (by decide) w_655 rfl rfl dX5_isSame_146 ?_
      refine lv_iload_n hx hb dX5_isSame_149 rfl (lv_at hl 5 rfl) ?_
      refine m_aalA hC hE hP (k_27 hL) e_27 i (rfl) (Cn.rf.lH (by omega)) (Cn.rf.bH (by omega)) dX5_isSame_150 ?_
      refine on_i (run_S hC hE hP hS (As := [.ref (ad g (25, 2, j)), .ref (ad g (23, 0, i))]) (c_farS l hI hv hL j i hj hi) cal_X5_far w_524 ⟨by simp only; omega, by simp only; omega⟩ rfl rfl (Nat.le_of_ble_eq_true rfl) hl.1 ⟨by simp only; omega, by simp only; omega⟩ dX5_isSame_151) hS (fun H locs hP hS => ?_)
      refine lv_iload_n hx hb dX5_isSame_154 rfl (lv_at hl 4 rfl) ?_
      refine lv_icmp_ge (tgt := 172) hx hb dX5_isSame_155 (by decide) (fun c2 => ?_) (fun c2 => ?_)
      · refine lv_iload_n hx hb dX5_isSame_172 rfl (lv_at hl 4 rfl) ?_
        refine lv_istore_n (lv' := [(3, .int (nearI v i j)), (7, .ref (ad g (25, 2, j))), (6, .int (nI j)), (5, .int (nI (nW v))), (4, .ref (ad g (29, 2, 0))), (2, .int (nI i)), (0, .ref (ad g (20, 0, 0))), (1, .ref (ad g (8, 0, 0)))]) hx hb dX5_isSame_173 rfl hl (by decide) rfl (fun ls hl => ?_)
        refine lv_iinc (v := nI (j + 1)) (lv' := [(6, .int (nI (j + 1))), (3, .int (nearI v i j)), (7, .ref (ad g (25, 2, j))), (5, .int (nI (nW v))), (4, .ref (ad g (29, 2, 0))), (2, .int (nI i)), (0, .ref (ad g (20, 0, 0))), (1, .ref (ad g (8, 0, 0)))]) hx hb dX5_isSame_174 hl (k := 2) rfl (nI_1 _) (by decide) rfl (fun ls hl => ?_)
        refine lv_goto (tgt := 125) hx hb dX5_isSame_177 (by decide) ?_
        exact IHj H locs ls (hP.castR (rfl)) hS (by show lv_has ls _ [(6, .int (nI (j + 1))), (5, .int (nI (nW v))), (4, .ref (ad g (29, 2, 0))), (3, .int (nearI v i (j + 1))), (2, .int (nI i)), (0, .ref (ad g (20, 0, 0))), (1, .ref (ad g (8, 0, 0)))]; rw [show nearI v i (j + 1) = nearI v i j from near_c c1 c2]; exact lv_sub hl [0, 3, 4, 1, 5, 6, 7] rfl) (trivial)
      · refine lv_aload hx hb dX5_isSame_158 (lv_at hl 0 rfl) ?_
        refine lv_aload_n hx hb dX5_isSame_160 rfl (lv_at hl 6 rfl) ?_
        refine m_get hC hE hP (k_20 hL) e_20 rfl u_5 3 (by decide) w_655 rfl rfl dX5_isSame_161 ?_
        refine lv_iload_n hx hb dX5_isSame_164 rfl (lv_at hl 5 rfl) ?_
        refine m_aalA hC hE hP (k_27 hL) e_27 i (rfl) (Cn.rf.lH (by omega)) (Cn.rf.bH (by omega)) dX5_isSame_165 ?_
        refine on_i (run_S hC hE hP hS (As := [.ref (ad g (25, 2, j)), .ref (ad g (23, 0, i))]) (c_farS l hI hv hL j i hj hi) cal_X5_far w_524 ⟨by simp only; omega, by simp only; omega⟩ rfl rfl (Nat.le_of_ble_eq_true rfl) hl.1 ⟨by simp only; omega, by simp only; omega⟩ dX5_isSame_166) hS (fun H locs hP hS => ?_)
        refine lv_goto (tgt := 173) hx hb dX5_isSame_169 (by decide) ?_
        refine lv_istore_n (lv' := [(3, .int (farW v j i)), (7, .ref (ad g (25, 2, j))), (6, .int (nI j)), (5, .int (nI (nW v))), (4, .ref (ad g (29, 2, 0))), (2, .int (nI i)), (0, .ref (ad g (20, 0, 0))), (1, .ref (ad g (8, 0, 0)))]) hx hb dX5_isSame_173 rfl hl (by decide) rfl (fun ls hl => ?_)
        refine lv_iinc (v := nI (j + 1)) (lv' := [(6, .int (nI (j + 1))), (3, .int (farW v j i)), (7, .ref (ad g (25, 2, j))), (5, .int (nI (nW v))), (4, .ref (ad g (29, 2, 0))), (2, .int (nI i)), (0, .ref (ad g (20, 0, 0))), (1, .ref (ad g (8, 0, 0)))]) hx hb dX5_isSame_174 hl (k := 2) rfl (nI_1 _) (by decide) rfl (fun ls hl => ?_)
        refine lv_goto (tgt := 125) hx hb dX5_isSame_177 (by decide) ?_
        exact IHj H locs ls (hP.castR (rfl)) hS (by show lv_has ls _ [(6, .int (nI (j + 1))), (5, .int (nI (nW v))), (4, .ref (ad g (29, 2, 0))), (3, .int (nearI v i (j + 1))), (2, .int (nI i)), (0, .ref (ad g (20, 0, 0))), (1, .ref (ad g (8, 0, 0)))]; rw [show nearI v i (j + 1) = farW v j i from near_b c2]; exact lv_sub hl [0, 3, 4, 1, 5, 6, 7] rfl) (trivial)
set_option maxHeartbeats 4000000 in
theorem z_holes {p : Program} {l : Launch} {e : Jvm.Env} {R : Room} {s : State} {m : MethodId} {args : Array Value} {below : List Frame} {meth : Method} {c : Code} {Q : State → Prop} {g : Gm} {cells slots n : Nat} {M : Mem} {o : Nat → Int64} {H : Heap} {locs : List Loc} {ls : Array Slot} {v : Vw} (hE0 : Ev g s) (hC : CallFix p m c cX5_isSame 8 s args LG RX5) (hR : 8 ≤ R.frames ∧ 200 ≤ R.locals) (hf : cells + 12 ≤ R.cells ∧ slots + 60 ≤ R.slots) (hI : IJ g (KK g)) (hW : Lw n v) (hL : SimL g v) (e0 : M 0 = v) (hP : WP g (setR M 2 v) o H) (hS : va_S (AA g) s.heap H locs) (IH : ∀ (g1 : Gm) (M1 : Mem) (H : Heap) (locs : List Loc) (ls : Array Slot), Gj g g1 → IJ g1 (KK g1) → M1 0 = v → WP g1 (setR M1 2 v) o H → va_S (AA g1) s.heap H locs → lv_has ls 8 [(0, .ref (ad g1 (20, 0, 0))), (1, .ref (ad g1 (8, 0, 0)))] → W p l e R s m args below meth c H locs (cells + 12) (slots + 60) Q (F0 m 268 ls [])) (hl : lv_has ls 8 [(0, .ref (ad g (20, 0, 0))), (1, .ref (ad g (8, 0, 0)))]) : W p l e R s m args below meth c H locs cells slots Q (F0 m 98 ls []) := by
  obtain ⟨hx, hb, hml, hown, hG⟩ := id hC
  have hv := hW.iv
  have qH := hv.lH
  refine lv_iconst (v := 0) hx hb dX5_isSame_98 (by decide) ?_
  refine lv_istore_n (lv' := [(2, .int (nI 0)), (0, .ref (ad g (20, 0, 0))), (1, .ref (ad g (8, 0, 0)))]) hx hb dX5_isSame_99 rfl hl (by decide) rfl (fun ls hl => ?_)
  refine lp_up (P := fun i => ∀ (g1 : Gm) (M1 : Mem) (H : Heap) (locs : List Loc) (ls : Array Slot), Gj g g1 → IJ g1 (KK g1) → M1 0 = v → WP g1 (setR M1 2 v) o H → va_S (AA g1) s.heap H locs → lv_has ls 8 [(2, .int (nI i)), (0, .ref (ad g1 (20, 0, 0))), (1, .ref (ad g1 (8, 0, 0)))] → W p l e R s m args below meth c H locs (cells + i) (slots + 5 * i) Q (F0 m 100 ls [])) (nH v) ?hx ?hs 0 (Nat.zero_le _) g M H locs ls Gj.rf hI e0 hP hS hl
  case hs =>
    intro i hi ih g1 M1 H locs ls G hI e0 hP hS hl
    exact z_hole (cells := cells + i) (slots := slots + 5 * i) G hE0 hC hR ⟨by omega, by omega⟩ hI hW (G.sl hL) e0 hP hS hi (fun g2 M2 H locs ls G2 hI2 e02 hP2 hS2 hl2 => by
      have q := ih g2 M2 H locs ls G2 hI2 e02 hP2 hS2 hl2
      rw [show cells + (i + 1) = cells + i + 1 from by omega, show slots + 5 * (i + 1) = slots + 5 * i + 5 from by omega] at q
      exact q) hl
  intro g1 M1 H locs ls G hI e0 hP hS hl
  have hE : Ev g1 s := hE0.to G.1 G.2.1
  have hL := G.sl hL
  refine lv_iload_n hx hb dX5_isSame_100 rfl (lv_at hl 0 rfl) ?_
  refine lv_aload_n hx hb dX5_isSame_101 rfl (lv_at hl 1 rfl) ?_
  refine m_get hC hE hP (k_20 hL) e_20 rfl u_5 3 (by decide) w_655 rfl rfl dX5_isSame_102 ?_
  refine m_alnA hC hE hP (k_27 hL) e_27 (congrArg nI Cn.rf.1) dX5_isSame_105 ?_
  refine lv_icmp_ge (tgt := 268) hx hb dX5_isSame_106 (by decide) (fun _ => ?_) (fun q => absurd (nI_le (Nat.le_refl _) (by omega)) q)
  refine W.widen (k := cells + 12) (n := slots + 60) (by omega) (by omega) ?_
  exact IH g1 M1 H locs ls G hI e0 hP hS (lv_sub hl [1, 2] rfl)
