/-! The law's copies of spearers and wardens: written, read. -/
section CP
variable {p : Program} {l : Launch} {e : Jvm.Env} {R : Room} {s : State} {m : MethodId} {args : Array Value} {below : List Frame} {meth : Method} {c : Code} {H : Heap} {locs : List Loc} {cells slots : Nat} {Q : State → Prop}
variable {cc : ByteArray} {nL pc : Nat} {ls : Array Slot} {rest : List Value} {own : String} {g : Gm} {M : Mem} {o : Nat → Int64} {v : Vw}
theorem WP.n3 (hP : WP g (setR M 2 v) o H) : WP g (setR (setR M 2 v) 3 (M 3)) o H := WP.cast hP (setR_id (setR_ne _ _ (by decide)))
theorem m_n24 (hC : CallFix p m c cc nL s args LG own) (hE : Ev g s) (hI : IJ g (KK g)) (hP : WP g (setR M 2 v) o H) (hS : va_S (AA g) s.heap H locs) (k : Nat) (kD : KK g (24, 3, k)) (i : Nat) {x z : Int32} (hx : x = nI i) (hi : i < 6) (hdg : decode cc pc = .ok (.iastore, 1))
    (kk : ∀ (M1 : Mem) (H1 : Heap) (locs1 : List Loc), (∀ r, r ≠ 3 → M1 r = M r) → M1 3 = up2 (M 3) (6 + i) k z → WP g (setR M1 2 v) o H1 → va_S (AA g) s.heap H1 locs1 → W p l e R s m args below meth c H1 locs1 cells slots Q (F0 m (pc + 1) ls rest)) : W p l e R s m args below meth c H locs cells slots Q (F0 m pc ls (.int z :: .int x :: .ref (ad g (24, 3, k)) :: rest)) := by
  refine m_iast hC hE hI hP.n3 hS kD e_24 i hx hi (by decide) (p_24 i hi) (ent_put g (setR M 2 v) 3 (M 3) o (6 + i) k z (kf_24 (Or.inr rfl) (by omega) (by omega))) hdg (fun H1 locs1 hP1 hS1 => ?_)
  exact kk (setR M 3 (up2 (M 3) (6 + i) k z)) H1 locs1 (fun r hr => setR_ne _ _ hr) (setR_same _ _ _) (WP.cast hP1 setR_c3) hS1
theorem m_n25 (hC : CallFix p m c cc nL s args LG own) (hE : Ev g s) (hI : IJ g (KK g)) (hP : WP g (setR M 2 v) o H) (hS : va_S (AA g) s.heap H locs) (k : Nat) (kD : KK g (25, 3, k)) (i : Nat) {x z : Int32} (hx : x = nI i) (hi : i < 4) (hdg : decode cc pc = .ok (.iastore, 1))
    (kk : ∀ (M1 : Mem) (H1 : Heap) (locs1 : List Loc), (∀ r, r ≠ 3 → M1 r = M r) → M1 3 = up2 (M 3) (12 + i) k z → WP g (setR M1 2 v) o H1 → va_S (AA g) s.heap H1 locs1 → W p l e R s m args below meth c H1 locs1 cells slots Q (F0 m (pc + 1) ls rest)) : W p l e R s m args below meth c H locs cells slots Q (F0 m pc ls (.int z :: .int x :: .ref (ad g (25, 3, k)) :: rest)) := by
  refine m_iast hC hE hI hP.n3 hS kD e_25 i hx hi (by decide) (p_25 i hi) (ent_put g (setR M 2 v) 3 (M 3) o (12 + i) k z (kf_25 (Or.inr rfl) (by omega) (by omega))) hdg (fun H1 locs1 hP1 hS1 => ?_)
  exact kk (setR M 3 (up2 (M 3) (12 + i) k z)) H1 locs1 (fun r hr => setR_ne _ _ hr) (setR_same _ _ _) (WP.cast hP1 setR_c3) hS1
theorem m_r24 (hC : CallFix p m c cc nL s args LG own) (hE : Ev g s) (hP : WP g (setR M 2 v) o H) (k : Nat) (kD : KK g (24, 3, k)) (i : Nat) {x y : Int32} (hx : x = nI i) (hi : i < 6) (hy : rS (M 3) k i = y) (hdg : decode cc pc = .ok (.iaload, 1))
    (kk : W p l e R s m args below meth c H locs cells slots Q (F0 m (pc + 1) ls (.int y :: rest))) : W p l e R s m args below meth c H locs cells slots Q (F0 m pc ls (.int x :: .ref (ad g (24, 3, k)) :: rest)) := by
  subst hy
  exact m_iald hC hE hP.n3 kD e_24 i hx hi (by decide) hdg kk
theorem m_r25 (hC : CallFix p m c cc nL s args LG own) (hE : Ev g s) (hP : WP g (setR M 2 v) o H) (k : Nat) (kD : KK g (25, 3, k)) (i : Nat) {x y : Int32} (hx : x = nI i) (hi : i < 4) (hy : rW (M 3) k i = y) (hdg : decode cc pc = .ok (.iaload, 1))
    (kk : W p l e R s m args below meth c H locs cells slots Q (F0 m (pc + 1) ls (.int y :: rest))) : W p l e R s m args below meth c H locs cells slots Q (F0 m pc ls (.int x :: .ref (ad g (25, 3, k)) :: rest)) := by
  subst hy
  exact m_iald hC hE hP.n3 kD e_25 i hx hi (by decide) hdg kk
theorem m_a28 (hC : CallFix p m c cc nL s args LG own) (hE : Ev g s) (hP : WP g (setR M 2 v) o H) (kO : KK g (28, 3, 0)) (i : Nat) {x : Int32} (hx : x = nI i) (hi : i < nS (M 3)) (hn : nS (M 3) < 2 ^ 31) (hdg : decode cc pc = .ok (.aaload, 1))
    (kk : W p l e R s m args below meth c H locs cells slots Q (F0 m (pc + 1) ls (.ref (ad g (24, 3, i)) :: rest))) : W p l e R s m args below meth c H locs cells slots Q (F0 m pc ls (.int x :: .ref (ad g (28, 3, 0)) :: rest)) :=
  m_aalA hC hE hP.n3 kO e_28 i hx hi hn hdg kk
theorem m_a29 (hC : CallFix p m c cc nL s args LG own) (hE : Ev g s) (hP : WP g (setR M 2 v) o H) (kO : KK g (29, 3, 0)) (i : Nat) {x : Int32} (hx : x = nI i) (hi : i < nW (M 3)) (hn : nW (M 3) < 2 ^ 31) (hdg : decode cc pc = .ok (.aaload, 1))
    (kk : W p l e R s m args below meth c H locs cells slots Q (F0 m (pc + 1) ls (.ref (ad g (25, 3, i)) :: rest))) : W p l e R s m args below meth c H locs cells slots Q (F0 m pc ls (.int x :: .ref (ad g (29, 3, 0)) :: rest)) :=
  m_aalA hC hE hP.n3 kO e_29 i hx hi hn hdg kk
end CP
/-- what a lake's other asking leaves of memory: the draft alone moves -/
theorem q_foresee (l : Launch) {g : Gm} (hI : IJ g (KK g)) {M : Mem} {o : Nat → Int64} {v : Vw} (hv : Inv v) (q : Int32) (h2 : fsn q) (hN : Nt 1 v) (e0 : M 0 = v) : MI l yX4_foresee cX4_foresee 3 .int (rm 6 119) g (KK g) (ent g (setR M 2 v) o) [.ref (ad g (8, 0, 0)), .int (nI 1), .int q] (factF (day v) q) (ent g (setR (setR M 1 (day (bec v (M 1)))) 2 v) o) := by
  have h := c_foreseeP_0 l hI (M := setR M 2 v) (o := o) hv 1 (by decide) q (by decide) h2 hN
  rw [s2_id e0] at h
  have e : setR (setR M 2 v) 1 (days 1 (bec v (setR M 2 v 1))) = setR (setR M 1 (day (bec v (M 1)))) 2 v := by
    rw [setR_ne (r := 2) (r' := 1) _ _ (by decide), days_1]
    funext r
    unfold setR
    by_cases z : r = 1
    · rw [if_pos z, if_neg (by omega), if_pos z]
    · rw [if_neg z]
      by_cases y : r = 2
      · rw [if_pos y, if_pos y]
      · rw [if_neg y, if_neg y, if_neg z]
  rw [e] at h
  exact h
theorem q_advise (l : Launch) {g : Gm} (hI : IJ g (KK g)) {M : Mem} {o : Nat → Int64} {v : Vw} (hv : Inv v) (k : Nat) (hk : k < nS v) (hN : Nt 5 v) (e0 : M 0 = v) : MI l yX4_advise cX4_advise 6 .int (rm 6 141) g (KK g) (ent g (setR M 2 v) o) [.ref (ad g (8, 0, 0)), .int (nI k)] (advV v k) (ent g (setR (setR M 1 (advL v (M 1) k (nH v))) 2 v) o) := by
  have h := c_adviseP_0 l hI (M := setR M 2 v) (o := o) hv k hk (in_S hv hk) hN
  rw [s2_id e0] at h
  have e : setR (setR M 2 v) 1 (advL v (setR M 2 v 1) k (nH v)) = setR (setR M 1 (advL v (M 1) k (nH v))) 2 v := by
    rw [setR_ne (r := 2) (r' := 1) _ _ (by decide)]
    funext r
    unfold setR
    by_cases z : r = 1
    · rw [if_pos z, if_neg (by omega), if_pos z]
    · rw [if_neg z]
      by_cases y : r = 2
      · rw [if_pos y, if_pos y]
      · rw [if_neg y, if_neg y, if_neg z]
  rw [e] at h
  exact h
