/-! Rows of the law's own, made anew. -/
def gN (g : Gm) (to te N a : Nat) : Gm := (g.1, (fun j => if j = (to, 3, 0) then a else if j.1 = te ∧ j.2.1 = 3 then a + 1 + j.2.2 else ad g j, (bs g, fun j => j = (to, 3, 0) ∨ (j.1 = te ∧ j.2.1 = 3 ∧ j.2.2 < N) ∨ (¬ (j.1 = te ∧ j.2.1 = 3) ∧ lk g j))))
theorem gN_o {g : Gm} {to te N a : Nat} : ad (gN g to te N a) (to, 3, 0) = a := if_pos rfl
theorem gN_r {g : Gm} {to te N a i : Nat} (h : te ≠ to) : ad (gN g to te N a) (te, 3, i) = a + 1 + i := by
  show (if _ then _ else _) = _
  rw [if_neg (nk_1 h), if_pos ⟨rfl, rfl⟩]
theorem gN_n {g : Gm} {to te N a : Nat} {j : Key} (h1 : j ≠ (to, 3, 0)) (h2 : ¬ (j.1 = te ∧ j.2.1 = 3)) : ad (gN g to te N a) j = ad g j := by
  show (if _ then _ else _) = _
  rw [if_neg h1, if_neg h2]
theorem gN_l {g : Gm} {to te N a : Nat} {j : Key} (h2 : ¬ (j.1 = te ∧ j.2.1 = 3)) (h : lk g j) : lk (gN g to te N a) j := Or.inr (Or.inr ⟨h2, h⟩)
theorem gN_k {g : Gm} {to te N a : Nat} {j : Key} (h2 : ¬ (j.1 = te ∧ j.2.1 = 3)) (h : KK g j) : KK (gN g to te N a) j := KK_lk (gN_l h2) h
theorem SimL.gN {g : Gm} {v : Vw} {to te N a : Nat} (h : SimL g v) : SimL (gN g to te N a) v := by
  refine ⟨gN_l (fun z => by cases z.2) h.1, fun c x h1 h2 => gN_l (fun z => by have : c = 3 := z.2; omega) (h.2.1 c x h1 h2), gN_l (fun z => by cases z.2) h.2.2.1, fun i hi => gN_l (fun z => by cases z.2) (h.2.2.2.1 i hi), fun i hi => gN_l (fun z => by cases z.2) (h.2.2.2.2.1 i hi), fun i hi => gN_l (fun z => by cases z.2) (h.2.2.2.2.2.1 i hi), fun c hc => gN_l (fun z => by have : c = 3 := z.2; omega) (h.2.2.2.2.2.2.1 c hc), gN_l (fun z => by cases z.2) h.2.2.2.2.2.2.2.1, gN_l (fun z => by cases z.2) h.2.2.2.2.2.2.2.2.1, gN_l (fun z => by cases z.2) h.2.2.2.2.2.2.2.2.2⟩
def rzS (u : Vw) (N : Nat) : Vw := fun c i => if 6 ≤ c ∧ c < 12 then 0 else if c = 16 ∧ i = 1 then nI N else u c i
theorem rzS_n {u : Vw} {N : Nat} (hN : N ≤ 8) : nS (rzS u N) = N := by
  unfold nS rzS
  rw [if_neg (by omega), if_pos ⟨rfl, rfl⟩, nI_clamp (by omega)]
set_option maxHeartbeats 4000000 in
theorem m_rowsS {p : Program} {l : Launch} {e : Jvm.Env} {R : Room} {s : State} {m : MethodId} {args : Array Value} {below : List Frame} {meth : Method} {c : Code} {H : Heap} {locs : List Loc} {cells slots : Nat} {Q : State → Prop} {cc : ByteArray} {nL pc : Nat} {ls : Array Slot} {rest : List Value} {own : String} {g : Gm} {M : Mem} {o : Nat → Int64} {u : Vw} (hC : CallFix p m c cc nL s args LG own) (hE : Ev g s) (hI : IJ g (KK g)) (hP : WP g (setR M 3 u) o H) (hS : va_S (AA g) s.heap H locs) {N : Nat} (hN : N ≤ 8) {x y : Int32} (hx : x = nI N) (hy : y = nI 6) {index : Nat} (hcl : Cond.classLink own index "[[I" ∈ LG) (hcells : cells + 9 ≤ R.cells) (hslots : slots + 56 ≤ R.slots) (hdg : decode cc pc = .ok (.multianewarray index 2, 4))
    (kk : ∀ (a : Nat) (H1 : Heap) (locs1 : List Loc), WP (gN g 28 24 N a) (setR M 3 (rzS u N)) o H1 → IJ (gN g 28 24 N a) (KK (gN g 28 24 N a)) → va_S (AA g) s.heap H1 locs1 → W p l e R s m args below meth c H1 locs1 (cells + 9) (slots + 56) Q (F0 m (pc + 4) ls (.ref (ad (gN g 28 24 N a) (28, 3, 0)) :: rest))) : W p l e R s m args below meth c H locs cells slots Q (F0 m pc ls (.int y :: .int x :: rest)) := by
  obtain ⟨hx1, hb, hml, hown, hG⟩ := hC
  have hmul : N * 6 ≤ 48 := by omega
  refine W_multi (N := N) (B := 6) hx1 hb hown (hG _ hcl) hE.2.2.2.2.2.use (hG _ w_53) rfl hdg rfl hx hy (by omega) (by decide) (by omega) (by omega) fun H1 l1 cO cI f1 f2 z1 o1 a1 r1 q1 => ?_
  have e4 : cO = gC g 4 := Option.some.inj (f1.symm.trans (hE.1.2 4 _ rfl).2)
  have e0 : cI = gC g 0 := Option.some.inj (f2.symm.trans (hE.1.2 0 _ rfl).2)
  subst e4
  subst e0
  have hbH : bs g ≤ H.size := Nat.le_trans hE.2.2.2.2.1 hS.1
  have fin := grow (g := g) (g' := gN g 28 24 N H.size) (M := setR M 3 u) (M' := setR M 3 (rzS u N)) (o := o) (H := H) (H1 := H1) (fun k => k = (28, 3, 0) ∨ (k.1 = 24 ∧ k.2.1 = 3)) rfl rfl (fun k hk hz => ⟨KK_lk (g := gN g 28 24 N H.size) (g' := g) (fun q => (Or.resolve_left (Or.resolve_left q (fun z => hz (Or.inl z))) (fun z => hz (Or.inr ⟨z.1, z.2.1⟩))).2) hk, gN_n (fun z => hz (Or.inl z)) (fun z => hz (Or.inr z))⟩) ?_ ?_ ?_ ?_ o1 hP hI hbH
  · refine W.widen (k := cells + 9) (n := slots + 56) (by omega) (by omega) ?_
    have q := kk H.size H1 l1 fin.1 fin.2 (hS.sub (by omega) o1 (fun q hq => (q1 q hq).elim Or.inl (fun z => Or.inr (by rw [z]; exact hbH))))
    rw [gN_o] at q
    exact q
  · intro k hk hz
    rcases hz with rfl | ⟨t1, t2⟩
    · rw [gN_o]
      refine ⟨Nat.le_refl _, ?_⟩
      rw [e_28, rzS_n hN]
      show H1[H.size]? = some (vp_cell (gC g 4) (refs N (fun i => ad (gN g 28 24 N H.size) (24, 3, i))))
      rw [a1]
      unfold refs
      rw [vp_cell_q]
      refine congrArg some (arrV_eq fun j hj => ?_)
      show Value.ref (H.size + 1 + j) = Value.ref (ad (gN g 28 24 N H.size) (24, 3, j))
      rw [gN_r (by decide)]
    · obtain ⟨t, a, i⟩ := k
      have t1 : t = 24 := t1
      have t2 : a = 3 := t2
      subst t1
      subst t2
      have hi : i < N := by
        have q := hk.2
        rcases q with z | z | z
        · exact absurd z (nk_1 (by decide))
        · exact z.2.2
        · exact absurd ⟨rfl, rfl⟩ z.1
      rw [gN_r (by decide)]
      refine ⟨by omega, ?_⟩
      rw [e_24]
      show H1[H.size + 1 + i]? = some (vp_cell (gC g 0) (6, .inl (rS (rzS u N) i)))
      rw [r1 i hi, vp_cell_i]
      refine congrArg some (arrV_eq fun j hj => congrArg Value.int ?_)
      rw [rS_e hj]
      exact (if_pos ⟨by omega, by omega⟩).symm
  · intro j k hj hk kj kk1 e
    obtain ⟨t, a, b⟩ := j
    obtain ⟨t', a', b'⟩ := k
    rcases hj with hj | ⟨h1, h2⟩ <;> rcases hk with hk | ⟨h3, h4⟩
    · rw [hj, hk]
    · have h3 : t' = 24 := h3
      have h4 : a' = 3 := h4
      subst h3
      subst h4
      rw [hj, gN_o, gN_r (by decide)] at e
      omega
    · have h1 : t = 24 := h1
      have h2 : a = 3 := h2
      subst h1
      subst h2
      rw [hk, gN_o, gN_r (by decide)] at e
      omega
    · have h1 : t = 24 := h1
      have h2 : a = 3 := h2
      have h3 : t' = 24 := h3
      have h4 : a' = 3 := h4
      subst h1
      subst h2
      subst h3
      subst h4
      rw [gN_r (by decide), gN_r (by decide)] at e
      rw [show b = b' by omega]
  · intro k hk hz r c i hd
    by_cases q : r = 3
    · subst q
      rw [setR_same, setR_same]
      unfold rzS
      by_cases q1 : 6 ≤ c ∧ c < 12
      · exact absurd (Or.inr (by rw [(dep_key hk hd).trans (kf_24 (Or.inr rfl) q1.1 q1.2)]; exact ⟨rfl, rfl⟩)) hz
      · rw [if_neg q1]
        by_cases q2 : c = 16 ∧ i = 1
        · obtain ⟨rfl, rfl⟩ := q2
          exact absurd (Or.inl ((dep_key hk hd).trans rfl)) hz
        · rw [if_neg q2]
    · rw [setR_ne _ _ q, setR_ne _ _ q]
  · intro k j hk hz hrf
    refine gN_n (fun z => ?_) (fun z => ?_)
    · subst z
      have h20 := rfs_out hrf (by decide)
      obtain ⟨t, a, b⟩ := k
      have h20 : t = 20 := h20
      subst h20
      simp [rfs] at hrf
    · obtain ⟨h1, i, _, h2⟩ := rfs_24 hrf z.1
      obtain ⟨t, a, b⟩ := k
      have h1 : t = 28 := h1
      subst h1
      have h3 : a = 3 := by
        have := z.2
        rw [h2] at this
        exact this
      subst h3
      have h4 : b = 0 := hk.1.2
      subst h4
      exact hz (Or.inl rfl)
def rzW (u : Vw) (N : Nat) : Vw := fun c i => if 12 ≤ c ∧ c < 16 then 0 else if c = 16 ∧ i = 2 then nI N else u c i
theorem rzW_n {u : Vw} {N : Nat} (hN : N ≤ 3) : nW (rzW u N) = N := by
  unfold nW rzW
  rw [if_neg (by omega), if_pos ⟨rfl, rfl⟩, nI_clamp (by omega)]
set_option maxHeartbeats 4000000 in
theorem m_rowsW {p : Program} {l : Launch} {e : Jvm.Env} {R : Room} {s : State} {m : MethodId} {args : Array Value} {below : List Frame} {meth : Method} {c : Code} {H : Heap} {locs : List Loc} {cells slots : Nat} {Q : State → Prop} {cc : ByteArray} {nL pc : Nat} {ls : Array Slot} {rest : List Value} {own : String} {g : Gm} {M : Mem} {o : Nat → Int64} {u : Vw} (hC : CallFix p m c cc nL s args LG own) (hE : Ev g s) (hI : IJ g (KK g)) (hP : WP g (setR M 3 u) o H) (hS : va_S (AA g) s.heap H locs) {N : Nat} (hN : N ≤ 3) {x y : Int32} (hx : x = nI N) (hy : y = nI 4) {index : Nat} (hcl : Cond.classLink own index "[[I" ∈ LG) (hcells : cells + 4 ≤ R.cells) (hslots : slots + 15 ≤ R.slots) (hdg : decode cc pc = .ok (.multianewarray index 2, 4))
    (kk : ∀ (a : Nat) (H1 : Heap) (locs1 : List Loc), WP (gN g 29 25 N a) (setR M 3 (rzW u N)) o H1 → IJ (gN g 29 25 N a) (KK (gN g 29 25 N a)) → va_S (AA g) s.heap H1 locs1 → W p l e R s m args below meth c H1 locs1 (cells + 4) (slots + 15) Q (F0 m (pc + 4) ls (.ref (ad (gN g 29 25 N a) (29, 3, 0)) :: rest))) : W p l e R s m args below meth c H locs cells slots Q (F0 m pc ls (.int y :: .int x :: rest)) := by
  obtain ⟨hx1, hb, hml, hown, hG⟩ := hC
  have hmul : N * 4 ≤ 12 := by omega
  refine W_multi (N := N) (B := 4) hx1 hb hown (hG _ hcl) hE.2.2.2.2.2.use (hG _ w_53) rfl hdg rfl hx hy (by omega) (by decide) (by omega) (by omega) fun H1 l1 cO cI f1 f2 z1 o1 a1 r1 q1 => ?_
  have e4 : cO = gC g 4 := Option.some.inj (f1.symm.trans (hE.1.2 4 _ rfl).2)
  have e0 : cI = gC g 0 := Option.some.inj (f2.symm.trans (hE.1.2 0 _ rfl).2)
  subst e4
  subst e0
  have hbH : bs g ≤ H.size := Nat.le_trans hE.2.2.2.2.1 hS.1
  have fin := grow (g := g) (g' := gN g 29 25 N H.size) (M := setR M 3 u) (M' := setR M 3 (rzW u N)) (o := o) (H := H) (H1 := H1) (fun k => k = (29, 3, 0) ∨ (k.1 = 25 ∧ k.2.1 = 3)) rfl rfl (fun k hk hz => ⟨KK_lk (g := gN g 29 25 N H.size) (g' := g) (fun q => (Or.resolve_left (Or.resolve_left q (fun z => hz (Or.inl z))) (fun z => hz (Or.inr ⟨z.1, z.2.1⟩))).2) hk, gN_n (fun z => hz (Or.inl z)) (fun z => hz (Or.inr z))⟩) ?_ ?_ ?_ ?_ o1 hP hI hbH
  · refine W.widen (k := cells + 4) (n := slots + 15) (by omega) (by omega) ?_
    have q := kk H.size H1 l1 fin.1 fin.2 (hS.sub (by omega) o1 (fun q hq => (q1 q hq).elim Or.inl (fun z => Or.inr (by rw [z]; exact hbH))))
    rw [gN_o] at q
    exact q
  · intro k hk hz
    rcases hz with rfl | ⟨t1, t2⟩
    · rw [gN_o]
      refine ⟨Nat.le_refl _, ?_⟩
      rw [e_29, rzW_n hN]
      show H1[H.size]? = some (vp_cell (gC g 4) (refs N (fun i => ad (gN g 29 25 N H.size) (25, 3, i))))
      rw [a1]
      unfold refs
      rw [vp_cell_q]
      refine congrArg some (arrV_eq fun j hj => ?_)
      show Value.ref (H.size + 1 + j) = Value.ref (ad (gN g 29 25 N H.size) (25, 3, j))
      rw [gN_r (by decide)]
    · obtain ⟨t, a, i⟩ := k
      have t1 : t = 25 := t1
      have t2 : a = 3 := t2
      subst t1
      subst t2
      have hi : i < N := by
        have q := hk.2
        rcases q with z | z | z
        · exact absurd z (nk_1 (by decide))
        · exact z.2.2
        · exact absurd ⟨rfl, rfl⟩ z.1
      rw [gN_r (by decide)]
      refine ⟨by omega, ?_⟩
      rw [e_25]
      show H1[H.size + 1 + i]? = some (vp_cell (gC g 0) (4, .inl (rW (rzW u N) i)))
      rw [r1 i hi, vp_cell_i]
      refine congrArg some (arrV_eq fun j hj => congrArg Value.int ?_)
      rw [rW_e hj]
      exact (if_pos ⟨by omega, by omega⟩).symm
  · intro j k hj hk kj kk1 e
    obtain ⟨t, a, b⟩ := j
    obtain ⟨t', a', b'⟩ := k
    rcases hj with hj | ⟨h1, h2⟩ <;> rcases hk with hk | ⟨h3, h4⟩
    · rw [hj, hk]
    · have h3 : t' = 25 := h3
      have h4 : a' = 3 := h4
      subst h3
      subst h4
      rw [hj, gN_o, gN_r (by decide)] at e
      omega
    · have h1 : t = 25 := h1
      have h2 : a = 3 := h2
      subst h1
      subst h2
      rw [hk, gN_o, gN_r (by decide)] at e
      omega
    · have h1 : t = 25 := h1
      have h2 : a = 3 := h2
      have h3 : t' = 25 := h3
      have h4 : a' = 3 := h4
      subst h1
      subst h2
      subst h3
      subst h4
      rw [gN_r (by decide), gN_r (by decide)] at e
      rw [show b = b' by omega]
  · intro k hk hz r c i hd
    by_cases q : r = 3
    · subst q
      rw [setR_same, setR_same]
      unfold rzW
      by_cases q1 : 12 ≤ c ∧ c < 16
      · exact absurd (Or.inr (by rw [(dep_key hk hd).trans (kf_25 (Or.inr rfl) q1.1 q1.2)]; exact ⟨rfl, rfl⟩)) hz
      · rw [if_neg q1]
        by_cases q2 : c = 16 ∧ i = 2
        · obtain ⟨rfl, rfl⟩ := q2
          exact absurd (Or.inl ((dep_key hk hd).trans rfl)) hz
        · rw [if_neg q2]
    · rw [setR_ne _ _ q, setR_ne _ _ q]
  · intro k j hk hz hrf
    refine gN_n (fun z => ?_) (fun z => ?_)
    · subst z
      have h20 := rfs_out hrf (by decide)
      obtain ⟨t, a, b⟩ := k
      have h20 : t = 20 := h20
      subst h20
      simp [rfs] at hrf
    · obtain ⟨h1, i, _, h2⟩ := rfs_25 hrf z.1
      obtain ⟨t, a, b⟩ := k
      have h1 : t = 29 := h1
      subst h1
      have h3 : a = 3 := by
        have := z.2
        rw [h2] at this
        exact this
      subst h3
      have h4 : b = 0 := hk.1.2
      subst h4
      exact hz (Or.inl rfl)
theorem tl_mH {u : Vw} {q N : Nat} {f : Nat → Int32} (hN : N < 2 ^ 31) (h : q = 2 ∨ q = 3 ∨ ((q = 0 ∨ q = 1) ∧ N = 5)) : tl (mH u q N f) q = N := by
  rcases h with rfl | rfl | ⟨rfl | rfl, rfl⟩
  · show (mH u 2 N f 16 0).toNatClampNeg = N
    unfold mH
    rw [if_neg (by decide), if_pos ⟨rfl, Or.inl ⟨rfl, rfl⟩⟩, nI_clamp hN]
  · show (mH u 3 N f 16 3).toNatClampNeg = N
    unfold mH
    rw [if_neg (by decide), if_pos ⟨rfl, Or.inr ⟨rfl, rfl⟩⟩, nI_clamp hN]
  · rfl
  · rfl
/-- a row of notes, made anew -/
theorem m_newN {p : Program} {l : Launch} {e : Jvm.Env} {R : Room} {s : State} {m : MethodId} {args : Array Value} {below : List Frame} {meth : Method} {c : Code} {H : Heap} {locs : List Loc} {cells slots : Nat} {Q : State → Prop} {cc : ByteArray} {nL pc : Nat} {ls : Array Slot} {rest : List Value} {own : String} {g : Gm} {M : Mem} {o : Nat → Int64} {u : Vw} (hC : CallFix p m c cc nL s args LG own) (hE : Ev g s) (hI : IJ g (KK g)) (hP : WP g (setR M 3 u) o H) (hS : va_S (AA g) s.heap H locs) (q : Nat) (hq : q < 6) {N : Nat} (hN : N ≤ 12) (hT : q = 2 ∨ q = 3 ∨ ((q = 0 ∨ q = 1) ∧ N = 5)) {x : Int32} (hx : x = nI N) (hcells : cells + 1 ≤ R.cells) (hslots : slots + 12 ≤ R.slots) (hdg : decode cc pc = .ok (.newarray .int, 2))
    (kk : ∀ (a : Nat) (H1 : Heap), WP (gA g (30, q, 0) a) (setR M 3 (mH u q N (fun _ => 0))) o H1 → IJ (gA g (30, q, 0) a) (KK (gA g (30, q, 0) a)) → va_S (AA g) s.heap H1 locs → W p l e R s m args below meth c H1 locs (cells + 1) (slots + 12) Q (F0 m (pc + 2) ls (.ref (ad (gA g (30, q, 0) a) (30, q, 0)) :: rest))) : W p l e R s m args below meth c H locs cells slots Q (F0 m pc ls (.int x :: rest)) := by
  subst hx
  refine m_newI hC hE hS (N := N) (nI_pos (by omega)) (nI_clamp (by omega)) (by omega) hcells (by omega) hdg (fun H1 z1 o1 ha hS1 => ?_)
  have hP1 : WP g (setR M 3 u) o H1 := fun k hk => (hP k hk).kept (o1 _ (hP k hk).lt)
  have hA : AA g H.size := Nat.le_trans hE.2.2.2.2.1 hS.1
  have hab : ∀ k, KK g k → ad g k ≠ H.size := fun k hk z => by
    have := (hP k hk).lt
    rw [z] at this
    exact absurd this (Nat.lt_irrefl _)
  obtain ⟨h1, h2⟩ := own_n q hq (tl_mH (u := setR M 3 u 3) (f := fun _ => 0) (by omega) hT) hI hP1 ha hA hab
  rw [setR_setR, setR_same] at h1
  refine W.widen (k := cells + 1) (n := slots + 12) (Nat.le_refl _) (by omega) ?_
  have z := kk H.size H1 h1 h2 hS1
  rw [gA_ad] at z
  exact z
