/-! The making of all cells, in the order in which the law makes them. -/
/-- the place of a cell behind the base -/
def off : Key → Nat := fun k => match k.1 with
  | 0 => 6 + 30 * k.2.1 + k.2.2
  | 1 => 19 + 30 * k.2.1 + k.2.2
  | 2 => 28 + 30 * k.2.1 + k.2.2
  | 3 => 1 + 30 * k.2.1
  | 4 => 2 + 30 * k.2.1 + k.2.2
  | 5 => 5 + 30 * k.2.1
  | 6 => 18 + 30 * k.2.1
  | 7 => 27 + 30 * k.2.1
  | 8 => 0
  | 20 => 61
  | 26 => 62 + 10 * k.2.1
  | 21 => 63 + 10 * k.2.1 + k.2.2
  | 22 => 82
  | 27 => 83
  | 28 => 84
  | _ => 85
/-- the picture's cells as it is made -/
def SIL : List Key := [(20, 0, 0), (26, 0, 0), (26, 1, 0), (22, 0, 0), (27, 0, 0), (28, 2, 0), (29, 2, 0)] ++ (List.range 2).flatMap fun c => (List.range 9).map fun x => ((21, c, x) : Key)
def KL : List Key := SIL ++ ((List.range 2).flatMap fun r => (List.range 12).map (fun i => ((0, r, i) : Key)) ++ (List.range 8).map (fun i => ((1, r, i) : Key)) ++ (List.range 3).map (fun i => ((2, r, i) : Key)) ++ (List.range 3).map (fun i => ((4, r, i) : Key)) ++ [(3, r, 0), (5, r, 0), (6, r, 0), (7, r, 0)]) ++ [(8, 0, 0)]
theorem KL_3 (t r : Nat) (h : t = 3 ∨ t = 5 ∨ t = 6 ∨ t = 7) (hr : r < 2) : ((t, r, 0) : Key) ∈ KL := by
  have : r = 0 ∨ r = 1 := by omega
  rcases h with rfl | rfl | rfl | rfl <;> rcases this with rfl | rfl <;> decide +kernel
set_option maxRecDepth 100000 in
theorem KL_0 : (∀ r, r < 2 → ∀ i, i < 12 → ((0, r, i) : Key) ∈ KL) ∧ (∀ r, r < 2 → ∀ i, i < 8 → ((1, r, i) : Key) ∈ KL) ∧ (∀ r, r < 2 → ∀ i, i < 3 → ((2, r, i) : Key) ∈ KL) ∧ (∀ r, r < 2 → ∀ i, i < 3 → ((4, r, i) : Key) ∈ KL) ∧ ((8, 0, 0) : Key) ∈ KL := ⟨by decide +kernel, by decide +kernel, by decide +kernel, by decide +kernel, by decide +kernel⟩
set_option maxRecDepth 100000 in
theorem KL_1 : ∀ j ∈ KL, ∀ k ∈ KL, off j = off k → j = k := by decide +kernel
theorem KL_2 : ∀ k ∈ KL, off k < 86 := by decide +kernel
theorem KL_in {g : Gm} (hn : ∀ k, lk g k → k ∈ SIL) {k : Key} (h : KK g k) : k ∈ KL := by
  obtain ⟨t, a, b⟩ := k
  obtain ⟨h0, h1, h2, h4, h8⟩ := KL_0
  unfold KK at h
  split at h <;> rename_i ht <;> simp only at ht h <;> (try subst ht) <;> (try simp only at h) <;> first | exact List.mem_append_left _ (List.mem_append_left _ (hn _ h.2)) | exact h.elim | skip
  · exact h0 a h.1 b h.2
  · exact h1 a h.1 b h.2
  · exact h2 a h.1 b h.2
  · rw [h.2]; exact KL_3 3 a (Or.inl rfl) h.1
  · exact h4 a h.1 b h.2
  · rw [h.2]; exact KL_3 5 a (Or.inr (Or.inl rfl)) h.1
  · rw [h.2]; exact KL_3 6 a (Or.inr (Or.inr (Or.inl rfl))) h.1
  · rw [h.2]; exact KL_3 7 a (Or.inr (Or.inr (Or.inr rfl))) h.1
  · rw [h.1, h.2]; exact h8
def Gz (g : Gm) : Prop := (∀ k, ad g k = bs g + off k) ∧ ∀ k, lk g k → k ∈ SIL
theorem off_inj {g : Gm} (hg : Gz g) {j k : Key} (hj : KK g j) (hk : KK g k) (h : off j = off k) : j = k := KL_1 j (KL_in hg.2 hj) k (KL_in hg.2 hk) h
theorem Gz.ij {g : Gm} (h : Gz g) : IJ g (KK g) := ⟨fun j k hj hk e => off_inj h hj hk (by have := h.1 j; have := h.1 k; omega), fun k _ => by rw [h.1 k]; exact Nat.le_add_right _ _⟩
/-- the cells made so far -/
def Kn (g : Gm) (n : Nat) (k : Key) : Prop := KK g k ∧ off k < n
theorem Gz.ijn {g : Gm} (h : Gz g) (n : Nat) : IJ g (Kn g n) := ⟨fun j k hj hk e => h.ij.1 j k hj.1 hk.1 e, fun k hk => h.ij.2 k hk.1⟩
theorem Kn_s {g : Gm} (hg : Gz g) {n : Nat} {k0 k : Key} (h0 : KK g k0) (ho : off k0 = n) (h : Kn g (n + 1) k) : k = k0 ∨ Kn g n k := by
  rcases Nat.lt_or_ge (off k) n with q | q
  · exact Or.inr ⟨h.1, q⟩
  · exact Or.inl (off_inj hg h.1 h0 (by have := h.2; omega))
def WSz (g : Gm) (n : Nat) (en : Key → va_E) (H : Heap) : Prop := WPe g (Kn g n) en H ∧ H.size = bs g + n
def updE (en : Key → va_E) (k0 : Key) (v : va_E) : Key → va_E := fun k => if k = k0 then v else en k
theorem updE_same {en : Key → va_E} {k0 : Key} {v : va_E} : updE en k0 v k0 = v := if_pos rfl
theorem updE_ne {en : Key → va_E} {k0 k : Key} {v : va_E} (h : k ≠ k0) : updE en k0 v k = en k := if_neg h
theorem WSz.grow {g : Gm} (hg : Gz g) {n : Nat} {en : Key → va_E} {H H1 : Heap} (h : WSz g n en H) {k0 : Key} (hk : KK g k0) (ho : off k0 = n) {v : va_E} (z : H1.size = H.size + 1) (o1 : ∀ q, q < H.size → H1[q]? = H[q]?) (e : va_at (gD g) cls7 (ad g k0, v) H1) : WSz g (n + 1) (updE en k0 v) H1 := by
  refine ⟨fun k hk1 => ?_, by rw [z, h.2]; omega⟩
  rcases Kn_s hg hk ho hk1 with q | q
  · rw [q, updE_same]; exact e
  · rw [updE_ne (fun z => by have := q.2; rw [z, ho] at this; omega)]
    exact (h.1 k q).kept (o1 _ (h.1 k q).lt)
theorem va_S.grow {A : Nat → Prop} {H0 H H1 : Heap} {locs : List Loc} (hS : va_S A H0 H locs) (z : H1.size = H.size + 1) (o1 : ∀ q, q < H.size → H1[q]? = H[q]?) : va_S A H0 H1 locs := ⟨by have := hS.1; omega, fun x h1 h2 => (o1 x (Nat.lt_of_lt_of_le h1 hS.1)).trans (hS.2.1 x h1 h2), hS.2.2⟩
section MN
variable {p : Program} {l : Launch} {e : Jvm.Env} {R : Room} {s : State} {m : MethodId} {args : Array Value} {below : List Frame} {meth : Method} {c : Code} {H : Heap} {locs : List Loc} {cells slots : Nat} {Q : State → Prop}
variable {cc : ByteArray} {nL pc : Nat} {ls : Array Slot} {rest : List Value} {own : String} {g : Gm} {n : Nat} {en : Key → va_E}
theorem m_new (hC : CallFix p m c cc nL s args LG own) (hE : Ev g s) (hg : Gz g) (hZ : WSz g n en H) (hS : va_S (AA g) s.heap H locs) (k0 : Key) (hk : KK g k0) (ho : off k0 = n) {ci N : Nat} {C : String} {T : u_T} (hc : cls7[ci]? = some (C, T, N)) (hu : ∀ w ∈ u_ws C T N, w ∈ LG) {ty : Nat → FieldType} (hty : ∀ k, k < N → parseFieldDescriptor (T k).2.2.1 = some (ty k)) {index : Nat} (hcl : Cond.classLink own index C ∈ LG) (hinst : Cond.instantiable C N ∈ LG) (hini : Cond.initialized C ∈ LG) (fs : List Value) (hfs : ∀ j, j < N → defaultValue (ty j) = vp_V fs j) (hcells : cells + 1 ≤ R.cells) (hslots : slots + N ≤ R.slots) (hdg : decode cc pc = .ok (.new index, 3))
    (kk : ∀ H1 : Heap, WSz g (n + 1) (updE en k0 (.inr (ci, fs))) H1 → va_S (AA g) s.heap H1 locs → W p l e R s m args below meth c H1 locs (cells + 1) (slots + N) Q (F0 m (pc + 3) ls (.ref (ad g k0) :: rest))) : W p l e R s m args below meth c H locs cells slots Q (F0 m pc ls rest) := by
  obtain ⟨hx1, hb, hml, hown, hG⟩ := hC
  have hKn := hE.1.1 ci _ hc
  have h0 : H.size = ad g k0 := by rw [hZ.2, hg.1, ho]
  refine W.newcK hx1 hb hown (hG _ hcl) (hG _ hinst) (hG _ hini) rfl hdg hcells hslots hKn.2.1 h0 fun H1 kC hkC e1 z1 o1 => ?_
  have z2 : H1.size = H.size + 1 := by rw [z1, h0]
  have o2 : ∀ q, q < H.size → H1[q]? = H[q]? := fun q hq => o1 q (by rw [← h0]; exact hq)
  exact kk H1 (hZ.grow hg hk ho z2 o2 ⟨_, hc, (u_born ty hG hu hKn hkC e1 hty).to hfs⟩) (hS.grow z2 o2)
theorem m_newa (hC : CallFix p m c cc nL s args LG own) (hg : Gz g) (hZ : WSz g n en H) (hS : va_S (AA g) s.heap H locs) (k0 : Key) (hk : KK g k0) (ho : off k0 = n) {atype : ArrayType} (harr : Cond.arrayClass (newarray.typeOf atype) ∈ LG) {cA : ClassId} (hRA : s.vm.findClass ("[" ++ (newarray.typeOf atype).toString) = some cA) {x : Int32} {N : Nat} {a0 : vp_A} (ha : vp_cell cA a0 = arrV cA N (fun _ => defaultValue (newarray.typeOf atype))) (hn : ¬ x < 0) (hN : x.toNatClampNeg = N) (hbytes : N * componentBytes (newarray.typeOf atype) ≤ 536870912) (hcells : cells + 1 ≤ R.cells) (hslots : slots + N ≤ R.slots) (hdg : decode cc pc = .ok (.newarray atype, 2))
    (kk : ∀ H1 : Heap, WSz g (n + 1) (updE en k0 (.inl (cA, a0))) H1 → va_S (AA g) s.heap H1 locs → W p l e R s m args below meth c H1 locs (cells + 1) (slots + N) Q (F0 m (pc + 2) ls (.ref (ad g k0) :: rest))) : W p l e R s m args below meth c H locs cells slots Q (F0 m pc ls (.int x :: rest)) := by
  obtain ⟨hx1, hb, hml, hown, hG⟩ := hC
  have h0 : H.size = ad g k0 := by rw [hZ.2, hg.1, ho]
  refine va_newaK hx1 hb (hG _ harr) rfl hdg rfl hn hN hbytes hcells hslots h0 fun H1 cB e1 z1 o1 hAr hNm => ?_
  have z2 : H1.size = H.size + 1 := by rw [z1, h0]
  have o2 : ∀ q, q < H.size → H1[q]? = H[q]? := fun q hq => o1 q (by rw [← h0]; exact hq)
  have ec : cB = cA := Option.some.inj (hNm.symm.trans hRA)
  subst ec
  refine kk H1 (hZ.grow hg hk ho z2 o2 ?_) (hS.grow z2 o2)
  show H1[ad g k0]? = some (vp_cell _ _)
  rw [ha]
  exact e1
theorem m_newq (hC : CallFix p m c cc nL s args LG own) (hg : Gz g) (hZ : WSz g n en H) (hS : va_S (AA g) s.heap H locs) (k0 : Key) (hk : KK g k0) (ho : off k0 = n) {C : String} {index : Nat} (hcl : Cond.classLink own index C ∈ LG) (hover : va_AO C s) {cA : ClassId} (hRA : s.vm.findClass ("[" ++ (FieldType.object C).toString) = some cA) {x : Int32} {N : Nat} (hn : ¬ x < 0) (hN : x.toNatClampNeg = N) (hbytes : N * 4 ≤ 536870912) (hcells : cells + 1 ≤ R.cells) (hslots : slots + N ≤ R.slots) (hdg : decode cc pc = .ok (.anewarray index, 3))
    (kk : ∀ H1 : Heap, WSz g (n + 1) (updE en k0 (.inl (cA, N, .inr (.inr (.inr (.inr (fun _ => none))))))) H1 → va_S (AA g) s.heap H1 locs → W p l e R s m args below meth c H1 locs (cells + 1) (slots + N) Q (F0 m (pc + 3) ls (.ref (ad g k0) :: rest))) : W p l e R s m args below meth c H locs cells slots Q (F0 m pc ls (.int x :: rest)) := by
  obtain ⟨hx1, hb, hml, hown, hG⟩ := hC
  have h0 : H.size = ad g k0 := by rw [hZ.2, hg.1, ho]
  subst hN
  refine W.anew hx1 hb hown (hG _ hcl) (va_AO.use hover) rfl hdg rfl hn hbytes hcells hslots fun cB kA comp f1 f2 f3 f4 => ?_
  have ec : cB = cA := Option.some.inj (f1.symm.trans hRA)
  subst ec
  generalize hH1 : H.push ({ cls := cB, slots := Array.replicate x.toNatClampNeg .null, vm := .none } : Cell) = H1
  have z2 : H1.size = H.size + 1 := by rw [← hH1, Array.size_push]
  have e1 : H1[H.size]? = some (arrV cB x.toNatClampNeg (fun _ => .null)) := by rw [← hH1, Array.getElem?_push_size, ← arrV_new]
  have o2 : ∀ q : Nat, q < H.size → H1[q]? = H[q]? := fun q hq => by rw [← hH1, Array.getElem?_push, if_neg (Nat.ne_of_lt hq)]
  have kk2 := kk H1 (hZ.grow hg hk ho z2 o2 (by
    show H1[ad g k0]? = some (vp_cell _ _)
    rw [vp_cell_q, ← h0]
    exact e1)) (hS.grow z2 o2)
  rw [← h0] at kk2
  exact kk2
end MN
