/-! The law's own picture of the lake: which of its cells are there; rows for arrays of arrays. -/
def SimL (g : Gm) (v : Vw) : Prop := lk g (20, 0, 0) ∧ (∀ c x, c < 2 → x < 9 → lk g (21, c, x)) ∧ lk g (22, 0, 0) ∧ (∀ h, h < nH v → lk g (23, 0, h)) ∧ (∀ k, k < nS v → lk g (24, 2, k)) ∧ (∀ w, w < nW v → lk g (25, 2, w)) ∧ (∀ c, c < 2 → lk g (26, c, 0)) ∧ lk g (27, 0, 0) ∧ lk g (28, 2, 0) ∧ lk g (29, 2, 0)
theorem SimL.of {g : Gm} {v u : Vw} (h : SimL g v) (e : ∀ i, i < 3 → u 16 i = v 16 i) : SimL g u := by
  have e0 : nH u = nH v := by unfold nH; rw [e 0 (by decide)]
  have e1 : nS u = nS v := by unfold nS; rw [e 1 (by decide)]
  have e2 : nW u = nW v := by unfold nW; rw [e 2 (by decide)]
  unfold SimL
  rw [e0, e1, e2]
  exact h
section KS
variable {g : Gm} {v : Vw}
theorem k_20 (h : SimL g v) : KK g (20, 0, 0) := ⟨⟨rfl, rfl⟩, h.1⟩
theorem k_21 (h : SimL g v) {c x : Nat} (hc : c < 2) (hx : x < 9) : KK g (21, c, x) := ⟨⟨hc, hx⟩, h.2.1 c x hc hx⟩
theorem k_22 (h : SimL g v) : KK g (22, 0, 0) := ⟨⟨rfl, rfl⟩, h.2.2.1⟩
theorem k_23 (h : SimL g v) {i : Nat} (hi : i < nH v) : KK g (23, 0, i) := ⟨rfl, h.2.2.2.1 i hi⟩
theorem k_24 (h : SimL g v) {i : Nat} (hi : i < nS v) : KK g (24, 2, i) := ⟨Or.inl rfl, h.2.2.2.2.1 i hi⟩
theorem k_25 (h : SimL g v) {i : Nat} (hi : i < nW v) : KK g (25, 2, i) := ⟨Or.inl rfl, h.2.2.2.2.2.1 i hi⟩
theorem k_26 (h : SimL g v) {c : Nat} (hc : c < 2) : KK g (26, c, 0) := ⟨⟨hc, rfl⟩, h.2.2.2.2.2.2.1 c hc⟩
theorem k_27 (h : SimL g v) : KK g (27, 0, 0) := ⟨⟨rfl, rfl⟩, h.2.2.2.2.2.2.2.1⟩
theorem k_28 (h : SimL g v) : KK g (28, 2, 0) := ⟨⟨Or.inl rfl, rfl⟩, h.2.2.2.2.2.2.2.2.1⟩
theorem k_29 (h : SimL g v) : KK g (29, 2, 0) := ⟨⟨Or.inl rfl, rfl⟩, h.2.2.2.2.2.2.2.2.2⟩
end KS
/-- as many of each -/
def Cn (v u : Vw) : Prop := nH u = nH v ∧ nS u = nS v ∧ nW u = nW v
theorem Cn.rf {v : Vw} : Cn v v := ⟨rfl, rfl, rfl⟩
theorem Cn.of {v u : Vw} (e : ∀ i, i < 3 → u 16 i = v 16 i) : Cn v u := ⟨by unfold nH; rw [e 0 (by decide)], by unfold nS; rw [e 1 (by decide)], by unfold nW; rw [e 2 (by decide)]⟩
theorem Cn.up {v u : Vw} (h : Cn v u) {c i : Nat} {x : Int32} (hc : ¬ (16 = c ∧ i < 3)) : Cn v (up2 u c i x) := ⟨(nH_u (by omega)).trans h.1, (nS_u (by omega)).trans h.2.1, (nW_u (by omega)).trans h.2.2⟩
theorem Cn.tr {v u w : Vw} (h : Cn v u) (k : Cn u w) : Cn v w := ⟨k.1.trans h.1, k.2.1.trans h.2.1, k.2.2.trans h.2.2⟩
theorem Cn.lH {v u : Vw} (h : Cn v u) {i : Nat} (hi : i < nH v) : i < nH u := by rw [h.1]; exact hi
theorem Cn.lS {v u : Vw} (h : Cn v u) {i : Nat} (hi : i < nS v) : i < nS u := by rw [h.2.1]; exact hi
theorem Cn.lW {v u : Vw} (h : Cn v u) {i : Nat} (hi : i < nW v) : i < nW u := by rw [h.2.2]; exact hi
theorem Cn.bH {v u : Vw} (h : Cn v u) (hi : nH v < 2 ^ 31) : nH u < 2 ^ 31 := by rw [h.1]; exact hi
theorem Cn.bS {v u : Vw} (h : Cn v u) (hi : nS v < 2 ^ 31) : nS u < 2 ^ 31 := by rw [h.2.1]; exact hi
theorem Cn.bW {v u : Vw} (h : Cn v u) (hi : nW v < 2 ^ 31) : nW u < 2 ^ 31 := by rw [h.2.2]; exact hi
theorem SimL.cn {g : Gm} {v u : Vw} (h : SimL g v) (e : Cn v u) : SimL g u := by
  unfold SimL
  rw [e.1, e.2.1, e.2.2]
  exact h
theorem as_refl (vm : Vm) (c : ClassId) : vm.assignable c c = true := by
  show vm.assignableAux (255 + 1) c c = true
  rw [Vm.assignableAux]
  simp only [beq_self_eq_true, Bool.true_or]
section MA
variable {p : Program} {l : Launch} {e : Jvm.Env} {R : Room} {s : State} {m : MethodId} {args : Array Value} {below : List Frame} {meth : Method} {c : Code} {H : Heap} {locs : List Loc} {cells slots : Nat} {Q : State → Prop}
variable {cc : ByteArray} {nL pc : Nat} {ls : Array Slot} {rest : List Value} {own : String} {g : Gm} {K : Key → Prop} {en : Key → va_E}
theorem m_aalA (hC : CallFix p m c cc nL s args LG own) (hE : Ev g s) (hP : WPe g K en H) {k : Key} (hk : K k) {n : Nat} {f : Nat → Nat} (he : en k = .inl (gC g 4, n, .inr (.inr (.inr (.inr (fun i => some (f i))))))) {x : Int32} (i : Nat) (hx : x = nI i) (hi : i < n) (hn : n < 2 ^ 31) (hdg : decode cc pc = .ok (.aaload, 1))
    (kk : W p l e R s m args below meth c H locs cells slots Q (F0 m (pc + 1) ls (.ref (f i) :: rest))) : W p l e R s m args below meth c H locs cells slots Q (F0 m pc ls (.int x :: .ref (ad g k) :: rest)) := by
  obtain ⟨hx1, hb, hml, hown, hG⟩ := hC
  subst hx
  have h0 := hP k hk
  rw [he] at h0
  have hin : vp_in (nI i) n := vp_in_nI hi hn
  exact W.aald (v := .ref (f i)) (ty := .array .int) hx1 hb h0 ((hE.1.2 4 _ rfl).1 n (fun j => va_rf (some (f j)))) rfl (fun q => by cases q) (by show ¬ (nI i < 0 ∨ (arrV _ _ _).slots.size ≤ _); rw [arrV_size]; exact hin) (by show (arrV _ _ _).slots[_]? = _; rw [nI_clamp (by omega), arrV_read _ _ hi]; rfl) rfl rfl hdg kk
theorem m_alnA (hC : CallFix p m c cc nL s args LG own) (hE : Ev g s) (hP : WPe g K en H) {k : Key} (hk : K k) {n : Nat} {f : Nat → Nat} (he : en k = .inl (gC g 4, n, .inr (.inr (.inr (.inr (fun i => some (f i))))))) {v : Int32} (hv : nI n = v) (hdg : decode cc pc = .ok (.arraylength, 1))
    (kk : W p l e R s m args below meth c H locs cells slots Q (F0 m (pc + 1) ls (.int v :: rest))) : W p l e R s m args below meth c H locs cells slots Q (F0 m pc ls (.ref (ad g k) :: rest)) := by
  obtain ⟨hx1, hb, hml, hown, hG⟩ := hC
  exact va_alen (D := gD g) (ty := .array .int) (x := (n, .inr (.inr (.inr (.inr (fun i => some (f i))))))) hx1 hb hE.1 (hP.one hk) 0 4 (by rw [he]; rfl) rfl hv hdg kk
/-- a row put into an array of rows, wherever that lies -/
theorem m_aasA (hC : CallFix p m c cc nL s args LG own) (hE : Ev g s) (hP : WPe g K en H) (hS : va_S (AA g) s.heap H locs) {a b n nb : Nat} {f : Nat → Option Nat} {fb : Nat → Int32} (ha : H[a]? = some (vp_cell (gC g 4) (n, .inr (.inr (.inr (.inr f)))))) (hA : AA g a) (hab : ∀ k, K k → ad g k ≠ a) (hv : H[b]? = some (vp_cell (gC g 0) (nb, .inl fb))) {x : Int32} (i : Nat) (hx : x = nI i) (hi : i < n) (hn : n < 2 ^ 31) (hdg : decode cc pc = .ok (.aastore, 1))
    (kk : ∀ (H1 : Heap) (locs1 : List Loc), H1.size = H.size → H1[a]? = some (vp_cell (gC g 4) (n, .inr (.inr (.inr (.inr (va_up f i (some b))))))) → WPe g K en H1 → va_S (AA g) s.heap H1 locs1 → W p l e R s m args below meth c H1 locs1 cells slots Q (F0 m (pc + 1) ls rest)) : W p l e R s m args below meth c H locs cells slots Q (F0 m pc ls (.ref b :: .int x :: .ref a :: rest)) := by
  obtain ⟨hx1, hb, hml, hown, hG⟩ := hC
  subst hx
  have hin : vp_in (nI i) n := vp_in_nI hi hn
  have hlt : (nI i).toNatClampNeg < n := Nat.not_le.mp fun q => hin (Or.inr q)
  have h0 : ¬ nI i < 0 := fun q => hin (Or.inl q)
  obtain ⟨comp, cO, kO, hcomp, -, hkO, hkindO, hnO⟩ := arrayOverA_spec (show (Cond.arrayOver (.array .int)).holds args s none s [] = true from hE.2.2.2.2.2.use)
  have e4 : cO = gC g 4 := Option.some.inj (hnO.symm.trans (hE.1.2 4 _ rfl).2)
  have e0 : comp = gC g 0 := Option.some.inj (hcomp.symm.trans (hE.1.2 0 _ rfl).2)
  subst e4
  subst e0
  obtain ⟨kI, hkI, -⟩ := Vm.findClass_spec hcomp
  refine W.aast hx1 hb ha (fun q h => by cases h) (fun h => by cases h) hkO hkindO rfl hkI ⟨h0, by show _ < (arrV _ _ _).slots.size; rw [arrV_size]; exact hlt⟩ hv (fun q h => by cases h) hkI (as_refl _ _) rfl rfl hdg fun H1 z1 z2 z3 => ?_
  refine kk H1 _ z2 ?_ (fun j hj => (hP j hj).kept (z3 _ (hab j hj))) (hS.put z2 z3 hA)
  rw [z1, vp_cell_q, vp_cell_q, arrV_store, nI_clamp (by omega)]
  congr 2
  funext q
  by_cases hq : q = i
  · subst hq
    simp [updV, va_up, va_rf]
  · simp [updV, va_up, hq]
/-- new arrays: where they lie, what they hold -/
theorem m_newI (hC : CallFix p m c cc nL s args LG own) (hE : Ev g s) (hS : va_S (AA g) s.heap H locs) {x : Int32} {N : Nat} (hn : ¬ x < 0) (hN : x.toNatClampNeg = N) (hbytes : N ≤ 1000) (hcells : cells + 1 ≤ R.cells) (hslots : slots + N ≤ R.slots) (hdg : decode cc pc = .ok (.newarray .int, 2))
    (kk : ∀ H1 : Heap, H1.size = H.size + 1 → (∀ q, q < H.size → H1[q]? = H[q]?) → H1[H.size]? = some (vp_cell (gC g 0) (N, .inl (fun _ => 0))) → va_S (AA g) s.heap H1 locs → W p l e R s m args below meth c H1 locs (cells + 1) (slots + N) Q (F0 m (pc + 2) ls (.ref H.size :: rest))) : W p l e R s m args below meth c H locs cells slots Q (F0 m pc ls (.int x :: rest)) := by
  obtain ⟨hx1, hb, hml, hown, hG⟩ := hC
  refine va_newaK (atype := .int) hx1 hb (hG _ w_53) rfl hdg rfl hn hN (by show N * 4 ≤ _; omega) hcells hslots rfl fun H1 cB e1 z1 o1 hAr hNm => ?_
  have ec : cB = gC g 0 := Option.some.inj (hNm.symm.trans (hE.1.2 0 _ rfl).2)
  subst ec
  exact kk H1 z1 o1 e1 (hS.grow z1 o1)
theorem m_newA (hC : CallFix p m c cc nL s args LG own) (hE : Ev g s) (hS : va_S (AA g) s.heap H locs) {index : Nat} (hcl : Cond.classLink own index "[I" ∈ LG) {x : Int32} {N : Nat} (hn : ¬ x < 0) (hN : x.toNatClampNeg = N) (hbytes : N ≤ 1000) (hcells : cells + 1 ≤ R.cells) (hslots : slots + N ≤ R.slots) (hdg : decode cc pc = .ok (.anewarray index, 3))
    (kk : ∀ H1 : Heap, H1.size = H.size + 1 → (∀ q, q < H.size → H1[q]? = H[q]?) → H1[H.size]? = some (vp_cell (gC g 4) (N, .inr (.inr (.inr (.inr (fun _ => none)))))) → va_S (AA g) s.heap H1 locs → W p l e R s m args below meth c H1 locs (cells + 1) (slots + N) Q (F0 m (pc + 3) ls (.ref H.size :: rest))) : W p l e R s m args below meth c H locs cells slots Q (F0 m pc ls (.int x :: rest)) := by
  obtain ⟨hx1, hb, hml, hown, hG⟩ := hC
  subst hN
  refine W.anewA (t := .int) hx1 hb hown (hG _ hcl) hE.2.2.2.2.2.use rfl hdg rfl hn (by omega) hcells hslots fun cB kA comp f1 f2 f3 f4 => ?_
  have ec : cB = gC g 4 := Option.some.inj (f1.symm.trans (hE.1.2 4 _ rfl).2)
  subst ec
  generalize hH1 : H.push ({ cls := gC g 4, slots := Array.replicate x.toNatClampNeg .null, vm := .none } : Cell) = H1
  have z2 : H1.size = H.size + 1 := by rw [← hH1, Array.size_push]
  have o2 : ∀ q : Nat, q < H.size → H1[q]? = H[q]? := fun q hq => by rw [← hH1, Array.getElem?_push, if_neg (Nat.ne_of_lt hq)]
  refine kk H1 z2 o2 ?_ (hS.grow z2 o2)
  rw [← hH1, Array.getElem?_push_size, vp_cell_q, arrV_new]
  rfl
end MA
