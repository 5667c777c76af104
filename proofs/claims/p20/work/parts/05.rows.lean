/-! The worlds as functions of keys; one row an access, a call, an end. -/
abbrev Key : Type := Nat × Nat × Nat
abbrev Gm : Type := (va_G × (Nat → ClassId)) × ((Key → Nat) × (Nat × (Key → Prop)))
abbrev gD (g : Gm) : va_G := g.1.1
abbrev gC (g : Gm) : Nat → ClassId := g.1.2
abbrev ad (g : Gm) : Key → Nat := g.2.1
abbrev bs (g : Gm) : Nat := g.2.2.1
/-- which of the law's own keys are there -/
abbrev lk (g : Gm) : Key → Prop := g.2.2.2
abbrev AA (g : Gm) : Nat → Prop := fun q => bs g ≤ q
def cls7 : List vw_C := [(RX0, TX0, 3), (RX1, TX1, 11), (RX2, TX2, 6), (RX3, TX3, 4), (RX4, TX4, 2), (RX5, TX5, 8)]
def tys5 (g : Gm) : List (ClassId × FieldType) := [(gC g 0, .int), (gC g 1, .object RX0), (gC g 2, .object RX2), (gC g 3, .object RX3), (gC g 4, .array .int)]
/-- the cells of the keys K hold what en says -/
def WPe (g : Gm) (K : Key → Prop) (en : Key → va_E) (H : Heap) : Prop := ∀ k, K k → va_at (gD g) cls7 (ad g k, en k) H
theorem WPe.one {g : Gm} {K : Key → Prop} {en : Key → va_E} {H : Heap} {k : Key} (h : WPe g K en H) (hk : K k) : va_P (gD g) cls7 [(ad g k, en k)] H := by
  intro i q hq
  cases i with
  | zero => cases hq; exact h k hk
  | succ i => simp at hq
theorem WPe.cast {g : Gm} {K : Key → Prop} {en en' : Key → va_E} {H : Heap} (h : WPe g K en H) (he : ∀ k, K k → en' k = en k) : WPe g K en' H := fun k hk => by rw [he k hk]; exact h k hk
/-- the keys' cells are apart, and new since the base -/
def IJ (g : Gm) (K : Key → Prop) : Prop := (∀ j k, K j → K k → ad g j = ad g k → j = k) ∧ ∀ k, K k → bs g ≤ ad g k
/-- an array of rows of ints may be made -/
def AOi (U : State) : Prop := (Cond.arrayOver (.array .int)).before #[] U = true
theorem AOi.of {A : Array Value} {U : State} (h : (Cond.arrayOver (.array .int)).before A U = true) : AOi U := h
theorem AOi.use {A : Array Value} {U : State} (h : AOi U) : (Cond.arrayOver (.array .int)).before A U = true := h
theorem AOi.moved {u U : State} (hvm : u.vm.Alike U.vm) (h : AOi u) : AOi U := by
  obtain ⟨comp, c, k, h1, h2, h3, h4, h5⟩ := arrayOverA_spec (show (Cond.arrayOver (.array .int)).holds #[] u none u [] = true from h)
  obtain ⟨k', hk', he⟩ := hvm.2.2 _ _ h3
  have hi : (U.vm.classes.findIdx? fun (x : Class) => match x.kind with | .array component _ => component == comp | _ => false) = some c := by
    rw [hvm.findIdx?_eq _ (fun _ => rfl)]
    exact h2
  have hkind : k'.kind = .array comp (.array .int) := by rw [he]; exact h4
  have f1 : U.vm.findClass (FieldType.array .int).toString = some comp := by rw [hvm.findClass]; exact h1
  have f2 : U.vm.findClass ("[" ++ (FieldType.array .int).toString) = some c := by rw [hvm.findClass]; exact h5
  unfold AOi Cond.before Cond.holds
  simp only [Cond.value]
  rw [f1, Option.bind_some]
  refine (congrArg (fun o : Option Nat => (o.bind (fun c => (U.vm.classes[c]?).map fun (k : Class) => match k.kind with | .array _ ty => decide (ty = FieldType.array .int) && decide (U.vm.findClass ("[" ++ (FieldType.array .int).toString) = some c) | _ => false) == some true)) hi).trans ?_
  simp [hk', hkind, f2]
/-- what holds of the tables, and of what nobody writes -/
def Ev (g : Gm) (s : State) : Prop := va_K (gD g) cls7 (tys5 g) s ∧ NN s ∧ vx_Zq Bundle.tN "UNASSIGNED_STACK" Bundle.steD (AA g) s s.heap ∧ vx_Zq Bundle.tN "SUPPRESSED_SENTINEL" Bundle.listD (AA g) s s.heap ∧ bs g ≤ s.heap.size ∧ AOi s
theorem Ev.call {g : Gm} {s U : State} {H : Heap} {locs : List Loc} (hE : Ev g s) (hS : va_S (AA g) s.heap H locs) (hU : U.heap = H) (hW : s.WarmedH U.vm) : Ev g U := by
  obtain ⟨h1, h2, h3, h4, h5, h6⟩ := hE
  refine ⟨h1.moved hW.alike, h2.warm hW, (h3.kept (H1 := U.heap) (fun a x y => by rw [hU]; exact hS.2.1 a x y)).moved hW.alike, (h4.kept (H1 := U.heap) (fun a x y => by rw [hU]; exact hS.2.1 a x y)).moved hW.alike, ?_, h6.moved hW.alike⟩
  rw [hU]
  exact Nat.le_trans h5 hS.1
theorem Ev.calling {g : Gm} {U : State} {f : JFrame} {mk : MethodId} {a : Array Value} (h : Ev g U) : Ev g (U.calling f mk a) := by
  obtain ⟨h1, h2, h3, h4, h5, h6⟩ := h
  exact ⟨va_K.moved (u := U) (U := U.calling f mk a) (Vm.Alike.refl U.vm) h1, NN.same (u := U) rfl h2, vx_Zq.moved (u := U) (U := U.calling f mk a) (Vm.Alike.refl U.vm) h3, vx_Zq.moved (u := U) (U := U.calling f mk a) (Vm.Alike.refl U.vm) h4, h5, h6.moved (u := U) (U := U.calling f mk a) (Vm.Alike.refl U.vm)⟩
/-- a method's start: its arguments, the tables, the world -/
def Pd (g : Gm) (K : Key → Prop) (en : Key → va_E) (av : List Value) : Array Value → State → Prop := fun v U => v = av.toArray ∧ Ev g U ∧ WPe g K en U.heap
theorem Pd.blind {g : Gm} {K : Key → Prop} {en : Key → va_E} {av : List Value} : FrameBlind (Pd g K en av) := fun a U f mk h => ⟨h.1, h.2.1.calling, h.2.2⟩
def Qi (g : Gm) (R : Int32) (K : Key → Prop) (en : Key → va_E) : Array Value → State → Outcome → State → Prop := va_Qi (fun (r : Int32) (_ : Unit) => r = R) (fun _ t => WPe g K en t.heap) (AA g)
def Ql (g : Gm) (R : Int64) (K : Key → Prop) (en : Key → va_E) : Array Value → State → Outcome → State → Prop := va_Ql (fun (r : Int64) (_ : Unit) => r = R) (fun _ t => WPe g K en t.heap) (AA g)
def Qv (g : Gm) (K : Key → Prop) (en : Key → va_E) : Array Value → State → Outcome → State → Prop := va_Qv (fun (_ : Unit) => True) (fun _ t => WPe g K en t.heap) (AA g)
abbrev rm (f lo : Nat) : Room := { frames := f, cells := 0, slots := 0, locals := lo }
/-- contracts: an int, a long, nothing is answered; the world becomes en' -/
abbrev MI (l : Launch) (y : MethodName) (b : ByteArray) (n : Nat) (rt : FieldType) (R : Room) (g : Gm) (K : Key → Prop) (en : Key → va_E) (av : List Value) (r : Int32) (en' : Key → va_E) : Prop := Met l y (wy y b n (some rt)) R (Pd g K en av) (Qi g r K en') R.cells R.slots (AA g)
abbrev ML (l : Launch) (y : MethodName) (b : ByteArray) (n : Nat) (R : Room) (g : Gm) (K : Key → Prop) (en : Key → va_E) (av : List Value) (r : Int64) (en' : Key → va_E) : Prop := Met l y (wy y b n (some .long)) R (Pd g K en av) (Ql g r K en') R.cells R.slots (AA g)
abbrev MV (l : Launch) (y : MethodName) (b : ByteArray) (n : Nat) (R : Room) (g : Gm) (K : Key → Prop) (en : Key → va_E) (av : List Value) (en' : Key → va_E) : Prop := Met l y (wy y b n none) R (Pd g K en av) (Qv g K en') R.cells R.slots (AA g)
theorem lp_up {P : Nat → Prop} (N : Nat) (h0 : P N) (hs : ∀ i, i < N → P (i + 1) → P i) : ∀ i, i ≤ N → P i := by
  intro i hi
  obtain ⟨d, hd⟩ : ∃ d, N = i + d := ⟨N - i, by omega⟩
  subst hd
  clear hi
  induction d generalizing i with
  | zero => exact h0
  | succ d ih =>
    refine hs i (by omega) (ih (i + 1) ?_ ?_)
    · rw [show i + 1 + d = i + (d + 1) from by omega]; exact h0
    · intro j hj; exact hs j (by omega)
section MO
variable {l : Launch} {y : MethodName} {b : ByteArray} {n : Nat} {ret : Option FieldType} {R : Room} {g : Gm} {K : Key → Prop} {en : Key → va_E} {av : List Value} {Qc : Array Value → State → Outcome → State → Prop}
/-- the entry of a method -/
theorem met_of (hy : plainName y.cls = true) (hn : (lg_sl av).length ≤ n)
    (body : ∀ (p : Program) (e : Jvm.Env) (s : State) (m : MethodId) (below : List Frame) (meth : Method) (c : Code) (ls : Array Slot), CallFix p m c b n s av.toArray LG y.cls → meth.sig.returnType = ret → meth.locks = false → meth.name = y.name → Ev g s → WPe g K en s.heap → va_S (AA g) s.heap s.heap [] → lv_has ls n (lv_args 0 av) →
      W p l e R s m av.toArray below meth c s.heap [] 0 0 (MQ below Qc av.toArray s R.cells R.slots (AA g)) (F0 m 0 ls [])) : Met l y (wy y b n ret) R (Pd g K en av) Qc R.cells R.slots (AA g) := by
  refine Met.ofW (cc := b) (maxL := n) (ret := ret) hy rfl ?_
  intro p e s m args below meth c s₁ B hml hv
  obtain ⟨rfl, hE, hP⟩ := hv
  have hts := atoms_spec (ws := wy y b n ret) B.pre
  have hl := lv_entry av (n := n) hn
  rw [lg_entry_eq]
  exact body p e s m below meth c _ ⟨B.exec, B.bytes, hml, findClass_of_methodNamed B.named, fun w hw => hts w (List.mem_cons_of_mem _ hw)⟩ B.returns B.notSynchronized (name_of_methodNamed B.named B.method).1 hE hP va_S.rf hl
end MO
section MW
variable {p : Program} {l : Launch} {e : Jvm.Env} {R : Room} {s : State} {m : MethodId} {args : Array Value} {below : List Frame} {meth : Method} {c : Code} {H : Heap} {locs : List Loc} {cells slots : Nat} {Q : State → Prop}
variable {cc : ByteArray} {nL pc : Nat} {ls : Array Slot} {rest : List Value} {own : String} {g : Gm} {K : Key → Prop} {en : Key → va_E}
theorem m_get (hC : CallFix p m c cc nL s args LG own) (hE : Ev g s) (hP : WPe g K en H) {k : Key} (hk : K k) {ci N : Nat} {C : String} {T : u_T} {fs : List Value} (he : en k = .inr (ci, fs)) (hc : cls7[ci]? = some (C, T, N)) (hu : ∀ w ∈ u_ws C T N, w ∈ LG) (f : Nat) (hf : f < N) {ref : String} {index : Nat} (hlink : Cond.fieldLink own index ref (T f).2.1 (T f).2.2.1 ∈ LG) (href : (T f).1 = ref) {v : Value} (hv : fs[f]? = some v) (hdg : decode cc pc = .ok (.getfield index, 3))
    (kk : W p l e R s m args below meth c H locs cells slots Q (F0 m (pc + 3) ls (v :: rest))) : W p l e R s m args below meth c H locs cells slots Q (F0 m pc ls (.ref (ad g k) :: rest)) := by
  obtain ⟨hx, hb, hml, hown, hG⟩ := hC
  subst href
  exact va_get (D := gD g) hx hb hG hu hown hE.1 (hP.one hk) 0 (by rw [he]; rfl) hc f hf (hG _ hlink) (fun _ h => h) hv hdg kk
theorem m_getN (hC : CallFix p m c cc nL s args LG own) (hE : Ev g s) (hP : WPe g K en H) {k : Key} (hk : K k) {ci N : Nat} {C host : String} {T : u_T} {fs : List Value} (he : en k = .inr (ci, fs)) (hc : cls7[ci]? = some (C, T, N)) (hu : ∀ w ∈ u_ws C T N, w ∈ LG) (f : Nat) (hf : f < N) {ref : String} {index : Nat} (hlink : Cond.fieldLinkNest own index ref (T f).2.1 (T f).2.2.1 host ∈ NW) (href : (T f).1 = ref) {v : Value} (hv : fs[f]? = some v) (hdg : decode cc pc = .ok (.getfield index, 3))
    (kk : W p l e R s m args below meth c H locs cells slots Q (F0 m (pc + 3) ls (v :: rest))) : W p l e R s m args below meth c H locs cells slots Q (F0 m pc ls (.ref (ad g k) :: rest)) := by
  obtain ⟨hx, hb, hml, hown, hG⟩ := hC
  subst href
  exact va_getN (D := gD g) hx hb hG hu hown hE.1 (hP.one hk) 0 (by rw [he]; rfl) hc f hf (va_Nw.use rfl (hE.2.1.1 _ hlink)) (fun _ h => h) hv hdg kk
theorem m_put (hC : CallFix p m c cc nL s args LG own) (hE : Ev g s) (hI : IJ g K) (hP : WPe g K en H) (hS : va_S (AA g) s.heap H locs) {k : Key} (hk : K k) {ci N : Nat} {C : String} {T : u_T} {fs : List Value} (he : en k = .inr (ci, fs)) (hc : cls7[ci]? = some (C, T, N)) (hu : ∀ w ∈ u_ws C T N, w ∈ LG) {ty0 : Nat → FieldType} (hty : ∀ k, k < N → parseFieldDescriptor (T k).2.2.1 = some (ty0 k)) (hnm : ∀ a, a < N → ∀ b, b < N → a ≠ b → (T a).2.1 ≠ (T b).2.1) (f : Nat) (hf : f < N) {ref : String} {index : Nat} (hlink : Cond.fieldLink own index ref (T f).2.1 (T f).2.2.1 ∈ LG) (href : (T f).1 = ref) (hfin : (T f).2.2.2 = false) {v : Value} (hn : narrow (ty0 f) v = v) (hfit : fits (ty0 f) v = true) (hl : f < fs.length) {en' : Key → va_E} (h1 : en' k = .inr (ci, fs.set f v)) (h2 : ∀ j, K j → j ≠ k → en' j = en j) (hdg : decode cc pc = .ok (.putfield index, 3))
    (kk : ∀ (H1 : Heap) (locs1 : List Loc), WPe g K en' H1 → va_S (AA g) s.heap H1 locs1 → W p l e R s m args below meth c H1 locs1 cells slots Q (F0 m (pc + 3) ls rest)) : W p l e R s m args below meth c H locs cells slots Q (F0 m pc ls (v :: .ref (ad g k) :: rest)) := by
  obtain ⟨hx, hb, hml, hown, hG⟩ := hC
  subst href
  have hK := hE.1
  have hap := va_apart (own := own) hG hu ty0 hty hnm hK hc
  have h0 := hP k hk
  rw [he] at h0
  obtain ⟨r, e1, cell, q1, q2, q3, q4⟩ := h0
  have hr : r = (C, T, N) := Option.some.inj (e1.symm.trans hc)
  subst hr
  obtain ⟨hSl, hfc, kC, hkC, hkind⟩ := hK.1 ci _ hc
  obtain ⟨cf, kf, fi, fd, hi, hsl⟩ := hSl f hf
  have hlay := hG _ (hu _ (u_in_lay hf))
  unfold u_lay at hlay
  rw [if_neg (by rw [hfin]; decide)] at hlay
  have hst := (u_facts hfc hkC (u_lays hG hu hf) hi).1
  have h6 := u_store hfc hkC hkind hlay hi (hty f hf) hn hfit
  refine W.putK hx hb (f := fd) ⟨hown, hG _ hlink, ⟨_, _, _, hi⟩, hst⟩ (by rw [q2]; exact h6) q1 q3 (by rw [hsl]; exact k2_hasslot (q4 f hf)) rfl rfl hdg fun H' z1 z2 z3 => ?_
  rw [hsl] at z1 ⊢
  refine kk H' _ (fun j hj => ?_) (hS.put z2 z3 (hI.2 k hk))
  by_cases hjk : j = k
  · subst hjk
    rw [h1]
    exact ⟨_, hc, t_OB.to (V := updV (vp_V fs) f v) ⟨_, z1, q2, q3, t_set q4 hap hf v⟩ (fun j _ => vp_updV_set hl v j)⟩
  · rw [h2 j hj hjk]
    exact (hP j hj).kept (z3 _ (fun z => hjk (hI.1 j k hj hk z)))
theorem m_putN (hC : CallFix p m c cc nL s args LG own) (hE : Ev g s) (hI : IJ g K) (hP : WPe g K en H) (hS : va_S (AA g) s.heap H locs) {k : Key} (hk : K k) {ci N : Nat} {C host : String} {T : u_T} {fs : List Value} (he : en k = .inr (ci, fs)) (hc : cls7[ci]? = some (C, T, N)) (hu : ∀ w ∈ u_ws C T N, w ∈ LG) {ty0 : Nat → FieldType} (hty : ∀ k, k < N → parseFieldDescriptor (T k).2.2.1 = some (ty0 k)) (hnm : ∀ a, a < N → ∀ b, b < N → a ≠ b → (T a).2.1 ≠ (T b).2.1) (f : Nat) (hf : f < N) {ref : String} {index : Nat} (hlink : Cond.fieldLinkNest own index ref (T f).2.1 (T f).2.2.1 host ∈ NW) (href : (T f).1 = ref) (hfin : (T f).2.2.2 = false) {v : Value} (hn : narrow (ty0 f) v = v) (hfit : fits (ty0 f) v = true) (hl : f < fs.length) {en' : Key → va_E} (h1 : en' k = .inr (ci, fs.set f v)) (h2 : ∀ j, K j → j ≠ k → en' j = en j) (hdg : decode cc pc = .ok (.putfield index, 3))
    (kk : ∀ (H1 : Heap) (locs1 : List Loc), WPe g K en' H1 → va_S (AA g) s.heap H1 locs1 → W p l e R s m args below meth c H1 locs1 cells slots Q (F0 m (pc + 3) ls rest)) : W p l e R s m args below meth c H locs cells slots Q (F0 m pc ls (v :: .ref (ad g k) :: rest)) := by
  obtain ⟨hx, hb, hml, hown, hG⟩ := hC
  subst href
  have hK := hE.1
  have hap := va_apart (own := own) hG hu ty0 hty hnm hK hc
  have h0 := hP k hk
  rw [he] at h0
  obtain ⟨r, e1, cell, q1, q2, q3, q4⟩ := h0
  have hr : r = (C, T, N) := Option.some.inj (e1.symm.trans hc)
  subst hr
  obtain ⟨hSl, hfc, kC, hkC, hkind⟩ := hK.1 ci _ hc
  obtain ⟨cf, kf, fi, fd, hi, hsl⟩ := hSl f hf
  have hlay := hG _ (hu _ (u_in_lay hf))
  unfold u_lay at hlay
  rw [if_neg (by rw [hfin]; decide)] at hlay
  have hst := (u_facts hfc hkC (u_lays hG hu hf) hi).1
  have h6 := u_store hfc hkC hkind hlay hi (hty f hf) hn hfit
  refine va_WputK hx hb (f := fd) hown (va_Nw.use rfl (hE.2.1.1 _ hlink)) hi hst (by rw [q2]; exact h6) q1 q3 (by rw [hsl]; exact k2_hasslot (q4 f hf)) rfl rfl hdg fun H' z1 z2 z3 => ?_
  rw [hsl] at z1 ⊢
  refine kk H' _ (fun j hj => ?_) (hS.put z2 z3 (hI.2 k hk))
  by_cases hjk : j = k
  · subst hjk
    rw [h1]
    exact ⟨_, hc, t_OB.to (V := updV (vp_V fs) f v) ⟨_, z1, q2, q3, t_set q4 hap hf v⟩ (fun j _ => vp_updV_set hl v j)⟩
  · rw [h2 j hj hjk]
    exact (hP j hj).kept (z3 _ (fun z => hjk (hI.1 j k hj hk z)))
theorem m_iald (hC : CallFix p m c cc nL s args LG own) (hE : Ev g s) (hP : WPe g K en H) {k : Key} (hk : K k) {n : Nat} {f : Nat → Int32} (he : en k = .inl (gC g 0, n, .inl f)) {x : Int32} (i : Nat) (hx : x = nI i) (hi : i < n) (hn : n < 2 ^ 31) (hdg : decode cc pc = .ok (.iaload, 1))
    (kk : W p l e R s m args below meth c H locs cells slots Q (F0 m (pc + 1) ls (.int (f i) :: rest))) : W p l e R s m args below meth c H locs cells slots Q (F0 m pc ls (.int x :: .ref (ad g k) :: rest)) := by
  obtain ⟨hx1, hb, hml, hown, hG⟩ := hC
  subst hx
  refine va_iald (D := gD g) (f := f) hx1 hb hE.1 (hP.one hk) 0 0 (by rw [he]; rfl) rfl (vp_in_nI hi hn) hdg ?_
  rw [nI_clamp (by omega)]
  exact kk
theorem m_iast (hC : CallFix p m c cc nL s args LG own) (hE : Ev g s) (hI : IJ g K) (hP : WPe g K en H) (hS : va_S (AA g) s.heap H locs) {k : Key} (hk : K k) {n : Nat} {f : Nat → Int32} (he : en k = .inl (gC g 0, n, .inl f)) {x v : Int32} (i : Nat) (hx : x = nI i) (hi : i < n) (hn : n < 2 ^ 31) {en' : Key → va_E} (h1 : en' k = .inl (gC g 0, n, .inl (upd f i v))) (h2 : ∀ j, K j → j ≠ k → en' j = en j) (hdg : decode cc pc = .ok (.iastore, 1))
    (kk : ∀ (H1 : Heap) (locs1 : List Loc), WPe g K en' H1 → va_S (AA g) s.heap H1 locs1 → W p l e R s m args below meth c H1 locs1 cells slots Q (F0 m (pc + 1) ls rest)) : W p l e R s m args below meth c H locs cells slots Q (F0 m pc ls (.int v :: .int x :: .ref (ad g k) :: rest)) := by
  obtain ⟨hx1, hb, hml, hown, hG⟩ := hC
  subst hx
  have h0 := hP k hk
  rw [he] at h0
  have hin : vp_in (nI i) n := vp_in_nI hi hn
  refine W.iast hx1 hb h0 ((hE.1.2 0 _ rfl).1 n (fun j => .int (f j))) (fun q => by cases q) (by show ¬ (nI i < 0 ∨ (arrV _ _ _).slots.size ≤ _); rw [arrV_size]; exact hin) rfl rfl hdg fun H1 z1 z2 z3 => ?_
  refine kk H1 _ (fun j hj => ?_) (hS.put z2 z3 (hI.2 k hk))
  by_cases hjk : j = k
  · subst hjk
    rw [h1]
    show H1[ad g j]? = some (vp_cell _ _)
    rw [z1, vp_cell_i, vp_cell_i, arrV_store, nI_clamp (by omega)]
    congr 2
    funext q
    by_cases hq : q = i
    · subst hq
      simp [updV, upd]
    · simp [updV, upd, hq]
  · rw [h2 j hj hjk]
    exact (hP j hj).kept (z3 _ (fun z => hjk (hI.1 j k hj hk z)))
theorem m_aald (hC : CallFix p m c cc nL s args LG own) (hE : Ev g s) (hP : WPe g K en H) {k : Key} (hk : K k) {n t : Nat} {C : String} {f : Nat → Option Nat} (he : en k = .inl (gC g t, n, .inr (.inr (.inr (.inr f))))) (ht : (tys5 g)[t]? = some (gC g t, .object C)) {x : Int32} (i : Nat) (hx : x = nI i) (hi : i < n) (hn : n < 2 ^ 31) {a : Nat} (ha : f i = some a) (hdg : decode cc pc = .ok (.aaload, 1))
    (kk : W p l e R s m args below meth c H locs cells slots Q (F0 m (pc + 1) ls (.ref a :: rest))) : W p l e R s m args below meth c H locs cells slots Q (F0 m pc ls (.int x :: .ref (ad g k) :: rest)) := by
  obtain ⟨hx1, hb, hml, hown, hG⟩ := hC
  subst hx
  refine va_aldq (D := gD g) (f := f) hx1 hb hE.1 (hP.one hk) 0 t (by rw [he]; rfl) ht (vp_in_nI hi hn) hdg ?_
  rw [nI_clamp (by omega), ha]
  exact kk
theorem m_max (hC : CallFix p m c cc nL s args LG own) {index : Nat} (hlink : Cond.methodLink own index Lib.Math.max.name ∈ LG) (hstat : Cond.static Lib.Math.max.name ∈ LG) (hini : Cond.initialized "java/lang/Math" ∈ LG) (hcode : Cond.code Lib.Math.max.name Lib.Math.max.code 2 (some .int) ∈ LG) (hls : ls.size = nL) (hframes : 1 ≤ R.frames) (hlocals : (rest.map fun v => v.category).sum + 13 ≤ R.locals) (hc : cells ≤ R.cells) (hs : slots ≤ R.slots) {x y : Int32} (hdg : decode cc pc = .ok (.invokestatic index, 3))
    (kk : W p l e R s m args below meth c H locs cells slots Q (F0 m (pc + 3) ls (.int (if x < y then y else x) :: rest))) : W p l e R s m args below meth c H locs cells slots Q (F0 m pc ls (.int y :: .int x :: rest)) := by
  obtain ⟨hx1, hb, hml, hown, hG⟩ := hC
  exact va_mmax hx1 hb (hml.trans hls.symm) hown (hG _ hlink) (hG _ hstat) (hG _ hini) (hG _ hcode) hframes hlocals hc hs hdg kk
theorem m_min (hC : CallFix p m c cc nL s args LG own) {index : Nat} (hlink : Cond.methodLink own index Lib.Math.min.name ∈ LG) (hstat : Cond.static Lib.Math.min.name ∈ LG) (hini : Cond.initialized "java/lang/Math" ∈ LG) (hcode : Cond.code Lib.Math.min.name Lib.Math.min.code 2 (some .int) ∈ LG) (hls : ls.size = nL) (hframes : 1 ≤ R.frames) (hlocals : (rest.map fun v => v.category).sum + 13 ≤ R.locals) (hc : cells ≤ R.cells) (hs : slots ≤ R.slots) {x y : Int32} (hdg : decode cc pc = .ok (.invokestatic index, 3))
    (kk : W p l e R s m args below meth c H locs cells slots Q (F0 m (pc + 3) ls (.int (if y < x then y else x) :: rest))) : W p l e R s m args below meth c H locs cells slots Q (F0 m pc ls (.int y :: .int x :: rest)) := by
  obtain ⟨hx1, hb, hml, hown, hG⟩ := hC
  exact va_mmin hx1 hb (hml.trans hls.symm) hown (hG _ hlink) (hG _ hstat) (hG _ hini) (hG _ hcode) hframes hlocals hc hs hdg kk
theorem m_abs (hC : CallFix p m c cc nL s args LG own) {index : Nat} (hlink : Cond.methodLink own index Lib.Math.abs.name ∈ LG) (hstat : Cond.static Lib.Math.abs.name ∈ LG) (hini : Cond.initialized "java/lang/Math" ∈ LG) (hcode : Cond.code Lib.Math.abs.name Lib.Math.abs.code 1 (some .int) ∈ LG) (hls : ls.size = nL) (hframes : 1 ≤ R.frames) (hlocals : (rest.map fun v => v.category).sum + 13 ≤ R.locals) (hc : cells ≤ R.cells) (hs : slots ≤ R.slots) {x : Int32} (hdg : decode cc pc = .ok (.invokestatic index, 3))
    (kk : W p l e R s m args below meth c H locs cells slots Q (F0 m (pc + 3) ls (.int (if 0 ≤ x then x else 0 - x) :: rest))) : W p l e R s m args below meth c H locs cells slots Q (F0 m pc ls (.int x :: rest)) := by
  obtain ⟨hx1, hb, hml, hown, hG⟩ := hC
  exact va_mabs hx1 hb (hml.trans hls.symm) hown (hG _ hlink) (hG _ hstat) (hG _ hini) (hG _ hcode) hframes hlocals hc hs hdg kk
/-- the ends -/
theorem m_iret (hC : CallFix p m c cc nL s args LG own) {rt : FieldType} (hr : meth.sig.returnType = some rt) (hlk : meth.locks = false) (hS : va_S (AA g) s.heap H locs) (hP : WPe g K en H) {v r : Int32} (hn : narrow rt (.int v) = .int v) (hv : v = r) (hdg : decode cc pc = .ok (.ireturn, 1)) : W p l e R s m args below meth c H locs cells slots (MQ below (Qi g r K en) args s cells slots (AA g)) (F0 m pc ls [.int v]) := by
  obtain ⟨hx1, hb, hml, hown, hG⟩ := hC
  exact W.zret hx1 hb hr hn (fun t ht hW => ⟨⟨v, (), rfl, hv, by show WPe g K en t.heap; rw [ht]; exact hP⟩, hS.F ht⟩) hS.2.2 hdg hlk
theorem m_lret (hC : CallFix p m c cc nL s args LG own) (hr : meth.sig.returnType = some .long) (hlk : meth.locks = false) (hS : va_S (AA g) s.heap H locs) (hP : WPe g K en H) {v r : Int64} (hv : v = r) (hdg : decode cc pc = .ok (.lreturn, 1)) : W p l e R s m args below meth c H locs cells slots (MQ below (Ql g r K en) args s cells slots (AA g)) (F0 m pc ls [.long v]) := by
  obtain ⟨hx1, hb, hml, hown, hG⟩ := hC
  exact W.lret hx1 hb hr (fun t ht hW => ⟨⟨v, (), rfl, hv, by show WPe g K en t.heap; rw [ht]; exact hP⟩, hS.F ht⟩) hS.2.2 hdg hlk
theorem m_vret (hC : CallFix p m c cc nL s args LG own) (hr : meth.sig.returnType = none) (hlk : meth.locks = false) (hS : va_S (AA g) s.heap H locs) (hP : WPe g K en H) (hdg : decode cc pc = .ok (.return_, 1)) : W p l e R s m args below meth c H locs cells slots (MQ below (Qv g K en) args s cells slots (AA g)) (F0 m pc ls []) := by
  obtain ⟨hx1, hb, hml, hown, hG⟩ := hC
  exact W.vret hx1 hb hr (fun t ht hW => ⟨⟨(), rfl, trivial, by show WPe g K en t.heap; rw [ht]; exact hP⟩, hS.F ht⟩) hS.2.2 hdg hlk
/-- the calls -/
def CalV (C : String) (y : MethodName) (b : ByteArray) (n : Nat) (ret : Option FieldType) (na : Nat) : Prop := Cond.instanceMethod y ∈ LG ∧ Cond.selects C y y ∈ LG ∧ Cond.initialized C ∈ LG ∧ Cond.code y b n ret ∈ LG ∧ (y.cls = C ∧ y.cls ≠ "java/lang/invoke/MethodHandle" ∧ y.cls ≠ "java/lang/invoke/VarHandle" ∧ (parseMethodDescriptor y.desc).map (fun d => d.parameters.length) = some na)
def CalS (y : MethodName) (b : ByteArray) (n : Nat) (ret : Option FieldType) (na : Nat) : Prop := Cond.static y ∈ LG ∧ Cond.initialized y.cls ∈ LG ∧ Cond.code y b n ret ∈ LG ∧ (y.cls ≠ "java/lang/invoke/MethodHandle" ∧ y.cls ≠ "java/lang/invoke/VarHandle" ∧ (parseMethodDescriptor y.desc).map (fun d => d.parameters.length) = some na)
theorem preS_of (hE : Ev g s) (hS : va_S (AA g) s.heap H locs) (hP : WPe g K en H) {As : List Value} : PreS s H (Pd g K en As) As := ⟨Pd.blind, fun U hU hW => ⟨rfl, hE.call hS hU hW, by rw [hU]; exact hP⟩⟩
theorem preV_of (hE : Ev g s) (hS : va_S (AA g) s.heap H locs) (hP : WPe g K en H) {As : List Value} {k : Key} (hk : K k) {ci N : Nat} {C : String} {T : u_T} {fs : List Value} (he : en k = .inr (ci, fs)) (hc : cls7[ci]? = some (C, T, N)) : PreV s H C (ad g k) (Pd g K en (.ref (ad g k) :: As)) As :=
  ⟨Pd.blind, va_recv (q := (C, T, N)) (ws := [(ad g k, en k)]) (q0 := 0) hE.1 (hP.one hk) hc (by rw [he]; rfl), fun U hU hW => ⟨rfl, hE.call hS hU hW, by rw [hU]; exact hP⟩⟩
variable {y : MethodName} {b1 : ByteArray} {n1 na index : Nat} {R1 : Room} {en' : Key → va_E} {ret : Option FieldType} {Qc : Array Value → State → Outcome → State → Prop} {st : List Value}
theorem run_V (hC : CallFix p m c cc nL s args LG own) (hE : Ev g s) (hP : WPe g K en H) (hS : va_S (AA g) s.heap H locs) {k : Key} {As : List Value} (hM : Met l y (wy y b1 n1 ret) R1 (Pd g K en (.ref (ad g k) :: As)) Qc R1.cells R1.slots (AA g)) {C : String} (hcal : CalV C y b1 n1 ret na) (hlink : Cond.methodLink own index y ∈ LG) (hR : R1.frames + 1 ≤ R.frames ∧ 8 + (n1 + 11) + R1.locals ≤ R.locals) (hk : K k) {ci N : Nat} {T : u_T} {fs : List Value} (he : en k = .inr (ci, fs)) (hc : cls7[ci]? = some (C, T, N)) (hlen : As.length = na) (hst : st = As.reverse ++ .ref (ad g k) :: rest) (hroom : (rest.map fun v => v.category).sum ≤ 8) (hls : ls.size = nL) (hf : cells + R1.cells ≤ R.cells ∧ slots + R1.slots ≤ R.slots) (hdg : decode cc pc = .ok (.invokevirtual index, 3)) :
    va_Run p l e R s m args below meth c H locs cells slots R1.cells R1.slots (F0 m pc ls st) rest (Qc (Value.ref (ad g k) :: As).toArray) (AA g) := by
  obtain ⟨a1, a2, a3, a4, a5⟩ := hcal
  exact va_runV hC hM (cwV na hC.2.2.2.2 (LG_V hlink a1 a2 a3 a4) rfl rfl rfl a5 hR) (preV_of hE hS hP hk he hc) rfl hlen hls hst (lv_room hroom) hdg hf
theorem run_S (hC : CallFix p m c cc nL s args LG own) (hE : Ev g s) (hP : WPe g K en H) (hS : va_S (AA g) s.heap H locs) {As : List Value} (hM : Met l y (wy y b1 n1 ret) R1 (Pd g K en As) Qc R1.cells R1.slots (AA g)) (hcal : CalS y b1 n1 ret na) (hlink : Cond.methodLink own index y ∈ LG) (hR : R1.frames + 1 ≤ R.frames ∧ 8 + (n1 + 11) + R1.locals ≤ R.locals) (hlen : As.length = na) (hst : st = As.reverse ++ rest) (hroom : (rest.map fun v => v.category).sum ≤ 8) (hls : ls.size = nL) (hf : cells + R1.cells ≤ R.cells ∧ slots + R1.slots ≤ R.slots) (hdg : decode cc pc = .ok (.invokestatic index, 3)) :
    va_Run p l e R s m args below meth c H locs cells slots R1.cells R1.slots (F0 m pc ls st) rest (Qc As.toArray) (AA g) := by
  obtain ⟨a1, a2, a3, a5⟩ := hcal
  exact va_runS hC hM (va_cwS na hC.2.2.2.2 (LG_S hlink a1 a2 a3) rfl rfl rfl a5 hR) (preS_of hE hS hP) rfl hlen hls hst (lv_room hroom) hdg hf
theorem run_SN (hC : CallFix p m c cc nL s args LG own) (hE : Ev g s) (hP : WPe g K en H) (hS : va_S (AA g) s.heap H locs) {As : List Value} (hM : Met l y (wy y b1 n1 ret) R1 (Pd g K en As) Qc R1.cells R1.slots (AA g)) (hcal : CalS y b1 n1 ret na) {host : String} (hlink : Cond.methodLinkNest own index y host ∈ NW) (hR : R1.frames + 1 ≤ R.frames ∧ 8 + (n1 + 11) + R1.locals ≤ R.locals) (hlen : As.length = na) (hst : st = As.reverse ++ rest) (hroom : (rest.map fun v => v.category).sum ≤ 8) (hls : ls.size = nL) (hf : cells + R1.cells ≤ R.cells ∧ slots + R1.slots ≤ R.slots) (hdg : decode cc pc = .ok (.invokestatic index, 3)) :
    va_Run p l e R s m args below meth c H locs cells slots R1.cells R1.slots (F0 m pc ls st) rest (Qc As.toArray) (AA g) := by
  obtain ⟨a1, a2, a3, a5⟩ := hcal
  exact va_runSN hC hM ⟨va_cnB na hC.2.2.2.2 (LG_y a3) rfl rfl rfl (hE.2.1.1 _ hlink) (hC.2.2.2.2 _ a2) a5 hR, hC.2.2.2.2 _ a1, trivial⟩ (preS_of hE hS hP) rfl hlen hls hst (lv_room hroom) hdg hf
theorem run_VN (hC : CallFix p m c cc nL s args LG own) (hE : Ev g s) (hP : WPe g K en H) (hS : va_S (AA g) s.heap H locs) {k : Key} {As : List Value} (hM : Met l y (wy y b1 n1 ret) R1 (Pd g K en (.ref (ad g k) :: As)) Qc R1.cells R1.slots (AA g)) {C host : String} (hcal : CalV C y b1 n1 ret na) (hlink : Cond.methodLinkNest own index y host ∈ NW) (hR : R1.frames + 1 ≤ R.frames ∧ 8 + (n1 + 11) + R1.locals ≤ R.locals) (hk : K k) {ci N : Nat} {T : u_T} {fs : List Value} (he : en k = .inr (ci, fs)) (hc : cls7[ci]? = some (C, T, N)) (hlen : As.length = na) (hst : st = As.reverse ++ .ref (ad g k) :: rest) (hroom : (rest.map fun v => v.category).sum ≤ 8) (hls : ls.size = nL) (hf : cells + R1.cells ≤ R.cells ∧ slots + R1.slots ≤ R.slots) (hdg : decode cc pc = .ok (.invokevirtual index, 3)) :
    va_Run p l e R s m args below meth c H locs cells slots R1.cells R1.slots (F0 m pc ls st) rest (Qc (Value.ref (ad g k) :: As).toArray) (AA g) := by
  obtain ⟨a1, a2, a3, a4, a5⟩ := hcal
  have hini : (Cond.initialized y.cls).before args s = true := by rw [a5.1]; exact hC.2.2.2.2 _ a3
  exact va_runVN hC hM ⟨va_cnB na hC.2.2.2.2 (LG_y a4) rfl rfl rfl (hE.2.1.1 _ hlink) hini a5.2 hR, hC.2.2.2.2 _ a1, hC.2.2.2.2 _ a2⟩ (preV_of hE hS hP hk he hc) rfl hlen hls hst (lv_room hroom) hdg hf
theorem on_i {r : Int32} {mc ms : Nat} {a : Array Value} (hr : va_Run p l e R s m args below meth c H locs cells slots mc ms (F0 m pc ls st) rest (Qi g r K en' a) (AA g)) (hS : va_S (AA g) s.heap H locs)
    (kk : ∀ (H1 : Heap) (locs1 : List Loc), WPe g K en' H1 → va_S (AA g) s.heap H1 locs1 → W p l e R s m args below meth c H1 locs1 (cells + mc) (slots + ms) Q (F0 m (pc + 3) ls (.int r :: rest))) : W p l e R s m args below meth c H locs cells slots Q (F0 m pc ls st) := by
  refine va_calli hr hS (fun q _ h => h) (fun q h => h) (fun r1 u t H1 locs1 ht hvm hw hB hz hk hS1 => ?_)
  subst hw
  rw [ht] at hB
  exact kk H1 locs1 hB hS1
theorem on_l {r : Int64} {mc ms : Nat} {a : Array Value} (hr : va_Run p l e R s m args below meth c H locs cells slots mc ms (F0 m pc ls st) rest (Ql g r K en' a) (AA g)) (hS : va_S (AA g) s.heap H locs)
    (kk : ∀ (H1 : Heap) (locs1 : List Loc), WPe g K en' H1 → va_S (AA g) s.heap H1 locs1 → W p l e R s m args below meth c H1 locs1 (cells + mc) (slots + ms) Q (F0 m (pc + 3) ls (.long r :: rest))) : W p l e R s m args below meth c H locs cells slots Q (F0 m pc ls st) := by
  refine va_calll hr hS (fun q _ h => h) (fun q h => h) (fun r1 u t H1 locs1 ht hvm hw hB hz hk hS1 => ?_)
  subst hw
  rw [ht] at hB
  exact kk H1 locs1 hB hS1
theorem on_v {mc ms : Nat} {a : Array Value} (hr : va_Run p l e R s m args below meth c H locs cells slots mc ms (F0 m pc ls st) rest (Qv g K en' a) (AA g)) (hS : va_S (AA g) s.heap H locs)
    (kk : ∀ (H1 : Heap) (locs1 : List Loc), WPe g K en' H1 → va_S (AA g) s.heap H1 locs1 → W p l e R s m args below meth c H1 locs1 (cells + mc) (slots + ms) Q (F0 m (pc + 3) ls rest)) : W p l e R s m args below meth c H locs cells slots Q (F0 m pc ls st) := by
  refine va_callv hr hS (fun q _ h => h) (fun q h => h) (fun u t H1 locs1 ht hvm hw hB hz hk hS1 => ?_)
  rw [ht] at hB
  exact kk H1 locs1 hB hS1
end MW
