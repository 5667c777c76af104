/-! Constructors: contracts and rows. -/
def AO3 (U : State) : Prop := va_AO RX0 U ∧ va_AO RX2 U ∧ va_AO RX3 U
theorem AO3.moved {u U : State} (h : u.vm.Alike U.vm) (k : AO3 u) : AO3 U := ⟨va_AO.moved h k.1, va_AO.moved h k.2.1, va_AO.moved h k.2.2⟩
def Pz (g : Gm) (n : Nat) (en : Key → va_E) (av : List Value) : Array Value → State → Prop := fun v U => v = av.toArray ∧ Ev g U ∧ AO3 U ∧ WSz g n en U.heap
theorem Pz.blind {g : Gm} {n : Nat} {en : Key → va_E} {av : List Value} : FrameBlind (Pz g n en av) := fun a U f mk h => ⟨h.1, h.2.1.calling, h.2.2.1.moved (Vm.Alike.refl U.vm), h.2.2.2⟩
def Qz (g : Gm) (n : Nat) (en : Key → va_E) : Array Value → State → Outcome → State → Prop := va_Qv (fun (_ : Unit) => True) (fun _ t => WSz g n en t.heap) (AA g)
/-- a constructor: n cells ahead, n' behind -/
abbrev MC (l : Launch) (y : MethodName) (b : ByteArray) (nl : Nat) (R : Room) (g : Gm) (n : Nat) (en : Key → va_E) (av : List Value) (n' : Nat) (en' : Key → va_E) : Prop := Met l y (wy y b nl none) R (Pz g n en av) (Qz g n' en') R.cells R.slots (AA g)
theorem mc_of {l : Launch} {y : MethodName} {b : ByteArray} {nl : Nat} {R : Room} {g : Gm} {n : Nat} {en : Key → va_E} {av : List Value} {Qc : Array Value → State → Outcome → State → Prop} (hy : plainName y.cls = true) (hn : (lg_sl av).length ≤ nl)
    (body : ∀ (p : Program) (e : Jvm.Env) (s : State) (m : MethodId) (below : List Frame) (meth : Method) (c : Code) (ls : Array Slot), CallFix p m c b nl s av.toArray LG y.cls → meth.sig.returnType = none → meth.locks = false → meth.name = y.name → Ev g s → AO3 s → WSz g n en s.heap → va_S (AA g) s.heap s.heap [] → lv_has ls nl (lv_args 0 av) →
      W p l e R s m av.toArray below meth c s.heap [] 0 0 (MQ below Qc av.toArray s R.cells R.slots (AA g)) (F0 m 0 ls [])) : Met l y (wy y b nl none) R (Pz g n en av) Qc R.cells R.slots (AA g) := by
  refine Met.ofW (cc := b) (maxL := nl) (ret := none) hy rfl ?_
  intro p e s m args below meth c s₁ B hml hv
  obtain ⟨rfl, hE, hA, hP⟩ := hv
  have hts := atoms_spec (ws := wy y b nl none) B.pre
  have hl := lv_entry av (n := nl) hn
  rw [lg_entry_eq]
  exact body p e s m below meth c _ ⟨B.exec, B.bytes, hml, findClass_of_methodNamed B.named, fun w hw => hts w (List.mem_cons_of_mem _ hw)⟩ B.returns B.notSynchronized (name_of_methodNamed B.named B.method).1 hE hA hP va_S.rf hl
section MK
variable {p : Program} {l : Launch} {e : Jvm.Env} {R : Room} {s : State} {m : MethodId} {args : Array Value} {below : List Frame} {meth : Method} {c : Code} {H : Heap} {locs : List Loc} {cells slots : Nat} {Q : State → Prop}
variable {cc : ByteArray} {nL pc : Nat} {ls : Array Slot} {rest st : List Value} {own : String} {g : Gm} {n : Nat} {K : Key → Prop} {en en' : Key → va_E}
theorem mc_vret (hC : CallFix p m c cc nL s args LG own) (hr : meth.sig.returnType = none) (hlk : meth.locks = false) (hS : va_S (AA g) s.heap H locs) (hP : WSz g n en H) (hdg : decode cc pc = .ok (.return_, 1)) : W p l e R s m args below meth c H locs cells slots (MQ below (Qz g n en) args s cells slots (AA g)) (F0 m pc ls []) := by
  obtain ⟨hx1, hb, hml, hown, hG⟩ := hC
  exact W.vret hx1 hb hr (fun t ht hW => ⟨⟨(), rfl, trivial, by show WSz g n en t.heap; rw [ht]; exact hP⟩, hS.F ht⟩) hS.2.2 hdg hlk
theorem WSz.put {en : Key → va_E} (hP : WSz g n en H) {H1 : Heap} (h : WPe g (Kn g n) en' H1) (z : H1.size = H.size) : WSz g n en' H1 := ⟨h, by rw [z]; exact hP.2⟩
theorem m_putF (hC : CallFix p m c cc nL s args LG own) (hE : Ev g s) (hI : IJ g K) (hP : WPe g K en H) (hS : va_S (AA g) s.heap H locs) (hnm0 : meth.name = "<init>") {k : Key} (hk : K k) {ci N : Nat} {C : String} {T : u_T} {fs : List Value} (he : en k = .inr (ci, fs)) (hc : cls7[ci]? = some (C, T, N)) (hu : ∀ w ∈ u_ws C T N, w ∈ LG) {ty0 : Nat → FieldType} (hty : ∀ k, k < N → parseFieldDescriptor (T k).2.2.1 = some (ty0 k)) (hnm : ∀ a, a < N → ∀ b, b < N → a ≠ b → (T a).2.1 ≠ (T b).2.1) (f : Nat) (hf : f < N) {ref : String} {index : Nat} (hlink : Cond.fieldLink own index ref (T f).2.1 (T f).2.2.1 ∈ LG) (href : (T f).1 = ref) (hfin : (T f).2.2.2 = true) (hdecl : (T f).1 = own) {v : Value} (hn : narrow (ty0 f) v = v) (hfit : fits (ty0 f) v = true) (hl : f < fs.length) {en' : Key → va_E} (h1 : en' k = .inr (ci, fs.set f v)) (h2 : ∀ j, K j → j ≠ k → en' j = en j) (hdg : decode cc pc = .ok (.putfield index, 3))
    (kk : ∀ (H1 : Heap) (locs1 : List Loc), H1.size = H.size → WPe g K en' H1 → va_S (AA g) s.heap H1 locs1 → W p l e R s m args below meth c H1 locs1 cells slots Q (F0 m (pc + 3) ls rest)) : W p l e R s m args below meth c H locs cells slots Q (F0 m pc ls (v :: .ref (ad g k) :: rest)) := by
  obtain ⟨hx, hb, hml, hown, hG⟩ := hC
  subst href
  have hK := hE.1
  have hap := va_apart (own := own) hG hu ty0 hty hnm hK hc
  have h0 := hP k hk
  rw [he] at h0
  obtain ⟨r, e1, cell, q1, q2, q3, q4⟩ := h0
  have hr : r = (C, T, N) := Option.some.inj (e1.symm.trans hc)
  subst hr
  obtain ⟨hSl, hfc, kC, hkC, hkind⟩ := hK.1 ci _ hc
  obtain ⟨cf, kf, fi, fd, hi, hsl⟩ := hSl f hf
  have hlay := hG _ (hu _ (u_in_lay hf))
  unfold u_lay at hlay
  rw [if_pos hfin] at hlay
  have hst := (u_facts hfc hkC (u_lays hG hu hf) hi).1
  have hcf : m.cls = cf := by
    obtain ⟨_, _, c', _, _, _, -, -, hf', -, -, -, hown2, -⟩ := Cond.laysFinal_spec hlay
    have e1 : c' = cf := by have := hi.symm.trans hf'; simp at this; exact this.1.symm
    rw [hdecl] at hown2
    rw [← e1]; exact Option.some.inj (hown.symm.trans hown2)
  have h6 := u_fits hfc hkC hkind (Or.inr hlay) hi (hty f hf) hn hfit
  refine W.putFinK hx hb hown (hG _ hlink) hi hst hcf hnm0 (by rw [q2]; exact h6) q1 q3 (by rw [hsl]; exact k2_hasslot (q4 f hf)) rfl rfl hdg fun H' z1 z2 z3 => ?_
  rw [hsl] at z1 ⊢
  refine kk H' _ z2 (fun j hj => ?_) (hS.put z2 z3 (hI.2 k hk))
  by_cases hjk : j = k
  · subst hjk
    rw [h1]
    exact ⟨_, hc, t_OB.to (V := updV (vp_V fs) f v) ⟨_, z1, q2, q3, t_set q4 hap hf v⟩ (fun j _ => vp_updV_set hl v j)⟩
  · rw [h2 j hj hjk]
    exact (hP j hj).kept (z3 _ (fun z => hjk (hI.1 j k hj hk z)))
theorem m_oinit (hC : CallFix p m c cc nL s args LG own) {index : Nat} (hlink : Cond.methodLink own index Lib.objectInit ∈ LG) (hls : ls.size = nL) (hdg : decode cc pc = .ok (.invokespecial index, 3)) (hf : 1 ≤ R.frames) (hlo : 20 ≤ R.locals) {a : Nat}
    (kk : W p l e R s m args below meth c H locs cells slots Q (F0 m (pc + 3) ls [])) : W p l e R s m args below meth c H locs cells slots Q (F0 m pc ls [.ref a]) := by
  obtain ⟨hx, hb, hml, hown, hG⟩ := hC
  refine W.objInit hx hb hown (hG _ hlink) (hG _ w_22) (hG _ w_23) rfl (by rw [hml]; exact hls) rfl hdg hf (Nat.le_trans (Nat.le_of_ble_eq_true rfl) hlo) ?_
  exact W.eq (g2 := F0 m (pc + 3) ls []) rfl kk
end MK
theorem arrV_eq {cA : ClassId} {n : Nat} {f f' : Nat → Value} (h : ∀ j, j < n → f j = f' j) : arrV cA n f = arrV cA n f' := by
  unfold arrV
  congr 1
  apply Array.ext
  · simp
  · intro i h1 h2
    simp at h1
    simp [h i h1]
section MK2
variable {p : Program} {l : Launch} {e : Jvm.Env} {R : Room} {s : State} {m : MethodId} {args : Array Value} {below : List Frame} {meth : Method} {c : Code} {H : Heap} {locs : List Loc} {cells slots : Nat} {Q : State → Prop}
variable {cc : ByteArray} {nL pc : Nat} {ls : Array Slot} {rest st : List Value} {own : String} {g : Gm} {n n' : Nat} {K : Key → Prop} {en en' : Key → va_E}
theorem m_aast (hC : CallFix p m c cc nL s args LG own) (hE : Ev g s) (hI : IJ g K) (hP : WPe g K en H) (hS : va_S (AA g) s.heap H locs) {k kv : Key} (hk : K k) (hkv : K kv) {t ci N : Nat} {r : vw_C} {vs : List Value} {f : Nat → Option Nat} (he : en k = .inl (gC g t, N, .inr (.inr (.inr (.inr f))))) (ht : (tys5 g)[t]? = some (gC g t, .object r.1)) (hv : en kv = .inr (ci, vs)) (hc : cls7[ci]? = some r) {x : Int32} (i : Nat) (hx : x = nI i) (hi : i < N) (hN : N < 2 ^ 31) {en' : Key → va_E} (h1 : en' k = .inl (gC g t, N, .inr (.inr (.inr (.inr (va_up f i (some (ad g kv)))))))) (h2 : ∀ j, K j → j ≠ k → en' j = en j) (hdg : decode cc pc = .ok (.aastore, 1))
    (kk : ∀ (H1 : Heap) (locs1 : List Loc), H1.size = H.size → WPe g K en' H1 → va_S (AA g) s.heap H1 locs1 → W p l e R s m args below meth c H1 locs1 cells slots Q (F0 m (pc + 1) ls rest)) : W p l e R s m args below meth c H locs cells slots Q (F0 m pc ls (.ref (ad g kv) :: .int x :: .ref (ad g k) :: rest)) := by
  obtain ⟨hx1, hb, hml, hown, hG⟩ := hC
  subst hx
  have hin : vp_in (nI i) N := vp_in_nI hi hN
  have hlt : (nI i).toNatClampNeg < N := Nat.not_le.mp fun q => hin (Or.inr q)
  have h0 : ¬ nI i < 0 := fun q => hin (Or.inl q)
  have a0 := hP k hk
  rw [he] at a0
  have v0 := hP kv hkv
  rw [hv] at v0
  obtain ⟨r', hr', cellV, g1, g2, g3, -⟩ := v0
  have hcls := (hE.1.1 ci r hc).2
  obtain ⟨kA, comp, k1, k2, k3, -⟩ := (hE.1.2 t _ ht).2
  have hcomp : comp = (gD g).1 ci := Option.some.inj (k3.symm.trans hcls.1)
  subst hcomp
  obtain ⟨kC, hkC, -⟩ := hcls.2
  refine W.aast hx1 hb a0 (fun q h => by cases h) (fun h => by cases h) k1 k2 rfl hkC ⟨h0, by show _ < (arrV _ _ _).slots.size; rw [arrV_size]; exact hlt⟩ g1 (fun q h => by rw [g3] at h; cases h) (by rw [g2]; exact hkC) (by rw [g2]; exact va_assign hcls) rfl rfl hdg fun H1 z1 z2 z3 => ?_
  refine kk H1 _ z2 (fun j hj => ?_) (hS.put z2 z3 (hI.2 k hk))
  by_cases hjk : j = k
  · subst hjk
    rw [h1]
    show H1[ad g j]? = some (vp_cell _ _)
    rw [z1, vp_cell_q, vp_cell_q, arrV_store, nI_clamp (by omega)]
    congr 2
    funext q
    by_cases hq : q = i
    · subst hq
      simp [updV, va_up, va_rf]
    · simp [updV, va_up, hq]
  · rw [h2 j hj hjk]
    exact (hP j hj).kept (z3 _ (fun z => hjk (hI.1 j k hj hk z)))
variable {y : MethodName} {b1 : ByteArray} {n1 na index : Nat} {R1 : Room}
theorem run_I (hC : CallFix p m c cc nL s args LG own) (hE : Ev g s) (hA : AO3 s) (hP : WSz g n en H) (hS : va_S (AA g) s.heap H locs) {k : Key} {As : List Value} (hM : MC l y b1 n1 R1 g n en (.ref (ad g k) :: As) n' en') (hini : Cond.initialized y.cls ∈ LG) (hinst : Cond.instanceMethod y ∈ LG) (hcode : Cond.code y b1 n1 none ∈ LG) (hy : y.name = "<init>") (hd : y.cls ≠ "java/lang/invoke/MethodHandle" ∧ y.cls ≠ "java/lang/invoke/VarHandle" ∧ (parseMethodDescriptor y.desc).map (fun d => d.parameters.length) = some na) (hlink : Cond.methodLink own index y ∈ LG) (hR : R1.frames + 1 ≤ R.frames ∧ 8 + (n1 + 11) + R1.locals ≤ R.locals) (hlen : As.length = na) (hst : st = As.reverse ++ .ref (ad g k) :: rest) (hroom : (rest.map fun v => v.category).sum ≤ 8) (hls : ls.size = nL) (hf : cells + R1.cells ≤ R.cells ∧ slots + R1.slots ≤ R.slots) (hdg : decode cc pc = .ok (.invokespecial index, 3))
    (kk : ∀ (H1 : Heap) (locs1 : List Loc), WSz g n' en' H1 → va_S (AA g) s.heap H1 locs1 → W p l e R s m args below meth c H1 locs1 (cells + R1.cells) (slots + R1.slots) Q (F0 m (pc + 3) ls rest)) : W p l e R s m args below meth c H locs cells slots Q (F0 m pc ls st) := by
  refine va_callv (va_runI hC hM (cwI na hC.2.2.2.2 (LG_y hcode) rfl rfl rfl (hC.2.2.2.2 _ hini) (hC.2.2.2.2 _ hlink) (hC.2.2.2.2 _ hinst) hy hd hR) ⟨Pz.blind, fun U hU hW => ⟨rfl, hE.call hS hU hW, hA.moved hW.alike, by rw [hU]; exact hP⟩⟩ rfl hlen hls hst (lv_room hroom) hdg hf) hS (fun q _ h => h) (fun q h => h) (fun u t H1 locs1 ht hvm hw hB hz hk hS1 => ?_)
  rw [ht] at hB
  exact kk H1 locs1 hB hS1
end MK2
