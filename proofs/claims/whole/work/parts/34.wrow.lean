/-! The law's own calls: an answer is put into 'out', an exception is caught. -/
def NC (U : State) : Prop := va_Nc E_arg E_ix U ∧ va_Nc E_st E_ix U ∧ va_Nc E_st E_arg U ∧ va_Nc E_ix E_arg U
theorem NC.moved {u U : State} (h : u.vm.Alike U.vm) (k : NC u) : NC U := ⟨k.1.moved h, k.2.1.moved h, k.2.2.1.moved h, k.2.2.2.moved h⟩
def Pdn (g : Gm) (K : Key → Prop) (en : Key → va_E) (av : List Value) : Array Value → State → Prop := fun v U => Pd g K en av v U ∧ NC U
theorem Pdn.blind {g : Gm} {K : Key → Prop} {en : Key → va_E} {av : List Value} : FrameBlind (Pdn g K en av) := fun a U f mk h => ⟨Pd.blind a U f mk h.1, h.2.moved (Vm.Alike.refl U.vm)⟩
abbrev MW (l : Launch) (y : MethodName) (b : ByteArray) (n : Nat) (hh : List (Nat × Nat × Nat × Nat)) (R : Room) (g : Gm) (en : Key → va_E) (av : List Value) (r : Int32) (en' : Key → va_E) : Prop := vx_Met l y (Cond.codeWith y b n (some .int) hh :: LG) R (Pdn g KK en av) (Qi g r KK en') (vx_X (fun (_ : Unit) => True) (fun _ _ _ => False) (AA g)) R.cells R.slots (AA g)
section MWO
variable {l : Launch} {y : MethodName} {b : ByteArray} {n : Nat} {hh : List (Nat × Nat × Nat × Nat)} {R : Room} {g : Gm} {en : Key → va_E} {av : List Value} {Qc : Array Value → State → Outcome → State → Prop} {XC : String → State → State → Prop}
theorem mw_of (hy : plainName y.cls = true) (hn : (lg_sl av).length ≤ n)
    (body : ∀ (p : Program) (e : Jvm.Env) (s : State) (m : MethodId) (below : List Frame) (meth : Method) (c : Code) (ls : Array Slot), CallFix p m c b n s av.toArray LG y.cls → meth.sig.returnType = some .int → meth.locks = false → c.exceptionTable.toList = tableOf hh → Ev g s → NC s → WPe g KK en s.heap → va_S (AA g) s.heap s.heap [] → lv_has ls n (lv_args 0 av) →
      W p l e R s m av.toArray below meth c s.heap [] 0 0 (vx_MQ below Qc XC av.toArray s R.cells R.slots (AA g)) (F0 m 0 ls [])) : vx_Met l y (Cond.codeWith y b n (some .int) hh :: LG) R (Pdn g KK en av) Qc XC R.cells R.slots (AA g) := by
  refine vx_ofWH (cc := b) (maxL := n) (ret := some .int) (hh := hh) hy rfl ?_
  intro p e s m args below meth c s₁ B hml hv
  obtain ⟨⟨rfl, hE, hP⟩, hN⟩ := hv
  have hts := atoms_spec (ws := Cond.codeWith y b n (some .int) hh :: LG) B.pre
  have hl := lv_entry av (n := n) hn
  rw [lg_entry_eq]
  exact body p e s m below meth c _ ⟨B.exec, B.bytes, hml, findClass_of_methodNamed B.named, fun w hw => hts w (List.mem_cons_of_mem _ hw)⟩ B.returns B.notSynchronized (vx_table (x := y) B (hts _ List.mem_cons_self)) hE hN hP va_S.rf hl
end MWO
def updL (o : Nat → Int64) (i : Nat) (x : Int64) : Nat → Int64 := fun j => if j = i then x else o j
theorem ent_out {g : Gm} {M : Mem} {o o' : Nat → Int64} : ∀ j, KK j → j ≠ (11, 0, 0) → ent g M o' j = ent g M o j := by
  rintro ⟨t, a, b⟩ hk hne
  unfold KK at hk
  unfold ent
  split at hk <;> rename_i ht <;> simp only at ht hk hne ⊢ <;> (try subst ht) <;> first | rfl | exact absurd (by rw [hk.1, hk.2]) hne | exact hk.elim
section MWR
variable {p : Program} {l : Launch} {e : Jvm.Env} {R : Room} {s : State} {m : MethodId} {args : Array Value} {below : List Frame} {meth : Method} {c : Code} {H : Heap} {locs : List Loc} {cells slots : Nat} {Q : State → Prop}
variable {cc : ByteArray} {nL pc : Nat} {ls : Array Slot} {rest st : List Value} {own : String} {g : Gm} {K : Key → Prop} {en : Key → va_E}
theorem m_last (hC : CallFix p m c cc nL s args LG own) (hE : Ev g s) (hI : IJ g KK) {M : Mem} {o : Nat → Int64} (hP : WPe g KK (ent g M o) H) (hS : va_S (AA g) s.heap H locs) {x : Int64} (hdg : decode cc pc = .ok (.lastore, 1))
    (kk : ∀ (H1 : Heap) (locs1 : List Loc), WPe g KK (ent g M (updL o 0 x)) H1 → va_S (AA g) s.heap H1 locs1 → W p l e R s m args below meth c H1 locs1 cells slots Q (F0 m (pc + 1) ls rest)) : W p l e R s m args below meth c H locs cells slots Q (F0 m pc ls (.long x :: .int 0 :: .ref (ad g (11, 0, 0)) :: rest)) := by
  obtain ⟨hx1, hb, hml, hown, hG⟩ := hC
  have h0 := hP (11, 0, 0) k_11
  rw [f_11] at h0
  have hin : vp_in 0 1 := vp_in_nI (n := 0) (N := 1) (by decide) (by decide)
  refine W.last hx1 hb h0 ((hE.1.2 4 _ rfl).1 1 (fun j => .long (o j))) (fun q => by cases q) (by show ¬ ((0 : Int32) < 0 ∨ (arrV _ _ _).slots.size ≤ _); rw [arrV_size]; exact hin) rfl rfl hdg fun H1 z1 z2 z3 => ?_
  refine kk H1 _ (fun j hj => ?_) (hS.put z2 z3 (hI.2 _ k_11))
  by_cases hjk : j = (11, 0, 0)
  · subst hjk
    rw [f_11]
    show H1[ad g (11, 0, 0)]? = some (vp_cell _ _)
    rw [z1, vp_cell_l, vp_cell_l, arrV_store]
    congr 2
    funext q
    have e0 : (0 : Int32).toNatClampNeg = 0 := by decide
    by_cases hq : q = 0
    · subst hq
      simp [updV, updL, e0]
    · simp [updV, updL, e0, hq]
  · rw [ent_out (o := o) j hj hjk]
    exact (hP j hj).kept (z3 _ (fun z => hjk (hI.1 j _ hj k_11 z)))
variable {y : MethodName} {b1 : ByteArray} {n1 na index : Nat} {R1 : Room} {ret : Option FieldType} {Qc : Array Value → State → Outcome → State → Prop} {XC : String → State → State → Prop}
theorem run_VX (hC : CallFix p m c cc nL s args LG own) (hE : Ev g s) (hP : WPe g K en H) (hS : va_S (AA g) s.heap H locs) {k : Key} {As : List Value} (hM : vx_Met l y (wy y b1 n1 ret) R1 (Pd g K en (.ref (ad g k) :: As)) Qc XC R1.cells R1.slots (AA g)) {C : String} (hcal : CalV C y b1 n1 ret na) (hlink : Cond.methodLink own index y ∈ LG) (hR : R1.frames + 1 ≤ R.frames ∧ 8 + (n1 + 11) + R1.locals ≤ R.locals) (hk : K k) {ci N : Nat} {T : u_T} {fs : List Value} (he : en k = .inr (ci, fs)) (hc : cls7[ci]? = some (C, T, N)) (hlen : As.length = na) (hst : st = As.reverse ++ .ref (ad g k) :: rest) (hroom : (rest.map fun v => v.category).sum ≤ 8) (hls : ls.size = nL) (hf : cells + R1.cells ≤ R.cells ∧ slots + R1.slots ≤ R.slots) (hdg : decode cc pc = .ok (.invokevirtual index, 3)) :
    vx_Run p l e R s m args below meth c H locs cells slots R1.cells R1.slots (F0 m pc ls st) rest (Qc (Value.ref (ad g k) :: As).toArray) XC (AA g) := by
  obtain ⟨a1, a2, a3, a4, a5⟩ := hcal
  exact vx_runV hC hM (cwV na hC.2.2.2.2 (LG_V hlink a1 a2 a3 a4) rfl rfl rfl a5 hR) (preV_of hE hS hP hk he hc) rfl hlen hls hst (lv_room hroom) hdg hf
theorem on_x {E : String} {mc ms : Nat} {a : Array Value} (hr : vx_Run p l e R s m args below meth c H locs cells slots mc ms (F0 m pc ls st) rest (va_Qi (fun (_ : Int32) (_ : Unit) => False) (fun _ _ => True) (AA g) a) (XCe g K en E) (AA g)) (hS : va_S (AA g) s.heap H locs)
    (kx : ∀ (ce : Cell) (q9 : Addr) (H1 : Heap) (locs1 : List Loc), WPe g K en H1 → va_S (AA g) s.heap H1 locs1 → H1[q9]? = some ce → ce.vm = .none → s.vm.findClass E = some ce.cls → vx_W p l e R s m args below meth c H1 locs1 (cells + mc) (slots + ms) Q (F0 m pc ls rest) q9) : W p l e R s m args below meth c H locs cells slots Q (F0 m pc ls st) := by
  refine vx_calli hr hS (fun q _ h => h) (fun q h => h) (fun q _ h => h) (fun E1 ce q9 u t H1 locs1 ht hvm hp hB hz hk hS1 h1 h2 h3 => ?_) (fun r1 u t H1 locs1 ht hvm hw hB hz hk hS1 => hw.elim)
  obtain ⟨rfl, hW⟩ := hB
  rw [ht] at hW
  exact kx ce q9 H1 locs1 hW hS1 h1 h2 h3
end MWR
