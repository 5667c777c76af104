/-! An array of arrays of ints in one instruction. -/
section MLT
variable {E : CtlPost} {e : Jvm.Env} {d : Bool} {acts : List Action} {s : State}
/-- the cold entry, as resolution leaves it -/
theorem mm_cold {Q : Unit → Pre} {f : JFrame} {index dims c : Nat} {vm' : Vm} (hs : s.topJava?.isSome) (hg : (Jvm.resolveClass f.method.cls index).Gives e.toSetting s.vm (.ok c) vm') (hr : vm'.classReady f.method.cls index c) (hsz : vm'.classes.size ≤ s.vm.classes.size := by no_record) : wp (multianewarray.sem index dims) Q E e d acts (s.setTop f) ↔ wp (multianewarray.sem index dims) Q E e d acts ((s.setVm vm').setTop f) := by
  simp only [multianewarray.sem, wp_bind']
  exact W.resolveClassAt_transfer (s := s.setTop f) (State.method?_setTop f hs) hg hr
/-- a row: an array of ints -/
theorem mm_row {Q : Addr → Pre} {cI c0 : ClassId} {kI : Class} {b : Int32} (hk : s.vm.classes[cI]? = some kI) (hkind : kI.kind = .array c0 .int) (hb : ¬ b < 0) (hl : ¬ b.toNatClampNeg > e.platform.arrayLengthLimit) (hh : ¬ b.toNatClampNeg * componentBytes .int > e.platform.maxHeapBytes) (hc : s.heap.size < e.platform.maxCells) (hs : s.slotsUsed + b.toNatClampNeg ≤ e.platform.maxSlots)
    (hq : ∀ acts', Q s.heap.size d acts' (s.pushCell (arrV cI b.toNatClampNeg (fun _ => .int 0)))) : wp (multianewarray.make cI [b]) Q E e d acts s := by
  rw [multianewarray.make]
  simp only [wp_bind', W.ite, hb, if_false, wp_pure', W.theClass, hk, hkind, Option.some.injEq, exists_eq_left']
  refine W.newArray_of hk hkind hl hh hc hs rfl fun acts' => ?_
  have q := hq acts'
  rw [← arrV_new] at q
  exact q
end MLT
section MLW
variable {p : Program} {l : Launch} {e : Jvm.Env} {R : Room} {s : State} {m : MethodId} {args : Array Value} {below : List Frame} {meth : Method} {c : Code} {H : Heap} {locs : List Loc} {cells slots : Nat} {Q : State → Prop}
/-- how far the rows are made -/
def MMi (p : Program) (l : Launch) (e : Jvm.Env) (R : Room) (s : State) (m : MethodId) (args : Array Value) (below : List Frame) (meth : Method) (c : Code) (H : Heap) (locs : List Loc) (cells slots : Nat) (f : JFrame) (vm : Vm) (cO cI N B i : Nat) (u : State) : Prop :=
  ∃ (T : State) (l2 : List Loc), u = T.setTop f ∧ Stand p l e R s m args below meth c T l2 (cells + 1 + i) (slots + N + i * B) ∧ T.vm = vm ∧ T.heap.size = H.size + 1 + i ∧ (∀ q : Nat, q < H.size → T.heap[q]? = H[q]?) ∧ T.heap[H.size]? = some (arrV cO N (fun j => if j < i then .ref (H.size + 1 + j) else .null)) ∧ (∀ j : Nat, j < i → T.heap[H.size + 1 + j]? = some (arrV cI B (fun _ => .int 0))) ∧ ∀ q ∈ l2, q ∈ locs ∨ q.base = H.size
theorem W_multi {cc : ByteArray} (hexec : p.tables.exec = Jvm.exec) (hb : c.code = cc) {own : String} {index : Nat} (hown : s.vm.findClass own = some m.cls) (hclink : (Cond.classLink own index "[[I").before args s = true) (hover : (Cond.arrayOver (.array .int)).before args s = true) (harr : (Cond.arrayClass .int).before args s = true)
    {g : JFrame} (hg : g.method = m) (hdg : decode cc g.pc = .ok (.multianewarray index 2, 4)) {x y : Int32} {N B : Nat} {rest : List Value} (hstack : g.stack = .int y :: .int x :: rest) (hx : x = nI N) (hy : y = nI B) (hN : N ≤ 1000) (hB : B ≤ 1000) (hcells : cells + 1 + N ≤ R.cells) (hslots : slots + N + N * B ≤ R.slots)
    (kk : ∀ (H1 : Heap) (l1 : List Loc) (cO cI : ClassId), s.vm.findClass ("[" ++ (FieldType.array .int).toString) = some cO → s.vm.findClass ("[" ++ FieldType.int.toString) = some cI → H1.size = H.size + 1 + N → (∀ q : Nat, q < H.size → H1[q]? = H[q]?) → H1[H.size]? = some (arrV cO N (fun j => .ref (H.size + 1 + j))) → (∀ j : Nat, j < N → H1[H.size + 1 + j]? = some (arrV cI B (fun _ => .int 0))) → (∀ q ∈ l1, q ∈ locs ∨ q.base = H.size) →
      W p l e R s m args below meth c H1 l1 (cells + 1 + N) (slots + N + N * B) Q { g with pc := g.pc + 4, stack := .ref H.size :: rest }) : W p l e R s m args below meth c H locs cells slots Q g := by
  intro T hT X
  subst hT; subst hb; subst hg; subst hx; subst hy
  have hpl : e.platform.magicAccessors = ({} : Platform).magicAccessors := by rw [X.admits.platform]
  obtain ⟨comp, cO, kO, hcomp, -, hkO, hkindO, hnO⟩ := arrayOverA_spec (show (Cond.arrayOver (.array .int)).holds args s none s [] = true from hover)
  obtain ⟨cI, kI, c0, hI1, hI2, hI3⟩ := Cond.arrayClass_spec (show (Cond.arrayClass .int).holds args s none s [] = true from harr)
  have ec : comp = cI := Option.some.inj (hcomp.symm.trans hI1)
  subst ec
  obtain ⟨cz, hfz, hcl⟩ := Cond.classLink_spec hown hclink e.platform hpl
  have ez : cz = cO := Option.some.inj (hfz.symm.trans hnO)
  subst ez
  obtain ⟨hg₁, hwarm₁, hready₁⟩ := State.classEntry (e := e) X.warmed hcl
  generalize T.vm.noted g.method.cls index (.cls cz) = vm₁ at hg₁ hwarm₁ hready₁
  have hal : s.vm.Alike vm₁ := hwarm₁.alike
  obtain ⟨kO₁, hkO₁, heO⟩ := hal.2.2 _ _ hkO
  obtain ⟨kI₁, hkI₁, heI⟩ := hal.2.2 _ _ hI2
  have hkindO₁ : kO₁.kind = .array comp (.array .int) := by rw [heO]; exact hkindO
  have hkindI₁ : kI₁.kind = .array c0 .int := by rw [heI]; exact hI3
  have nN : (nI N).toNatClampNeg = N := nI_clamp (by omega)
  have nB : (nI B).toNatClampNeg = B := nI_clamp (by omega)
  have pN : ¬ nI N < 0 := nI_pos (by omega)
  have pB : ¬ nI B < 0 := nI_pos (by omega)
  have lim : ∀ k, k ≤ 1000 → ¬ k > e.platform.arrayLengthLimit := fun k hk => by rw [Launch.admits_arrayLengthLimit X.admits]; omega
  have hpb : ∀ k, k ≤ 1000 → ¬ k * 4 > e.platform.maxHeapBytes := fun k hk => by rw [Launch.admits_maxHeapBytes X.admits]; omega
  have X₁ := X.noted hwarm₁
  have X₂ := X₁.pushed (arrV cz N (fun _ => .null))
  rw [arrV_size] at X₂
  sorry
end MLW
