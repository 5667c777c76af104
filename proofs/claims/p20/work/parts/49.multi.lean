/-! An array of arrays of ints in one instruction. -/
section MLT
variable {E : CtlPost} {e : Jvm.Env} {d : Bool} {acts : List Action} {s : State}
/-- the cold entry, as resolution leaves it -/
theorem mm_cold {Q : Unit → Pre} {f : JFrame} {index dims c : Nat} {vm' : Vm} (hs : s.topJava?.isSome) (hg : (Jvm.resolveClass f.method.cls index).Gives e.toSetting s.vm (.ok c) vm') (hr : vm'.classReady f.method.cls index c) (hsz : vm'.classes.size ≤ s.vm.classes.size := by no_record) : wp (multianewarray.sem index dims) Q E e d acts (s.setTop f) ↔ wp (multianewarray.sem index dims) Q E e d acts ((s.setVm vm').setTop f) := by
  simp only [multianewarray.sem, wp_bind']
  exact W.resolveClassAt_transfer (s := s.setTop f) (State.method?_setTop f hs) hg hr
/-- a row: an array of ints -/
theorem mm_row {Q : Addr → Pre} {cI c0 : ClassId} {kI : Class} {b : Int32} (hk : s.vm.classes[cI]? = some kI) (hkind : kI.kind = .array c0 .int) (hb : ¬ b < 0) (hl : ¬ b.toNatClampNeg > e.platform.arrayLengthLimit) (hh : ¬ b.toNatClampNeg * componentBytes .int > e.platform.maxHeapBytes) (hc : s.heap.size < e.platform.maxCells) (hs : s.slotsUsed + b.toNatClampNeg ≤ e.platform.maxSlots)
    (hq : ∀ acts', Q s.heap.size d acts' (s.pushCell (arrV cI b.toNatClampNeg (fun _ => .int 0)))) : wp (multianewarray.make cI [b]) Q E e d acts s := by
  rw [multianewarray.make]
  simp only [wp_bind', W.ite, hb, if_false, wp_pure', W.theClass, hk, hkind, Option.some.injEq, exists_eq_left']
  refine W.newArray_of hk hkind hl hh hc hs rfl fun acts' => ?_
  have q := hq acts'
  rw [← arrV_new] at q
  exact q
end MLT
section MLW
variable {p : Program} {l : Launch} {e : Jvm.Env} {R : Room} {s : State} {m : MethodId} {args : Array Value} {below : List Frame} {meth : Method} {c : Code} {H : Heap} {locs : List Loc} {cells slots : Nat} {Q : State → Prop}
/-- how far the rows are made -/
def MMi (p : Program) (l : Launch) (e : Jvm.Env) (R : Room) (s : State) (m : MethodId) (args : Array Value) (below : List Frame) (meth : Method) (c : Code) (H : Heap) (locs : List Loc) (cells slots : Nat) (f : JFrame) (vm : Vm) (cO cI N B i : Nat) (u : State) : Prop :=
  ∃ (T : State) (l2 : List Loc), u = T.setTop f ∧ Stand p l e R s m args below meth c T l2 (cells + 1 + i) (slots + N + i * B) ∧ T.vm = vm ∧ T.heap.size = H.size + 1 + i ∧ (∀ q : Nat, q < H.size → T.heap[q]? = H[q]?) ∧ T.heap[H.size]? = some (arrV cO N (fun j => if j < i then .ref (H.size + 1 + j) else .null)) ∧ (∀ j : Nat, j < i → T.heap[H.size + 1 + j]? = some (arrV cI B (fun _ => .int 0))) ∧ ∀ q ∈ l2, q ∈ locs ∨ q.base = H.size
theorem W_multi {cc : ByteArray} (hexec : p.tables.exec = Jvm.exec) (hb : c.code = cc) {own : String} {index : Nat} (hown : s.vm.findClass own = some m.cls) (hclink : (Cond.classLink own index "[[I").before args s = true) (hover : (Cond.arrayOver (.array .int)).before args s = true) (harr : (Cond.arrayClass .int).before args s = true)
    {g : JFrame} (hg : g.method = m) (hdg : decode cc g.pc = .ok (.multianewarray index 2, 4)) {x y : Int32} {N B : Nat} {rest : List Value} (hstack : g.stack = .int y :: .int x :: rest) (hx : x = nI N) (hy : y = nI B) (hN : N ≤ 1000) (hB : B ≤ 1000) (hcells : cells + 1 + N ≤ R.cells) (hslots : slots + N + N * B ≤ R.slots)
    (kk : ∀ (H1 : Heap) (l1 : List Loc) (cO cI : ClassId), s.vm.findClass ("[" ++ (FieldType.array .int).toString) = some cO → s.vm.findClass ("[" ++ FieldType.int.toString) = some cI → H1.size = H.size + 1 + N → (∀ q : Nat, q < H.size → H1[q]? = H[q]?) → H1[H.size]? = some (arrV cO N (fun j => .ref (H.size + 1 + j))) → (∀ j : Nat, j < N → H1[H.size + 1 + j]? = some (arrV cI B (fun _ => .int 0))) → (∀ q ∈ l1, q ∈ locs ∨ q.base = H.size) →
      W p l e R s m args below meth c H1 l1 (cells + 1 + N) (slots + N + N * B) Q { g with pc := g.pc + 4, stack := .ref H.size :: rest }) : W p l e R s m args below meth c H locs cells slots Q g := by
  intro T hT X
  subst hT; subst hb; subst hg; subst hx; subst hy
  have hpl : e.platform.magicAccessors = ({} : Platform).magicAccessors := by rw [X.admits.platform]
  obtain ⟨comp, cO, kO, hcomp, -, hkO, hkindO, hnO⟩ := arrayOverA_spec (show (Cond.arrayOver (.array .int)).holds args s none s [] = true from hover)
  obtain ⟨cI, kI, c0, hI1, hI2, hI3⟩ := Cond.arrayClass_spec (show (Cond.arrayClass .int).holds args s none s [] = true from harr)
  have ec : comp = cI := Option.some.inj (hcomp.symm.trans hI1)
  subst ec
  obtain ⟨cz, hfz, hcl⟩ := Cond.classLink_spec hown hclink e.platform hpl
  have ez : cz = cO := Option.some.inj (hfz.symm.trans hnO)
  subst ez
  obtain ⟨hg₁, hwarm₁, hready₁⟩ := State.classEntry (e := e) X.warmed hcl
  generalize T.vm.noted g.method.cls index (.cls cz) = vm₁ at hg₁ hwarm₁ hready₁
  have hal : s.vm.Alike vm₁ := hwarm₁.alike
  obtain ⟨kO₁, hkO₁, heO⟩ := hal.2.2 _ _ hkO
  obtain ⟨kI₁, hkI₁, heI⟩ := hal.2.2 _ _ hI2
  have hkindO₁ : kO₁.kind = .array comp (.array .int) := by rw [heO]; exact hkindO
  have hkindI₁ : kI₁.kind = .array c0 .int := by rw [heI]; exact hI3
  have nN : (nI N).toNatClampNeg = N := nI_clamp (by omega)
  have nB : (nI B).toNatClampNeg = B := nI_clamp (by omega)
  have pN : ¬ nI N < 0 := nI_pos (by omega)
  have pB : ¬ nI B < 0 := nI_pos (by omega)
  have lim : ∀ k, k ≤ 1000 → ¬ k > e.platform.arrayLengthLimit := fun k hk => by rw [Launch.admits_arrayLengthLimit X.admits]; omega
  have hpb : ∀ k, k ≤ 1000 → ¬ k * 4 > e.platform.maxHeapBytes := fun k hk => by rw [Launch.admits_maxHeapBytes X.admits]; omega
  have X₁ := X.noted hwarm₁
  have X₂ := X₁.pushed (arrV cz N (fun _ => .null))
  rw [arrV_size] at X₂
  have hwp : wpRun (Jvm.exec (.multianewarray index 2)) (fun _ u _ => MMi p l e R s g.method args below meth c T.heap locs cells slots { g with stack := .ref T.heap.size :: rest } vm₁ cz comp N B N u) (fun _ _ _ => False) e (T.setTop g) := by
    show wp (multianewarray.sem index 2) _ _ e false [] (T.setTop g)
    refine (mm_cold X.here.top hg₁ hready₁).mpr ?_
    simp only [multianewarray.sem, wp_bind']
    rw [W.resolveClassAt_ready (s := (T.setVm vm₁).setTop g) (State.method?_setTop g X₁.here.top) hready₁]
    rw [wp_bind']
    refine (popN_top (args := [.int (nI N), .int (nI B)]) X₁.here.top (by rw [hstack]; rfl)).mpr ?_
    simp only [List.mapM_cons, List.mapM_nil, wp_bind', wp_pure']
    rw [multianewarray.make]
    simp only [wp_bind', W.ite, pN, if_false, wp_pure', W.theClass, State.vm_setTop, State.vm_setVm, hkO₁, hkindO₁, Option.some.injEq, exists_eq_left', nN]
    obtain ⟨r1, r2⟩ := X.roomAbove (a := 1) (b := N) (by omega) (by omega)
    refine W.newArray_of (s := (T.setVm vm₁).setTop { g with stack := rest }) hkO₁ hkindO₁ (lim N hN) (hpb N hN) (by show T.heap.size < _; omega) (by show T.slotsUsed + N ≤ _; exact r2) rfl fun acts1 => ?_
    have hfind : ([nI B].find? (· < 0)) = none := by simp [pB]
    simp only [hfind]
    rw [ite_self, wp_bind', Std.Legacy.Range.forIn_eq_forIn_range']
    have hsz : ([:N] : Std.Legacy.Range).size = N := by simp [Std.Legacy.Range.size]
    rw [hsz]
    refine wp_forIn_inv (fun todo u => ∃ i, i ≤ N ∧ todo = List.range' i (N - i) ∧ MMi p l e R s g.method args below meth c T.heap locs cells slots { g with stack := rest } vm₁ cz comp N B i u) _ _ ⟨0, Nat.zero_le _, rfl, ?_⟩ ?_ ?_
    · refine ⟨(T.setVm vm₁).pushCell (arrV cz N (fun _ => .null)), locs, by rw [← arrV_new]; rfl, by simpa using X₂, rfl, ?_, ?_, ?_, fun j hj => absurd hj (Nat.not_lt_zero _), fun q hq => Or.inl hq⟩
      · show (T.heap.push _).size = _
        rw [Array.size_push]
      · intro q hq
        show (T.heap.push _)[q]? = _
        rw [Array.getElem?_push, if_neg (Nat.ne_of_lt hq)]
      · show (T.heap.push _)[T.heap.size]? = _
        rw [Array.getElem?_push_size]
        exact congrArg some (arrV_eq fun j _ => (if_neg (Nat.not_lt_zero j)).symm)
    · rintro k todo u d' acts' Q' ⟨i, hi, hl, T1, l2, rfl, X3, v3, z3, o3, a3, r3, q3⟩ hnext
      have hlt : i < N := by
        rcases Nat.lt_or_ge i N with h | h
        · exact h
        · rw [show N - i = 0 from by omega] at hl; simp at hl
      obtain ⟨rfl, htodo⟩ : k = i ∧ todo = List.range' (i + 1) (N - (i + 1)) := by
        rw [show N - i = (N - (i + 1)) + 1 from by omega, List.range'_succ] at hl
        exact ⟨(List.cons.inj hl).1, (List.cons.inj hl).2⟩
      have hmul : k * B + B ≤ N * B := by
        have h := Nat.mul_le_mul_right B (show k + 1 ≤ N from hlt)
        rw [Nat.succ_mul] at h
        exact h
      obtain ⟨r1, r2⟩ := X3.roomAbove (a := 1) (b := B) (by omega) (by omega)
      simp only [wp_bind']
      refine mm_row (s := T1.setTop { g with stack := rest }) (cI := comp) (kI := kI₁) (c0 := c0) (by show T1.vm.classes[comp]? = _; rw [v3]; exact hkI₁) hkindI₁ pB (by rw [nB]; exact lim B hB) (by rw [nB]; exact hpb B hB) (by show T1.heap.size < _; omega) (by rw [nB]; exact r2) fun acts2 => ?_
      rw [nB]
      have hh : T.heap.size < T1.heap.size := by omega
      have a4 : (T1.pushCell (arrV comp B (fun _ => .int 0))).heap[T.heap.size]? = some (arrV cz N (fun j => if j < k then .ref (T.heap.size + 1 + j) else .null)) := by
        show (T1.heap.push _)[T.heap.size]? = _
        rw [Array.getElem?_push, if_neg (Nat.ne_of_lt hh)]
        exact a3
      have X4 := (X3.pushed (arrV comp B (fun _ => .int 0))).stored a4 k (.ref T1.heap.size)
      rw [arrV_size, arrV_store] at X4
      simp only [wp_bind', W.writeLoc, wp_pure']
      refine ⟨_, a4, ?_, ?_, ?_, ?_⟩
      · intro h; cases h
      · rw [arrV_size]; exact hlt
      · show (T1.setTop { g with stack := rest }).fitsSlot cz .none k _ = true
        simp [State.fitsSlot, State.slotType?, v3, hkO₁, hkindO₁, fits]
      · refine hnext _ _ _ ⟨k + 1, hlt, htodo, (T1.pushCell (arrV comp B (fun _ => .int 0))).setCell T.heap.size (arrV cz N (updV (fun j => if j < k then Value.ref (T.heap.size + 1 + j) else Value.null) k (Value.ref T1.heap.size))), l2 ++ [⟨T.heap.size, k⟩], ?_, ?_, v3, ?_, ?_, ?_, ?_, ?_⟩
        · rw [arrV_store]; rfl
        · rw [show cells + 1 + (k + 1) = cells + 1 + k + 1 from by omega, show slots + N + (k + 1) * B = slots + N + k * B + B from by rw [Nat.succ_mul]; omega]
          exact X4
        · rw [size_setCell, size_pushCell, z3]; omega
        · intro q hq
          rw [heapAt_setCell_ne _ (by omega : T.heap.size ≠ q)]
          show (T1.heap.push _)[q]? = _
          rw [Array.getElem?_push, if_neg (by omega)]
          exact o3 q hq
        · rw [heapAt_setCell_self _ (Nat.lt_of_lt_of_le hh (by rw [size_pushCell]; exact Nat.le_succ _))]
          refine congrArg some (arrV_eq fun j _ => ?_)
          unfold updV
          by_cases hj : j = k
          · rw [if_pos hj, if_pos (by omega), z3, hj]
          · rw [if_neg hj]
            show (if j < k then Value.ref (T.heap.size + 1 + j) else Value.null) = _
            by_cases h2 : j < k
            · rw [if_pos h2, if_pos (by omega)]
            · rw [if_neg h2, if_neg (by omega)]
        · intro j hj
          rw [heapAt_setCell_ne _ (by omega : T.heap.size ≠ T.heap.size + 1 + j)]
          show (T1.heap.push _)[T.heap.size + 1 + j]? = _
          rw [Array.getElem?_push]
          by_cases h2 : j = k
          · rw [if_pos (by omega)]
          · rw [if_neg (by omega)]
            exact r3 j (by omega)
        · intro q hq
          rcases List.mem_append.mp hq with h | h
          · exact q3 q h
          · right
            rw [List.mem_singleton.mp h]
    · rintro u d' acts' ⟨i, hi, hl, hM⟩
      have hiN : i = N := by
        rcases Nat.lt_or_ge i N with h | h
        · rw [show N - i = (N - (i + 1)) + 1 from by omega, List.range'_succ] at hl; cases hl
        · omega
      subst hiN
      obtain ⟨T1, l2, rfl, X3, v3, z3, o3, a3, r3, q3⟩ := hM
      simp only [wp_pure', wp_bind', W.mark, W.pushRef]
      refine ⟨_, State.topJava?_setTop' _ X3.here.top, ?_⟩
      rw [State.setTop_setTop]
      exact ⟨T1, l2, rfl, X3, v3, z3, o3, a3, r3, q3⟩
  have hrun := (wpRun_iff_run _ _ _ _ _).mp hwp
  cases hr : (Jvm.exec (.multianewarray index 2)).run e (T.setTop g) with
  | ok a1 u as =>
    rw [hr] at hrun
    obtain ⟨T1, l2, rfl, X3, v3, z3, o3, a3, r3, q3⟩ := hrun
    obtain ⟨t, b1, b2⟩ := kk T1.heap l2 cz comp hnO hI1 z3 o3 (by rw [a3]; exact congrArg some (arrV_eq fun j hj => if_pos hj)) r3 q3 T1 rfl X3
    refine ⟨t, Steps.instr (c := c) (by simpa using X.here) ?_, b2⟩
    rw [hdg]
    show wpRun (p.tables.exec (.multianewarray index 2)) _ _ e (T.setTop g)
    rw [hexec]
    refine (wpRun_iff_run _ _ _ _ _).mpr ?_
    rw [hr]
    intro acts
    rw [afterInstr_ok]
    exact b1
  | ctl x u as =>
    rw [hr] at hrun
    cases x <;> exact hrun.elim
end MLW
