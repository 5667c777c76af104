/-! A call that ends with an exception: the world stays. -/
def E_ix : String := "java/lang/IndexOutOfBoundsException"
def E_arg : String := "java/lang/IllegalArgumentException"
def E_st : String := "java/lang/IllegalStateException"
def tn2 : List String := ["java/lang/RuntimeException", "java/lang/Exception"]
def XCe (g : Gm) (K : Key → Prop) (en : Key → va_E) (E : String) : String → State → State → Prop := vx_X (fun (_ : Unit) => True) (fun E' _ t => E' = E ∧ WPe g K en t.heap) (AA g)
abbrev rmx (f lo : Nat) : Room := { frames := f, cells := 1, slots := 6, locals := lo }
abbrev MX (l : Launch) (y : MethodName) (b : ByteArray) (n : Nat) (rt : FieldType) (R : Room) (g : Gm) (K : Key → Prop) (en : Key → va_E) (av : List Value) (E : String) : Prop := vx_Met l y (wy y b n (some rt)) R (Pd g K en av) (va_Qi (fun (_ : Int32) (_ : Unit) => False) (fun _ _ => True) (AA g)) (XCe g K en E) R.cells R.slots (AA g)
section MXO
variable {l : Launch} {y : MethodName} {b : ByteArray} {n : Nat} {ret : Option FieldType} {R : Room} {g : Gm} {K : Key → Prop} {en : Key → va_E} {av : List Value} {Qc : Array Value → State → Outcome → State → Prop} {XC : String → State → State → Prop}
theorem mx_of (hy : plainName y.cls = true) (hn : (lg_sl av).length ≤ n)
    (body : ∀ (p : Program) (e : Jvm.Env) (s : State) (m : MethodId) (below : List Frame) (meth : Method) (c : Code) (ls : Array Slot), CallFix p m c b n s av.toArray LG y.cls → meth.sig.returnType = ret → meth.locks = false → (∀ x ∈ c.exceptionTable.toList, False) → Ev g s → WPe g K en s.heap → va_S (AA g) s.heap s.heap [] → lv_has ls n (lv_args 0 av) →
      W p l e R s m av.toArray below meth c s.heap [] 0 0 (vx_MQ below Qc XC av.toArray s R.cells R.slots (AA g)) (F0 m 0 ls [])) : vx_Met l y (wy y b n ret) R (Pd g K en av) Qc XC R.cells R.slots (AA g) := by
  refine vx_ofW (cc := b) (maxL := n) (ret := ret) hy rfl ?_
  intro p e s m args below meth c s₁ B hml htab hv
  obtain ⟨rfl, hE, hP⟩ := hv
  have hts := atoms_spec (ws := wy y b n ret) B.pre
  have hl := lv_entry av (n := n) hn
  rw [lg_entry_eq]
  exact body p e s m below meth c _ ⟨B.exec, B.bytes, hml, findClass_of_methodNamed B.named, fun w hw => hts w (List.mem_cons_of_mem _ hw)⟩ B.returns B.notSynchronized htab hE hP va_S.rf hl
end MXO
theorem NW_use {w : Cond} (hw : w ∈ NW) {U : State} (h : va_Nw w U) {A : Array Value} : w.before A U = true := by
  have h2 := (List.mem_filter.mp hw).2
  cases w <;> first | exact va_Nw.use rfl h | (simp [nst] at h2)
/-- what one 'new E("text")' of class own asks of the tables -/
def Thr (own cls text : String) (ik is ic : Nat) : Prop := Cond.classLink own ik cls ∈ LG ∧ Cond.initialized cls ∈ LG ∧ Cond.stringRef own is text ∈ lw_tbl ∧ (∀ w ∈ (vx_atS own ic cls tn2).filter goodWord, w ∈ LG) ∧ (∀ w ∈ (vx_atS own ic cls tn2).filter (fun w => !goodWord w), w ∈ NW) ∧ (∀ w ∈ Cond.classLink own ik cls :: Cond.initialized cls :: vx_atS own ic cls tn2, vx_ot w = true) ∧ Bundle.fit cls = true
section MTH
variable {p : Program} {l : Launch} {e : Jvm.Env} {R : Room} {s : State} {m : MethodId} {args : Array Value} {below : List Frame} {meth : Method} {c : Code} {H : Heap} {locs : List Loc} {cells slots : Nat}
variable {cc : ByteArray} {nL pc : Nat} {ls : Array Slot} {rest : List Value} {own : String} {g : Gm} {K : Key → Prop} {en : Key → va_E} {Qc : Array Value → State → Outcome → State → Prop}
theorem m_throw (hC : CallFix p m c cc nL s args LG own) (hE : Ev g s) (hP : WPe g K en H) (hS : va_S (AA g) s.heap H locs) (hl0 : l.stackTraces = false) (hlk : meth.locks = false) (htab : ∀ x ∈ c.exceptionTable.toList, False) (hls : ls.size = nL) {cls text : String} {ik is ic : Nat} (ht : Thr own cls text ik is ic)
    (d0 : decode cc pc = .ok (.new ik, 3)) (d3 : decode cc (pc + 3) = .ok (.dup, 1)) (d4 : decode cc (pc + 4) = .ok (.ldc is, 2)) (d6 : decode cc (pc + 6) = .ok (.invokespecial ic, 3)) (d9 : decode cc (pc + 9) = .ok (.athrow, 1))
    (hRf : 5 < R.frames) (hRl : (rest.map fun v => v.category).sum + 82 ≤ R.locals) (hRc : cells + 1 ≤ R.cells) (hRs : slots + 6 ≤ R.slots) : W p l e R s m args below meth c H locs cells slots (vx_MQ below Qc (XCe g K en cls) args s R.cells R.slots (AA g)) (F0 m pc ls rest) := by
  obtain ⟨hx1, hb, hml, hown, hG⟩ := hC
  obtain ⟨a1, a2, a3, a4, a5, a6, a7⟩ := ht
  obtain ⟨sa, hsa⟩ := hE.2.1.2 _ _ _ a3
  refine vx_throwS hx1 hb hl0 (own := own) (cls := cls) (text := text) (names := tn2) (ik := ik) (is := is) (ic := ic) (sa := sa) (A := AA g) hown a7 (by decide +kernel) (hG _ a1) (hG _ a2) hsa (vx_hat (B := NW) (fun w hw => hG w (a4 w hw)) a5 (fun w hw => NW_use hw (hE.2.1.1 w hw))) a6 hE.2.2.1 hE.2.2.2.1 hS (hls.trans hml.symm) d0 d3 d4 d6 d9 (fun x hx => (htab x hx).elim) hRf hRl hRc hRs hlk ?_ hS.2.2 hRc hRs
  intro t hvm hz hq
  refine ⟨(), trivial, ⟨rfl, fun k hk => (hP k hk).kept (hq _ (hP k hk).lt)⟩, Nat.le_trans hS.1 hz, fun q h1 h2 => ?_⟩
  rw [hq q (Nat.lt_of_lt_of_le h1 hS.1)]
  exact hS.2.1 q h1 h2
end MTH
set_option maxRecDepth 100000 in
theorem thr_ix {text : String} {is : Nat} (h : Cond.stringRef RX4 is text ∈ lw_tbl) : Thr RX4 E_ix text 23 is 27 := ⟨w_175, w_11, h, by decide +kernel, by decide +kernel, by decide +kernel, by decide +kernel⟩
set_option maxRecDepth 100000 in
theorem thr_arg {text : String} {is : Nat} (h : Cond.stringRef RX4 is text ∈ lw_tbl) : Thr RX4 E_arg text 34 is 38 := ⟨w_351, w_12, h, by decide +kernel, by decide +kernel, by decide +kernel, by decide +kernel⟩
set_option maxRecDepth 100000 in
theorem thr_st {text : String} {is : Nat} (h : Cond.stringRef RX4 is text ∈ lw_tbl) : Thr RX4 E_st text 65 is 69 := ⟨w_583, w_13, h, by decide +kernel, by decide +kernel, by decide +kernel, by decide +kernel⟩
