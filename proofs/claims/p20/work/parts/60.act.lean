/-! The law's act: its frame; things told. -/
section MR
variable {p : Program} {l : Launch} {e : Jvm.Env} {R : Room} {s : State} {m : MethodId} {args : Array Value} {below : List Frame} {meth : Method} {c : Code} {H : Heap} {locs : List Loc} {cells slots : Nat} {Q : State → Prop}
variable {cc : ByteArray} {nL pc : Nat} {ls : Array Slot} {rest st : List Value} {own : String} {g : Gm} {K : Key → Prop} {en : Key → va_E}
/-- a row of ints that lies beside the world -/
theorem m_iasR (hC : CallFix p m c cc nL s args LG own) (hE : Ev g s) (hP : WPe g K en H) (hS : va_S (AA g) s.heap H locs) {a n : Nat} {f : Nat → Int32} (ha : H[a]? = some (vp_cell (gC g 0) (n, .inl f))) (hA : AA g a) (hab : ∀ k, K k → ad g k ≠ a) {x v : Int32} (i : Nat) (hx : x = nI i) (hi : i < n) (hn : n < 2 ^ 31) (hdg : decode cc pc = .ok (.iastore, 1))
    (kk : ∀ (H1 : Heap) (locs1 : List Loc), H1.size = H.size → H1[a]? = some (vp_cell (gC g 0) (n, .inl (upd f i v))) → WPe g K en H1 → va_S (AA g) s.heap H1 locs1 → W p l e R s m args below meth c H1 locs1 cells slots Q (F0 m (pc + 1) ls rest)) : W p l e R s m args below meth c H locs cells slots Q (F0 m pc ls (.int v :: .int x :: .ref a :: rest)) := by
  obtain ⟨hx1, hb, hml, hown, hG⟩ := hC
  subst hx
  have hin : vp_in (nI i) n := vp_in_nI hi hn
  refine W.iast hx1 hb ha ((hE.1.2 0 _ rfl).1 n (fun j => .int (f j))) (fun q => by cases q) (by show ¬ (nI i < 0 ∨ (arrV _ _ _).slots.size ≤ _); rw [arrV_size]; exact hin) rfl rfl hdg fun H1 z1 z2 z3 => ?_
  refine kk H1 _ z2 ?_ (fun j hj => (hP j hj).kept (z3 _ (hab j hj))) (hS.put z2 z3 hA)
  rw [z1, vp_cell_i, vp_cell_i, arrV_store, nI_clamp (by omega)]
  congr 2
  funext q
  by_cases hq : q = i
  · subst hq
    simp [updV, upd]
  · simp [updV, upd, hq]
theorem m_ialR (hC : CallFix p m c cc nL s args LG own) (hE : Ev g s) {a n : Nat} {f : Nat → Int32} (ha : H[a]? = some (vp_cell (gC g 0) (n, .inl f))) {x : Int32} (i : Nat) (hx : x = nI i) (hi : i < n) (hn : n < 2 ^ 31) (hdg : decode cc pc = .ok (.iaload, 1))
    (kk : W p l e R s m args below meth c H locs cells slots Q (F0 m (pc + 1) ls (.int (f i) :: rest))) : W p l e R s m args below meth c H locs cells slots Q (F0 m pc ls (.int x :: .ref a :: rest)) := by
  obtain ⟨hx1, hb, hml, hown, hG⟩ := hC
  subst hx
  exact W.iald (v := .int (f i)) hx1 hb ha ((hE.1.2 0 _ rfl).1 n (fun j => .int (f j))) (fun q => by cases q) (by show ¬ (nI i < 0 ∨ (arrV _ _ _).slots.size ≤ _); rw [arrV_size]; exact vp_in_nI hi hn) (by show (arrV _ _ _).slots[_]? = _; rw [nI_clamp (by omega), arrV_read _ _ hi]) rfl rfl hdg kk
variable {y : MethodName} {b1 : ByteArray} {n1 na index : Nat} {R1 : Room} {ret : Option FieldType} {Qc : Array Value → State → Outcome → State → Prop} {XC : String → State → State → Prop}
theorem run_VX (hC : CallFix p m c cc nL s args LG own) (hE : Ev g s) (hP : WPe g K en H) (hS : va_S (AA g) s.heap H locs) {k : Key} {As : List Value} (hM : vx_Met l y (wy y b1 n1 ret) R1 (Pd g K en (.ref (ad g k) :: As)) Qc XC R1.cells R1.slots (AA g)) {C : String} (hcal : CalV C y b1 n1 ret na) (hlink : Cond.methodLink own index y ∈ LG) (hR : R1.frames + 1 ≤ R.frames ∧ 8 + (n1 + 11) + R1.locals ≤ R.locals) (hk : K k) {ci N : Nat} {T : u_T} {fs : List Value} (he : en k = .inr (ci, fs)) (hc : cls7[ci]? = some (C, T, N)) (hlen : As.length = na) (hst : st = As.reverse ++ .ref (ad g k) :: rest) (hroom : (rest.map fun v => v.category).sum ≤ 8) (hls : ls.size = nL) (hf : cells + R1.cells ≤ R.cells ∧ slots + R1.slots ≤ R.slots) (hdg : decode cc pc = .ok (.invokevirtual index, 3)) :
    vx_Run p l e R s m args below meth c H locs cells slots R1.cells R1.slots (F0 m pc ls st) rest (Qc (Value.ref (ad g k) :: As).toArray) XC (AA g) := by
  obtain ⟨a1, a2, a3, a4, a5⟩ := hcal
  exact vx_runV hC hM (cwV na hC.2.2.2.2 (LG_V hlink a1 a2 a3 a4) rfl rfl rfl a5 hR) (preV_of hE hS hP hk he hc) rfl hlen hls hst (lv_room hroom) hdg hf
theorem on_x {E : String} {mc ms : Nat} {a : Array Value} (hr : vx_Run p l e R s m args below meth c H locs cells slots mc ms (F0 m pc ls st) rest (va_Qi (fun (_ : Int32) (_ : Unit) => False) (fun _ _ => True) (AA g) a) (XCe g K en E) (AA g)) (hS : va_S (AA g) s.heap H locs)
    (kx : ∀ (ce : Cell) (q9 : Addr) (H1 : Heap) (locs1 : List Loc), WPe g K en H1 → va_S (AA g) s.heap H1 locs1 → H1[q9]? = some ce → ce.vm = .none → s.vm.findClass E = some ce.cls → vx_W p l e R s m args below meth c H1 locs1 (cells + mc) (slots + ms) Q (F0 m pc ls rest) q9) : W p l e R s m args below meth c H locs cells slots Q (F0 m pc ls st) := by
  refine vx_calli hr hS (fun q _ h => h) (fun q h => h) (fun q _ h => h) (fun E1 ce q9 u t H1 locs1 ht hvm hp hB hz hk hS1 h1 h2 h3 => ?_) (fun r1 u t H1 locs1 ht hvm hw hB hz hk hS1 => hw.elim)
  obtain ⟨rfl, hW⟩ := hB
  rw [ht] at hW
  exact kx ce q9 H1 locs1 hW hS1 h1 h2 h3
end MR
/-- which cells stay where they are -/
def LK (k : Key) : Prop := k.1 ≤ 22 ∨ k.1 = 26 ∨ k.1 = 30
def Gk (g g' : Gm) : Prop := g'.1 = g.1 ∧ bs g' = bs g ∧ ∀ k, LK k → ad g' k = ad g k ∧ (lk g k → lk g' k)
theorem Gk.rf {g : Gm} : Gk g g := ⟨rfl, rfl, fun _ _ => ⟨rfl, fun h => h⟩⟩
theorem Gk.tr {g h k : Gm} (a : Gk g h) (b : Gk h k) : Gk g k := ⟨b.1.trans a.1, b.2.1.trans a.2.1, fun q hq => ⟨(b.2.2 q hq).1.trans (a.2.2 q hq).1, fun z => (b.2.2 q hq).2 ((a.2.2 q hq).2 z)⟩⟩
/-- lake and picture are one, and sound -/
def LI (n : Nat) (g : Gm) (M : Mem) : Prop := M 2 = M 0 ∧ Lw n (M 0) ∧ SimL g (M 0)
def Ua (n : Nat) (g : Gm) (M : Mem) (u : Gm × Mem) : Prop := Gk g u.1 ∧ u.2 3 = M 3 ∧ LI n u.1 u.2 ∧ IJ u.1 (KK u.1)
def QA (n : Nat) (g : Gm) (M : Mem) (o : Nat → Int64) : Array Value → State → Outcome → State → Prop := va_Qi (fun (r : Int32) (u : Gm × Mem) => r = 1 ∧ Ua n g M u) (fun u t => WP u.1 u.2 o t.heap) (AA g)
abbrev RA : Room := { frames := 7, cells := 3, slots := 25, locals := 130 }
def HHt : List (Nat × Nat × Nat × Nat) := [((365 : Nat), (374 : Nat), (377 : Nat), (50 : Nat)), ((508 : Nat), (522 : Nat), (525 : Nat), (50 : Nat)), ((608 : Nat), (621 : Nat), (624 : Nat), (50 : Nat)), ((745 : Nat), (755 : Nat), (758 : Nat), (50 : Nat))]
abbrev av3 (g : Gm) (x : Int32) : List Value := [.ref (ad g (8, 0, 0)), .ref (ad g (20, 0, 0)), .int x]
def AF (p : Program) (l : Launch) (s : State) (m : MethodId) (meth : Method) (c : Code) (g : Gm) (x : Int32) : Prop := CallFix p m c cL_act 11 s (av3 g x).toArray LG RL ∧ Ev g s ∧ meth.sig.returnType = some .boolean ∧ meth.locks = false ∧ c.exceptionTable.toList = tableOf HHt ∧ IJ g (KK g) ∧ l.stackTraces = false
abbrev WA (p : Program) (l : Launch) (e : Jvm.Env) (s : State) (m : MethodId) (below : List Frame) (meth : Method) (c : Code) (g : Gm) (x : Int32) (n : Nat) (M : Mem) (o : Nat → Int64) (H : Heap) (locs : List Loc) (cells slots : Nat) (fr : JFrame) : Prop := W p l e RA s m (av3 g x).toArray below meth c H locs cells slots (vx_MQ below (QA n g M o) (vx_X (fun (_ : Unit) => True) (fun _ _ _ => False) (AA g)) (av3 g x).toArray s 3 25 (AA g)) fr
section AS
variable {p : Program} {l : Launch} {e : Jvm.Env} {s : State} {m : MethodId} {below : List Frame} {meth : Method} {c : Code} {g : Gm} {x : Int32} {n : Nat} {M : Mem} {o : Nat → Int64} {H : Heap} {locs : List Loc} {cells slots : Nat} {pc : Nat} {ls : Array Slot}
theorem a_end (A : AF p l s m meth c g x) {u : Gm × Mem} (hc : cells ≤ 3) (hs : slots ≤ 25) (hP : WP u.1 u.2 o H) (hS : va_S (AA g) s.heap H locs) (hU : Ua n g M u) {v : Int32} (hv : v = 1) (hdg : decode cL_act pc = .ok (.ireturn, 1)) : WA p l e s m below meth c g x n M o H locs cells slots (F0 m pc ls [.int v]) := by
  obtain ⟨hC, hE, hr, hlk, htab, hI, hl0⟩ := A
  obtain ⟨hx, hb, hml, hown, hG⟩ := id hC
  subst hv
  refine W.widen (k := 3) (n := 25) hc hs ?_
  exact vx_ret (W.zret hx hb hr rfl (fun t ht hW => ⟨⟨1, u, rfl, ⟨rfl, hU⟩, by show WP u.1 u.2 o t.heap; rw [ht]; exact hP⟩, hS.F ht⟩) hS.2.2 hdg hlk)
theorem Ua_g {v : Vw} (hI : IJ g (KK g)) (hL : SimL g v) {v' : Vw} (hW : Lw n v') (hc : Cn v v') : Ua n g M (g, setR (setR M 2 v') 0 v') := by
  have e0 : setR (setR M 2 v') 0 v' 0 = v' := setR_same _ _ _
  have e2 : setR (setR M 2 v') 0 v' 2 = v' := by rw [setR_ne _ _ (by decide), setR_same]
  refine ⟨Gk.rf, ?_, ⟨?_, ?_, ?_⟩, hI⟩
  · show setR (setR M 2 v') 0 v' 3 = _
    rw [setR_ne _ _ (by decide), setR_ne _ _ (by decide)]
  · show setR (setR M 2 v') 0 v' 2 = setR (setR M 2 v') 0 v' 0
    rw [e0, e2]
  · show Lw n (setR (setR M 2 v') 0 v' 0)
    rw [e0]; exact hW
  · show SimL g (setR (setR M 2 v') 0 v' 0)
    rw [e0]; exact hL.cn hc
end AS
theorem setR_id {M : Mem} {r : Nat} {v : Vw} (h : M r = v) : setR M r v = M := by rw [← h]; exact setR_self _ _
def aF (x : Int32) : Nat := if bel (x >>> (8 &&& 31)) 3 = 0 then bel (x >>> (4 &&& 31)) 9 else 3 + bel (x >>> (5 &&& 31)) 4
def bF (x : Int32) : Nat := if bel (x >>> (9 &&& 31)) 3 = 0 then bel (x >>> (6 &&& 31)) 9 else 3 + bel (x >>> (7 &&& 31)) 4
theorem aF_lt {x : Int32} : aF x < 9 := by
  unfold aF
  split
  · exact bel_lt (by decide)
  · have := bel_lt (v := x >>> (5 &&& 31)) (n := 4) (by decide)
    omega
theorem bF_lt {x : Int32} : bF x < 9 := by
  unfold bF
  split
  · exact bel_lt (by decide)
  · have := bel_lt (v := x >>> (7 &&& 31)) (n := 4) (by decide)
    omega
def eF (x : Int32) : Nat := if bel (x >>> (10 &&& 31)) 2 = 0 then bel (x >>> (3 &&& 31)) 61 else bel (x >>> (3 &&& 31)) 25
def dF (x : Int32) : Nat := if bel (x >>> (11 &&& 31)) 3 = 0 then bel (x >>> (5 &&& 31)) 10 else bel (x >>> (5 &&& 31)) 4
theorem eF_le {x : Int32} : eF x ≤ 60 := by
  unfold eF
  split
  · have := bel_lt (v := x >>> (3 &&& 31)) (n := 61) (by decide)
    omega
  · have := bel_lt (v := x >>> (3 &&& 31)) (n := 25) (by decide)
    omega
theorem dF_lt {x : Int32} : dF x < 10 := by
  unfold dF
  split
  · exact bel_lt (by decide)
  · have := bel_lt (v := x >>> (5 &&& 31)) (n := 4) (by decide)
    omega
theorem bel_0 {v : Int32} {n : Nat} (hn : 0 < n) (hn2 : n < 2 ^ 31) (h : ¬ nI (bel v n) = 0) : ¬ bel v n = 0 := fun z => h (by rw [z]; rfl)
theorem bel_1 {v : Int32} {n : Nat} (hn : 0 < n) (hn2 : n < 2 ^ 31) (h : nI (bel v n) = 0) : bel v n = 0 := nI_inj (b := 0) (Nat.lt_trans (bel_lt hn) hn2) (by decide) h
theorem cell_in {a b : Nat} (ha : a < 9) (hb : b < 9) : isCell (nI a) (nI b) = true := by
  unfold isCell
  rw [in_nI (n := 9) ha (by decide) (by decide), in_nI (n := 9) hb (by decide) (by decide)]; rfl
def tF (x : Int32) : Nat := bel (x >>> (3 &&& 31)) 7
def fF (x : Int32) : Int32 := if bel (x >>> (9 &&& 31)) 3 = 0 then nI (bel (x >>> (5 &&& 31)) 41) - 20 else nI (bel (x >>> (5 &&& 31)) 7) - 2
theorem fr41 : ∀ j, j < 41 → isIn (nI j - 20) (-20) 20 = true := by decide +kernel
theorem fr7 : ∀ j, j < 7 → isIn (nI j - 2) (-20) 20 = true := by decide +kernel
theorem fF_in {x : Int32} : isIn (fF x) (-20) 20 = true := by
  unfold fF
  split
  · exact fr41 _ (bel_lt (by decide))
  · exact fr7 _ (bel_lt (by decide))
