/-! The law and its builder call act and cell. -/
theorem LG_W {own : String} {idx : Nat} {y : MethodName} {b : ByteArray} {n : Nat} {ret : Option FieldType} {hh : List (Nat × Nat × Nat × Nat)} (h1 : Cond.methodLink own idx y ∈ LG) (h2 : Cond.static y ∈ LG) (h4 : Cond.initialized y.cls ∈ LG) (h5 : Cond.codeWith y b n ret hh ∈ LG) : GoodIn LG (va_wsS own idx y (Cond.codeWith y b n ret hh :: LG)) := by
  intro w hw
  unfold va_wsS at hw
  rcases List.mem_append.mp hw with hw | hw
  · simp only [List.mem_cons, List.not_mem_nil, or_false] at hw
    rcases hw with rfl | rfl | rfl
    · exact LG_self _ h1
    · exact LG_self _ h2
    · exact LG_self _ h4
  · exact (List.mem_cons.mp hw).elim (fun e => by rw [e]; exact LG_self _ h5) (LG_self w)
theorem act_d : yL_act.cls ≠ "java/lang/invoke/MethodHandle" ∧ yL_act.cls ≠ "java/lang/invoke/VarHandle" ∧ (parseMethodDescriptor yL_act.desc).map (fun d => d.parameters.length) = some 3 := by decide +kernel
section LC
variable {p : Program} {l : Launch} {e : Jvm.Env} {R : Room} {s : State} {m : MethodId} {args : Array Value} {below : List Frame} {meth : Method} {c : Code} {H : Heap} {locs : List Loc} {cells slots : Nat} {Q : State → Prop}
variable {cc : ByteArray} {nL pc : Nat} {ls : Array Slot} {rest : List Value} {g : Gm}
theorem on_act (hl0 : l.stackTraces = false) (hC : CallFix p m c cc nL s args LG RL) (hE : Ev g s) (hI : IJ g (KK g)) {M : Mem} {o : Nat → Int64} {n : Nat} (hU : LI n g M) (hP : WP g M o H) (hS : va_S (AA g) s.heap H locs) {x : Int32} (hR : 8 ≤ R.frames ∧ 160 ≤ R.locals) (hroom : (rest.map fun v => v.category).sum ≤ 8) (hls : ls.size = nL) (hf : cells + 3 ≤ R.cells ∧ slots + 25 ≤ R.slots) (hdg : decode cc pc = .ok (.invokestatic 78, 3))
    (kk : ∀ (u : Gm × Mem) (H1 : Heap) (locs1 : List Loc), Ua n g M u → WP u.1 u.2 o H1 → va_S (AA g) s.heap H1 locs1 → W p l e R s m args below meth c H1 locs1 (cells + 3) (slots + 25) Q (F0 m (pc + 3) ls (.int 1 :: rest))) : W p l e R s m args below meth c H locs cells slots Q (F0 m pc ls (.int x :: .ref (ad g (20, 0, 0)) :: .ref (ad g (8, 0, 0)) :: rest)) := by
  refine vx_calli (vx_runSX (As := av3 g x) hC (c_act l hl0 hI (o := o) hU x) (vx_cwSW (maxL := 11) (ret := some .boolean) (hh := HHt) 3 hC.2.2.2.2 (LG_W w_561 w_562 w_0 w_563) rfl rfl rfl act_d ⟨by show 7 + 1 ≤ R.frames; omega, by show 8 + (11 + 11) + 130 ≤ R.locals; omega⟩) ⟨Pd.blind, fun U hU hW => ⟨rfl, hE.call hS hU hW, by rw [hU]; exact hP⟩⟩ rfl rfl hls rfl (lv_room hroom) hdg hf) hS (fun q _ h => h) (fun q h => h) (fun q _ h => h) (fun E1 ce q9 u t H1 locs1 ht hvm hp hB hz hk hS1 h1 h2 h3 => hB.elim) (fun r1 u t H1 locs1 ht hvm hw hB hz hk hS1 => ?_)
  obtain ⟨rfl, hw⟩ := hw
  rw [ht] at hB
  exact kk u H1 locs1 hw hB hS1
theorem on_cell (hC : CallFix p m c cc nL s args LG RL) (hE : Ev g s) {K : Key → Prop} {en : Key → va_E} (hP : WPe g K en H) (hS : va_S (AA g) s.heap H locs) {b L : Nat} {xs : Nat → Int32} (hX : va_X b L xs s s.heap) (hb : ¬ AA g b) (hL : L < 2 ^ 30) (k : Nat) (hk : k < 2 ^ 30) {x : Int32} (hx : x = nI k) (hR : 1 ≤ R.frames ∧ 21 ≤ R.locals) (hroom : (rest.map fun v => v.category).sum ≤ 8) (hls : ls.size = nL) (hf : cells ≤ R.cells ∧ slots ≤ R.slots) (hdg : decode cc pc = .ok (.invokestatic 73, 3))
    (kk : ∀ (H1 : Heap) (locs1 : List Loc), WPe g K en H1 → va_S (AA g) s.heap H1 locs1 → W p l e R s m args below meth c H1 locs1 cells slots Q (F0 m (pc + 3) ls (.int (scr L xs k) :: rest))) : W p l e R s m args below meth c H locs cells slots Q (F0 m pc ls (.int x :: .ref b :: rest)) := by
  subst hx
  obtain ⟨a1, a2, a3, a5⟩ := cal_L_cell
  refine on_i (cells := cells) (slots := slots) (va_runS (As := [.ref b, .int (nI k)]) hC (c_cellL (l := l) (g := g) (en := en) (K := K) (b := b) (xs := xs) hL k hk) (va_cwS 2 hC.2.2.2.2 (LG_S w_557 a1 a2 a3) rfl rfl rfl a5 ⟨hR.1, hR.2⟩) ⟨Px.blind, fun U hU hW => ⟨⟨rfl, hE.call hS hU hW, by rw [hU]; exact hP⟩, (hX.kept (H1 := U.heap) (by rw [hU]; exact hS.2.1 b hX.lt hb)).moved hW.alike, hb⟩⟩ rfl rfl hls rfl (lv_room hroom) hdg hf) hS kk
end LC
