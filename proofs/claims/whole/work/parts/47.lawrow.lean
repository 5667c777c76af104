/-! The law calls its own methods. -/
theorem LG_W {own : String} {idx : Nat} {y : MethodName} {b : ByteArray} {n : Nat} {ret : Option FieldType} {hh : List (Nat × Nat × Nat × Nat)} (h1 : Cond.methodLink own idx y ∈ LG) (h2 : Cond.static y ∈ LG) (h4 : Cond.initialized y.cls ∈ LG) (h5 : Cond.codeWith y b n ret hh ∈ LG) : GoodIn LG (va_wsS own idx y (Cond.codeWith y b n ret hh :: LG)) := by
  intro w hw
  unfold va_wsS at hw
  rcases List.mem_append.mp hw with hw | hw
  · simp only [List.mem_cons, List.not_mem_nil, or_false] at hw
    rcases hw with rfl | rfl | rfl
    · exact LG_self _ h1
    · exact LG_self _ h2
    · exact LG_self _ h4
  · exact (List.mem_cons.mp hw).elim (fun e => by rw [e]; exact LG_self _ h5) (LG_self w)
section LWR
variable {p : Program} {l : Launch} {e : Jvm.Env} {R : Room} {s : State} {m : MethodId} {args : Array Value} {below : List Frame} {meth : Method} {c : Code} {H : Heap} {locs : List Loc} {cells slots : Nat} {Q : State → Prop}
variable {cc : ByteArray} {nL pc : Nat} {ls : Array Slot} {rest st : List Value} {own : String} {g : Gm} {en en' : Key → va_E}
variable {y : MethodName} {b1 : ByteArray} {n1 na index : Nat} {R1 : Room} {hh : List (Nat × Nat × Nat × Nat)} {r : Int32}
theorem run_W (hC : CallFix p m c cc nL s args LG own) (hE : Ev g s) (hN : NC s) (hP : WPe g KK en H) (hS : va_S (AA g) s.heap H locs) {As : List Value} (hM : MW l y b1 n1 hh R1 g en As r en') (hstat : Cond.static y ∈ LG) (hini : Cond.initialized y.cls ∈ LG) (hcode : Cond.codeWith y b1 n1 (some .int) hh ∈ LG) (hlink : Cond.methodLink own index y ∈ LG) (hd : y.cls ≠ "java/lang/invoke/MethodHandle" ∧ y.cls ≠ "java/lang/invoke/VarHandle" ∧ (parseMethodDescriptor y.desc).map (fun d => d.parameters.length) = some na) (hR : R1.frames + 1 ≤ R.frames ∧ 8 + (n1 + 11) + R1.locals ≤ R.locals) (hlen : As.length = na) (hst : st = As.reverse ++ rest) (hroom : (rest.map fun v => v.category).sum ≤ 8) (hls : ls.size = nL) (hf : cells + R1.cells ≤ R.cells ∧ slots + R1.slots ≤ R.slots) (hdg : decode cc pc = .ok (.invokestatic index, 3))
    (kk : ∀ (H1 : Heap) (locs1 : List Loc), WPe g KK en' H1 → va_S (AA g) s.heap H1 locs1 → W p l e R s m args below meth c H1 locs1 (cells + R1.cells) (slots + R1.slots) Q (F0 m (pc + 3) ls (.int r :: rest))) : W p l e R s m args below meth c H locs cells slots Q (F0 m pc ls st) := by
  refine vx_calli (vx_runSX hC hM (vx_cwSW na hC.2.2.2.2 (LG_W hlink hstat hini hcode) rfl rfl rfl hd hR) ⟨Pdn.blind, fun U hU hW => ⟨⟨rfl, hE.call hS hU hW, by rw [hU]; exact hP⟩, hN.moved hW.alike⟩⟩ rfl hlen hls hst (lv_room hroom) hdg hf) hS (fun q _ h => h) (fun q h => h) (fun q _ h => h) (fun E1 ce q9 u t H1 locs1 ht hvm hp hB hz hk hS1 h1 h2 h3 => hB.elim) (fun r1 u t H1 locs1 ht hvm hw hB hz hk hS1 => ?_)
  subst hw
  rw [ht] at hB
  exact kk H1 locs1 hB hS1
end LWR
