/-! The reference's side: what its states share; a row of numbers copied. -/
def shc : Nat → Nat → Bool := fun c i => match c with
  | 1 => true
  | 2 => true
  | 3 => true
  | 4 => true
  | 6 => true
  | 7 => true
  | 14 => true
  | 16 => decide (i < 3)
  | _ => false
/-- the shared numbers of the state r are those that the reference holds -/
def Sh (M : Mem) (r : Nat) (v : Vw) : Prop := ∀ c i, shc c i = true → setR M r v 2 c i = v c i
theorem sh_2 {M : Mem} {v : Vw} : Sh M 2 v := fun c i _ => by rw [setR_same]
theorem Sh.of {M : Mem} {r : Nat} {v u : Vw} (h : Sh M r v) (e : ∀ c i, shc c i = true → u c i = v c i) : Sh M r u := by
  intro c i hs
  by_cases hr : 2 = r
  · subst hr; rw [setR_same]
  · have := h c i hs
    rw [setR_ne _ _ hr] at this ⊢
    rw [this, e c i hs]
theorem Sh.up {M : Mem} {r : Nat} {v : Vw} (h : Sh M r v) {c i : Nat} {x : Int32} (hc : shc c i = false) : Sh M r (up2 v c i x) := by
  refine h.of fun c' i' hs => ?_
  unfold up2
  rw [if_neg]
  rintro ⟨rfl, rfl⟩
  rw [hc] at hs
  cases hs
theorem sh_ne {c i : Nat} (h : shc c i = true) : c ≠ 0 ∧ c ≠ 5 ∧ c ≠ 8 ∧ c ≠ 9 ∧ c ≠ 10 ∧ c ≠ 11 ∧ c ≠ 12 ∧ c ≠ 13 ∧ c ≠ 15 ∧ ¬ (c = 16 ∧ i = 3) ∧ ¬ (c = 16 ∧ i = 4) := by
  refine ⟨?_, ?_, ?_, ?_, ?_, ?_, ?_, ?_, ?_, ?_, ?_⟩ <;> first | (rintro ⟨rfl, rfl⟩; exact absurd h (by decide)) | (rintro rfl; exact Bool.noConfusion h)
theorem sh_lur {k : Nat} {v : Vw} {c i : Nat} (h : shc c i = true) : lur k v c i = v c i := lur_ne (sh_ne h).1
theorem sh_spr {k : Nat} {v : Vw} {c i : Nat} (h : shc c i = true) : spr k v c i = v c i := spr_ne (sh_ne h).1 (sh_ne h).2.2.2.1
theorem sh_stp {w q : Nat} {v : Vw} {c i : Nat} (h : shc c i = true) : stp w q v c i = v c i := stp_ne (sh_ne h).2.2.2.2.2.2.1 (sh_ne h).2.2.2.2.2.2.2.1
theorem sh_fin1 {w q d k : Nat} {v : Vw} {c i : Nat} (h : shc c i = true) : fin1 w q d k v c i = v c i := fin1_ne (sh_ne h).1 (sh_ne h).2.2.2.1 (sh_ne h).2.2.2.2.2.1 (sh_ne h).2.2.2.2.2.2.2.2.1
theorem sh_gua {w : Nat} {v : Vw} {c i : Nat} (h : shc c i = true) : gua w v c i = v c i := gua_ne (sh_ne h).1 (sh_ne h).2.2.2.1 (sh_ne h).2.2.2.2.2.1 (sh_ne h).2.2.2.2.2.2.1 (sh_ne h).2.2.2.2.2.2.2.1 (sh_ne h).2.2.2.2.2.2.2.2.1
theorem sh_kep {k : Nat} {v : Vw} {c i : Nat} (h : shc c i = true) : kep k v c i = v c i := kep_ne (sh_ne h).2.2.2.2.1
theorem sh_bre {k : Nat} {v : Vw} {c i : Nat} (h : shc c i = true) : bre k v c i = v c i := bre_ne (sh_ne h).1
theorem sh_frz {v : Vw} {c i : Nat} (h : shc c i = true) : frz v c i = v c i := frz_ne (sh_ne h).2.1 (sh_ne h).2.2.1 (sh_ne h).2.2.2.2.2.2.2.2.2.1
theorem sh_nig {v : Vw} {c i : Nat} (h : shc c i = true) : nig v c i = v c i := by
  unfold nig up2
  rw [if_neg (sh_ne h).2.2.2.2.2.2.2.2.2.2]
theorem Sh.it {M : Mem} {r : Nat} {v : Vw} (h : Sh M r v) {f : Nat → Vw → Vw} (e : ∀ k u c i, shc c i = true → f k u c i = u c i) (n : Nat) : Sh M r (it f n v) := h.of fun c i hs => it_keep (fun k u => e k u c i hs) n v
theorem sh_day {v : Vw} {c i : Nat} (h : shc c i = true) : day v c i = v c i := by
  unfold day pre1
  rw [sh_nig h, sh_frz h]
  unfold breA kepA sen spe lam
  rw [it_keep (fun _ _ => sh_bre h), it_keep (fun _ _ => sh_kep h), it_keep (fun _ _ => sh_gua h), it_keep (fun _ _ => sh_spr h), it_keep (fun _ _ => sh_lur h)]
theorem Sh.days {M : Mem} {r : Nat} {v : Vw} (h : Sh M r v) (n : Nat) : Sh M r (days n v) := h.it (fun _ _ _ _ hs => sh_day hs) n
section MCP
variable {p : Program} {l : Launch} {e : Jvm.Env} {R : Room} {s : State} {m : MethodId} {args : Array Value} {below : List Frame} {meth : Method} {c : Code} {H : Heap} {locs : List Loc} {cells slots : Nat} {Q : State → Prop}
variable {cc : ByteArray} {nL pc : Nat} {ls : Array Slot} {rest : List Value} {own : String} {g : Gm} {K : Key → Prop} {en : Key → va_E}
theorem m_alen (hC : CallFix p m c cc nL s args LG own) (hE : Ev g s) (hP : WPe g K en H) {k : Key} (hk : K k) {n : Nat} {f : Nat → Int32} (he : en k = .inl (gC g 0, n, .inl f)) {v : Int32} (hv : nI n = v) (hdg : decode cc pc = .ok (.arraylength, 1))
    (kk : W p l e R s m args below meth c H locs cells slots Q (F0 m (pc + 1) ls (.int v :: rest))) : W p l e R s m args below meth c H locs cells slots Q (F0 m pc ls (.ref (ad g k) :: rest)) := by
  obtain ⟨hx1, hb, hml, hown, hG⟩ := hC
  exact va_alen (D := gD g) (ty := .int) (x := (n, .inl f)) hx1 hb hE.1 (hP.one hk) 0 0 (by rw [he]; rfl) rfl hv hdg kk
theorem m_copy (hC : CallFix p m c cc nL s args LG own) (hE : Ev g s) (hI : IJ g K) (hP : WPe g K en H) (hS : va_S (AA g) s.heap H locs) {index : Nat} (hlink : Cond.methodLink own index arraycopyName ∈ LG) (hnat : Cond.native arraycopyName ∈ LG) (hstat : Cond.static arraycopyName ∈ LG) (hini : Cond.initialized "java/lang/System" ∈ LG) {k0 k1 : Key} (hk0 : K k0) (hk1 : K k1) {n : Nat} {f h : Nat → Int32} (he0 : en k0 = .inl (gC g 0, n, .inl f)) (he1 : en k1 = .inl (gC g 0, n, .inl h)) (hn : n < 2 ^ 31) (hls : ls.size = nL)
    (hframes : 1 ≤ R.frames) (hlocals : (rest.map fun v => v.category).sum + (nativeFrameWords "java/lang/System" "arraycopy" 5 + 11) ≤ R.locals) {en' : Key → va_E} (h1 : en' k1 = .inl (gC g 0, n, .inl (va_cpy f h 0 0 n))) (h2 : ∀ j, K j → j ≠ k1 → en' j = en j) (hdg : decode cc pc = .ok (.invokestatic index, 3))
    (kk : ∀ (H1 : Heap) (locs1 : List Loc), WPe g K en' H1 → va_S (AA g) s.heap H1 locs1 → W p l e R s m args below meth c H1 locs1 cells slots Q (F0 m (pc + 3) ls rest)) : W p l e R s m args below meth c H locs cells slots Q (F0 m pc ls (.int (nI n) :: .int 0 :: .ref (ad g k1) :: .int 0 :: .ref (ad g k0) :: rest)) := by
  obtain ⟨hx1, hb, hml, hown, hG⟩ := hC
  have nn : (nI n).toInt = (n : Int) := nI_toInt hn
  have n0 : ¬ nI n < 0 := nI_pos hn
  have nc : (nI n).toNatClampNeg = n := nI_clamp hn
  have z0 : (0 : Int32).toInt = 0 := by decide
  have zc : (0 : Int32).toNatClampNeg = 0 := by decide
  intro T hT X
  have hc0 := hP k0 hk0
  rw [he0] at hc0
  have hc1 := hP k1 hk1
  rw [he1] at hc1
  have hc0 : H[ad g k0]? = some (vp_cell (gC g 0) (n, .inl f)) := hc0
  have hc1 : H[ad g k1]? = some (vp_cell (gC g 0) (n, .inl h)) := hc1
  obtain ⟨-, y0, hy0, cm0, hyy0⟩ := (hE.1.2 0 _ rfl).1 n (fun j => .int (f j))
  obtain ⟨-, y1, hy1, cm1, hyy1⟩ := (hE.1.2 0 _ rfl).1 n (fun j => .int (h j))
  obtain ⟨vm', X', step⟩ := X.arraycopy hx1 hown (hG _ hlink) (hG _ hnat) (hG _ hstat) (hG _ hini) (src := ad g k0) (dst := ad g k1) (cs := vp_cell (gC g 0) (n, .inl f)) (cd := vp_cell (gC g 0) (n, .inl h)) (srcPos := 0) (destPos := 0) (n := nI n) (by rw [hT]; exact hc0) (by rw [hT]; exact hc1)
    (fun _ h => by cases h) (fun _ h => by cases h) (fun h => by cases h) (fun h => by cases h) hy0 hy1 hyy0 hyy1 rfl (by decide) (by decide) n0
    (by rw [z0, nn]; show ¬ _ > ((arrV (gC g 0) n (fun j => .int (f j))).slots.size : Int); rw [arrV_size]; omega)
    (by rw [z0, nn]; show ¬ _ > ((arrV (gC g 0) n (fun j => .int (h j))).slots.size : Int); rw [arrV_size]; omega)
    (fun vm₁ _ i hi => by
      rw [nc] at hi
      have q : (vp_cell (gC g 0) (n, .inl f)).slots.getD ((0 : Int32).toNatClampNeg + i) .null = .int (f i) := by
        show (arrV (gC g 0) n (fun j => .int (f j))).slots.getD _ _ = _
        rw [zc, Nat.zero_add, Array.getD_eq_getD_getElem?, arrV_read _ _ (by omega)]
        rfl
      refine ⟨?_, ?_⟩
      · rw [q]; rfl
      · rw [q]; exact trivial)
    (g := F0 m pc ls (.int (nI n) :: .int 0 :: .ref (ad g k1) :: .int 0 :: .ref (ad g k0) :: rest)) rfl (by rw [hml]; exact hls) (rest := rest) rfl (by rw [hb]; exact hdg) hframes (by show 2 * 0 + _ + _ ≤ _; omega)
  have e1 : copied (vp_cell (gC g 0) (n, .inl f)) (vp_cell (gC g 0) (n, .inl h)) 0 0 (nI n) = vp_cell (gC g 0) (n, .inl (va_cpy f h (0 : Int32).toNatClampNeg (0 : Int32).toNatClampNeg (nI n).toNatClampNeg)) := va_copied (fun z => .int z) (gC g 0) (gC g 0) f h (by rw [zc, nc]; omega)
  rw [zc, nc] at e1
  rw [e1] at X' step
  have hl : ad g k1 < H.size := (Array.getElem?_eq_some_iff.mp hc1).1
  have hheap : ((T.setVm vm').setCell (ad g k1) (vp_cell (gC g 0) (n, .inl (va_cpy f h 0 0 n)))).heap = H.setIfInBounds (ad g k1) (vp_cell (gC g 0) (n, .inl (va_cpy f h 0 0 n))) := by rw [← hT]; rfl
  have oq : ∀ q : Nat, q ≠ ad g k1 → (H.setIfInBounds (ad g k1) (vp_cell (gC g 0) (n, .inl (va_cpy f h 0 0 n))))[q]? = H[q]? := fun q hq => by simp [Array.getElem?_setIfInBounds, Ne.symm hq]
  obtain ⟨t, a1, b1⟩ := kk _ _ (fun j hj => by
      by_cases hjk : j = k1
      · subst hjk
        rw [h1]
        show (H.setIfInBounds (ad g j) _)[ad g j]? = some _
        simp [Array.getElem?_setIfInBounds, hl]
      · rw [h2 j hj hjk]
        exact (hP j hj).kept (oq _ (fun z => hjk (hI.1 j k1 hj hk1 z)))) ⟨by simp; exact hS.1, fun q g1 g2 => by
      rw [oq q (fun z => g2 (by rw [z]; exact hI.2 k1 hk1))]
      exact hS.2.1 q g1 g2, fun q hq => by
      rcases List.mem_append.mp hq with z | z
      · exact hS.2.2 q z
      · obtain ⟨z1, -, hz⟩ := List.mem_map.mp z
        rw [← hz]
        exact hI.2 k1 hk1⟩ _ hheap X'
  exact ⟨t, step t a1, b1⟩
end MCP

theorem e_10 {g : Gm} {M : Mem} {v : Vw} {o : Nat → Int64} : ent g (setR M 2 v) o (10, 0, 0) = .inr (6, [.int (v 16 5), .ref (ad g (4, 2, 1)), .ref (ad g (4, 2, 2)), .int (v 16 0), .ref (ad g (4, 2, 3)), .ref (ad g (4, 2, 4)), .int (v 16 1), .ref (ad g (4, 2, 6)), .ref (ad g (4, 2, 7)), .int (v 16 2), .ref (ad g (4, 2, 14)), .ref (ad g (9, 2, 0)), .ref (ad g (9, 3, 0))]) := by
  show Sum.inr _ = _
  simp only [setR_same]
theorem p_10_0 {g : Gm} {M : Mem} {v : Vw} {o : Nat → Int64} {x : Int32} : ent g (setR M 2 (up2 v 16 5 x)) o (10, 0, 0) = .inr (6, ([.int (v 16 5), .ref (ad g (4, 2, 1)), .ref (ad g (4, 2, 2)), .int (v 16 0), .ref (ad g (4, 2, 3)), .ref (ad g (4, 2, 4)), .int (v 16 1), .ref (ad g (4, 2, 6)), .ref (ad g (4, 2, 7)), .int (v 16 2), .ref (ad g (4, 2, 14)), .ref (ad g (9, 2, 0)), .ref (ad g (9, 3, 0))] : List Value).set 0 (.int x)) := by
  rw [e_10]
  simp [up2]
theorem p_10_3 {g : Gm} {M : Mem} {v : Vw} {o : Nat → Int64} {x : Int32} : ent g (setR M 2 (up2 v 16 0 x)) o (10, 0, 0) = .inr (6, ([.int (v 16 5), .ref (ad g (4, 2, 1)), .ref (ad g (4, 2, 2)), .int (v 16 0), .ref (ad g (4, 2, 3)), .ref (ad g (4, 2, 4)), .int (v 16 1), .ref (ad g (4, 2, 6)), .ref (ad g (4, 2, 7)), .int (v 16 2), .ref (ad g (4, 2, 14)), .ref (ad g (9, 2, 0)), .ref (ad g (9, 3, 0))] : List Value).set 3 (.int x)) := by
  rw [e_10]
  simp [up2]
theorem p_10_6 {g : Gm} {M : Mem} {v : Vw} {o : Nat → Int64} {x : Int32} : ent g (setR M 2 (up2 v 16 1 x)) o (10, 0, 0) = .inr (6, ([.int (v 16 5), .ref (ad g (4, 2, 1)), .ref (ad g (4, 2, 2)), .int (v 16 0), .ref (ad g (4, 2, 3)), .ref (ad g (4, 2, 4)), .int (v 16 1), .ref (ad g (4, 2, 6)), .ref (ad g (4, 2, 7)), .int (v 16 2), .ref (ad g (4, 2, 14)), .ref (ad g (9, 2, 0)), .ref (ad g (9, 3, 0))] : List Value).set 6 (.int x)) := by
  rw [e_10]
  simp [up2]
theorem p_10_9 {g : Gm} {M : Mem} {v : Vw} {o : Nat → Int64} {x : Int32} : ent g (setR M 2 (up2 v 16 2 x)) o (10, 0, 0) = .inr (6, ([.int (v 16 5), .ref (ad g (4, 2, 1)), .ref (ad g (4, 2, 2)), .int (v 16 0), .ref (ad g (4, 2, 3)), .ref (ad g (4, 2, 4)), .int (v 16 1), .ref (ad g (4, 2, 6)), .ref (ad g (4, 2, 7)), .int (v 16 2), .ref (ad g (4, 2, 14)), .ref (ad g (9, 2, 0)), .ref (ad g (9, 3, 0))] : List Value).set 9 (.int x)) := by
  rw [e_10]
  simp [up2]
