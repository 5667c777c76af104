/-! The law's start. -/
theorem XE_ent {g : Gm} {en : Key → va_E} {k : Key} (hk : KK g k) (h : k.1 < 20) : XE g en k = ent g (fun _ => v0) (fun _ => 0) k := by
  have low : ∀ {t a i : Nat}, t < 8 → a < 2 → XE g en (t, a, i) = ent g (fun _ => v0) (fun _ => 0) (t, a, i) := fun {t a i} h ha => by
    have a8 : ((t, a, i) : Key) ≠ (8, 0, 0) := fun z => by have := congrArg Prod.fst z; have : t = 8 := this; omega
    unfold XE
    rw [updE_ne a8]
    have : a = 0 ∨ a = 1 := by omega
    rcases this with z | z
    · subst z
      rw [LkE_no (fun z => by have : (0 : Nat) = 1 := z.1; omega), updE_ne (fun z => by have := congrArg (fun k : Key => k.2.1) z; have : (0 : Nat) = 1 := this; omega), updE_ne a8, LkE_in h]
    · subst z
      rw [LkE_in h]
  obtain ⟨t, a, i⟩ := k
  have h : t < 20 := h
  have ht := KK_tag hk
  have ht : t < 9 ∨ (20 ≤ t ∧ t < 31) := ht
  have ht : t = 0 ∨ t = 1 ∨ t = 2 ∨ t = 3 ∨ t = 4 ∨ t = 5 ∨ t = 6 ∨ t = 7 ∨ t = 8 := by omega
  rcases ht with rfl | rfl | rfl | rfl | rfl | rfl | rfl | rfl | rfl
  · exact low (by decide) hk.1
  · exact low (by decide) hk.1
  · exact low (by decide) hk.1
  · exact low (by decide) hk.1
  · exact low (by decide) hk.1
  · exact low (by decide) hk.1
  · exact low (by decide) hk.1
  · exact low (by decide) hk.1
  · obtain ⟨h1, h2⟩ := (show a = 0 ∧ i = 0 from hk)
    subst h1
    subst h2
    unfold XE
    rw [updE_same]
    rfl
theorem arr_q {C : String} {args : Array Value} {s : State} (h : (Cond.arrayOver (.object C)).before args s = true) : ∃ cA : ClassId, ArrOfT s cA (.object C) ∧ va_RA s cA (.object C) := by
  obtain ⟨comp, cA, k, h1, h2, h3, h4, h5⟩ := Cond.arrayOver_spec h
  exact ⟨cA, fun n z => ⟨fun k h => (by cases h), k, h3, comp, h4⟩, k, comp, h3, h4, h1, h5⟩
theorem arr_int {args : Array Value} {s : State} (h : (Cond.arrayClass .int).before args s = true) : ∃ cA : ClassId, ArrOfT s cA .int ∧ va_RA s cA .int := by
  obtain ⟨cA, k, comp, h1, h2, h3⟩ := Cond.arrayClass_spec h
  exact ⟨cA, fun n z => ⟨fun k h => (by cases h), k, h2, comp, h3⟩, h1⟩
theorem arr_a {args : Array Value} {s : State} (h : (Cond.arrayOver (.array .int)).before args s = true) : ∃ cA : ClassId, ArrOfT s cA (.array .int) ∧ va_RA s cA (.array .int) := by
  obtain ⟨comp, cA, k, h1, h2, h3, h4, h5⟩ := arrayOverA_spec (show (Cond.arrayOver (.array .int)).holds args s none s [] = true from h)
  exact ⟨cA, fun n z => ⟨fun k h => (by cases h), k, h3, comp, h4⟩, h5⟩
theorem str_of {own tx : String} {k : Nat} {args : Array Value} {s : State} (h : (Cond.stringRef own k tx).before args s = true) : ∃ a, vk_R own k tx a s := by
  cases hc : s.vm.findClass own with
  | none => simp [Cond.before, Cond.holds, Cond.value, hc] at h
  | some cur =>
    obtain ⟨_, _, _, a, -, -, -, -, -, h6⟩ := Cond.stringRef_spec hc h
    exact ⟨a, vk_R.of h h6⟩
theorem NN_of {args : Array Value} {s : State} (hts : ∀ w ∈ lw_tbl, w.before args s = true) : NN s := ⟨NN.ofW hts, fun own k tx hm => str_of (hts _ hm)⟩
theorem start_K {args : Array Value} {s : State} (hts : ∀ w ∈ lw_tbl, w.before args s = true) : ∃ (D : va_G) (G : Nat → ClassId), va_K D cls7 [(G 0, .int), (G 1, .object RX0), (G 2, .object RX2), (G 3, .object RX3), (G 4, .array .int)] s := by
  have hG := LG_of hts
  obtain ⟨c0, i0, k0⟩ := u_known (C := RX0) (T := TX0) (N := 3) (n := 3) hG u_0 (hG _ w_32)
  obtain ⟨c1, i1, k1⟩ := u_known (C := RX1) (T := TX1) (N := 11) (n := 11) hG u_1 (hG _ w_25)
  obtain ⟨c2, i2, k2⟩ := u_known (C := RX2) (T := TX2) (N := 6) (n := 6) hG u_2 (hG _ w_56)
  obtain ⟨c3, i3, k3⟩ := u_known (C := RX3) (T := TX3) (N := 4) (n := 4) hG u_3 (hG _ w_91)
  obtain ⟨c4, i4, k4⟩ := u_known (C := RX4) (T := TX4) (N := 2) (n := 2) hG u_4 (hG _ w_17)
  obtain ⟨c5, i5, k5⟩ := u_known (C := RX5) (T := TX5) (N := 8) (n := 8) hG u_5 (hG _ w_514)
  obtain ⟨a0, x0⟩ := arr_int (hG _ w_53)
  obtain ⟨a1, x1⟩ := arr_q (C := RX0) (hts _ (List.mem_of_getElem? (i := 57) (by decide +kernel)))
  obtain ⟨a2, x2⟩ := arr_q (C := RX2) (hts _ (List.mem_of_getElem? (i := 81) (by decide +kernel)))
  obtain ⟨a3, x3⟩ := arr_q (C := RX3) (hts _ (List.mem_of_getElem? (i := 116) (by decide +kernel)))
  obtain ⟨a4, x4⟩ := arr_a (hts _ (List.mem_of_getElem? (i := 636) (by decide +kernel)))
  refine ⟨(fun k => if k = 0 then c0 else if k = 1 then c1 else if k = 2 then c2 else if k = 3 then c3 else if k = 4 then c4 else c5, fun k => if k = 0 then i0 else if k = 1 then i1 else if k = 2 then i2 else if k = 3 then i3 else if k = 4 then i4 else i5), fun k => if k = 0 then a0 else if k = 1 then a1 else if k = 2 then a2 else if k = 3 then a3 else a4, fun k q hq => ?_, fun k q hq => ?_⟩
  · match k, hq with
    | 0, hq => cases hq; exact k0
    | 1, hq => cases hq; exact k1
    | 2, hq => cases hq; exact k2
    | 3, hq => cases hq; exact k3
    | 4, hq => cases hq; exact k4
    | 5, hq => cases hq; exact k5
    | k + 6, hq => simp [cls7] at hq
  · match k, hq with
    | 0, hq => cases hq; exact x0
    | 1, hq => cases hq; exact x1
    | 2, hq => cases hq; exact x2
    | 3, hq => cases hq; exact x3
    | 4, hq => cases hq; exact x4
    | k + 5, hq => simp at hq
theorem start_AO {args : Array Value} {s : State} (hts : ∀ w ∈ lw_tbl, w.before args s = true) : AO3 s := ⟨va_AO.of (hts _ (List.mem_of_getElem? (i := 57) (by decide +kernel))), va_AO.of (hts _ (List.mem_of_getElem? (i := 81) (by decide +kernel))), va_AO.of (hts _ (List.mem_of_getElem? (i := 116) (by decide +kernel)))⟩
theorem start_Z {args : Array Value} {s : State} {A : Nat → Prop} (hts : ∀ w ∈ lw_tbl, w.before args s = true) (h : (Jvm.Cond.and given_1 narrow_1).before args s = true) (hA : ∀ a : Nat, a < s.heap.size → ¬ A a) : vx_Zq Bundle.tN "UNASSIGNED_STACK" Bundle.steD A s s.heap ∧ vx_Zq Bundle.tN "SUPPRESSED_SENTINEL" Bundle.listD A s s.heap := by
  have hs := flat_of_before _ h
  exact ⟨vx_Zqof (hts _ (List.mem_of_getElem? (i := 228) (by decide +kernel))) (hts _ (List.mem_of_getElem? (i := 34) (by decide +kernel))) (hs _ (by decide +kernel)) hA, vx_Zqof (hts _ (List.mem_of_getElem? (i := 230) (by decide +kernel))) (hts _ (List.mem_of_getElem? (i := 34) (by decide +kernel))) (hs _ (by decide +kernel)) hA⟩
