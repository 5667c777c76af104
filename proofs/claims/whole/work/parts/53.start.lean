/-! The law's start. -/
def M0 : Mem := fun r => match r with
  | 0 => v0
  | 1 => v0
  | _ => vM
def eOut (g : Gm) (en : Key → va_E) : Key → va_E := updE (MdE g en 81) (11, 0, 0) (.inl (gC g 4, 1, .inr (.inl (fun _ => 0))))
theorem St_M0 {n : Nat} (h : n < 2 ^ 30) : St n M0 := ⟨vM, 0, (up_t0 (w := vM) rfl).symm, rfl, start_Rl, start_Nt h⟩
theorem dep_r {k : Key} {r c i : Nat} (h : dep k r c i) : r = k.2.1 ∨ (k.1 = 10 ∧ r = 2) := by
  unfold dep at h
  split at h <;> rename_i ht <;> first | exact Or.inl h.1.symm | exact Or.inr ⟨ht, h.1⟩ | exact h.elim
theorem MdE_low {g : Gm} {en : Key → va_E} {i : Nat} {k : Key} (h : k.1 < 9) (h2 : k.2.1 < 2) : MdE g en i k = en k := by
  have a1 : k ≠ (4, 2, 1) := fun z => by rw [z] at h2; exact absurd h2 (by decide)
  have a2 : k ≠ (10, 0, 0) := fun z => by rw [z] at h; exact absurd h (by decide)
  have a3 : k ≠ (9, 3, 0) := fun z => by rw [z] at h; exact absurd h (by decide)
  have a4 : k ≠ (9, 2, 0) := fun z => by rw [z] at h; exact absurd h (by decide)
  unfold MdE MdW
  rw [updE_ne a1, updE_ne a2, StS_no a3, StB_no (fun z => by omega), updE_ne a3, updE_ne a2, StS_no a4, StB_no (fun z => by omega), updE_ne a4]
  unfold MZ
  rw [updE_ne a1, MdS_no a2, MdB_no (fun z => by omega)]
theorem XE_low {g : Gm} {en : Key → va_E} {t a i : Nat} (h : t < 8) (ha : a < 2) : XE g en (t, a, i) = ent g M0 (fun _ => 0) (t, a, i) := by
  have e : ∀ r, r = a → M0 r = v0 := fun r hr => by
    have : r = 0 ∨ r = 1 := by omega
    rcases this with q | q <;> rw [q] <;> rfl
  have q : ent g M0 (fun _ => 0) (t, a, i) = ent g (fun _ => v0) (fun _ => 0) (t, a, i) := ent_congr fun r c j hd => by
    rcases dep_r hd with z | z
    · rw [e r z]
    · exact absurd z.1 (by show ¬ t = 10; omega)
  rw [q]
  have a8 : ((t, a, i) : Key) ≠ (8, 0, 0) := fun z => by have := congrArg Prod.fst z; have : t = 8 := this; omega
  unfold XE
  rw [updE_ne a8]
  have : a = 0 ∨ a = 1 := by omega
  rcases this with z | z
  · subst z
    rw [LkE_no (fun z => by have : (0 : Nat) = 1 := z.1; omega), updE_ne (fun z => by have := congrArg (fun k : Key => k.2.1) z; have : (0 : Nat) = 1 := this; omega), updE_ne a8, LkE_in h]
  · subst z
    rw [LkE_in h]
theorem eOut_ent {g : Gm} {en : Key → va_E} {v : va_E} {k : Key} (hk : KK k) : eOut g (updE (XE g en) (10, 0, 0) v) k = ent g M0 (fun _ => 0) k := by
  have vm : ∀ {c : Nat} {r : Nat}, 2 ≤ r → ent g (fun _ => vM) (fun _ => 0) (4, r, c) = ent g M0 (fun _ => 0) (4, r, c) := fun {c r} hr => ent_congr fun r1 c1 j hd => by
    rcases dep_r hd with z | z
    · have z : r1 = r := z
      match r1, z with
      | 0, z => omega
      | 1, z => omega
      | n + 2, z => rfl
    · exact absurd z.1 (by show ¬ (4 : Nat) = 10; decide)
  have low : ∀ {t a i : Nat}, t < 8 → a < 2 → eOut g (updE (XE g en) (10, 0, 0) v) (t, a, i) = ent g M0 (fun _ => 0) (t, a, i) := fun {t a i} ht ha => by
    unfold eOut
    rw [updE_ne (fun z => by have := congrArg Prod.fst z; have : t = 11 := this; omega), MdE_low (show t < 9 by omega) ha, updE_ne (fun z => by have := congrArg Prod.fst z; have : t = 10 := this; omega), XE_low ht ha]
  obtain ⟨t, a, i⟩ := k
  unfold KK at hk
  split at hk <;> rename_i ht <;> simp only at ht hk <;> (try subst ht)
  · exact low (by decide) hk.1
  · exact low (by decide) hk.1
  · exact low (by decide) hk.1
  · exact low (by decide) hk.1
  · rcases hk with q | q | q
    · exact low (by decide) q.1
    · obtain ⟨rfl, hc⟩ := q
      unfold eOut
      rw [updE_ne (by intro z; simp at z)]
      by_cases h1 : i = 1
      · subst h1
        unfold MdE
        rw [updE_same]
        rfl
      · have a1 : ((4, 2, i) : Key) ≠ (4, 2, 1) := by intro z; simp at z; exact h1 z
        unfold MdE MdW
        rw [updE_ne a1, updE_ne (by intro z; simp at z), StS_no (by intro z; simp at z), StB_no (by intro z; simp at z), updE_ne (by intro z; simp at z), updE_ne (by intro z; simp at z), StS_no (by intro z; simp at z)]
        cases hp : pv i with
        | true => rw [StB_in hp]; exact vm (by decide)
        | false => rw [StB_no (by intro z; have := z.2.2; have : pv i = true := this; rw [hp] at this; cases this), updE_ne (by intro z; simp at z), MZ_in hp hc h1]; exact vm (by decide)
    · obtain ⟨rfl, hp⟩ := q
      unfold eOut
      rw [updE_ne (by intro z; simp at z)]
      unfold MdE MdW
      rw [updE_ne (by intro z; simp at z), updE_ne (by intro z; simp at z), StS_no (by intro z; simp at z), StB_in hp]
      exact vm (by decide)
  · exact low (by decide) hk.1
  · exact low (by decide) hk.1
  · exact low (by decide) hk.1
  · obtain ⟨rfl, rfl⟩ := hk
    unfold eOut
    rw [updE_ne (by decide), MdE_low (by decide) (by decide), updE_ne (by decide)]
    unfold XE
    rw [updE_same]
    rfl
  · obtain ⟨h1, rfl⟩ := hk
    unfold eOut
    rcases h1 with rfl | rfl
    · rw [updE_ne (by decide)]
      unfold MdE MdW
      rw [updE_ne (by decide), updE_ne (by decide), StS_no (by decide), StB_no (by decide), updE_ne (by decide), updE_ne (by decide), StS_9]
      rfl
    · rw [updE_ne (by decide)]
      unfold MdE MdW
      rw [updE_ne (by decide), updE_ne (by decide), StS_9]
      rfl
  · obtain ⟨rfl, rfl⟩ := hk
    unfold eOut
    rw [updE_ne (by decide)]
    unfold MdE
    rw [updE_ne (by decide), MdW_10]
    rfl
  · obtain ⟨rfl, rfl⟩ := hk
    unfold eOut
    rw [updE_same]
    rfl
/-! The tables at the law's entry. -/
theorem arr_q {C : String} {args : Array Value} {s : State} (h : (Cond.arrayOver (.object C)).before args s = true) : ∃ cA : ClassId, ArrOfT s cA (.object C) ∧ va_RA s cA (.object C) := by
  obtain ⟨comp, cA, k, h1, h2, h3, h4, h5⟩ := Cond.arrayOver_spec h
  exact ⟨cA, fun n z => ⟨fun k h => (by cases h), k, h3, comp, h4⟩, k, comp, h3, h4, h1, h5⟩
theorem arr_int {args : Array Value} {s : State} (h : (Cond.arrayClass .int).before args s = true) : ∃ cA : ClassId, ArrOfT s cA .int ∧ va_RA s cA .int := by
  obtain ⟨cA, k, comp, h1, h2, h3⟩ := Cond.arrayClass_spec h
  exact ⟨cA, fun n z => ⟨fun k h => (by cases h), k, h2, comp, h3⟩, h1⟩
theorem arr_long {args : Array Value} {s : State} (h : (Cond.arrayClass .long).before args s = true) : ∃ cA : ClassId, ArrOfT s cA .long ∧ va_RA s cA .long := by
  obtain ⟨cA, k, comp, h1, h2, h3⟩ := Cond.arrayClass_spec h
  exact ⟨cA, fun n z => ⟨fun k h => (by cases h), k, h2, comp, h3⟩, h1⟩
theorem str_of {own tx : String} {k : Nat} {args : Array Value} {s : State} (h : (Cond.stringRef own k tx).before args s = true) : ∃ a, vk_R own k tx a s := by
  cases hc : s.vm.findClass own with
  | none => simp [Cond.before, Cond.holds, Cond.value, hc] at h
  | some cur =>
    obtain ⟨_, _, _, a, -, -, -, -, -, h6⟩ := Cond.stringRef_spec hc h
    exact ⟨a, vk_R.of h h6⟩
theorem NN_of {args : Array Value} {s : State} (hts : ∀ w ∈ lw_tbl, w.before args s = true) : NN s := ⟨NN.ofW hts, fun own k tx hm => str_of (hts _ hm)⟩
theorem start_K {args : Array Value} {s : State} (hts : ∀ w ∈ lw_tbl, w.before args s = true) : ∃ (D : va_G) (G : Nat → ClassId), va_K D cls7 [(G 0, .int), (G 1, .object RX0), (G 2, .object RX2), (G 3, .object RX3), (G 4, .long)] s := by
  have hG := LG_of hts
  obtain ⟨c0, i0, k0⟩ := u_known (C := RX0) (T := TX0) (N := 3) (n := 3) hG u_0 (hG _ w_33)
  obtain ⟨c1, i1, k1⟩ := u_known (C := RX1) (T := TX1) (N := 11) (n := 11) hG u_1 (hG _ w_26)
  obtain ⟨c2, i2, k2⟩ := u_known (C := RX2) (T := TX2) (N := 6) (n := 6) hG u_2 (hG _ w_57)
  obtain ⟨c3, i3, k3⟩ := u_known (C := RX3) (T := TX3) (N := 4) (n := 4) hG u_3 (hG _ w_92)
  obtain ⟨c4, i4, k4⟩ := u_known (C := RX4) (T := TX4) (N := 2) (n := 2) hG u_4 (hG _ w_18)
  obtain ⟨c5, i5, k5⟩ := u_known (C := RX5) (T := TX5) (N := 12) (n := 12) hG u_5 (hG _ w_626)
  obtain ⟨c6, i6, k6⟩ := u_known (C := RX6) (T := TX6) (N := 13) (n := 13) hG u_6 (hG _ w_620)
  obtain ⟨a0, x0⟩ := arr_int (hG _ w_54)
  obtain ⟨a1, x1⟩ := arr_q (C := RX0) (hts _ (List.mem_of_getElem? (i := 73) (by decide +kernel)))
  obtain ⟨a2, x2⟩ := arr_q (C := RX2) (hts _ (List.mem_of_getElem? (i := 97) (by decide +kernel)))
  obtain ⟨a3, x3⟩ := arr_q (C := RX3) (hts _ (List.mem_of_getElem? (i := 132) (by decide +kernel)))
  obtain ⟨a4, x4⟩ := arr_long (hG _ w_929)
  refine ⟨(fun k => if k = 0 then c0 else if k = 1 then c1 else if k = 2 then c2 else if k = 3 then c3 else if k = 4 then c4 else if k = 5 then c5 else c6, fun k => if k = 0 then i0 else if k = 1 then i1 else if k = 2 then i2 else if k = 3 then i3 else if k = 4 then i4 else if k = 5 then i5 else i6), fun k => if k = 0 then a0 else if k = 1 then a1 else if k = 2 then a2 else if k = 3 then a3 else a4, fun k q hq => ?_, fun k q hq => ?_⟩
  · match k, hq with
    | 0, hq => cases hq; exact k0
    | 1, hq => cases hq; exact k1
    | 2, hq => cases hq; exact k2
    | 3, hq => cases hq; exact k3
    | 4, hq => cases hq; exact k4
    | 5, hq => cases hq; exact k5
    | 6, hq => cases hq; exact k6
    | k + 7, hq => simp [cls7] at hq
  · match k, hq with
    | 0, hq => cases hq; exact x0
    | 1, hq => cases hq; exact x1
    | 2, hq => cases hq; exact x2
    | 3, hq => cases hq; exact x3
    | 4, hq => cases hq; exact x4
    | k + 5, hq => simp at hq
theorem start_AO {args : Array Value} {s : State} (hts : ∀ w ∈ lw_tbl, w.before args s = true) : AO3 s := ⟨va_AO.of (hts _ (List.mem_of_getElem? (i := 73) (by decide +kernel))), va_AO.of (hts _ (List.mem_of_getElem? (i := 97) (by decide +kernel))), va_AO.of (hts _ (List.mem_of_getElem? (i := 132) (by decide +kernel)))⟩
theorem start_NC {args : Array Value} {s : State} (h : (Jvm.Cond.and given_1 narrow_1).before args s = true) : NC s := by
  have hs := flat_of_before _ h
  exact ⟨va_Nc.of (hs _ (by decide +kernel)), va_Nc.of (hs _ (by decide +kernel)), va_Nc.of (hs _ (by decide +kernel)), va_Nc.of (hs _ (by decide +kernel))⟩
theorem start_Z {args : Array Value} {s : State} {A : Nat → Prop} (hts : ∀ w ∈ lw_tbl, w.before args s = true) (h : (Jvm.Cond.and given_1 narrow_1).before args s = true) (hA : ∀ a : Nat, a < s.heap.size → ¬ A a) : vx_Zq Bundle.tN "UNASSIGNED_STACK" Bundle.steD A s s.heap ∧ vx_Zq Bundle.tN "SUPPRESSED_SENTINEL" Bundle.listD A s s.heap := by
  have hs := flat_of_before _ h
  exact ⟨vx_Zqof (hts _ (List.mem_of_getElem? (i := 357) (by decide +kernel))) (hts _ (List.mem_of_getElem? (i := 49) (by decide +kernel))) (hs _ (by decide +kernel)) hA, vx_Zqof (hts _ (List.mem_of_getElem? (i := 359) (by decide +kernel))) (hts _ (List.mem_of_getElem? (i := 49) (by decide +kernel))) (hs _ (by decide +kernel)) hA⟩
