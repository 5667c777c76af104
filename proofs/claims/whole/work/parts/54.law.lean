theorem KL_off : ∀ k ∈ KL, off k < 90 := by decide +kernel
theorem off_lt {k : Key} (hk : KK k) : off k < 90 := KL_off k (KL_in hk)
/-! The law, from its entry. -/
set_option maxHeartbeats 4000000 in
set_option maxRecDepth 100000 in
theorem whole_start {p : Program} {e : Env} {s : State} {m : MethodId} {below : List Frame} {meth : Method} {c : Code} (l : Launch) (hflags : l.flags = flags0) {b L : Nat} {xs : Nat → Int32} (hL : L ≤ 2560) (C0 : lw_At p s m meth c b L xs) : W p l e room_1 s m #[Value.ref b] below meth c s.heap [] 0 0 (lw_Z below #[Value.ref b] s) (entryFrame m ([Value.ref b] : List Value).toArray 9) := by
  obtain ⟨hx, hb, hr, hml, hown, hts, hX, hbl, hlocks, hgv⟩ := C0
  have hl0 : l.stackTraces = false := by
    unfold Launch.stackTraces
    rw [hflags]
    decide +kernel
  obtain ⟨D, Gc, hKc⟩ := start_K hts
  obtain ⟨g, e1, e2, e3, e4⟩ : ∃ g : Gm, gD g = D ∧ gC g = Gc ∧ bs g = s.heap.size ∧ ∀ k, ad g k = s.heap.size + off k := ⟨((D, Gc), (fun k => s.heap.size + off k, s.heap.size)), rfl, rfl, rfl, fun _ => rfl⟩
  have hg : Gz g := fun k => by rw [e4, e3]
  have hI := hg.ij
  have hnA : ∀ a : Nat, a < s.heap.size → ¬ AA g a := fun a h z => by have z : bs g ≤ a := z; omega
  have hA := start_AO hts
  obtain ⟨z1, z2⟩ := start_Z (A := AA g) hts hgv hnA
  have hE : Ev g s := ⟨by rw [e1]; unfold tys5; rw [e2]; exact hKc, NN_of hts, z1, z2, Nat.le_of_eq e3⟩
  have hC : CallFix p m c code 9 s #[Value.ref b] LG RL := ⟨hx, hb, hml, hown, LG_of hts⟩
  have F : LF p s m meth c b L xs g := ⟨hC, hE, start_NC hgv, hI, hX, hbl, hnA b hbl⟩
  have hS : va_S (AA g) s.heap s.heap [] := va_S.rf
  have hP : WSz g 0 (fun _ => .inr (0, [])) s.heap := ⟨fun k hk => absurd hk.2 (Nat.not_lt_zero _), by rw [e3]; rfl⟩
  have hl := lv_entry ([.ref b]) (n := 9) (Nat.le_of_ble_eq_true rfl)
  rw [lg_entry_eq]
  generalize (lg_sl ([.ref b]) ++ List.replicate (9 - (lg_sl ([.ref b])).length) Slot.unset).toArray = ls at hl ⊢
  have hl : lv_has ls 9 [(0, .ref b)] := hl
  refine m_new hC hE hg hP hS (8, 0, 0) k_8 rfl (ci := 4) rfl u_4 tyX4_ok w_17 w_18 w_1 [.null, .null] (fun j hj => by have : j = 0 ∨ j = 1 := (by omega); rcases this with rfl | rfl <;> rfl) (Nat.le_of_ble_eq_true rfl) (Nat.le_of_ble_eq_true rfl) dL_law_0 (fun H hP hS => ?_)
  refine lv_dup hx hb dL_law_3 rfl ?_
  refine run_I hC hE hA hP hS (As := []) (i_eel l hg updE_same) w_1 w_20 w_21 rfl (by decide +kernel) w_19 ⟨Nat.le_of_ble_eq_true rfl, Nat.le_of_ble_eq_true rfl⟩ rfl rfl (Nat.le_of_ble_eq_true rfl) hl.1 ⟨Nat.le_of_ble_eq_true rfl, Nat.le_of_ble_eq_true rfl⟩ dL_law_4 (fun H locs hP hS => ?_)
  refine lv_astore_n (lv' := [(1, .ref (ad g (8, 0, 0))), (0, .ref b)]) hx hb dL_law_7 rfl hl (by decide) rfl (fun ls hl => ?_)
  refine m_new hC hE hg hP hS (10, 0, 0) k_10 rfl (ci := 6) rfl u_6 tyX6_ok w_619 w_620 w_6 [.int 0, .null, .null, .int 0, .null, .null, .int 0, .null, .null, .int 0, .null, .null, .null] (fun j hj => by have : j = 0 ∨ j = 1 ∨ j = 2 ∨ j = 3 ∨ j = 4 ∨ j = 5 ∨ j = 6 ∨ j = 7 ∨ j = 8 ∨ j = 9 ∨ j = 10 ∨ j = 11 ∨ j = 12 := (by omega); rcases this with rfl | rfl | rfl | rfl | rfl | rfl | rfl | rfl | rfl | rfl | rfl | rfl | rfl <;> rfl) (Nat.le_of_ble_eq_true rfl) (Nat.le_of_ble_eq_true rfl) dL_law_8 (fun H hP hS => ?_)
  refine lv_dup hx hb dL_law_11 rfl ?_
  refine run_I hC hE hA hP hS (As := []) (i_model l hg updE_same) w_6 w_622 w_623 rfl (by decide +kernel) w_621 ⟨Nat.le_of_ble_eq_true rfl, Nat.le_of_ble_eq_true rfl⟩ rfl rfl (Nat.le_of_ble_eq_true rfl) hl.1 ⟨Nat.le_of_ble_eq_true rfl, Nat.le_of_ble_eq_true rfl⟩ dL_law_12 (fun H locs hP hS => ?_)
  refine lv_astore_n (lv' := [(2, .ref (ad g (10, 0, 0))), (1, .ref (ad g (8, 0, 0))), (0, .ref b)]) hx hb dL_law_15 rfl hl (by decide) rfl (fun ls hl => ?_)
  refine lv_iconst (v := 1) hx hb dL_law_16 (by decide) ?_
  refine m_newa hC hg hP hS (11, 0, 0) k_11 rfl (atype := .long) w_929 (hE.1.2 4 _ rfl).2 (N := 1) (a0 := (1, .inr (.inl (fun _ => 0)))) rfl (by decide) (by decide) (by decide) (Nat.le_of_ble_eq_true rfl) (Nat.le_of_ble_eq_true rfl) dL_law_17 (fun H hP hS => ?_)
  refine lv_astore_n (lv' := [(3, .ref (ad g (11, 0, 0))), (2, .ref (ad g (10, 0, 0))), (1, .ref (ad g (8, 0, 0))), (0, .ref b)]) hx hb dL_law_19 rfl hl (by decide) rfl (fun ls hl => ?_)
  refine lv_iconst (v := 0) hx hb dL_law_20 (by decide) ?_
  refine lv_istore (lv' := [(4, .int 0), (3, .ref (ad g (11, 0, 0))), (2, .ref (ad g (10, 0, 0))), (1, .ref (ad g (8, 0, 0))), (0, .ref b)]) hx hb dL_law_21 hl (by decide) rfl (fun ls hl => ?_)
  have hW : WPe g KK (ent g M0 (fun _ => 0)) H := fun k hk => by
    have q := hP.1 k ⟨hk, ?_⟩
    · rw [← eOut_ent hk]
      exact q
    · exact off_lt hk
  obtain ⟨N, hN1, hN2⟩ : ∃ N, 5 * N ≤ L ∧ L < 5 * N + 5 := ⟨L / 5, by omega, by omega⟩
  refine W.widen (k := 90 + 0) (n := 1037 + 6 * 0) (Nat.le_of_ble_eq_true rfl) (Nat.le_of_ble_eq_true rfl) ?_
  refine w_loop F hl0 hL hN1 hN2 (fun H locs ls hS => ?_) 0 (Nat.zero_le _) _ _ _ M0 (fun _ => 0) hW hS (lv_sub hl [4, 3, 2, 1, 0] rfl) (St_M0 (by omega))
  refine lv_iconst (v := 1) hx hb dL_law_1158 (by decide) ?_
  refine va_forget (fun q hq => by rw [← e3]; exact hS.2.2 q hq) ?_
  refine W.widen (k := 639974) (n := 7176183) (by omega) (by omega) ?_
  exact W.base (lw_ret (Drawn.sameBut.refl s.drawn lw_cs) hx hb hr hlocks dL_law_1159)
