/-! One row more; numbers out of the script. -/
theorem dX5_more_0 : decode cX5_more 0 = .ok (.aload_n 0, 1) := by decide +kernel
theorem dX5_more_1 : decode cX5_more 1 = .ok (.arraylength, 1) := by decide +kernel
theorem dX5_more_2 : decode cX5_more 2 = .ok (.iconst 1, 1) := by decide +kernel
theorem dX5_more_3 : decode cX5_more 3 = .ok (.iadd, 1) := by decide +kernel
theorem dX5_more_4 : decode cX5_more 4 = .ok (.anewarray 21, 3) := by decide +kernel
theorem dX5_more_7 : decode cX5_more 7 = .ok (.astore_n 2, 1) := by decide +kernel
theorem dX5_more_8 : decode cX5_more 8 = .ok (.iconst 0, 1) := by decide +kernel
theorem dX5_more_9 : decode cX5_more 9 = .ok (.istore_n 3, 1) := by decide +kernel
theorem dX5_more_10 : decode cX5_more 10 = .ok (.iload_n 3, 1) := by decide +kernel
theorem dX5_more_11 : decode cX5_more 11 = .ok (.aload_n 0, 1) := by decide +kernel
theorem dX5_more_12 : decode cX5_more 12 = .ok (.arraylength, 1) := by decide +kernel
theorem dX5_more_13 : decode cX5_more 13 = .ok (.if_icmp .ge 15, 3) := by decide +kernel
theorem dX5_more_16 : decode cX5_more 16 = .ok (.aload_n 2, 1) := by decide +kernel
theorem dX5_more_17 : decode cX5_more 17 = .ok (.iload_n 3, 1) := by decide +kernel
theorem dX5_more_18 : decode cX5_more 18 = .ok (.aload_n 0, 1) := by decide +kernel
theorem dX5_more_19 : decode cX5_more 19 = .ok (.iload_n 3, 1) := by decide +kernel
theorem dX5_more_20 : decode cX5_more 20 = .ok (.aaload, 1) := by decide +kernel
theorem dX5_more_21 : decode cX5_more 21 = .ok (.aastore, 1) := by decide +kernel
theorem dX5_more_22 : decode cX5_more 22 = .ok (.iinc 3 1, 3) := by decide +kernel
theorem dX5_more_25 : decode cX5_more 25 = .ok (.goto (-15), 3) := by decide +kernel
theorem dX5_more_28 : decode cX5_more 28 = .ok (.aload_n 2, 1) := by decide +kernel
theorem dX5_more_29 : decode cX5_more 29 = .ok (.aload_n 0, 1) := by decide +kernel
theorem dX5_more_30 : decode cX5_more 30 = .ok (.arraylength, 1) := by decide +kernel
theorem dX5_more_31 : decode cX5_more 31 = .ok (.aload_n 1, 1) := by decide +kernel
theorem dX5_more_32 : decode cX5_more 32 = .ok (.aastore, 1) := by decide +kernel
theorem dX5_more_33 : decode cX5_more 33 = .ok (.aload_n 2, 1) := by decide +kernel
theorem dX5_more_34 : decode cX5_more 34 = .ok (.areturn, 1) := by decide +kernel
theorem dL_below_0 : decode cL_below 0 = .ok (.iload_n 0, 1) := by decide +kernel
theorem dL_below_1 : decode cL_below 1 = .ok (.ldc 7, 2) := by decide +kernel
theorem dL_below_3 : decode cL_below 3 = .ok (.iand, 1) := by decide +kernel
theorem dL_below_4 : decode cL_below 4 = .ok (.iload_n 1, 1) := by decide +kernel
theorem dL_below_5 : decode cL_below 5 = .ok (.irem, 1) := by decide +kernel
theorem dL_below_6 : decode cL_below 6 = .ok (.ireturn, 1) := by decide +kernel
theorem dL_cell_0 : decode cL_cell 0 = .ok (.iload_n 1, 1) := by decide +kernel
theorem dL_cell_1 : decode cL_cell 1 = .ok (.aload_n 0, 1) := by decide +kernel
theorem dL_cell_2 : decode cL_cell 2 = .ok (.arraylength, 1) := by decide +kernel
theorem dL_cell_3 : decode cL_cell 3 = .ok (.if_icmp .ge 9, 3) := by decide +kernel
theorem dL_cell_6 : decode cL_cell 6 = .ok (.aload_n 0, 1) := by decide +kernel
theorem dL_cell_7 : decode cL_cell 7 = .ok (.iload_n 1, 1) := by decide +kernel
theorem dL_cell_8 : decode cL_cell 8 = .ok (.iaload, 1) := by decide +kernel
theorem dL_cell_9 : decode cL_cell 9 = .ok (.goto 9, 3) := by decide +kernel
theorem dL_cell_12 : decode cL_cell 12 = .ok (.ldc 8, 2) := by decide +kernel
theorem dL_cell_14 : decode cL_cell 14 = .ok (.iload_n 1, 1) := by decide +kernel
theorem dL_cell_15 : decode cL_cell 15 = .ok (.iconst 3, 1) := by decide +kernel
theorem dL_cell_16 : decode cL_cell 16 = .ok (.iadd, 1) := by decide +kernel
theorem dL_cell_17 : decode cL_cell 17 = .ok (.imul, 1) := by decide +kernel
theorem dL_cell_18 : decode cL_cell 18 = .ok (.ireturn, 1) := by decide +kernel
theorem w_556 : Cond.constant RL 7 2147483647 ∈ LG := LG_in 582 (by decide +kernel) rfl
theorem w_560 : Cond.constant RL 8 790386105 ∈ LG := LG_in 586 (by decide +kernel) rfl
theorem w_681 : Cond.constant RL 77 100000 ∈ LG := LG_in 707 (by decide +kernel) rfl
/-- an answer that is a cell, the world en behind it, and what is said of it -/
def Qr (g : Gm) (K : Key → Prop) (en : Key → va_E) (B : Nat → Heap → Prop) : Array Value → State → Outcome → State → Prop := va_Qr (fun (_ : Unit) => True) (fun _ a t => WPe g K en t.heap ∧ B a t.heap) (AA g)
/-- the array with one row more -/
def Bm (g : Gm) (K : Key → Prop) (n : Nat) (f : Nat → Nat) (b : Nat) : Nat → Heap → Prop := fun a H => H[a]? = some (vp_cell (gC g 4) (refs (n + 1) (fun i => if i < n then f i else b))) ∧ AA g a ∧ ∀ k, K k → ad g k ≠ a
theorem mor_0 {cA : ClassId} {N : Nat} {f : Nat → Nat} : vp_cell cA (N, .inr (.inr (.inr (.inr (fun _ => none))))) = vp_cell cA (N, .inr (.inr (.inr (.inr (fun j => if j < 0 then some (f j) else none))))) := by
  rw [vp_cell_q, vp_cell_q]
  exact arrV_eq fun j _ => by rw [if_neg (Nat.not_lt_zero j)]
theorem mor_s {cA : ClassId} {N i : Nat} {f : Nat → Nat} : vp_cell cA (N, .inr (.inr (.inr (.inr (va_up (fun j => if j < i then some (f j) else none) i (some (f i))))))) = vp_cell cA (N, .inr (.inr (.inr (.inr (fun j => if j < i + 1 then some (f j) else none))))) := by
  rw [vp_cell_q, vp_cell_q]
  refine arrV_eq fun j _ => ?_
  unfold va_up
  by_cases h : j = i
  · rw [if_pos h, if_pos (by omega), h]
  · rw [if_neg h]
    show va_rf (if j < i then some (f j) else none) = _
    by_cases h2 : j < i
    · rw [if_pos h2, if_pos (by omega)]
    · rw [if_neg h2, if_neg (by omega)]
theorem mor_e {cA : ClassId} {n b : Nat} {f : Nat → Nat} : vp_cell cA (n + 1, .inr (.inr (.inr (.inr (va_up (fun j => if j < n then some (f j) else none) n (some b)))))) = vp_cell cA (refs (n + 1) (fun i => if i < n then f i else b)) := by
  unfold refs
  rw [vp_cell_q, vp_cell_q]
  refine arrV_eq fun j hj => ?_
  unfold va_up
  by_cases h : j = n
  · rw [if_pos h]
    show va_rf (some b) = va_rf (some (if j < n then f j else b))
    rw [if_neg (by omega)]
  · rw [if_neg h]
    show va_rf (if j < n then some (f j) else none) = va_rf (some (if j < n then f j else b))
    rw [if_pos (by omega), if_pos (by omega)]
set_option maxHeartbeats 4000000 in
set_option maxRecDepth 100000 in
theorem c_more (l : Launch) {g : Gm} {K : Key → Prop} {en : Key → va_E} {ko kb : Key} (hko : K ko) (hkb : K kb) {n : Nat} {f : Nat → Nat} (heo : en ko = .inl (gC g 4, n, .inr (.inr (.inr (.inr (fun i => some (f i))))))) {nb : Nat} {fb : Nat → Int32} (heb : en kb = .inl (gC g 0, nb, .inl fb)) (hn : n < 13) (hrow : ∀ i, i < n → ∃ k q fr, K k ∧ f i = ad g k ∧ en k = .inl (gC g 0, q, .inl fr)) : Met l yX5_more (wy yX5_more cX5_more 4 (some (.array (.array .int)))) { frames := 0, cells := 1, slots := 13, locals := 0 } (Pd g K en [.ref (ad g ko), .ref (ad g kb)]) (Qr g K en (Bm g K n f (ad g kb))) 1 13 (AA g) := by
  refine met_of (by decide +kernel) (Nat.le_of_ble_eq_true rfl) ?_
  intro p e s m below meth c ls hC hr_ hlk hnm hE hP hS hl
  obtain ⟨hx, hb, hml, hown, hG⟩ := id hC
  have hl : lv_has ls 4 [(0, .ref (ad g ko)), (1, .ref (ad g kb))] := hl
  have hb0 := hE.2.2.2.2.1
  refine lv_aload_n hx hb dX5_more_0 rfl (lv_at hl 0 rfl) ?_
  refine m_alnA hC hE hP hko heo rfl dX5_more_1 ?_
  refine lv_iconst (v := 1) hx hb dX5_more_2 (by decide) ?_
  refine lv_iadd hx hb dX5_more_3 ?_
  refine m_top (y := nI (n + 1)) (nI_1 _) ?_
  refine m_newA hC hE hS w_609 (N := n + 1) (nI_pos (by omega)) (nI_clamp (by omega)) (by omega) (Nat.le_of_ble_eq_true rfl) (by show 0 + (n + 1) ≤ 13; omega) dX5_more_4 (fun H1 z1 o1 e1 hS => ?_)
  have hP1 : WPe g K en H1 := fun k hk => (hP k hk).kept (o1 _ (hP k hk).lt)
  have hna : ∀ k, K k → ad g k ≠ s.heap.size := fun k hk z => by have := (hP k hk).lt; have z : ad g k = s.heap.size := z; simp only at this; omega
  obtain ⟨a, ea⟩ : ∃ a, a = s.heap.size := ⟨_, rfl⟩
  rw [← ea] at e1 hna ⊢
  have hAa : AA g a := by rw [ea]; exact hb0
  rw [mor_0 (f := f)] at e1
  refine W.widen (k := 1) (n := 13) (Nat.le_of_ble_eq_true rfl) (by show 0 + (n + 1) ≤ 13; omega) ?_
  refine lv_astore_n (lv' := [(2, .ref a), (0, .ref (ad g ko)), (1, .ref (ad g kb))]) hx hb dX5_more_7 rfl hl (by decide) rfl (fun ls hl => ?_)
  refine lv_iconst (v := 0) hx hb dX5_more_8 (by decide) ?_
  refine lv_istore_n (lv' := [(3, .int (nI 0)), (2, .ref a), (0, .ref (ad g ko)), (1, .ref (ad g kb))]) hx hb dX5_more_9 rfl hl (by decide) rfl (fun ls hl => ?_)
  refine lp_up (P := fun i => ∀ (H : Heap) (locs : List Loc) (ls : Array Slot), WPe g K en H → va_S (AA g) s.heap H locs → H[a]? = some (vp_cell (gC g 4) (n + 1, .inr (.inr (.inr (.inr (fun j => if j < i then some (f j) else none)))))) → lv_has ls 4 [(3, .int (nI i)), (2, .ref a), (0, .ref (ad g ko)), (1, .ref (ad g kb))] → W p l e { frames := 0, cells := 1, slots := 13, locals := 0 } s m ([.ref (ad g ko), .ref (ad g kb)] : List Value).toArray below meth c H locs 1 13 (MQ below (Qr g K en (Bm g K n f (ad g kb))) ([.ref (ad g ko), .ref (ad g kb)] : List Value).toArray s 1 13 (AA g)) (F0 m 10 ls [])) n ?hx ?hs 0 (Nat.zero_le _) _ _ ls hP1 hS e1 hl
  case hs =>
    intro i hi IH H locs ls hP hS ha hl
    refine lv_iload_n hx hb dX5_more_10 rfl (lv_at hl 0 rfl) ?_
    refine lv_aload_n hx hb dX5_more_11 rfl (lv_at hl 2 rfl) ?_
    refine m_alnA hC hE hP hko heo rfl dX5_more_12 ?_
    refine lv_icmp_ge (tgt := 28) hx hb dX5_more_13 (by decide) (fun c1 => absurd c1 (nI_ge hi (by omega))) (fun c1 => ?_)
    refine lv_aload_n hx hb dX5_more_16 rfl (lv_at hl 1 rfl) ?_
    refine lv_iload_n hx hb dX5_more_17 rfl (lv_at hl 0 rfl) ?_
    refine lv_aload_n hx hb dX5_more_18 rfl (lv_at hl 2 rfl) ?_
    refine lv_iload_n hx hb dX5_more_19 rfl (lv_at hl 0 rfl) ?_
    refine m_aalA hC hE hP hko heo i rfl hi (by omega) dX5_more_20 ?_
    obtain ⟨k, q, fr, hk, ef, ek⟩ := hrow i hi
    have hv := hP k hk
    rw [ek, ← ef] at hv
    refine m_aasA hC hE hP hS ha hAa hna hv i rfl (by omega) (by omega) dX5_more_21 (fun H locs z ha hP hS => ?_)
    rw [mor_s] at ha
    refine lv_iinc (v := nI (i + 1)) (lv' := [(3, .int (nI (i + 1))), (2, .ref a), (0, .ref (ad g ko)), (1, .ref (ad g kb))]) hx hb dX5_more_22 hl (k := 0) rfl (nI_1 _) (by decide) rfl (fun ls hl => ?_)
    refine lv_goto (tgt := 10) hx hb dX5_more_25 (by decide) ?_
    exact IH H locs ls hP hS ha hl
  intro H locs ls hP hS ha hl
  refine lv_iload_n hx hb dX5_more_10 rfl (lv_at hl 0 rfl) ?_
  refine lv_aload_n hx hb dX5_more_11 rfl (lv_at hl 2 rfl) ?_
  refine m_alnA hC hE hP hko heo rfl dX5_more_12 ?_
  refine lv_icmp_ge (tgt := 28) hx hb dX5_more_13 (by decide) (fun c1 => ?_) (fun c1 => absurd (nI_le (Nat.le_refl _) (by omega)) c1)
  refine lv_aload_n hx hb dX5_more_28 rfl (lv_at hl 1 rfl) ?_
  refine lv_aload_n hx hb dX5_more_29 rfl (lv_at hl 2 rfl) ?_
  refine m_alnA hC hE hP hko heo rfl dX5_more_30 ?_
  refine lv_aload_n hx hb dX5_more_31 rfl (lv_at hl 3 rfl) ?_
  have hv := hP kb hkb
  rw [heb] at hv
  refine m_aasA hC hE hP hS ha hAa hna hv n rfl (by omega) (by omega) dX5_more_32 (fun H locs z ha hP hS => ?_)
  rw [mor_e] at ha
  refine lv_aload_n hx hb dX5_more_33 rfl (lv_at hl 1 rfl) ?_
  exact W.aret hx hb hr_ (Or.inr ⟨_, rfl⟩) (Or.inr ⟨_, rfl⟩) (fun t ht hW => ⟨⟨(), a, rfl, trivial, by rw [ht]; exact hP, by rw [ht]; exact ⟨ha, hAa, hna⟩⟩, hS.F ht⟩) hS.2.2 dX5_more_34 hlk
/-- v, made not negative, modulo n -/
def bel (v : Int32) (n : Nat) : Nat := (v &&& 2147483647).toNatClampNeg % n
theorem bel_lt {v : Int32} {n : Nat} (h : 0 < n) : bel v n < n := Nat.mod_lt _ h
set_option maxHeartbeats 4000000 in
theorem c_belowL (l : Launch) {g : Gm} {en : Key → va_E} {K : Key → Prop} (v : Int32) (n : Nat) (h0 : 0 < n) (hn : n < 2 ^ 31) : MI l yL_below cL_below 2 .int (rm 0 0) g K en [.int v, .int (nI n)] (nI (bel v n)) en := by
  refine met_of (by decide +kernel) (Nat.le_of_ble_eq_true rfl) ?_
  intro p e s m below meth c ls hC hr_ hlk hnm hE hP hS hl
  obtain ⟨hx, hb, hml, hown, hG⟩ := id hC
  have hl : lv_has ls 2 [(0, .int v), (1, .int (nI n))] := hl
  refine lv_iload_n hx hb dL_below_0 rfl (lv_at hl 0 rfl) ?_
  refine lv_ldc (v := 2147483647) hx hb hown (hG _ w_556) dL_below_1 ?_
  refine lv_iand hx hb dL_below_3 ?_
  refine lv_iload_n hx hb dL_below_4 rfl (lv_at hl 1 rfl) ?_
  refine lv_irem hx hb dL_below_5 (fun z => absurd (nI_inj (b := 0) hn (by decide) z) (by omega)) ?_
  obtain ⟨j, hj, ej⟩ := pk_andE v (m := 2147483647) 31 (by decide)
  refine m_top (y := nI (bel v n)) (by unfold bel; rw [ej, nI_clamp hj]; exact pk_rem hj h0 hn) ?_
  exact m_iret hC hr_ hlk hS hP rfl rfl dL_below_6
/-- the script's k-th number, or one made up -/
def scr (L : Nat) (xs : Nat → Int32) (k : Nat) : Int32 := if k < L then xs k else 790386105 * (nI k + 3)
/-- a method's start where the script is there too -/
def Px (g : Gm) (K : Key → Prop) (en : Key → va_E) (b L : Nat) (xs : Nat → Int32) (av : List Value) : Array Value → State → Prop := fun v U => Pd g K en av v U ∧ va_X b L xs U U.heap ∧ ¬ AA g b
theorem Px.blind {g : Gm} {K : Key → Prop} {en : Key → va_E} {b L : Nat} {xs : Nat → Int32} {av : List Value} : FrameBlind (Px g K en b L xs av) := fun a U f mk h => ⟨Pd.blind a U f mk h.1, h.2.1.moved (u := U) (U := U.calling f mk a) (Vm.Alike.refl U.vm), h.2.2⟩
theorem va_X.lt {b L : Nat} {xs : Nat → Int32} {U : State} {H : Heap} (h : va_X b L xs U H) : b < H.size := by
  obtain ⟨scr, h1, -⟩ := h
  exact (Array.getElem?_eq_some_iff.mp h1).1
theorem px_of {l : Launch} {y : MethodName} {b : ByteArray} {n : Nat} {ret : Option FieldType} {R : Room} {g : Gm} {K : Key → Prop} {en : Key → va_E} {bs L : Nat} {xs : Nat → Int32} {av : List Value} {Qc : Array Value → State → Outcome → State → Prop} (hy : plainName y.cls = true) (hn : (lg_sl av).length ≤ n)
    (body : ∀ (p : Program) (e : Jvm.Env) (s : State) (m : MethodId) (below : List Frame) (meth : Method) (c : Code) (ls : Array Slot), CallFix p m c b n s av.toArray LG y.cls → meth.sig.returnType = ret → meth.locks = false → Ev g s → va_X bs L xs s s.heap → ¬ AA g bs → WPe g K en s.heap → va_S (AA g) s.heap s.heap [] → lv_has ls n (lv_args 0 av) →
      W p l e R s m av.toArray below meth c s.heap [] 0 0 (MQ below Qc av.toArray s R.cells R.slots (AA g)) (F0 m 0 ls [])) : Met l y (wy y b n ret) R (Px g K en bs L xs av) Qc R.cells R.slots (AA g) := by
  refine Met.ofW (cc := b) (maxL := n) (ret := ret) hy rfl ?_
  intro p e s m args below meth c s₁ B hml hv
  obtain ⟨⟨rfl, hE, hP⟩, hX, hA⟩ := hv
  have hts := atoms_spec (ws := wy y b n ret) B.pre
  have hl := lv_entry av (n := n) hn
  rw [lg_entry_eq]
  exact body p e s m below meth c _ ⟨B.exec, B.bytes, hml, findClass_of_methodNamed B.named, fun w hw => hts w (List.mem_cons_of_mem _ hw)⟩ B.returns B.notSynchronized hE hX hA hP va_S.rf hl
set_option maxHeartbeats 4000000 in
theorem c_cellL (l : Launch) {g : Gm} {en : Key → va_E} {K : Key → Prop} {b L : Nat} {xs : Nat → Int32} (hL : L < 2 ^ 30) (k : Nat) (hk : k < 2 ^ 30) : Met l yL_cell (wy yL_cell cL_cell 2 (some .int)) (rm 0 0) (Px g K en b L xs [.ref b, .int (nI k)]) (Qi g (scr L xs k) K en) 0 0 (AA g) := by
  refine px_of (by decide +kernel) (Nat.le_of_ble_eq_true rfl) ?_
  intro p e s m below meth c ls hC hr_ hlk hE hX hbA hP hS hl
  obtain ⟨hx, hb, hml, hown, hG⟩ := id hC
  have hl : lv_has ls 2 [(0, .ref b), (1, .int (nI k))] := hl
  refine lv_iload_n hx hb dL_cell_0 rfl (lv_at hl 1 rfl) ?_
  refine lv_aload_n hx hb dL_cell_1 rfl (lv_at hl 0 rfl) ?_
  refine va_slen hx hb hX hX.lt hbA hS dL_cell_2 ?_
  refine lv_icmp_ge (tgt := 12) hx hb dL_cell_3 (by decide) (fun c1 => ?_) (fun c1 => ?_)
  · have h1 : ¬ k < L := fun z => absurd c1 (nI_ge z (by omega))
    refine lv_ldc (v := 790386105) hx hb hown (hG _ w_560) dL_cell_12 ?_
    refine lv_iload_n hx hb dL_cell_14 rfl (lv_at hl 1 rfl) ?_
    refine lv_iconst (v := 3) hx hb dL_cell_15 (by decide) ?_
    refine lv_iadd hx hb dL_cell_16 ?_
    refine lv_imul hx hb dL_cell_17 ?_
    exact m_iret hC hr_ hlk hS hP rfl (if_neg h1).symm dL_cell_18
  · have h1 : k < L := by
      rcases Nat.lt_or_ge k L with z | z
      · exact z
      · exact absurd (nI_le z (by omega)) c1
    refine lv_aload_n hx hb dL_cell_6 rfl (lv_at hl 0 rfl) ?_
    refine lv_iload_n hx hb dL_cell_7 rfl (lv_at hl 1 rfl) ?_
    refine va_sld hx hb hX hX.lt hbA hS (vp_in_nI h1 (by omega)) dL_cell_8 ?_
    refine lv_goto (tgt := 18) hx hb dL_cell_9 (by decide) ?_
    exact m_iret hC hr_ hlk hS hP rfl (by rw [nI_clamp (by omega)]; exact (if_pos h1).symm) dL_cell_18
