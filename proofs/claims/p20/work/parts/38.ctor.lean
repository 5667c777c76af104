/-! Constructors: what is made. -/
section MK3
variable {p : Program} {l : Launch} {e : Jvm.Env} {R : Room} {s : State} {m : MethodId} {args : Array Value} {below : List Frame} {meth : Method} {c : Code} {H : Heap} {locs : List Loc} {cells slots : Nat} {Q : State → Prop}
variable {cc : ByteArray} {nL pc : Nat} {ls : Array Slot} {rest : List Value} {own : String} {g : Gm} {K : Key → Prop} {en : Key → va_E}
theorem m_putS (hC : CallFix p m c cc nL s args LG own) (hE : Ev g s) (hI : IJ g K) (hP : WPe g K en H) (hS : va_S (AA g) s.heap H locs) {k : Key} (hk : K k) {ci N : Nat} {C : String} {T : u_T} {fs : List Value} (he : en k = .inr (ci, fs)) (hc : cls7[ci]? = some (C, T, N)) (hu : ∀ w ∈ u_ws C T N, w ∈ LG) {ty0 : Nat → FieldType} (hty : ∀ k, k < N → parseFieldDescriptor (T k).2.2.1 = some (ty0 k)) (hnm : ∀ a, a < N → ∀ b, b < N → a ≠ b → (T a).2.1 ≠ (T b).2.1) (f : Nat) (hf : f < N) {ref : String} {index : Nat} (hlink : Cond.fieldLink own index ref (T f).2.1 (T f).2.2.1 ∈ LG) (href : (T f).1 = ref) (hfin : (T f).2.2.2 = false) {v : Value} (hn : narrow (ty0 f) v = v) (hfit : fits (ty0 f) v = true) (hl : f < fs.length) {en' : Key → va_E} (h1 : en' k = .inr (ci, fs.set f v)) (h2 : ∀ j, K j → j ≠ k → en' j = en j) (hdg : decode cc pc = .ok (.putfield index, 3))
    (kk : ∀ (H1 : Heap) (locs1 : List Loc), H1.size = H.size → WPe g K en' H1 → va_S (AA g) s.heap H1 locs1 → W p l e R s m args below meth c H1 locs1 cells slots Q (F0 m (pc + 3) ls rest)) : W p l e R s m args below meth c H locs cells slots Q (F0 m pc ls (v :: .ref (ad g k) :: rest)) := by
  obtain ⟨hx, hb, hml, hown, hG⟩ := hC
  subst href
  have hK := hE.1
  have hap := va_apart (own := own) hG hu ty0 hty hnm hK hc
  have h0 := hP k hk
  rw [he] at h0
  obtain ⟨r, e1, cell, q1, q2, q3, q4⟩ := h0
  have hr : r = (C, T, N) := Option.some.inj (e1.symm.trans hc)
  subst hr
  obtain ⟨hSl, hfc, kC, hkC, hkind⟩ := hK.1 ci _ hc
  obtain ⟨cf, kf, fi, fd, hi, hsl⟩ := hSl f hf
  have hlay := hG _ (hu _ (u_in_lay hf))
  unfold u_lay at hlay
  rw [if_neg (by rw [hfin]; decide)] at hlay
  have hst := (u_facts hfc hkC (u_lays hG hu hf) hi).1
  have h6 := u_store hfc hkC hkind hlay hi (hty f hf) hn hfit
  refine W.putK hx hb (f := fd) ⟨hown, hG _ hlink, ⟨_, _, _, hi⟩, hst⟩ (by rw [q2]; exact h6) q1 q3 (by rw [hsl]; exact k2_hasslot (q4 f hf)) rfl rfl hdg fun H' z1 z2 z3 => ?_
  rw [hsl] at z1 ⊢
  refine kk H' _ z2 (fun j hj => ?_) (hS.put z2 z3 (hI.2 k hk))
  by_cases hjk : j = k
  · subst hjk
    rw [h1]
    exact ⟨_, hc, t_OB.to (V := updV (vp_V fs) f v) ⟨_, z1, q2, q3, t_set q4 hap hf v⟩ (fun j _ => vp_updV_set hl v j)⟩
  · rw [h2 j hj hjk]
    exact (hP j hj).kept (z3 _ (fun z => hjk (hI.1 j k hj hk z)))
theorem m_iastS (hC : CallFix p m c cc nL s args LG own) (hE : Ev g s) (hI : IJ g K) (hP : WPe g K en H) (hS : va_S (AA g) s.heap H locs) {k : Key} (hk : K k) {n : Nat} {f : Nat → Int32} (he : en k = .inl (gC g 0, n, .inl f)) {x v : Int32} (i : Nat) (hx : x = nI i) (hi : i < n) (hn : n < 2 ^ 31) {en' : Key → va_E} (h1 : en' k = .inl (gC g 0, n, .inl (upd f i v))) (h2 : ∀ j, K j → j ≠ k → en' j = en j) (hdg : decode cc pc = .ok (.iastore, 1))
    (kk : ∀ (H1 : Heap) (locs1 : List Loc), H1.size = H.size → WPe g K en' H1 → va_S (AA g) s.heap H1 locs1 → W p l e R s m args below meth c H1 locs1 cells slots Q (F0 m (pc + 1) ls rest)) : W p l e R s m args below meth c H locs cells slots Q (F0 m pc ls (.int v :: .int x :: .ref (ad g k) :: rest)) := by
  obtain ⟨hx1, hb, hml, hown, hG⟩ := hC
  subst hx
  have h0 := hP k hk
  rw [he] at h0
  have hin : vp_in (nI i) n := vp_in_nI hi hn
  refine W.iast hx1 hb h0 ((hE.1.2 0 _ rfl).1 n (fun j => .int (f j))) (fun q => by cases q) (by show ¬ (nI i < 0 ∨ (arrV _ _ _).slots.size ≤ _); rw [arrV_size]; exact hin) rfl rfl hdg fun H1 z1 z2 z3 => ?_
  refine kk H1 _ z2 (fun j hj => ?_) (hS.put z2 z3 (hI.2 k hk))
  by_cases hjk : j = k
  · subst hjk
    rw [h1]
    show H1[ad g j]? = some (vp_cell _ _)
    rw [z1, vp_cell_i, vp_cell_i, arrV_store, nI_clamp (by omega)]
    congr 2
    funext q
    by_cases hq : q = i
    · subst hq
      simp [updV, upd]
    · simp [updV, upd, hq]
  · rw [h2 j hj hjk]
    exact (hP j hj).kept (z3 _ (fun z => hjk (hI.1 j k hj hk z)))
end MK3
theorem dX0_init_0 : decode cX0_init 0 = .ok (.aload_n 0, 1) := by decide +kernel
theorem dX0_init_1 : decode cX0_init 1 = .ok (.invokespecial 1, 3) := by decide +kernel
theorem dX0_init_4 : decode cX0_init 4 = .ok (.return_, 1) := by decide +kernel
theorem dX2_init_0 : decode cX2_init 0 = .ok (.aload_n 0, 1) := by decide +kernel
theorem dX2_init_1 : decode cX2_init 1 = .ok (.invokespecial 3, 3) := by decide +kernel
theorem dX2_init_4 : decode cX2_init 4 = .ok (.aload_n 0, 1) := by decide +kernel
theorem dX2_init_5 : decode cX2_init 5 = .ok (.iconst (-1), 1) := by decide +kernel
theorem dX2_init_6 : decode cX2_init 6 = .ok (.putfield 9, 3) := by decide +kernel
theorem dX2_init_9 : decode cX2_init 9 = .ok (.return_, 1) := by decide +kernel
theorem dX3_init_0 : decode cX3_init 0 = .ok (.aload_n 0, 1) := by decide +kernel
theorem dX3_init_1 : decode cX3_init 1 = .ok (.invokespecial 1, 3) := by decide +kernel
theorem dX3_init_4 : decode cX3_init 4 = .ok (.return_, 1) := by decide +kernel
theorem i_hole (l : Launch) {g : Gm} {n : Nat} {en : Key → va_E} (k : Key) : MC l yX0_init cX0_init 1 (rm 1 20) g n en [.ref (ad g k)] n en := by
  refine mc_of (by decide +kernel) (Nat.le_of_ble_eq_true rfl) ?_
  intro p e s m below meth c ls hC hr_ hlk hnm hE hA hP hS hl
  obtain ⟨hx, hb, hml, hown, hG⟩ := id hC
  have hl : lv_has ls 1 [(0, .ref (ad g k))] := hl
  refine lv_aload_n hx hb dX0_init_0 rfl (lv_at hl 0 rfl) ?_
  refine m_oinit hC w_36 hl.1 dX0_init_1 (Nat.le_of_ble_eq_true rfl) (Nat.le_of_ble_eq_true rfl) ?_
  exact mc_vret hC hr_ hlk hS hP dX0_init_4
theorem i_warden (l : Launch) {g : Gm} {n : Nat} {en : Key → va_E} (k : Key) : MC l yX3_init cX3_init 1 (rm 1 20) g n en [.ref (ad g k)] n en := by
  refine mc_of (by decide +kernel) (Nat.le_of_ble_eq_true rfl) ?_
  intro p e s m below meth c ls hC hr_ hlk hnm hE hA hP hS hl
  obtain ⟨hx, hb, hml, hown, hG⟩ := id hC
  have hl : lv_has ls 1 [(0, .ref (ad g k))] := hl
  refine lv_aload_n hx hb dX3_init_0 rfl (lv_at hl 0 rfl) ?_
  refine m_oinit hC w_95 hl.1 dX3_init_1 (Nat.le_of_ble_eq_true rfl) (Nat.le_of_ble_eq_true rfl) ?_
  exact mc_vret hC hr_ hlk hS hP dX3_init_4
theorem i_spearer (l : Launch) {g : Gm} (hg : Gz g) {n : Nat} {en : Key → va_E} (k : Key) (hk : Kn g n k) (he : en k = .inr (2, [.int 0, .int 0, .int 0, .int 0, .int 0, .int 0])) : MC l yX2_init cX2_init 1 (rm 1 20) g n en [.ref (ad g k)] n (updE en k (.inr (2, [.int 0, .int 0, .int (-1), .int 0, .int 0, .int 0]))) := by
  refine mc_of (by decide +kernel) (Nat.le_of_ble_eq_true rfl) ?_
  intro p e s m below meth c ls hC hr_ hlk hnm hE hA hP hS hl
  obtain ⟨hx, hb, hml, hown, hG⟩ := id hC
  have hl : lv_has ls 1 [(0, .ref (ad g k))] := hl
  refine lv_aload_n hx hb dX2_init_0 rfl (lv_at hl 0 rfl) ?_
  refine m_oinit hC w_60 hl.1 dX2_init_1 (Nat.le_of_ble_eq_true rfl) (Nat.le_of_ble_eq_true rfl) ?_
  refine lv_aload_n hx hb dX2_init_4 rfl (lv_at hl 0 rfl) ?_
  refine lv_iconst (v := (-1)) hx hb dX2_init_5 (by decide) ?_
  refine m_putS hC hE (hg.ijn n) hP.1 hS hk he rfl u_2 tyX2_ok nmX2 2 (by decide) w_65 rfl rfl rfl rfl (Nat.le_of_ble_eq_true rfl) updE_same (fun j _ hj => updE_ne hj) dX2_init_6 (fun H1 locs1 z hP1 hS => ?_)
  exact mc_vret hC hr_ hlk hS (hP.put hP1 z) dX2_init_9
