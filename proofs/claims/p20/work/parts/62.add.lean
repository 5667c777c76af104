/-! The picture's own arrays grow by a row. -/
section MP
variable {p : Program} {l : Launch} {e : Jvm.Env} {R : Room} {s : State} {m : MethodId} {args : Array Value} {below : List Frame} {meth : Method} {c : Code} {H : Heap} {locs : List Loc} {cells slots : Nat} {Q : State → Prop}
variable {cc : ByteArray} {nL pc : Nat} {ls : Array Slot} {rest st : List Value} {own : String} {g : Gm} {K : Key → Prop} {en : Key → va_E}
/-- a field written: every other cell stays -/
theorem m_putO (hC : CallFix p m c cc nL s args LG own) (hE : Ev g s) (hI : IJ g K) (hP : WPe g K en H) (hS : va_S (AA g) s.heap H locs) {k : Key} (hk : K k) {ci N : Nat} {C : String} {T : u_T} {fs : List Value} (he : en k = .inr (ci, fs)) (hc : cls7[ci]? = some (C, T, N)) (hu : ∀ w ∈ u_ws C T N, w ∈ LG) {ty0 : Nat → FieldType} (hty : ∀ k, k < N → parseFieldDescriptor (T k).2.2.1 = some (ty0 k)) (hnm : ∀ a, a < N → ∀ b, b < N → a ≠ b → (T a).2.1 ≠ (T b).2.1) (f : Nat) (hf : f < N) {ref : String} {index : Nat} (hlink : Cond.fieldLink own index ref (T f).2.1 (T f).2.2.1 ∈ LG) (href : (T f).1 = ref) (hfin : (T f).2.2.2 = false) {v : Value} (hn : narrow (ty0 f) v = v) (hfit : fits (ty0 f) v = true) (hl : f < fs.length) {en' : Key → va_E} (h1 : en' k = .inr (ci, fs.set f v)) (h2 : ∀ j, K j → j ≠ k → en' j = en j) (hdg : decode cc pc = .ok (.putfield index, 3))
    (kk : ∀ (H1 : Heap) (locs1 : List Loc), (∀ q, q ≠ ad g k → H1[q]? = H[q]?) → WPe g K en' H1 → va_S (AA g) s.heap H1 locs1 → W p l e R s m args below meth c H1 locs1 cells slots Q (F0 m (pc + 3) ls rest)) : W p l e R s m args below meth c H locs cells slots Q (F0 m pc ls (v :: .ref (ad g k) :: rest)) := by
  obtain ⟨hx, hb, hml, hown, hG⟩ := hC
  subst href
  have hK := hE.1
  have hap := va_apart (own := own) hG hu ty0 hty hnm hK hc
  have h0 := hP k hk
  rw [he] at h0
  obtain ⟨r, e1, cell, q1, q2, q3, q4⟩ := h0
  have hr : r = (C, T, N) := Option.some.inj (e1.symm.trans hc)
  subst hr
  obtain ⟨hSl, hfc, kC, hkC, hkind⟩ := hK.1 ci _ hc
  obtain ⟨cf, kf, fi, fd, hi, hsl⟩ := hSl f hf
  have hlay := hG _ (hu _ (u_in_lay hf))
  unfold u_lay at hlay
  rw [if_neg (by rw [hfin]; decide)] at hlay
  have hst := (u_facts hfc hkC (u_lays hG hu hf) hi).1
  have h6 := u_store hfc hkC hkind hlay hi (hty f hf) hn hfit
  refine W.putK hx hb (f := fd) ⟨hown, hG _ hlink, ⟨_, _, _, hi⟩, hst⟩ (by rw [q2]; exact h6) q1 q3 (by rw [hsl]; exact k2_hasslot (q4 f hf)) rfl rfl hdg fun H' z1 z2 z3 => ?_
  rw [hsl] at z1 ⊢
  refine kk H' _ (fun q hq => z3 q hq) (fun j hj => ?_) (hS.put z2 z3 (hI.2 k hk))
  by_cases hjk : j = k
  · subst hjk
    rw [h1]
    exact ⟨_, hc, t_OB.to (V := updV (vp_V fs) f v) ⟨_, z1, q2, q3, t_set q4 hap hf v⟩ (fun j _ => vp_updV_set hl v j)⟩
  · rw [h2 j hj hjk]
    exact (hP j hj).kept (z3 _ (fun z => hjk (hI.1 j k hj hk z)))
theorem on_r {B : Nat → Heap → Prop} {mc ms : Nat} {a : Array Value} (hr : va_Run p l e R s m args below meth c H locs cells slots mc ms (F0 m pc ls st) rest (Qr g K en B a) (AA g)) (hS : va_S (AA g) s.heap H locs)
    (kk : ∀ (a1 : Nat) (H1 : Heap) (locs1 : List Loc), WPe g K en H1 → B a1 H1 → va_S (AA g) s.heap H1 locs1 → W p l e R s m args below meth c H1 locs1 (cells + mc) (slots + ms) Q (F0 m (pc + 3) ls (.ref a1 :: rest))) : W p l e R s m args below meth c H locs cells slots Q (F0 m pc ls st) := by
  refine va_callr hr hS (fun q _ h => h) (fun q h => h) (fun u ra t H1 locs1 ht hvm hw hB hz hk hS1 => ?_)
  rw [ht] at hB
  exact kk ra H1 locs1 hB.1 hB.2 hS1
end MP
theorem SimL.addH {g : Gm} {v u : Vw} (h : SimL g v) (zL : lk g (23, 0, nH v)) (e0 : nH u = nH v + 1) (e1 : nS u = nS v) (e2 : nW u = nW v) : SimL g u := by
  unfold SimL
  rw [e0, e1, e2]
  refine ⟨h.1, h.2.1, h.2.2.1, fun i hi => ?_, h.2.2.2.2⟩
  by_cases q : i < nH v
  · exact h.2.2.2.1 i q
  · rw [show i = nH v from by omega]; exact zL
theorem SimL.addS {g : Gm} {v u : Vw} (h : SimL g v) (zL : lk g (24, 2, nS v)) (e0 : nH u = nH v) (e1 : nS u = nS v + 1) (e2 : nW u = nW v) : SimL g u := by
  unfold SimL
  rw [e0, e1, e2]
  refine ⟨h.1, h.2.1, h.2.2.1, h.2.2.2.1, fun i hi => ?_, h.2.2.2.2.2⟩
  by_cases q : i < nS v
  · exact h.2.2.2.2.1 i q
  · rw [show i = nS v from by omega]; exact zL
theorem SimL.addW {g : Gm} {v u : Vw} (h : SimL g v) (zL : lk g (25, 2, nW v)) (e0 : nH u = nH v) (e1 : nS u = nS v) (e2 : nW u = nW v + 1) : SimL g u := by
  unfold SimL
  rw [e0, e1, e2]
  refine ⟨h.1, h.2.1, h.2.2.1, h.2.2.2.1, h.2.2.2.2.1, fun i hi => ?_, h.2.2.2.2.2.2⟩
  by_cases q : i < nW v
  · exact h.2.2.2.2.2.1 i q
  · rw [show i = nW v from by omega]; exact zL
/-- a cell let go -/
def gX (g : Gm) (k : Key) : Gm := (g.1, (ad g, (bs g, fun j => j ≠ k ∧ lk g j)))
theorem gX_no {g : Gm} {k : Key} (h : KK (gX g k) k) (ht : 20 ≤ k.1) : False := by
  obtain ⟨t, a, b⟩ := k
  have ht : 20 ≤ t := ht
  have ht2 := KK_tag h
  have ht2 : t < 9 ∨ (20 ≤ t ∧ t < 31) := ht2
  have ht : t = 20 ∨ t = 21 ∨ t = 22 ∨ t = 23 ∨ t = 24 ∨ t = 25 ∨ t = 26 ∨ t = 27 ∨ t = 28 ∨ t = 29 ∨ t = 30 := by omega
  rcases ht with rfl | rfl | rfl | rfl | rfl | rfl | rfl | rfl | rfl | rfl | rfl <;> exact h.2.1 rfl
theorem nk_1 {t u a b c d : Nat} (h : t ≠ u) : ((t, a, b) : Key) ≠ (u, c, d) := fun z => h (congrArg Prod.fst z)
/-- the picture's own cell set apart -/
def enP (e : va_E) (en : Key → va_E) (k : Key) : va_E := if k = (20, 0, 0) then e else en k
theorem enP_20 {e : va_E} {en : Key → va_E} : enP e en (20, 0, 0) = e := if_pos rfl
theorem enP_ne {e : va_E} {en : Key → va_E} {k : Key} (h : k ≠ (20, 0, 0)) : enP e en k = en k := if_neg h
/-- one cell more, at a -/
def gA (g : Gm) (k : Key) (a : Nat) : Gm := (g.1, (fun j => if j = k then a else ad g j, (bs g, fun j => j = k ∨ lk g j)))
theorem gA_ad {g : Gm} {k : Key} {a : Nat} : ad (gA g k a) k = a := if_pos rfl
theorem gA_ne {g : Gm} {k j : Key} {a : Nat} (h : j ≠ k) : ad (gA g k a) j = ad g j := if_neg h
theorem KK_lk {g g' : Gm} {j : Key} (e : lk g j → lk g' j) (h : KK g j) : KK g' j := by
  obtain ⟨t, a, b⟩ := j
  have ht := KK_tag h
  have ht : t < 9 ∨ (20 ≤ t ∧ t < 31) := ht
  have ht : t = 0 ∨ t = 1 ∨ t = 2 ∨ t = 3 ∨ t = 4 ∨ t = 5 ∨ t = 6 ∨ t = 7 ∨ t = 8 ∨ t = 20 ∨ t = 21 ∨ t = 22 ∨ t = 23 ∨ t = 24 ∨ t = 25 ∨ t = 26 ∨ t = 27 ∨ t = 28 ∨ t = 29 ∨ t = 30 := by omega
  rcases ht with rfl | rfl | rfl | rfl | rfl | rfl | rfl | rfl | rfl | rfl | rfl | rfl | rfl | rfl | rfl | rfl | rfl | rfl | rfl | rfl <;> first | exact h | exact ⟨h.1, e h.2⟩
theorem gA_up {g : Gm} {k j : Key} {a : Nat} (h : KK g j) : KK (gA g k a) j := KK_lk Or.inr h
theorem gA_dn {g : Gm} {k j : Key} {a : Nat} (hj : j ≠ k) (h : KK (gA g k a) j) : KK g j := KK_lk (fun q => Or.resolve_left (show j = k ∨ lk g j from q) hj) h
theorem SimL.gA {g : Gm} {v : Vw} {k : Key} {a : Nat} (h : SimL g v) : SimL (gA g k a) v := ⟨Or.inr h.1, fun c x h1 h2 => Or.inr (h.2.1 c x h1 h2), Or.inr h.2.2.1, fun i hi => Or.inr (h.2.2.2.1 i hi), fun i hi => Or.inr (h.2.2.2.2.1 i hi), fun i hi => Or.inr (h.2.2.2.2.2.1 i hi), fun c hc => Or.inr (h.2.2.2.2.2.2.1 c hc), Or.inr h.2.2.2.2.2.2.2.1, Or.inr h.2.2.2.2.2.2.2.2.1, Or.inr h.2.2.2.2.2.2.2.2.2⟩
theorem Gk.gA {g : Gm} {k : Key} {a : Nat} (h : ¬ LK k) : Gk g (gA g k a) := ⟨rfl, rfl, fun j hj => ⟨gA_ne (fun z => h (z ▸ hj)), Or.inr⟩⟩
/-- cells taken into the world, at hand already -/
theorem adopt {g g' : Gm} {M M' : Mem} {o : Nat → Int64} {H : Heap} (X : Key → Prop) (kN : Key) (hX : X kN) (e1 : g'.1 = g.1) (e2 : bs g' = bs g) (hA : ∀ k, KK g' k → k ≠ kN → KK g k ∧ ad g' k = ad g k) (hab : ∀ k, KK g k → k ≠ kN → ad g k ≠ ad g' kN) (hbs : bs g ≤ ad g' kN) (hx : ∀ k, KK g' k → X k → va_at (gD g) cls7 (ad g' k, ent g' M' o k) H) (hd : ∀ k, KK g k → ¬ X k → ∀ r c i, dep k r c i → M' r c i = M r c i) (hr : ∀ k j, KK g k → ¬ X k → rfs M k j → ad g' j = ad g j) (hP : ∀ k, KK g k → ¬ X k → va_at (gD g) cls7 (ad g k, ent g M o k) H) (hI : IJ g (KK g)) : WP g' M' o H ∧ IJ g' (KK g') := by
  have e3 : gD g' = gD g := by unfold gD; rw [e1]
  refine ⟨fun k hk => ?_, fun j k h1 h2 e => ?_, fun k hk => ?_⟩
  · by_cases hz : X k
    · rw [e3]; exact hx k hk hz
    · have hz2 : k ≠ kN := fun q => hz (q ▸ hX)
      obtain ⟨q1, q2⟩ := hA k hk hz2
      rw [q2]
      exact ent_re e1 q1 (hd k q1 hz) (fun j q => hr k j q1 hz q) (hP k q1 hz)
  · by_cases z1 : j = kN
    · by_cases z2 : k = kN
      · rw [z1, z2]
      · rw [(hA k h2 z2).2, z1] at e
        exact absurd e.symm (hab k (hA k h2 z2).1 z2)
    · by_cases z2 : k = kN
      · rw [(hA j h1 z1).2, z2] at e
        exact absurd e (hab j (hA j h1 z1).1 z1)
      · exact hI.1 j k (hA j h1 z1).1 (hA k h2 z2).1 (by rw [← (hA j h1 z1).2, ← (hA k h2 z2).2]; exact e)
  · rw [e2]
    by_cases z : k = kN
    · rw [z]; exact hbs
    · rw [(hA k hk z).2]
      exact hI.2 k (hA k hk z).1
theorem rfs_23 {M : Mem} {k j : Key} (h : rfs M k j) (hj : j.1 = 23) : k.1 = 27 ∧ ∃ i, i < nH (M 2) ∧ j = (23, 0, i) := by
  unfold rfs at h
  split at h <;> first | omega | (rename_i ht; exact ⟨ht, h⟩) | (rcases h with rfl | rfl | rfl | rfl | rfl | rfl <;> cases hj) | (obtain ⟨i, _, rfl⟩ := h; cases hj) | exact h.elim
theorem rfs_24 {M : Mem} {k j : Key} (h : rfs M k j) (hj : j.1 = 24) : k.1 = 28 ∧ ∃ i, i < nS (M k.2.1) ∧ j = (24, k.2.1, i) := by
  unfold rfs at h
  split at h <;> first | omega | (rename_i ht; exact ⟨ht, h⟩) | (rcases h with rfl | rfl | rfl | rfl | rfl | rfl <;> cases hj) | (obtain ⟨i, _, rfl⟩ := h; cases hj) | exact h.elim
theorem rfs_25 {M : Mem} {k j : Key} (h : rfs M k j) (hj : j.1 = 25) : k.1 = 29 ∧ ∃ i, i < nW (M k.2.1) ∧ j = (25, k.2.1, i) := by
  unfold rfs at h
  split at h <;> first | omega | (rename_i ht; exact ⟨ht, h⟩) | (rcases h with rfl | rfl | rfl | rfl | rfl | rfl <;> cases hj) | (obtain ⟨i, _, rfl⟩ := h; cases hj) | exact h.elim
theorem rfs_out {M : Mem} {k j : Key} (h : rfs M k j) (hj : 27 ≤ j.1) : k.1 = 20 := by
  unfold rfs at h
  split at h <;> first | omega | (rename_i ht; exact ht) | (obtain ⟨i, _, rfl⟩ := h; simp at hj) | exact h.elim
theorem dm {g : Gm} {k kb : Key} {M : Mem} {r : Nat} {v : Vw} {c i : Nat} {x : Int32} (hk : KK g k) (hkb : keyOf r c i = kb) (hz : k ≠ kb) {r' c' i' : Nat} (hd : dep k r' c' i') : setR M r (up2 v c i x) r' c' i' = setR M r v r' c' i' := by
  by_cases h : r' = r
  · subst h
    rw [setR_same, setR_same]
    by_cases hc : c' = c
    · subst hc
      by_cases hi : i' = i
      · subst hi
        exact absurd ((dep_key hk hd).trans hkb) hz
      · exact up2_i hi
    · exact up2_c hc
  · rw [setR_ne _ _ h, setR_ne _ _ h]
theorem own_H {g : Gm} {M : Mem} {o : Nat → Int64} {H : Heap} {v : Vw} {a : Nat} {fb : Nat → Int32} (hI : IJ g (KK g)) (hP : WP g (setR M 2 v) o H) (ha : H[a]? = some (vp_cell (gC g 0) (3, .inl fb))) (hA : AA g a) (hab : ∀ k, KK g k → ad g k ≠ a) {x0 x1 x2 : Int32} (hfb : ∀ j, j < 3 → fb j = rH (up2 (up2 (up2 v 3 (nH v) x0) 4 (nH v) x1) 5 (nH v) x2) (nH v) j) : WP (gA g (23, 0, nH v) a) (setR M 2 (up2 (up2 (up2 v 3 (nH v) x0) 4 (nH v) x1) 5 (nH v) x2)) o H ∧ IJ (gA g (23, 0, nH v) a) (KK (gA g (23, 0, nH v) a)) := by
  refine adopt (g := g) (fun k => k = (23, 0, nH v)) (23, 0, nH v) rfl rfl rfl (fun k hk hz => ⟨gA_dn hz hk, gA_ne hz⟩) (fun k hk hz => by rw [gA_ad]; exact hab k hk) (by rw [gA_ad]; exact hA) (fun k hk hx => ?_) (fun k hk hz r c i hd => ?_) (fun k j hk hz hrf => gA_ne ?_) (fun k hk _ => hP k hk) hI
  · subst hx
    rw [gA_ad, e_23]
    show H[a]? = some (vp_cell (gC g 0) (3, .inl (rH (up2 (up2 (up2 v 3 (nH v) x0) 4 (nH v) x1) 5 (nH v) x2) (nH v))))
    rw [ha, vp_cell_i, vp_cell_i, arrV_eq (fun j hj => congrArg Value.int (hfb j hj))]
  · exact (dm hk (kf_23 (by decide) (by decide)) hz hd).trans ((dm hk (kf_23 (by decide) (by decide)) hz hd).trans (dm hk (kf_23 (by decide) (by decide)) hz hd))
  · intro z
    subst z
    obtain ⟨_, i, h1, h2⟩ := rfs_23 hrf rfl
    rw [setR_same] at h1; have h3 : nH v = i := congrArg (fun q : Key => q.2.2) h2; omega
set_option maxHeartbeats 4000000 in
theorem m_growH {p : Program} {l : Launch} {e : Jvm.Env} {R : Room} {s : State} {m : MethodId} {args : Array Value} {below : List Frame} {meth : Method} {c : Code} {H : Heap} {locs : List Loc} {cells slots : Nat} {Q : State → Prop} {pc : Nat} {ls : Array Slot} {g : Gm} {M : Mem} {o : Nat → Int64} {v : Vw} {x0 x1 x2 : Int32} (hC : CallFix p m c cL_act 11 s args LG RL) (hE : Ev g s) (hI : IJ g (KK g)) (hL : SimL g v) (hn : nH v < 12) (zL : lk g (23, 0, nH v)) (hP : WP g (setR M 2 (up2 (up2 (up2 v 3 (nH v) x0) 4 (nH v) x1) 5 (nH v) x2)) o H) (hS : va_S (AA g) s.heap H locs) (d1 : decode cL_act pc = .ok (.invokestatic 52, 3)) (d2 : decode cL_act (pc + 3) = .ok (.putfield 44, 3)) (hls : ls.size = 11) (hc : cells + 1 ≤ R.cells) (hs : slots + 13 ≤ R.slots) (hR : 1 ≤ R.frames ∧ 23 ≤ R.locals)
    (kk : ∀ (g' : Gm) (H1 : Heap) (locs1 : List Loc), Gk g g' → SimL g' (up2 (up2 (up2 (up2 v 3 (nH v) x0) 4 (nH v) x1) 5 (nH v) x2) 16 0 (nI (nH v + 1))) → IJ g' (KK g') → WP g' (setR M 2 (up2 (up2 (up2 (up2 v 3 (nH v) x0) 4 (nH v) x1) 5 (nH v) x2) 16 0 (nI (nH v + 1)))) o H1 → va_S (AA g) s.heap H1 locs1 → W p l e R s m args below meth c H1 locs1 (cells + 1) (slots + 13) Q (F0 m (pc + 6) ls [])) : W p l e R s m args below meth c H locs cells slots Q (F0 m pc ls [.ref (ad g (23, 0, nH v)), .ref (ad g (27, 0, 0)), .ref (ad g (20, 0, 0))]) := by
  have hcn : Cn v (up2 (up2 (up2 v 3 (nH v) x0) 4 (nH v) x1) 5 (nH v) x2) := (Cn.up (Cn.up (Cn.up Cn.rf (by omega)) (by omega)) (by omega))
  have hL2 := hL.cn hcn
  have en : nH (up2 (up2 (up2 v 3 (nH v) x0) 4 (nH v) x1) 5 (nH v) x2) = nH v := hcn.1
  have e0 : nH (up2 (up2 (up2 (up2 v 3 (nH v) x0) 4 (nH v) x1) 5 (nH v) x2) 16 0 (nI (nH v + 1))) = nH v + 1 := nI_clamp (by omega)
  have e1 : nS (up2 (up2 (up2 (up2 v 3 (nH v) x0) 4 (nH v) x1) 5 (nH v) x2) 16 0 (nI (nH v + 1))) = nS (up2 (up2 (up2 v 3 (nH v) x0) 4 (nH v) x1) 5 (nH v) x2) := nS_u (by omega)
  have e2 : nW (up2 (up2 (up2 (up2 v 3 (nH v) x0) 4 (nH v) x1) 5 (nH v) x2) 16 0 (nI (nH v + 1))) = nW (up2 (up2 (up2 v 3 (nH v) x0) 4 (nH v) x1) 5 (nH v) x2) := nW_u (by omega)
  have e3 : (up2 (up2 (up2 (up2 v 3 (nH v) x0) 4 (nH v) x1) 5 (nH v) x2) 16 0 (nI (nH v + 1))) 16 3 = (up2 (up2 (up2 v 3 (nH v) x0) 4 (nH v) x1) 5 (nH v) x2) 16 3 := up2_i (by decide)
  have e4 : (up2 (up2 (up2 (up2 v 3 (nH v) x0) 4 (nH v) x1) 5 (nH v) x2) 16 0 (nI (nH v + 1))) 16 4 = (up2 (up2 (up2 v 3 (nH v) x0) 4 (nH v) x1) 5 (nH v) x2) 16 4 := up2_i (by decide)
  refine on_r (rest := [.ref (ad g (20, 0, 0))]) (run_S hC hE hP hS (As := [.ref (ad g (27, 0, 0)), .ref (ad g (23, 0, nH v))]) (c_more l (k_27 hL2) (kb := (23, 0, nH v)) ⟨rfl, zL⟩ e_27 e_23 (by omega) (fun i hi => ⟨(23, 0, i), 3, _, ⟨rfl, hL2.2.2.2.1 i hi⟩, rfl, e_23⟩)) cal_X5_more w_606 ⟨by show 0 + 1 ≤ R.frames; omega, by show 8 + (4 + 11) + 0 ≤ R.locals; omega⟩ rfl rfl (Nat.le_of_ble_eq_true rfl) hls ⟨hc, hs⟩ d1) hS (fun a2 H2 locs2 hP2 hB hS2 => ?_)
  obtain ⟨hB1, hB2, hB3⟩ := hB
  refine m_putO hC hE hI hP2 hS2 (k_20 hL2) e_20 rfl u_5 tyX5_ok nmX5 3 (by decide) w_656 rfl rfl rfl rfl (Nat.le_of_ble_eq_true rfl) (en' := enP (.inr (5, ([.ref (ad g (26, 0, 0)), .ref (ad g (26, 1, 0)), .ref (ad g (22, 0, 0)), .ref (ad g (27, 0, 0)), .ref (ad g (28, 2, 0)), .ref (ad g (29, 2, 0)), .int ((up2 (up2 (up2 v 3 (nH v) x0) 4 (nH v) x1) 5 (nH v) x2) 16 4), .int ((up2 (up2 (up2 v 3 (nH v) x0) 4 (nH v) x1) 5 (nH v) x2) 16 3)] : List Value).set 3 (.ref a2))) (ent g (setR M 2 (up2 (up2 (up2 v 3 (nH v) x0) 4 (nH v) x1) 5 (nH v) x2)) o)) enP_20 (fun j _ hj => enP_ne hj) d2 (fun H3 locs3 z3 hP3 hS3 => ?_)
  have hB4 := hB1
  rw [← z3 a2 (fun z => hB3 _ (k_20 hL2) z.symm)] at hB4
  have fin := adopt (g := g) (g' := gA g (27, 0, 0) a2) (M := setR M 2 (up2 (up2 (up2 v 3 (nH v) x0) 4 (nH v) x1) 5 (nH v) x2)) (M' := setR M 2 (up2 (up2 (up2 (up2 v 3 (nH v) x0) 4 (nH v) x1) 5 (nH v) x2) 16 0 (nI (nH v + 1)))) (o := o) (H := H3) (fun k => k = (27, 0, 0) ∨ k = (20, 0, 0)) (27, 0, 0) (Or.inl rfl) rfl rfl (fun k hk hz => ⟨gA_dn hz hk, gA_ne hz⟩) (fun k hk hz => by rw [gA_ad]; exact hB3 k hk) (by rw [gA_ad]; exact hB2) (fun k hk hx => by
    rcases hx with rfl | rfl
    · rw [gA_ad, e_27]
      show H3[a2]? = some (vp_cell (gC g 4) (refs (nH (up2 (up2 (up2 (up2 v 3 (nH v) x0) 4 (nH v) x1) 5 (nH v) x2) 16 0 (nI (nH v + 1)))) (fun i => ad (gA g (27, 0, 0) a2) (23, 0, i))))
      rw [e0, refs_eq (f := fun i => if i < nH (up2 (up2 (up2 v 3 (nH v) x0) 4 (nH v) x1) 5 (nH v) x2) then ad g (23, 0, i) else ad g (23, 0, nH v)) (fun i hi => ?_), ← en]
      · exact hB4
      · show ad (gA g (27, 0, 0) a2) (23, 0, i) = _
        rw [gA_ne (fun z => absurd (congrArg Prod.fst z) (by show ¬ 23 = 27; decide))]
        by_cases q : i < nH (up2 (up2 (up2 v 3 (nH v) x0) 4 (nH v) x1) 5 (nH v) x2)
        · rw [if_pos q]
        · rw [if_neg q, show i = nH v from by omega]
    · have q := hP3 _ (k_20 hL2)
      rw [enP_20] at q
      rw [e_20, gA_ne (k := (27, 0, 0)) (j := (20, 0, 0)) (by decide), gA_ne (k := (27, 0, 0)) (j := (26, 0, 0)) (by decide), gA_ne (k := (27, 0, 0)) (j := (26, 1, 0)) (by decide), gA_ne (k := (27, 0, 0)) (j := (22, 0, 0)) (by decide), gA_ad, gA_ne (k := (27, 0, 0)) (j := (28, 2, 0)) (by decide), gA_ne (k := (27, 0, 0)) (j := (29, 2, 0)) (by decide), e3, e4]
      exact q) (fun k hk hz r c i hd => dm (r := 2) (c := 16) (i := 0) (kb := (27, 0, 0)) hk rfl (fun q => hz (Or.inl q)) hd) (fun k j hk hz hrf => gA_ne (fun z => by
    subst z
    have h20 := rfs_out hrf (by decide)
    obtain ⟨t, a, b⟩ := k
    have h20 : t = 20 := h20
    subst h20
    obtain ⟨⟨h1, h2⟩, _⟩ := (show (a = 0 ∧ b = 0) ∧ _ from hk)
    exact hz (Or.inr (by rw [h1, h2])))) (fun k hk hz => by
    have q := hP3 k hk
    rw [enP_ne (fun z => hz (Or.inr z))] at q
    exact q) hI
  exact kk _ H3 locs3 (Gk.gA (by unfold LK; decide)) (hL2.gA.addH (Or.inr (by rw [en]; exact zL)) (by rw [e0, en]) (by rw [e1]) (by rw [e2])) fin.2 fin.1 hS3
theorem drop_H {g : Gm} {M : Mem} {o : Nat → Int64} {H : Heap} {v : Vw} {x0 x1 x2 : Int32} (hP : WP g (setR M 2 (up2 (up2 (up2 v 3 (nH v) x0) 4 (nH v) x1) 5 (nH v) x2)) o H) (hL : SimL g v) : WP (gX g (23, 0, nH v)) (setR M 2 v) o H ∧ SimL (gX g (23, 0, nH v)) v := by
  refine ⟨fun k hk => ?_, ?_⟩
  · have hz : k ≠ (23, 0, nH v) := fun z => gX_no (z ▸ hk) (by show 20 ≤ 23; decide)
    have hk2 : KK g k := KK_lk (fun q => And.right (show k ≠ (23, 0, nH v) ∧ lk g k from q)) hk
    have h := hP k hk2
    rw [← ent_congr (M' := setR M 2 v) hk2 (fun r c i hd => ((dm hk (kf_23 (by decide) (by decide)) hz hd).trans ((dm hk (kf_23 (by decide) (by decide)) hz hd).trans (dm hk (kf_23 (by decide) (by decide)) hz hd))).symm)] at h
    exact ent_re (g := g) (g' := gX g (23, 0, nH v)) rfl hk2 (fun r c i _ => rfl) (fun j _ => rfl) h
  · refine ⟨⟨nk_1 (by decide), hL.1⟩, fun c x h1 h2 => ⟨nk_1 (by decide), hL.2.1 c x h1 h2⟩, ⟨nk_1 (by decide), hL.2.2.1⟩, fun i hi => ⟨fun z => absurd (congrArg (fun q : Key => q.2.2) z) (Nat.ne_of_lt hi), hL.2.2.2.1 i hi⟩, fun i hi => ⟨nk_1 (by decide), hL.2.2.2.2.1 i hi⟩, fun i hi => ⟨nk_1 (by decide), hL.2.2.2.2.2.1 i hi⟩, fun c hc => ⟨nk_1 (by decide), hL.2.2.2.2.2.2.1 c hc⟩, ⟨nk_1 (by decide), hL.2.2.2.2.2.2.2.1⟩, ⟨nk_1 (by decide), hL.2.2.2.2.2.2.2.2.1⟩, ⟨nk_1 (by decide), hL.2.2.2.2.2.2.2.2.2⟩⟩
theorem own_S {g : Gm} {M : Mem} {o : Nat → Int64} {H : Heap} {v : Vw} {a : Nat} {fb : Nat → Int32} (hI : IJ g (KK g)) (hP : WP g (setR M 2 v) o H) (ha : H[a]? = some (vp_cell (gC g 0) (6, .inl fb))) (hA : AA g a) (hab : ∀ k, KK g k → ad g k ≠ a) {x0 x1 x2 x3 x4 x5 : Int32} (hfb : ∀ j, j < 6 → fb j = rS (up2 (up2 (up2 (up2 (up2 (up2 v 6 (nS v) x0) 7 (nS v) x1) 8 (nS v) x2) 9 (nS v) x3) 10 (nS v) x4) 11 (nS v) x5) (nS v) j) : WP (gA g (24, 2, nS v) a) (setR M 2 (up2 (up2 (up2 (up2 (up2 (up2 v 6 (nS v) x0) 7 (nS v) x1) 8 (nS v) x2) 9 (nS v) x3) 10 (nS v) x4) 11 (nS v) x5)) o H ∧ IJ (gA g (24, 2, nS v) a) (KK (gA g (24, 2, nS v) a)) := by
  refine adopt (g := g) (fun k => k = (24, 2, nS v)) (24, 2, nS v) rfl rfl rfl (fun k hk hz => ⟨gA_dn hz hk, gA_ne hz⟩) (fun k hk hz => by rw [gA_ad]; exact hab k hk) (by rw [gA_ad]; exact hA) (fun k hk hx => ?_) (fun k hk hz r c i hd => ?_) (fun k j hk hz hrf => gA_ne ?_) (fun k hk _ => hP k hk) hI
  · subst hx
    rw [gA_ad, e_24]
    show H[a]? = some (vp_cell (gC g 0) (6, .inl (rS (up2 (up2 (up2 (up2 (up2 (up2 v 6 (nS v) x0) 7 (nS v) x1) 8 (nS v) x2) 9 (nS v) x3) 10 (nS v) x4) 11 (nS v) x5) (nS v))))
    rw [ha, vp_cell_i, vp_cell_i, arrV_eq (fun j hj => congrArg Value.int (hfb j hj))]
  · exact (dm hk (kf_24 (Or.inl rfl) (by decide) (by decide)) hz hd).trans ((dm hk (kf_24 (Or.inl rfl) (by decide) (by decide)) hz hd).trans ((dm hk (kf_24 (Or.inl rfl) (by decide) (by decide)) hz hd).trans ((dm hk (kf_24 (Or.inl rfl) (by decide) (by decide)) hz hd).trans ((dm hk (kf_24 (Or.inl rfl) (by decide) (by decide)) hz hd).trans (dm hk (kf_24 (Or.inl rfl) (by decide) (by decide)) hz hd)))))
  · intro z
    subst z
    obtain ⟨_, i, h1, h2⟩ := rfs_24 hrf rfl
    have h4 : 2 = k.2.1 := congrArg (fun q : Key => q.2.1) h2; rw [← h4, setR_same] at h1; have h3 : nS v = i := congrArg (fun q : Key => q.2.2) h2; omega
set_option maxHeartbeats 4000000 in
theorem m_growS {p : Program} {l : Launch} {e : Jvm.Env} {R : Room} {s : State} {m : MethodId} {args : Array Value} {below : List Frame} {meth : Method} {c : Code} {H : Heap} {locs : List Loc} {cells slots : Nat} {Q : State → Prop} {pc : Nat} {ls : Array Slot} {g : Gm} {M : Mem} {o : Nat → Int64} {v : Vw} {x0 x1 x2 x3 x4 x5 : Int32} (hC : CallFix p m c cL_act 11 s args LG RL) (hE : Ev g s) (hI : IJ g (KK g)) (hL : SimL g v) (hn : nS v < 8) (zL : lk g (24, 2, nS v)) (hP : WP g (setR M 2 (up2 (up2 (up2 (up2 (up2 (up2 v 6 (nS v) x0) 7 (nS v) x1) 8 (nS v) x2) 9 (nS v) x3) 10 (nS v) x4) 11 (nS v) x5)) o H) (hS : va_S (AA g) s.heap H locs) (d1 : decode cL_act pc = .ok (.invokestatic 52, 3)) (d2 : decode cL_act (pc + 3) = .ok (.putfield 56, 3)) (hls : ls.size = 11) (hc : cells + 1 ≤ R.cells) (hs : slots + 13 ≤ R.slots) (hR : 1 ≤ R.frames ∧ 23 ≤ R.locals)
    (kk : ∀ (g' : Gm) (H1 : Heap) (locs1 : List Loc), Gk g g' → SimL g' (up2 (up2 (up2 (up2 (up2 (up2 (up2 v 6 (nS v) x0) 7 (nS v) x1) 8 (nS v) x2) 9 (nS v) x3) 10 (nS v) x4) 11 (nS v) x5) 16 1 (nI (nS v + 1))) → IJ g' (KK g') → WP g' (setR M 2 (up2 (up2 (up2 (up2 (up2 (up2 (up2 v 6 (nS v) x0) 7 (nS v) x1) 8 (nS v) x2) 9 (nS v) x3) 10 (nS v) x4) 11 (nS v) x5) 16 1 (nI (nS v + 1)))) o H1 → va_S (AA g) s.heap H1 locs1 → W p l e R s m args below meth c H1 locs1 (cells + 1) (slots + 13) Q (F0 m (pc + 6) ls [])) : W p l e R s m args below meth c H locs cells slots Q (F0 m pc ls [.ref (ad g (24, 2, nS v)), .ref (ad g (28, 2, 0)), .ref (ad g (20, 0, 0))]) := by
  have hcn : Cn v (up2 (up2 (up2 (up2 (up2 (up2 v 6 (nS v) x0) 7 (nS v) x1) 8 (nS v) x2) 9 (nS v) x3) 10 (nS v) x4) 11 (nS v) x5) := (Cn.up (Cn.up (Cn.up (Cn.up (Cn.up (Cn.up Cn.rf (by omega)) (by omega)) (by omega)) (by omega)) (by omega)) (by omega))
  have hL2 := hL.cn hcn
  have en : nS (up2 (up2 (up2 (up2 (up2 (up2 v 6 (nS v) x0) 7 (nS v) x1) 8 (nS v) x2) 9 (nS v) x3) 10 (nS v) x4) 11 (nS v) x5) = nS v := hcn.2.1
  have e0 : nH (up2 (up2 (up2 (up2 (up2 (up2 (up2 v 6 (nS v) x0) 7 (nS v) x1) 8 (nS v) x2) 9 (nS v) x3) 10 (nS v) x4) 11 (nS v) x5) 16 1 (nI (nS v + 1))) = nH (up2 (up2 (up2 (up2 (up2 (up2 v 6 (nS v) x0) 7 (nS v) x1) 8 (nS v) x2) 9 (nS v) x3) 10 (nS v) x4) 11 (nS v) x5) := nH_u (by omega)
  have e1 : nS (up2 (up2 (up2 (up2 (up2 (up2 (up2 v 6 (nS v) x0) 7 (nS v) x1) 8 (nS v) x2) 9 (nS v) x3) 10 (nS v) x4) 11 (nS v) x5) 16 1 (nI (nS v + 1))) = nS v + 1 := nI_clamp (by omega)
  have e2 : nW (up2 (up2 (up2 (up2 (up2 (up2 (up2 v 6 (nS v) x0) 7 (nS v) x1) 8 (nS v) x2) 9 (nS v) x3) 10 (nS v) x4) 11 (nS v) x5) 16 1 (nI (nS v + 1))) = nW (up2 (up2 (up2 (up2 (up2 (up2 v 6 (nS v) x0) 7 (nS v) x1) 8 (nS v) x2) 9 (nS v) x3) 10 (nS v) x4) 11 (nS v) x5) := nW_u (by omega)
  have e3 : (up2 (up2 (up2 (up2 (up2 (up2 (up2 v 6 (nS v) x0) 7 (nS v) x1) 8 (nS v) x2) 9 (nS v) x3) 10 (nS v) x4) 11 (nS v) x5) 16 1 (nI (nS v + 1))) 16 3 = (up2 (up2 (up2 (up2 (up2 (up2 v 6 (nS v) x0) 7 (nS v) x1) 8 (nS v) x2) 9 (nS v) x3) 10 (nS v) x4) 11 (nS v) x5) 16 3 := up2_i (by decide)
  have e4 : (up2 (up2 (up2 (up2 (up2 (up2 (up2 v 6 (nS v) x0) 7 (nS v) x1) 8 (nS v) x2) 9 (nS v) x3) 10 (nS v) x4) 11 (nS v) x5) 16 1 (nI (nS v + 1))) 16 4 = (up2 (up2 (up2 (up2 (up2 (up2 v 6 (nS v) x0) 7 (nS v) x1) 8 (nS v) x2) 9 (nS v) x3) 10 (nS v) x4) 11 (nS v) x5) 16 4 := up2_i (by decide)
  refine on_r (rest := [.ref (ad g (20, 0, 0))]) (run_S hC hE hP hS (As := [.ref (ad g (28, 2, 0)), .ref (ad g (24, 2, nS v))]) (c_more l (k_28 hL2) (kb := (24, 2, nS v)) ⟨Or.inl rfl, zL⟩ e_28 e_24 (by omega) (fun i hi => ⟨(24, 2, i), 6, _, ⟨Or.inl rfl, hL2.2.2.2.2.1 i hi⟩, rfl, e_24⟩)) cal_X5_more w_606 ⟨by show 0 + 1 ≤ R.frames; omega, by show 8 + (4 + 11) + 0 ≤ R.locals; omega⟩ rfl rfl (Nat.le_of_ble_eq_true rfl) hls ⟨hc, hs⟩ d1) hS (fun a2 H2 locs2 hP2 hB hS2 => ?_)
  obtain ⟨hB1, hB2, hB3⟩ := hB
  refine m_putO hC hE hI hP2 hS2 (k_20 hL2) e_20 rfl u_5 tyX5_ok nmX5 4 (by decide) w_658 rfl rfl rfl rfl (Nat.le_of_ble_eq_true rfl) (en' := enP (.inr (5, ([.ref (ad g (26, 0, 0)), .ref (ad g (26, 1, 0)), .ref (ad g (22, 0, 0)), .ref (ad g (27, 0, 0)), .ref (ad g (28, 2, 0)), .ref (ad g (29, 2, 0)), .int ((up2 (up2 (up2 (up2 (up2 (up2 v 6 (nS v) x0) 7 (nS v) x1) 8 (nS v) x2) 9 (nS v) x3) 10 (nS v) x4) 11 (nS v) x5) 16 4), .int ((up2 (up2 (up2 (up2 (up2 (up2 v 6 (nS v) x0) 7 (nS v) x1) 8 (nS v) x2) 9 (nS v) x3) 10 (nS v) x4) 11 (nS v) x5) 16 3)] : List Value).set 4 (.ref a2))) (ent g (setR M 2 (up2 (up2 (up2 (up2 (up2 (up2 v 6 (nS v) x0) 7 (nS v) x1) 8 (nS v) x2) 9 (nS v) x3) 10 (nS v) x4) 11 (nS v) x5)) o)) enP_20 (fun j _ hj => enP_ne hj) d2 (fun H3 locs3 z3 hP3 hS3 => ?_)
  have hB4 := hB1
  rw [← z3 a2 (fun z => hB3 _ (k_20 hL2) z.symm)] at hB4
  have fin := adopt (g := g) (g' := gA g (28, 2, 0) a2) (M := setR M 2 (up2 (up2 (up2 (up2 (up2 (up2 v 6 (nS v) x0) 7 (nS v) x1) 8 (nS v) x2) 9 (nS v) x3) 10 (nS v) x4) 11 (nS v) x5)) (M' := setR M 2 (up2 (up2 (up2 (up2 (up2 (up2 (up2 v 6 (nS v) x0) 7 (nS v) x1) 8 (nS v) x2) 9 (nS v) x3) 10 (nS v) x4) 11 (nS v) x5) 16 1 (nI (nS v + 1)))) (o := o) (H := H3) (fun k => k = (28, 2, 0) ∨ k = (20, 0, 0)) (28, 2, 0) (Or.inl rfl) rfl rfl (fun k hk hz => ⟨gA_dn hz hk, gA_ne hz⟩) (fun k hk hz => by rw [gA_ad]; exact hB3 k hk) (by rw [gA_ad]; exact hB2) (fun k hk hx => by
    rcases hx with rfl | rfl
    · rw [gA_ad, e_28]
      show H3[a2]? = some (vp_cell (gC g 4) (refs (nS (up2 (up2 (up2 (up2 (up2 (up2 (up2 v 6 (nS v) x0) 7 (nS v) x1) 8 (nS v) x2) 9 (nS v) x3) 10 (nS v) x4) 11 (nS v) x5) 16 1 (nI (nS v + 1)))) (fun i => ad (gA g (28, 2, 0) a2) (24, 2, i))))
      rw [e1, refs_eq (f := fun i => if i < nS (up2 (up2 (up2 (up2 (up2 (up2 v 6 (nS v) x0) 7 (nS v) x1) 8 (nS v) x2) 9 (nS v) x3) 10 (nS v) x4) 11 (nS v) x5) then ad g (24, 2, i) else ad g (24, 2, nS v)) (fun i hi => ?_), ← en]
      · exact hB4
      · show ad (gA g (28, 2, 0) a2) (24, 2, i) = _
        rw [gA_ne (fun z => absurd (congrArg Prod.fst z) (by show ¬ 24 = 28; decide))]
        by_cases q : i < nS (up2 (up2 (up2 (up2 (up2 (up2 v 6 (nS v) x0) 7 (nS v) x1) 8 (nS v) x2) 9 (nS v) x3) 10 (nS v) x4) 11 (nS v) x5)
        · rw [if_pos q]
        · rw [if_neg q, show i = nS v from by omega]
    · have q := hP3 _ (k_20 hL2)
      rw [enP_20] at q
      rw [e_20, gA_ne (k := (28, 2, 0)) (j := (20, 0, 0)) (by decide), gA_ne (k := (28, 2, 0)) (j := (26, 0, 0)) (by decide), gA_ne (k := (28, 2, 0)) (j := (26, 1, 0)) (by decide), gA_ne (k := (28, 2, 0)) (j := (22, 0, 0)) (by decide), gA_ad, gA_ne (k := (28, 2, 0)) (j := (27, 0, 0)) (by decide), gA_ne (k := (28, 2, 0)) (j := (29, 2, 0)) (by decide), e3, e4]
      exact q) (fun k hk hz r c i hd => dm (r := 2) (c := 16) (i := 1) (kb := (28, 2, 0)) hk rfl (fun q => hz (Or.inl q)) hd) (fun k j hk hz hrf => gA_ne (fun z => by
    subst z
    have h20 := rfs_out hrf (by decide)
    obtain ⟨t, a, b⟩ := k
    have h20 : t = 20 := h20
    subst h20
    obtain ⟨⟨h1, h2⟩, _⟩ := (show (a = 0 ∧ b = 0) ∧ _ from hk)
    exact hz (Or.inr (by rw [h1, h2])))) (fun k hk hz => by
    have q := hP3 k hk
    rw [enP_ne (fun z => hz (Or.inr z))] at q
    exact q) hI
  exact kk _ H3 locs3 (Gk.gA (by unfold LK; decide)) (hL2.gA.addS (Or.inr (by rw [en]; exact zL)) (by rw [e0]) (by rw [e1, en]) (by rw [e2])) fin.2 fin.1 hS3
theorem drop_S {g : Gm} {M : Mem} {o : Nat → Int64} {H : Heap} {v : Vw} {x0 x1 x2 x3 x4 x5 : Int32} (hP : WP g (setR M 2 (up2 (up2 (up2 (up2 (up2 (up2 v 6 (nS v) x0) 7 (nS v) x1) 8 (nS v) x2) 9 (nS v) x3) 10 (nS v) x4) 11 (nS v) x5)) o H) (hL : SimL g v) : WP (gX g (24, 2, nS v)) (setR M 2 v) o H ∧ SimL (gX g (24, 2, nS v)) v := by
  refine ⟨fun k hk => ?_, ?_⟩
  · have hz : k ≠ (24, 2, nS v) := fun z => gX_no (z ▸ hk) (by show 20 ≤ 24; decide)
    have hk2 : KK g k := KK_lk (fun q => And.right (show k ≠ (24, 2, nS v) ∧ lk g k from q)) hk
    have h := hP k hk2
    rw [← ent_congr (M' := setR M 2 v) hk2 (fun r c i hd => ((dm hk (kf_24 (Or.inl rfl) (by decide) (by decide)) hz hd).trans ((dm hk (kf_24 (Or.inl rfl) (by decide) (by decide)) hz hd).trans ((dm hk (kf_24 (Or.inl rfl) (by decide) (by decide)) hz hd).trans ((dm hk (kf_24 (Or.inl rfl) (by decide) (by decide)) hz hd).trans ((dm hk (kf_24 (Or.inl rfl) (by decide) (by decide)) hz hd).trans (dm hk (kf_24 (Or.inl rfl) (by decide) (by decide)) hz hd)))))).symm)] at h
    exact ent_re (g := g) (g' := gX g (24, 2, nS v)) rfl hk2 (fun r c i _ => rfl) (fun j _ => rfl) h
  · refine ⟨⟨nk_1 (by decide), hL.1⟩, fun c x h1 h2 => ⟨nk_1 (by decide), hL.2.1 c x h1 h2⟩, ⟨nk_1 (by decide), hL.2.2.1⟩, fun i hi => ⟨nk_1 (by decide), hL.2.2.2.1 i hi⟩, fun i hi => ⟨fun z => absurd (congrArg (fun q : Key => q.2.2) z) (Nat.ne_of_lt hi), hL.2.2.2.2.1 i hi⟩, fun i hi => ⟨nk_1 (by decide), hL.2.2.2.2.2.1 i hi⟩, fun c hc => ⟨nk_1 (by decide), hL.2.2.2.2.2.2.1 c hc⟩, ⟨nk_1 (by decide), hL.2.2.2.2.2.2.2.1⟩, ⟨nk_1 (by decide), hL.2.2.2.2.2.2.2.2.1⟩, ⟨nk_1 (by decide), hL.2.2.2.2.2.2.2.2.2⟩⟩
theorem own_W {g : Gm} {M : Mem} {o : Nat → Int64} {H : Heap} {v : Vw} {a : Nat} {fb : Nat → Int32} (hI : IJ g (KK g)) (hP : WP g (setR M 2 v) o H) (ha : H[a]? = some (vp_cell (gC g 0) (4, .inl fb))) (hA : AA g a) (hab : ∀ k, KK g k → ad g k ≠ a) {x0 x1 x2 x3 : Int32} (hfb : ∀ j, j < 4 → fb j = rW (up2 (up2 (up2 (up2 v 12 (nW v) x0) 13 (nW v) x1) 14 (nW v) x2) 15 (nW v) x3) (nW v) j) : WP (gA g (25, 2, nW v) a) (setR M 2 (up2 (up2 (up2 (up2 v 12 (nW v) x0) 13 (nW v) x1) 14 (nW v) x2) 15 (nW v) x3)) o H ∧ IJ (gA g (25, 2, nW v) a) (KK (gA g (25, 2, nW v) a)) := by
  refine adopt (g := g) (fun k => k = (25, 2, nW v)) (25, 2, nW v) rfl rfl rfl (fun k hk hz => ⟨gA_dn hz hk, gA_ne hz⟩) (fun k hk hz => by rw [gA_ad]; exact hab k hk) (by rw [gA_ad]; exact hA) (fun k hk hx => ?_) (fun k hk hz r c i hd => ?_) (fun k j hk hz hrf => gA_ne ?_) (fun k hk _ => hP k hk) hI
  · subst hx
    rw [gA_ad, e_25]
    show H[a]? = some (vp_cell (gC g 0) (4, .inl (rW (up2 (up2 (up2 (up2 v 12 (nW v) x0) 13 (nW v) x1) 14 (nW v) x2) 15 (nW v) x3) (nW v))))
    rw [ha, vp_cell_i, vp_cell_i, arrV_eq (fun j hj => congrArg Value.int (hfb j hj))]
  · exact (dm hk (kf_25 (Or.inl rfl) (by decide) (by decide)) hz hd).trans ((dm hk (kf_25 (Or.inl rfl) (by decide) (by decide)) hz hd).trans ((dm hk (kf_25 (Or.inl rfl) (by decide) (by decide)) hz hd).trans (dm hk (kf_25 (Or.inl rfl) (by decide) (by decide)) hz hd)))
  · intro z
    subst z
    obtain ⟨_, i, h1, h2⟩ := rfs_25 hrf rfl
    have h4 : 2 = k.2.1 := congrArg (fun q : Key => q.2.1) h2; rw [← h4, setR_same] at h1; have h3 : nW v = i := congrArg (fun q : Key => q.2.2) h2; omega
set_option maxHeartbeats 4000000 in
theorem m_growW {p : Program} {l : Launch} {e : Jvm.Env} {R : Room} {s : State} {m : MethodId} {args : Array Value} {below : List Frame} {meth : Method} {c : Code} {H : Heap} {locs : List Loc} {cells slots : Nat} {Q : State → Prop} {pc : Nat} {ls : Array Slot} {g : Gm} {M : Mem} {o : Nat → Int64} {v : Vw} {x0 x1 x2 x3 : Int32} (hC : CallFix p m c cL_act 11 s args LG RL) (hE : Ev g s) (hI : IJ g (KK g)) (hL : SimL g v) (hn : nW v < 3) (zL : lk g (25, 2, nW v)) (hP : WP g (setR M 2 (up2 (up2 (up2 (up2 v 12 (nW v) x0) 13 (nW v) x1) 14 (nW v) x2) 15 (nW v) x3)) o H) (hS : va_S (AA g) s.heap H locs) (d1 : decode cL_act pc = .ok (.invokestatic 52, 3)) (d2 : decode cL_act (pc + 3) = .ok (.putfield 62, 3)) (hls : ls.size = 11) (hc : cells + 1 ≤ R.cells) (hs : slots + 13 ≤ R.slots) (hR : 1 ≤ R.frames ∧ 23 ≤ R.locals)
    (kk : ∀ (g' : Gm) (H1 : Heap) (locs1 : List Loc), Gk g g' → SimL g' (up2 (up2 (up2 (up2 (up2 v 12 (nW v) x0) 13 (nW v) x1) 14 (nW v) x2) 15 (nW v) x3) 16 2 (nI (nW v + 1))) → IJ g' (KK g') → WP g' (setR M 2 (up2 (up2 (up2 (up2 (up2 v 12 (nW v) x0) 13 (nW v) x1) 14 (nW v) x2) 15 (nW v) x3) 16 2 (nI (nW v + 1)))) o H1 → va_S (AA g) s.heap H1 locs1 → W p l e R s m args below meth c H1 locs1 (cells + 1) (slots + 13) Q (F0 m (pc + 6) ls [])) : W p l e R s m args below meth c H locs cells slots Q (F0 m pc ls [.ref (ad g (25, 2, nW v)), .ref (ad g (29, 2, 0)), .ref (ad g (20, 0, 0))]) := by
  have hcn : Cn v (up2 (up2 (up2 (up2 v 12 (nW v) x0) 13 (nW v) x1) 14 (nW v) x2) 15 (nW v) x3) := (Cn.up (Cn.up (Cn.up (Cn.up Cn.rf (by omega)) (by omega)) (by omega)) (by omega))
  have hL2 := hL.cn hcn
  have en : nW (up2 (up2 (up2 (up2 v 12 (nW v) x0) 13 (nW v) x1) 14 (nW v) x2) 15 (nW v) x3) = nW v := hcn.2.2
  have e0 : nH (up2 (up2 (up2 (up2 (up2 v 12 (nW v) x0) 13 (nW v) x1) 14 (nW v) x2) 15 (nW v) x3) 16 2 (nI (nW v + 1))) = nH (up2 (up2 (up2 (up2 v 12 (nW v) x0) 13 (nW v) x1) 14 (nW v) x2) 15 (nW v) x3) := nH_u (by omega)
  have e1 : nS (up2 (up2 (up2 (up2 (up2 v 12 (nW v) x0) 13 (nW v) x1) 14 (nW v) x2) 15 (nW v) x3) 16 2 (nI (nW v + 1))) = nS (up2 (up2 (up2 (up2 v 12 (nW v) x0) 13 (nW v) x1) 14 (nW v) x2) 15 (nW v) x3) := nS_u (by omega)
  have e2 : nW (up2 (up2 (up2 (up2 (up2 v 12 (nW v) x0) 13 (nW v) x1) 14 (nW v) x2) 15 (nW v) x3) 16 2 (nI (nW v + 1))) = nW v + 1 := nI_clamp (by omega)
  have e3 : (up2 (up2 (up2 (up2 (up2 v 12 (nW v) x0) 13 (nW v) x1) 14 (nW v) x2) 15 (nW v) x3) 16 2 (nI (nW v + 1))) 16 3 = (up2 (up2 (up2 (up2 v 12 (nW v) x0) 13 (nW v) x1) 14 (nW v) x2) 15 (nW v) x3) 16 3 := up2_i (by decide)
  have e4 : (up2 (up2 (up2 (up2 (up2 v 12 (nW v) x0) 13 (nW v) x1) 14 (nW v) x2) 15 (nW v) x3) 16 2 (nI (nW v + 1))) 16 4 = (up2 (up2 (up2 (up2 v 12 (nW v) x0) 13 (nW v) x1) 14 (nW v) x2) 15 (nW v) x3) 16 4 := up2_i (by decide)
  refine on_r (rest := [.ref (ad g (20, 0, 0))]) (run_S hC hE hP hS (As := [.ref (ad g (29, 2, 0)), .ref (ad g (25, 2, nW v))]) (c_more l (k_29 hL2) (kb := (25, 2, nW v)) ⟨Or.inl rfl, zL⟩ e_29 e_25 (by omega) (fun i hi => ⟨(25, 2, i), 4, _, ⟨Or.inl rfl, hL2.2.2.2.2.2.1 i hi⟩, rfl, e_25⟩)) cal_X5_more w_606 ⟨by show 0 + 1 ≤ R.frames; omega, by show 8 + (4 + 11) + 0 ≤ R.locals; omega⟩ rfl rfl (Nat.le_of_ble_eq_true rfl) hls ⟨hc, hs⟩ d1) hS (fun a2 H2 locs2 hP2 hB hS2 => ?_)
  obtain ⟨hB1, hB2, hB3⟩ := hB
  refine m_putO hC hE hI hP2 hS2 (k_20 hL2) e_20 rfl u_5 tyX5_ok nmX5 5 (by decide) w_660 rfl rfl rfl rfl (Nat.le_of_ble_eq_true rfl) (en' := enP (.inr (5, ([.ref (ad g (26, 0, 0)), .ref (ad g (26, 1, 0)), .ref (ad g (22, 0, 0)), .ref (ad g (27, 0, 0)), .ref (ad g (28, 2, 0)), .ref (ad g (29, 2, 0)), .int ((up2 (up2 (up2 (up2 v 12 (nW v) x0) 13 (nW v) x1) 14 (nW v) x2) 15 (nW v) x3) 16 4), .int ((up2 (up2 (up2 (up2 v 12 (nW v) x0) 13 (nW v) x1) 14 (nW v) x2) 15 (nW v) x3) 16 3)] : List Value).set 5 (.ref a2))) (ent g (setR M 2 (up2 (up2 (up2 (up2 v 12 (nW v) x0) 13 (nW v) x1) 14 (nW v) x2) 15 (nW v) x3)) o)) enP_20 (fun j _ hj => enP_ne hj) d2 (fun H3 locs3 z3 hP3 hS3 => ?_)
  have hB4 := hB1
  rw [← z3 a2 (fun z => hB3 _ (k_20 hL2) z.symm)] at hB4
  have fin := adopt (g := g) (g' := gA g (29, 2, 0) a2) (M := setR M 2 (up2 (up2 (up2 (up2 v 12 (nW v) x0) 13 (nW v) x1) 14 (nW v) x2) 15 (nW v) x3)) (M' := setR M 2 (up2 (up2 (up2 (up2 (up2 v 12 (nW v) x0) 13 (nW v) x1) 14 (nW v) x2) 15 (nW v) x3) 16 2 (nI (nW v + 1)))) (o := o) (H := H3) (fun k => k = (29, 2, 0) ∨ k = (20, 0, 0)) (29, 2, 0) (Or.inl rfl) rfl rfl (fun k hk hz => ⟨gA_dn hz hk, gA_ne hz⟩) (fun k hk hz => by rw [gA_ad]; exact hB3 k hk) (by rw [gA_ad]; exact hB2) (fun k hk hx => by
    rcases hx with rfl | rfl
    · rw [gA_ad, e_29]
      show H3[a2]? = some (vp_cell (gC g 4) (refs (nW (up2 (up2 (up2 (up2 (up2 v 12 (nW v) x0) 13 (nW v) x1) 14 (nW v) x2) 15 (nW v) x3) 16 2 (nI (nW v + 1)))) (fun i => ad (gA g (29, 2, 0) a2) (25, 2, i))))
      rw [e2, refs_eq (f := fun i => if i < nW (up2 (up2 (up2 (up2 v 12 (nW v) x0) 13 (nW v) x1) 14 (nW v) x2) 15 (nW v) x3) then ad g (25, 2, i) else ad g (25, 2, nW v)) (fun i hi => ?_), ← en]
      · exact hB4
      · show ad (gA g (29, 2, 0) a2) (25, 2, i) = _
        rw [gA_ne (fun z => absurd (congrArg Prod.fst z) (by show ¬ 25 = 29; decide))]
        by_cases q : i < nW (up2 (up2 (up2 (up2 v 12 (nW v) x0) 13 (nW v) x1) 14 (nW v) x2) 15 (nW v) x3)
        · rw [if_pos q]
        · rw [if_neg q, show i = nW v from by omega]
    · have q := hP3 _ (k_20 hL2)
      rw [enP_20] at q
      rw [e_20, gA_ne (k := (29, 2, 0)) (j := (20, 0, 0)) (by decide), gA_ne (k := (29, 2, 0)) (j := (26, 0, 0)) (by decide), gA_ne (k := (29, 2, 0)) (j := (26, 1, 0)) (by decide), gA_ne (k := (29, 2, 0)) (j := (22, 0, 0)) (by decide), gA_ad, gA_ne (k := (29, 2, 0)) (j := (27, 0, 0)) (by decide), gA_ne (k := (29, 2, 0)) (j := (28, 2, 0)) (by decide), e3, e4]
      exact q) (fun k hk hz r c i hd => dm (r := 2) (c := 16) (i := 2) (kb := (29, 2, 0)) hk rfl (fun q => hz (Or.inl q)) hd) (fun k j hk hz hrf => gA_ne (fun z => by
    subst z
    have h20 := rfs_out hrf (by decide)
    obtain ⟨t, a, b⟩ := k
    have h20 : t = 20 := h20
    subst h20
    obtain ⟨⟨h1, h2⟩, _⟩ := (show (a = 0 ∧ b = 0) ∧ _ from hk)
    exact hz (Or.inr (by rw [h1, h2])))) (fun k hk hz => by
    have q := hP3 k hk
    rw [enP_ne (fun z => hz (Or.inr z))] at q
    exact q) hI
  exact kk _ H3 locs3 (Gk.gA (by unfold LK; decide)) (hL2.gA.addW (Or.inr (by rw [en]; exact zL)) (by rw [e0]) (by rw [e1]) (by rw [e2, en])) fin.2 fin.1 hS3
theorem drop_W {g : Gm} {M : Mem} {o : Nat → Int64} {H : Heap} {v : Vw} {x0 x1 x2 x3 : Int32} (hP : WP g (setR M 2 (up2 (up2 (up2 (up2 v 12 (nW v) x0) 13 (nW v) x1) 14 (nW v) x2) 15 (nW v) x3)) o H) (hL : SimL g v) : WP (gX g (25, 2, nW v)) (setR M 2 v) o H ∧ SimL (gX g (25, 2, nW v)) v := by
  refine ⟨fun k hk => ?_, ?_⟩
  · have hz : k ≠ (25, 2, nW v) := fun z => gX_no (z ▸ hk) (by show 20 ≤ 25; decide)
    have hk2 : KK g k := KK_lk (fun q => And.right (show k ≠ (25, 2, nW v) ∧ lk g k from q)) hk
    have h := hP k hk2
    rw [← ent_congr (M' := setR M 2 v) hk2 (fun r c i hd => ((dm hk (kf_25 (Or.inl rfl) (by decide) (by decide)) hz hd).trans ((dm hk (kf_25 (Or.inl rfl) (by decide) (by decide)) hz hd).trans ((dm hk (kf_25 (Or.inl rfl) (by decide) (by decide)) hz hd).trans (dm hk (kf_25 (Or.inl rfl) (by decide) (by decide)) hz hd)))).symm)] at h
    exact ent_re (g := g) (g' := gX g (25, 2, nW v)) rfl hk2 (fun r c i _ => rfl) (fun j _ => rfl) h
  · refine ⟨⟨nk_1 (by decide), hL.1⟩, fun c x h1 h2 => ⟨nk_1 (by decide), hL.2.1 c x h1 h2⟩, ⟨nk_1 (by decide), hL.2.2.1⟩, fun i hi => ⟨nk_1 (by decide), hL.2.2.2.1 i hi⟩, fun i hi => ⟨nk_1 (by decide), hL.2.2.2.2.1 i hi⟩, fun i hi => ⟨fun z => absurd (congrArg (fun q : Key => q.2.2) z) (Nat.ne_of_lt hi), hL.2.2.2.2.2.1 i hi⟩, fun c hc => ⟨nk_1 (by decide), hL.2.2.2.2.2.2.1 c hc⟩, ⟨nk_1 (by decide), hL.2.2.2.2.2.2.2.1⟩, ⟨nk_1 (by decide), hL.2.2.2.2.2.2.2.2.1⟩, ⟨nk_1 (by decide), hL.2.2.2.2.2.2.2.2.2⟩⟩
