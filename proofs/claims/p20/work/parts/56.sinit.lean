/-! The picture as it is made. -/
theorem dX5_init_0 : decode cX5_init 0 = .ok (.aload_n 0, 1) := by decide +kernel
theorem dX5_init_1 : decode cX5_init 1 = .ok (.invokespecial 1, 3) := by decide +kernel
theorem dX5_init_4 : decode cX5_init 4 = .ok (.aload_n 0, 1) := by decide +kernel
theorem dX5_init_5 : decode cX5_init 5 = .ok (.bipush 9, 2) := by decide +kernel
theorem dX5_init_7 : decode cX5_init 7 = .ok (.bipush 9, 2) := by decide +kernel
theorem dX5_init_9 : decode cX5_init 9 = .ok (.multianewarray 7 2, 4) := by decide +kernel
theorem dX5_init_13 : decode cX5_init 13 = .ok (.putfield 9, 3) := by decide +kernel
theorem dX5_init_16 : decode cX5_init 16 = .ok (.aload_n 0, 1) := by decide +kernel
theorem dX5_init_17 : decode cX5_init 17 = .ok (.bipush 9, 2) := by decide +kernel
theorem dX5_init_19 : decode cX5_init 19 = .ok (.bipush 9, 2) := by decide +kernel
theorem dX5_init_21 : decode cX5_init 21 = .ok (.multianewarray 7 2, 4) := by decide +kernel
theorem dX5_init_25 : decode cX5_init 25 = .ok (.putfield 14, 3) := by decide +kernel
theorem dX5_init_28 : decode cX5_init 28 = .ok (.aload_n 0, 1) := by decide +kernel
theorem dX5_init_29 : decode cX5_init 29 = .ok (.bipush 7, 2) := by decide +kernel
theorem dX5_init_31 : decode cX5_init 31 = .ok (.newarray .int, 2) := by decide +kernel
theorem dX5_init_33 : decode cX5_init 33 = .ok (.dup, 1) := by decide +kernel
theorem dX5_init_34 : decode cX5_init 34 = .ok (.iconst 0, 1) := by decide +kernel
theorem dX5_init_35 : decode cX5_init 35 = .ok (.iconst 2, 1) := by decide +kernel
theorem dX5_init_36 : decode cX5_init 36 = .ok (.iastore, 1) := by decide +kernel
theorem dX5_init_37 : decode cX5_init 37 = .ok (.dup, 1) := by decide +kernel
theorem dX5_init_38 : decode cX5_init 38 = .ok (.iconst 1, 1) := by decide +kernel
theorem dX5_init_39 : decode cX5_init 39 = .ok (.iconst 2, 1) := by decide +kernel
theorem dX5_init_40 : decode cX5_init 40 = .ok (.iastore, 1) := by decide +kernel
theorem dX5_init_41 : decode cX5_init 41 = .ok (.dup, 1) := by decide +kernel
theorem dX5_init_42 : decode cX5_init 42 = .ok (.iconst 2, 1) := by decide +kernel
theorem dX5_init_43 : decode cX5_init 43 = .ok (.iconst 2, 1) := by decide +kernel
theorem dX5_init_44 : decode cX5_init 44 = .ok (.iastore, 1) := by decide +kernel
theorem dX5_init_45 : decode cX5_init 45 = .ok (.dup, 1) := by decide +kernel
theorem dX5_init_46 : decode cX5_init 46 = .ok (.iconst 3, 1) := by decide +kernel
theorem dX5_init_47 : decode cX5_init 47 = .ok (.iconst 2, 1) := by decide +kernel
theorem dX5_init_48 : decode cX5_init 48 = .ok (.iastore, 1) := by decide +kernel
theorem dX5_init_49 : decode cX5_init 49 = .ok (.dup, 1) := by decide +kernel
theorem dX5_init_50 : decode cX5_init 50 = .ok (.iconst 4, 1) := by decide +kernel
theorem dX5_init_51 : decode cX5_init 51 = .ok (.iconst 2, 1) := by decide +kernel
theorem dX5_init_52 : decode cX5_init 52 = .ok (.iastore, 1) := by decide +kernel
theorem dX5_init_53 : decode cX5_init 53 = .ok (.dup, 1) := by decide +kernel
theorem dX5_init_54 : decode cX5_init 54 = .ok (.iconst 5, 1) := by decide +kernel
theorem dX5_init_55 : decode cX5_init 55 = .ok (.iconst 2, 1) := by decide +kernel
theorem dX5_init_56 : decode cX5_init 56 = .ok (.iastore, 1) := by decide +kernel
theorem dX5_init_57 : decode cX5_init 57 = .ok (.dup, 1) := by decide +kernel
theorem dX5_init_58 : decode cX5_init 58 = .ok (.bipush 6, 2) := by decide +kernel
theorem dX5_init_60 : decode cX5_init 60 = .ok (.iconst 2, 1) := by decide +kernel
theorem dX5_init_61 : decode cX5_init 61 = .ok (.iastore, 1) := by decide +kernel
theorem dX5_init_62 : decode cX5_init 62 = .ok (.putfield 17, 3) := by decide +kernel
theorem dX5_init_65 : decode cX5_init 65 = .ok (.aload_n 0, 1) := by decide +kernel
theorem dX5_init_66 : decode cX5_init 66 = .ok (.iconst 0, 1) := by decide +kernel
theorem dX5_init_67 : decode cX5_init 67 = .ok (.anewarray 21, 3) := by decide +kernel
theorem dX5_init_70 : decode cX5_init 70 = .ok (.putfield 22, 3) := by decide +kernel
theorem dX5_init_73 : decode cX5_init 73 = .ok (.aload_n 0, 1) := by decide +kernel
theorem dX5_init_74 : decode cX5_init 74 = .ok (.iconst 0, 1) := by decide +kernel
theorem dX5_init_75 : decode cX5_init 75 = .ok (.anewarray 21, 3) := by decide +kernel
theorem dX5_init_78 : decode cX5_init 78 = .ok (.putfield 25, 3) := by decide +kernel
theorem dX5_init_81 : decode cX5_init 81 = .ok (.aload_n 0, 1) := by decide +kernel
theorem dX5_init_82 : decode cX5_init 82 = .ok (.iconst 0, 1) := by decide +kernel
theorem dX5_init_83 : decode cX5_init 83 = .ok (.anewarray 21, 3) := by decide +kernel
theorem dX5_init_86 : decode cX5_init 86 = .ok (.putfield 28, 3) := by decide +kernel
theorem dX5_init_89 : decode cX5_init 89 = .ok (.aload_n 0, 1) := by decide +kernel
theorem dX5_init_90 : decode cX5_init 90 = .ok (.bipush 20, 2) := by decide +kernel
theorem dX5_init_92 : decode cX5_init 92 = .ok (.putfield 31, 3) := by decide +kernel
theorem dX5_init_95 : decode cX5_init 95 = .ok (.aload_n 0, 1) := by decide +kernel
theorem dX5_init_96 : decode cX5_init 96 = .ok (.getfield 14, 3) := by decide +kernel
theorem dX5_init_99 : decode cX5_init 99 = .ok (.astore_n 1, 1) := by decide +kernel
theorem dX5_init_100 : decode cX5_init 100 = .ok (.aload_n 1, 1) := by decide +kernel
theorem dX5_init_101 : decode cX5_init 101 = .ok (.arraylength, 1) := by decide +kernel
theorem dX5_init_102 : decode cX5_init 102 = .ok (.istore_n 2, 1) := by decide +kernel
theorem dX5_init_103 : decode cX5_init 103 = .ok (.iconst 0, 1) := by decide +kernel
theorem dX5_init_104 : decode cX5_init 104 = .ok (.istore_n 3, 1) := by decide +kernel
theorem dX5_init_105 : decode cX5_init 105 = .ok (.iload_n 3, 1) := by decide +kernel
theorem dX5_init_106 : decode cX5_init 106 = .ok (.iload_n 2, 1) := by decide +kernel
theorem dX5_init_107 : decode cX5_init 107 = .ok (.if_icmp .ge 20, 3) := by decide +kernel
theorem dX5_init_110 : decode cX5_init 110 = .ok (.aload_n 1, 1) := by decide +kernel
theorem dX5_init_111 : decode cX5_init 111 = .ok (.iload_n 3, 1) := by decide +kernel
theorem dX5_init_112 : decode cX5_init 112 = .ok (.aaload, 1) := by decide +kernel
theorem dX5_init_113 : decode cX5_init 113 = .ok (.astore 4, 2) := by decide +kernel
theorem dX5_init_115 : decode cX5_init 115 = .ok (.aload 4, 2) := by decide +kernel
theorem dX5_init_117 : decode cX5_init 117 = .ok (.iconst 2, 1) := by decide +kernel
theorem dX5_init_118 : decode cX5_init 118 = .ok (.invokestatic 35, 3) := by decide +kernel
theorem dX5_init_121 : decode cX5_init 121 = .ok (.iinc 3 1, 3) := by decide +kernel
theorem dX5_init_124 : decode cX5_init 124 = .ok (.goto (-19), 3) := by decide +kernel
theorem dX5_init_127 : decode cX5_init 127 = .ok (.return_, 1) := by decide +kernel
theorem dJ7_fill_53178_0 : decode cJ7_fill_53178 0 = .ok (.iconst 0, 1) := by decide +kernel
theorem dJ7_fill_53178_1 : decode cJ7_fill_53178 1 = .ok (.istore_n 2, 1) := by decide +kernel
theorem dJ7_fill_53178_2 : decode cJ7_fill_53178 2 = .ok (.aload_n 0, 1) := by decide +kernel
theorem dJ7_fill_53178_3 : decode cJ7_fill_53178 3 = .ok (.arraylength, 1) := by decide +kernel
theorem dJ7_fill_53178_4 : decode cJ7_fill_53178 4 = .ok (.istore_n 3, 1) := by decide +kernel
theorem dJ7_fill_53178_5 : decode cJ7_fill_53178 5 = .ok (.iload_n 2, 1) := by decide +kernel
theorem dJ7_fill_53178_6 : decode cJ7_fill_53178 6 = .ok (.iload_n 3, 1) := by decide +kernel
theorem dJ7_fill_53178_7 : decode cJ7_fill_53178 7 = .ok (.if_icmp .ge 13, 3) := by decide +kernel
theorem dJ7_fill_53178_10 : decode cJ7_fill_53178 10 = .ok (.aload_n 0, 1) := by decide +kernel
theorem dJ7_fill_53178_11 : decode cJ7_fill_53178 11 = .ok (.iload_n 2, 1) := by decide +kernel
theorem dJ7_fill_53178_12 : decode cJ7_fill_53178 12 = .ok (.iload_n 1, 1) := by decide +kernel
theorem dJ7_fill_53178_13 : decode cJ7_fill_53178 13 = .ok (.iastore, 1) := by decide +kernel
theorem dJ7_fill_53178_14 : decode cJ7_fill_53178 14 = .ok (.iinc 2 1, 3) := by decide +kernel
theorem dJ7_fill_53178_17 : decode cJ7_fill_53178 17 = .ok (.goto (-12), 3) := by decide +kernel
theorem dJ7_fill_53178_20 : decode cJ7_fill_53178 20 = .ok (.return_, 1) := by decide +kernel
/-- the picture's cells as they are when it is made, its object's fields fs -/
def SmS (g : Gm) (en : Key → va_E) (fs : List Value) : Key → va_E := fun k => if k = (20, 0, 0) then .inr (5, fs) else if 20 ≤ k.1 then ent g (fun _ => v0) (fun _ => 0) k else en k
/-- the rows of mud from x on still empty -/
def SmM (g : Gm) (en : Key → va_E) (fs : List Value) (x : Nat) : Key → va_E := fun k => if k.1 = 21 ∧ k.2.1 = 1 ∧ x ≤ k.2.2 then .inl (gC g 0, 9, .inl (fun _ => 0)) else SmS g en fs k
def SmF (g : Gm) (en : Key → va_E) : Key → va_E := fun k => if 20 ≤ k.1 then ent g (fun _ => v0) (fun _ => 0) k else en k
theorem SmS_20 {g : Gm} {en : Key → va_E} {fs : List Value} : SmS g en fs (20, 0, 0) = .inr (5, fs) := if_pos rfl
theorem SmM_20 {g : Gm} {en : Key → va_E} {fs : List Value} {x : Nat} : SmM g en fs x (20, 0, 0) = .inr (5, fs) := (if_neg (fun q => by have := q.1; simp at this)).trans SmS_20
theorem SmS_ne {g : Gm} {en : Key → va_E} {fs fs' : List Value} {k : Key} (h : k ≠ (20, 0, 0)) : SmS g en fs' k = SmS g en fs k := by
  unfold SmS
  rw [if_neg h, if_neg h]
theorem SmM_ne {g : Gm} {en : Key → va_E} {fs fs' : List Value} {x : Nat} {k : Key} (h : k ≠ (20, 0, 0)) : SmM g en fs' x k = SmM g en fs x k := by
  unfold SmM
  rw [SmS_ne h]
theorem SmM_in {g : Gm} {en : Key → va_E} {fs : List Value} {x : Nat} {k : Key} (h : 22 ≤ k.1) : SmM g en fs x k = ent g (fun _ => v0) (fun _ => 0) k := by
  unfold SmM SmS
  rw [if_neg (by omega), if_neg (fun z => by rw [z] at h; exact absurd h (by decide)), if_pos (by omega)]
theorem SmM_old {g : Gm} {en : Key → va_E} {fs : List Value} {x : Nat} {k : Key} (h : k.1 < 20) : SmM g en fs x k = en k := by
  unfold SmM SmS
  rw [if_neg (by omega), if_neg (fun z => by rw [z] at h; exact absurd h (by decide)), if_neg (by omega)]
/-- an array of nine rows of nine -/
def updG (g : Gm) (en : Key → va_E) (c : Nat) : Key → va_E := fun k => if k = (26, c, 0) then .inl (gC g 4, refs 9 (fun i => ad g (21, c, i))) else if k.1 = 21 ∧ k.2.1 = c then .inl (gC g 0, 9, .inl (fun _ => 0)) else en k
theorem SmS_G {g : Gm} {en : Key → va_E} {fs : List Value} (k : Key) : SmS g en fs k = updG g (SmS g en fs) 0 k := by
  unfold updG
  by_cases h : k = (26, 0, 0)
  · rw [if_pos h, h]; rfl
  · rw [if_neg h]
    by_cases h2 : k.1 = 21 ∧ k.2.1 = 0
    · rw [if_pos h2]
      obtain ⟨t, a, b⟩ := k
      obtain ⟨rfl, rfl⟩ := h2
      rfl
    · rw [if_neg h2]
theorem SmM_G {g : Gm} {en : Key → va_E} {fs : List Value} (k : Key) : SmM g en fs 0 k = updG g (SmS g en fs) 1 k := by
  unfold updG SmM
  by_cases h2 : k.1 = 21 ∧ k.2.1 = 1
  · rw [if_pos ⟨h2.1, h2.2, Nat.zero_le _⟩, if_neg (fun z => by rw [z] at h2; exact absurd h2.1 (by decide)), if_pos h2]
  · rw [if_neg (fun q => h2 ⟨q.1, q.2.1⟩)]
    by_cases h : k = (26, 1, 0)
    · rw [if_pos h, h]; rfl
    · rw [if_neg h, if_neg h2]
theorem SmM_9 {g : Gm} {en : Key → va_E} {fs : List Value} (hf : fs = [.ref (ad g (26, 0, 0)), .ref (ad g (26, 1, 0)), .ref (ad g (22, 0, 0)), .ref (ad g (27, 0, 0)), .ref (ad g (28, 2, 0)), .ref (ad g (29, 2, 0)), .int 0, .int 20]) {k : Key} (hk : KK g k) : SmF g en k = SmM g en fs 9 k := by
  have hx : ¬ (k.1 = 21 ∧ k.2.1 = 1 ∧ 9 ≤ k.2.2) := by
    rintro ⟨h1, h2, h3⟩
    obtain ⟨t, a, b⟩ := k
    have h1 : t = 21 := h1
    subst h1
    have hb : b < 9 := hk.1.2
    have h3 : 9 ≤ b := h3
    omega
  unfold SmM SmS SmF
  rw [if_neg hx]
  by_cases h : k = (20, 0, 0)
  · rw [if_pos h, h, hf]; rfl
  · rw [if_neg h]
theorem rG_v0 {x : Nat} (hx : x < 9) : (fun j => if j < 9 then (2 : Int32) else 0) = rG v0 1 x := by
  funext y
  show _ = if 9 * y + x < 81 then (2 : Int32) else 0
  by_cases h : y < 9
  · rw [if_pos h, if_pos (by omega)]
  · rw [if_neg h, if_neg (by omega)]
/-- one more row of mud filled -/
theorem SmM_s {g : Gm} {en : Key → va_E} {fs : List Value} {x : Nat} (hx : x < 9) (k : Key) : SmM g en fs (x + 1) k = updE (SmM g en fs x) (21, 1, x) (.inl (gC g 0, 9, .inl (fun j => if j < 9 then 2 else 0))) k := by
  by_cases h : k = (21, 1, x)
  · rw [h, updE_same]
    unfold SmM SmS
    rw [if_neg (fun q => absurd q.2.2 (Nat.not_succ_le_self x)), if_neg (fun q => by simp at q), if_pos (by show 20 ≤ 21; decide), rG_v0 hx]
    rfl
  · rw [updE_ne h]
    unfold SmM
    by_cases q : k.1 = 21 ∧ k.2.1 = 1 ∧ x ≤ k.2.2
    · rw [if_pos q, if_pos]
      refine ⟨q.1, q.2.1, ?_⟩
      rcases Nat.lt_or_ge x k.2.2 with z | z
      · exact z
      · exfalso
        refine h ?_
        obtain ⟨t, a, b⟩ := k
        obtain ⟨h1, h2, h3⟩ := q
        have h1 : t = 21 := h1
        have h2 : a = 1 := h2
        have e : b = x := by have z : b ≤ x := z
                             have h3 : x ≤ b := h3
                             omega
        rw [h1, h2, e]
    · rw [if_neg q, if_neg (fun z => q ⟨z.1, z.2.1, by omega⟩)]
theorem SIL_21 : ∀ q x, q < 2 → x < 9 → ((21, q, x) : Key) ∈ SIL := by
  have h : ∀ q, q < 2 → ∀ x, x < 9 → ((21, q, x) : Key) ∈ SIL := by decide +kernel
  exact fun q x h1 h2 => h q h1 x h2
theorem SIL_26 : ∀ q, q < 2 → ((26, q, 0) : Key) ∈ SIL := by decide +kernel
theorem q_20 {g : Gm} (hs : ∀ k, k ∈ SIL → lk g k) : KK g (20, 0, 0) := ⟨⟨rfl, rfl⟩, hs _ (by decide)⟩
theorem q_22 {g : Gm} (hs : ∀ k, k ∈ SIL → lk g k) : KK g (22, 0, 0) := ⟨⟨rfl, rfl⟩, hs _ (by decide)⟩
theorem q_26 {g : Gm} (hs : ∀ k, k ∈ SIL → lk g k) {c : Nat} (hc : c < 2) : KK g (26, c, 0) := ⟨⟨hc, rfl⟩, hs _ (SIL_26 c hc)⟩
theorem q_21 {g : Gm} (hs : ∀ k, k ∈ SIL → lk g k) {c x : Nat} (hc : c < 2) (hx : x < 9) : KK g (21, c, x) := ⟨⟨hc, hx⟩, hs _ (SIL_21 c x hc hx)⟩
section MS
variable {p : Program} {l : Launch} {e : Jvm.Env} {R : Room} {s : State} {m : MethodId} {args : Array Value} {below : List Frame} {meth : Method} {c : Code} {H : Heap} {locs : List Loc} {cells slots : Nat} {Q : State → Prop}
variable {cc : ByteArray} {nL pc : Nat} {ls : Array Slot} {rest st : List Value} {own : String} {g : Gm} {n n' : Nat} {en en' : Key → va_E}
theorem va_S.sub {A : Nat → Prop} {H0 H H1 : Heap} {locs locs1 : List Loc} (hS : va_S A H0 H locs) (hz : H.size ≤ H1.size) (o1 : ∀ q, q < H.size → H1[q]? = H[q]?) (hl : ∀ q ∈ locs1, q ∈ locs ∨ A q.base) : va_S A H0 H1 locs1 := ⟨Nat.le_trans hS.1 hz, fun x h1 h2 => (o1 x (Nat.lt_of_lt_of_le h1 hS.1)).trans (hS.2.1 x h1 h2), fun q hq => (hl q hq).elim (hS.2.2 q) (fun z => z)⟩
/-- nine rows of nine, at their places -/
theorem m_mult (hC : CallFix p m c cc nL s args LG own) (hE : Ev g s) (hg : Gz g) (hs : ∀ k, k ∈ SIL → lk g k) (hZ : WSz g n en H) (hS : va_S (AA g) s.heap H locs) (q : Nat) (hq : q < 2) (ho : 62 + 10 * q = n) {index : Nat} (hcl : Cond.classLink own index "[[I" ∈ LG) (hcells : cells + 1 + 9 ≤ R.cells) (hslots : slots + 9 + 9 * 9 ≤ R.slots) (hdg : decode cc pc = .ok (.multianewarray index 2, 4))
    (kk : ∀ (H1 : Heap) (locs1 : List Loc), WSz g (n + 10) (updG g en q) H1 → va_S (AA g) s.heap H1 locs1 → W p l e R s m args below meth c H1 locs1 (cells + 1 + 9) (slots + 9 + 9 * 9) Q (F0 m (pc + 4) ls (.ref (ad g (26, q, 0)) :: rest))) : W p l e R s m args below meth c H locs cells slots Q (F0 m pc ls (.int 9 :: .int 9 :: rest)) := by
  obtain ⟨hx1, hb, hml, hown, hG⟩ := hC
  have h0 : H.size = ad g (26, q, 0) := by rw [hZ.2, hg.1]; show _ = bs g + (62 + 10 * q); rw [ho]
  have hr : ∀ x, H.size + 1 + x = ad g (21, q, x) := fun x => by rw [hZ.2, hg.1]; show _ = bs g + (63 + 10 * q + x); omega
  refine W_multi (N := 9) (B := 9) hx1 hb hown (hG _ hcl) hE.2.2.2.2.2.use (hG _ w_53) rfl hdg rfl rfl rfl (by decide) (by decide) hcells hslots fun H1 l1 cO cI f1 f2 z1 o1 a1 r1 q1 => ?_
  have e4 : cO = gC g 4 := Option.some.inj (f1.symm.trans (hE.1.2 4 _ rfl).2)
  have e0 : cI = gC g 0 := Option.some.inj (f2.symm.trans (hE.1.2 0 _ rfl).2)
  subst e4
  subst e0
  have kk2 := kk H1 l1 ⟨fun k hk => ?_, by rw [z1, hZ.2]; omega⟩ (hS.sub (by omega) o1 (fun x hx => (q1 x hx).elim Or.inl (fun z => Or.inr (by rw [z, hZ.2]; exact Nat.le_add_right _ _))))
  · rw [← h0] at kk2
    exact kk2
  · rcases Nat.lt_or_ge (off k) n with y | y
    · have hne : k ≠ (26, q, 0) := fun z => by rw [z] at y; have y : 62 + 10 * q < n := y; omega
      have hn2 : ¬ (k.1 = 21 ∧ k.2.1 = q) := by
        rintro ⟨z1, z2⟩
        obtain ⟨t, a, b⟩ := k
        have z1 : t = 21 := z1
        have z2 : a = q := z2
        subst z1; subst z2
        have y : 63 + 10 * a + b < n := y
        omega
      unfold updG
      rw [if_neg hne, if_neg hn2]
      exact (hZ.1 k ⟨hk.1, y⟩).kept (o1 _ (hZ.1 k ⟨hk.1, y⟩).lt)
    · have hw := hk.2
      have hin := KL_in hg.2 hk.1
      have hcase : k = (26, q, 0) ∨ ∃ x, x < 9 ∧ k = (21, q, x) := by
        have hq2 : q = 0 ∨ q = 1 := by omega
        rcases Nat.lt_or_ge n (off k) with z | z
        · right
          refine ⟨off k - n - 1, by omega, ?_⟩
          refine off_inj hg hk.1 ⟨⟨hq, by show off k - n - 1 < 9; omega⟩, hs _ ?_⟩ (by show _ = 63 + 10 * q + (off k - n - 1); omega)
          exact SIL_21 q (off k - n - 1) hq (by omega)
        · left
          exact off_inj hg hk.1 ⟨⟨hq, rfl⟩, hs _ (SIL_26 q hq)⟩ (by show _ = 62 + 10 * q; omega)
      rcases hcase with rfl | ⟨x, hx9, rfl⟩
      · unfold updG
        rw [if_pos rfl]
        show H1[ad g (26, q, 0)]? = some (vp_cell _ _)
        rw [← h0, a1]
        unfold refs
        rw [vp_cell_q]
        refine congrArg some (arrV_eq fun j hj => ?_)
        rw [hr j]
        rfl
      · unfold updG
        rw [if_neg (fun z => by simp at z), if_pos ⟨rfl, rfl⟩]
        show H1[ad g (21, q, x)]? = some (vp_cell _ _)
        rw [← hr x, r1 x hx9]
        rfl
theorem m_newAZ (hC : CallFix p m c cc nL s args LG own) (hE : Ev g s) (hg : Gz g) (hZ : WSz g n en H) (hS : va_S (AA g) s.heap H locs) (k0 : Key) (hk : KK g k0) (ho : off k0 = n) {index : Nat} (hcl : Cond.classLink own index "[I" ∈ LG) {v : va_E} {fr : Nat → Nat} (hv : v = .inl (gC g 4, refs 0 fr)) (hcells : cells + 1 ≤ R.cells) (hslots : slots + 0 ≤ R.slots) (hdg : decode cc pc = .ok (.anewarray index, 3))
    (kk : ∀ H1 : Heap, WSz g (n + 1) (updE en k0 v) H1 → va_S (AA g) s.heap H1 locs → W p l e R s m args below meth c H1 locs (cells + 1) (slots + 0) Q (F0 m (pc + 3) ls (.ref (ad g k0) :: rest))) : W p l e R s m args below meth c H locs cells slots Q (F0 m pc ls (.int 0 :: rest)) := by
  have h0 : H.size = ad g k0 := by rw [hZ.2, hg.1, ho]
  refine m_newA hC hE hS hcl (N := 0) (by decide) (by decide) (by decide) hcells hslots hdg fun H1 z1 o1 e1 hS1 => ?_
  have kk2 := kk H1 (hZ.grow hg hk ho z1 o1 (by
    rw [hv]
    show H1[ad g k0]? = some (vp_cell _ _)
    rw [← h0, e1]
    unfold refs
    rw [vp_cell_q, vp_cell_q]
    exact congrArg some (arrV_eq fun j hj => absurd hj (Nat.not_lt_zero _)))) hS1
  rw [← h0] at kk2
  exact kk2
variable {y : MethodName} {b1 : ByteArray} {n1 na index : Nat} {R1 : Room}
theorem run_SZ (hC : CallFix p m c cc nL s args LG own) (hE : Ev g s) (hA : AO3 s) (hP : WSz g n en H) (hS : va_S (AA g) s.heap H locs) {As : List Value} (hM : MC l y b1 n1 R1 g n en As n' en') (hcal : CalS y b1 n1 none na) (hlink : Cond.methodLink own index y ∈ LG) (hR : R1.frames + 1 ≤ R.frames ∧ 8 + (n1 + 11) + R1.locals ≤ R.locals) (hlen : As.length = na) (hst : st = As.reverse ++ rest) (hroom : (rest.map fun v => v.category).sum ≤ 8) (hls : ls.size = nL) (hf : cells + R1.cells ≤ R.cells ∧ slots + R1.slots ≤ R.slots) (hdg : decode cc pc = .ok (.invokestatic index, 3))
    (kk : ∀ (H1 : Heap) (locs1 : List Loc), WSz g n' en' H1 → va_S (AA g) s.heap H1 locs1 → W p l e R s m args below meth c H1 locs1 (cells + R1.cells) (slots + R1.slots) Q (F0 m (pc + 3) ls rest)) : W p l e R s m args below meth c H locs cells slots Q (F0 m pc ls st) := by
  obtain ⟨a1, a2, a3, a5⟩ := hcal
  refine va_callv (va_runS hC hM (va_cwS na hC.2.2.2.2 (LG_S hlink a1 a2 a3) rfl rfl rfl a5 hR) ⟨Pz.blind, fun U hU hW => ⟨rfl, hE.call hS hU hW, hA.moved hW.alike, by rw [hU]; exact hP⟩⟩ rfl hlen hls hst (lv_room hroom) hdg hf) hS (fun q _ h => h) (fun q h => h) (fun u t H1 locs1 ht hvm hw hB hz hk hS1 => ?_)
  rw [ht] at hB
  exact kk H1 locs1 hB hS1
end MS
theorem fill_s {v : Int32} {f : Nat → Int32} {i : Nat} : (fun j => if j < i + 1 then v else f j) = upd (fun j => if j < i then v else f j) i v := by
  funext j
  unfold upd
  by_cases h : j = i
  · rw [if_pos h, if_pos (by omega)]
  · rw [if_neg h]
    show _ = if j < i then v else f j
    by_cases h2 : j < i
    · rw [if_pos h2, if_pos (by omega)]
    · rw [if_neg h2, if_neg (by omega)]
set_option maxHeartbeats 4000000 in
set_option maxRecDepth 100000 in
theorem i_fill (l : Launch) {g : Gm} (hg : Gz g) {n : Nat} {en : Key → va_E} {k : Key} (hk : Kn g n k) {f : Nat → Int32} (he : en k = .inl (gC g 0, 9, .inl f)) (v : Int32) : MC l yJ7_fill_53178 cJ7_fill_53178 4 (rm 0 0) g n en [.ref (ad g k), .int v] n (updE en k (.inl (gC g 0, 9, .inl (fun j => if j < 9 then v else f j)))) := by
  refine mc_of (by decide +kernel) (Nat.le_of_ble_eq_true rfl) ?_
  intro p e s m below meth c ls hC hr_ hlk hnm hE hA hP hS hl
  obtain ⟨hx, hb, hml, hown, hG⟩ := id hC
  have hl : lv_has ls 4 [(0, .ref (ad g k)), (1, .int v)] := hl
  refine lv_iconst (v := 0) hx hb dJ7_fill_53178_0 (by decide) ?_
  refine lv_istore_n (lv' := [(2, .int (nI 0)), (0, .ref (ad g k)), (1, .int v)]) hx hb dJ7_fill_53178_1 rfl hl (by decide) rfl (fun ls hl => ?_)
  refine lv_aload_n hx hb dJ7_fill_53178_2 rfl (lv_at hl 1 rfl) ?_
  refine m_alen hC hE hP.1 hk he rfl dJ7_fill_53178_3 ?_
  refine lv_istore_n (lv' := [(3, .int (nI 9)), (2, .int (nI 0)), (0, .ref (ad g k)), (1, .int v)]) hx hb dJ7_fill_53178_4 rfl hl (by decide) rfl (fun ls hl => ?_)
  replace hP := hP.cast (en' := updE en k (.inl (gC g 0, 9, .inl (fun j => if j < 0 then v else f j)))) (fun j _ => updE_id (by rw [he]; refine congrArg (fun z => Sum.inl (gC g 0, 9, Sum.inl z)) (funext fun j => (if_neg (Nat.not_lt_zero j)).symm)) j)
  refine lp_up (P := fun i => ∀ (H : Heap) (locs : List Loc) (ls : Array Slot), WSz g n (updE en k (.inl (gC g 0, 9, .inl (fun j => if j < i then v else f j)))) H → va_S (AA g) s.heap H locs → lv_has ls 4 [(3, .int (nI 9)), (2, .int (nI i)), (0, .ref (ad g k)), (1, .int v)] → W p l e (rm 0 0) s m ([.ref (ad g k), .int v] : List Value).toArray below meth c H locs 0 0 (MQ below (Qz g n (updE en k (.inl (gC g 0, 9, .inl (fun j => if j < 9 then v else f j))))) ([.ref (ad g k), .int v] : List Value).toArray s 0 0 (AA g)) (F0 m 5 ls [])) 9 ?hx ?hs 0 (Nat.zero_le _) _ _ ls hP hS hl
  case hs =>
    intro i hi IH H locs ls hP hS hl
    refine lv_iload_n hx hb dJ7_fill_53178_5 rfl (lv_at hl 1 rfl) ?_
    refine lv_iload_n hx hb dJ7_fill_53178_6 rfl (lv_at hl 0 rfl) ?_
    refine lv_icmp_ge (tgt := 20) hx hb dJ7_fill_53178_7 (by decide) (fun c1 => absurd c1 (nI_ge (b := 9) hi (by decide))) (fun c1 => ?_)
    refine lv_aload_n hx hb dJ7_fill_53178_10 rfl (lv_at hl 2 rfl) ?_
    refine lv_iload_n hx hb dJ7_fill_53178_11 rfl (lv_at hl 1 rfl) ?_
    refine lv_iload_n hx hb dJ7_fill_53178_12 rfl (lv_at hl 3 rfl) ?_
    refine m_iastS hC hE (hg.ijn _) hP.1 hS hk updE_same i rfl hi (by decide) (en' := updE en k (.inl (gC g 0, 9, .inl (fun j => if j < (i + 1) then v else f j)))) (by rw [updE_same, fill_s]) (fun j _ hj => by rw [updE_ne hj, updE_ne hj]) dJ7_fill_53178_13 (fun H locs z hP1 hS => ?_)
    replace hP := hP.put hP1 z
    refine lv_iinc (v := nI (i + 1)) (lv' := [(2, .int (nI (i + 1))), (3, .int (nI 9)), (0, .ref (ad g k)), (1, .int v)]) hx hb dJ7_fill_53178_14 hl (k := 1) rfl (nI_1 _) (by decide) rfl (fun ls hl => ?_)
    refine lv_goto (tgt := 5) hx hb dJ7_fill_53178_17 (by decide) ?_
    exact IH H locs ls hP hS (lv_sub hl [1, 0, 2, 3] rfl)
  intro H locs ls hP hS hl
  refine lv_iload_n hx hb dJ7_fill_53178_5 rfl (lv_at hl 1 rfl) ?_
  refine lv_iload_n hx hb dJ7_fill_53178_6 rfl (lv_at hl 0 rfl) ?_
  refine lv_icmp_ge (tgt := 20) hx hb dJ7_fill_53178_7 (by decide) (fun c1 => ?_) (fun c1 => absurd (nI_le (Nat.le_refl _) (by decide)) c1)
  exact mc_vret hC hr_ hlk hS hP dJ7_fill_53178_20
theorem OFF_62 : ∀ k ∈ KL, 20 ≤ k.1 → off k < 62 → k = (20, 0, 0) := by decide +kernel
theorem SmS_start {g : Gm} (hg : Gz g) {en : Key → va_E} {fs : List Value} (he : en (20, 0, 0) = .inr (5, fs)) {k : Key} (hk : Kn g 62 k) : SmS g en fs k = en k := by
  unfold SmS
  by_cases h : k = (20, 0, 0)
  · rw [if_pos h, h, he]
  · rw [if_neg h]
    by_cases h2 : 20 ≤ k.1
    · exfalso
      have := OFF_62 k (KL_in hg.2 hk.1) h2 hk.2
      exact h this
    · rw [if_neg h2]
set_option maxHeartbeats 4000000 in
set_option maxRecDepth 100000 in
theorem i_sim (l : Launch) {g : Gm} (hg : Gz g) (hs : ∀ k, k ∈ SIL → lk g k) {en : Key → va_E} (he : en (20, 0, 0) = .inr (5, [.null, .null, .null, .null, .null, .null, .int 0, .int 0])) : MC l yX5_init cX5_init 5 { frames := 2, cells := 24, slots := 187, locals := 40 } g 62 en [.ref (ad g (20, 0, 0))] 86 (SmF g en) := by
  refine mc_of (by decide +kernel) (Nat.le_of_ble_eq_true rfl) ?_
  intro p e s m below meth c ls hC hr_ hlk hnm hE hA hP hS hl
  obtain ⟨hx, hb, hml, hown, hG⟩ := id hC
  have hl : lv_has ls 5 [(0, .ref (ad g (20, 0, 0)))] := hl
  have hI0 : s.vm.findClass ("[" ++ (newarray.typeOf .int).toString) = some (gC g 0) := (hE.1.2 0 _ rfl).2
  replace hP := hP.cast (en' := SmS g en [.null, .null, .null, .null, .null, .null, .int 0, .int 0]) (fun k hk => SmS_start hg he hk)
  refine lv_aload_n hx hb dX5_init_0 rfl (lv_at hl 0 rfl) ?_
  refine m_oinit hC w_644 hl.1 dX5_init_1 (Nat.le_of_ble_eq_true rfl) (Nat.le_of_ble_eq_true rfl) ?_
  refine lv_aload_n hx hb dX5_init_4 rfl (lv_at hl 0 rfl) ?_
  refine lv_bipush (v := 9) hx hb dX5_init_5 (by decide) ?_
  refine lv_bipush (v := 9) hx hb dX5_init_7 (by decide) ?_
  refine m_mult hC hE hg hs hP hS 0 (by decide) rfl w_645 (by decide) (by decide) dX5_init_9 (fun H locs hP hS => ?_)
  replace hP := hP.cast (en' := SmS g en [.null, .null, .null, .null, .null, .null, .int 0, .int 0]) (fun k _ => SmS_G k)
  refine m_putS hC hE (hg.ijn _) hP.1 hS ⟨q_20 hs, by show off (20, 0, 0) < _; decide⟩ SmS_20 rfl u_5 tyX5_ok nmX5 0 (by decide) w_649 rfl rfl rfl rfl (Nat.le_of_ble_eq_true rfl) (en' := SmS g en [.ref (ad g (26, 0, 0)), .null, .null, .null, .null, .null, .int 0, .int 0]) SmS_20 (fun j _ hj => SmS_ne hj) dX5_init_13 (fun H locs z hP1 hS => ?_)
  replace hP := hP.put hP1 z
  refine lv_aload_n hx hb dX5_init_16 rfl (lv_at hl 0 rfl) ?_
  refine lv_bipush (v := 9) hx hb dX5_init_17 (by decide) ?_
  refine lv_bipush (v := 9) hx hb dX5_init_19 (by decide) ?_
  refine m_mult hC hE hg hs hP hS 1 (by decide) rfl w_645 (by decide) (by decide) dX5_init_21 (fun H locs hP hS => ?_)
  replace hP := hP.cast (en' := SmM g en [.ref (ad g (26, 0, 0)), .null, .null, .null, .null, .null, .int 0, .int 0] 0) (fun k _ => SmM_G k)
  refine m_putS hC hE (hg.ijn _) hP.1 hS ⟨q_20 hs, by show off (20, 0, 0) < _; decide⟩ SmM_20 rfl u_5 tyX5_ok nmX5 1 (by decide) w_651 rfl rfl rfl rfl (Nat.le_of_ble_eq_true rfl) (en' := SmM g en [.ref (ad g (26, 0, 0)), .ref (ad g (26, 1, 0)), .null, .null, .null, .null, .int 0, .int 0] 0) SmM_20 (fun j _ hj => SmM_ne hj) dX5_init_25 (fun H locs z hP1 hS => ?_)
  replace hP := hP.put hP1 z
  refine lv_aload_n hx hb dX5_init_28 rfl (lv_at hl 0 rfl) ?_
  refine lv_bipush (v := 7) hx hb dX5_init_29 (by decide) ?_
  refine m_newa hC hg hP hS (22, 0, 0) ⟨⟨rfl, rfl⟩, hs _ (by decide)⟩ rfl (atype := .int) w_53 hI0 (N := 7) (a0 := (7, .inl (fun _ => 0))) rfl (by decide) (by decide) (by decide) (by decide) (by decide) dX5_init_31 (fun H hP hS => ?_)
  replace hP := hP.cast (en' := updE (SmM g en [.ref (ad g (26, 0, 0)), .ref (ad g (26, 1, 0)), .null, .null, .null, .null, .int 0, .int 0] 0) (22, 0, 0) (.inl (gC g 0, 7, .inl (fl2 0)))) (fun k _ => by rw [fl2_0])
  refine lv_dup hx hb dX5_init_33 rfl ?_
  refine lv_iconst (v := 0) hx hb dX5_init_34 (by decide) ?_
  refine lv_iconst (v := 2) hx hb dX5_init_35 (by decide) ?_
  refine m_iastS hC hE (hg.ijn _) hP.1 hS ⟨q_22 hs, by show off (22, 0, 0) < _; decide⟩ updE_same 0 rfl (by decide) (by decide) (en' := updE (SmM g en [.ref (ad g (26, 0, 0)), .ref (ad g (26, 1, 0)), .null, .null, .null, .null, .int 0, .int 0] 0) (22, 0, 0) (.inl (gC g 0, 7, .inl (fl2 1)))) (by rw [updE_same, fl2_s]) (fun j _ hj => by rw [updE_ne hj, updE_ne hj]) dX5_init_36 (fun H locs z hP1 hS => ?_)
  replace hP := hP.put hP1 z
  refine lv_dup hx hb dX5_init_37 rfl ?_
  refine lv_iconst (v := 1) hx hb dX5_init_38 (by decide) ?_
  refine lv_iconst (v := 2) hx hb dX5_init_39 (by decide) ?_
  refine m_iastS hC hE (hg.ijn _) hP.1 hS ⟨q_22 hs, by show off (22, 0, 0) < _; decide⟩ updE_same 1 rfl (by decide) (by decide) (en' := updE (SmM g en [.ref (ad g (26, 0, 0)), .ref (ad g (26, 1, 0)), .null, .null, .null, .null, .int 0, .int 0] 0) (22, 0, 0) (.inl (gC g 0, 7, .inl (fl2 2)))) (by rw [updE_same, fl2_s]) (fun j _ hj => by rw [updE_ne hj, updE_ne hj]) dX5_init_40 (fun H locs z hP1 hS => ?_)
  replace hP := hP.put hP1 z
  refine lv_dup hx hb dX5_init_41 rfl ?_
  refine lv_iconst (v := 2) hx hb dX5_init_42 (by decide) ?_
  refine lv_iconst (v := 2) hx hb dX5_init_43 (by decide) ?_
  refine m_iastS hC hE (hg.ijn _) hP.1 hS ⟨q_22 hs, by show off (22, 0, 0) < _; decide⟩ updE_same 2 rfl (by decide) (by decide) (en' := updE (SmM g en [.ref (ad g (26, 0, 0)), .ref (ad g (26, 1, 0)), .null, .null, .null, .null, .int 0, .int 0] 0) (22, 0, 0) (.inl (gC g 0, 7, .inl (fl2 3)))) (by rw [updE_same, fl2_s]) (fun j _ hj => by rw [updE_ne hj, updE_ne hj]) dX5_init_44 (fun H locs z hP1 hS => ?_)
  replace hP := hP.put hP1 z
  refine lv_dup hx hb dX5_init_45 rfl ?_
  refine lv_iconst (v := 3) hx hb dX5_init_46 (by decide) ?_
  refine lv_iconst (v := 2) hx hb dX5_init_47 (by decide) ?_
  refine m_iastS hC hE (hg.ijn _) hP.1 hS ⟨q_22 hs, by show off (22, 0, 0) < _; decide⟩ updE_same 3 rfl (by decide) (by decide) (en' := updE (SmM g en [.ref (ad g (26, 0, 0)), .ref (ad g (26, 1, 0)), .null, .null, .null, .null, .int 0, .int 0] 0) (22, 0, 0) (.inl (gC g 0, 7, .inl (fl2 4)))) (by rw [updE_same, fl2_s]) (fun j _ hj => by rw [updE_ne hj, updE_ne hj]) dX5_init_48 (fun H locs z hP1 hS => ?_)
  replace hP := hP.put hP1 z
  refine lv_dup hx hb dX5_init_49 rfl ?_
  refine lv_iconst (v := 4) hx hb dX5_init_50 (by decide) ?_
  refine lv_iconst (v := 2) hx hb dX5_init_51 (by decide) ?_
  refine m_iastS hC hE (hg.ijn _) hP.1 hS ⟨q_22 hs, by show off (22, 0, 0) < _; decide⟩ updE_same 4 rfl (by decide) (by decide) (en' := updE (SmM g en [.ref (ad g (26, 0, 0)), .ref (ad g (26, 1, 0)), .null, .null, .null, .null, .int 0, .int 0] 0) (22, 0, 0) (.inl (gC g 0, 7, .inl (fl2 5)))) (by rw [updE_same, fl2_s]) (fun j _ hj => by rw [updE_ne hj, updE_ne hj]) dX5_init_52 (fun H locs z hP1 hS => ?_)
  replace hP := hP.put hP1 z
  refine lv_dup hx hb dX5_init_53 rfl ?_
  refine lv_iconst (v := 5) hx hb dX5_init_54 (by decide) ?_
  refine lv_iconst (v := 2) hx hb dX5_init_55 (by decide) ?_
  refine m_iastS hC hE (hg.ijn _) hP.1 hS ⟨q_22 hs, by show off (22, 0, 0) < _; decide⟩ updE_same 5 rfl (by decide) (by decide) (en' := updE (SmM g en [.ref (ad g (26, 0, 0)), .ref (ad g (26, 1, 0)), .null, .null, .null, .null, .int 0, .int 0] 0) (22, 0, 0) (.inl (gC g 0, 7, .inl (fl2 6)))) (by rw [updE_same, fl2_s]) (fun j _ hj => by rw [updE_ne hj, updE_ne hj]) dX5_init_56 (fun H locs z hP1 hS => ?_)
  replace hP := hP.put hP1 z
  refine lv_dup hx hb dX5_init_57 rfl ?_
  refine lv_bipush (v := 6) hx hb dX5_init_58 (by decide) ?_
  refine lv_iconst (v := 2) hx hb dX5_init_60 (by decide) ?_
  refine m_iastS hC hE (hg.ijn _) hP.1 hS ⟨q_22 hs, by show off (22, 0, 0) < _; decide⟩ updE_same 6 rfl (by decide) (by decide) (en' := updE (SmM g en [.ref (ad g (26, 0, 0)), .ref (ad g (26, 1, 0)), .null, .null, .null, .null, .int 0, .int 0] 0) (22, 0, 0) (.inl (gC g 0, 7, .inl (fl2 7)))) (by rw [updE_same, fl2_s]) (fun j _ hj => by rw [updE_ne hj, updE_ne hj]) dX5_init_61 (fun H locs z hP1 hS => ?_)
  replace hP := hP.put hP1 z
  replace hP := hP.cast (en' := SmM g en [.ref (ad g (26, 0, 0)), .ref (ad g (26, 1, 0)), .null, .null, .null, .null, .int 0, .int 0] 0) (fun k _ => (updE_id (by rw [SmM_in (by decide)]; rfl) k).symm)
  refine m_putS hC hE (hg.ijn _) hP.1 hS ⟨q_20 hs, by show off (20, 0, 0) < _; decide⟩ SmM_20 rfl u_5 tyX5_ok nmX5 2 (by decide) w_653 rfl rfl rfl rfl (Nat.le_of_ble_eq_true rfl) (en' := SmM g en [.ref (ad g (26, 0, 0)), .ref (ad g (26, 1, 0)), .ref (ad g (22, 0, 0)), .null, .null, .null, .int 0, .int 0] 0) SmM_20 (fun j _ hj => SmM_ne hj) dX5_init_62 (fun H locs z hP1 hS => ?_)
  replace hP := hP.put hP1 z
  refine lv_aload_n hx hb dX5_init_65 rfl (lv_at hl 0 rfl) ?_
  refine lv_iconst (v := 0) hx hb dX5_init_66 (by decide) ?_
  refine m_newAZ hC hE hg hP hS (27, 0, 0) ⟨⟨rfl, rfl⟩, hs _ (by decide)⟩ rfl w_609 (v := ent g (fun _ => v0) (fun _ => 0) (27, 0, 0)) rfl (by decide) (by decide) dX5_init_67 (fun H hP hS => ?_)
  replace hP := hP.cast (en' := SmM g en [.ref (ad g (26, 0, 0)), .ref (ad g (26, 1, 0)), .ref (ad g (22, 0, 0)), .null, .null, .null, .int 0, .int 0] 0) (fun k _ => (updE_id (SmM_in (by decide)) k).symm)
  refine m_putS hC hE (hg.ijn _) hP.1 hS ⟨q_20 hs, by show off (20, 0, 0) < _; decide⟩ SmM_20 rfl u_5 tyX5_ok nmX5 3 (by decide) w_655 rfl rfl rfl rfl (Nat.le_of_ble_eq_true rfl) (en' := SmM g en [.ref (ad g (26, 0, 0)), .ref (ad g (26, 1, 0)), .ref (ad g (22, 0, 0)), .ref (ad g (27, 0, 0)), .null, .null, .int 0, .int 0] 0) SmM_20 (fun j _ hj => SmM_ne hj) dX5_init_70 (fun H locs z hP1 hS => ?_)
  replace hP := hP.put hP1 z
  refine lv_aload_n hx hb dX5_init_73 rfl (lv_at hl 0 rfl) ?_
  refine lv_iconst (v := 0) hx hb dX5_init_74 (by decide) ?_
  refine m_newAZ hC hE hg hP hS (28, 2, 0) ⟨⟨Or.inl rfl, rfl⟩, hs _ (by decide)⟩ rfl w_609 (v := ent g (fun _ => v0) (fun _ => 0) (28, 2, 0)) rfl (by decide) (by decide) dX5_init_75 (fun H hP hS => ?_)
  replace hP := hP.cast (en' := SmM g en [.ref (ad g (26, 0, 0)), .ref (ad g (26, 1, 0)), .ref (ad g (22, 0, 0)), .ref (ad g (27, 0, 0)), .null, .null, .int 0, .int 0] 0) (fun k _ => (updE_id (SmM_in (by decide)) k).symm)
  refine m_putS hC hE (hg.ijn _) hP.1 hS ⟨q_20 hs, by show off (20, 0, 0) < _; decide⟩ SmM_20 rfl u_5 tyX5_ok nmX5 4 (by decide) w_657 rfl rfl rfl rfl (Nat.le_of_ble_eq_true rfl) (en' := SmM g en [.ref (ad g (26, 0, 0)), .ref (ad g (26, 1, 0)), .ref (ad g (22, 0, 0)), .ref (ad g (27, 0, 0)), .ref (ad g (28, 2, 0)), .null, .int 0, .int 0] 0) SmM_20 (fun j _ hj => SmM_ne hj) dX5_init_78 (fun H locs z hP1 hS => ?_)
  replace hP := hP.put hP1 z
  refine lv_aload_n hx hb dX5_init_81 rfl (lv_at hl 0 rfl) ?_
  refine lv_iconst (v := 0) hx hb dX5_init_82 (by decide) ?_
  refine m_newAZ hC hE hg hP hS (29, 2, 0) ⟨⟨Or.inl rfl, rfl⟩, hs _ (by decide)⟩ rfl w_609 (v := ent g (fun _ => v0) (fun _ => 0) (29, 2, 0)) rfl (by decide) (by decide) dX5_init_83 (fun H hP hS => ?_)
  replace hP := hP.cast (en' := SmM g en [.ref (ad g (26, 0, 0)), .ref (ad g (26, 1, 0)), .ref (ad g (22, 0, 0)), .ref (ad g (27, 0, 0)), .ref (ad g (28, 2, 0)), .null, .int 0, .int 0] 0) (fun k _ => (updE_id (SmM_in (by decide)) k).symm)
  refine m_putS hC hE (hg.ijn _) hP.1 hS ⟨q_20 hs, by show off (20, 0, 0) < _; decide⟩ SmM_20 rfl u_5 tyX5_ok nmX5 5 (by decide) w_659 rfl rfl rfl rfl (Nat.le_of_ble_eq_true rfl) (en' := SmM g en [.ref (ad g (26, 0, 0)), .ref (ad g (26, 1, 0)), .ref (ad g (22, 0, 0)), .ref (ad g (27, 0, 0)), .ref (ad g (28, 2, 0)), .ref (ad g (29, 2, 0)), .int 0, .int 0] 0) SmM_20 (fun j _ hj => SmM_ne hj) dX5_init_86 (fun H locs z hP1 hS => ?_)
  replace hP := hP.put hP1 z
  refine lv_aload_n hx hb dX5_init_89 rfl (lv_at hl 0 rfl) ?_
  refine lv_bipush (v := 20) hx hb dX5_init_90 (by decide) ?_
  refine m_putS hC hE (hg.ijn _) hP.1 hS ⟨q_20 hs, by show off (20, 0, 0) < _; decide⟩ SmM_20 rfl u_5 tyX5_ok nmX5 7 (by decide) w_662 rfl rfl rfl rfl (Nat.le_of_ble_eq_true rfl) (en' := SmM g en [.ref (ad g (26, 0, 0)), .ref (ad g (26, 1, 0)), .ref (ad g (22, 0, 0)), .ref (ad g (27, 0, 0)), .ref (ad g (28, 2, 0)), .ref (ad g (29, 2, 0)), .int 0, .int 20] 0) SmM_20 (fun j _ hj => SmM_ne hj) dX5_init_92 (fun H locs z hP1 hS => ?_)
  replace hP := hP.put hP1 z
  refine lv_aload_n hx hb dX5_init_95 rfl (lv_at hl 0 rfl) ?_
  refine m_get hC hE hP.1 ⟨q_20 hs, by show off (20, 0, 0) < _; decide⟩ SmM_20 rfl u_5 1 (by decide) w_651 rfl rfl dX5_init_96 ?_
  refine lv_astore_n (lv' := [(1, .ref (ad g (26, 1, 0))), (0, .ref (ad g (20, 0, 0)))]) hx hb dX5_init_99 rfl hl (by decide) rfl (fun ls hl => ?_)
  refine lv_aload_n hx hb dX5_init_100 rfl (lv_at hl 0 rfl) ?_
  refine m_alnA hC hE hP.1 ⟨q_26 hs (c := 1) (by decide), by show off (26, 1, 0) < _; decide⟩ (SmM_in (by decide)) rfl dX5_init_101 ?_
  refine lv_istore_n (lv' := [(2, .int (nI 9)), (1, .ref (ad g (26, 1, 0))), (0, .ref (ad g (20, 0, 0)))]) hx hb dX5_init_102 rfl hl (by decide) rfl (fun ls hl => ?_)
  refine lv_iconst (v := 0) hx hb dX5_init_103 (by decide) ?_
  refine lv_istore_n (lv' := [(3, .int (nI 0)), (2, .int (nI 9)), (1, .ref (ad g (26, 1, 0))), (0, .ref (ad g (20, 0, 0)))]) hx hb dX5_init_104 rfl hl (by decide) rfl (fun ls hl => ?_)
  refine lp_up (P := fun i => ∀ (H : Heap) (locs : List Loc) (ls : Array Slot), WSz g 86 (SmM g en [.ref (ad g (26, 0, 0)), .ref (ad g (26, 1, 0)), .ref (ad g (22, 0, 0)), .ref (ad g (27, 0, 0)), .ref (ad g (28, 2, 0)), .ref (ad g (29, 2, 0)), .int 0, .int 20] i) H → va_S (AA g) s.heap H locs → lv_has ls 5 [(3, .int (nI i)), (2, .int (nI 9)), (1, .ref (ad g (26, 1, 0))), (0, .ref (ad g (20, 0, 0)))] → W p l e { frames := 2, cells := 24, slots := 187, locals := 40 } s m ([.ref (ad g (20, 0, 0))] : List Value).toArray below meth c H locs (0 + 1 + 9 + 1 + 9 + 1 + 1 + 1 + 1) (0 + 9 + 9 * 9 + 9 + 9 * 9 + 7 + 0 + 0 + 0) (MQ below (Qz g 86 (SmF g en)) ([.ref (ad g (20, 0, 0))] : List Value).toArray s 24 187 (AA g)) (F0 m 105 ls [])) 9 ?hx ?hs 0 (Nat.zero_le _) H locs ls hP hS (lv_sub hl [0, 1, 2, 3] rfl)
  case hs =>
    intro i hi IH H locs ls hP hS hl
    refine lv_iload_n hx hb dX5_init_105 rfl (lv_at hl 0 rfl) ?_
    refine lv_iload_n hx hb dX5_init_106 rfl (lv_at hl 1 rfl) ?_
    refine lv_icmp_ge (tgt := 127) hx hb dX5_init_107 (by decide) (fun c1 => absurd c1 (nI_ge (b := 9) hi (by decide))) (fun c1 => ?_)
    refine lv_aload_n hx hb dX5_init_110 rfl (lv_at hl 2 rfl) ?_
    refine lv_iload_n hx hb dX5_init_111 rfl (lv_at hl 0 rfl) ?_
    refine m_aalA hC hE hP.1 ⟨q_26 hs (c := 1) (by decide), by show off (26, 1, 0) < _; decide⟩ (SmM_in (by decide)) i rfl hi (by decide) dX5_init_112 ?_
    refine lv_astore (lv' := [(4, .ref (ad g (21, 1, i))), (3, .int (nI i)), (2, .int (nI 9)), (1, .ref (ad g (26, 1, 0))), (0, .ref (ad g (20, 0, 0)))]) hx hb dX5_init_113 hl (by decide) rfl (fun ls hl => ?_)
    refine lv_aload hx hb dX5_init_115 (lv_at hl 0 rfl) ?_
    refine lv_iconst (v := 2) hx hb dX5_init_117 (by decide) ?_
    refine run_SZ hC hE hA hP hS (As := [.ref (ad g (21, 1, i)), .int 2]) (i_fill l hg (k := (21, 1, i)) ⟨q_21 hs (by decide) hi, by show 63 + 10 * 1 + i < 86; omega⟩ (if_pos ⟨rfl, rfl, Nat.le_refl _⟩) 2) cal_J7_fill_53178 w_646 ⟨Nat.le_of_ble_eq_true rfl, Nat.le_of_ble_eq_true rfl⟩ rfl rfl (Nat.le_of_ble_eq_true rfl) hl.1 ⟨Nat.le_of_ble_eq_true rfl, Nat.le_of_ble_eq_true rfl⟩ dX5_init_118 (fun H locs hP hS => ?_)
    replace hP := hP.cast (en' := SmM g en [.ref (ad g (26, 0, 0)), .ref (ad g (26, 1, 0)), .ref (ad g (22, 0, 0)), .ref (ad g (27, 0, 0)), .ref (ad g (28, 2, 0)), .ref (ad g (29, 2, 0)), .int 0, .int 20] (i + 1)) (fun k _ => SmM_s hi k)
    refine lv_iinc (v := nI (i + 1)) (lv' := [(3, .int (nI (i + 1))), (4, .ref (ad g (21, 1, i))), (2, .int (nI 9)), (1, .ref (ad g (26, 1, 0))), (0, .ref (ad g (20, 0, 0)))]) hx hb dX5_init_121 hl (k := 1) rfl (nI_1 _) (by decide) rfl (fun ls hl => ?_)
    refine lv_goto (tgt := 105) hx hb dX5_init_124 (by decide) ?_
    exact IH H locs ls hP hS (lv_sub hl [0, 2, 3, 4] rfl)
  intro H locs ls hP hS hl
  refine lv_iload_n hx hb dX5_init_105 rfl (lv_at hl 0 rfl) ?_
  refine lv_iload_n hx hb dX5_init_106 rfl (lv_at hl 1 rfl) ?_
  refine lv_icmp_ge (tgt := 127) hx hb dX5_init_107 (by decide) (fun c1 => ?_) (fun c1 => absurd (nI_le (Nat.le_refl _) (by decide)) c1)
  replace hP := hP.cast (en' := SmF g en) (fun k hk => SmM_9 rfl hk.1)
  exact mc_vret hC hr_ hlk hS hP dX5_init_127
