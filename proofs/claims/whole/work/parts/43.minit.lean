/-! The constructor of the reference. -/
theorem dX6_init_0 : decode cX6_init 0 = .ok (.aload_n 0, 1) := by decide +kernel
theorem dX6_init_1 : decode cX6_init 1 = .ok (.invokespecial 1, 3) := by decide +kernel
theorem dX6_init_4 : decode cX6_init 4 = .ok (.aload_n 0, 1) := by decide +kernel
theorem dX6_init_5 : decode cX6_init 5 = .ok (.bipush 81, 2) := by decide +kernel
theorem dX6_init_7 : decode cX6_init 7 = .ok (.newarray .int, 2) := by decide +kernel
theorem dX6_init_9 : decode cX6_init 9 = .ok (.putfield 9, 3) := by decide +kernel
theorem dX6_init_12 : decode cX6_init 12 = .ok (.aload_n 0, 1) := by decide +kernel
theorem dX6_init_13 : decode cX6_init 13 = .ok (.bipush 7, 2) := by decide +kernel
theorem dX6_init_15 : decode cX6_init 15 = .ok (.newarray .int, 2) := by decide +kernel
theorem dX6_init_17 : decode cX6_init 17 = .ok (.dup, 1) := by decide +kernel
theorem dX6_init_18 : decode cX6_init 18 = .ok (.iconst 0, 1) := by decide +kernel
theorem dX6_init_19 : decode cX6_init 19 = .ok (.iconst 2, 1) := by decide +kernel
theorem dX6_init_20 : decode cX6_init 20 = .ok (.iastore, 1) := by decide +kernel
theorem dX6_init_21 : decode cX6_init 21 = .ok (.dup, 1) := by decide +kernel
theorem dX6_init_22 : decode cX6_init 22 = .ok (.iconst 1, 1) := by decide +kernel
theorem dX6_init_23 : decode cX6_init 23 = .ok (.iconst 2, 1) := by decide +kernel
theorem dX6_init_24 : decode cX6_init 24 = .ok (.iastore, 1) := by decide +kernel
theorem dX6_init_25 : decode cX6_init 25 = .ok (.dup, 1) := by decide +kernel
theorem dX6_init_26 : decode cX6_init 26 = .ok (.iconst 2, 1) := by decide +kernel
theorem dX6_init_27 : decode cX6_init 27 = .ok (.iconst 2, 1) := by decide +kernel
theorem dX6_init_28 : decode cX6_init 28 = .ok (.iastore, 1) := by decide +kernel
theorem dX6_init_29 : decode cX6_init 29 = .ok (.dup, 1) := by decide +kernel
theorem dX6_init_30 : decode cX6_init 30 = .ok (.iconst 3, 1) := by decide +kernel
theorem dX6_init_31 : decode cX6_init 31 = .ok (.iconst 2, 1) := by decide +kernel
theorem dX6_init_32 : decode cX6_init 32 = .ok (.iastore, 1) := by decide +kernel
theorem dX6_init_33 : decode cX6_init 33 = .ok (.dup, 1) := by decide +kernel
theorem dX6_init_34 : decode cX6_init 34 = .ok (.iconst 4, 1) := by decide +kernel
theorem dX6_init_35 : decode cX6_init 35 = .ok (.iconst 2, 1) := by decide +kernel
theorem dX6_init_36 : decode cX6_init 36 = .ok (.iastore, 1) := by decide +kernel
theorem dX6_init_37 : decode cX6_init 37 = .ok (.dup, 1) := by decide +kernel
theorem dX6_init_38 : decode cX6_init 38 = .ok (.iconst 5, 1) := by decide +kernel
theorem dX6_init_39 : decode cX6_init 39 = .ok (.iconst 2, 1) := by decide +kernel
theorem dX6_init_40 : decode cX6_init 40 = .ok (.iastore, 1) := by decide +kernel
theorem dX6_init_41 : decode cX6_init 41 = .ok (.dup, 1) := by decide +kernel
theorem dX6_init_42 : decode cX6_init 42 = .ok (.bipush 6, 2) := by decide +kernel
theorem dX6_init_44 : decode cX6_init 44 = .ok (.iconst 2, 1) := by decide +kernel
theorem dX6_init_45 : decode cX6_init 45 = .ok (.iastore, 1) := by decide +kernel
theorem dX6_init_46 : decode cX6_init 46 = .ok (.putfield 13, 3) := by decide +kernel
theorem dX6_init_49 : decode cX6_init 49 = .ok (.aload_n 0, 1) := by decide +kernel
theorem dX6_init_50 : decode cX6_init 50 = .ok (.bipush 12, 2) := by decide +kernel
theorem dX6_init_52 : decode cX6_init 52 = .ok (.newarray .int, 2) := by decide +kernel
theorem dX6_init_54 : decode cX6_init 54 = .ok (.putfield 16, 3) := by decide +kernel
theorem dX6_init_57 : decode cX6_init 57 = .ok (.aload_n 0, 1) := by decide +kernel
theorem dX6_init_58 : decode cX6_init 58 = .ok (.bipush 12, 2) := by decide +kernel
theorem dX6_init_60 : decode cX6_init 60 = .ok (.newarray .int, 2) := by decide +kernel
theorem dX6_init_62 : decode cX6_init 62 = .ok (.putfield 19, 3) := by decide +kernel
theorem dX6_init_65 : decode cX6_init 65 = .ok (.aload_n 0, 1) := by decide +kernel
theorem dX6_init_66 : decode cX6_init 66 = .ok (.bipush 8, 2) := by decide +kernel
theorem dX6_init_68 : decode cX6_init 68 = .ok (.newarray .int, 2) := by decide +kernel
theorem dX6_init_70 : decode cX6_init 70 = .ok (.putfield 22, 3) := by decide +kernel
theorem dX6_init_73 : decode cX6_init 73 = .ok (.aload_n 0, 1) := by decide +kernel
theorem dX6_init_74 : decode cX6_init 74 = .ok (.bipush 8, 2) := by decide +kernel
theorem dX6_init_76 : decode cX6_init 76 = .ok (.newarray .int, 2) := by decide +kernel
theorem dX6_init_78 : decode cX6_init 78 = .ok (.putfield 25, 3) := by decide +kernel
theorem dX6_init_81 : decode cX6_init 81 = .ok (.aload_n 0, 1) := by decide +kernel
theorem dX6_init_82 : decode cX6_init 82 = .ok (.iconst 3, 1) := by decide +kernel
theorem dX6_init_83 : decode cX6_init 83 = .ok (.newarray .int, 2) := by decide +kernel
theorem dX6_init_85 : decode cX6_init 85 = .ok (.putfield 28, 3) := by decide +kernel
theorem dX6_init_88 : decode cX6_init 88 = .ok (.aload_n 0, 1) := by decide +kernel
theorem dX6_init_89 : decode cX6_init 89 = .ok (.new 31, 3) := by decide +kernel
theorem dX6_init_92 : decode cX6_init 92 = .ok (.dup, 1) := by decide +kernel
theorem dX6_init_93 : decode cX6_init 93 = .ok (.aload_n 0, 1) := by decide +kernel
theorem dX6_init_94 : decode cX6_init 94 = .ok (.invokespecial 33, 3) := by decide +kernel
theorem dX6_init_97 : decode cX6_init 97 = .ok (.putfield 36, 3) := by decide +kernel
theorem dX6_init_100 : decode cX6_init 100 = .ok (.aload_n 0, 1) := by decide +kernel
theorem dX6_init_101 : decode cX6_init 101 = .ok (.new 31, 3) := by decide +kernel
theorem dX6_init_104 : decode cX6_init 104 = .ok (.dup, 1) := by decide +kernel
theorem dX6_init_105 : decode cX6_init 105 = .ok (.aload_n 0, 1) := by decide +kernel
theorem dX6_init_106 : decode cX6_init 106 = .ok (.invokespecial 33, 3) := by decide +kernel
theorem dX6_init_109 : decode cX6_init 109 = .ok (.putfield 40, 3) := by decide +kernel
theorem dX6_init_112 : decode cX6_init 112 = .ok (.iconst 0, 1) := by decide +kernel
theorem dX6_init_113 : decode cX6_init 113 = .ok (.istore_n 1, 1) := by decide +kernel
theorem dX6_init_114 : decode cX6_init 114 = .ok (.iload_n 1, 1) := by decide +kernel
theorem dX6_init_115 : decode cX6_init 115 = .ok (.bipush 81, 2) := by decide +kernel
theorem dX6_init_117 : decode cX6_init 117 = .ok (.if_icmp .ge 16, 3) := by decide +kernel
theorem dX6_init_120 : decode cX6_init 120 = .ok (.aload_n 0, 1) := by decide +kernel
theorem dX6_init_121 : decode cX6_init 121 = .ok (.getfield 9, 3) := by decide +kernel
theorem dX6_init_124 : decode cX6_init 124 = .ok (.iload_n 1, 1) := by decide +kernel
theorem dX6_init_125 : decode cX6_init 125 = .ok (.iconst 2, 1) := by decide +kernel
theorem dX6_init_126 : decode cX6_init 126 = .ok (.iastore, 1) := by decide +kernel
theorem dX6_init_127 : decode cX6_init 127 = .ok (.iinc 1 1, 3) := by decide +kernel
theorem dX6_init_130 : decode cX6_init 130 = .ok (.goto (-16), 3) := by decide +kernel
theorem dX6_init_133 : decode cX6_init 133 = .ok (.return_, 1) := by decide +kernel
def MdB (g : Gm) (en : Key → va_E) : Key → va_E := fun k => if k.1 = 4 ∧ k.2.1 = 2 ∧ pv k.2.2 = false ∧ k.2.2 < 16 then ent g (fun _ => vM) (fun _ => 0) k else en k
theorem MdB_in {g : Gm} {en : Key → va_E} {c : Nat} (h : pv c = false) (h2 : c < 16) : MdB g en (4, 2, c) = ent g (fun _ => vM) (fun _ => 0) (4, 2, c) := if_pos ⟨rfl, rfl, h, h2⟩
theorem MdB_no {g : Gm} {en : Key → va_E} {k : Key} (h : ¬ (k.1 = 4 ∧ k.2.1 = 2 ∧ pv k.2.2 = false ∧ k.2.2 < 16)) : MdB g en k = en k := if_neg h
def MdS (g : Gm) (en : Key → va_E) (fs : List Value) : Key → va_E := updE (MdB g en) (10, 0, 0) (.inr (6, fs))
theorem MdS_10 {g : Gm} {en : Key → va_E} {fs : List Value} : MdS g en fs (10, 0, 0) = .inr (6, fs) := updE_same
theorem MdS_no {g : Gm} {en : Key → va_E} {fs : List Value} {k : Key} (h : k ≠ (10, 0, 0)) : MdS g en fs k = MdB g en k := updE_ne h
def MZ (g : Gm) (en : Key → va_E) (fs : List Value) : Key → va_E := updE (MdS g en fs) (4, 2, 1) (.inl (gC g 0, 81, .inl (fl2 0)))
theorem MZ_10 {g : Gm} {en : Key → va_E} {fs : List Value} : MZ g en fs (10, 0, 0) = .inr (6, fs) := (updE_ne (by decide)).trans MdS_10
theorem MZ_no {g : Gm} {en : Key → va_E} {fs fs' : List Value} {k : Key} (h : k ≠ (10, 0, 0)) : MZ g en fs k = MZ g en fs' k := by
  unfold MZ updE
  split
  · rfl
  · rw [MdS_no h, MdS_no h]
theorem MZ_in {g : Gm} {en : Key → va_E} {fs : List Value} {c : Nat} (h : pv c = false) (h2 : c < 16) (h3 : c ≠ 1) : MZ g en fs (4, 2, c) = ent g (fun _ => vM) (fun _ => 0) (4, 2, c) := by
  unfold MZ
  rw [updE_ne (by intro z; simp at z; exact h3 z), MdS_no (by intro z; simp at z), MdB_in h h2]
theorem offMd : ∀ c, c < 16 → pv c = false → 62 ≤ off (4, 2, c) := by decide +kernel
theorem MdS_start {g : Gm} {en : Key → va_E} {fs : List Value} {H : Heap} (h : WSz g 62 en H) (he : en (10, 0, 0) = .inr (6, fs)) : WSz g 62 (MdS g en fs) H := by
  refine h.cast fun k hk => ?_
  by_cases z : k = (10, 0, 0)
  · rw [z, MdS_10, he]
  · rw [MdS_no z, MdB_no]
    rintro ⟨h1, h2, h3, h4⟩
    obtain ⟨a, b, c⟩ := k
    simp only at h1 h2 h3 h4
    subst h1; subst h2
    have := offMd c h4 h3
    have := hk.2
    omega
section MIN
variable {p : Program} {l : Launch} {e : Jvm.Env} {R : Room} {s : State} {m : MethodId} {args : Array Value} {below : List Frame} {meth : Method} {c : Code} {H : Heap} {locs : List Loc} {cells slots : Nat} {Q : State → Prop}
variable {cc : ByteArray} {nL pc : Nat} {ls : Array Slot} {rest st : List Value} {own : String} {g : Gm} {n n' : Nat} {en en' : Key → va_E}
variable {y : MethodName} {b1 : ByteArray} {n1 na index : Nat} {R1 : Room}
theorem run_IN (hC : CallFix p m c cc nL s args LG own) (hE : Ev g s) (hA : AO3 s) (hP : WSz g n en H) (hS : va_S (AA g) s.heap H locs) {k : Key} {As : List Value} (hM : MC l y b1 n1 R1 g n en (.ref (ad g k) :: As) n' en') (hini : Cond.initialized y.cls ∈ LG) (hinst : Cond.instanceMethod y ∈ LG) (hcode : Cond.code y b1 n1 none ∈ LG) (hy : y.name = "<init>") (hd : y.cls ≠ "java/lang/invoke/MethodHandle" ∧ y.cls ≠ "java/lang/invoke/VarHandle" ∧ (parseMethodDescriptor y.desc).map (fun d => d.parameters.length) = some na) {host : String} (hlink : Cond.methodLinkNest own index y host ∈ NW) (hR : R1.frames + 1 ≤ R.frames ∧ 8 + (n1 + 11) + R1.locals ≤ R.locals) (hlen : As.length = na) (hst : st = As.reverse ++ .ref (ad g k) :: rest) (hroom : (rest.map fun v => v.category).sum ≤ 8) (hls : ls.size = nL) (hf : cells + R1.cells ≤ R.cells ∧ slots + R1.slots ≤ R.slots) (hdg : decode cc pc = .ok (.invokespecial index, 3))
    (kk : ∀ (H1 : Heap) (locs1 : List Loc), WSz g n' en' H1 → va_S (AA g) s.heap H1 locs1 → W p l e R s m args below meth c H1 locs1 (cells + R1.cells) (slots + R1.slots) Q (F0 m (pc + 3) ls rest)) : W p l e R s m args below meth c H locs cells slots Q (F0 m pc ls st) := by
  refine va_callv (va_runIN hC hM ⟨va_cnB na hC.2.2.2.2 (LG_y hcode) rfl rfl rfl (hE.2.1.1 _ hlink) (hC.2.2.2.2 _ hini) hd hR, hy, hC.2.2.2.2 _ hinst⟩ ⟨Pz.blind, fun U hU hW => ⟨rfl, hE.call hS hU hW, hA.moved hW.alike, by rw [hU]; exact hP⟩⟩ rfl hlen hls hst (lv_room hroom) hdg hf) hS (fun q _ h => h) (fun q h => h) (fun u t H1 locs1 ht hvm hw hB hz hk hS1 => ?_)
  rw [ht] at hB
  exact kk H1 locs1 hB hS1
end MIN
def MdW (g : Gm) (en : Key → va_E) : Key → va_E := updE (StS g 3 (updE (updE (StS g 2 (updE (MZ g en [.int 0, .ref (ad g (4, 2, 1)), .ref (ad g (4, 2, 2)), .int 0, .ref (ad g (4, 2, 3)), .ref (ad g (4, 2, 4)), .int 0, .ref (ad g (4, 2, 6)), .ref (ad g (4, 2, 7)), .int 0, .ref (ad g (4, 2, 14)), .null, .null]) (9, 2, 0) (.inr (5, [.int 0, .int 0, .null, .null, .null, .null, .null, .null, .null, .null, .null, .null]))) [.int 0, .int 20, .ref (ad g (4, 2, 0)), .ref (ad g (4, 2, 5)), .ref (ad g (4, 2, 8)), .ref (ad g (4, 2, 9)), .ref (ad g (4, 2, 10)), .ref (ad g (4, 2, 11)), .ref (ad g (4, 2, 12)), .ref (ad g (4, 2, 13)), .ref (ad g (4, 2, 15)), .ref (ad g (10, 0, 0))]) (10, 0, 0) (.inr (6, [.int 0, .ref (ad g (4, 2, 1)), .ref (ad g (4, 2, 2)), .int 0, .ref (ad g (4, 2, 3)), .ref (ad g (4, 2, 4)), .int 0, .ref (ad g (4, 2, 6)), .ref (ad g (4, 2, 7)), .int 0, .ref (ad g (4, 2, 14)), .ref (ad g (9, 2, 0)), .null]))) (9, 3, 0) (.inr (5, [.int 0, .int 0, .null, .null, .null, .null, .null, .null, .null, .null, .null, .null]))) [.int 0, .int 20, .ref (ad g (4, 3, 0)), .ref (ad g (4, 3, 5)), .ref (ad g (4, 3, 8)), .ref (ad g (4, 3, 9)), .ref (ad g (4, 3, 10)), .ref (ad g (4, 3, 11)), .ref (ad g (4, 3, 12)), .ref (ad g (4, 3, 13)), .ref (ad g (4, 3, 15)), .ref (ad g (10, 0, 0))]) (10, 0, 0) (.inr (6, [.int 0, .ref (ad g (4, 2, 1)), .ref (ad g (4, 2, 2)), .int 0, .ref (ad g (4, 2, 3)), .ref (ad g (4, 2, 4)), .int 0, .ref (ad g (4, 2, 6)), .ref (ad g (4, 2, 7)), .int 0, .ref (ad g (4, 2, 14)), .ref (ad g (9, 2, 0)), .ref (ad g (9, 3, 0))]))
def MdE (g : Gm) (en : Key → va_E) (i : Nat) : Key → va_E := updE (MdW g en) (4, 2, 1) (.inl (gC g 0, 81, .inl (fl2 i)))
theorem MdW_mud {g : Gm} {en : Key → va_E} : MdW g en (4, 2, 1) = .inl (gC g 0, 81, .inl (fl2 0)) := (updE_ne (by decide)).trans ((StS_no (by decide)).trans ((StB_no (by decide)).trans ((updE_ne (by decide)).trans ((updE_ne (by decide)).trans ((StS_no (by decide)).trans ((StB_no (by decide)).trans ((updE_ne (by decide)).trans updE_same)))))))
theorem MdW_10 {g : Gm} {en : Key → va_E} : MdW g en (10, 0, 0) = .inr (6, [.int 0, .ref (ad g (4, 2, 1)), .ref (ad g (4, 2, 2)), .int 0, .ref (ad g (4, 2, 3)), .ref (ad g (4, 2, 4)), .int 0, .ref (ad g (4, 2, 6)), .ref (ad g (4, 2, 7)), .int 0, .ref (ad g (4, 2, 14)), .ref (ad g (9, 2, 0)), .ref (ad g (9, 3, 0))]) := updE_same
abbrev rm6 : Room := { frames := 3, cells := 27, slots := 423, locals := 60 }
set_option maxHeartbeats 4000000 in
set_option maxRecDepth 100000 in
theorem i_model (l : Launch) {g : Gm} (hg : Gz g) {en : Key → va_E} (he : en (10, 0, 0) = .inr (6, [.int 0, .null, .null, .int 0, .null, .null, .int 0, .null, .null, .int 0, .null, .null, .null])) : MC l yX6_init cX6_init 2 rm6 g 62 en [.ref (ad g (10, 0, 0))] 89 (MdE g en 81) := by
  refine mc_of (by decide +kernel) (Nat.le_of_ble_eq_true rfl) ?_
  intro p e s m below meth c ls hC hr_ hlk hnm hE hA hP hS hl
  obtain ⟨hx, hb, hml, hown, hG⟩ := id hC
  have hl : lv_has ls 2 [(0, .ref (ad g (10, 0, 0)))] := hl
  have hI0 : s.vm.findClass ("[" ++ (newarray.typeOf .int).toString) = some (gC g 0) := (hE.1.2 0 _ rfl).2
  have hP := MdS_start hP he
  refine lv_aload_n hx hb dX6_init_0 rfl (lv_at hl 0 rfl) ?_
  refine m_oinit hC w_624 hl.1 dX6_init_1 (Nat.le_of_ble_eq_true rfl) (Nat.le_of_ble_eq_true rfl) ?_
  refine lv_aload_n hx hb dX6_init_4 rfl (lv_at hl 0 rfl) ?_
  refine lv_bipush (v := 81) hx hb dX6_init_5 (by decide) ?_
  refine m_newa hC hg hP hS (4, 2, 1) (k_4s (by decide)) rfl (atype := .int) w_54 hI0 (N := 81) (a0 := (81, .inl (fun _ => 0))) rfl (by decide) (by decide) (by decide) (Nat.le_of_ble_eq_true rfl) (Nat.le_of_ble_eq_true rfl) dX6_init_7 (fun H hP hS => ?_)
  replace hP := hP.cast (en' := MZ g en [.int 0, .null, .null, .int 0, .null, .null, .int 0, .null, .null, .int 0, .null, .null, .null]) (fun k _ => by unfold MZ; rw [fl2_0])
  refine m_putF hC hE (hg.ijn _) hP.1 hS hnm ⟨k_10, by decide⟩ MZ_10 rfl u_6 tyX6_ok nmX6 1 (by decide) w_680 rfl rfl rfl rfl rfl (Nat.le_of_ble_eq_true rfl) (en' := MZ g en [.int 0, .ref (ad g (4, 2, 1)), .null, .int 0, .null, .null, .int 0, .null, .null, .int 0, .null, .null, .null]) MZ_10 (fun j _ hj => MZ_no hj) dX6_init_9 (fun H locs z hP1 hS => ?_)
  replace hP := hP.put hP1 z
  refine lv_aload_n hx hb dX6_init_12 rfl (lv_at hl 0 rfl) ?_
  refine lv_bipush (v := 7) hx hb dX6_init_13 (by decide) ?_
  refine m_newa hC hg hP hS (4, 2, 2) (k_4s (by decide)) rfl (atype := .int) w_54 hI0 (N := 7) (a0 := (7, .inl (fun _ => 0))) rfl (by decide) (by decide) (by decide) (Nat.le_of_ble_eq_true rfl) (Nat.le_of_ble_eq_true rfl) dX6_init_15 (fun H hP hS => ?_)
  replace hP := hP.cast (en' := updE (MZ g en [.int 0, .ref (ad g (4, 2, 1)), .null, .int 0, .null, .null, .int 0, .null, .null, .int 0, .null, .null, .null]) (4, 2, 2) (.inl (gC g 0, 7, .inl (fl2 0)))) (fun k _ => by rw [fl2_0])
  refine lv_dup hx hb dX6_init_17 rfl ?_
  refine lv_iconst (v := 0) hx hb dX6_init_18 (by decide) ?_
  refine lv_iconst (v := 2) hx hb dX6_init_19 (by decide) ?_
  refine m_iastS hC hE (hg.ijn _) hP.1 hS ⟨k_4s (by decide), by decide⟩ updE_same 0 rfl (by decide) (by decide) (en' := updE (MZ g en [.int 0, .ref (ad g (4, 2, 1)), .null, .int 0, .null, .null, .int 0, .null, .null, .int 0, .null, .null, .null]) (4, 2, 2) (.inl (gC g 0, 7, .inl (fl2 1)))) (by rw [updE_same, show fl2 1 = upd (fl2 0) 0 2 from fl2_s 0]) (fun j _ hj => by rw [updE_ne hj, updE_ne hj]) dX6_init_20 (fun H locs z hP1 hS => ?_)
  replace hP := hP.put hP1 z
  refine lv_dup hx hb dX6_init_21 rfl ?_
  refine lv_iconst (v := 1) hx hb dX6_init_22 (by decide) ?_
  refine lv_iconst (v := 2) hx hb dX6_init_23 (by decide) ?_
  refine m_iastS hC hE (hg.ijn _) hP.1 hS ⟨k_4s (by decide), by decide⟩ updE_same 1 rfl (by decide) (by decide) (en' := updE (MZ g en [.int 0, .ref (ad g (4, 2, 1)), .null, .int 0, .null, .null, .int 0, .null, .null, .int 0, .null, .null, .null]) (4, 2, 2) (.inl (gC g 0, 7, .inl (fl2 2)))) (by rw [updE_same, show fl2 2 = upd (fl2 1) 1 2 from fl2_s 1]) (fun j _ hj => by rw [updE_ne hj, updE_ne hj]) dX6_init_24 (fun H locs z hP1 hS => ?_)
  replace hP := hP.put hP1 z
  refine lv_dup hx hb dX6_init_25 rfl ?_
  refine lv_iconst (v := 2) hx hb dX6_init_26 (by decide) ?_
  refine lv_iconst (v := 2) hx hb dX6_init_27 (by decide) ?_
  refine m_iastS hC hE (hg.ijn _) hP.1 hS ⟨k_4s (by decide), by decide⟩ updE_same 2 rfl (by decide) (by decide) (en' := updE (MZ g en [.int 0, .ref (ad g (4, 2, 1)), .null, .int 0, .null, .null, .int 0, .null, .null, .int 0, .null, .null, .null]) (4, 2, 2) (.inl (gC g 0, 7, .inl (fl2 3)))) (by rw [updE_same, show fl2 3 = upd (fl2 2) 2 2 from fl2_s 2]) (fun j _ hj => by rw [updE_ne hj, updE_ne hj]) dX6_init_28 (fun H locs z hP1 hS => ?_)
  replace hP := hP.put hP1 z
  refine lv_dup hx hb dX6_init_29 rfl ?_
  refine lv_iconst (v := 3) hx hb dX6_init_30 (by decide) ?_
  refine lv_iconst (v := 2) hx hb dX6_init_31 (by decide) ?_
  refine m_iastS hC hE (hg.ijn _) hP.1 hS ⟨k_4s (by decide), by decide⟩ updE_same 3 rfl (by decide) (by decide) (en' := updE (MZ g en [.int 0, .ref (ad g (4, 2, 1)), .null, .int 0, .null, .null, .int 0, .null, .null, .int 0, .null, .null, .null]) (4, 2, 2) (.inl (gC g 0, 7, .inl (fl2 4)))) (by rw [updE_same, show fl2 4 = upd (fl2 3) 3 2 from fl2_s 3]) (fun j _ hj => by rw [updE_ne hj, updE_ne hj]) dX6_init_32 (fun H locs z hP1 hS => ?_)
  replace hP := hP.put hP1 z
  refine lv_dup hx hb dX6_init_33 rfl ?_
  refine lv_iconst (v := 4) hx hb dX6_init_34 (by decide) ?_
  refine lv_iconst (v := 2) hx hb dX6_init_35 (by decide) ?_
  refine m_iastS hC hE (hg.ijn _) hP.1 hS ⟨k_4s (by decide), by decide⟩ updE_same 4 rfl (by decide) (by decide) (en' := updE (MZ g en [.int 0, .ref (ad g (4, 2, 1)), .null, .int 0, .null, .null, .int 0, .null, .null, .int 0, .null, .null, .null]) (4, 2, 2) (.inl (gC g 0, 7, .inl (fl2 5)))) (by rw [updE_same, show fl2 5 = upd (fl2 4) 4 2 from fl2_s 4]) (fun j _ hj => by rw [updE_ne hj, updE_ne hj]) dX6_init_36 (fun H locs z hP1 hS => ?_)
  replace hP := hP.put hP1 z
  refine lv_dup hx hb dX6_init_37 rfl ?_
  refine lv_iconst (v := 5) hx hb dX6_init_38 (by decide) ?_
  refine lv_iconst (v := 2) hx hb dX6_init_39 (by decide) ?_
  refine m_iastS hC hE (hg.ijn _) hP.1 hS ⟨k_4s (by decide), by decide⟩ updE_same 5 rfl (by decide) (by decide) (en' := updE (MZ g en [.int 0, .ref (ad g (4, 2, 1)), .null, .int 0, .null, .null, .int 0, .null, .null, .int 0, .null, .null, .null]) (4, 2, 2) (.inl (gC g 0, 7, .inl (fl2 6)))) (by rw [updE_same, show fl2 6 = upd (fl2 5) 5 2 from fl2_s 5]) (fun j _ hj => by rw [updE_ne hj, updE_ne hj]) dX6_init_40 (fun H locs z hP1 hS => ?_)
  replace hP := hP.put hP1 z
  refine lv_dup hx hb dX6_init_41 rfl ?_
  refine lv_bipush (v := 6) hx hb dX6_init_42 (by decide) ?_
  refine lv_iconst (v := 2) hx hb dX6_init_44 (by decide) ?_
  refine m_iastS hC hE (hg.ijn _) hP.1 hS ⟨k_4s (by decide), by decide⟩ updE_same 6 rfl (by decide) (by decide) (en' := updE (MZ g en [.int 0, .ref (ad g (4, 2, 1)), .null, .int 0, .null, .null, .int 0, .null, .null, .int 0, .null, .null, .null]) (4, 2, 2) (.inl (gC g 0, 7, .inl (fl2 7)))) (by rw [updE_same, show fl2 7 = upd (fl2 6) 6 2 from fl2_s 6]) (fun j _ hj => by rw [updE_ne hj, updE_ne hj]) dX6_init_45 (fun H locs z hP1 hS => ?_)
  replace hP := hP.put hP1 z
  replace hP := hP.cast (en' := MZ g en [.int 0, .ref (ad g (4, 2, 1)), .null, .int 0, .null, .null, .int 0, .null, .null, .int 0, .null, .null, .null]) (fun k _ => (updE_id (by rw [MZ_in rfl (by decide) (by decide)]; rfl) k).symm)
  refine m_putF hC hE (hg.ijn _) hP.1 hS hnm ⟨k_10, by decide⟩ MZ_10 rfl u_6 tyX6_ok nmX6 2 (by decide) w_682 rfl rfl rfl rfl rfl (Nat.le_of_ble_eq_true rfl) (en' := MZ g en [.int 0, .ref (ad g (4, 2, 1)), .ref (ad g (4, 2, 2)), .int 0, .null, .null, .int 0, .null, .null, .int 0, .null, .null, .null]) MZ_10 (fun j _ hj => MZ_no hj) dX6_init_46 (fun H locs z hP1 hS => ?_)
  replace hP := hP.put hP1 z
  refine lv_aload_n hx hb dX6_init_49 rfl (lv_at hl 0 rfl) ?_
  refine lv_bipush (v := 12) hx hb dX6_init_50 (by decide) ?_
  refine m_newa hC hg hP hS (4, 2, 3) (k_4s (by decide)) rfl (atype := .int) w_54 hI0 (N := 12) (a0 := (12, .inl (fun _ => 0))) rfl (by decide) (by decide) (by decide) (Nat.le_of_ble_eq_true rfl) (Nat.le_of_ble_eq_true rfl) dX6_init_52 (fun H hP hS => ?_)
  replace hP := hP.cast (en' := MZ g en [.int 0, .ref (ad g (4, 2, 1)), .ref (ad g (4, 2, 2)), .int 0, .null, .null, .int 0, .null, .null, .int 0, .null, .null, .null]) (fun k _ => (updE_id (by rw [MZ_in rfl (by decide) (by decide)]; rfl) k).symm)
  refine m_putF hC hE (hg.ijn _) hP.1 hS hnm ⟨k_10, by decide⟩ MZ_10 rfl u_6 tyX6_ok nmX6 4 (by decide) w_686 rfl rfl rfl rfl rfl (Nat.le_of_ble_eq_true rfl) (en' := MZ g en [.int 0, .ref (ad g (4, 2, 1)), .ref (ad g (4, 2, 2)), .int 0, .ref (ad g (4, 2, 3)), .null, .int 0, .null, .null, .int 0, .null, .null, .null]) MZ_10 (fun j _ hj => MZ_no hj) dX6_init_54 (fun H locs z hP1 hS => ?_)
  replace hP := hP.put hP1 z
  refine lv_aload_n hx hb dX6_init_57 rfl (lv_at hl 0 rfl) ?_
  refine lv_bipush (v := 12) hx hb dX6_init_58 (by decide) ?_
  refine m_newa hC hg hP hS (4, 2, 4) (k_4s (by decide)) rfl (atype := .int) w_54 hI0 (N := 12) (a0 := (12, .inl (fun _ => 0))) rfl (by decide) (by decide) (by decide) (Nat.le_of_ble_eq_true rfl) (Nat.le_of_ble_eq_true rfl) dX6_init_60 (fun H hP hS => ?_)
  replace hP := hP.cast (en' := MZ g en [.int 0, .ref (ad g (4, 2, 1)), .ref (ad g (4, 2, 2)), .int 0, .ref (ad g (4, 2, 3)), .null, .int 0, .null, .null, .int 0, .null, .null, .null]) (fun k _ => (updE_id (by rw [MZ_in rfl (by decide) (by decide)]; rfl) k).symm)
  refine m_putF hC hE (hg.ijn _) hP.1 hS hnm ⟨k_10, by decide⟩ MZ_10 rfl u_6 tyX6_ok nmX6 5 (by decide) w_688 rfl rfl rfl rfl rfl (Nat.le_of_ble_eq_true rfl) (en' := MZ g en [.int 0, .ref (ad g (4, 2, 1)), .ref (ad g (4, 2, 2)), .int 0, .ref (ad g (4, 2, 3)), .ref (ad g (4, 2, 4)), .int 0, .null, .null, .int 0, .null, .null, .null]) MZ_10 (fun j _ hj => MZ_no hj) dX6_init_62 (fun H locs z hP1 hS => ?_)
  replace hP := hP.put hP1 z
  refine lv_aload_n hx hb dX6_init_65 rfl (lv_at hl 0 rfl) ?_
  refine lv_bipush (v := 8) hx hb dX6_init_66 (by decide) ?_
  refine m_newa hC hg hP hS (4, 2, 6) (k_4s (by decide)) rfl (atype := .int) w_54 hI0 (N := 8) (a0 := (8, .inl (fun _ => 0))) rfl (by decide) (by decide) (by decide) (Nat.le_of_ble_eq_true rfl) (Nat.le_of_ble_eq_true rfl) dX6_init_68 (fun H hP hS => ?_)
  replace hP := hP.cast (en' := MZ g en [.int 0, .ref (ad g (4, 2, 1)), .ref (ad g (4, 2, 2)), .int 0, .ref (ad g (4, 2, 3)), .ref (ad g (4, 2, 4)), .int 0, .null, .null, .int 0, .null, .null, .null]) (fun k _ => (updE_id (by rw [MZ_in rfl (by decide) (by decide)]; rfl) k).symm)
  refine m_putF hC hE (hg.ijn _) hP.1 hS hnm ⟨k_10, by decide⟩ MZ_10 rfl u_6 tyX6_ok nmX6 7 (by decide) w_692 rfl rfl rfl rfl rfl (Nat.le_of_ble_eq_true rfl) (en' := MZ g en [.int 0, .ref (ad g (4, 2, 1)), .ref (ad g (4, 2, 2)), .int 0, .ref (ad g (4, 2, 3)), .ref (ad g (4, 2, 4)), .int 0, .ref (ad g (4, 2, 6)), .null, .int 0, .null, .null, .null]) MZ_10 (fun j _ hj => MZ_no hj) dX6_init_70 (fun H locs z hP1 hS => ?_)
  replace hP := hP.put hP1 z
  refine lv_aload_n hx hb dX6_init_73 rfl (lv_at hl 0 rfl) ?_
  refine lv_bipush (v := 8) hx hb dX6_init_74 (by decide) ?_
  refine m_newa hC hg hP hS (4, 2, 7) (k_4s (by decide)) rfl (atype := .int) w_54 hI0 (N := 8) (a0 := (8, .inl (fun _ => 0))) rfl (by decide) (by decide) (by decide) (Nat.le_of_ble_eq_true rfl) (Nat.le_of_ble_eq_true rfl) dX6_init_76 (fun H hP hS => ?_)
  replace hP := hP.cast (en' := MZ g en [.int 0, .ref (ad g (4, 2, 1)), .ref (ad g (4, 2, 2)), .int 0, .ref (ad g (4, 2, 3)), .ref (ad g (4, 2, 4)), .int 0, .ref (ad g (4, 2, 6)), .null, .int 0, .null, .null, .null]) (fun k _ => (updE_id (by rw [MZ_in rfl (by decide) (by decide)]; rfl) k).symm)
  refine m_putF hC hE (hg.ijn _) hP.1 hS hnm ⟨k_10, by decide⟩ MZ_10 rfl u_6 tyX6_ok nmX6 8 (by decide) w_694 rfl rfl rfl rfl rfl (Nat.le_of_ble_eq_true rfl) (en' := MZ g en [.int 0, .ref (ad g (4, 2, 1)), .ref (ad g (4, 2, 2)), .int 0, .ref (ad g (4, 2, 3)), .ref (ad g (4, 2, 4)), .int 0, .ref (ad g (4, 2, 6)), .ref (ad g (4, 2, 7)), .int 0, .null, .null, .null]) MZ_10 (fun j _ hj => MZ_no hj) dX6_init_78 (fun H locs z hP1 hS => ?_)
  replace hP := hP.put hP1 z
  refine lv_aload_n hx hb dX6_init_81 rfl (lv_at hl 0 rfl) ?_
  refine lv_iconst (v := 3) hx hb dX6_init_82 (by decide) ?_
  refine m_newa hC hg hP hS (4, 2, 14) (k_4s (by decide)) rfl (atype := .int) w_54 hI0 (N := 3) (a0 := (3, .inl (fun _ => 0))) rfl (by decide) (by decide) (by decide) (Nat.le_of_ble_eq_true rfl) (Nat.le_of_ble_eq_true rfl) dX6_init_83 (fun H hP hS => ?_)
  replace hP := hP.cast (en' := MZ g en [.int 0, .ref (ad g (4, 2, 1)), .ref (ad g (4, 2, 2)), .int 0, .ref (ad g (4, 2, 3)), .ref (ad g (4, 2, 4)), .int 0, .ref (ad g (4, 2, 6)), .ref (ad g (4, 2, 7)), .int 0, .null, .null, .null]) (fun k _ => (updE_id (by rw [MZ_in rfl (by decide) (by decide)]; rfl) k).symm)
  refine m_putF hC hE (hg.ijn _) hP.1 hS hnm ⟨k_10, by decide⟩ MZ_10 rfl u_6 tyX6_ok nmX6 10 (by decide) w_698 rfl rfl rfl rfl rfl (Nat.le_of_ble_eq_true rfl) (en' := MZ g en [.int 0, .ref (ad g (4, 2, 1)), .ref (ad g (4, 2, 2)), .int 0, .ref (ad g (4, 2, 3)), .ref (ad g (4, 2, 4)), .int 0, .ref (ad g (4, 2, 6)), .ref (ad g (4, 2, 7)), .int 0, .ref (ad g (4, 2, 14)), .null, .null]) MZ_10 (fun j _ hj => MZ_no hj) dX6_init_85 (fun H locs z hP1 hS => ?_)
  replace hP := hP.put hP1 z
  refine lv_aload_n hx hb dX6_init_88 rfl (lv_at hl 0 rfl) ?_
  refine m_new hC hE hg hP hS (9, 2, 0) (k_9 (by decide)) rfl (ci := 5) rfl u_5 tyX5_ok w_625 w_626 w_7 [.int 0, .int 0, .null, .null, .null, .null, .null, .null, .null, .null, .null, .null] (fun j hj => by have : j = 0 ∨ j = 1 ∨ j = 2 ∨ j = 3 ∨ j = 4 ∨ j = 5 ∨ j = 6 ∨ j = 7 ∨ j = 8 ∨ j = 9 ∨ j = 10 ∨ j = 11 := (by omega); rcases this with rfl | rfl | rfl | rfl | rfl | rfl | rfl | rfl | rfl | rfl | rfl | rfl <;> rfl) (Nat.le_of_ble_eq_true rfl) (Nat.le_of_ble_eq_true rfl) dX6_init_89 (fun H hP hS => ?_)
  refine lv_dup hx hb dX6_init_92 rfl ?_
  refine lv_aload_n hx hb dX6_init_93 rfl (lv_at hl 0 rfl) ?_
  refine run_IN (na := 1) hC hE hA hP hS (As := [.ref (ad g (10, 0, 0))]) (i_state2 l hg updE_same) w_7 w_628 w_629 rfl (by decide +kernel) n_627 ⟨Nat.le_of_ble_eq_true rfl, Nat.le_of_ble_eq_true rfl⟩ rfl rfl (Nat.le_of_ble_eq_true rfl) hl.1 ⟨Nat.le_of_ble_eq_true rfl, Nat.le_of_ble_eq_true rfl⟩ dX6_init_94 (fun H locs hP hS => ?_)
  refine m_putF hC hE (hg.ijn _) hP.1 hS hnm ⟨k_10, by decide⟩ ((StS_no (by decide)).trans ((StB_no (by decide)).trans ((updE_ne (by decide)).trans MZ_10))) rfl u_6 tyX6_ok nmX6 11 (by decide) w_700 rfl rfl rfl rfl rfl (Nat.le_of_ble_eq_true rfl) (en' := updE (StS g 2 (updE (MZ g en [.int 0, .ref (ad g (4, 2, 1)), .ref (ad g (4, 2, 2)), .int 0, .ref (ad g (4, 2, 3)), .ref (ad g (4, 2, 4)), .int 0, .ref (ad g (4, 2, 6)), .ref (ad g (4, 2, 7)), .int 0, .ref (ad g (4, 2, 14)), .null, .null]) (9, 2, 0) (.inr (5, [.int 0, .int 0, .null, .null, .null, .null, .null, .null, .null, .null, .null, .null]))) [.int 0, .int 20, .ref (ad g (4, 2, 0)), .ref (ad g (4, 2, 5)), .ref (ad g (4, 2, 8)), .ref (ad g (4, 2, 9)), .ref (ad g (4, 2, 10)), .ref (ad g (4, 2, 11)), .ref (ad g (4, 2, 12)), .ref (ad g (4, 2, 13)), .ref (ad g (4, 2, 15)), .ref (ad g (10, 0, 0))]) (10, 0, 0) (.inr (6, [.int 0, .ref (ad g (4, 2, 1)), .ref (ad g (4, 2, 2)), .int 0, .ref (ad g (4, 2, 3)), .ref (ad g (4, 2, 4)), .int 0, .ref (ad g (4, 2, 6)), .ref (ad g (4, 2, 7)), .int 0, .ref (ad g (4, 2, 14)), .ref (ad g (9, 2, 0)), .null]))) updE_same (fun j _ hj => updE_ne hj) dX6_init_97 (fun H locs z hP1 hS => ?_)
  replace hP := hP.put hP1 z
  refine lv_aload_n hx hb dX6_init_100 rfl (lv_at hl 0 rfl) ?_
  refine m_new hC hE hg hP hS (9, 3, 0) (k_9 (by decide)) rfl (ci := 5) rfl u_5 tyX5_ok w_625 w_626 w_7 [.int 0, .int 0, .null, .null, .null, .null, .null, .null, .null, .null, .null, .null] (fun j hj => by have : j = 0 ∨ j = 1 ∨ j = 2 ∨ j = 3 ∨ j = 4 ∨ j = 5 ∨ j = 6 ∨ j = 7 ∨ j = 8 ∨ j = 9 ∨ j = 10 ∨ j = 11 := (by omega); rcases this with rfl | rfl | rfl | rfl | rfl | rfl | rfl | rfl | rfl | rfl | rfl | rfl <;> rfl) (Nat.le_of_ble_eq_true rfl) (Nat.le_of_ble_eq_true rfl) dX6_init_101 (fun H hP hS => ?_)
  refine lv_dup hx hb dX6_init_104 rfl ?_
  refine lv_aload_n hx hb dX6_init_105 rfl (lv_at hl 0 rfl) ?_
  refine run_IN (na := 1) hC hE hA hP hS (As := [.ref (ad g (10, 0, 0))]) (i_state3 l hg updE_same) w_7 w_628 w_629 rfl (by decide +kernel) n_627 ⟨Nat.le_of_ble_eq_true rfl, Nat.le_of_ble_eq_true rfl⟩ rfl rfl (Nat.le_of_ble_eq_true rfl) hl.1 ⟨Nat.le_of_ble_eq_true rfl, Nat.le_of_ble_eq_true rfl⟩ dX6_init_106 (fun H locs hP hS => ?_)
  refine m_putF hC hE (hg.ijn _) hP.1 hS hnm ⟨k_10, by decide⟩ ((StS_no (by decide)).trans ((StB_no (by decide)).trans ((updE_ne (by decide)).trans updE_same))) rfl u_6 tyX6_ok nmX6 12 (by decide) w_701 rfl rfl rfl rfl rfl (Nat.le_of_ble_eq_true rfl) (en' := updE (StS g 3 (updE (updE (StS g 2 (updE (MZ g en [.int 0, .ref (ad g (4, 2, 1)), .ref (ad g (4, 2, 2)), .int 0, .ref (ad g (4, 2, 3)), .ref (ad g (4, 2, 4)), .int 0, .ref (ad g (4, 2, 6)), .ref (ad g (4, 2, 7)), .int 0, .ref (ad g (4, 2, 14)), .null, .null]) (9, 2, 0) (.inr (5, [.int 0, .int 0, .null, .null, .null, .null, .null, .null, .null, .null, .null, .null]))) [.int 0, .int 20, .ref (ad g (4, 2, 0)), .ref (ad g (4, 2, 5)), .ref (ad g (4, 2, 8)), .ref (ad g (4, 2, 9)), .ref (ad g (4, 2, 10)), .ref (ad g (4, 2, 11)), .ref (ad g (4, 2, 12)), .ref (ad g (4, 2, 13)), .ref (ad g (4, 2, 15)), .ref (ad g (10, 0, 0))]) (10, 0, 0) (.inr (6, [.int 0, .ref (ad g (4, 2, 1)), .ref (ad g (4, 2, 2)), .int 0, .ref (ad g (4, 2, 3)), .ref (ad g (4, 2, 4)), .int 0, .ref (ad g (4, 2, 6)), .ref (ad g (4, 2, 7)), .int 0, .ref (ad g (4, 2, 14)), .ref (ad g (9, 2, 0)), .null]))) (9, 3, 0) (.inr (5, [.int 0, .int 0, .null, .null, .null, .null, .null, .null, .null, .null, .null, .null]))) [.int 0, .int 20, .ref (ad g (4, 3, 0)), .ref (ad g (4, 3, 5)), .ref (ad g (4, 3, 8)), .ref (ad g (4, 3, 9)), .ref (ad g (4, 3, 10)), .ref (ad g (4, 3, 11)), .ref (ad g (4, 3, 12)), .ref (ad g (4, 3, 13)), .ref (ad g (4, 3, 15)), .ref (ad g (10, 0, 0))]) (10, 0, 0) (.inr (6, [.int 0, .ref (ad g (4, 2, 1)), .ref (ad g (4, 2, 2)), .int 0, .ref (ad g (4, 2, 3)), .ref (ad g (4, 2, 4)), .int 0, .ref (ad g (4, 2, 6)), .ref (ad g (4, 2, 7)), .int 0, .ref (ad g (4, 2, 14)), .ref (ad g (9, 2, 0)), .ref (ad g (9, 3, 0))]))) updE_same (fun j _ hj => updE_ne hj) dX6_init_109 (fun H locs z hP1 hS => ?_)
  replace hP := hP.put hP1 z
  replace hP := hP.cast (en' := MdE g en 0) (fun k _ => (updE_id MdW_mud k))
  refine lv_iconst (v := 0) hx hb dX6_init_112 (by decide) ?_
  refine lv_istore_n (lv' := [(1, .int (nI 0)), (0, .ref (ad g (10, 0, 0)))]) hx hb dX6_init_113 rfl hl (by decide) rfl (fun ls hl => ?_)
  refine lp_up (P := fun i => ∀ (H : Heap) (locs : List Loc) (ls : Array Slot), WSz g 89 (MdE g en i) H → va_S (AA g) s.heap H locs → lv_has ls 2 [(1, .int (nI i)), (0, .ref (ad g (10, 0, 0)))] → W p l e rm6 s m ([.ref (ad g (10, 0, 0))] : List Value).toArray below meth c H locs 27 423 (MQ below (Qz g 89 (MdE g en 81)) ([.ref (ad g (10, 0, 0))] : List Value).toArray s 27 423 (AA g)) (F0 m 114 ls [])) 81 ?hx ?hs 0 (Nat.zero_le _) H locs ls hP hS hl
  case hs =>
    intro i hi IH H locs ls hP hS hl
    refine lv_iload_n hx hb dX6_init_114 rfl (lv_at hl 0 rfl) ?_
    refine lv_bipush (v := 81) hx hb dX6_init_115 (by decide) ?_
    refine lv_icmp_ge (tgt := 133) hx hb dX6_init_117 (by decide) (fun c1 => absurd c1 (nI_ge (b := 81) hi (by decide))) (fun c1 => ?_)
    refine lv_aload_n hx hb dX6_init_120 rfl (lv_at hl 1 rfl) ?_
    refine m_get hC hE hP.1 ⟨k_10, by decide⟩ ((updE_ne (by decide)).trans MdW_10) rfl u_6 1 (by decide) w_680 rfl rfl dX6_init_121 ?_
    refine lv_iload_n hx hb dX6_init_124 rfl (lv_at hl 0 rfl) ?_
    refine lv_iconst (v := 2) hx hb dX6_init_125 (by decide) ?_
    refine m_iastS hC hE (hg.ijn _) hP.1 hS ⟨k_4s (by decide), by decide⟩ updE_same i rfl hi (by decide) (en' := MdE g en (i + 1)) (by unfold MdE; rw [updE_same, fl2_s]) (fun j _ hj => by unfold MdE; rw [updE_ne hj, updE_ne hj]) dX6_init_126 (fun H locs z hP1 hS => ?_)
    replace hP := hP.put hP1 z
    refine lv_iinc (v := nI (i + 1)) (lv' := [(1, .int (nI (i + 1))), (0, .ref (ad g (10, 0, 0)))]) hx hb dX6_init_127 hl (k := 0) rfl (nI_1 _) (by decide) rfl (fun ls hl => ?_)
    refine lv_goto (tgt := 114) hx hb dX6_init_130 (by decide) ?_
    exact IH H locs ls hP hS hl
  intro H locs ls hP hS hl
  refine lv_iload_n hx hb dX6_init_114 rfl (lv_at hl 0 rfl) ?_
  refine lv_bipush (v := 81) hx hb dX6_init_115 (by decide) ?_
  refine lv_icmp_ge (tgt := 133) hx hb dX6_init_117 (by decide) (fun c1 => ?_) (fun c1 => absurd (nI_le (Nat.le_refl _) (by decide)) c1)
  exact mc_vret hC hr_ hlk hS hP dX6_init_133
