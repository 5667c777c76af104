/-! the reference: the other calls -/
theorem dX6_bears_0 : decode cX6_bears 0 = .ok (.aload_n 0, 1) := by decide +kernel
theorem dX6_bears_1 : decode cX6_bears 1 = .ok (.iconst 0, 1) := by decide +kernel
theorem dX6_bears_2 : decode cX6_bears 2 = .ok (.putfield 43, 3) := by decide +kernel
theorem dX6_bears_5 : decode cX6_bears 5 = .ok (.aload_n 0, 1) := by decide +kernel
theorem dX6_bears_6 : decode cX6_bears 6 = .ok (.getfield 36, 3) := by decide +kernel
theorem dX6_bears_9 : decode cX6_bears 9 = .ok (.getfield 83, 3) := by decide +kernel
theorem dX6_bears_12 : decode cX6_bears 12 = .ok (.istore_n 1, 1) := by decide +kernel
theorem dX6_bears_13 : decode cX6_bears 13 = .ok (.iconst 0, 1) := by decide +kernel
theorem dX6_bears_14 : decode cX6_bears 14 = .ok (.istore_n 2, 1) := by decide +kernel
theorem dX6_bears_15 : decode cX6_bears 15 = .ok (.iload_n 2, 1) := by decide +kernel
theorem dX6_bears_16 : decode cX6_bears 16 = .ok (.sipush 200, 3) := by decide +kernel
theorem dX6_bears_19 : decode cX6_bears 19 = .ok (.if_icmp .gt 45, 3) := by decide +kernel
theorem dX6_bears_22 : decode cX6_bears 22 = .ok (.iload_n 1, 1) := by decide +kernel
theorem dX6_bears_23 : decode cX6_bears 23 = .ok (.iconst 5, 1) := by decide +kernel
theorem dX6_bears_24 : decode cX6_bears 24 = .ok (.if_icmp .ge 5, 3) := by decide +kernel
theorem dX6_bears_27 : decode cX6_bears 27 = .ok (.iload_n 2, 1) := by decide +kernel
theorem dX6_bears_28 : decode cX6_bears 28 = .ok (.ireturn, 1) := by decide +kernel
theorem dX6_bears_29 : decode cX6_bears 29 = .ok (.iconst 0, 1) := by decide +kernel
theorem dX6_bears_30 : decode cX6_bears 30 = .ok (.bipush 90, 2) := by decide +kernel
theorem dX6_bears_32 : decode cX6_bears 32 = .ok (.iload_n 1, 1) := by decide +kernel
theorem dX6_bears_33 : decode cX6_bears 33 = .ok (.aload_n 0, 1) := by decide +kernel
theorem dX6_bears_34 : decode cX6_bears 34 = .ok (.getfield 13, 3) := by decide +kernel
theorem dX6_bears_37 : decode cX6_bears 37 = .ok (.aload_n 0, 1) := by decide +kernel
theorem dX6_bears_38 : decode cX6_bears 38 = .ok (.getfield 36, 3) := by decide +kernel
theorem dX6_bears_41 : decode cX6_bears 41 = .ok (.getfield 150, 3) := by decide +kernel
theorem dX6_bears_44 : decode cX6_bears 44 = .ok (.iload_n 2, 1) := by decide +kernel
theorem dX6_bears_45 : decode cX6_bears 45 = .ok (.iadd, 1) := by decide +kernel
theorem dX6_bears_46 : decode cX6_bears 46 = .ok (.bipush 7, 2) := by decide +kernel
theorem dX6_bears_48 : decode cX6_bears 48 = .ok (.irem, 1) := by decide +kernel
theorem dX6_bears_49 : decode cX6_bears 49 = .ok (.iaload, 1) := by decide +kernel
theorem dX6_bears_50 : decode cX6_bears 50 = .ok (.iadd, 1) := by decide +kernel
theorem dX6_bears_51 : decode cX6_bears 51 = .ok (.invokestatic 153, 3) := by decide +kernel
theorem dX6_bears_54 : decode cX6_bears 54 = .ok (.invokestatic 57, 3) := by decide +kernel
theorem dX6_bears_57 : decode cX6_bears 57 = .ok (.istore_n 1, 1) := by decide +kernel
theorem dX6_bears_58 : decode cX6_bears 58 = .ok (.iinc 2 1, 3) := by decide +kernel
theorem dX6_bears_61 : decode cX6_bears 61 = .ok (.goto (-46), 3) := by decide +kernel
theorem dX6_bears_64 : decode cX6_bears 64 = .ok (.iconst (-1), 1) := by decide +kernel
theorem dX6_bears_65 : decode cX6_bears 65 = .ok (.ireturn, 1) := by decide +kernel
theorem dX6_foresee_0 : decode cX6_foresee 0 = .ok (.aload_n 0, 1) := by decide +kernel
theorem dX6_foresee_1 : decode cX6_foresee 1 = .ok (.iconst 0, 1) := by decide +kernel
theorem dX6_foresee_2 : decode cX6_foresee 2 = .ok (.putfield 43, 3) := by decide +kernel
theorem dX6_foresee_5 : decode cX6_foresee 5 = .ok (.iload_n 1, 1) := by decide +kernel
theorem dX6_foresee_6 : decode cX6_foresee 6 = .ok (.iconst 1, 1) := by decide +kernel
theorem dX6_foresee_7 : decode cX6_foresee 7 = .ok (.bipush 40, 2) := by decide +kernel
theorem dX6_foresee_9 : decode cX6_foresee 9 = .ok (.invokestatic 47, 3) := by decide +kernel
theorem dX6_foresee_12 : decode cX6_foresee 12 = .ok (.ifCond .ne 9, 3) := by decide +kernel
theorem dX6_foresee_15 : decode cX6_foresee 15 = .ok (.aload_n 0, 1) := by decide +kernel
theorem dX6_foresee_16 : decode cX6_foresee 16 = .ok (.iconst 1, 1) := by decide +kernel
theorem dX6_foresee_17 : decode cX6_foresee 17 = .ok (.invokevirtual 77, 3) := by decide +kernel
theorem dX6_foresee_20 : decode cX6_foresee 20 = .ok (.ireturn, 1) := by decide +kernel
theorem dX6_foresee_21 : decode cX6_foresee 21 = .ok (.iload_n 2, 1) := by decide +kernel
theorem dX6_foresee_22 : decode cX6_foresee 22 = .ok (.iconst 1, 1) := by decide +kernel
theorem dX6_foresee_23 : decode cX6_foresee 23 = .ok (.if_icmp .eq 31, 3) := by decide +kernel
theorem dX6_foresee_26 : decode cX6_foresee 26 = .ok (.iload_n 2, 1) := by decide +kernel
theorem dX6_foresee_27 : decode cX6_foresee 27 = .ok (.iconst 3, 1) := by decide +kernel
theorem dX6_foresee_28 : decode cX6_foresee 28 = .ok (.if_icmp .eq 26, 3) := by decide +kernel
theorem dX6_foresee_31 : decode cX6_foresee 31 = .ok (.iload_n 2, 1) := by decide +kernel
theorem dX6_foresee_32 : decode cX6_foresee 32 = .ok (.iconst 5, 1) := by decide +kernel
theorem dX6_foresee_33 : decode cX6_foresee 33 = .ok (.if_icmp .eq 21, 3) := by decide +kernel
theorem dX6_foresee_36 : decode cX6_foresee 36 = .ok (.iload_n 2, 1) := by decide +kernel
theorem dX6_foresee_37 : decode cX6_foresee 37 = .ok (.bipush 7, 2) := by decide +kernel
theorem dX6_foresee_39 : decode cX6_foresee 39 = .ok (.if_icmp .eq 15, 3) := by decide +kernel
theorem dX6_foresee_42 : decode cX6_foresee 42 = .ok (.iload_n 2, 1) := by decide +kernel
theorem dX6_foresee_43 : decode cX6_foresee 43 = .ok (.bipush 8, 2) := by decide +kernel
theorem dX6_foresee_45 : decode cX6_foresee 45 = .ok (.if_icmp .eq 9, 3) := by decide +kernel
theorem dX6_foresee_48 : decode cX6_foresee 48 = .ok (.aload_n 0, 1) := by decide +kernel
theorem dX6_foresee_49 : decode cX6_foresee 49 = .ok (.iconst 2, 1) := by decide +kernel
theorem dX6_foresee_50 : decode cX6_foresee 50 = .ok (.invokevirtual 77, 3) := by decide +kernel
theorem dX6_foresee_53 : decode cX6_foresee 53 = .ok (.ireturn, 1) := by decide +kernel
theorem dX6_foresee_54 : decode cX6_foresee 54 = .ok (.aload_n 0, 1) := by decide +kernel
theorem dX6_foresee_55 : decode cX6_foresee 55 = .ok (.getfield 40, 3) := by decide +kernel
theorem dX6_foresee_58 : decode cX6_foresee 58 = .ok (.aload_n 0, 1) := by decide +kernel
theorem dX6_foresee_59 : decode cX6_foresee 59 = .ok (.getfield 36, 3) := by decide +kernel
theorem dX6_foresee_62 : decode cX6_foresee 62 = .ok (.invokevirtual 156, 3) := by decide +kernel
theorem dX6_foresee_65 : decode cX6_foresee 65 = .ok (.aload_n 0, 1) := by decide +kernel
theorem dX6_foresee_66 : decode cX6_foresee 66 = .ok (.getfield 40, 3) := by decide +kernel
theorem dX6_foresee_69 : decode cX6_foresee 69 = .ok (.iload_n 1, 1) := by decide +kernel
theorem dX6_foresee_70 : decode cX6_foresee 70 = .ok (.invokevirtual 147, 3) := by decide +kernel
theorem dX6_foresee_73 : decode cX6_foresee 73 = .ok (.pop, 1) := by decide +kernel
theorem dX6_foresee_74 : decode cX6_foresee 74 = .ok (.aload_n 0, 1) := by decide +kernel
theorem dX6_foresee_75 : decode cX6_foresee 75 = .ok (.getfield 40, 3) := by decide +kernel
theorem dX6_foresee_78 : decode cX6_foresee 78 = .ok (.iload_n 2, 1) := by decide +kernel
theorem dX6_foresee_79 : decode cX6_foresee 79 = .ok (.invokevirtual 144, 3) := by decide +kernel
theorem dX6_foresee_82 : decode cX6_foresee 82 = .ok (.ireturn, 1) := by decide +kernel
def Qdd (g : Gm) (R : UInt64) (K : Key → Prop) (en : Key → va_E) : Array Value → State → Outcome → State → Prop := va_Qd (fun (r : UInt64) (_ : Unit) => r = R) (fun _ t => WPe g K en t.heap) (AA g)
abbrev MDd (l : Launch) (y : MethodName) (b : ByteArray) (n : Nat) (R : Room) (g : Gm) (K : Key → Prop) (en : Key → va_E) (av : List Value) (r : UInt64) (en' : Key → va_E) : Prop := Met l y (wy y b n (some .double)) R (Pd g K en av) (Qdd g r K en') R.cells R.slots (AA g)
section MD
variable {p : Program} {l : Launch} {e : Jvm.Env} {R : Room} {s : State} {m : MethodId} {args : Array Value} {below : List Frame} {meth : Method} {c : Code} {H : Heap} {locs : List Loc} {cells slots : Nat} {Q : State → Prop}
variable {cc : ByteArray} {nL pc : Nat} {ls : Array Slot} {rest st : List Value} {own : String} {g : Gm} {K : Key → Prop} {en en' : Key → va_E}
theorem m_dret (hC : CallFix p m c cc nL s args LG own) (hr : meth.sig.returnType = some .double) (hlk : meth.locks = false) (hS : va_S (AA g) s.heap H locs) (hP : WPe g K en H) {v r : UInt64} (hv : v = r) (hdg : decode cc pc = .ok (.dreturn, 1)) : W p l e R s m args below meth c H locs cells slots (MQ below (Qdd g r K en) args s cells slots (AA g)) (F0 m pc ls [.double v]) := by
  obtain ⟨hx1, hb, hml, hown, hG⟩ := hC
  exact W.dret hx1 hb hr (fun t ht hW => ⟨⟨v, (), rfl, hv, by show WPe g K en t.heap; rw [ht]; exact hP⟩, hS.F ht⟩) hS.2.2 hdg hlk
theorem on_d {r : UInt64} {mc ms : Nat} {a : Array Value} (hr : va_Run p l e R s m args below meth c H locs cells slots mc ms (F0 m pc ls st) rest (Qdd g r K en' a) (AA g)) (hS : va_S (AA g) s.heap H locs)
    (kk : ∀ (H1 : Heap) (locs1 : List Loc), WPe g K en' H1 → va_S (AA g) s.heap H1 locs1 → W p l e R s m args below meth c H1 locs1 (cells + mc) (slots + ms) Q (F0 m (pc + 3) ls (.double r :: rest))) : W p l e R s m args below meth c H locs cells slots Q (F0 m pc ls st) := by
  refine va_calld hr hS (fun q _ h => h) (fun q h => h) (fun r1 u t H1 locs1 ht hvm hw hB hz hk hS1 => ?_)
  subst hw
  rw [ht] at hB
  exact kk H1 locs1 hB hS1
end MD
def iceK (v : Vw) (n : Nat) : Int32 := it (fun i q => ice2 q (v 2 ((tt v + i) % 7))) n (v 16 3)
def bearsV (v : Vw) : Int32 := fst1 (fun n => decide (iceK v n < 5)) 201
def dg (n : Nat) (f : Nat → Int32) (d : Int64) : Int64 := it (fun i q => mix q (f i)) n d
def dgC (v : Vw) (n : Nat) (d : Int64) : Int64 := it (fun i q => dg 4 (fun a => cellF v (i % 9) (i / 9) (nI a)) q) n d
def dgH (v : Vw) (n : Nat) (d : Int64) : Int64 := it (fun i q => dg 5 (fun a => holeF v i (nI a)) q) n d
def dgS (v : Vw) (n : Nat) (d : Int64) : Int64 := it (fun i q => dg 6 (fun a => sprF v i (nI a)) q) n d
def dgW (v : Vw) (n : Nat) (d : Int64) : Int64 := it (fun i q => dg 4 (fun a => warF v i (nI a)) q) n d
def dg1 (v : Vw) : Int64 := dg 9 (fun a => factF v (nI a)) 1187
def digV (v : Vw) : Int64 := dgW v (nW v) (dgS v (nS v) (dgH v (nH v) (dg 7 (v 2) (dgC v 81 (dg1 v)))))
def meanV (v : Vw) : UInt64 := if nS v = 0 then FP.i2d 0 else FP.ddiv (FP.i2d (sumI (v 9) (nS v))) (FP.i2d (nI (nS v)))
theorem nI_gtF {i n : Nat} (h : i < n + 1) (hn : n < 2 ^ 31) : ¬ nI n < nI i := by
  rw [nI_ltI (by omega) (by omega)]; omega
def advE (v : Vw) (k h : Nat) : Int32 := days 5 (up2 v 8 k (nI h)) 10 k
def advD (v w : Vw) (k : Nat) : Nat → Vw
  | 0 => dft v w
  | i + 1 => if v 5 i = 0 then advD v w k i else days 5 (up2 (bem v (advD v w k i)) 8 k (nI i))
def advQ (v : Vw) (k i : Nat) : Int32 × Int32 := it (fun h q => if v 5 h = 0 then q else if q.2 < advE v k h then (nI h, advE v k h) else q) i (-1, -1)
def advV (v : Vw) (k : Nat) : Int32 := (advQ v k (nH v)).1
theorem adv_0 {v : Vw} {k i : Nat} (h : v 5 i = 0) : advQ v k (i + 1) = advQ v k i := if_pos h
theorem adv_t {v : Vw} {k i : Nat} (h : ¬ v 5 i = 0) (h2 : (advQ v k i).2 < advE v k i) : advQ v k (i + 1) = (nI i, advE v k i) := (if_neg h).trans (if_pos h2)
theorem adv_f {v : Vw} {k i : Nat} (h : ¬ v 5 i = 0) (h2 : ¬ (advQ v k i).2 < advE v k i) : advQ v k (i + 1) = advQ v k i := (if_neg h).trans (if_neg h2)
theorem adv1_0 {v : Vw} {k i : Nat} (h : v 5 i = 0) : (advQ v k (i + 1)).1 = (advQ v k i).1 := by rw [adv_0 h]
theorem adv2_0 {v : Vw} {k i : Nat} (h : v 5 i = 0) : (advQ v k (i + 1)).2 = (advQ v k i).2 := by rw [adv_0 h]
theorem adv1_t {v : Vw} {k i : Nat} (h : ¬ v 5 i = 0) (h2 : (advQ v k i).2 < advE v k i) : (advQ v k (i + 1)).1 = nI i := by rw [adv_t h h2]
theorem adv2_t {v : Vw} {k i : Nat} (h : ¬ v 5 i = 0) (h2 : (advQ v k i).2 < advE v k i) : (advQ v k (i + 1)).2 = advE v k i := by rw [adv_t h h2]
theorem adv1_f {v : Vw} {k i : Nat} (h : ¬ v 5 i = 0) (h2 : ¬ (advQ v k i).2 < advE v k i) : (advQ v k (i + 1)).1 = (advQ v k i).1 := by rw [adv_f h h2]
theorem adv2_f {v : Vw} {k i : Nat} (h : ¬ v 5 i = 0) (h2 : ¬ (advQ v k i).2 < advE v k i) : (advQ v k (i + 1)).2 = (advQ v k i).2 := by rw [adv_f h h2]
theorem advD_0 {v w : Vw} {k i : Nat} (h : v 5 i = 0) : advD v w k (i + 1) = advD v w k i := by show (if v 5 i = 0 then advD v w k i else days 5 (up2 (bem v (advD v w k i)) 8 k (nI i))) = _; rw [if_pos h]
theorem advD_t {v w : Vw} {k i : Nat} (h : ¬ v 5 i = 0) : advD v w k (i + 1) = days 5 (up2 (bem v (advD v w k i)) 8 k (nI i)) := by show (if v 5 i = 0 then advD v w k i else days 5 (up2 (bem v (advD v w k i)) 8 k (nI i))) = _; rw [if_neg h]
theorem bem_sh {v w : Vw} (h : ∀ c i, shc c i = true → w c i = v c i) {c i : Nat} (hs : shc c i = true) : bem v w c i = v c i := by
  unfold bem
  rw [cpC_e, cpC_e, cpC_e, cpC_e, cpC_e, cpC_e, cpC_e, cpC_e, cpC_e, up2_e, up2_e]
  simp only [ite_or]
  rw [h c i hs]
  split <;> rfl
theorem bem_ag2 {v w : Vw} (hv : Inv v) (h : ∀ c i, shc c i = true → w c i = v c i) : Ag v (bem v w) := by
  intro c i q
  by_cases hs : shc c i = true
  · exact bem_sh h hs
  · have e := bem_ag hv w c i q
    rw [← e]
    unfold bem
    rw [cpC_e, cpC_e, cpC_e, cpC_e, cpC_e, cpC_e, cpC_e, cpC_e, cpC_e, up2_e, up2_e, cpC_e, cpC_e, cpC_e, cpC_e, cpC_e, cpC_e, cpC_e, cpC_e, cpC_e, up2_e, up2_e]
    have z : w c i = dft v w c i := by
      unfold dft
      rw [if_pos]
      by_cases h16 : c = 16
      · right
        refine ⟨h16, ?_⟩
        have : ¬ i < 3 := fun z => hs (by rw [h16]; exact decide_eq_true z)
        unfold Rv at q
        omega
      · left
        have : c = 0 ∨ c = 1 ∨ c = 2 ∨ c = 3 ∨ c = 4 ∨ c = 5 ∨ c = 6 ∨ c = 7 ∨ c = 8 ∨ c = 9 ∨ c = 10 ∨ c = 11 ∨ c = 12 ∨ c = 13 ∨ c = 14 ∨ c = 15 := by unfold Rv at q; omega
        rcases this with rfl | rfl | rfl | rfl | rfl | rfl | rfl | rfl | rfl | rfl | rfl | rfl | rfl | rfl | rfl | rfl <;> first | rfl | exact absurd rfl hs
    rw [z]
theorem Sh_iff {M : Mem} {v w : Vw} (h : ∀ c i, shc c i = true → w c i = v c i) : Sh (setR M 2 v) 3 w := fun c i hs => by rw [setR_ne _ _ (by decide), setR_same, h c i hs]
theorem advD_sh {v w : Vw} {k : Nat} : ∀ n c i, shc c i = true → advD v w k n c i = v c i
  | 0, c, i, h => if_neg (dft_sh h)
  | n + 1, c, i, h => by
    show (if v 5 n = 0 then advD v w k n else days 5 (up2 (bem v (advD v w k n)) 8 k (nI n))) c i = v c i
    split
    · exact advD_sh n c i h
    · have e : days 5 (up2 (bem v (advD v w k n)) 8 k (nI n)) c i = up2 (bem v (advD v w k n)) 8 k (nI n) c i := it_keep (f := fun _ => day) (c := c) (i := i) (fun _ _ => sh_day h) _ _
      rw [e, up2_c (fun q => by rw [q] at h; cases h), bem_sh (fun c i => advD_sh n c i) h]
theorem advE_of {v x : Vw} (hv : Inv v) (hx : Ag v x) {k h : Nat} (hk : k < nS v) (hi : Inv (up2 v 8 k (nI h))) : days 5 (up2 x 8 k (nI h)) 10 k = advE v k h :=
  ((hx.up (c := 8) (i := k) (by omega) (nI h)).gD hi 5) 10 k (RS (by decide) (by decide) (by have : nS (days 5 (up2 v 8 k (nI h))) = nS v := by { unfold nS; rw [days_16 (by decide), up2_c (by decide)] }; rw [this]; exact hk))
def fsn (q : Int32) : Prop := q = 1 ∨ q = 3 ∨ q = 5 ∨ q = 7 ∨ q = 8
set_option maxHeartbeats 4000000 in
set_option maxRecDepth 100000 in
theorem c_bearsM (l : Launch) {g : Gm} (hI : IJ g KK) {M : Mem} {o : Nat → Int64} {v : Vw} (hv : Inv v) {t : Int32} (h5 : v 16 5 = 0) (hN : Nt 200 v) : MI l yX6_bears cX6_bears 3 .int (rm 1 21) g KK (ent g (setR M 2 (up2 v 16 5 t)) o) [.ref (ad g (10, 0, 0))] (bearsV v) (ent g (setR M 2 v) o) := by
  refine met_of (by decide +kernel) (Nat.le_of_ble_eq_true rfl) ?_
  intro p e s m below meth c ls hC hr_ hlk hnm hE hP hS hl
  obtain ⟨hx, hb, hml, hown, hG⟩ := id hC
  have hl : lv_has ls 3 [(0, .ref (ad g (10, 0, 0)))] := hl
  have qH := hv.lH
  have qS := hv.lS
  have qW := hv.lW
  refine lv_aload_n hx hb dX6_bears_0 rfl (lv_at hl 0 rfl) ?_
  refine lv_iconst (v := 0) hx hb dX6_bears_1 (by decide) ?_
  refine m_put hC hE hI hP hS k_10 e_10 rfl u_6 tyX6_ok nmX6 0 (by decide) w_679 rfl rfl rfl rfl (Nat.le_of_ble_eq_true rfl) p_10_0 (ent_put g M 2 (up2 v 16 5 t) o 16 5 (0 : Int32) (kf_10 (by decide))) dX6_bears_2 (fun H locs hP hS => ?_)
  replace hP := hP.castR (w := v) ((thr_back h5).symm)
  refine lv_aload_n hx hb dX6_bears_5 rfl (lv_at hl 0 rfl) ?_
  refine m_get hC hE hP k_10 e_10 rfl u_6 11 (by decide) w_700 rfl rfl dX6_bears_6 ?_
  refine m_getN hC hE hP (k_9 (Or.inl rfl)) e_9 rfl u_5 1 (by decide) n_634 rfl rfl dX6_bears_9 ?_
  refine lv_istore_n (lv' := [(1, .int (v 16 3)), (0, .ref (ad g (10, 0, 0)))]) hx hb dX6_bears_12 rfl hl (by decide) rfl (fun ls hl => ?_)
  refine lv_iconst (v := 0) hx hb dX6_bears_13 (by decide) ?_
  refine lv_istore_n (lv' := [(2, .int ((0 : Int32))), (1, .int (v 16 3)), (0, .ref (ad g (10, 0, 0)))]) hx hb dX6_bears_14 rfl hl (by decide) rfl (fun ls hl => ?_)
  refine lp_W (i0 := 0) 201 (fun i => ent g (setR M 2 v) o) (fun i => [(2, .int (nI i)), (1, .int (iceK v i)), (0, .ref (ad g (10, 0, 0)))]) (fun i => ∀ j, j < i → (fun n => decide (iceK v n < 5)) j = false) (Nat.zero_le _) (hP.castR (rfl)) hS (lv_sub hl [0, 1, 2] rfl) (fun j h => absurd h (Nat.not_lt_zero _)) (fun H locs ls hP hS hl J => ?_) (fun i hi IH H locs ls hP hS hl J => ?_)
  · refine lv_iload_n hx hb dX6_bears_15 rfl (lv_at hl 0 rfl) ?_
    refine lv_sipush (v := 200) hx hb dX6_bears_16 (by decide) ?_
    refine lv_icmp_gt (tgt := 64) hx hb dX6_bears_19 (by decide) (fun c1 => ?_) (fun c1 => absurd (by decide) c1)
    refine lv_iconst (v := (-1)) hx hb dX6_bears_64 (by decide) ?_
    exact m_iret hC hr_ hlk hS (hP.castR (rfl)) rfl ((fst1_no J).symm) dX6_bears_65
  · refine lv_iload_n hx hb dX6_bears_15 rfl (lv_at hl 0 rfl) ?_
    refine lv_sipush (v := 200) hx hb dX6_bears_16 (by decide) ?_
    refine lv_icmp_gt (tgt := 64) hx hb dX6_bears_19 (by decide) (fun c2 => absurd c2 (nI_gtF (n := 200) hi (by decide))) (fun c2 => ?_)
    refine lv_iload_n hx hb dX6_bears_22 rfl (lv_at hl 1 rfl) ?_
    refine lv_iconst (v := 5) hx hb dX6_bears_23 (by decide) ?_
    refine lv_icmp_ge (tgt := 29) hx hb dX6_bears_24 (by decide) (fun c1 => ?_) (fun c1 => ?_)
    · refine lv_iconst (v := 0) hx hb dX6_bears_29 (by decide) ?_
      refine lv_bipush (v := 90) hx hb dX6_bears_30 (by decide) ?_
      refine lv_iload_n hx hb dX6_bears_32 rfl (lv_at hl 1 rfl) ?_
      refine lv_aload_n hx hb dX6_bears_33 rfl (lv_at hl 2 rfl) ?_
      refine m_get hC hE hP k_10 e_10 rfl u_6 2 (by decide) w_682 rfl rfl dX6_bears_34 ?_
      refine lv_aload_n hx hb dX6_bears_37 rfl (lv_at hl 2 rfl) ?_
      refine m_get hC hE hP k_10 e_10 rfl u_6 11 (by decide) w_700 rfl rfl dX6_bears_38 ?_
      refine m_getN hC hE hP (k_9 (Or.inl rfl)) e_9 rfl u_5 0 (by decide) n_632 rfl rfl dX6_bears_41 ?_
      refine m_top (y := nI (tt v)) (hN.1) ?_
      refine lv_iload_n hx hb dX6_bears_44 rfl (lv_at hl 0 rfl) ?_
      refine lv_iadd hx hb dX6_bears_45 ?_
      refine m_top (y := nI (tt v + i)) (nI_add _ _) ?_
      refine lv_bipush (v := 7) hx hb dX6_bears_46 (by decide) ?_
      refine lv_irem hx hb dX6_bears_48 (by decide) ?_
      refine m_top (y := nI ((tt v + i) % 7)) (pk_rem (a := tt v + i) (d := 7) (by have := hN.2; omega) (by decide) (by decide)) ?_
      refine m_iald hC hE hP (k_4s (by decide)) e_4 ((tt v + i) % 7) (rfl) (show ((tt v + i) % 7) < 7 from Nat.mod_lt _ (by decide)) (by decide) dX6_bears_49 ?_
      refine lv_iadd hx hb dX6_bears_50 ?_
      refine m_min hC w_898 w_184 w_14 w_185 hl.1 (by decide) (Nat.le_of_ble_eq_true rfl) (Nat.zero_le _) (Nat.zero_le _) dX6_bears_51 ?_
      refine m_top (y := imin (90 : Int32) ((iceK v i) + (v 2 ((tt v + i) % 7)))) rfl ?_
      refine m_max hC w_821 w_187 w_14 w_188 hl.1 (by decide) (Nat.le_of_ble_eq_true rfl) (Nat.zero_le _) (Nat.zero_le _) dX6_bears_54 ?_
      refine m_top (y := imax (0 : Int32) (imin (90 : Int32) ((iceK v i) + (v 2 ((tt v + i) % 7))))) rfl ?_
      refine lv_istore_n (lv' := [(1, .int (imax (0 : Int32) (imin (90 : Int32) ((iceK v i) + (v 2 ((tt v + i) % 7)))))), (2, .int (nI i)), (0, .ref (ad g (10, 0, 0)))]) hx hb dX6_bears_57 rfl hl (by decide) rfl (fun ls hl => ?_)
      refine lv_iinc (v := nI (i + 1)) (lv' := [(2, .int (nI (i + 1))), (1, .int (imax (0 : Int32) (imin (90 : Int32) ((iceK v i) + (v 2 ((tt v + i) % 7)))))), (0, .ref (ad g (10, 0, 0)))]) hx hb dX6_bears_58 hl (k := 1) rfl (nI_1 _) (by decide) rfl (fun ls hl => ?_)
      refine lv_goto (tgt := 15) hx hb dX6_bears_61 (by decide) ?_
      exact IH H locs ls (hP.castR (rfl)) hS (by show lv_has ls _ [(2, .int (nI (i + 1))), (1, .int (iceK v (i + 1))), (0, .ref (ad g (10, 0, 0)))]; rw [show iceK v (i + 1) = imax (0 : Int32) (imin (90 : Int32) ((iceK v i) + (v 2 ((tt v + i) % 7)))) from rfl]; exact lv_sub hl [0, 1, 2] rfl) (lt_s J (decide_eq_false (Int32.not_lt.mpr c1)))
    · refine lv_iload_n hx hb dX6_bears_27 rfl (lv_at hl 0 rfl) ?_
      exact m_iret hC hr_ hlk hS (hP.castR (rfl)) rfl ((fst1_yes J (decide_eq_true (Int32.not_le.mp c1)) hi).symm) dX6_bears_28
set_option maxHeartbeats 4000000 in
set_option maxRecDepth 100000 in
theorem c_foreseeM_0 (l : Launch) {g : Gm} (hI : IJ g KK) {M : Mem} {o : Nat → Int64} {v : Vw} (hv : Inv v) {t : Int32} (h5 : v 16 5 = 0) (n : Nat) (hn40 : n ≤ 40) (q : Int32) (h1 : isIn (nI n) 1 40 = true) (h2 : fsn q) (hN : Nt n v) : MI l yX6_foresee cX6_foresee 3 .int (rm 7 161) g KK (ent g (setR M 2 (up2 v 16 5 t)) o) [.ref (ad g (10, 0, 0)), .int (nI n), .int (q)] (factF (days n v) q) (ent g (setR (setR M 2 v) 3 (days n (bem v (dft v (M 3))))) o) := by
  refine met_of (by decide +kernel) (Nat.le_of_ble_eq_true rfl) ?_
  intro p e s m below meth c ls hC hr_ hlk hnm hE hP hS hl
  obtain ⟨hx, hb, hml, hown, hG⟩ := id hC
  have hl : lv_has ls 3 [(0, .ref (ad g (10, 0, 0))), (1, .int (nI n)), (2, .int (q))] := hl
  have qH := hv.lH
  have qS := hv.lS
  have qW := hv.lW
  have hsd : Sh (setR M 2 v) 3 (bem v (dft v (M 3))) := sh_bem
  have had : Ag v (bem v (dft v (M 3))) := bem_ag hv _
  have hvd : Inv (bem v (dft v (M 3))) := had.inv hv
  have hNd : Nt n (bem v (dft v (M 3))) := had.gN hN
  refine lv_aload_n hx hb dX6_foresee_0 rfl (lv_at hl 0 rfl) ?_
  refine lv_iconst (v := 0) hx hb dX6_foresee_1 (by decide) ?_
  refine m_put hC hE hI hP hS k_10 e_10 rfl u_6 tyX6_ok nmX6 0 (by decide) w_679 rfl rfl rfl rfl (Nat.le_of_ble_eq_true rfl) p_10_0 (ent_put g M 2 (up2 v 16 5 t) o 16 5 (0 : Int32) (kf_10 (by decide))) dX6_foresee_2 (fun H locs hP hS => ?_)
  replace hP := hP.castR (w := v) ((thr_back h5).symm)
  refine lv_iload_n hx hb dX6_foresee_5 rfl (lv_at hl 1 rfl) ?_
  refine lv_iconst (v := 1) hx hb dX6_foresee_6 (by decide) ?_
  refine lv_bipush (v := 40) hx hb dX6_foresee_7 (by decide) ?_
  refine on_i (run_S hC hE hP hS (As := [.int (nI n), .int ((1 : Int32)), .int ((40 : Int32))]) (c_isIn l (nI n) (1 : Int32) (40 : Int32)) cal_X6_isIn w_740 ⟨Nat.le_of_ble_eq_true rfl, Nat.le_of_ble_eq_true rfl⟩ rfl rfl (Nat.le_of_ble_eq_true rfl) hl.1 ⟨Nat.le_of_ble_eq_true rfl, Nat.le_of_ble_eq_true rfl⟩ dX6_foresee_9) hS (fun H locs hP hS => ?_)
  refine lv_if_ne (tgt := 21) hx hb dX6_foresee_12 (by decide) (fun c1 => ?_) (fun c1 => absurd c1 (b2i_1 h1))
  refine lv_iload_n hx hb dX6_foresee_21 rfl (lv_at hl 2 rfl) ?_
  refine lv_iconst (v := 1) hx hb dX6_foresee_22 (by decide) ?_
  refine lv_icmp_eq (tgt := 54) hx hb dX6_foresee_23 (by decide) (fun d1 => ?_) (fun d1 => ?_)
  · replace hP : WPe g KK (ent g (setR (setR M 2 v) 3 (dft v (M 3))) o) _ := WPe.cast hP (fun k hk => dft_en k hk)
    refine lv_aload_n hx hb dX6_foresee_54 rfl (lv_at hl 0 rfl) ?_
    refine m_get hC hE hP k_10 f_10 rfl u_6 12 (by decide) w_701 rfl rfl dX6_foresee_55 ?_
    refine lv_aload_n hx hb dX6_foresee_58 rfl (lv_at hl 0 rfl) ?_
    refine m_get hC hE hP k_10 f_10 rfl u_6 11 (by decide) w_700 rfl rfl dX6_foresee_59 ?_
    refine on_v (run_V hC hE hP hS (As := [.ref (ad g (9, 2, 0))]) (c_becomeT l hI (Or.inr rfl) (q := 2) (Or.inl rfl) (by decide) (v := (dft v (M 3)))) cal_X5_become w_903 ⟨Nat.le_of_ble_eq_true rfl, Nat.le_of_ble_eq_true rfl⟩ (k_9 (Or.inr rfl)) e_9 rfl rfl rfl (Nat.le_of_ble_eq_true rfl) hl.1 ⟨Nat.le_of_ble_eq_true rfl, Nat.le_of_ble_eq_true rfl⟩ dX6_foresee_62) hS (fun H locs hP hS => ?_)
    replace hP := hP.castR (w := bem v (dft v (M 3))) (by rw [setR_same])
    refine lv_aload_n hx hb dX6_foresee_65 rfl (lv_at hl 0 rfl) ?_
    refine m_get hC hE hP k_10 f_10 rfl u_6 12 (by decide) w_701 rfl rfl dX6_foresee_66 ?_
    refine lv_iload_n hx hb dX6_foresee_69 rfl (lv_at hl 1 rfl) ?_
    refine on_i (run_V hC hE hP hS (As := [.int (nI n)]) (c_passN l hI (Or.inr rfl) (hsd) hvd n (by omega) hNd) cal_X5_pass_ w_854 ⟨Nat.le_of_ble_eq_true rfl, Nat.le_of_ble_eq_true rfl⟩ (k_9 (Or.inr rfl)) e_9 rfl rfl rfl (Nat.le_of_ble_eq_true rfl) hl.1 ⟨Nat.le_of_ble_eq_true rfl, Nat.le_of_ble_eq_true rfl⟩ dX6_foresee_70) hS (fun H locs hP hS => ?_)
    refine lv_pop hx hb dX6_foresee_73 rfl ?_
    refine lv_aload_n hx hb dX6_foresee_74 rfl (lv_at hl 0 rfl) ?_
    refine m_get hC hE hP k_10 f_10 rfl u_6 12 (by decide) w_701 rfl rfl dX6_foresee_75 ?_
    refine lv_iload_n hx hb dX6_foresee_78 rfl (lv_at hl 2 rfl) ?_
    refine on_i (run_V hC hE hP hS (As := [.int (q)]) (c_countM l hI (Or.inr rfl) ((hsd.days n)) (days_inv hvd n) q) cal_X5_count w_842 ⟨Nat.le_of_ble_eq_true rfl, Nat.le_of_ble_eq_true rfl⟩ (k_9 (Or.inr rfl)) e_9 rfl rfl rfl (Nat.le_of_ble_eq_true rfl) hl.1 ⟨Nat.le_of_ble_eq_true rfl, Nat.le_of_ble_eq_true rfl⟩ dX6_foresee_79) hS (fun H locs hP hS => ?_)
    exact m_iret hC hr_ hlk hS (hP.castR (rfl)) rfl ((had.gD hv n).gF _) dX6_foresee_82
  · refine lv_iload_n hx hb dX6_foresee_26 rfl (lv_at hl 2 rfl) ?_
    refine lv_iconst (v := 3) hx hb dX6_foresee_27 (by decide) ?_
    refine lv_icmp_eq (tgt := 54) hx hb dX6_foresee_28 (by decide) (fun d2 => ?_) (fun d2 => ?_)
    · replace hP : WPe g KK (ent g (setR (setR M 2 v) 3 (dft v (M 3))) o) _ := WPe.cast hP (fun k hk => dft_en k hk)
      refine lv_aload_n hx hb dX6_foresee_54 rfl (lv_at hl 0 rfl) ?_
      refine m_get hC hE hP k_10 f_10 rfl u_6 12 (by decide) w_701 rfl rfl dX6_foresee_55 ?_
      refine lv_aload_n hx hb dX6_foresee_58 rfl (lv_at hl 0 rfl) ?_
      refine m_get hC hE hP k_10 f_10 rfl u_6 11 (by decide) w_700 rfl rfl dX6_foresee_59 ?_
      refine on_v (run_V hC hE hP hS (As := [.ref (ad g (9, 2, 0))]) (c_becomeT l hI (Or.inr rfl) (q := 2) (Or.inl rfl) (by decide) (v := (dft v (M 3)))) cal_X5_become w_903 ⟨Nat.le_of_ble_eq_true rfl, Nat.le_of_ble_eq_true rfl⟩ (k_9 (Or.inr rfl)) e_9 rfl rfl rfl (Nat.le_of_ble_eq_true rfl) hl.1 ⟨Nat.le_of_ble_eq_true rfl, Nat.le_of_ble_eq_true rfl⟩ dX6_foresee_62) hS (fun H locs hP hS => ?_)
      replace hP := hP.castR (w := bem v (dft v (M 3))) (by rw [setR_same])
      refine lv_aload_n hx hb dX6_foresee_65 rfl (lv_at hl 0 rfl) ?_
      refine m_get hC hE hP k_10 f_10 rfl u_6 12 (by decide) w_701 rfl rfl dX6_foresee_66 ?_
      refine lv_iload_n hx hb dX6_foresee_69 rfl (lv_at hl 1 rfl) ?_
      refine on_i (run_V hC hE hP hS (As := [.int (nI n)]) (c_passN l hI (Or.inr rfl) (hsd) hvd n (by omega) hNd) cal_X5_pass_ w_854 ⟨Nat.le_of_ble_eq_true rfl, Nat.le_of_ble_eq_true rfl⟩ (k_9 (Or.inr rfl)) e_9 rfl rfl rfl (Nat.le_of_ble_eq_true rfl) hl.1 ⟨Nat.le_of_ble_eq_true rfl, Nat.le_of_ble_eq_true rfl⟩ dX6_foresee_70) hS (fun H locs hP hS => ?_)
      refine lv_pop hx hb dX6_foresee_73 rfl ?_
      refine lv_aload_n hx hb dX6_foresee_74 rfl (lv_at hl 0 rfl) ?_
      refine m_get hC hE hP k_10 f_10 rfl u_6 12 (by decide) w_701 rfl rfl dX6_foresee_75 ?_
      refine lv_iload_n hx hb dX6_foresee_78 rfl (lv_at hl 2 rfl) ?_
      refine on_i (run_V hC hE hP hS (As := [.int (q)]) (c_countM l hI (Or.inr rfl) ((hsd.days n)) (days_inv hvd n) q) cal_X5_count w_842 ⟨Nat.le_of_ble_eq_true rfl, Nat.le_of_ble_eq_true rfl⟩ (k_9 (Or.inr rfl)) e_9 rfl rfl rfl (Nat.le_of_ble_eq_true rfl) hl.1 ⟨Nat.le_of_ble_eq_true rfl, Nat.le_of_ble_eq_true rfl⟩ dX6_foresee_79) hS (fun H locs hP hS => ?_)
      exact m_iret hC hr_ hlk hS (hP.castR (rfl)) rfl ((had.gD hv n).gF _) dX6_foresee_82
    · refine lv_iload_n hx hb dX6_foresee_31 rfl (lv_at hl 2 rfl) ?_
      refine lv_iconst (v := 5) hx hb dX6_foresee_32 (by decide) ?_
      refine lv_icmp_eq (tgt := 54) hx hb dX6_foresee_33 (by decide) (fun d3 => ?_) (fun d3 => ?_)
      · replace hP : WPe g KK (ent g (setR (setR M 2 v) 3 (dft v (M 3))) o) _ := WPe.cast hP (fun k hk => dft_en k hk)
        refine lv_aload_n hx hb dX6_foresee_54 rfl (lv_at hl 0 rfl) ?_
        refine m_get hC hE hP k_10 f_10 rfl u_6 12 (by decide) w_701 rfl rfl dX6_foresee_55 ?_
        refine lv_aload_n hx hb dX6_foresee_58 rfl (lv_at hl 0 rfl) ?_
        refine m_get hC hE hP k_10 f_10 rfl u_6 11 (by decide) w_700 rfl rfl dX6_foresee_59 ?_
        refine on_v (run_V hC hE hP hS (As := [.ref (ad g (9, 2, 0))]) (c_becomeT l hI (Or.inr rfl) (q := 2) (Or.inl rfl) (by decide) (v := (dft v (M 3)))) cal_X5_become w_903 ⟨Nat.le_of_ble_eq_true rfl, Nat.le_of_ble_eq_true rfl⟩ (k_9 (Or.inr rfl)) e_9 rfl rfl rfl (Nat.le_of_ble_eq_true rfl) hl.1 ⟨Nat.le_of_ble_eq_true rfl, Nat.le_of_ble_eq_true rfl⟩ dX6_foresee_62) hS (fun H locs hP hS => ?_)
        replace hP := hP.castR (w := bem v (dft v (M 3))) (by rw [setR_same])
        refine lv_aload_n hx hb dX6_foresee_65 rfl (lv_at hl 0 rfl) ?_
        refine m_get hC hE hP k_10 f_10 rfl u_6 12 (by decide) w_701 rfl rfl dX6_foresee_66 ?_
        refine lv_iload_n hx hb dX6_foresee_69 rfl (lv_at hl 1 rfl) ?_
        refine on_i (run_V hC hE hP hS (As := [.int (nI n)]) (c_passN l hI (Or.inr rfl) (hsd) hvd n (by omega) hNd) cal_X5_pass_ w_854 ⟨Nat.le_of_ble_eq_true rfl, Nat.le_of_ble_eq_true rfl⟩ (k_9 (Or.inr rfl)) e_9 rfl rfl rfl (Nat.le_of_ble_eq_true rfl) hl.1 ⟨Nat.le_of_ble_eq_true rfl, Nat.le_of_ble_eq_true rfl⟩ dX6_foresee_70) hS (fun H locs hP hS => ?_)
        refine lv_pop hx hb dX6_foresee_73 rfl ?_
        refine lv_aload_n hx hb dX6_foresee_74 rfl (lv_at hl 0 rfl) ?_
        refine m_get hC hE hP k_10 f_10 rfl u_6 12 (by decide) w_701 rfl rfl dX6_foresee_75 ?_
        refine lv_iload_n hx hb dX6_foresee_78 rfl (lv_at hl 2 rfl) ?_
        refine on_i (run_V hC hE hP hS (As := [.int (q)]) (c_countM l hI (Or.inr rfl) ((hsd.days n)) (days_inv hvd n) q) cal_X5_count w_842 ⟨Nat.le_of_ble_eq_true rfl, Nat.le_of_ble_eq_true rfl⟩ (k_9 (Or.inr rfl)) e_9 rfl rfl rfl (Nat.le_of_ble_eq_true rfl) hl.1 ⟨Nat.le_of_ble_eq_true rfl, Nat.le_of_ble_eq_true rfl⟩ dX6_foresee_79) hS (fun H locs hP hS => ?_)
        exact m_iret hC hr_ hlk hS (hP.castR (rfl)) rfl ((had.gD hv n).gF _) dX6_foresee_82
      · refine lv_iload_n hx hb dX6_foresee_36 rfl (lv_at hl 2 rfl) ?_
        refine lv_bipush (v := 7) hx hb dX6_foresee_37 (by decide) ?_
        refine lv_icmp_eq (tgt := 54) hx hb dX6_foresee_39 (by decide) (fun d4 => ?_) (fun d4 => ?_)
        · replace hP : WPe g KK (ent g (setR (setR M 2 v) 3 (dft v (M 3))) o) _ := WPe.cast hP (fun k hk => dft_en k hk)
          refine lv_aload_n hx hb dX6_foresee_54 rfl (lv_at hl 0 rfl) ?_
          refine m_get hC hE hP k_10 f_10 rfl u_6 12 (by decide) w_701 rfl rfl dX6_foresee_55 ?_
          refine lv_aload_n hx hb dX6_foresee_58 rfl (lv_at hl 0 rfl) ?_
          refine m_get hC hE hP k_10 f_10 rfl u_6 11 (by decide) w_700 rfl rfl dX6_foresee_59 ?_
          refine on_v (run_V hC hE hP hS (As := [.ref (ad g (9, 2, 0))]) (c_becomeT l hI (Or.inr rfl) (q := 2) (Or.inl rfl) (by decide) (v := (dft v (M 3)))) cal_X5_become w_903 ⟨Nat.le_of_ble_eq_true rfl, Nat.le_of_ble_eq_true rfl⟩ (k_9 (Or.inr rfl)) e_9 rfl rfl rfl (Nat.le_of_ble_eq_true rfl) hl.1 ⟨Nat.le_of_ble_eq_true rfl, Nat.le_of_ble_eq_true rfl⟩ dX6_foresee_62) hS (fun H locs hP hS => ?_)
          replace hP := hP.castR (w := bem v (dft v (M 3))) (by rw [setR_same])
          refine lv_aload_n hx hb dX6_foresee_65 rfl (lv_at hl 0 rfl) ?_
          refine m_get hC hE hP k_10 f_10 rfl u_6 12 (by decide) w_701 rfl rfl dX6_foresee_66 ?_
          refine lv_iload_n hx hb dX6_foresee_69 rfl (lv_at hl 1 rfl) ?_
          refine on_i (run_V hC hE hP hS (As := [.int (nI n)]) (c_passN l hI (Or.inr rfl) (hsd) hvd n (by omega) hNd) cal_X5_pass_ w_854 ⟨Nat.le_of_ble_eq_true rfl, Nat.le_of_ble_eq_true rfl⟩ (k_9 (Or.inr rfl)) e_9 rfl rfl rfl (Nat.le_of_ble_eq_true rfl) hl.1 ⟨Nat.le_of_ble_eq_true rfl, Nat.le_of_ble_eq_true rfl⟩ dX6_foresee_70) hS (fun H locs hP hS => ?_)
          refine lv_pop hx hb dX6_foresee_73 rfl ?_
          refine lv_aload_n hx hb dX6_foresee_74 rfl (lv_at hl 0 rfl) ?_
          refine m_get hC hE hP k_10 f_10 rfl u_6 12 (by decide) w_701 rfl rfl dX6_foresee_75 ?_
          refine lv_iload_n hx hb dX6_foresee_78 rfl (lv_at hl 2 rfl) ?_
          refine on_i (run_V hC hE hP hS (As := [.int (q)]) (c_countM l hI (Or.inr rfl) ((hsd.days n)) (days_inv hvd n) q) cal_X5_count w_842 ⟨Nat.le_of_ble_eq_true rfl, Nat.le_of_ble_eq_true rfl⟩ (k_9 (Or.inr rfl)) e_9 rfl rfl rfl (Nat.le_of_ble_eq_true rfl) hl.1 ⟨Nat.le_of_ble_eq_true rfl, Nat.le_of_ble_eq_true rfl⟩ dX6_foresee_79) hS (fun H locs hP hS => ?_)
          exact m_iret hC hr_ hlk hS (hP.castR (rfl)) rfl ((had.gD hv n).gF _) dX6_foresee_82
        · refine lv_iload_n hx hb dX6_foresee_42 rfl (lv_at hl 2 rfl) ?_
          refine lv_bipush (v := 8) hx hb dX6_foresee_43 (by decide) ?_
          refine lv_icmp_eq (tgt := 54) hx hb dX6_foresee_45 (by decide) (fun c2 => ?_) (fun c2 => absurd (h2.elim (fun z => absurd z d1) (fun z => z.elim (fun z => absurd z d2) (fun z => z.elim (fun z => absurd z d3) (fun z => z.elim (fun z => absurd z d4) id)))) c2)
          replace hP : WPe g KK (ent g (setR (setR M 2 v) 3 (dft v (M 3))) o) _ := WPe.cast hP (fun k hk => dft_en k hk)
          refine lv_aload_n hx hb dX6_foresee_54 rfl (lv_at hl 0 rfl) ?_
          refine m_get hC hE hP k_10 f_10 rfl u_6 12 (by decide) w_701 rfl rfl dX6_foresee_55 ?_
          refine lv_aload_n hx hb dX6_foresee_58 rfl (lv_at hl 0 rfl) ?_
          refine m_get hC hE hP k_10 f_10 rfl u_6 11 (by decide) w_700 rfl rfl dX6_foresee_59 ?_
          refine on_v (run_V hC hE hP hS (As := [.ref (ad g (9, 2, 0))]) (c_becomeT l hI (Or.inr rfl) (q := 2) (Or.inl rfl) (by decide) (v := (dft v (M 3)))) cal_X5_become w_903 ⟨Nat.le_of_ble_eq_true rfl, Nat.le_of_ble_eq_true rfl⟩ (k_9 (Or.inr rfl)) e_9 rfl rfl rfl (Nat.le_of_ble_eq_true rfl) hl.1 ⟨Nat.le_of_ble_eq_true rfl, Nat.le_of_ble_eq_true rfl⟩ dX6_foresee_62) hS (fun H locs hP hS => ?_)
          replace hP := hP.castR (w := bem v (dft v (M 3))) (by rw [setR_same])
          refine lv_aload_n hx hb dX6_foresee_65 rfl (lv_at hl 0 rfl) ?_
          refine m_get hC hE hP k_10 f_10 rfl u_6 12 (by decide) w_701 rfl rfl dX6_foresee_66 ?_
          refine lv_iload_n hx hb dX6_foresee_69 rfl (lv_at hl 1 rfl) ?_
          refine on_i (run_V hC hE hP hS (As := [.int (nI n)]) (c_passN l hI (Or.inr rfl) (hsd) hvd n (by omega) hNd) cal_X5_pass_ w_854 ⟨Nat.le_of_ble_eq_true rfl, Nat.le_of_ble_eq_true rfl⟩ (k_9 (Or.inr rfl)) e_9 rfl rfl rfl (Nat.le_of_ble_eq_true rfl) hl.1 ⟨Nat.le_of_ble_eq_true rfl, Nat.le_of_ble_eq_true rfl⟩ dX6_foresee_70) hS (fun H locs hP hS => ?_)
          refine lv_pop hx hb dX6_foresee_73 rfl ?_
          refine lv_aload_n hx hb dX6_foresee_74 rfl (lv_at hl 0 rfl) ?_
          refine m_get hC hE hP k_10 f_10 rfl u_6 12 (by decide) w_701 rfl rfl dX6_foresee_75 ?_
          refine lv_iload_n hx hb dX6_foresee_78 rfl (lv_at hl 2 rfl) ?_
          refine on_i (run_V hC hE hP hS (As := [.int (q)]) (c_countM l hI (Or.inr rfl) ((hsd.days n)) (days_inv hvd n) q) cal_X5_count w_842 ⟨Nat.le_of_ble_eq_true rfl, Nat.le_of_ble_eq_true rfl⟩ (k_9 (Or.inr rfl)) e_9 rfl rfl rfl (Nat.le_of_ble_eq_true rfl) hl.1 ⟨Nat.le_of_ble_eq_true rfl, Nat.le_of_ble_eq_true rfl⟩ dX6_foresee_79) hS (fun H locs hP hS => ?_)
          exact m_iret hC hr_ hlk hS (hP.castR (rfl)) rfl ((had.gD hv n).gF _) dX6_foresee_82
set_option maxHeartbeats 4000000 in
set_option maxRecDepth 100000 in
theorem c_foreseeM_1 (l : Launch) {g : Gm} (hI : IJ g KK) {M : Mem} {o : Nat → Int64} {v : Vw} (hv : Inv v) {t : Int32} (h5 : v 16 5 = 0) (n q : Int32) (h1 : isIn n 1 40 = false) : MI l yX6_foresee cX6_foresee 3 .int (rm 7 161) g KK (ent g (setR M 2 (up2 v 16 5 t)) o) [.ref (ad g (10, 0, 0)), .int (n), .int (q)] 0 (ent g (setR M 2 (up2 v 16 5 1)) o) := by
  refine met_of (by decide +kernel) (Nat.le_of_ble_eq_true rfl) ?_
  intro p e s m below meth c ls hC hr_ hlk hnm hE hP hS hl
  obtain ⟨hx, hb, hml, hown, hG⟩ := id hC
  have hl : lv_has ls 3 [(0, .ref (ad g (10, 0, 0))), (1, .int (n)), (2, .int (q))] := hl
  have qH := hv.lH
  have qS := hv.lS
  have qW := hv.lW
  refine lv_aload_n hx hb dX6_foresee_0 rfl (lv_at hl 0 rfl) ?_
  refine lv_iconst (v := 0) hx hb dX6_foresee_1 (by decide) ?_
  refine m_put hC hE hI hP hS k_10 e_10 rfl u_6 tyX6_ok nmX6 0 (by decide) w_679 rfl rfl rfl rfl (Nat.le_of_ble_eq_true rfl) p_10_0 (ent_put g M 2 (up2 v 16 5 t) o 16 5 (0 : Int32) (kf_10 (by decide))) dX6_foresee_2 (fun H locs hP hS => ?_)
  replace hP := hP.castR (w := v) ((thr_back h5).symm)
  refine lv_iload_n hx hb dX6_foresee_5 rfl (lv_at hl 1 rfl) ?_
  refine lv_iconst (v := 1) hx hb dX6_foresee_6 (by decide) ?_
  refine lv_bipush (v := 40) hx hb dX6_foresee_7 (by decide) ?_
  refine on_i (run_S hC hE hP hS (As := [.int (n), .int ((1 : Int32)), .int ((40 : Int32))]) (c_isIn l n (1 : Int32) (40 : Int32)) cal_X6_isIn w_740 ⟨Nat.le_of_ble_eq_true rfl, Nat.le_of_ble_eq_true rfl⟩ rfl rfl (Nat.le_of_ble_eq_true rfl) hl.1 ⟨Nat.le_of_ble_eq_true rfl, Nat.le_of_ble_eq_true rfl⟩ dX6_foresee_9) hS (fun H locs hP hS => ?_)
  refine lv_if_ne (tgt := 21) hx hb dX6_foresee_12 (by decide) (fun c1 => absurd (b2i_0 h1) c1) (fun c1 => ?_)
  refine lv_aload_n hx hb dX6_foresee_15 rfl (lv_at hl 0 rfl) ?_
  refine lv_iconst (v := 1) hx hb dX6_foresee_16 (by decide) ?_
  refine on_i (run_V hC hE hP hS (As := [.int ((1 : Int32))]) (c_no l hI hv (1 : Int32)) cal_X6_no w_743 ⟨Nat.le_of_ble_eq_true rfl, Nat.le_of_ble_eq_true rfl⟩ k_10 e_10 rfl rfl rfl (Nat.le_of_ble_eq_true rfl) hl.1 ⟨Nat.le_of_ble_eq_true rfl, Nat.le_of_ble_eq_true rfl⟩ dX6_foresee_17) hS (fun H locs hP hS => ?_)
  exact m_iret hC hr_ hlk hS (hP.castR (rfl)) rfl (rfl) dX6_foresee_20
set_option maxHeartbeats 4000000 in
set_option maxRecDepth 100000 in
theorem c_foreseeM_2 (l : Launch) {g : Gm} (hI : IJ g KK) {M : Mem} {o : Nat → Int64} {v : Vw} (hv : Inv v) {t : Int32} (h5 : v 16 5 = 0) (n q : Int32) (h1 : isIn n 1 40 = true) (h2 : ¬ fsn q) : MI l yX6_foresee cX6_foresee 3 .int (rm 7 161) g KK (ent g (setR M 2 (up2 v 16 5 t)) o) [.ref (ad g (10, 0, 0)), .int (n), .int (q)] 0 (ent g (setR M 2 (up2 v 16 5 2)) o) := by
  refine met_of (by decide +kernel) (Nat.le_of_ble_eq_true rfl) ?_
  intro p e s m below meth c ls hC hr_ hlk hnm hE hP hS hl
  obtain ⟨hx, hb, hml, hown, hG⟩ := id hC
  have hl : lv_has ls 3 [(0, .ref (ad g (10, 0, 0))), (1, .int (n)), (2, .int (q))] := hl
  have qH := hv.lH
  have qS := hv.lS
  have qW := hv.lW
  refine lv_aload_n hx hb dX6_foresee_0 rfl (lv_at hl 0 rfl) ?_
  refine lv_iconst (v := 0) hx hb dX6_foresee_1 (by decide) ?_
  refine m_put hC hE hI hP hS k_10 e_10 rfl u_6 tyX6_ok nmX6 0 (by decide) w_679 rfl rfl rfl rfl (Nat.le_of_ble_eq_true rfl) p_10_0 (ent_put g M 2 (up2 v 16 5 t) o 16 5 (0 : Int32) (kf_10 (by decide))) dX6_foresee_2 (fun H locs hP hS => ?_)
  replace hP := hP.castR (w := v) ((thr_back h5).symm)
  refine lv_iload_n hx hb dX6_foresee_5 rfl (lv_at hl 1 rfl) ?_
  refine lv_iconst (v := 1) hx hb dX6_foresee_6 (by decide) ?_
  refine lv_bipush (v := 40) hx hb dX6_foresee_7 (by decide) ?_
  refine on_i (run_S hC hE hP hS (As := [.int (n), .int ((1 : Int32)), .int ((40 : Int32))]) (c_isIn l n (1 : Int32) (40 : Int32)) cal_X6_isIn w_740 ⟨Nat.le_of_ble_eq_true rfl, Nat.le_of_ble_eq_true rfl⟩ rfl rfl (Nat.le_of_ble_eq_true rfl) hl.1 ⟨Nat.le_of_ble_eq_true rfl, Nat.le_of_ble_eq_true rfl⟩ dX6_foresee_9) hS (fun H locs hP hS => ?_)
  refine lv_if_ne (tgt := 21) hx hb dX6_foresee_12 (by decide) (fun c1 => ?_) (fun c1 => absurd c1 (b2i_1 h1))
  refine lv_iload_n hx hb dX6_foresee_21 rfl (lv_at hl 2 rfl) ?_
  refine lv_iconst (v := 1) hx hb dX6_foresee_22 (by decide) ?_
  refine lv_icmp_eq (tgt := 54) hx hb dX6_foresee_23 (by decide) (fun c2 => absurd c2 (fun z => h2 (Or.inl z))) (fun c2 => ?_)
  refine lv_iload_n hx hb dX6_foresee_26 rfl (lv_at hl 2 rfl) ?_
  refine lv_iconst (v := 3) hx hb dX6_foresee_27 (by decide) ?_
  refine lv_icmp_eq (tgt := 54) hx hb dX6_foresee_28 (by decide) (fun c3 => absurd c3 (fun z => h2 (Or.inr (Or.inl z)))) (fun c3 => ?_)
  refine lv_iload_n hx hb dX6_foresee_31 rfl (lv_at hl 2 rfl) ?_
  refine lv_iconst (v := 5) hx hb dX6_foresee_32 (by decide) ?_
  refine lv_icmp_eq (tgt := 54) hx hb dX6_foresee_33 (by decide) (fun c4 => absurd c4 (fun z => h2 (Or.inr (Or.inr (Or.inl z))))) (fun c4 => ?_)
  refine lv_iload_n hx hb dX6_foresee_36 rfl (lv_at hl 2 rfl) ?_
  refine lv_bipush (v := 7) hx hb dX6_foresee_37 (by decide) ?_
  refine lv_icmp_eq (tgt := 54) hx hb dX6_foresee_39 (by decide) (fun c5 => absurd c5 (fun z => h2 (Or.inr (Or.inr (Or.inr (Or.inl z)))))) (fun c5 => ?_)
  refine lv_iload_n hx hb dX6_foresee_42 rfl (lv_at hl 2 rfl) ?_
  refine lv_bipush (v := 8) hx hb dX6_foresee_43 (by decide) ?_
  refine lv_icmp_eq (tgt := 54) hx hb dX6_foresee_45 (by decide) (fun c6 => absurd c6 (fun z => h2 (Or.inr (Or.inr (Or.inr (Or.inr z)))))) (fun c6 => ?_)
  refine lv_aload_n hx hb dX6_foresee_48 rfl (lv_at hl 0 rfl) ?_
  refine lv_iconst (v := 2) hx hb dX6_foresee_49 (by decide) ?_
  refine on_i (run_V hC hE hP hS (As := [.int ((2 : Int32))]) (c_no l hI hv (2 : Int32)) cal_X6_no w_743 ⟨Nat.le_of_ble_eq_true rfl, Nat.le_of_ble_eq_true rfl⟩ k_10 e_10 rfl rfl rfl (Nat.le_of_ble_eq_true rfl) hl.1 ⟨Nat.le_of_ble_eq_true rfl, Nat.le_of_ble_eq_true rfl⟩ dX6_foresee_50) hS (fun H locs hP hS => ?_)
  exact m_iret hC hr_ hlk hS (hP.castR (rfl)) rfl (rfl) dX6_foresee_53
