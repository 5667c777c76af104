/-! What is asked of a lake: taken over from the whole claim. -/
def Qdd (g : Gm) (R : UInt64) (K : Key → Prop) (en : Key → va_E) : Array Value → State → Outcome → State → Prop := va_Qd (fun (r : UInt64) (_ : Unit) => r = R) (fun _ t => WPe g K en t.heap) (AA g)
abbrev MDd (l : Launch) (y : MethodName) (b : ByteArray) (n : Nat) (R : Room) (g : Gm) (K : Key → Prop) (en : Key → va_E) (av : List Value) (r : UInt64) (en' : Key → va_E) : Prop := Met l y (wy y b n (some .double)) R (Pd g K en av) (Qdd g r K en') R.cells R.slots (AA g)
section MD
variable {p : Program} {l : Launch} {e : Jvm.Env} {R : Room} {s : State} {m : MethodId} {args : Array Value} {below : List Frame} {meth : Method} {c : Code} {H : Heap} {locs : List Loc} {cells slots : Nat} {Q : State → Prop}
variable {cc : ByteArray} {nL pc : Nat} {ls : Array Slot} {rest st : List Value} {own : String} {g : Gm} {K : Key → Prop} {en en' : Key → va_E}
theorem m_dret (hC : CallFix p m c cc nL s args LG own) (hr : meth.sig.returnType = some .double) (hlk : meth.locks = false) (hS : va_S (AA g) s.heap H locs) (hP : WPe g K en H) {v r : UInt64} (hv : v = r) (hdg : decode cc pc = .ok (.dreturn, 1)) : W p l e R s m args below meth c H locs cells slots (MQ below (Qdd g r K en) args s cells slots (AA g)) (F0 m pc ls [.double v]) := by
  obtain ⟨hx1, hb, hml, hown, hG⟩ := hC
  exact W.dret hx1 hb hr (fun t ht hW => ⟨⟨v, (), rfl, hv, by show WPe g K en t.heap; rw [ht]; exact hP⟩, hS.F ht⟩) hS.2.2 hdg hlk
theorem on_d {r : UInt64} {mc ms : Nat} {a : Array Value} (hr : va_Run p l e R s m args below meth c H locs cells slots mc ms (F0 m pc ls st) rest (Qdd g r K en' a) (AA g)) (hS : va_S (AA g) s.heap H locs)
    (kk : ∀ (H1 : Heap) (locs1 : List Loc), WPe g K en' H1 → va_S (AA g) s.heap H1 locs1 → W p l e R s m args below meth c H1 locs1 (cells + mc) (slots + ms) Q (F0 m (pc + 3) ls (.double r :: rest))) : W p l e R s m args below meth c H locs cells slots Q (F0 m pc ls st) := by
  refine va_calld hr hS (fun q _ h => h) (fun q h => h) (fun r1 u t H1 locs1 ht hvm hw hB hz hk hS1 => ?_)
  subst hw
  rw [ht] at hB
  exact kk H1 locs1 hB hS1
end MD
def iceK (v : Vw) (n : Nat) : Int32 := it (fun i q => ice2 q (v 2 ((tt v + i) % 7))) n (v 16 3)
def bearsV (v : Vw) : Int32 := fst1 (fun n => decide (iceK v n < 5)) 201
def dg (n : Nat) (f : Nat → Int32) (d : Int64) : Int64 := it (fun i q => mix q (f i)) n d
def dgC (v : Vw) (n : Nat) (d : Int64) : Int64 := it (fun i q => dg 4 (fun a => cellF v (i % 9) (i / 9) (nI a)) q) n d
def dgH (v : Vw) (n : Nat) (d : Int64) : Int64 := it (fun i q => dg 5 (fun a => holeF v i (nI a)) q) n d
def dgS (v : Vw) (n : Nat) (d : Int64) : Int64 := it (fun i q => dg 6 (fun a => sprF v i (nI a)) q) n d
def dgW (v : Vw) (n : Nat) (d : Int64) : Int64 := it (fun i q => dg 4 (fun a => warF v i (nI a)) q) n d
def dg1 (v : Vw) : Int64 := dg 9 (fun a => factF v (nI a)) 1187
def digV (v : Vw) : Int64 := dgW v (nW v) (dgS v (nS v) (dgH v (nH v) (dg 7 (v 2) (dgC v 81 (dg1 v)))))
def meanV (v : Vw) : UInt64 := if nS v = 0 then FP.i2d 0 else FP.ddiv (FP.i2d (sumI (v 9) (nS v))) (FP.i2d (nI (nS v)))
theorem nI_gtF {i n : Nat} (h : i < n + 1) (hn : n < 2 ^ 31) : ¬ nI n < nI i := by
  rw [nI_ltI (by omega) (by omega)]; omega
def advE (v : Vw) (k h : Nat) : Int32 := days 5 (up2 v 8 k (nI h)) 10 k
def advQ (v : Vw) (k i : Nat) : Int32 × Int32 := it (fun h q => if v 5 h = 0 then q else if q.2 < advE v k h then (nI h, advE v k h) else q) i (-1, -1)
def advV (v : Vw) (k : Nat) : Int32 := (advQ v k (nH v)).1
theorem adv_0 {v : Vw} {k i : Nat} (h : v 5 i = 0) : advQ v k (i + 1) = advQ v k i := if_pos h
theorem adv_t {v : Vw} {k i : Nat} (h : ¬ v 5 i = 0) (h2 : (advQ v k i).2 < advE v k i) : advQ v k (i + 1) = (nI i, advE v k i) := (if_neg h).trans (if_pos h2)
theorem adv_f {v : Vw} {k i : Nat} (h : ¬ v 5 i = 0) (h2 : ¬ (advQ v k i).2 < advE v k i) : advQ v k (i + 1) = advQ v k i := (if_neg h).trans (if_neg h2)
theorem adv1_0 {v : Vw} {k i : Nat} (h : v 5 i = 0) : (advQ v k (i + 1)).1 = (advQ v k i).1 := by rw [adv_0 h]
theorem adv2_0 {v : Vw} {k i : Nat} (h : v 5 i = 0) : (advQ v k (i + 1)).2 = (advQ v k i).2 := by rw [adv_0 h]
theorem adv1_t {v : Vw} {k i : Nat} (h : ¬ v 5 i = 0) (h2 : (advQ v k i).2 < advE v k i) : (advQ v k (i + 1)).1 = nI i := by rw [adv_t h h2]
theorem adv2_t {v : Vw} {k i : Nat} (h : ¬ v 5 i = 0) (h2 : (advQ v k i).2 < advE v k i) : (advQ v k (i + 1)).2 = advE v k i := by rw [adv_t h h2]
theorem adv1_f {v : Vw} {k i : Nat} (h : ¬ v 5 i = 0) (h2 : ¬ (advQ v k i).2 < advE v k i) : (advQ v k (i + 1)).1 = (advQ v k i).1 := by rw [adv_f h h2]
theorem adv2_f {v : Vw} {k i : Nat} (h : ¬ v 5 i = 0) (h2 : ¬ (advQ v k i).2 < advE v k i) : (advQ v k (i + 1)).2 = (advQ v k i).2 := by rw [adv_f h h2]
theorem advE_of {v x : Vw} (hv : Inv v) (hx : Ag v x) {k h : Nat} (hk : k < nS v) (hi : Inv (up2 v 8 k (nI h))) : days 5 (up2 x 8 k (nI h)) 10 k = advE v k h :=
  ((hx.up (c := 8) (i := k) (by omega) (nI h)).gD hi 5) 10 k (RS (by decide) (by decide) (by have : nS (days 5 (up2 v 8 k (nI h))) = nS v := by { unfold nS; rw [days_16 (by decide), up2_c (by decide)] }; rw [this]; exact hk))
def fsn (q : Int32) : Prop := q = 1 ∨ q = 3 ∨ q = 5 ∨ q = 7 ∨ q = 8
theorem at_inv {v : Vw} (hv : Inv v) {k j : Nat} (hk : k < nS v) (hj : j < nH v) : Inv (up2 v 8 k (nI j)) := by
  have eH : nH (up2 v 8 k (nI j)) = nH v := nH_u (by omega)
  refine ⟨⟨by rw [eH, up2_c (by decide)]; exact hv.eH, by rw [eH]; exact hv.lH⟩, ⟨by rw [nS_u (by omega), up2_c (by decide)]; exact hv.eS, by rw [nS_u (by omega)]; exact hv.lS⟩, ⟨by rw [nW_u (by omega), up2_c (by decide)]; exact hv.eW, by rw [nW_u (by omega)]; exact hv.lW⟩, ?_, ?_, ?_, ?_⟩
  · intro i hi
    rw [eH] at hi
    unfold IH
    rw [up2_c (by decide), up2_c (by decide), up2_c (by decide)]
    exact hv.hH i hi
  · intro i hi
    rw [nS_u (by omega)] at hi
    obtain ⟨q1, q2, q3, q4⟩ := hv.hS i hi
    unfold IS
    rw [eH, up2_c (c' := 7) (by decide), up2_c (c' := 6) (by decide), up2_c (c' := 9) (by decide)]
    refine ⟨?_, q2, q3, q4⟩
    by_cases z : i = k
    · rw [z, up2_same]; exact Or.inr ⟨j, hj, rfl⟩
    · rw [up2_i z]; exact q1
  · intro i hi
    rw [nW_u (by omega)] at hi
    unfold IW
    rw [up2_c (by decide), up2_c (by decide)]
    exact hv.hW i hi
  · intro i hi
    unfold IC
    rw [up2_c (by decide)]
    exact hv.hC i hi
set_option maxRecDepth 100000 in
set_option maxHeartbeats 4000000 in
theorem mean_n : ∀ b, b < 9 → ∀ a, a < 481 → 0 < b → vf_n64 (FP.ddiv (FP.i2d (nI a)) (FP.i2d (nI b))) := by
  unfold vf_n64
  decide +kernel
theorem mean_z : FP.dconst0 = FP.i2d 0 := by decide +kernel
theorem mean_s {v : Vw} (hv : Inv v) : ∀ n, n ≤ nS v → ∃ a, a ≤ 60 * n ∧ sumI (v 9) n = nI a
  | 0, _ => ⟨0, by omega, rfl⟩
  | n + 1, h => by
    obtain ⟨a, ha, e⟩ := mean_s hv n (by omega)
    obtain ⟨b, hb, f⟩ := (hv.hS n (by omega)).2.2.2
    refine ⟨a + b, by omega, ?_⟩
    show sumI (v 9) n + v 9 n = _
    rw [e, f, nI_add]
theorem mean_nn {v : Vw} (hv : Inv v) (h : nS v ≠ 0) : vf_n64 (FP.ddiv (FP.i2d (sumI (v 9) (nS v))) (FP.i2d (nI (nS v)))) := by
  obtain ⟨a, ha, e⟩ := mean_s hv (nS v) (Nat.le_refl _)
  have := hv.lS
  rw [e]
  exact mean_n _ (by omega) a (by omega) (by omega)
theorem dg_0 {f : Nat → Int32} {d : Int64} : dg 0 f d = d := rfl
theorem dg_s {n : Nat} {f : Nat → Int32} {d : Int64} : dg (n + 1) f d = dg n f d * 31 + (f n).toInt64 := rfl
theorem dgC_0 {v : Vw} {d : Int64} : dgC v 0 d = d := rfl
theorem dgC_s {v : Vw} {n : Nat} {d : Int64} : dgC v (n + 1) d = dg 4 (fun a => cellF v (n % 9) (n / 9) (nI a)) (dgC v n d) := rfl
theorem dgH_0 {v : Vw} {d : Int64} : dgH v 0 d = d := rfl
theorem dgH_s {v : Vw} {n : Nat} {d : Int64} : dgH v (n + 1) d = dg 5 (fun a => holeF v n (nI a)) (dgH v n d) := rfl
theorem dgS_0 {v : Vw} {d : Int64} : dgS v 0 d = d := rfl
theorem dgS_s {v : Vw} {n : Nat} {d : Int64} : dgS v (n + 1) d = dg 6 (fun a => sprF v n (nI a)) (dgS v n d) := rfl
theorem dgW_0 {v : Vw} {d : Int64} : dgW v 0 d = d := rfl
theorem dgW_s {v : Vw} {n : Nat} {d : Int64} : dgW v (n + 1) d = dg 4 (fun a => warF v n (nI a)) (dgW v n d) := rfl
theorem dig_e {v : Vw} : digV v = dgW v (nW v) (dgS v (nS v) (dgH v (nH v) (dg 7 (v 2) (dgC v 81 (dg 9 (fun a => factF v (nI a)) 1187))))) := rfl
