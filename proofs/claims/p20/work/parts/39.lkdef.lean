/-! A lake as it is made. -/
def v0 : Vw := fun c i => match c with
  | 1 => if i < 81 then 2 else 0
  | 2 => if i < 7 then 2 else 0
  | 8 => -1
  | 16 => if i = 3 then 20 else 0
  | _ => 0
/-- the cells of lake r as they are when it is made, the others as en says -/
def LkE (g : Gm) (r : Nat) (en : Key → va_E) : Key → va_E := fun k => if k.2.1 = r ∧ k.1 < 8 then ent g (fun _ => v0) (fun _ => 0) k else en k
theorem LkE_in {g : Gm} {r : Nat} {en : Key → va_E} {t i : Nat} (h : t < 8) : LkE g r en (t, r, i) = ent g (fun _ => v0) (fun _ => 0) (t, r, i) := if_pos ⟨rfl, h⟩
theorem LkE_no {g : Gm} {r : Nat} {en : Key → va_E} {k : Key} (h : ¬ (k.2.1 = r ∧ k.1 < 8)) : LkE g r en k = en k := if_neg h
def LkS (g : Gm) (r : Nat) (en : Key → va_E) (fs : List Value) : Key → va_E := updE (LkE g r en) (3, r, 0) (.inr (1, fs))
theorem LkS_3 {g : Gm} {r : Nat} {en : Key → va_E} {fs : List Value} : LkS g r en fs (3, r, 0) = .inr (1, fs) := updE_same
theorem LkS_no {g : Gm} {r : Nat} {en : Key → va_E} {fs : List Value} {k : Key} (h : k ≠ (3, r, 0)) : LkS g r en fs k = LkE g r en k := updE_ne h
theorem updE_id {en : Key → va_E} {k0 : Key} {v : va_E} (h : en k0 = v) : ∀ k, updE en k0 v k = en k := fun k => by
  by_cases q : k = k0
  · rw [q, updE_same, h]
  · exact updE_ne q
/-- of lake r only the lake itself is there as long as no more than its object is made -/
theorem offR {g : Gm} {k : Key} {r : Nat} (hr : r < 2) (hk : KK g k) (h : k.2.1 = r ∧ k.1 < 8) (ho : off k < 2 + 30 * r) : k = (3, r, 0) := by
  obtain ⟨t, a, b⟩ := k
  obtain ⟨h1, h2⟩ := h
  simp only at h1 h2
  subst h1
  have ht : t = 0 ∨ t = 1 ∨ t = 2 ∨ t = 3 ∨ t = 4 ∨ t = 5 ∨ t = 6 ∨ t = 7 := by omega
  rcases ht with rfl | rfl | rfl | rfl | rfl | rfl | rfl | rfl
  · have ho : 6 + 30 * a + b < 2 + 30 * a := ho
    omega
  · have ho : 19 + 30 * a + b < 2 + 30 * a := ho
    omega
  · have ho : 28 + 30 * a + b < 2 + 30 * a := ho
    omega
  · have hk : a < 2 ∧ b = 0 := hk
    rw [hk.2]
  · have ho : 2 + 30 * a + b < 2 + 30 * a := ho
    omega
  · have ho : 5 + 30 * a < 2 + 30 * a := ho
    omega
  · have ho : 18 + 30 * a < 2 + 30 * a := ho
    omega
  · have ho : 27 + 30 * a < 2 + 30 * a := ho
    omega
theorem WSz.n {g : Gm} {n n' : Nat} {en : Key → va_E} {H : Heap} (h : WSz g n en H) (e : n' = n) : WSz g n' en H := by rw [e]; exact h
theorem WSz.cast {g : Gm} {n : Nat} {en en' : Key → va_E} {H : Heap} (h : WSz g n en H) (e : ∀ k, Kn g n k → en' k = en k) : WSz g n en' H := ⟨h.1.cast e, h.2⟩
/-- the start of a lake's making -/
theorem LkS_start {g : Gm} {r : Nat} (hr : r < 2) {en : Key → va_E} {fs : List Value} {H : Heap} (h : WSz g (2 + 30 * r) en H) (he : en (3, r, 0) = .inr (1, fs)) : WSz g (2 + 30 * r) (LkS g r en fs) H := by
  refine h.cast fun k hk => ?_
  by_cases q : k = (3, r, 0)
  · rw [q, LkS_3, he]
  · rw [LkS_no q, LkE_no (fun z => q (offR hr hk.1 z hk.2))]
def fl2 (i : Nat) : Nat → Int32 := fun j => if j < i then 2 else 0
theorem fl2_0 : fl2 0 = fun _ => 0 := by funext j; exact if_neg (Nat.not_lt_zero _)
theorem fl2_s (i : Nat) : fl2 (i + 1) = upd (fl2 i) i 2 := by
  funext j
  unfold fl2 upd
  by_cases h : j = i
  · rw [if_pos h, if_pos (by omega)]
  · rw [if_neg h]
    by_cases q : j < i
    · show (if j < i + 1 then _ else _) = if j < i then _ else _
      rw [if_pos q, if_pos (by omega)]
    · show (if j < i + 1 then _ else _) = if j < i then _ else _
      rw [if_neg q, if_neg (by omega)]
def fqo (f : Nat → Nat) (i : Nat) : Nat → Option Nat := fun j => if j < i then some (f j) else none
theorem fqo_0 (f : Nat → Nat) : fqo f 0 = fun _ => none := by funext j; exact if_neg (Nat.not_lt_zero _)
theorem fqo_s (f : Nat → Nat) (i : Nat) : fqo f (i + 1) = va_up (fqo f i) i (some (f i)) := by
  funext j
  unfold fqo va_up
  by_cases h : j = i
  · rw [if_pos h, if_pos (by omega), h]
  · rw [if_neg h]
    by_cases q : j < i
    · show (if j < i + 1 then _ else _) = if j < i then _ else _
      rw [if_pos q, if_pos (by omega)]
    · show (if j < i + 1 then _ else _) = if j < i then _ else _
      rw [if_neg q, if_neg (by omega)]
theorem fqo_full {D : va_G} {a : Nat} {cA : ClassId} {n : Nat} {f : Nat → Nat} {H : Heap} (h : va_at D cls7 (a, .inl (cA, n, .inr (.inr (.inr (.inr (fqo f n)))))) H) : va_at D cls7 (a, .inl (cA, n, .inr (.inr (.inr (.inr (fun i => some (f i))))))) H := by
  show H[a]? = some (vp_cell _ _)
  have h1 : H[a]? = some (vp_cell cA (n, .inr (.inr (.inr (.inr (fqo f n)))))) := h
  rw [h1, vp_cell_q, vp_cell_q, arrV_eq (f' := fun j => va_rf (some (f j))) (fun j hj => by unfold fqo; rw [if_pos hj])]
theorem W_cs {p : Program} {l : Launch} {e : Jvm.Env} {R : Room} {s : State} {m : MethodId} {args : Array Value} {below : List Frame} {meth : Method} {c : Code} {H : Heap} {locs : List Loc} {c1 c2 s1 s2 : Nat} {Q : State → Prop} {f : JFrame} (h1 : c1 = c2) (h2 : s1 = s2) (k : W p l e R s m args below meth c H locs c2 s2 Q f) : W p l e R s m args below meth c H locs c1 s1 Q f := by rw [h1, h2]; exact k
