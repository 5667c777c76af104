/-! The night's bound through the calls. -/
theorem Nt.le {m n : Nat} {v : Vw} (h : Nt n v) (k : m ≤ n) : Nt m v := ⟨h.1, by have := h.2; omega⟩
theorem Nt.up {n : Nat} {v : Vw} (h : Nt n v) {c i : Nat} {x : Int32} (hc : ¬ (16 = c ∧ 4 = i)) : Nt n (up2 v c i x) := by
  have e : up2 v c i x 16 4 = v 16 4 := if_neg hc
  exact ⟨by unfold tt; rw [e]; exact h.1, by unfold tt; rw [e]; exact h.2⟩
theorem Nt.set {n : Nat} {v : Vw} (h : Nt n v) {x y : Nat} {a b : Int32} : Nt n (setV v x y a b) := (h.up (by omega)).up (by omega)
theorem Nt.gH {n : Nat} {v : Vw} (h : Nt n v) {x y : Int32} : Nt n (addH v x y) := (((h.up (by omega)).up (by omega)).up (by omega)).up (by omega)
theorem Nt.gS {n : Nat} {v : Vw} (h : Nt n v) {x y : Int32} : Nt n (addS v x y) := ((h.up (by omega)).up (by omega)).up (by omega)
theorem Nt.gW {n : Nat} {v : Vw} (h : Nt n v) {x y z : Int32} : Nt n (addW v x y z) := (((h.up (by omega)).up (by omega)).up (by omega)).up (by omega)
theorem Nt.days {m n : Nat} {v : Vw} (h : Nt (m + n) v) : Nt n (days m v) := days_Nt h
