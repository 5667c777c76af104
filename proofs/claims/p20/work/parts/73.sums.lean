/-! Sums in another order; the nine facts. Pure. -/
theorem sumI_add {f g : Nat → Int32} : ∀ {n : Nat}, sumI (fun j => f j + g j) n = sumI f n + sumI g n
  | 0 => (Int32.add_zero 0).symm
  | n + 1 => by
    show sumI (fun j => f j + g j) n + (f n + g n) = sumI f n + f n + (sumI g n + g n)
    rw [sumI_add, Int32.add_assoc, Int32.add_assoc, ← Int32.add_assoc (sumI g n), Int32.add_comm (sumI g n) (f n), Int32.add_assoc (f n)]
theorem sumI_blk {f : Nat → Int32} {m : Nat} : ∀ {n : Nat}, sumI f (m * n) = sumI (fun y => sumI (fun x => f (m * y + x)) m) n
  | 0 => rfl
  | n + 1 => by
    have key : ∀ k, sumI f (m * n + k) = sumI f (m * n) + sumI (fun x => f (m * n + x)) k := by
      intro k
      induction k with
      | zero => exact (Int32.add_zero _).symm
      | succ k ih =>
        show sumI f (m * n + k) + f (m * n + k) = sumI f (m * n) + (sumI (fun x => f (m * n + x)) k + f (m * n + k))
        rw [ih, Int32.add_assoc]
    show sumI f (m * (n + 1)) = sumI (fun y => sumI (fun x => f (m * y + x)) m) n + sumI (fun x => f (m * n + x)) m
    rw [Nat.mul_succ, key, sumI_blk]
theorem sumI_0 : ∀ {n : Nat}, sumI (fun _ => 0) n = 0 := fun {n} => sumI_z (n := n) (fun _ _ => rfl)
theorem sumI_swap {f : Nat → Nat → Int32} {m : Nat} : ∀ {n : Nat}, sumI (fun y => sumI (fun x => f x y) m) n = sumI (fun x => sumI (fun y => f x y) n) m
  | 0 => (sumI_z (fun _ _ => rfl)).symm
  | n + 1 => by
    show sumI (fun y => sumI (fun x => f x y) m) n + sumI (fun x => f x n) m = sumI (fun x => sumI (fun y => f x y) n + f x n) m
    rw [sumI_swap, sumI_add]
theorem sum_xy {v : Vw} : sumI (fun x => sumI (fun y => v 0 (9 * y + x)) 9) 9 = sumI (v 0) 81 := by
  rw [← sumI_swap (f := fun x y => v 0 (9 * y + x)), ← sumI_blk (m := 9) (n := 9)]
theorem fact_0 {v : Vw} : factF v 0 = v 16 4 := if_pos rfl
theorem fact_1 {v : Vw} : factF v 1 = v 16 3 := by
  unfold factF
  rw [if_neg (by decide), if_pos rfl]
theorem fact_2 {v : Vw} : factF v 2 = b2i (bear (v 16 3)) := by
  unfold factF
  rw [if_neg (by decide), if_neg (by decide), if_pos rfl]
theorem fact_3 {v : Vw} : factF v 3 = sumI (v 0) 81 := by
  unfold factF
  rw [if_neg (by decide), if_neg (by decide), if_neg (by decide), if_pos rfl]
theorem fact_4 {v : Vw} : factF v 4 = v 16 0 := by
  unfold factF
  rw [if_neg (by decide), if_neg (by decide), if_neg (by decide), if_neg (by decide), if_pos rfl]
theorem fact_5 {v : Vw} : factF v 5 = sumI (v 5) (nH v) := by
  unfold factF
  rw [if_neg (by decide), if_neg (by decide), if_neg (by decide), if_neg (by decide), if_neg (by decide), if_pos rfl]
theorem fact_6 {v : Vw} : factF v 6 = v 16 1 := by
  unfold factF
  rw [if_neg (by decide), if_neg (by decide), if_neg (by decide), if_neg (by decide), if_neg (by decide), if_neg (by decide), if_pos rfl]
theorem fact_7 {v : Vw} : factF v 7 = sumI (v 10) (nS v) := by
  unfold factF
  rw [if_neg (by decide), if_neg (by decide), if_neg (by decide), if_neg (by decide), if_neg (by decide), if_neg (by decide), if_neg (by decide), if_pos rfl]
theorem fact_8 {v : Vw} : factF v 8 = sumI (v 11) (nS v) := by
  unfold factF
  rw [if_neg (by decide), if_neg (by decide), if_neg (by decide), if_neg (by decide), if_neg (by decide), if_neg (by decide), if_neg (by decide), if_neg (by decide)]
theorem bear_b0 {x : Int32} (h : x < 5) : b2i (bear x) = 0 := by unfold bear; rw [decide_eq_true h]; rfl
theorem bear_b1 {x : Int32} (h : ¬ x < 5) : b2i (bear x) = 1 := by unfold bear; rw [decide_eq_false h]; rfl
