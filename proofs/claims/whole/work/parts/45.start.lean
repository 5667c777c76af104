/-! The start: a lake and a reference as they are made. -/
theorem v0_inv : Inv v0 := by
  refine ⟨⟨by decide, by decide⟩, ⟨by decide, by decide⟩, ⟨by decide, by decide⟩, fun i hi => absurd hi (by decide +revert), fun i hi => absurd hi (by decide +revert), fun i hi => absurd hi (by decide +revert), fun c _ => ⟨0, by omega, rfl⟩⟩
theorem v0_vM : Ag v0 vM := by
  intro c i h
  have a : nH v0 = 0 := by decide
  have b : nS v0 = 0 := by decide
  have d : nW v0 = 0 := by decide
  unfold Rv at h
  rw [a, b, d] at h
  rcases h with h | h | h | h | h | h
  · have : c = 0 ∨ c = 1 := by omega
    rcases this with rfl | rfl <;> rfl
  · rw [h.1]; rfl
  · omega
  · omega
  · omega
  · rw [h.1]; rfl
theorem start_Rl : Rl v0 vM := ⟨v0_inv, v0_vM, fun _ _ _ => rfl, ⟨fun _ _ _ => ⟨rfl, rfl, rfl⟩, fun _ _ _ => rfl⟩, ⟨fun _ _ _ => ⟨rfl, rfl, rfl⟩, fun _ _ _ => rfl⟩⟩
theorem start_Nt {n : Nat} (h : n < 2 ^ 30) : Nt n v0 := ⟨by decide, by rw [show tt v0 = 0 from by decide, Nat.zero_add]; exact h⟩
