/-! Somebody comes: the lake and the reference's state side by side. -/
theorem RvH {v w : Vw} (a : nH w = nH v + 1) (b : nS w = nS v) (d : nW w = nW v) {c i : Nat} (q : Rv w c i) (h : 3 ≤ c → c < 6 → i ≠ nH v) : Rv v c i := by
  unfold Rv at q
  rw [a, b, d] at q
  rcases q with q | q | q | q | q | q
  · exact Or.inl q
  · exact Or.inr (Or.inl q)
  · have := h q.1 q.2.1
    exact RH q.1 q.2.1 (by omega)
  · exact RS q.1 q.2.1 q.2.2
  · exact RW q.1 q.2.1 q.2.2
  · rw [q.1]; exact R16 q.2
theorem RvS {v w : Vw} (a : nH w = nH v) (b : nS w = nS v + 1) (d : nW w = nW v) {c i : Nat} (q : Rv w c i) (h : 6 ≤ c → c < 12 → i ≠ nS v) : Rv v c i := by
  unfold Rv at q
  rw [a, b, d] at q
  rcases q with q | q | q | q | q | q
  · exact Or.inl q
  · exact Or.inr (Or.inl q)
  · exact RH q.1 q.2.1 q.2.2
  · have := h q.1 q.2.1
    exact RS q.1 q.2.1 (by omega)
  · exact RW q.1 q.2.1 q.2.2
  · rw [q.1]; exact R16 q.2
theorem RvW {v w : Vw} (a : nH w = nH v) (b : nS w = nS v) (d : nW w = nW v + 1) {c i : Nat} (q : Rv w c i) (h : 12 ≤ c → c < 16 → i ≠ nW v) : Rv v c i := by
  unfold Rv at q
  rw [a, b, d] at q
  rcases q with q | q | q | q | q | q
  · exact Or.inl q
  · exact Or.inr (Or.inl q)
  · exact RH q.1 q.2.1 q.2.2
  · exact RS q.1 q.2.1 q.2.2
  · have := h q.1 q.2.1
    exact RW q.1 q.2.1 (by omega)
  · rw [q.1]; exact R16 q.2
theorem nH_addH {v : Vw} {x y : Int32} (h : nH v < 12) : nH (addH v x y) = nH v + 1 := nI_clamp (by omega)
theorem nS_addH {v : Vw} {x y : Int32} : nS (addH v x y) = nS v := by unfold addH; rw [nS_u (by omega), nS_u (by omega), nS_u (by omega), nS_u (by omega)]
theorem nW_addH {v : Vw} {x y : Int32} : nW (addH v x y) = nW v := by unfold addH; rw [nW_u (by omega), nW_u (by omega), nW_u (by omega), nW_u (by omega)]
theorem addH_no {v : Vw} {x y : Int32} {c i : Nat} (h : c ≠ 16 ∨ i ≠ 0) (h2 : ¬ (3 ≤ c ∧ c < 6 ∧ i = nH v)) : addH v x y c i = v c i := by
  unfold addH up2
  rw [if_neg (by omega), if_neg (by omega), if_neg (by omega), if_neg (by omega)]
theorem addH_inv {v : Vw} (hv : Inv v) (hn : nH v < 12) {x y : Int32} (hx : lt9 x) (hy : lt9 y) : Inv (addH v x y) := by
  have eH := nH_addH (x := x) (y := y) hn
  refine ⟨⟨by rw [eH]; rfl, by rw [eH]; omega⟩, ⟨by rw [nS_addH, addH_no (by omega) (by omega)]; exact hv.eS, by rw [nS_addH]; exact hv.lS⟩, ⟨by rw [nW_addH, addH_no (by omega) (by omega)]; exact hv.eW, by rw [nW_addH]; exact hv.lW⟩, ?_, ?_, ?_, ?_⟩
  · intro i hi
    rw [eH] at hi
    unfold IH
    by_cases q : i = nH v
    · rw [q]
      have z1 : addH v x y 3 (nH v) = x := by simp [addH, up2]
      have z2 : addH v x y 4 (nH v) = y := by simp [addH, up2]
      have z3 : addH v x y 5 (nH v) = 1 := by simp [addH, up2]
      rw [z1, z2, z3]
      exact ⟨hx, hy, Or.inr rfl⟩
    · rw [addH_no (by omega) (by omega), addH_no (by omega) (by omega), addH_no (by omega) (by omega)]
      exact hv.hH i (by omega)
  · intro i hi
    rw [nS_addH] at hi
    unfold IS
    rw [addH_no (by omega) (by omega), addH_no (by omega) (by omega), addH_no (by omega) (by omega), addH_no (by omega) (by omega), eH]
    obtain ⟨q1, q2⟩ := hv.hS i hi
    exact ⟨q1.imp id fun ⟨j, a, b⟩ => ⟨j, by omega, b⟩, q2⟩
  · intro i hi
    rw [nW_addH] at hi
    unfold IW
    rw [addH_no (by omega) (by omega), addH_no (by omega) (by omega)]
    exact hv.hW i hi
  · intro i hi
    unfold IC
    rw [addH_no (by omega) (by omega)]
    exact hv.hC i hi
theorem Rl.gH {v w : Vw} (h : Rl v w) (hn : nH v < 12) {x y : Int32} (hx : lt9 x) (hy : lt9 y) : Rl (addH v x y) (addH w x y) := by
  obtain ⟨a, b, d, e, f⟩ := h
  have z0 : ∀ u, Z0 u → Z0 (addH u x y) := by
    intro u hu
    refine ⟨fun k h1 h2 => ?_, fun k h1 h2 => ?_⟩
    · rw [nS_addH] at h1
      rw [addH_no (by omega) (by omega), addH_no (by omega) (by omega), addH_no (by omega) (by omega)]
      exact hu.1 k h1 h2
    · rw [nW_addH] at h1
      rw [addH_no (by omega) (by omega)]
      exact hu.2 k h1 h2
  refine ⟨addH_inv a hn hx hy, ?_, fun k h1 h2 => ?_, z0 v e, z0 w f⟩
  · intro c i q
    have q := fun h => RvH (nH_addH hn) nS_addH nW_addH q h
    unfold addH
    rw [b.eH]
    unfold up2
    split
    · rfl
    · split
      · rfl
      · split
        · rfl
        · split
          · rfl
          · rename_i h1 h2 h3 h4
            exact b c i (q fun g1 g2 g3 => by
              have : c = 3 ∨ c = 4 ∨ c = 5 := by omega
              rcases this with z | z | z
              · exact h4 ⟨z, g3⟩
              · exact h3 ⟨z, g3⟩
              · exact h2 ⟨z, g3⟩)
  · rw [nS_addH] at h1
    rw [addH_no (by omega) (by omega)]
    exact d k h1 h2
theorem nS_addS {v : Vw} {x y : Int32} (h : nS v < 8) : nS (addS v x y) = nS v + 1 := nI_clamp (by omega)
theorem nH_addS {v : Vw} {x y : Int32} : nH (addS v x y) = nH v := by unfold addS; rw [nH_u (by omega), nH_u (by omega), nH_u (by omega)]
theorem nW_addS {v : Vw} {x y : Int32} : nW (addS v x y) = nW v := by unfold addS; rw [nW_u (by omega), nW_u (by omega), nW_u (by omega)]
theorem nS_addSM {v : Vw} {x y : Int32} (h : nS v < 8) : nS (addSM v x y) = nS v + 1 := nI_clamp (by omega)
theorem nW_addSM {v : Vw} {x y : Int32} : nW (addSM v x y) = nW v := by unfold addSM; rw [nW_u (by omega), nW_u (by omega), nW_u (by omega), nW_u (by omega)]
theorem addS_no {v : Vw} {x y : Int32} {c i : Nat} (h : c ≠ 16 ∨ i ≠ 1) (h2 : ¬ (6 ≤ c ∧ c < 8 ∧ i = nS v)) : addS v x y c i = v c i := by
  unfold addS up2
  rw [if_neg (by omega), if_neg (by omega), if_neg (by omega)]
theorem addSM_no {v : Vw} {x y : Int32} {c i : Nat} (h : c ≠ 16 ∨ i ≠ 1) (h2 : ¬ (6 ≤ c ∧ c < 9 ∧ i = nS v)) : addSM v x y c i = v c i := by
  unfold addSM up2
  rw [if_neg (by omega), if_neg (by omega), if_neg (by omega), if_neg (by omega)]
theorem addS_inv {v : Vw} (hv : Inv v) (hn : nS v < 8) (h8 : v 8 (nS v) = -1) (h9 : v 9 (nS v) = 0) {x y : Int32} (hx : ∃ j : Nat, j < 31 ∧ x = nI j) (hy : ∃ j : Nat, j < 5 ∧ y = nI j) : Inv (addS v x y) := by
  have eS := nS_addS (x := x) (y := y) hn
  refine ⟨⟨by rw [nH_addS, addS_no (by omega) (by omega)]; exact hv.eH, by rw [nH_addS]; exact hv.lH⟩, ⟨by rw [eS]; rfl, by rw [eS]; omega⟩, ⟨by rw [nW_addS, addS_no (by omega) (by omega)]; exact hv.eW, by rw [nW_addS]; exact hv.lW⟩, ?_, ?_, ?_, ?_⟩
  · intro i hi
    rw [nH_addS] at hi
    unfold IH
    rw [addS_no (by omega) (by omega), addS_no (by omega) (by omega), addS_no (by omega) (by omega)]
    exact hv.hH i hi
  · intro i hi
    rw [eS] at hi
    unfold IS
    rw [addS_no (c := 8) (by omega) (by omega), addS_no (c := 9) (by omega) (by omega), nH_addS]
    by_cases q : i = nS v
    · rw [q, h8, h9]
      refine ⟨Or.inl rfl, ?_, ?_, 0, by omega, rfl⟩
      · have z : addS v x y 7 (nS v) = y := by simp [addS, up2]
        rw [z]; exact hy
      · have z : addS v x y 6 (nS v) = x := by simp [addS, up2]
        rw [z]; exact hx
    · rw [addS_no (by omega) (by omega), addS_no (by omega) (by omega)]
      exact hv.hS i (by omega)
  · intro i hi
    rw [nW_addS] at hi
    unfold IW
    rw [addS_no (by omega) (by omega), addS_no (by omega) (by omega)]
    exact hv.hW i hi
  · intro i hi
    unfold IC
    rw [addS_no (by omega) (by omega)]
    exact hv.hC i hi
theorem Rl.gS {v w : Vw} (h : Rl v w) (hn : nS v < 8) {x y : Int32} (hx : ∃ j : Nat, j < 31 ∧ x = nI j) (hy : ∃ j : Nat, j < 5 ∧ y = nI j) : Rl (addS v x y) (addSM w x y) := by
  obtain ⟨a, b, d, e, f⟩ := h
  have hn2 : nS w < 8 := by rw [b.eS]; exact hn
  refine ⟨addS_inv a hn (d _ (Nat.le_refl _) hn) (e.1 _ (Nat.le_refl _) hn).1 hx hy, ?_, fun k h1 h2 => ?_, ⟨fun k h1 h2 => ?_, fun k h1 h2 => ?_⟩, ⟨fun k h1 h2 => ?_, fun k h1 h2 => ?_⟩⟩
  · intro c i q
    have q := fun h => RvS nH_addS (nS_addS hn) nW_addS q h
    by_cases z : 8 ≤ c ∧ c < 12 ∧ i = nS v
    · rw [addS_no (by omega) (by omega)]
      obtain ⟨z1, z2, z3⟩ := z
      subst z3
      have g1 := e.1 _ (Nat.le_refl _) hn
      have g2 := f.1 (nS v) (by rw [b.eS]; exact Nat.le_refl _) hn
      have : c = 8 ∨ c = 9 ∨ c = 10 ∨ c = 11 := by omega
      rcases this with rfl | rfl | rfl | rfl
      · rw [d _ (Nat.le_refl _) hn]
        unfold addSM
        rw [b.eS, up2_c (by decide), up2_same]
      · rw [addSM_no (by omega) (by omega), g1.1, g2.1]
      · rw [addSM_no (by omega) (by omega), g1.2.1, g2.2.1]
      · rw [addSM_no (by omega) (by omega), g1.2.2, g2.2.2]
    · unfold addS addSM
      rw [b.eS]
      unfold up2
      split
      · rfl
      · rw [if_neg (by omega)]
        split
        · rfl
        · split
          · rfl
          · rename_i h1 h3 h4
            exact b c i (q fun g1 g2 g3 => by
              have : c = 6 ∨ c = 7 ∨ 8 ≤ c := by omega
              rcases this with k | k | k
              · exact h4 ⟨k, g3⟩
              · exact h3 ⟨k, g3⟩
              · exact z ⟨k, g2, g3⟩)
  · rw [nS_addS hn] at h1
    rw [addS_no (by omega) (by omega)]
    exact d k (by omega) h2
  · rw [nS_addS hn] at h1
    rw [addS_no (by omega) (by omega), addS_no (by omega) (by omega), addS_no (by omega) (by omega)]
    exact e.1 k (by omega) h2
  · rw [nW_addS] at h1
    rw [addS_no (by omega) (by omega)]
    exact e.2 k h1 h2
  · rw [nS_addSM hn2] at h1
    rw [addSM_no (by omega) (by omega), addSM_no (by omega) (by omega), addSM_no (by omega) (by omega)]
    exact f.1 k (by omega) h2
  · rw [nW_addSM] at h1
    rw [addSM_no (by omega) (by omega)]
    exact f.2 k h1 h2
theorem nW_addW {v : Vw} {x y z : Int32} (h : nW v < 3) : nW (addW v x y z) = nW v + 1 := nI_clamp (by omega)
theorem nS_addW {v : Vw} {x y z : Int32} : nS (addW v x y z) = nS v := by unfold addW; rw [nS_u (by omega), nS_u (by omega), nS_u (by omega), nS_u (by omega)]
theorem nH_addW {v : Vw} {x y z : Int32} : nH (addW v x y z) = nH v := by unfold addW; rw [nH_u (by omega), nH_u (by omega), nH_u (by omega), nH_u (by omega)]
theorem addW_no {v : Vw} {x y z : Int32} {c i : Nat} (h : c ≠ 16 ∨ i ≠ 2) (h2 : ¬ (12 ≤ c ∧ c < 15 ∧ i = nW v)) : addW v x y z c i = v c i := by
  unfold addW up2
  rw [if_neg (by omega), if_neg (by omega), if_neg (by omega), if_neg (by omega)]
theorem addW_inv {v : Vw} (hv : Inv v) (hn : nW v < 3) {x y z : Int32} (hx : lt9 x) (hy : lt9 y) : Inv (addW v x y z) := by
  have eW := nW_addW (x := x) (y := y) (z := z) hn
  refine ⟨⟨by rw [nH_addW, addW_no (by omega) (by omega)]; exact hv.eH, by rw [nH_addW]; exact hv.lH⟩, ⟨by rw [nS_addW, addW_no (by omega) (by omega)]; exact hv.eS, by rw [nS_addW]; exact hv.lS⟩, ⟨by rw [eW]; rfl, by rw [eW]; omega⟩, ?_, ?_, ?_, ?_⟩
  · intro i hi
    rw [nH_addW] at hi
    unfold IH
    rw [addW_no (by omega) (by omega), addW_no (by omega) (by omega), addW_no (by omega) (by omega)]
    exact hv.hH i hi
  · intro i hi
    rw [nS_addW] at hi
    unfold IS
    rw [addW_no (by omega) (by omega), addW_no (by omega) (by omega), addW_no (by omega) (by omega), addW_no (by omega) (by omega), nH_addW]
    exact hv.hS i hi
  · intro i hi
    rw [eW] at hi
    unfold IW
    by_cases q : i = nW v
    · rw [q]
      have z1 : addW v x y z 12 (nW v) = x := by simp [addW, up2]
      have z2 : addW v x y z 13 (nW v) = y := by simp [addW, up2]
      rw [z1, z2]
      exact ⟨hx, hy⟩
    · rw [addW_no (by omega) (by omega), addW_no (by omega) (by omega)]
      exact hv.hW i (by omega)
  · intro i hi
    unfold IC
    rw [addW_no (by omega) (by omega)]
    exact hv.hC i hi
theorem Rl.gW {v w : Vw} (h : Rl v w) (hn : nW v < 3) {x y z : Int32} (hx : lt9 x) (hy : lt9 y) : Rl (addW v x y z) (addW w x y z) := by
  obtain ⟨a, b, d, e, f⟩ := h
  have z0 : ∀ u, nW u < 3 → Z0 u → Z0 (addW u x y z) := by
    intro u hn hu
    refine ⟨fun k h1 h2 => ?_, fun k h1 h2 => ?_⟩
    · rw [nS_addW] at h1
      rw [addW_no (by omega) (by omega), addW_no (by omega) (by omega), addW_no (by omega) (by omega)]
      exact hu.1 k h1 h2
    · rw [nW_addW hn] at h1
      rw [addW_no (by omega) (by omega)]
      exact hu.2 k (by omega) h2
  refine ⟨addW_inv a hn hx hy, ?_, fun k h1 h2 => ?_, z0 v hn e, z0 w (by rw [b.eW]; exact hn) f⟩
  · intro c i q
    have q := fun h => RvW nH_addW nS_addW (nW_addW hn) q h
    by_cases k : c = 15 ∧ i = nW v
    · rw [addW_no (by omega) (by omega), addW_no (by omega) (by omega), k.1, k.2, e.2 _ (Nat.le_refl _) hn, f.2 _ (by rw [b.eW]; exact Nat.le_refl _) hn]
    · unfold addW
      rw [b.eW]
      unfold up2
      split
      · rfl
      · split
        · rfl
        · split
          · rfl
          · split
            · rfl
            · rename_i h1 h2 h3 h4
              exact b c i (q fun g1 g2 g3 => by
                have : c = 12 ∨ c = 13 ∨ c = 14 ∨ c = 15 := by omega
                rcases this with z | z | z | z
                · exact h4 ⟨z, g3⟩
                · exact h3 ⟨z, g3⟩
                · exact h2 ⟨z, g3⟩
                · exact k ⟨z, g3⟩)
  · rw [nS_addW] at h1
    rw [addW_no (by omega) (by omega)]
    exact d k h1 h2
