/-! Answers over any world that holds the lake. -/
theorem x_cell (l : Launch) {g : Gm} (hI : IJ g (KK g)) {M : Mem} {o : Nat → Int64} {v : Vw} (hv : Inv v) (x y : Nat) (hx9 : x < 9) (hy9 : y < 9) (q : Int32) (h1 : isCell (nI x) (nI y) = true) (h2 : isIn q 0 3 = true) (e0 : M 0 = v) : MI l yX4_cell cX4_cell 4 .int (rm 6 100) g (KK g) (ent g M o) [.ref (ad g (8, 0, 0)), .int (nI x), .int (nI y), .int (q)] (cellF v x y q) (ent g M o) := by
  have h := c_cellP_0 l hI (M := M) (o := o) hv x y hx9 hy9 q h1 h2
  rw [setR_id e0] at h
  exact h
theorem x_hole (l : Launch) {g : Gm} (hI : IJ g (KK g)) {M : Mem} {o : Nat → Int64} {v : Vw} (hv : Inv v) (k : Nat) (hk : k < nH v) (q : Int32) (h1 : isIn (nI k) 0 (v 16 0 - 1) = true) (h2 : isIn q 0 4 = true) (e0 : M 0 = v) : MI l yX4_hole cX4_hole 3 .int (rm 6 100) g (KK g) (ent g M o) [.ref (ad g (8, 0, 0)), .int (nI k), .int (q)] (holeF v k q) (ent g M o) := by
  have h := c_holeP_0 l hI (M := M) (o := o) hv k hk q h1 h2
  rw [setR_id e0] at h
  exact h
theorem x_spearer (l : Launch) {g : Gm} (hI : IJ g (KK g)) {M : Mem} {o : Nat → Int64} {v : Vw} (hv : Inv v) (k : Nat) (hk : k < nS v) (q : Int32) (h1 : isIn (nI k) 0 (v 16 1 - 1) = true) (h2 : isIn q 0 5 = true) (e0 : M 0 = v) : MI l yX4_spearer cX4_spearer 3 .int (rm 6 100) g (KK g) (ent g M o) [.ref (ad g (8, 0, 0)), .int (nI k), .int (q)] (sprF v k q) (ent g M o) := by
  have h := c_spearerP_0 l hI (M := M) (o := o) hv k hk q h1 h2
  rw [setR_id e0] at h
  exact h
theorem x_about (l : Launch) {g : Gm} (hI : IJ g (KK g)) {M : Mem} {o : Nat → Int64} {v : Vw} (hv : Inv v) (k : Nat) (hk : k < nW v) (q : Int32) (h1 : isIn (nI k) 0 (v 16 2 - 1) = true) (h2 : isIn q 0 3 = true) (e0 : M 0 = v) : MI l yX4_about cX4_about 3 .int (rm 6 100) g (KK g) (ent g M o) [.ref (ad g (8, 0, 0)), .int (nI k), .int (q)] (warF v k q) (ent g M o) := by
  have h := c_aboutP_0 l hI (M := M) (o := o) hv k hk q h1 h2
  rw [setR_id e0] at h
  exact h
theorem x_count (l : Launch) {g : Gm} (hI : IJ g (KK g)) {M : Mem} {o : Nat → Int64} {v : Vw} (hv : Inv v) (q : Int32) (h1 : isIn q 0 8 = true) (e0 : M 0 = v) : MI l yX4_count cX4_count 2 .int (rm 6 100) g (KK g) (ent g M o) [.ref (ad g (8, 0, 0)), .int (q)] (factF v q) (ent g M o) := by
  have h := c_countP_0 l hI (M := M) (o := o) hv q h1
  rw [setR_id e0] at h
  exact h
theorem x_mean (l : Launch) {g : Gm} (hI : IJ g (KK g)) {M : Mem} {o : Nat → Int64} {v : Vw} (hv : Inv v) (e0 : M 0 = v) : MDd l yX4_mean cX4_mean 3 (rm 0 0) g (KK g) (ent g M o) [.ref (ad g (8, 0, 0))] (meanV v) (ent g M o) := by
  have h := c_meanP l hI (M := M) (o := o) hv
  rw [setR_id e0] at h
  exact h
theorem x_digest (l : Launch) {g : Gm} (hI : IJ g (KK g)) {M : Mem} {o : Nat → Int64} {v : Vw} (hv : Inv v) (e0 : M 0 = v) : ML l yX4_digest cX4_digest 5 (rm 4 94) g (KK g) (ent g M o) [.ref (ad g (8, 0, 0))] (digV v) (ent g M o) := by
  have h := c_digestP l hI (M := M) (o := o) hv
  rw [setR_id e0] at h
  exact h
theorem x_bears (l : Launch) {g : Gm} (hI : IJ g (KK g)) {M : Mem} {o : Nat → Int64} {v : Vw} (hv : Inv v) (hN : Nt 200 v) (e0 : M 0 = v) : MI l yX4_bears cX4_bears 3 .int (rm 2 43) g (KK g) (ent g M o) [.ref (ad g (8, 0, 0))] (bearsV v) (ent g M o) := by
  have h := c_bearsP l hI (M := M) (o := o) hv hN
  rw [setR_id e0] at h
  exact h
/-! What the law copies, step by step. -/
def cpO (v u : Vw) (i : Nat) : Vw := fun c h => if c = 2 ∧ h < i then v 5 h else u c h
theorem cpO_0 {v u : Vw} : cpO v u 0 = u := by
  funext c h
  unfold cpO
  rw [if_neg (by omega)]
theorem cpO_s {v u : Vw} {i : Nat} : up2 (cpO v u i) 2 i (v 5 i) = cpO v u (i + 1) := by
  funext c h
  unfold up2 cpO
  by_cases q : c = 2 ∧ h = i
  · obtain ⟨rfl, rfl⟩ := q
    rw [if_pos ⟨rfl, rfl⟩, if_pos ⟨rfl, by omega⟩]
  · rw [if_neg q]
    by_cases z : c = 2 ∧ h < i
    · rw [if_pos z, if_pos ⟨z.1, by omega⟩]
    · rw [if_neg z, if_neg (by omega)]
def cpS (v u : Vw) (i j : Nat) : Vw := fun c k => if 6 ≤ c ∧ c < 12 ∧ (k < i ∨ (k = i ∧ c < 6 + j)) then v c k else u c k
theorem cpS_0 {v u : Vw} : cpS v u 0 0 = u := by
  funext c k
  unfold cpS
  rw [if_neg (by omega)]
theorem cpS_s {v u : Vw} {i j : Nat} (hj : j < 6) : up2 (cpS v u i j) (6 + j) i (v (6 + j) i) = cpS v u i (j + 1) := by
  funext c k
  unfold up2 cpS
  by_cases q : c = 6 + j ∧ k = i
  · obtain ⟨rfl, rfl⟩ := q
    rw [if_pos ⟨rfl, rfl⟩, if_pos (by omega)]
  · rw [if_neg q]
    by_cases z : 6 ≤ c ∧ c < 12 ∧ (k < i ∨ (k = i ∧ c < 6 + j))
    · rw [if_pos z, if_pos (by omega)]
    · rw [if_neg z, if_neg (by omega)]
theorem cpS_n {v u : Vw} {i : Nat} : cpS v u i 6 = cpS v u (i + 1) 0 := by
  funext c k
  unfold cpS
  by_cases z : 6 ≤ c ∧ c < 12 ∧ (k < i ∨ (k = i ∧ c < 6 + 6))
  · rw [if_pos z, if_pos (by omega)]
  · rw [if_neg z, if_neg (by omega)]
def cpW (v u : Vw) (i j : Nat) : Vw := fun c k => if 12 ≤ c ∧ c < 16 ∧ (k < i ∨ (k = i ∧ c < 12 + j)) then v c k else u c k
theorem cpW_0 {v u : Vw} : cpW v u 0 0 = u := by
  funext c k
  unfold cpW
  rw [if_neg (by omega)]
theorem cpW_s {v u : Vw} {i j : Nat} (hj : j < 4) : up2 (cpW v u i j) (12 + j) i (v (12 + j) i) = cpW v u i (j + 1) := by
  funext c k
  unfold up2 cpW
  by_cases q : c = 12 + j ∧ k = i
  · obtain ⟨rfl, rfl⟩ := q
    rw [if_pos ⟨rfl, rfl⟩, if_pos (by omega)]
  · rw [if_neg q]
    by_cases z : 12 ≤ c ∧ c < 16 ∧ (k < i ∨ (k = i ∧ c < 12 + j))
    · rw [if_pos z, if_pos (by omega)]
    · rw [if_neg z, if_neg (by omega)]
theorem cpW_n {v u : Vw} {i : Nat} : cpW v u i 4 = cpW v u (i + 1) 0 := by
  funext c k
  unfold cpW
  by_cases z : 12 ≤ c ∧ c < 16 ∧ (k < i ∨ (k = i ∧ c < 12 + 4))
  · rw [if_pos z, if_pos (by omega)]
  · rw [if_neg z, if_neg (by omega)]
theorem rS_e {v : Vw} {k j : Nat} (hj : j < 6) : rS v k j = v (6 + j) k := by
  rcases (show j = 0 ∨ j = 1 ∨ j = 2 ∨ j = 3 ∨ j = 4 ∨ j = 5 by omega) with rfl | rfl | rfl | rfl | rfl | rfl <;> rfl
theorem rW_e {v : Vw} {k j : Nat} (hj : j < 4) : rW v k j = v (12 + j) k := by
  rcases (show j = 0 ∨ j = 1 ∨ j = 2 ∨ j = 3 by omega) with rfl | rfl | rfl | rfl <;> rfl
