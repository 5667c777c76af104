/-! Answers over one world for lake and picture; notes. -/
theorem Lw.nx {n : Nat} {v : Vw} (h : Lw n v) (k : Nat) (hk : k ≤ 1000) : Nt k v := ⟨h.nt.1, by have := h.2.2.1.2; omega⟩
theorem s2_id {M : Mem} {v : Vw} (e0 : M 0 = v) : setR (setR M 2 v) 0 v = setR M 2 v := setR_id ((setR_ne _ _ (by decide)).trans e0)
theorem q_cell (l : Launch) {g : Gm} (hI : IJ g (KK g)) {M : Mem} {o : Nat → Int64} {v : Vw} (hv : Inv v) (x y : Nat) (hx9 : x < 9) (hy9 : y < 9) (q : Int32) (h1 : isCell (nI x) (nI y) = true) (h2 : isIn q 0 3 = true) (e0 : M 0 = v) : MI l yX4_cell cX4_cell 4 .int (rm 6 100) g (KK g) (ent g (setR M 2 v) o) [.ref (ad g (8, 0, 0)), .int (nI x), .int (nI y), .int (q)] (cellF v x y q) (ent g (setR M 2 v) o) := by
  have h := c_cellP_0 l hI (M := setR M 2 v) (o := o) hv x y hx9 hy9 q h1 h2
  rw [s2_id e0] at h
  exact h
theorem q_hole (l : Launch) {g : Gm} (hI : IJ g (KK g)) {M : Mem} {o : Nat → Int64} {v : Vw} (hv : Inv v) (k : Nat) (hk : k < nH v) (q : Int32) (h1 : isIn (nI k) 0 (v 16 0 - 1) = true) (h2 : isIn q 0 4 = true) (e0 : M 0 = v) : MI l yX4_hole cX4_hole 3 .int (rm 6 100) g (KK g) (ent g (setR M 2 v) o) [.ref (ad g (8, 0, 0)), .int (nI k), .int (q)] (holeF v k q) (ent g (setR M 2 v) o) := by
  have h := c_holeP_0 l hI (M := setR M 2 v) (o := o) hv k hk q h1 h2
  rw [s2_id e0] at h
  exact h
theorem q_spearer (l : Launch) {g : Gm} (hI : IJ g (KK g)) {M : Mem} {o : Nat → Int64} {v : Vw} (hv : Inv v) (k : Nat) (hk : k < nS v) (q : Int32) (h1 : isIn (nI k) 0 (v 16 1 - 1) = true) (h2 : isIn q 0 5 = true) (e0 : M 0 = v) : MI l yX4_spearer cX4_spearer 3 .int (rm 6 100) g (KK g) (ent g (setR M 2 v) o) [.ref (ad g (8, 0, 0)), .int (nI k), .int (q)] (sprF v k q) (ent g (setR M 2 v) o) := by
  have h := c_spearerP_0 l hI (M := setR M 2 v) (o := o) hv k hk q h1 h2
  rw [s2_id e0] at h
  exact h
theorem q_about (l : Launch) {g : Gm} (hI : IJ g (KK g)) {M : Mem} {o : Nat → Int64} {v : Vw} (hv : Inv v) (k : Nat) (hk : k < nW v) (q : Int32) (h1 : isIn (nI k) 0 (v 16 2 - 1) = true) (h2 : isIn q 0 3 = true) (e0 : M 0 = v) : MI l yX4_about cX4_about 3 .int (rm 6 100) g (KK g) (ent g (setR M 2 v) o) [.ref (ad g (8, 0, 0)), .int (nI k), .int (q)] (warF v k q) (ent g (setR M 2 v) o) := by
  have h := c_aboutP_0 l hI (M := setR M 2 v) (o := o) hv k hk q h1 h2
  rw [s2_id e0] at h
  exact h
theorem q_count (l : Launch) {g : Gm} (hI : IJ g (KK g)) {M : Mem} {o : Nat → Int64} {v : Vw} (hv : Inv v) (q : Int32) (h1 : isIn q 0 8 = true) (e0 : M 0 = v) : MI l yX4_count cX4_count 2 .int (rm 6 100) g (KK g) (ent g (setR M 2 v) o) [.ref (ad g (8, 0, 0)), .int (q)] (factF v q) (ent g (setR M 2 v) o) := by
  have h := c_countP_0 l hI (M := setR M 2 v) (o := o) hv q h1
  rw [s2_id e0] at h
  exact h
theorem q_mean (l : Launch) {g : Gm} (hI : IJ g (KK g)) {M : Mem} {o : Nat → Int64} {v : Vw} (hv : Inv v) (e0 : M 0 = v) : MDd l yX4_mean cX4_mean 3 (rm 0 0) g (KK g) (ent g (setR M 2 v) o) [.ref (ad g (8, 0, 0))] (meanV v) (ent g (setR M 2 v) o) := by
  have h := c_meanP l hI (M := setR M 2 v) (o := o) hv
  rw [s2_id e0] at h
  exact h
theorem q_digest (l : Launch) {g : Gm} (hI : IJ g (KK g)) {M : Mem} {o : Nat → Int64} {v : Vw} (hv : Inv v) (e0 : M 0 = v) : ML l yX4_digest cX4_digest 5 (rm 4 94) g (KK g) (ent g (setR M 2 v) o) [.ref (ad g (8, 0, 0))] (digV v) (ent g (setR M 2 v) o) := by
  have h := c_digestP l hI (M := setR M 2 v) (o := o) hv
  rw [s2_id e0] at h
  exact h
theorem q_bears (l : Launch) {g : Gm} (hI : IJ g (KK g)) {M : Mem} {o : Nat → Int64} {v : Vw} (hv : Inv v) (hN : Nt 200 v) (e0 : M 0 = v) : MI l yX4_bears cX4_bears 3 .int (rm 2 43) g (KK g) (ent g (setR M 2 v) o) [.ref (ad g (8, 0, 0))] (bearsV v) (ent g (setR M 2 v) o) := by
  have h := c_bearsP l hI (M := setR M 2 v) (o := o) hv hN
  rw [s2_id e0] at h
  exact h
/-- notes of the law: row c anew, of length N -/
def mH (u : Vw) (c N : Nat) (fb : Nat → Int32) : Vw := fun c' i => if c' = c then fb i else if c' = 16 ∧ ((i = 0 ∧ c = 2) ∨ (i = 3 ∧ c = 3)) then nI N else u c' i
theorem own_n {g : Gm} {M : Mem} {o : Nat → Int64} {H : Heap} {ra N : Nat} {fb : Nat → Int32} (c : Nat) (hc : c < 6) (hN : tl (mH (M 3) c N fb) c = N) (hI : IJ g (KK g)) (hP : WP g M o H) (ha : H[ra]? = some (vp_cell (gC g 0) (N, .inl fb))) (hA : AA g ra) (hab : ∀ k, KK g k → ad g k ≠ ra) : WP (gA g (30, c, 0) ra) (setR M 3 (mH (M 3) c N fb)) o H ∧ IJ (gA g (30, c, 0) ra) (KK (gA g (30, c, 0) ra)) := by
  refine adopt (g := g) (fun k => k = (30, c, 0)) (30, c, 0) rfl rfl rfl (fun k hk hz => ⟨gA_dn hz hk, gA_ne hz⟩) (fun k hk hz => by rw [gA_ad]; exact hab k hk) (by rw [gA_ad]; exact hA) (fun k hk hx => ?_) (fun k hk hz r c' i hd => ?_) (fun k j hk hz hrf => gA_ne (fun z => rfs_30 hrf (by rw [z]))) (fun k hk _ => hP k hk) hI
  · subst hx
    rw [gA_ad, e_30, hN, show mH (M 3) c N fb c = fb from funext fun i => if_pos rfl]
    exact ha
  · by_cases q : r = 3
    · subst q
      rw [setR_same]
      unfold mH
      by_cases q1 : c' = c
      · subst q1
        exact absurd ((dep_key hk hd).trans (kf_30 hc)) hz
      · rw [if_neg q1]
        by_cases q2 : c' = 16 ∧ ((i = 0 ∧ c = 2) ∨ (i = 3 ∧ c = 3))
        · obtain ⟨rfl, ⟨rfl, rfl⟩ | ⟨rfl, rfl⟩⟩ := q2
          · exact absurd ((dep_key hk hd).trans rfl) hz
          · exact absurd ((dep_key hk hd).trans rfl) hz
        · rw [if_neg q2]
    · rw [setR_ne _ _ q]
/-- all but the notes stays where it is -/
def Gj (g g' : Gm) : Prop := g'.1 = g.1 ∧ bs g' = bs g ∧ ∀ k, k.1 < 30 → ad g' k = ad g k ∧ (lk g k → lk g' k)
theorem Gj.rf {g : Gm} : Gj g g := ⟨rfl, rfl, fun _ _ => ⟨rfl, fun h => h⟩⟩
theorem Gj.tr {g h k : Gm} (a : Gj g h) (b : Gj h k) : Gj g k := ⟨b.1.trans a.1, b.2.1.trans a.2.1, fun q hq => ⟨(b.2.2 q hq).1.trans (a.2.2 q hq).1, fun z => (b.2.2 q hq).2 ((a.2.2 q hq).2 z)⟩⟩
theorem Gj.gA {g : Gm} {c a : Nat} : Gj g (gA g (30, c, 0) a) := ⟨rfl, rfl, fun j hj => ⟨gA_ne (fun z => by rw [z] at hj; exact absurd hj (Nat.lt_irrefl 30)), Or.inr⟩⟩
theorem Gj.sl {g g' : Gm} {v : Vw} (G : Gj g g') (h : SimL g v) : SimL g' v := ⟨(G.2.2 _ (Nat.le_of_ble_eq_true rfl)).2 h.1, fun c x hc hx => (G.2.2 _ (Nat.le_of_ble_eq_true rfl)).2 (h.2.1 c x hc hx), (G.2.2 _ (Nat.le_of_ble_eq_true rfl)).2 h.2.2.1, fun i hi => (G.2.2 _ (Nat.le_of_ble_eq_true rfl)).2 (h.2.2.2.1 i hi), fun i hi => (G.2.2 _ (Nat.le_of_ble_eq_true rfl)).2 (h.2.2.2.2.1 i hi), fun i hi => (G.2.2 _ (Nat.le_of_ble_eq_true rfl)).2 (h.2.2.2.2.2.1 i hi), fun c hc => (G.2.2 _ (Nat.le_of_ble_eq_true rfl)).2 (h.2.2.2.2.2.2.1 c hc), (G.2.2 _ (Nat.le_of_ble_eq_true rfl)).2 h.2.2.2.2.2.2.2.1, (G.2.2 _ (Nat.le_of_ble_eq_true rfl)).2 h.2.2.2.2.2.2.2.2.1, (G.2.2 _ (Nat.le_of_ble_eq_true rfl)).2 h.2.2.2.2.2.2.2.2.2⟩
theorem Gj.hS {g0 g : Gm} (G : Gj g0 g) {H0 H : Heap} {locs : List Loc} (h : va_S (AA g) H0 H locs) : va_S (AA g0) H0 H locs := by
  have e : AA g = AA g0 := by unfold AA; rw [G.2.1]
  rw [← e]; exact h
theorem Gj.Sh {g0 g : Gm} (G : Gj g0 g) {H0 H : Heap} {locs : List Loc} (h : va_S (AA g0) H0 H locs) : va_S (AA g) H0 H locs := by
  have e : AA g = AA g0 := by unfold AA; rw [G.2.1]
  rw [e]; exact h
