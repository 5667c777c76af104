/-! Both sides of a call. -/
theorem nt_f {b : Bool} (h : ¬ b = true) : b = false := by
  cases b with
  | false => rfl
  | true => exact absurd rfl h
theorem up_t0 {w : Vw} (h : w 16 5 = 0) : up2 w 16 5 0 = w := by
  funext c i
  unfold up2
  split
  · rename_i q; rw [q.1, q.2, h]
  · rfl
theorem R5 {v : Vw} : ¬ Rv v 16 5 := by unfold Rv; omega
theorem Ag.t5 {w : Vw} {t : Int32} : Ag w (up2 w 16 5 t) := fun c i h => if_neg (fun q => R5 (v := w) (by rw [← q.1, ← q.2]; exact h))
/-- what holds between the calls: the lake, the reference's state, the nights that may still come -/
def St (n : Nat) (M : Mem) : Prop := ∃ (w : Vw) (t : Int32), M 2 = up2 w 16 5 t ∧ w 16 5 = 0 ∧ Rl (M 0) w ∧ Nt n (M 0)
theorem St.i2 {n : Nat} {M : Mem} (h : St n M) : Inv (M 2) := by
  obtain ⟨w, t, e, h5, hr, hn⟩ := h
  rw [e]
  exact Ag.t5.inv hr.iw
theorem St_0 {n : Nat} {M : Mem} {v w : Vw} (h5 : w 16 5 = 0) (hr : Rl v w) (hn : Nt n v) : St n (setR (setR M 0 v) 2 w) := by
  have e : setR (setR M 0 v) 2 w 0 = v := by rw [setR_ne _ _ (by decide), setR_same]
  exact ⟨w, 0, by rw [setR_same, up_t0 h5], h5, by rw [e]; exact hr, by rw [e]; exact hn⟩
theorem St_3 {n : Nat} {M : Mem} {v w a b : Vw} (h5 : w 16 5 = 0) (hr : Rl v w) (hn : Nt n v) : St n (setR (setR (setR (setR M 0 v) 1 a) 2 w) 3 b) := by
  have e : setR (setR (setR (setR M 0 v) 1 a) 2 w) 3 b 0 = v := by rw [setR_ne _ _ (by decide), setR_ne _ _ (by decide), setR_ne _ _ (by decide), setR_same]
  exact ⟨w, 0, by rw [setR_ne _ _ (by decide), setR_same, up_t0 h5], h5, by rw [e]; exact hr, by rw [e]; exact hn⟩
/-- a call on both sides: the law's own method answers k, the reference b, and behind them St holds -/
def Both (l : Launch) (g : Gm) (yl : MethodName) (bl : ByteArray) (nl : Nat) (hh : List (Nat × Nat × Nat × Nat)) (ym : MethodName) (bm : ByteArray) (nm : Nat) (Rm : Room) (n : Nat) (M : Mem) (o : Nat → Int64) (As : List Value) : Prop :=
  ∃ (R1 : Room) (k b : Int32) (o' : Nat → Int64) (M1 M2 : Mem), (R1.frames ≤ 7 ∧ R1.locals ≤ 166 ∧ R1.cells ≤ 1 ∧ R1.slots ≤ 6) ∧ MW l yl bl nl hh R1 g (ent g M o) (.ref (ad g (8, 0, 0)) :: (As ++ [.ref (ad g (11, 0, 0))])) k (ent g M1 o') ∧ MI l ym bm nm .int Rm g KK (ent g M1 o') (.ref (ad g (10, 0, 0)) :: As) b (ent g M2 o') ∧ M2 2 16 5 = k ∧ (k = 0 → o' 0 = b.toInt64) ∧ St n M2
section BO
variable {l : Launch} {g : Gm} {yl : MethodName} {bl : ByteArray} {nl : Nat} {hh : List (Nat × Nat × Nat × Nat)} {ym : MethodName} {bm : ByteArray} {nm : Nat} {Rm : Room} {n : Nat} {M : Mem} {o : Nat → Int64} {As : List Value}
theorem both_0 {w : Vw} {t : Int32} (e2 : M 2 = up2 w 16 5 t) {R1 : Room} (hR : R1.frames ≤ 7 ∧ R1.locals ≤ 166 ∧ R1.cells ≤ 1 ∧ R1.slots ≤ 6) {r b : Int32} {M1 M2 : Mem} (hm : M1 2 = M 2) (hb : b = r) (hW : MW l yl bl nl hh R1 g (ent g (setR M 0 (M 0)) o) (.ref (ad g (8, 0, 0)) :: (As ++ [.ref (ad g (11, 0, 0))])) 0 (ent g M1 (updL o 0 r.toInt64))) (hM : MI l ym bm nm .int Rm g KK (ent g (setR M1 2 (up2 w 16 5 t)) (updL o 0 r.toInt64)) (.ref (ad g (10, 0, 0)) :: As) b (ent g M2 (updL o 0 r.toInt64))) (h5 : M2 2 16 5 = 0) (hs : St n M2) : Both l g yl bl nl hh ym bm nm Rm n M o As := by
  refine ⟨R1, 0, b, updL o 0 r.toInt64, M1, M2, hR, ?_, ?_, h5, fun _ => ?_, hs⟩
  · rw [setR_self] at hW; exact hW
  · rw [← e2, ← hm, setR_self] at hM; exact hM
  · rw [hb]; exact if_pos rfl
theorem both_x {w : Vw} {t : Int32} (e2 : M 2 = up2 w 16 5 t) {R1 : Room} (hR : R1.frames ≤ 7 ∧ R1.locals ≤ 166 ∧ R1.cells ≤ 1 ∧ R1.slots ≤ 6) {k b : Int32} (hk : ¬ k = 0) (hW : MW l yl bl nl hh R1 g (ent g (setR M 0 (M 0)) o) (.ref (ad g (8, 0, 0)) :: (As ++ [.ref (ad g (11, 0, 0))])) k (ent g (setR M 0 (M 0)) o)) (hM : MI l ym bm nm .int Rm g KK (ent g (setR M 2 (up2 w 16 5 t)) o) (.ref (ad g (10, 0, 0)) :: As) b (ent g (setR M 2 (up2 w 16 5 k)) o)) (h5 : w 16 5 = 0) (hr : Rl (M 0) w) (hn : Nt n (M 0)) : Both l g yl bl nl hh ym bm nm Rm n M o As := by
  refine ⟨R1, k, b, o, M, setR M 2 (up2 w 16 5 k), hR, ?_, ?_, ?_, fun q => absurd q hk, ⟨w, k, setR_same _ _ _, h5, ?_, ?_⟩⟩
  · rw [setR_self] at hW; exact hW
  · rw [← e2, setR_self] at hM; exact hM
  · rw [setR_same, up2_same]
  · rw [setR_ne _ _ (by decide)]; exact hr
  · rw [setR_ne _ _ (by decide)]; exact hn
end BO
theorem z_setV {w : Vw} {x y : Nat} {a b : Int32} (h : w 16 5 = 0) : setV w x y a b 16 5 = 0 := by
  unfold setV
  rw [up2_c (by decide), up2_c (by decide), h]
theorem z_up {w : Vw} {c i : Nat} {x : Int32} (h : w 16 5 = 0) (hc : 16 ≠ c) : up2 w c i x 16 5 = 0 := by rw [up2_c hc, h]
theorem z_addH {w : Vw} {x y : Int32} (h : w 16 5 = 0) : addH w x y 16 5 = 0 := by rw [addH_no (Or.inr (by decide)) (by omega), h]
theorem z_addSM {w : Vw} {x y : Int32} (h : w 16 5 = 0) : addSM w x y 16 5 = 0 := by rw [addSM_no (Or.inr (by decide)) (by omega), h]
theorem z_addW {w : Vw} {x y z : Int32} (h : w 16 5 = 0) : addW w x y z 16 5 = 0 := by rw [addW_no (Or.inr (by decide)) (by omega), h]
theorem z_days {w : Vw} {n : Nat} (hw : Inv w) (h : w 16 5 = 0) : days n w 16 5 = 0 := by rw [days_no hw n R5, h]
theorem Rl.eA {v w : Vw} (h : Rl v w) {x y : Nat} (hx : x < 9) (hy : y < 9) : setA w x y = setA v x y := by
  unfold setA
  rw [h.ag 0 _ (R0 (by omega)), h.ag 1 _ (R1 (by omega))]
theorem Rl.e1 {v w : Vw} (h : Rl v w) {i : Nat} (hi : i < 5) : w 16 i = v 16 i := h.ag 16 i (R16 hi)
theorem Rl.cS {v w : Vw} (h : Rl v w) {x : Int32} (q : isIn x 0 (v 16 1 - 1) = true) : ∃ j : Nat, j < nS v ∧ x = nI j := isIn_cnt (Nat.le_trans h.iv.lS (by decide)) (by rw [← h.iv.eS]; exact q)
theorem Rl.cH {v w : Vw} (h : Rl v w) {x : Int32} (q : isIn x 0 (v 16 0 - 1) = true) : ∃ j : Nat, j < nH v ∧ x = nI j := isIn_cnt h.iv.lH (by rw [← h.iv.eH]; exact q)
theorem Rl.cW {v w : Vw} (h : Rl v w) {x : Int32} (q : isIn x 0 (v 16 2 - 1) = true) : ∃ j : Nat, j < nW v ∧ x = nI j := isIn_cnt (Nat.le_trans h.iv.lW (by decide)) (by rw [← h.iv.eW]; exact q)
theorem lt9_nI {x : Nat} (h : x < 9) : lt9 (nI x) := ⟨x, h, rfl⟩
theorem lt_of_in {x M : Int32} {n : Nat} (hM : M.toInt = n) (h : isIn x 0 M = true) : ∃ j : Nat, j < n + 1 ∧ x = nI j := by
  obtain ⟨j, hj, e⟩ := isIn_0 hM h
  exact ⟨j, by omega, e⟩
theorem b_set (l : Launch) (hl0 : l.stackTraces = false) {g : Gm} (hI : IJ g KK) {n : Nat} (h2n : 200 ≤ n) {M : Mem} {o : Nat → Int64} (h : St (40 + n) M) (a0 a1 a2 a3 : Int32) : Both l g yL_set cL_set 7 [((0 : Nat), (14 : Nat), (17 : Nat), (13 : Nat)), ((0 : Nat), (14 : Nat), (21 : Nat), (15 : Nat))] yX6_set cX6_set 7 (rm 2 43) n M o [.int a0, .int a1, .int a2, .int a3] := by
  obtain ⟨w, t, e2, h5, hr, hN⟩ := h
  have hn : Nt n (M 0) := hN.le (by omega)
  have qS := hr.iv.lS
  have qH := hr.iv.lH
  have qW := hr.iv.lW
  by_cases h1 : isCell a0 a1 = true
  · by_cases h2 : isIn a2 0 60 = true
    · by_cases h3 : isIn a3 0 9 = true
      · obtain ⟨x, y, hx, hy, rfl, rfl⟩ := isCell_9 h1
        exact both_0 e2 ⟨Nat.le_of_ble_eq_true rfl, Nat.le_of_ble_eq_true rfl, Nat.le_of_ble_eq_true rfl, Nat.le_of_ble_eq_true rfl⟩ (setR_ne _ _ (by decide)) (hr.eA hx hy) (c_setL_ok l hI _ _ _ _ _ (c_setP_0 l hI hr.iv x y hx hy _ _ h1 h2 h3)) (c_setM_0 l hI hr.iw h5 x y hx hy _ _ h1 h2 h3) (by rw [setR_same]; exact z_setV h5) (St_0 (z_setV h5) (hr.gV hx hy h2) hn.set)
      · have h3 := nt_f h3
        exact both_x e2 ⟨Nat.le_of_ble_eq_true rfl, Nat.le_of_ble_eq_true rfl, Nat.le_of_ble_eq_true rfl, Nat.le_of_ble_eq_true rfl⟩ (by decide) (c_setL_x2 l hI _ _ _ _ (c_setP_2b l hl0 hI _ _ _ _ h1 h2 h3)) (c_setM_2b l hI hr.iw h5 _ _ _ _ h1 h2 h3) h5 hr hn
    · have h2 := nt_f h2
      exact both_x e2 ⟨Nat.le_of_ble_eq_true rfl, Nat.le_of_ble_eq_true rfl, Nat.le_of_ble_eq_true rfl, Nat.le_of_ble_eq_true rfl⟩ (by decide) (c_setL_x2 l hI _ _ _ _ (c_setP_2a l hl0 hI _ _ _ _ h1 h2)) (c_setM_2a l hI hr.iw h5 _ _ _ _ h1 h2) h5 hr hn
  · have h1 := nt_f h1
    exact both_x e2 ⟨Nat.le_of_ble_eq_true rfl, Nat.le_of_ble_eq_true rfl, Nat.le_of_ble_eq_true rfl, Nat.le_of_ble_eq_true rfl⟩ (by decide) (c_setL_x1 l hI _ _ _ _ (c_setP_1 l hl0 hI _ _ _ _ h1)) (c_setM_1 l hI hr.iw h5 _ _ _ _ h1) h5 hr hn
theorem b_setFrost (l : Launch) (hl0 : l.stackTraces = false) {g : Gm} (hI : IJ g KK) {n : Nat} (h2n : 200 ≤ n) {M : Mem} {o : Nat → Int64} (h : St (40 + n) M) (a0 a1 : Int32) : Both l g yL_setFrost cL_setFrost 5 [((0 : Nat), (10 : Nat), (13 : Nat), (13 : Nat)), ((0 : Nat), (10 : Nat), (17 : Nat), (15 : Nat))] yX6_setFrost cX6_setFrost 4 (rm 1 22) n M o [.int a0, .int a1] := by
  obtain ⟨w, t, e2, h5, hr, hN⟩ := h
  have hn : Nt n (M 0) := hN.le (by omega)
  have qS := hr.iv.lS
  have qH := hr.iv.lH
  have qW := hr.iv.lW
  by_cases h1 : isIn a0 0 6 = true
  · by_cases h2 : isIn a1 (-20) 20 = true
    · obtain ⟨j, hj, rfl⟩ := lt_of_in (n := 6) (by decide) h1
      exact both_0 e2 ⟨Nat.le_of_ble_eq_true rfl, Nat.le_of_ble_eq_true rfl, Nat.le_of_ble_eq_true rfl, Nat.le_of_ble_eq_true rfl⟩ (setR_ne _ _ (by decide)) (hr.ag 2 j (R2 hj)) (c_setFrostL_ok l hI _ _ _ (c_setFrostP_0 l hI hr.iv j hj _ h1 h2)) (c_setFrostM_0 l hI hr.iw h5 j hj _ h1 h2) (by rw [setR_same]; exact z_up h5 (by decide)) (St_0 (z_up h5 (by decide)) hr.gF (hn.up (by omega)))
    · have h2 := nt_f h2
      exact both_x e2 ⟨Nat.le_of_ble_eq_true rfl, Nat.le_of_ble_eq_true rfl, Nat.le_of_ble_eq_true rfl, Nat.le_of_ble_eq_true rfl⟩ (by decide) (c_setFrostL_x2 l hI _ _ (c_setFrostP_2 l hl0 hI _ _ h1 h2)) (c_setFrostM_2 l hI hr.iw h5 _ _ h1 h2) h5 hr hn
  · have h1 := nt_f h1
    exact both_x e2 ⟨Nat.le_of_ble_eq_true rfl, Nat.le_of_ble_eq_true rfl, Nat.le_of_ble_eq_true rfl, Nat.le_of_ble_eq_true rfl⟩ (by decide) (c_setFrostL_x1 l hI _ _ (c_setFrostP_1 l hl0 hI _ _ h1)) (c_setFrostM_1 l hI hr.iw h5 _ _ h1) h5 hr hn
theorem b_cut (l : Launch) (hl0 : l.stackTraces = false) {g : Gm} (hI : IJ g KK) {n : Nat} (h2n : 200 ≤ n) {M : Mem} {o : Nat → Int64} (h : St (40 + n) M) (a0 a1 : Int32) : Both l g yL_cut cL_cut 5 [((0 : Nat), (10 : Nat), (13 : Nat), (13 : Nat)), ((0 : Nat), (10 : Nat), (17 : Nat), (24 : Nat))] yX6_cut cX6_cut 3 (rm 2 43) n M o [.int a0, .int a1] := by
  obtain ⟨w, t, e2, h5, hr, hN⟩ := h
  have hn : Nt n (M 0) := hN.le (by omega)
  have qS := hr.iv.lS
  have qH := hr.iv.lH
  have qW := hr.iv.lW
  by_cases h1 : isCell a0 a1 = true
  · have eI : w 16 3 = M 0 16 3 := hr.e1 (by decide)
    by_cases h2 : M 0 16 3 < 5
    · exact both_x e2 ⟨Nat.le_of_ble_eq_true rfl, Nat.le_of_ble_eq_true rfl, Nat.le_of_ble_eq_true rfl, Nat.le_of_ble_eq_true rfl⟩ (by decide) (c_cutL_x2 l hI _ _ (c_cutP_2a l hl0 hI _ _ h1 h2)) (c_cutM_2a l hI hr.iw h5 _ _ h1 (by rw [eI]; exact h2)) h5 hr hn
    · have h2w : ¬ w 16 3 < 5 := by rw [eI]; exact h2
      obtain ⟨x, y, hx, hy, rfl, rfl⟩ := isCell_9 h1
      have eO : openIn w (nI x) (nI y) = openIn (M 0) (nI x) (nI y) := hr.ag.gO _ _
      by_cases h3 : nH (M 0) < 12
      · have h3w : nH w < 12 := by rw [hr.ag.eH]; exact h3
        by_cases h4 : openIn (M 0) (nI x) (nI y) = -1
        · exact both_0 e2 ⟨Nat.le_of_ble_eq_true rfl, Nat.le_of_ble_eq_true rfl, Nat.le_of_ble_eq_true rfl, Nat.le_of_ble_eq_true rfl⟩ (setR_ne _ _ (by decide)) (by rw [hr.ag.eH]) (c_cutL_ok l hI _ _ _ (c_cutP_0 l hI hr.iv x y hx hy h1 h2 h3 h4)) (c_cutM_0 l hI hr.iw h5 x y hx hy h1 h2w h3w (by rw [eO]; exact h4)) (by rw [setR_same]; exact z_addH h5) (St_0 (z_addH h5) (hr.gH h3 (lt9_nI hx) (lt9_nI hy)) hn.gH)
        · exact both_x e2 ⟨Nat.le_of_ble_eq_true rfl, Nat.le_of_ble_eq_true rfl, Nat.le_of_ble_eq_true rfl, Nat.le_of_ble_eq_true rfl⟩ (by decide) (c_cutL_x2 l hI _ _ (c_cutP_2b l hl0 hI hr.iv _ _ h1 h2 h4)) (c_cutM_2c l hI hr.iw h5 x y hx hy h1 h2w h3w (by rw [eO]; exact h4)) h5 hr hn
      · have h3 : nH (M 0) = 12 := by omega
        have h3w : nH w = 12 := by rw [hr.ag.eH]; exact h3
        by_cases h4 : openIn (M 0) (nI x) (nI y) = -1
        · exact both_x e2 ⟨Nat.le_of_ble_eq_true rfl, Nat.le_of_ble_eq_true rfl, Nat.le_of_ble_eq_true rfl, Nat.le_of_ble_eq_true rfl⟩ (by decide) (c_cutL_x2 l hI _ _ (c_cutP_2c l hl0 hI hr.iv _ _ h1 h2 h4 h3)) (c_cutM_2b l hI hr.iw h5 _ _ h1 h2w h3w) h5 hr hn
        · exact both_x e2 ⟨Nat.le_of_ble_eq_true rfl, Nat.le_of_ble_eq_true rfl, Nat.le_of_ble_eq_true rfl, Nat.le_of_ble_eq_true rfl⟩ (by decide) (c_cutL_x2 l hI _ _ (c_cutP_2b l hl0 hI hr.iv _ _ h1 h2 h4)) (c_cutM_2b l hI hr.iw h5 _ _ h1 h2w h3w) h5 hr hn
  · have h1 := nt_f h1
    exact both_x e2 ⟨Nat.le_of_ble_eq_true rfl, Nat.le_of_ble_eq_true rfl, Nat.le_of_ble_eq_true rfl, Nat.le_of_ble_eq_true rfl⟩ (by decide) (c_cutL_x1 l hI _ _ (c_cutP_1 l hl0 hI _ _ h1)) (c_cutM_1 l hI hr.iw h5 _ _ h1) h5 hr hn
theorem b_license (l : Launch) (hl0 : l.stackTraces = false) {g : Gm} (hI : IJ g KK) {n : Nat} (h2n : 200 ≤ n) {M : Mem} {o : Nat → Int64} (h : St (40 + n) M) (a0 a1 : Int32) : Both l g yL_license cL_license 5 [((0 : Nat), (10 : Nat), (13 : Nat), (15 : Nat)), ((0 : Nat), (10 : Nat), (17 : Nat), (24 : Nat))] yX6_license cX6_license 3 (rm 1 22) n M o [.int a0, .int a1] := by
  obtain ⟨w, t, e2, h5, hr, hN⟩ := h
  have hn : Nt n (M 0) := hN.le (by omega)
  have qS := hr.iv.lS
  have qH := hr.iv.lH
  have qW := hr.iv.lW
  by_cases h1 : isIn a0 0 30 = true
  · by_cases h2 : isIn a1 0 4 = true
    · by_cases h3 : nS (M 0) < 8
      · have h3w : nS w < 8 := by rw [hr.ag.eS]; exact h3
        exact both_0 e2 ⟨Nat.le_of_ble_eq_true rfl, Nat.le_of_ble_eq_true rfl, Nat.le_of_ble_eq_true rfl, Nat.le_of_ble_eq_true rfl⟩ (setR_ne _ _ (by decide)) (by rw [hr.ag.eS]) (c_licenseL_ok l hI _ _ _ (c_licenseP_0 l hI hr.iv _ _ h1 h2 h3)) (c_licenseM_0 l hI hr.iw h5 _ _ h1 h2 h3w) (by rw [setR_same]; exact z_addSM h5) (St_0 (z_addSM h5) (hr.gS h3 (lt_of_in (n := 30) (by decide) h1) (lt_of_in (n := 4) (by decide) h2)) hn.gS)
      · have h3 : nS (M 0) = 8 := by omega
        have h3w : nS w = 8 := by rw [hr.ag.eS]; exact h3
        exact both_x e2 ⟨Nat.le_of_ble_eq_true rfl, Nat.le_of_ble_eq_true rfl, Nat.le_of_ble_eq_true rfl, Nat.le_of_ble_eq_true rfl⟩ (by decide) (c_licenseL_x2 l hI _ _ (c_licenseP_2 l hl0 hI hr.iv _ _ h1 h2 h3)) (c_licenseM_2 l hI hr.iw h5 _ _ h1 h2 h3w) h5 hr hn
    · have h2 := nt_f h2
      exact both_x e2 ⟨Nat.le_of_ble_eq_true rfl, Nat.le_of_ble_eq_true rfl, Nat.le_of_ble_eq_true rfl, Nat.le_of_ble_eq_true rfl⟩ (by decide) (c_licenseL_x1 l hI _ _ (c_licenseP_1b l hl0 hI _ _ h1 h2)) (c_licenseM_1b l hI hr.iw h5 _ _ h1 h2) h5 hr hn
  · have h1 := nt_f h1
    exact both_x e2 ⟨Nat.le_of_ble_eq_true rfl, Nat.le_of_ble_eq_true rfl, Nat.le_of_ble_eq_true rfl, Nat.le_of_ble_eq_true rfl⟩ (by decide) (c_licenseL_x1 l hI _ _ (c_licenseP_1a l hl0 hI _ _ h1)) (c_licenseM_1a l hI hr.iw h5 _ _ h1) h5 hr hn
theorem b_go (l : Launch) (hl0 : l.stackTraces = false) {g : Gm} (hI : IJ g KK) {n : Nat} (h2n : 200 ≤ n) {M : Mem} {o : Nat → Int64} (h : St (40 + n) M) (a0 a1 : Int32) : Both l g yL_go cL_go 5 [((0 : Nat), (10 : Nat), (13 : Nat), (13 : Nat)), ((0 : Nat), (10 : Nat), (17 : Nat), (24 : Nat))] yX6_go cX6_go 4 (rm 2 43) n M o [.int a0, .int a1] := by
  obtain ⟨w, t, e2, h5, hr, hN⟩ := h
  have hn : Nt n (M 0) := hN.le (by omega)
  have qS := hr.iv.lS
  have qH := hr.iv.lH
  have qW := hr.iv.lW
  have eS : w 16 1 = M 0 16 1 := hr.e1 (by decide)
  have eH : w 16 0 = M 0 16 0 := hr.e1 (by decide)
  by_cases h1 : isIn a0 0 (M 0 16 1 - 1) = true
  · have h1w : isIn a0 0 (w 16 1 - 1) = true := by rw [eS]; exact h1
    by_cases h2 : a1 = -1
    · subst h2
      obtain ⟨k, hk, rfl⟩ := hr.cS h1
      exact both_0 e2 ⟨Nat.le_of_ble_eq_true rfl, Nat.le_of_ble_eq_true rfl, Nat.le_of_ble_eq_true rfl, Nat.le_of_ble_eq_true rfl⟩ (setR_ne _ _ (by decide)) (hr.ag 8 k (RS (by decide) (by decide) hk)) (c_goL_ok l hI _ _ _ (c_goP_0a l hI hr.iv k hk h1)) (c_goM_0a l hI hr.iw h5 k (by rw [hr.ag.eS]; exact hk) h1w) (by rw [setR_same]; exact z_up h5 (by decide)) (St_0 (z_up h5 (by decide)) (hr.gG hk (Or.inl rfl)) (hn.up (by omega)))
    · by_cases h3 : isIn a1 0 (M 0 16 0 - 1) = true
      · have h3w : isIn a1 0 (w 16 0 - 1) = true := by rw [eH]; exact h3
        obtain ⟨j, hj, rfl⟩ := hr.cH h3
        have hjw : j < nH w := by rw [hr.ag.eH]; exact hj
        have e5 : w 5 j = M 0 5 j := hr.ag 5 j (RH (by decide) (by decide) hj)
        by_cases h4 : M 0 5 j = 0
        · exact both_x e2 ⟨Nat.le_of_ble_eq_true rfl, Nat.le_of_ble_eq_true rfl, Nat.le_of_ble_eq_true rfl, Nat.le_of_ble_eq_true rfl⟩ (by decide) (c_goL_x2 l hI _ _ (c_goP_2 l hl0 hI hr.iv _ h1 j hj h3 h4)) (c_goM_2 l hI hr.iw h5 _ h1w j hjw h3w (by rw [e5]; exact h4)) h5 hr hn
        · obtain ⟨k, hk, rfl⟩ := hr.cS h1
          exact both_0 e2 ⟨Nat.le_of_ble_eq_true rfl, Nat.le_of_ble_eq_true rfl, Nat.le_of_ble_eq_true rfl, Nat.le_of_ble_eq_true rfl⟩ (setR_ne _ _ (by decide)) (hr.ag 8 k (RS (by decide) (by decide) hk)) (c_goL_ok l hI _ _ _ (c_goP_0b l hI hr.iv k hk h1 j hj h3 h4)) (c_goM_0b l hI hr.iw h5 k (by rw [hr.ag.eS]; exact hk) h1w j hjw h3w (by rw [e5]; exact h4)) (by rw [setR_same]; exact z_up h5 (by decide)) (St_0 (z_up h5 (by decide)) (hr.gG hk (Or.inr ⟨j, hj, rfl⟩)) (hn.up (by omega)))
      · have h3 := nt_f h3
        exact both_x e2 ⟨Nat.le_of_ble_eq_true rfl, Nat.le_of_ble_eq_true rfl, Nat.le_of_ble_eq_true rfl, Nat.le_of_ble_eq_true rfl⟩ (by decide) (c_goL_x1 l hI _ _ (c_goP_1b l hl0 hI _ _ h1 h2 h3)) (c_goM_1b l hI hr.iw h5 _ _ h1w h2 (by rw [eH]; exact h3)) h5 hr hn
  · have h1 := nt_f h1
    exact both_x e2 ⟨Nat.le_of_ble_eq_true rfl, Nat.le_of_ble_eq_true rfl, Nat.le_of_ble_eq_true rfl, Nat.le_of_ble_eq_true rfl⟩ (by decide) (c_goL_x1 l hI _ _ (c_goP_1a l hl0 hI _ _ h1)) (c_goM_1a l hI hr.iw h5 _ _ (by rw [eS]; exact h1)) h5 hr hn
theorem b_warden (l : Launch) (hl0 : l.stackTraces = false) {g : Gm} (hI : IJ g KK) {n : Nat} (h2n : 200 ≤ n) {M : Mem} {o : Nat → Int64} (h : St (40 + n) M) (a0 a1 a2 : Int32) : Both l g yL_warden cL_warden 6 [((0 : Nat), (12 : Nat), (15 : Nat), (13 : Nat)), ((0 : Nat), (12 : Nat), (19 : Nat), (15 : Nat)), ((0 : Nat), (12 : Nat), (23 : Nat), (24 : Nat))] yX6_warden cX6_warden 4 (rm 2 43) n M o [.int a0, .int a1, .int a2] := by
  obtain ⟨w, t, e2, h5, hr, hN⟩ := h
  have hn : Nt n (M 0) := hN.le (by omega)
  have qS := hr.iv.lS
  have qH := hr.iv.lH
  have qW := hr.iv.lW
  by_cases h1 : isCell a0 a1 = true
  · by_cases h2 : isIn a2 1 8 = true
    · by_cases h3 : nW (M 0) < 3
      · have h3w : nW w < 3 := by rw [hr.ag.eW]; exact h3
        obtain ⟨x, y, hx, hy, rfl, rfl⟩ := isCell_9 h1
        exact both_0 e2 ⟨Nat.le_of_ble_eq_true rfl, Nat.le_of_ble_eq_true rfl, Nat.le_of_ble_eq_true rfl, Nat.le_of_ble_eq_true rfl⟩ (setR_ne _ _ (by decide)) (by rw [hr.ag.eW]) (c_wardenL_ok l hI _ _ _ _ (c_wardenP_0 l hI hr.iv _ _ _ h1 h2 h3)) (c_wardenM_0 l hI hr.iw h5 _ _ _ h1 h2 h3w) (by rw [setR_same]; exact z_addW h5) (St_0 (z_addW h5) (hr.gW h3 (lt9_nI hx) (lt9_nI hy)) hn.gW)
      · have h3 : nW (M 0) = 3 := by omega
        have h3w : nW w = 3 := by rw [hr.ag.eW]; exact h3
        exact both_x e2 ⟨Nat.le_of_ble_eq_true rfl, Nat.le_of_ble_eq_true rfl, Nat.le_of_ble_eq_true rfl, Nat.le_of_ble_eq_true rfl⟩ (by decide) (c_wardenL_x3 l hI _ _ _ (c_wardenP_3 l hl0 hI hr.iv _ _ _ h1 h2 h3)) (c_wardenM_3 l hI hr.iw h5 _ _ _ h1 h2 h3w) h5 hr hn
    · have h2 := nt_f h2
      exact both_x e2 ⟨Nat.le_of_ble_eq_true rfl, Nat.le_of_ble_eq_true rfl, Nat.le_of_ble_eq_true rfl, Nat.le_of_ble_eq_true rfl⟩ (by decide) (c_wardenL_x2 l hI _ _ _ (c_wardenP_2 l hl0 hI _ _ _ h1 h2)) (c_wardenM_2 l hI hr.iw h5 _ _ _ h1 h2) h5 hr hn
  · have h1 := nt_f h1
    exact both_x e2 ⟨Nat.le_of_ble_eq_true rfl, Nat.le_of_ble_eq_true rfl, Nat.le_of_ble_eq_true rfl, Nat.le_of_ble_eq_true rfl⟩ (by decide) (c_wardenL_x1 l hI _ _ _ (c_wardenP_1 l hl0 hI _ _ _ h1)) (c_wardenM_1 l hI hr.iw h5 _ _ _ h1) h5 hr hn
theorem b_cell (l : Launch) (hl0 : l.stackTraces = false) {g : Gm} (hI : IJ g KK) {n : Nat} (h2n : 200 ≤ n) {M : Mem} {o : Nat → Int64} (h : St (40 + n) M) (a0 a1 a2 : Int32) : Both l g yL_cell cL_cell 6 [((0 : Nat), (12 : Nat), (15 : Nat), (13 : Nat))] yX6_cell cX6_cell 4 (rm 3 65) n M o [.int a0, .int a1, .int a2] := by
  obtain ⟨w, t, e2, h5, hr, hN⟩ := h
  have hn : Nt n (M 0) := hN.le (by omega)
  have qS := hr.iv.lS
  have qH := hr.iv.lH
  have qW := hr.iv.lW
  by_cases h1 : isCell a0 a1 = true
  · by_cases h2 : isIn a2 0 3 = true
    · obtain ⟨x, y, hx, hy, rfl, rfl⟩ := isCell_9 h1
      exact both_0 e2 ⟨Nat.le_of_ble_eq_true rfl, Nat.le_of_ble_eq_true rfl, Nat.le_of_ble_eq_true rfl, Nat.le_of_ble_eq_true rfl⟩ (setR_ne _ _ (by decide)) (hr.ag.gC hx hy _) (c_cellL_ok l hI _ _ _ _ (c_cellP_0 l hI hr.iv x y hx hy _ h1 h2)) (c_cellM_0 l hI hr.iw h5 x y hx hy _ h1 h2) (by rw [setR_same]; exact h5) (St_0 h5 hr hn)
    · have h2 := nt_f h2
      exact both_x e2 ⟨Nat.le_of_ble_eq_true rfl, Nat.le_of_ble_eq_true rfl, Nat.le_of_ble_eq_true rfl, Nat.le_of_ble_eq_true rfl⟩ (by decide) (c_cellL_x1 l hI _ _ _ (c_cellP_1b l hl0 hI _ _ _ h1 h2)) (c_cellM_1b l hI hr.iw h5 _ _ _ h1 h2) h5 hr hn
  · have h1 := nt_f h1
    exact both_x e2 ⟨Nat.le_of_ble_eq_true rfl, Nat.le_of_ble_eq_true rfl, Nat.le_of_ble_eq_true rfl, Nat.le_of_ble_eq_true rfl⟩ (by decide) (c_cellL_x1 l hI _ _ _ (c_cellP_1a l hl0 hI _ _ _ h1)) (c_cellM_1a l hI hr.iw h5 _ _ _ h1) h5 hr hn
theorem b_hole (l : Launch) (hl0 : l.stackTraces = false) {g : Gm} (hI : IJ g KK) {n : Nat} (h2n : 200 ≤ n) {M : Mem} {o : Nat → Int64} (h : St (40 + n) M) (a0 a1 : Int32) : Both l g yL_hole cL_hole 5 [((0 : Nat), (10 : Nat), (13 : Nat), (13 : Nat))] yX6_hole cX6_hole 3 (rm 5 111) n M o [.int a0, .int a1] := by
  obtain ⟨w, t, e2, h5, hr, hN⟩ := h
  have hn : Nt n (M 0) := hN.le (by omega)
  have qS := hr.iv.lS
  have qH := hr.iv.lH
  have qW := hr.iv.lW
  have eC : w 16 0 = M 0 16 0 := hr.e1 (by decide)
  by_cases h1 : isIn a0 0 (M 0 16 0 - 1) = true
  · have h1w : isIn a0 0 (w 16 0 - 1) = true := by rw [eC]; exact h1
    by_cases h2 : isIn a1 0 4 = true
    · obtain ⟨k, hk, rfl⟩ := hr.cH h1
      exact both_0 e2 ⟨Nat.le_of_ble_eq_true rfl, Nat.le_of_ble_eq_true rfl, Nat.le_of_ble_eq_true rfl, Nat.le_of_ble_eq_true rfl⟩ (setR_ne _ _ (by decide)) (hr.ag.gH hk _) (c_holeL_ok l hI _ _ _ (c_holeP_0 l hI hr.iv k hk _ h1 h2)) (c_holeM_0 l hI hr.iw h5 k (by rw [hr.ag.eH]; exact hk) _ h1w h2) (by rw [setR_same]; exact h5) (St_0 h5 hr hn)
    · have h2 := nt_f h2
      exact both_x e2 ⟨Nat.le_of_ble_eq_true rfl, Nat.le_of_ble_eq_true rfl, Nat.le_of_ble_eq_true rfl, Nat.le_of_ble_eq_true rfl⟩ (by decide) (c_holeL_x1 l hI _ _ (c_holeP_1b l hl0 hI _ _ h1 h2)) (c_holeM_1b l hI hr.iw h5 _ _ h1w h2) h5 hr hn
  · have h1 := nt_f h1
    exact both_x e2 ⟨Nat.le_of_ble_eq_true rfl, Nat.le_of_ble_eq_true rfl, Nat.le_of_ble_eq_true rfl, Nat.le_of_ble_eq_true rfl⟩ (by decide) (c_holeL_x1 l hI _ _ (c_holeP_1a l hl0 hI _ _ h1)) (c_holeM_1a l hI hr.iw h5 _ _ (by rw [eC]; exact h1)) h5 hr hn
theorem b_spearer (l : Launch) (hl0 : l.stackTraces = false) {g : Gm} (hI : IJ g KK) {n : Nat} (h2n : 200 ≤ n) {M : Mem} {o : Nat → Int64} (h : St (40 + n) M) (a0 a1 : Int32) : Both l g yL_spearer cL_spearer 5 [((0 : Nat), (10 : Nat), (13 : Nat), (13 : Nat))] yX6_spearer cX6_spearer 3 (rm 2 43) n M o [.int a0, .int a1] := by
  obtain ⟨w, t, e2, h5, hr, hN⟩ := h
  have hn : Nt n (M 0) := hN.le (by omega)
  have qS := hr.iv.lS
  have qH := hr.iv.lH
  have qW := hr.iv.lW
  have eC : w 16 1 = M 0 16 1 := hr.e1 (by decide)
  by_cases h1 : isIn a0 0 (M 0 16 1 - 1) = true
  · have h1w : isIn a0 0 (w 16 1 - 1) = true := by rw [eC]; exact h1
    by_cases h2 : isIn a1 0 5 = true
    · obtain ⟨k, hk, rfl⟩ := hr.cS h1
      exact both_0 e2 ⟨Nat.le_of_ble_eq_true rfl, Nat.le_of_ble_eq_true rfl, Nat.le_of_ble_eq_true rfl, Nat.le_of_ble_eq_true rfl⟩ (setR_ne _ _ (by decide)) (hr.ag.gS hk _) (c_spearerL_ok l hI _ _ _ (c_spearerP_0 l hI hr.iv k hk _ h1 h2)) (c_spearerM_0 l hI hr.iw h5 k (by rw [hr.ag.eS]; exact hk) _ h1w h2) (by rw [setR_same]; exact h5) (St_0 h5 hr hn)
    · have h2 := nt_f h2
      exact both_x e2 ⟨Nat.le_of_ble_eq_true rfl, Nat.le_of_ble_eq_true rfl, Nat.le_of_ble_eq_true rfl, Nat.le_of_ble_eq_true rfl⟩ (by decide) (c_spearerL_x1 l hI _ _ (c_spearerP_1b l hl0 hI _ _ h1 h2)) (c_spearerM_1b l hI hr.iw h5 _ _ h1w h2) h5 hr hn
  · have h1 := nt_f h1
    exact both_x e2 ⟨Nat.le_of_ble_eq_true rfl, Nat.le_of_ble_eq_true rfl, Nat.le_of_ble_eq_true rfl, Nat.le_of_ble_eq_true rfl⟩ (by decide) (c_spearerL_x1 l hI _ _ (c_spearerP_1a l hl0 hI _ _ h1)) (c_spearerM_1a l hI hr.iw h5 _ _ (by rw [eC]; exact h1)) h5 hr hn
theorem b_about (l : Launch) (hl0 : l.stackTraces = false) {g : Gm} (hI : IJ g KK) {n : Nat} (h2n : 200 ≤ n) {M : Mem} {o : Nat → Int64} (h : St (40 + n) M) (a0 a1 : Int32) : Both l g yL_about cL_about 5 [((0 : Nat), (10 : Nat), (13 : Nat), (13 : Nat))] yX6_about cX6_about 3 (rm 1 22) n M o [.int a0, .int a1] := by
  obtain ⟨w, t, e2, h5, hr, hN⟩ := h
  have hn : Nt n (M 0) := hN.le (by omega)
  have qS := hr.iv.lS
  have qH := hr.iv.lH
  have qW := hr.iv.lW
  have eC : w 16 2 = M 0 16 2 := hr.e1 (by decide)
  by_cases h1 : isIn a0 0 (M 0 16 2 - 1) = true
  · have h1w : isIn a0 0 (w 16 2 - 1) = true := by rw [eC]; exact h1
    by_cases h2 : isIn a1 0 3 = true
    · obtain ⟨k, hk, rfl⟩ := hr.cW h1
      exact both_0 e2 ⟨Nat.le_of_ble_eq_true rfl, Nat.le_of_ble_eq_true rfl, Nat.le_of_ble_eq_true rfl, Nat.le_of_ble_eq_true rfl⟩ (setR_ne _ _ (by decide)) (hr.ag.gW hk _) (c_aboutL_ok l hI _ _ _ (c_aboutP_0 l hI hr.iv k hk _ h1 h2)) (c_aboutM_0 l hI hr.iw h5 k (by rw [hr.ag.eW]; exact hk) _ h1w h2) (by rw [setR_same]; exact h5) (St_0 h5 hr hn)
    · have h2 := nt_f h2
      exact both_x e2 ⟨Nat.le_of_ble_eq_true rfl, Nat.le_of_ble_eq_true rfl, Nat.le_of_ble_eq_true rfl, Nat.le_of_ble_eq_true rfl⟩ (by decide) (c_aboutL_x1 l hI _ _ (c_aboutP_1b l hl0 hI _ _ h1 h2)) (c_aboutM_1b l hI hr.iw h5 _ _ h1w h2) h5 hr hn
  · have h1 := nt_f h1
    exact both_x e2 ⟨Nat.le_of_ble_eq_true rfl, Nat.le_of_ble_eq_true rfl, Nat.le_of_ble_eq_true rfl, Nat.le_of_ble_eq_true rfl⟩ (by decide) (c_aboutL_x1 l hI _ _ (c_aboutP_1a l hl0 hI _ _ h1)) (c_aboutM_1a l hI hr.iw h5 _ _ (by rw [eC]; exact h1)) h5 hr hn
theorem b_count (l : Launch) (hl0 : l.stackTraces = false) {g : Gm} (hI : IJ g KK) {n : Nat} (h2n : 200 ≤ n) {M : Mem} {o : Nat → Int64} (h : St (40 + n) M) (a0 : Int32) : Both l g yL_count cL_count 4 [((0 : Nat), (9 : Nat), (12 : Nat), (13 : Nat))] yX6_count cX6_count 2 (rm 2 45) n M o [.int a0] := by
  obtain ⟨w, t, e2, h5, hr, hN⟩ := h
  have hn : Nt n (M 0) := hN.le (by omega)
  have qS := hr.iv.lS
  have qH := hr.iv.lH
  have qW := hr.iv.lW
  by_cases h1 : isIn a0 0 8 = true
  · exact both_0 e2 ⟨Nat.le_of_ble_eq_true rfl, Nat.le_of_ble_eq_true rfl, Nat.le_of_ble_eq_true rfl, Nat.le_of_ble_eq_true rfl⟩ (setR_ne _ _ (by decide)) (hr.ag.gF _) (c_countL_ok l hI _ _ (c_countP_0 l hI hr.iv _ h1)) (c_countM_0 l hI hr.iw h5 _ h1) (by rw [setR_same]; exact h5) (St_0 h5 hr hn)
  · have h1 := nt_f h1
    exact both_x e2 ⟨Nat.le_of_ble_eq_true rfl, Nat.le_of_ble_eq_true rfl, Nat.le_of_ble_eq_true rfl, Nat.le_of_ble_eq_true rfl⟩ (by decide) (c_countL_x1 l hI _ (c_countP_1 l hl0 hI _ h1)) (c_countM_1 l hI hr.iw h5 _ h1) h5 hr hn
theorem b_pass (l : Launch) (hl0 : l.stackTraces = false) {g : Gm} (hI : IJ g KK) {n : Nat} (h2n : 200 ≤ n) {M : Mem} {o : Nat → Int64} (h : St (40 + n) M) (a0 : Int32) : Both l g yL_pass cL_pass 4 [((0 : Nat), (9 : Nat), (12 : Nat), (15 : Nat))] yX6_pass cX6_pass 2 (rm 7 161) n M o [.int a0] := by
  obtain ⟨w, t, e2, h5, hr, hN⟩ := h
  have hn : Nt n (M 0) := hN.le (by omega)
  have qS := hr.iv.lS
  have qH := hr.iv.lH
  have qW := hr.iv.lW
  by_cases h1 : isIn a0 1 40 = true
  · obtain ⟨j, hj, rfl⟩ := isIn_1 (n := 40) (by decide) h1
    have hj0 : Nt j (M 0) := hN.le (by omega)
    have hjn : Nt (j + n) (M 0) := hN.le (by omega)
    exact both_0 e2 ⟨Nat.le_of_ble_eq_true rfl, Nat.le_of_ble_eq_true rfl, Nat.le_of_ble_eq_true rfl, Nat.le_of_ble_eq_true rfl⟩ (setR_ne _ _ (by decide)) (hr.ag.gG hr.iv j) (c_passL_ok l hI _ _ (c_passP_0 l hI hr.iv j hj h1 hj0)) (c_passM_0 l hI hr.iw h5 j hj h1 (hr.ag.gN hj0)) (by rw [setR_same]; exact z_days hr.iw h5) (St_0 (z_days hr.iw h5) (hr.gD j) hjn.days)
  · have h1 := nt_f h1
    exact both_x e2 ⟨Nat.le_of_ble_eq_true rfl, Nat.le_of_ble_eq_true rfl, Nat.le_of_ble_eq_true rfl, Nat.le_of_ble_eq_true rfl⟩ (by decide) (c_passL_x1 l hI _ (c_passP_1 l hl0 hI _ h1)) (c_passM_1 l hI hr.iw h5 _ h1) h5 hr hn
theorem b_foresee (l : Launch) (hl0 : l.stackTraces = false) {g : Gm} (hI : IJ g KK) {n : Nat} (h2n : 200 ≤ n) {M : Mem} {o : Nat → Int64} (h : St (40 + n) M) (a0 a1 : Int32) : Both l g yL_foresee cL_foresee 5 [((0 : Nat), (10 : Nat), (13 : Nat), (15 : Nat)), ((0 : Nat), (10 : Nat), (17 : Nat), (13 : Nat))] yX6_foresee cX6_foresee 3 (rm 7 161) n M o [.int a0, .int a1] := by
  obtain ⟨w, t, e2, h5, hr, hN⟩ := h
  have hn : Nt n (M 0) := hN.le (by omega)
  have qS := hr.iv.lS
  have qH := hr.iv.lH
  have qW := hr.iv.lW
  by_cases h1 : isIn a0 1 40 = true
  · by_cases h2 : fsn a1
    · obtain ⟨j, hj, rfl⟩ := isIn_1 (n := 40) (by decide) h1
      have hj0 : Nt j (M 0) := hN.le (by omega)
      exact both_0 e2 ⟨Nat.le_of_ble_eq_true rfl, Nat.le_of_ble_eq_true rfl, Nat.le_of_ble_eq_true rfl, Nat.le_of_ble_eq_true rfl⟩ ((setR_ne _ _ (by decide)).trans (setR_ne _ _ (by decide))) ((hr.ag.gD hr.iv j).gF _) (c_foreseeL_ok l hI _ _ _ (c_foreseeP_0 l hI hr.iv j hj _ h1 h2 hj0)) (c_foreseeM_0 l hI hr.iw h5 j hj _ h1 h2 (hr.ag.gN hj0)) (by rw [setR_ne _ _ (by decide), setR_same]; exact h5) (St_3 h5 hr hn)
    · exact both_x e2 ⟨Nat.le_of_ble_eq_true rfl, Nat.le_of_ble_eq_true rfl, Nat.le_of_ble_eq_true rfl, Nat.le_of_ble_eq_true rfl⟩ (by decide) (c_foreseeL_x2 l hI _ _ (c_foreseeP_2 l hl0 hI _ _ h1 h2)) (c_foreseeM_2 l hI hr.iw h5 _ _ h1 h2) h5 hr hn
  · have h1 := nt_f h1
    exact both_x e2 ⟨Nat.le_of_ble_eq_true rfl, Nat.le_of_ble_eq_true rfl, Nat.le_of_ble_eq_true rfl, Nat.le_of_ble_eq_true rfl⟩ (by decide) (c_foreseeL_x1 l hI _ _ (c_foreseeP_1 l hl0 hI _ _ h1)) (c_foreseeM_1 l hI hr.iw h5 _ _ h1) h5 hr hn
theorem b_advise (l : Launch) (hl0 : l.stackTraces = false) {g : Gm} (hI : IJ g KK) {n : Nat} (h2n : 200 ≤ n) {M : Mem} {o : Nat → Int64} (h : St (40 + n) M) (a0 : Int32) : Both l g yL_advise cL_advise 4 [((0 : Nat), (9 : Nat), (12 : Nat), (13 : Nat))] yX6_advise cX6_advise 5 (rm 7 161) n M o [.int a0] := by
  obtain ⟨w, t, e2, h5, hr, hN⟩ := h
  have hn : Nt n (M 0) := hN.le (by omega)
  have qS := hr.iv.lS
  have qH := hr.iv.lH
  have qW := hr.iv.lW
  have eS : w 16 1 = M 0 16 1 := hr.e1 (by decide)
  by_cases h1 : isIn a0 0 (M 0 16 1 - 1) = true
  · have h1w : isIn a0 0 (w 16 1 - 1) = true := by rw [eS]; exact h1
    have hj0 : Nt 5 (M 0) := hN.le (by omega)
    obtain ⟨k, hk, rfl⟩ := hr.cS h1
    exact both_0 e2 ⟨Nat.le_of_ble_eq_true rfl, Nat.le_of_ble_eq_true rfl, Nat.le_of_ble_eq_true rfl, Nat.le_of_ble_eq_true rfl⟩ ((setR_ne _ _ (by decide)).trans (setR_ne _ _ (by decide))) (hr.ag.gA hr.iv hk) (c_adviseL_ok l hI _ _ (c_adviseP_0 l hI hr.iv k hk h1 hj0)) (c_adviseM_0 l hI hr.iw h5 k (by rw [hr.ag.eS]; exact hk) h1w (hr.ag.gN hj0)) (by rw [setR_ne _ _ (by decide), setR_same]; exact h5) (St_3 h5 hr hn)
  · have h1 := nt_f h1
    exact both_x e2 ⟨Nat.le_of_ble_eq_true rfl, Nat.le_of_ble_eq_true rfl, Nat.le_of_ble_eq_true rfl, Nat.le_of_ble_eq_true rfl⟩ (by decide) (c_adviseL_x1 l hI _ (c_adviseP_1 l hl0 hI _ h1)) (c_adviseM_1 l hI hr.iw h5 _ (by rw [eS]; exact h1)) h5 hr hn
/-- bears, mean, digest: an answer r on both sides -/
theorem b_thr (l : Launch) {g : Gm} (hI : IJ g KK) {n : Nat} {M : Mem} {o : Nat → Int64} (h : St n M) : MI l yX6_thrown cX6_thrown 1 .int (rm 0 0) g KK (ent g M o) [.ref (ad g (10, 0, 0))] (M 2 16 5) (ent g M o) := by
  have q := c_thrown l hI (M := M) (o := o) h.i2
  rw [setR_self] at q
  exact q
theorem b_bears (l : Launch) {g : Gm} (hI : IJ g KK) {n : Nat} (h2n : 200 ≤ n) {M : Mem} {o : Nat → Int64} (h : St (40 + n) M) : ∃ (r : Int32) (M2 : Mem), MI l yX4_bears cX4_bears 3 .int (rm 2 43) g KK (ent g M o) [.ref (ad g (8, 0, 0))] r (ent g M o) ∧ MI l yX6_bears cX6_bears 3 .int (rm 1 21) g KK (ent g M o) [.ref (ad g (10, 0, 0))] r (ent g M2 o) ∧ St n M2 := by
  obtain ⟨w, t, e2, h5, hr, hN⟩ := h
  have hn : Nt n (M 0) := hN.le (by omega)
  have h2 : Nt 200 (M 0) := hN.le (by omega)
  have p1 := c_bearsP l hI (M := M) (o := o) hr.iv h2
  have p2 := c_bearsM l hI (M := M) (o := o) (t := t) hr.iw h5 (hr.ag.gN h2)
  rw [setR_self] at p1
  rw [← e2, setR_self, hr.ag.gB] at p2
  have q := St_0 (M := M) h5 hr hn
  rw [setR_self] at q
  exact ⟨_, _, p1, p2, q⟩
theorem b_mean (l : Launch) {g : Gm} (hI : IJ g KK) {n : Nat} {M : Mem} {o : Nat → Int64} (h : St (40 + n) M) : ∃ (r : UInt64) (M2 : Mem), MDd l yX4_mean cX4_mean 3 (rm 0 0) g KK (ent g M o) [.ref (ad g (8, 0, 0))] r (ent g M o) ∧ MDd l yX6_mean cX6_mean 1 (rm 1 24) g KK (ent g M o) [.ref (ad g (10, 0, 0))] r (ent g M2 o) ∧ St n M2 := by
  obtain ⟨w, t, e2, h5, hr, hN⟩ := h
  have hn : Nt n (M 0) := hN.le (by omega)
  have p1 := c_meanP l hI (M := M) (o := o) hr.iv
  have p2 := c_meanM l hI (M := M) (o := o) (t := t) hr.iw h5
  rw [setR_self] at p1
  rw [← e2, setR_self, hr.ag.gM] at p2
  have q := St_0 (M := M) h5 hr hn
  rw [setR_self] at q
  exact ⟨_, _, p1, p2, q⟩
theorem b_digest (l : Launch) {g : Gm} (hI : IJ g KK) {n : Nat} {M : Mem} {o : Nat → Int64} (h : St (40 + n) M) : ∃ (r : Int64) (M2 : Mem), ML l yX4_digest cX4_digest 5 (rm 4 94) g KK (ent g M o) [.ref (ad g (8, 0, 0))] r (ent g M o) ∧ ML l yX6_digest cX6_digest 7 (rm 5 111) g KK (ent g M o) [.ref (ad g (10, 0, 0))] r (ent g M2 o) ∧ St n M2 := by
  obtain ⟨w, t, e2, h5, hr, hN⟩ := h
  have hn : Nt n (M 0) := hN.le (by omega)
  have p1 := c_digestP l hI (M := M) (o := o) hr.iv
  have p2 := c_digestM l hI (M := M) (o := o) (t := t) hr.iw h5
  rw [setR_self] at p1
  rw [← e2, setR_self, hr.ag.gX] at p2
  have q := St_0 (M := M) h5 hr hn
  rw [setR_self] at q
  exact ⟨_, _, p1, p2, q⟩
