/-! Which numbers count; what a lake does with the others: nothing. -/
/-- the numbers that count in v -/
abbrev Rv (v : Vw) (c i : Nat) : Prop := (c < 2 ∧ i < 81) ∨ (c = 2 ∧ i < 7) ∨ (3 ≤ c ∧ c < 6 ∧ i < nH v) ∨ (6 ≤ c ∧ c < 12 ∧ i < nS v) ∨ (12 ≤ c ∧ c < 16 ∧ i < nW v) ∨ (c = 16 ∧ i < 5)
/-- v where it counts, u elsewhere -/
def pt (v u : Vw) : Vw := fun c i => if Rv v c i then v c i else u c i
theorem pt_rd {v u : Vw} {c i : Nat} (h : Rv v c i) : pt v u c i = v c i := if_pos h
theorem pt_no {v u : Vw} {c i : Nat} (h : ¬ Rv v c i) : pt v u c i = u c i := if_neg h
theorem pt_self {v : Vw} : pt v v = v := by funext c i; unfold pt; split <;> rfl
theorem R0 {v : Vw} {i : Nat} (h : i < 81) : Rv v 0 i := Or.inl ⟨by decide, h⟩
theorem R1 {v : Vw} {i : Nat} (h : i < 81) : Rv v 1 i := Or.inl ⟨by decide, h⟩
theorem R2 {v : Vw} {i : Nat} (h : i < 7) : Rv v 2 i := Or.inr (Or.inl ⟨rfl, h⟩)
theorem RH {v : Vw} {c i : Nat} (h1 : 3 ≤ c) (h2 : c < 6) (h : i < nH v) : Rv v c i := Or.inr (Or.inr (Or.inl ⟨h1, h2, h⟩))
theorem RS {v : Vw} {c i : Nat} (h1 : 6 ≤ c) (h2 : c < 12) (h : i < nS v) : Rv v c i := Or.inr (Or.inr (Or.inr (Or.inl ⟨h1, h2, h⟩)))
theorem RW {v : Vw} {c i : Nat} (h1 : 12 ≤ c) (h2 : c < 16) (h : i < nW v) : Rv v c i := Or.inr (Or.inr (Or.inr (Or.inr (Or.inl ⟨h1, h2, h⟩))))
theorem R16 {v : Vw} {i : Nat} (h : i < 5) : Rv v 16 i := Or.inr (Or.inr (Or.inr (Or.inr (Or.inr ⟨rfl, h⟩))))
theorem pt_0 {v u : Vw} {i : Nat} (h : i < 81) : pt v u 0 i = v 0 i := pt_rd (R0 h)
theorem pt_1 {v u : Vw} {i : Nat} (h : i < 81) : pt v u 1 i = v 1 i := pt_rd (R1 h)
theorem pt_2 {v u : Vw} {i : Nat} (h : i < 7) : pt v u 2 i = v 2 i := pt_rd (R2 h)
theorem pt_H {v u : Vw} {c i : Nat} (h1 : 3 ≤ c) (h2 : c < 6) (h : i < nH v) : pt v u c i = v c i := pt_rd (RH h1 h2 h)
theorem pt_S {v u : Vw} {c i : Nat} (h1 : 6 ≤ c) (h2 : c < 12) (h : i < nS v) : pt v u c i = v c i := pt_rd (RS h1 h2 h)
theorem pt_W {v u : Vw} {c i : Nat} (h1 : 12 ≤ c) (h2 : c < 16) (h : i < nW v) : pt v u c i = v c i := pt_rd (RW h1 h2 h)
theorem pt_16 {v u : Vw} {i : Nat} (h : i < 5) : pt v u 16 i = v 16 i := pt_rd (R16 h)
theorem nH_pt {v u : Vw} : nH (pt v u) = nH v := by unfold nH; rw [pt_16 (by decide)]
theorem nS_pt {v u : Vw} : nS (pt v u) = nS v := by unfold nS; rw [pt_16 (by decide)]
theorem nW_pt {v u : Vw} : nW (pt v u) = nW v := by unfold nW; rw [pt_16 (by decide)]
theorem tt_pt {v u : Vw} : tt (pt v u) = tt v := by unfold tt; rw [pt_16 (by decide)]
theorem Rv_of {v w : Vw} (a : nH w = nH v) (b : nS w = nS v) (d : nW w = nW v) (c i : Nat) : Rv w c i ↔ Rv v c i := by
  unfold Rv; rw [a, b, d]
theorem nH_u {v : Vw} {c i : Nat} {x : Int32} (h : ¬ (16 = c ∧ 0 = i)) : nH (up2 v c i x) = nH v := by unfold nH up2; rw [if_neg h]
theorem nS_u {v : Vw} {c i : Nat} {x : Int32} (h : ¬ (16 = c ∧ 1 = i)) : nS (up2 v c i x) = nS v := by unfold nS up2; rw [if_neg h]
theorem nW_u {v : Vw} {c i : Nat} {x : Int32} (h : ¬ (16 = c ∧ 2 = i)) : nW (up2 v c i x) = nW v := by unfold nW up2; rw [if_neg h]
theorem pt_up {v u : Vw} {c i : Nat} {x : Int32} (h : Rv v c i) (hc : ¬ (16 = c ∧ i < 3)) : up2 (pt v u) c i x = pt (up2 v c i x) u := by
  have e := Rv_of (v := v) (w := up2 v c i x) (nH_u (by omega)) (nS_u (by omega)) (nW_u (by omega))
  funext a j
  by_cases h1 : a = c ∧ j = i
  · rw [pt_rd ((e a j).mpr (by rw [h1.1, h1.2]; exact h)), h1.1, h1.2, up2_same, up2_same]
  · by_cases h2 : Rv v a j
    · rw [pt_rd ((e a j).mpr h2)]
      unfold up2
      rw [if_neg h1, if_neg h1, pt_rd h2]
    · rw [pt_no (fun q => h2 ((e a j).mp q))]
      unfold up2
      rw [if_neg h1, pt_no h2]
theorem pt_u0 {v u : Vw} {i : Nat} {x : Int32} (h : i < 81) : up2 (pt v u) 0 i x = pt (up2 v 0 i x) u := pt_up (R0 h) (by omega)
theorem pt_uS {v u : Vw} {c i : Nat} {x : Int32} (h1 : 6 ≤ c) (h2 : c < 12) (h : i < nS v) : up2 (pt v u) c i x = pt (up2 v c i x) u := pt_up (RS h1 h2 h) (by omega)
theorem pt_uW {v u : Vw} {c i : Nat} {x : Int32} (h1 : 12 ≤ c) (h2 : c < 16) (h : i < nW v) : up2 (pt v u) c i x = pt (up2 v c i x) u := pt_up (RW h1 h2 h) (by omega)
theorem it_pt {u : Vw} {f : Nat → Vw → Vw} {N : Nat} {I : Vw → Prop} (h : ∀ k v, k < N → I v → f k (pt v u) = pt (f k v) u) (hI : ∀ k v, k < N → I v → I (f k v)) : ∀ (n : Nat) (v : Vw), n ≤ N → I v → it f n (pt v u) = pt (it f n v) u
  | 0, _, _, _ => rfl
  | n + 1, v, hn, hv => by
    rw [it_s, it_s, it_pt h hI n v (by omega) hv]
    exact h n _ (by omega) (it_inv (P := I) hI n v (by omega) hv)
theorem it_ext {α : Type} {f g : Nat → α → α} {N : Nat} (h : ∀ k x, k < N → f k x = g k x) : ∀ (n : Nat) (x : α), n ≤ N → it f n x = it g n x
  | 0, _, _ => rfl
  | n + 1, x, hn => by rw [it_s, it_s, it_ext h n x (by omega), h n _ (by omega)]
section PT
variable {v u : Vw}
theorem come_pt {c own : Nat} (hc : c < 81) (ho : own < 81) : come (pt v u) c own = come v c own := by unfold come; rw [pt_0 hc, pt_0 ho]
theorem mvc_pt {c own : Nat} (hc : c < 81) (ho : own < 81) : mvc c own (pt v u) = pt (mvc c own v) u := by
  unfold mvc
  rw [come_pt hc ho, pt_0 hc, pt_u0 hc, pt_0 ho, pt_u0 ho]
theorem lurC_pt {c own : Nat} {x y lt : Int32} (hc : c < 81) (ho : own < 81) : lurC own x y lt c (pt v u) = pt (lurC own x y lt c v) u := by
  unfold lurC
  split
  · rfl
  · exact mvc_pt hc ho
theorem cl_pt {h : Nat} (hh : h < nH v) : cl (pt v u) h = cl v h := by unfold cl; rw [pt_H (by decide) (by decide) hh, pt_H (by decide) (by decide) hh]
theorem hol_pt {k : Nat} (hk : k < nS v) : hol (pt v u) k = hol v k := by unfold hol; rw [pt_S (by decide) (by decide) hk]
theorem lurA_pt (hv : Inv v) {h : Nat} (hh : h < nH v) {lt : Int32} : lurA h lt (pt v u) = pt (lurA h lt v) u := by
  unfold lurA
  rw [cl_pt hh, pt_H (by decide) (by decide) hh, pt_H (by decide) (by decide) hh]
  exact it_pt (N := 81) (I := fun _ => True) (fun k w hk _ => lurC_pt hk (cl_lt hv hh)) (fun _ _ _ _ => trivial) 81 v (Nat.le_refl _) trivial
theorem lur_pt (hv : Inv v) {k : Nat} (hk : k < nS v) : lur k (pt v u) = pt (lur k v) u := by
  unfold lur
  rw [pt_S (by decide) (by decide) hk, pt_S (by decide) (by decide) hk, hol_pt hk]
  split
  · rfl
  · rename_i h
    exact lurA_pt hv (hol_of hv hk h).2
theorem lam_pt (hv : Inv v) : lam (pt v u) = pt (lam v) u := by
  unfold lam
  rw [nS_pt]
  exact it_pt (N := nS v) (I := fun w => Inv w ∧ nS w = nS v) (fun k w hk h => lur_pt h.1 (by rw [h.2]; exact hk)) (fun k w hk h => ⟨lur_inv (by rw [h.2]; exact hk) h.1, nS_lur.trans h.2⟩) _ v (Nat.le_refl _) ⟨hv, rfl⟩
theorem would_pt {c : Nat} (hc : c < 81) : would (pt v u) c = would v c := by unfold would; rw [pt_0 hc, pt_1 hc]
theorem spr_pt (hv : Inv v) {k : Nat} (hk : k < nS v) : spr k (pt v u) = pt (spr k v) u := by
  unfold spr
  rw [pt_S (by decide) (by decide) hk, hol_pt hk]
  split
  · exact pt_uS (by decide) (by decide) hk
  · rename_i h
    have hh := (hol_of hv hk h).2
    have hc := cl_lt hv hh
    rw [cl_pt hh, would_pt hc, pt_0 hc, pt_uS (by decide) (by decide) hk, pt_uS (by decide) (by decide) (by rw [nS_u (by omega)]; exact hk), pt_u0 hc]
theorem spe_pt (hv : Inv v) : spe (pt v u) = pt (spe v) u := by
  unfold spe
  rw [nS_pt]
  exact it_pt (N := nS v) (I := fun w => Inv w ∧ nS w = nS v) (fun k w hk h => spr_pt h.1 (by rw [h.2]; exact hk)) (fun k w hk h => ⟨spr_inv (by rw [h.2]; exact hk) h.1, nS_spr.trans h.2⟩) _ v (Nat.le_refl _) ⟨hv, rfl⟩
theorem ovr_pt {h k : Nat} (hk : k < nS v) : ovr (pt v u) h k = ovr v h k := by unfold ovr; rw [pt_S (by decide) (by decide) hk, pt_S (by decide) (by decide) hk, pt_S (by decide) (by decide) hk]
theorem farW_pt {w h : Nat} (hw : w < nW v) (hh : h < nH v) : farW (pt v u) w h = farW v w h := by
  unfold farW
  rw [pt_W (by decide) (by decide) hw, pt_W (by decide) (by decide) hw, pt_H (by decide) (by decide) hh, pt_H (by decide) (by decide) hh]
theorem gol_pt {w : Nat} (hw : w < nW v) : gol (pt v u) w = gol v w := by
  unfold gol
  rw [nH_pt, it_ext (N := nH v) (g := golS v w) (fun h q hh => ?_) _ _ (Nat.le_refl _)]
  unfold golS
  rw [nS_pt, farW_pt hw hh, anyB_congr (q := ovr v h) (fun k hk => ovr_pt hk)]
theorem stp_pt {w h : Nat} (hw : w < nW v) (hh : h < nH v) : stp w h (pt v u) = pt (stp w h v) u := by
  unfold stp
  rw [pt_W (by decide) (by decide) hw, pt_W (by decide) (by decide) hw, pt_H (by decide) (by decide) hh, pt_H (by decide) (by decide) hh, pt_uW (by decide) (by decide) hw, pt_uW (by decide) (by decide) (by rw [nW_u (by omega)]; exact hw)]
theorem nW_stp {w h : Nat} : nW (stp w h v) = nW v := by unfold nW; rw [stp_ne (by decide) (by decide)]
theorem mov_pt {w h : Nat} (hw : w < nW v) (hh : h < nH v) : mov w h (pt v u) = pt (mov w h v) u := by
  unfold mov
  rw [pt_W (by decide) (by decide) hw]
  exact it_pt (N := (v 14 w).toNatClampNeg) (I := fun x => nW x = nW v ∧ nH x = nH v) (fun k x _ q => stp_pt (by rw [q.1]; exact hw) (by rw [q.2]; exact hh)) (fun k x _ q => ⟨nW_stp.trans q.1, nH_stp.trans q.2⟩) _ v (Nat.le_refl _) ⟨rfl, rfl⟩
theorem nW_mov {w h : Nat} : nW (mov w h v) = nW v := by unfold nW; rw [mov_ne (by decide) (by decide)]
theorem nW_fin1 {w h c k : Nat} : nW (fin1 w h c k v) = nW v := by unfold nW; rw [fin1_ne (by decide) (by decide) (by decide) (by decide)]
theorem fin1_pt {w h c k : Nat} (hw : w < nW v) (hc : c < 81) (hk : k < nS v) : fin1 w h c k (pt v u) = pt (fin1 w h c k v) u := by
  unfold fin1
  rw [ovr_pt hk, pt_0 hc, pt_S (by decide) (by decide) hk, pt_S (by decide) (by decide) hk, pt_S (by decide) (by decide) hk, pt_W (by decide) (by decide) hw, pt_u0 hc, pt_uS (by decide) (by decide) (by rw [nS_u (by omega)]; exact hk), pt_uS (by decide) (by decide) (by rw [nS_u (by omega), nS_u (by omega)]; exact hk), pt_uW (by decide) (by decide) (by rw [nW_u (by omega), nW_u (by omega), nW_u (by omega)]; exact hw)]
  split <;> rfl
theorem finA_pt (hv : Inv v) {w h : Nat} (hw : w < nW v) (hh : h < nH v) : finA w h (pt v u) = pt (finA w h v) u := by
  unfold finA
  rw [nS_pt, cl_pt hh]
  exact it_pt (N := nS v) (I := fun x => nW x = nW v ∧ nS x = nS v) (fun k x hk q => fin1_pt (by rw [q.1]; exact hw) (cl_lt hv hh) (by rw [q.2]; exact hk)) (fun k x _ q => ⟨nW_fin1.trans q.1, nS_fin1.trans q.2⟩) _ v (Nat.le_refl _) ⟨rfl, rfl⟩
theorem gua_pt (hv : Inv v) {w : Nat} (hw : w < nW v) : gua w (pt v u) = pt (gua w v) u := by
  unfold gua
  rw [gol_pt hw]
  by_cases h : gol v w = -1
  · rw [if_pos h, if_pos h]
  · have z := (gol_of hv h).2
    rw [if_neg h, if_neg h, mov_pt hw z, farW_pt (by rw [nW_mov]; exact hw) (by rw [nH_mov]; exact z), finA_pt (mov_inv z hv) (by rw [nW_mov]; exact hw) (by rw [nH_mov]; exact z)]
    split <;> rfl
theorem sen_pt (hv : Inv v) : sen (pt v u) = pt (sen v) u := by
  unfold sen
  rw [nW_pt]
  exact it_pt (N := nW v) (I := fun w => Inv w ∧ nW w = nW v) (fun k w hk h => gua_pt h.1 (by rw [h.2]; exact hk)) (fun k w hk h => ⟨gua_inv h.1, nW_gua.trans h.2⟩) _ v (Nat.le_refl _) ⟨hv, rfl⟩
theorem kep_pt {k : Nat} (hk : k < nS v) : kep k (pt v u) = pt (kep k v) u := by
  unfold kep
  rw [pt_S (by decide) (by decide) hk, pt_S (by decide) (by decide) hk, pt_uS (by decide) (by decide) hk]
theorem kepA_pt : kepA (pt v u) = pt (kepA v) u := by
  unfold kepA
  rw [nS_pt]
  exact it_pt (N := nS v) (I := fun w => nS w = nS v) (fun k w hk h => kep_pt (by rw [h]; exact hk)) (fun k w hk h => by rw [← h]; unfold nS; rw [kep_ne (by decide)]) _ v (Nat.le_refl _) rfl
theorem bre_pt {c : Nat} (hc : c < 81) : bre c (pt v u) = pt (bre c v) u := by
  unfold bre
  rw [pt_0 hc, pt_u0 hc]
  split <;> rfl
theorem breA_pt : breA (pt v u) = pt (breA v) u := it_pt (N := 81) (I := fun _ => True) (fun k w hk _ => bre_pt hk) (fun _ _ _ _ => trivial) _ v (Nat.le_refl _) trivial
theorem frostN_pt : frostN (pt v u) = frostN v := by unfold frostN; rw [tt_pt, pt_2 (Nat.mod_lt _ (by decide))]
theorem iceN_pt : iceN (pt v u) = iceN v := by unfold iceN; rw [frostN_pt, pt_16 (by decide)]
theorem spAt_pt {x : Int32} : spAt (pt v u) x = spAt v x := by
  unfold spAt
  rw [nS_pt]
  exact sumI_congr fun k hk => by rw [pt_S (by decide) (by decide) hk]
theorem nH_frz : nH (frz v) = nH v := by unfold nH; rw [frz_ne (by decide) (by decide) (by decide)]
theorem nS_frz : nS (frz v) = nS v := by unfold nS; rw [frz_ne (by decide) (by decide) (by decide)]
theorem nW_frz : nW (frz v) = nW v := by unfold nW; rw [frz_ne (by decide) (by decide) (by decide)]
theorem frz_pt : frz (pt v u) = pt (frz v) u := by
  have e := Rv_of (v := v) (w := frz v) nH_frz nS_frz nW_frz
  funext c j
  by_cases h : Rv v c j
  · rw [pt_rd ((e c j).mpr h)]
    unfold frz
    rw [iceN_pt, frostN_pt, spAt_pt, nH_pt, nS_pt, pt_rd h]
  · rw [pt_no (fun q => h ((e c j).mp q))]
    unfold frz
    rw [nH_pt, nS_pt, pt_no h]
    rw [if_neg (fun q => h (by rw [q.1, q.2]; exact R16 (by decide))), if_neg (fun q => h (by rw [q.1]; exact RH (by decide) (by decide) q.2.1)), if_neg (fun q => h (by rw [q.1]; exact RS (by decide) (by decide) q.2.1))]
theorem nig_pt : nig (pt v u) = pt (nig v) u := by
  unfold nig
  rw [pt_16 (by decide), pt_up (R16 (by decide)) (by omega)]
theorem pre1_pt (hv : Inv v) : pre1 (pt v u) = pt (pre1 v) u := by
  unfold pre1
  rw [lam_pt hv, spe_pt (lam_inv hv), sen_pt (spe_inv (lam_inv hv))]
theorem day_pt (hv : Inv v) : day (pt v u) = pt (day v) u := by
  unfold day
  rw [pre1_pt hv, kepA_pt, breA_pt, frz_pt, nig_pt]
theorem days_pt (hv : Inv v) (n : Nat) : days n (pt v u) = pt (days n v) u := it_pt (N := n) (I := Inv) (fun _ _ _ h => day_pt h) (fun _ _ _ h => day_inv h) n v (Nat.le_refl _) hv
theorem got1_pt (hv : Inv v) : got1 (pt v u) = got1 v := by
  unfold got1
  rw [pre1_pt hv, nS_pt]
  exact sumI_congr fun k hk => pt_S (by decide) (by decide) (by show k < nS (sen (spe (lam v))); rw [nS_pre1]; exact hk)
theorem gots_pt (hv : Inv v) (n : Nat) : gots n (pt v u) = gots n v := sumI_congr fun i _ => by rw [days_pt hv i, got1_pt (days_inv hv i)]
theorem opn_pt {x y : Int32} {h : Nat} (hh : h < nH v) : opn (pt v u) x y h = opn v x y h := by
  unfold opn
  rw [pt_H (by decide) (by decide) hh, pt_H (by decide) (by decide) hh, pt_H (by decide) (by decide) hh]
theorem fst1_congr {p q : Nat → Bool} : ∀ {n : Nat}, (∀ j, j < n → p j = q j) → fst1 p n = fst1 q n
  | 0, _ => rfl
  | n + 1, h => by
    show (if anyB p n = true then fst1 p n else if p n = true then nI n else -1) = (if anyB q n = true then fst1 q n else if q n = true then nI n else -1)
    rw [anyB_congr (fun j hj => h j (by omega)), fst1_congr (fun j hj => h j (by omega)), h n (by omega)]
theorem openIn_pt {x y : Int32} : openIn (pt v u) x y = openIn v x y := by
  unfold openIn
  rw [nH_pt]
  exact fst1_congr fun h hh => opn_pt hh
theorem cellF_pt {x y : Nat} (hx : x < 9) (hy : y < 9) {q : Int32} : cellF (pt v u) x y q = cellF v x y q := by
  unfold cellF
  rw [pt_0 (by omega), pt_1 (by omega), openIn_pt, would_pt (by omega)]
theorem near_pt {h : Nat} (hh : h < nH v) : near (pt v u) h = near v h := by
  unfold near
  rw [nW_pt]
  exact it_ext (N := nW v) (fun w q hw => by rw [farW_pt hw hh]) _ _ (Nat.le_refl _)
theorem holeF_pt {h : Nat} (hh : h < nH v) {q : Int32} : holeF (pt v u) h q = holeF v h q := by
  unfold holeF
  rw [pt_H (by decide) (by decide) hh, pt_H (by decide) (by decide) hh, pt_H (by decide) (by decide) hh, spAt_pt, near_pt hh]
theorem sprF_pt {k : Nat} (hk : k < nS v) {q : Int32} : sprF (pt v u) k q = sprF v k q := by
  unfold sprF
  rw [pt_S (by decide) (by decide) hk, pt_S (by decide) (by decide) hk, pt_S (by decide) (by decide) hk, pt_S (by decide) (by decide) hk, pt_S (by decide) (by decide) hk, pt_S (by decide) (by decide) hk]
theorem warF_pt {w : Nat} (hw : w < nW v) {q : Int32} : warF (pt v u) w q = warF v w q := by
  unfold warF
  rw [pt_W (by decide) (by decide) hw, pt_W (by decide) (by decide) hw, pt_W (by decide) (by decide) hw, pt_W (by decide) (by decide) hw]
theorem factF_pt {q : Int32} : factF (pt v u) q = factF v q := by
  unfold factF
  rw [pt_16 (by decide), pt_16 (by decide), pt_16 (by decide), pt_16 (by decide), nH_pt, nS_pt, sumI_congr (f := pt v u 0) (g := v 0) (fun k hk => pt_0 hk), sumI_congr (f := pt v u 5) (g := v 5) (fun k hk => pt_H (by decide) (by decide) hk), sumI_congr (f := pt v u 10) (g := v 10) (fun k hk => pt_S (by decide) (by decide) hk), sumI_congr (f := pt v u 11) (g := v 11) (fun k hk => pt_S (by decide) (by decide) hk)]
end PT
/-- w holds what counts in v -/
def Ag (v w : Vw) : Prop := ∀ c i, Rv v c i → w c i = v c i
theorem Ag.eH {v w : Vw} (h : Ag v w) : nH w = nH v := by unfold nH; rw [h 16 0 (R16 (by decide))]
theorem Ag.eS {v w : Vw} (h : Ag v w) : nS w = nS v := by unfold nS; rw [h 16 1 (R16 (by decide))]
theorem Ag.eW {v w : Vw} (h : Ag v w) : nW w = nW v := by unfold nW; rw [h 16 2 (R16 (by decide))]
theorem Ag.et {v w : Vw} (h : Ag v w) : tt w = tt v := by unfold tt; rw [h 16 4 (R16 (by decide))]
theorem Ag.eR {v w : Vw} (h : Ag v w) (c i : Nat) : Rv w c i ↔ Rv v c i := Rv_of h.eH h.eS h.eW c i
theorem Ag.eq {v w : Vw} (h : Ag v w) : pt v w = w := by
  funext c i
  unfold pt
  split
  · rename_i q; exact (h c i q).symm
  · rfl
theorem Ag.of {v u : Vw} : Ag v (pt v u) := fun _ _ h => pt_rd h
theorem Ag.rf {v : Vw} : Ag v v := fun _ _ _ => rfl
theorem Ag.sy {v w : Vw} (h : Ag v w) : Ag w v := fun c i q => (h c i ((h.eR c i).mp q)).symm
theorem Ag.tr {v w x : Vw} (h : Ag v w) (k : Ag w x) : Ag v x := fun c i q => (k c i ((h.eR c i).mpr q)).trans (h c i q)
theorem Ag.inv {v w : Vw} (h : Ag v w) (hv : Inv v) : Inv w := by
  refine ⟨⟨by rw [h 16 0 (R16 (by decide)), h.eH]; exact hv.eH, by rw [h.eH]; exact hv.lH⟩, ⟨by rw [h 16 1 (R16 (by decide)), h.eS]; exact hv.eS, by rw [h.eS]; exact hv.lS⟩, ⟨by rw [h 16 2 (R16 (by decide)), h.eW]; exact hv.eW, by rw [h.eW]; exact hv.lW⟩, ?_, ?_, ?_, ?_⟩
  · intro i hi
    rw [h.eH] at hi
    have := hv.hH i hi
    unfold IH at this ⊢
    rw [h 3 i (RH (by decide) (by decide) hi), h 4 i (RH (by decide) (by decide) hi), h 5 i (RH (by decide) (by decide) hi)]
    exact this
  · intro i hi
    rw [h.eS] at hi
    have := hv.hS i hi
    unfold IS at this ⊢
    rw [h.eH, h 8 i (RS (by decide) (by decide) hi), h 7 i (RS (by decide) (by decide) hi), h 6 i (RS (by decide) (by decide) hi), h 9 i (RS (by decide) (by decide) hi)]
    exact this
  · intro i hi
    rw [h.eW] at hi
    have := hv.hW i hi
    unfold IW at this ⊢
    rw [h 12 i (RW (by decide) (by decide) hi), h 13 i (RW (by decide) (by decide) hi)]
    exact this
  · intro i hi
    have := hv.hC i hi
    unfold IC at this ⊢
    rw [h 0 i (R0 hi)]
    exact this
theorem Ag.gD {v w : Vw} (h : Ag v w) (hv : Inv v) (n : Nat) : Ag (days n v) (days n w) := by
  rw [← h.eq, days_pt hv n]; exact Ag.of
theorem Ag.gG {v w : Vw} (h : Ag v w) (hv : Inv v) (n : Nat) : gots n w = gots n v := by rw [← h.eq, gots_pt hv n]
theorem Ag.gF {v w : Vw} (h : Ag v w) (q : Int32) : factF w q = factF v q := by rw [← h.eq, factF_pt]
theorem Ag.gC {v w : Vw} (h : Ag v w) {x y : Nat} (hx : x < 9) (hy : y < 9) (q : Int32) : cellF w x y q = cellF v x y q := by rw [← h.eq, cellF_pt hx hy]
theorem Ag.gO {v w : Vw} (h : Ag v w) (x y : Int32) : openIn w x y = openIn v x y := by rw [← h.eq, openIn_pt]
theorem Ag.gH {v w : Vw} (h : Ag v w) {i : Nat} (hi : i < nH v) (q : Int32) : holeF w i q = holeF v i q := by rw [← h.eq, holeF_pt hi]
theorem Ag.gS {v w : Vw} (h : Ag v w) {i : Nat} (hi : i < nS v) (q : Int32) : sprF w i q = sprF v i q := by rw [← h.eq, sprF_pt hi]
theorem Ag.gW {v w : Vw} (h : Ag v w) {i : Nat} (hi : i < nW v) (q : Int32) : warF w i q = warF v i q := by rw [← h.eq, warF_pt hi]
theorem Ag.gN {v w : Vw} (h : Ag v w) {n : Nat} (hn : Nt n v) : Nt n w := by
  obtain ⟨a, b⟩ := hn
  exact ⟨by rw [h 16 4 (R16 (by decide)), h.et]; exact a, by rw [h.et]; exact b⟩
theorem Ag.up {v w : Vw} (h : Ag v w) {c i : Nat} (hc : ¬ (16 = c ∧ i < 3)) (x : Int32) : Ag (up2 v c i x) (up2 w c i x) := by
  have e := Rv_of (v := v) (w := up2 v c i x) (nH_u (by omega)) (nS_u (by omega)) (nW_u (by omega))
  intro a j q
  unfold up2
  split
  · rfl
  · exact h a j ((e a j).mp q)
