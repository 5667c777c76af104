/-! The other answers read what counts. -/
section PT2
variable {v u : Vw}
theorem iceK_pt {n : Nat} : iceK (pt v u) n = iceK v n := by
  unfold iceK
  rw [pt_16 (by decide), tt_pt]
  exact it_ext (N := n) (fun i q _ => by rw [pt_2 (Nat.mod_lt _ (by decide))]) _ _ (Nat.le_refl _)
theorem bearsV_pt : bearsV (pt v u) = bearsV v := by
  unfold bearsV
  exact fst1_congr fun n _ => by rw [iceK_pt]
theorem advE_pt (hv : Inv v) {k h : Nat} (hk : k < nS v) (hh : h < nH v) : advE (pt v u) k h = advE v k h := advE_of hv Ag.of hk (at_inv hv hk hh)
theorem advV_pt (hv : Inv v) {k : Nat} (hk : k < nS v) : advV (pt v u) k = advV v k := by
  unfold advV advQ
  rw [nH_pt]
  exact congrArg Prod.fst (it_ext (N := nH v) (fun h q hh => by rw [pt_H (by decide) (by decide) hh, advE_pt hv hk hh]) _ _ (Nat.le_refl _))
theorem meanV_pt : meanV (pt v u) = meanV v := by
  unfold meanV
  rw [nS_pt, sumI_congr (f := pt v u 9) (g := v 9) (fun k hk => pt_S (by decide) (by decide) hk)]
theorem dg_ext {n : Nat} {f f' : Nat → Int32} (h : ∀ i, i < n → f i = f' i) (d : Int64) : dg n f d = dg n f' d := it_ext (N := n) (fun i q hi => by rw [h i hi]) _ _ (Nat.le_refl _)
theorem dgC_pt {d : Int64} : dgC (pt v u) 81 d = dgC v 81 d := it_ext (N := 81) (fun i q hi => dg_ext (fun a _ => cellF_pt (Nat.mod_lt _ (by decide)) (by omega)) q) _ _ (Nat.le_refl _)
theorem dgH_pt {d : Int64} : dgH (pt v u) (nH v) d = dgH v (nH v) d := it_ext (N := nH v) (fun i q hi => dg_ext (fun a _ => holeF_pt hi) q) _ _ (Nat.le_refl _)
theorem dgS_pt {d : Int64} : dgS (pt v u) (nS v) d = dgS v (nS v) d := it_ext (N := nS v) (fun i q hi => dg_ext (fun a _ => sprF_pt hi) q) _ _ (Nat.le_refl _)
theorem dgW_pt {d : Int64} : dgW (pt v u) (nW v) d = dgW v (nW v) d := it_ext (N := nW v) (fun i q hi => dg_ext (fun a _ => warF_pt hi) q) _ _ (Nat.le_refl _)
theorem digV_pt : digV (pt v u) = digV v := by
  unfold digV dg1
  rw [nW_pt, nS_pt, nH_pt, dgW_pt, dgS_pt, dgH_pt, dg_ext (f := pt v u 2) (f' := v 2) (fun i hi => pt_2 hi), dgC_pt, dg_ext (f := fun a => factF (pt v u) (nI a)) (f' := fun a => factF v (nI a)) (fun i _ => factF_pt)]
end PT2
theorem Ag.gB {v w : Vw} (h : Ag v w) : bearsV w = bearsV v := by rw [← h.eq, bearsV_pt]
theorem Ag.gA {v w : Vw} (h : Ag v w) (hv : Inv v) {k : Nat} (hk : k < nS v) : advV w k = advV v k := by rw [← h.eq, advV_pt hv hk]
theorem Ag.gM {v w : Vw} (h : Ag v w) : meanV w = meanV v := by rw [← h.eq, meanV_pt]
theorem Ag.gX {v w : Vw} (h : Ag v w) : digV w = digV v := by rw [← h.eq, digV_pt]
