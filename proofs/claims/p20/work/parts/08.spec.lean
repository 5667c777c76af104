/-! What a lake is, and how a night goes, over views. Components: 0 eels, 1 mud, 2 frost, 3 hole x, 4 hole y, 5 open, 6 permit, 7 light, 8 at, 9 caught, 10 all, 11 fines, 12 warden x, 13 warden y, 14 pace, 15 given, 16: holes, spearers, wardens, ice, night. -/
def bear (x : Int32) : Bool := !decide (x < 5)
def ice2 (x y : Int32) : Int32 := imax 0 (imin 90 (x + y))
def mix (d : Int64) (x : Int32) : Int64 := d * 31 + x.toInt64
def cmp3 (a b : Int32) : Int32 := if a < b then -1 else if a = b then 0 else 1
def tt (v : Vw) : Nat := (v 16 4).toNatClampNeg
def lt9 (x : Int32) : Prop := ∃ j : Nat, j < 9 ∧ x = nI j
def IH (v : Vw) (h : Nat) : Prop := lt9 (v 3 h) ∧ lt9 (v 4 h) ∧ (v 5 h = 0 ∨ v 5 h = 1)
def IS (v : Vw) (k : Nat) : Prop := (v 8 k = -1 ∨ ∃ h, h < nH v ∧ v 8 k = nI h) ∧ (∃ j : Nat, j < 5 ∧ v 7 k = nI j) ∧ (∃ j : Nat, j < 31 ∧ v 6 k = nI j) ∧ ∃ j : Nat, j ≤ 60 ∧ v 9 k = nI j
def IW (v : Vw) (w : Nat) : Prop := lt9 (v 12 w) ∧ lt9 (v 13 w)
def IC (v : Vw) (c : Nat) : Prop := ∃ j : Nat, j ≤ 60 ∧ v 0 c = nI j
def Inv (v : Vw) : Prop := (v 16 0 = nI (nH v) ∧ nH v ≤ 12) ∧ (v 16 1 = nI (nS v) ∧ nS v ≤ 8) ∧ (v 16 2 = nI (nW v) ∧ nW v ≤ 3) ∧ (∀ h, h < nH v → IH v h) ∧ (∀ k, k < nS v → IS v k) ∧ (∀ w, w < nW v → IW v w) ∧ ∀ c, c < 81 → IC v c
theorem Inv.eH {v : Vw} (h : Inv v) : v 16 0 = nI (nH v) := h.1.1
theorem Inv.lH {v : Vw} (h : Inv v) : nH v ≤ 12 := h.1.2
theorem Inv.eS {v : Vw} (h : Inv v) : v 16 1 = nI (nS v) := h.2.1.1
theorem Inv.lS {v : Vw} (h : Inv v) : nS v ≤ 8 := h.2.1.2
theorem Inv.eW {v : Vw} (h : Inv v) : v 16 2 = nI (nW v) := h.2.2.1.1
theorem Inv.lW {v : Vw} (h : Inv v) : nW v ≤ 3 := h.2.2.1.2
theorem Inv.hH {v : Vw} (h : Inv v) : ∀ i, i < nH v → IH v i := h.2.2.2.1
theorem Inv.hS {v : Vw} (h : Inv v) : ∀ k, k < nS v → IS v k := h.2.2.2.2.1
theorem Inv.hW {v : Vw} (h : Inv v) : ∀ k, k < nW v → IW v k := h.2.2.2.2.2.1
theorem Inv.hC {v : Vw} (h : Inv v) : ∀ c, c < 81 → IC v c := h.2.2.2.2.2.2
theorem lt9_cl {x : Int32} (h : lt9 x) : x = nI x.toNatClampNeg ∧ x.toNatClampNeg < 9 := by
  obtain ⟨j, hj, rfl⟩ := h
  rw [nI_clamp (by omega)]
  exact ⟨rfl, hj⟩
def sumI (f : Nat → Int32) : Nat → Int32
  | 0 => 0
  | n + 1 => sumI f n + f n
def anyB (p : Nat → Bool) : Nat → Bool
  | 0 => false
  | n + 1 => anyB p n || p n
/-- the first place of n that has p, or -1 -/
def fst1 (p : Nat → Bool) : Nat → Int32
  | 0 => -1
  | n + 1 => if anyB p n = true then fst1 p n else if p n = true then nI n else -1
theorem anyB_no {p : Nat → Bool} : ∀ {n : Nat}, (∀ j, j < n → p j = false) → anyB p n = false
  | 0, _ => rfl
  | n + 1, h => by
    show (anyB p n || p n) = false
    rw [anyB_no (fun j hj => h j (by omega)), h n (by omega)]; rfl
theorem anyB_yes {p : Nat → Bool} : ∀ {n i : Nat}, i < n → p i = true → anyB p n = true
  | 0, _, h, _ => absurd h (Nat.not_lt_zero _)
  | n + 1, i, h, hp => by
    show (anyB p n || p n) = true
    rcases Nat.lt_or_ge i n with q | q
    · rw [anyB_yes q hp]; rfl
    · have e : i = n := by omega
      subst e
      rw [hp, Bool.or_true]
theorem anyB_iff {p : Nat → Bool} : ∀ {n : Nat}, anyB p n = true ↔ ∃ i, i < n ∧ p i = true
  | 0 => ⟨fun h => Bool.noConfusion h, fun ⟨i, h, _⟩ => absurd h (Nat.not_lt_zero _)⟩
  | n + 1 => by
    constructor
    · intro h
      have h : (anyB p n || p n) = true := h
      rw [Bool.or_eq_true] at h
      rcases h with h | h
      · obtain ⟨i, a, b⟩ := anyB_iff.mp h
        exact ⟨i, by omega, b⟩
      · exact ⟨n, by omega, h⟩
    · rintro ⟨i, a, b⟩
      exact anyB_yes a b
theorem anyB_congr {p q : Nat → Bool} : ∀ {n : Nat}, (∀ j, j < n → p j = q j) → anyB p n = anyB q n
  | 0, _ => rfl
  | n + 1, h => by
    show (anyB p n || p n) = (anyB q n || q n)
    rw [anyB_congr (fun j hj => h j (by omega)), h n (by omega)]
theorem fst1_no {p : Nat → Bool} : ∀ {n : Nat}, (∀ j, j < n → p j = false) → fst1 p n = -1
  | 0, _ => rfl
  | n + 1, h => by
    show (if anyB p n = true then fst1 p n else if p n = true then nI n else -1) = -1
    rw [anyB_no (fun j hj => h j (by omega)), h n (by omega)]; rfl
theorem fst1_yes {p : Nat → Bool} {i : Nat} (h1 : ∀ j, j < i → p j = false) (h2 : p i = true) : ∀ {n : Nat}, i < n → fst1 p n = nI i
  | 0, h => absurd h (Nat.not_lt_zero _)
  | n + 1, h => by
    show (if anyB p n = true then fst1 p n else if p n = true then nI n else -1) = nI i
    rcases Nat.lt_or_ge i n with q | q
    · rw [if_pos (anyB_yes q h2)]
      exact fst1_yes h1 h2 q
    · have e : i = n := by omega
      subst e
      rw [anyB_no h1, h2]; rfl
theorem sumI_congr {f g : Nat → Int32} : ∀ {n : Nat}, (∀ j, j < n → f j = g j) → sumI f n = sumI g n
  | 0, _ => rfl
  | n + 1, h => by
    show sumI f n + f n = sumI g n + g n
    rw [sumI_congr (fun j hj => h j (by omega)), h n (by omega)]
theorem it_keep {f : Nat → Vw → Vw} {c i : Nat} (h : ∀ k v, f k v c i = v c i) : ∀ (n : Nat) (v : Vw), it f n v c i = v c i
  | 0, _ => rfl
  | n + 1, v => (h n _).trans (it_keep h n v)
theorem it_inv {α : Type} {f : Nat → α → α} {P : α → Prop} {N : Nat} (h : ∀ k v, k < N → P v → P (f k v)) : ∀ (n : Nat) (v : α), n ≤ N → P v → P (it f n v)
  | 0, _, _, hv => hv
  | n + 1, v, hn, hv => h n _ (by omega) (it_inv h n v (by omega) hv)
def bearV (v : Vw) : Bool := bear (v 16 3)
def opn (v : Vw) (x y : Int32) (h : Nat) : Bool := !decide (v 5 h = 0) && (decide (v 3 h = x) && decide (v 4 h = y))
def openIn (v : Vw) (x y : Int32) : Int32 := fst1 (opn v x y) (nH v)
def would (v : Vw) (c : Nat) : Int32 := imax 0 (imin (v 0 c) (v 0 c / 2 + 1 - v 1 c))
def come (v : Vw) (c own : Nat) : Int32 := imin (imin 2 (v 0 c)) (60 - v 0 own)
def mvc (c own : Nat) (v : Vw) : Vw := up2 (up2 v 0 c (v 0 c - come v c own)) 0 own (up2 v 0 c (v 0 c - come v c own) 0 own + come v c own)
def cl (v : Vw) (h : Nat) : Nat := 9 * (v 4 h).toNatClampNeg + (v 3 h).toNatClampNeg
def hol (v : Vw) (k : Nat) : Nat := (v 8 k).toNatClampNeg
def lurC (own : Nat) (x y lt : Int32) (c : Nat) (v : Vw) : Vw := if c = own ∨ lt < far (nI (c % 9)) (nI (c / 9)) x y then v else mvc c own v
def lurA (h : Nat) (lt : Int32) (v : Vw) : Vw := it (lurC (cl v h) (v 3 h) (v 4 h) lt) 81 v
def lur (k : Nat) (v : Vw) : Vw := if v 8 k = -1 then v else lurA (hol v k) (v 7 k) v
def spr (k : Nat) (v : Vw) : Vw := if v 8 k = -1 then up2 v 9 k 0 else up2 (up2 (up2 v 9 k 0) 9 k (would v (cl v (hol v k)))) 0 (cl v (hol v k)) (v 0 (cl v (hol v k)) - would v (cl v (hol v k)))
def ovr (v : Vw) (h k : Nat) : Bool := decide (v 8 k = nI h) && decide (v 6 k < v 9 k)
def farW (v : Vw) (w h : Nat) : Int32 := far (v 12 w) (v 13 w) (v 3 h) (v 4 h)
def golS (v : Vw) (w h : Nat) (q : Int32 × Int32) : Int32 × Int32 := if anyB (ovr v h) (nS v) = true ∧ farW v w h < q.2 then (nI h, farW v w h) else q
def gol (v : Vw) (w : Nat) : Int32 := (it (golS v w) (nH v) (-1, 9)).1
def stp (w h : Nat) (v : Vw) : Vw := up2 (up2 v 12 w (v 12 w + cmp3 (v 3 h) (v 12 w))) 13 w (v 13 w + cmp3 (v 4 h) (v 13 w))
def mov (w h : Nat) (v : Vw) : Vw := it (fun _ u => stp w h u) (v 14 w).toNatClampNeg v
def fin1 (w h c k : Nat) (v : Vw) : Vw := if ovr v h k = true then up2 (up2 (up2 (up2 v 0 c (imin 60 (v 0 c + v 9 k - v 6 k))) 9 k (v 6 k)) 11 k (v 11 k + 1)) 15 w (v 15 w + 1) else v
def finA (w h : Nat) (v : Vw) : Vw := it (fin1 w h (cl v h)) (nS v) v
def gua (w : Nat) (v : Vw) : Vw := if gol v w = -1 then v else if 0 < farW (mov w (gol v w).toNatClampNeg v) w (gol v w).toNatClampNeg then mov w (gol v w).toNatClampNeg v else finA w (gol v w).toNatClampNeg (mov w (gol v w).toNatClampNeg v)
def kep (k : Nat) (v : Vw) : Vw := up2 v 10 k (v 10 k + v 9 k)
def bre (c : Nat) (v : Vw) : Vw := if isIn (v 0 c) 1 40 = true then up2 v 0 c (v 0 c + (v 0 c / 10 + 1)) else v
def spAt (v : Vw) (h : Int32) : Int32 := sumI (fun k => if v 8 k = h then 1 else 0) (nS v)
def frostN (v : Vw) : Int32 := v 2 (tt v % 7)
def iceN (v : Vw) : Int32 := ice2 (v 16 3) (frostN v)
def frz (v : Vw) : Vw := fun c j => if c = 16 ∧ j = 3 then iceN v else if c = 5 ∧ j < nH v ∧ (iceN v < 5 ∨ (0 < frostN v ∧ spAt v (nI j) = 0)) then 0 else if c = 8 ∧ j < nS v ∧ iceN v < 5 then -1 else v c j
def nig (v : Vw) : Vw := up2 v 16 4 (v 16 4 + 1)
def lam (v : Vw) : Vw := it lur (nS v) v
def spe (v : Vw) : Vw := it spr (nS v) v
def sen (v : Vw) : Vw := it gua (nW v) v
def kepA (v : Vw) : Vw := it kep (nS v) v
def breA (v : Vw) : Vw := it bre 81 v
def pre1 (v : Vw) : Vw := sen (spe (lam v))
def day (v : Vw) : Vw := nig (frz (breA (kepA (pre1 v))))
def got1 (v : Vw) : Int32 := sumI (pre1 v 9) (nS v)
def days (n : Nat) (v : Vw) : Vw := it (fun _ => day) n v
def gots (n : Nat) (v : Vw) : Int32 := sumI (fun i => got1 (days i v)) n
def near (v : Vw) (h : Nat) : Int32 := it (fun w q => if q = -1 ∨ farW v w h < q then farW v w h else q) (nW v) (-1)
def cellF (v : Vw) (x y : Nat) (what : Int32) : Int32 := if what = 0 then v 0 (9 * y + x) else if what = 1 then v 1 (9 * y + x) else if what = 2 then openIn v (nI x) (nI y) else would v (9 * y + x)
def holeF (v : Vw) (h : Nat) (what : Int32) : Int32 := if what = 0 then v 3 h else if what = 1 then v 4 h else if what = 2 then v 5 h else if what = 3 then spAt v (nI h) else near v h
def sprF (v : Vw) (k : Nat) (what : Int32) : Int32 := if what = 0 then v 6 k else if what = 1 then v 7 k else if what = 2 then v 8 k else if what = 3 then v 9 k else if what = 4 then v 10 k else v 11 k
def warF (v : Vw) (w : Nat) (what : Int32) : Int32 := if what = 0 then v 12 w else if what = 1 then v 13 w else if what = 2 then v 14 w else v 15 w
def factF (v : Vw) (what : Int32) : Int32 := if what = 0 then v 16 4 else if what = 1 then v 16 3 else if what = 2 then b2i (bear (v 16 3)) else if what = 3 then sumI (v 0) 81 else if what = 4 then v 16 0 else if what = 5 then sumI (v 5) (nH v) else if what = 6 then v 16 1 else if what = 7 then sumI (v 10) (nS v) else sumI (v 11) (nS v)
