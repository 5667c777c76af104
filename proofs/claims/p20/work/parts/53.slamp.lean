/-! the law's own picture: a lamp -/
theorem dX5_lamp_0 : decode cX5_lamp 0 = .ok (.aload_n 1, 1) := by decide +kernel
theorem dX5_lamp_1 : decode cX5_lamp 1 = .ok (.iconst 2, 1) := by decide +kernel
theorem dX5_lamp_2 : decode cX5_lamp 2 = .ok (.iaload, 1) := by decide +kernel
theorem dX5_lamp_3 : decode cX5_lamp 3 = .ok (.ifCond .ge 4, 3) := by decide +kernel
theorem dX5_lamp_6 : decode cX5_lamp 6 = .ok (.return_, 1) := by decide +kernel
theorem dX5_lamp_7 : decode cX5_lamp 7 = .ok (.aload_n 0, 1) := by decide +kernel
theorem dX5_lamp_8 : decode cX5_lamp 8 = .ok (.getfield 22, 3) := by decide +kernel
theorem dX5_lamp_11 : decode cX5_lamp 11 = .ok (.aload_n 1, 1) := by decide +kernel
theorem dX5_lamp_12 : decode cX5_lamp 12 = .ok (.iconst 2, 1) := by decide +kernel
theorem dX5_lamp_13 : decode cX5_lamp 13 = .ok (.iaload, 1) := by decide +kernel
theorem dX5_lamp_14 : decode cX5_lamp 14 = .ok (.aaload, 1) := by decide +kernel
theorem dX5_lamp_15 : decode cX5_lamp 15 = .ok (.astore_n 2, 1) := by decide +kernel
theorem dX5_lamp_16 : decode cX5_lamp 16 = .ok (.aload_n 2, 1) := by decide +kernel
theorem dX5_lamp_17 : decode cX5_lamp 17 = .ok (.iconst 1, 1) := by decide +kernel
theorem dX5_lamp_18 : decode cX5_lamp 18 = .ok (.iaload, 1) := by decide +kernel
theorem dX5_lamp_19 : decode cX5_lamp 19 = .ok (.aload_n 1, 1) := by decide +kernel
theorem dX5_lamp_20 : decode cX5_lamp 20 = .ok (.iconst 1, 1) := by decide +kernel
theorem dX5_lamp_21 : decode cX5_lamp 21 = .ok (.iaload, 1) := by decide +kernel
theorem dX5_lamp_22 : decode cX5_lamp 22 = .ok (.isub, 1) := by decide +kernel
theorem dX5_lamp_23 : decode cX5_lamp 23 = .ok (.istore_n 3, 1) := by decide +kernel
theorem dX5_lamp_24 : decode cX5_lamp 24 = .ok (.iload_n 3, 1) := by decide +kernel
theorem dX5_lamp_25 : decode cX5_lamp 25 = .ok (.aload_n 2, 1) := by decide +kernel
theorem dX5_lamp_26 : decode cX5_lamp 26 = .ok (.iconst 1, 1) := by decide +kernel
theorem dX5_lamp_27 : decode cX5_lamp 27 = .ok (.iaload, 1) := by decide +kernel
theorem dX5_lamp_28 : decode cX5_lamp 28 = .ok (.aload_n 1, 1) := by decide +kernel
theorem dX5_lamp_29 : decode cX5_lamp 29 = .ok (.iconst 1, 1) := by decide +kernel
theorem dX5_lamp_30 : decode cX5_lamp 30 = .ok (.iaload, 1) := by decide +kernel
theorem dX5_lamp_31 : decode cX5_lamp 31 = .ok (.iadd, 1) := by decide +kernel
theorem dX5_lamp_32 : decode cX5_lamp 32 = .ok (.if_icmp .gt 149, 3) := by decide +kernel
theorem dX5_lamp_35 : decode cX5_lamp 35 = .ok (.aload_n 2, 1) := by decide +kernel
theorem dX5_lamp_36 : decode cX5_lamp 36 = .ok (.iconst 0, 1) := by decide +kernel
theorem dX5_lamp_37 : decode cX5_lamp 37 = .ok (.iaload, 1) := by decide +kernel
theorem dX5_lamp_38 : decode cX5_lamp 38 = .ok (.aload_n 1, 1) := by decide +kernel
theorem dX5_lamp_39 : decode cX5_lamp 39 = .ok (.iconst 1, 1) := by decide +kernel
theorem dX5_lamp_40 : decode cX5_lamp 40 = .ok (.iaload, 1) := by decide +kernel
theorem dX5_lamp_41 : decode cX5_lamp 41 = .ok (.isub, 1) := by decide +kernel
theorem dX5_lamp_42 : decode cX5_lamp 42 = .ok (.istore 4, 2) := by decide +kernel
theorem dX5_lamp_44 : decode cX5_lamp 44 = .ok (.iload 4, 2) := by decide +kernel
theorem dX5_lamp_46 : decode cX5_lamp 46 = .ok (.aload_n 2, 1) := by decide +kernel
theorem dX5_lamp_47 : decode cX5_lamp 47 = .ok (.iconst 0, 1) := by decide +kernel
theorem dX5_lamp_48 : decode cX5_lamp 48 = .ok (.iaload, 1) := by decide +kernel
theorem dX5_lamp_49 : decode cX5_lamp 49 = .ok (.aload_n 1, 1) := by decide +kernel
theorem dX5_lamp_50 : decode cX5_lamp 50 = .ok (.iconst 1, 1) := by decide +kernel
theorem dX5_lamp_51 : decode cX5_lamp 51 = .ok (.iaload, 1) := by decide +kernel
theorem dX5_lamp_52 : decode cX5_lamp 52 = .ok (.iadd, 1) := by decide +kernel
theorem dX5_lamp_53 : decode cX5_lamp 53 = .ok (.if_icmp .gt 122, 3) := by decide +kernel
theorem dX5_lamp_56 : decode cX5_lamp 56 = .ok (.iload 4, 2) := by decide +kernel
theorem dX5_lamp_58 : decode cX5_lamp 58 = .ok (.ifCond .lt 111, 3) := by decide +kernel
theorem dX5_lamp_61 : decode cX5_lamp 61 = .ok (.iload_n 3, 1) := by decide +kernel
theorem dX5_lamp_62 : decode cX5_lamp 62 = .ok (.ifCond .lt 107, 3) := by decide +kernel
theorem dX5_lamp_65 : decode cX5_lamp 65 = .ok (.iload 4, 2) := by decide +kernel
theorem dX5_lamp_67 : decode cX5_lamp 67 = .ok (.bipush 8, 2) := by decide +kernel
theorem dX5_lamp_69 : decode cX5_lamp 69 = .ok (.if_icmp .gt 100, 3) := by decide +kernel
theorem dX5_lamp_72 : decode cX5_lamp 72 = .ok (.iload_n 3, 1) := by decide +kernel
theorem dX5_lamp_73 : decode cX5_lamp 73 = .ok (.bipush 8, 2) := by decide +kernel
theorem dX5_lamp_75 : decode cX5_lamp 75 = .ok (.if_icmp .gt 94, 3) := by decide +kernel
theorem dX5_lamp_78 : decode cX5_lamp 78 = .ok (.iload 4, 2) := by decide +kernel
theorem dX5_lamp_80 : decode cX5_lamp 80 = .ok (.aload_n 2, 1) := by decide +kernel
theorem dX5_lamp_81 : decode cX5_lamp 81 = .ok (.iconst 0, 1) := by decide +kernel
theorem dX5_lamp_82 : decode cX5_lamp 82 = .ok (.iaload, 1) := by decide +kernel
theorem dX5_lamp_83 : decode cX5_lamp 83 = .ok (.if_icmp .ne 13, 3) := by decide +kernel
theorem dX5_lamp_86 : decode cX5_lamp 86 = .ok (.iload_n 3, 1) := by decide +kernel
theorem dX5_lamp_87 : decode cX5_lamp 87 = .ok (.aload_n 2, 1) := by decide +kernel
theorem dX5_lamp_88 : decode cX5_lamp 88 = .ok (.iconst 1, 1) := by decide +kernel
theorem dX5_lamp_89 : decode cX5_lamp 89 = .ok (.iaload, 1) := by decide +kernel
theorem dX5_lamp_90 : decode cX5_lamp 90 = .ok (.if_icmp .ne 6, 3) := by decide +kernel
theorem dX5_lamp_93 : decode cX5_lamp 93 = .ok (.goto 76, 3) := by decide +kernel
theorem dX5_lamp_96 : decode cX5_lamp 96 = .ok (.iconst 0, 1) := by decide +kernel
theorem dX5_lamp_97 : decode cX5_lamp 97 = .ok (.istore 5, 2) := by decide +kernel
theorem dX5_lamp_99 : decode cX5_lamp 99 = .ok (.iload 5, 2) := by decide +kernel
theorem dX5_lamp_101 : decode cX5_lamp 101 = .ok (.iconst 2, 1) := by decide +kernel
theorem dX5_lamp_102 : decode cX5_lamp 102 = .ok (.if_icmp .ge 67, 3) := by decide +kernel
theorem dX5_lamp_105 : decode cX5_lamp 105 = .ok (.aload_n 0, 1) := by decide +kernel
theorem dX5_lamp_106 : decode cX5_lamp 106 = .ok (.getfield 9, 3) := by decide +kernel
theorem dX5_lamp_109 : decode cX5_lamp 109 = .ok (.iload 4, 2) := by decide +kernel
theorem dX5_lamp_111 : decode cX5_lamp 111 = .ok (.aaload, 1) := by decide +kernel
theorem dX5_lamp_112 : decode cX5_lamp 112 = .ok (.iload_n 3, 1) := by decide +kernel
theorem dX5_lamp_113 : decode cX5_lamp 113 = .ok (.iaload, 1) := by decide +kernel
theorem dX5_lamp_114 : decode cX5_lamp 114 = .ok (.ifCond .le 55, 3) := by decide +kernel
theorem dX5_lamp_117 : decode cX5_lamp 117 = .ok (.aload_n 0, 1) := by decide +kernel
theorem dX5_lamp_118 : decode cX5_lamp 118 = .ok (.getfield 9, 3) := by decide +kernel
theorem dX5_lamp_121 : decode cX5_lamp 121 = .ok (.aload_n 2, 1) := by decide +kernel
theorem dX5_lamp_122 : decode cX5_lamp 122 = .ok (.iconst 0, 1) := by decide +kernel
theorem dX5_lamp_123 : decode cX5_lamp 123 = .ok (.iaload, 1) := by decide +kernel
theorem dX5_lamp_124 : decode cX5_lamp 124 = .ok (.aaload, 1) := by decide +kernel
theorem dX5_lamp_125 : decode cX5_lamp 125 = .ok (.aload_n 2, 1) := by decide +kernel
theorem dX5_lamp_126 : decode cX5_lamp 126 = .ok (.iconst 1, 1) := by decide +kernel
theorem dX5_lamp_127 : decode cX5_lamp 127 = .ok (.iaload, 1) := by decide +kernel
theorem dX5_lamp_128 : decode cX5_lamp 128 = .ok (.iaload, 1) := by decide +kernel
theorem dX5_lamp_129 : decode cX5_lamp 129 = .ok (.bipush 60, 2) := by decide +kernel
theorem dX5_lamp_131 : decode cX5_lamp 131 = .ok (.if_icmp .ge 38, 3) := by decide +kernel
theorem dX5_lamp_134 : decode cX5_lamp 134 = .ok (.aload_n 0, 1) := by decide +kernel
theorem dX5_lamp_135 : decode cX5_lamp 135 = .ok (.getfield 9, 3) := by decide +kernel
theorem dX5_lamp_138 : decode cX5_lamp 138 = .ok (.iload 4, 2) := by decide +kernel
theorem dX5_lamp_140 : decode cX5_lamp 140 = .ok (.aaload, 1) := by decide +kernel
theorem dX5_lamp_141 : decode cX5_lamp 141 = .ok (.iload_n 3, 1) := by decide +kernel
theorem dX5_lamp_142 : decode cX5_lamp 142 = .ok (.dup2, 1) := by decide +kernel
theorem dX5_lamp_143 : decode cX5_lamp 143 = .ok (.iaload, 1) := by decide +kernel
theorem dX5_lamp_144 : decode cX5_lamp 144 = .ok (.iconst 1, 1) := by decide +kernel
theorem dX5_lamp_145 : decode cX5_lamp 145 = .ok (.isub, 1) := by decide +kernel
theorem dX5_lamp_146 : decode cX5_lamp 146 = .ok (.iastore, 1) := by decide +kernel
theorem dX5_lamp_147 : decode cX5_lamp 147 = .ok (.aload_n 0, 1) := by decide +kernel
theorem dX5_lamp_148 : decode cX5_lamp 148 = .ok (.getfield 9, 3) := by decide +kernel
theorem dX5_lamp_151 : decode cX5_lamp 151 = .ok (.aload_n 2, 1) := by decide +kernel
theorem dX5_lamp_152 : decode cX5_lamp 152 = .ok (.iconst 0, 1) := by decide +kernel
theorem dX5_lamp_153 : decode cX5_lamp 153 = .ok (.iaload, 1) := by decide +kernel
theorem dX5_lamp_154 : decode cX5_lamp 154 = .ok (.aaload, 1) := by decide +kernel
theorem dX5_lamp_155 : decode cX5_lamp 155 = .ok (.aload_n 2, 1) := by decide +kernel
theorem dX5_lamp_156 : decode cX5_lamp 156 = .ok (.iconst 1, 1) := by decide +kernel
theorem dX5_lamp_157 : decode cX5_lamp 157 = .ok (.iaload, 1) := by decide +kernel
theorem dX5_lamp_158 : decode cX5_lamp 158 = .ok (.dup2, 1) := by decide +kernel
theorem dX5_lamp_159 : decode cX5_lamp 159 = .ok (.iaload, 1) := by decide +kernel
theorem dX5_lamp_160 : decode cX5_lamp 160 = .ok (.iconst 1, 1) := by decide +kernel
theorem dX5_lamp_161 : decode cX5_lamp 161 = .ok (.iadd, 1) := by decide +kernel
theorem dX5_lamp_162 : decode cX5_lamp 162 = .ok (.iastore, 1) := by decide +kernel
theorem dX5_lamp_163 : decode cX5_lamp 163 = .ok (.iinc 5 1, 3) := by decide +kernel
theorem dX5_lamp_166 : decode cX5_lamp 166 = .ok (.goto (-67), 3) := by decide +kernel
theorem dX5_lamp_169 : decode cX5_lamp 169 = .ok (.iinc 4 1, 3) := by decide +kernel
theorem dX5_lamp_172 : decode cX5_lamp 172 = .ok (.goto (-128), 3) := by decide +kernel
theorem dX5_lamp_175 : decode cX5_lamp 175 = .ok (.iinc 3 1, 3) := by decide +kernel
theorem dX5_lamp_178 : decode cX5_lamp 178 = .ok (.goto (-154), 3) := by decide +kernel
theorem dX5_lamp_181 : decode cX5_lamp 181 = .ok (.return_, 1) := by decide +kernel
theorem sub_toInt {p q : Nat} (hp : p < 2 ^ 30) (hq : q < 2 ^ 30) : (nI p - nI q).toInt = (p : Int) - q := by
  rw [Int32.toInt_sub, nI_toInt (by omega), nI_toInt (by omega)]
  exact Int.bmod_eq_of_le (by omega) (by omega)
theorem sub_eq {p q : Nat} (h : q ≤ p) (hp : p < 2 ^ 30) : nI p - nI q = nI (p - q) := by
  apply Int32.toInt_inj.mp
  rw [sub_toInt hp (by omega), nI_toInt (by omega)]
  omega
theorem sub_inc {p q : Nat} : nI p - nI q + 1 = nI (p + 1) - nI q := by
  rw [← nI_1 p]
  simp only [Int32.sub_eq_add_neg, Int32.add_assoc]
  congr 1
  exact Int32.add_comm _ _
theorem sub_0 {p q : Nat} (hp : p < 2 ^ 30) (hq : q < 2 ^ 30) : nI p - nI q < 0 ↔ p < q := by
  rw [Int32.lt_iff_toInt_lt, sub_toInt hp hq, Int32.toInt_zero]
  omega
theorem sub_8 {p q : Nat} (hp : p < 2 ^ 30) (hq : q < 2 ^ 30) : 8 < nI p - nI q ↔ 8 + q < p := by
  rw [Int32.lt_iff_toInt_lt, sub_toInt hp hq]
  have : (8 : Int32).toInt = 8 := by decide
  rw [this]
  omega
theorem sub_le {p q r : Nat} (hp : p < 2 ^ 30) (hq : q < 2 ^ 30) (hr : r < 2 ^ 30) : nI p - nI q ≤ nI r ↔ p ≤ r + q := by
  rw [Int32.le_iff_toInt_le, sub_toInt hp hq, nI_toInt (by omega)]
  omega
theorem nI_inj {a b : Nat} (ha : a < 2 ^ 31) (hb : b < 2 ^ 31) (h : nI a = nI b) : a = b := by
  have := congrArg Int32.toInt h
  rw [nI_toInt ha, nI_toInt hb] at this
  omega
def lmp (a b t n : Nat) (v : Vw) : Vw := it (lurC (9 * b + a) (nI a) (nI b) (nI t)) n v
def lpos (a b t j i : Nat) : Nat := if t ≤ b + j ∧ b + j - t < 9 then 9 * (b + j - t) + min 9 (a + i - t) else 9 * min 9 (b + j - t)
theorem lmp_keep {a b t n : Nat} {v : Vw} {k i : Nat} (h : k ≠ 0) : lmp a b t n v k i = v k i := it_keep (fun _ _ => lurC_ne h) _ _
theorem lmp_cn {a b t n : Nat} {v : Vw} : Cn v (lmp a b t n v) := Cn.of fun _ _ => lmp_keep (by decide)
theorem lmp_inv {a b t n : Nat} {v : Vw} (ha : a < 9) (hb : b < 9) (hv : Inv v) (hn : n ≤ 81) : Inv (lmp a b t n v) := lurI_inv (by omega) hv n hn
theorem far_c {a b c : Nat} (ha : a < 9) (hb : b < 9) (hc : c < 81) : far (nI (c % 9)) (nI (c / 9)) (nI a) (nI b) = nI (max (dst (c % 9) a) (dst (c / 9) b)) := far_nI (by omega) (by omega) (by omega) (by omega)
theorem lurC_far {a b t c : Nat} {u : Vw} (ha : a < 9) (hb : b < 9) (ht : t < 5) (hc : c < 81) (h : t < max (dst (c % 9) a) (dst (c / 9) b)) : lurC (9 * b + a) (nI a) (nI b) (nI t) c u = u := by
  unfold lurC
  rw [if_pos (Or.inr ?_)]
  rw [far_c ha hb hc, Int32.lt_iff_toInt_lt, nI_toInt (by omega), nI_toInt (by unfold dst; omega)]
  omega
theorem lmp_skip {a b t : Nat} {v : Vw} (ha : a < 9) (hb : b < 9) (ht : t < 5) {n : Nat} : ∀ d, n + d ≤ 81 → (∀ c, n ≤ c → c < n + d → t < max (dst (c % 9) a) (dst (c / 9) b)) → lmp a b t (n + d) v = lmp a b t n v
  | 0, _, _ => rfl
  | d + 1, hm, h => by
    have e : lmp a b t (n + (d + 1)) v = lurC (9 * b + a) (nI a) (nI b) (nI t) (n + d) (lmp a b t (n + d) v) := rfl
    rw [e, lurC_far ha hb ht (by omega) (h (n + d) (by omega) (by omega))]
    exact lmp_skip ha hb ht d (by omega) (fun c h1 h2 => h c h1 (by omega))
theorem lmp_to {a b t : Nat} {v : Vw} (ha : a < 9) (hb : b < 9) (ht : t < 5) {n m : Nat} (h1 : n ≤ m) (h2 : m ≤ 81) (h : ∀ c, n ≤ c → c < m → t < max (dst (c % 9) a) (dst (c / 9) b)) : lmp a b t m v = lmp a b t n v := by
  obtain ⟨d, rfl⟩ : ∃ d, m = n + d := ⟨m - n, by omega⟩
  exact lmp_skip ha hb ht d h2 h
theorem lmp_0 {a b t : Nat} {v : Vw} (ha : a < 9) (hb : b < 9) (ht : t < 5) : lmp a b t (9 * min 9 (b + 0 - t)) v = v :=
  lmp_to ha hb ht (n := 0) (Nat.zero_le _) (by omega) (fun c _ h => by have : c / 9 < b - t := by omega
                                                                       have : dst (c / 9) b > t := by unfold dst; omega
                                                                       omega)
theorem lmp_in {a b t j : Nat} {v : Vw} (ha : a < 9) (hb : b < 9) (ht : t < 5) : lmp a b t (lpos a b t j 0) v = lmp a b t (9 * min 9 (b + j - t)) v := by
  unfold lpos
  by_cases q : t ≤ b + j ∧ b + j - t < 9
  · rw [if_pos q, show min 9 (b + j - t) = b + j - t from by omega]
    refine lmp_to ha hb ht (by omega) (by omega) (fun c h1 h2 => ?_)
    have e : c / 9 = b + j - t := by omega
    have : c % 9 < a - t := by omega
    have : dst (c % 9) a > t := by unfold dst; omega
    omega
  · rw [if_neg q]
theorem lmp_out {a b t j : Nat} {v : Vw} (ha : a < 9) (hb : b < 9) (ht : t < 5) (hj : j < 2 * t + 1) : lmp a b t (lpos a b t j (2 * t + 1)) v = lmp a b t (9 * min 9 (b + (j + 1) - t)) v := by
  unfold lpos
  by_cases q : t ≤ b + j ∧ b + j - t < 9
  · rw [if_pos q]
    have e : 9 * min 9 (b + (j + 1) - t) = 9 * (b + j - t) + 9 := by omega
    rw [e]
    refine (lmp_to ha hb ht (by omega) (by omega) (fun c h1 h2 => ?_)).symm
    have : c / 9 = b + j - t := by omega
    have : c % 9 > a + t := by omega
    have : dst (c % 9) a > t := by unfold dst; omega
    omega
  · rw [if_neg q]
    by_cases q2 : b + j < t
    · rw [show min 9 (b + (j + 1) - t) = min 9 (b + j - t) from by omega]
    · rw [show min 9 (b + (j + 1) - t) = min 9 (b + j - t) from by omega]
theorem lmp_end {a b t : Nat} {v : Vw} (ha : a < 9) (hb : b < 9) (ht : t < 5) : lmp a b t (9 * min 9 (b + (2 * t + 1) - t)) v = lmp a b t 81 v := by
  refine (lmp_to ha hb ht (by omega) (by omega) (fun c h1 h2 => ?_)).symm
  have : c / 9 > b + t := by omega
  have : dst (c / 9) b > t := by unfold dst; omega
  omega
theorem lmp_no {a b t j i : Nat} {v : Vw} (h : b + j < t ∨ 8 + t < b + j ∨ a + i < t ∨ 8 + t < a + i) : lmp a b t (lpos a b t j (i + 1)) v = lmp a b t (lpos a b t j i) v := by
  unfold lpos
  by_cases q : t ≤ b + j ∧ b + j - t < 9
  · rw [if_pos q, if_pos q, show min 9 (a + (i + 1) - t) = min 9 (a + i - t) from by omega]
  · rw [if_neg q, if_neg q]
theorem lpos_in {a b t j i : Nat} (h1 : t ≤ b + j) (h2 : ¬ 8 + t < b + j) (h3 : t ≤ a + i) (h4 : ¬ 8 + t < a + i) : lpos a b t j i = 9 * (b + j - t) + (a + i - t) ∧ lpos a b t j (i + 1) = 9 * (b + j - t) + (a + i - t) + 1 := by
  unfold lpos
  rw [if_pos (by omega), if_pos (by omega)]
  omega
theorem lmp_s {a b t n : Nat} {v : Vw} : lmp a b t (n + 1) v = lurC (9 * b + a) (nI a) (nI b) (nI t) n (lmp a b t n v) := rfl
theorem lmp_own {a b t j i : Nat} {v : Vw} (h1 : t ≤ b + j) (h2 : ¬ 8 + t < b + j) (h3 : t ≤ a + i) (h4 : ¬ 8 + t < a + i) (e1 : a + i - t = a) (e2 : b + j - t = b) : lmp a b t (lpos a b t j (i + 1)) v = lmp a b t (lpos a b t j i) v := by
  obtain ⟨q1, q2⟩ := lpos_in h1 h2 h3 h4
  rw [q2, q1, lmp_s]
  unfold lurC
  rw [if_pos (Or.inl (by omega))]
theorem lmp_mv {a b t j i : Nat} {v : Vw} (ha : a < 9) (hb : b < 9) (ht : t < 5) (hj : j < 2 * t + 1) (hi : i < 2 * t + 1) (h1 : t ≤ b + j) (h2 : ¬ 8 + t < b + j) (h3 : t ≤ a + i) (h4 : ¬ 8 + t < a + i) (hne : ¬ (a + i - t = a ∧ b + j - t = b)) : lmp a b t (lpos a b t j (i + 1)) v = mvc (9 * (b + j - t) + (a + i - t)) (9 * b + a) (lmp a b t (lpos a b t j i) v) := by
  obtain ⟨q1, q2⟩ := lpos_in h1 h2 h3 h4
  rw [q2, q1, lmp_s]
  unfold lurC
  rw [if_neg]
  rintro (q | q)
  · omega
  · rw [far_c ha hb (by omega), Int32.lt_iff_toInt_lt, nI_toInt (by omega), nI_toInt (by unfold dst; omega)] at q
    have e1 : (9 * (b + j - t) + (a + i - t)) % 9 = a + i - t := by omega
    have e2 : (9 * (b + j - t) + (a + i - t)) / 9 = b + j - t := by omega
    rw [e1, e2] at q
    unfold dst at q
    omega
/-- q eels of A gone from c to own -/
def mvq (u : Vw) (c own A B q : Nat) : Vw := up2 (up2 u 0 c (nI (A - q))) 0 own (nI (B + q))
theorem mvq_ne {u : Vw} {c own A B q : Nat} {k i : Nat} (h : k ≠ 0) : mvq u c own A B q k i = u k i := (up2_c h).trans (up2_c h)
theorem mvq_cn {v u : Vw} {c own A B q : Nat} (h : Cn v u) : Cn v (mvq u c own A B q) := (h.up (by omega)).up (by omega)
theorem mvq_c {u : Vw} {c own A B q : Nat} (h : c ≠ own) : mvq u c own A B q 0 c = nI (A - q) := (up2_i h).trans (up2_same _ _ _ _)
theorem mvq_o {u : Vw} {c own A B q : Nat} : mvq u c own A B q 0 own = nI (B + q) := up2_same _ _ _ _
theorem mvq_0 {u : Vw} {c own A B : Nat} (h : c ≠ own) (ha : u 0 c = nI A) (hb : u 0 own = nI B) : u = mvq u c own A B 0 := by
  funext k i
  unfold mvq up2
  by_cases h1 : k = 0 ∧ i = own
  · rw [if_pos h1, h1.1, h1.2]; exact hb
  · rw [if_neg h1]
    by_cases h2 : k = 0 ∧ i = c
    · rw [if_pos h2, h2.1, h2.2]; exact ha
    · rw [if_neg h2]
theorem mvq_s {u : Vw} {c own A B q : Nat} (h : c ≠ own) (hq : q < A) (hA : A ≤ 60) : mvq u c own A B (q + 1) = up2 (up2 (mvq u c own A B q) 0 c (nI (A - q) - 1)) 0 own (nI (B + q) + 1) := by
  have e1 : nI (A - q) - 1 = nI (A - (q + 1)) := by
    rw [show A - (q + 1) = A - q - 1 from by omega, ← sub_eq (p := A - q) (q := 1) (by omega) (by omega)]
    rfl
  rw [e1, nI_1]
  funext k i
  unfold mvq up2
  by_cases h1 : k = 0 ∧ i = own
  · rw [if_pos h1, if_pos h1, Nat.add_assoc]
  · rw [if_neg h1, if_neg h1]
    by_cases h2 : k = 0 ∧ i = c
    · rw [if_pos h2, if_pos h2]
    · rw [if_neg h2, if_neg h2, if_neg h1, if_neg h2]
theorem mvq_e {u : Vw} {c own A B q : Nat} (h : c ≠ own) (hA : A ≤ 60) (hB : B ≤ 60) (ha : u 0 c = nI A) (hb : u 0 own = nI B) (hq : min (min 2 A) (60 - B) = q) : mvc c own u = mvq u c own A B q := by
  have e := come_nI hA hB ha hb
  rw [hq] at e
  have hqA : q ≤ A := by omega
  unfold mvc mvq
  rw [e, ha, sub_eq hqA (by omega), up2_i (Ne.symm h), hb, nI_add]
theorem sub_gt {p t : Nat} (h : t < 5 ∧ p < 9) : nI p + nI t < nI (p + (2 * t + 1)) - nI t := by
  refine Int32.not_le.mp ?_
  rw [nI_add, sub_le (by omega) (by omega) (by omega)]
  omega
theorem sub_ng {p t i : Nat} (h : t < 5 ∧ p < 9) (hi : i < 2 * t + 1) : ¬ (nI p + nI t < nI (p + i) - nI t) := by
  refine Int32.not_lt.mpr ?_
  rw [nI_add, sub_le (by omega) (by omega) (by omega)]
  omega
theorem nI_le0 {n : Nat} (hn : n < 2 ^ 31) (h : nI n ≤ 0) : n = 0 := by
  rw [Int32.le_iff_toInt_le, nI_toInt hn, Int32.toInt_zero] at h
  omega
theorem nI_pos0 {A q : Nat} (hn : A < 2 ^ 31) (h : ¬ nI (A - q) ≤ 0) : q < A := by
  rw [Int32.le_iff_toInt_le, nI_toInt (by omega), Int32.toInt_zero] at h
  omega
theorem nI_60 {n : Nat} (hn : n < 2 ^ 31) (h : (60 : Int32) ≤ nI n) : 60 ≤ n := by
  rw [Int32.le_iff_toInt_le, nI_toInt hn] at h
  have : (60 : Int32).toInt = 60 := by decide
  omega
theorem nI_60n {n : Nat} (hn : n < 2 ^ 31) (h : ¬ (60 : Int32) ≤ nI n) : n < 60 := by
  rw [Int32.le_iff_toInt_le, nI_toInt hn] at h
  have : (60 : Int32).toInt = 60 := by decide
  omega
theorem nI_ge0 {n : Nat} (hn : n < 2 ^ 31) : 0 ≤ nI n := by
  rw [Int32.le_iff_toInt_le, nI_toInt hn, Int32.toInt_zero]
  omega
set_option maxHeartbeats 4000000 in
set_option maxRecDepth 100000 in
theorem c_lampS (l : Launch) {g : Gm} (hI : IJ g (KK g)) {M : Mem} {o : Nat → Int64} {v : Vw} (hv : Inv v) (hL : SimL g v) (k : Nat) (hk : k < nS v) : MV l yX5_lamp cX5_lamp 6 (rm 0 0) g (KK g) (ent g (setR M 2 v) o) [.ref (ad g (20, 0, 0)), .ref (ad g (24, 2, k))] (ent g (setR M 2 (lur k v)) o) := by
  refine met_of (by decide +kernel) (Nat.le_of_ble_eq_true rfl) ?_
  intro p e s m below meth c ls hC hr_ hlk hnm hE hP hS hl
  obtain ⟨hx, hb, hml, hown, hG⟩ := id hC
  have hl : lv_has ls 6 [(0, .ref (ad g (20, 0, 0))), (1, .ref (ad g (24, 2, k)))] := hl
  have qH := hv.lH
  have qS := hv.lS
  have qW := hv.lW
  refine lv_aload_n hx hb dX5_lamp_0 rfl (lv_at hl 1 rfl) ?_
  refine lv_iconst (v := 2) hx hb dX5_lamp_1 (by decide) ?_
  refine m_iald hC hE hP (k_24 hL (by omega)) e_24 2 (rfl) (show 2 < 6 from by omega) (by decide) dX5_lamp_2 ?_
  refine m_top (y := v 8 k) rfl ?_
  refine lv_if_ge (tgt := 7) hx hb dX5_lamp_3 (by decide) (fun c0 => ?_) (fun c0 => ?_)
  · have h8 : ¬ v 8 k = -1 := fun z => absurd c0 (by rw [z]; decide)
    have hz := hol_of hv hk h8
    obtain ⟨t, ht5, et⟩ := (hv.hS k hk).2.1
    obtain ⟨a, ha9, ea⟩ := (hv.hH _ hz.2).1
    obtain ⟨b, hb9, eb⟩ := (hv.hH _ hz.2).2.1
    have eLA : lurA (hol v k) (v 7 k) v = lmp a b t 81 v := by unfold lurA cl lmp; rw [ea, eb, et, nI_clamp (by omega), nI_clamp (by omega)]
    refine lv_aload_n hx hb dX5_lamp_7 rfl (lv_at hl 0 rfl) ?_
    refine m_get hC hE hP (k_20 hL) e_20 rfl u_5 3 (by decide) w_655 rfl rfl dX5_lamp_8 ?_
    refine lv_aload_n hx hb dX5_lamp_11 rfl (lv_at hl 1 rfl) ?_
    refine lv_iconst (v := 2) hx hb dX5_lamp_12 (by decide) ?_
    refine m_iald hC hE hP (k_24 hL (by omega)) e_24 2 (rfl) (show 2 < 6 from by omega) (by decide) dX5_lamp_13 ?_
    refine m_top (y := v 8 k) rfl ?_
    refine m_aalA hC hE hP (k_27 hL) e_27 (hol v k) (hz.1) (Cn.rf.lH (by omega)) (Cn.rf.bH (by omega)) dX5_lamp_14 ?_
    refine lv_astore_n (lv' := [(2, .ref (ad g (23, 0, (hol v k)))), (0, .ref (ad g (20, 0, 0))), (1, .ref (ad g (24, 2, k)))]) hx hb dX5_lamp_15 rfl hl (by decide) rfl (fun ls hl => ?_)
    refine lv_aload_n hx hb dX5_lamp_16 rfl (lv_at hl 0 rfl) ?_
    refine lv_iconst (v := 1) hx hb dX5_lamp_17 (by decide) ?_
    refine m_iald hC hE hP (k_23 hL (by omega)) e_23 1 (rfl) (show 1 < 3 from by omega) (by decide) dX5_lamp_18 ?_
    refine m_top (y := v 4 (hol v k)) rfl ?_
    refine m_top (y := nI b) (eb) ?_
    refine lv_aload_n hx hb dX5_lamp_19 rfl (lv_at hl 2 rfl) ?_
    refine lv_iconst (v := 1) hx hb dX5_lamp_20 (by decide) ?_
    refine m_iald hC hE hP (k_24 hL (by omega)) e_24 1 (rfl) (show 1 < 6 from by omega) (by decide) dX5_lamp_21 ?_
    refine m_top (y := v 7 k) rfl ?_
    refine m_top (y := nI t) (et) ?_
    refine lv_isub hx hb dX5_lamp_22 ?_
    refine lv_istore_n (lv' := [(3, .int ((nI b) - (nI t))), (2, .ref (ad g (23, 0, (hol v k)))), (0, .ref (ad g (20, 0, 0))), (1, .ref (ad g (24, 2, k)))]) hx hb dX5_lamp_23 rfl hl (by decide) rfl (fun ls hl => ?_)
    refine lp_W (i0 := 0) (2 * t + 1) (fun j => ent g (setR M 2 (lmp a b t (9 * min 9 (b + j - t)) v)) o) (fun j => [(3, .int (nI (b + j) - nI t)), (2, .ref (ad g (23, 0, (hol v k)))), (0, .ref (ad g (20, 0, 0))), (1, .ref (ad g (24, 2, k)))]) (fun j => True) (Nat.zero_le _) (hP.castR (lmp_0 ha9 hb9 ht5)) hS (lv_sub hl [0, 1, 2, 3] rfl) (trivial) (fun H locs ls hP hS hl J => ?_) (fun j hj IHj H locs ls hP hS hl J => ?_)
    · refine lv_iload_n hx hb dX5_lamp_24 rfl (lv_at hl 0 rfl) ?_
      refine lv_aload_n hx hb dX5_lamp_25 rfl (lv_at hl 1 rfl) ?_
      refine lv_iconst (v := 1) hx hb dX5_lamp_26 (by decide) ?_
      refine m_iald hC hE hP (k_23 hL (by omega)) e_23 1 (rfl) (show 1 < 3 from by omega) (by decide) dX5_lamp_27 ?_
      refine m_top (y := (lmp a b t (9 * min 9 (b + (2 * t + 1) - t)) v) 4 (hol v k)) rfl ?_
      refine m_top (y := nI b) ((lmp_keep (by decide)).trans eb) ?_
      refine lv_aload_n hx hb dX5_lamp_28 rfl (lv_at hl 3 rfl) ?_
      refine lv_iconst (v := 1) hx hb dX5_lamp_29 (by decide) ?_
      refine m_iald hC hE hP (k_24 hL (by omega)) e_24 1 (rfl) (show 1 < 6 from by omega) (by decide) dX5_lamp_30 ?_
      refine m_top (y := (lmp a b t (9 * min 9 (b + (2 * t + 1) - t)) v) 7 k) rfl ?_
      refine m_top (y := nI t) ((lmp_keep (by decide)).trans et) ?_
      refine lv_iadd hx hb dX5_lamp_31 ?_
      refine lv_icmp_gt (tgt := 181) hx hb dX5_lamp_32 (by decide) (fun c1 => ?_) (fun c1 => absurd (sub_gt ⟨ht5, hb9⟩) c1)
      exact m_vret hC hr_ hlk hS (hP.castR ((if_neg h8).trans (eLA.trans (lmp_end ha9 hb9 ht5).symm))) dX5_lamp_181
    · refine lv_iload_n hx hb dX5_lamp_24 rfl (lv_at hl 0 rfl) ?_
      refine lv_aload_n hx hb dX5_lamp_25 rfl (lv_at hl 1 rfl) ?_
      refine lv_iconst (v := 1) hx hb dX5_lamp_26 (by decide) ?_
      refine m_iald hC hE hP (k_23 hL (by omega)) e_23 1 (rfl) (show 1 < 3 from by omega) (by decide) dX5_lamp_27 ?_
      refine m_top (y := (lmp a b t (9 * min 9 (b + j - t)) v) 4 (hol v k)) rfl ?_
      refine m_top (y := nI b) ((lmp_keep (by decide)).trans eb) ?_
      refine lv_aload_n hx hb dX5_lamp_28 rfl (lv_at hl 3 rfl) ?_
      refine lv_iconst (v := 1) hx hb dX5_lamp_29 (by decide) ?_
      refine m_iald hC hE hP (k_24 hL (by omega)) e_24 1 (rfl) (show 1 < 6 from by omega) (by decide) dX5_lamp_30 ?_
      refine m_top (y := (lmp a b t (9 * min 9 (b + j - t)) v) 7 k) rfl ?_
      refine m_top (y := nI t) ((lmp_keep (by decide)).trans et) ?_
      refine lv_iadd hx hb dX5_lamp_31 ?_
      refine lv_icmp_gt (tgt := 181) hx hb dX5_lamp_32 (by decide) (fun c2 => absurd c2 (sub_ng ⟨ht5, hb9⟩ hj)) (fun c2 => ?_)
      refine lv_aload_n hx hb dX5_lamp_35 rfl (lv_at hl 1 rfl) ?_
      refine lv_iconst (v := 0) hx hb dX5_lamp_36 (by decide) ?_
      refine m_iald hC hE hP (k_23 hL (by omega)) e_23 0 (rfl) (show 0 < 3 from by omega) (by decide) dX5_lamp_37 ?_
      refine m_top (y := (lmp a b t (9 * min 9 (b + j - t)) v) 3 (hol v k)) rfl ?_
      refine m_top (y := nI a) ((lmp_keep (by decide)).trans ea) ?_
      refine lv_aload_n hx hb dX5_lamp_38 rfl (lv_at hl 3 rfl) ?_
      refine lv_iconst (v := 1) hx hb dX5_lamp_39 (by decide) ?_
      refine m_iald hC hE hP (k_24 hL (by omega)) e_24 1 (rfl) (show 1 < 6 from by omega) (by decide) dX5_lamp_40 ?_
      refine m_top (y := (lmp a b t (9 * min 9 (b + j - t)) v) 7 k) rfl ?_
      refine m_top (y := nI t) ((lmp_keep (by decide)).trans et) ?_
      refine lv_isub hx hb dX5_lamp_41 ?_
      refine lv_istore (lv' := [(4, .int ((nI a) - (nI t))), (3, .int (nI (b + j) - nI t)), (2, .ref (ad g (23, 0, (hol v k)))), (0, .ref (ad g (20, 0, 0))), (1, .ref (ad g (24, 2, k)))]) hx hb dX5_lamp_42 hl (by decide) rfl (fun ls hl => ?_)
      refine lp_W (i0 := 0) (2 * t + 1) (fun i => ent g (setR M 2 (lmp a b t (lpos a b t j i) v)) o) (fun i => [(4, .int (nI (a + i) - nI t)), (3, .int (nI (b + j) - nI t)), (2, .ref (ad g (23, 0, (hol v k)))), (0, .ref (ad g (20, 0, 0))), (1, .ref (ad g (24, 2, k)))]) (fun i => True) (Nat.zero_le _) (hP.castR (lmp_in ha9 hb9 ht5)) hS (lv_sub hl [0, 1, 2, 3, 4] rfl) (trivial) (fun H locs ls hP hS hl J => ?_) (fun i hi IH H locs ls hP hS hl J => ?_)
      · refine lv_iload hx hb dX5_lamp_44 (lv_at hl 0 rfl) ?_
        refine lv_aload_n hx hb dX5_lamp_46 rfl (lv_at hl 2 rfl) ?_
        refine lv_iconst (v := 0) hx hb dX5_lamp_47 (by decide) ?_
        refine m_iald hC hE hP (k_23 hL (by omega)) e_23 0 (rfl) (show 0 < 3 from by omega) (by decide) dX5_lamp_48 ?_
        refine m_top (y := (lmp a b t (lpos a b t j (2 * t + 1)) v) 3 (hol v k)) rfl ?_
        refine m_top (y := nI a) ((lmp_keep (by decide)).trans ea) ?_
        refine lv_aload_n hx hb dX5_lamp_49 rfl (lv_at hl 4 rfl) ?_
        refine lv_iconst (v := 1) hx hb dX5_lamp_50 (by decide) ?_
        refine m_iald hC hE hP (k_24 hL (by omega)) e_24 1 (rfl) (show 1 < 6 from by omega) (by decide) dX5_lamp_51 ?_
        refine m_top (y := (lmp a b t (lpos a b t j (2 * t + 1)) v) 7 k) rfl ?_
        refine m_top (y := nI t) ((lmp_keep (by decide)).trans et) ?_
        refine lv_iadd hx hb dX5_lamp_52 ?_
        refine lv_icmp_gt (tgt := 175) hx hb dX5_lamp_53 (by decide) (fun c3 => ?_) (fun c3 => absurd (sub_gt ⟨ht5, ha9⟩) c3)
        refine lv_iinc (v := nI (b + (j + 1)) - nI t) (lv' := [(3, .int (nI (b + (j + 1)) - nI t)), (4, .int (nI (a + (2 * t + 1)) - nI t)), (2, .ref (ad g (23, 0, (hol v k)))), (0, .ref (ad g (20, 0, 0))), (1, .ref (ad g (24, 2, k)))]) hx hb dX5_lamp_175 hl (k := 1) rfl (sub_inc) (by decide) rfl (fun ls hl => ?_)
        refine lv_goto (tgt := 24) hx hb dX5_lamp_178 (by decide) ?_
        exact IHj H locs ls (hP.castR ((lmp_out ha9 hb9 ht5 hj).symm)) hS (lv_sub hl [0, 2, 3, 4] rfl) (trivial)
      · refine lv_iload hx hb dX5_lamp_44 (lv_at hl 0 rfl) ?_
        refine lv_aload_n hx hb dX5_lamp_46 rfl (lv_at hl 2 rfl) ?_
        refine lv_iconst (v := 0) hx hb dX5_lamp_47 (by decide) ?_
        refine m_iald hC hE hP (k_23 hL (by omega)) e_23 0 (rfl) (show 0 < 3 from by omega) (by decide) dX5_lamp_48 ?_
        refine m_top (y := (lmp a b t (lpos a b t j i) v) 3 (hol v k)) rfl ?_
        refine m_top (y := nI a) ((lmp_keep (by decide)).trans ea) ?_
        refine lv_aload_n hx hb dX5_lamp_49 rfl (lv_at hl 4 rfl) ?_
        refine lv_iconst (v := 1) hx hb dX5_lamp_50 (by decide) ?_
        refine m_iald hC hE hP (k_24 hL (by omega)) e_24 1 (rfl) (show 1 < 6 from by omega) (by decide) dX5_lamp_51 ?_
        refine m_top (y := (lmp a b t (lpos a b t j i) v) 7 k) rfl ?_
        refine m_top (y := nI t) ((lmp_keep (by decide)).trans et) ?_
        refine lv_iadd hx hb dX5_lamp_52 ?_
        refine lv_icmp_gt (tgt := 175) hx hb dX5_lamp_53 (by decide) (fun c4 => absurd c4 (sub_ng ⟨ht5, ha9⟩ hi)) (fun c4 => ?_)
        refine lv_iload hx hb dX5_lamp_56 (lv_at hl 0 rfl) ?_
        refine lv_if_lt (tgt := 169) hx hb dX5_lamp_58 (by decide) (fun d2 => ?_) (fun d2 => ?_)
        · refine lv_iinc (v := nI (a + (i + 1)) - nI t) (lv' := [(4, .int (nI (a + (i + 1)) - nI t)), (3, .int (nI (b + j) - nI t)), (2, .ref (ad g (23, 0, (hol v k)))), (0, .ref (ad g (20, 0, 0))), (1, .ref (ad g (24, 2, k)))]) hx hb dX5_lamp_169 hl (k := 0) rfl (sub_inc) (by decide) rfl (fun ls hl => ?_)
          refine lv_goto (tgt := 44) hx hb dX5_lamp_172 (by decide) ?_
          exact IH H locs ls (hP.castR (lmp_no (Or.inr (Or.inr (Or.inl ((sub_0 (by omega) (by omega)).mp d2)))))) hS (lv_sub hl [0, 1, 2, 3, 4] rfl) (trivial)
        · have d2 : t ≤ a + i := Nat.not_lt.mp (fun z => absurd ((sub_0 (by omega) (by omega)).mpr z) d2)
          refine lv_iload_n hx hb dX5_lamp_61 rfl (lv_at hl 1 rfl) ?_
          refine lv_if_lt (tgt := 169) hx hb dX5_lamp_62 (by decide) (fun d3 => ?_) (fun d3 => ?_)
          · refine lv_iinc (v := nI (a + (i + 1)) - nI t) (lv' := [(4, .int (nI (a + (i + 1)) - nI t)), (3, .int (nI (b + j) - nI t)), (2, .ref (ad g (23, 0, (hol v k)))), (0, .ref (ad g (20, 0, 0))), (1, .ref (ad g (24, 2, k)))]) hx hb dX5_lamp_169 hl (k := 0) rfl (sub_inc) (by decide) rfl (fun ls hl => ?_)
            refine lv_goto (tgt := 44) hx hb dX5_lamp_172 (by decide) ?_
            exact IH H locs ls (hP.castR (lmp_no (Or.inl ((sub_0 (by omega) (by omega)).mp d3)))) hS (lv_sub hl [0, 1, 2, 3, 4] rfl) (trivial)
          · have d3 : t ≤ b + j := Nat.not_lt.mp (fun z => absurd ((sub_0 (by omega) (by omega)).mpr z) d3)
            refine lv_iload hx hb dX5_lamp_65 (lv_at hl 0 rfl) ?_
            refine lv_bipush (v := 8) hx hb dX5_lamp_67 (by decide) ?_
            refine lv_icmp_gt (tgt := 169) hx hb dX5_lamp_69 (by decide) (fun d4 => ?_) (fun d4 => ?_)
            · refine lv_iinc (v := nI (a + (i + 1)) - nI t) (lv' := [(4, .int (nI (a + (i + 1)) - nI t)), (3, .int (nI (b + j) - nI t)), (2, .ref (ad g (23, 0, (hol v k)))), (0, .ref (ad g (20, 0, 0))), (1, .ref (ad g (24, 2, k)))]) hx hb dX5_lamp_169 hl (k := 0) rfl (sub_inc) (by decide) rfl (fun ls hl => ?_)
              refine lv_goto (tgt := 44) hx hb dX5_lamp_172 (by decide) ?_
              exact IH H locs ls (hP.castR (lmp_no (Or.inr (Or.inr (Or.inr ((sub_8 (by omega) (by omega)).mp d4)))))) hS (lv_sub hl [0, 1, 2, 3, 4] rfl) (trivial)
            · have d4 : ¬ 8 + t < a + i := fun z => absurd ((sub_8 (by omega) (by omega)).mpr z) d4
              refine lv_iload_n hx hb dX5_lamp_72 rfl (lv_at hl 1 rfl) ?_
              refine lv_bipush (v := 8) hx hb dX5_lamp_73 (by decide) ?_
              refine lv_icmp_gt (tgt := 169) hx hb dX5_lamp_75 (by decide) (fun d5 => ?_) (fun d5 => ?_)
              · refine lv_iinc (v := nI (a + (i + 1)) - nI t) (lv' := [(4, .int (nI (a + (i + 1)) - nI t)), (3, .int (nI (b + j) - nI t)), (2, .ref (ad g (23, 0, (hol v k)))), (0, .ref (ad g (20, 0, 0))), (1, .ref (ad g (24, 2, k)))]) hx hb dX5_lamp_169 hl (k := 0) rfl (sub_inc) (by decide) rfl (fun ls hl => ?_)
                refine lv_goto (tgt := 44) hx hb dX5_lamp_172 (by decide) ?_
                exact IH H locs ls (hP.castR (lmp_no (Or.inr (Or.inl ((sub_8 (by omega) (by omega)).mp d5))))) hS (lv_sub hl [0, 1, 2, 3, 4] rfl) (trivial)
              · have d5 : ¬ 8 + t < b + j := fun z => absurd ((sub_8 (by omega) (by omega)).mpr z) d5
                refine lv_iload hx hb dX5_lamp_78 (lv_at hl 0 rfl) ?_
                refine lv_aload_n hx hb dX5_lamp_80 rfl (lv_at hl 2 rfl) ?_
                refine lv_iconst (v := 0) hx hb dX5_lamp_81 (by decide) ?_
                refine m_iald hC hE hP (k_23 hL (by omega)) e_23 0 (rfl) (show 0 < 3 from by omega) (by decide) dX5_lamp_82 ?_
                refine m_top (y := (lmp a b t (lpos a b t j i) v) 3 (hol v k)) rfl ?_
                refine m_top (y := nI a) ((lmp_keep (by decide)).trans ea) ?_
                refine lv_icmp_ne (tgt := 96) hx hb dX5_lamp_83 (by decide) (fun d6 => ?_) (fun d6 => ?_)
                · have hno : ¬ (a + i - t = a ∧ b + j - t = b) := fun z => d6 ((sub_eq d2 (by omega)).trans (by rw [z.1]))
                  have hne : (9 * (b + j - t) + (a + i - t)) ≠ (9 * b + a) := fun z => hno (by omega)
                  have hu := lmp_inv (t := t) (n := lpos a b t j i) ha9 hb9 hv (by have := (lpos_in d3 d5 d2 d4).1; omega)
                  obtain ⟨A, hA60, eA⟩ := hu.hC (9 * (b + j - t) + (a + i - t)) (by omega)
                  obtain ⟨B, hB60, eB⟩ := hu.hC (9 * b + a) (by omega)
                  refine lv_iconst (v := 0) hx hb dX5_lamp_96 (by decide) ?_
                  refine lv_istore (lv' := [(5, .int ((0 : Int32))), (4, .int (nI (a + i) - nI t)), (3, .int (nI (b + j) - nI t)), (2, .ref (ad g (23, 0, (hol v k)))), (0, .ref (ad g (20, 0, 0))), (1, .ref (ad g (24, 2, k)))]) hx hb dX5_lamp_97 hl (by decide) rfl (fun ls hl => ?_)
                  refine lp_W (i0 := 0) 2 (fun q => ent g (setR M 2 (mvq (lmp a b t (lpos a b t j i) v) (9 * (b + j - t) + (a + i - t)) (9 * b + a) A B q)) o) (fun q => [(5, .int (nI q)), (4, .int (nI (a + i) - nI t)), (3, .int (nI (b + j) - nI t)), (2, .ref (ad g (23, 0, (hol v k)))), (0, .ref (ad g (20, 0, 0))), (1, .ref (ad g (24, 2, k)))]) (fun q => q ≤ A ∧ B + q ≤ 60) (Nat.zero_le _) (hP.castR ((mvq_0 hne eA eB).symm)) hS (lv_sub hl [0, 1, 2, 3, 4, 5] rfl) (⟨Nat.zero_le _, by omega⟩) (fun H locs ls hP hS hl J => ?_) (fun q hq IHq H locs ls hP hS hl J => ?_)
                  · refine lv_iload hx hb dX5_lamp_99 (lv_at hl 0 rfl) ?_
                    refine lv_iconst (v := 2) hx hb dX5_lamp_101 (by decide) ?_
                    refine lv_icmp_ge (tgt := 169) hx hb dX5_lamp_102 (by decide) (fun c5 => ?_) (fun c5 => absurd (by decide) c5)
                    refine lv_iinc (v := nI (a + (i + 1)) - nI t) (lv' := [(4, .int (nI (a + (i + 1)) - nI t)), (5, .int (nI 2)), (3, .int (nI (b + j) - nI t)), (2, .ref (ad g (23, 0, (hol v k)))), (0, .ref (ad g (20, 0, 0))), (1, .ref (ad g (24, 2, k)))]) hx hb dX5_lamp_169 hl (k := 1) rfl (sub_inc) (by decide) rfl (fun ls hl => ?_)
                    refine lv_goto (tgt := 44) hx hb dX5_lamp_172 (by decide) ?_
                    exact IH H locs ls (hP.castR ((lmp_mv ha9 hb9 ht5 hj hi d3 d5 d2 d4 hno).trans (mvq_e hne hA60 hB60 eA eB (by omega)))) hS (lv_sub hl [0, 2, 3, 4, 5] rfl) (trivial)
                  · refine lv_iload hx hb dX5_lamp_99 (lv_at hl 0 rfl) ?_
                    refine lv_iconst (v := 2) hx hb dX5_lamp_101 (by decide) ?_
                    refine lv_icmp_ge (tgt := 169) hx hb dX5_lamp_102 (by decide) (fun c6 => absurd c6 (nI_ge (b := 2) hq (by decide))) (fun c6 => ?_)
                    refine lv_aload_n hx hb dX5_lamp_105 rfl (lv_at hl 4 rfl) ?_
                    refine m_get hC hE hP (k_20 hL) e_20 rfl u_5 0 (by decide) w_649 rfl rfl dX5_lamp_106 ?_
                    refine lv_iload hx hb dX5_lamp_109 (lv_at hl 1 rfl) ?_
                    refine m_aalA hC hE hP (k_26 hL (by decide)) f_26 (a + i - t) (sub_eq d2 (by omega)) (show (a + i - t) < 9 from by omega) (by decide) dX5_lamp_111 ?_
                    refine lv_iload_n hx hb dX5_lamp_112 rfl (lv_at hl 2 rfl) ?_
                    refine m_iald hC hE hP (k_21 hL (by decide) (by omega)) e_21 (b + j - t) (sub_eq d3 (by omega)) (show (b + j - t) < 9 from by omega) (by decide) dX5_lamp_113 ?_
                    refine m_top (y := (mvq (lmp a b t (lpos a b t j i) v) (9 * (b + j - t) + (a + i - t)) (9 * b + a) A B q) 0 (9 * (b + j - t) + (a + i - t))) rfl ?_
                    refine m_top (y := nI (A - q)) (mvq_c hne) ?_
                    refine lv_if_le (tgt := 169) hx hb dX5_lamp_114 (by decide) (fun d8 => ?_) (fun d8 => ?_)
                    · refine lv_iinc (v := nI (a + (i + 1)) - nI t) (lv' := [(4, .int (nI (a + (i + 1)) - nI t)), (5, .int (nI q)), (3, .int (nI (b + j) - nI t)), (2, .ref (ad g (23, 0, (hol v k)))), (0, .ref (ad g (20, 0, 0))), (1, .ref (ad g (24, 2, k)))]) hx hb dX5_lamp_169 hl (k := 1) rfl (sub_inc) (by decide) rfl (fun ls hl => ?_)
                      refine lv_goto (tgt := 44) hx hb dX5_lamp_172 (by decide) ?_
                      exact IH H locs ls (hP.castR ((lmp_mv ha9 hb9 ht5 hj hi d3 d5 d2 d4 hno).trans (mvq_e hne hA60 hB60 eA eB (by have := nI_le0 (by omega) d8; omega)))) hS (lv_sub hl [0, 2, 3, 4, 5] rfl) (trivial)
                    · have hA1 : q < A := nI_pos0 (by omega) d8
                      refine lv_aload_n hx hb dX5_lamp_117 rfl (lv_at hl 4 rfl) ?_
                      refine m_get hC hE hP (k_20 hL) e_20 rfl u_5 0 (by decide) w_649 rfl rfl dX5_lamp_118 ?_
                      refine lv_aload_n hx hb dX5_lamp_121 rfl (lv_at hl 3 rfl) ?_
                      refine lv_iconst (v := 0) hx hb dX5_lamp_122 (by decide) ?_
                      refine m_iald hC hE hP (k_23 hL (by omega)) e_23 0 (rfl) (show 0 < 3 from by omega) (by decide) dX5_lamp_123 ?_
                      refine m_top (y := (mvq (lmp a b t (lpos a b t j i) v) (9 * (b + j - t) + (a + i - t)) (9 * b + a) A B q) 3 (hol v k)) rfl ?_
                      refine m_top (y := nI a) ((mvq_ne (by decide)).trans ((lmp_keep (by decide)).trans ea)) ?_
                      refine m_aalA hC hE hP (k_26 hL (by decide)) f_26 a (rfl) (show a < 9 from by omega) (by decide) dX5_lamp_124 ?_
                      refine lv_aload_n hx hb dX5_lamp_125 rfl (lv_at hl 3 rfl) ?_
                      refine lv_iconst (v := 1) hx hb dX5_lamp_126 (by decide) ?_
                      refine m_iald hC hE hP (k_23 hL (by omega)) e_23 1 (rfl) (show 1 < 3 from by omega) (by decide) dX5_lamp_127 ?_
                      refine m_top (y := (mvq (lmp a b t (lpos a b t j i) v) (9 * (b + j - t) + (a + i - t)) (9 * b + a) A B q) 4 (hol v k)) rfl ?_
                      refine m_top (y := nI b) ((mvq_ne (by decide)).trans ((lmp_keep (by decide)).trans eb)) ?_
                      refine m_iald hC hE hP (k_21 hL (by decide) (by omega)) e_21 b (rfl) (show b < 9 from by omega) (by decide) dX5_lamp_128 ?_
                      refine m_top (y := (mvq (lmp a b t (lpos a b t j i) v) (9 * (b + j - t) + (a + i - t)) (9 * b + a) A B q) 0 (9 * b + a)) rfl ?_
                      refine m_top (y := nI (B + q)) (mvq_o) ?_
                      refine lv_bipush (v := 60) hx hb dX5_lamp_129 (by decide) ?_
                      refine lv_icmp_ge (tgt := 169) hx hb dX5_lamp_131 (by decide) (fun d9 => ?_) (fun d9 => ?_)
                      · refine lv_iinc (v := nI (a + (i + 1)) - nI t) (lv' := [(4, .int (nI (a + (i + 1)) - nI t)), (5, .int (nI q)), (3, .int (nI (b + j) - nI t)), (2, .ref (ad g (23, 0, (hol v k)))), (0, .ref (ad g (20, 0, 0))), (1, .ref (ad g (24, 2, k)))]) hx hb dX5_lamp_169 hl (k := 1) rfl (sub_inc) (by decide) rfl (fun ls hl => ?_)
                        refine lv_goto (tgt := 44) hx hb dX5_lamp_172 (by decide) ?_
                        exact IH H locs ls (hP.castR ((lmp_mv ha9 hb9 ht5 hj hi d3 d5 d2 d4 hno).trans (mvq_e hne hA60 hB60 eA eB (by have := nI_60 (by omega) d9; omega)))) hS (lv_sub hl [0, 2, 3, 4, 5] rfl) (trivial)
                      · have hB1 : B + q < 60 := nI_60n (by omega) d9
                        refine lv_aload_n hx hb dX5_lamp_134 rfl (lv_at hl 4 rfl) ?_
                        refine m_get hC hE hP (k_20 hL) e_20 rfl u_5 0 (by decide) w_649 rfl rfl dX5_lamp_135 ?_
                        refine lv_iload hx hb dX5_lamp_138 (lv_at hl 1 rfl) ?_
                        refine m_aalA hC hE hP (k_26 hL (by decide)) f_26 (a + i - t) (sub_eq d2 (by omega)) (show (a + i - t) < 9 from by omega) (by decide) dX5_lamp_140 ?_
                        refine lv_iload_n hx hb dX5_lamp_141 rfl (lv_at hl 2 rfl) ?_
                        refine lv_dup2_11 hx hb dX5_lamp_142 rfl rfl ?_
                        refine m_iald hC hE hP (k_21 hL (by decide) (by omega)) e_21 (b + j - t) (sub_eq d3 (by omega)) (show (b + j - t) < 9 from by omega) (by decide) dX5_lamp_143 ?_
                        refine m_top (y := (mvq (lmp a b t (lpos a b t j i) v) (9 * (b + j - t) + (a + i - t)) (9 * b + a) A B q) 0 (9 * (b + j - t) + (a + i - t))) rfl ?_
                        refine m_top (y := nI (A - q)) (mvq_c hne) ?_
                        refine lv_iconst (v := 1) hx hb dX5_lamp_144 (by decide) ?_
                        refine lv_isub hx hb dX5_lamp_145 ?_
                        refine m_iast hC hE hI hP hS (k_21 hL (by decide) (by omega)) e_21 (b + j - t) (sub_eq d3 (by omega)) (show (b + j - t) < 9 from by omega) (by decide) (p_21 (by omega)) (ent_put g M 2 (mvq (lmp a b t (lpos a b t j i) v) (9 * (b + j - t) + (a + i - t)) (9 * b + a) A B q) o 0 (9 * (b + j - t) + (a + i - t)) ((nI (A - q)) - (1 : Int32)) (kf_21 (by decide) (by omega))) dX5_lamp_146 (fun H locs hP hS => ?_)
                        refine lv_aload_n hx hb dX5_lamp_147 rfl (lv_at hl 4 rfl) ?_
                        refine m_get hC hE hP (k_20 hL) e_20 rfl u_5 0 (by decide) w_649 rfl rfl dX5_lamp_148 ?_
                        refine lv_aload_n hx hb dX5_lamp_151 rfl (lv_at hl 3 rfl) ?_
                        refine lv_iconst (v := 0) hx hb dX5_lamp_152 (by decide) ?_
                        refine m_iald hC hE hP (k_23 hL (by omega)) e_23 0 (rfl) (show 0 < 3 from by omega) (by decide) dX5_lamp_153 ?_
                        refine m_top (y := (up2 (mvq (lmp a b t (lpos a b t j i) v) (9 * (b + j - t) + (a + i - t)) (9 * b + a) A B q) 0 (9 * (b + j - t) + (a + i - t)) ((nI (A - q)) - (1 : Int32))) 3 (hol v k)) rfl ?_
                        refine m_top (y := nI a) ((up2_c (by decide)).trans ((mvq_ne (by decide)).trans ((lmp_keep (by decide)).trans ea))) ?_
                        refine m_aalA hC hE hP (k_26 hL (by decide)) f_26 a (rfl) (show a < 9 from by omega) (by decide) dX5_lamp_154 ?_
                        refine lv_aload_n hx hb dX5_lamp_155 rfl (lv_at hl 3 rfl) ?_
                        refine lv_iconst (v := 1) hx hb dX5_lamp_156 (by decide) ?_
                        refine m_iald hC hE hP (k_23 hL (by omega)) e_23 1 (rfl) (show 1 < 3 from by omega) (by decide) dX5_lamp_157 ?_
                        refine m_top (y := (up2 (mvq (lmp a b t (lpos a b t j i) v) (9 * (b + j - t) + (a + i - t)) (9 * b + a) A B q) 0 (9 * (b + j - t) + (a + i - t)) ((nI (A - q)) - (1 : Int32))) 4 (hol v k)) rfl ?_
                        refine m_top (y := nI b) ((up2_c (by decide)).trans ((mvq_ne (by decide)).trans ((lmp_keep (by decide)).trans eb))) ?_
                        refine lv_dup2_11 hx hb dX5_lamp_158 rfl rfl ?_
                        refine m_iald hC hE hP (k_21 hL (by decide) (by omega)) e_21 b (rfl) (show b < 9 from by omega) (by decide) dX5_lamp_159 ?_
                        refine m_top (y := (up2 (mvq (lmp a b t (lpos a b t j i) v) (9 * (b + j - t) + (a + i - t)) (9 * b + a) A B q) 0 (9 * (b + j - t) + (a + i - t)) ((nI (A - q)) - (1 : Int32))) 0 (9 * b + a)) rfl ?_
                        refine m_top (y := nI (B + q)) ((up2_i (Ne.symm hne)).trans mvq_o) ?_
                        refine lv_iconst (v := 1) hx hb dX5_lamp_160 (by decide) ?_
                        refine lv_iadd hx hb dX5_lamp_161 ?_
                        refine m_iast hC hE hI hP hS (k_21 hL (by decide) (by omega)) e_21 b (rfl) (show b < 9 from by omega) (by decide) (p_21 (by omega)) (ent_put g M 2 (up2 (mvq (lmp a b t (lpos a b t j i) v) (9 * (b + j - t) + (a + i - t)) (9 * b + a) A B q) 0 (9 * (b + j - t) + (a + i - t)) ((nI (A - q)) - (1 : Int32))) o 0 (9 * b + a) ((nI (B + q)) + (1 : Int32)) (kf_21 (by decide) (by omega))) dX5_lamp_162 (fun H locs hP hS => ?_)
                        refine lv_iinc (v := nI (q + 1)) (lv' := [(5, .int (nI (q + 1))), (4, .int (nI (a + i) - nI t)), (3, .int (nI (b + j) - nI t)), (2, .ref (ad g (23, 0, (hol v k)))), (0, .ref (ad g (20, 0, 0))), (1, .ref (ad g (24, 2, k)))]) hx hb dX5_lamp_163 hl (k := 0) rfl (nI_1 _) (by decide) rfl (fun ls hl => ?_)
                        refine lv_goto (tgt := 99) hx hb dX5_lamp_166 (by decide) ?_
                        exact IHq H locs ls (hP.castR (mvq_s hne hA1 hA60)) hS (lv_sub hl [0, 1, 2, 3, 4, 5] rfl) (⟨by omega, by omega⟩)
                · refine lv_iload_n hx hb dX5_lamp_86 rfl (lv_at hl 1 rfl) ?_
                  refine lv_aload_n hx hb dX5_lamp_87 rfl (lv_at hl 2 rfl) ?_
                  refine lv_iconst (v := 1) hx hb dX5_lamp_88 (by decide) ?_
                  refine m_iald hC hE hP (k_23 hL (by omega)) e_23 1 (rfl) (show 1 < 3 from by omega) (by decide) dX5_lamp_89 ?_
                  refine m_top (y := (lmp a b t (lpos a b t j i) v) 4 (hol v k)) rfl ?_
                  refine m_top (y := nI b) ((lmp_keep (by decide)).trans eb) ?_
                  refine lv_icmp_ne (tgt := 96) hx hb dX5_lamp_90 (by decide) (fun d7 => ?_) (fun d7 => ?_)
                  · have hno : ¬ (a + i - t = a ∧ b + j - t = b) := fun z => d7 ((sub_eq d3 (by omega)).trans (by rw [z.2]))
                    have hne : (9 * (b + j - t) + (a + i - t)) ≠ (9 * b + a) := fun z => hno (by omega)
                    have hu := lmp_inv (t := t) (n := lpos a b t j i) ha9 hb9 hv (by have := (lpos_in d3 d5 d2 d4).1; omega)
                    obtain ⟨A, hA60, eA⟩ := hu.hC (9 * (b + j - t) + (a + i - t)) (by omega)
                    obtain ⟨B, hB60, eB⟩ := hu.hC (9 * b + a) (by omega)
                    refine lv_iconst (v := 0) hx hb dX5_lamp_96 (by decide) ?_
                    refine lv_istore (lv' := [(5, .int ((0 : Int32))), (4, .int (nI (a + i) - nI t)), (3, .int (nI (b + j) - nI t)), (2, .ref (ad g (23, 0, (hol v k)))), (0, .ref (ad g (20, 0, 0))), (1, .ref (ad g (24, 2, k)))]) hx hb dX5_lamp_97 hl (by decide) rfl (fun ls hl => ?_)
                    refine lp_W (i0 := 0) 2 (fun q => ent g (setR M 2 (mvq (lmp a b t (lpos a b t j i) v) (9 * (b + j - t) + (a + i - t)) (9 * b + a) A B q)) o) (fun q => [(5, .int (nI q)), (4, .int (nI (a + i) - nI t)), (3, .int (nI (b + j) - nI t)), (2, .ref (ad g (23, 0, (hol v k)))), (0, .ref (ad g (20, 0, 0))), (1, .ref (ad g (24, 2, k)))]) (fun q => q ≤ A ∧ B + q ≤ 60) (Nat.zero_le _) (hP.castR ((mvq_0 hne eA eB).symm)) hS (lv_sub hl [0, 1, 2, 3, 4, 5] rfl) (⟨Nat.zero_le _, by omega⟩) (fun H locs ls hP hS hl J => ?_) (fun q hq IHq H locs ls hP hS hl J => ?_)
                    · refine lv_iload hx hb dX5_lamp_99 (lv_at hl 0 rfl) ?_
                      refine lv_iconst (v := 2) hx hb dX5_lamp_101 (by decide) ?_
                      refine lv_icmp_ge (tgt := 169) hx hb dX5_lamp_102 (by decide) (fun c7 => ?_) (fun c7 => absurd (by decide) c7)
                      refine lv_iinc (v := nI (a + (i + 1)) - nI t) (lv' := [(4, .int (nI (a + (i + 1)) - nI t)), (5, .int (nI 2)), (3, .int (nI (b + j) - nI t)), (2, .ref (ad g (23, 0, (hol v k)))), (0, .ref (ad g (20, 0, 0))), (1, .ref (ad g (24, 2, k)))]) hx hb dX5_lamp_169 hl (k := 1) rfl (sub_inc) (by decide) rfl (fun ls hl => ?_)
                      refine lv_goto (tgt := 44) hx hb dX5_lamp_172 (by decide) ?_
                      exact IH H locs ls (hP.castR ((lmp_mv ha9 hb9 ht5 hj hi d3 d5 d2 d4 hno).trans (mvq_e hne hA60 hB60 eA eB (by omega)))) hS (lv_sub hl [0, 2, 3, 4, 5] rfl) (trivial)
                    · refine lv_iload hx hb dX5_lamp_99 (lv_at hl 0 rfl) ?_
                      refine lv_iconst (v := 2) hx hb dX5_lamp_101 (by decide) ?_
                      refine lv_icmp_ge (tgt := 169) hx hb dX5_lamp_102 (by decide) (fun c8 => absurd c8 (nI_ge (b := 2) hq (by decide))) (fun c8 => ?_)
                      refine lv_aload_n hx hb dX5_lamp_105 rfl (lv_at hl 4 rfl) ?_
                      refine m_get hC hE hP (k_20 hL) e_20 rfl u_5 0 (by decide) w_649 rfl rfl dX5_lamp_106 ?_
                      refine lv_iload hx hb dX5_lamp_109 (lv_at hl 1 rfl) ?_
                      refine m_aalA hC hE hP (k_26 hL (by decide)) f_26 (a + i - t) (sub_eq d2 (by omega)) (show (a + i - t) < 9 from by omega) (by decide) dX5_lamp_111 ?_
                      refine lv_iload_n hx hb dX5_lamp_112 rfl (lv_at hl 2 rfl) ?_
                      refine m_iald hC hE hP (k_21 hL (by decide) (by omega)) e_21 (b + j - t) (sub_eq d3 (by omega)) (show (b + j - t) < 9 from by omega) (by decide) dX5_lamp_113 ?_
                      refine m_top (y := (mvq (lmp a b t (lpos a b t j i) v) (9 * (b + j - t) + (a + i - t)) (9 * b + a) A B q) 0 (9 * (b + j - t) + (a + i - t))) rfl ?_
                      refine m_top (y := nI (A - q)) (mvq_c hne) ?_
                      refine lv_if_le (tgt := 169) hx hb dX5_lamp_114 (by decide) (fun d8 => ?_) (fun d8 => ?_)
                      · refine lv_iinc (v := nI (a + (i + 1)) - nI t) (lv' := [(4, .int (nI (a + (i + 1)) - nI t)), (5, .int (nI q)), (3, .int (nI (b + j) - nI t)), (2, .ref (ad g (23, 0, (hol v k)))), (0, .ref (ad g (20, 0, 0))), (1, .ref (ad g (24, 2, k)))]) hx hb dX5_lamp_169 hl (k := 1) rfl (sub_inc) (by decide) rfl (fun ls hl => ?_)
                        refine lv_goto (tgt := 44) hx hb dX5_lamp_172 (by decide) ?_
                        exact IH H locs ls (hP.castR ((lmp_mv ha9 hb9 ht5 hj hi d3 d5 d2 d4 hno).trans (mvq_e hne hA60 hB60 eA eB (by have := nI_le0 (by omega) d8; omega)))) hS (lv_sub hl [0, 2, 3, 4, 5] rfl) (trivial)
                      · have hA1 : q < A := nI_pos0 (by omega) d8
                        refine lv_aload_n hx hb dX5_lamp_117 rfl (lv_at hl 4 rfl) ?_
                        refine m_get hC hE hP (k_20 hL) e_20 rfl u_5 0 (by decide) w_649 rfl rfl dX5_lamp_118 ?_
                        refine lv_aload_n hx hb dX5_lamp_121 rfl (lv_at hl 3 rfl) ?_
                        refine lv_iconst (v := 0) hx hb dX5_lamp_122 (by decide) ?_
                        refine m_iald hC hE hP (k_23 hL (by omega)) e_23 0 (rfl) (show 0 < 3 from by omega) (by decide) dX5_lamp_123 ?_
                        refine m_top (y := (mvq (lmp a b t (lpos a b t j i) v) (9 * (b + j - t) + (a + i - t)) (9 * b + a) A B q) 3 (hol v k)) rfl ?_
                        refine m_top (y := nI a) ((mvq_ne (by decide)).trans ((lmp_keep (by decide)).trans ea)) ?_
                        refine m_aalA hC hE hP (k_26 hL (by decide)) f_26 a (rfl) (show a < 9 from by omega) (by decide) dX5_lamp_124 ?_
                        refine lv_aload_n hx hb dX5_lamp_125 rfl (lv_at hl 3 rfl) ?_
                        refine lv_iconst (v := 1) hx hb dX5_lamp_126 (by decide) ?_
                        refine m_iald hC hE hP (k_23 hL (by omega)) e_23 1 (rfl) (show 1 < 3 from by omega) (by decide) dX5_lamp_127 ?_
                        refine m_top (y := (mvq (lmp a b t (lpos a b t j i) v) (9 * (b + j - t) + (a + i - t)) (9 * b + a) A B q) 4 (hol v k)) rfl ?_
                        refine m_top (y := nI b) ((mvq_ne (by decide)).trans ((lmp_keep (by decide)).trans eb)) ?_
                        refine m_iald hC hE hP (k_21 hL (by decide) (by omega)) e_21 b (rfl) (show b < 9 from by omega) (by decide) dX5_lamp_128 ?_
                        refine m_top (y := (mvq (lmp a b t (lpos a b t j i) v) (9 * (b + j - t) + (a + i - t)) (9 * b + a) A B q) 0 (9 * b + a)) rfl ?_
                        refine m_top (y := nI (B + q)) (mvq_o) ?_
                        refine lv_bipush (v := 60) hx hb dX5_lamp_129 (by decide) ?_
                        refine lv_icmp_ge (tgt := 169) hx hb dX5_lamp_131 (by decide) (fun d9 => ?_) (fun d9 => ?_)
                        · refine lv_iinc (v := nI (a + (i + 1)) - nI t) (lv' := [(4, .int (nI (a + (i + 1)) - nI t)), (5, .int (nI q)), (3, .int (nI (b + j) - nI t)), (2, .ref (ad g (23, 0, (hol v k)))), (0, .ref (ad g (20, 0, 0))), (1, .ref (ad g (24, 2, k)))]) hx hb dX5_lamp_169 hl (k := 1) rfl (sub_inc) (by decide) rfl (fun ls hl => ?_)
                          refine lv_goto (tgt := 44) hx hb dX5_lamp_172 (by decide) ?_
                          exact IH H locs ls (hP.castR ((lmp_mv ha9 hb9 ht5 hj hi d3 d5 d2 d4 hno).trans (mvq_e hne hA60 hB60 eA eB (by have := nI_60 (by omega) d9; omega)))) hS (lv_sub hl [0, 2, 3, 4, 5] rfl) (trivial)
                        · have hB1 : B + q < 60 := nI_60n (by omega) d9
                          refine lv_aload_n hx hb dX5_lamp_134 rfl (lv_at hl 4 rfl) ?_
                          refine m_get hC hE hP (k_20 hL) e_20 rfl u_5 0 (by decide) w_649 rfl rfl dX5_lamp_135 ?_
                          refine lv_iload hx hb dX5_lamp_138 (lv_at hl 1 rfl) ?_
                          refine m_aalA hC hE hP (k_26 hL (by decide)) f_26 (a + i - t) (sub_eq d2 (by omega)) (show (a + i - t) < 9 from by omega) (by decide) dX5_lamp_140 ?_
                          refine lv_iload_n hx hb dX5_lamp_141 rfl (lv_at hl 2 rfl) ?_
                          refine lv_dup2_11 hx hb dX5_lamp_142 rfl rfl ?_
                          refine m_iald hC hE hP (k_21 hL (by decide) (by omega)) e_21 (b + j - t) (sub_eq d3 (by omega)) (show (b + j - t) < 9 from by omega) (by decide) dX5_lamp_143 ?_
                          refine m_top (y := (mvq (lmp a b t (lpos a b t j i) v) (9 * (b + j - t) + (a + i - t)) (9 * b + a) A B q) 0 (9 * (b + j - t) + (a + i - t))) rfl ?_
                          refine m_top (y := nI (A - q)) (mvq_c hne) ?_
                          refine lv_iconst (v := 1) hx hb dX5_lamp_144 (by decide) ?_
                          refine lv_isub hx hb dX5_lamp_145 ?_
                          refine m_iast hC hE hI hP hS (k_21 hL (by decide) (by omega)) e_21 (b + j - t) (sub_eq d3 (by omega)) (show (b + j - t) < 9 from by omega) (by decide) (p_21 (by omega)) (ent_put g M 2 (mvq (lmp a b t (lpos a b t j i) v) (9 * (b + j - t) + (a + i - t)) (9 * b + a) A B q) o 0 (9 * (b + j - t) + (a + i - t)) ((nI (A - q)) - (1 : Int32)) (kf_21 (by decide) (by omega))) dX5_lamp_146 (fun H locs hP hS => ?_)
                          refine lv_aload_n hx hb dX5_lamp_147 rfl (lv_at hl 4 rfl) ?_
                          refine m_get hC hE hP (k_20 hL) e_20 rfl u_5 0 (by decide) w_649 rfl rfl dX5_lamp_148 ?_
                          refine lv_aload_n hx hb dX5_lamp_151 rfl (lv_at hl 3 rfl) ?_
                          refine lv_iconst (v := 0) hx hb dX5_lamp_152 (by decide) ?_
                          refine m_iald hC hE hP (k_23 hL (by omega)) e_23 0 (rfl) (show 0 < 3 from by omega) (by decide) dX5_lamp_153 ?_
                          refine m_top (y := (up2 (mvq (lmp a b t (lpos a b t j i) v) (9 * (b + j - t) + (a + i - t)) (9 * b + a) A B q) 0 (9 * (b + j - t) + (a + i - t)) ((nI (A - q)) - (1 : Int32))) 3 (hol v k)) rfl ?_
                          refine m_top (y := nI a) ((up2_c (by decide)).trans ((mvq_ne (by decide)).trans ((lmp_keep (by decide)).trans ea))) ?_
                          refine m_aalA hC hE hP (k_26 hL (by decide)) f_26 a (rfl) (show a < 9 from by omega) (by decide) dX5_lamp_154 ?_
                          refine lv_aload_n hx hb dX5_lamp_155 rfl (lv_at hl 3 rfl) ?_
                          refine lv_iconst (v := 1) hx hb dX5_lamp_156 (by decide) ?_
                          refine m_iald hC hE hP (k_23 hL (by omega)) e_23 1 (rfl) (show 1 < 3 from by omega) (by decide) dX5_lamp_157 ?_
                          refine m_top (y := (up2 (mvq (lmp a b t (lpos a b t j i) v) (9 * (b + j - t) + (a + i - t)) (9 * b + a) A B q) 0 (9 * (b + j - t) + (a + i - t)) ((nI (A - q)) - (1 : Int32))) 4 (hol v k)) rfl ?_
                          refine m_top (y := nI b) ((up2_c (by decide)).trans ((mvq_ne (by decide)).trans ((lmp_keep (by decide)).trans eb))) ?_
                          refine lv_dup2_11 hx hb dX5_lamp_158 rfl rfl ?_
                          refine m_iald hC hE hP (k_21 hL (by decide) (by omega)) e_21 b (rfl) (show b < 9 from by omega) (by decide) dX5_lamp_159 ?_
                          refine m_top (y := (up2 (mvq (lmp a b t (lpos a b t j i) v) (9 * (b + j - t) + (a + i - t)) (9 * b + a) A B q) 0 (9 * (b + j - t) + (a + i - t)) ((nI (A - q)) - (1 : Int32))) 0 (9 * b + a)) rfl ?_
                          refine m_top (y := nI (B + q)) ((up2_i (Ne.symm hne)).trans mvq_o) ?_
                          refine lv_iconst (v := 1) hx hb dX5_lamp_160 (by decide) ?_
                          refine lv_iadd hx hb dX5_lamp_161 ?_
                          refine m_iast hC hE hI hP hS (k_21 hL (by decide) (by omega)) e_21 b (rfl) (show b < 9 from by omega) (by decide) (p_21 (by omega)) (ent_put g M 2 (up2 (mvq (lmp a b t (lpos a b t j i) v) (9 * (b + j - t) + (a + i - t)) (9 * b + a) A B q) 0 (9 * (b + j - t) + (a + i - t)) ((nI (A - q)) - (1 : Int32))) o 0 (9 * b + a) ((nI (B + q)) + (1 : Int32)) (kf_21 (by decide) (by omega))) dX5_lamp_162 (fun H locs hP hS => ?_)
                          refine lv_iinc (v := nI (q + 1)) (lv' := [(5, .int (nI (q + 1))), (4, .int (nI (a + i) - nI t)), (3, .int (nI (b + j) - nI t)), (2, .ref (ad g (23, 0, (hol v k)))), (0, .ref (ad g (20, 0, 0))), (1, .ref (ad g (24, 2, k)))]) hx hb dX5_lamp_163 hl (k := 0) rfl (nI_1 _) (by decide) rfl (fun ls hl => ?_)
                          refine lv_goto (tgt := 99) hx hb dX5_lamp_166 (by decide) ?_
                          exact IHq H locs ls (hP.castR (mvq_s hne hA1 hA60)) hS (lv_sub hl [0, 1, 2, 3, 4, 5] rfl) (⟨by omega, by omega⟩)
                  · refine lv_goto (tgt := 169) hx hb dX5_lamp_93 (by decide) ?_
                    refine lv_iinc (v := nI (a + (i + 1)) - nI t) (lv' := [(4, .int (nI (a + (i + 1)) - nI t)), (3, .int (nI (b + j) - nI t)), (2, .ref (ad g (23, 0, (hol v k)))), (0, .ref (ad g (20, 0, 0))), (1, .ref (ad g (24, 2, k)))]) hx hb dX5_lamp_169 hl (k := 0) rfl (sub_inc) (by decide) rfl (fun ls hl => ?_)
                    refine lv_goto (tgt := 44) hx hb dX5_lamp_172 (by decide) ?_
                    exact IH H locs ls (hP.castR (lmp_own d3 d5 d2 d4 (nI_inj (by omega) (by omega) ((sub_eq d2 (by omega)).symm.trans d6)) (nI_inj (by omega) (by omega) ((sub_eq d3 (by omega)).symm.trans d7)))) hS (lv_sub hl [0, 1, 2, 3, 4] rfl) (trivial)
  · have h8 : v 8 k = -1 := Decidable.not_not.mp (fun z => c0 (by rw [(hol_of hv hk z).1]; exact nI_ge0 (by have := (hol_of hv hk z).2; omega)))
    exact m_vret hC hr_ hlk hS (hP.castR (if_pos h8)) dX5_lamp_6
