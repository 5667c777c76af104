/-! a lake becomes another -/
theorem dX0_become_0 : decode cX0_become 0 = .ok (.aload_n 0, 1) := by decide +kernel
theorem dX0_become_1 : decode cX0_become 1 = .ok (.aload_n 1, 1) := by decide +kernel
theorem dX0_become_2 : decode cX0_become 2 = .ok (.getfield 7, 3) := by decide +kernel
theorem dX0_become_5 : decode cX0_become 5 = .ok (.putfield 7, 3) := by decide +kernel
theorem dX0_become_8 : decode cX0_become 8 = .ok (.aload_n 0, 1) := by decide +kernel
theorem dX0_become_9 : decode cX0_become 9 = .ok (.aload_n 1, 1) := by decide +kernel
theorem dX0_become_10 : decode cX0_become 10 = .ok (.getfield 13, 3) := by decide +kernel
theorem dX0_become_13 : decode cX0_become 13 = .ok (.putfield 13, 3) := by decide +kernel
theorem dX0_become_16 : decode cX0_become 16 = .ok (.aload_n 0, 1) := by decide +kernel
theorem dX0_become_17 : decode cX0_become 17 = .ok (.aload_n 1, 1) := by decide +kernel
theorem dX0_become_18 : decode cX0_become 18 = .ok (.getfield 16, 3) := by decide +kernel
theorem dX0_become_21 : decode cX0_become 21 = .ok (.putfield 16, 3) := by decide +kernel
theorem dX0_become_24 : decode cX0_become 24 = .ok (.return_, 1) := by decide +kernel
theorem dX2_become_0 : decode cX2_become 0 = .ok (.aload_n 0, 1) := by decide +kernel
theorem dX2_become_1 : decode cX2_become 1 = .ok (.aload_n 1, 1) := by decide +kernel
theorem dX2_become_2 : decode cX2_become 2 = .ok (.getfield 15, 3) := by decide +kernel
theorem dX2_become_5 : decode cX2_become 5 = .ok (.putfield 15, 3) := by decide +kernel
theorem dX2_become_8 : decode cX2_become 8 = .ok (.aload_n 0, 1) := by decide +kernel
theorem dX2_become_9 : decode cX2_become 9 = .ok (.aload_n 1, 1) := by decide +kernel
theorem dX2_become_10 : decode cX2_become 10 = .ok (.getfield 18, 3) := by decide +kernel
theorem dX2_become_13 : decode cX2_become 13 = .ok (.putfield 18, 3) := by decide +kernel
theorem dX2_become_16 : decode cX2_become 16 = .ok (.aload_n 0, 1) := by decide +kernel
theorem dX2_become_17 : decode cX2_become 17 = .ok (.aload_n 1, 1) := by decide +kernel
theorem dX2_become_18 : decode cX2_become 18 = .ok (.getfield 9, 3) := by decide +kernel
theorem dX2_become_21 : decode cX2_become 21 = .ok (.putfield 9, 3) := by decide +kernel
theorem dX2_become_24 : decode cX2_become 24 = .ok (.aload_n 0, 1) := by decide +kernel
theorem dX2_become_25 : decode cX2_become 25 = .ok (.aload_n 1, 1) := by decide +kernel
theorem dX2_become_26 : decode cX2_become 26 = .ok (.getfield 21, 3) := by decide +kernel
theorem dX2_become_29 : decode cX2_become 29 = .ok (.putfield 21, 3) := by decide +kernel
theorem dX2_become_32 : decode cX2_become 32 = .ok (.aload_n 0, 1) := by decide +kernel
theorem dX2_become_33 : decode cX2_become 33 = .ok (.aload_n 1, 1) := by decide +kernel
theorem dX2_become_34 : decode cX2_become 34 = .ok (.getfield 24, 3) := by decide +kernel
theorem dX2_become_37 : decode cX2_become 37 = .ok (.putfield 24, 3) := by decide +kernel
theorem dX2_become_40 : decode cX2_become 40 = .ok (.aload_n 0, 1) := by decide +kernel
theorem dX2_become_41 : decode cX2_become 41 = .ok (.aload_n 1, 1) := by decide +kernel
theorem dX2_become_42 : decode cX2_become 42 = .ok (.getfield 27, 3) := by decide +kernel
theorem dX2_become_45 : decode cX2_become 45 = .ok (.putfield 27, 3) := by decide +kernel
theorem dX2_become_48 : decode cX2_become 48 = .ok (.return_, 1) := by decide +kernel
theorem dX3_become_0 : decode cX3_become 0 = .ok (.aload_n 0, 1) := by decide +kernel
theorem dX3_become_1 : decode cX3_become 1 = .ok (.aload_n 1, 1) := by decide +kernel
theorem dX3_become_2 : decode cX3_become 2 = .ok (.getfield 7, 3) := by decide +kernel
theorem dX3_become_5 : decode cX3_become 5 = .ok (.putfield 7, 3) := by decide +kernel
theorem dX3_become_8 : decode cX3_become 8 = .ok (.aload_n 0, 1) := by decide +kernel
theorem dX3_become_9 : decode cX3_become 9 = .ok (.aload_n 1, 1) := by decide +kernel
theorem dX3_become_10 : decode cX3_become 10 = .ok (.getfield 13, 3) := by decide +kernel
theorem dX3_become_13 : decode cX3_become 13 = .ok (.putfield 13, 3) := by decide +kernel
theorem dX3_become_16 : decode cX3_become 16 = .ok (.aload_n 0, 1) := by decide +kernel
theorem dX3_become_17 : decode cX3_become 17 = .ok (.aload_n 1, 1) := by decide +kernel
theorem dX3_become_18 : decode cX3_become 18 = .ok (.getfield 16, 3) := by decide +kernel
theorem dX3_become_21 : decode cX3_become 21 = .ok (.putfield 16, 3) := by decide +kernel
theorem dX3_become_24 : decode cX3_become 24 = .ok (.aload_n 0, 1) := by decide +kernel
theorem dX3_become_25 : decode cX3_become 25 = .ok (.aload_n 1, 1) := by decide +kernel
theorem dX3_become_26 : decode cX3_become 26 = .ok (.getfield 19, 3) := by decide +kernel
theorem dX3_become_29 : decode cX3_become 29 = .ok (.putfield 19, 3) := by decide +kernel
theorem dX3_become_32 : decode cX3_become 32 = .ok (.return_, 1) := by decide +kernel
theorem dX1_become_0 : decode cX1_become 0 = .ok (.iconst 0, 1) := by decide +kernel
theorem dX1_become_1 : decode cX1_become 1 = .ok (.istore_n 2, 1) := by decide +kernel
theorem dX1_become_2 : decode cX1_become 2 = .ok (.iload_n 2, 1) := by decide +kernel
theorem dX1_become_3 : decode cX1_become 3 = .ok (.bipush 81, 2) := by decide +kernel
theorem dX1_become_5 : decode cX1_become 5 = .ok (.if_icmp .ge 33, 3) := by decide +kernel
theorem dX1_become_8 : decode cX1_become 8 = .ok (.aload_n 0, 1) := by decide +kernel
theorem dX1_become_9 : decode cX1_become 9 = .ok (.getfield 9, 3) := by decide +kernel
theorem dX1_become_12 : decode cX1_become 12 = .ok (.iload_n 2, 1) := by decide +kernel
theorem dX1_become_13 : decode cX1_become 13 = .ok (.aload_n 1, 1) := by decide +kernel
theorem dX1_become_14 : decode cX1_become 14 = .ok (.getfield 9, 3) := by decide +kernel
theorem dX1_become_17 : decode cX1_become 17 = .ok (.iload_n 2, 1) := by decide +kernel
theorem dX1_become_18 : decode cX1_become 18 = .ok (.iaload, 1) := by decide +kernel
theorem dX1_become_19 : decode cX1_become 19 = .ok (.iastore, 1) := by decide +kernel
theorem dX1_become_20 : decode cX1_become 20 = .ok (.aload_n 0, 1) := by decide +kernel
theorem dX1_become_21 : decode cX1_become 21 = .ok (.getfield 15, 3) := by decide +kernel
theorem dX1_become_24 : decode cX1_become 24 = .ok (.iload_n 2, 1) := by decide +kernel
theorem dX1_become_25 : decode cX1_become 25 = .ok (.aload_n 1, 1) := by decide +kernel
theorem dX1_become_26 : decode cX1_become 26 = .ok (.getfield 15, 3) := by decide +kernel
theorem dX1_become_29 : decode cX1_become 29 = .ok (.iload_n 2, 1) := by decide +kernel
theorem dX1_become_30 : decode cX1_become 30 = .ok (.iaload, 1) := by decide +kernel
theorem dX1_become_31 : decode cX1_become 31 = .ok (.iastore, 1) := by decide +kernel
theorem dX1_become_32 : decode cX1_become 32 = .ok (.iinc 2 1, 3) := by decide +kernel
theorem dX1_become_35 : decode cX1_become 35 = .ok (.goto (-33), 3) := by decide +kernel
theorem dX1_become_38 : decode cX1_become 38 = .ok (.iconst 0, 1) := by decide +kernel
theorem dX1_become_39 : decode cX1_become 39 = .ok (.istore_n 2, 1) := by decide +kernel
theorem dX1_become_40 : decode cX1_become 40 = .ok (.iload_n 2, 1) := by decide +kernel
theorem dX1_become_41 : decode cX1_become 41 = .ok (.bipush 7, 2) := by decide +kernel
theorem dX1_become_43 : decode cX1_become 43 = .ok (.if_icmp .ge 21, 3) := by decide +kernel
theorem dX1_become_46 : decode cX1_become 46 = .ok (.aload_n 0, 1) := by decide +kernel
theorem dX1_become_47 : decode cX1_become 47 = .ok (.getfield 18, 3) := by decide +kernel
theorem dX1_become_50 : decode cX1_become 50 = .ok (.iload_n 2, 1) := by decide +kernel
theorem dX1_become_51 : decode cX1_become 51 = .ok (.aload_n 1, 1) := by decide +kernel
theorem dX1_become_52 : decode cX1_become 52 = .ok (.getfield 18, 3) := by decide +kernel
theorem dX1_become_55 : decode cX1_become 55 = .ok (.iload_n 2, 1) := by decide +kernel
theorem dX1_become_56 : decode cX1_become 56 = .ok (.iaload, 1) := by decide +kernel
theorem dX1_become_57 : decode cX1_become 57 = .ok (.iastore, 1) := by decide +kernel
theorem dX1_become_58 : decode cX1_become 58 = .ok (.iinc 2 1, 3) := by decide +kernel
theorem dX1_become_61 : decode cX1_become 61 = .ok (.goto (-21), 3) := by decide +kernel
theorem dX1_become_64 : decode cX1_become 64 = .ok (.aload_n 0, 1) := by decide +kernel
theorem dX1_become_65 : decode cX1_become 65 = .ok (.aload_n 1, 1) := by decide +kernel
theorem dX1_become_66 : decode cX1_become 66 = .ok (.getfield 46, 3) := by decide +kernel
theorem dX1_become_69 : decode cX1_become 69 = .ok (.putfield 46, 3) := by decide +kernel
theorem dX1_become_72 : decode cX1_become 72 = .ok (.iconst 0, 1) := by decide +kernel
theorem dX1_become_73 : decode cX1_become 73 = .ok (.istore_n 2, 1) := by decide +kernel
theorem dX1_become_74 : decode cX1_become 74 = .ok (.iload_n 2, 1) := by decide +kernel
theorem dX1_become_75 : decode cX1_become 75 = .ok (.aload_n 0, 1) := by decide +kernel
theorem dX1_become_76 : decode cX1_become 76 = .ok (.getfield 46, 3) := by decide +kernel
theorem dX1_become_79 : decode cX1_become 79 = .ok (.if_icmp .ge 24, 3) := by decide +kernel
theorem dX1_become_82 : decode cX1_become 82 = .ok (.aload_n 0, 1) := by decide +kernel
theorem dX1_become_83 : decode cX1_become 83 = .ok (.getfield 23, 3) := by decide +kernel
theorem dX1_become_86 : decode cX1_become 86 = .ok (.iload_n 2, 1) := by decide +kernel
theorem dX1_become_87 : decode cX1_become 87 = .ok (.aaload, 1) := by decide +kernel
theorem dX1_become_88 : decode cX1_become 88 = .ok (.aload_n 1, 1) := by decide +kernel
theorem dX1_become_89 : decode cX1_become 89 = .ok (.getfield 23, 3) := by decide +kernel
theorem dX1_become_92 : decode cX1_become 92 = .ok (.iload_n 2, 1) := by decide +kernel
theorem dX1_become_93 : decode cX1_become 93 = .ok (.aaload, 1) := by decide +kernel
theorem dX1_become_94 : decode cX1_become 94 = .ok (.invokevirtual 49, 3) := by decide +kernel
theorem dX1_become_97 : decode cX1_become 97 = .ok (.iinc 2 1, 3) := by decide +kernel
theorem dX1_become_100 : decode cX1_become 100 = .ok (.goto (-26), 3) := by decide +kernel
theorem dX1_become_103 : decode cX1_become 103 = .ok (.aload_n 0, 1) := by decide +kernel
theorem dX1_become_104 : decode cX1_become 104 = .ok (.aload_n 1, 1) := by decide +kernel
theorem dX1_become_105 : decode cX1_become 105 = .ok (.getfield 53, 3) := by decide +kernel
theorem dX1_become_108 : decode cX1_become 108 = .ok (.putfield 53, 3) := by decide +kernel
theorem dX1_become_111 : decode cX1_become 111 = .ok (.iconst 0, 1) := by decide +kernel
theorem dX1_become_112 : decode cX1_become 112 = .ok (.istore_n 2, 1) := by decide +kernel
theorem dX1_become_113 : decode cX1_become 113 = .ok (.iload_n 2, 1) := by decide +kernel
theorem dX1_become_114 : decode cX1_become 114 = .ok (.aload_n 0, 1) := by decide +kernel
theorem dX1_become_115 : decode cX1_become 115 = .ok (.getfield 53, 3) := by decide +kernel
theorem dX1_become_118 : decode cX1_become 118 = .ok (.if_icmp .ge 24, 3) := by decide +kernel
theorem dX1_become_121 : decode cX1_become 121 = .ok (.aload_n 0, 1) := by decide +kernel
theorem dX1_become_122 : decode cX1_become 122 = .ok (.getfield 30, 3) := by decide +kernel
theorem dX1_become_125 : decode cX1_become 125 = .ok (.iload_n 2, 1) := by decide +kernel
theorem dX1_become_126 : decode cX1_become 126 = .ok (.aaload, 1) := by decide +kernel
theorem dX1_become_127 : decode cX1_become 127 = .ok (.aload_n 1, 1) := by decide +kernel
theorem dX1_become_128 : decode cX1_become 128 = .ok (.getfield 30, 3) := by decide +kernel
theorem dX1_become_131 : decode cX1_become 131 = .ok (.iload_n 2, 1) := by decide +kernel
theorem dX1_become_132 : decode cX1_become 132 = .ok (.aaload, 1) := by decide +kernel
theorem dX1_become_133 : decode cX1_become 133 = .ok (.invokevirtual 56, 3) := by decide +kernel
theorem dX1_become_136 : decode cX1_become 136 = .ok (.iinc 2 1, 3) := by decide +kernel
theorem dX1_become_139 : decode cX1_become 139 = .ok (.goto (-26), 3) := by decide +kernel
theorem dX1_become_142 : decode cX1_become 142 = .ok (.aload_n 0, 1) := by decide +kernel
theorem dX1_become_143 : decode cX1_become 143 = .ok (.aload_n 1, 1) := by decide +kernel
theorem dX1_become_144 : decode cX1_become 144 = .ok (.getfield 59, 3) := by decide +kernel
theorem dX1_become_147 : decode cX1_become 147 = .ok (.putfield 59, 3) := by decide +kernel
theorem dX1_become_150 : decode cX1_become 150 = .ok (.iconst 0, 1) := by decide +kernel
theorem dX1_become_151 : decode cX1_become 151 = .ok (.istore_n 2, 1) := by decide +kernel
theorem dX1_become_152 : decode cX1_become 152 = .ok (.iload_n 2, 1) := by decide +kernel
theorem dX1_become_153 : decode cX1_become 153 = .ok (.aload_n 0, 1) := by decide +kernel
theorem dX1_become_154 : decode cX1_become 154 = .ok (.getfield 59, 3) := by decide +kernel
theorem dX1_become_157 : decode cX1_become 157 = .ok (.if_icmp .ge 24, 3) := by decide +kernel
theorem dX1_become_160 : decode cX1_become 160 = .ok (.aload_n 0, 1) := by decide +kernel
theorem dX1_become_161 : decode cX1_become 161 = .ok (.getfield 37, 3) := by decide +kernel
theorem dX1_become_164 : decode cX1_become 164 = .ok (.iload_n 2, 1) := by decide +kernel
theorem dX1_become_165 : decode cX1_become 165 = .ok (.aaload, 1) := by decide +kernel
theorem dX1_become_166 : decode cX1_become 166 = .ok (.aload_n 1, 1) := by decide +kernel
theorem dX1_become_167 : decode cX1_become 167 = .ok (.getfield 37, 3) := by decide +kernel
theorem dX1_become_170 : decode cX1_become 170 = .ok (.iload_n 2, 1) := by decide +kernel
theorem dX1_become_171 : decode cX1_become 171 = .ok (.aaload, 1) := by decide +kernel
theorem dX1_become_172 : decode cX1_become 172 = .ok (.invokevirtual 62, 3) := by decide +kernel
theorem dX1_become_175 : decode cX1_become 175 = .ok (.iinc 2 1, 3) := by decide +kernel
theorem dX1_become_178 : decode cX1_become 178 = .ok (.goto (-26), 3) := by decide +kernel
theorem dX1_become_181 : decode cX1_become 181 = .ok (.aload_n 0, 1) := by decide +kernel
theorem dX1_become_182 : decode cX1_become 182 = .ok (.aload_n 1, 1) := by decide +kernel
theorem dX1_become_183 : decode cX1_become 183 = .ok (.getfield 42, 3) := by decide +kernel
theorem dX1_become_186 : decode cX1_become 186 = .ok (.putfield 42, 3) := by decide +kernel
theorem dX1_become_189 : decode cX1_become 189 = .ok (.aload_n 0, 1) := by decide +kernel
theorem dX1_become_190 : decode cX1_become 190 = .ok (.aload_n 1, 1) := by decide +kernel
theorem dX1_become_191 : decode cX1_become 191 = .ok (.getfield 65, 3) := by decide +kernel
theorem dX1_become_194 : decode cX1_become 194 = .ok (.putfield 65, 3) := by decide +kernel
theorem dX1_become_197 : decode cX1_become 197 = .ok (.return_, 1) := by decide +kernel
def b1 (s : Vw) (k : Nat) (u : Vw) : Vw := up2 (up2 u 0 k (s 0 k)) 1 k (s 1 k)
def b2 (s : Vw) (k : Nat) (u : Vw) : Vw := up2 u 2 k (s 2 k)
def b3 (s : Vw) (k : Nat) (u : Vw) : Vw := up2 (up2 (up2 u 3 k (s 3 k)) 4 k (s 4 k)) 5 k (s 5 k)
def b4 (s : Vw) (k : Nat) (u : Vw) : Vw := up2 (up2 (up2 (up2 (up2 (up2 u 6 k (s 6 k)) 7 k (s 7 k)) 8 k (s 8 k)) 9 k (s 9 k)) 10 k (s 10 k)) 11 k (s 11 k)
def b5 (s : Vw) (k : Nat) (u : Vw) : Vw := up2 (up2 (up2 (up2 u 12 k (s 12 k)) 13 k (s 13 k)) 14 k (s 14 k)) 15 k (s 15 k)
def bcA (s v : Vw) : Vw := up2 (it (b2 s) 7 (it (b1 s) 81 v)) 16 0 (s 16 0)
def bcB (s v : Vw) : Vw := up2 (it (b3 s) (nH s) (bcA s v)) 16 1 (s 16 1)
def bcC (s v : Vw) : Vw := up2 (it (b4 s) (nS s) (bcB s v)) 16 2 (s 16 2)
def bec (s v : Vw) : Vw := up2 (up2 (it (b5 s) (nW s) (bcC s v)) 16 3 (s 16 3)) 16 4 (s 16 4)
theorem nar01 {x : Int32} (h : x = 0 ∨ x = 1) : narrow .boolean (.int x) = .int x := by rcases h with rfl | rfl <;> rfl
theorem fit01 {x : Int32} (h : x = 0 ∨ x = 1) : fits .boolean (.int x) = true := by rcases h with rfl | rfl <;> rfl
theorem b1_ne {s u : Vw} {k c i : Nat} (h : 2 ≤ c) : b1 s k u c i = u c i := by simp [b1, up2, show c ≠ 0 by omega, show c ≠ 1 by omega]
theorem b2_ne {s u : Vw} {k c i : Nat} (h : c ≠ 2) : b2 s k u c i = u c i := by simp [b2, up2, h]
theorem b3_ne {s u : Vw} {k c i : Nat} (h : c < 3 ∨ 6 ≤ c) : b3 s k u c i = u c i := by simp [b3, up2, show c ≠ 3 by omega, show c ≠ 4 by omega, show c ≠ 5 by omega]
theorem b4_ne {s u : Vw} {k c i : Nat} (h : c < 6 ∨ 12 ≤ c) : b4 s k u c i = u c i := by simp [b4, up2, show c ≠ 6 by omega, show c ≠ 7 by omega, show c ≠ 8 by omega, show c ≠ 9 by omega, show c ≠ 10 by omega, show c ≠ 11 by omega]
theorem b5_ne {s u : Vw} {k c i : Nat} (h : c < 12 ∨ 16 ≤ c) : b5 s k u c i = u c i := by simp [b5, up2, show c ≠ 12 by omega, show c ≠ 13 by omega, show c ≠ 14 by omega, show c ≠ 15 by omega]
set_option maxHeartbeats 4000000 in
set_option maxRecDepth 100000 in
theorem c_becomeH (l : Launch) {g : Gm} (hI : IJ g (KK g)) {M : Mem} {o : Nat → Int64} {r q : Nat} (hr : r < 2) (hq : q < 2) (hne : q ≠ r) {v : Vw} (k : Nat) (hk9 : k < 12) (hob : M q 5 k = 0 ∨ M q 5 k = 1) : MV l yX0_become cX0_become 2 (rm 0 0) g (KK g) (ent g (setR M r v) o) [.ref (ad g (0, r, k)), .ref (ad g (0, q, k))] (ent g (setR M r (b3 (M q) k v)) o) := by
  refine met_of (by decide +kernel) (Nat.le_of_ble_eq_true rfl) ?_
  intro p e s m below meth c ls hC hr_ hlk hnm hE hP hS hl
  obtain ⟨hx, hb, hml, hown, hG⟩ := id hC
  have hl : lv_has ls 2 [(0, .ref (ad g (0, r, k))), (1, .ref (ad g (0, q, k)))] := hl
  refine lv_aload_n hx hb dX0_become_0 rfl (lv_at hl 0 rfl) ?_
  refine lv_aload_n hx hb dX0_become_1 rfl (lv_at hl 1 rfl) ?_
  refine m_get hC hE hP (k_0 hq (by omega)) f_0 rfl u_0 0 (by decide) w_37 rfl rfl dX0_become_2 ?_
  refine m_top (y := M q 3 k) (by rw [setR_ne _ _ hne]) ?_
  refine m_put hC hE hI hP hS (k_0 hr (by omega)) e_0 rfl u_0 tyX0_ok nmX0 0 (by decide) w_37 rfl rfl rfl rfl (Nat.le_of_ble_eq_true rfl) p_0_0 (ent_put g M r v o 3 k (M q 3 k) (kf_0 hr (by decide) (by decide))) dX0_become_5 (fun H locs hP hS => ?_)
  refine lv_aload_n hx hb dX0_become_8 rfl (lv_at hl 0 rfl) ?_
  refine lv_aload_n hx hb dX0_become_9 rfl (lv_at hl 1 rfl) ?_
  refine m_get hC hE hP (k_0 hq (by omega)) f_0 rfl u_0 1 (by decide) w_40 rfl rfl dX0_become_10 ?_
  refine m_top (y := M q 4 k) (by rw [setR_ne _ _ hne]) ?_
  refine m_put hC hE hI hP hS (k_0 hr (by omega)) e_0 rfl u_0 tyX0_ok nmX0 1 (by decide) w_40 rfl rfl rfl rfl (Nat.le_of_ble_eq_true rfl) p_0_1 (ent_put g M r (up2 v 3 k (M q 3 k)) o 4 k (M q 4 k) (kf_0 hr (by decide) (by decide))) dX0_become_13 (fun H locs hP hS => ?_)
  refine lv_aload_n hx hb dX0_become_16 rfl (lv_at hl 0 rfl) ?_
  refine lv_aload_n hx hb dX0_become_17 rfl (lv_at hl 1 rfl) ?_
  refine m_get hC hE hP (k_0 hq (by omega)) f_0 rfl u_0 2 (by decide) w_43 rfl rfl dX0_become_18 ?_
  refine m_top (y := M q 5 k) (by rw [setR_ne _ _ hne]) ?_
  refine m_put hC hE hI hP hS (k_0 hr (by omega)) e_0 rfl u_0 tyX0_ok nmX0 2 (by decide) w_43 rfl rfl (nar01 hob) (fit01 hob) (Nat.le_of_ble_eq_true rfl) p_0_2 (ent_put g M r (up2 (up2 v 3 k (M q 3 k)) 4 k (M q 4 k)) o 5 k (M q 5 k) (kf_0 hr (by decide) (by decide))) dX0_become_21 (fun H locs hP hS => ?_)
  exact m_vret hC hr_ hlk hS (hP.castR (rfl)) dX0_become_24
set_option maxHeartbeats 4000000 in
set_option maxRecDepth 100000 in
theorem c_becomeS (l : Launch) {g : Gm} (hI : IJ g (KK g)) {M : Mem} {o : Nat → Int64} {r q : Nat} (hr : r < 2) (hq : q < 2) (hne : q ≠ r) {v : Vw} (k : Nat) (hk9 : k < 8) : MV l yX2_become cX2_become 2 (rm 0 0) g (KK g) (ent g (setR M r v) o) [.ref (ad g (1, r, k)), .ref (ad g (1, q, k))] (ent g (setR M r (b4 (M q) k v)) o) := by
  refine met_of (by decide +kernel) (Nat.le_of_ble_eq_true rfl) ?_
  intro p e s m below meth c ls hC hr_ hlk hnm hE hP hS hl
  obtain ⟨hx, hb, hml, hown, hG⟩ := id hC
  have hl : lv_has ls 2 [(0, .ref (ad g (1, r, k))), (1, .ref (ad g (1, q, k)))] := hl
  refine lv_aload_n hx hb dX2_become_0 rfl (lv_at hl 0 rfl) ?_
  refine lv_aload_n hx hb dX2_become_1 rfl (lv_at hl 1 rfl) ?_
  refine m_get hC hE hP (k_1 hq (by omega)) f_1 rfl u_2 0 (by decide) w_61 rfl rfl dX2_become_2 ?_
  refine m_top (y := M q 6 k) (by rw [setR_ne _ _ hne]) ?_
  refine m_put hC hE hI hP hS (k_1 hr (by omega)) e_1 rfl u_2 tyX2_ok nmX2 0 (by decide) w_61 rfl rfl rfl rfl (Nat.le_of_ble_eq_true rfl) p_1_0 (ent_put g M r v o 6 k (M q 6 k) (kf_1 hr (by decide) (by decide))) dX2_become_5 (fun H locs hP hS => ?_)
  refine lv_aload_n hx hb dX2_become_8 rfl (lv_at hl 0 rfl) ?_
  refine lv_aload_n hx hb dX2_become_9 rfl (lv_at hl 1 rfl) ?_
  refine m_get hC hE hP (k_1 hq (by omega)) f_1 rfl u_2 1 (by decide) w_63 rfl rfl dX2_become_10 ?_
  refine m_top (y := M q 7 k) (by rw [setR_ne _ _ hne]) ?_
  refine m_put hC hE hI hP hS (k_1 hr (by omega)) e_1 rfl u_2 tyX2_ok nmX2 1 (by decide) w_63 rfl rfl rfl rfl (Nat.le_of_ble_eq_true rfl) p_1_1 (ent_put g M r (up2 v 6 k (M q 6 k)) o 7 k (M q 7 k) (kf_1 hr (by decide) (by decide))) dX2_become_13 (fun H locs hP hS => ?_)
  refine lv_aload_n hx hb dX2_become_16 rfl (lv_at hl 0 rfl) ?_
  refine lv_aload_n hx hb dX2_become_17 rfl (lv_at hl 1 rfl) ?_
  refine m_get hC hE hP (k_1 hq (by omega)) f_1 rfl u_2 2 (by decide) w_65 rfl rfl dX2_become_18 ?_
  refine m_top (y := M q 8 k) (by rw [setR_ne _ _ hne]) ?_
  refine m_put hC hE hI hP hS (k_1 hr (by omega)) e_1 rfl u_2 tyX2_ok nmX2 2 (by decide) w_65 rfl rfl rfl rfl (Nat.le_of_ble_eq_true rfl) p_1_2 (ent_put g M r (up2 (up2 v 6 k (M q 6 k)) 7 k (M q 7 k)) o 8 k (M q 8 k) (kf_1 hr (by decide) (by decide))) dX2_become_21 (fun H locs hP hS => ?_)
  refine lv_aload_n hx hb dX2_become_24 rfl (lv_at hl 0 rfl) ?_
  refine lv_aload_n hx hb dX2_become_25 rfl (lv_at hl 1 rfl) ?_
  refine m_get hC hE hP (k_1 hq (by omega)) f_1 rfl u_2 3 (by decide) w_68 rfl rfl dX2_become_26 ?_
  refine m_top (y := M q 9 k) (by rw [setR_ne _ _ hne]) ?_
  refine m_put hC hE hI hP hS (k_1 hr (by omega)) e_1 rfl u_2 tyX2_ok nmX2 3 (by decide) w_68 rfl rfl rfl rfl (Nat.le_of_ble_eq_true rfl) p_1_3 (ent_put g M r (up2 (up2 (up2 v 6 k (M q 6 k)) 7 k (M q 7 k)) 8 k (M q 8 k)) o 9 k (M q 9 k) (kf_1 hr (by decide) (by decide))) dX2_become_29 (fun H locs hP hS => ?_)
  refine lv_aload_n hx hb dX2_become_32 rfl (lv_at hl 0 rfl) ?_
  refine lv_aload_n hx hb dX2_become_33 rfl (lv_at hl 1 rfl) ?_
  refine m_get hC hE hP (k_1 hq (by omega)) f_1 rfl u_2 4 (by decide) w_71 rfl rfl dX2_become_34 ?_
  refine m_top (y := M q 10 k) (by rw [setR_ne _ _ hne]) ?_
  refine m_put hC hE hI hP hS (k_1 hr (by omega)) e_1 rfl u_2 tyX2_ok nmX2 4 (by decide) w_71 rfl rfl rfl rfl (Nat.le_of_ble_eq_true rfl) p_1_4 (ent_put g M r (up2 (up2 (up2 (up2 v 6 k (M q 6 k)) 7 k (M q 7 k)) 8 k (M q 8 k)) 9 k (M q 9 k)) o 10 k (M q 10 k) (kf_1 hr (by decide) (by decide))) dX2_become_37 (fun H locs hP hS => ?_)
  refine lv_aload_n hx hb dX2_become_40 rfl (lv_at hl 0 rfl) ?_
  refine lv_aload_n hx hb dX2_become_41 rfl (lv_at hl 1 rfl) ?_
  refine m_get hC hE hP (k_1 hq (by omega)) f_1 rfl u_2 5 (by decide) w_74 rfl rfl dX2_become_42 ?_
  refine m_top (y := M q 11 k) (by rw [setR_ne _ _ hne]) ?_
  refine m_put hC hE hI hP hS (k_1 hr (by omega)) e_1 rfl u_2 tyX2_ok nmX2 5 (by decide) w_74 rfl rfl rfl rfl (Nat.le_of_ble_eq_true rfl) p_1_5 (ent_put g M r (up2 (up2 (up2 (up2 (up2 v 6 k (M q 6 k)) 7 k (M q 7 k)) 8 k (M q 8 k)) 9 k (M q 9 k)) 10 k (M q 10 k)) o 11 k (M q 11 k) (kf_1 hr (by decide) (by decide))) dX2_become_45 (fun H locs hP hS => ?_)
  exact m_vret hC hr_ hlk hS (hP.castR (rfl)) dX2_become_48
set_option maxHeartbeats 4000000 in
set_option maxRecDepth 100000 in
theorem c_becomeW (l : Launch) {g : Gm} (hI : IJ g (KK g)) {M : Mem} {o : Nat → Int64} {r q : Nat} (hr : r < 2) (hq : q < 2) (hne : q ≠ r) {v : Vw} (k : Nat) (hk9 : k < 3) : MV l yX3_become cX3_become 2 (rm 0 0) g (KK g) (ent g (setR M r v) o) [.ref (ad g (2, r, k)), .ref (ad g (2, q, k))] (ent g (setR M r (b5 (M q) k v)) o) := by
  refine met_of (by decide +kernel) (Nat.le_of_ble_eq_true rfl) ?_
  intro p e s m below meth c ls hC hr_ hlk hnm hE hP hS hl
  obtain ⟨hx, hb, hml, hown, hG⟩ := id hC
  have hl : lv_has ls 2 [(0, .ref (ad g (2, r, k))), (1, .ref (ad g (2, q, k)))] := hl
  refine lv_aload_n hx hb dX3_become_0 rfl (lv_at hl 0 rfl) ?_
  refine lv_aload_n hx hb dX3_become_1 rfl (lv_at hl 1 rfl) ?_
  refine m_get hC hE hP (k_2 hq (by omega)) f_2 rfl u_3 0 (by decide) w_96 rfl rfl dX3_become_2 ?_
  refine m_top (y := M q 12 k) (by rw [setR_ne _ _ hne]) ?_
  refine m_put hC hE hI hP hS (k_2 hr (by omega)) e_2 rfl u_3 tyX3_ok nmX3 0 (by decide) w_96 rfl rfl rfl rfl (Nat.le_of_ble_eq_true rfl) p_2_0 (ent_put g M r v o 12 k (M q 12 k) (kf_2 hr (by decide) (by decide))) dX3_become_5 (fun H locs hP hS => ?_)
  refine lv_aload_n hx hb dX3_become_8 rfl (lv_at hl 0 rfl) ?_
  refine lv_aload_n hx hb dX3_become_9 rfl (lv_at hl 1 rfl) ?_
  refine m_get hC hE hP (k_2 hq (by omega)) f_2 rfl u_3 1 (by decide) w_98 rfl rfl dX3_become_10 ?_
  refine m_top (y := M q 13 k) (by rw [setR_ne _ _ hne]) ?_
  refine m_put hC hE hI hP hS (k_2 hr (by omega)) e_2 rfl u_3 tyX3_ok nmX3 1 (by decide) w_98 rfl rfl rfl rfl (Nat.le_of_ble_eq_true rfl) p_2_1 (ent_put g M r (up2 v 12 k (M q 12 k)) o 13 k (M q 13 k) (kf_2 hr (by decide) (by decide))) dX3_become_13 (fun H locs hP hS => ?_)
  refine lv_aload_n hx hb dX3_become_16 rfl (lv_at hl 0 rfl) ?_
  refine lv_aload_n hx hb dX3_become_17 rfl (lv_at hl 1 rfl) ?_
  refine m_get hC hE hP (k_2 hq (by omega)) f_2 rfl u_3 2 (by decide) w_100 rfl rfl dX3_become_18 ?_
  refine m_top (y := M q 14 k) (by rw [setR_ne _ _ hne]) ?_
  refine m_put hC hE hI hP hS (k_2 hr (by omega)) e_2 rfl u_3 tyX3_ok nmX3 2 (by decide) w_100 rfl rfl rfl rfl (Nat.le_of_ble_eq_true rfl) p_2_2 (ent_put g M r (up2 (up2 v 12 k (M q 12 k)) 13 k (M q 13 k)) o 14 k (M q 14 k) (kf_2 hr (by decide) (by decide))) dX3_become_21 (fun H locs hP hS => ?_)
  refine lv_aload_n hx hb dX3_become_24 rfl (lv_at hl 0 rfl) ?_
  refine lv_aload_n hx hb dX3_become_25 rfl (lv_at hl 1 rfl) ?_
  refine m_get hC hE hP (k_2 hq (by omega)) f_2 rfl u_3 3 (by decide) w_102 rfl rfl dX3_become_26 ?_
  refine m_top (y := M q 15 k) (by rw [setR_ne _ _ hne]) ?_
  refine m_put hC hE hI hP hS (k_2 hr (by omega)) e_2 rfl u_3 tyX3_ok nmX3 3 (by decide) w_102 rfl rfl rfl rfl (Nat.le_of_ble_eq_true rfl) p_2_3 (ent_put g M r (up2 (up2 (up2 v 12 k (M q 12 k)) 13 k (M q 13 k)) 14 k (M q 14 k)) o 15 k (M q 15 k) (kf_2 hr (by decide) (by decide))) dX3_become_29 (fun H locs hP hS => ?_)
  exact m_vret hC hr_ hlk hS (hP.castR (rfl)) dX3_become_32
set_option maxHeartbeats 4000000 in
set_option maxRecDepth 100000 in
theorem c_becomeL (l : Launch) {g : Gm} (hI : IJ g (KK g)) {M : Mem} {o : Nat → Int64} {r q : Nat} (hr : r < 2) (hq : q < 2) (hne : q ≠ r) {v : Vw} (hvq : Inv (M q)) : MV l yX1_become cX1_become 3 (rm 1 21) g (KK g) (ent g (setR M r v) o) [.ref (ad g (3, r, 0)), .ref (ad g (3, q, 0))] (ent g (setR M r (bec (M q) v)) o) := by
  refine met_of (by decide +kernel) (Nat.le_of_ble_eq_true rfl) ?_
  intro p e s m below meth c ls hC hr_ hlk hnm hE hP hS hl
  obtain ⟨hx, hb, hml, hown, hG⟩ := id hC
  have hl : lv_has ls 3 [(0, .ref (ad g (3, r, 0))), (1, .ref (ad g (3, q, 0)))] := hl
  have qH := hvq.lH
  have qS := hvq.lS
  have qW := hvq.lW
  refine lv_iconst (v := 0) hx hb dX1_become_0 (by decide) ?_
  refine lv_istore_n (lv' := [(2, .int ((0 : Int32))), (0, .ref (ad g (3, r, 0))), (1, .ref (ad g (3, q, 0)))]) hx hb dX1_become_1 rfl hl (by decide) rfl (fun ls hl => ?_)
  refine lp_W (i0 := 0) 81 (fun i => ent g (setR M r (it (b1 (M q)) i v)) o) (fun i => [(2, .int (nI i)), (0, .ref (ad g (3, r, 0))), (1, .ref (ad g (3, q, 0)))]) (fun i => True) (Nat.zero_le _) (hP.castR (rfl)) hS (lv_sub hl [0, 1, 2] rfl) (trivial) (fun H locs ls hP hS hl J => ?_) (fun i hi IH H locs ls hP hS hl J => ?_)
  · refine lv_iload_n hx hb dX1_become_2 rfl (lv_at hl 0 rfl) ?_
    refine lv_bipush (v := 81) hx hb dX1_become_3 (by decide) ?_
    refine lv_icmp_ge (tgt := 38) hx hb dX1_become_5 (by decide) (fun c1 => ?_) (fun c1 => absurd (by decide) c1)
    refine lv_iconst (v := 0) hx hb dX1_become_38 (by decide) ?_
    refine lv_istore_n (lv' := [(2, .int ((0 : Int32))), (0, .ref (ad g (3, r, 0))), (1, .ref (ad g (3, q, 0)))]) hx hb dX1_become_39 rfl hl (by decide) rfl (fun ls hl => ?_)
    refine lp_W (i0 := 0) 7 (fun i => ent g (setR M r (it (b2 (M q)) i (it (b1 (M q)) 81 v))) o) (fun i => [(2, .int (nI i)), (0, .ref (ad g (3, r, 0))), (1, .ref (ad g (3, q, 0)))]) (fun i => True) (Nat.zero_le _) (hP.castR (rfl)) hS (lv_sub hl [0, 1, 2] rfl) (trivial) (fun H locs ls hP hS hl J => ?_) (fun i hi IH H locs ls hP hS hl J => ?_)
    · refine lv_iload_n hx hb dX1_become_40 rfl (lv_at hl 0 rfl) ?_
      refine lv_bipush (v := 7) hx hb dX1_become_41 (by decide) ?_
      refine lv_icmp_ge (tgt := 64) hx hb dX1_become_43 (by decide) (fun c2 => ?_) (fun c2 => absurd (by decide) c2)
      refine lv_aload_n hx hb dX1_become_64 rfl (lv_at hl 1 rfl) ?_
      refine lv_aload_n hx hb dX1_become_65 rfl (lv_at hl 2 rfl) ?_
      refine m_get hC hE hP (k_3 hq) f_3 rfl u_1 6 (by decide) w_125 rfl rfl dX1_become_66 ?_
      refine m_top (y := M q 16 0) (by rw [setR_ne _ _ hne]) ?_
      refine m_put hC hE hI hP hS (k_3 hr) e_3 rfl u_1 tyX1_ok nmX1 6 (by decide) w_125 rfl rfl rfl rfl (Nat.le_of_ble_eq_true rfl) p_3_6 (ent_put g M r (it (b2 (M q)) 7 (it (b1 (M q)) 81 v)) o 16 0 (M q 16 0) (kf_3 hr)) dX1_become_69 (fun H locs hP hS => ?_)
      refine lv_iconst (v := 0) hx hb dX1_become_72 (by decide) ?_
      refine lv_istore_n (lv' := [(2, .int ((0 : Int32))), (0, .ref (ad g (3, r, 0))), (1, .ref (ad g (3, q, 0)))]) hx hb dX1_become_73 rfl hl (by decide) rfl (fun ls hl => ?_)
      refine lp_W (i0 := 0) (nH (M q)) (fun i => ent g (setR M r (it (b3 (M q)) i (bcA (M q) v))) o) (fun i => [(2, .int (nI i)), (0, .ref (ad g (3, r, 0))), (1, .ref (ad g (3, q, 0)))]) (fun i => True) (Nat.zero_le _) (hP.castR (rfl)) hS (lv_sub hl [0, 1, 2] rfl) (trivial) (fun H locs ls hP hS hl J => ?_) (fun i hi IH H locs ls hP hS hl J => ?_)
      · refine lv_iload_n hx hb dX1_become_74 rfl (lv_at hl 0 rfl) ?_
        refine lv_aload_n hx hb dX1_become_75 rfl (lv_at hl 1 rfl) ?_
        refine m_get hC hE hP (k_3 hr) e_3 rfl u_1 6 (by decide) w_125 rfl rfl dX1_become_76 ?_
        refine m_top (y := nI (nH (M q))) (((it_keep (fun _ _ => b3_ne (by decide)) _ _).trans (by simp [bcA, up2])).trans hvq.eH) ?_
        refine lv_icmp_ge (tgt := 103) hx hb dX1_become_79 (by decide) (fun c3 => ?_) (fun c3 => absurd (nI_le (Nat.le_refl _) (by omega)) c3)
        refine lv_aload_n hx hb dX1_become_103 rfl (lv_at hl 1 rfl) ?_
        refine lv_aload_n hx hb dX1_become_104 rfl (lv_at hl 2 rfl) ?_
        refine m_get hC hE hP (k_3 hq) f_3 rfl u_1 7 (by decide) w_127 rfl rfl dX1_become_105 ?_
        refine m_top (y := M q 16 1) (by rw [setR_ne _ _ hne]) ?_
        refine m_put hC hE hI hP hS (k_3 hr) e_3 rfl u_1 tyX1_ok nmX1 7 (by decide) w_127 rfl rfl rfl rfl (Nat.le_of_ble_eq_true rfl) p_3_7 (ent_put g M r (it (b3 (M q)) (nH (M q)) (bcA (M q) v)) o 16 1 (M q 16 1) (kf_3 hr)) dX1_become_108 (fun H locs hP hS => ?_)
        refine lv_iconst (v := 0) hx hb dX1_become_111 (by decide) ?_
        refine lv_istore_n (lv' := [(2, .int ((0 : Int32))), (0, .ref (ad g (3, r, 0))), (1, .ref (ad g (3, q, 0)))]) hx hb dX1_become_112 rfl hl (by decide) rfl (fun ls hl => ?_)
        refine lp_W (i0 := 0) (nS (M q)) (fun i => ent g (setR M r (it (b4 (M q)) i (bcB (M q) v))) o) (fun i => [(2, .int (nI i)), (0, .ref (ad g (3, r, 0))), (1, .ref (ad g (3, q, 0)))]) (fun i => True) (Nat.zero_le _) (hP.castR (rfl)) hS (lv_sub hl [0, 1, 2] rfl) (trivial) (fun H locs ls hP hS hl J => ?_) (fun i hi IH H locs ls hP hS hl J => ?_)
        · refine lv_iload_n hx hb dX1_become_113 rfl (lv_at hl 0 rfl) ?_
          refine lv_aload_n hx hb dX1_become_114 rfl (lv_at hl 1 rfl) ?_
          refine m_get hC hE hP (k_3 hr) e_3 rfl u_1 7 (by decide) w_127 rfl rfl dX1_become_115 ?_
          refine m_top (y := nI (nS (M q))) (((it_keep (fun _ _ => b4_ne (by decide)) _ _).trans (by simp [bcB, up2])).trans hvq.eS) ?_
          refine lv_icmp_ge (tgt := 142) hx hb dX1_become_118 (by decide) (fun c4 => ?_) (fun c4 => absurd (nI_le (Nat.le_refl _) (by omega)) c4)
          refine lv_aload_n hx hb dX1_become_142 rfl (lv_at hl 1 rfl) ?_
          refine lv_aload_n hx hb dX1_become_143 rfl (lv_at hl 2 rfl) ?_
          refine m_get hC hE hP (k_3 hq) f_3 rfl u_1 8 (by decide) w_129 rfl rfl dX1_become_144 ?_
          refine m_top (y := M q 16 2) (by rw [setR_ne _ _ hne]) ?_
          refine m_put hC hE hI hP hS (k_3 hr) e_3 rfl u_1 tyX1_ok nmX1 8 (by decide) w_129 rfl rfl rfl rfl (Nat.le_of_ble_eq_true rfl) p_3_8 (ent_put g M r (it (b4 (M q)) (nS (M q)) (bcB (M q) v)) o 16 2 (M q 16 2) (kf_3 hr)) dX1_become_147 (fun H locs hP hS => ?_)
          refine lv_iconst (v := 0) hx hb dX1_become_150 (by decide) ?_
          refine lv_istore_n (lv' := [(2, .int ((0 : Int32))), (0, .ref (ad g (3, r, 0))), (1, .ref (ad g (3, q, 0)))]) hx hb dX1_become_151 rfl hl (by decide) rfl (fun ls hl => ?_)
          refine lp_W (i0 := 0) (nW (M q)) (fun i => ent g (setR M r (it (b5 (M q)) i (bcC (M q) v))) o) (fun i => [(2, .int (nI i)), (0, .ref (ad g (3, r, 0))), (1, .ref (ad g (3, q, 0)))]) (fun i => True) (Nat.zero_le _) (hP.castR (rfl)) hS (lv_sub hl [0, 1, 2] rfl) (trivial) (fun H locs ls hP hS hl J => ?_) (fun i hi IH H locs ls hP hS hl J => ?_)
          · refine lv_iload_n hx hb dX1_become_152 rfl (lv_at hl 0 rfl) ?_
            refine lv_aload_n hx hb dX1_become_153 rfl (lv_at hl 1 rfl) ?_
            refine m_get hC hE hP (k_3 hr) e_3 rfl u_1 8 (by decide) w_129 rfl rfl dX1_become_154 ?_
            refine m_top (y := nI (nW (M q))) (((it_keep (fun _ _ => b5_ne (by decide)) _ _).trans (by simp [bcC, up2])).trans hvq.eW) ?_
            refine lv_icmp_ge (tgt := 181) hx hb dX1_become_157 (by decide) (fun c5 => ?_) (fun c5 => absurd (nI_le (Nat.le_refl _) (by omega)) c5)
            refine lv_aload_n hx hb dX1_become_181 rfl (lv_at hl 1 rfl) ?_
            refine lv_aload_n hx hb dX1_become_182 rfl (lv_at hl 2 rfl) ?_
            refine m_get hC hE hP (k_3 hq) f_3 rfl u_1 9 (by decide) w_131 rfl rfl dX1_become_183 ?_
            refine m_top (y := M q 16 3) (by rw [setR_ne _ _ hne]) ?_
            refine m_put hC hE hI hP hS (k_3 hr) e_3 rfl u_1 tyX1_ok nmX1 9 (by decide) w_131 rfl rfl rfl rfl (Nat.le_of_ble_eq_true rfl) p_3_9 (ent_put g M r (it (b5 (M q)) (nW (M q)) (bcC (M q) v)) o 16 3 (M q 16 3) (kf_3 hr)) dX1_become_186 (fun H locs hP hS => ?_)
            refine lv_aload_n hx hb dX1_become_189 rfl (lv_at hl 1 rfl) ?_
            refine lv_aload_n hx hb dX1_become_190 rfl (lv_at hl 2 rfl) ?_
            refine m_get hC hE hP (k_3 hq) f_3 rfl u_1 10 (by decide) w_133 rfl rfl dX1_become_191 ?_
            refine m_top (y := M q 16 4) (by rw [setR_ne _ _ hne]) ?_
            refine m_put hC hE hI hP hS (k_3 hr) e_3 rfl u_1 tyX1_ok nmX1 10 (by decide) w_133 rfl rfl rfl rfl (Nat.le_of_ble_eq_true rfl) p_3_10 (ent_put g M r (up2 (it (b5 (M q)) (nW (M q)) (bcC (M q) v)) 16 3 (M q 16 3)) o 16 4 (M q 16 4) (kf_3 hr)) dX1_become_194 (fun H locs hP hS => ?_)
            exact m_vret hC hr_ hlk hS (hP.castR (rfl)) dX1_become_197
          · refine lv_iload_n hx hb dX1_become_152 rfl (lv_at hl 0 rfl) ?_
            refine lv_aload_n hx hb dX1_become_153 rfl (lv_at hl 1 rfl) ?_
            refine m_get hC hE hP (k_3 hr) e_3 rfl u_1 8 (by decide) w_129 rfl rfl dX1_become_154 ?_
            refine m_top (y := nI (nW (M q))) (((it_keep (fun _ _ => b5_ne (by decide)) _ _).trans (by simp [bcC, up2])).trans hvq.eW) ?_
            refine lv_icmp_ge (tgt := 181) hx hb dX1_become_157 (by decide) (fun c6 => absurd c6 (nI_ge hi (by omega))) (fun c6 => ?_)
            refine lv_aload_n hx hb dX1_become_160 rfl (lv_at hl 1 rfl) ?_
            refine m_get hC hE hP (k_3 hr) e_3 rfl u_1 5 (by decide) w_123 rfl rfl dX1_become_161 ?_
            refine lv_iload_n hx hb dX1_become_164 rfl (lv_at hl 0 rfl) ?_
            refine m_aald hC hE hP (k_7 hr) f_7 rfl i (rfl) (by omega) (by decide) rfl dX1_become_165 ?_
            refine lv_aload_n hx hb dX1_become_166 rfl (lv_at hl 2 rfl) ?_
            refine m_get hC hE hP (k_3 hq) f_3 rfl u_1 5 (by decide) w_123 rfl rfl dX1_become_167 ?_
            refine lv_iload_n hx hb dX1_become_170 rfl (lv_at hl 0 rfl) ?_
            refine m_aald hC hE hP (k_7 hq) f_7 rfl i (rfl) (by omega) (by decide) rfl dX1_become_171 ?_
            refine on_v (run_V hC hE hP hS (As := [.ref (ad g (2, q, i))]) (c_becomeW l hI hr hq hne (v := it (b5 (M q)) i (bcC (M q) v)) i (by omega)) cal_X3_become w_473 ⟨Nat.le_of_ble_eq_true rfl, Nat.le_of_ble_eq_true rfl⟩ (k_2 hr (by omega)) e_2 rfl rfl rfl (Nat.le_of_ble_eq_true rfl) hl.1 ⟨Nat.le_of_ble_eq_true rfl, Nat.le_of_ble_eq_true rfl⟩ dX1_become_172) hS (fun H locs hP hS => ?_)
            refine lv_iinc (v := nI (i + 1)) (lv' := [(2, .int (nI (i + 1))), (0, .ref (ad g (3, r, 0))), (1, .ref (ad g (3, q, 0)))]) hx hb dX1_become_175 hl (k := 0) rfl (nI_1 _) (by decide) rfl (fun ls hl => ?_)
            refine lv_goto (tgt := 152) hx hb dX1_become_178 (by decide) ?_
            exact IH H locs ls (hP.castR (rfl)) hS (lv_sub hl [0, 1, 2] rfl) (trivial)
        · refine lv_iload_n hx hb dX1_become_113 rfl (lv_at hl 0 rfl) ?_
          refine lv_aload_n hx hb dX1_become_114 rfl (lv_at hl 1 rfl) ?_
          refine m_get hC hE hP (k_3 hr) e_3 rfl u_1 7 (by decide) w_127 rfl rfl dX1_become_115 ?_
          refine m_top (y := nI (nS (M q))) (((it_keep (fun _ _ => b4_ne (by decide)) _ _).trans (by simp [bcB, up2])).trans hvq.eS) ?_
          refine lv_icmp_ge (tgt := 142) hx hb dX1_become_118 (by decide) (fun c7 => absurd c7 (nI_ge hi (by omega))) (fun c7 => ?_)
          refine lv_aload_n hx hb dX1_become_121 rfl (lv_at hl 1 rfl) ?_
          refine m_get hC hE hP (k_3 hr) e_3 rfl u_1 4 (by decide) w_121 rfl rfl dX1_become_122 ?_
          refine lv_iload_n hx hb dX1_become_125 rfl (lv_at hl 0 rfl) ?_
          refine m_aald hC hE hP (k_6 hr) f_6 rfl i (rfl) (by omega) (by decide) rfl dX1_become_126 ?_
          refine lv_aload_n hx hb dX1_become_127 rfl (lv_at hl 2 rfl) ?_
          refine m_get hC hE hP (k_3 hq) f_3 rfl u_1 4 (by decide) w_121 rfl rfl dX1_become_128 ?_
          refine lv_iload_n hx hb dX1_become_131 rfl (lv_at hl 0 rfl) ?_
          refine m_aald hC hE hP (k_6 hq) f_6 rfl i (rfl) (by omega) (by decide) rfl dX1_become_132 ?_
          refine on_v (run_V hC hE hP hS (As := [.ref (ad g (1, q, i))]) (c_becomeS l hI hr hq hne (v := it (b4 (M q)) i (bcB (M q) v)) i (by omega)) cal_X2_become w_469 ⟨Nat.le_of_ble_eq_true rfl, Nat.le_of_ble_eq_true rfl⟩ (k_1 hr (by omega)) e_1 rfl rfl rfl (Nat.le_of_ble_eq_true rfl) hl.1 ⟨Nat.le_of_ble_eq_true rfl, Nat.le_of_ble_eq_true rfl⟩ dX1_become_133) hS (fun H locs hP hS => ?_)
          refine lv_iinc (v := nI (i + 1)) (lv' := [(2, .int (nI (i + 1))), (0, .ref (ad g (3, r, 0))), (1, .ref (ad g (3, q, 0)))]) hx hb dX1_become_136 hl (k := 0) rfl (nI_1 _) (by decide) rfl (fun ls hl => ?_)
          refine lv_goto (tgt := 113) hx hb dX1_become_139 (by decide) ?_
          exact IH H locs ls (hP.castR (rfl)) hS (lv_sub hl [0, 1, 2] rfl) (trivial)
      · refine lv_iload_n hx hb dX1_become_74 rfl (lv_at hl 0 rfl) ?_
        refine lv_aload_n hx hb dX1_become_75 rfl (lv_at hl 1 rfl) ?_
        refine m_get hC hE hP (k_3 hr) e_3 rfl u_1 6 (by decide) w_125 rfl rfl dX1_become_76 ?_
        refine m_top (y := nI (nH (M q))) (((it_keep (fun _ _ => b3_ne (by decide)) _ _).trans (by simp [bcA, up2])).trans hvq.eH) ?_
        refine lv_icmp_ge (tgt := 103) hx hb dX1_become_79 (by decide) (fun c8 => absurd c8 (nI_ge hi (by omega))) (fun c8 => ?_)
        refine lv_aload_n hx hb dX1_become_82 rfl (lv_at hl 1 rfl) ?_
        refine m_get hC hE hP (k_3 hr) e_3 rfl u_1 3 (by decide) w_119 rfl rfl dX1_become_83 ?_
        refine lv_iload_n hx hb dX1_become_86 rfl (lv_at hl 0 rfl) ?_
        refine m_aald hC hE hP (k_5 hr) f_5 rfl i (rfl) (by omega) (by decide) rfl dX1_become_87 ?_
        refine lv_aload_n hx hb dX1_become_88 rfl (lv_at hl 2 rfl) ?_
        refine m_get hC hE hP (k_3 hq) f_3 rfl u_1 3 (by decide) w_119 rfl rfl dX1_become_89 ?_
        refine lv_iload_n hx hb dX1_become_92 rfl (lv_at hl 0 rfl) ?_
        refine m_aald hC hE hP (k_5 hq) f_5 rfl i (rfl) (by omega) (by decide) rfl dX1_become_93 ?_
        refine on_v (run_V hC hE hP hS (As := [.ref (ad g (0, q, i))]) (c_becomeH l hI hr hq hne (v := it (b3 (M q)) i (bcA (M q) v)) i (by omega) (hvq.hH _ (by omega)).2.2) cal_X0_become w_465 ⟨Nat.le_of_ble_eq_true rfl, Nat.le_of_ble_eq_true rfl⟩ (k_0 hr (by omega)) e_0 rfl rfl rfl (Nat.le_of_ble_eq_true rfl) hl.1 ⟨Nat.le_of_ble_eq_true rfl, Nat.le_of_ble_eq_true rfl⟩ dX1_become_94) hS (fun H locs hP hS => ?_)
        refine lv_iinc (v := nI (i + 1)) (lv' := [(2, .int (nI (i + 1))), (0, .ref (ad g (3, r, 0))), (1, .ref (ad g (3, q, 0)))]) hx hb dX1_become_97 hl (k := 0) rfl (nI_1 _) (by decide) rfl (fun ls hl => ?_)
        refine lv_goto (tgt := 74) hx hb dX1_become_100 (by decide) ?_
        exact IH H locs ls (hP.castR (rfl)) hS (lv_sub hl [0, 1, 2] rfl) (trivial)
    · refine lv_iload_n hx hb dX1_become_40 rfl (lv_at hl 0 rfl) ?_
      refine lv_bipush (v := 7) hx hb dX1_become_41 (by decide) ?_
      refine lv_icmp_ge (tgt := 64) hx hb dX1_become_43 (by decide) (fun c9 => absurd c9 (nI_ge (b := 7) hi (by decide))) (fun c9 => ?_)
      refine lv_aload_n hx hb dX1_become_46 rfl (lv_at hl 1 rfl) ?_
      refine m_get hC hE hP (k_3 hr) e_3 rfl u_1 2 (by decide) w_117 rfl rfl dX1_become_47 ?_
      refine lv_iload_n hx hb dX1_become_50 rfl (lv_at hl 0 rfl) ?_
      refine lv_aload_n hx hb dX1_become_51 rfl (lv_at hl 2 rfl) ?_
      refine m_get hC hE hP (k_3 hq) f_3 rfl u_1 2 (by decide) w_117 rfl rfl dX1_become_52 ?_
      refine lv_iload_n hx hb dX1_become_55 rfl (lv_at hl 0 rfl) ?_
      refine m_iald hC hE hP (k_4 hq (by decide)) f_4 i (rfl) (show i < 7 from by omega) (by decide) dX1_become_56 ?_
      refine m_top (y := M q 2 i) (by rw [setR_ne _ _ hne]) ?_
      refine m_iast hC hE hI hP hS (k_4 hr (by decide)) e_4 i (rfl) (show i < 7 from by omega) (by decide) p_4 (ent_put g M r (it (b2 (M q)) i (it (b1 (M q)) 81 v)) o 2 i (M q 2 i) (kf_4 hr (by decide))) dX1_become_57 (fun H locs hP hS => ?_)
      refine lv_iinc (v := nI (i + 1)) (lv' := [(2, .int (nI (i + 1))), (0, .ref (ad g (3, r, 0))), (1, .ref (ad g (3, q, 0)))]) hx hb dX1_become_58 hl (k := 0) rfl (nI_1 _) (by decide) rfl (fun ls hl => ?_)
      refine lv_goto (tgt := 40) hx hb dX1_become_61 (by decide) ?_
      exact IH H locs ls (hP.castR (rfl)) hS (lv_sub hl [0, 1, 2] rfl) (trivial)
  · refine lv_iload_n hx hb dX1_become_2 rfl (lv_at hl 0 rfl) ?_
    refine lv_bipush (v := 81) hx hb dX1_become_3 (by decide) ?_
    refine lv_icmp_ge (tgt := 38) hx hb dX1_become_5 (by decide) (fun c10 => absurd c10 (nI_ge (b := 81) hi (by decide))) (fun c10 => ?_)
    refine lv_aload_n hx hb dX1_become_8 rfl (lv_at hl 1 rfl) ?_
    refine m_get hC hE hP (k_3 hr) e_3 rfl u_1 0 (by decide) w_113 rfl rfl dX1_become_9 ?_
    refine lv_iload_n hx hb dX1_become_12 rfl (lv_at hl 0 rfl) ?_
    refine lv_aload_n hx hb dX1_become_13 rfl (lv_at hl 2 rfl) ?_
    refine m_get hC hE hP (k_3 hq) f_3 rfl u_1 0 (by decide) w_113 rfl rfl dX1_become_14 ?_
    refine lv_iload_n hx hb dX1_become_17 rfl (lv_at hl 0 rfl) ?_
    refine m_iald hC hE hP (k_4 hq (by decide)) f_4 i (rfl) (show i < 81 from by omega) (by decide) dX1_become_18 ?_
    refine m_top (y := M q 0 i) (by rw [setR_ne _ _ hne]) ?_
    refine m_iast hC hE hI hP hS (k_4 hr (by decide)) e_4 i (rfl) (show i < 81 from by omega) (by decide) p_4 (ent_put g M r (it (b1 (M q)) i v) o 0 i (M q 0 i) (kf_4 hr (by decide))) dX1_become_19 (fun H locs hP hS => ?_)
    refine lv_aload_n hx hb dX1_become_20 rfl (lv_at hl 1 rfl) ?_
    refine m_get hC hE hP (k_3 hr) e_3 rfl u_1 1 (by decide) w_115 rfl rfl dX1_become_21 ?_
    refine lv_iload_n hx hb dX1_become_24 rfl (lv_at hl 0 rfl) ?_
    refine lv_aload_n hx hb dX1_become_25 rfl (lv_at hl 2 rfl) ?_
    refine m_get hC hE hP (k_3 hq) f_3 rfl u_1 1 (by decide) w_115 rfl rfl dX1_become_26 ?_
    refine lv_iload_n hx hb dX1_become_29 rfl (lv_at hl 0 rfl) ?_
    refine m_iald hC hE hP (k_4 hq (by decide)) f_4 i (rfl) (show i < 81 from by omega) (by decide) dX1_become_30 ?_
    refine m_top (y := M q 1 i) (by rw [setR_ne _ _ hne]) ?_
    refine m_iast hC hE hI hP hS (k_4 hr (by decide)) e_4 i (rfl) (show i < 81 from by omega) (by decide) p_4 (ent_put g M r (up2 (it (b1 (M q)) i v) 0 i (M q 0 i)) o 1 i (M q 1 i) (kf_4 hr (by decide))) dX1_become_31 (fun H locs hP hS => ?_)
    refine lv_iinc (v := nI (i + 1)) (lv' := [(2, .int (nI (i + 1))), (0, .ref (ad g (3, r, 0))), (1, .ref (ad g (3, q, 0)))]) hx hb dX1_become_32 hl (k := 0) rfl (nI_1 _) (by decide) rfl (fun ls hl => ?_)
    refine lv_goto (tgt := 2) hx hb dX1_become_35 (by decide) ?_
    exact IH H locs ls (hP.castR (rfl)) hS (lv_sub hl [0, 1, 2] rfl) (trivial)
