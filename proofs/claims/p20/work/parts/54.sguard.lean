/-! the law's own picture: a warden -/
theorem dX5_guard_0 : decode cX5_guard 0 = .ok (.iconst (-1), 1) := by decide +kernel
theorem dX5_guard_1 : decode cX5_guard 1 = .ok (.istore_n 2, 1) := by decide +kernel
theorem dX5_guard_2 : decode cX5_guard 2 = .ok (.iconst 0, 1) := by decide +kernel
theorem dX5_guard_3 : decode cX5_guard 3 = .ok (.istore_n 3, 1) := by decide +kernel
theorem dX5_guard_4 : decode cX5_guard 4 = .ok (.iload_n 3, 1) := by decide +kernel
theorem dX5_guard_5 : decode cX5_guard 5 = .ok (.bipush 9, 2) := by decide +kernel
theorem dX5_guard_7 : decode cX5_guard 7 = .ok (.if_icmp .ge 60, 3) := by decide +kernel
theorem dX5_guard_10 : decode cX5_guard 10 = .ok (.iload_n 2, 1) := by decide +kernel
theorem dX5_guard_11 : decode cX5_guard 11 = .ok (.ifCond .ge 56, 3) := by decide +kernel
theorem dX5_guard_14 : decode cX5_guard 14 = .ok (.aload_n 0, 1) := by decide +kernel
theorem dX5_guard_15 : decode cX5_guard 15 = .ok (.getfield 22, 3) := by decide +kernel
theorem dX5_guard_18 : decode cX5_guard 18 = .ok (.arraylength, 1) := by decide +kernel
theorem dX5_guard_19 : decode cX5_guard 19 = .ok (.iconst 1, 1) := by decide +kernel
theorem dX5_guard_20 : decode cX5_guard 20 = .ok (.isub, 1) := by decide +kernel
theorem dX5_guard_21 : decode cX5_guard 21 = .ok (.istore 4, 2) := by decide +kernel
theorem dX5_guard_23 : decode cX5_guard 23 = .ok (.iload 4, 2) := by decide +kernel
theorem dX5_guard_25 : decode cX5_guard 25 = .ok (.ifCond .lt 36, 3) := by decide +kernel
theorem dX5_guard_28 : decode cX5_guard 28 = .ok (.aload_n 1, 1) := by decide +kernel
theorem dX5_guard_29 : decode cX5_guard 29 = .ok (.aload_n 0, 1) := by decide +kernel
theorem dX5_guard_30 : decode cX5_guard 30 = .ok (.getfield 22, 3) := by decide +kernel
theorem dX5_guard_33 : decode cX5_guard 33 = .ok (.iload 4, 2) := by decide +kernel
theorem dX5_guard_35 : decode cX5_guard 35 = .ok (.aaload, 1) := by decide +kernel
theorem dX5_guard_36 : decode cX5_guard 36 = .ok (.invokestatic 53, 3) := by decide +kernel
theorem dX5_guard_39 : decode cX5_guard 39 = .ok (.iload_n 3, 1) := by decide +kernel
theorem dX5_guard_40 : decode cX5_guard 40 = .ok (.if_icmp .ne 15, 3) := by decide +kernel
theorem dX5_guard_43 : decode cX5_guard 43 = .ok (.aload_n 0, 1) := by decide +kernel
theorem dX5_guard_44 : decode cX5_guard 44 = .ok (.iload 4, 2) := by decide +kernel
theorem dX5_guard_46 : decode cX5_guard 46 = .ok (.invokevirtual 57, 3) := by decide +kernel
theorem dX5_guard_49 : decode cX5_guard 49 = .ok (.ifCond .eq 6, 3) := by decide +kernel
theorem dX5_guard_52 : decode cX5_guard 52 = .ok (.iload 4, 2) := by decide +kernel
theorem dX5_guard_54 : decode cX5_guard 54 = .ok (.istore_n 2, 1) := by decide +kernel
theorem dX5_guard_55 : decode cX5_guard 55 = .ok (.iinc 4 (-1), 3) := by decide +kernel
theorem dX5_guard_58 : decode cX5_guard 58 = .ok (.goto (-35), 3) := by decide +kernel
theorem dX5_guard_61 : decode cX5_guard 61 = .ok (.iinc 3 1, 3) := by decide +kernel
theorem dX5_guard_64 : decode cX5_guard 64 = .ok (.goto (-60), 3) := by decide +kernel
theorem dX5_guard_67 : decode cX5_guard 67 = .ok (.iload_n 2, 1) := by decide +kernel
theorem dX5_guard_68 : decode cX5_guard 68 = .ok (.ifCond .ge 4, 3) := by decide +kernel
theorem dX5_guard_71 : decode cX5_guard 71 = .ok (.return_, 1) := by decide +kernel
theorem dX5_guard_72 : decode cX5_guard 72 = .ok (.aload_n 0, 1) := by decide +kernel
theorem dX5_guard_73 : decode cX5_guard 73 = .ok (.getfield 22, 3) := by decide +kernel
theorem dX5_guard_76 : decode cX5_guard 76 = .ok (.iload_n 2, 1) := by decide +kernel
theorem dX5_guard_77 : decode cX5_guard 77 = .ok (.aaload, 1) := by decide +kernel
theorem dX5_guard_78 : decode cX5_guard 78 = .ok (.astore_n 3, 1) := by decide +kernel
theorem dX5_guard_79 : decode cX5_guard 79 = .ok (.iconst 0, 1) := by decide +kernel
theorem dX5_guard_80 : decode cX5_guard 80 = .ok (.istore 4, 2) := by decide +kernel
theorem dX5_guard_82 : decode cX5_guard 82 = .ok (.iload 4, 2) := by decide +kernel
theorem dX5_guard_84 : decode cX5_guard 84 = .ok (.iconst 2, 1) := by decide +kernel
theorem dX5_guard_85 : decode cX5_guard 85 = .ok (.if_icmp .ge 59, 3) := by decide +kernel
theorem dX5_guard_88 : decode cX5_guard 88 = .ok (.aload_n 3, 1) := by decide +kernel
theorem dX5_guard_89 : decode cX5_guard 89 = .ok (.iload 4, 2) := by decide +kernel
theorem dX5_guard_91 : decode cX5_guard 91 = .ok (.iaload, 1) := by decide +kernel
theorem dX5_guard_92 : decode cX5_guard 92 = .ok (.aload_n 1, 1) := by decide +kernel
theorem dX5_guard_93 : decode cX5_guard 93 = .ok (.iload 4, 2) := by decide +kernel
theorem dX5_guard_95 : decode cX5_guard 95 = .ok (.iaload, 1) := by decide +kernel
theorem dX5_guard_96 : decode cX5_guard 96 = .ok (.isub, 1) := by decide +kernel
theorem dX5_guard_97 : decode cX5_guard 97 = .ok (.istore 5, 2) := by decide +kernel
theorem dX5_guard_99 : decode cX5_guard 99 = .ok (.aload_n 1, 1) := by decide +kernel
theorem dX5_guard_100 : decode cX5_guard 100 = .ok (.iload 4, 2) := by decide +kernel
theorem dX5_guard_102 : decode cX5_guard 102 = .ok (.dup2, 1) := by decide +kernel
theorem dX5_guard_103 : decode cX5_guard 103 = .ok (.iaload, 1) := by decide +kernel
theorem dX5_guard_104 : decode cX5_guard 104 = .ok (.iload 5, 2) := by decide +kernel
theorem dX5_guard_106 : decode cX5_guard 106 = .ok (.aload_n 1, 1) := by decide +kernel
theorem dX5_guard_107 : decode cX5_guard 107 = .ok (.iconst 2, 1) := by decide +kernel
theorem dX5_guard_108 : decode cX5_guard 108 = .ok (.iaload, 1) := by decide +kernel
theorem dX5_guard_109 : decode cX5_guard 109 = .ok (.if_icmp .le 9, 3) := by decide +kernel
theorem dX5_guard_112 : decode cX5_guard 112 = .ok (.aload_n 1, 1) := by decide +kernel
theorem dX5_guard_113 : decode cX5_guard 113 = .ok (.iconst 2, 1) := by decide +kernel
theorem dX5_guard_114 : decode cX5_guard 114 = .ok (.iaload, 1) := by decide +kernel
theorem dX5_guard_115 : decode cX5_guard 115 = .ok (.goto 21, 3) := by decide +kernel
theorem dX5_guard_118 : decode cX5_guard 118 = .ok (.iload 5, 2) := by decide +kernel
theorem dX5_guard_120 : decode cX5_guard 120 = .ok (.aload_n 1, 1) := by decide +kernel
theorem dX5_guard_121 : decode cX5_guard 121 = .ok (.iconst 2, 1) := by decide +kernel
theorem dX5_guard_122 : decode cX5_guard 122 = .ok (.iaload, 1) := by decide +kernel
theorem dX5_guard_123 : decode cX5_guard 123 = .ok (.ineg, 1) := by decide +kernel
theorem dX5_guard_124 : decode cX5_guard 124 = .ok (.if_icmp .ge 10, 3) := by decide +kernel
theorem dX5_guard_127 : decode cX5_guard 127 = .ok (.aload_n 1, 1) := by decide +kernel
theorem dX5_guard_128 : decode cX5_guard 128 = .ok (.iconst 2, 1) := by decide +kernel
theorem dX5_guard_129 : decode cX5_guard 129 = .ok (.iaload, 1) := by decide +kernel
theorem dX5_guard_130 : decode cX5_guard 130 = .ok (.ineg, 1) := by decide +kernel
theorem dX5_guard_131 : decode cX5_guard 131 = .ok (.goto 5, 3) := by decide +kernel
theorem dX5_guard_134 : decode cX5_guard 134 = .ok (.iload 5, 2) := by decide +kernel
theorem dX5_guard_136 : decode cX5_guard 136 = .ok (.iadd, 1) := by decide +kernel
theorem dX5_guard_137 : decode cX5_guard 137 = .ok (.iastore, 1) := by decide +kernel
theorem dX5_guard_138 : decode cX5_guard 138 = .ok (.iinc 4 1, 3) := by decide +kernel
theorem dX5_guard_141 : decode cX5_guard 141 = .ok (.goto (-59), 3) := by decide +kernel
theorem dX5_guard_144 : decode cX5_guard 144 = .ok (.aload_n 1, 1) := by decide +kernel
theorem dX5_guard_145 : decode cX5_guard 145 = .ok (.aload_n 3, 1) := by decide +kernel
theorem dX5_guard_146 : decode cX5_guard 146 = .ok (.invokestatic 53, 3) := by decide +kernel
theorem dX5_guard_149 : decode cX5_guard 149 = .ok (.ifCond .le 4, 3) := by decide +kernel
theorem dX5_guard_152 : decode cX5_guard 152 = .ok (.return_, 1) := by decide +kernel
theorem dX5_guard_153 : decode cX5_guard 153 = .ok (.aload_n 0, 1) := by decide +kernel
theorem dX5_guard_154 : decode cX5_guard 154 = .ok (.getfield 25, 3) := by decide +kernel
theorem dX5_guard_157 : decode cX5_guard 157 = .ok (.astore 4, 2) := by decide +kernel
theorem dX5_guard_159 : decode cX5_guard 159 = .ok (.aload 4, 2) := by decide +kernel
theorem dX5_guard_161 : decode cX5_guard 161 = .ok (.arraylength, 1) := by decide +kernel
theorem dX5_guard_162 : decode cX5_guard 162 = .ok (.istore 5, 2) := by decide +kernel
theorem dX5_guard_164 : decode cX5_guard 164 = .ok (.iconst 0, 1) := by decide +kernel
theorem dX5_guard_165 : decode cX5_guard 165 = .ok (.istore 6, 2) := by decide +kernel
theorem dX5_guard_167 : decode cX5_guard 167 = .ok (.iload 6, 2) := by decide +kernel
theorem dX5_guard_169 : decode cX5_guard 169 = .ok (.iload 5, 2) := by decide +kernel
theorem dX5_guard_171 : decode cX5_guard 171 = .ok (.if_icmp .ge 111, 3) := by decide +kernel
theorem dX5_guard_174 : decode cX5_guard 174 = .ok (.aload 4, 2) := by decide +kernel
theorem dX5_guard_176 : decode cX5_guard 176 = .ok (.iload 6, 2) := by decide +kernel
theorem dX5_guard_178 : decode cX5_guard 178 = .ok (.aaload, 1) := by decide +kernel
theorem dX5_guard_179 : decode cX5_guard 179 = .ok (.astore 7, 2) := by decide +kernel
theorem dX5_guard_181 : decode cX5_guard 181 = .ok (.aload 7, 2) := by decide +kernel
theorem dX5_guard_183 : decode cX5_guard 183 = .ok (.iconst 2, 1) := by decide +kernel
theorem dX5_guard_184 : decode cX5_guard 184 = .ok (.iaload, 1) := by decide +kernel
theorem dX5_guard_185 : decode cX5_guard 185 = .ok (.iload_n 2, 1) := by decide +kernel
theorem dX5_guard_186 : decode cX5_guard 186 = .ok (.if_icmp .ne 90, 3) := by decide +kernel
theorem dX5_guard_189 : decode cX5_guard 189 = .ok (.aload 7, 2) := by decide +kernel
theorem dX5_guard_191 : decode cX5_guard 191 = .ok (.iconst 3, 1) := by decide +kernel
theorem dX5_guard_192 : decode cX5_guard 192 = .ok (.iaload, 1) := by decide +kernel
theorem dX5_guard_193 : decode cX5_guard 193 = .ok (.aload 7, 2) := by decide +kernel
theorem dX5_guard_195 : decode cX5_guard 195 = .ok (.iconst 0, 1) := by decide +kernel
theorem dX5_guard_196 : decode cX5_guard 196 = .ok (.iaload, 1) := by decide +kernel
theorem dX5_guard_197 : decode cX5_guard 197 = .ok (.if_icmp .gt 6, 3) := by decide +kernel
theorem dX5_guard_200 : decode cX5_guard 200 = .ok (.goto 76, 3) := by decide +kernel
theorem dX5_guard_203 : decode cX5_guard 203 = .ok (.aload_n 0, 1) := by decide +kernel
theorem dX5_guard_204 : decode cX5_guard 204 = .ok (.getfield 9, 3) := by decide +kernel
theorem dX5_guard_207 : decode cX5_guard 207 = .ok (.aload_n 3, 1) := by decide +kernel
theorem dX5_guard_208 : decode cX5_guard 208 = .ok (.iconst 0, 1) := by decide +kernel
theorem dX5_guard_209 : decode cX5_guard 209 = .ok (.iaload, 1) := by decide +kernel
theorem dX5_guard_210 : decode cX5_guard 210 = .ok (.aaload, 1) := by decide +kernel
theorem dX5_guard_211 : decode cX5_guard 211 = .ok (.aload_n 3, 1) := by decide +kernel
theorem dX5_guard_212 : decode cX5_guard 212 = .ok (.iconst 1, 1) := by decide +kernel
theorem dX5_guard_213 : decode cX5_guard 213 = .ok (.iaload, 1) := by decide +kernel
theorem dX5_guard_214 : decode cX5_guard 214 = .ok (.iaload, 1) := by decide +kernel
theorem dX5_guard_215 : decode cX5_guard 215 = .ok (.aload 7, 2) := by decide +kernel
theorem dX5_guard_217 : decode cX5_guard 217 = .ok (.iconst 3, 1) := by decide +kernel
theorem dX5_guard_218 : decode cX5_guard 218 = .ok (.iaload, 1) := by decide +kernel
theorem dX5_guard_219 : decode cX5_guard 219 = .ok (.iadd, 1) := by decide +kernel
theorem dX5_guard_220 : decode cX5_guard 220 = .ok (.aload 7, 2) := by decide +kernel
theorem dX5_guard_222 : decode cX5_guard 222 = .ok (.iconst 0, 1) := by decide +kernel
theorem dX5_guard_223 : decode cX5_guard 223 = .ok (.iaload, 1) := by decide +kernel
theorem dX5_guard_224 : decode cX5_guard 224 = .ok (.isub, 1) := by decide +kernel
theorem dX5_guard_225 : decode cX5_guard 225 = .ok (.istore 8, 2) := by decide +kernel
theorem dX5_guard_227 : decode cX5_guard 227 = .ok (.aload_n 0, 1) := by decide +kernel
theorem dX5_guard_228 : decode cX5_guard 228 = .ok (.getfield 9, 3) := by decide +kernel
theorem dX5_guard_231 : decode cX5_guard 231 = .ok (.aload_n 3, 1) := by decide +kernel
theorem dX5_guard_232 : decode cX5_guard 232 = .ok (.iconst 0, 1) := by decide +kernel
theorem dX5_guard_233 : decode cX5_guard 233 = .ok (.iaload, 1) := by decide +kernel
theorem dX5_guard_234 : decode cX5_guard 234 = .ok (.aaload, 1) := by decide +kernel
theorem dX5_guard_235 : decode cX5_guard 235 = .ok (.aload_n 3, 1) := by decide +kernel
theorem dX5_guard_236 : decode cX5_guard 236 = .ok (.iconst 1, 1) := by decide +kernel
theorem dX5_guard_237 : decode cX5_guard 237 = .ok (.iaload, 1) := by decide +kernel
theorem dX5_guard_238 : decode cX5_guard 238 = .ok (.iload 8, 2) := by decide +kernel
theorem dX5_guard_240 : decode cX5_guard 240 = .ok (.bipush 60, 2) := by decide +kernel
theorem dX5_guard_242 : decode cX5_guard 242 = .ok (.if_icmp .le 8, 3) := by decide +kernel
theorem dX5_guard_245 : decode cX5_guard 245 = .ok (.bipush 60, 2) := by decide +kernel
theorem dX5_guard_247 : decode cX5_guard 247 = .ok (.goto 5, 3) := by decide +kernel
theorem dX5_guard_250 : decode cX5_guard 250 = .ok (.iload 8, 2) := by decide +kernel
theorem dX5_guard_252 : decode cX5_guard 252 = .ok (.iastore, 1) := by decide +kernel
theorem dX5_guard_253 : decode cX5_guard 253 = .ok (.aload 7, 2) := by decide +kernel
theorem dX5_guard_255 : decode cX5_guard 255 = .ok (.iconst 3, 1) := by decide +kernel
theorem dX5_guard_256 : decode cX5_guard 256 = .ok (.aload 7, 2) := by decide +kernel
theorem dX5_guard_258 : decode cX5_guard 258 = .ok (.iconst 0, 1) := by decide +kernel
theorem dX5_guard_259 : decode cX5_guard 259 = .ok (.iaload, 1) := by decide +kernel
theorem dX5_guard_260 : decode cX5_guard 260 = .ok (.iastore, 1) := by decide +kernel
theorem dX5_guard_261 : decode cX5_guard 261 = .ok (.aload 7, 2) := by decide +kernel
theorem dX5_guard_263 : decode cX5_guard 263 = .ok (.iconst 5, 1) := by decide +kernel
theorem dX5_guard_264 : decode cX5_guard 264 = .ok (.dup2, 1) := by decide +kernel
theorem dX5_guard_265 : decode cX5_guard 265 = .ok (.iaload, 1) := by decide +kernel
theorem dX5_guard_266 : decode cX5_guard 266 = .ok (.iconst 1, 1) := by decide +kernel
theorem dX5_guard_267 : decode cX5_guard 267 = .ok (.iadd, 1) := by decide +kernel
theorem dX5_guard_268 : decode cX5_guard 268 = .ok (.iastore, 1) := by decide +kernel
theorem dX5_guard_269 : decode cX5_guard 269 = .ok (.aload_n 1, 1) := by decide +kernel
theorem dX5_guard_270 : decode cX5_guard 270 = .ok (.iconst 3, 1) := by decide +kernel
theorem dX5_guard_271 : decode cX5_guard 271 = .ok (.dup2, 1) := by decide +kernel
theorem dX5_guard_272 : decode cX5_guard 272 = .ok (.iaload, 1) := by decide +kernel
theorem dX5_guard_273 : decode cX5_guard 273 = .ok (.iconst 1, 1) := by decide +kernel
theorem dX5_guard_274 : decode cX5_guard 274 = .ok (.iadd, 1) := by decide +kernel
theorem dX5_guard_275 : decode cX5_guard 275 = .ok (.iastore, 1) := by decide +kernel
theorem dX5_guard_276 : decode cX5_guard 276 = .ok (.iinc 6 1, 3) := by decide +kernel
theorem dX5_guard_279 : decode cX5_guard 279 = .ok (.goto (-112), 3) := by decide +kernel
theorem dX5_guard_282 : decode cX5_guard 282 = .ok (.return_, 1) := by decide +kernel
theorem W_joinL {p : Program} {l : Launch} {e : Jvm.Env} {R : Room} {s : State} {m : MethodId} {args : Array Value} {below : List Frame} {meth : Method} {c : Code} {H : Heap} {locs : List Loc} {cells slots : Nat} {Q : State → Prop} {nL : Nat} {g : Gm} {K : Key → Prop} (en : Key → va_E) (lv : List (Nat × Value)) {pc : Nat} (st : List Value) {gf : JFrame}
    (a : (∀ (H1 : Heap) (locs1 : List Loc) (ls : Array Slot), WPe g K en H1 → va_S (AA g) s.heap H1 locs1 → lv_has ls nL lv → W p l e R s m args below meth c H1 locs1 cells slots Q (F0 m pc ls st)) → W p l e R s m args below meth c H locs cells slots Q gf)
    (b : ∀ (H1 : Heap) (locs1 : List Loc) (ls : Array Slot), WPe g K en H1 → va_S (AA g) s.heap H1 locs1 → lv_has ls nL lv → W p l e R s m args below meth c H1 locs1 cells slots Q (F0 m pc ls st)) : W p l e R s m args below meth c H locs cells slots Q gf := a b
/-- at hole h somebody is over, and it is d far -/
def sp (v : Vw) (w d h : Nat) : Bool := decide (farW v w h = nI d) && anyB (ovr v h) (nS v)
def sg (v : Vw) (w d : Nat) : Int32 := fst1 (sp v w d) (nH v)
def gq (v : Vw) (w : Nat) : Nat → Int32
  | 0 => -1
  | d + 1 => sg v w d
/-- from the last place down -/
def dsc (p : Nat → Bool) (n : Nat) : Nat → Int32
  | 0 => -1
  | i + 1 => if p (n - 1 - i) = true then nI (n - 1 - i) else dsc p n i
theorem dsc_i (p : Nat → Bool) (n : Nat) : ∀ i, i ≤ n → (dsc p n i = -1 ∧ ∀ h, n - i ≤ h → h < n → p h = false) ∨ ∃ h, n - i ≤ h ∧ h < n ∧ p h = true ∧ (∀ j, n - i ≤ j → j < h → p j = false) ∧ dsc p n i = nI h
  | 0, _ => Or.inl ⟨rfl, fun h h1 h2 => by omega⟩
  | i + 1, hi => by
    by_cases q : p (n - 1 - i) = true
    · refine Or.inr ⟨n - 1 - i, by omega, by omega, q, fun j h1 h2 => by omega, if_pos q⟩
    · have q0 : p (n - 1 - i) = false := by cases h : p (n - 1 - i) with
        | true => exact absurd h q
        | false => rfl
      have e : dsc p n (i + 1) = dsc p n i := if_neg q
      rw [e]
      rcases dsc_i p n i (by omega) with ⟨h1, h2⟩ | ⟨h, h1, h2, h3, h4, h5⟩
      · refine Or.inl ⟨h1, fun j h3 h4 => ?_⟩
        by_cases z : j = n - 1 - i
        · rw [z]; exact q0
        · exact h2 j (by omega) h4
      · refine Or.inr ⟨h, by omega, h2, h3, fun j h6 h7 => ?_, h5⟩
        by_cases z : j = n - 1 - i
        · rw [z]; exact q0
        · exact h4 j (by omega) h7
theorem dsc_n (p : Nat → Bool) (n : Nat) : dsc p n n = fst1 p n := by
  rcases dsc_i p n n (Nat.le_refl _) with ⟨h1, h2⟩ | ⟨h, h1, h2, h3, h4, h5⟩
  · rw [h1, fst1_no (fun j hj => h2 j (by omega) hj)]
  · rw [h5, fst1_yes (fun j hj => h4 j (by omega) hj) h3 h2]
theorem farW_n {v : Vw} (hv : Inv v) {w h : Nat} (hw : w < nW v) (hh : h < nH v) : ∃ d, d < 9 ∧ farW v w h = nI d := by
  obtain ⟨a, ha, ea⟩ := (hv.hW w hw).1
  obtain ⟨b, hb, eb⟩ := (hv.hW w hw).2
  obtain ⟨x, hx, ex⟩ := (hv.hH h hh).1
  obtain ⟨y, hy, ey⟩ := (hv.hH h hh).2.1
  refine ⟨max (dst a x) (dst b y), by unfold dst; omega, ?_⟩
  unfold farW
  rw [ea, eb, ex, ey]
  exact far_nI (by omega) (by omega) (by omega) (by omega)
/-- what the goal is -/
def Gq (v : Vw) (w n : Nat) (q : Int32 × Int32) : Prop := (q.1 = -1 ∧ q.2 = 9 ∧ ∀ h, h < n → anyB (ovr v h) (nS v) = false) ∨ ∃ h d, h < n ∧ d < 9 ∧ q.1 = nI h ∧ q.2 = nI d ∧ farW v w h = nI d ∧ anyB (ovr v h) (nS v) = true ∧ (∀ j e, j < n → farW v w j = nI e → e < 9 → anyB (ovr v j) (nS v) = true → d ≤ e) ∧ ∀ j, j < h → anyB (ovr v j) (nS v) = true → ¬ farW v w j = nI d
theorem Gq_i {v : Vw} (hv : Inv v) {w : Nat} (hw : w < nW v) : ∀ n, n ≤ nH v → Gq v w n (it (golS v w) n (-1, 9))
  | 0, _ => Or.inl ⟨rfl, rfl, fun h hh => absurd hh (Nat.not_lt_zero _)⟩
  | n + 1, hn => by
    have ih := Gq_i hv hw n (by omega)
    have e : it (golS v w) (n + 1) (-1, 9) = golS v w n (it (golS v w) n (-1, 9)) := rfl
    rw [e]
    generalize it (golS v w) n (-1, 9) = q at ih ⊢
    obtain ⟨f, hf, ef⟩ := farW_n hv hw (h := n) (by omega)
    unfold golS
    by_cases ho : anyB (ovr v n) (nS v) = true
    · rcases ih with ⟨a1, a2, a3⟩ | ⟨h, d, h1, h2, h3, h4, h5, h6, h7, h8⟩
      · rw [if_pos ⟨ho, by rw [ef, a2, Int32.lt_iff_toInt_lt, nI_toInt (by omega)]; have : (9 : Int32).toInt = 9 := by decide
                           omega⟩]
        refine Or.inr ⟨n, f, by omega, hf, rfl, ef, ef, ho, fun j e2 hj he h9 hoj => ?_, fun j hj hoj => ?_⟩
        · by_cases z : j = n
          · rw [z, ef] at he
            rw [nI_inj (by omega) (by omega) he]
            exact Nat.le_refl _
          · rw [a3 j (by omega)] at hoj
            cases hoj
        · rw [a3 j (by omega)] at hoj
          cases hoj
      · by_cases hlt : farW v w n < q.2
        · rw [if_pos ⟨ho, hlt⟩]
          rw [ef, h4, Int32.lt_iff_toInt_lt, nI_toInt (by omega), nI_toInt (by omega)] at hlt
          refine Or.inr ⟨n, f, by omega, hf, rfl, ef, ef, ho, fun j e2 hj he h9 hoj => ?_, fun j hj hoj he => ?_⟩
          · by_cases z : j = n
            · rw [z, ef] at he
              rw [nI_inj (by omega) (by omega) he]
              exact Nat.le_refl _
            · have := h7 j e2 (by omega) he h9 hoj
              omega
          · have := h7 j f hj he hf hoj
            omega
        · rw [if_neg (fun z => hlt z.2)]
          rw [ef, h4, Int32.lt_iff_toInt_lt, nI_toInt (by omega), nI_toInt (by omega)] at hlt
          refine Or.inr ⟨h, d, by omega, h2, h3, h4, h5, h6, fun j e2 hj he h9 hoj => ?_, h8⟩
          by_cases z : j = n
          · rw [z, ef] at he
            have := nI_inj (by omega) (by omega) he
            omega
          · exact h7 j e2 (by omega) he h9 hoj
    · have ho0 : anyB (ovr v n) (nS v) = false := by cases h : anyB (ovr v n) (nS v) with
        | true => exact absurd h ho
        | false => rfl
      rw [if_neg (fun z => ho z.1)]
      rcases ih with ⟨a1, a2, a3⟩ | ⟨h, d, h1, h2, h3, h4, h5, h6, h7, h8⟩
      · refine Or.inl ⟨a1, a2, fun j hj => ?_⟩
        by_cases z : j = n
        · rw [z]; exact ho0
        · exact a3 j (by omega)
      · refine Or.inr ⟨h, d, by omega, h2, h3, h4, h5, h6, fun j e2 hj he h9 hoj => ?_, h8⟩
        by_cases z : j = n
        · rw [z, ho0] at hoj; cases hoj
        · exact h7 j e2 (by omega) he h9 hoj
theorem fst1_neg {p : Nat → Bool} {n : Nat} (hn : n < 2 ^ 31) (h : fst1 p n = -1) : ∀ j, j < n → p j = false := by
  intro j hj
  cases q : p j with
  | false => rfl
  | true =>
    exfalso
    have : ∃ i, i < n ∧ p i = true ∧ ∀ k, k < i → p k = false := by
      clear h
      induction j using Nat.strongRecOn with
      | ind j ih =>
        by_cases z : ∃ k, k < j ∧ p k = true
        · obtain ⟨k, k1, k2⟩ := z
          exact ih k k1 (by omega) k2
        · refine ⟨j, hj, q, fun k hk => ?_⟩
          cases r : p k with
          | false => rfl
          | true => exact absurd ⟨k, hk, r⟩ z
    obtain ⟨i, h1, h2, h3⟩ := this
    rw [fst1_yes h3 h2 h1] at h
    exact m1_ne i (by omega) h
theorem sg_all {v : Vw} (hv : Inv v) {w d : Nat} (h : sg v w d = -1) {j : Nat} (hj : j < nH v) (hf : farW v w j = nI d) : anyB (ovr v j) (nS v) = false := by
  have qH := hv.lH
  have := fst1_neg (by omega) h j hj
  unfold sp at this
  rw [decide_eq_true hf] at this
  exact this
theorem gol_q {v : Vw} (hv : Inv v) {w : Nat} (hw : w < nW v) {d : Nat} (hJ : ∀ k, k + 1 < d → sg v w k = -1) (hd : d ≤ 9) (h9 : d = 9 ∨ ¬ gq v w d = -1) : gol v w = gq v w d := by
  have qH := hv.lH
  have hg := Gq_i hv hw (nH v) (Nat.le_refl _)
  unfold gol
  generalize it (golS v w) (nH v) (-1, 9) = q at hg ⊢
  obtain ⟨d, rfl⟩ : ∃ k, d = k + 1 := by
    cases d with
    | zero => exact (h9.elim (fun z => by omega) (fun z => absurd rfl z))
    | succ k => exact ⟨k, rfl⟩
  show q.1 = sg v w d
  rcases hg with ⟨a1, a2, a3⟩ | ⟨h, e, h1, h2, h3, h4, h5, h6, h7, h8⟩
  · rw [a1]
    unfold sg
    rw [fst1_no (fun j hj => by unfold sp; rw [a3 j hj, Bool.and_false])]
  · have hle : d ≤ e := by
      rcases Nat.lt_or_ge e d with z | z
      · have := sg_all hv (hJ e (by omega)) h1 h5
        rw [h6] at this
        cases this
      · exact z
    have hge : e ≤ d := by
      rcases h9 with z | z
      · omega
      · rcases Nat.lt_or_ge d e with y | y
        · exfalso
          refine z ?_
          show fst1 (sp v w d) (nH v) = -1
          refine fst1_no (fun j hj => ?_)
          unfold sp
          by_cases hf : farW v w j = nI d
          · cases ho : anyB (ovr v j) (nS v) with
            | false => rw [Bool.and_false]
            | true => have := h7 j d hj hf (by omega) ho
                      omega
          · rw [decide_eq_false hf]; rfl
        · exact y
    have ed : e = d := by omega
    subst ed
    rw [h3]
    unfold sg
    rw [fst1_yes (i := h) (fun j hj => ?_) (by unfold sp; rw [decide_eq_true h5, h6]; rfl) h1]
    unfold sp
    cases ho : anyB (ovr v j) (nS v) with
    | false => rw [Bool.and_false]
    | true => rw [decide_eq_false (h8 j hj ho)]; rfl
theorem gq_s {v : Vw} {w d : Nat} : gq v w (d + 1) = dsc (sp v w d) (nH v) (nH v) := (dsc_n _ _).symm
theorem gq_neg {v : Vw} (hv : Inv v) {w d : Nat} (h : gq v w d < 0) : gq v w d = -1 := by
  have qH := hv.lH
  cases d with
  | zero => rfl
  | succ d =>
    have h : sg v w d < 0 := h
    show sg v w d = -1
    unfold sg at h ⊢
    rw [← dsc_n] at h ⊢
    rcases dsc_i (sp v w d) (nH v) (nH v) (Nat.le_refl _) with ⟨h1, h2⟩ | ⟨i, h1, h2, h3, h4, h5⟩
    · exact h1
    · rw [h5] at h
      exact absurd h (nI_pos (by omega))
/-- a step of a warden, at once -/
def clp (b n : Int32) : Int32 := if n < b then n else if b < 0 - n then 0 - n else b
def go9 (a t n : Nat) : Nat := if a ≤ t then min t (a + n) else max t (a - n)
set_option maxRecDepth 100000 in
theorem clp_d : ∀ a, a < 9 → ∀ t, t < 9 → ∀ n, n < 9 → nI a + clp (nI t - nI a) (nI n) = nI (go9 a t n) := by decide +kernel
set_option maxRecDepth 100000 in
theorem cmp_d : ∀ a, a < 9 → ∀ t, t < 9 → ∀ n, n < 9 → nI (go9 a t n) + cmp3 (nI t) (nI (go9 a t n)) = nI (go9 a t (n + 1)) := by decide +kernel
theorem up2_e' {v : Vw} {c i : Nat} {x : Int32} {c' i' : Nat} : up2 v c i x c' i' = if c' = c ∧ i' = i then x else v c' i' := rfl
theorem clp_n {a t n : Nat} (ha : a < 9) (ht : t < 9) (hn : n < 9) : nI a + clp (nI t - nI a) (nI n) = nI (go9 a t n) := by
  have := clp_d a ha t ht n hn
  exact this
theorem cmp_n {a t n : Nat} (ha : a < 9) (ht : t < 9) (hn : n < 9) : nI (go9 a t n) + cmp3 (nI t) (nI (go9 a t n)) = nI (go9 a t (n + 1)) := cmp_d a ha t ht n hn
theorem mov_i {v : Vw} {w h a b x y : Nat} (ha : a < 9) (hb : b < 9) (hx : x < 9) (hy : y < 9) (ea : v 12 w = nI a) (eb : v 13 w = nI b) (ex : v 3 h = nI x) (ey : v 4 h = nI y) : ∀ n, n < 9 → it (fun _ u => stp w h u) n v = up2 (up2 v 12 w (nI (go9 a x n))) 13 w (nI (go9 b y n))
  | 0, _ => by
    have e1 : go9 a x 0 = a := by unfold go9; split <;> omega
    have e2 : go9 b y 0 = b := by unfold go9; split <;> omega
    rw [e1, e2, ← ea, ← eb]
    show v = _
    funext k i
    rw [up2_e']
    split
    · rename_i z; rw [z.1, z.2]
    · rw [up2_e']
      split
      · rename_i z; rw [z.1, z.2]
      · rfl
  | n + 1, hn => by
    have ih := mov_i ha hb hx hy ea eb ex ey n (by omega)
    show stp w h (it (fun _ u => stp w h u) n v) = _
    rw [ih]
    unfold stp
    have e3 : up2 (up2 v 12 w (nI (go9 a x n))) 13 w (nI (go9 b y n)) 12 w = nI (go9 a x n) := (up2_c (by decide)).trans (up2_same _ _ _ _)
    have e4 : up2 (up2 v 12 w (nI (go9 a x n))) 13 w (nI (go9 b y n)) 3 h = nI x := (up2_c (by decide)).trans ((up2_c (by decide)).trans ex)
    have e5 : up2 (up2 v 12 w (nI (go9 a x n))) 13 w (nI (go9 b y n)) 4 h = nI y := (up2_c (by decide)).trans ((up2_c (by decide)).trans ey)
    have e6 : up2 (up2 v 12 w (nI (go9 a x n))) 13 w (nI (go9 b y n)) 13 w = nI (go9 b y n) := up2_same _ _ _ _
    rw [e3, e4, e5, e6, cmp_n ha hx (by omega), cmp_n hb hy (by omega)]
    funext k i
    unfold up2
    by_cases h1 : k = 13 ∧ i = w
    · simp only [if_pos h1]
    · by_cases h2 : k = 12 ∧ i = w
      · simp only [if_neg h1, if_pos h2]
      · simp only [if_neg h1, if_neg h2]
theorem mov_clp {v : Vw} (hv : Inv v) {w h : Nat} (hw : w < nW v) (hh : h < nH v) (hp : ∃ n, n < 9 ∧ v 14 w = nI n) : mov w h v = up2 (up2 v 12 w (v 12 w + clp (v 3 h - v 12 w) (v 14 w))) 13 w (v 13 w + clp (v 4 h - v 13 w) (v 14 w)) := by
  obtain ⟨a, ha, ea⟩ := (hv.hW w hw).1
  obtain ⟨b, hb, eb⟩ := (hv.hW w hw).2
  obtain ⟨x, hx, ex⟩ := (hv.hH h hh).1
  obtain ⟨y, hy, ey⟩ := (hv.hH h hh).2.1
  obtain ⟨n, hn, en⟩ := hp
  unfold mov
  rw [en, nI_clamp (by omega), mov_i ha hb hx hy ea eb ex ey n hn, ea, eb, ex, ey, clp_n ha hx hn, clp_n hb hy hn]
theorem clp_1 {b n : Int32} (h : ¬ b ≤ n) : n = clp b n := (if_pos (Int32.not_le.mp h)).symm
theorem clp_2 {b n : Int32} (h : b ≤ n) (h2 : ¬ 0 - n ≤ b) : 0 - n = clp b n := by
  unfold clp
  rw [if_neg (Int32.not_lt.mpr h), if_pos (Int32.not_le.mp h2)]
theorem clp_3 {b n : Int32} (h : b ≤ n) (h2 : 0 - n ≤ b) : b = clp b n := by
  unfold clp
  rw [if_neg (Int32.not_lt.mpr h), if_neg (Int32.not_lt.mpr h2)]
theorem im60_t {z : Int32} (h : z ≤ 60) : z = imin 60 z := by
  unfold imin
  by_cases q : z < 60
  · rw [if_pos q]
  · rw [if_neg q]; exact Int32.le_antisymm h (Int32.not_lt.mp q)
theorem im60_f {z : Int32} (h : ¬ z ≤ 60) : (60 : Int32) = imin 60 z := by
  unfold imin
  rw [if_neg (fun q => h (Int32.le_of_lt q))]
theorem fin1_no {w h c k : Nat} {v : Vw} (e : ovr v h k = false) : fin1 w h c k v = v := if_neg (by rw [e]; decide)
theorem dn_lt {n : Nat} : nI (n - n) - 1 < 0 := by rw [Nat.sub_self]; decide
theorem dn_e {n i : Nat} (h : i < n) (hn : n < 2 ^ 30) : nI (n - i) - 1 = nI (n - 1 - i) := by
  rw [show n - 1 - i = n - i - 1 from by omega]
  exact sub_eq (p := n - i) (q := 1) (by omega) (by omega)
theorem dn_ge {n i : Nat} (h : i < n) (hn : n < 2 ^ 30) : ¬ nI (n - i) - 1 < 0 := by
  rw [dn_e h hn]
  exact nI_pos (by omega)
theorem dsc_f {p : Nat → Bool} {n i : Nat} (h : p (n - 1 - i) = false) : dsc p n (i + 1) = dsc p n i := if_neg (by rw [h]; decide)
theorem dsc_t {p : Nat → Bool} {n i : Nat} (hn : n < 2 ^ 30) (hi : i < n) (h : p (n - 1 - i) = true) : dsc p n (i + 1) = nI (n - i) - 1 := (if_pos h).trans (dn_e hi hn).symm
theorem J_s {v : Vw} {w d : Nat} (J : ∀ k, k + 1 < d → sg v w k = -1) (h : gq v w d = -1) : ∀ k, k + 1 < d + 1 → sg v w k = -1 := by
  intro k hk
  by_cases z : k + 1 = d
  · subst z; exact h
  · exact J k (by omega)
theorem dn_s {n i : Nat} (h : i < n) (hn : n < 2 ^ 30) : nI (n - i) - 1 + -1 = nI (n - (i + 1)) - 1 := by
  rw [dn_e h hn, show n - 1 - i = n - (i + 1) from by omega]
  exact (Int32.sub_eq_add_neg _ _).symm
set_option maxHeartbeats 4000000 in
set_option maxRecDepth 100000 in
theorem c_guardS (l : Launch) {g : Gm} (hI : IJ g (KK g)) {M : Mem} {o : Nat → Int64} {v : Vw} (hv : Inv v) (hL : SimL g v) (w : Nat) (hw : w < nW v) (hp : ∃ n, n < 9 ∧ v 14 w = nI n) : MV l yX5_guard cX5_guard 9 (rm 1 25) g (KK g) (ent g (setR M 2 v) o) [.ref (ad g (20, 0, 0)), .ref (ad g (25, 2, w))] (ent g (setR M 2 (gua w v)) o) := by
  refine met_of (by decide +kernel) (Nat.le_of_ble_eq_true rfl) ?_
  intro p e s m below meth c ls hC hr_ hlk hnm hE hP hS hl
  obtain ⟨hx, hb, hml, hown, hG⟩ := id hC
  have hl : lv_has ls 9 [(0, .ref (ad g (20, 0, 0))), (1, .ref (ad g (25, 2, w)))] := hl
  have qH := hv.lH
  have qS := hv.lS
  have qW := hv.lW
  refine W_joinL (g := g) (K := KK g) (nL := 9) (ent g (setR M 2 v) o) [(2, .int (gol v w)), (0, .ref (ad g (20, 0, 0))), (1, .ref (ad g (25, 2, w)))] (pc := 67) [] (fun hj67 => ?_) (fun H locs ls hP hS hl => ?_)
  · refine lv_iconst (v := (-1)) hx hb dX5_guard_0 (by decide) ?_
    refine lv_istore_n (lv' := [(2, .int ((-1 : Int32))), (0, .ref (ad g (20, 0, 0))), (1, .ref (ad g (25, 2, w)))]) hx hb dX5_guard_1 rfl hl (by decide) rfl (fun ls hl => ?_)
    refine lv_iconst (v := 0) hx hb dX5_guard_2 (by decide) ?_
    refine lv_istore_n (lv' := [(3, .int ((0 : Int32))), (2, .int ((-1 : Int32))), (0, .ref (ad g (20, 0, 0))), (1, .ref (ad g (25, 2, w)))]) hx hb dX5_guard_3 rfl hl (by decide) rfl (fun ls hl => ?_)
    refine lp_W (i0 := 0) 9 (fun d => ent g (setR M 2 v) o) (fun d => [(3, .int (nI d)), (2, .int (gq v w d)), (0, .ref (ad g (20, 0, 0))), (1, .ref (ad g (25, 2, w)))]) (fun d => ∀ k, k + 1 < d → sg v w k = -1) (Nat.zero_le _) (hP.castR (rfl)) hS (lv_sub hl [0, 1, 2, 3] rfl) (fun k h => absurd h (Nat.not_lt_zero _)) (fun H locs ls hP hS hl J => ?_) (fun d hd IHd H locs ls hP hS hl J => ?_)
    · have JD := J
      refine lv_iload_n hx hb dX5_guard_4 rfl (lv_at hl 0 rfl) ?_
      refine lv_bipush (v := 9) hx hb dX5_guard_5 (by decide) ?_
      refine lv_icmp_ge (tgt := 67) hx hb dX5_guard_7 (by decide) (fun c1 => ?_) (fun c1 => absurd (by decide) c1)
      exact hj67 H locs ls (hP.castR (rfl)) hS (by show lv_has ls _ [(2, .int (gol v w)), (0, .ref (ad g (20, 0, 0))), (1, .ref (ad g (25, 2, w)))]; rw [show gol v w = gq v w 9 from gol_q hv hw JD (Nat.le_refl _) (Or.inl rfl)]; exact lv_sub hl [1, 2, 3] rfl)
    · have JD := J
      refine lv_iload_n hx hb dX5_guard_4 rfl (lv_at hl 0 rfl) ?_
      refine lv_bipush (v := 9) hx hb dX5_guard_5 (by decide) ?_
      refine lv_icmp_ge (tgt := 67) hx hb dX5_guard_7 (by decide) (fun c2 => absurd c2 (nI_ge (b := 9) hd (by decide))) (fun c2 => ?_)
      refine lv_iload_n hx hb dX5_guard_10 rfl (lv_at hl 1 rfl) ?_
      refine lv_if_ge (tgt := 67) hx hb dX5_guard_11 (by decide) (fun c0 => ?_) (fun c0 => ?_)
      · exact hj67 H locs ls (hP.castR (rfl)) hS (by show lv_has ls _ [(2, .int (gol v w)), (0, .ref (ad g (20, 0, 0))), (1, .ref (ad g (25, 2, w)))]; rw [show gol v w = gq v w d from gol_q hv hw JD (Nat.le_of_lt hd) (Or.inr (fun z => absurd c0 (by rw [z]; decide)))]; exact lv_sub hl [1, 2, 3] rfl)
      · have hm1 := gq_neg hv (Int32.not_le.mp c0)
        refine lv_aload_n hx hb dX5_guard_14 rfl (lv_at hl 2 rfl) ?_
        refine m_get hC hE hP (k_20 hL) e_20 rfl u_5 3 (by decide) w_655 rfl rfl dX5_guard_15 ?_
        refine m_alnA hC hE hP (k_27 hL) e_27 (congrArg nI Cn.rf.1) dX5_guard_18 ?_
        refine lv_iconst (v := 1) hx hb dX5_guard_19 (by decide) ?_
        refine lv_isub hx hb dX5_guard_20 ?_
        refine lv_istore (lv' := [(4, .int ((nI (nH v)) - (1 : Int32))), (3, .int (nI d)), (2, .int (gq v w d)), (0, .ref (ad g (20, 0, 0))), (1, .ref (ad g (25, 2, w)))]) hx hb dX5_guard_21 hl (by decide) rfl (fun ls hl => ?_)
        refine lp_W (i0 := 0) (nH v) (fun i => ent g (setR M 2 v) o) (fun i => [(4, .int (nI (nH v - i) - 1)), (3, .int (nI d)), (2, .int (dsc (sp v w d) (nH v) i)), (0, .ref (ad g (20, 0, 0))), (1, .ref (ad g (25, 2, w)))]) (fun i => True) (Nat.zero_le _) (hP.castR (rfl)) hS (by show lv_has ls _ [(4, .int (nI (nH v - 0) - 1)), (3, .int (nI d)), (2, .int (dsc (sp v w d) (nH v) 0)), (0, .ref (ad g (20, 0, 0))), (1, .ref (ad g (25, 2, w)))]; rw [show dsc (sp v w d) (nH v) 0 = gq v w d from hm1.symm, show nI (nH v - 0) - 1 = (nI (nH v)) - (1 : Int32) from rfl]; exact lv_sub hl [0, 1, 2, 3, 4] rfl) (trivial) (fun H locs ls hP hS hl J => ?_) (fun i hi IH H locs ls hP hS hl J => ?_)
        · refine lv_iload hx hb dX5_guard_23 (lv_at hl 0 rfl) ?_
          refine lv_if_lt (tgt := 61) hx hb dX5_guard_25 (by decide) (fun c3 => ?_) (fun c3 => absurd (dn_lt) c3)
          refine lv_iinc (v := nI (d + 1)) (lv' := [(3, .int (nI (d + 1))), (4, .int (nI (nH v - (nH v)) - 1)), (2, .int (dsc (sp v w d) (nH v) (nH v))), (0, .ref (ad g (20, 0, 0))), (1, .ref (ad g (25, 2, w)))]) hx hb dX5_guard_61 hl (k := 1) rfl (nI_1 _) (by decide) rfl (fun ls hl => ?_)
          refine lv_goto (tgt := 4) hx hb dX5_guard_64 (by decide) ?_
          exact IHd H locs ls (hP.castR (rfl)) hS (by show lv_has ls _ [(3, .int (nI (d + 1))), (2, .int (gq v w (d + 1))), (0, .ref (ad g (20, 0, 0))), (1, .ref (ad g (25, 2, w)))]; rw [show gq v w (d + 1) = dsc (sp v w d) (nH v) (nH v) from gq_s]; exact lv_sub hl [0, 2, 3, 4] rfl) (J_s JD hm1)
        · refine lv_iload hx hb dX5_guard_23 (lv_at hl 0 rfl) ?_
          refine lv_if_lt (tgt := 61) hx hb dX5_guard_25 (by decide) (fun c4 => absurd c4 (dn_ge hi (by omega))) (fun c4 => ?_)
          refine lv_aload_n hx hb dX5_guard_28 rfl (lv_at hl 4 rfl) ?_
          refine lv_aload_n hx hb dX5_guard_29 rfl (lv_at hl 3 rfl) ?_
          refine m_get hC hE hP (k_20 hL) e_20 rfl u_5 3 (by decide) w_655 rfl rfl dX5_guard_30 ?_
          refine lv_iload hx hb dX5_guard_33 (lv_at hl 0 rfl) ?_
          refine m_aalA hC hE hP (k_27 hL) e_27 (nH v - 1 - i) (dn_e hi (by omega)) (Cn.rf.lH (by omega)) (Cn.rf.bH (by omega)) dX5_guard_35 ?_
          refine on_i (run_S hC hE hP hS (As := [.ref (ad g (25, 2, w)), .ref (ad g (23, 0, (nH v - 1 - i)))]) (c_farS l hI hv hL w (nH v - 1 - i) (Cn.rf.lW (by first | assumption | omega)) (Cn.rf.lH (by first | exact hz.2 | assumption | omega))) cal_X5_far w_524 ⟨Nat.le_of_ble_eq_true rfl, Nat.le_of_ble_eq_true rfl⟩ rfl rfl (Nat.le_of_ble_eq_true rfl) hl.1 ⟨Nat.le_of_ble_eq_true rfl, Nat.le_of_ble_eq_true rfl⟩ dX5_guard_36) hS (fun H locs hP hS => ?_)
          refine lv_iload_n hx hb dX5_guard_39 rfl (lv_at hl 1 rfl) ?_
          refine lv_icmp_ne (tgt := 55) hx hb dX5_guard_40 (by decide) (fun c1 => ?_) (fun c1 => ?_)
          · refine lv_iinc (v := nI (nH v - (i + 1)) - 1) (lv' := [(4, .int (nI (nH v - (i + 1)) - 1)), (3, .int (nI d)), (2, .int (dsc (sp v w d) (nH v) i)), (0, .ref (ad g (20, 0, 0))), (1, .ref (ad g (25, 2, w)))]) hx hb dX5_guard_55 hl (k := 0) rfl (dn_s hi (by omega)) (by decide) rfl (fun ls hl => ?_)
            refine lv_goto (tgt := 23) hx hb dX5_guard_58 (by decide) ?_
            exact IH H locs ls (hP.castR (rfl)) hS (by show lv_has ls _ [(4, .int (nI (nH v - (i + 1)) - 1)), (3, .int (nI d)), (2, .int (dsc (sp v w d) (nH v) (i + 1))), (0, .ref (ad g (20, 0, 0))), (1, .ref (ad g (25, 2, w)))]; rw [show dsc (sp v w d) (nH v) (i + 1) = dsc (sp v w d) (nH v) i from dsc_f (by unfold sp; rw [decide_eq_false c1]; rfl)]; exact lv_sub hl [0, 1, 2, 3, 4] rfl) (trivial)
          · refine lv_aload_n hx hb dX5_guard_43 rfl (lv_at hl 3 rfl) ?_
            refine lv_iload hx hb dX5_guard_44 (lv_at hl 0 rfl) ?_
            refine m_top (y := nI (nH v - 1 - i)) (dn_e hi (by omega)) ?_
            refine on_i (run_V hC hE hP hS (As := [.int (nI (nH v - 1 - i))]) (c_isOverS l hI hv hL (nH v - 1 - i)) cal_X5_isOver w_527 ⟨Nat.le_of_ble_eq_true rfl, Nat.le_of_ble_eq_true rfl⟩ (k_20 hL) e_20 rfl rfl rfl (Nat.le_of_ble_eq_true rfl) hl.1 ⟨Nat.le_of_ble_eq_true rfl, Nat.le_of_ble_eq_true rfl⟩ dX5_guard_46) hS (fun H locs hP hS => ?_)
            refine lv_if_eq (tgt := 55) hx hb dX5_guard_49 (by decide) (fun c2 => ?_) (fun c2 => ?_)
            · have c2 := b2i_f c2
              refine lv_iinc (v := nI (nH v - (i + 1)) - 1) (lv' := [(4, .int (nI (nH v - (i + 1)) - 1)), (3, .int (nI d)), (2, .int (dsc (sp v w d) (nH v) i)), (0, .ref (ad g (20, 0, 0))), (1, .ref (ad g (25, 2, w)))]) hx hb dX5_guard_55 hl (k := 0) rfl (dn_s hi (by omega)) (by decide) rfl (fun ls hl => ?_)
              refine lv_goto (tgt := 23) hx hb dX5_guard_58 (by decide) ?_
              exact IH H locs ls (hP.castR (rfl)) hS (by show lv_has ls _ [(4, .int (nI (nH v - (i + 1)) - 1)), (3, .int (nI d)), (2, .int (dsc (sp v w d) (nH v) (i + 1))), (0, .ref (ad g (20, 0, 0))), (1, .ref (ad g (25, 2, w)))]; rw [show dsc (sp v w d) (nH v) (i + 1) = dsc (sp v w d) (nH v) i from dsc_f (by unfold sp; rw [c2, Bool.and_false])]; exact lv_sub hl [0, 1, 2, 3, 4] rfl) (trivial)
            · have c2 := b2i_t c2
              refine lv_iload hx hb dX5_guard_52 (lv_at hl 0 rfl) ?_
              refine lv_istore_n (lv' := [(2, .int (nI (nH v - i) - 1)), (4, .int (nI (nH v - i) - 1)), (3, .int (nI d)), (0, .ref (ad g (20, 0, 0))), (1, .ref (ad g (25, 2, w)))]) hx hb dX5_guard_54 rfl hl (by decide) rfl (fun ls hl => ?_)
              refine lv_iinc (v := nI (nH v - (i + 1)) - 1) (lv' := [(4, .int (nI (nH v - (i + 1)) - 1)), (2, .int (nI (nH v - i) - 1)), (3, .int (nI d)), (0, .ref (ad g (20, 0, 0))), (1, .ref (ad g (25, 2, w)))]) hx hb dX5_guard_55 hl (k := 1) rfl (dn_s hi (by omega)) (by decide) rfl (fun ls hl => ?_)
              refine lv_goto (tgt := 23) hx hb dX5_guard_58 (by decide) ?_
              exact IH H locs ls (hP.castR (rfl)) hS (by show lv_has ls _ [(4, .int (nI (nH v - (i + 1)) - 1)), (3, .int (nI d)), (2, .int (dsc (sp v w d) (nH v) (i + 1))), (0, .ref (ad g (20, 0, 0))), (1, .ref (ad g (25, 2, w)))]; rw [show dsc (sp v w d) (nH v) (i + 1) = nI (nH v - i) - 1 from dsc_t (by omega) hi (by unfold sp; rw [decide_eq_true c1, c2]; rfl)]; exact lv_sub hl [0, 2, 1, 3, 4] rfl) (trivial)
  · refine lv_iload_n hx hb dX5_guard_67 rfl (lv_at hl 0 rfl) ?_
    refine lv_if_ge (tgt := 72) hx hb dX5_guard_68 (by decide) (fun c1 => ?_) (fun c1 => ?_)
    · have h8 : ¬ gol v w = -1 := fun z => absurd c1 (by rw [z]; decide)
      have hz := gol_of hv h8
      obtain ⟨a, ha9, ea⟩ := (hv.hH ((gol v w).toNatClampNeg) hz.2).1
      obtain ⟨b, hb9, eb⟩ := (hv.hH ((gol v w).toNatClampNeg) hz.2).2.1
      refine lv_aload_n hx hb dX5_guard_72 rfl (lv_at hl 1 rfl) ?_
      refine m_get hC hE hP (k_20 hL) e_20 rfl u_5 3 (by decide) w_655 rfl rfl dX5_guard_73 ?_
      refine lv_iload_n hx hb dX5_guard_76 rfl (lv_at hl 0 rfl) ?_
      refine m_aalA hC hE hP (k_27 hL) e_27 ((gol v w).toNatClampNeg) (hz.1) (Cn.rf.lH (by omega)) (Cn.rf.bH (by omega)) dX5_guard_77 ?_
      refine lv_astore_n (lv' := [(3, .ref (ad g (23, 0, (gol v w).toNatClampNeg))), (2, .int (gol v w)), (0, .ref (ad g (20, 0, 0))), (1, .ref (ad g (25, 2, w)))]) hx hb dX5_guard_78 rfl hl (by decide) rfl (fun ls hl => ?_)
      refine lv_iconst (v := 0) hx hb dX5_guard_79 (by decide) ?_
      refine lv_istore (lv' := [(4, .int ((0 : Int32))), (3, .ref (ad g (23, 0, (gol v w).toNatClampNeg))), (2, .int (gol v w)), (0, .ref (ad g (20, 0, 0))), (1, .ref (ad g (25, 2, w)))]) hx hb dX5_guard_80 hl (by decide) rfl (fun ls hl => ?_)
      refine lv_iload hx hb dX5_guard_82 (lv_at hl 0 rfl) ?_
      refine lv_iconst (v := 2) hx hb dX5_guard_84 (by decide) ?_
      refine lv_icmp_ge (tgt := 144) hx hb dX5_guard_85 (by decide) (fun c5 => absurd c5 (by decide)) (fun c5 => ?_)
      refine lv_aload_n hx hb dX5_guard_88 rfl (lv_at hl 1 rfl) ?_
      refine lv_iload hx hb dX5_guard_89 (lv_at hl 0 rfl) ?_
      refine m_iald hC hE hP (k_23 hL (by omega)) e_23 0 (rfl) (show 0 < 3 from by omega) (by decide) dX5_guard_91 ?_
      refine m_top (y := v 3 ((gol v w).toNatClampNeg)) rfl ?_
      refine m_top (y := v 3 ((gol v w).toNatClampNeg)) (by first | rfl | exact up2_c (by decide)) ?_
      refine lv_aload_n hx hb dX5_guard_92 rfl (lv_at hl 4 rfl) ?_
      refine lv_iload hx hb dX5_guard_93 (lv_at hl 0 rfl) ?_
      refine m_iald hC hE hP (k_25 hL (by omega)) e_25 0 (rfl) (show 0 < 4 from by omega) (by decide) dX5_guard_95 ?_
      refine m_top (y := v 12 w) rfl ?_
      refine m_top (y := v 12 w) (by first | rfl | exact up2_c (by decide)) ?_
      refine lv_isub hx hb dX5_guard_96 ?_
      refine lv_istore (lv' := [(5, .int ((v 3 ((gol v w).toNatClampNeg)) - (v 12 w))), (4, .int ((0 : Int32))), (3, .ref (ad g (23, 0, (gol v w).toNatClampNeg))), (2, .int (gol v w)), (0, .ref (ad g (20, 0, 0))), (1, .ref (ad g (25, 2, w)))]) hx hb dX5_guard_97 hl (by decide) rfl (fun ls hl => ?_)
      refine lv_aload_n hx hb dX5_guard_99 rfl (lv_at hl 5 rfl) ?_
      refine lv_iload hx hb dX5_guard_100 (lv_at hl 1 rfl) ?_
      refine lv_dup2_11 hx hb dX5_guard_102 rfl rfl ?_
      refine m_iald hC hE hP (k_25 hL (by omega)) e_25 0 (rfl) (show 0 < 4 from by omega) (by decide) dX5_guard_103 ?_
      refine m_top (y := v 12 w) rfl ?_
      refine m_top (y := v 12 w) (by first | rfl | exact up2_c (by decide)) ?_
      refine W_joinL (g := g) (K := KK g) (nL := 9) (ent g (setR M 2 v) o) [(5, .int ((v 3 ((gol v w).toNatClampNeg)) - (v 12 w))), (4, .int ((0 : Int32))), (3, .ref (ad g (23, 0, (gol v w).toNatClampNeg))), (2, .int (gol v w)), (0, .ref (ad g (20, 0, 0))), (1, .ref (ad g (25, 2, w)))] (pc := 136) [.int (clp ((v 3 ((gol v w).toNatClampNeg)) - (v 12 w)) (v 14 w)), .int (v 12 w), .int ((0 : Int32)), .ref (ad g (25, 2, w))] (fun hj136 => ?_) (fun H locs ls hP hS hl => ?_)
      · refine lv_iload hx hb dX5_guard_104 (lv_at hl 0 rfl) ?_
        refine lv_aload_n hx hb dX5_guard_106 rfl (lv_at hl 5 rfl) ?_
        refine lv_iconst (v := 2) hx hb dX5_guard_107 (by decide) ?_
        refine m_iald hC hE hP (k_25 hL (by omega)) e_25 2 (rfl) (show 2 < 4 from by omega) (by decide) dX5_guard_108 ?_
        refine m_top (y := v 14 w) rfl ?_
        refine m_top (y := v 14 w) (by first | rfl | exact up2_c (by decide)) ?_
        refine lv_icmp_le (tgt := 118) hx hb dX5_guard_109 (by decide) (fun c8 => ?_) (fun c8 => ?_)
        · refine lv_iload hx hb dX5_guard_118 (lv_at hl 0 rfl) ?_
          refine lv_aload_n hx hb dX5_guard_120 rfl (lv_at hl 5 rfl) ?_
          refine lv_iconst (v := 2) hx hb dX5_guard_121 (by decide) ?_
          refine m_iald hC hE hP (k_25 hL (by omega)) e_25 2 (rfl) (show 2 < 4 from by omega) (by decide) dX5_guard_122 ?_
          refine m_top (y := v 14 w) rfl ?_
          refine m_top (y := v 14 w) (by first | rfl | exact up2_c (by decide)) ?_
          refine lv_ineg hx hb dX5_guard_123 ?_
          refine lv_icmp_ge (tgt := 134) hx hb dX5_guard_124 (by decide) (fun c9 => ?_) (fun c9 => ?_)
          · refine lv_iload hx hb dX5_guard_134 (lv_at hl 0 rfl) ?_
            refine m_top (y := clp ((v 3 ((gol v w).toNatClampNeg)) - (v 12 w)) (v 14 w)) (clp_3 c8 c9) ?_
            exact hj136 H locs ls (hP.castR (rfl)) hS (lv_sub hl [0, 1, 2, 3, 4, 5] rfl)
          · refine lv_aload_n hx hb dX5_guard_127 rfl (lv_at hl 5 rfl) ?_
            refine lv_iconst (v := 2) hx hb dX5_guard_128 (by decide) ?_
            refine m_iald hC hE hP (k_25 hL (by omega)) e_25 2 (rfl) (show 2 < 4 from by omega) (by decide) dX5_guard_129 ?_
            refine m_top (y := v 14 w) rfl ?_
            refine m_top (y := v 14 w) (by first | rfl | exact up2_c (by decide)) ?_
            refine lv_ineg hx hb dX5_guard_130 ?_
            refine lv_goto (tgt := 136) hx hb dX5_guard_131 (by decide) ?_
            refine m_top (y := clp ((v 3 ((gol v w).toNatClampNeg)) - (v 12 w)) (v 14 w)) (clp_2 c8 c9) ?_
            exact hj136 H locs ls (hP.castR (rfl)) hS (lv_sub hl [0, 1, 2, 3, 4, 5] rfl)
        · refine lv_aload_n hx hb dX5_guard_112 rfl (lv_at hl 5 rfl) ?_
          refine lv_iconst (v := 2) hx hb dX5_guard_113 (by decide) ?_
          refine m_iald hC hE hP (k_25 hL (by omega)) e_25 2 (rfl) (show 2 < 4 from by omega) (by decide) dX5_guard_114 ?_
          refine m_top (y := v 14 w) rfl ?_
          refine m_top (y := v 14 w) (by first | rfl | exact up2_c (by decide)) ?_
          refine lv_goto (tgt := 136) hx hb dX5_guard_115 (by decide) ?_
          refine m_top (y := clp ((v 3 ((gol v w).toNatClampNeg)) - (v 12 w)) (v 14 w)) (clp_1 c8) ?_
          exact hj136 H locs ls (hP.castR (rfl)) hS (lv_sub hl [0, 1, 2, 3, 4, 5] rfl)
      · refine lv_iadd hx hb dX5_guard_136 ?_
        refine m_iast hC hE hI hP hS (k_25 hL (by omega)) e_25 0 (rfl) (show 0 < 4 from by omega) (by decide) (p_25 0 (by decide)) (ent_put g M 2 v o 12 w ((v 12 w) + (clp ((v 3 ((gol v w).toNatClampNeg)) - (v 12 w)) (v 14 w))) (kf_25 (Or.inl rfl) (by decide) (by decide))) dX5_guard_137 (fun H locs hP hS => ?_)
        refine lv_iinc (v := (1 : Int32)) (lv' := [(4, .int ((1 : Int32))), (5, .int ((v 3 ((gol v w).toNatClampNeg)) - (v 12 w))), (3, .ref (ad g (23, 0, (gol v w).toNatClampNeg))), (2, .int (gol v w)), (0, .ref (ad g (20, 0, 0))), (1, .ref (ad g (25, 2, w)))]) hx hb dX5_guard_138 hl (k := 1) rfl (by decide) (by decide) rfl (fun ls hl => ?_)
        refine lv_goto (tgt := 82) hx hb dX5_guard_141 (by decide) ?_
        refine lv_iload hx hb dX5_guard_82 (lv_at hl 0 rfl) ?_
        refine lv_iconst (v := 2) hx hb dX5_guard_84 (by decide) ?_
        refine lv_icmp_ge (tgt := 144) hx hb dX5_guard_85 (by decide) (fun c6 => absurd c6 (by decide)) (fun c6 => ?_)
        refine lv_aload_n hx hb dX5_guard_88 rfl (lv_at hl 2 rfl) ?_
        refine lv_iload hx hb dX5_guard_89 (lv_at hl 0 rfl) ?_
        refine m_iald hC hE hP (k_23 hL (by omega)) e_23 1 (rfl) (show 1 < 3 from by omega) (by decide) dX5_guard_91 ?_
        refine m_top (y := (up2 v 12 w ((v 12 w) + (clp ((v 3 ((gol v w).toNatClampNeg)) - (v 12 w)) (v 14 w)))) 4 ((gol v w).toNatClampNeg)) rfl ?_
        refine m_top (y := v 4 ((gol v w).toNatClampNeg)) (by first | rfl | exact up2_c (by decide)) ?_
        refine lv_aload_n hx hb dX5_guard_92 rfl (lv_at hl 5 rfl) ?_
        refine lv_iload hx hb dX5_guard_93 (lv_at hl 0 rfl) ?_
        refine m_iald hC hE hP (k_25 hL (by omega)) e_25 1 (rfl) (show 1 < 4 from by omega) (by decide) dX5_guard_95 ?_
        refine m_top (y := (up2 v 12 w ((v 12 w) + (clp ((v 3 ((gol v w).toNatClampNeg)) - (v 12 w)) (v 14 w)))) 13 w) rfl ?_
        refine m_top (y := v 13 w) (by first | rfl | exact up2_c (by decide)) ?_
        refine lv_isub hx hb dX5_guard_96 ?_
        refine lv_istore (lv' := [(5, .int ((v 4 ((gol v w).toNatClampNeg)) - (v 13 w))), (4, .int ((1 : Int32))), (3, .ref (ad g (23, 0, (gol v w).toNatClampNeg))), (2, .int (gol v w)), (0, .ref (ad g (20, 0, 0))), (1, .ref (ad g (25, 2, w)))]) hx hb dX5_guard_97 hl (by decide) rfl (fun ls hl => ?_)
        refine lv_aload_n hx hb dX5_guard_99 rfl (lv_at hl 5 rfl) ?_
        refine lv_iload hx hb dX5_guard_100 (lv_at hl 1 rfl) ?_
        refine lv_dup2_11 hx hb dX5_guard_102 rfl rfl ?_
        refine m_iald hC hE hP (k_25 hL (by omega)) e_25 1 (rfl) (show 1 < 4 from by omega) (by decide) dX5_guard_103 ?_
        refine m_top (y := (up2 v 12 w ((v 12 w) + (clp ((v 3 ((gol v w).toNatClampNeg)) - (v 12 w)) (v 14 w)))) 13 w) rfl ?_
        refine m_top (y := v 13 w) (by first | rfl | exact up2_c (by decide)) ?_
        refine W_joinL (g := g) (K := KK g) (nL := 9) (ent g (setR M 2 (up2 v 12 w ((v 12 w) + (clp ((v 3 ((gol v w).toNatClampNeg)) - (v 12 w)) (v 14 w))))) o) [(5, .int ((v 4 ((gol v w).toNatClampNeg)) - (v 13 w))), (4, .int ((1 : Int32))), (3, .ref (ad g (23, 0, (gol v w).toNatClampNeg))), (2, .int (gol v w)), (0, .ref (ad g (20, 0, 0))), (1, .ref (ad g (25, 2, w)))] (pc := 136) [.int (clp ((v 4 ((gol v w).toNatClampNeg)) - (v 13 w)) (v 14 w)), .int (v 13 w), .int ((1 : Int32)), .ref (ad g (25, 2, w))] (fun hj136 => ?_) (fun H locs ls hP hS hl => ?_)
        · refine lv_iload hx hb dX5_guard_104 (lv_at hl 0 rfl) ?_
          refine lv_aload_n hx hb dX5_guard_106 rfl (lv_at hl 5 rfl) ?_
          refine lv_iconst (v := 2) hx hb dX5_guard_107 (by decide) ?_
          refine m_iald hC hE hP (k_25 hL (by omega)) e_25 2 (rfl) (show 2 < 4 from by omega) (by decide) dX5_guard_108 ?_
          refine m_top (y := (up2 v 12 w ((v 12 w) + (clp ((v 3 ((gol v w).toNatClampNeg)) - (v 12 w)) (v 14 w)))) 14 w) rfl ?_
          refine m_top (y := v 14 w) (by first | rfl | exact up2_c (by decide)) ?_
          refine lv_icmp_le (tgt := 118) hx hb dX5_guard_109 (by decide) (fun c8 => ?_) (fun c8 => ?_)
          · refine lv_iload hx hb dX5_guard_118 (lv_at hl 0 rfl) ?_
            refine lv_aload_n hx hb dX5_guard_120 rfl (lv_at hl 5 rfl) ?_
            refine lv_iconst (v := 2) hx hb dX5_guard_121 (by decide) ?_
            refine m_iald hC hE hP (k_25 hL (by omega)) e_25 2 (rfl) (show 2 < 4 from by omega) (by decide) dX5_guard_122 ?_
            refine m_top (y := (up2 v 12 w ((v 12 w) + (clp ((v 3 ((gol v w).toNatClampNeg)) - (v 12 w)) (v 14 w)))) 14 w) rfl ?_
            refine m_top (y := v 14 w) (by first | rfl | exact up2_c (by decide)) ?_
            refine lv_ineg hx hb dX5_guard_123 ?_
            refine lv_icmp_ge (tgt := 134) hx hb dX5_guard_124 (by decide) (fun c9 => ?_) (fun c9 => ?_)
            · refine lv_iload hx hb dX5_guard_134 (lv_at hl 0 rfl) ?_
              refine m_top (y := clp ((v 4 ((gol v w).toNatClampNeg)) - (v 13 w)) (v 14 w)) (clp_3 c8 c9) ?_
              exact hj136 H locs ls (hP.castR (rfl)) hS (lv_sub hl [0, 1, 2, 3, 4, 5] rfl)
            · refine lv_aload_n hx hb dX5_guard_127 rfl (lv_at hl 5 rfl) ?_
              refine lv_iconst (v := 2) hx hb dX5_guard_128 (by decide) ?_
              refine m_iald hC hE hP (k_25 hL (by omega)) e_25 2 (rfl) (show 2 < 4 from by omega) (by decide) dX5_guard_129 ?_
              refine m_top (y := (up2 v 12 w ((v 12 w) + (clp ((v 3 ((gol v w).toNatClampNeg)) - (v 12 w)) (v 14 w)))) 14 w) rfl ?_
              refine m_top (y := v 14 w) (by first | rfl | exact up2_c (by decide)) ?_
              refine lv_ineg hx hb dX5_guard_130 ?_
              refine lv_goto (tgt := 136) hx hb dX5_guard_131 (by decide) ?_
              refine m_top (y := clp ((v 4 ((gol v w).toNatClampNeg)) - (v 13 w)) (v 14 w)) (clp_2 c8 c9) ?_
              exact hj136 H locs ls (hP.castR (rfl)) hS (lv_sub hl [0, 1, 2, 3, 4, 5] rfl)
          · refine lv_aload_n hx hb dX5_guard_112 rfl (lv_at hl 5 rfl) ?_
            refine lv_iconst (v := 2) hx hb dX5_guard_113 (by decide) ?_
            refine m_iald hC hE hP (k_25 hL (by omega)) e_25 2 (rfl) (show 2 < 4 from by omega) (by decide) dX5_guard_114 ?_
            refine m_top (y := (up2 v 12 w ((v 12 w) + (clp ((v 3 ((gol v w).toNatClampNeg)) - (v 12 w)) (v 14 w)))) 14 w) rfl ?_
            refine m_top (y := v 14 w) (by first | rfl | exact up2_c (by decide)) ?_
            refine lv_goto (tgt := 136) hx hb dX5_guard_115 (by decide) ?_
            refine m_top (y := clp ((v 4 ((gol v w).toNatClampNeg)) - (v 13 w)) (v 14 w)) (clp_1 c8) ?_
            exact hj136 H locs ls (hP.castR (rfl)) hS (lv_sub hl [0, 1, 2, 3, 4, 5] rfl)
        · refine lv_iadd hx hb dX5_guard_136 ?_
          refine m_iast hC hE hI hP hS (k_25 hL (by omega)) e_25 1 (rfl) (show 1 < 4 from by omega) (by decide) (p_25 1 (by decide)) (ent_put g M 2 (up2 v 12 w ((v 12 w) + (clp ((v 3 ((gol v w).toNatClampNeg)) - (v 12 w)) (v 14 w)))) o 13 w ((v 13 w) + (clp ((v 4 ((gol v w).toNatClampNeg)) - (v 13 w)) (v 14 w))) (kf_25 (Or.inl rfl) (by decide) (by decide))) dX5_guard_137 (fun H locs hP hS => ?_)
          refine lv_iinc (v := (2 : Int32)) (lv' := [(4, .int ((2 : Int32))), (5, .int ((v 4 ((gol v w).toNatClampNeg)) - (v 13 w))), (3, .ref (ad g (23, 0, (gol v w).toNatClampNeg))), (2, .int (gol v w)), (0, .ref (ad g (20, 0, 0))), (1, .ref (ad g (25, 2, w)))]) hx hb dX5_guard_138 hl (k := 1) rfl (by decide) (by decide) rfl (fun ls hl => ?_)
          refine lv_goto (tgt := 82) hx hb dX5_guard_141 (by decide) ?_
          refine lv_iload hx hb dX5_guard_82 (lv_at hl 0 rfl) ?_
          refine lv_iconst (v := 2) hx hb dX5_guard_84 (by decide) ?_
          refine lv_icmp_ge (tgt := 144) hx hb dX5_guard_85 (by decide) (fun c7 => ?_) (fun c7 => absurd (by decide) c7)
          replace hP := hP.castR (w := mov w ((gol v w).toNatClampNeg) v) (mov_clp hv hw hz.2 hp)
          refine lv_aload_n hx hb dX5_guard_144 rfl (lv_at hl 5 rfl) ?_
          refine lv_aload_n hx hb dX5_guard_145 rfl (lv_at hl 2 rfl) ?_
          refine on_i (run_S hC hE hP hS (As := [.ref (ad g (25, 2, w)), .ref (ad g (23, 0, (gol v w).toNatClampNeg))]) (c_farS l hI (mov_inv hz.2 hv) (hL.cn (Cn.of fun _ _ => mov_ne (by decide) (by decide))) w ((gol v w).toNatClampNeg) ((Cn.of fun _ _ => mov_ne (by decide) (by decide)).lW (by first | assumption | omega)) ((Cn.of fun _ _ => mov_ne (by decide) (by decide)).lH (by first | exact hz.2 | assumption | omega))) cal_X5_far w_524 ⟨Nat.le_of_ble_eq_true rfl, Nat.le_of_ble_eq_true rfl⟩ rfl rfl (Nat.le_of_ble_eq_true rfl) hl.1 ⟨Nat.le_of_ble_eq_true rfl, Nat.le_of_ble_eq_true rfl⟩ dX5_guard_146) hS (fun H locs hP hS => ?_)
          refine lv_if_le (tgt := 153) hx hb dX5_guard_149 (by decide) (fun c2 => ?_) (fun c2 => ?_)
          · have ecl : cl (mov w ((gol v w).toNatClampNeg) v) ((gol v w).toNatClampNeg) = 9 * b + a := by unfold cl; rw [mov_ne (by decide) (by decide), mov_ne (by decide) (by decide), ea, eb, nI_clamp (by omega), nI_clamp (by omega)]
            refine lv_aload_n hx hb dX5_guard_153 rfl (lv_at hl 4 rfl) ?_
            refine m_get hC hE hP (k_20 hL) e_20 rfl u_5 4 (by decide) w_657 rfl rfl dX5_guard_154 ?_
            refine lv_astore (lv' := [(4, .ref (ad g (28, 2, 0))), (5, .int ((v 4 ((gol v w).toNatClampNeg)) - (v 13 w))), (3, .ref (ad g (23, 0, (gol v w).toNatClampNeg))), (2, .int (gol v w)), (0, .ref (ad g (20, 0, 0))), (1, .ref (ad g (25, 2, w)))]) hx hb dX5_guard_157 hl (by decide) rfl (fun ls hl => ?_)
            refine lv_aload hx hb dX5_guard_159 (lv_at hl 0 rfl) ?_
            refine m_alnA hC hE hP (k_28 hL) e_28 (congrArg nI (Cn.of fun _ _ => mov_ne (by decide) (by decide)).2.1) dX5_guard_161 ?_
            refine lv_istore (lv' := [(5, .int (nI (nS v))), (4, .ref (ad g (28, 2, 0))), (3, .ref (ad g (23, 0, (gol v w).toNatClampNeg))), (2, .int (gol v w)), (0, .ref (ad g (20, 0, 0))), (1, .ref (ad g (25, 2, w)))]) hx hb dX5_guard_162 hl (by decide) rfl (fun ls hl => ?_)
            refine lv_iconst (v := 0) hx hb dX5_guard_164 (by decide) ?_
            refine lv_istore (lv' := [(6, .int ((0 : Int32))), (5, .int (nI (nS v))), (4, .ref (ad g (28, 2, 0))), (3, .ref (ad g (23, 0, (gol v w).toNatClampNeg))), (2, .int (gol v w)), (0, .ref (ad g (20, 0, 0))), (1, .ref (ad g (25, 2, w)))]) hx hb dX5_guard_165 hl (by decide) rfl (fun ls hl => ?_)
            refine lp_W (i0 := 0) (nS v) (fun i => ent g (setR M 2 (it (fin1 w ((gol v w).toNatClampNeg) (9 * b + a)) i (mov w ((gol v w).toNatClampNeg) v))) o) (fun i => [(6, .int (nI i)), (5, .int (nI (nS v))), (4, .ref (ad g (28, 2, 0))), (3, .ref (ad g (23, 0, (gol v w).toNatClampNeg))), (2, .int (gol v w)), (0, .ref (ad g (20, 0, 0))), (1, .ref (ad g (25, 2, w)))]) (fun i => True) (Nat.zero_le _) (hP.castR (rfl)) hS (lv_sub hl [0, 1, 2, 3, 4, 5, 6] rfl) (trivial) (fun H locs ls hP hS hl J => ?_) (fun i hi IH H locs ls hP hS hl J => ?_)
            · refine lv_iload hx hb dX5_guard_167 (lv_at hl 0 rfl) ?_
              refine lv_iload hx hb dX5_guard_169 (lv_at hl 1 rfl) ?_
              refine lv_icmp_ge (tgt := 282) hx hb dX5_guard_171 (by decide) (fun c8 => ?_) (fun c8 => absurd (nI_le (Nat.le_refl _) (by omega)) c8)
              exact m_vret hC hr_ hlk hS (hP.castR ((if_neg h8).trans ((if_neg (Int32.not_lt.mpr c2)).trans (by unfold finA; rw [nS_mov, ecl])))) dX5_guard_282
            · refine lv_iload hx hb dX5_guard_167 (lv_at hl 0 rfl) ?_
              refine lv_iload hx hb dX5_guard_169 (lv_at hl 1 rfl) ?_
              refine lv_icmp_ge (tgt := 282) hx hb dX5_guard_171 (by decide) (fun c9 => absurd c9 (nI_ge hi (by omega))) (fun c9 => ?_)
              refine lv_aload hx hb dX5_guard_174 (lv_at hl 2 rfl) ?_
              refine lv_iload hx hb dX5_guard_176 (lv_at hl 0 rfl) ?_
              refine m_aalA hC hE hP (k_28 hL) e_28 i (rfl) (((Cn.of fun _ _ => mov_ne (by decide) (by decide)).tr (Cn.of fun _ _ => it_keep (fun _ _ => fin1_ne (by decide) (by decide) (by decide) (by decide)) _ _)).lS (by omega)) (((Cn.of fun _ _ => mov_ne (by decide) (by decide)).tr (Cn.of fun _ _ => it_keep (fun _ _ => fin1_ne (by decide) (by decide) (by decide) (by decide)) _ _)).bS (by omega)) dX5_guard_178 ?_
              refine lv_astore (lv' := [(7, .ref (ad g (24, 2, i))), (6, .int (nI i)), (5, .int (nI (nS v))), (4, .ref (ad g (28, 2, 0))), (3, .ref (ad g (23, 0, (gol v w).toNatClampNeg))), (2, .int (gol v w)), (0, .ref (ad g (20, 0, 0))), (1, .ref (ad g (25, 2, w)))]) hx hb dX5_guard_179 hl (by decide) rfl (fun ls hl => ?_)
              refine lv_aload hx hb dX5_guard_181 (lv_at hl 0 rfl) ?_
              refine lv_iconst (v := 2) hx hb dX5_guard_183 (by decide) ?_
              refine m_iald hC hE hP (k_24 hL (by omega)) e_24 2 (rfl) (show 2 < 6 from by omega) (by decide) dX5_guard_184 ?_
              refine m_top (y := (it (fin1 w ((gol v w).toNatClampNeg) (9 * b + a)) i (mov w ((gol v w).toNatClampNeg) v)) 8 i) rfl ?_
              refine lv_iload_n hx hb dX5_guard_185 rfl (lv_at hl 5 rfl) ?_
              refine lv_icmp_ne (tgt := 276) hx hb dX5_guard_186 (by decide) (fun c3 => ?_) (fun c3 => ?_)
              · refine lv_iinc (v := nI (i + 1)) (lv' := [(6, .int (nI (i + 1))), (7, .ref (ad g (24, 2, i))), (5, .int (nI (nS v))), (4, .ref (ad g (28, 2, 0))), (3, .ref (ad g (23, 0, (gol v w).toNatClampNeg))), (2, .int (gol v w)), (0, .ref (ad g (20, 0, 0))), (1, .ref (ad g (25, 2, w)))]) hx hb dX5_guard_276 hl (k := 1) rfl (nI_1 _) (by decide) rfl (fun ls hl => ?_)
                refine lv_goto (tgt := 167) hx hb dX5_guard_279 (by decide) ?_
                exact IH H locs ls (hP.castR (fin1_no (ovr_1 (fun z => c3 (z.trans hz.1.symm))))) hS (lv_sub hl [0, 2, 3, 4, 5, 6, 7] rfl) (trivial)
              · refine lv_aload hx hb dX5_guard_189 (lv_at hl 0 rfl) ?_
                refine lv_iconst (v := 3) hx hb dX5_guard_191 (by decide) ?_
                refine m_iald hC hE hP (k_24 hL (by omega)) e_24 3 (rfl) (show 3 < 6 from by omega) (by decide) dX5_guard_192 ?_
                refine m_top (y := (it (fin1 w ((gol v w).toNatClampNeg) (9 * b + a)) i (mov w ((gol v w).toNatClampNeg) v)) 9 i) rfl ?_
                refine lv_aload hx hb dX5_guard_193 (lv_at hl 0 rfl) ?_
                refine lv_iconst (v := 0) hx hb dX5_guard_195 (by decide) ?_
                refine m_iald hC hE hP (k_24 hL (by omega)) e_24 0 (rfl) (show 0 < 6 from by omega) (by decide) dX5_guard_196 ?_
                refine m_top (y := (it (fin1 w ((gol v w).toNatClampNeg) (9 * b + a)) i (mov w ((gol v w).toNatClampNeg) v)) 6 i) rfl ?_
                refine lv_icmp_gt (tgt := 203) hx hb dX5_guard_197 (by decide) (fun c4 => ?_) (fun c4 => ?_)
                · have ho : ovr (it (fin1 w ((gol v w).toNatClampNeg) (9 * b + a)) i (mov w ((gol v w).toNatClampNeg) v)) ((gol v w).toNatClampNeg) i = true := ovr_t (c3.trans hz.1) c4
                  refine lv_aload_n hx hb dX5_guard_203 rfl (lv_at hl 6 rfl) ?_
                  refine m_get hC hE hP (k_20 hL) e_20 rfl u_5 0 (by decide) w_649 rfl rfl dX5_guard_204 ?_
                  refine lv_aload_n hx hb dX5_guard_207 rfl (lv_at hl 4 rfl) ?_
                  refine lv_iconst (v := 0) hx hb dX5_guard_208 (by decide) ?_
                  refine m_iald hC hE hP (k_23 hL (by omega)) e_23 0 (rfl) (show 0 < 3 from by omega) (by decide) dX5_guard_209 ?_
                  refine m_top (y := (it (fin1 w ((gol v w).toNatClampNeg) (9 * b + a)) i (mov w ((gol v w).toNatClampNeg) v)) 3 ((gol v w).toNatClampNeg)) rfl ?_
                  refine m_top (y := nI a) ((it_keep (fun _ _ => fin1_ne (by decide) (by decide) (by decide) (by decide)) _ _).trans ((mov_ne (by decide) (by decide)).trans ea)) ?_
                  refine m_aalA hC hE hP (k_26 hL (by decide)) f_26 a (rfl) (show a < 9 from by omega) (by decide) dX5_guard_210 ?_
                  refine lv_aload_n hx hb dX5_guard_211 rfl (lv_at hl 4 rfl) ?_
                  refine lv_iconst (v := 1) hx hb dX5_guard_212 (by decide) ?_
                  refine m_iald hC hE hP (k_23 hL (by omega)) e_23 1 (rfl) (show 1 < 3 from by omega) (by decide) dX5_guard_213 ?_
                  refine m_top (y := (it (fin1 w ((gol v w).toNatClampNeg) (9 * b + a)) i (mov w ((gol v w).toNatClampNeg) v)) 4 ((gol v w).toNatClampNeg)) rfl ?_
                  refine m_top (y := nI b) ((it_keep (fun _ _ => fin1_ne (by decide) (by decide) (by decide) (by decide)) _ _).trans ((mov_ne (by decide) (by decide)).trans eb)) ?_
                  refine m_iald hC hE hP (k_21 hL (by decide) (by omega)) e_21 b (rfl) (show b < 9 from by omega) (by decide) dX5_guard_214 ?_
                  refine m_top (y := (it (fin1 w ((gol v w).toNatClampNeg) (9 * b + a)) i (mov w ((gol v w).toNatClampNeg) v)) 0 (9 * b + a)) rfl ?_
                  refine lv_aload hx hb dX5_guard_215 (lv_at hl 0 rfl) ?_
                  refine lv_iconst (v := 3) hx hb dX5_guard_217 (by decide) ?_
                  refine m_iald hC hE hP (k_24 hL (by omega)) e_24 3 (rfl) (show 3 < 6 from by omega) (by decide) dX5_guard_218 ?_
                  refine m_top (y := (it (fin1 w ((gol v w).toNatClampNeg) (9 * b + a)) i (mov w ((gol v w).toNatClampNeg) v)) 9 i) rfl ?_
                  refine lv_iadd hx hb dX5_guard_219 ?_
                  refine lv_aload hx hb dX5_guard_220 (lv_at hl 0 rfl) ?_
                  refine lv_iconst (v := 0) hx hb dX5_guard_222 (by decide) ?_
                  refine m_iald hC hE hP (k_24 hL (by omega)) e_24 0 (rfl) (show 0 < 6 from by omega) (by decide) dX5_guard_223 ?_
                  refine m_top (y := (it (fin1 w ((gol v w).toNatClampNeg) (9 * b + a)) i (mov w ((gol v w).toNatClampNeg) v)) 6 i) rfl ?_
                  refine lv_isub hx hb dX5_guard_224 ?_
                  refine lv_istore (lv' := [(8, .int ((((it (fin1 w ((gol v w).toNatClampNeg) (9 * b + a)) i (mov w ((gol v w).toNatClampNeg) v)) 0 (9 * b + a)) + ((it (fin1 w ((gol v w).toNatClampNeg) (9 * b + a)) i (mov w ((gol v w).toNatClampNeg) v)) 9 i)) - ((it (fin1 w ((gol v w).toNatClampNeg) (9 * b + a)) i (mov w ((gol v w).toNatClampNeg) v)) 6 i))), (7, .ref (ad g (24, 2, i))), (6, .int (nI i)), (5, .int (nI (nS v))), (4, .ref (ad g (28, 2, 0))), (3, .ref (ad g (23, 0, (gol v w).toNatClampNeg))), (2, .int (gol v w)), (0, .ref (ad g (20, 0, 0))), (1, .ref (ad g (25, 2, w)))]) hx hb dX5_guard_225 hl (by decide) rfl (fun ls hl => ?_)
                  refine lv_aload_n hx hb dX5_guard_227 rfl (lv_at hl 7 rfl) ?_
                  refine m_get hC hE hP (k_20 hL) e_20 rfl u_5 0 (by decide) w_649 rfl rfl dX5_guard_228 ?_
                  refine lv_aload_n hx hb dX5_guard_231 rfl (lv_at hl 5 rfl) ?_
                  refine lv_iconst (v := 0) hx hb dX5_guard_232 (by decide) ?_
                  refine m_iald hC hE hP (k_23 hL (by omega)) e_23 0 (rfl) (show 0 < 3 from by omega) (by decide) dX5_guard_233 ?_
                  refine m_top (y := (it (fin1 w ((gol v w).toNatClampNeg) (9 * b + a)) i (mov w ((gol v w).toNatClampNeg) v)) 3 ((gol v w).toNatClampNeg)) rfl ?_
                  refine m_top (y := nI a) ((it_keep (fun _ _ => fin1_ne (by decide) (by decide) (by decide) (by decide)) _ _).trans ((mov_ne (by decide) (by decide)).trans ea)) ?_
                  refine m_aalA hC hE hP (k_26 hL (by decide)) f_26 a (rfl) (show a < 9 from by omega) (by decide) dX5_guard_234 ?_
                  refine lv_aload_n hx hb dX5_guard_235 rfl (lv_at hl 5 rfl) ?_
                  refine lv_iconst (v := 1) hx hb dX5_guard_236 (by decide) ?_
                  refine m_iald hC hE hP (k_23 hL (by omega)) e_23 1 (rfl) (show 1 < 3 from by omega) (by decide) dX5_guard_237 ?_
                  refine m_top (y := (it (fin1 w ((gol v w).toNatClampNeg) (9 * b + a)) i (mov w ((gol v w).toNatClampNeg) v)) 4 ((gol v w).toNatClampNeg)) rfl ?_
                  refine m_top (y := nI b) ((it_keep (fun _ _ => fin1_ne (by decide) (by decide) (by decide) (by decide)) _ _).trans ((mov_ne (by decide) (by decide)).trans eb)) ?_
                  refine W_joinL (g := g) (K := KK g) (nL := 9) (ent g (setR M 2 (it (fin1 w ((gol v w).toNatClampNeg) (9 * b + a)) i (mov w ((gol v w).toNatClampNeg) v))) o) [(8, .int ((((it (fin1 w ((gol v w).toNatClampNeg) (9 * b + a)) i (mov w ((gol v w).toNatClampNeg) v)) 0 (9 * b + a)) + ((it (fin1 w ((gol v w).toNatClampNeg) (9 * b + a)) i (mov w ((gol v w).toNatClampNeg) v)) 9 i)) - ((it (fin1 w ((gol v w).toNatClampNeg) (9 * b + a)) i (mov w ((gol v w).toNatClampNeg) v)) 6 i))), (7, .ref (ad g (24, 2, i))), (6, .int (nI i)), (5, .int (nI (nS v))), (4, .ref (ad g (28, 2, 0))), (3, .ref (ad g (23, 0, (gol v w).toNatClampNeg))), (2, .int (gol v w)), (0, .ref (ad g (20, 0, 0))), (1, .ref (ad g (25, 2, w)))] (pc := 252) [.int (imin 60 ((((it (fin1 w ((gol v w).toNatClampNeg) (9 * b + a)) i (mov w ((gol v w).toNatClampNeg) v)) 0 (9 * b + a)) + ((it (fin1 w ((gol v w).toNatClampNeg) (9 * b + a)) i (mov w ((gol v w).toNatClampNeg) v)) 9 i)) - ((it (fin1 w ((gol v w).toNatClampNeg) (9 * b + a)) i (mov w ((gol v w).toNatClampNeg) v)) 6 i))), .int (nI b), .ref (ad g (21, 0, a))] (fun hj252 => ?_) (fun H locs ls hP hS hl => ?_)
                  · refine lv_iload hx hb dX5_guard_238 (lv_at hl 0 rfl) ?_
                    refine lv_bipush (v := 60) hx hb dX5_guard_240 (by decide) ?_
                    refine lv_icmp_le (tgt := 250) hx hb dX5_guard_242 (by decide) (fun c5 => ?_) (fun c5 => ?_)
                    · refine lv_iload hx hb dX5_guard_250 (lv_at hl 0 rfl) ?_
                      refine m_top (y := imin 60 ((((it (fin1 w ((gol v w).toNatClampNeg) (9 * b + a)) i (mov w ((gol v w).toNatClampNeg) v)) 0 (9 * b + a)) + ((it (fin1 w ((gol v w).toNatClampNeg) (9 * b + a)) i (mov w ((gol v w).toNatClampNeg) v)) 9 i)) - ((it (fin1 w ((gol v w).toNatClampNeg) (9 * b + a)) i (mov w ((gol v w).toNatClampNeg) v)) 6 i))) (im60_t c5) ?_
                      exact hj252 H locs ls (hP.castR (rfl)) hS (lv_sub hl [0, 1, 2, 3, 4, 5, 6, 7, 8] rfl)
                    · refine lv_bipush (v := 60) hx hb dX5_guard_245 (by decide) ?_
                      refine lv_goto (tgt := 252) hx hb dX5_guard_247 (by decide) ?_
                      refine m_top (y := imin 60 ((((it (fin1 w ((gol v w).toNatClampNeg) (9 * b + a)) i (mov w ((gol v w).toNatClampNeg) v)) 0 (9 * b + a)) + ((it (fin1 w ((gol v w).toNatClampNeg) (9 * b + a)) i (mov w ((gol v w).toNatClampNeg) v)) 9 i)) - ((it (fin1 w ((gol v w).toNatClampNeg) (9 * b + a)) i (mov w ((gol v w).toNatClampNeg) v)) 6 i))) (im60_f c5) ?_
                      exact hj252 H locs ls (hP.castR (rfl)) hS (lv_sub hl [0, 1, 2, 3, 4, 5, 6, 7, 8] rfl)
                  · refine m_iast hC hE hI hP hS (k_21 hL (by decide) (by omega)) e_21 b (rfl) (show b < 9 from by omega) (by decide) (p_21 (by omega)) (ent_put g M 2 (it (fin1 w ((gol v w).toNatClampNeg) (9 * b + a)) i (mov w ((gol v w).toNatClampNeg) v)) o 0 (9 * b + a) (imin 60 ((((it (fin1 w ((gol v w).toNatClampNeg) (9 * b + a)) i (mov w ((gol v w).toNatClampNeg) v)) 0 (9 * b + a)) + ((it (fin1 w ((gol v w).toNatClampNeg) (9 * b + a)) i (mov w ((gol v w).toNatClampNeg) v)) 9 i)) - ((it (fin1 w ((gol v w).toNatClampNeg) (9 * b + a)) i (mov w ((gol v w).toNatClampNeg) v)) 6 i))) (kf_21 (by decide) (by omega))) dX5_guard_252 (fun H locs hP hS => ?_)
                    refine lv_aload hx hb dX5_guard_253 (lv_at hl 1 rfl) ?_
                    refine lv_iconst (v := 3) hx hb dX5_guard_255 (by decide) ?_
                    refine lv_aload hx hb dX5_guard_256 (lv_at hl 1 rfl) ?_
                    refine lv_iconst (v := 0) hx hb dX5_guard_258 (by decide) ?_
                    refine m_iald hC hE hP (k_24 hL (by omega)) e_24 0 (rfl) (show 0 < 6 from by omega) (by decide) dX5_guard_259 ?_
                    refine m_top (y := (up2 (it (fin1 w ((gol v w).toNatClampNeg) (9 * b + a)) i (mov w ((gol v w).toNatClampNeg) v)) 0 (9 * b + a) (imin 60 ((((it (fin1 w ((gol v w).toNatClampNeg) (9 * b + a)) i (mov w ((gol v w).toNatClampNeg) v)) 0 (9 * b + a)) + ((it (fin1 w ((gol v w).toNatClampNeg) (9 * b + a)) i (mov w ((gol v w).toNatClampNeg) v)) 9 i)) - ((it (fin1 w ((gol v w).toNatClampNeg) (9 * b + a)) i (mov w ((gol v w).toNatClampNeg) v)) 6 i)))) 6 i) rfl ?_
                    refine m_iast hC hE hI hP hS (k_24 hL (by omega)) e_24 3 (rfl) (show 3 < 6 from by omega) (by decide) (p_24 3 (by decide)) (ent_put g M 2 (up2 (it (fin1 w ((gol v w).toNatClampNeg) (9 * b + a)) i (mov w ((gol v w).toNatClampNeg) v)) 0 (9 * b + a) (imin 60 ((((it (fin1 w ((gol v w).toNatClampNeg) (9 * b + a)) i (mov w ((gol v w).toNatClampNeg) v)) 0 (9 * b + a)) + ((it (fin1 w ((gol v w).toNatClampNeg) (9 * b + a)) i (mov w ((gol v w).toNatClampNeg) v)) 9 i)) - ((it (fin1 w ((gol v w).toNatClampNeg) (9 * b + a)) i (mov w ((gol v w).toNatClampNeg) v)) 6 i)))) o 9 i ((up2 (it (fin1 w ((gol v w).toNatClampNeg) (9 * b + a)) i (mov w ((gol v w).toNatClampNeg) v)) 0 (9 * b + a) (imin 60 ((((it (fin1 w ((gol v w).toNatClampNeg) (9 * b + a)) i (mov w ((gol v w).toNatClampNeg) v)) 0 (9 * b + a)) + ((it (fin1 w ((gol v w).toNatClampNeg) (9 * b + a)) i (mov w ((gol v w).toNatClampNeg) v)) 9 i)) - ((it (fin1 w ((gol v w).toNatClampNeg) (9 * b + a)) i (mov w ((gol v w).toNatClampNeg) v)) 6 i)))) 6 i) (kf_24 (Or.inl rfl) (by decide) (by decide))) dX5_guard_260 (fun H locs hP hS => ?_)
                    refine lv_aload hx hb dX5_guard_261 (lv_at hl 1 rfl) ?_
                    refine lv_iconst (v := 5) hx hb dX5_guard_263 (by decide) ?_
                    refine lv_dup2_11 hx hb dX5_guard_264 rfl rfl ?_
                    refine m_iald hC hE hP (k_24 hL (by omega)) e_24 5 (rfl) (show 5 < 6 from by omega) (by decide) dX5_guard_265 ?_
                    refine m_top (y := (up2 (up2 (it (fin1 w ((gol v w).toNatClampNeg) (9 * b + a)) i (mov w ((gol v w).toNatClampNeg) v)) 0 (9 * b + a) (imin 60 ((((it (fin1 w ((gol v w).toNatClampNeg) (9 * b + a)) i (mov w ((gol v w).toNatClampNeg) v)) 0 (9 * b + a)) + ((it (fin1 w ((gol v w).toNatClampNeg) (9 * b + a)) i (mov w ((gol v w).toNatClampNeg) v)) 9 i)) - ((it (fin1 w ((gol v w).toNatClampNeg) (9 * b + a)) i (mov w ((gol v w).toNatClampNeg) v)) 6 i)))) 9 i ((up2 (it (fin1 w ((gol v w).toNatClampNeg) (9 * b + a)) i (mov w ((gol v w).toNatClampNeg) v)) 0 (9 * b + a) (imin 60 ((((it (fin1 w ((gol v w).toNatClampNeg) (9 * b + a)) i (mov w ((gol v w).toNatClampNeg) v)) 0 (9 * b + a)) + ((it (fin1 w ((gol v w).toNatClampNeg) (9 * b + a)) i (mov w ((gol v w).toNatClampNeg) v)) 9 i)) - ((it (fin1 w ((gol v w).toNatClampNeg) (9 * b + a)) i (mov w ((gol v w).toNatClampNeg) v)) 6 i)))) 6 i)) 11 i) rfl ?_
                    refine m_top (y := (it (fin1 w ((gol v w).toNatClampNeg) (9 * b + a)) i (mov w ((gol v w).toNatClampNeg) v)) 11 i) ((up2_c (by decide)).trans (up2_c (by decide))) ?_
                    refine lv_iconst (v := 1) hx hb dX5_guard_266 (by decide) ?_
                    refine lv_iadd hx hb dX5_guard_267 ?_
                    refine m_iast hC hE hI hP hS (k_24 hL (by omega)) e_24 5 (rfl) (show 5 < 6 from by omega) (by decide) (p_24 5 (by decide)) (ent_put g M 2 (up2 (up2 (it (fin1 w ((gol v w).toNatClampNeg) (9 * b + a)) i (mov w ((gol v w).toNatClampNeg) v)) 0 (9 * b + a) (imin 60 ((((it (fin1 w ((gol v w).toNatClampNeg) (9 * b + a)) i (mov w ((gol v w).toNatClampNeg) v)) 0 (9 * b + a)) + ((it (fin1 w ((gol v w).toNatClampNeg) (9 * b + a)) i (mov w ((gol v w).toNatClampNeg) v)) 9 i)) - ((it (fin1 w ((gol v w).toNatClampNeg) (9 * b + a)) i (mov w ((gol v w).toNatClampNeg) v)) 6 i)))) 9 i ((up2 (it (fin1 w ((gol v w).toNatClampNeg) (9 * b + a)) i (mov w ((gol v w).toNatClampNeg) v)) 0 (9 * b + a) (imin 60 ((((it (fin1 w ((gol v w).toNatClampNeg) (9 * b + a)) i (mov w ((gol v w).toNatClampNeg) v)) 0 (9 * b + a)) + ((it (fin1 w ((gol v w).toNatClampNeg) (9 * b + a)) i (mov w ((gol v w).toNatClampNeg) v)) 9 i)) - ((it (fin1 w ((gol v w).toNatClampNeg) (9 * b + a)) i (mov w ((gol v w).toNatClampNeg) v)) 6 i)))) 6 i)) o 11 i (((it (fin1 w ((gol v w).toNatClampNeg) (9 * b + a)) i (mov w ((gol v w).toNatClampNeg) v)) 11 i) + (1 : Int32)) (kf_24 (Or.inl rfl) (by decide) (by decide))) dX5_guard_268 (fun H locs hP hS => ?_)
                    refine lv_aload_n hx hb dX5_guard_269 rfl (lv_at hl 8 rfl) ?_
                    refine lv_iconst (v := 3) hx hb dX5_guard_270 (by decide) ?_
                    refine lv_dup2_11 hx hb dX5_guard_271 rfl rfl ?_
                    refine m_iald hC hE hP (k_25 hL (by omega)) e_25 3 (rfl) (show 3 < 4 from by omega) (by decide) dX5_guard_272 ?_
                    refine m_top (y := (up2 (up2 (up2 (it (fin1 w ((gol v w).toNatClampNeg) (9 * b + a)) i (mov w ((gol v w).toNatClampNeg) v)) 0 (9 * b + a) (imin 60 ((((it (fin1 w ((gol v w).toNatClampNeg) (9 * b + a)) i (mov w ((gol v w).toNatClampNeg) v)) 0 (9 * b + a)) + ((it (fin1 w ((gol v w).toNatClampNeg) (9 * b + a)) i (mov w ((gol v w).toNatClampNeg) v)) 9 i)) - ((it (fin1 w ((gol v w).toNatClampNeg) (9 * b + a)) i (mov w ((gol v w).toNatClampNeg) v)) 6 i)))) 9 i ((up2 (it (fin1 w ((gol v w).toNatClampNeg) (9 * b + a)) i (mov w ((gol v w).toNatClampNeg) v)) 0 (9 * b + a) (imin 60 ((((it (fin1 w ((gol v w).toNatClampNeg) (9 * b + a)) i (mov w ((gol v w).toNatClampNeg) v)) 0 (9 * b + a)) + ((it (fin1 w ((gol v w).toNatClampNeg) (9 * b + a)) i (mov w ((gol v w).toNatClampNeg) v)) 9 i)) - ((it (fin1 w ((gol v w).toNatClampNeg) (9 * b + a)) i (mov w ((gol v w).toNatClampNeg) v)) 6 i)))) 6 i)) 11 i (((it (fin1 w ((gol v w).toNatClampNeg) (9 * b + a)) i (mov w ((gol v w).toNatClampNeg) v)) 11 i) + (1 : Int32))) 15 w) rfl ?_
                    refine m_top (y := (it (fin1 w ((gol v w).toNatClampNeg) (9 * b + a)) i (mov w ((gol v w).toNatClampNeg) v)) 15 w) ((up2_c (by decide)).trans ((up2_c (by decide)).trans (up2_c (by decide)))) ?_
                    refine lv_iconst (v := 1) hx hb dX5_guard_273 (by decide) ?_
                    refine lv_iadd hx hb dX5_guard_274 ?_
                    refine m_iast hC hE hI hP hS (k_25 hL (by omega)) e_25 3 (rfl) (show 3 < 4 from by omega) (by decide) (p_25 3 (by decide)) (ent_put g M 2 (up2 (up2 (up2 (it (fin1 w ((gol v w).toNatClampNeg) (9 * b + a)) i (mov w ((gol v w).toNatClampNeg) v)) 0 (9 * b + a) (imin 60 ((((it (fin1 w ((gol v w).toNatClampNeg) (9 * b + a)) i (mov w ((gol v w).toNatClampNeg) v)) 0 (9 * b + a)) + ((it (fin1 w ((gol v w).toNatClampNeg) (9 * b + a)) i (mov w ((gol v w).toNatClampNeg) v)) 9 i)) - ((it (fin1 w ((gol v w).toNatClampNeg) (9 * b + a)) i (mov w ((gol v w).toNatClampNeg) v)) 6 i)))) 9 i ((up2 (it (fin1 w ((gol v w).toNatClampNeg) (9 * b + a)) i (mov w ((gol v w).toNatClampNeg) v)) 0 (9 * b + a) (imin 60 ((((it (fin1 w ((gol v w).toNatClampNeg) (9 * b + a)) i (mov w ((gol v w).toNatClampNeg) v)) 0 (9 * b + a)) + ((it (fin1 w ((gol v w).toNatClampNeg) (9 * b + a)) i (mov w ((gol v w).toNatClampNeg) v)) 9 i)) - ((it (fin1 w ((gol v w).toNatClampNeg) (9 * b + a)) i (mov w ((gol v w).toNatClampNeg) v)) 6 i)))) 6 i)) 11 i (((it (fin1 w ((gol v w).toNatClampNeg) (9 * b + a)) i (mov w ((gol v w).toNatClampNeg) v)) 11 i) + (1 : Int32))) o 15 w (((it (fin1 w ((gol v w).toNatClampNeg) (9 * b + a)) i (mov w ((gol v w).toNatClampNeg) v)) 15 w) + (1 : Int32)) (kf_25 (Or.inl rfl) (by decide) (by decide))) dX5_guard_275 (fun H locs hP hS => ?_)
                    refine lv_iinc (v := nI (i + 1)) (lv' := [(6, .int (nI (i + 1))), (8, .int ((((it (fin1 w ((gol v w).toNatClampNeg) (9 * b + a)) i (mov w ((gol v w).toNatClampNeg) v)) 0 (9 * b + a)) + ((it (fin1 w ((gol v w).toNatClampNeg) (9 * b + a)) i (mov w ((gol v w).toNatClampNeg) v)) 9 i)) - ((it (fin1 w ((gol v w).toNatClampNeg) (9 * b + a)) i (mov w ((gol v w).toNatClampNeg) v)) 6 i))), (7, .ref (ad g (24, 2, i))), (5, .int (nI (nS v))), (4, .ref (ad g (28, 2, 0))), (3, .ref (ad g (23, 0, (gol v w).toNatClampNeg))), (2, .int (gol v w)), (0, .ref (ad g (20, 0, 0))), (1, .ref (ad g (25, 2, w)))]) hx hb dX5_guard_276 hl (k := 2) rfl (nI_1 _) (by decide) rfl (fun ls hl => ?_)
                    refine lv_goto (tgt := 167) hx hb dX5_guard_279 (by decide) ?_
                    exact IH H locs ls (hP.castR (if_pos ho)) hS (lv_sub hl [0, 3, 4, 5, 6, 7, 8] rfl) (trivial)
                · refine lv_goto (tgt := 276) hx hb dX5_guard_200 (by decide) ?_
                  refine lv_iinc (v := nI (i + 1)) (lv' := [(6, .int (nI (i + 1))), (7, .ref (ad g (24, 2, i))), (5, .int (nI (nS v))), (4, .ref (ad g (28, 2, 0))), (3, .ref (ad g (23, 0, (gol v w).toNatClampNeg))), (2, .int (gol v w)), (0, .ref (ad g (20, 0, 0))), (1, .ref (ad g (25, 2, w)))]) hx hb dX5_guard_276 hl (k := 1) rfl (nI_1 _) (by decide) rfl (fun ls hl => ?_)
                  refine lv_goto (tgt := 167) hx hb dX5_guard_279 (by decide) ?_
                  exact IH H locs ls (hP.castR (fin1_no (ovr_2 c4))) hS (lv_sub hl [0, 2, 3, 4, 5, 6, 7] rfl) (trivial)
          · exact m_vret hC hr_ hlk hS (hP.castR ((if_neg h8).trans (if_pos (Int32.not_le.mp c2)))) dX5_guard_152
    · have h8 : gol v w = -1 := Decidable.not_not.mp (fun z => c1 (by rw [(gol_of hv z).1]; exact nI_ge0 (by have := (gol_of hv z).2; omega)))
      exact m_vret hC hr_ hlk hS (hP.castR (if_pos h8)) dX5_guard_71
