/-! the reference: the night -/
theorem dX5_guard_0 : decode cX5_guard 0 = .ok (.aload_n 0, 1) := by decide +kernel
theorem dX5_guard_1 : decode cX5_guard 1 = .ok (.iload_n 1, 1) := by decide +kernel
theorem dX5_guard_2 : decode cX5_guard 2 = .ok (.invokevirtual 108, 3) := by decide +kernel
theorem dX5_guard_5 : decode cX5_guard 5 = .ok (.istore_n 2, 1) := by decide +kernel
theorem dX5_guard_6 : decode cX5_guard 6 = .ok (.iload_n 2, 1) := by decide +kernel
theorem dX5_guard_7 : decode cX5_guard 7 = .ok (.iconst (-1), 1) := by decide +kernel
theorem dX5_guard_8 : decode cX5_guard 8 = .ok (.if_icmp .ne 4, 3) := by decide +kernel
theorem dX5_guard_11 : decode cX5_guard 11 = .ok (.return_, 1) := by decide +kernel
theorem dX5_guard_12 : decode cX5_guard 12 = .ok (.iconst 0, 1) := by decide +kernel
theorem dX5_guard_13 : decode cX5_guard 13 = .ok (.istore_n 3, 1) := by decide +kernel
theorem dX5_guard_14 : decode cX5_guard 14 = .ok (.iload_n 3, 1) := by decide +kernel
theorem dX5_guard_15 : decode cX5_guard 15 = .ok (.aload_n 0, 1) := by decide +kernel
theorem dX5_guard_16 : decode cX5_guard 16 = .ok (.getfield 3, 3) := by decide +kernel
theorem dX5_guard_19 : decode cX5_guard 19 = .ok (.getfield 111, 3) := by decide +kernel
theorem dX5_guard_22 : decode cX5_guard 22 = .ok (.iload_n 1, 1) := by decide +kernel
theorem dX5_guard_23 : decode cX5_guard 23 = .ok (.iaload, 1) := by decide +kernel
theorem dX5_guard_24 : decode cX5_guard 24 = .ok (.if_icmp .ge 65, 3) := by decide +kernel
theorem dX5_guard_27 : decode cX5_guard 27 = .ok (.aload_n 0, 1) := by decide +kernel
theorem dX5_guard_28 : decode cX5_guard 28 = .ok (.getfield 38, 3) := by decide +kernel
theorem dX5_guard_31 : decode cX5_guard 31 = .ok (.iload_n 1, 1) := by decide +kernel
theorem dX5_guard_32 : decode cX5_guard 32 = .ok (.dup2, 1) := by decide +kernel
theorem dX5_guard_33 : decode cX5_guard 33 = .ok (.iaload, 1) := by decide +kernel
theorem dX5_guard_34 : decode cX5_guard 34 = .ok (.aload_n 0, 1) := by decide +kernel
theorem dX5_guard_35 : decode cX5_guard 35 = .ok (.getfield 3, 3) := by decide +kernel
theorem dX5_guard_38 : decode cX5_guard 38 = .ok (.getfield 60, 3) := by decide +kernel
theorem dX5_guard_41 : decode cX5_guard 41 = .ok (.iload_n 2, 1) := by decide +kernel
theorem dX5_guard_42 : decode cX5_guard 42 = .ok (.iaload, 1) := by decide +kernel
theorem dX5_guard_43 : decode cX5_guard 43 = .ok (.aload_n 0, 1) := by decide +kernel
theorem dX5_guard_44 : decode cX5_guard 44 = .ok (.getfield 38, 3) := by decide +kernel
theorem dX5_guard_47 : decode cX5_guard 47 = .ok (.iload_n 1, 1) := by decide +kernel
theorem dX5_guard_48 : decode cX5_guard 48 = .ok (.iaload, 1) := by decide +kernel
theorem dX5_guard_49 : decode cX5_guard 49 = .ok (.isub, 1) := by decide +kernel
theorem dX5_guard_50 : decode cX5_guard 50 = .ok (.invokestatic 114, 3) := by decide +kernel
theorem dX5_guard_53 : decode cX5_guard 53 = .ok (.iadd, 1) := by decide +kernel
theorem dX5_guard_54 : decode cX5_guard 54 = .ok (.iastore, 1) := by decide +kernel
theorem dX5_guard_55 : decode cX5_guard 55 = .ok (.aload_n 0, 1) := by decide +kernel
theorem dX5_guard_56 : decode cX5_guard 56 = .ok (.getfield 41, 3) := by decide +kernel
theorem dX5_guard_59 : decode cX5_guard 59 = .ok (.iload_n 1, 1) := by decide +kernel
theorem dX5_guard_60 : decode cX5_guard 60 = .ok (.dup2, 1) := by decide +kernel
theorem dX5_guard_61 : decode cX5_guard 61 = .ok (.iaload, 1) := by decide +kernel
theorem dX5_guard_62 : decode cX5_guard 62 = .ok (.aload_n 0, 1) := by decide +kernel
theorem dX5_guard_63 : decode cX5_guard 63 = .ok (.getfield 3, 3) := by decide +kernel
theorem dX5_guard_66 : decode cX5_guard 66 = .ok (.getfield 63, 3) := by decide +kernel
theorem dX5_guard_69 : decode cX5_guard 69 = .ok (.iload_n 2, 1) := by decide +kernel
theorem dX5_guard_70 : decode cX5_guard 70 = .ok (.iaload, 1) := by decide +kernel
theorem dX5_guard_71 : decode cX5_guard 71 = .ok (.aload_n 0, 1) := by decide +kernel
theorem dX5_guard_72 : decode cX5_guard 72 = .ok (.getfield 41, 3) := by decide +kernel
theorem dX5_guard_75 : decode cX5_guard 75 = .ok (.iload_n 1, 1) := by decide +kernel
theorem dX5_guard_76 : decode cX5_guard 76 = .ok (.iaload, 1) := by decide +kernel
theorem dX5_guard_77 : decode cX5_guard 77 = .ok (.isub, 1) := by decide +kernel
theorem dX5_guard_78 : decode cX5_guard 78 = .ok (.invokestatic 114, 3) := by decide +kernel
theorem dX5_guard_81 : decode cX5_guard 81 = .ok (.iadd, 1) := by decide +kernel
theorem dX5_guard_82 : decode cX5_guard 82 = .ok (.iastore, 1) := by decide +kernel
theorem dX5_guard_83 : decode cX5_guard 83 = .ok (.iinc 3 1, 3) := by decide +kernel
theorem dX5_guard_86 : decode cX5_guard 86 = .ok (.goto (-72), 3) := by decide +kernel
theorem dX5_guard_89 : decode cX5_guard 89 = .ok (.aload_n 0, 1) := by decide +kernel
theorem dX5_guard_90 : decode cX5_guard 90 = .ok (.iload_n 1, 1) := by decide +kernel
theorem dX5_guard_91 : decode cX5_guard 91 = .ok (.iload_n 2, 1) := by decide +kernel
theorem dX5_guard_92 : decode cX5_guard 92 = .ok (.invokevirtual 105, 3) := by decide +kernel
theorem dX5_guard_95 : decode cX5_guard 95 = .ok (.ifCond .le 4, 3) := by decide +kernel
theorem dX5_guard_98 : decode cX5_guard 98 = .ok (.return_, 1) := by decide +kernel
theorem dX5_guard_99 : decode cX5_guard 99 = .ok (.aload_n 0, 1) := by decide +kernel
theorem dX5_guard_100 : decode cX5_guard 100 = .ok (.getfield 3, 3) := by decide +kernel
theorem dX5_guard_103 : decode cX5_guard 103 = .ok (.iload_n 2, 1) := by decide +kernel
theorem dX5_guard_104 : decode cX5_guard 104 = .ok (.invokevirtual 85, 3) := by decide +kernel
theorem dX5_guard_107 : decode cX5_guard 107 = .ok (.istore_n 3, 1) := by decide +kernel
theorem dX5_guard_108 : decode cX5_guard 108 = .ok (.iconst 0, 1) := by decide +kernel
theorem dX5_guard_109 : decode cX5_guard 109 = .ok (.istore 4, 2) := by decide +kernel
theorem dX5_guard_111 : decode cX5_guard 111 = .ok (.iload 4, 2) := by decide +kernel
theorem dX5_guard_113 : decode cX5_guard 113 = .ok (.aload_n 0, 1) := by decide +kernel
theorem dX5_guard_114 : decode cX5_guard 114 = .ok (.getfield 3, 3) := by decide +kernel
theorem dX5_guard_117 : decode cX5_guard 117 = .ok (.getfield 98, 3) := by decide +kernel
theorem dX5_guard_120 : decode cX5_guard 120 = .ok (.if_icmp .ge 96, 3) := by decide +kernel
theorem dX5_guard_123 : decode cX5_guard 123 = .ok (.aload_n 0, 1) := by decide +kernel
theorem dX5_guard_124 : decode cX5_guard 124 = .ok (.iload 4, 2) := by decide +kernel
theorem dX5_guard_126 : decode cX5_guard 126 = .ok (.iload_n 2, 1) := by decide +kernel
theorem dX5_guard_127 : decode cX5_guard 127 = .ok (.invokevirtual 101, 3) := by decide +kernel
theorem dX5_guard_130 : decode cX5_guard 130 = .ok (.ifCond .ne 6, 3) := by decide +kernel
theorem dX5_guard_133 : decode cX5_guard 133 = .ok (.goto 77, 3) := by decide +kernel
theorem dX5_guard_136 : decode cX5_guard 136 = .ok (.aload_n 0, 1) := by decide +kernel
theorem dX5_guard_137 : decode cX5_guard 137 = .ok (.getfield 19, 3) := by decide +kernel
theorem dX5_guard_140 : decode cX5_guard 140 = .ok (.iload_n 3, 1) := by decide +kernel
theorem dX5_guard_141 : decode cX5_guard 141 = .ok (.bipush 60, 2) := by decide +kernel
theorem dX5_guard_143 : decode cX5_guard 143 = .ok (.aload_n 0, 1) := by decide +kernel
theorem dX5_guard_144 : decode cX5_guard 144 = .ok (.getfield 19, 3) := by decide +kernel
theorem dX5_guard_147 : decode cX5_guard 147 = .ok (.iload_n 3, 1) := by decide +kernel
theorem dX5_guard_148 : decode cX5_guard 148 = .ok (.iaload, 1) := by decide +kernel
theorem dX5_guard_149 : decode cX5_guard 149 = .ok (.aload_n 0, 1) := by decide +kernel
theorem dX5_guard_150 : decode cX5_guard 150 = .ok (.getfield 29, 3) := by decide +kernel
theorem dX5_guard_153 : decode cX5_guard 153 = .ok (.iload 4, 2) := by decide +kernel
theorem dX5_guard_155 : decode cX5_guard 155 = .ok (.iaload, 1) := by decide +kernel
theorem dX5_guard_156 : decode cX5_guard 156 = .ok (.iadd, 1) := by decide +kernel
theorem dX5_guard_157 : decode cX5_guard 157 = .ok (.aload_n 0, 1) := by decide +kernel
theorem dX5_guard_158 : decode cX5_guard 158 = .ok (.getfield 3, 3) := by decide +kernel
theorem dX5_guard_161 : decode cX5_guard 161 = .ok (.getfield 92, 3) := by decide +kernel
theorem dX5_guard_164 : decode cX5_guard 164 = .ok (.iload 4, 2) := by decide +kernel
theorem dX5_guard_166 : decode cX5_guard 166 = .ok (.iaload, 1) := by decide +kernel
theorem dX5_guard_167 : decode cX5_guard 167 = .ok (.isub, 1) := by decide +kernel
theorem dX5_guard_168 : decode cX5_guard 168 = .ok (.invokestatic 73, 3) := by decide +kernel
theorem dX5_guard_171 : decode cX5_guard 171 = .ok (.iastore, 1) := by decide +kernel
theorem dX5_guard_172 : decode cX5_guard 172 = .ok (.aload_n 0, 1) := by decide +kernel
theorem dX5_guard_173 : decode cX5_guard 173 = .ok (.getfield 29, 3) := by decide +kernel
theorem dX5_guard_176 : decode cX5_guard 176 = .ok (.iload 4, 2) := by decide +kernel
theorem dX5_guard_178 : decode cX5_guard 178 = .ok (.aload_n 0, 1) := by decide +kernel
theorem dX5_guard_179 : decode cX5_guard 179 = .ok (.getfield 3, 3) := by decide +kernel
theorem dX5_guard_182 : decode cX5_guard 182 = .ok (.getfield 92, 3) := by decide +kernel
theorem dX5_guard_185 : decode cX5_guard 185 = .ok (.iload 4, 2) := by decide +kernel
theorem dX5_guard_187 : decode cX5_guard 187 = .ok (.iaload, 1) := by decide +kernel
theorem dX5_guard_188 : decode cX5_guard 188 = .ok (.iastore, 1) := by decide +kernel
theorem dX5_guard_189 : decode cX5_guard 189 = .ok (.aload_n 0, 1) := by decide +kernel
theorem dX5_guard_190 : decode cX5_guard 190 = .ok (.getfield 35, 3) := by decide +kernel
theorem dX5_guard_193 : decode cX5_guard 193 = .ok (.iload 4, 2) := by decide +kernel
theorem dX5_guard_195 : decode cX5_guard 195 = .ok (.dup2, 1) := by decide +kernel
theorem dX5_guard_196 : decode cX5_guard 196 = .ok (.iaload, 1) := by decide +kernel
theorem dX5_guard_197 : decode cX5_guard 197 = .ok (.iconst 1, 1) := by decide +kernel
theorem dX5_guard_198 : decode cX5_guard 198 = .ok (.iadd, 1) := by decide +kernel
theorem dX5_guard_199 : decode cX5_guard 199 = .ok (.iastore, 1) := by decide +kernel
theorem dX5_guard_200 : decode cX5_guard 200 = .ok (.aload_n 0, 1) := by decide +kernel
theorem dX5_guard_201 : decode cX5_guard 201 = .ok (.getfield 44, 3) := by decide +kernel
theorem dX5_guard_204 : decode cX5_guard 204 = .ok (.iload_n 1, 1) := by decide +kernel
theorem dX5_guard_205 : decode cX5_guard 205 = .ok (.dup2, 1) := by decide +kernel
theorem dX5_guard_206 : decode cX5_guard 206 = .ok (.iaload, 1) := by decide +kernel
theorem dX5_guard_207 : decode cX5_guard 207 = .ok (.iconst 1, 1) := by decide +kernel
theorem dX5_guard_208 : decode cX5_guard 208 = .ok (.iadd, 1) := by decide +kernel
theorem dX5_guard_209 : decode cX5_guard 209 = .ok (.iastore, 1) := by decide +kernel
theorem dX5_guard_210 : decode cX5_guard 210 = .ok (.iinc 4 1, 3) := by decide +kernel
theorem dX5_guard_213 : decode cX5_guard 213 = .ok (.goto (-102), 3) := by decide +kernel
theorem dX5_guard_216 : decode cX5_guard 216 = .ok (.return_, 1) := by decide +kernel
theorem dX5_freeze_0 : decode cX5_freeze 0 = .ok (.aload_n 0, 1) := by decide +kernel
theorem dX5_freeze_1 : decode cX5_freeze 1 = .ok (.getfield 3, 3) := by decide +kernel
theorem dX5_freeze_4 : decode cX5_freeze 4 = .ok (.getfield 119, 3) := by decide +kernel
theorem dX5_freeze_7 : decode cX5_freeze 7 = .ok (.aload_n 0, 1) := by decide +kernel
theorem dX5_freeze_8 : decode cX5_freeze 8 = .ok (.getfield 53, 3) := by decide +kernel
theorem dX5_freeze_11 : decode cX5_freeze 11 = .ok (.bipush 7, 2) := by decide +kernel
theorem dX5_freeze_13 : decode cX5_freeze 13 = .ok (.irem, 1) := by decide +kernel
theorem dX5_freeze_14 : decode cX5_freeze 14 = .ok (.iaload, 1) := by decide +kernel
theorem dX5_freeze_15 : decode cX5_freeze 15 = .ok (.istore_n 1, 1) := by decide +kernel
theorem dX5_freeze_16 : decode cX5_freeze 16 = .ok (.aload_n 0, 1) := by decide +kernel
theorem dX5_freeze_17 : decode cX5_freeze 17 = .ok (.iconst 0, 1) := by decide +kernel
theorem dX5_freeze_18 : decode cX5_freeze 18 = .ok (.bipush 90, 2) := by decide +kernel
theorem dX5_freeze_20 : decode cX5_freeze 20 = .ok (.aload_n 0, 1) := by decide +kernel
theorem dX5_freeze_21 : decode cX5_freeze 21 = .ok (.getfield 15, 3) := by decide +kernel
theorem dX5_freeze_24 : decode cX5_freeze 24 = .ok (.iload_n 1, 1) := by decide +kernel
theorem dX5_freeze_25 : decode cX5_freeze 25 = .ok (.iadd, 1) := by decide +kernel
theorem dX5_freeze_26 : decode cX5_freeze 26 = .ok (.invokestatic 73, 3) := by decide +kernel
theorem dX5_freeze_29 : decode cX5_freeze 29 = .ok (.invokestatic 82, 3) := by decide +kernel
theorem dX5_freeze_32 : decode cX5_freeze 32 = .ok (.putfield 15, 3) := by decide +kernel
theorem dX5_freeze_35 : decode cX5_freeze 35 = .ok (.iconst 0, 1) := by decide +kernel
theorem dX5_freeze_36 : decode cX5_freeze 36 = .ok (.istore_n 2, 1) := by decide +kernel
theorem dX5_freeze_37 : decode cX5_freeze 37 = .ok (.iload_n 2, 1) := by decide +kernel
theorem dX5_freeze_38 : decode cX5_freeze 38 = .ok (.aload_n 0, 1) := by decide +kernel
theorem dX5_freeze_39 : decode cX5_freeze 39 = .ok (.getfield 3, 3) := by decide +kernel
theorem dX5_freeze_42 : decode cX5_freeze 42 = .ok (.getfield 95, 3) := by decide +kernel
theorem dX5_freeze_45 : decode cX5_freeze 45 = .ok (.if_icmp .ge 36, 3) := by decide +kernel
theorem dX5_freeze_48 : decode cX5_freeze 48 = .ok (.aload_n 0, 1) := by decide +kernel
theorem dX5_freeze_49 : decode cX5_freeze 49 = .ok (.getfield 15, 3) := by decide +kernel
theorem dX5_freeze_52 : decode cX5_freeze 52 = .ok (.iconst 5, 1) := by decide +kernel
theorem dX5_freeze_53 : decode cX5_freeze 53 = .ok (.if_icmp .lt 15, 3) := by decide +kernel
theorem dX5_freeze_56 : decode cX5_freeze 56 = .ok (.iload_n 1, 1) := by decide +kernel
theorem dX5_freeze_57 : decode cX5_freeze 57 = .ok (.ifCond .le 18, 3) := by decide +kernel
theorem dX5_freeze_60 : decode cX5_freeze 60 = .ok (.aload_n 0, 1) := by decide +kernel
theorem dX5_freeze_61 : decode cX5_freeze 61 = .ok (.iload_n 2, 1) := by decide +kernel
theorem dX5_freeze_62 : decode cX5_freeze 62 = .ok (.invokevirtual 122, 3) := by decide +kernel
theorem dX5_freeze_65 : decode cX5_freeze 65 = .ok (.ifCond .ne 10, 3) := by decide +kernel
theorem dX5_freeze_68 : decode cX5_freeze 68 = .ok (.aload_n 0, 1) := by decide +kernel
theorem dX5_freeze_69 : decode cX5_freeze 69 = .ok (.getfield 23, 3) := by decide +kernel
theorem dX5_freeze_72 : decode cX5_freeze 72 = .ok (.iload_n 2, 1) := by decide +kernel
theorem dX5_freeze_73 : decode cX5_freeze 73 = .ok (.iconst 0, 1) := by decide +kernel
theorem dX5_freeze_74 : decode cX5_freeze 74 = .ok (.iastore, 1) := by decide +kernel
theorem dX5_freeze_75 : decode cX5_freeze 75 = .ok (.iinc 2 1, 3) := by decide +kernel
theorem dX5_freeze_78 : decode cX5_freeze 78 = .ok (.goto (-41), 3) := by decide +kernel
theorem dX5_freeze_81 : decode cX5_freeze 81 = .ok (.iconst 0, 1) := by decide +kernel
theorem dX5_freeze_82 : decode cX5_freeze 82 = .ok (.istore_n 2, 1) := by decide +kernel
theorem dX5_freeze_83 : decode cX5_freeze 83 = .ok (.iload_n 2, 1) := by decide +kernel
theorem dX5_freeze_84 : decode cX5_freeze 84 = .ok (.aload_n 0, 1) := by decide +kernel
theorem dX5_freeze_85 : decode cX5_freeze 85 = .ok (.getfield 3, 3) := by decide +kernel
theorem dX5_freeze_88 : decode cX5_freeze 88 = .ok (.getfield 98, 3) := by decide +kernel
theorem dX5_freeze_91 : decode cX5_freeze 91 = .ok (.if_icmp .ge 33, 3) := by decide +kernel
theorem dX5_freeze_94 : decode cX5_freeze 94 = .ok (.aload_n 0, 1) := by decide +kernel
theorem dX5_freeze_95 : decode cX5_freeze 95 = .ok (.getfield 26, 3) := by decide +kernel
theorem dX5_freeze_98 : decode cX5_freeze 98 = .ok (.iload_n 2, 1) := by decide +kernel
theorem dX5_freeze_99 : decode cX5_freeze 99 = .ok (.aload_n 0, 1) := by decide +kernel
theorem dX5_freeze_100 : decode cX5_freeze 100 = .ok (.getfield 15, 3) := by decide +kernel
theorem dX5_freeze_103 : decode cX5_freeze 103 = .ok (.iconst 5, 1) := by decide +kernel
theorem dX5_freeze_104 : decode cX5_freeze 104 = .ok (.if_icmp .ge 7, 3) := by decide +kernel
theorem dX5_freeze_107 : decode cX5_freeze 107 = .ok (.iconst (-1), 1) := by decide +kernel
theorem dX5_freeze_108 : decode cX5_freeze 108 = .ok (.goto 9, 3) := by decide +kernel
theorem dX5_freeze_111 : decode cX5_freeze 111 = .ok (.aload_n 0, 1) := by decide +kernel
theorem dX5_freeze_112 : decode cX5_freeze 112 = .ok (.getfield 26, 3) := by decide +kernel
theorem dX5_freeze_115 : decode cX5_freeze 115 = .ok (.iload_n 2, 1) := by decide +kernel
theorem dX5_freeze_116 : decode cX5_freeze 116 = .ok (.iaload, 1) := by decide +kernel
theorem dX5_freeze_117 : decode cX5_freeze 117 = .ok (.iastore, 1) := by decide +kernel
theorem dX5_freeze_118 : decode cX5_freeze 118 = .ok (.iinc 2 1, 3) := by decide +kernel
theorem dX5_freeze_121 : decode cX5_freeze 121 = .ok (.goto (-38), 3) := by decide +kernel
theorem dX5_freeze_124 : decode cX5_freeze 124 = .ok (.return_, 1) := by decide +kernel
theorem dX5_sum_0 : decode cX5_sum 0 = .ok (.iconst 0, 1) := by decide +kernel
theorem dX5_sum_1 : decode cX5_sum 1 = .ok (.istore_n 3, 1) := by decide +kernel
theorem dX5_sum_2 : decode cX5_sum 2 = .ok (.iconst 0, 1) := by decide +kernel
theorem dX5_sum_3 : decode cX5_sum 3 = .ok (.istore 4, 2) := by decide +kernel
theorem dX5_sum_5 : decode cX5_sum 5 = .ok (.iload 4, 2) := by decide +kernel
theorem dX5_sum_7 : decode cX5_sum 7 = .ok (.iload_n 2, 1) := by decide +kernel
theorem dX5_sum_8 : decode cX5_sum 8 = .ok (.if_icmp .ge 16, 3) := by decide +kernel
theorem dX5_sum_11 : decode cX5_sum 11 = .ok (.iload_n 3, 1) := by decide +kernel
theorem dX5_sum_12 : decode cX5_sum 12 = .ok (.aload_n 1, 1) := by decide +kernel
theorem dX5_sum_13 : decode cX5_sum 13 = .ok (.iload 4, 2) := by decide +kernel
theorem dX5_sum_15 : decode cX5_sum 15 = .ok (.iaload, 1) := by decide +kernel
theorem dX5_sum_16 : decode cX5_sum 16 = .ok (.iadd, 1) := by decide +kernel
theorem dX5_sum_17 : decode cX5_sum 17 = .ok (.istore_n 3, 1) := by decide +kernel
theorem dX5_sum_18 : decode cX5_sum 18 = .ok (.iinc 4 1, 3) := by decide +kernel
theorem dX5_sum_21 : decode cX5_sum 21 = .ok (.goto (-16), 3) := by decide +kernel
theorem dX5_sum_24 : decode cX5_sum 24 = .ok (.iload_n 3, 1) := by decide +kernel
theorem dX5_sum_25 : decode cX5_sum 25 = .ok (.ireturn, 1) := by decide +kernel
theorem dX5_count_0 : decode cX5_count 0 = .ok (.iload_n 1, 1) := by decide +kernel
theorem dX5_count_1 : decode cX5_count 1 = .ok (.tableswitch 130 0 7 #[47, 52, 57, 71, 82, 90, 106, 114], 47) := by decide +kernel
theorem dX5_count_48 : decode cX5_count 48 = .ok (.aload_n 0, 1) := by decide +kernel
theorem dX5_count_49 : decode cX5_count 49 = .ok (.getfield 53, 3) := by decide +kernel
theorem dX5_count_52 : decode cX5_count 52 = .ok (.ireturn, 1) := by decide +kernel
theorem dX5_count_53 : decode cX5_count 53 = .ok (.aload_n 0, 1) := by decide +kernel
theorem dX5_count_54 : decode cX5_count 54 = .ok (.getfield 15, 3) := by decide +kernel
theorem dX5_count_57 : decode cX5_count 57 = .ok (.ireturn, 1) := by decide +kernel
theorem dX5_count_58 : decode cX5_count 58 = .ok (.aload_n 0, 1) := by decide +kernel
theorem dX5_count_59 : decode cX5_count 59 = .ok (.getfield 15, 3) := by decide +kernel
theorem dX5_count_62 : decode cX5_count 62 = .ok (.iconst 5, 1) := by decide +kernel
theorem dX5_count_63 : decode cX5_count 63 = .ok (.if_icmp .ge 7, 3) := by decide +kernel
theorem dX5_count_66 : decode cX5_count 66 = .ok (.iconst 0, 1) := by decide +kernel
theorem dX5_count_67 : decode cX5_count 67 = .ok (.goto 4, 3) := by decide +kernel
theorem dX5_count_70 : decode cX5_count 70 = .ok (.iconst 1, 1) := by decide +kernel
theorem dX5_count_71 : decode cX5_count 71 = .ok (.ireturn, 1) := by decide +kernel
theorem dX5_count_72 : decode cX5_count 72 = .ok (.aload_n 0, 1) := by decide +kernel
theorem dX5_count_73 : decode cX5_count 73 = .ok (.aload_n 0, 1) := by decide +kernel
theorem dX5_count_74 : decode cX5_count 74 = .ok (.getfield 19, 3) := by decide +kernel
theorem dX5_count_77 : decode cX5_count 77 = .ok (.bipush 81, 2) := by decide +kernel
theorem dX5_count_79 : decode cX5_count 79 = .ok (.invokevirtual 149, 3) := by decide +kernel
theorem dX5_count_82 : decode cX5_count 82 = .ok (.ireturn, 1) := by decide +kernel
theorem dX5_count_83 : decode cX5_count 83 = .ok (.aload_n 0, 1) := by decide +kernel
theorem dX5_count_84 : decode cX5_count 84 = .ok (.getfield 3, 3) := by decide +kernel
theorem dX5_count_87 : decode cX5_count 87 = .ok (.getfield 95, 3) := by decide +kernel
theorem dX5_count_90 : decode cX5_count 90 = .ok (.ireturn, 1) := by decide +kernel
theorem dX5_count_91 : decode cX5_count 91 = .ok (.aload_n 0, 1) := by decide +kernel
theorem dX5_count_92 : decode cX5_count 92 = .ok (.aload_n 0, 1) := by decide +kernel
theorem dX5_count_93 : decode cX5_count 93 = .ok (.getfield 23, 3) := by decide +kernel
theorem dX5_count_96 : decode cX5_count 96 = .ok (.aload_n 0, 1) := by decide +kernel
theorem dX5_count_97 : decode cX5_count 97 = .ok (.getfield 3, 3) := by decide +kernel
theorem dX5_count_100 : decode cX5_count 100 = .ok (.getfield 95, 3) := by decide +kernel
theorem dX5_count_103 : decode cX5_count 103 = .ok (.invokevirtual 149, 3) := by decide +kernel
theorem dX5_count_106 : decode cX5_count 106 = .ok (.ireturn, 1) := by decide +kernel
theorem dX5_count_107 : decode cX5_count 107 = .ok (.aload_n 0, 1) := by decide +kernel
theorem dX5_count_108 : decode cX5_count 108 = .ok (.getfield 3, 3) := by decide +kernel
theorem dX5_count_111 : decode cX5_count 111 = .ok (.getfield 98, 3) := by decide +kernel
theorem dX5_count_114 : decode cX5_count 114 = .ok (.ireturn, 1) := by decide +kernel
theorem dX5_count_115 : decode cX5_count 115 = .ok (.aload_n 0, 1) := by decide +kernel
theorem dX5_count_116 : decode cX5_count 116 = .ok (.aload_n 0, 1) := by decide +kernel
theorem dX5_count_117 : decode cX5_count 117 = .ok (.getfield 32, 3) := by decide +kernel
theorem dX5_count_120 : decode cX5_count 120 = .ok (.aload_n 0, 1) := by decide +kernel
theorem dX5_count_121 : decode cX5_count 121 = .ok (.getfield 3, 3) := by decide +kernel
theorem dX5_count_124 : decode cX5_count 124 = .ok (.getfield 98, 3) := by decide +kernel
theorem dX5_count_127 : decode cX5_count 127 = .ok (.invokevirtual 149, 3) := by decide +kernel
theorem dX5_count_130 : decode cX5_count 130 = .ok (.ireturn, 1) := by decide +kernel
theorem dX5_count_131 : decode cX5_count 131 = .ok (.aload_n 0, 1) := by decide +kernel
theorem dX5_count_132 : decode cX5_count 132 = .ok (.aload_n 0, 1) := by decide +kernel
theorem dX5_count_133 : decode cX5_count 133 = .ok (.getfield 35, 3) := by decide +kernel
theorem dX5_count_136 : decode cX5_count 136 = .ok (.aload_n 0, 1) := by decide +kernel
theorem dX5_count_137 : decode cX5_count 137 = .ok (.getfield 3, 3) := by decide +kernel
theorem dX5_count_140 : decode cX5_count 140 = .ok (.getfield 98, 3) := by decide +kernel
theorem dX5_count_143 : decode cX5_count 143 = .ok (.invokevirtual 149, 3) := by decide +kernel
theorem dX5_count_146 : decode cX5_count 146 = .ok (.ireturn, 1) := by decide +kernel
theorem dX5_copy_0 : decode cX5_copy 0 = .ok (.aload_n 1, 1) := by decide +kernel
theorem dX5_copy_1 : decode cX5_copy 1 = .ok (.iconst 0, 1) := by decide +kernel
theorem dX5_copy_2 : decode cX5_copy 2 = .ok (.aload_n 2, 1) := by decide +kernel
theorem dX5_copy_3 : decode cX5_copy 3 = .ok (.iconst 0, 1) := by decide +kernel
theorem dX5_copy_4 : decode cX5_copy 4 = .ok (.aload_n 1, 1) := by decide +kernel
theorem dX5_copy_5 : decode cX5_copy 5 = .ok (.arraylength, 1) := by decide +kernel
theorem dX5_copy_6 : decode cX5_copy 6 = .ok (.invokestatic 47, 3) := by decide +kernel
theorem dX5_copy_9 : decode cX5_copy 9 = .ok (.return_, 1) := by decide +kernel
theorem dX5_become_0 : decode cX5_become 0 = .ok (.aload_n 0, 1) := by decide +kernel
theorem dX5_become_1 : decode cX5_become 1 = .ok (.aload_n 1, 1) := by decide +kernel
theorem dX5_become_2 : decode cX5_become 2 = .ok (.getfield 53, 3) := by decide +kernel
theorem dX5_become_5 : decode cX5_become 5 = .ok (.putfield 53, 3) := by decide +kernel
theorem dX5_become_8 : decode cX5_become 8 = .ok (.aload_n 0, 1) := by decide +kernel
theorem dX5_become_9 : decode cX5_become 9 = .ok (.aload_n 1, 1) := by decide +kernel
theorem dX5_become_10 : decode cX5_become 10 = .ok (.getfield 15, 3) := by decide +kernel
theorem dX5_become_13 : decode cX5_become 13 = .ok (.putfield 15, 3) := by decide +kernel
theorem dX5_become_16 : decode cX5_become 16 = .ok (.aload_n 0, 1) := by decide +kernel
theorem dX5_become_17 : decode cX5_become 17 = .ok (.aload_n 1, 1) := by decide +kernel
theorem dX5_become_18 : decode cX5_become 18 = .ok (.getfield 19, 3) := by decide +kernel
theorem dX5_become_21 : decode cX5_become 21 = .ok (.aload_n 0, 1) := by decide +kernel
theorem dX5_become_22 : decode cX5_become 22 = .ok (.getfield 19, 3) := by decide +kernel
theorem dX5_become_25 : decode cX5_become 25 = .ok (.invokevirtual 56, 3) := by decide +kernel
theorem dX5_become_28 : decode cX5_become 28 = .ok (.aload_n 0, 1) := by decide +kernel
theorem dX5_become_29 : decode cX5_become 29 = .ok (.aload_n 1, 1) := by decide +kernel
theorem dX5_become_30 : decode cX5_become 30 = .ok (.getfield 23, 3) := by decide +kernel
theorem dX5_become_33 : decode cX5_become 33 = .ok (.aload_n 0, 1) := by decide +kernel
theorem dX5_become_34 : decode cX5_become 34 = .ok (.getfield 23, 3) := by decide +kernel
theorem dX5_become_37 : decode cX5_become 37 = .ok (.invokevirtual 56, 3) := by decide +kernel
theorem dX5_become_40 : decode cX5_become 40 = .ok (.aload_n 0, 1) := by decide +kernel
theorem dX5_become_41 : decode cX5_become 41 = .ok (.aload_n 1, 1) := by decide +kernel
theorem dX5_become_42 : decode cX5_become 42 = .ok (.getfield 26, 3) := by decide +kernel
theorem dX5_become_45 : decode cX5_become 45 = .ok (.aload_n 0, 1) := by decide +kernel
theorem dX5_become_46 : decode cX5_become 46 = .ok (.getfield 26, 3) := by decide +kernel
theorem dX5_become_49 : decode cX5_become 49 = .ok (.invokevirtual 56, 3) := by decide +kernel
theorem dX5_become_52 : decode cX5_become 52 = .ok (.aload_n 0, 1) := by decide +kernel
theorem dX5_become_53 : decode cX5_become 53 = .ok (.aload_n 1, 1) := by decide +kernel
theorem dX5_become_54 : decode cX5_become 54 = .ok (.getfield 29, 3) := by decide +kernel
theorem dX5_become_57 : decode cX5_become 57 = .ok (.aload_n 0, 1) := by decide +kernel
theorem dX5_become_58 : decode cX5_become 58 = .ok (.getfield 29, 3) := by decide +kernel
theorem dX5_become_61 : decode cX5_become 61 = .ok (.invokevirtual 56, 3) := by decide +kernel
theorem dX5_become_64 : decode cX5_become 64 = .ok (.aload_n 0, 1) := by decide +kernel
theorem dX5_become_65 : decode cX5_become 65 = .ok (.aload_n 1, 1) := by decide +kernel
theorem dX5_become_66 : decode cX5_become 66 = .ok (.getfield 32, 3) := by decide +kernel
theorem dX5_become_69 : decode cX5_become 69 = .ok (.aload_n 0, 1) := by decide +kernel
theorem dX5_become_70 : decode cX5_become 70 = .ok (.getfield 32, 3) := by decide +kernel
theorem dX5_become_73 : decode cX5_become 73 = .ok (.invokevirtual 56, 3) := by decide +kernel
theorem dX5_become_76 : decode cX5_become 76 = .ok (.aload_n 0, 1) := by decide +kernel
theorem dX5_become_77 : decode cX5_become 77 = .ok (.aload_n 1, 1) := by decide +kernel
theorem dX5_become_78 : decode cX5_become 78 = .ok (.getfield 35, 3) := by decide +kernel
theorem dX5_become_81 : decode cX5_become 81 = .ok (.aload_n 0, 1) := by decide +kernel
theorem dX5_become_82 : decode cX5_become 82 = .ok (.getfield 35, 3) := by decide +kernel
theorem dX5_become_85 : decode cX5_become 85 = .ok (.invokevirtual 56, 3) := by decide +kernel
theorem dX5_become_88 : decode cX5_become 88 = .ok (.aload_n 0, 1) := by decide +kernel
theorem dX5_become_89 : decode cX5_become 89 = .ok (.aload_n 1, 1) := by decide +kernel
theorem dX5_become_90 : decode cX5_become 90 = .ok (.getfield 38, 3) := by decide +kernel
theorem dX5_become_93 : decode cX5_become 93 = .ok (.aload_n 0, 1) := by decide +kernel
theorem dX5_become_94 : decode cX5_become 94 = .ok (.getfield 38, 3) := by decide +kernel
theorem dX5_become_97 : decode cX5_become 97 = .ok (.invokevirtual 56, 3) := by decide +kernel
theorem dX5_become_100 : decode cX5_become 100 = .ok (.aload_n 0, 1) := by decide +kernel
theorem dX5_become_101 : decode cX5_become 101 = .ok (.aload_n 1, 1) := by decide +kernel
theorem dX5_become_102 : decode cX5_become 102 = .ok (.getfield 41, 3) := by decide +kernel
theorem dX5_become_105 : decode cX5_become 105 = .ok (.aload_n 0, 1) := by decide +kernel
theorem dX5_become_106 : decode cX5_become 106 = .ok (.getfield 41, 3) := by decide +kernel
theorem dX5_become_109 : decode cX5_become 109 = .ok (.invokevirtual 56, 3) := by decide +kernel
theorem dX5_become_112 : decode cX5_become 112 = .ok (.aload_n 0, 1) := by decide +kernel
theorem dX5_become_113 : decode cX5_become 113 = .ok (.aload_n 1, 1) := by decide +kernel
theorem dX5_become_114 : decode cX5_become 114 = .ok (.getfield 44, 3) := by decide +kernel
theorem dX5_become_117 : decode cX5_become 117 = .ok (.aload_n 0, 1) := by decide +kernel
theorem dX5_become_118 : decode cX5_become 118 = .ok (.getfield 44, 3) := by decide +kernel
theorem dX5_become_121 : decode cX5_become 121 = .ok (.invokevirtual 56, 3) := by decide +kernel
theorem dX5_become_124 : decode cX5_become 124 = .ok (.return_, 1) := by decide +kernel
theorem dX5_pass_0 : decode cX5_pass 0 = .ok (.iconst 0, 1) := by decide +kernel
theorem dX5_pass_1 : decode cX5_pass 1 = .ok (.istore_n 1, 1) := by decide +kernel
theorem dX5_pass_2 : decode cX5_pass 2 = .ok (.iload_n 1, 1) := by decide +kernel
theorem dX5_pass_3 : decode cX5_pass 3 = .ok (.aload_n 0, 1) := by decide +kernel
theorem dX5_pass_4 : decode cX5_pass 4 = .ok (.getfield 3, 3) := by decide +kernel
theorem dX5_pass_7 : decode cX5_pass 7 = .ok (.getfield 98, 3) := by decide +kernel
theorem dX5_pass_10 : decode cX5_pass 10 = .ok (.if_icmp .ge 14, 3) := by decide +kernel
theorem dX5_pass_13 : decode cX5_pass 13 = .ok (.aload_n 0, 1) := by decide +kernel
theorem dX5_pass_14 : decode cX5_pass 14 = .ok (.iload_n 1, 1) := by decide +kernel
theorem dX5_pass_15 : decode cX5_pass 15 = .ok (.invokevirtual 125, 3) := by decide +kernel
theorem dX5_pass_18 : decode cX5_pass 18 = .ok (.iinc 1 1, 3) := by decide +kernel
theorem dX5_pass_21 : decode cX5_pass 21 = .ok (.goto (-19), 3) := by decide +kernel
theorem dX5_pass_24 : decode cX5_pass 24 = .ok (.iconst 0, 1) := by decide +kernel
theorem dX5_pass_25 : decode cX5_pass 25 = .ok (.istore_n 1, 1) := by decide +kernel
theorem dX5_pass_26 : decode cX5_pass 26 = .ok (.iload_n 1, 1) := by decide +kernel
theorem dX5_pass_27 : decode cX5_pass 27 = .ok (.aload_n 0, 1) := by decide +kernel
theorem dX5_pass_28 : decode cX5_pass 28 = .ok (.getfield 3, 3) := by decide +kernel
theorem dX5_pass_31 : decode cX5_pass 31 = .ok (.getfield 98, 3) := by decide +kernel
theorem dX5_pass_34 : decode cX5_pass 34 = .ok (.if_icmp .ge 14, 3) := by decide +kernel
theorem dX5_pass_37 : decode cX5_pass 37 = .ok (.aload_n 0, 1) := by decide +kernel
theorem dX5_pass_38 : decode cX5_pass 38 = .ok (.iload_n 1, 1) := by decide +kernel
theorem dX5_pass_39 : decode cX5_pass 39 = .ok (.invokevirtual 129, 3) := by decide +kernel
theorem dX5_pass_42 : decode cX5_pass 42 = .ok (.iinc 1 1, 3) := by decide +kernel
theorem dX5_pass_45 : decode cX5_pass 45 = .ok (.goto (-19), 3) := by decide +kernel
theorem dX5_pass_48 : decode cX5_pass 48 = .ok (.iconst 0, 1) := by decide +kernel
theorem dX5_pass_49 : decode cX5_pass 49 = .ok (.istore_n 1, 1) := by decide +kernel
theorem dX5_pass_50 : decode cX5_pass 50 = .ok (.iload_n 1, 1) := by decide +kernel
theorem dX5_pass_51 : decode cX5_pass 51 = .ok (.aload_n 0, 1) := by decide +kernel
theorem dX5_pass_52 : decode cX5_pass 52 = .ok (.getfield 3, 3) := by decide +kernel
theorem dX5_pass_55 : decode cX5_pass 55 = .ok (.getfield 132, 3) := by decide +kernel
theorem dX5_pass_58 : decode cX5_pass 58 = .ok (.if_icmp .ge 14, 3) := by decide +kernel
theorem dX5_pass_61 : decode cX5_pass 61 = .ok (.aload_n 0, 1) := by decide +kernel
theorem dX5_pass_62 : decode cX5_pass 62 = .ok (.iload_n 1, 1) := by decide +kernel
theorem dX5_pass_63 : decode cX5_pass 63 = .ok (.invokevirtual 135, 3) := by decide +kernel
theorem dX5_pass_66 : decode cX5_pass 66 = .ok (.iinc 1 1, 3) := by decide +kernel
theorem dX5_pass_69 : decode cX5_pass 69 = .ok (.goto (-19), 3) := by decide +kernel
theorem dX5_pass_72 : decode cX5_pass 72 = .ok (.iconst 0, 1) := by decide +kernel
theorem dX5_pass_73 : decode cX5_pass 73 = .ok (.istore_n 1, 1) := by decide +kernel
theorem dX5_pass_74 : decode cX5_pass 74 = .ok (.iconst 0, 1) := by decide +kernel
theorem dX5_pass_75 : decode cX5_pass 75 = .ok (.istore_n 2, 1) := by decide +kernel
theorem dX5_pass_76 : decode cX5_pass 76 = .ok (.iload_n 2, 1) := by decide +kernel
theorem dX5_pass_77 : decode cX5_pass 77 = .ok (.aload_n 0, 1) := by decide +kernel
theorem dX5_pass_78 : decode cX5_pass 78 = .ok (.getfield 3, 3) := by decide +kernel
theorem dX5_pass_81 : decode cX5_pass 81 = .ok (.getfield 98, 3) := by decide +kernel
theorem dX5_pass_84 : decode cX5_pass 84 = .ok (.if_icmp .ge 33, 3) := by decide +kernel
theorem dX5_pass_87 : decode cX5_pass 87 = .ok (.aload_n 0, 1) := by decide +kernel
theorem dX5_pass_88 : decode cX5_pass 88 = .ok (.getfield 32, 3) := by decide +kernel
theorem dX5_pass_91 : decode cX5_pass 91 = .ok (.iload_n 2, 1) := by decide +kernel
theorem dX5_pass_92 : decode cX5_pass 92 = .ok (.dup2, 1) := by decide +kernel
theorem dX5_pass_93 : decode cX5_pass 93 = .ok (.iaload, 1) := by decide +kernel
theorem dX5_pass_94 : decode cX5_pass 94 = .ok (.aload_n 0, 1) := by decide +kernel
theorem dX5_pass_95 : decode cX5_pass 95 = .ok (.getfield 29, 3) := by decide +kernel
theorem dX5_pass_98 : decode cX5_pass 98 = .ok (.iload_n 2, 1) := by decide +kernel
theorem dX5_pass_99 : decode cX5_pass 99 = .ok (.iaload, 1) := by decide +kernel
theorem dX5_pass_100 : decode cX5_pass 100 = .ok (.iadd, 1) := by decide +kernel
theorem dX5_pass_101 : decode cX5_pass 101 = .ok (.iastore, 1) := by decide +kernel
theorem dX5_pass_102 : decode cX5_pass 102 = .ok (.iload_n 1, 1) := by decide +kernel
theorem dX5_pass_103 : decode cX5_pass 103 = .ok (.aload_n 0, 1) := by decide +kernel
theorem dX5_pass_104 : decode cX5_pass 104 = .ok (.getfield 29, 3) := by decide +kernel
theorem dX5_pass_107 : decode cX5_pass 107 = .ok (.iload_n 2, 1) := by decide +kernel
theorem dX5_pass_108 : decode cX5_pass 108 = .ok (.iaload, 1) := by decide +kernel
theorem dX5_pass_109 : decode cX5_pass 109 = .ok (.iadd, 1) := by decide +kernel
theorem dX5_pass_110 : decode cX5_pass 110 = .ok (.istore_n 1, 1) := by decide +kernel
theorem dX5_pass_111 : decode cX5_pass 111 = .ok (.iinc 2 1, 3) := by decide +kernel
theorem dX5_pass_114 : decode cX5_pass 114 = .ok (.goto (-38), 3) := by decide +kernel
theorem dX5_pass_117 : decode cX5_pass 117 = .ok (.iconst 0, 1) := by decide +kernel
theorem dX5_pass_118 : decode cX5_pass 118 = .ok (.istore_n 2, 1) := by decide +kernel
theorem dX5_pass_119 : decode cX5_pass 119 = .ok (.iload_n 2, 1) := by decide +kernel
theorem dX5_pass_120 : decode cX5_pass 120 = .ok (.bipush 81, 2) := by decide +kernel
theorem dX5_pass_122 : decode cX5_pass 122 = .ok (.if_icmp .ge 44, 3) := by decide +kernel
theorem dX5_pass_125 : decode cX5_pass 125 = .ok (.aload_n 0, 1) := by decide +kernel
theorem dX5_pass_126 : decode cX5_pass 126 = .ok (.getfield 19, 3) := by decide +kernel
theorem dX5_pass_129 : decode cX5_pass 129 = .ok (.iload_n 2, 1) := by decide +kernel
theorem dX5_pass_130 : decode cX5_pass 130 = .ok (.iaload, 1) := by decide +kernel
theorem dX5_pass_131 : decode cX5_pass 131 = .ok (.iconst 1, 1) := by decide +kernel
theorem dX5_pass_132 : decode cX5_pass 132 = .ok (.bipush 40, 2) := by decide +kernel
theorem dX5_pass_134 : decode cX5_pass 134 = .ok (.invokestatic 138, 3) := by decide +kernel
theorem dX5_pass_137 : decode cX5_pass 137 = .ok (.ifCond .eq 23, 3) := by decide +kernel
theorem dX5_pass_140 : decode cX5_pass 140 = .ok (.aload_n 0, 1) := by decide +kernel
theorem dX5_pass_141 : decode cX5_pass 141 = .ok (.getfield 19, 3) := by decide +kernel
theorem dX5_pass_144 : decode cX5_pass 144 = .ok (.iload_n 2, 1) := by decide +kernel
theorem dX5_pass_145 : decode cX5_pass 145 = .ok (.dup2, 1) := by decide +kernel
theorem dX5_pass_146 : decode cX5_pass 146 = .ok (.iaload, 1) := by decide +kernel
theorem dX5_pass_147 : decode cX5_pass 147 = .ok (.aload_n 0, 1) := by decide +kernel
theorem dX5_pass_148 : decode cX5_pass 148 = .ok (.getfield 19, 3) := by decide +kernel
theorem dX5_pass_151 : decode cX5_pass 151 = .ok (.iload_n 2, 1) := by decide +kernel
theorem dX5_pass_152 : decode cX5_pass 152 = .ok (.iaload, 1) := by decide +kernel
theorem dX5_pass_153 : decode cX5_pass 153 = .ok (.bipush 10, 2) := by decide +kernel
theorem dX5_pass_155 : decode cX5_pass 155 = .ok (.idiv, 1) := by decide +kernel
theorem dX5_pass_156 : decode cX5_pass 156 = .ok (.iconst 1, 1) := by decide +kernel
theorem dX5_pass_157 : decode cX5_pass 157 = .ok (.iadd, 1) := by decide +kernel
theorem dX5_pass_158 : decode cX5_pass 158 = .ok (.iadd, 1) := by decide +kernel
theorem dX5_pass_159 : decode cX5_pass 159 = .ok (.iastore, 1) := by decide +kernel
theorem dX5_pass_160 : decode cX5_pass 160 = .ok (.iinc 2 1, 3) := by decide +kernel
theorem dX5_pass_163 : decode cX5_pass 163 = .ok (.goto (-44), 3) := by decide +kernel
theorem dX5_pass_166 : decode cX5_pass 166 = .ok (.aload_n 0, 1) := by decide +kernel
theorem dX5_pass_167 : decode cX5_pass 167 = .ok (.invokevirtual 142, 3) := by decide +kernel
theorem dX5_pass_170 : decode cX5_pass 170 = .ok (.aload_n 0, 1) := by decide +kernel
theorem dX5_pass_171 : decode cX5_pass 171 = .ok (.dup, 1) := by decide +kernel
theorem dX5_pass_172 : decode cX5_pass 172 = .ok (.getfield 53, 3) := by decide +kernel
theorem dX5_pass_175 : decode cX5_pass 175 = .ok (.iconst 1, 1) := by decide +kernel
theorem dX5_pass_176 : decode cX5_pass 176 = .ok (.iadd, 1) := by decide +kernel
theorem dX5_pass_177 : decode cX5_pass 177 = .ok (.putfield 53, 3) := by decide +kernel
theorem dX5_pass_180 : decode cX5_pass 180 = .ok (.iload_n 1, 1) := by decide +kernel
theorem dX5_pass_181 : decode cX5_pass 181 = .ok (.ireturn, 1) := by decide +kernel
theorem dX5_pass__0 : decode cX5_pass_ 0 = .ok (.iconst 0, 1) := by decide +kernel
theorem dX5_pass__1 : decode cX5_pass_ 1 = .ok (.istore_n 2, 1) := by decide +kernel
theorem dX5_pass__2 : decode cX5_pass_ 2 = .ok (.iconst 0, 1) := by decide +kernel
theorem dX5_pass__3 : decode cX5_pass_ 3 = .ok (.istore_n 3, 1) := by decide +kernel
theorem dX5_pass__4 : decode cX5_pass_ 4 = .ok (.iload_n 3, 1) := by decide +kernel
theorem dX5_pass__5 : decode cX5_pass_ 5 = .ok (.iload_n 1, 1) := by decide +kernel
theorem dX5_pass__6 : decode cX5_pass_ 6 = .ok (.if_icmp .ge 16, 3) := by decide +kernel
theorem dX5_pass__9 : decode cX5_pass_ 9 = .ok (.iload_n 2, 1) := by decide +kernel
theorem dX5_pass__10 : decode cX5_pass_ 10 = .ok (.aload_n 0, 1) := by decide +kernel
theorem dX5_pass__11 : decode cX5_pass_ 11 = .ok (.invokevirtual 145, 3) := by decide +kernel
theorem dX5_pass__14 : decode cX5_pass_ 14 = .ok (.iadd, 1) := by decide +kernel
theorem dX5_pass__15 : decode cX5_pass_ 15 = .ok (.istore_n 2, 1) := by decide +kernel
theorem dX5_pass__16 : decode cX5_pass_ 16 = .ok (.iinc 3 1, 3) := by decide +kernel
theorem dX5_pass__19 : decode cX5_pass_ 19 = .ok (.goto (-15), 3) := by decide +kernel
theorem dX5_pass__22 : decode cX5_pass_ 22 = .ok (.iload_n 2, 1) := by decide +kernel
theorem dX5_pass__23 : decode cX5_pass_ 23 = .ok (.ireturn, 1) := by decide +kernel
theorem frzH_eq (v : Vw) (C : Nat → Prop) [DecidablePred C] : ∀ (n : Nat) (c j : Nat), it (fun h u => if C h then up2 u 5 h 0 else u) n v c j = if c = 5 ∧ j < n ∧ C j then 0 else v c j
  | 0, c, j => by rw [if_neg (by omega)]; rfl
  | n + 1, c, j => by
    show (if C n then up2 (it (fun h u => if C h then up2 u 5 h 0 else u) n v) 5 n 0 else it (fun h u => if C h then up2 u 5 h 0 else u) n v) c j = _
    by_cases h0 : C n
    · rw [if_pos h0]
      show (if c = 5 ∧ j = n then (0 : Int32) else it (fun h u => if C h then up2 u 5 h 0 else u) n v c j) = _
      by_cases h1 : c = 5 ∧ j = n
      · rw [if_pos h1, if_pos ⟨h1.1, by omega, by rw [h1.2]; exact h0⟩]
      · rw [if_neg h1, frzH_eq v C n c j]
        by_cases h2 : c = 5 ∧ j < n ∧ C j
        · rw [if_pos h2, if_pos ⟨h2.1, by omega, h2.2.2⟩]
        · rw [if_neg h2, if_neg (fun q => h2 ⟨q.1, by have := q.2.1; have := fun z => h1 ⟨q.1, z⟩; omega, q.2.2⟩)]
    · rw [if_neg h0, frzH_eq v C n c j]
      by_cases h2 : c = 5 ∧ j < n ∧ C j
      · rw [if_pos h2, if_pos ⟨h2.1, by omega, h2.2.2⟩]
      · rw [if_neg h2, if_neg]
        rintro ⟨q1, q2, q3⟩
        rcases Nat.lt_or_ge j n with z | z
        · exact h2 ⟨q1, z, q3⟩
        · have : j = n := by omega
          subst this
          exact h0 q3
def fzH (v : Vw) (n : Nat) : Vw := it (fun h u => if iceN v < 5 ∨ (0 < frostN v ∧ spAt v (nI h) = 0) then up2 u 5 h 0 else u) n (up2 v 16 3 (iceN v))
def fzA (v : Vw) (n : Nat) : Vw := it (fun k u => up2 u 8 k (if iceN v < 5 then -1 else u 8 k)) n (fzH v (nH v))
theorem fzH_eq (v : Vw) (n c j : Nat) : fzH v n c j = if c = 5 ∧ j < n ∧ (iceN v < 5 ∨ (0 < frostN v ∧ spAt v (nI j) = 0)) then 0 else up2 v 16 3 (iceN v) c j := frzH_eq _ _ n c j
theorem fzA_eq (v : Vw) : ∀ (n c j : Nat), fzA v n c j = if c = 8 ∧ j < n ∧ iceN v < 5 then -1 else fzH v (nH v) c j
  | 0, c, j => by rw [if_neg (by omega)]; rfl
  | n + 1, c, j => by
    show (if c = 8 ∧ j = n then (if iceN v < 5 then (-1 : Int32) else fzA v n 8 n) else fzA v n c j) = _
    by_cases h1 : c = 8 ∧ j = n
    · rw [if_pos h1]
      by_cases h2 : iceN v < 5
      · rw [if_pos h2, if_pos ⟨h1.1, by omega, h2⟩]
      · rw [if_neg h2, if_neg (fun q => h2 q.2.2), fzA_eq v n, if_neg (fun q => h2 q.2.2), h1.1, h1.2]
    · rw [if_neg h1, fzA_eq v n]
      by_cases h2 : c = 8 ∧ j < n ∧ iceN v < 5
      · rw [if_pos h2, if_pos ⟨h2.1, by omega, h2.2.2⟩]
      · rw [if_neg h2, if_neg (fun q => h2 ⟨q.1, by have := q.2.1; have := fun z => h1 ⟨q.1, z⟩; omega, q.2.2⟩)]
theorem fz_m {v : Vw} : frz v = fzA v (nS v) := by
  funext c j
  rw [fzA_eq, fzH_eq]
  unfold frz up2
  by_cases h1 : c = 16 ∧ j = 3
  · rw [if_pos h1, if_neg (by omega), if_neg (by omega), if_pos h1]
  · rw [if_neg h1, if_neg h1]
    by_cases h2 : c = 5 ∧ j < nH v ∧ (iceN v < 5 ∨ (0 < frostN v ∧ spAt v (nI j) = 0))
    · rw [if_pos h2, if_neg (by omega), if_pos h2]
    · rw [if_neg h2, if_neg h2]
theorem fzH_inv {v : Vw} (hv : Inv v) (n : Nat) : Inv (fzH v n) := by
  have h2 := ice_inv hv (iceN v)
  have e : ∀ c i, c ≠ 5 → fzH v n c i = up2 v 16 3 (iceN v) c i := fun c i h => by rw [fzH_eq, if_neg (fun q => h q.1)]
  refine h2.step (e _ _ (by decide)) (e _ _ (by decide)) (e _ _ (by decide)) (fun _ => e _ _ (by decide)) (fun _ => e _ _ (by decide)) (fun i _ => ?_) (fun _ => e _ _ (by decide)) (fun _ => e _ _ (by decide)) (fun _ _ => Or.inl (e _ _ (by decide))) (fun k hk => by rw [e _ _ (by decide)]; exact (h2.hS k hk).2.2.2) (fun w hw => ⟨by rw [e _ _ (by decide)]; exact (h2.hW w hw).1, by rw [e _ _ (by decide)]; exact (h2.hW w hw).2⟩) (fun c hc => by unfold IC; rw [e _ _ (by decide)]; exact h2.hC c hc)
  rw [fzH_eq]
  split
  · exact Or.inr rfl
  · exact Or.inl rfl
theorem Sh.fzH {M : Mem} {r : Nat} {v : Vw} (h : Sh M r v) (n : Nat) : Sh M r (fzH v n) := h.of fun c i hs => by
  rw [fzH_eq, if_neg (fun q => (sh_ne hs).2.1 q.1)]
  unfold up2
  rw [if_neg (sh_ne hs).2.2.2.2.2.2.2.2.2.1]
theorem Sh.fzA {M : Mem} {r : Nat} {v : Vw} (h : Sh M r v) (n : Nat) : Sh M r (fzA v n) := (h.fzH (nH v)).of fun c i hs => by
  rw [fzA_eq, if_neg (fun q => (sh_ne hs).2.2.1 q.1)]
theorem spAt_fzH {v : Vw} {n : Nat} {x : Int32} : spAt (fzH v n) x = spAt v x := spAt_congr (fun k => by rw [fzH_eq, if_neg (by omega)]; exact up2_c (by decide)) (by rw [fzH_eq, if_neg (by omega)]; exact up2_i (by decide)) x
theorem fzH_ice {v : Vw} {n : Nat} : fzH v n 16 3 = iceN v := by rw [fzH_eq, if_neg (by omega)]; exact up2_same _ _ _ _
theorem fzH_16 {v : Vw} {n i : Nat} (h : i ≠ 3) : fzH v n 16 i = v 16 i := by rw [fzH_eq, if_neg (by omega)]; exact up2_i h
theorem fzA_ice {v : Vw} {n : Nat} : fzA v n 16 3 = iceN v := by rw [fzA_eq, if_neg (by omega)]; exact fzH_ice
theorem fzA_16 {v : Vw} {n i : Nat} (h : i ≠ 3) : fzA v n 16 i = v 16 i := by rw [fzA_eq, if_neg (by omega)]; exact fzH_16 h
theorem not_bear {x : Int32} : b2i (bear x) = if x < 5 then 0 else 1 := by
  unfold bear b2i
  by_cases h : x < 5 <;> simp [h]
theorem movI_inv {w h : Nat} {v : Vw} (hh : h < nH v) (hv : Inv v) (n : Nat) : Inv (it (fun _ u => stp w h u) n v) ∧ nH (it (fun _ u => stp w h u) n v) = nH v ∧ nW (it (fun _ u => stp w h u) n v) = nW v := it_inv (N := n) (P := fun u => Inv u ∧ nH u = nH v ∧ nW u = nW v) (fun k u _ q => ⟨stp_inv (by rw [q.2.1]; exact hh) q.1, nH_stp.trans q.2.1, by rw [← q.2.2]; unfold nW; rw [stp_ne (by decide) (by decide)]⟩) n v (Nat.le_refl _) ⟨hv, rfl, rfl⟩
set_option maxHeartbeats 4000000 in
set_option maxRecDepth 100000 in
theorem c_guardM (l : Launch) {g : Gm} (hI : IJ g KK) {M : Mem} {o : Nat → Int64} {r : Nat} (hr : r = 2 ∨ r = 3) {v : Vw} (hsh : Sh M r v) (hv : Inv v) (w : Nat) (hw : w < nW v) : MV l yX5_guard cX5_guard 5 (rm 4 92) g KK (ent g (setR M r v) o) [.ref (ad g (9, r, 0)), .int (nI w)] (ent g (setR M r (gua w v)) o) := by
  refine met_of (by decide +kernel) (Nat.le_of_ble_eq_true rfl) ?_
  intro p e s m below meth c ls hC hr_ hlk hnm hE hP hS hl
  obtain ⟨hx, hb, hml, hown, hG⟩ := id hC
  have hl : lv_has ls 5 [(0, .ref (ad g (9, r, 0))), (1, .int (nI w))] := hl
  have qH := hv.lH
  have qS := hv.lS
  have qW := hv.lW
  refine lv_aload_n hx hb dX5_guard_0 rfl (lv_at hl 0 rfl) ?_
  refine lv_iload_n hx hb dX5_guard_1 rfl (lv_at hl 1 rfl) ?_
  refine on_i (run_V hC hE hP hS (As := [.int (nI w)]) (c_goalM l hI hr (hsh) hv w (by omega)) cal_X5_goal w_876 ⟨Nat.le_of_ble_eq_true rfl, Nat.le_of_ble_eq_true rfl⟩ (k_9 hr) e_9 rfl rfl rfl (Nat.le_of_ble_eq_true rfl) hl.1 ⟨Nat.le_of_ble_eq_true rfl, Nat.le_of_ble_eq_true rfl⟩ dX5_guard_2) hS (fun H locs hP hS => ?_)
  refine lv_istore_n (lv' := [(2, .int (gol v w)), (0, .ref (ad g (9, r, 0))), (1, .int (nI w))]) hx hb dX5_guard_5 rfl hl (by decide) rfl (fun ls hl => ?_)
  refine lv_iload_n hx hb dX5_guard_6 rfl (lv_at hl 0 rfl) ?_
  refine lv_iconst (v := (-1)) hx hb dX5_guard_7 (by decide) ?_
  refine lv_icmp_ne (tgt := 12) hx hb dX5_guard_8 (by decide) (fun c0 => ?_) (fun c0 => ?_)
  · have hz := gol_of hv c0
    refine lv_iconst (v := 0) hx hb dX5_guard_12 (by decide) ?_
    refine lv_istore_n (lv' := [(3, .int ((0 : Int32))), (2, .int (gol v w)), (0, .ref (ad g (9, r, 0))), (1, .int (nI w))]) hx hb dX5_guard_13 rfl hl (by decide) rfl (fun ls hl => ?_)
    refine lp_W (i0 := 0) ((v 14 w).toNatClampNeg) (fun i => ent g (setR M r (it (fun _ u => stp w ((gol v w).toNatClampNeg) u) i v)) o) (fun i => [(3, .int (nI i)), (2, .int (gol v w)), (0, .ref (ad g (9, r, 0))), (1, .int (nI w))]) (fun i => True) (Nat.zero_le _) (hP.castR (rfl)) hS (lv_sub hl [0, 1, 2, 3] rfl) (trivial) (fun H locs ls hP hS hl J => ?_) (fun i hi IH H locs ls hP hS hl J => ?_)
    · have hs1 : Sh M r (it (fun _ u => stp w ((gol v w).toNatClampNeg) u) (v 14 w).toNatClampNeg v) := hsh.it (fun _ _ _ _ hs => sh_stp hs) _
      have hs2 : Sh M r (mov w ((gol v w).toNatClampNeg) v) := hs1
      have hi2 : Inv (mov w ((gol v w).toNatClampNeg) v) := mov_inv hz.2 hv
      refine lv_iload_n hx hb dX5_guard_14 rfl (lv_at hl 0 rfl) ?_
      refine lv_aload_n hx hb dX5_guard_15 rfl (lv_at hl 2 rfl) ?_
      refine m_get hC hE hP (k_9 hr) e_9 rfl u_5 11 (by decide) w_653 rfl rfl dX5_guard_16 ?_
      refine m_getN hC hE hP k_10 f_10 rfl u_6 10 (by decide) n_699 rfl rfl dX5_guard_19 ?_
      refine lv_iload_n hx hb dX5_guard_22 rfl (lv_at hl 3 rfl) ?_
      refine m_iald hC hE hP (k_4s (by decide)) f_4 w (rfl) (show w < 3 from by omega) (by decide) dX5_guard_23 ?_
      refine m_top (y := (it (fun _ u => stp w ((gol v w).toNatClampNeg) u) ((v 14 w).toNatClampNeg) v) 14 w) (hs1 _ _ rfl) ?_
      refine m_top (y := v 14 w) (it_keep (fun _ _ => stp_ne (by decide) (by decide)) _ _) ?_
      refine lv_icmp_ge (tgt := 89) hx hb dX5_guard_24 (by decide) (fun c1 => ?_) (fun c1 => absurd (pace_T _) c1)
      replace hP := hP.castR (w := mov w ((gol v w).toNatClampNeg) v) (rfl)
      refine lv_aload_n hx hb dX5_guard_89 rfl (lv_at hl 2 rfl) ?_
      refine lv_iload_n hx hb dX5_guard_90 rfl (lv_at hl 3 rfl) ?_
      refine lv_iload_n hx hb dX5_guard_91 rfl (lv_at hl 1 rfl) ?_
      refine m_top (y := nI ((gol v w).toNatClampNeg)) (hz.1) ?_
      refine on_i (run_V hC hE hP hS (As := [.int (nI w), .int (nI ((gol v w).toNatClampNeg))]) (c_farFrom l hI hr (hs2) w ((gol v w).toNatClampNeg) (by omega) (by omega)) cal_X5_farFrom w_884 ⟨Nat.le_of_ble_eq_true rfl, Nat.le_of_ble_eq_true rfl⟩ (k_9 hr) e_9 rfl rfl rfl (Nat.le_of_ble_eq_true rfl) hl.1 ⟨Nat.le_of_ble_eq_true rfl, Nat.le_of_ble_eq_true rfl⟩ dX5_guard_92) hS (fun H locs hP hS => ?_)
      refine lv_if_le (tgt := 99) hx hb dX5_guard_95 (by decide) (fun c1 => ?_) (fun c1 => ?_)
      · have hcl := cl_lt hi2 (h := (gol v w).toNatClampNeg) (by rw [nH_mov]; exact hz.2)
        have c1 : ¬ 0 < farW (mov w ((gol v w).toNatClampNeg) v) w ((gol v w).toNatClampNeg) := Int32.not_lt.mpr c1
        refine lv_aload_n hx hb dX5_guard_99 rfl (lv_at hl 2 rfl) ?_
        refine m_get hC hE hP (k_9 hr) e_9 rfl u_5 11 (by decide) w_653 rfl rfl dX5_guard_100 ?_
        refine lv_iload_n hx hb dX5_guard_103 rfl (lv_at hl 1 rfl) ?_
        refine m_top (y := nI ((gol v w).toNatClampNeg)) (hz.1) ?_
        refine on_i (run_VN hC hE hP hS (As := [.int (nI ((gol v w).toNatClampNeg))]) (c_cellOf l hI hr (hs2) hi2 ((gol v w).toNatClampNeg) (by rw [nH_mov]; exact hz.2)) cal_X6_cellOf n_870 ⟨Nat.le_of_ble_eq_true rfl, Nat.le_of_ble_eq_true rfl⟩ k_10 f_10 rfl rfl rfl (Nat.le_of_ble_eq_true rfl) hl.1 ⟨Nat.le_of_ble_eq_true rfl, Nat.le_of_ble_eq_true rfl⟩ dX5_guard_104) hS (fun H locs hP hS => ?_)
        refine lv_istore_n (lv' := [(3, .int (nI (cl (mov w ((gol v w).toNatClampNeg) v) ((gol v w).toNatClampNeg)))), (2, .int (gol v w)), (0, .ref (ad g (9, r, 0))), (1, .int (nI w))]) hx hb dX5_guard_107 rfl hl (by decide) rfl (fun ls hl => ?_)
        refine lv_iconst (v := 0) hx hb dX5_guard_108 (by decide) ?_
        refine lv_istore (lv' := [(4, .int ((0 : Int32))), (3, .int (nI (cl (mov w ((gol v w).toNatClampNeg) v) ((gol v w).toNatClampNeg)))), (2, .int (gol v w)), (0, .ref (ad g (9, r, 0))), (1, .int (nI w))]) hx hb dX5_guard_109 hl (by decide) rfl (fun ls hl => ?_)
        refine lp_W (i0 := 0) (nS v) (fun i => ent g (setR M r (it (fin1 w ((gol v w).toNatClampNeg) (cl (mov w ((gol v w).toNatClampNeg) v) ((gol v w).toNatClampNeg))) i (mov w ((gol v w).toNatClampNeg) v))) o) (fun i => [(4, .int (nI i)), (3, .int (nI (cl (mov w ((gol v w).toNatClampNeg) v) ((gol v w).toNatClampNeg)))), (2, .int (gol v w)), (0, .ref (ad g (9, r, 0))), (1, .int (nI w))]) (fun i => True) (Nat.zero_le _) (hP.castR (rfl)) hS (lv_sub hl [0, 1, 2, 3, 4] rfl) (trivial) (fun H locs ls hP hS hl J => ?_) (fun i hi IH H locs ls hP hS hl J => ?_)
        · have hs3 : Sh M r (it (fin1 w ((gol v w).toNatClampNeg) (cl (mov w ((gol v w).toNatClampNeg) v) ((gol v w).toNatClampNeg))) (nS v) (mov w ((gol v w).toNatClampNeg) v)) := hs2.it (fun _ _ _ _ hs => sh_fin1 hs) _
          refine lv_iload hx hb dX5_guard_111 (lv_at hl 0 rfl) ?_
          refine lv_aload_n hx hb dX5_guard_113 rfl (lv_at hl 3 rfl) ?_
          refine m_get hC hE hP (k_9 hr) e_9 rfl u_5 11 (by decide) w_653 rfl rfl dX5_guard_114 ?_
          refine m_getN hC hE hP k_10 f_10 rfl u_6 6 (by decide) n_690 rfl rfl dX5_guard_117 ?_
          refine m_top (y := (it (fin1 w ((gol v w).toNatClampNeg) (cl (mov w ((gol v w).toNatClampNeg) v) ((gol v w).toNatClampNeg))) (nS v) (mov w ((gol v w).toNatClampNeg) v)) 16 1) (hs3 _ _ rfl) ?_
          refine m_top (y := nI (nS v)) ((it_keep (fun _ _ => fin1_ne (by decide) (by decide) (by decide) (by decide)) _ _).trans ((mov_ne (by decide) (by decide)).trans hv.eS)) ?_
          refine lv_icmp_ge (tgt := 216) hx hb dX5_guard_120 (by decide) (fun c2 => ?_) (fun c2 => absurd (nI_le (Nat.le_refl _) (by omega)) c2)
          exact m_vret hC hr_ hlk hS (hP.castR ((if_neg c0).trans ((if_neg c1).trans (by unfold finA; rw [nS_mov])))) dX5_guard_216
        · have hs3 : Sh M r (it (fin1 w ((gol v w).toNatClampNeg) (cl (mov w ((gol v w).toNatClampNeg) v) ((gol v w).toNatClampNeg))) i (mov w ((gol v w).toNatClampNeg) v)) := hs2.it (fun _ _ _ _ hs => sh_fin1 hs) i
          have hi3 : Inv (it (fin1 w ((gol v w).toNatClampNeg) (cl (mov w ((gol v w).toNatClampNeg) v) ((gol v w).toNatClampNeg))) i (mov w ((gol v w).toNatClampNeg) v)) := (finI_inv hcl hi2 i (by rw [nS_mov]; omega)).1
          refine lv_iload hx hb dX5_guard_111 (lv_at hl 0 rfl) ?_
          refine lv_aload_n hx hb dX5_guard_113 rfl (lv_at hl 3 rfl) ?_
          refine m_get hC hE hP (k_9 hr) e_9 rfl u_5 11 (by decide) w_653 rfl rfl dX5_guard_114 ?_
          refine m_getN hC hE hP k_10 f_10 rfl u_6 6 (by decide) n_690 rfl rfl dX5_guard_117 ?_
          refine m_top (y := (it (fin1 w ((gol v w).toNatClampNeg) (cl (mov w ((gol v w).toNatClampNeg) v) ((gol v w).toNatClampNeg))) i (mov w ((gol v w).toNatClampNeg) v)) 16 1) (hs3 _ _ rfl) ?_
          refine m_top (y := nI (nS v)) ((it_keep (fun _ _ => fin1_ne (by decide) (by decide) (by decide) (by decide)) _ _).trans ((mov_ne (by decide) (by decide)).trans hv.eS)) ?_
          refine lv_icmp_ge (tgt := 216) hx hb dX5_guard_120 (by decide) (fun c3 => absurd c3 (nI_ge hi (by omega))) (fun c3 => ?_)
          refine lv_aload_n hx hb dX5_guard_123 rfl (lv_at hl 3 rfl) ?_
          refine lv_iload hx hb dX5_guard_124 (lv_at hl 0 rfl) ?_
          refine lv_iload_n hx hb dX5_guard_126 rfl (lv_at hl 2 rfl) ?_
          refine m_top (y := nI ((gol v w).toNatClampNeg)) (hz.1) ?_
          refine on_i (run_V hC hE hP hS (As := [.int (nI i), .int (nI ((gol v w).toNatClampNeg))]) (c_isOver l hI hr (hs3) i ((gol v w).toNatClampNeg) (by omega)) cal_X5_isOver w_880 ⟨Nat.le_of_ble_eq_true rfl, Nat.le_of_ble_eq_true rfl⟩ (k_9 hr) e_9 rfl rfl rfl (Nat.le_of_ble_eq_true rfl) hl.1 ⟨Nat.le_of_ble_eq_true rfl, Nat.le_of_ble_eq_true rfl⟩ dX5_guard_127) hS (fun H locs hP hS => ?_)
          refine lv_if_ne (tgt := 136) hx hb dX5_guard_130 (by decide) (fun c2 => ?_) (fun c2 => ?_)
          · have c2 := b2i_t c2
            refine lv_aload_n hx hb dX5_guard_136 rfl (lv_at hl 3 rfl) ?_
            refine m_get hC hE hP (k_9 hr) e_9 rfl u_5 2 (by decide) w_635 rfl rfl dX5_guard_137 ?_
            refine lv_iload_n hx hb dX5_guard_140 rfl (lv_at hl 1 rfl) ?_
            refine lv_bipush (v := 60) hx hb dX5_guard_141 (by decide) ?_
            refine lv_aload_n hx hb dX5_guard_143 rfl (lv_at hl 3 rfl) ?_
            refine m_get hC hE hP (k_9 hr) e_9 rfl u_5 2 (by decide) w_635 rfl rfl dX5_guard_144 ?_
            refine lv_iload_n hx hb dX5_guard_147 rfl (lv_at hl 1 rfl) ?_
            refine m_iald hC hE hP (k_4p hr rfl) e_4 (cl (mov w ((gol v w).toNatClampNeg) v) ((gol v w).toNatClampNeg)) (rfl) (show (cl (mov w ((gol v w).toNatClampNeg) v) ((gol v w).toNatClampNeg)) < 81 from by omega) (by decide) dX5_guard_148 ?_
            refine lv_aload_n hx hb dX5_guard_149 rfl (lv_at hl 3 rfl) ?_
            refine m_get hC hE hP (k_9 hr) e_9 rfl u_5 5 (by decide) w_641 rfl rfl dX5_guard_150 ?_
            refine lv_iload hx hb dX5_guard_153 (lv_at hl 0 rfl) ?_
            refine m_iald hC hE hP (k_4p hr rfl) e_4 i (rfl) (show i < 8 from by omega) (by decide) dX5_guard_155 ?_
            refine lv_iadd hx hb dX5_guard_156 ?_
            refine lv_aload_n hx hb dX5_guard_157 rfl (lv_at hl 3 rfl) ?_
            refine m_get hC hE hP (k_9 hr) e_9 rfl u_5 11 (by decide) w_653 rfl rfl dX5_guard_158 ?_
            refine m_getN hC hE hP k_10 f_10 rfl u_6 7 (by decide) n_693 rfl rfl dX5_guard_161 ?_
            refine lv_iload hx hb dX5_guard_164 (lv_at hl 0 rfl) ?_
            refine m_iald hC hE hP (k_4s (by decide)) f_4 i (rfl) (show i < 8 from by omega) (by decide) dX5_guard_166 ?_
            refine m_top (y := (it (fin1 w ((gol v w).toNatClampNeg) (cl (mov w ((gol v w).toNatClampNeg) v) ((gol v w).toNatClampNeg))) i (mov w ((gol v w).toNatClampNeg) v)) 6 i) (hs3 _ _ rfl) ?_
            refine lv_isub hx hb dX5_guard_167 ?_
            refine m_min hC w_795 w_184 w_14 w_185 hl.1 (by decide) (Nat.le_of_ble_eq_true rfl) (Nat.zero_le _) (Nat.zero_le _) dX5_guard_168 ?_
            refine m_top (y := imin (60 : Int32) ((((it (fin1 w ((gol v w).toNatClampNeg) (cl (mov w ((gol v w).toNatClampNeg) v) ((gol v w).toNatClampNeg))) i (mov w ((gol v w).toNatClampNeg) v)) 0 (cl (mov w ((gol v w).toNatClampNeg) v) ((gol v w).toNatClampNeg))) + ((it (fin1 w ((gol v w).toNatClampNeg) (cl (mov w ((gol v w).toNatClampNeg) v) ((gol v w).toNatClampNeg))) i (mov w ((gol v w).toNatClampNeg) v)) 9 i)) - ((it (fin1 w ((gol v w).toNatClampNeg) (cl (mov w ((gol v w).toNatClampNeg) v) ((gol v w).toNatClampNeg))) i (mov w ((gol v w).toNatClampNeg) v)) 6 i))) rfl ?_
            refine m_iast hC hE hI hP hS (k_4p hr rfl) e_4 (cl (mov w ((gol v w).toNatClampNeg) v) ((gol v w).toNatClampNeg)) (rfl) (show (cl (mov w ((gol v w).toNatClampNeg) v) ((gol v w).toNatClampNeg)) < 81 from by omega) (by decide) p_4 (ent_put g M r (it (fin1 w ((gol v w).toNatClampNeg) (cl (mov w ((gol v w).toNatClampNeg) v) ((gol v w).toNatClampNeg))) i (mov w ((gol v w).toNatClampNeg) v)) o 0 (cl (mov w ((gol v w).toNatClampNeg) v) ((gol v w).toNatClampNeg)) (imin (60 : Int32) ((((it (fin1 w ((gol v w).toNatClampNeg) (cl (mov w ((gol v w).toNatClampNeg) v) ((gol v w).toNatClampNeg))) i (mov w ((gol v w).toNatClampNeg) v)) 0 (cl (mov w ((gol v w).toNatClampNeg) v) ((gol v w).toNatClampNeg))) + ((it (fin1 w ((gol v w).toNatClampNeg) (cl (mov w ((gol v w).toNatClampNeg) v) ((gol v w).toNatClampNeg))) i (mov w ((gol v w).toNatClampNeg) v)) 9 i)) - ((it (fin1 w ((gol v w).toNatClampNeg) (cl (mov w ((gol v w).toNatClampNeg) v) ((gol v w).toNatClampNeg))) i (mov w ((gol v w).toNatClampNeg) v)) 6 i))) (kf_4m hr (by decide))) dX5_guard_171 (fun H locs hP hS => ?_)
            refine lv_aload_n hx hb dX5_guard_172 rfl (lv_at hl 3 rfl) ?_
            refine m_get hC hE hP (k_9 hr) e_9 rfl u_5 5 (by decide) w_641 rfl rfl dX5_guard_173 ?_
            refine lv_iload hx hb dX5_guard_176 (lv_at hl 0 rfl) ?_
            refine lv_aload_n hx hb dX5_guard_178 rfl (lv_at hl 3 rfl) ?_
            refine m_get hC hE hP (k_9 hr) e_9 rfl u_5 11 (by decide) w_653 rfl rfl dX5_guard_179 ?_
            refine m_getN hC hE hP k_10 f_10 rfl u_6 7 (by decide) n_693 rfl rfl dX5_guard_182 ?_
            refine lv_iload hx hb dX5_guard_185 (lv_at hl 0 rfl) ?_
            refine m_iald hC hE hP (k_4s (by decide)) f_4 i (rfl) (show i < 8 from by omega) (by decide) dX5_guard_187 ?_
            refine m_top (y := (up2 (it (fin1 w ((gol v w).toNatClampNeg) (cl (mov w ((gol v w).toNatClampNeg) v) ((gol v w).toNatClampNeg))) i (mov w ((gol v w).toNatClampNeg) v)) 0 (cl (mov w ((gol v w).toNatClampNeg) v) ((gol v w).toNatClampNeg)) (imin (60 : Int32) ((((it (fin1 w ((gol v w).toNatClampNeg) (cl (mov w ((gol v w).toNatClampNeg) v) ((gol v w).toNatClampNeg))) i (mov w ((gol v w).toNatClampNeg) v)) 0 (cl (mov w ((gol v w).toNatClampNeg) v) ((gol v w).toNatClampNeg))) + ((it (fin1 w ((gol v w).toNatClampNeg) (cl (mov w ((gol v w).toNatClampNeg) v) ((gol v w).toNatClampNeg))) i (mov w ((gol v w).toNatClampNeg) v)) 9 i)) - ((it (fin1 w ((gol v w).toNatClampNeg) (cl (mov w ((gol v w).toNatClampNeg) v) ((gol v w).toNatClampNeg))) i (mov w ((gol v w).toNatClampNeg) v)) 6 i)))) 6 i) ((Sh.up hs3 rfl) _ _ rfl) ?_
            refine m_iast hC hE hI hP hS (k_4p hr rfl) e_4 i (rfl) (show i < 8 from by omega) (by decide) p_4 (ent_put g M r (up2 (it (fin1 w ((gol v w).toNatClampNeg) (cl (mov w ((gol v w).toNatClampNeg) v) ((gol v w).toNatClampNeg))) i (mov w ((gol v w).toNatClampNeg) v)) 0 (cl (mov w ((gol v w).toNatClampNeg) v) ((gol v w).toNatClampNeg)) (imin (60 : Int32) ((((it (fin1 w ((gol v w).toNatClampNeg) (cl (mov w ((gol v w).toNatClampNeg) v) ((gol v w).toNatClampNeg))) i (mov w ((gol v w).toNatClampNeg) v)) 0 (cl (mov w ((gol v w).toNatClampNeg) v) ((gol v w).toNatClampNeg))) + ((it (fin1 w ((gol v w).toNatClampNeg) (cl (mov w ((gol v w).toNatClampNeg) v) ((gol v w).toNatClampNeg))) i (mov w ((gol v w).toNatClampNeg) v)) 9 i)) - ((it (fin1 w ((gol v w).toNatClampNeg) (cl (mov w ((gol v w).toNatClampNeg) v) ((gol v w).toNatClampNeg))) i (mov w ((gol v w).toNatClampNeg) v)) 6 i)))) o 9 i ((up2 (it (fin1 w ((gol v w).toNatClampNeg) (cl (mov w ((gol v w).toNatClampNeg) v) ((gol v w).toNatClampNeg))) i (mov w ((gol v w).toNatClampNeg) v)) 0 (cl (mov w ((gol v w).toNatClampNeg) v) ((gol v w).toNatClampNeg)) (imin (60 : Int32) ((((it (fin1 w ((gol v w).toNatClampNeg) (cl (mov w ((gol v w).toNatClampNeg) v) ((gol v w).toNatClampNeg))) i (mov w ((gol v w).toNatClampNeg) v)) 0 (cl (mov w ((gol v w).toNatClampNeg) v) ((gol v w).toNatClampNeg))) + ((it (fin1 w ((gol v w).toNatClampNeg) (cl (mov w ((gol v w).toNatClampNeg) v) ((gol v w).toNatClampNeg))) i (mov w ((gol v w).toNatClampNeg) v)) 9 i)) - ((it (fin1 w ((gol v w).toNatClampNeg) (cl (mov w ((gol v w).toNatClampNeg) v) ((gol v w).toNatClampNeg))) i (mov w ((gol v w).toNatClampNeg) v)) 6 i)))) 6 i) (kf_4m hr (by decide))) dX5_guard_188 (fun H locs hP hS => ?_)
            refine lv_aload_n hx hb dX5_guard_189 rfl (lv_at hl 3 rfl) ?_
            refine m_get hC hE hP (k_9 hr) e_9 rfl u_5 7 (by decide) w_645 rfl rfl dX5_guard_190 ?_
            refine lv_iload hx hb dX5_guard_193 (lv_at hl 0 rfl) ?_
            refine lv_dup2_11 hx hb dX5_guard_195 rfl rfl ?_
            refine m_iald hC hE hP (k_4p hr rfl) e_4 i (rfl) (show i < 8 from by omega) (by decide) dX5_guard_196 ?_
            refine lv_iconst (v := 1) hx hb dX5_guard_197 (by decide) ?_
            refine lv_iadd hx hb dX5_guard_198 ?_
            refine m_iast hC hE hI hP hS (k_4p hr rfl) e_4 i (rfl) (show i < 8 from by omega) (by decide) p_4 (ent_put g M r (up2 (up2 (it (fin1 w ((gol v w).toNatClampNeg) (cl (mov w ((gol v w).toNatClampNeg) v) ((gol v w).toNatClampNeg))) i (mov w ((gol v w).toNatClampNeg) v)) 0 (cl (mov w ((gol v w).toNatClampNeg) v) ((gol v w).toNatClampNeg)) (imin (60 : Int32) ((((it (fin1 w ((gol v w).toNatClampNeg) (cl (mov w ((gol v w).toNatClampNeg) v) ((gol v w).toNatClampNeg))) i (mov w ((gol v w).toNatClampNeg) v)) 0 (cl (mov w ((gol v w).toNatClampNeg) v) ((gol v w).toNatClampNeg))) + ((it (fin1 w ((gol v w).toNatClampNeg) (cl (mov w ((gol v w).toNatClampNeg) v) ((gol v w).toNatClampNeg))) i (mov w ((gol v w).toNatClampNeg) v)) 9 i)) - ((it (fin1 w ((gol v w).toNatClampNeg) (cl (mov w ((gol v w).toNatClampNeg) v) ((gol v w).toNatClampNeg))) i (mov w ((gol v w).toNatClampNeg) v)) 6 i)))) 9 i ((up2 (it (fin1 w ((gol v w).toNatClampNeg) (cl (mov w ((gol v w).toNatClampNeg) v) ((gol v w).toNatClampNeg))) i (mov w ((gol v w).toNatClampNeg) v)) 0 (cl (mov w ((gol v w).toNatClampNeg) v) ((gol v w).toNatClampNeg)) (imin (60 : Int32) ((((it (fin1 w ((gol v w).toNatClampNeg) (cl (mov w ((gol v w).toNatClampNeg) v) ((gol v w).toNatClampNeg))) i (mov w ((gol v w).toNatClampNeg) v)) 0 (cl (mov w ((gol v w).toNatClampNeg) v) ((gol v w).toNatClampNeg))) + ((it (fin1 w ((gol v w).toNatClampNeg) (cl (mov w ((gol v w).toNatClampNeg) v) ((gol v w).toNatClampNeg))) i (mov w ((gol v w).toNatClampNeg) v)) 9 i)) - ((it (fin1 w ((gol v w).toNatClampNeg) (cl (mov w ((gol v w).toNatClampNeg) v) ((gol v w).toNatClampNeg))) i (mov w ((gol v w).toNatClampNeg) v)) 6 i)))) 6 i)) o 11 i (((up2 (up2 (it (fin1 w ((gol v w).toNatClampNeg) (cl (mov w ((gol v w).toNatClampNeg) v) ((gol v w).toNatClampNeg))) i (mov w ((gol v w).toNatClampNeg) v)) 0 (cl (mov w ((gol v w).toNatClampNeg) v) ((gol v w).toNatClampNeg)) (imin (60 : Int32) ((((it (fin1 w ((gol v w).toNatClampNeg) (cl (mov w ((gol v w).toNatClampNeg) v) ((gol v w).toNatClampNeg))) i (mov w ((gol v w).toNatClampNeg) v)) 0 (cl (mov w ((gol v w).toNatClampNeg) v) ((gol v w).toNatClampNeg))) + ((it (fin1 w ((gol v w).toNatClampNeg) (cl (mov w ((gol v w).toNatClampNeg) v) ((gol v w).toNatClampNeg))) i (mov w ((gol v w).toNatClampNeg) v)) 9 i)) - ((it (fin1 w ((gol v w).toNatClampNeg) (cl (mov w ((gol v w).toNatClampNeg) v) ((gol v w).toNatClampNeg))) i (mov w ((gol v w).toNatClampNeg) v)) 6 i)))) 9 i ((up2 (it (fin1 w ((gol v w).toNatClampNeg) (cl (mov w ((gol v w).toNatClampNeg) v) ((gol v w).toNatClampNeg))) i (mov w ((gol v w).toNatClampNeg) v)) 0 (cl (mov w ((gol v w).toNatClampNeg) v) ((gol v w).toNatClampNeg)) (imin (60 : Int32) ((((it (fin1 w ((gol v w).toNatClampNeg) (cl (mov w ((gol v w).toNatClampNeg) v) ((gol v w).toNatClampNeg))) i (mov w ((gol v w).toNatClampNeg) v)) 0 (cl (mov w ((gol v w).toNatClampNeg) v) ((gol v w).toNatClampNeg))) + ((it (fin1 w ((gol v w).toNatClampNeg) (cl (mov w ((gol v w).toNatClampNeg) v) ((gol v w).toNatClampNeg))) i (mov w ((gol v w).toNatClampNeg) v)) 9 i)) - ((it (fin1 w ((gol v w).toNatClampNeg) (cl (mov w ((gol v w).toNatClampNeg) v) ((gol v w).toNatClampNeg))) i (mov w ((gol v w).toNatClampNeg) v)) 6 i)))) 6 i)) 11 i) + (1 : Int32)) (kf_4m hr (by decide))) dX5_guard_199 (fun H locs hP hS => ?_)
            refine lv_aload_n hx hb dX5_guard_200 rfl (lv_at hl 3 rfl) ?_
            refine m_get hC hE hP (k_9 hr) e_9 rfl u_5 10 (by decide) w_651 rfl rfl dX5_guard_201 ?_
            refine lv_iload_n hx hb dX5_guard_204 rfl (lv_at hl 4 rfl) ?_
            refine lv_dup2_11 hx hb dX5_guard_205 rfl rfl ?_
            refine m_iald hC hE hP (k_4p hr rfl) e_4 w (rfl) (show w < 3 from by omega) (by decide) dX5_guard_206 ?_
            refine lv_iconst (v := 1) hx hb dX5_guard_207 (by decide) ?_
            refine lv_iadd hx hb dX5_guard_208 ?_
            refine m_iast hC hE hI hP hS (k_4p hr rfl) e_4 w (rfl) (show w < 3 from by omega) (by decide) p_4 (ent_put g M r (up2 (up2 (up2 (it (fin1 w ((gol v w).toNatClampNeg) (cl (mov w ((gol v w).toNatClampNeg) v) ((gol v w).toNatClampNeg))) i (mov w ((gol v w).toNatClampNeg) v)) 0 (cl (mov w ((gol v w).toNatClampNeg) v) ((gol v w).toNatClampNeg)) (imin (60 : Int32) ((((it (fin1 w ((gol v w).toNatClampNeg) (cl (mov w ((gol v w).toNatClampNeg) v) ((gol v w).toNatClampNeg))) i (mov w ((gol v w).toNatClampNeg) v)) 0 (cl (mov w ((gol v w).toNatClampNeg) v) ((gol v w).toNatClampNeg))) + ((it (fin1 w ((gol v w).toNatClampNeg) (cl (mov w ((gol v w).toNatClampNeg) v) ((gol v w).toNatClampNeg))) i (mov w ((gol v w).toNatClampNeg) v)) 9 i)) - ((it (fin1 w ((gol v w).toNatClampNeg) (cl (mov w ((gol v w).toNatClampNeg) v) ((gol v w).toNatClampNeg))) i (mov w ((gol v w).toNatClampNeg) v)) 6 i)))) 9 i ((up2 (it (fin1 w ((gol v w).toNatClampNeg) (cl (mov w ((gol v w).toNatClampNeg) v) ((gol v w).toNatClampNeg))) i (mov w ((gol v w).toNatClampNeg) v)) 0 (cl (mov w ((gol v w).toNatClampNeg) v) ((gol v w).toNatClampNeg)) (imin (60 : Int32) ((((it (fin1 w ((gol v w).toNatClampNeg) (cl (mov w ((gol v w).toNatClampNeg) v) ((gol v w).toNatClampNeg))) i (mov w ((gol v w).toNatClampNeg) v)) 0 (cl (mov w ((gol v w).toNatClampNeg) v) ((gol v w).toNatClampNeg))) + ((it (fin1 w ((gol v w).toNatClampNeg) (cl (mov w ((gol v w).toNatClampNeg) v) ((gol v w).toNatClampNeg))) i (mov w ((gol v w).toNatClampNeg) v)) 9 i)) - ((it (fin1 w ((gol v w).toNatClampNeg) (cl (mov w ((gol v w).toNatClampNeg) v) ((gol v w).toNatClampNeg))) i (mov w ((gol v w).toNatClampNeg) v)) 6 i)))) 6 i)) 11 i (((up2 (up2 (it (fin1 w ((gol v w).toNatClampNeg) (cl (mov w ((gol v w).toNatClampNeg) v) ((gol v w).toNatClampNeg))) i (mov w ((gol v w).toNatClampNeg) v)) 0 (cl (mov w ((gol v w).toNatClampNeg) v) ((gol v w).toNatClampNeg)) (imin (60 : Int32) ((((it (fin1 w ((gol v w).toNatClampNeg) (cl (mov w ((gol v w).toNatClampNeg) v) ((gol v w).toNatClampNeg))) i (mov w ((gol v w).toNatClampNeg) v)) 0 (cl (mov w ((gol v w).toNatClampNeg) v) ((gol v w).toNatClampNeg))) + ((it (fin1 w ((gol v w).toNatClampNeg) (cl (mov w ((gol v w).toNatClampNeg) v) ((gol v w).toNatClampNeg))) i (mov w ((gol v w).toNatClampNeg) v)) 9 i)) - ((it (fin1 w ((gol v w).toNatClampNeg) (cl (mov w ((gol v w).toNatClampNeg) v) ((gol v w).toNatClampNeg))) i (mov w ((gol v w).toNatClampNeg) v)) 6 i)))) 9 i ((up2 (it (fin1 w ((gol v w).toNatClampNeg) (cl (mov w ((gol v w).toNatClampNeg) v) ((gol v w).toNatClampNeg))) i (mov w ((gol v w).toNatClampNeg) v)) 0 (cl (mov w ((gol v w).toNatClampNeg) v) ((gol v w).toNatClampNeg)) (imin (60 : Int32) ((((it (fin1 w ((gol v w).toNatClampNeg) (cl (mov w ((gol v w).toNatClampNeg) v) ((gol v w).toNatClampNeg))) i (mov w ((gol v w).toNatClampNeg) v)) 0 (cl (mov w ((gol v w).toNatClampNeg) v) ((gol v w).toNatClampNeg))) + ((it (fin1 w ((gol v w).toNatClampNeg) (cl (mov w ((gol v w).toNatClampNeg) v) ((gol v w).toNatClampNeg))) i (mov w ((gol v w).toNatClampNeg) v)) 9 i)) - ((it (fin1 w ((gol v w).toNatClampNeg) (cl (mov w ((gol v w).toNatClampNeg) v) ((gol v w).toNatClampNeg))) i (mov w ((gol v w).toNatClampNeg) v)) 6 i)))) 6 i)) 11 i) + (1 : Int32))) o 15 w (((up2 (up2 (up2 (it (fin1 w ((gol v w).toNatClampNeg) (cl (mov w ((gol v w).toNatClampNeg) v) ((gol v w).toNatClampNeg))) i (mov w ((gol v w).toNatClampNeg) v)) 0 (cl (mov w ((gol v w).toNatClampNeg) v) ((gol v w).toNatClampNeg)) (imin (60 : Int32) ((((it (fin1 w ((gol v w).toNatClampNeg) (cl (mov w ((gol v w).toNatClampNeg) v) ((gol v w).toNatClampNeg))) i (mov w ((gol v w).toNatClampNeg) v)) 0 (cl (mov w ((gol v w).toNatClampNeg) v) ((gol v w).toNatClampNeg))) + ((it (fin1 w ((gol v w).toNatClampNeg) (cl (mov w ((gol v w).toNatClampNeg) v) ((gol v w).toNatClampNeg))) i (mov w ((gol v w).toNatClampNeg) v)) 9 i)) - ((it (fin1 w ((gol v w).toNatClampNeg) (cl (mov w ((gol v w).toNatClampNeg) v) ((gol v w).toNatClampNeg))) i (mov w ((gol v w).toNatClampNeg) v)) 6 i)))) 9 i ((up2 (it (fin1 w ((gol v w).toNatClampNeg) (cl (mov w ((gol v w).toNatClampNeg) v) ((gol v w).toNatClampNeg))) i (mov w ((gol v w).toNatClampNeg) v)) 0 (cl (mov w ((gol v w).toNatClampNeg) v) ((gol v w).toNatClampNeg)) (imin (60 : Int32) ((((it (fin1 w ((gol v w).toNatClampNeg) (cl (mov w ((gol v w).toNatClampNeg) v) ((gol v w).toNatClampNeg))) i (mov w ((gol v w).toNatClampNeg) v)) 0 (cl (mov w ((gol v w).toNatClampNeg) v) ((gol v w).toNatClampNeg))) + ((it (fin1 w ((gol v w).toNatClampNeg) (cl (mov w ((gol v w).toNatClampNeg) v) ((gol v w).toNatClampNeg))) i (mov w ((gol v w).toNatClampNeg) v)) 9 i)) - ((it (fin1 w ((gol v w).toNatClampNeg) (cl (mov w ((gol v w).toNatClampNeg) v) ((gol v w).toNatClampNeg))) i (mov w ((gol v w).toNatClampNeg) v)) 6 i)))) 6 i)) 11 i (((up2 (up2 (it (fin1 w ((gol v w).toNatClampNeg) (cl (mov w ((gol v w).toNatClampNeg) v) ((gol v w).toNatClampNeg))) i (mov w ((gol v w).toNatClampNeg) v)) 0 (cl (mov w ((gol v w).toNatClampNeg) v) ((gol v w).toNatClampNeg)) (imin (60 : Int32) ((((it (fin1 w ((gol v w).toNatClampNeg) (cl (mov w ((gol v w).toNatClampNeg) v) ((gol v w).toNatClampNeg))) i (mov w ((gol v w).toNatClampNeg) v)) 0 (cl (mov w ((gol v w).toNatClampNeg) v) ((gol v w).toNatClampNeg))) + ((it (fin1 w ((gol v w).toNatClampNeg) (cl (mov w ((gol v w).toNatClampNeg) v) ((gol v w).toNatClampNeg))) i (mov w ((gol v w).toNatClampNeg) v)) 9 i)) - ((it (fin1 w ((gol v w).toNatClampNeg) (cl (mov w ((gol v w).toNatClampNeg) v) ((gol v w).toNatClampNeg))) i (mov w ((gol v w).toNatClampNeg) v)) 6 i)))) 9 i ((up2 (it (fin1 w ((gol v w).toNatClampNeg) (cl (mov w ((gol v w).toNatClampNeg) v) ((gol v w).toNatClampNeg))) i (mov w ((gol v w).toNatClampNeg) v)) 0 (cl (mov w ((gol v w).toNatClampNeg) v) ((gol v w).toNatClampNeg)) (imin (60 : Int32) ((((it (fin1 w ((gol v w).toNatClampNeg) (cl (mov w ((gol v w).toNatClampNeg) v) ((gol v w).toNatClampNeg))) i (mov w ((gol v w).toNatClampNeg) v)) 0 (cl (mov w ((gol v w).toNatClampNeg) v) ((gol v w).toNatClampNeg))) + ((it (fin1 w ((gol v w).toNatClampNeg) (cl (mov w ((gol v w).toNatClampNeg) v) ((gol v w).toNatClampNeg))) i (mov w ((gol v w).toNatClampNeg) v)) 9 i)) - ((it (fin1 w ((gol v w).toNatClampNeg) (cl (mov w ((gol v w).toNatClampNeg) v) ((gol v w).toNatClampNeg))) i (mov w ((gol v w).toNatClampNeg) v)) 6 i)))) 6 i)) 11 i) + (1 : Int32))) 15 w) + (1 : Int32)) (kf_4m hr (by decide))) dX5_guard_209 (fun H locs hP hS => ?_)
            refine lv_iinc (v := nI (i + 1)) (lv' := [(4, .int (nI (i + 1))), (3, .int (nI (cl (mov w ((gol v w).toNatClampNeg) v) ((gol v w).toNatClampNeg)))), (2, .int (gol v w)), (0, .ref (ad g (9, r, 0))), (1, .int (nI w))]) hx hb dX5_guard_210 hl (k := 0) rfl (nI_1 _) (by decide) rfl (fun ls hl => ?_)
            refine lv_goto (tgt := 111) hx hb dX5_guard_213 (by decide) ?_
            exact IH H locs ls (hP.castR ((if_pos c2).trans (by simp [up2]))) hS (lv_sub hl [0, 1, 2, 3, 4] rfl) (trivial)
          · have c2 := b2i_f c2
            refine lv_goto (tgt := 210) hx hb dX5_guard_133 (by decide) ?_
            refine lv_iinc (v := nI (i + 1)) (lv' := [(4, .int (nI (i + 1))), (3, .int (nI (cl (mov w ((gol v w).toNatClampNeg) v) ((gol v w).toNatClampNeg)))), (2, .int (gol v w)), (0, .ref (ad g (9, r, 0))), (1, .int (nI w))]) hx hb dX5_guard_210 hl (k := 0) rfl (nI_1 _) (by decide) rfl (fun ls hl => ?_)
            refine lv_goto (tgt := 111) hx hb dX5_guard_213 (by decide) ?_
            exact IH H locs ls (hP.castR (if_neg (by rw [c2]; decide))) hS (lv_sub hl [0, 1, 2, 3, 4] rfl) (trivial)
      · have c1 : 0 < farW (mov w ((gol v w).toNatClampNeg) v) w ((gol v w).toNatClampNeg) := Int32.not_le.mp c1
        exact m_vret hC hr_ hlk hS (hP.castR ((if_neg c0).trans (if_pos c1))) dX5_guard_98
    · have hs1 : Sh M r (it (fun _ u => stp w ((gol v w).toNatClampNeg) u) i v) := hsh.it (fun _ _ _ _ hs => sh_stp hs) i
      have hi1 : Inv (it (fun _ u => stp w ((gol v w).toNatClampNeg) u) i v) ∧ nH (it (fun _ u => stp w ((gol v w).toNatClampNeg) u) i v) = nH v ∧ nW (it (fun _ u => stp w ((gol v w).toNatClampNeg) u) i v) = nW v := movI_inv hz.2 hv i
      have hl1 := hi1.1.hW w (by rw [hi1.2.2]; exact hw)
      have hl2 := hi1.1.hH ((gol v w).toNatClampNeg) (by rw [hi1.2.1]; exact hz.2)
      refine lv_iload_n hx hb dX5_guard_14 rfl (lv_at hl 0 rfl) ?_
      refine lv_aload_n hx hb dX5_guard_15 rfl (lv_at hl 2 rfl) ?_
      refine m_get hC hE hP (k_9 hr) e_9 rfl u_5 11 (by decide) w_653 rfl rfl dX5_guard_16 ?_
      refine m_getN hC hE hP k_10 f_10 rfl u_6 10 (by decide) n_699 rfl rfl dX5_guard_19 ?_
      refine lv_iload_n hx hb dX5_guard_22 rfl (lv_at hl 3 rfl) ?_
      refine m_iald hC hE hP (k_4s (by decide)) f_4 w (rfl) (show w < 3 from by omega) (by decide) dX5_guard_23 ?_
      refine m_top (y := (it (fun _ u => stp w ((gol v w).toNatClampNeg) u) i v) 14 w) (hs1 _ _ rfl) ?_
      refine m_top (y := v 14 w) (it_keep (fun _ _ => stp_ne (by decide) (by decide)) _ _) ?_
      refine lv_icmp_ge (tgt := 89) hx hb dX5_guard_24 (by decide) (fun c4 => absurd c4 (pace_F hi)) (fun c4 => ?_)
      refine lv_aload_n hx hb dX5_guard_27 rfl (lv_at hl 2 rfl) ?_
      refine m_get hC hE hP (k_9 hr) e_9 rfl u_5 8 (by decide) w_647 rfl rfl dX5_guard_28 ?_
      refine lv_iload_n hx hb dX5_guard_31 rfl (lv_at hl 3 rfl) ?_
      refine lv_dup2_11 hx hb dX5_guard_32 rfl rfl ?_
      refine m_iald hC hE hP (k_4p hr rfl) e_4 w (rfl) (show w < 3 from by omega) (by decide) dX5_guard_33 ?_
      refine lv_aload_n hx hb dX5_guard_34 rfl (lv_at hl 2 rfl) ?_
      refine m_get hC hE hP (k_9 hr) e_9 rfl u_5 11 (by decide) w_653 rfl rfl dX5_guard_35 ?_
      refine m_getN hC hE hP k_10 f_10 rfl u_6 4 (by decide) n_687 rfl rfl dX5_guard_38 ?_
      refine lv_iload_n hx hb dX5_guard_41 rfl (lv_at hl 1 rfl) ?_
      refine m_iald hC hE hP (k_4s (by decide)) f_4 ((gol v w).toNatClampNeg) (hz.1) (show ((gol v w).toNatClampNeg) < 12 from by omega) (by decide) dX5_guard_42 ?_
      refine m_top (y := (it (fun _ u => stp w ((gol v w).toNatClampNeg) u) i v) 3 ((gol v w).toNatClampNeg)) (hs1 _ _ rfl) ?_
      refine lv_aload_n hx hb dX5_guard_43 rfl (lv_at hl 2 rfl) ?_
      refine m_get hC hE hP (k_9 hr) e_9 rfl u_5 8 (by decide) w_647 rfl rfl dX5_guard_44 ?_
      refine lv_iload_n hx hb dX5_guard_47 rfl (lv_at hl 3 rfl) ?_
      refine m_iald hC hE hP (k_4p hr rfl) e_4 w (rfl) (show w < 3 from by omega) (by decide) dX5_guard_48 ?_
      refine lv_isub hx hb dX5_guard_49 ?_
      refine on_i (run_S hC hE hP hS (As := [.int (((it (fun _ u => stp w ((gol v w).toNatClampNeg) u) i v) 3 ((gol v w).toNatClampNeg)) - ((it (fun _ u => stp w ((gol v w).toNatClampNeg) u) i v) 12 w))]) (c_signum l (((it (fun _ u => stp w ((gol v w).toNatClampNeg) u) i v) 3 ((gol v w).toNatClampNeg)) - ((it (fun _ u => stp w ((gol v w).toNatClampNeg) u) i v) 12 w))) cal_J6_signum_0f7a4 w_885 ⟨Nat.le_of_ble_eq_true rfl, Nat.le_of_ble_eq_true rfl⟩ rfl rfl (Nat.le_of_ble_eq_true rfl) hl.1 ⟨Nat.le_of_ble_eq_true rfl, Nat.le_of_ble_eq_true rfl⟩ dX5_guard_50) hS (fun H locs hP hS => ?_)
      refine m_top (y := cmp3 ((it (fun _ u => stp w ((gol v w).toNatClampNeg) u) i v) 3 ((gol v w).toNatClampNeg)) ((it (fun _ u => stp w ((gol v w).toNatClampNeg) u) i v) 12 w)) (sgn_lt9 hl2.1 hl1.1) ?_
      refine lv_iadd hx hb dX5_guard_53 ?_
      refine m_iast hC hE hI hP hS (k_4p hr rfl) e_4 w (rfl) (show w < 3 from by omega) (by decide) p_4 (ent_put g M r (it (fun _ u => stp w ((gol v w).toNatClampNeg) u) i v) o 12 w (((it (fun _ u => stp w ((gol v w).toNatClampNeg) u) i v) 12 w) + (cmp3 ((it (fun _ u => stp w ((gol v w).toNatClampNeg) u) i v) 3 ((gol v w).toNatClampNeg)) ((it (fun _ u => stp w ((gol v w).toNatClampNeg) u) i v) 12 w))) (kf_4m hr (by decide))) dX5_guard_54 (fun H locs hP hS => ?_)
      refine lv_aload_n hx hb dX5_guard_55 rfl (lv_at hl 2 rfl) ?_
      refine m_get hC hE hP (k_9 hr) e_9 rfl u_5 9 (by decide) w_649 rfl rfl dX5_guard_56 ?_
      refine lv_iload_n hx hb dX5_guard_59 rfl (lv_at hl 3 rfl) ?_
      refine lv_dup2_11 hx hb dX5_guard_60 rfl rfl ?_
      refine m_iald hC hE hP (k_4p hr rfl) e_4 w (rfl) (show w < 3 from by omega) (by decide) dX5_guard_61 ?_
      refine lv_aload_n hx hb dX5_guard_62 rfl (lv_at hl 2 rfl) ?_
      refine m_get hC hE hP (k_9 hr) e_9 rfl u_5 11 (by decide) w_653 rfl rfl dX5_guard_63 ?_
      refine m_getN hC hE hP k_10 f_10 rfl u_6 5 (by decide) n_689 rfl rfl dX5_guard_66 ?_
      refine lv_iload_n hx hb dX5_guard_69 rfl (lv_at hl 1 rfl) ?_
      refine m_iald hC hE hP (k_4s (by decide)) f_4 ((gol v w).toNatClampNeg) (hz.1) (show ((gol v w).toNatClampNeg) < 12 from by omega) (by decide) dX5_guard_70 ?_
      refine m_top (y := (up2 (it (fun _ u => stp w ((gol v w).toNatClampNeg) u) i v) 12 w (((it (fun _ u => stp w ((gol v w).toNatClampNeg) u) i v) 12 w) + (cmp3 ((it (fun _ u => stp w ((gol v w).toNatClampNeg) u) i v) 3 ((gol v w).toNatClampNeg)) ((it (fun _ u => stp w ((gol v w).toNatClampNeg) u) i v) 12 w)))) 4 ((gol v w).toNatClampNeg)) ((Sh.up hs1 rfl) _ _ rfl) ?_
      refine lv_aload_n hx hb dX5_guard_71 rfl (lv_at hl 2 rfl) ?_
      refine m_get hC hE hP (k_9 hr) e_9 rfl u_5 9 (by decide) w_649 rfl rfl dX5_guard_72 ?_
      refine lv_iload_n hx hb dX5_guard_75 rfl (lv_at hl 3 rfl) ?_
      refine m_iald hC hE hP (k_4p hr rfl) e_4 w (rfl) (show w < 3 from by omega) (by decide) dX5_guard_76 ?_
      refine lv_isub hx hb dX5_guard_77 ?_
      refine on_i (run_S hC hE hP hS (As := [.int (((up2 (it (fun _ u => stp w ((gol v w).toNatClampNeg) u) i v) 12 w (((it (fun _ u => stp w ((gol v w).toNatClampNeg) u) i v) 12 w) + (cmp3 ((it (fun _ u => stp w ((gol v w).toNatClampNeg) u) i v) 3 ((gol v w).toNatClampNeg)) ((it (fun _ u => stp w ((gol v w).toNatClampNeg) u) i v) 12 w)))) 4 ((gol v w).toNatClampNeg)) - ((up2 (it (fun _ u => stp w ((gol v w).toNatClampNeg) u) i v) 12 w (((it (fun _ u => stp w ((gol v w).toNatClampNeg) u) i v) 12 w) + (cmp3 ((it (fun _ u => stp w ((gol v w).toNatClampNeg) u) i v) 3 ((gol v w).toNatClampNeg)) ((it (fun _ u => stp w ((gol v w).toNatClampNeg) u) i v) 12 w)))) 13 w))]) (c_signum l (((up2 (it (fun _ u => stp w ((gol v w).toNatClampNeg) u) i v) 12 w (((it (fun _ u => stp w ((gol v w).toNatClampNeg) u) i v) 12 w) + (cmp3 ((it (fun _ u => stp w ((gol v w).toNatClampNeg) u) i v) 3 ((gol v w).toNatClampNeg)) ((it (fun _ u => stp w ((gol v w).toNatClampNeg) u) i v) 12 w)))) 4 ((gol v w).toNatClampNeg)) - ((up2 (it (fun _ u => stp w ((gol v w).toNatClampNeg) u) i v) 12 w (((it (fun _ u => stp w ((gol v w).toNatClampNeg) u) i v) 12 w) + (cmp3 ((it (fun _ u => stp w ((gol v w).toNatClampNeg) u) i v) 3 ((gol v w).toNatClampNeg)) ((it (fun _ u => stp w ((gol v w).toNatClampNeg) u) i v) 12 w)))) 13 w))) cal_J6_signum_0f7a4 w_885 ⟨Nat.le_of_ble_eq_true rfl, Nat.le_of_ble_eq_true rfl⟩ rfl rfl (Nat.le_of_ble_eq_true rfl) hl.1 ⟨Nat.le_of_ble_eq_true rfl, Nat.le_of_ble_eq_true rfl⟩ dX5_guard_78) hS (fun H locs hP hS => ?_)
      refine m_top (y := cmp3 ((it (fun _ u => stp w ((gol v w).toNatClampNeg) u) i v) 4 ((gol v w).toNatClampNeg)) ((it (fun _ u => stp w ((gol v w).toNatClampNeg) u) i v) 13 w)) ((by simp only [up2_c (show (4:Nat) ≠ 12 by decide), up2_c (show (13:Nat) ≠ 12 by decide)]; exact sgn_lt9 hl2.2.1 hl1.2)) ?_
      refine lv_iadd hx hb dX5_guard_81 ?_
      refine m_iast hC hE hI hP hS (k_4p hr rfl) e_4 w (rfl) (show w < 3 from by omega) (by decide) p_4 (ent_put g M r (up2 (it (fun _ u => stp w ((gol v w).toNatClampNeg) u) i v) 12 w (((it (fun _ u => stp w ((gol v w).toNatClampNeg) u) i v) 12 w) + (cmp3 ((it (fun _ u => stp w ((gol v w).toNatClampNeg) u) i v) 3 ((gol v w).toNatClampNeg)) ((it (fun _ u => stp w ((gol v w).toNatClampNeg) u) i v) 12 w)))) o 13 w (((up2 (it (fun _ u => stp w ((gol v w).toNatClampNeg) u) i v) 12 w (((it (fun _ u => stp w ((gol v w).toNatClampNeg) u) i v) 12 w) + (cmp3 ((it (fun _ u => stp w ((gol v w).toNatClampNeg) u) i v) 3 ((gol v w).toNatClampNeg)) ((it (fun _ u => stp w ((gol v w).toNatClampNeg) u) i v) 12 w)))) 13 w) + (cmp3 ((it (fun _ u => stp w ((gol v w).toNatClampNeg) u) i v) 4 ((gol v w).toNatClampNeg)) ((it (fun _ u => stp w ((gol v w).toNatClampNeg) u) i v) 13 w))) (kf_4m hr (by decide))) dX5_guard_82 (fun H locs hP hS => ?_)
      refine lv_iinc (v := nI (i + 1)) (lv' := [(3, .int (nI (i + 1))), (2, .int (gol v w)), (0, .ref (ad g (9, r, 0))), (1, .int (nI w))]) hx hb dX5_guard_83 hl (k := 0) rfl (nI_1 _) (by decide) rfl (fun ls hl => ?_)
      refine lv_goto (tgt := 14) hx hb dX5_guard_86 (by decide) ?_
      exact IH H locs ls (hP.castR (by show stp w _ _ = _; simp [stp, up2])) hS (lv_sub hl [0, 1, 2, 3] rfl) (trivial)
  · exact m_vret hC hr_ hlk hS (hP.castR (if_pos c0)) dX5_guard_11
set_option maxHeartbeats 4000000 in
set_option maxRecDepth 100000 in
theorem c_freezeM (l : Launch) {g : Gm} (hI : IJ g KK) {M : Mem} {o : Nat → Int64} {r : Nat} (hr : r = 2 ∨ r = 3) {v : Vw} (hsh : Sh M r v) (hv : Inv v) (hN : Nt 0 v) : MV l yX5_freeze cX5_freeze 3 (rm 1 23) g KK (ent g (setR M r v) o) [.ref (ad g (9, r, 0))] (ent g (setR M r (frz v)) o) := by
  refine met_of (by decide +kernel) (Nat.le_of_ble_eq_true rfl) ?_
  intro p e s m below meth c ls hC hr_ hlk hnm hE hP hS hl
  obtain ⟨hx, hb, hml, hown, hG⟩ := id hC
  have hl : lv_has ls 3 [(0, .ref (ad g (9, r, 0)))] := hl
  have qH := hv.lH
  have qS := hv.lS
  have qW := hv.lW
  have hN1 := hN.1
  have hN2 := hN.2
  refine lv_aload_n hx hb dX5_freeze_0 rfl (lv_at hl 0 rfl) ?_
  refine m_get hC hE hP (k_9 hr) e_9 rfl u_5 11 (by decide) w_653 rfl rfl dX5_freeze_1 ?_
  refine m_getN hC hE hP k_10 f_10 rfl u_6 2 (by decide) n_683 rfl rfl dX5_freeze_4 ?_
  refine lv_aload_n hx hb dX5_freeze_7 rfl (lv_at hl 0 rfl) ?_
  refine m_get hC hE hP (k_9 hr) e_9 rfl u_5 0 (by decide) w_631 rfl rfl dX5_freeze_8 ?_
  refine m_top (y := nI (tt v)) (hN1) ?_
  refine lv_bipush (v := 7) hx hb dX5_freeze_11 (by decide) ?_
  refine lv_irem hx hb dX5_freeze_13 (by decide) ?_
  refine m_top (y := nI (tt v % 7)) (pk_rem (a := tt v) (d := 7) (by omega) (by decide) (by decide)) ?_
  refine m_iald hC hE hP (k_4s (by decide)) f_4 (tt v % 7) (rfl) (show (tt v % 7) < 7 from Nat.mod_lt _ (by decide)) (by decide) dX5_freeze_14 ?_
  refine m_top (y := v 2 (tt v % 7)) (hsh _ _ rfl) ?_
  refine m_top (y := frostN v) (rfl) ?_
  refine lv_istore_n (lv' := [(1, .int (frostN v)), (0, .ref (ad g (9, r, 0)))]) hx hb dX5_freeze_15 rfl hl (by decide) rfl (fun ls hl => ?_)
  refine lv_aload_n hx hb dX5_freeze_16 rfl (lv_at hl 1 rfl) ?_
  refine lv_iconst (v := 0) hx hb dX5_freeze_17 (by decide) ?_
  refine lv_bipush (v := 90) hx hb dX5_freeze_18 (by decide) ?_
  refine lv_aload_n hx hb dX5_freeze_20 rfl (lv_at hl 1 rfl) ?_
  refine m_get hC hE hP (k_9 hr) e_9 rfl u_5 1 (by decide) w_633 rfl rfl dX5_freeze_21 ?_
  refine lv_iload_n hx hb dX5_freeze_24 rfl (lv_at hl 0 rfl) ?_
  refine lv_iadd hx hb dX5_freeze_25 ?_
  refine m_min hC w_795 w_184 w_14 w_185 hl.1 (by decide) (Nat.le_of_ble_eq_true rfl) (Nat.zero_le _) (Nat.zero_le _) dX5_freeze_26 ?_
  refine m_top (y := imin (90 : Int32) ((v 16 3) + (frostN v))) rfl ?_
  refine m_max hC w_796 w_187 w_14 w_188 hl.1 (by decide) (Nat.le_of_ble_eq_true rfl) (Nat.zero_le _) (Nat.zero_le _) dX5_freeze_29 ?_
  refine m_top (y := imax (0 : Int32) (imin (90 : Int32) ((v 16 3) + (frostN v)))) rfl ?_
  refine m_top (y := iceN v) (rfl) ?_
  refine m_put hC hE hI hP hS (k_9 hr) e_9 rfl u_5 tyX5_ok nmX5 1 (by decide) w_633 rfl rfl rfl rfl (Nat.le_of_ble_eq_true rfl) p_9_1 (ent_put g M r v o 16 3 (iceN v) (kf_9 hr (by decide))) dX5_freeze_32 (fun H locs hP hS => ?_)
  refine lv_iconst (v := 0) hx hb dX5_freeze_35 (by decide) ?_
  refine lv_istore_n (lv' := [(2, .int ((0 : Int32))), (1, .int (frostN v)), (0, .ref (ad g (9, r, 0)))]) hx hb dX5_freeze_36 rfl hl (by decide) rfl (fun ls hl => ?_)
  refine lp_W (i0 := 0) (nH v) (fun i => ent g (setR M r (fzH v i)) o) (fun i => [(2, .int (nI i)), (1, .int (frostN v)), (0, .ref (ad g (9, r, 0)))]) (fun i => True) (Nat.zero_le _) (hP.castR (rfl)) hS (lv_sub hl [0, 1, 2] rfl) (trivial) (fun H locs ls hP hS hl J => ?_) (fun i hi IH H locs ls hP hS hl J => ?_)
  · have hs1 : Sh M r (fzH v (nH v)) := hsh.fzH _
    refine lv_iload_n hx hb dX5_freeze_37 rfl (lv_at hl 0 rfl) ?_
    refine lv_aload_n hx hb dX5_freeze_38 rfl (lv_at hl 2 rfl) ?_
    refine m_get hC hE hP (k_9 hr) e_9 rfl u_5 11 (by decide) w_653 rfl rfl dX5_freeze_39 ?_
    refine m_getN hC hE hP k_10 f_10 rfl u_6 3 (by decide) n_685 rfl rfl dX5_freeze_42 ?_
    refine m_top (y := (fzH v (nH v)) 16 0) (hs1 _ _ rfl) ?_
    refine m_top (y := nI (nH v)) ((fzH_16 (by decide)).trans hv.eH) ?_
    refine lv_icmp_ge (tgt := 81) hx hb dX5_freeze_45 (by decide) (fun c1 => ?_) (fun c1 => absurd (nI_le (Nat.le_refl _) (by omega)) c1)
    refine lv_iconst (v := 0) hx hb dX5_freeze_81 (by decide) ?_
    refine lv_istore_n (lv' := [(2, .int ((0 : Int32))), (1, .int (frostN v)), (0, .ref (ad g (9, r, 0)))]) hx hb dX5_freeze_82 rfl hl (by decide) rfl (fun ls hl => ?_)
    refine lp_W (i0 := 0) (nS v) (fun i => ent g (setR M r (fzA v i)) o) (fun i => [(2, .int (nI i)), (1, .int (frostN v)), (0, .ref (ad g (9, r, 0)))]) (fun i => True) (Nat.zero_le _) (hP.castR (rfl)) hS (lv_sub hl [0, 1, 2] rfl) (trivial) (fun H locs ls hP hS hl J => ?_) (fun i hi IH H locs ls hP hS hl J => ?_)
    · have hs2 : Sh M r (fzA v (nS v)) := hsh.fzA _
      refine lv_iload_n hx hb dX5_freeze_83 rfl (lv_at hl 0 rfl) ?_
      refine lv_aload_n hx hb dX5_freeze_84 rfl (lv_at hl 2 rfl) ?_
      refine m_get hC hE hP (k_9 hr) e_9 rfl u_5 11 (by decide) w_653 rfl rfl dX5_freeze_85 ?_
      refine m_getN hC hE hP k_10 f_10 rfl u_6 6 (by decide) n_690 rfl rfl dX5_freeze_88 ?_
      refine m_top (y := (fzA v (nS v)) 16 1) (hs2 _ _ rfl) ?_
      refine m_top (y := nI (nS v)) ((fzA_16 (by decide)).trans hv.eS) ?_
      refine lv_icmp_ge (tgt := 124) hx hb dX5_freeze_91 (by decide) (fun c2 => ?_) (fun c2 => absurd (nI_le (Nat.le_refl _) (by omega)) c2)
      exact m_vret hC hr_ hlk hS (hP.castR (fz_m)) dX5_freeze_124
    · have hs2 : Sh M r (fzA v i) := hsh.fzA i
      refine lv_iload_n hx hb dX5_freeze_83 rfl (lv_at hl 0 rfl) ?_
      refine lv_aload_n hx hb dX5_freeze_84 rfl (lv_at hl 2 rfl) ?_
      refine m_get hC hE hP (k_9 hr) e_9 rfl u_5 11 (by decide) w_653 rfl rfl dX5_freeze_85 ?_
      refine m_getN hC hE hP k_10 f_10 rfl u_6 6 (by decide) n_690 rfl rfl dX5_freeze_88 ?_
      refine m_top (y := (fzA v i) 16 1) (hs2 _ _ rfl) ?_
      refine m_top (y := nI (nS v)) ((fzA_16 (by decide)).trans hv.eS) ?_
      refine lv_icmp_ge (tgt := 124) hx hb dX5_freeze_91 (by decide) (fun c3 => absurd c3 (nI_ge hi (by omega))) (fun c3 => ?_)
      refine lv_aload_n hx hb dX5_freeze_94 rfl (lv_at hl 2 rfl) ?_
      refine m_get hC hE hP (k_9 hr) e_9 rfl u_5 4 (by decide) w_639 rfl rfl dX5_freeze_95 ?_
      refine lv_iload_n hx hb dX5_freeze_98 rfl (lv_at hl 0 rfl) ?_
      refine lv_aload_n hx hb dX5_freeze_99 rfl (lv_at hl 2 rfl) ?_
      refine m_get hC hE hP (k_9 hr) e_9 rfl u_5 1 (by decide) w_633 rfl rfl dX5_freeze_100 ?_
      refine m_top (y := iceN v) (fzA_ice) ?_
      refine lv_iconst (v := 5) hx hb dX5_freeze_103 (by decide) ?_
      refine lv_icmp_ge (tgt := 111) hx hb dX5_freeze_104 (by decide) (fun c1 => ?_) (fun c1 => ?_)
      · refine lv_aload_n hx hb dX5_freeze_111 rfl (lv_at hl 2 rfl) ?_
        refine m_get hC hE hP (k_9 hr) e_9 rfl u_5 4 (by decide) w_639 rfl rfl dX5_freeze_112 ?_
        refine lv_iload_n hx hb dX5_freeze_115 rfl (lv_at hl 0 rfl) ?_
        refine m_iald hC hE hP (k_4p hr rfl) e_4 i (rfl) (show i < 8 from by omega) (by decide) dX5_freeze_116 ?_
        refine m_iast hC hE hI hP hS (k_4p hr rfl) e_4 i (rfl) (show i < 8 from by omega) (by decide) p_4 (ent_put g M r (fzA v i) o 8 i ((fzA v i) 8 i) (kf_4m hr (by decide))) dX5_freeze_117 (fun H locs hP hS => ?_)
        refine lv_iinc (v := nI (i + 1)) (lv' := [(2, .int (nI (i + 1))), (1, .int (frostN v)), (0, .ref (ad g (9, r, 0)))]) hx hb dX5_freeze_118 hl (k := 0) rfl (nI_1 _) (by decide) rfl (fun ls hl => ?_)
        refine lv_goto (tgt := 83) hx hb dX5_freeze_121 (by decide) ?_
        exact IH H locs ls (hP.castR (congrArg (fun z => up2 (fzA v i) 8 i z) (if_neg (Int32.not_lt.mpr c1)))) hS (lv_sub hl [0, 1, 2] rfl) (trivial)
      · refine lv_iconst (v := (-1)) hx hb dX5_freeze_107 (by decide) ?_
        refine lv_goto (tgt := 117) hx hb dX5_freeze_108 (by decide) ?_
        refine m_iast hC hE hI hP hS (k_4p hr rfl) e_4 i (rfl) (show i < 8 from by omega) (by decide) p_4 (ent_put g M r (fzA v i) o 8 i (-1 : Int32) (kf_4m hr (by decide))) dX5_freeze_117 (fun H locs hP hS => ?_)
        refine lv_iinc (v := nI (i + 1)) (lv' := [(2, .int (nI (i + 1))), (1, .int (frostN v)), (0, .ref (ad g (9, r, 0)))]) hx hb dX5_freeze_118 hl (k := 0) rfl (nI_1 _) (by decide) rfl (fun ls hl => ?_)
        refine lv_goto (tgt := 83) hx hb dX5_freeze_121 (by decide) ?_
        exact IH H locs ls (hP.castR (congrArg (fun z => up2 (fzA v i) 8 i z) (if_pos (Int32.not_le.mp c1)))) hS (lv_sub hl [0, 1, 2] rfl) (trivial)
  · have hs1 : Sh M r (fzH v i) := hsh.fzH i
    have hi1 : Inv (fzH v i) := fzH_inv hv i
    refine lv_iload_n hx hb dX5_freeze_37 rfl (lv_at hl 0 rfl) ?_
    refine lv_aload_n hx hb dX5_freeze_38 rfl (lv_at hl 2 rfl) ?_
    refine m_get hC hE hP (k_9 hr) e_9 rfl u_5 11 (by decide) w_653 rfl rfl dX5_freeze_39 ?_
    refine m_getN hC hE hP k_10 f_10 rfl u_6 3 (by decide) n_685 rfl rfl dX5_freeze_42 ?_
    refine m_top (y := (fzH v i) 16 0) (hs1 _ _ rfl) ?_
    refine m_top (y := nI (nH v)) ((fzH_16 (by decide)).trans hv.eH) ?_
    refine lv_icmp_ge (tgt := 81) hx hb dX5_freeze_45 (by decide) (fun c4 => absurd c4 (nI_ge hi (by omega))) (fun c4 => ?_)
    refine lv_aload_n hx hb dX5_freeze_48 rfl (lv_at hl 2 rfl) ?_
    refine m_get hC hE hP (k_9 hr) e_9 rfl u_5 1 (by decide) w_633 rfl rfl dX5_freeze_49 ?_
    refine m_top (y := iceN v) (fzH_ice) ?_
    refine lv_iconst (v := 5) hx hb dX5_freeze_52 (by decide) ?_
    refine lv_icmp_lt (tgt := 68) hx hb dX5_freeze_53 (by decide) (fun c1 => ?_) (fun c1 => ?_)
    · refine lv_aload_n hx hb dX5_freeze_68 rfl (lv_at hl 2 rfl) ?_
      refine m_get hC hE hP (k_9 hr) e_9 rfl u_5 3 (by decide) w_637 rfl rfl dX5_freeze_69 ?_
      refine lv_iload_n hx hb dX5_freeze_72 rfl (lv_at hl 0 rfl) ?_
      refine lv_iconst (v := 0) hx hb dX5_freeze_73 (by decide) ?_
      refine m_iast hC hE hI hP hS (k_4p hr rfl) e_4 i (rfl) (show i < 12 from by omega) (by decide) p_4 (ent_put g M r (fzH v i) o 5 i (0 : Int32) (kf_4m hr (by decide))) dX5_freeze_74 (fun H locs hP hS => ?_)
      refine lv_iinc (v := nI (i + 1)) (lv' := [(2, .int (nI (i + 1))), (1, .int (frostN v)), (0, .ref (ad g (9, r, 0)))]) hx hb dX5_freeze_75 hl (k := 0) rfl (nI_1 _) (by decide) rfl (fun ls hl => ?_)
      refine lv_goto (tgt := 37) hx hb dX5_freeze_78 (by decide) ?_
      exact IH H locs ls (hP.castR (if_pos (Or.inl c1))) hS (lv_sub hl [0, 1, 2] rfl) (trivial)
    · refine lv_iload_n hx hb dX5_freeze_56 rfl (lv_at hl 1 rfl) ?_
      refine lv_if_le (tgt := 75) hx hb dX5_freeze_57 (by decide) (fun c2 => ?_) (fun c2 => ?_)
      · refine lv_iinc (v := nI (i + 1)) (lv' := [(2, .int (nI (i + 1))), (1, .int (frostN v)), (0, .ref (ad g (9, r, 0)))]) hx hb dX5_freeze_75 hl (k := 0) rfl (nI_1 _) (by decide) rfl (fun ls hl => ?_)
        refine lv_goto (tgt := 37) hx hb dX5_freeze_78 (by decide) ?_
        exact IH H locs ls (hP.castR (if_neg (fun q => q.elim c1 (fun q => Int32.not_lt.mpr c2 q.1)))) hS (lv_sub hl [0, 1, 2] rfl) (trivial)
      · refine lv_aload_n hx hb dX5_freeze_60 rfl (lv_at hl 2 rfl) ?_
        refine lv_iload_n hx hb dX5_freeze_61 rfl (lv_at hl 0 rfl) ?_
        refine on_i (run_V hC hE hP hS (As := [.int (nI i)]) (c_spearersAtM l hI hr (hs1) hi1 (nI i)) cal_X5_spearersAt w_893 ⟨Nat.le_of_ble_eq_true rfl, Nat.le_of_ble_eq_true rfl⟩ (k_9 hr) e_9 rfl rfl rfl (Nat.le_of_ble_eq_true rfl) hl.1 ⟨Nat.le_of_ble_eq_true rfl, Nat.le_of_ble_eq_true rfl⟩ dX5_freeze_62) hS (fun H locs hP hS => ?_)
        refine m_top (y := spAt v (nI i)) (spAt_fzH) ?_
        refine lv_if_ne (tgt := 75) hx hb dX5_freeze_65 (by decide) (fun c3 => ?_) (fun c3 => ?_)
        · refine lv_iinc (v := nI (i + 1)) (lv' := [(2, .int (nI (i + 1))), (1, .int (frostN v)), (0, .ref (ad g (9, r, 0)))]) hx hb dX5_freeze_75 hl (k := 0) rfl (nI_1 _) (by decide) rfl (fun ls hl => ?_)
          refine lv_goto (tgt := 37) hx hb dX5_freeze_78 (by decide) ?_
          exact IH H locs ls (hP.castR (if_neg (fun q => q.elim c1 (fun q => c3 q.2)))) hS (lv_sub hl [0, 1, 2] rfl) (trivial)
        · refine lv_aload_n hx hb dX5_freeze_68 rfl (lv_at hl 2 rfl) ?_
          refine m_get hC hE hP (k_9 hr) e_9 rfl u_5 3 (by decide) w_637 rfl rfl dX5_freeze_69 ?_
          refine lv_iload_n hx hb dX5_freeze_72 rfl (lv_at hl 0 rfl) ?_
          refine lv_iconst (v := 0) hx hb dX5_freeze_73 (by decide) ?_
          refine m_iast hC hE hI hP hS (k_4p hr rfl) e_4 i (rfl) (show i < 12 from by omega) (by decide) p_4 (ent_put g M r (fzH v i) o 5 i (0 : Int32) (kf_4m hr (by decide))) dX5_freeze_74 (fun H locs hP hS => ?_)
          refine lv_iinc (v := nI (i + 1)) (lv' := [(2, .int (nI (i + 1))), (1, .int (frostN v)), (0, .ref (ad g (9, r, 0)))]) hx hb dX5_freeze_75 hl (k := 0) rfl (nI_1 _) (by decide) rfl (fun ls hl => ?_)
          refine lv_goto (tgt := 37) hx hb dX5_freeze_78 (by decide) ?_
          exact IH H locs ls (hP.castR (if_pos (Or.inr ⟨Int32.not_le.mp c2, c3⟩))) hS (lv_sub hl [0, 1, 2] rfl) (trivial)
set_option maxHeartbeats 4000000 in
set_option maxRecDepth 100000 in
theorem c_sum0 (l : Launch) {g : Gm} (hI : IJ g KK) {M : Mem} {o : Nat → Int64} {r : Nat} (hr : r = 2 ∨ r = 3) {v : Vw} (n : Nat) (hn9 : n ≤ alen 0) : MI l yX5_sum cX5_sum 5 .int (rm 0 0) g KK (ent g (setR M r v) o) [.ref (ad g (9, r, 0)), .ref (ad g (4, r, 0)), .int (nI n)] (sumI (v 0) n) (ent g (setR M r v) o) := by
  refine met_of (by decide +kernel) (Nat.le_of_ble_eq_true rfl) ?_
  intro p e s m below meth c ls hC hr_ hlk hnm hE hP hS hl
  obtain ⟨hx, hb, hml, hown, hG⟩ := id hC
  have hl : lv_has ls 5 [(0, .ref (ad g (9, r, 0))), (1, .ref (ad g (4, r, 0))), (2, .int (nI n))] := hl
  have hn8 : n ≤ 81 := hn9
  refine lv_iconst (v := 0) hx hb dX5_sum_0 (by decide) ?_
  refine lv_istore_n (lv' := [(3, .int ((0 : Int32))), (0, .ref (ad g (9, r, 0))), (1, .ref (ad g (4, r, 0))), (2, .int (nI n))]) hx hb dX5_sum_1 rfl hl (by decide) rfl (fun ls hl => ?_)
  refine lv_iconst (v := 0) hx hb dX5_sum_2 (by decide) ?_
  refine lv_istore (lv' := [(4, .int ((0 : Int32))), (3, .int ((0 : Int32))), (0, .ref (ad g (9, r, 0))), (1, .ref (ad g (4, r, 0))), (2, .int (nI n))]) hx hb dX5_sum_3 hl (by decide) rfl (fun ls hl => ?_)
  refine lp_W (i0 := 0) n (fun i => ent g (setR M r v) o) (fun i => [(4, .int (nI i)), (3, .int (sumI (v 0) i)), (0, .ref (ad g (9, r, 0))), (1, .ref (ad g (4, r, 0))), (2, .int (nI n))]) (fun i => True) (Nat.zero_le _) (hP.castR (rfl)) hS (lv_sub hl [0, 1, 2, 3, 4] rfl) (trivial) (fun H locs ls hP hS hl J => ?_) (fun i hi IH H locs ls hP hS hl J => ?_)
  · refine lv_iload hx hb dX5_sum_5 (lv_at hl 0 rfl) ?_
    refine lv_iload_n hx hb dX5_sum_7 rfl (lv_at hl 4 rfl) ?_
    refine lv_icmp_ge (tgt := 24) hx hb dX5_sum_8 (by decide) (fun c1 => ?_) (fun c1 => absurd (nI_le (Nat.le_refl _) (by omega)) c1)
    refine lv_iload_n hx hb dX5_sum_24 rfl (lv_at hl 1 rfl) ?_
    exact m_iret hC hr_ hlk hS (hP.castR (rfl)) rfl (rfl) dX5_sum_25
  · refine lv_iload hx hb dX5_sum_5 (lv_at hl 0 rfl) ?_
    refine lv_iload_n hx hb dX5_sum_7 rfl (lv_at hl 4 rfl) ?_
    refine lv_icmp_ge (tgt := 24) hx hb dX5_sum_8 (by decide) (fun c2 => absurd c2 (nI_ge hi (by omega))) (fun c2 => ?_)
    refine lv_iload_n hx hb dX5_sum_11 rfl (lv_at hl 1 rfl) ?_
    refine lv_aload_n hx hb dX5_sum_12 rfl (lv_at hl 3 rfl) ?_
    refine lv_iload hx hb dX5_sum_13 (lv_at hl 0 rfl) ?_
    refine m_iald hC hE hP (k_4p hr rfl) e_4 i (rfl) (show i < 81 from by omega) (by decide) dX5_sum_15 ?_
    refine lv_iadd hx hb dX5_sum_16 ?_
    refine lv_istore_n (lv' := [(3, .int ((sumI (v 0) i) + (v 0 i))), (4, .int (nI i)), (0, .ref (ad g (9, r, 0))), (1, .ref (ad g (4, r, 0))), (2, .int (nI n))]) hx hb dX5_sum_17 rfl hl (by decide) rfl (fun ls hl => ?_)
    refine lv_iinc (v := nI (i + 1)) (lv' := [(4, .int (nI (i + 1))), (3, .int ((sumI (v 0) i) + (v 0 i))), (0, .ref (ad g (9, r, 0))), (1, .ref (ad g (4, r, 0))), (2, .int (nI n))]) hx hb dX5_sum_18 hl (k := 1) rfl (nI_1 _) (by decide) rfl (fun ls hl => ?_)
    refine lv_goto (tgt := 5) hx hb dX5_sum_21 (by decide) ?_
    exact IH H locs ls (hP.castR (rfl)) hS (lv_sub hl [0, 1, 2, 3, 4] rfl) (trivial)
set_option maxHeartbeats 4000000 in
set_option maxRecDepth 100000 in
theorem c_sum5 (l : Launch) {g : Gm} (hI : IJ g KK) {M : Mem} {o : Nat → Int64} {r : Nat} (hr : r = 2 ∨ r = 3) {v : Vw} (n : Nat) (hn9 : n ≤ alen 5) : MI l yX5_sum cX5_sum 5 .int (rm 0 0) g KK (ent g (setR M r v) o) [.ref (ad g (9, r, 0)), .ref (ad g (4, r, 5)), .int (nI n)] (sumI (v 5) n) (ent g (setR M r v) o) := by
  refine met_of (by decide +kernel) (Nat.le_of_ble_eq_true rfl) ?_
  intro p e s m below meth c ls hC hr_ hlk hnm hE hP hS hl
  obtain ⟨hx, hb, hml, hown, hG⟩ := id hC
  have hl : lv_has ls 5 [(0, .ref (ad g (9, r, 0))), (1, .ref (ad g (4, r, 5))), (2, .int (nI n))] := hl
  have hn8 : n ≤ 12 := hn9
  refine lv_iconst (v := 0) hx hb dX5_sum_0 (by decide) ?_
  refine lv_istore_n (lv' := [(3, .int ((0 : Int32))), (0, .ref (ad g (9, r, 0))), (1, .ref (ad g (4, r, 5))), (2, .int (nI n))]) hx hb dX5_sum_1 rfl hl (by decide) rfl (fun ls hl => ?_)
  refine lv_iconst (v := 0) hx hb dX5_sum_2 (by decide) ?_
  refine lv_istore (lv' := [(4, .int ((0 : Int32))), (3, .int ((0 : Int32))), (0, .ref (ad g (9, r, 0))), (1, .ref (ad g (4, r, 5))), (2, .int (nI n))]) hx hb dX5_sum_3 hl (by decide) rfl (fun ls hl => ?_)
  refine lp_W (i0 := 0) n (fun i => ent g (setR M r v) o) (fun i => [(4, .int (nI i)), (3, .int (sumI (v 5) i)), (0, .ref (ad g (9, r, 0))), (1, .ref (ad g (4, r, 5))), (2, .int (nI n))]) (fun i => True) (Nat.zero_le _) (hP.castR (rfl)) hS (lv_sub hl [0, 1, 2, 3, 4] rfl) (trivial) (fun H locs ls hP hS hl J => ?_) (fun i hi IH H locs ls hP hS hl J => ?_)
  · refine lv_iload hx hb dX5_sum_5 (lv_at hl 0 rfl) ?_
    refine lv_iload_n hx hb dX5_sum_7 rfl (lv_at hl 4 rfl) ?_
    refine lv_icmp_ge (tgt := 24) hx hb dX5_sum_8 (by decide) (fun c1 => ?_) (fun c1 => absurd (nI_le (Nat.le_refl _) (by omega)) c1)
    refine lv_iload_n hx hb dX5_sum_24 rfl (lv_at hl 1 rfl) ?_
    exact m_iret hC hr_ hlk hS (hP.castR (rfl)) rfl (rfl) dX5_sum_25
  · refine lv_iload hx hb dX5_sum_5 (lv_at hl 0 rfl) ?_
    refine lv_iload_n hx hb dX5_sum_7 rfl (lv_at hl 4 rfl) ?_
    refine lv_icmp_ge (tgt := 24) hx hb dX5_sum_8 (by decide) (fun c2 => absurd c2 (nI_ge hi (by omega))) (fun c2 => ?_)
    refine lv_iload_n hx hb dX5_sum_11 rfl (lv_at hl 1 rfl) ?_
    refine lv_aload_n hx hb dX5_sum_12 rfl (lv_at hl 3 rfl) ?_
    refine lv_iload hx hb dX5_sum_13 (lv_at hl 0 rfl) ?_
    refine m_iald hC hE hP (k_4p hr rfl) e_4 i (rfl) (show i < 12 from by omega) (by decide) dX5_sum_15 ?_
    refine lv_iadd hx hb dX5_sum_16 ?_
    refine lv_istore_n (lv' := [(3, .int ((sumI (v 5) i) + (v 5 i))), (4, .int (nI i)), (0, .ref (ad g (9, r, 0))), (1, .ref (ad g (4, r, 5))), (2, .int (nI n))]) hx hb dX5_sum_17 rfl hl (by decide) rfl (fun ls hl => ?_)
    refine lv_iinc (v := nI (i + 1)) (lv' := [(4, .int (nI (i + 1))), (3, .int ((sumI (v 5) i) + (v 5 i))), (0, .ref (ad g (9, r, 0))), (1, .ref (ad g (4, r, 5))), (2, .int (nI n))]) hx hb dX5_sum_18 hl (k := 1) rfl (nI_1 _) (by decide) rfl (fun ls hl => ?_)
    refine lv_goto (tgt := 5) hx hb dX5_sum_21 (by decide) ?_
    exact IH H locs ls (hP.castR (rfl)) hS (lv_sub hl [0, 1, 2, 3, 4] rfl) (trivial)
set_option maxHeartbeats 4000000 in
set_option maxRecDepth 100000 in
theorem c_sum9 (l : Launch) {g : Gm} (hI : IJ g KK) {M : Mem} {o : Nat → Int64} {r : Nat} (hr : r = 2 ∨ r = 3) {v : Vw} (n : Nat) (hn9 : n ≤ alen 9) : MI l yX5_sum cX5_sum 5 .int (rm 0 0) g KK (ent g (setR M r v) o) [.ref (ad g (9, r, 0)), .ref (ad g (4, r, 9)), .int (nI n)] (sumI (v 9) n) (ent g (setR M r v) o) := by
  refine met_of (by decide +kernel) (Nat.le_of_ble_eq_true rfl) ?_
  intro p e s m below meth c ls hC hr_ hlk hnm hE hP hS hl
  obtain ⟨hx, hb, hml, hown, hG⟩ := id hC
  have hl : lv_has ls 5 [(0, .ref (ad g (9, r, 0))), (1, .ref (ad g (4, r, 9))), (2, .int (nI n))] := hl
  have hn8 : n ≤ 8 := hn9
  refine lv_iconst (v := 0) hx hb dX5_sum_0 (by decide) ?_
  refine lv_istore_n (lv' := [(3, .int ((0 : Int32))), (0, .ref (ad g (9, r, 0))), (1, .ref (ad g (4, r, 9))), (2, .int (nI n))]) hx hb dX5_sum_1 rfl hl (by decide) rfl (fun ls hl => ?_)
  refine lv_iconst (v := 0) hx hb dX5_sum_2 (by decide) ?_
  refine lv_istore (lv' := [(4, .int ((0 : Int32))), (3, .int ((0 : Int32))), (0, .ref (ad g (9, r, 0))), (1, .ref (ad g (4, r, 9))), (2, .int (nI n))]) hx hb dX5_sum_3 hl (by decide) rfl (fun ls hl => ?_)
  refine lp_W (i0 := 0) n (fun i => ent g (setR M r v) o) (fun i => [(4, .int (nI i)), (3, .int (sumI (v 9) i)), (0, .ref (ad g (9, r, 0))), (1, .ref (ad g (4, r, 9))), (2, .int (nI n))]) (fun i => True) (Nat.zero_le _) (hP.castR (rfl)) hS (lv_sub hl [0, 1, 2, 3, 4] rfl) (trivial) (fun H locs ls hP hS hl J => ?_) (fun i hi IH H locs ls hP hS hl J => ?_)
  · refine lv_iload hx hb dX5_sum_5 (lv_at hl 0 rfl) ?_
    refine lv_iload_n hx hb dX5_sum_7 rfl (lv_at hl 4 rfl) ?_
    refine lv_icmp_ge (tgt := 24) hx hb dX5_sum_8 (by decide) (fun c1 => ?_) (fun c1 => absurd (nI_le (Nat.le_refl _) (by omega)) c1)
    refine lv_iload_n hx hb dX5_sum_24 rfl (lv_at hl 1 rfl) ?_
    exact m_iret hC hr_ hlk hS (hP.castR (rfl)) rfl (rfl) dX5_sum_25
  · refine lv_iload hx hb dX5_sum_5 (lv_at hl 0 rfl) ?_
    refine lv_iload_n hx hb dX5_sum_7 rfl (lv_at hl 4 rfl) ?_
    refine lv_icmp_ge (tgt := 24) hx hb dX5_sum_8 (by decide) (fun c2 => absurd c2 (nI_ge hi (by omega))) (fun c2 => ?_)
    refine lv_iload_n hx hb dX5_sum_11 rfl (lv_at hl 1 rfl) ?_
    refine lv_aload_n hx hb dX5_sum_12 rfl (lv_at hl 3 rfl) ?_
    refine lv_iload hx hb dX5_sum_13 (lv_at hl 0 rfl) ?_
    refine m_iald hC hE hP (k_4p hr rfl) e_4 i (rfl) (show i < 8 from by omega) (by decide) dX5_sum_15 ?_
    refine lv_iadd hx hb dX5_sum_16 ?_
    refine lv_istore_n (lv' := [(3, .int ((sumI (v 9) i) + (v 9 i))), (4, .int (nI i)), (0, .ref (ad g (9, r, 0))), (1, .ref (ad g (4, r, 9))), (2, .int (nI n))]) hx hb dX5_sum_17 rfl hl (by decide) rfl (fun ls hl => ?_)
    refine lv_iinc (v := nI (i + 1)) (lv' := [(4, .int (nI (i + 1))), (3, .int ((sumI (v 9) i) + (v 9 i))), (0, .ref (ad g (9, r, 0))), (1, .ref (ad g (4, r, 9))), (2, .int (nI n))]) hx hb dX5_sum_18 hl (k := 1) rfl (nI_1 _) (by decide) rfl (fun ls hl => ?_)
    refine lv_goto (tgt := 5) hx hb dX5_sum_21 (by decide) ?_
    exact IH H locs ls (hP.castR (rfl)) hS (lv_sub hl [0, 1, 2, 3, 4] rfl) (trivial)
set_option maxHeartbeats 4000000 in
set_option maxRecDepth 100000 in
theorem c_sum10 (l : Launch) {g : Gm} (hI : IJ g KK) {M : Mem} {o : Nat → Int64} {r : Nat} (hr : r = 2 ∨ r = 3) {v : Vw} (n : Nat) (hn9 : n ≤ alen 10) : MI l yX5_sum cX5_sum 5 .int (rm 0 0) g KK (ent g (setR M r v) o) [.ref (ad g (9, r, 0)), .ref (ad g (4, r, 10)), .int (nI n)] (sumI (v 10) n) (ent g (setR M r v) o) := by
  refine met_of (by decide +kernel) (Nat.le_of_ble_eq_true rfl) ?_
  intro p e s m below meth c ls hC hr_ hlk hnm hE hP hS hl
  obtain ⟨hx, hb, hml, hown, hG⟩ := id hC
  have hl : lv_has ls 5 [(0, .ref (ad g (9, r, 0))), (1, .ref (ad g (4, r, 10))), (2, .int (nI n))] := hl
  have hn8 : n ≤ 8 := hn9
  refine lv_iconst (v := 0) hx hb dX5_sum_0 (by decide) ?_
  refine lv_istore_n (lv' := [(3, .int ((0 : Int32))), (0, .ref (ad g (9, r, 0))), (1, .ref (ad g (4, r, 10))), (2, .int (nI n))]) hx hb dX5_sum_1 rfl hl (by decide) rfl (fun ls hl => ?_)
  refine lv_iconst (v := 0) hx hb dX5_sum_2 (by decide) ?_
  refine lv_istore (lv' := [(4, .int ((0 : Int32))), (3, .int ((0 : Int32))), (0, .ref (ad g (9, r, 0))), (1, .ref (ad g (4, r, 10))), (2, .int (nI n))]) hx hb dX5_sum_3 hl (by decide) rfl (fun ls hl => ?_)
  refine lp_W (i0 := 0) n (fun i => ent g (setR M r v) o) (fun i => [(4, .int (nI i)), (3, .int (sumI (v 10) i)), (0, .ref (ad g (9, r, 0))), (1, .ref (ad g (4, r, 10))), (2, .int (nI n))]) (fun i => True) (Nat.zero_le _) (hP.castR (rfl)) hS (lv_sub hl [0, 1, 2, 3, 4] rfl) (trivial) (fun H locs ls hP hS hl J => ?_) (fun i hi IH H locs ls hP hS hl J => ?_)
  · refine lv_iload hx hb dX5_sum_5 (lv_at hl 0 rfl) ?_
    refine lv_iload_n hx hb dX5_sum_7 rfl (lv_at hl 4 rfl) ?_
    refine lv_icmp_ge (tgt := 24) hx hb dX5_sum_8 (by decide) (fun c1 => ?_) (fun c1 => absurd (nI_le (Nat.le_refl _) (by omega)) c1)
    refine lv_iload_n hx hb dX5_sum_24 rfl (lv_at hl 1 rfl) ?_
    exact m_iret hC hr_ hlk hS (hP.castR (rfl)) rfl (rfl) dX5_sum_25
  · refine lv_iload hx hb dX5_sum_5 (lv_at hl 0 rfl) ?_
    refine lv_iload_n hx hb dX5_sum_7 rfl (lv_at hl 4 rfl) ?_
    refine lv_icmp_ge (tgt := 24) hx hb dX5_sum_8 (by decide) (fun c2 => absurd c2 (nI_ge hi (by omega))) (fun c2 => ?_)
    refine lv_iload_n hx hb dX5_sum_11 rfl (lv_at hl 1 rfl) ?_
    refine lv_aload_n hx hb dX5_sum_12 rfl (lv_at hl 3 rfl) ?_
    refine lv_iload hx hb dX5_sum_13 (lv_at hl 0 rfl) ?_
    refine m_iald hC hE hP (k_4p hr rfl) e_4 i (rfl) (show i < 8 from by omega) (by decide) dX5_sum_15 ?_
    refine lv_iadd hx hb dX5_sum_16 ?_
    refine lv_istore_n (lv' := [(3, .int ((sumI (v 10) i) + (v 10 i))), (4, .int (nI i)), (0, .ref (ad g (9, r, 0))), (1, .ref (ad g (4, r, 10))), (2, .int (nI n))]) hx hb dX5_sum_17 rfl hl (by decide) rfl (fun ls hl => ?_)
    refine lv_iinc (v := nI (i + 1)) (lv' := [(4, .int (nI (i + 1))), (3, .int ((sumI (v 10) i) + (v 10 i))), (0, .ref (ad g (9, r, 0))), (1, .ref (ad g (4, r, 10))), (2, .int (nI n))]) hx hb dX5_sum_18 hl (k := 1) rfl (nI_1 _) (by decide) rfl (fun ls hl => ?_)
    refine lv_goto (tgt := 5) hx hb dX5_sum_21 (by decide) ?_
    exact IH H locs ls (hP.castR (rfl)) hS (lv_sub hl [0, 1, 2, 3, 4] rfl) (trivial)
set_option maxHeartbeats 4000000 in
set_option maxRecDepth 100000 in
theorem c_sum11 (l : Launch) {g : Gm} (hI : IJ g KK) {M : Mem} {o : Nat → Int64} {r : Nat} (hr : r = 2 ∨ r = 3) {v : Vw} (n : Nat) (hn9 : n ≤ alen 11) : MI l yX5_sum cX5_sum 5 .int (rm 0 0) g KK (ent g (setR M r v) o) [.ref (ad g (9, r, 0)), .ref (ad g (4, r, 11)), .int (nI n)] (sumI (v 11) n) (ent g (setR M r v) o) := by
  refine met_of (by decide +kernel) (Nat.le_of_ble_eq_true rfl) ?_
  intro p e s m below meth c ls hC hr_ hlk hnm hE hP hS hl
  obtain ⟨hx, hb, hml, hown, hG⟩ := id hC
  have hl : lv_has ls 5 [(0, .ref (ad g (9, r, 0))), (1, .ref (ad g (4, r, 11))), (2, .int (nI n))] := hl
  have hn8 : n ≤ 8 := hn9
  refine lv_iconst (v := 0) hx hb dX5_sum_0 (by decide) ?_
  refine lv_istore_n (lv' := [(3, .int ((0 : Int32))), (0, .ref (ad g (9, r, 0))), (1, .ref (ad g (4, r, 11))), (2, .int (nI n))]) hx hb dX5_sum_1 rfl hl (by decide) rfl (fun ls hl => ?_)
  refine lv_iconst (v := 0) hx hb dX5_sum_2 (by decide) ?_
  refine lv_istore (lv' := [(4, .int ((0 : Int32))), (3, .int ((0 : Int32))), (0, .ref (ad g (9, r, 0))), (1, .ref (ad g (4, r, 11))), (2, .int (nI n))]) hx hb dX5_sum_3 hl (by decide) rfl (fun ls hl => ?_)
  refine lp_W (i0 := 0) n (fun i => ent g (setR M r v) o) (fun i => [(4, .int (nI i)), (3, .int (sumI (v 11) i)), (0, .ref (ad g (9, r, 0))), (1, .ref (ad g (4, r, 11))), (2, .int (nI n))]) (fun i => True) (Nat.zero_le _) (hP.castR (rfl)) hS (lv_sub hl [0, 1, 2, 3, 4] rfl) (trivial) (fun H locs ls hP hS hl J => ?_) (fun i hi IH H locs ls hP hS hl J => ?_)
  · refine lv_iload hx hb dX5_sum_5 (lv_at hl 0 rfl) ?_
    refine lv_iload_n hx hb dX5_sum_7 rfl (lv_at hl 4 rfl) ?_
    refine lv_icmp_ge (tgt := 24) hx hb dX5_sum_8 (by decide) (fun c1 => ?_) (fun c1 => absurd (nI_le (Nat.le_refl _) (by omega)) c1)
    refine lv_iload_n hx hb dX5_sum_24 rfl (lv_at hl 1 rfl) ?_
    exact m_iret hC hr_ hlk hS (hP.castR (rfl)) rfl (rfl) dX5_sum_25
  · refine lv_iload hx hb dX5_sum_5 (lv_at hl 0 rfl) ?_
    refine lv_iload_n hx hb dX5_sum_7 rfl (lv_at hl 4 rfl) ?_
    refine lv_icmp_ge (tgt := 24) hx hb dX5_sum_8 (by decide) (fun c2 => absurd c2 (nI_ge hi (by omega))) (fun c2 => ?_)
    refine lv_iload_n hx hb dX5_sum_11 rfl (lv_at hl 1 rfl) ?_
    refine lv_aload_n hx hb dX5_sum_12 rfl (lv_at hl 3 rfl) ?_
    refine lv_iload hx hb dX5_sum_13 (lv_at hl 0 rfl) ?_
    refine m_iald hC hE hP (k_4p hr rfl) e_4 i (rfl) (show i < 8 from by omega) (by decide) dX5_sum_15 ?_
    refine lv_iadd hx hb dX5_sum_16 ?_
    refine lv_istore_n (lv' := [(3, .int ((sumI (v 11) i) + (v 11 i))), (4, .int (nI i)), (0, .ref (ad g (9, r, 0))), (1, .ref (ad g (4, r, 11))), (2, .int (nI n))]) hx hb dX5_sum_17 rfl hl (by decide) rfl (fun ls hl => ?_)
    refine lv_iinc (v := nI (i + 1)) (lv' := [(4, .int (nI (i + 1))), (3, .int ((sumI (v 11) i) + (v 11 i))), (0, .ref (ad g (9, r, 0))), (1, .ref (ad g (4, r, 11))), (2, .int (nI n))]) hx hb dX5_sum_18 hl (k := 1) rfl (nI_1 _) (by decide) rfl (fun ls hl => ?_)
    refine lv_goto (tgt := 5) hx hb dX5_sum_21 (by decide) ?_
    exact IH H locs ls (hP.castR (rfl)) hS (lv_sub hl [0, 1, 2, 3, 4] rfl) (trivial)
set_option maxHeartbeats 4000000 in
set_option maxRecDepth 100000 in
theorem c_countM (l : Launch) {g : Gm} (hI : IJ g KK) {M : Mem} {o : Nat → Int64} {r : Nat} (hr : r = 2 ∨ r = 3) {v : Vw} (hsh : Sh M r v) (hv : Inv v) (q : Int32) : MI l yX5_count cX5_count 2 .int (rm 1 24) g KK (ent g (setR M r v) o) [.ref (ad g (9, r, 0)), .int (q)] (factF v q) (ent g (setR M r v) o) := by
  refine met_of (by decide +kernel) (Nat.le_of_ble_eq_true rfl) ?_
  intro p e s m below meth c ls hC hr_ hlk hnm hE hP hS hl
  obtain ⟨hx, hb, hml, hown, hG⟩ := id hC
  have hl : lv_has ls 2 [(0, .ref (ad g (9, r, 0))), (1, .int (q))] := hl
  have qH := hv.lH
  have qS := hv.lS
  have qW := hv.lW
  refine lv_iload_n hx hb dX5_count_0 rfl (lv_at hl 1 rfl) ?_
  rcases sw_8 q with e0 | e0 | e0 | e0 | e0 | e0 | e0 | e0 | ⟨d0, d1, d2, d3, d4, d5, d6, d7, e0⟩
  · refine lv_tableIn (off := 47) (tgt := 48) hx hb dX5_count_1 (by rw [e0]; decide) (by rw [e0]; decide) (by rw [e0]; decide) (by decide) ?_
    refine lv_aload_n hx hb dX5_count_48 rfl (lv_at hl 0 rfl) ?_
    refine m_get hC hE hP (k_9 hr) e_9 rfl u_5 0 (by decide) w_631 rfl rfl dX5_count_49 ?_
    exact m_iret hC hr_ hlk hS (hP.castR (rfl)) rfl (by unfold factF; rw [e0]; rfl) dX5_count_52
  · refine lv_tableIn (off := 52) (tgt := 53) hx hb dX5_count_1 (by rw [e0]; decide) (by rw [e0]; decide) (by rw [e0]; decide) (by decide) ?_
    refine lv_aload_n hx hb dX5_count_53 rfl (lv_at hl 0 rfl) ?_
    refine m_get hC hE hP (k_9 hr) e_9 rfl u_5 1 (by decide) w_633 rfl rfl dX5_count_54 ?_
    exact m_iret hC hr_ hlk hS (hP.castR (rfl)) rfl (by unfold factF; rw [e0]; rfl) dX5_count_57
  · refine lv_tableIn (off := 57) (tgt := 58) hx hb dX5_count_1 (by rw [e0]; decide) (by rw [e0]; decide) (by rw [e0]; decide) (by decide) ?_
    refine lv_aload_n hx hb dX5_count_58 rfl (lv_at hl 0 rfl) ?_
    refine m_get hC hE hP (k_9 hr) e_9 rfl u_5 1 (by decide) w_633 rfl rfl dX5_count_59 ?_
    refine lv_iconst (v := 5) hx hb dX5_count_62 (by decide) ?_
    refine lv_icmp_ge (tgt := 70) hx hb dX5_count_63 (by decide) (fun c1 => ?_) (fun c1 => ?_)
    · refine lv_iconst (v := 1) hx hb dX5_count_70 (by decide) ?_
      exact m_iret hC hr_ hlk hS (hP.castR (rfl)) rfl (by first | (unfold factF; rw [e0]; show _ = b2i (bear (v 16 3)); rw [not_bear, if_neg (Int32.not_lt.mpr c1)]) | (unfold factF; rw [e0]; show _ = b2i (bear (v 16 3)); rw [not_bear, if_pos (Int32.not_le.mp c1)])) dX5_count_71
    · refine lv_iconst (v := 0) hx hb dX5_count_66 (by decide) ?_
      refine lv_goto (tgt := 71) hx hb dX5_count_67 (by decide) ?_
      exact m_iret hC hr_ hlk hS (hP.castR (rfl)) rfl (by first | (unfold factF; rw [e0]; show _ = b2i (bear (v 16 3)); rw [not_bear, if_neg (Int32.not_lt.mpr c1)]) | (unfold factF; rw [e0]; show _ = b2i (bear (v 16 3)); rw [not_bear, if_pos (Int32.not_le.mp c1)])) dX5_count_71
  · refine lv_tableIn (off := 71) (tgt := 72) hx hb dX5_count_1 (by rw [e0]; decide) (by rw [e0]; decide) (by rw [e0]; decide) (by decide) ?_
    refine lv_aload_n hx hb dX5_count_72 rfl (lv_at hl 0 rfl) ?_
    refine lv_aload_n hx hb dX5_count_73 rfl (lv_at hl 0 rfl) ?_
    refine m_get hC hE hP (k_9 hr) e_9 rfl u_5 2 (by decide) w_635 rfl rfl dX5_count_74 ?_
    refine lv_bipush (v := 81) hx hb dX5_count_77 (by decide) ?_
    refine on_i (run_V hC hE hP hS (As := [.ref (ad g (4, r, 0)), .int ((81 : Int32))]) (c_sum0 l hI hr (v := v) 81 (show 81 ≤ 81 from by omega)) cal_X5_sum w_846 ⟨Nat.le_of_ble_eq_true rfl, Nat.le_of_ble_eq_true rfl⟩ (k_9 hr) e_9 rfl rfl rfl (Nat.le_of_ble_eq_true rfl) hl.1 ⟨Nat.le_of_ble_eq_true rfl, Nat.le_of_ble_eq_true rfl⟩ dX5_count_79) hS (fun H locs hP hS => ?_)
    exact m_iret hC hr_ hlk hS (hP.castR (rfl)) rfl (by unfold factF; rw [e0]; rfl) dX5_count_82
  · refine lv_tableIn (off := 82) (tgt := 83) hx hb dX5_count_1 (by rw [e0]; decide) (by rw [e0]; decide) (by rw [e0]; decide) (by decide) ?_
    refine lv_aload_n hx hb dX5_count_83 rfl (lv_at hl 0 rfl) ?_
    refine m_get hC hE hP (k_9 hr) e_9 rfl u_5 11 (by decide) w_653 rfl rfl dX5_count_84 ?_
    refine m_getN hC hE hP k_10 f_10 rfl u_6 3 (by decide) n_685 rfl rfl dX5_count_87 ?_
    refine m_top (y := v 16 0) (hsh _ _ rfl) ?_
    exact m_iret hC hr_ hlk hS (hP.castR (rfl)) rfl (by unfold factF; rw [e0]; rfl) dX5_count_90
  · refine lv_tableIn (off := 90) (tgt := 91) hx hb dX5_count_1 (by rw [e0]; decide) (by rw [e0]; decide) (by rw [e0]; decide) (by decide) ?_
    refine lv_aload_n hx hb dX5_count_91 rfl (lv_at hl 0 rfl) ?_
    refine lv_aload_n hx hb dX5_count_92 rfl (lv_at hl 0 rfl) ?_
    refine m_get hC hE hP (k_9 hr) e_9 rfl u_5 3 (by decide) w_637 rfl rfl dX5_count_93 ?_
    refine lv_aload_n hx hb dX5_count_96 rfl (lv_at hl 0 rfl) ?_
    refine m_get hC hE hP (k_9 hr) e_9 rfl u_5 11 (by decide) w_653 rfl rfl dX5_count_97 ?_
    refine m_getN hC hE hP k_10 f_10 rfl u_6 3 (by decide) n_685 rfl rfl dX5_count_100 ?_
    refine m_top (y := v 16 0) (hsh _ _ rfl) ?_
    refine m_top (y := nI (nH v)) (hv.eH) ?_
    refine on_i (run_V hC hE hP hS (As := [.ref (ad g (4, r, 5)), .int (nI (nH v))]) (c_sum5 l hI hr (v := v) (nH v) (show (nH v) ≤ 12 from by omega)) cal_X5_sum w_846 ⟨Nat.le_of_ble_eq_true rfl, Nat.le_of_ble_eq_true rfl⟩ (k_9 hr) e_9 rfl rfl rfl (Nat.le_of_ble_eq_true rfl) hl.1 ⟨Nat.le_of_ble_eq_true rfl, Nat.le_of_ble_eq_true rfl⟩ dX5_count_103) hS (fun H locs hP hS => ?_)
    exact m_iret hC hr_ hlk hS (hP.castR (rfl)) rfl (by unfold factF; rw [e0]; rfl) dX5_count_106
  · refine lv_tableIn (off := 106) (tgt := 107) hx hb dX5_count_1 (by rw [e0]; decide) (by rw [e0]; decide) (by rw [e0]; decide) (by decide) ?_
    refine lv_aload_n hx hb dX5_count_107 rfl (lv_at hl 0 rfl) ?_
    refine m_get hC hE hP (k_9 hr) e_9 rfl u_5 11 (by decide) w_653 rfl rfl dX5_count_108 ?_
    refine m_getN hC hE hP k_10 f_10 rfl u_6 6 (by decide) n_690 rfl rfl dX5_count_111 ?_
    refine m_top (y := v 16 1) (hsh _ _ rfl) ?_
    exact m_iret hC hr_ hlk hS (hP.castR (rfl)) rfl (by unfold factF; rw [e0]; rfl) dX5_count_114
  · refine lv_tableIn (off := 114) (tgt := 115) hx hb dX5_count_1 (by rw [e0]; decide) (by rw [e0]; decide) (by rw [e0]; decide) (by decide) ?_
    refine lv_aload_n hx hb dX5_count_115 rfl (lv_at hl 0 rfl) ?_
    refine lv_aload_n hx hb dX5_count_116 rfl (lv_at hl 0 rfl) ?_
    refine m_get hC hE hP (k_9 hr) e_9 rfl u_5 6 (by decide) w_643 rfl rfl dX5_count_117 ?_
    refine lv_aload_n hx hb dX5_count_120 rfl (lv_at hl 0 rfl) ?_
    refine m_get hC hE hP (k_9 hr) e_9 rfl u_5 11 (by decide) w_653 rfl rfl dX5_count_121 ?_
    refine m_getN hC hE hP k_10 f_10 rfl u_6 6 (by decide) n_690 rfl rfl dX5_count_124 ?_
    refine m_top (y := v 16 1) (hsh _ _ rfl) ?_
    refine m_top (y := nI (nS v)) (hv.eS) ?_
    refine on_i (run_V hC hE hP hS (As := [.ref (ad g (4, r, 10)), .int (nI (nS v))]) (c_sum10 l hI hr (v := v) (nS v) (show (nS v) ≤ 8 from by omega)) cal_X5_sum w_846 ⟨Nat.le_of_ble_eq_true rfl, Nat.le_of_ble_eq_true rfl⟩ (k_9 hr) e_9 rfl rfl rfl (Nat.le_of_ble_eq_true rfl) hl.1 ⟨Nat.le_of_ble_eq_true rfl, Nat.le_of_ble_eq_true rfl⟩ dX5_count_127) hS (fun H locs hP hS => ?_)
    exact m_iret hC hr_ hlk hS (hP.castR (rfl)) rfl (by unfold factF; rw [e0]; rfl) dX5_count_130
  · refine lv_tableOut (tgt := 131) hx hb dX5_count_1 (e0) (by decide) ?_
    refine lv_aload_n hx hb dX5_count_131 rfl (lv_at hl 0 rfl) ?_
    refine lv_aload_n hx hb dX5_count_132 rfl (lv_at hl 0 rfl) ?_
    refine m_get hC hE hP (k_9 hr) e_9 rfl u_5 7 (by decide) w_645 rfl rfl dX5_count_133 ?_
    refine lv_aload_n hx hb dX5_count_136 rfl (lv_at hl 0 rfl) ?_
    refine m_get hC hE hP (k_9 hr) e_9 rfl u_5 11 (by decide) w_653 rfl rfl dX5_count_137 ?_
    refine m_getN hC hE hP k_10 f_10 rfl u_6 6 (by decide) n_690 rfl rfl dX5_count_140 ?_
    refine m_top (y := v 16 1) (hsh _ _ rfl) ?_
    refine m_top (y := nI (nS v)) (hv.eS) ?_
    refine on_i (run_V hC hE hP hS (As := [.ref (ad g (4, r, 11)), .int (nI (nS v))]) (c_sum11 l hI hr (v := v) (nS v) (show (nS v) ≤ 8 from by omega)) cal_X5_sum w_846 ⟨Nat.le_of_ble_eq_true rfl, Nat.le_of_ble_eq_true rfl⟩ (k_9 hr) e_9 rfl rfl rfl (Nat.le_of_ble_eq_true rfl) hl.1 ⟨Nat.le_of_ble_eq_true rfl, Nat.le_of_ble_eq_true rfl⟩ dX5_count_143) hS (fun H locs hP hS => ?_)
    exact m_iret hC hr_ hlk hS (hP.castR (rfl)) rfl (by unfold factF; rw [if_neg d0, if_neg d1, if_neg d2, if_neg d3, if_neg d4, if_neg d5, if_neg d6, if_neg d7]) dX5_count_146
def cpC (c n : Nat) (s v : Vw) : Vw := fun c' j => if c' = c then va_cpy (s c) (v c) 0 0 n j else v c' j
theorem cpC_same (c n : Nat) (s v : Vw) : cpC c n s v c = va_cpy (s c) (v c) 0 0 n := by funext j; simp [cpC]
theorem cpC_ne {c n : Nat} {s v : Vw} {c' : Nat} (h : c' ≠ c) : cpC c n s v c' = v c' := by funext j; simp [cpC, h]
theorem p_cp {g : Gm} {M : Mem} {r q c : Nat} {v : Vw} {o : Nat → Int64} (hne : q ≠ r) : ent g (setR M r (cpC c (alen c) (M q) v)) o (4, r, c) = .inl (gC g 0, alen c, .inl (va_cpy (setR M r v q c) (v c) 0 0 (alen c))) := by
  rw [e_4, cpC_same, setR_ne _ _ hne]
theorem q_cp {g : Gm} {M : Mem} {r q c : Nat} {v : Vw} {o : Nat → Int64} (hr : r = 2 ∨ r = 3) (hc : c < 16) : ∀ j, KK j → j ≠ (4, r, c) → ent g (setR M r (cpC c (alen c) (M q) v)) o j = ent g (setR M r v) o j := by
  intro j hj hne
  refine ent_congr fun r' c' i' hd => ?_
  by_cases h : r' = r
  · subst h
    rw [setR_same, setR_same]
    by_cases h2 : c' = c
    · subst h2
      exact absurd ((dep_key hj hd).trans (kf_4m hr hc)) hne
    · rw [cpC_ne h2]
  · rw [setR_ne _ _ h, setR_ne _ _ h]
theorem kq {q : Nat} {c : Nat} (hq : q = 2 ∨ q = 3) (hc : pv c = true) : KK (4, q, c) := k_4p hq hc
set_option maxHeartbeats 4000000 in
set_option maxRecDepth 100000 in
theorem c_copy0 (l : Launch) {g : Gm} (hI : IJ g KK) {M : Mem} {o : Nat → Int64} {r q : Nat} (hr : r = 2 ∨ r = 3) (hq : q = 2 ∨ q = 3) (hne : q ≠ r) {v : Vw} : MV l yX5_copy cX5_copy 3 (rm 1 40) g KK (ent g (setR M r v) o) [.ref (ad g (9, r, 0)), .ref (ad g (4, q, 0)), .ref (ad g (4, r, 0))] (ent g (setR M r (cpC 0 (alen 0) (M q) v)) o) := by
  refine met_of (by decide +kernel) (Nat.le_of_ble_eq_true rfl) ?_
  intro p e s m below meth c ls hC hr_ hlk hnm hE hP hS hl
  obtain ⟨hx, hb, hml, hown, hG⟩ := id hC
  have hl : lv_has ls 3 [(0, .ref (ad g (9, r, 0))), (1, .ref (ad g (4, q, 0))), (2, .ref (ad g (4, r, 0)))] := hl
  refine lv_aload_n hx hb dX5_copy_0 rfl (lv_at hl 1 rfl) ?_
  refine lv_iconst (v := 0) hx hb dX5_copy_1 (by decide) ?_
  refine lv_aload_n hx hb dX5_copy_2 rfl (lv_at hl 2 rfl) ?_
  refine lv_iconst (v := 0) hx hb dX5_copy_3 (by decide) ?_
  refine lv_aload_n hx hb dX5_copy_4 rfl (lv_at hl 1 rfl) ?_
  refine m_alen hC hE hP (k_4p hq rfl) f_4 rfl dX5_copy_5 ?_
  refine m_copy hC hE hI hP hS w_911 w_913 w_912 w_16 (k_4p hq rfl) (k_4p hr rfl) f_4 e_4 (by decide) hl.1 (by decide) (Nat.le_of_ble_eq_true rfl) (p_cp hne) (q_cp hr (by decide)) dX5_copy_6 (fun H locs hP hS => ?_)
  exact m_vret hC hr_ hlk hS (hP.castR (rfl)) dX5_copy_9
set_option maxHeartbeats 4000000 in
set_option maxRecDepth 100000 in
theorem c_copy5 (l : Launch) {g : Gm} (hI : IJ g KK) {M : Mem} {o : Nat → Int64} {r q : Nat} (hr : r = 2 ∨ r = 3) (hq : q = 2 ∨ q = 3) (hne : q ≠ r) {v : Vw} : MV l yX5_copy cX5_copy 3 (rm 1 40) g KK (ent g (setR M r v) o) [.ref (ad g (9, r, 0)), .ref (ad g (4, q, 5)), .ref (ad g (4, r, 5))] (ent g (setR M r (cpC 5 (alen 5) (M q) v)) o) := by
  refine met_of (by decide +kernel) (Nat.le_of_ble_eq_true rfl) ?_
  intro p e s m below meth c ls hC hr_ hlk hnm hE hP hS hl
  obtain ⟨hx, hb, hml, hown, hG⟩ := id hC
  have hl : lv_has ls 3 [(0, .ref (ad g (9, r, 0))), (1, .ref (ad g (4, q, 5))), (2, .ref (ad g (4, r, 5)))] := hl
  refine lv_aload_n hx hb dX5_copy_0 rfl (lv_at hl 1 rfl) ?_
  refine lv_iconst (v := 0) hx hb dX5_copy_1 (by decide) ?_
  refine lv_aload_n hx hb dX5_copy_2 rfl (lv_at hl 2 rfl) ?_
  refine lv_iconst (v := 0) hx hb dX5_copy_3 (by decide) ?_
  refine lv_aload_n hx hb dX5_copy_4 rfl (lv_at hl 1 rfl) ?_
  refine m_alen hC hE hP (k_4p hq rfl) f_4 rfl dX5_copy_5 ?_
  refine m_copy hC hE hI hP hS w_911 w_913 w_912 w_16 (k_4p hq rfl) (k_4p hr rfl) f_4 e_4 (by decide) hl.1 (by decide) (Nat.le_of_ble_eq_true rfl) (p_cp hne) (q_cp hr (by decide)) dX5_copy_6 (fun H locs hP hS => ?_)
  exact m_vret hC hr_ hlk hS (hP.castR (rfl)) dX5_copy_9
set_option maxHeartbeats 4000000 in
set_option maxRecDepth 100000 in
theorem c_copy8 (l : Launch) {g : Gm} (hI : IJ g KK) {M : Mem} {o : Nat → Int64} {r q : Nat} (hr : r = 2 ∨ r = 3) (hq : q = 2 ∨ q = 3) (hne : q ≠ r) {v : Vw} : MV l yX5_copy cX5_copy 3 (rm 1 40) g KK (ent g (setR M r v) o) [.ref (ad g (9, r, 0)), .ref (ad g (4, q, 8)), .ref (ad g (4, r, 8))] (ent g (setR M r (cpC 8 (alen 8) (M q) v)) o) := by
  refine met_of (by decide +kernel) (Nat.le_of_ble_eq_true rfl) ?_
  intro p e s m below meth c ls hC hr_ hlk hnm hE hP hS hl
  obtain ⟨hx, hb, hml, hown, hG⟩ := id hC
  have hl : lv_has ls 3 [(0, .ref (ad g (9, r, 0))), (1, .ref (ad g (4, q, 8))), (2, .ref (ad g (4, r, 8)))] := hl
  refine lv_aload_n hx hb dX5_copy_0 rfl (lv_at hl 1 rfl) ?_
  refine lv_iconst (v := 0) hx hb dX5_copy_1 (by decide) ?_
  refine lv_aload_n hx hb dX5_copy_2 rfl (lv_at hl 2 rfl) ?_
  refine lv_iconst (v := 0) hx hb dX5_copy_3 (by decide) ?_
  refine lv_aload_n hx hb dX5_copy_4 rfl (lv_at hl 1 rfl) ?_
  refine m_alen hC hE hP (k_4p hq rfl) f_4 rfl dX5_copy_5 ?_
  refine m_copy hC hE hI hP hS w_911 w_913 w_912 w_16 (k_4p hq rfl) (k_4p hr rfl) f_4 e_4 (by decide) hl.1 (by decide) (Nat.le_of_ble_eq_true rfl) (p_cp hne) (q_cp hr (by decide)) dX5_copy_6 (fun H locs hP hS => ?_)
  exact m_vret hC hr_ hlk hS (hP.castR (rfl)) dX5_copy_9
set_option maxHeartbeats 4000000 in
set_option maxRecDepth 100000 in
theorem c_copy9 (l : Launch) {g : Gm} (hI : IJ g KK) {M : Mem} {o : Nat → Int64} {r q : Nat} (hr : r = 2 ∨ r = 3) (hq : q = 2 ∨ q = 3) (hne : q ≠ r) {v : Vw} : MV l yX5_copy cX5_copy 3 (rm 1 40) g KK (ent g (setR M r v) o) [.ref (ad g (9, r, 0)), .ref (ad g (4, q, 9)), .ref (ad g (4, r, 9))] (ent g (setR M r (cpC 9 (alen 9) (M q) v)) o) := by
  refine met_of (by decide +kernel) (Nat.le_of_ble_eq_true rfl) ?_
  intro p e s m below meth c ls hC hr_ hlk hnm hE hP hS hl
  obtain ⟨hx, hb, hml, hown, hG⟩ := id hC
  have hl : lv_has ls 3 [(0, .ref (ad g (9, r, 0))), (1, .ref (ad g (4, q, 9))), (2, .ref (ad g (4, r, 9)))] := hl
  refine lv_aload_n hx hb dX5_copy_0 rfl (lv_at hl 1 rfl) ?_
  refine lv_iconst (v := 0) hx hb dX5_copy_1 (by decide) ?_
  refine lv_aload_n hx hb dX5_copy_2 rfl (lv_at hl 2 rfl) ?_
  refine lv_iconst (v := 0) hx hb dX5_copy_3 (by decide) ?_
  refine lv_aload_n hx hb dX5_copy_4 rfl (lv_at hl 1 rfl) ?_
  refine m_alen hC hE hP (k_4p hq rfl) f_4 rfl dX5_copy_5 ?_
  refine m_copy hC hE hI hP hS w_911 w_913 w_912 w_16 (k_4p hq rfl) (k_4p hr rfl) f_4 e_4 (by decide) hl.1 (by decide) (Nat.le_of_ble_eq_true rfl) (p_cp hne) (q_cp hr (by decide)) dX5_copy_6 (fun H locs hP hS => ?_)
  exact m_vret hC hr_ hlk hS (hP.castR (rfl)) dX5_copy_9
set_option maxHeartbeats 4000000 in
set_option maxRecDepth 100000 in
theorem c_copy10 (l : Launch) {g : Gm} (hI : IJ g KK) {M : Mem} {o : Nat → Int64} {r q : Nat} (hr : r = 2 ∨ r = 3) (hq : q = 2 ∨ q = 3) (hne : q ≠ r) {v : Vw} : MV l yX5_copy cX5_copy 3 (rm 1 40) g KK (ent g (setR M r v) o) [.ref (ad g (9, r, 0)), .ref (ad g (4, q, 10)), .ref (ad g (4, r, 10))] (ent g (setR M r (cpC 10 (alen 10) (M q) v)) o) := by
  refine met_of (by decide +kernel) (Nat.le_of_ble_eq_true rfl) ?_
  intro p e s m below meth c ls hC hr_ hlk hnm hE hP hS hl
  obtain ⟨hx, hb, hml, hown, hG⟩ := id hC
  have hl : lv_has ls 3 [(0, .ref (ad g (9, r, 0))), (1, .ref (ad g (4, q, 10))), (2, .ref (ad g (4, r, 10)))] := hl
  refine lv_aload_n hx hb dX5_copy_0 rfl (lv_at hl 1 rfl) ?_
  refine lv_iconst (v := 0) hx hb dX5_copy_1 (by decide) ?_
  refine lv_aload_n hx hb dX5_copy_2 rfl (lv_at hl 2 rfl) ?_
  refine lv_iconst (v := 0) hx hb dX5_copy_3 (by decide) ?_
  refine lv_aload_n hx hb dX5_copy_4 rfl (lv_at hl 1 rfl) ?_
  refine m_alen hC hE hP (k_4p hq rfl) f_4 rfl dX5_copy_5 ?_
  refine m_copy hC hE hI hP hS w_911 w_913 w_912 w_16 (k_4p hq rfl) (k_4p hr rfl) f_4 e_4 (by decide) hl.1 (by decide) (Nat.le_of_ble_eq_true rfl) (p_cp hne) (q_cp hr (by decide)) dX5_copy_6 (fun H locs hP hS => ?_)
  exact m_vret hC hr_ hlk hS (hP.castR (rfl)) dX5_copy_9
set_option maxHeartbeats 4000000 in
set_option maxRecDepth 100000 in
theorem c_copy11 (l : Launch) {g : Gm} (hI : IJ g KK) {M : Mem} {o : Nat → Int64} {r q : Nat} (hr : r = 2 ∨ r = 3) (hq : q = 2 ∨ q = 3) (hne : q ≠ r) {v : Vw} : MV l yX5_copy cX5_copy 3 (rm 1 40) g KK (ent g (setR M r v) o) [.ref (ad g (9, r, 0)), .ref (ad g (4, q, 11)), .ref (ad g (4, r, 11))] (ent g (setR M r (cpC 11 (alen 11) (M q) v)) o) := by
  refine met_of (by decide +kernel) (Nat.le_of_ble_eq_true rfl) ?_
  intro p e s m below meth c ls hC hr_ hlk hnm hE hP hS hl
  obtain ⟨hx, hb, hml, hown, hG⟩ := id hC
  have hl : lv_has ls 3 [(0, .ref (ad g (9, r, 0))), (1, .ref (ad g (4, q, 11))), (2, .ref (ad g (4, r, 11)))] := hl
  refine lv_aload_n hx hb dX5_copy_0 rfl (lv_at hl 1 rfl) ?_
  refine lv_iconst (v := 0) hx hb dX5_copy_1 (by decide) ?_
  refine lv_aload_n hx hb dX5_copy_2 rfl (lv_at hl 2 rfl) ?_
  refine lv_iconst (v := 0) hx hb dX5_copy_3 (by decide) ?_
  refine lv_aload_n hx hb dX5_copy_4 rfl (lv_at hl 1 rfl) ?_
  refine m_alen hC hE hP (k_4p hq rfl) f_4 rfl dX5_copy_5 ?_
  refine m_copy hC hE hI hP hS w_911 w_913 w_912 w_16 (k_4p hq rfl) (k_4p hr rfl) f_4 e_4 (by decide) hl.1 (by decide) (Nat.le_of_ble_eq_true rfl) (p_cp hne) (q_cp hr (by decide)) dX5_copy_6 (fun H locs hP hS => ?_)
  exact m_vret hC hr_ hlk hS (hP.castR (rfl)) dX5_copy_9
set_option maxHeartbeats 4000000 in
set_option maxRecDepth 100000 in
theorem c_copy12 (l : Launch) {g : Gm} (hI : IJ g KK) {M : Mem} {o : Nat → Int64} {r q : Nat} (hr : r = 2 ∨ r = 3) (hq : q = 2 ∨ q = 3) (hne : q ≠ r) {v : Vw} : MV l yX5_copy cX5_copy 3 (rm 1 40) g KK (ent g (setR M r v) o) [.ref (ad g (9, r, 0)), .ref (ad g (4, q, 12)), .ref (ad g (4, r, 12))] (ent g (setR M r (cpC 12 (alen 12) (M q) v)) o) := by
  refine met_of (by decide +kernel) (Nat.le_of_ble_eq_true rfl) ?_
  intro p e s m below meth c ls hC hr_ hlk hnm hE hP hS hl
  obtain ⟨hx, hb, hml, hown, hG⟩ := id hC
  have hl : lv_has ls 3 [(0, .ref (ad g (9, r, 0))), (1, .ref (ad g (4, q, 12))), (2, .ref (ad g (4, r, 12)))] := hl
  refine lv_aload_n hx hb dX5_copy_0 rfl (lv_at hl 1 rfl) ?_
  refine lv_iconst (v := 0) hx hb dX5_copy_1 (by decide) ?_
  refine lv_aload_n hx hb dX5_copy_2 rfl (lv_at hl 2 rfl) ?_
  refine lv_iconst (v := 0) hx hb dX5_copy_3 (by decide) ?_
  refine lv_aload_n hx hb dX5_copy_4 rfl (lv_at hl 1 rfl) ?_
  refine m_alen hC hE hP (k_4p hq rfl) f_4 rfl dX5_copy_5 ?_
  refine m_copy hC hE hI hP hS w_911 w_913 w_912 w_16 (k_4p hq rfl) (k_4p hr rfl) f_4 e_4 (by decide) hl.1 (by decide) (Nat.le_of_ble_eq_true rfl) (p_cp hne) (q_cp hr (by decide)) dX5_copy_6 (fun H locs hP hS => ?_)
  exact m_vret hC hr_ hlk hS (hP.castR (rfl)) dX5_copy_9
set_option maxHeartbeats 4000000 in
set_option maxRecDepth 100000 in
theorem c_copy13 (l : Launch) {g : Gm} (hI : IJ g KK) {M : Mem} {o : Nat → Int64} {r q : Nat} (hr : r = 2 ∨ r = 3) (hq : q = 2 ∨ q = 3) (hne : q ≠ r) {v : Vw} : MV l yX5_copy cX5_copy 3 (rm 1 40) g KK (ent g (setR M r v) o) [.ref (ad g (9, r, 0)), .ref (ad g (4, q, 13)), .ref (ad g (4, r, 13))] (ent g (setR M r (cpC 13 (alen 13) (M q) v)) o) := by
  refine met_of (by decide +kernel) (Nat.le_of_ble_eq_true rfl) ?_
  intro p e s m below meth c ls hC hr_ hlk hnm hE hP hS hl
  obtain ⟨hx, hb, hml, hown, hG⟩ := id hC
  have hl : lv_has ls 3 [(0, .ref (ad g (9, r, 0))), (1, .ref (ad g (4, q, 13))), (2, .ref (ad g (4, r, 13)))] := hl
  refine lv_aload_n hx hb dX5_copy_0 rfl (lv_at hl 1 rfl) ?_
  refine lv_iconst (v := 0) hx hb dX5_copy_1 (by decide) ?_
  refine lv_aload_n hx hb dX5_copy_2 rfl (lv_at hl 2 rfl) ?_
  refine lv_iconst (v := 0) hx hb dX5_copy_3 (by decide) ?_
  refine lv_aload_n hx hb dX5_copy_4 rfl (lv_at hl 1 rfl) ?_
  refine m_alen hC hE hP (k_4p hq rfl) f_4 rfl dX5_copy_5 ?_
  refine m_copy hC hE hI hP hS w_911 w_913 w_912 w_16 (k_4p hq rfl) (k_4p hr rfl) f_4 e_4 (by decide) hl.1 (by decide) (Nat.le_of_ble_eq_true rfl) (p_cp hne) (q_cp hr (by decide)) dX5_copy_6 (fun H locs hP hS => ?_)
  exact m_vret hC hr_ hlk hS (hP.castR (rfl)) dX5_copy_9
set_option maxHeartbeats 4000000 in
set_option maxRecDepth 100000 in
theorem c_copy15 (l : Launch) {g : Gm} (hI : IJ g KK) {M : Mem} {o : Nat → Int64} {r q : Nat} (hr : r = 2 ∨ r = 3) (hq : q = 2 ∨ q = 3) (hne : q ≠ r) {v : Vw} : MV l yX5_copy cX5_copy 3 (rm 1 40) g KK (ent g (setR M r v) o) [.ref (ad g (9, r, 0)), .ref (ad g (4, q, 15)), .ref (ad g (4, r, 15))] (ent g (setR M r (cpC 15 (alen 15) (M q) v)) o) := by
  refine met_of (by decide +kernel) (Nat.le_of_ble_eq_true rfl) ?_
  intro p e s m below meth c ls hC hr_ hlk hnm hE hP hS hl
  obtain ⟨hx, hb, hml, hown, hG⟩ := id hC
  have hl : lv_has ls 3 [(0, .ref (ad g (9, r, 0))), (1, .ref (ad g (4, q, 15))), (2, .ref (ad g (4, r, 15)))] := hl
  refine lv_aload_n hx hb dX5_copy_0 rfl (lv_at hl 1 rfl) ?_
  refine lv_iconst (v := 0) hx hb dX5_copy_1 (by decide) ?_
  refine lv_aload_n hx hb dX5_copy_2 rfl (lv_at hl 2 rfl) ?_
  refine lv_iconst (v := 0) hx hb dX5_copy_3 (by decide) ?_
  refine lv_aload_n hx hb dX5_copy_4 rfl (lv_at hl 1 rfl) ?_
  refine m_alen hC hE hP (k_4p hq rfl) f_4 rfl dX5_copy_5 ?_
  refine m_copy hC hE hI hP hS w_911 w_913 w_912 w_16 (k_4p hq rfl) (k_4p hr rfl) f_4 e_4 (by decide) hl.1 (by decide) (Nat.le_of_ble_eq_true rfl) (p_cp hne) (q_cp hr (by decide)) dX5_copy_6 (fun H locs hP hS => ?_)
  exact m_vret hC hr_ hlk hS (hP.castR (rfl)) dX5_copy_9
def bem (s v : Vw) : Vw := cpC 15 (alen 15) s (cpC 13 (alen 13) s (cpC 12 (alen 12) s (cpC 11 (alen 11) s (cpC 10 (alen 10) s (cpC 9 (alen 9) s (cpC 8 (alen 8) s (cpC 5 (alen 5) s (cpC 0 (alen 0) s (up2 (up2 v 16 4 (s 16 4)) 16 3 (s 16 3))))))))))
set_option maxHeartbeats 4000000 in
set_option maxRecDepth 100000 in
theorem c_becomeT (l : Launch) {g : Gm} (hI : IJ g KK) {M : Mem} {o : Nat → Int64} {r q : Nat} (hr : r = 2 ∨ r = 3) (hq : q = 2 ∨ q = 3) (hne : q ≠ r) {v : Vw} : MV l yX5_become cX5_become 2 (rm 2 62) g KK (ent g (setR M r v) o) [.ref (ad g (9, r, 0)), .ref (ad g (9, q, 0))] (ent g (setR M r (bem (M q) v)) o) := by
  refine met_of (by decide +kernel) (Nat.le_of_ble_eq_true rfl) ?_
  intro p e s m below meth c ls hC hr_ hlk hnm hE hP hS hl
  obtain ⟨hx, hb, hml, hown, hG⟩ := id hC
  have hl : lv_has ls 2 [(0, .ref (ad g (9, r, 0))), (1, .ref (ad g (9, q, 0)))] := hl
  refine lv_aload_n hx hb dX5_become_0 rfl (lv_at hl 0 rfl) ?_
  refine lv_aload_n hx hb dX5_become_1 rfl (lv_at hl 1 rfl) ?_
  refine m_get hC hE hP (k_9 hq) f_9 rfl u_5 0 (by decide) w_631 rfl rfl dX5_become_2 ?_
  refine m_top (y := M q 16 4) (by rw [setR_ne _ _ hne]) ?_
  refine m_put hC hE hI hP hS (k_9 hr) e_9 rfl u_5 tyX5_ok nmX5 0 (by decide) w_631 rfl rfl rfl rfl (Nat.le_of_ble_eq_true rfl) p_9_0 (ent_put g M r v o 16 4 (M q 16 4) (kf_9 hr (by decide))) dX5_become_5 (fun H locs hP hS => ?_)
  refine lv_aload_n hx hb dX5_become_8 rfl (lv_at hl 0 rfl) ?_
  refine lv_aload_n hx hb dX5_become_9 rfl (lv_at hl 1 rfl) ?_
  refine m_get hC hE hP (k_9 hq) f_9 rfl u_5 1 (by decide) w_633 rfl rfl dX5_become_10 ?_
  refine m_top (y := M q 16 3) (by rw [setR_ne _ _ hne]) ?_
  refine m_put hC hE hI hP hS (k_9 hr) e_9 rfl u_5 tyX5_ok nmX5 1 (by decide) w_633 rfl rfl rfl rfl (Nat.le_of_ble_eq_true rfl) p_9_1 (ent_put g M r (up2 v 16 4 (M q 16 4)) o 16 3 (M q 16 3) (kf_9 hr (by decide))) dX5_become_13 (fun H locs hP hS => ?_)
  refine lv_aload_n hx hb dX5_become_16 rfl (lv_at hl 0 rfl) ?_
  refine lv_aload_n hx hb dX5_become_17 rfl (lv_at hl 1 rfl) ?_
  refine m_get hC hE hP (k_9 hq) f_9 rfl u_5 2 (by decide) w_635 rfl rfl dX5_become_18 ?_
  refine lv_aload_n hx hb dX5_become_21 rfl (lv_at hl 0 rfl) ?_
  refine m_get hC hE hP (k_9 hr) e_9 rfl u_5 2 (by decide) w_635 rfl rfl dX5_become_22 ?_
  refine on_v (run_V hC hE hP hS (As := [.ref (ad g (4, q, 0)), .ref (ad g (4, r, 0))]) (c_copy0 l hI hr hq hne (v := up2 (up2 v 16 4 (M q 16 4)) 16 3 (M q 16 3))) cal_X5_copy w_907 ⟨Nat.le_of_ble_eq_true rfl, Nat.le_of_ble_eq_true rfl⟩ (k_9 hr) e_9 rfl rfl rfl (Nat.le_of_ble_eq_true rfl) hl.1 ⟨Nat.le_of_ble_eq_true rfl, Nat.le_of_ble_eq_true rfl⟩ dX5_become_25) hS (fun H locs hP hS => ?_)
  refine lv_aload_n hx hb dX5_become_28 rfl (lv_at hl 0 rfl) ?_
  refine lv_aload_n hx hb dX5_become_29 rfl (lv_at hl 1 rfl) ?_
  refine m_get hC hE hP (k_9 hq) f_9 rfl u_5 3 (by decide) w_637 rfl rfl dX5_become_30 ?_
  refine lv_aload_n hx hb dX5_become_33 rfl (lv_at hl 0 rfl) ?_
  refine m_get hC hE hP (k_9 hr) e_9 rfl u_5 3 (by decide) w_637 rfl rfl dX5_become_34 ?_
  refine on_v (run_V hC hE hP hS (As := [.ref (ad g (4, q, 5)), .ref (ad g (4, r, 5))]) (c_copy5 l hI hr hq hne (v := cpC 0 (alen 0) (M q) (up2 (up2 v 16 4 (M q 16 4)) 16 3 (M q 16 3)))) cal_X5_copy w_907 ⟨Nat.le_of_ble_eq_true rfl, Nat.le_of_ble_eq_true rfl⟩ (k_9 hr) e_9 rfl rfl rfl (Nat.le_of_ble_eq_true rfl) hl.1 ⟨Nat.le_of_ble_eq_true rfl, Nat.le_of_ble_eq_true rfl⟩ dX5_become_37) hS (fun H locs hP hS => ?_)
  refine lv_aload_n hx hb dX5_become_40 rfl (lv_at hl 0 rfl) ?_
  refine lv_aload_n hx hb dX5_become_41 rfl (lv_at hl 1 rfl) ?_
  refine m_get hC hE hP (k_9 hq) f_9 rfl u_5 4 (by decide) w_639 rfl rfl dX5_become_42 ?_
  refine lv_aload_n hx hb dX5_become_45 rfl (lv_at hl 0 rfl) ?_
  refine m_get hC hE hP (k_9 hr) e_9 rfl u_5 4 (by decide) w_639 rfl rfl dX5_become_46 ?_
  refine on_v (run_V hC hE hP hS (As := [.ref (ad g (4, q, 8)), .ref (ad g (4, r, 8))]) (c_copy8 l hI hr hq hne (v := cpC 5 (alen 5) (M q) (cpC 0 (alen 0) (M q) (up2 (up2 v 16 4 (M q 16 4)) 16 3 (M q 16 3))))) cal_X5_copy w_907 ⟨Nat.le_of_ble_eq_true rfl, Nat.le_of_ble_eq_true rfl⟩ (k_9 hr) e_9 rfl rfl rfl (Nat.le_of_ble_eq_true rfl) hl.1 ⟨Nat.le_of_ble_eq_true rfl, Nat.le_of_ble_eq_true rfl⟩ dX5_become_49) hS (fun H locs hP hS => ?_)
  refine lv_aload_n hx hb dX5_become_52 rfl (lv_at hl 0 rfl) ?_
  refine lv_aload_n hx hb dX5_become_53 rfl (lv_at hl 1 rfl) ?_
  refine m_get hC hE hP (k_9 hq) f_9 rfl u_5 5 (by decide) w_641 rfl rfl dX5_become_54 ?_
  refine lv_aload_n hx hb dX5_become_57 rfl (lv_at hl 0 rfl) ?_
  refine m_get hC hE hP (k_9 hr) e_9 rfl u_5 5 (by decide) w_641 rfl rfl dX5_become_58 ?_
  refine on_v (run_V hC hE hP hS (As := [.ref (ad g (4, q, 9)), .ref (ad g (4, r, 9))]) (c_copy9 l hI hr hq hne (v := cpC 8 (alen 8) (M q) (cpC 5 (alen 5) (M q) (cpC 0 (alen 0) (M q) (up2 (up2 v 16 4 (M q 16 4)) 16 3 (M q 16 3)))))) cal_X5_copy w_907 ⟨Nat.le_of_ble_eq_true rfl, Nat.le_of_ble_eq_true rfl⟩ (k_9 hr) e_9 rfl rfl rfl (Nat.le_of_ble_eq_true rfl) hl.1 ⟨Nat.le_of_ble_eq_true rfl, Nat.le_of_ble_eq_true rfl⟩ dX5_become_61) hS (fun H locs hP hS => ?_)
  refine lv_aload_n hx hb dX5_become_64 rfl (lv_at hl 0 rfl) ?_
  refine lv_aload_n hx hb dX5_become_65 rfl (lv_at hl 1 rfl) ?_
  refine m_get hC hE hP (k_9 hq) f_9 rfl u_5 6 (by decide) w_643 rfl rfl dX5_become_66 ?_
  refine lv_aload_n hx hb dX5_become_69 rfl (lv_at hl 0 rfl) ?_
  refine m_get hC hE hP (k_9 hr) e_9 rfl u_5 6 (by decide) w_643 rfl rfl dX5_become_70 ?_
  refine on_v (run_V hC hE hP hS (As := [.ref (ad g (4, q, 10)), .ref (ad g (4, r, 10))]) (c_copy10 l hI hr hq hne (v := cpC 9 (alen 9) (M q) (cpC 8 (alen 8) (M q) (cpC 5 (alen 5) (M q) (cpC 0 (alen 0) (M q) (up2 (up2 v 16 4 (M q 16 4)) 16 3 (M q 16 3))))))) cal_X5_copy w_907 ⟨Nat.le_of_ble_eq_true rfl, Nat.le_of_ble_eq_true rfl⟩ (k_9 hr) e_9 rfl rfl rfl (Nat.le_of_ble_eq_true rfl) hl.1 ⟨Nat.le_of_ble_eq_true rfl, Nat.le_of_ble_eq_true rfl⟩ dX5_become_73) hS (fun H locs hP hS => ?_)
  refine lv_aload_n hx hb dX5_become_76 rfl (lv_at hl 0 rfl) ?_
  refine lv_aload_n hx hb dX5_become_77 rfl (lv_at hl 1 rfl) ?_
  refine m_get hC hE hP (k_9 hq) f_9 rfl u_5 7 (by decide) w_645 rfl rfl dX5_become_78 ?_
  refine lv_aload_n hx hb dX5_become_81 rfl (lv_at hl 0 rfl) ?_
  refine m_get hC hE hP (k_9 hr) e_9 rfl u_5 7 (by decide) w_645 rfl rfl dX5_become_82 ?_
  refine on_v (run_V hC hE hP hS (As := [.ref (ad g (4, q, 11)), .ref (ad g (4, r, 11))]) (c_copy11 l hI hr hq hne (v := cpC 10 (alen 10) (M q) (cpC 9 (alen 9) (M q) (cpC 8 (alen 8) (M q) (cpC 5 (alen 5) (M q) (cpC 0 (alen 0) (M q) (up2 (up2 v 16 4 (M q 16 4)) 16 3 (M q 16 3)))))))) cal_X5_copy w_907 ⟨Nat.le_of_ble_eq_true rfl, Nat.le_of_ble_eq_true rfl⟩ (k_9 hr) e_9 rfl rfl rfl (Nat.le_of_ble_eq_true rfl) hl.1 ⟨Nat.le_of_ble_eq_true rfl, Nat.le_of_ble_eq_true rfl⟩ dX5_become_85) hS (fun H locs hP hS => ?_)
  refine lv_aload_n hx hb dX5_become_88 rfl (lv_at hl 0 rfl) ?_
  refine lv_aload_n hx hb dX5_become_89 rfl (lv_at hl 1 rfl) ?_
  refine m_get hC hE hP (k_9 hq) f_9 rfl u_5 8 (by decide) w_647 rfl rfl dX5_become_90 ?_
  refine lv_aload_n hx hb dX5_become_93 rfl (lv_at hl 0 rfl) ?_
  refine m_get hC hE hP (k_9 hr) e_9 rfl u_5 8 (by decide) w_647 rfl rfl dX5_become_94 ?_
  refine on_v (run_V hC hE hP hS (As := [.ref (ad g (4, q, 12)), .ref (ad g (4, r, 12))]) (c_copy12 l hI hr hq hne (v := cpC 11 (alen 11) (M q) (cpC 10 (alen 10) (M q) (cpC 9 (alen 9) (M q) (cpC 8 (alen 8) (M q) (cpC 5 (alen 5) (M q) (cpC 0 (alen 0) (M q) (up2 (up2 v 16 4 (M q 16 4)) 16 3 (M q 16 3))))))))) cal_X5_copy w_907 ⟨Nat.le_of_ble_eq_true rfl, Nat.le_of_ble_eq_true rfl⟩ (k_9 hr) e_9 rfl rfl rfl (Nat.le_of_ble_eq_true rfl) hl.1 ⟨Nat.le_of_ble_eq_true rfl, Nat.le_of_ble_eq_true rfl⟩ dX5_become_97) hS (fun H locs hP hS => ?_)
  refine lv_aload_n hx hb dX5_become_100 rfl (lv_at hl 0 rfl) ?_
  refine lv_aload_n hx hb dX5_become_101 rfl (lv_at hl 1 rfl) ?_
  refine m_get hC hE hP (k_9 hq) f_9 rfl u_5 9 (by decide) w_649 rfl rfl dX5_become_102 ?_
  refine lv_aload_n hx hb dX5_become_105 rfl (lv_at hl 0 rfl) ?_
  refine m_get hC hE hP (k_9 hr) e_9 rfl u_5 9 (by decide) w_649 rfl rfl dX5_become_106 ?_
  refine on_v (run_V hC hE hP hS (As := [.ref (ad g (4, q, 13)), .ref (ad g (4, r, 13))]) (c_copy13 l hI hr hq hne (v := cpC 12 (alen 12) (M q) (cpC 11 (alen 11) (M q) (cpC 10 (alen 10) (M q) (cpC 9 (alen 9) (M q) (cpC 8 (alen 8) (M q) (cpC 5 (alen 5) (M q) (cpC 0 (alen 0) (M q) (up2 (up2 v 16 4 (M q 16 4)) 16 3 (M q 16 3)))))))))) cal_X5_copy w_907 ⟨Nat.le_of_ble_eq_true rfl, Nat.le_of_ble_eq_true rfl⟩ (k_9 hr) e_9 rfl rfl rfl (Nat.le_of_ble_eq_true rfl) hl.1 ⟨Nat.le_of_ble_eq_true rfl, Nat.le_of_ble_eq_true rfl⟩ dX5_become_109) hS (fun H locs hP hS => ?_)
  refine lv_aload_n hx hb dX5_become_112 rfl (lv_at hl 0 rfl) ?_
  refine lv_aload_n hx hb dX5_become_113 rfl (lv_at hl 1 rfl) ?_
  refine m_get hC hE hP (k_9 hq) f_9 rfl u_5 10 (by decide) w_651 rfl rfl dX5_become_114 ?_
  refine lv_aload_n hx hb dX5_become_117 rfl (lv_at hl 0 rfl) ?_
  refine m_get hC hE hP (k_9 hr) e_9 rfl u_5 10 (by decide) w_651 rfl rfl dX5_become_118 ?_
  refine on_v (run_V hC hE hP hS (As := [.ref (ad g (4, q, 15)), .ref (ad g (4, r, 15))]) (c_copy15 l hI hr hq hne (v := cpC 13 (alen 13) (M q) (cpC 12 (alen 12) (M q) (cpC 11 (alen 11) (M q) (cpC 10 (alen 10) (M q) (cpC 9 (alen 9) (M q) (cpC 8 (alen 8) (M q) (cpC 5 (alen 5) (M q) (cpC 0 (alen 0) (M q) (up2 (up2 v 16 4 (M q 16 4)) 16 3 (M q 16 3))))))))))) cal_X5_copy w_907 ⟨Nat.le_of_ble_eq_true rfl, Nat.le_of_ble_eq_true rfl⟩ (k_9 hr) e_9 rfl rfl rfl (Nat.le_of_ble_eq_true rfl) hl.1 ⟨Nat.le_of_ble_eq_true rfl, Nat.le_of_ble_eq_true rfl⟩ dX5_become_121) hS (fun H locs hP hS => ?_)
  exact m_vret hC hr_ hlk hS (hP.castR (rfl)) dX5_become_124
set_option maxHeartbeats 4000000 in
set_option maxRecDepth 100000 in
theorem c_pass1 (l : Launch) {g : Gm} (hI : IJ g KK) {M : Mem} {o : Nat → Int64} {r : Nat} (hr : r = 2 ∨ r = 3) {v : Vw} (hsh : Sh M r v) (hv : Inv v) (hN : Nt 1 v) : MI l yX5_pass cX5_pass 3 .int (rm 5 116) g KK (ent g (setR M r v) o) [.ref (ad g (9, r, 0))] (got1 v) (ent g (setR M r (day v)) o) := by
  refine met_of (by decide +kernel) (Nat.le_of_ble_eq_true rfl) ?_
  intro p e s m below meth c ls hC hr_ hlk hnm hE hP hS hl
  obtain ⟨hx, hb, hml, hown, hG⟩ := id hC
  have hl : lv_has ls 3 [(0, .ref (ad g (9, r, 0)))] := hl
  have qH := hv.lH
  have qS := hv.lS
  have qW := hv.lW
  have i1 : Inv (lam v) := lam_inv hv
  have i2 : Inv (spe (lam v)) := spe_inv i1
  have i3 : Inv (sen (spe (lam v))) := sen_inv i2
  have i4 : Inv (kepA (sen (spe (lam v)))) := kepA_inv i3
  have i5 : Inv (breA (kepA (sen (spe (lam v))))) := breA_inv i4
  have s1 : Sh M r (lam v) := hsh.it (fun _ _ _ _ hs => sh_lur hs) _
  have s2 : Sh M r (spe (lam v)) := s1.it (fun _ _ _ _ hs => sh_spr hs) _
  have s3 : Sh M r (sen (spe (lam v))) := s2.it (fun _ _ _ _ hs => sh_gua hs) _
  have s4 : Sh M r (kepA (sen (spe (lam v)))) := s3.it (fun _ _ _ _ hs => sh_kep hs) _
  have s5 : Sh M r (breA (kepA (sen (spe (lam v))))) := s4.it (fun _ _ _ _ hs => sh_bre hs) _
  have n1 : nS (lam v) = nS v := by unfold nS; rw [lam_ne (by decide)]
  have w2 : nW (spe (lam v)) = nW v := by unfold nW; rw [spe_ne (by decide) (by decide), lam_ne (by decide)]
  have n3 : nS (sen (spe (lam v))) = nS v := nS_pre1
  have hn5 : Nt 0 (breA (kepA (sen (spe (lam v))))) := tt_pre (n := 0) hN
  refine lv_iconst (v := 0) hx hb dX5_pass_0 (by decide) ?_
  refine lv_istore_n (lv' := [(1, .int ((0 : Int32))), (0, .ref (ad g (9, r, 0)))]) hx hb dX5_pass_1 rfl hl (by decide) rfl (fun ls hl => ?_)
  refine lp_W (i0 := 0) (nS v) (fun i => ent g (setR M r (it lur i v)) o) (fun i => [(1, .int (nI i)), (0, .ref (ad g (9, r, 0)))]) (fun i => True) (Nat.zero_le _) (hP.castR (rfl)) hS (lv_sub hl [0, 1] rfl) (trivial) (fun H locs ls hP hS hl J => ?_) (fun i hi IH H locs ls hP hS hl J => ?_)
  · have hsi : Sh M r (it lur (nS v) v) := hsh.it (fun _ _ _ _ hs => sh_lur hs) _
    refine lv_iload_n hx hb dX5_pass_2 rfl (lv_at hl 0 rfl) ?_
    refine lv_aload_n hx hb dX5_pass_3 rfl (lv_at hl 1 rfl) ?_
    refine m_get hC hE hP (k_9 hr) e_9 rfl u_5 11 (by decide) w_653 rfl rfl dX5_pass_4 ?_
    refine m_getN hC hE hP k_10 f_10 rfl u_6 6 (by decide) n_690 rfl rfl dX5_pass_7 ?_
    refine m_top (y := (it lur (nS v) v) 16 1) (hsi _ _ rfl) ?_
    refine m_top (y := nI (nS v)) ((it_keep (fun _ _ => lur_ne (by decide)) _ _).trans hv.eS) ?_
    refine lv_icmp_ge (tgt := 24) hx hb dX5_pass_10 (by decide) (fun c1 => ?_) (fun c1 => absurd (nI_le (Nat.le_refl _) (by omega)) c1)
    replace hP := hP.castR (w := lam v) (rfl)
    refine lv_iconst (v := 0) hx hb dX5_pass_24 (by decide) ?_
    refine lv_istore_n (lv' := [(1, .int ((0 : Int32))), (0, .ref (ad g (9, r, 0)))]) hx hb dX5_pass_25 rfl hl (by decide) rfl (fun ls hl => ?_)
    refine lp_W (i0 := 0) (nS v) (fun i => ent g (setR M r (it spr i (lam v))) o) (fun i => [(1, .int (nI i)), (0, .ref (ad g (9, r, 0)))]) (fun i => True) (Nat.zero_le _) (hP.castR (rfl)) hS (lv_sub hl [0, 1] rfl) (trivial) (fun H locs ls hP hS hl J => ?_) (fun i hi IH H locs ls hP hS hl J => ?_)
    · have hsi : Sh M r (it spr (nS v) (lam v)) := s1.it (fun _ _ _ _ hs => sh_spr hs) _
      refine lv_iload_n hx hb dX5_pass_26 rfl (lv_at hl 0 rfl) ?_
      refine lv_aload_n hx hb dX5_pass_27 rfl (lv_at hl 1 rfl) ?_
      refine m_get hC hE hP (k_9 hr) e_9 rfl u_5 11 (by decide) w_653 rfl rfl dX5_pass_28 ?_
      refine m_getN hC hE hP k_10 f_10 rfl u_6 6 (by decide) n_690 rfl rfl dX5_pass_31 ?_
      refine m_top (y := (it spr (nS v) (lam v)) 16 1) (hsi _ _ rfl) ?_
      refine m_top (y := nI (nS v)) ((it_keep (fun _ _ => spr_ne (by decide) (by decide)) _ _).trans ((lam_ne (by decide)).trans hv.eS)) ?_
      refine lv_icmp_ge (tgt := 48) hx hb dX5_pass_34 (by decide) (fun c2 => ?_) (fun c2 => absurd (nI_le (Nat.le_refl _) (by omega)) c2)
      replace hP := hP.castR (w := spe (lam v)) (by unfold spe; rw [n1])
      refine lv_iconst (v := 0) hx hb dX5_pass_48 (by decide) ?_
      refine lv_istore_n (lv' := [(1, .int ((0 : Int32))), (0, .ref (ad g (9, r, 0)))]) hx hb dX5_pass_49 rfl hl (by decide) rfl (fun ls hl => ?_)
      refine lp_W (i0 := 0) (nW v) (fun i => ent g (setR M r (it gua i (spe (lam v)))) o) (fun i => [(1, .int (nI i)), (0, .ref (ad g (9, r, 0)))]) (fun i => True) (Nat.zero_le _) (hP.castR (rfl)) hS (lv_sub hl [0, 1] rfl) (trivial) (fun H locs ls hP hS hl J => ?_) (fun i hi IH H locs ls hP hS hl J => ?_)
      · have hsi : Sh M r (it gua (nW v) (spe (lam v))) := s2.it (fun _ _ _ _ hs => sh_gua hs) _
        refine lv_iload_n hx hb dX5_pass_50 rfl (lv_at hl 0 rfl) ?_
        refine lv_aload_n hx hb dX5_pass_51 rfl (lv_at hl 1 rfl) ?_
        refine m_get hC hE hP (k_9 hr) e_9 rfl u_5 11 (by decide) w_653 rfl rfl dX5_pass_52 ?_
        refine m_getN hC hE hP k_10 f_10 rfl u_6 9 (by decide) n_696 rfl rfl dX5_pass_55 ?_
        refine m_top (y := (it gua (nW v) (spe (lam v))) 16 2) (hsi _ _ rfl) ?_
        refine m_top (y := nI (nW v)) ((it_keep (fun _ _ => gua_ne (by decide) (by decide) (by decide) (by decide) (by decide) (by decide)) _ _).trans ((spe_ne (by decide) (by decide)).trans ((lam_ne (by decide)).trans hv.eW))) ?_
        refine lv_icmp_ge (tgt := 72) hx hb dX5_pass_58 (by decide) (fun c3 => ?_) (fun c3 => absurd (nI_le (Nat.le_refl _) (by omega)) c3)
        replace hP := hP.castR (w := sen (spe (lam v))) (by unfold sen; rw [w2])
        refine lv_iconst (v := 0) hx hb dX5_pass_72 (by decide) ?_
        refine lv_istore_n (lv' := [(1, .int ((0 : Int32))), (0, .ref (ad g (9, r, 0)))]) hx hb dX5_pass_73 rfl hl (by decide) rfl (fun ls hl => ?_)
        refine lv_iconst (v := 0) hx hb dX5_pass_74 (by decide) ?_
        refine lv_istore_n (lv' := [(2, .int ((0 : Int32))), (1, .int ((0 : Int32))), (0, .ref (ad g (9, r, 0)))]) hx hb dX5_pass_75 rfl hl (by decide) rfl (fun ls hl => ?_)
        refine lp_W (i0 := 0) (nS v) (fun i => ent g (setR M r (it kep i (sen (spe (lam v))))) o) (fun i => [(2, .int (nI i)), (1, .int (sumI (sen (spe (lam v)) 9) i)), (0, .ref (ad g (9, r, 0)))]) (fun i => True) (Nat.zero_le _) (hP.castR (rfl)) hS (lv_sub hl [0, 1, 2] rfl) (trivial) (fun H locs ls hP hS hl J => ?_) (fun i hi IH H locs ls hP hS hl J => ?_)
        · have hsi : Sh M r (it kep (nS v) (sen (spe (lam v)))) := s3.it (fun _ _ _ _ hs => sh_kep hs) _
          refine lv_iload_n hx hb dX5_pass_76 rfl (lv_at hl 0 rfl) ?_
          refine lv_aload_n hx hb dX5_pass_77 rfl (lv_at hl 2 rfl) ?_
          refine m_get hC hE hP (k_9 hr) e_9 rfl u_5 11 (by decide) w_653 rfl rfl dX5_pass_78 ?_
          refine m_getN hC hE hP k_10 f_10 rfl u_6 6 (by decide) n_690 rfl rfl dX5_pass_81 ?_
          refine m_top (y := (it kep (nS v) (sen (spe (lam v)))) 16 1) (hsi _ _ rfl) ?_
          refine m_top (y := nI (nS v)) ((it_keep (fun _ _ => kep_ne (by decide)) _ _).trans ((sen_ne (by decide) (by decide) (by decide) (by decide) (by decide) (by decide)).trans ((spe_ne (by decide) (by decide)).trans ((lam_ne (by decide)).trans hv.eS)))) ?_
          refine lv_icmp_ge (tgt := 117) hx hb dX5_pass_84 (by decide) (fun c4 => ?_) (fun c4 => absurd (nI_le (Nat.le_refl _) (by omega)) c4)
          replace hP := hP.castR (w := kepA (sen (spe (lam v)))) (by unfold kepA; rw [n3])
          refine lv_iconst (v := 0) hx hb dX5_pass_117 (by decide) ?_
          refine lv_istore_n (lv' := [(2, .int ((0 : Int32))), (1, .int (sumI (sen (spe (lam v)) 9) (nS v))), (0, .ref (ad g (9, r, 0)))]) hx hb dX5_pass_118 rfl hl (by decide) rfl (fun ls hl => ?_)
          refine lp_W (i0 := 0) 81 (fun i => ent g (setR M r (it bre i (kepA (sen (spe (lam v)))))) o) (fun i => [(2, .int (nI i)), (1, .int (sumI (sen (spe (lam v)) 9) (nS v))), (0, .ref (ad g (9, r, 0)))]) (fun i => True) (Nat.zero_le _) (hP.castR (rfl)) hS (lv_sub hl [0, 1, 2] rfl) (trivial) (fun H locs ls hP hS hl J => ?_) (fun i hi IH H locs ls hP hS hl J => ?_)
          · have hsi : Sh M r (it bre 81 (kepA (sen (spe (lam v))))) := s4.it (fun _ _ _ _ hs => sh_bre hs) _
            refine lv_iload_n hx hb dX5_pass_119 rfl (lv_at hl 0 rfl) ?_
            refine lv_bipush (v := 81) hx hb dX5_pass_120 (by decide) ?_
            refine lv_icmp_ge (tgt := 166) hx hb dX5_pass_122 (by decide) (fun c5 => ?_) (fun c5 => absurd (by decide) c5)
            replace hP := hP.castR (w := breA (kepA (sen (spe (lam v))))) (rfl)
            refine lv_aload_n hx hb dX5_pass_166 rfl (lv_at hl 2 rfl) ?_
            refine on_v (run_V hC hE hP hS (As := []) (c_freezeM l hI hr (s5) i5 hn5) cal_X5_freeze w_889 ⟨Nat.le_of_ble_eq_true rfl, Nat.le_of_ble_eq_true rfl⟩ (k_9 hr) e_9 rfl rfl rfl (Nat.le_of_ble_eq_true rfl) hl.1 ⟨Nat.le_of_ble_eq_true rfl, Nat.le_of_ble_eq_true rfl⟩ dX5_pass_167) hS (fun H locs hP hS => ?_)
            refine lv_aload_n hx hb dX5_pass_170 rfl (lv_at hl 2 rfl) ?_
            refine lv_dup hx hb dX5_pass_171 rfl ?_
            refine m_get hC hE hP (k_9 hr) e_9 rfl u_5 0 (by decide) w_631 rfl rfl dX5_pass_172 ?_
            refine lv_iconst (v := 1) hx hb dX5_pass_175 (by decide) ?_
            refine lv_iadd hx hb dX5_pass_176 ?_
            refine m_put hC hE hI hP hS (k_9 hr) e_9 rfl u_5 tyX5_ok nmX5 0 (by decide) w_631 rfl rfl rfl rfl (Nat.le_of_ble_eq_true rfl) p_9_0 (ent_put g M r (frz (breA (kepA (sen (spe (lam v)))))) o 16 4 (((frz (breA (kepA (sen (spe (lam v)))))) 16 4) + (1 : Int32)) (kf_9 hr (by decide))) dX5_pass_177 (fun H locs hP hS => ?_)
            refine lv_iload_n hx hb dX5_pass_180 rfl (lv_at hl 1 rfl) ?_
            exact m_iret hC hr_ hlk hS (hP.castR (rfl)) rfl (rfl) dX5_pass_181
          · have hsi : Sh M r (it bre i (kepA (sen (spe (lam v))))) := s4.it (fun _ _ _ _ hs => sh_bre hs) i
            refine lv_iload_n hx hb dX5_pass_119 rfl (lv_at hl 0 rfl) ?_
            refine lv_bipush (v := 81) hx hb dX5_pass_120 (by decide) ?_
            refine lv_icmp_ge (tgt := 166) hx hb dX5_pass_122 (by decide) (fun c6 => absurd c6 (nI_ge (b := 81) hi (by decide))) (fun c6 => ?_)
            refine lv_aload_n hx hb dX5_pass_125 rfl (lv_at hl 2 rfl) ?_
            refine m_get hC hE hP (k_9 hr) e_9 rfl u_5 2 (by decide) w_635 rfl rfl dX5_pass_126 ?_
            refine lv_iload_n hx hb dX5_pass_129 rfl (lv_at hl 0 rfl) ?_
            refine m_iald hC hE hP (k_4p hr rfl) e_4 i (rfl) (show i < 81 from by omega) (by decide) dX5_pass_130 ?_
            refine lv_iconst (v := 1) hx hb dX5_pass_131 (by decide) ?_
            refine lv_bipush (v := 40) hx hb dX5_pass_132 (by decide) ?_
            refine on_i (run_SN hC hE hP hS (As := [.int ((it bre i (kepA (sen (spe (lam v))))) 0 i), .int ((1 : Int32)), .int ((40 : Int32))]) (c_isIn l ((it bre i (kepA (sen (spe (lam v))))) 0 i) (1 : Int32) (40 : Int32)) cal_X6_isIn n_888 ⟨Nat.le_of_ble_eq_true rfl, Nat.le_of_ble_eq_true rfl⟩ rfl rfl (Nat.le_of_ble_eq_true rfl) hl.1 ⟨Nat.le_of_ble_eq_true rfl, Nat.le_of_ble_eq_true rfl⟩ dX5_pass_134) hS (fun H locs hP hS => ?_)
            refine lv_if_eq (tgt := 160) hx hb dX5_pass_137 (by decide) (fun c1 => ?_) (fun c1 => ?_)
            · have c1 := b2i_f c1
              refine lv_iinc (v := nI (i + 1)) (lv' := [(2, .int (nI (i + 1))), (1, .int (sumI (sen (spe (lam v)) 9) (nS v))), (0, .ref (ad g (9, r, 0)))]) hx hb dX5_pass_160 hl (k := 0) rfl (nI_1 _) (by decide) rfl (fun ls hl => ?_)
              refine lv_goto (tgt := 119) hx hb dX5_pass_163 (by decide) ?_
              exact IH H locs ls (hP.castR (if_neg (by rw [c1]; decide))) hS (lv_sub hl [0, 1, 2] rfl) (trivial)
            · have c1 := b2i_t c1
              refine lv_aload_n hx hb dX5_pass_140 rfl (lv_at hl 2 rfl) ?_
              refine m_get hC hE hP (k_9 hr) e_9 rfl u_5 2 (by decide) w_635 rfl rfl dX5_pass_141 ?_
              refine lv_iload_n hx hb dX5_pass_144 rfl (lv_at hl 0 rfl) ?_
              refine lv_dup2_11 hx hb dX5_pass_145 rfl rfl ?_
              refine m_iald hC hE hP (k_4p hr rfl) e_4 i (rfl) (show i < 81 from by omega) (by decide) dX5_pass_146 ?_
              refine lv_aload_n hx hb dX5_pass_147 rfl (lv_at hl 2 rfl) ?_
              refine m_get hC hE hP (k_9 hr) e_9 rfl u_5 2 (by decide) w_635 rfl rfl dX5_pass_148 ?_
              refine lv_iload_n hx hb dX5_pass_151 rfl (lv_at hl 0 rfl) ?_
              refine m_iald hC hE hP (k_4p hr rfl) e_4 i (rfl) (show i < 81 from by omega) (by decide) dX5_pass_152 ?_
              refine lv_bipush (v := 10) hx hb dX5_pass_153 (by decide) ?_
              refine lv_idiv hx hb dX5_pass_155 (by decide) ?_
              refine lv_iconst (v := 1) hx hb dX5_pass_156 (by decide) ?_
              refine lv_iadd hx hb dX5_pass_157 ?_
              refine lv_iadd hx hb dX5_pass_158 ?_
              refine m_iast hC hE hI hP hS (k_4p hr rfl) e_4 i (rfl) (show i < 81 from by omega) (by decide) p_4 (ent_put g M r (it bre i (kepA (sen (spe (lam v))))) o 0 i (((it bre i (kepA (sen (spe (lam v))))) 0 i) + ((((it bre i (kepA (sen (spe (lam v))))) 0 i) / (10 : Int32)) + (1 : Int32))) (kf_4m hr (by decide))) dX5_pass_159 (fun H locs hP hS => ?_)
              refine lv_iinc (v := nI (i + 1)) (lv' := [(2, .int (nI (i + 1))), (1, .int (sumI (sen (spe (lam v)) 9) (nS v))), (0, .ref (ad g (9, r, 0)))]) hx hb dX5_pass_160 hl (k := 0) rfl (nI_1 _) (by decide) rfl (fun ls hl => ?_)
              refine lv_goto (tgt := 119) hx hb dX5_pass_163 (by decide) ?_
              exact IH H locs ls (hP.castR (if_pos c1)) hS (lv_sub hl [0, 1, 2] rfl) (trivial)
        · have hsi : Sh M r (it kep i (sen (spe (lam v)))) := s3.it (fun _ _ _ _ hs => sh_kep hs) i
          refine lv_iload_n hx hb dX5_pass_76 rfl (lv_at hl 0 rfl) ?_
          refine lv_aload_n hx hb dX5_pass_77 rfl (lv_at hl 2 rfl) ?_
          refine m_get hC hE hP (k_9 hr) e_9 rfl u_5 11 (by decide) w_653 rfl rfl dX5_pass_78 ?_
          refine m_getN hC hE hP k_10 f_10 rfl u_6 6 (by decide) n_690 rfl rfl dX5_pass_81 ?_
          refine m_top (y := (it kep i (sen (spe (lam v)))) 16 1) (hsi _ _ rfl) ?_
          refine m_top (y := nI (nS v)) ((it_keep (fun _ _ => kep_ne (by decide)) _ _).trans ((sen_ne (by decide) (by decide) (by decide) (by decide) (by decide) (by decide)).trans ((spe_ne (by decide) (by decide)).trans ((lam_ne (by decide)).trans hv.eS)))) ?_
          refine lv_icmp_ge (tgt := 117) hx hb dX5_pass_84 (by decide) (fun c7 => absurd c7 (nI_ge hi (by omega))) (fun c7 => ?_)
          refine lv_aload_n hx hb dX5_pass_87 rfl (lv_at hl 2 rfl) ?_
          refine m_get hC hE hP (k_9 hr) e_9 rfl u_5 6 (by decide) w_643 rfl rfl dX5_pass_88 ?_
          refine lv_iload_n hx hb dX5_pass_91 rfl (lv_at hl 0 rfl) ?_
          refine lv_dup2_11 hx hb dX5_pass_92 rfl rfl ?_
          refine m_iald hC hE hP (k_4p hr rfl) e_4 i (rfl) (show i < 8 from by omega) (by decide) dX5_pass_93 ?_
          refine lv_aload_n hx hb dX5_pass_94 rfl (lv_at hl 2 rfl) ?_
          refine m_get hC hE hP (k_9 hr) e_9 rfl u_5 5 (by decide) w_641 rfl rfl dX5_pass_95 ?_
          refine lv_iload_n hx hb dX5_pass_98 rfl (lv_at hl 0 rfl) ?_
          refine m_iald hC hE hP (k_4p hr rfl) e_4 i (rfl) (show i < 8 from by omega) (by decide) dX5_pass_99 ?_
          refine lv_iadd hx hb dX5_pass_100 ?_
          refine m_iast hC hE hI hP hS (k_4p hr rfl) e_4 i (rfl) (show i < 8 from by omega) (by decide) p_4 (ent_put g M r (it kep i (sen (spe (lam v)))) o 10 i (((it kep i (sen (spe (lam v)))) 10 i) + ((it kep i (sen (spe (lam v)))) 9 i)) (kf_4m hr (by decide))) dX5_pass_101 (fun H locs hP hS => ?_)
          refine lv_iload_n hx hb dX5_pass_102 rfl (lv_at hl 1 rfl) ?_
          refine lv_aload_n hx hb dX5_pass_103 rfl (lv_at hl 2 rfl) ?_
          refine m_get hC hE hP (k_9 hr) e_9 rfl u_5 5 (by decide) w_641 rfl rfl dX5_pass_104 ?_
          refine lv_iload_n hx hb dX5_pass_107 rfl (lv_at hl 0 rfl) ?_
          refine m_iald hC hE hP (k_4p hr rfl) e_4 i (rfl) (show i < 8 from by omega) (by decide) dX5_pass_108 ?_
          refine m_top (y := sen (spe (lam v)) 9 i) ((up2_c (by decide)).trans (it_keep (fun _ _ => kep_ne (by decide)) _ _)) ?_
          refine lv_iadd hx hb dX5_pass_109 ?_
          refine lv_istore_n (lv' := [(1, .int ((sumI (sen (spe (lam v)) 9) i) + (sen (spe (lam v)) 9 i))), (2, .int (nI i)), (0, .ref (ad g (9, r, 0)))]) hx hb dX5_pass_110 rfl hl (by decide) rfl (fun ls hl => ?_)
          refine lv_iinc (v := nI (i + 1)) (lv' := [(2, .int (nI (i + 1))), (1, .int ((sumI (sen (spe (lam v)) 9) i) + (sen (spe (lam v)) 9 i))), (0, .ref (ad g (9, r, 0)))]) hx hb dX5_pass_111 hl (k := 1) rfl (nI_1 _) (by decide) rfl (fun ls hl => ?_)
          refine lv_goto (tgt := 76) hx hb dX5_pass_114 (by decide) ?_
          exact IH H locs ls (hP.castR (rfl)) hS (lv_sub hl [0, 1, 2] rfl) (trivial)
      · have hsi : Sh M r (it gua i (spe (lam v))) := s2.it (fun _ _ _ _ hs => sh_gua hs) i
        have hvi : Inv (it gua i (spe (lam v))) := senI_inv i2 i (by omega)
        have hki : i < nW (it gua i (spe (lam v))) := by unfold nW; rw [it_keep (fun _ _ => gua_ne (by decide) (by decide) (by decide) (by decide) (by decide) (by decide))]; show i < nW (spe (lam v)); rw [w2]; exact hi
        refine lv_iload_n hx hb dX5_pass_50 rfl (lv_at hl 0 rfl) ?_
        refine lv_aload_n hx hb dX5_pass_51 rfl (lv_at hl 1 rfl) ?_
        refine m_get hC hE hP (k_9 hr) e_9 rfl u_5 11 (by decide) w_653 rfl rfl dX5_pass_52 ?_
        refine m_getN hC hE hP k_10 f_10 rfl u_6 9 (by decide) n_696 rfl rfl dX5_pass_55 ?_
        refine m_top (y := (it gua i (spe (lam v))) 16 2) (hsi _ _ rfl) ?_
        refine m_top (y := nI (nW v)) ((it_keep (fun _ _ => gua_ne (by decide) (by decide) (by decide) (by decide) (by decide) (by decide)) _ _).trans ((spe_ne (by decide) (by decide)).trans ((lam_ne (by decide)).trans hv.eW))) ?_
        refine lv_icmp_ge (tgt := 72) hx hb dX5_pass_58 (by decide) (fun c8 => absurd c8 (nI_ge hi (by omega))) (fun c8 => ?_)
        refine lv_aload_n hx hb dX5_pass_61 rfl (lv_at hl 1 rfl) ?_
        refine lv_iload_n hx hb dX5_pass_62 rfl (lv_at hl 0 rfl) ?_
        refine on_v (run_V hC hE hP hS (As := [.int (nI i)]) (c_guardM l hI hr (hsi) hvi i hki) cal_X5_guard w_872 ⟨Nat.le_of_ble_eq_true rfl, Nat.le_of_ble_eq_true rfl⟩ (k_9 hr) e_9 rfl rfl rfl (Nat.le_of_ble_eq_true rfl) hl.1 ⟨Nat.le_of_ble_eq_true rfl, Nat.le_of_ble_eq_true rfl⟩ dX5_pass_63) hS (fun H locs hP hS => ?_)
        refine lv_iinc (v := nI (i + 1)) (lv' := [(1, .int (nI (i + 1))), (0, .ref (ad g (9, r, 0)))]) hx hb dX5_pass_66 hl (k := 0) rfl (nI_1 _) (by decide) rfl (fun ls hl => ?_)
        refine lv_goto (tgt := 50) hx hb dX5_pass_69 (by decide) ?_
        exact IH H locs ls (hP.castR (rfl)) hS (lv_sub hl [0, 1] rfl) (trivial)
    · have hsi : Sh M r (it spr i (lam v)) := s1.it (fun _ _ _ _ hs => sh_spr hs) i
      have hvi : Inv (it spr i (lam v)) := (speI_inv i1 i (by omega)).1
      have hki : i < nS (it spr i (lam v)) := by rw [(speI_inv i1 i (by omega)).2, n1]; exact hi
      refine lv_iload_n hx hb dX5_pass_26 rfl (lv_at hl 0 rfl) ?_
      refine lv_aload_n hx hb dX5_pass_27 rfl (lv_at hl 1 rfl) ?_
      refine m_get hC hE hP (k_9 hr) e_9 rfl u_5 11 (by decide) w_653 rfl rfl dX5_pass_28 ?_
      refine m_getN hC hE hP k_10 f_10 rfl u_6 6 (by decide) n_690 rfl rfl dX5_pass_31 ?_
      refine m_top (y := (it spr i (lam v)) 16 1) (hsi _ _ rfl) ?_
      refine m_top (y := nI (nS v)) ((it_keep (fun _ _ => spr_ne (by decide) (by decide)) _ _).trans ((lam_ne (by decide)).trans hv.eS)) ?_
      refine lv_icmp_ge (tgt := 48) hx hb dX5_pass_34 (by decide) (fun c9 => absurd c9 (nI_ge hi (by omega))) (fun c9 => ?_)
      refine lv_aload_n hx hb dX5_pass_37 rfl (lv_at hl 1 rfl) ?_
      refine lv_iload_n hx hb dX5_pass_38 rfl (lv_at hl 0 rfl) ?_
      refine on_v (run_V hC hE hP hS (As := [.int (nI i)]) (c_spearM l hI hr (hsi) hvi i hki) cal_X5_spear w_866 ⟨Nat.le_of_ble_eq_true rfl, Nat.le_of_ble_eq_true rfl⟩ (k_9 hr) e_9 rfl rfl rfl (Nat.le_of_ble_eq_true rfl) hl.1 ⟨Nat.le_of_ble_eq_true rfl, Nat.le_of_ble_eq_true rfl⟩ dX5_pass_39) hS (fun H locs hP hS => ?_)
      refine lv_iinc (v := nI (i + 1)) (lv' := [(1, .int (nI (i + 1))), (0, .ref (ad g (9, r, 0)))]) hx hb dX5_pass_42 hl (k := 0) rfl (nI_1 _) (by decide) rfl (fun ls hl => ?_)
      refine lv_goto (tgt := 26) hx hb dX5_pass_45 (by decide) ?_
      exact IH H locs ls (hP.castR (rfl)) hS (lv_sub hl [0, 1] rfl) (trivial)
  · have hsi : Sh M r (it lur i v) := hsh.it (fun _ _ _ _ hs => sh_lur hs) i
    have hvi : Inv (it lur i v) := (lamI_inv hv i (by omega)).1
    have hki : i < nS (it lur i v) := by rw [(lamI_inv hv i (by omega)).2]; exact hi
    refine lv_iload_n hx hb dX5_pass_2 rfl (lv_at hl 0 rfl) ?_
    refine lv_aload_n hx hb dX5_pass_3 rfl (lv_at hl 1 rfl) ?_
    refine m_get hC hE hP (k_9 hr) e_9 rfl u_5 11 (by decide) w_653 rfl rfl dX5_pass_4 ?_
    refine m_getN hC hE hP k_10 f_10 rfl u_6 6 (by decide) n_690 rfl rfl dX5_pass_7 ?_
    refine m_top (y := (it lur i v) 16 1) (hsi _ _ rfl) ?_
    refine m_top (y := nI (nS v)) ((it_keep (fun _ _ => lur_ne (by decide)) _ _).trans hv.eS) ?_
    refine lv_icmp_ge (tgt := 24) hx hb dX5_pass_10 (by decide) (fun c10 => absurd c10 (nI_ge hi (by omega))) (fun c10 => ?_)
    refine lv_aload_n hx hb dX5_pass_13 rfl (lv_at hl 1 rfl) ?_
    refine lv_iload_n hx hb dX5_pass_14 rfl (lv_at hl 0 rfl) ?_
    refine on_v (run_V hC hE hP hS (As := [.int (nI i)]) (c_lureM l hI hr (hsi) hvi i hki) cal_X5_lure w_862 ⟨Nat.le_of_ble_eq_true rfl, Nat.le_of_ble_eq_true rfl⟩ (k_9 hr) e_9 rfl rfl rfl (Nat.le_of_ble_eq_true rfl) hl.1 ⟨Nat.le_of_ble_eq_true rfl, Nat.le_of_ble_eq_true rfl⟩ dX5_pass_15) hS (fun H locs hP hS => ?_)
    refine lv_iinc (v := nI (i + 1)) (lv' := [(1, .int (nI (i + 1))), (0, .ref (ad g (9, r, 0)))]) hx hb dX5_pass_18 hl (k := 0) rfl (nI_1 _) (by decide) rfl (fun ls hl => ?_)
    refine lv_goto (tgt := 2) hx hb dX5_pass_21 (by decide) ?_
    exact IH H locs ls (hP.castR (rfl)) hS (lv_sub hl [0, 1] rfl) (trivial)
set_option maxHeartbeats 4000000 in
set_option maxRecDepth 100000 in
theorem c_passN (l : Launch) {g : Gm} (hI : IJ g KK) {M : Mem} {o : Nat → Int64} {r : Nat} (hr : r = 2 ∨ r = 3) {v : Vw} (hsh : Sh M r v) (hv : Inv v) (n : Nat) (hn40 : n ≤ 40) (hN : Nt n v) : MI l yX5_pass_ cX5_pass_ 4 .int (rm 6 138) g KK (ent g (setR M r v) o) [.ref (ad g (9, r, 0)), .int (nI n)] (gots n v) (ent g (setR M r (days n v)) o) := by
  refine met_of (by decide +kernel) (Nat.le_of_ble_eq_true rfl) ?_
  intro p e s m below meth c ls hC hr_ hlk hnm hE hP hS hl
  obtain ⟨hx, hb, hml, hown, hG⟩ := id hC
  have hl : lv_has ls 4 [(0, .ref (ad g (9, r, 0))), (1, .int (nI n))] := hl
  have qH := hv.lH
  have qS := hv.lS
  have qW := hv.lW
  refine lv_iconst (v := 0) hx hb dX5_pass__0 (by decide) ?_
  refine lv_istore_n (lv' := [(2, .int ((0 : Int32))), (0, .ref (ad g (9, r, 0))), (1, .int (nI n))]) hx hb dX5_pass__1 rfl hl (by decide) rfl (fun ls hl => ?_)
  refine lv_iconst (v := 0) hx hb dX5_pass__2 (by decide) ?_
  refine lv_istore_n (lv' := [(3, .int ((0 : Int32))), (2, .int ((0 : Int32))), (0, .ref (ad g (9, r, 0))), (1, .int (nI n))]) hx hb dX5_pass__3 rfl hl (by decide) rfl (fun ls hl => ?_)
  refine lp_W (i0 := 0) n (fun i => ent g (setR M r (days i v)) o) (fun i => [(3, .int (nI i)), (2, .int (gots i v)), (0, .ref (ad g (9, r, 0))), (1, .int (nI n))]) (fun i => True) (Nat.zero_le _) (hP.castR (rfl)) hS (lv_sub hl [0, 1, 2, 3] rfl) (trivial) (fun H locs ls hP hS hl J => ?_) (fun i hi IH H locs ls hP hS hl J => ?_)
  · refine lv_iload_n hx hb dX5_pass__4 rfl (lv_at hl 0 rfl) ?_
    refine lv_iload_n hx hb dX5_pass__5 rfl (lv_at hl 3 rfl) ?_
    refine lv_icmp_ge (tgt := 22) hx hb dX5_pass__6 (by decide) (fun c1 => ?_) (fun c1 => absurd (nI_le (Nat.le_refl _) (by omega)) c1)
    refine lv_iload_n hx hb dX5_pass__22 rfl (lv_at hl 1 rfl) ?_
    exact m_iret hC hr_ hlk hS (hP.castR (rfl)) rfl (rfl) dX5_pass__23
  · have hsi : Sh M r (days i v) := hsh.days i
    have hvi : Inv (days i v) := days_inv hv i
    have hn1 : Nt 1 (days i v) := days_Nt (m := i) (n := 1) ⟨hN.1, by have := hN.2; omega⟩
    refine lv_iload_n hx hb dX5_pass__4 rfl (lv_at hl 0 rfl) ?_
    refine lv_iload_n hx hb dX5_pass__5 rfl (lv_at hl 3 rfl) ?_
    refine lv_icmp_ge (tgt := 22) hx hb dX5_pass__6 (by decide) (fun c2 => absurd c2 (nI_ge hi (by omega))) (fun c2 => ?_)
    refine lv_iload_n hx hb dX5_pass__9 rfl (lv_at hl 1 rfl) ?_
    refine lv_aload_n hx hb dX5_pass__10 rfl (lv_at hl 2 rfl) ?_
    refine on_i (run_V hC hE hP hS (As := []) (c_pass1 l hI hr (hsi) hvi hn1) cal_X5_pass w_858 ⟨Nat.le_of_ble_eq_true rfl, Nat.le_of_ble_eq_true rfl⟩ (k_9 hr) e_9 rfl rfl rfl (Nat.le_of_ble_eq_true rfl) hl.1 ⟨Nat.le_of_ble_eq_true rfl, Nat.le_of_ble_eq_true rfl⟩ dX5_pass__11) hS (fun H locs hP hS => ?_)
    refine lv_iadd hx hb dX5_pass__14 ?_
    refine lv_istore_n (lv' := [(2, .int ((gots i v) + (got1 (days i v)))), (3, .int (nI i)), (0, .ref (ad g (9, r, 0))), (1, .int (nI n))]) hx hb dX5_pass__15 rfl hl (by decide) rfl (fun ls hl => ?_)
    refine lv_iinc (v := nI (i + 1)) (lv' := [(3, .int (nI (i + 1))), (2, .int ((gots i v) + (got1 (days i v)))), (0, .ref (ad g (9, r, 0))), (1, .int (nI n))]) hx hb dX5_pass__16 hl (k := 1) rfl (nI_1 _) (by decide) rfl (fun ls hl => ?_)
    refine lv_goto (tgt := 4) hx hb dX5_pass__19 (by decide) ?_
    exact IH H locs ls (hP.castR (rfl)) hS (lv_sub hl [0, 1, 2, 3] rfl) (trivial)
