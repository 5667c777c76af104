/-! Is the lake as it is pictured? -/
theorem dX5_isSame_0 : decode cX5_isSame 0 = .ok (.iconst 0, 1) := by decide +kernel
theorem dX5_isSame_1 : decode cX5_isSame 1 = .ok (.istore_n 2, 1) := by decide +kernel
theorem dX5_isSame_2 : decode cX5_isSame 2 = .ok (.iload_n 2, 1) := by decide +kernel
theorem dX5_isSame_3 : decode cX5_isSame 3 = .ok (.bipush 9, 2) := by decide +kernel
theorem dX5_isSame_5 : decode cX5_isSame 5 = .ok (.if_icmp .ge 93, 3) := by decide +kernel
theorem dX5_isSame_8 : decode cX5_isSame 8 = .ok (.iconst 0, 1) := by decide +kernel
theorem dX5_isSame_9 : decode cX5_isSame 9 = .ok (.istore_n 3, 1) := by decide +kernel
theorem dX5_isSame_10 : decode cX5_isSame 10 = .ok (.iload_n 3, 1) := by decide +kernel
theorem dX5_isSame_11 : decode cX5_isSame 11 = .ok (.bipush 9, 2) := by decide +kernel
theorem dX5_isSame_13 : decode cX5_isSame 13 = .ok (.if_icmp .ge 79, 3) := by decide +kernel
theorem dX5_isSame_16 : decode cX5_isSame 16 = .ok (.aload_n 1, 1) := by decide +kernel
theorem dX5_isSame_17 : decode cX5_isSame 17 = .ok (.iload_n 2, 1) := by decide +kernel
theorem dX5_isSame_18 : decode cX5_isSame 18 = .ok (.iload_n 3, 1) := by decide +kernel
theorem dX5_isSame_19 : decode cX5_isSame 19 = .ok (.iconst 0, 1) := by decide +kernel
theorem dX5_isSame_20 : decode cX5_isSame 20 = .ok (.invokevirtual 76, 3) := by decide +kernel
theorem dX5_isSame_23 : decode cX5_isSame 23 = .ok (.aload_n 0, 1) := by decide +kernel
theorem dX5_isSame_24 : decode cX5_isSame 24 = .ok (.getfield 9, 3) := by decide +kernel
theorem dX5_isSame_27 : decode cX5_isSame 27 = .ok (.iload_n 2, 1) := by decide +kernel
theorem dX5_isSame_28 : decode cX5_isSame 28 = .ok (.aaload, 1) := by decide +kernel
theorem dX5_isSame_29 : decode cX5_isSame 29 = .ok (.iload_n 3, 1) := by decide +kernel
theorem dX5_isSame_30 : decode cX5_isSame 30 = .ok (.iaload, 1) := by decide +kernel
theorem dX5_isSame_31 : decode cX5_isSame 31 = .ok (.if_icmp .ne 53, 3) := by decide +kernel
theorem dX5_isSame_34 : decode cX5_isSame 34 = .ok (.aload_n 1, 1) := by decide +kernel
theorem dX5_isSame_35 : decode cX5_isSame 35 = .ok (.iload_n 2, 1) := by decide +kernel
theorem dX5_isSame_36 : decode cX5_isSame 36 = .ok (.iload_n 3, 1) := by decide +kernel
theorem dX5_isSame_37 : decode cX5_isSame 37 = .ok (.iconst 1, 1) := by decide +kernel
theorem dX5_isSame_38 : decode cX5_isSame 38 = .ok (.invokevirtual 76, 3) := by decide +kernel
theorem dX5_isSame_41 : decode cX5_isSame 41 = .ok (.aload_n 0, 1) := by decide +kernel
theorem dX5_isSame_42 : decode cX5_isSame 42 = .ok (.getfield 14, 3) := by decide +kernel
theorem dX5_isSame_45 : decode cX5_isSame 45 = .ok (.iload_n 2, 1) := by decide +kernel
theorem dX5_isSame_46 : decode cX5_isSame 46 = .ok (.aaload, 1) := by decide +kernel
theorem dX5_isSame_47 : decode cX5_isSame 47 = .ok (.iload_n 3, 1) := by decide +kernel
theorem dX5_isSame_48 : decode cX5_isSame 48 = .ok (.iaload, 1) := by decide +kernel
theorem dX5_isSame_49 : decode cX5_isSame 49 = .ok (.if_icmp .ne 35, 3) := by decide +kernel
theorem dX5_isSame_52 : decode cX5_isSame 52 = .ok (.aload_n 1, 1) := by decide +kernel
theorem dX5_isSame_53 : decode cX5_isSame 53 = .ok (.iload_n 2, 1) := by decide +kernel
theorem dX5_isSame_54 : decode cX5_isSame 54 = .ok (.iload_n 3, 1) := by decide +kernel
theorem dX5_isSame_55 : decode cX5_isSame 55 = .ok (.iconst 2, 1) := by decide +kernel
theorem dX5_isSame_56 : decode cX5_isSame 56 = .ok (.invokevirtual 76, 3) := by decide +kernel
theorem dX5_isSame_59 : decode cX5_isSame 59 = .ok (.aload_n 0, 1) := by decide +kernel
theorem dX5_isSame_60 : decode cX5_isSame 60 = .ok (.iload_n 2, 1) := by decide +kernel
theorem dX5_isSame_61 : decode cX5_isSame 61 = .ok (.iload_n 3, 1) := by decide +kernel
theorem dX5_isSame_62 : decode cX5_isSame 62 = .ok (.invokevirtual 82, 3) := by decide +kernel
theorem dX5_isSame_65 : decode cX5_isSame 65 = .ok (.if_icmp .ne 19, 3) := by decide +kernel
theorem dX5_isSame_68 : decode cX5_isSame 68 = .ok (.aload_n 1, 1) := by decide +kernel
theorem dX5_isSame_69 : decode cX5_isSame 69 = .ok (.iload_n 2, 1) := by decide +kernel
theorem dX5_isSame_70 : decode cX5_isSame 70 = .ok (.iload_n 3, 1) := by decide +kernel
theorem dX5_isSame_71 : decode cX5_isSame 71 = .ok (.iconst 3, 1) := by decide +kernel
theorem dX5_isSame_72 : decode cX5_isSame 72 = .ok (.invokevirtual 76, 3) := by decide +kernel
theorem dX5_isSame_75 : decode cX5_isSame 75 = .ok (.aload_n 0, 1) := by decide +kernel
theorem dX5_isSame_76 : decode cX5_isSame 76 = .ok (.iload_n 2, 1) := by decide +kernel
theorem dX5_isSame_77 : decode cX5_isSame 77 = .ok (.iload_n 3, 1) := by decide +kernel
theorem dX5_isSame_78 : decode cX5_isSame 78 = .ok (.invokevirtual 65, 3) := by decide +kernel
theorem dX5_isSame_81 : decode cX5_isSame 81 = .ok (.if_icmp .eq 5, 3) := by decide +kernel
theorem dX5_isSame_84 : decode cX5_isSame 84 = .ok (.iconst 0, 1) := by decide +kernel
theorem dX5_isSame_85 : decode cX5_isSame 85 = .ok (.ireturn, 1) := by decide +kernel
theorem dX5_isSame_86 : decode cX5_isSame 86 = .ok (.iinc 3 1, 3) := by decide +kernel
theorem dX5_isSame_89 : decode cX5_isSame 89 = .ok (.goto (-79), 3) := by decide +kernel
theorem dX5_isSame_92 : decode cX5_isSame 92 = .ok (.iinc 2 1, 3) := by decide +kernel
theorem dX5_isSame_95 : decode cX5_isSame 95 = .ok (.goto (-93), 3) := by decide +kernel
theorem dX5_isSame_98 : decode cX5_isSame 98 = .ok (.iconst 0, 1) := by decide +kernel
theorem dX5_isSame_99 : decode cX5_isSame 99 = .ok (.istore_n 2, 1) := by decide +kernel
theorem dX5_isSame_100 : decode cX5_isSame 100 = .ok (.iload_n 2, 1) := by decide +kernel
theorem dX5_isSame_101 : decode cX5_isSame 101 = .ok (.aload_n 0, 1) := by decide +kernel
theorem dX5_isSame_102 : decode cX5_isSame 102 = .ok (.getfield 22, 3) := by decide +kernel
theorem dX5_isSame_105 : decode cX5_isSame 105 = .ok (.arraylength, 1) := by decide +kernel
theorem dX5_isSame_106 : decode cX5_isSame 106 = .ok (.if_icmp .ge 162, 3) := by decide +kernel
theorem dX5_isSame_109 : decode cX5_isSame 109 = .ok (.iconst (-1), 1) := by decide +kernel
theorem dX5_isSame_110 : decode cX5_isSame 110 = .ok (.istore_n 3, 1) := by decide +kernel
theorem dX5_isSame_111 : decode cX5_isSame 111 = .ok (.aload_n 0, 1) := by decide +kernel
theorem dX5_isSame_112 : decode cX5_isSame 112 = .ok (.getfield 28, 3) := by decide +kernel
theorem dX5_isSame_115 : decode cX5_isSame 115 = .ok (.astore 4, 2) := by decide +kernel
theorem dX5_isSame_117 : decode cX5_isSame 117 = .ok (.aload 4, 2) := by decide +kernel
theorem dX5_isSame_119 : decode cX5_isSame 119 = .ok (.arraylength, 1) := by decide +kernel
theorem dX5_isSame_120 : decode cX5_isSame 120 = .ok (.istore 5, 2) := by decide +kernel
theorem dX5_isSame_122 : decode cX5_isSame 122 = .ok (.iconst 0, 1) := by decide +kernel
theorem dX5_isSame_123 : decode cX5_isSame 123 = .ok (.istore 6, 2) := by decide +kernel
theorem dX5_isSame_125 : decode cX5_isSame 125 = .ok (.iload 6, 2) := by decide +kernel
theorem dX5_isSame_127 : decode cX5_isSame 127 = .ok (.iload 5, 2) := by decide +kernel
theorem dX5_isSame_129 : decode cX5_isSame 129 = .ok (.if_icmp .ge 51, 3) := by decide +kernel
theorem dX5_isSame_132 : decode cX5_isSame 132 = .ok (.aload 4, 2) := by decide +kernel
theorem dX5_isSame_134 : decode cX5_isSame 134 = .ok (.iload 6, 2) := by decide +kernel
theorem dX5_isSame_136 : decode cX5_isSame 136 = .ok (.aaload, 1) := by decide +kernel
theorem dX5_isSame_137 : decode cX5_isSame 137 = .ok (.astore 7, 2) := by decide +kernel
theorem dX5_isSame_139 : decode cX5_isSame 139 = .ok (.iload_n 3, 1) := by decide +kernel
theorem dX5_isSame_140 : decode cX5_isSame 140 = .ok (.ifCond .lt 18, 3) := by decide +kernel
theorem dX5_isSame_143 : decode cX5_isSame 143 = .ok (.aload 7, 2) := by decide +kernel
theorem dX5_isSame_145 : decode cX5_isSame 145 = .ok (.aload_n 0, 1) := by decide +kernel
theorem dX5_isSame_146 : decode cX5_isSame 146 = .ok (.getfield 22, 3) := by decide +kernel
theorem dX5_isSame_149 : decode cX5_isSame 149 = .ok (.iload_n 2, 1) := by decide +kernel
theorem dX5_isSame_150 : decode cX5_isSame 150 = .ok (.aaload, 1) := by decide +kernel
theorem dX5_isSame_151 : decode cX5_isSame 151 = .ok (.invokestatic 53, 3) := by decide +kernel
theorem dX5_isSame_154 : decode cX5_isSame 154 = .ok (.iload_n 3, 1) := by decide +kernel
theorem dX5_isSame_155 : decode cX5_isSame 155 = .ok (.if_icmp .ge 17, 3) := by decide +kernel
theorem dX5_isSame_158 : decode cX5_isSame 158 = .ok (.aload 7, 2) := by decide +kernel
theorem dX5_isSame_160 : decode cX5_isSame 160 = .ok (.aload_n 0, 1) := by decide +kernel
theorem dX5_isSame_161 : decode cX5_isSame 161 = .ok (.getfield 22, 3) := by decide +kernel
theorem dX5_isSame_164 : decode cX5_isSame 164 = .ok (.iload_n 2, 1) := by decide +kernel
theorem dX5_isSame_165 : decode cX5_isSame 165 = .ok (.aaload, 1) := by decide +kernel
theorem dX5_isSame_166 : decode cX5_isSame 166 = .ok (.invokestatic 53, 3) := by decide +kernel
theorem dX5_isSame_169 : decode cX5_isSame 169 = .ok (.goto 4, 3) := by decide +kernel
theorem dX5_isSame_172 : decode cX5_isSame 172 = .ok (.iload_n 3, 1) := by decide +kernel
theorem dX5_isSame_173 : decode cX5_isSame 173 = .ok (.istore_n 3, 1) := by decide +kernel
theorem dX5_isSame_174 : decode cX5_isSame 174 = .ok (.iinc 6 1, 3) := by decide +kernel
theorem dX5_isSame_177 : decode cX5_isSame 177 = .ok (.goto (-52), 3) := by decide +kernel
theorem dX5_isSame_180 : decode cX5_isSame 180 = .ok (.iconst 5, 1) := by decide +kernel
theorem dX5_isSame_181 : decode cX5_isSame 181 = .ok (.newarray .int, 2) := by decide +kernel
theorem dX5_isSame_183 : decode cX5_isSame 183 = .ok (.dup, 1) := by decide +kernel
theorem dX5_isSame_184 : decode cX5_isSame 184 = .ok (.iconst 0, 1) := by decide +kernel
theorem dX5_isSame_185 : decode cX5_isSame 185 = .ok (.aload_n 0, 1) := by decide +kernel
theorem dX5_isSame_186 : decode cX5_isSame 186 = .ok (.getfield 22, 3) := by decide +kernel
theorem dX5_isSame_189 : decode cX5_isSame 189 = .ok (.iload_n 2, 1) := by decide +kernel
theorem dX5_isSame_190 : decode cX5_isSame 190 = .ok (.aaload, 1) := by decide +kernel
theorem dX5_isSame_191 : decode cX5_isSame 191 = .ok (.iconst 0, 1) := by decide +kernel
theorem dX5_isSame_192 : decode cX5_isSame 192 = .ok (.iaload, 1) := by decide +kernel
theorem dX5_isSame_193 : decode cX5_isSame 193 = .ok (.iastore, 1) := by decide +kernel
theorem dX5_isSame_194 : decode cX5_isSame 194 = .ok (.dup, 1) := by decide +kernel
theorem dX5_isSame_195 : decode cX5_isSame 195 = .ok (.iconst 1, 1) := by decide +kernel
theorem dX5_isSame_196 : decode cX5_isSame 196 = .ok (.aload_n 0, 1) := by decide +kernel
theorem dX5_isSame_197 : decode cX5_isSame 197 = .ok (.getfield 22, 3) := by decide +kernel
theorem dX5_isSame_200 : decode cX5_isSame 200 = .ok (.iload_n 2, 1) := by decide +kernel
theorem dX5_isSame_201 : decode cX5_isSame 201 = .ok (.aaload, 1) := by decide +kernel
theorem dX5_isSame_202 : decode cX5_isSame 202 = .ok (.iconst 1, 1) := by decide +kernel
theorem dX5_isSame_203 : decode cX5_isSame 203 = .ok (.iaload, 1) := by decide +kernel
theorem dX5_isSame_204 : decode cX5_isSame 204 = .ok (.iastore, 1) := by decide +kernel
theorem dX5_isSame_205 : decode cX5_isSame 205 = .ok (.dup, 1) := by decide +kernel
theorem dX5_isSame_206 : decode cX5_isSame 206 = .ok (.iconst 2, 1) := by decide +kernel
theorem dX5_isSame_207 : decode cX5_isSame 207 = .ok (.aload_n 0, 1) := by decide +kernel
theorem dX5_isSame_208 : decode cX5_isSame 208 = .ok (.getfield 22, 3) := by decide +kernel
theorem dX5_isSame_211 : decode cX5_isSame 211 = .ok (.iload_n 2, 1) := by decide +kernel
theorem dX5_isSame_212 : decode cX5_isSame 212 = .ok (.aaload, 1) := by decide +kernel
theorem dX5_isSame_213 : decode cX5_isSame 213 = .ok (.iconst 2, 1) := by decide +kernel
theorem dX5_isSame_214 : decode cX5_isSame 214 = .ok (.iaload, 1) := by decide +kernel
theorem dX5_isSame_215 : decode cX5_isSame 215 = .ok (.iastore, 1) := by decide +kernel
theorem dX5_isSame_216 : decode cX5_isSame 216 = .ok (.dup, 1) := by decide +kernel
theorem dX5_isSame_217 : decode cX5_isSame 217 = .ok (.iconst 3, 1) := by decide +kernel
theorem dX5_isSame_218 : decode cX5_isSame 218 = .ok (.aload_n 0, 1) := by decide +kernel
theorem dX5_isSame_219 : decode cX5_isSame 219 = .ok (.iload_n 2, 1) := by decide +kernel
theorem dX5_isSame_220 : decode cX5_isSame 220 = .ok (.invokevirtual 72, 3) := by decide +kernel
theorem dX5_isSame_223 : decode cX5_isSame 223 = .ok (.iastore, 1) := by decide +kernel
theorem dX5_isSame_224 : decode cX5_isSame 224 = .ok (.dup, 1) := by decide +kernel
theorem dX5_isSame_225 : decode cX5_isSame 225 = .ok (.iconst 4, 1) := by decide +kernel
theorem dX5_isSame_226 : decode cX5_isSame 226 = .ok (.iload_n 3, 1) := by decide +kernel
theorem dX5_isSame_227 : decode cX5_isSame 227 = .ok (.iastore, 1) := by decide +kernel
theorem dX5_isSame_228 : decode cX5_isSame 228 = .ok (.astore 4, 2) := by decide +kernel
theorem dX5_isSame_230 : decode cX5_isSame 230 = .ok (.iconst 0, 1) := by decide +kernel
theorem dX5_isSame_231 : decode cX5_isSame 231 = .ok (.istore 5, 2) := by decide +kernel
theorem dX5_isSame_233 : decode cX5_isSame 233 = .ok (.iload 5, 2) := by decide +kernel
theorem dX5_isSame_235 : decode cX5_isSame 235 = .ok (.iconst 5, 1) := by decide +kernel
theorem dX5_isSame_236 : decode cX5_isSame 236 = .ok (.if_icmp .ge 26, 3) := by decide +kernel
theorem dX5_isSame_239 : decode cX5_isSame 239 = .ok (.aload_n 1, 1) := by decide +kernel
theorem dX5_isSame_240 : decode cX5_isSame 240 = .ok (.iload_n 2, 1) := by decide +kernel
theorem dX5_isSame_241 : decode cX5_isSame 241 = .ok (.iload 5, 2) := by decide +kernel
theorem dX5_isSame_243 : decode cX5_isSame 243 = .ok (.invokevirtual 85, 3) := by decide +kernel
theorem dX5_isSame_246 : decode cX5_isSame 246 = .ok (.aload 4, 2) := by decide +kernel
theorem dX5_isSame_248 : decode cX5_isSame 248 = .ok (.iload 5, 2) := by decide +kernel
theorem dX5_isSame_250 : decode cX5_isSame 250 = .ok (.iaload, 1) := by decide +kernel
theorem dX5_isSame_251 : decode cX5_isSame 251 = .ok (.if_icmp .eq 5, 3) := by decide +kernel
theorem dX5_isSame_254 : decode cX5_isSame 254 = .ok (.iconst 0, 1) := by decide +kernel
theorem dX5_isSame_255 : decode cX5_isSame 255 = .ok (.ireturn, 1) := by decide +kernel
theorem dX5_isSame_256 : decode cX5_isSame 256 = .ok (.iinc 5 1, 3) := by decide +kernel
theorem dX5_isSame_259 : decode cX5_isSame 259 = .ok (.goto (-26), 3) := by decide +kernel
theorem dX5_isSame_262 : decode cX5_isSame 262 = .ok (.iinc 2 1, 3) := by decide +kernel
theorem dX5_isSame_265 : decode cX5_isSame 265 = .ok (.goto (-165), 3) := by decide +kernel
theorem dX5_isSame_268 : decode cX5_isSame 268 = .ok (.iconst 0, 1) := by decide +kernel
theorem dX5_isSame_269 : decode cX5_isSame 269 = .ok (.istore_n 2, 1) := by decide +kernel
theorem dX5_isSame_270 : decode cX5_isSame 270 = .ok (.iconst 0, 1) := by decide +kernel
theorem dX5_isSame_271 : decode cX5_isSame 271 = .ok (.istore_n 3, 1) := by decide +kernel
theorem dX5_isSame_272 : decode cX5_isSame 272 = .ok (.iload_n 3, 1) := by decide +kernel
theorem dX5_isSame_273 : decode cX5_isSame 273 = .ok (.aload_n 0, 1) := by decide +kernel
theorem dX5_isSame_274 : decode cX5_isSame 274 = .ok (.getfield 25, 3) := by decide +kernel
theorem dX5_isSame_277 : decode cX5_isSame 277 = .ok (.arraylength, 1) := by decide +kernel
theorem dX5_isSame_278 : decode cX5_isSame 278 = .ok (.if_icmp .ge 57, 3) := by decide +kernel
theorem dX5_isSame_281 : decode cX5_isSame 281 = .ok (.iconst 0, 1) := by decide +kernel
theorem dX5_isSame_282 : decode cX5_isSame 282 = .ok (.istore 4, 2) := by decide +kernel
theorem dX5_isSame_284 : decode cX5_isSame 284 = .ok (.iload 4, 2) := by decide +kernel
theorem dX5_isSame_286 : decode cX5_isSame 286 = .ok (.bipush 6, 2) := by decide +kernel
theorem dX5_isSame_288 : decode cX5_isSame 288 = .ok (.if_icmp .ge 30, 3) := by decide +kernel
theorem dX5_isSame_291 : decode cX5_isSame 291 = .ok (.aload_n 1, 1) := by decide +kernel
theorem dX5_isSame_292 : decode cX5_isSame 292 = .ok (.iload_n 3, 1) := by decide +kernel
theorem dX5_isSame_293 : decode cX5_isSame 293 = .ok (.iload 4, 2) := by decide +kernel
theorem dX5_isSame_295 : decode cX5_isSame 295 = .ok (.invokevirtual 88, 3) := by decide +kernel
theorem dX5_isSame_298 : decode cX5_isSame 298 = .ok (.aload_n 0, 1) := by decide +kernel
theorem dX5_isSame_299 : decode cX5_isSame 299 = .ok (.getfield 25, 3) := by decide +kernel
theorem dX5_isSame_302 : decode cX5_isSame 302 = .ok (.iload_n 3, 1) := by decide +kernel
theorem dX5_isSame_303 : decode cX5_isSame 303 = .ok (.aaload, 1) := by decide +kernel
theorem dX5_isSame_304 : decode cX5_isSame 304 = .ok (.iload 4, 2) := by decide +kernel
theorem dX5_isSame_306 : decode cX5_isSame 306 = .ok (.iaload, 1) := by decide +kernel
theorem dX5_isSame_307 : decode cX5_isSame 307 = .ok (.if_icmp .eq 5, 3) := by decide +kernel
theorem dX5_isSame_310 : decode cX5_isSame 310 = .ok (.iconst 0, 1) := by decide +kernel
theorem dX5_isSame_311 : decode cX5_isSame 311 = .ok (.ireturn, 1) := by decide +kernel
theorem dX5_isSame_312 : decode cX5_isSame 312 = .ok (.iinc 4 1, 3) := by decide +kernel
theorem dX5_isSame_315 : decode cX5_isSame 315 = .ok (.goto (-31), 3) := by decide +kernel
theorem dX5_isSame_318 : decode cX5_isSame 318 = .ok (.iload_n 2, 1) := by decide +kernel
theorem dX5_isSame_319 : decode cX5_isSame 319 = .ok (.aload_n 0, 1) := by decide +kernel
theorem dX5_isSame_320 : decode cX5_isSame 320 = .ok (.getfield 25, 3) := by decide +kernel
theorem dX5_isSame_323 : decode cX5_isSame 323 = .ok (.iload_n 3, 1) := by decide +kernel
theorem dX5_isSame_324 : decode cX5_isSame 324 = .ok (.aaload, 1) := by decide +kernel
theorem dX5_isSame_325 : decode cX5_isSame 325 = .ok (.iconst 3, 1) := by decide +kernel
theorem dX5_isSame_326 : decode cX5_isSame 326 = .ok (.iaload, 1) := by decide +kernel
theorem dX5_isSame_327 : decode cX5_isSame 327 = .ok (.iadd, 1) := by decide +kernel
theorem dX5_isSame_328 : decode cX5_isSame 328 = .ok (.istore_n 2, 1) := by decide +kernel
theorem dX5_isSame_329 : decode cX5_isSame 329 = .ok (.iinc 3 1, 3) := by decide +kernel
theorem dX5_isSame_332 : decode cX5_isSame 332 = .ok (.goto (-60), 3) := by decide +kernel
theorem dX5_isSame_335 : decode cX5_isSame 335 = .ok (.iconst 0, 1) := by decide +kernel
theorem dX5_isSame_336 : decode cX5_isSame 336 = .ok (.istore_n 3, 1) := by decide +kernel
theorem dX5_isSame_337 : decode cX5_isSame 337 = .ok (.iload_n 3, 1) := by decide +kernel
theorem dX5_isSame_338 : decode cX5_isSame 338 = .ok (.aload_n 0, 1) := by decide +kernel
theorem dX5_isSame_339 : decode cX5_isSame 339 = .ok (.getfield 28, 3) := by decide +kernel
theorem dX5_isSame_342 : decode cX5_isSame 342 = .ok (.arraylength, 1) := by decide +kernel
theorem dX5_isSame_343 : decode cX5_isSame 343 = .ok (.if_icmp .ge 45, 3) := by decide +kernel
theorem dX5_isSame_346 : decode cX5_isSame 346 = .ok (.iconst 0, 1) := by decide +kernel
theorem dX5_isSame_347 : decode cX5_isSame 347 = .ok (.istore 4, 2) := by decide +kernel
theorem dX5_isSame_349 : decode cX5_isSame 349 = .ok (.iload 4, 2) := by decide +kernel
theorem dX5_isSame_351 : decode cX5_isSame 351 = .ok (.iconst 4, 1) := by decide +kernel
theorem dX5_isSame_352 : decode cX5_isSame 352 = .ok (.if_icmp .ge 30, 3) := by decide +kernel
theorem dX5_isSame_355 : decode cX5_isSame 355 = .ok (.aload_n 1, 1) := by decide +kernel
theorem dX5_isSame_356 : decode cX5_isSame 356 = .ok (.iload_n 3, 1) := by decide +kernel
theorem dX5_isSame_357 : decode cX5_isSame 357 = .ok (.iload 4, 2) := by decide +kernel
theorem dX5_isSame_359 : decode cX5_isSame 359 = .ok (.invokevirtual 91, 3) := by decide +kernel
theorem dX5_isSame_362 : decode cX5_isSame 362 = .ok (.aload_n 0, 1) := by decide +kernel
theorem dX5_isSame_363 : decode cX5_isSame 363 = .ok (.getfield 28, 3) := by decide +kernel
theorem dX5_isSame_366 : decode cX5_isSame 366 = .ok (.iload_n 3, 1) := by decide +kernel
theorem dX5_isSame_367 : decode cX5_isSame 367 = .ok (.aaload, 1) := by decide +kernel
theorem dX5_isSame_368 : decode cX5_isSame 368 = .ok (.iload 4, 2) := by decide +kernel
theorem dX5_isSame_370 : decode cX5_isSame 370 = .ok (.iaload, 1) := by decide +kernel
theorem dX5_isSame_371 : decode cX5_isSame 371 = .ok (.if_icmp .eq 5, 3) := by decide +kernel
theorem dX5_isSame_374 : decode cX5_isSame 374 = .ok (.iconst 0, 1) := by decide +kernel
theorem dX5_isSame_375 : decode cX5_isSame 375 = .ok (.ireturn, 1) := by decide +kernel
theorem dX5_isSame_376 : decode cX5_isSame 376 = .ok (.iinc 4 1, 3) := by decide +kernel
theorem dX5_isSame_379 : decode cX5_isSame 379 = .ok (.goto (-30), 3) := by decide +kernel
theorem dX5_isSame_382 : decode cX5_isSame 382 = .ok (.iinc 3 1, 3) := by decide +kernel
theorem dX5_isSame_385 : decode cX5_isSame 385 = .ok (.goto (-48), 3) := by decide +kernel
theorem dX5_isSame_388 : decode cX5_isSame 388 = .ok (.aload_n 0, 1) := by decide +kernel
theorem dX5_isSame_389 : decode cX5_isSame 389 = .ok (.invokevirtual 94, 3) := by decide +kernel
theorem dX5_isSame_392 : decode cX5_isSame 392 = .ok (.astore_n 3, 1) := by decide +kernel
theorem dX5_isSame_393 : decode cX5_isSame 393 = .ok (.iconst 0, 1) := by decide +kernel
theorem dX5_isSame_394 : decode cX5_isSame 394 = .ok (.istore 4, 2) := by decide +kernel
theorem dX5_isSame_396 : decode cX5_isSame 396 = .ok (.iload 4, 2) := by decide +kernel
theorem dX5_isSame_398 : decode cX5_isSame 398 = .ok (.bipush 9, 2) := by decide +kernel
theorem dX5_isSame_400 : decode cX5_isSame 400 = .ok (.if_icmp .ge 24, 3) := by decide +kernel
theorem dX5_isSame_403 : decode cX5_isSame 403 = .ok (.aload_n 1, 1) := by decide +kernel
theorem dX5_isSame_404 : decode cX5_isSame 404 = .ok (.iload 4, 2) := by decide +kernel
theorem dX5_isSame_406 : decode cX5_isSame 406 = .ok (.invokevirtual 98, 3) := by decide +kernel
theorem dX5_isSame_409 : decode cX5_isSame 409 = .ok (.aload_n 3, 1) := by decide +kernel
theorem dX5_isSame_410 : decode cX5_isSame 410 = .ok (.iload 4, 2) := by decide +kernel
theorem dX5_isSame_412 : decode cX5_isSame 412 = .ok (.iaload, 1) := by decide +kernel
theorem dX5_isSame_413 : decode cX5_isSame 413 = .ok (.if_icmp .eq 5, 3) := by decide +kernel
theorem dX5_isSame_416 : decode cX5_isSame 416 = .ok (.iconst 0, 1) := by decide +kernel
theorem dX5_isSame_417 : decode cX5_isSame 417 = .ok (.ireturn, 1) := by decide +kernel
theorem dX5_isSame_418 : decode cX5_isSame 418 = .ok (.iinc 4 1, 3) := by decide +kernel
theorem dX5_isSame_421 : decode cX5_isSame 421 = .ok (.goto (-25), 3) := by decide +kernel
theorem dX5_isSame_424 : decode cX5_isSame 424 = .ok (.aload_n 1, 1) := by decide +kernel
theorem dX5_isSame_425 : decode cX5_isSame 425 = .ok (.invokevirtual 101, 3) := by decide +kernel
theorem dX5_isSame_428 : decode cX5_isSame 428 = .ok (.aload_n 0, 1) := by decide +kernel
theorem dX5_isSame_429 : decode cX5_isSame 429 = .ok (.getfield 25, 3) := by decide +kernel
theorem dX5_isSame_432 : decode cX5_isSame 432 = .ok (.arraylength, 1) := by decide +kernel
theorem dX5_isSame_433 : decode cX5_isSame 433 = .ok (.ifCond .ne 7, 3) := by decide +kernel
theorem dX5_isSame_436 : decode cX5_isSame 436 = .ok (.dconst 0, 1) := by decide +kernel
theorem dX5_isSame_437 : decode cX5_isSame 437 = .ok (.goto 12, 3) := by decide +kernel
theorem dX5_isSame_440 : decode cX5_isSame 440 = .ok (.iload_n 2, 1) := by decide +kernel
theorem dX5_isSame_441 : decode cX5_isSame 441 = .ok (.i2d, 1) := by decide +kernel
theorem dX5_isSame_442 : decode cX5_isSame 442 = .ok (.aload_n 0, 1) := by decide +kernel
theorem dX5_isSame_443 : decode cX5_isSame 443 = .ok (.getfield 25, 3) := by decide +kernel
theorem dX5_isSame_446 : decode cX5_isSame 446 = .ok (.arraylength, 1) := by decide +kernel
theorem dX5_isSame_447 : decode cX5_isSame 447 = .ok (.i2d, 1) := by decide +kernel
theorem dX5_isSame_448 : decode cX5_isSame 448 = .ok (.ddiv, 1) := by decide +kernel
theorem dX5_isSame_449 : decode cX5_isSame 449 = .ok (.dcmp .l, 1) := by decide +kernel
theorem dX5_isSame_450 : decode cX5_isSame 450 = .ok (.ifCond .ne 7, 3) := by decide +kernel
theorem dX5_isSame_453 : decode cX5_isSame 453 = .ok (.iconst 1, 1) := by decide +kernel
theorem dX5_isSame_454 : decode cX5_isSame 454 = .ok (.goto 4, 3) := by decide +kernel
theorem dX5_isSame_457 : decode cX5_isSame 457 = .ok (.iconst 0, 1) := by decide +kernel
theorem dX5_isSame_458 : decode cX5_isSame 458 = .ok (.ireturn, 1) := by decide +kernel
theorem cellF_0 {v : Vw} {x y : Nat} : cellF v x y 0 = v 0 (9 * y + x) := if_pos rfl
theorem cellF_1 {v : Vw} {x y : Nat} : cellF v x y 1 = v 1 (9 * y + x) := by
  unfold cellF
  rw [if_neg (by decide), if_pos rfl]
theorem cellF_2 {v : Vw} {x y : Nat} : cellF v x y 2 = openIn v (nI x) (nI y) := by
  unfold cellF
  rw [if_neg (by decide), if_neg (by decide), if_pos rfl]
theorem cellF_3 {v : Vw} {x y : Nat} : cellF v x y 3 = would v (9 * y + x) := by
  unfold cellF
  rw [if_neg (by decide), if_neg (by decide), if_neg (by decide)]
theorem sprF_n {v : Vw} {k j : Nat} (hj : j < 6) : sprF v k (nI j) = rS v k j := by
  rcases (show j = 0 ∨ j = 1 ∨ j = 2 ∨ j = 3 ∨ j = 4 ∨ j = 5 by omega) with rfl | rfl | rfl | rfl | rfl | rfl
  · exact if_pos rfl
  · unfold sprF; rw [if_neg (by decide), if_pos (by decide)]; rfl
  · unfold sprF; rw [if_neg (by decide), if_neg (by decide), if_pos (by decide)]; rfl
  · unfold sprF; rw [if_neg (by decide), if_neg (by decide), if_neg (by decide), if_pos (by decide)]; rfl
  · unfold sprF; rw [if_neg (by decide), if_neg (by decide), if_neg (by decide), if_neg (by decide), if_pos (by decide)]; rfl
  · unfold sprF; rw [if_neg (by decide), if_neg (by decide), if_neg (by decide), if_neg (by decide), if_neg (by decide)]; rfl
theorem warF_n {v : Vw} {k j : Nat} (hj : j < 4) : warF v k (nI j) = rW v k j := by
  rcases (show j = 0 ∨ j = 1 ∨ j = 2 ∨ j = 3 by omega) with rfl | rfl | rfl | rfl
  · exact if_pos rfl
  · unfold warF; rw [if_neg (by decide), if_pos (by decide)]; rfl
  · unfold warF; rw [if_neg (by decide), if_neg (by decide), if_pos (by decide)]; rfl
  · unfold warF; rw [if_neg (by decide), if_neg (by decide), if_neg (by decide)]; rfl
theorem in_W {v : Vw} (hv : Inv v) {k : Nat} (hk : k < nW v) : isIn (nI k) 0 (v 16 2 - 1) = true := by
  have := hv.lW
  rw [hv.eW]; exact in_cn _ (by omega) _ hk
theorem in_5 : ∀ j, j < 6 → isIn (nI j) 0 5 = true := by decide +kernel
theorem in_3 : ∀ j, j < 4 → isIn (nI j) 0 3 = true := by decide +kernel
theorem in_4 : ∀ j, j < 5 → isIn (nI j) 0 4 = true := by decide +kernel
theorem in_8 : ∀ j, j < 9 → isIn (nI j) 0 8 = true := by decide +kernel
set_option maxHeartbeats 4000000 in
set_option maxRecDepth 100000 in
theorem z_cells {p : Program} {l : Launch} {e : Jvm.Env} {R : Room} {s : State} {m : MethodId} {args : Array Value} {below : List Frame} {meth : Method} {c : Code} {Q : State → Prop} {g : Gm} {cells slots n : Nat} {M : Mem} {o : Nat → Int64} {H : Heap} {locs : List Loc} {ls : Array Slot} {v : Vw} (hC : CallFix p m c cX5_isSame 8 s args LG RX5) (hE : Ev g s) (hR : 8 ≤ R.frames ∧ 200 ≤ R.locals) (hf : cells ≤ R.cells ∧ slots ≤ R.slots) (hI : IJ g (KK g)) (hW : Lw n v) (hL : SimL g v) (e0 : M 0 = v) (hP : WP g (setR M 2 v) o H) (hS : va_S (AA g) s.heap H locs) (IH : ∀ (H : Heap) (locs : List Loc) (ls : Array Slot), WP g (setR M 2 v) o H → va_S (AA g) s.heap H locs → lv_has ls 8 [(0, .ref (ad g (20, 0, 0))), (1, .ref (ad g (8, 0, 0)))] → W p l e R s m args below meth c H locs cells slots Q (F0 m 98 ls [])) (hl : lv_has ls 8 [(0, .ref (ad g (20, 0, 0))), (1, .ref (ad g (8, 0, 0)))]) : W p l e R s m args below meth c H locs cells slots Q (F0 m 0 ls []) := by
  obtain ⟨hx, hb, hml, hown, hG⟩ := id hC
  have hv := hW.iv
  have qH := hv.lH
  have qS := hv.lS
  have qW := hv.lW
  refine lv_iconst (v := 0) hx hb dX5_isSame_0 (by decide) ?_
  refine lv_istore_n (lv' := [(2, .int ((0 : Int32))), (0, .ref (ad g (20, 0, 0))), (1, .ref (ad g (8, 0, 0)))]) hx hb dX5_isSame_1 rfl hl (by decide) rfl (fun ls hl => ?_)
  refine lp_W (i0 := 0) 9 (fun i => ent g (setR M 2 v) o) (fun i => [(2, .int (nI i)), (0, .ref (ad g (20, 0, 0))), (1, .ref (ad g (8, 0, 0)))]) (fun i => True) (Nat.zero_le _) (hP.castR (rfl)) hS (lv_sub hl [0, 1, 2] rfl) (trivial) (fun H locs ls hP hS hl J => ?_) (fun i hi IH H locs ls hP hS hl J => ?_)
  · refine lv_iload_n hx hb dX5_isSame_2 rfl (lv_at hl 0 rfl) ?_
    refine lv_bipush (v := 9) hx hb dX5_isSame_3 (by decide) ?_
    refine lv_icmp_ge (tgt := 98) hx hb dX5_isSame_5 (by decide) (fun c1 => ?_) (fun c1 => absurd (nI_le (a := 9) (b := 9) (Nat.le_refl _) (by omega)) c1)
    exact IH H locs ls hP hS (lv_sub hl [1, 2] rfl)
  · refine lv_iload_n hx hb dX5_isSame_2 rfl (lv_at hl 0 rfl) ?_
    refine lv_bipush (v := 9) hx hb dX5_isSame_3 (by decide) ?_
    refine lv_icmp_ge (tgt := 98) hx hb dX5_isSame_5 (by decide) (fun c2 => absurd c2 (nI_ge (b := 9) hi (by omega))) (fun c2 => ?_)
    refine lv_iconst (v := 0) hx hb dX5_isSame_8 (by decide) ?_
    refine lv_istore_n (lv' := [(3, .int ((0 : Int32))), (2, .int (nI i)), (0, .ref (ad g (20, 0, 0))), (1, .ref (ad g (8, 0, 0)))]) hx hb dX5_isSame_9 rfl hl (by decide) rfl (fun ls hl => ?_)
    refine lp_W (i0 := 0) 9 (fun j => ent g (setR M 2 v) o) (fun j => [(3, .int (nI j)), (2, .int (nI i)), (0, .ref (ad g (20, 0, 0))), (1, .ref (ad g (8, 0, 0)))]) (fun j => True) (Nat.zero_le _) (hP.castR (rfl)) hS (lv_sub hl [0, 1, 2, 3] rfl) (trivial) (fun H locs ls hP hS hl J => ?_) (fun j hj IHj H locs ls hP hS hl J => ?_)
    · refine lv_iload_n hx hb dX5_isSame_10 rfl (lv_at hl 0 rfl) ?_
      refine lv_bipush (v := 9) hx hb dX5_isSame_11 (by decide) ?_
      refine lv_icmp_ge (tgt := 92) hx hb dX5_isSame_13 (by decide) (fun c3 => ?_) (fun c3 => absurd (nI_le (a := 9) (b := 9) (Nat.le_refl _) (by omega)) c3)
      refine lv_iinc (v := nI (i + 1)) (lv' := [(2, .int (nI (i + 1))), (3, .int (nI 9)), (0, .ref (ad g (20, 0, 0))), (1, .ref (ad g (8, 0, 0)))]) hx hb dX5_isSame_92 hl (k := 1) rfl (nI_1 _) (by decide) rfl (fun ls hl => ?_)
      refine lv_goto (tgt := 2) hx hb dX5_isSame_95 (by decide) ?_
      exact IH H locs ls (hP.castR (rfl)) hS (lv_sub hl [0, 2, 3] rfl) (trivial)
    · refine lv_iload_n hx hb dX5_isSame_10 rfl (lv_at hl 0 rfl) ?_
      refine lv_bipush (v := 9) hx hb dX5_isSame_11 (by decide) ?_
      refine lv_icmp_ge (tgt := 92) hx hb dX5_isSame_13 (by decide) (fun c4 => absurd c4 (nI_ge (b := 9) hj (by omega))) (fun c4 => ?_)
      refine lv_aload_n hx hb dX5_isSame_16 rfl (lv_at hl 3 rfl) ?_
      refine lv_iload_n hx hb dX5_isSame_17 rfl (lv_at hl 1 rfl) ?_
      refine lv_iload_n hx hb dX5_isSame_18 rfl (lv_at hl 0 rfl) ?_
      refine lv_iconst (v := 0) hx hb dX5_isSame_19 (by decide) ?_
      refine on_i (run_V hC hE hP hS (As := [.int (nI i), .int (nI j), .int ((0 : Int32))]) (q_cell l hI (o := o) hv i j hi hj (0 : Int32) (cell_in hi hj) (by decide) e0) cal_X4_cell w_539 ⟨by show _ + 1 ≤ R.frames; simp only; omega, by show _ + _ ≤ R.locals; simp only; omega⟩ k_8 f_8 rfl rfl rfl (Nat.le_of_ble_eq_true rfl) hl.1 hf dX5_isSame_20) hS (fun H locs hP hS => ?_)
      refine lv_aload_n hx hb dX5_isSame_23 rfl (lv_at hl 2 rfl) ?_
      refine m_get hC hE hP (k_20 hL) e_20 rfl u_5 0 (by decide) w_649 rfl rfl dX5_isSame_24 ?_
      refine lv_iload_n hx hb dX5_isSame_27 rfl (lv_at hl 1 rfl) ?_
      refine m_aalA hC hE hP (k_26 hL (by decide)) f_26 i (rfl) (show i < 9 from by omega) (by decide) dX5_isSame_28 ?_
      refine lv_iload_n hx hb dX5_isSame_29 rfl (lv_at hl 0 rfl) ?_
      refine m_iald hC hE hP (k_21 hL (by decide) (by omega)) e_21 j (rfl) (show j < 9 from by omega) (by decide) dX5_isSame_30 ?_
      refine m_top (y := v 0 (9 * j + i)) rfl ?_
      refine lv_icmp_ne (tgt := 84) hx hb dX5_isSame_31 (by decide) (fun c5 => absurd (cellF_0) c5) (fun c5 => ?_)
      refine lv_aload_n hx hb dX5_isSame_34 rfl (lv_at hl 3 rfl) ?_
      refine lv_iload_n hx hb dX5_isSame_35 rfl (lv_at hl 1 rfl) ?_
      refine lv_iload_n hx hb dX5_isSame_36 rfl (lv_at hl 0 rfl) ?_
      refine lv_iconst (v := 1) hx hb dX5_isSame_37 (by decide) ?_
      refine on_i (run_V hC hE hP hS (As := [.int (nI i), .int (nI j), .int ((1 : Int32))]) (q_cell l hI (o := o) hv i j hi hj (1 : Int32) (cell_in hi hj) (by decide) e0) cal_X4_cell w_539 ⟨by show _ + 1 ≤ R.frames; simp only; omega, by show _ + _ ≤ R.locals; simp only; omega⟩ k_8 f_8 rfl rfl rfl (Nat.le_of_ble_eq_true rfl) hl.1 hf dX5_isSame_38) hS (fun H locs hP hS => ?_)
      refine lv_aload_n hx hb dX5_isSame_41 rfl (lv_at hl 2 rfl) ?_
      refine m_get hC hE hP (k_20 hL) e_20 rfl u_5 1 (by decide) w_651 rfl rfl dX5_isSame_42 ?_
      refine lv_iload_n hx hb dX5_isSame_45 rfl (lv_at hl 1 rfl) ?_
      refine m_aalA hC hE hP (k_26 hL (by decide)) f_26 i (rfl) (show i < 9 from by omega) (by decide) dX5_isSame_46 ?_
      refine lv_iload_n hx hb dX5_isSame_47 rfl (lv_at hl 0 rfl) ?_
      refine m_iald hC hE hP (k_21 hL (by decide) (by omega)) e_21 j (rfl) (show j < 9 from by omega) (by decide) dX5_isSame_48 ?_
      refine m_top (y := v 1 (9 * j + i)) rfl ?_
      refine lv_icmp_ne (tgt := 84) hx hb dX5_isSame_49 (by decide) (fun c6 => absurd (cellF_1) c6) (fun c6 => ?_)
      refine lv_aload_n hx hb dX5_isSame_52 rfl (lv_at hl 3 rfl) ?_
      refine lv_iload_n hx hb dX5_isSame_53 rfl (lv_at hl 1 rfl) ?_
      refine lv_iload_n hx hb dX5_isSame_54 rfl (lv_at hl 0 rfl) ?_
      refine lv_iconst (v := 2) hx hb dX5_isSame_55 (by decide) ?_
      refine on_i (run_V hC hE hP hS (As := [.int (nI i), .int (nI j), .int ((2 : Int32))]) (q_cell l hI (o := o) hv i j hi hj (2 : Int32) (cell_in hi hj) (by decide) e0) cal_X4_cell w_539 ⟨by show _ + 1 ≤ R.frames; simp only; omega, by show _ + _ ≤ R.locals; simp only; omega⟩ k_8 f_8 rfl rfl rfl (Nat.le_of_ble_eq_true rfl) hl.1 hf dX5_isSame_56) hS (fun H locs hP hS => ?_)
      refine lv_aload_n hx hb dX5_isSame_59 rfl (lv_at hl 2 rfl) ?_
      refine lv_iload_n hx hb dX5_isSame_60 rfl (lv_at hl 1 rfl) ?_
      refine lv_iload_n hx hb dX5_isSame_61 rfl (lv_at hl 0 rfl) ?_
      refine on_i (run_V hC hE hP hS (As := [.int (nI i), .int (nI j)]) (c_openAtS l hI hv hL (nI i) (nI j)) cal_X5_openAt w_540 ⟨by show _ + 1 ≤ R.frames; simp only; omega, by show _ + _ ≤ R.locals; simp only; omega⟩ (k_20 hL) e_20 rfl rfl rfl (Nat.le_of_ble_eq_true rfl) hl.1 hf dX5_isSame_62) hS (fun H locs hP hS => ?_)
      refine lv_icmp_ne (tgt := 84) hx hb dX5_isSame_65 (by decide) (fun c7 => absurd (cellF_2.trans (lst1_o hv hW.2.1).symm) c7) (fun c7 => ?_)
      refine lv_aload_n hx hb dX5_isSame_68 rfl (lv_at hl 3 rfl) ?_
      refine lv_iload_n hx hb dX5_isSame_69 rfl (lv_at hl 1 rfl) ?_
      refine lv_iload_n hx hb dX5_isSame_70 rfl (lv_at hl 0 rfl) ?_
      refine lv_iconst (v := 3) hx hb dX5_isSame_71 (by decide) ?_
      refine on_i (run_V hC hE hP hS (As := [.int (nI i), .int (nI j), .int ((3 : Int32))]) (q_cell l hI (o := o) hv i j hi hj (3 : Int32) (cell_in hi hj) (by decide) e0) cal_X4_cell w_539 ⟨by show _ + 1 ≤ R.frames; simp only; omega, by show _ + _ ≤ R.locals; simp only; omega⟩ k_8 f_8 rfl rfl rfl (Nat.le_of_ble_eq_true rfl) hl.1 hf dX5_isSame_72) hS (fun H locs hP hS => ?_)
      refine lv_aload_n hx hb dX5_isSame_75 rfl (lv_at hl 2 rfl) ?_
      refine lv_iload_n hx hb dX5_isSame_76 rfl (lv_at hl 1 rfl) ?_
      refine lv_iload_n hx hb dX5_isSame_77 rfl (lv_at hl 0 rfl) ?_
      refine on_i (run_V hC hE hP hS (As := [.int (nI i), .int (nI j)]) (c_wouldS l hI hL i j hi hj (hv.hC _ (by omega)).pos) cal_X5_would w_516 ⟨by show _ + 1 ≤ R.frames; simp only; omega, by show _ + _ ≤ R.locals; simp only; omega⟩ (k_20 hL) e_20 rfl rfl rfl (Nat.le_of_ble_eq_true rfl) hl.1 hf dX5_isSame_78) hS (fun H locs hP hS => ?_)
      refine lv_icmp_eq (tgt := 86) hx hb dX5_isSame_81 (by decide) (fun c8 => ?_) (fun c8 => absurd (cellF_3) c8)
      refine lv_iinc (v := nI (j + 1)) (lv' := [(3, .int (nI (j + 1))), (2, .int (nI i)), (0, .ref (ad g (20, 0, 0))), (1, .ref (ad g (8, 0, 0)))]) hx hb dX5_isSame_86 hl (k := 0) rfl (nI_1 _) (by decide) rfl (fun ls hl => ?_)
      refine lv_goto (tgt := 10) hx hb dX5_isSame_89 (by decide) ?_
      exact IHj H locs ls (hP.castR (rfl)) hS (lv_sub hl [0, 1, 2, 3] rfl) (trivial)
set_option maxHeartbeats 4000000 in
set_option maxRecDepth 100000 in
theorem z_sprs {p : Program} {l : Launch} {e : Jvm.Env} {R : Room} {s : State} {m : MethodId} {args : Array Value} {below : List Frame} {meth : Method} {c : Code} {Q : State → Prop} {g : Gm} {cells slots n : Nat} {M : Mem} {o : Nat → Int64} {H : Heap} {locs : List Loc} {ls : Array Slot} {v : Vw} (hC : CallFix p m c cX5_isSame 8 s args LG RX5) (hE : Ev g s) (hR : 8 ≤ R.frames ∧ 200 ≤ R.locals) (hf : cells ≤ R.cells ∧ slots ≤ R.slots) (hI : IJ g (KK g)) (hW : Lw n v) (hL : SimL g v) (e0 : M 0 = v) (hP : WP g (setR M 2 v) o H) (hS : va_S (AA g) s.heap H locs) (IH : ∀ (H : Heap) (locs : List Loc) (ls : Array Slot), WP g (setR M 2 v) o H → va_S (AA g) s.heap H locs → lv_has ls 8 [(0, .ref (ad g (20, 0, 0))), (1, .ref (ad g (8, 0, 0))), (2, .int (sumI (v 9) (nS v)))] → W p l e R s m args below meth c H locs cells slots Q (F0 m 335 ls [])) (hl : lv_has ls 8 [(0, .ref (ad g (20, 0, 0))), (1, .ref (ad g (8, 0, 0)))]) : W p l e R s m args below meth c H locs cells slots Q (F0 m 268 ls []) := by
  obtain ⟨hx, hb, hml, hown, hG⟩ := id hC
  have hv := hW.iv
  have qH := hv.lH
  have qS := hv.lS
  have qW := hv.lW
  refine lv_iconst (v := 0) hx hb dX5_isSame_268 (by decide) ?_
  refine lv_istore_n (lv' := [(2, .int ((0 : Int32))), (0, .ref (ad g (20, 0, 0))), (1, .ref (ad g (8, 0, 0)))]) hx hb dX5_isSame_269 rfl hl (by decide) rfl (fun ls hl => ?_)
  refine lv_iconst (v := 0) hx hb dX5_isSame_270 (by decide) ?_
  refine lv_istore_n (lv' := [(3, .int ((0 : Int32))), (2, .int ((0 : Int32))), (0, .ref (ad g (20, 0, 0))), (1, .ref (ad g (8, 0, 0)))]) hx hb dX5_isSame_271 rfl hl (by decide) rfl (fun ls hl => ?_)
  refine lp_W (i0 := 0) (nS v) (fun i => ent g (setR M 2 v) o) (fun i => [(3, .int (nI i)), (2, .int (sumI (v 9) i)), (0, .ref (ad g (20, 0, 0))), (1, .ref (ad g (8, 0, 0)))]) (fun i => True) (Nat.zero_le _) (hP.castR (rfl)) hS (by show lv_has ls _ [(3, .int (nI 0)), (2, .int (sumI (v 9) 0)), (0, .ref (ad g (20, 0, 0))), (1, .ref (ad g (8, 0, 0)))]; rw [show sumI (v 9) 0 = (0 : Int32) from rfl]; exact lv_sub hl [0, 1, 2, 3] rfl) (trivial) (fun H locs ls hP hS hl J => ?_) (fun i hi IH H locs ls hP hS hl J => ?_)
  · refine lv_iload_n hx hb dX5_isSame_272 rfl (lv_at hl 0 rfl) ?_
    refine lv_aload_n hx hb dX5_isSame_273 rfl (lv_at hl 2 rfl) ?_
    refine m_get hC hE hP (k_20 hL) e_20 rfl u_5 4 (by decide) w_657 rfl rfl dX5_isSame_274 ?_
    refine m_alnA hC hE hP (k_28 hL) e_28 (congrArg nI Cn.rf.2.1) dX5_isSame_277 ?_
    refine lv_icmp_ge (tgt := 335) hx hb dX5_isSame_278 (by decide) (fun c1 => ?_) (fun c1 => absurd (nI_le (Nat.le_refl _) (by omega)) c1)
    exact IH H locs ls hP hS (lv_sub hl [2, 3, 1] rfl)
  · refine lv_iload_n hx hb dX5_isSame_272 rfl (lv_at hl 0 rfl) ?_
    refine lv_aload_n hx hb dX5_isSame_273 rfl (lv_at hl 2 rfl) ?_
    refine m_get hC hE hP (k_20 hL) e_20 rfl u_5 4 (by decide) w_657 rfl rfl dX5_isSame_274 ?_
    refine m_alnA hC hE hP (k_28 hL) e_28 (congrArg nI Cn.rf.2.1) dX5_isSame_277 ?_
    refine lv_icmp_ge (tgt := 335) hx hb dX5_isSame_278 (by decide) (fun c2 => absurd c2 (nI_ge hi (by omega))) (fun c2 => ?_)
    refine lv_iconst (v := 0) hx hb dX5_isSame_281 (by decide) ?_
    refine lv_istore (lv' := [(4, .int ((0 : Int32))), (3, .int (nI i)), (2, .int (sumI (v 9) i)), (0, .ref (ad g (20, 0, 0))), (1, .ref (ad g (8, 0, 0)))]) hx hb dX5_isSame_282 hl (by decide) rfl (fun ls hl => ?_)
    refine lp_W (i0 := 0) 6 (fun j => ent g (setR M 2 v) o) (fun j => [(4, .int (nI j)), (3, .int (nI i)), (2, .int (sumI (v 9) i)), (0, .ref (ad g (20, 0, 0))), (1, .ref (ad g (8, 0, 0)))]) (fun j => True) (Nat.zero_le _) (hP.castR (rfl)) hS (lv_sub hl [0, 1, 2, 3, 4] rfl) (trivial) (fun H locs ls hP hS hl J => ?_) (fun j hj IHj H locs ls hP hS hl J => ?_)
    · refine lv_iload hx hb dX5_isSame_284 (lv_at hl 0 rfl) ?_
      refine lv_bipush (v := 6) hx hb dX5_isSame_286 (by decide) ?_
      refine lv_icmp_ge (tgt := 318) hx hb dX5_isSame_288 (by decide) (fun c3 => ?_) (fun c3 => absurd (nI_le (a := 6) (b := 6) (Nat.le_refl _) (by omega)) c3)
      refine lv_iload_n hx hb dX5_isSame_318 rfl (lv_at hl 2 rfl) ?_
      refine lv_aload_n hx hb dX5_isSame_319 rfl (lv_at hl 3 rfl) ?_
      refine m_get hC hE hP (k_20 hL) e_20 rfl u_5 4 (by decide) w_657 rfl rfl dX5_isSame_320 ?_
      refine lv_iload_n hx hb dX5_isSame_323 rfl (lv_at hl 1 rfl) ?_
      refine m_aalA hC hE hP (k_28 hL) e_28 i (rfl) (Cn.rf.lS (by omega)) (Cn.rf.bS (by omega)) dX5_isSame_324 ?_
      refine lv_iconst (v := 3) hx hb dX5_isSame_325 (by decide) ?_
      refine m_iald hC hE hP (k_24 hL (by omega)) e_24 3 (rfl) (show 3 < 6 from by omega) (by decide) dX5_isSame_326 ?_
      refine m_top (y := v 9 i) rfl ?_
      refine lv_iadd hx hb dX5_isSame_327 ?_
      refine lv_istore_n (lv' := [(2, .int ((sumI (v 9) i) + (v 9 i))), (4, .int (nI 6)), (3, .int (nI i)), (0, .ref (ad g (20, 0, 0))), (1, .ref (ad g (8, 0, 0)))]) hx hb dX5_isSame_328 rfl hl (by decide) rfl (fun ls hl => ?_)
      refine lv_iinc (v := nI (i + 1)) (lv' := [(3, .int (nI (i + 1))), (2, .int ((sumI (v 9) i) + (v 9 i))), (4, .int (nI 6)), (0, .ref (ad g (20, 0, 0))), (1, .ref (ad g (8, 0, 0)))]) hx hb dX5_isSame_329 hl (k := 2) rfl (nI_1 _) (by decide) rfl (fun ls hl => ?_)
      refine lv_goto (tgt := 272) hx hb dX5_isSame_332 (by decide) ?_
      exact IH H locs ls (hP.castR (rfl)) hS (by show lv_has ls _ [(3, .int (nI (i + 1))), (2, .int (sumI (v 9) (i + 1))), (0, .ref (ad g (20, 0, 0))), (1, .ref (ad g (8, 0, 0)))]; rw [show sumI (v 9) (i + 1) = (sumI (v 9) i) + (v 9 i) from rfl]; exact lv_sub hl [0, 1, 3, 4] rfl) (trivial)
    · refine lv_iload hx hb dX5_isSame_284 (lv_at hl 0 rfl) ?_
      refine lv_bipush (v := 6) hx hb dX5_isSame_286 (by decide) ?_
      refine lv_icmp_ge (tgt := 318) hx hb dX5_isSame_288 (by decide) (fun c4 => absurd c4 (nI_ge (b := 6) hj (by omega))) (fun c4 => ?_)
      refine lv_aload_n hx hb dX5_isSame_291 rfl (lv_at hl 4 rfl) ?_
      refine lv_iload_n hx hb dX5_isSame_292 rfl (lv_at hl 1 rfl) ?_
      refine lv_iload hx hb dX5_isSame_293 (lv_at hl 0 rfl) ?_
      refine on_i (run_V hC hE hP hS (As := [.int (nI i), .int (nI j)]) (q_spearer l hI (o := o) hv i hi (nI j) (in_S hv hi) (in_5 j hj) e0) cal_X4_spearer w_545 ⟨by show _ + 1 ≤ R.frames; simp only; omega, by show _ + _ ≤ R.locals; simp only; omega⟩ k_8 f_8 rfl rfl rfl (Nat.le_of_ble_eq_true rfl) hl.1 hf dX5_isSame_295) hS (fun H locs hP hS => ?_)
      refine lv_aload_n hx hb dX5_isSame_298 rfl (lv_at hl 3 rfl) ?_
      refine m_get hC hE hP (k_20 hL) e_20 rfl u_5 4 (by decide) w_657 rfl rfl dX5_isSame_299 ?_
      refine lv_iload_n hx hb dX5_isSame_302 rfl (lv_at hl 1 rfl) ?_
      refine m_aalA hC hE hP (k_28 hL) e_28 i (rfl) (Cn.rf.lS (by omega)) (Cn.rf.bS (by omega)) dX5_isSame_303 ?_
      refine lv_iload hx hb dX5_isSame_304 (lv_at hl 0 rfl) ?_
      refine m_iald hC hE hP (k_24 hL (by omega)) e_24 j (rfl) (show j < 6 from by omega) (by decide) dX5_isSame_306 ?_
      refine m_top (y := rS v i j) rfl ?_
      refine lv_icmp_eq (tgt := 312) hx hb dX5_isSame_307 (by decide) (fun c5 => ?_) (fun c5 => absurd (sprF_n hj) c5)
      refine lv_iinc (v := nI (j + 1)) (lv' := [(4, .int (nI (j + 1))), (3, .int (nI i)), (2, .int (sumI (v 9) i)), (0, .ref (ad g (20, 0, 0))), (1, .ref (ad g (8, 0, 0)))]) hx hb dX5_isSame_312 hl (k := 0) rfl (nI_1 _) (by decide) rfl (fun ls hl => ?_)
      refine lv_goto (tgt := 284) hx hb dX5_isSame_315 (by decide) ?_
      exact IHj H locs ls (hP.castR (rfl)) hS (lv_sub hl [0, 1, 2, 3, 4] rfl) (trivial)
set_option maxHeartbeats 4000000 in
set_option maxRecDepth 100000 in
theorem z_wars {p : Program} {l : Launch} {e : Jvm.Env} {R : Room} {s : State} {m : MethodId} {args : Array Value} {below : List Frame} {meth : Method} {c : Code} {Q : State → Prop} {g : Gm} {cells slots n : Nat} {M : Mem} {o : Nat → Int64} {H : Heap} {locs : List Loc} {ls : Array Slot} {v : Vw} (hC : CallFix p m c cX5_isSame 8 s args LG RX5) (hE : Ev g s) (hR : 8 ≤ R.frames ∧ 200 ≤ R.locals) (hf : cells ≤ R.cells ∧ slots ≤ R.slots) (hI : IJ g (KK g)) (hW : Lw n v) (hL : SimL g v) (e0 : M 0 = v) (hP : WP g (setR M 2 v) o H) (hS : va_S (AA g) s.heap H locs) (IH : ∀ (H : Heap) (locs : List Loc) (ls : Array Slot), WP g (setR M 2 v) o H → va_S (AA g) s.heap H locs → lv_has ls 8 [(0, .ref (ad g (20, 0, 0))), (1, .ref (ad g (8, 0, 0))), (2, .int (sumI (v 9) (nS v)))] → W p l e R s m args below meth c H locs cells slots Q (F0 m 388 ls [])) (hl : lv_has ls 8 [(0, .ref (ad g (20, 0, 0))), (1, .ref (ad g (8, 0, 0))), (2, .int (sumI (v 9) (nS v)))]) : W p l e R s m args below meth c H locs cells slots Q (F0 m 335 ls []) := by
  obtain ⟨hx, hb, hml, hown, hG⟩ := id hC
  have hv := hW.iv
  have qH := hv.lH
  have qS := hv.lS
  have qW := hv.lW
  refine lv_iconst (v := 0) hx hb dX5_isSame_335 (by decide) ?_
  refine lv_istore_n (lv' := [(3, .int ((0 : Int32))), (0, .ref (ad g (20, 0, 0))), (1, .ref (ad g (8, 0, 0))), (2, .int (sumI (v 9) (nS v)))]) hx hb dX5_isSame_336 rfl hl (by decide) rfl (fun ls hl => ?_)
  refine lp_W (i0 := 0) (nW v) (fun i => ent g (setR M 2 v) o) (fun i => [(3, .int (nI i)), (0, .ref (ad g (20, 0, 0))), (1, .ref (ad g (8, 0, 0))), (2, .int (sumI (v 9) (nS v)))]) (fun i => True) (Nat.zero_le _) (hP.castR (rfl)) hS (lv_sub hl [0, 1, 2, 3] rfl) (trivial) (fun H locs ls hP hS hl J => ?_) (fun i hi IH H locs ls hP hS hl J => ?_)
  · refine lv_iload_n hx hb dX5_isSame_337 rfl (lv_at hl 0 rfl) ?_
    refine lv_aload_n hx hb dX5_isSame_338 rfl (lv_at hl 1 rfl) ?_
    refine m_get hC hE hP (k_20 hL) e_20 rfl u_5 5 (by decide) w_659 rfl rfl dX5_isSame_339 ?_
    refine m_alnA hC hE hP (k_29 hL) e_29 (congrArg nI Cn.rf.2.2) dX5_isSame_342 ?_
    refine lv_icmp_ge (tgt := 388) hx hb dX5_isSame_343 (by decide) (fun c1 => ?_) (fun c1 => absurd (nI_le (Nat.le_refl _) (by omega)) c1)
    exact IH H locs ls hP hS (lv_sub hl [1, 2, 3] rfl)
  · refine lv_iload_n hx hb dX5_isSame_337 rfl (lv_at hl 0 rfl) ?_
    refine lv_aload_n hx hb dX5_isSame_338 rfl (lv_at hl 1 rfl) ?_
    refine m_get hC hE hP (k_20 hL) e_20 rfl u_5 5 (by decide) w_659 rfl rfl dX5_isSame_339 ?_
    refine m_alnA hC hE hP (k_29 hL) e_29 (congrArg nI Cn.rf.2.2) dX5_isSame_342 ?_
    refine lv_icmp_ge (tgt := 388) hx hb dX5_isSame_343 (by decide) (fun c2 => absurd c2 (nI_ge hi (by omega))) (fun c2 => ?_)
    refine lv_iconst (v := 0) hx hb dX5_isSame_346 (by decide) ?_
    refine lv_istore (lv' := [(4, .int ((0 : Int32))), (3, .int (nI i)), (0, .ref (ad g (20, 0, 0))), (1, .ref (ad g (8, 0, 0))), (2, .int (sumI (v 9) (nS v)))]) hx hb dX5_isSame_347 hl (by decide) rfl (fun ls hl => ?_)
    refine lp_W (i0 := 0) 4 (fun j => ent g (setR M 2 v) o) (fun j => [(4, .int (nI j)), (3, .int (nI i)), (0, .ref (ad g (20, 0, 0))), (1, .ref (ad g (8, 0, 0))), (2, .int (sumI (v 9) (nS v)))]) (fun j => True) (Nat.zero_le _) (hP.castR (rfl)) hS (lv_sub hl [0, 1, 2, 3, 4] rfl) (trivial) (fun H locs ls hP hS hl J => ?_) (fun j hj IHj H locs ls hP hS hl J => ?_)
    · refine lv_iload hx hb dX5_isSame_349 (lv_at hl 0 rfl) ?_
      refine lv_iconst (v := 4) hx hb dX5_isSame_351 (by decide) ?_
      refine lv_icmp_ge (tgt := 382) hx hb dX5_isSame_352 (by decide) (fun c3 => ?_) (fun c3 => absurd (nI_le (a := 4) (b := 4) (Nat.le_refl _) (by omega)) c3)
      refine lv_iinc (v := nI (i + 1)) (lv' := [(3, .int (nI (i + 1))), (4, .int (nI 4)), (0, .ref (ad g (20, 0, 0))), (1, .ref (ad g (8, 0, 0))), (2, .int (sumI (v 9) (nS v)))]) hx hb dX5_isSame_382 hl (k := 1) rfl (nI_1 _) (by decide) rfl (fun ls hl => ?_)
      refine lv_goto (tgt := 337) hx hb dX5_isSame_385 (by decide) ?_
      exact IH H locs ls (hP.castR (rfl)) hS (lv_sub hl [0, 2, 3, 4] rfl) (trivial)
    · refine lv_iload hx hb dX5_isSame_349 (lv_at hl 0 rfl) ?_
      refine lv_iconst (v := 4) hx hb dX5_isSame_351 (by decide) ?_
      refine lv_icmp_ge (tgt := 382) hx hb dX5_isSame_352 (by decide) (fun c4 => absurd c4 (nI_ge (b := 4) hj (by omega))) (fun c4 => ?_)
      refine lv_aload_n hx hb dX5_isSame_355 rfl (lv_at hl 3 rfl) ?_
      refine lv_iload_n hx hb dX5_isSame_356 rfl (lv_at hl 1 rfl) ?_
      refine lv_iload hx hb dX5_isSame_357 (lv_at hl 0 rfl) ?_
      refine on_i (run_V hC hE hP hS (As := [.int (nI i), .int (nI j)]) (q_about l hI (o := o) hv i hi (nI j) (in_W hv hi) (in_3 j hj) e0) cal_X4_about w_546 ⟨by show _ + 1 ≤ R.frames; simp only; omega, by show _ + _ ≤ R.locals; simp only; omega⟩ k_8 f_8 rfl rfl rfl (Nat.le_of_ble_eq_true rfl) hl.1 hf dX5_isSame_359) hS (fun H locs hP hS => ?_)
      refine lv_aload_n hx hb dX5_isSame_362 rfl (lv_at hl 2 rfl) ?_
      refine m_get hC hE hP (k_20 hL) e_20 rfl u_5 5 (by decide) w_659 rfl rfl dX5_isSame_363 ?_
      refine lv_iload_n hx hb dX5_isSame_366 rfl (lv_at hl 1 rfl) ?_
      refine m_aalA hC hE hP (k_29 hL) e_29 i (rfl) (Cn.rf.lW (by omega)) (Cn.rf.bW (by omega)) dX5_isSame_367 ?_
      refine lv_iload hx hb dX5_isSame_368 (lv_at hl 0 rfl) ?_
      refine m_iald hC hE hP (k_25 hL (by omega)) e_25 j (rfl) (show j < 4 from by omega) (by decide) dX5_isSame_370 ?_
      refine m_top (y := rW v i j) rfl ?_
      refine lv_icmp_eq (tgt := 376) hx hb dX5_isSame_371 (by decide) (fun c5 => ?_) (fun c5 => absurd (warF_n hj) c5)
      refine lv_iinc (v := nI (j + 1)) (lv' := [(4, .int (nI (j + 1))), (3, .int (nI i)), (0, .ref (ad g (20, 0, 0))), (1, .ref (ad g (8, 0, 0))), (2, .int (sumI (v 9) (nS v)))]) hx hb dX5_isSame_376 hl (k := 0) rfl (nI_1 _) (by decide) rfl (fun ls hl => ?_)
      refine lv_goto (tgt := 349) hx hb dX5_isSame_379 (by decide) ?_
      exact IHj H locs ls (hP.castR (rfl)) hS (lv_sub hl [0, 1, 2, 3, 4] rfl) (trivial)
