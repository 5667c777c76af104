/-! the law's own picture: a night -/
theorem dX5_pass_0 : decode cX5_pass 0 = .ok (.aload_n 0, 1) := by decide +kernel
theorem dX5_pass_1 : decode cX5_pass 1 = .ok (.getfield 25, 3) := by decide +kernel
theorem dX5_pass_4 : decode cX5_pass 4 = .ok (.astore_n 1, 1) := by decide +kernel
theorem dX5_pass_5 : decode cX5_pass 5 = .ok (.aload_n 1, 1) := by decide +kernel
theorem dX5_pass_6 : decode cX5_pass 6 = .ok (.arraylength, 1) := by decide +kernel
theorem dX5_pass_7 : decode cX5_pass 7 = .ok (.istore_n 2, 1) := by decide +kernel
theorem dX5_pass_8 : decode cX5_pass 8 = .ok (.iconst 0, 1) := by decide +kernel
theorem dX5_pass_9 : decode cX5_pass 9 = .ok (.istore_n 3, 1) := by decide +kernel
theorem dX5_pass_10 : decode cX5_pass 10 = .ok (.iload_n 3, 1) := by decide +kernel
theorem dX5_pass_11 : decode cX5_pass 11 = .ok (.iload_n 2, 1) := by decide +kernel
theorem dX5_pass_12 : decode cX5_pass 12 = .ok (.if_icmp .ge 20, 3) := by decide +kernel
theorem dX5_pass_15 : decode cX5_pass 15 = .ok (.aload_n 1, 1) := by decide +kernel
theorem dX5_pass_16 : decode cX5_pass 16 = .ok (.iload_n 3, 1) := by decide +kernel
theorem dX5_pass_17 : decode cX5_pass 17 = .ok (.aaload, 1) := by decide +kernel
theorem dX5_pass_18 : decode cX5_pass 18 = .ok (.astore 4, 2) := by decide +kernel
theorem dX5_pass_20 : decode cX5_pass 20 = .ok (.aload_n 0, 1) := by decide +kernel
theorem dX5_pass_21 : decode cX5_pass 21 = .ok (.aload 4, 2) := by decide +kernel
theorem dX5_pass_23 : decode cX5_pass 23 = .ok (.invokevirtual 61, 3) := by decide +kernel
theorem dX5_pass_26 : decode cX5_pass 26 = .ok (.iinc 3 1, 3) := by decide +kernel
theorem dX5_pass_29 : decode cX5_pass 29 = .ok (.goto (-19), 3) := by decide +kernel
theorem dX5_pass_32 : decode cX5_pass 32 = .ok (.aload_n 0, 1) := by decide +kernel
theorem dX5_pass_33 : decode cX5_pass 33 = .ok (.getfield 25, 3) := by decide +kernel
theorem dX5_pass_36 : decode cX5_pass 36 = .ok (.astore_n 1, 1) := by decide +kernel
theorem dX5_pass_37 : decode cX5_pass 37 = .ok (.aload_n 1, 1) := by decide +kernel
theorem dX5_pass_38 : decode cX5_pass 38 = .ok (.arraylength, 1) := by decide +kernel
theorem dX5_pass_39 : decode cX5_pass 39 = .ok (.istore_n 2, 1) := by decide +kernel
theorem dX5_pass_40 : decode cX5_pass 40 = .ok (.iconst 0, 1) := by decide +kernel
theorem dX5_pass_41 : decode cX5_pass 41 = .ok (.istore_n 3, 1) := by decide +kernel
theorem dX5_pass_42 : decode cX5_pass 42 = .ok (.iload_n 3, 1) := by decide +kernel
theorem dX5_pass_43 : decode cX5_pass 43 = .ok (.iload_n 2, 1) := by decide +kernel
theorem dX5_pass_44 : decode cX5_pass 44 = .ok (.if_icmp .ge 77, 3) := by decide +kernel
theorem dX5_pass_47 : decode cX5_pass 47 = .ok (.aload_n 1, 1) := by decide +kernel
theorem dX5_pass_48 : decode cX5_pass 48 = .ok (.iload_n 3, 1) := by decide +kernel
theorem dX5_pass_49 : decode cX5_pass 49 = .ok (.aaload, 1) := by decide +kernel
theorem dX5_pass_50 : decode cX5_pass 50 = .ok (.astore 4, 2) := by decide +kernel
theorem dX5_pass_52 : decode cX5_pass 52 = .ok (.aload 4, 2) := by decide +kernel
theorem dX5_pass_54 : decode cX5_pass 54 = .ok (.iconst 3, 1) := by decide +kernel
theorem dX5_pass_55 : decode cX5_pass 55 = .ok (.iconst 0, 1) := by decide +kernel
theorem dX5_pass_56 : decode cX5_pass 56 = .ok (.iastore, 1) := by decide +kernel
theorem dX5_pass_57 : decode cX5_pass 57 = .ok (.aload 4, 2) := by decide +kernel
theorem dX5_pass_59 : decode cX5_pass 59 = .ok (.iconst 2, 1) := by decide +kernel
theorem dX5_pass_60 : decode cX5_pass 60 = .ok (.iaload, 1) := by decide +kernel
theorem dX5_pass_61 : decode cX5_pass 61 = .ok (.ifCond .ge 6, 3) := by decide +kernel
theorem dX5_pass_64 : decode cX5_pass 64 = .ok (.goto 51, 3) := by decide +kernel
theorem dX5_pass_67 : decode cX5_pass 67 = .ok (.aload_n 0, 1) := by decide +kernel
theorem dX5_pass_68 : decode cX5_pass 68 = .ok (.getfield 22, 3) := by decide +kernel
theorem dX5_pass_71 : decode cX5_pass 71 = .ok (.aload 4, 2) := by decide +kernel
theorem dX5_pass_73 : decode cX5_pass 73 = .ok (.iconst 2, 1) := by decide +kernel
theorem dX5_pass_74 : decode cX5_pass 74 = .ok (.iaload, 1) := by decide +kernel
theorem dX5_pass_75 : decode cX5_pass 75 = .ok (.aaload, 1) := by decide +kernel
theorem dX5_pass_76 : decode cX5_pass 76 = .ok (.astore 5, 2) := by decide +kernel
theorem dX5_pass_78 : decode cX5_pass 78 = .ok (.aload 4, 2) := by decide +kernel
theorem dX5_pass_80 : decode cX5_pass 80 = .ok (.iconst 3, 1) := by decide +kernel
theorem dX5_pass_81 : decode cX5_pass 81 = .ok (.aload_n 0, 1) := by decide +kernel
theorem dX5_pass_82 : decode cX5_pass 82 = .ok (.aload 5, 2) := by decide +kernel
theorem dX5_pass_84 : decode cX5_pass 84 = .ok (.iconst 0, 1) := by decide +kernel
theorem dX5_pass_85 : decode cX5_pass 85 = .ok (.iaload, 1) := by decide +kernel
theorem dX5_pass_86 : decode cX5_pass 86 = .ok (.aload 5, 2) := by decide +kernel
theorem dX5_pass_88 : decode cX5_pass 88 = .ok (.iconst 1, 1) := by decide +kernel
theorem dX5_pass_89 : decode cX5_pass 89 = .ok (.iaload, 1) := by decide +kernel
theorem dX5_pass_90 : decode cX5_pass 90 = .ok (.invokevirtual 65, 3) := by decide +kernel
theorem dX5_pass_93 : decode cX5_pass 93 = .ok (.iastore, 1) := by decide +kernel
theorem dX5_pass_94 : decode cX5_pass 94 = .ok (.aload_n 0, 1) := by decide +kernel
theorem dX5_pass_95 : decode cX5_pass 95 = .ok (.getfield 9, 3) := by decide +kernel
theorem dX5_pass_98 : decode cX5_pass 98 = .ok (.aload 5, 2) := by decide +kernel
theorem dX5_pass_100 : decode cX5_pass 100 = .ok (.iconst 0, 1) := by decide +kernel
theorem dX5_pass_101 : decode cX5_pass 101 = .ok (.iaload, 1) := by decide +kernel
theorem dX5_pass_102 : decode cX5_pass 102 = .ok (.aaload, 1) := by decide +kernel
theorem dX5_pass_103 : decode cX5_pass 103 = .ok (.aload 5, 2) := by decide +kernel
theorem dX5_pass_105 : decode cX5_pass 105 = .ok (.iconst 1, 1) := by decide +kernel
theorem dX5_pass_106 : decode cX5_pass 106 = .ok (.iaload, 1) := by decide +kernel
theorem dX5_pass_107 : decode cX5_pass 107 = .ok (.dup2, 1) := by decide +kernel
theorem dX5_pass_108 : decode cX5_pass 108 = .ok (.iaload, 1) := by decide +kernel
theorem dX5_pass_109 : decode cX5_pass 109 = .ok (.aload 4, 2) := by decide +kernel
theorem dX5_pass_111 : decode cX5_pass 111 = .ok (.iconst 3, 1) := by decide +kernel
theorem dX5_pass_112 : decode cX5_pass 112 = .ok (.iaload, 1) := by decide +kernel
theorem dX5_pass_113 : decode cX5_pass 113 = .ok (.isub, 1) := by decide +kernel
theorem dX5_pass_114 : decode cX5_pass 114 = .ok (.iastore, 1) := by decide +kernel
theorem dX5_pass_115 : decode cX5_pass 115 = .ok (.iinc 3 1, 3) := by decide +kernel
theorem dX5_pass_118 : decode cX5_pass 118 = .ok (.goto (-76), 3) := by decide +kernel
theorem dX5_pass_121 : decode cX5_pass 121 = .ok (.aload_n 0, 1) := by decide +kernel
theorem dX5_pass_122 : decode cX5_pass 122 = .ok (.getfield 28, 3) := by decide +kernel
theorem dX5_pass_125 : decode cX5_pass 125 = .ok (.astore_n 1, 1) := by decide +kernel
theorem dX5_pass_126 : decode cX5_pass 126 = .ok (.aload_n 1, 1) := by decide +kernel
theorem dX5_pass_127 : decode cX5_pass 127 = .ok (.arraylength, 1) := by decide +kernel
theorem dX5_pass_128 : decode cX5_pass 128 = .ok (.istore_n 2, 1) := by decide +kernel
theorem dX5_pass_129 : decode cX5_pass 129 = .ok (.iconst 0, 1) := by decide +kernel
theorem dX5_pass_130 : decode cX5_pass 130 = .ok (.istore_n 3, 1) := by decide +kernel
theorem dX5_pass_131 : decode cX5_pass 131 = .ok (.iload_n 3, 1) := by decide +kernel
theorem dX5_pass_132 : decode cX5_pass 132 = .ok (.iload_n 2, 1) := by decide +kernel
theorem dX5_pass_133 : decode cX5_pass 133 = .ok (.if_icmp .ge 20, 3) := by decide +kernel
theorem dX5_pass_136 : decode cX5_pass 136 = .ok (.aload_n 1, 1) := by decide +kernel
theorem dX5_pass_137 : decode cX5_pass 137 = .ok (.iload_n 3, 1) := by decide +kernel
theorem dX5_pass_138 : decode cX5_pass 138 = .ok (.aaload, 1) := by decide +kernel
theorem dX5_pass_139 : decode cX5_pass 139 = .ok (.astore 4, 2) := by decide +kernel
theorem dX5_pass_141 : decode cX5_pass 141 = .ok (.aload_n 0, 1) := by decide +kernel
theorem dX5_pass_142 : decode cX5_pass 142 = .ok (.aload 4, 2) := by decide +kernel
theorem dX5_pass_144 : decode cX5_pass 144 = .ok (.invokevirtual 69, 3) := by decide +kernel
theorem dX5_pass_147 : decode cX5_pass 147 = .ok (.iinc 3 1, 3) := by decide +kernel
theorem dX5_pass_150 : decode cX5_pass 150 = .ok (.goto (-19), 3) := by decide +kernel
theorem dX5_pass_153 : decode cX5_pass 153 = .ok (.iconst 0, 1) := by decide +kernel
theorem dX5_pass_154 : decode cX5_pass 154 = .ok (.istore_n 1, 1) := by decide +kernel
theorem dX5_pass_155 : decode cX5_pass 155 = .ok (.aload_n 0, 1) := by decide +kernel
theorem dX5_pass_156 : decode cX5_pass 156 = .ok (.getfield 25, 3) := by decide +kernel
theorem dX5_pass_159 : decode cX5_pass 159 = .ok (.astore_n 2, 1) := by decide +kernel
theorem dX5_pass_160 : decode cX5_pass 160 = .ok (.aload_n 2, 1) := by decide +kernel
theorem dX5_pass_161 : decode cX5_pass 161 = .ok (.arraylength, 1) := by decide +kernel
theorem dX5_pass_162 : decode cX5_pass 162 = .ok (.istore_n 3, 1) := by decide +kernel
theorem dX5_pass_163 : decode cX5_pass 163 = .ok (.iconst 0, 1) := by decide +kernel
theorem dX5_pass_164 : decode cX5_pass 164 = .ok (.istore 4, 2) := by decide +kernel
theorem dX5_pass_166 : decode cX5_pass 166 = .ok (.iload 4, 2) := by decide +kernel
theorem dX5_pass_168 : decode cX5_pass 168 = .ok (.iload_n 3, 1) := by decide +kernel
theorem dX5_pass_169 : decode cX5_pass 169 = .ok (.if_icmp .ge 33, 3) := by decide +kernel
theorem dX5_pass_172 : decode cX5_pass 172 = .ok (.aload_n 2, 1) := by decide +kernel
theorem dX5_pass_173 : decode cX5_pass 173 = .ok (.iload 4, 2) := by decide +kernel
theorem dX5_pass_175 : decode cX5_pass 175 = .ok (.aaload, 1) := by decide +kernel
theorem dX5_pass_176 : decode cX5_pass 176 = .ok (.astore 5, 2) := by decide +kernel
theorem dX5_pass_178 : decode cX5_pass 178 = .ok (.aload 5, 2) := by decide +kernel
theorem dX5_pass_180 : decode cX5_pass 180 = .ok (.iconst 4, 1) := by decide +kernel
theorem dX5_pass_181 : decode cX5_pass 181 = .ok (.dup2, 1) := by decide +kernel
theorem dX5_pass_182 : decode cX5_pass 182 = .ok (.iaload, 1) := by decide +kernel
theorem dX5_pass_183 : decode cX5_pass 183 = .ok (.aload 5, 2) := by decide +kernel
theorem dX5_pass_185 : decode cX5_pass 185 = .ok (.iconst 3, 1) := by decide +kernel
theorem dX5_pass_186 : decode cX5_pass 186 = .ok (.iaload, 1) := by decide +kernel
theorem dX5_pass_187 : decode cX5_pass 187 = .ok (.iadd, 1) := by decide +kernel
theorem dX5_pass_188 : decode cX5_pass 188 = .ok (.iastore, 1) := by decide +kernel
theorem dX5_pass_189 : decode cX5_pass 189 = .ok (.iload_n 1, 1) := by decide +kernel
theorem dX5_pass_190 : decode cX5_pass 190 = .ok (.aload 5, 2) := by decide +kernel
theorem dX5_pass_192 : decode cX5_pass 192 = .ok (.iconst 3, 1) := by decide +kernel
theorem dX5_pass_193 : decode cX5_pass 193 = .ok (.iaload, 1) := by decide +kernel
theorem dX5_pass_194 : decode cX5_pass 194 = .ok (.iadd, 1) := by decide +kernel
theorem dX5_pass_195 : decode cX5_pass 195 = .ok (.istore_n 1, 1) := by decide +kernel
theorem dX5_pass_196 : decode cX5_pass 196 = .ok (.iinc 4 1, 3) := by decide +kernel
theorem dX5_pass_199 : decode cX5_pass 199 = .ok (.goto (-33), 3) := by decide +kernel
theorem dX5_pass_202 : decode cX5_pass 202 = .ok (.aload_n 0, 1) := by decide +kernel
theorem dX5_pass_203 : decode cX5_pass 203 = .ok (.getfield 9, 3) := by decide +kernel
theorem dX5_pass_206 : decode cX5_pass 206 = .ok (.astore_n 2, 1) := by decide +kernel
theorem dX5_pass_207 : decode cX5_pass 207 = .ok (.aload_n 2, 1) := by decide +kernel
theorem dX5_pass_208 : decode cX5_pass 208 = .ok (.arraylength, 1) := by decide +kernel
theorem dX5_pass_209 : decode cX5_pass 209 = .ok (.istore_n 3, 1) := by decide +kernel
theorem dX5_pass_210 : decode cX5_pass 210 = .ok (.iconst 0, 1) := by decide +kernel
theorem dX5_pass_211 : decode cX5_pass 211 = .ok (.istore 4, 2) := by decide +kernel
theorem dX5_pass_213 : decode cX5_pass 213 = .ok (.iload 4, 2) := by decide +kernel
theorem dX5_pass_215 : decode cX5_pass 215 = .ok (.iload_n 3, 1) := by decide +kernel
theorem dX5_pass_216 : decode cX5_pass 216 = .ok (.if_icmp .ge 67, 3) := by decide +kernel
theorem dX5_pass_219 : decode cX5_pass 219 = .ok (.aload_n 2, 1) := by decide +kernel
theorem dX5_pass_220 : decode cX5_pass 220 = .ok (.iload 4, 2) := by decide +kernel
theorem dX5_pass_222 : decode cX5_pass 222 = .ok (.aaload, 1) := by decide +kernel
theorem dX5_pass_223 : decode cX5_pass 223 = .ok (.astore 5, 2) := by decide +kernel
theorem dX5_pass_225 : decode cX5_pass 225 = .ok (.iconst 0, 1) := by decide +kernel
theorem dX5_pass_226 : decode cX5_pass 226 = .ok (.istore 6, 2) := by decide +kernel
theorem dX5_pass_228 : decode cX5_pass 228 = .ok (.iload 6, 2) := by decide +kernel
theorem dX5_pass_230 : decode cX5_pass 230 = .ok (.bipush 9, 2) := by decide +kernel
theorem dX5_pass_232 : decode cX5_pass 232 = .ok (.if_icmp .ge 45, 3) := by decide +kernel
theorem dX5_pass_235 : decode cX5_pass 235 = .ok (.aload 5, 2) := by decide +kernel
theorem dX5_pass_237 : decode cX5_pass 237 = .ok (.iload 6, 2) := by decide +kernel
theorem dX5_pass_239 : decode cX5_pass 239 = .ok (.iaload, 1) := by decide +kernel
theorem dX5_pass_240 : decode cX5_pass 240 = .ok (.ifCond .le 31, 3) := by decide +kernel
theorem dX5_pass_243 : decode cX5_pass 243 = .ok (.aload 5, 2) := by decide +kernel
theorem dX5_pass_245 : decode cX5_pass 245 = .ok (.iload 6, 2) := by decide +kernel
theorem dX5_pass_247 : decode cX5_pass 247 = .ok (.iaload, 1) := by decide +kernel
theorem dX5_pass_248 : decode cX5_pass 248 = .ok (.bipush 41, 2) := by decide +kernel
theorem dX5_pass_250 : decode cX5_pass 250 = .ok (.if_icmp .ge 21, 3) := by decide +kernel
theorem dX5_pass_253 : decode cX5_pass 253 = .ok (.aload 5, 2) := by decide +kernel
theorem dX5_pass_255 : decode cX5_pass 255 = .ok (.iload 6, 2) := by decide +kernel
theorem dX5_pass_257 : decode cX5_pass 257 = .ok (.dup2, 1) := by decide +kernel
theorem dX5_pass_258 : decode cX5_pass 258 = .ok (.iaload, 1) := by decide +kernel
theorem dX5_pass_259 : decode cX5_pass 259 = .ok (.aload 5, 2) := by decide +kernel
theorem dX5_pass_261 : decode cX5_pass 261 = .ok (.iload 6, 2) := by decide +kernel
theorem dX5_pass_263 : decode cX5_pass 263 = .ok (.iaload, 1) := by decide +kernel
theorem dX5_pass_264 : decode cX5_pass 264 = .ok (.bipush 10, 2) := by decide +kernel
theorem dX5_pass_266 : decode cX5_pass 266 = .ok (.idiv, 1) := by decide +kernel
theorem dX5_pass_267 : decode cX5_pass 267 = .ok (.iconst 1, 1) := by decide +kernel
theorem dX5_pass_268 : decode cX5_pass 268 = .ok (.iadd, 1) := by decide +kernel
theorem dX5_pass_269 : decode cX5_pass 269 = .ok (.iadd, 1) := by decide +kernel
theorem dX5_pass_270 : decode cX5_pass 270 = .ok (.iastore, 1) := by decide +kernel
theorem dX5_pass_271 : decode cX5_pass 271 = .ok (.iinc 6 1, 3) := by decide +kernel
theorem dX5_pass_274 : decode cX5_pass 274 = .ok (.goto (-46), 3) := by decide +kernel
theorem dX5_pass_277 : decode cX5_pass 277 = .ok (.iinc 4 1, 3) := by decide +kernel
theorem dX5_pass_280 : decode cX5_pass 280 = .ok (.goto (-67), 3) := by decide +kernel
theorem dX5_pass_283 : decode cX5_pass 283 = .ok (.aload_n 0, 1) := by decide +kernel
theorem dX5_pass_284 : decode cX5_pass 284 = .ok (.getfield 17, 3) := by decide +kernel
theorem dX5_pass_287 : decode cX5_pass 287 = .ok (.aload_n 0, 1) := by decide +kernel
theorem dX5_pass_288 : decode cX5_pass 288 = .ok (.getfield 50, 3) := by decide +kernel
theorem dX5_pass_291 : decode cX5_pass 291 = .ok (.bipush 7, 2) := by decide +kernel
theorem dX5_pass_293 : decode cX5_pass 293 = .ok (.irem, 1) := by decide +kernel
theorem dX5_pass_294 : decode cX5_pass 294 = .ok (.iaload, 1) := by decide +kernel
theorem dX5_pass_295 : decode cX5_pass 295 = .ok (.istore_n 2, 1) := by decide +kernel
theorem dX5_pass_296 : decode cX5_pass 296 = .ok (.aload_n 0, 1) := by decide +kernel
theorem dX5_pass_297 : decode cX5_pass 297 = .ok (.dup, 1) := by decide +kernel
theorem dX5_pass_298 : decode cX5_pass 298 = .ok (.getfield 31, 3) := by decide +kernel
theorem dX5_pass_301 : decode cX5_pass 301 = .ok (.iload_n 2, 1) := by decide +kernel
theorem dX5_pass_302 : decode cX5_pass 302 = .ok (.iadd, 1) := by decide +kernel
theorem dX5_pass_303 : decode cX5_pass 303 = .ok (.putfield 31, 3) := by decide +kernel
theorem dX5_pass_306 : decode cX5_pass 306 = .ok (.aload_n 0, 1) := by decide +kernel
theorem dX5_pass_307 : decode cX5_pass 307 = .ok (.aload_n 0, 1) := by decide +kernel
theorem dX5_pass_308 : decode cX5_pass 308 = .ok (.getfield 31, 3) := by decide +kernel
theorem dX5_pass_311 : decode cX5_pass 311 = .ok (.ifCond .ge 7, 3) := by decide +kernel
theorem dX5_pass_314 : decode cX5_pass 314 = .ok (.iconst 0, 1) := by decide +kernel
theorem dX5_pass_315 : decode cX5_pass 315 = .ok (.goto 21, 3) := by decide +kernel
theorem dX5_pass_318 : decode cX5_pass 318 = .ok (.aload_n 0, 1) := by decide +kernel
theorem dX5_pass_319 : decode cX5_pass 319 = .ok (.getfield 31, 3) := by decide +kernel
theorem dX5_pass_322 : decode cX5_pass 322 = .ok (.bipush 90, 2) := by decide +kernel
theorem dX5_pass_324 : decode cX5_pass 324 = .ok (.if_icmp .le 8, 3) := by decide +kernel
theorem dX5_pass_327 : decode cX5_pass 327 = .ok (.bipush 90, 2) := by decide +kernel
theorem dX5_pass_329 : decode cX5_pass 329 = .ok (.goto 7, 3) := by decide +kernel
theorem dX5_pass_332 : decode cX5_pass 332 = .ok (.aload_n 0, 1) := by decide +kernel
theorem dX5_pass_333 : decode cX5_pass 333 = .ok (.getfield 31, 3) := by decide +kernel
theorem dX5_pass_336 : decode cX5_pass 336 = .ok (.putfield 31, 3) := by decide +kernel
theorem dX5_pass_339 : decode cX5_pass 339 = .ok (.iconst 0, 1) := by decide +kernel
theorem dX5_pass_340 : decode cX5_pass 340 = .ok (.istore_n 3, 1) := by decide +kernel
theorem dX5_pass_341 : decode cX5_pass 341 = .ok (.iload_n 3, 1) := by decide +kernel
theorem dX5_pass_342 : decode cX5_pass 342 = .ok (.aload_n 0, 1) := by decide +kernel
theorem dX5_pass_343 : decode cX5_pass 343 = .ok (.getfield 22, 3) := by decide +kernel
theorem dX5_pass_346 : decode cX5_pass 346 = .ok (.arraylength, 1) := by decide +kernel
theorem dX5_pass_347 : decode cX5_pass 347 = .ok (.if_icmp .ge 38, 3) := by decide +kernel
theorem dX5_pass_350 : decode cX5_pass 350 = .ok (.aload_n 0, 1) := by decide +kernel
theorem dX5_pass_351 : decode cX5_pass 351 = .ok (.getfield 31, 3) := by decide +kernel
theorem dX5_pass_354 : decode cX5_pass 354 = .ok (.iconst 5, 1) := by decide +kernel
theorem dX5_pass_355 : decode cX5_pass 355 = .ok (.if_icmp .lt 15, 3) := by decide +kernel
theorem dX5_pass_358 : decode cX5_pass 358 = .ok (.iload_n 2, 1) := by decide +kernel
theorem dX5_pass_359 : decode cX5_pass 359 = .ok (.ifCond .le 20, 3) := by decide +kernel
theorem dX5_pass_362 : decode cX5_pass 362 = .ok (.aload_n 0, 1) := by decide +kernel
theorem dX5_pass_363 : decode cX5_pass 363 = .ok (.iload_n 3, 1) := by decide +kernel
theorem dX5_pass_364 : decode cX5_pass 364 = .ok (.invokevirtual 72, 3) := by decide +kernel
theorem dX5_pass_367 : decode cX5_pass 367 = .ok (.ifCond .ne 12, 3) := by decide +kernel
theorem dX5_pass_370 : decode cX5_pass 370 = .ok (.aload_n 0, 1) := by decide +kernel
theorem dX5_pass_371 : decode cX5_pass 371 = .ok (.getfield 22, 3) := by decide +kernel
theorem dX5_pass_374 : decode cX5_pass 374 = .ok (.iload_n 3, 1) := by decide +kernel
theorem dX5_pass_375 : decode cX5_pass 375 = .ok (.aaload, 1) := by decide +kernel
theorem dX5_pass_376 : decode cX5_pass 376 = .ok (.iconst 2, 1) := by decide +kernel
theorem dX5_pass_377 : decode cX5_pass 377 = .ok (.iconst 0, 1) := by decide +kernel
theorem dX5_pass_378 : decode cX5_pass 378 = .ok (.iastore, 1) := by decide +kernel
theorem dX5_pass_379 : decode cX5_pass 379 = .ok (.iinc 3 1, 3) := by decide +kernel
theorem dX5_pass_382 : decode cX5_pass 382 = .ok (.goto (-41), 3) := by decide +kernel
theorem dX5_pass_385 : decode cX5_pass 385 = .ok (.aload_n 0, 1) := by decide +kernel
theorem dX5_pass_386 : decode cX5_pass 386 = .ok (.getfield 31, 3) := by decide +kernel
theorem dX5_pass_389 : decode cX5_pass 389 = .ok (.iconst 5, 1) := by decide +kernel
theorem dX5_pass_390 : decode cX5_pass 390 = .ok (.if_icmp .ge 39, 3) := by decide +kernel
theorem dX5_pass_393 : decode cX5_pass 393 = .ok (.aload_n 0, 1) := by decide +kernel
theorem dX5_pass_394 : decode cX5_pass 394 = .ok (.getfield 25, 3) := by decide +kernel
theorem dX5_pass_397 : decode cX5_pass 397 = .ok (.astore_n 3, 1) := by decide +kernel
theorem dX5_pass_398 : decode cX5_pass 398 = .ok (.aload_n 3, 1) := by decide +kernel
theorem dX5_pass_399 : decode cX5_pass 399 = .ok (.arraylength, 1) := by decide +kernel
theorem dX5_pass_400 : decode cX5_pass 400 = .ok (.istore 4, 2) := by decide +kernel
theorem dX5_pass_402 : decode cX5_pass 402 = .ok (.iconst 0, 1) := by decide +kernel
theorem dX5_pass_403 : decode cX5_pass 403 = .ok (.istore 5, 2) := by decide +kernel
theorem dX5_pass_405 : decode cX5_pass 405 = .ok (.iload 5, 2) := by decide +kernel
theorem dX5_pass_407 : decode cX5_pass 407 = .ok (.iload 4, 2) := by decide +kernel
theorem dX5_pass_409 : decode cX5_pass 409 = .ok (.if_icmp .ge 20, 3) := by decide +kernel
theorem dX5_pass_412 : decode cX5_pass 412 = .ok (.aload_n 3, 1) := by decide +kernel
theorem dX5_pass_413 : decode cX5_pass 413 = .ok (.iload 5, 2) := by decide +kernel
theorem dX5_pass_415 : decode cX5_pass 415 = .ok (.aaload, 1) := by decide +kernel
theorem dX5_pass_416 : decode cX5_pass 416 = .ok (.astore 6, 2) := by decide +kernel
theorem dX5_pass_418 : decode cX5_pass 418 = .ok (.aload 6, 2) := by decide +kernel
theorem dX5_pass_420 : decode cX5_pass 420 = .ok (.iconst 2, 1) := by decide +kernel
theorem dX5_pass_421 : decode cX5_pass 421 = .ok (.iconst (-1), 1) := by decide +kernel
theorem dX5_pass_422 : decode cX5_pass 422 = .ok (.iastore, 1) := by decide +kernel
theorem dX5_pass_423 : decode cX5_pass 423 = .ok (.iinc 5 1, 3) := by decide +kernel
theorem dX5_pass_426 : decode cX5_pass 426 = .ok (.goto (-21), 3) := by decide +kernel
theorem dX5_pass_429 : decode cX5_pass 429 = .ok (.aload_n 0, 1) := by decide +kernel
theorem dX5_pass_430 : decode cX5_pass 430 = .ok (.dup, 1) := by decide +kernel
theorem dX5_pass_431 : decode cX5_pass 431 = .ok (.getfield 50, 3) := by decide +kernel
theorem dX5_pass_434 : decode cX5_pass 434 = .ok (.iconst 1, 1) := by decide +kernel
theorem dX5_pass_435 : decode cX5_pass 435 = .ok (.iadd, 1) := by decide +kernel
theorem dX5_pass_436 : decode cX5_pass 436 = .ok (.putfield 50, 3) := by decide +kernel
theorem dX5_pass_439 : decode cX5_pass 439 = .ok (.iload_n 1, 1) := by decide +kernel
theorem dX5_pass_440 : decode cX5_pass 440 = .ok (.ireturn, 1) := by decide +kernel
theorem it_n {f : Nat → Vw → Vw} {v : Vw} {a b : Nat} (h : a = b) : it f a v = it f b v := by rw [h]
theorem would_up {v : Vw} {k : Nat} {x : Int32} {c : Nat} : would (up2 v 9 k x) c = would v c := by
  unfold would
  rw [up2_c (by decide), up2_c (by decide)]
theorem spr_cls {v : Vw} {k a b : Nat} (h8 : ¬ v 8 k = -1) (ecl : cl v (hol v k) = 9 * b + a) : spr k v = up2 (up2 (up2 v 9 k 0) 9 k (would v (9 * b + a))) 0 (9 * b + a) (v 0 (9 * b + a) - would v (9 * b + a)) := by
  unfold spr
  rw [if_neg h8, ecl]
def bre1 (z : Int32) : Int32 := if isIn z 1 40 = true then z + (z / 10 + 1) else z
theorem bre_i {v : Vw} : ∀ (n c i : Nat), it bre n v c i = if c = 0 ∧ i < n then bre1 (v 0 i) else v c i
  | 0, c, i => by rw [if_neg (by omega)]; rfl
  | n + 1, c, i => by
    show bre n (it bre n v) c i = _
    have e : it bre n v 0 n = v 0 n := by rw [bre_i n 0 n, if_neg (by omega)]
    have e0 : bre n (it bre n v) = if isIn (it bre n v 0 n) 1 40 = true then up2 (it bre n v) 0 n (it bre n v 0 n + (it bre n v 0 n / 10 + 1)) else it bre n v := rfl
    rw [e0, e]
    by_cases q : isIn (v 0 n) 1 40 = true
    · rw [if_pos q]
      unfold up2
      by_cases z : c = 0 ∧ i = n
      · rw [if_pos z, if_pos ⟨z.1, by omega⟩, z.2]
        unfold bre1
        rw [if_pos q]
      · rw [if_neg z, bre_i n c i]
        by_cases y : c = 0 ∧ i < n
        · rw [if_pos y, if_pos ⟨y.1, by omega⟩]
        · rw [if_neg y, if_neg (by omega)]
    · rw [if_neg q, bre_i n c i]
      by_cases z : c = 0 ∧ i = n
      · rw [if_neg (by omega), if_pos ⟨z.1, by omega⟩, z.1, z.2]
        unfold bre1
        rw [if_neg q]
      · by_cases y : c = 0 ∧ i < n
        · rw [if_pos y, if_pos ⟨y.1, by omega⟩]
        · rw [if_neg y, if_neg (by omega)]
/-- the cells of the columns below x, and of column x below y, have bred -/
def bq (x y : Nat) (v : Vw) : Vw := fun c i => if c = 0 ∧ i < 81 ∧ (i % 9 < x ∨ (i % 9 = x ∧ i / 9 < y)) then bre1 (v 0 i) else v c i
theorem bq_0 {v : Vw} : bq 0 0 v = v := by
  funext c i
  unfold bq
  rw [if_neg (by omega)]
theorem bq_9 {v : Vw} : breA v = bq 9 0 v := by
  funext c i
  show it bre 81 v c i = _
  rw [bre_i]
  unfold bq
  by_cases h : c = 0 ∧ i < 81
  · rw [if_pos h, if_pos ⟨h.1, h.2, by omega⟩]
  · rw [if_neg h, if_neg (by omega)]
theorem bq_row {v : Vw} {x : Nat} : bq (x + 1) 0 v = bq x 9 v := by
  funext c i
  unfold bq
  by_cases h : c = 0 ∧ i < 81 ∧ (i % 9 < x ∨ (i % 9 = x ∧ i / 9 < 9))
  · rw [if_pos h, if_pos ⟨h.1, h.2.1, by omega⟩]
  · rw [if_neg h, if_neg (by omega)]
theorem bq_at {v : Vw} {x y : Nat} (hx : x < 9) : bq x y v 0 (9 * y + x) = v 0 (9 * y + x) := by
  unfold bq
  rw [if_neg (by omega)]
theorem bq_s {v : Vw} {x y : Nat} (hx : x < 9) (hy : y < 9) {z : Int32} (h : bre1 (v 0 (9 * y + x)) = z) : bq x (y + 1) v = up2 (bq x y v) 0 (9 * y + x) z := by
  funext c i
  unfold up2
  by_cases q : c = 0 ∧ i = 9 * y + x
  · rw [if_pos q]
    unfold bq
    rw [if_pos ⟨q.1, by omega, by omega⟩, q.2, h]
  · rw [if_neg q]
    unfold bq
    by_cases r : c = 0 ∧ i < 81 ∧ (i % 9 < x ∨ (i % 9 = x ∧ i / 9 < y))
    · rw [if_pos r, if_pos ⟨r.1, r.2.1, by omega⟩]
    · rw [if_neg r, if_neg (by omega)]
theorem bq_no {v : Vw} {x y : Nat} (hx : x < 9) (hy : y < 9) (h : isIn (v 0 (9 * y + x)) 1 40 = false) : bq x (y + 1) v = bq x y v := by
  rw [bq_s hx hy (z := v 0 (9 * y + x)) (by unfold bre1; rw [h]; rfl)]
  funext c i
  unfold up2
  by_cases q : c = 0 ∧ i = 9 * y + x
  · rw [if_pos q, q.1, q.2, bq_at hx]
  · rw [if_neg q]
theorem in40_1 {z : Int32} (h : z ≤ 0) : isIn z 1 40 = false := by
  unfold isIn
  rw [decide_eq_true (show z < 1 by rw [Int32.le_iff_toInt_le, Int32.toInt_zero] at h; rw [Int32.lt_iff_toInt_lt]; have : (1 : Int32).toInt = 1 := by decide
                                    omega)]
  rfl
theorem in40_2 {z : Int32} (h : 41 ≤ z) : isIn z 1 40 = false := by
  unfold isIn
  rw [decide_eq_true (show (40 : Int32) < z by rw [Int32.le_iff_toInt_le] at h; rw [Int32.lt_iff_toInt_lt]; have : (41 : Int32).toInt = 41 := by decide
                                               have : (40 : Int32).toInt = 40 := by decide
                                               omega)]
  exact Bool.and_false _
theorem in40_t {z : Int32} (h1 : ¬ z ≤ 0) (h2 : ¬ 41 ≤ z) : isIn z 1 40 = true := by
  have h1 := Int32.not_le.mp h1
  have h2 := Int32.not_le.mp h2
  rw [isIn_iff]
  rw [Int32.lt_iff_toInt_lt] at h1 h2
  rw [Int32.toInt_zero] at h1
  have : (1 : Int32).toInt = 1 := by decide
  have : (40 : Int32).toInt = 40 := by decide
  have : (41 : Int32).toInt = 41 := by decide
  omega
theorem up2_2 {v : Vw} {c i : Nat} {x y : Int32} : up2 v c i y = up2 (up2 v c i x) c i y := by
  funext k j
  unfold up2
  by_cases h : k = c ∧ j = i
  · rw [if_pos h, if_pos h]
  · rw [if_neg h, if_neg h, if_neg h]
theorem ice_1 {x y : Int32} (h : ¬ 0 ≤ x + y) : (0 : Int32) = ice2 x y := by
  have h := Int32.not_le.mp h
  unfold ice2 imin
  rw [if_pos (by rw [Int32.lt_iff_toInt_lt, Int32.toInt_zero] at h; rw [Int32.lt_iff_toInt_lt]; have : (90 : Int32).toInt = 90 := by decide
                 omega)]
  unfold imax
  rw [if_neg (fun q => Int32.lt_irrefl (Int32.lt_trans q h))]
theorem ice_2 {x y : Int32} (h : ¬ x + y ≤ 90) : (90 : Int32) = ice2 x y := by
  unfold ice2 imin
  rw [if_neg (fun q => h (Int32.le_of_lt q))]
  rfl
theorem im90_t {z : Int32} (h : z ≤ 90) : z = imin 90 z := by
  unfold imin
  by_cases q : z < 90
  · rw [if_pos q]
  · rw [if_neg q]; exact Int32.le_antisymm h (Int32.not_lt.mp q)
theorem ice_3 {x y : Int32} (h : 0 ≤ x + y) (h2 : x + y ≤ 90) : x + y = ice2 x y := by
  have e : imin 90 (x + y) = x + y := (im90_t h2).symm
  unfold ice2
  rw [e]
  unfold imax
  by_cases q : 0 < x + y
  · rw [if_pos q]
  · rw [if_neg q]; exact Int32.le_antisymm (Int32.not_lt.mp q) h
theorem fzH_t {v : Vw} {i : Nat} (h : iceN v < 5 ∨ (0 < frostN v ∧ spAt v (nI i) = 0)) : fzH v (i + 1) = up2 (fzH v i) 5 i 0 := if_pos h
theorem fzH_f {v : Vw} {i : Nat} (h : ¬ (iceN v < 5 ∨ (0 < frostN v ∧ spAt v (nI i) = 0))) : fzH v (i + 1) = fzH v i := if_neg h
theorem fzA_t {v : Vw} {i : Nat} (h : iceN v < 5) : fzA v (i + 1) = up2 (fzA v i) 8 i (-1) := congrArg (fun z => up2 (fzA v i) 8 i z) (if_pos h)
theorem fzA_0 {v : Vw} {n : Nat} (h : nH v = n) : fzA v 0 = fzH v n := by
  subst h
  rfl
theorem frz_fzA {v : Vw} {n : Nat} (h : nS v = n) : frz v = fzA v n := by
  subst h
  exact fz_m
theorem frz_hi {v : Vw} (h : ¬ iceN v < 5) : frz v = fzH v (nH v) := by
  rw [fz_m]
  funext c j
  rw [fzA_eq, if_neg (fun q => h q.2.2)]
theorem frz_fzH {v : Vw} {n : Nat} (h : nH v = n) (h5 : ¬ iceN v < 5) : frz v = fzH v n := by
  subst h
  exact frz_hi h5
set_option maxHeartbeats 600000 in
set_option maxRecDepth 100000 in
theorem c_passS (l : Launch) {g : Gm} (hI : IJ g (KK g)) {M : Mem} {o : Nat → Int64} {v : Vw} (hv : Inv v) (hL : SimL g v) (hN : Nt 1 v) (hp : ∀ w, w < nW v → ∃ n, n < 9 ∧ v 14 w = nI n) : MI l yX5_pass cX5_pass 7 .int (rm 2 53) g (KK g) (ent g (setR M 2 v) o) [.ref (ad g (20, 0, 0))] (got1 v) (ent g (setR M 2 (day v)) o) := by
  refine met_of (by decide +kernel) (Nat.le_of_ble_eq_true rfl) ?_
  intro p e s m below meth c ls hC hr_ hlk hnm hE hP hS hl
  obtain ⟨hx, hb, hml, hown, hG⟩ := id hC
  have hl : lv_has ls 7 [(0, .ref (ad g (20, 0, 0)))] := hl
  have qH := hv.lH
  have qS := hv.lS
  have qW := hv.lW
  have i1 : Inv (lam v) := lam_inv hv
  have i2 : Inv (spe (lam v)) := spe_inv i1
  have i3 : Inv (sen (spe (lam v))) := sen_inv i2
  have i4 : Inv (kepA (sen (spe (lam v)))) := kepA_inv i3
  have i5 : Inv (breA (kepA (sen (spe (lam v))))) := breA_inv i4
  have q1 : Cn v (lam v) := Cn.of fun _ _ => lam_ne (by decide)
  have q2 : Cn v (spe (lam v)) := q1.tr (Cn.of fun _ _ => spe_ne (by decide) (by decide))
  have q3 : Cn v (sen (spe (lam v))) := q2.tr (Cn.of fun _ _ => sen_ne (by decide) (by decide) (by decide) (by decide) (by decide) (by decide))
  have q4 : Cn v (kepA (sen (spe (lam v)))) := q3.tr (Cn.of fun _ _ => kepA_ne (by decide))
  have q5 : Cn v (breA (kepA (sen (spe (lam v))))) := q4.tr (Cn.of fun _ _ => breA_ne (by decide))
  have eN : (breA (kepA (sen (spe (lam v))))) 16 4 = nI (tt v) := by rw [breA_ne (by decide), kepA_ne (by decide), sen_ne (by decide) (by decide) (by decide) (by decide) (by decide) (by decide), spe_ne (by decide) (by decide), lam_ne (by decide)]; exact hN.1
  have hN2 := hN.2
  have eT : tt (breA (kepA (sen (spe (lam v))))) = tt v := by show ((breA (kepA (sen (spe (lam v))))) 16 4).toNatClampNeg = _; rw [eN, nI_clamp (by omega)]
  refine lv_aload_n hx hb dX5_pass_0 rfl (lv_at hl 0 rfl) ?_
  refine m_get hC hE hP (k_20 hL) e_20 rfl u_5 4 (by decide) w_657 rfl rfl dX5_pass_1 ?_
  refine lv_astore_n (lv' := [(1, .ref (ad g (28, 2, 0))), (0, .ref (ad g (20, 0, 0)))]) hx hb dX5_pass_4 rfl hl (by decide) rfl (fun ls hl => ?_)
  refine lv_aload_n hx hb dX5_pass_5 rfl (lv_at hl 0 rfl) ?_
  refine m_alnA hC hE hP (k_28 hL) e_28 (congrArg nI Cn.rf.2.1) dX5_pass_6 ?_
  refine lv_istore_n (lv' := [(2, .int (nI (nS v))), (1, .ref (ad g (28, 2, 0))), (0, .ref (ad g (20, 0, 0)))]) hx hb dX5_pass_7 rfl hl (by decide) rfl (fun ls hl => ?_)
  refine lv_iconst (v := 0) hx hb dX5_pass_8 (by decide) ?_
  refine lv_istore_n (lv' := [(3, .int ((0 : Int32))), (2, .int (nI (nS v))), (1, .ref (ad g (28, 2, 0))), (0, .ref (ad g (20, 0, 0)))]) hx hb dX5_pass_9 rfl hl (by decide) rfl (fun ls hl => ?_)
  refine lp_W (i0 := 0) (nS v) (fun i => ent g (setR M 2 (it lur i v)) o) (fun i => [(3, .int (nI i)), (2, .int (nI (nS v))), (1, .ref (ad g (28, 2, 0))), (0, .ref (ad g (20, 0, 0)))]) (fun i => True) (Nat.zero_le _) (hP.castR (rfl)) hS (lv_sub hl [0, 1, 2, 3] rfl) (trivial) (fun H locs ls hP hS hl J => ?_) (fun i hi IH H locs ls hP hS hl J => ?_)
  · have qx1 : Cn v (it lur (nS v) v) := q1
    refine lv_iload_n hx hb dX5_pass_10 rfl (lv_at hl 0 rfl) ?_
    refine lv_iload_n hx hb dX5_pass_11 rfl (lv_at hl 1 rfl) ?_
    refine lv_icmp_ge (tgt := 32) hx hb dX5_pass_12 (by decide) (fun c1 => ?_) (fun c1 => absurd (nI_le (Nat.le_refl _) (by omega)) c1)
    replace hP := hP.castR (w := lam v) (rfl)
    refine lv_aload_n hx hb dX5_pass_32 rfl (lv_at hl 3 rfl) ?_
    refine m_get hC hE hP (k_20 hL) e_20 rfl u_5 4 (by decide) w_657 rfl rfl dX5_pass_33 ?_
    refine lv_astore_n (lv' := [(1, .ref (ad g (28, 2, 0))), (3, .int (nI (nS v))), (2, .int (nI (nS v))), (0, .ref (ad g (20, 0, 0)))]) hx hb dX5_pass_36 rfl hl (by decide) rfl (fun ls hl => ?_)
    refine lv_aload_n hx hb dX5_pass_37 rfl (lv_at hl 0 rfl) ?_
    refine m_alnA hC hE hP (k_28 hL) e_28 (congrArg nI q1.2.1) dX5_pass_38 ?_
    refine lv_istore_n (lv' := [(2, .int (nI (nS v))), (1, .ref (ad g (28, 2, 0))), (3, .int (nI (nS v))), (0, .ref (ad g (20, 0, 0)))]) hx hb dX5_pass_39 rfl hl (by decide) rfl (fun ls hl => ?_)
    refine lv_iconst (v := 0) hx hb dX5_pass_40 (by decide) ?_
    refine lv_istore_n (lv' := [(3, .int ((0 : Int32))), (2, .int (nI (nS v))), (1, .ref (ad g (28, 2, 0))), (0, .ref (ad g (20, 0, 0)))]) hx hb dX5_pass_41 rfl hl (by decide) rfl (fun ls hl => ?_)
    refine lp_W (i0 := 0) (nS v) (fun i => ent g (setR M 2 (it spr i (lam v))) o) (fun i => [(3, .int (nI i)), (2, .int (nI (nS v))), (1, .ref (ad g (28, 2, 0))), (0, .ref (ad g (20, 0, 0)))]) (fun i => True) (Nat.zero_le _) (hP.castR (rfl)) hS (lv_sub hl [0, 1, 2, 3] rfl) (trivial) (fun H locs ls hP hS hl J => ?_) (fun i hi IH H locs ls hP hS hl J => ?_)
    · have qx2 : Cn v (it spr (nS v) (lam v)) := q1.tr (Cn.of fun _ _ => it_keep (fun _ _ => spr_ne (by decide) (by decide)) _ _)
      refine lv_iload_n hx hb dX5_pass_42 rfl (lv_at hl 0 rfl) ?_
      refine lv_iload_n hx hb dX5_pass_43 rfl (lv_at hl 1 rfl) ?_
      refine lv_icmp_ge (tgt := 121) hx hb dX5_pass_44 (by decide) (fun c2 => ?_) (fun c2 => absurd (nI_le (Nat.le_refl _) (by omega)) c2)
      replace hP := hP.castR (w := spe (lam v)) (it_n q1.2.1)
      refine lv_aload_n hx hb dX5_pass_121 rfl (lv_at hl 3 rfl) ?_
      refine m_get hC hE hP (k_20 hL) e_20 rfl u_5 5 (by decide) w_659 rfl rfl dX5_pass_122 ?_
      refine lv_astore_n (lv' := [(1, .ref (ad g (29, 2, 0))), (3, .int (nI (nS v))), (2, .int (nI (nS v))), (0, .ref (ad g (20, 0, 0)))]) hx hb dX5_pass_125 rfl hl (by decide) rfl (fun ls hl => ?_)
      refine lv_aload_n hx hb dX5_pass_126 rfl (lv_at hl 0 rfl) ?_
      refine m_alnA hC hE hP (k_29 hL) e_29 (congrArg nI q2.2.2) dX5_pass_127 ?_
      refine lv_istore_n (lv' := [(2, .int (nI (nW v))), (1, .ref (ad g (29, 2, 0))), (3, .int (nI (nS v))), (0, .ref (ad g (20, 0, 0)))]) hx hb dX5_pass_128 rfl hl (by decide) rfl (fun ls hl => ?_)
      refine lv_iconst (v := 0) hx hb dX5_pass_129 (by decide) ?_
      refine lv_istore_n (lv' := [(3, .int ((0 : Int32))), (2, .int (nI (nW v))), (1, .ref (ad g (29, 2, 0))), (0, .ref (ad g (20, 0, 0)))]) hx hb dX5_pass_130 rfl hl (by decide) rfl (fun ls hl => ?_)
      refine lp_W (i0 := 0) (nW v) (fun i => ent g (setR M 2 (it gua i (spe (lam v)))) o) (fun i => [(3, .int (nI i)), (2, .int (nI (nW v))), (1, .ref (ad g (29, 2, 0))), (0, .ref (ad g (20, 0, 0)))]) (fun i => True) (Nat.zero_le _) (hP.castR (rfl)) hS (lv_sub hl [0, 1, 2, 3] rfl) (trivial) (fun H locs ls hP hS hl J => ?_) (fun i hi IH H locs ls hP hS hl J => ?_)
      · have qx3 : Cn v (it gua (nW v) (spe (lam v))) := q2.tr (Cn.of fun _ _ => it_keep (fun _ _ => gua_ne (by decide) (by decide) (by decide) (by decide) (by decide) (by decide)) _ _)
        refine lv_iload_n hx hb dX5_pass_131 rfl (lv_at hl 0 rfl) ?_
        refine lv_iload_n hx hb dX5_pass_132 rfl (lv_at hl 1 rfl) ?_
        refine lv_icmp_ge (tgt := 153) hx hb dX5_pass_133 (by decide) (fun c3 => ?_) (fun c3 => absurd (nI_le (Nat.le_refl _) (by omega)) c3)
        replace hP := hP.castR (w := sen (spe (lam v))) (it_n q2.2.2)
        refine lv_iconst (v := 0) hx hb dX5_pass_153 (by decide) ?_
        refine lv_istore_n (lv' := [(1, .int ((0 : Int32))), (3, .int (nI (nW v))), (2, .int (nI (nW v))), (0, .ref (ad g (20, 0, 0)))]) hx hb dX5_pass_154 rfl hl (by decide) rfl (fun ls hl => ?_)
        refine lv_aload_n hx hb dX5_pass_155 rfl (lv_at hl 3 rfl) ?_
        refine m_get hC hE hP (k_20 hL) e_20 rfl u_5 4 (by decide) w_657 rfl rfl dX5_pass_156 ?_
        refine lv_astore_n (lv' := [(2, .ref (ad g (28, 2, 0))), (1, .int ((0 : Int32))), (3, .int (nI (nW v))), (0, .ref (ad g (20, 0, 0)))]) hx hb dX5_pass_159 rfl hl (by decide) rfl (fun ls hl => ?_)
        refine lv_aload_n hx hb dX5_pass_160 rfl (lv_at hl 0 rfl) ?_
        refine m_alnA hC hE hP (k_28 hL) e_28 (congrArg nI q3.2.1) dX5_pass_161 ?_
        refine lv_istore_n (lv' := [(3, .int (nI (nS v))), (2, .ref (ad g (28, 2, 0))), (1, .int ((0 : Int32))), (0, .ref (ad g (20, 0, 0)))]) hx hb dX5_pass_162 rfl hl (by decide) rfl (fun ls hl => ?_)
        refine lv_iconst (v := 0) hx hb dX5_pass_163 (by decide) ?_
        refine lv_istore (lv' := [(4, .int ((0 : Int32))), (3, .int (nI (nS v))), (2, .ref (ad g (28, 2, 0))), (1, .int ((0 : Int32))), (0, .ref (ad g (20, 0, 0)))]) hx hb dX5_pass_164 hl (by decide) rfl (fun ls hl => ?_)
        refine lp_W (i0 := 0) (nS v) (fun i => ent g (setR M 2 (it kep i (sen (spe (lam v))))) o) (fun i => [(4, .int (nI i)), (3, .int (nI (nS v))), (2, .ref (ad g (28, 2, 0))), (1, .int (sumI ((sen (spe (lam v))) 9) i)), (0, .ref (ad g (20, 0, 0)))]) (fun i => True) (Nat.zero_le _) (hP.castR (rfl)) hS (lv_sub hl [0, 1, 2, 3, 4] rfl) (trivial) (fun H locs ls hP hS hl J => ?_) (fun i hi IH H locs ls hP hS hl J => ?_)
        · have qx4 : Cn v (it kep (nS v) (sen (spe (lam v)))) := q3.tr (Cn.of fun _ _ => it_keep (fun _ _ => kep_ne (by decide)) _ _)
          refine lv_iload hx hb dX5_pass_166 (lv_at hl 0 rfl) ?_
          refine lv_iload_n hx hb dX5_pass_168 rfl (lv_at hl 1 rfl) ?_
          refine lv_icmp_ge (tgt := 202) hx hb dX5_pass_169 (by decide) (fun c4 => ?_) (fun c4 => absurd (nI_le (Nat.le_refl _) (by omega)) c4)
          replace hP := hP.castR (w := kepA (sen (spe (lam v)))) (it_n q3.2.1)
          refine lv_aload_n hx hb dX5_pass_202 rfl (lv_at hl 4 rfl) ?_
          refine m_get hC hE hP (k_20 hL) e_20 rfl u_5 0 (by decide) w_649 rfl rfl dX5_pass_203 ?_
          refine lv_astore_n (lv' := [(2, .ref (ad g (26, 0, 0))), (4, .int (nI (nS v))), (3, .int (nI (nS v))), (1, .int (sumI ((sen (spe (lam v))) 9) (nS v))), (0, .ref (ad g (20, 0, 0)))]) hx hb dX5_pass_206 rfl hl (by decide) rfl (fun ls hl => ?_)
          refine lv_aload_n hx hb dX5_pass_207 rfl (lv_at hl 0 rfl) ?_
          refine m_alnA hC hE hP (k_26 hL (by decide)) f_26 rfl dX5_pass_208 ?_
          refine lv_istore_n (lv' := [(3, .int (nI 9)), (2, .ref (ad g (26, 0, 0))), (4, .int (nI (nS v))), (1, .int (sumI ((sen (spe (lam v))) 9) (nS v))), (0, .ref (ad g (20, 0, 0)))]) hx hb dX5_pass_209 rfl hl (by decide) rfl (fun ls hl => ?_)
          refine lv_iconst (v := 0) hx hb dX5_pass_210 (by decide) ?_
          refine lv_istore (lv' := [(4, .int ((0 : Int32))), (3, .int (nI 9)), (2, .ref (ad g (26, 0, 0))), (1, .int (sumI ((sen (spe (lam v))) 9) (nS v))), (0, .ref (ad g (20, 0, 0)))]) hx hb dX5_pass_211 hl (by decide) rfl (fun ls hl => ?_)
          refine lp_W (i0 := 0) 9 (fun x => ent g (setR M 2 (bq x 0 (kepA (sen (spe (lam v)))))) o) (fun x => [(4, .int (nI x)), (3, .int (nI 9)), (2, .ref (ad g (26, 0, 0))), (1, .int (sumI ((sen (spe (lam v))) 9) (nS v))), (0, .ref (ad g (20, 0, 0)))]) (fun x => True) (Nat.zero_le _) (hP.castR (bq_0)) hS (lv_sub hl [0, 1, 2, 3, 4] rfl) (trivial) (fun H locs ls hP hS hl J => ?_) (fun x hx8 IHx H locs ls hP hS hl J => ?_)
          · refine lv_iload hx hb dX5_pass_213 (lv_at hl 0 rfl) ?_
            refine lv_iload_n hx hb dX5_pass_215 rfl (lv_at hl 1 rfl) ?_
            refine lv_icmp_ge (tgt := 283) hx hb dX5_pass_216 (by decide) (fun c5 => ?_) (fun c5 => absurd (by decide) c5)
            replace hP := hP.castR (w := breA (kepA (sen (spe (lam v))))) (bq_9)
            refine lv_aload_n hx hb dX5_pass_283 rfl (lv_at hl 4 rfl) ?_
            refine m_get hC hE hP (k_20 hL) e_20 rfl u_5 2 (by decide) w_653 rfl rfl dX5_pass_284 ?_
            refine lv_aload_n hx hb dX5_pass_287 rfl (lv_at hl 4 rfl) ?_
            refine m_get hC hE hP (k_20 hL) e_20 rfl u_5 6 (by decide) w_661 rfl rfl dX5_pass_288 ?_
            refine m_top (y := nI (tt v)) (eN) ?_
            refine lv_bipush (v := 7) hx hb dX5_pass_291 (by decide) ?_
            refine lv_irem hx hb dX5_pass_293 (by decide) ?_
            refine m_top (y := nI (tt v % 7)) (pk_rem (a := tt v) (d := 7) (by omega) (by decide) (by decide)) ?_
            refine m_iald hC hE hP (k_22 hL) e_22 (tt v % 7) (rfl) (show (tt v % 7) < 7 from Nat.mod_lt _ (by decide)) (by decide) dX5_pass_294 ?_
            refine m_top (y := (breA (kepA (sen (spe (lam v))))) 2 (tt v % 7)) rfl ?_
            refine m_top (y := frostN (breA (kepA (sen (spe (lam v)))))) (by unfold frostN; rw [eT]) ?_
            refine lv_istore_n (lv' := [(2, .int (frostN (breA (kepA (sen (spe (lam v))))))), (4, .int (nI 9)), (3, .int (nI 9)), (1, .int (sumI ((sen (spe (lam v))) 9) (nS v))), (0, .ref (ad g (20, 0, 0)))]) hx hb dX5_pass_295 rfl hl (by decide) rfl (fun ls hl => ?_)
            refine lv_aload_n hx hb dX5_pass_296 rfl (lv_at hl 4 rfl) ?_
            refine lv_dup hx hb dX5_pass_297 rfl ?_
            refine m_get hC hE hP (k_20 hL) e_20 rfl u_5 7 (by decide) w_662 rfl rfl dX5_pass_298 ?_
            refine lv_iload_n hx hb dX5_pass_301 rfl (lv_at hl 0 rfl) ?_
            refine lv_iadd hx hb dX5_pass_302 ?_
            refine m_put hC hE hI hP hS (k_20 hL) e_20 rfl u_5 tyX5_ok nmX5 7 (by decide) w_662 rfl rfl rfl rfl (Nat.le_of_ble_eq_true rfl) p_20_7 (ent_put g M 2 (breA (kepA (sen (spe (lam v))))) o 16 3 (((breA (kepA (sen (spe (lam v))))) 16 3) + (frostN (breA (kepA (sen (spe (lam v))))))) (kf_20 (by decide))) dX5_pass_303 (fun H locs hP hS => ?_)
            refine lv_aload_n hx hb dX5_pass_306 rfl (lv_at hl 4 rfl) ?_
            refine W_joinL (g := g) (K := KK g) (nL := 7) (ent g (setR M 2 (up2 (breA (kepA (sen (spe (lam v))))) 16 3 (((breA (kepA (sen (spe (lam v))))) 16 3) + (frostN (breA (kepA (sen (spe (lam v))))))))) o) [(2, .int (frostN (breA (kepA (sen (spe (lam v))))))), (4, .int (nI 9)), (3, .int (nI 9)), (1, .int (sumI ((sen (spe (lam v))) 9) (nS v))), (0, .ref (ad g (20, 0, 0)))] (pc := 336) [.int (iceN (breA (kepA (sen (spe (lam v)))))), .ref (ad g (20, 0, 0))] (fun hj336 => ?_) (fun H locs ls hP hS hl => ?_)
            · refine lv_aload_n hx hb dX5_pass_307 rfl (lv_at hl 4 rfl) ?_
              refine m_get hC hE hP (k_20 hL) e_20 rfl u_5 7 (by decide) w_662 rfl rfl dX5_pass_308 ?_
              refine m_top (y := (breA (kepA (sen (spe (lam v))))) 16 3 + frostN (breA (kepA (sen (spe (lam v)))))) (up2_same _ _ _ _) ?_
              refine lv_if_ge (tgt := 318) hx hb dX5_pass_311 (by decide) (fun c1 => ?_) (fun c1 => ?_)
              · refine lv_aload_n hx hb dX5_pass_318 rfl (lv_at hl 4 rfl) ?_
                refine m_get hC hE hP (k_20 hL) e_20 rfl u_5 7 (by decide) w_662 rfl rfl dX5_pass_319 ?_
                refine m_top (y := (breA (kepA (sen (spe (lam v))))) 16 3 + frostN (breA (kepA (sen (spe (lam v)))))) (up2_same _ _ _ _) ?_
                refine lv_bipush (v := 90) hx hb dX5_pass_322 (by decide) ?_
                refine lv_icmp_le (tgt := 332) hx hb dX5_pass_324 (by decide) (fun c2 => ?_) (fun c2 => ?_)
                · refine lv_aload_n hx hb dX5_pass_332 rfl (lv_at hl 4 rfl) ?_
                  refine m_get hC hE hP (k_20 hL) e_20 rfl u_5 7 (by decide) w_662 rfl rfl dX5_pass_333 ?_
                  refine m_top (y := (breA (kepA (sen (spe (lam v))))) 16 3 + frostN (breA (kepA (sen (spe (lam v)))))) (up2_same _ _ _ _) ?_
                  refine m_top (y := iceN (breA (kepA (sen (spe (lam v)))))) (ice_3 c1 c2) ?_
                  exact hj336 H locs ls (hP.castR (rfl)) hS (lv_sub hl [0, 1, 2, 3, 4] rfl)
                · refine lv_bipush (v := 90) hx hb dX5_pass_327 (by decide) ?_
                  refine lv_goto (tgt := 336) hx hb dX5_pass_329 (by decide) ?_
                  refine m_top (y := iceN (breA (kepA (sen (spe (lam v)))))) (ice_2 c2) ?_
                  exact hj336 H locs ls (hP.castR (rfl)) hS (lv_sub hl [0, 1, 2, 3, 4] rfl)
              · refine lv_iconst (v := 0) hx hb dX5_pass_314 (by decide) ?_
                refine lv_goto (tgt := 336) hx hb dX5_pass_315 (by decide) ?_
                refine m_top (y := iceN (breA (kepA (sen (spe (lam v)))))) (ice_1 c1) ?_
                exact hj336 H locs ls (hP.castR (rfl)) hS (lv_sub hl [0, 1, 2, 3, 4] rfl)
            · refine m_put hC hE hI hP hS (k_20 hL) e_20 rfl u_5 tyX5_ok nmX5 7 (by decide) w_662 rfl rfl rfl rfl (Nat.le_of_ble_eq_true rfl) p_20_7 (ent_put g M 2 (up2 (breA (kepA (sen (spe (lam v))))) 16 3 (((breA (kepA (sen (spe (lam v))))) 16 3) + (frostN (breA (kepA (sen (spe (lam v)))))))) o 16 3 (iceN (breA (kepA (sen (spe (lam v)))))) (kf_20 (by decide))) dX5_pass_336 (fun H locs hP hS => ?_)
              replace hP := hP.castR (w := fzH (breA (kepA (sen (spe (lam v))))) 0) (up2_2)
              refine lv_iconst (v := 0) hx hb dX5_pass_339 (by decide) ?_
              refine lv_istore_n (lv' := [(3, .int ((0 : Int32))), (2, .int (frostN (breA (kepA (sen (spe (lam v))))))), (4, .int (nI 9)), (1, .int (sumI ((sen (spe (lam v))) 9) (nS v))), (0, .ref (ad g (20, 0, 0)))]) hx hb dX5_pass_340 rfl hl (by decide) rfl (fun ls hl => ?_)
              refine lp_W (i0 := 0) (nH v) (fun i => ent g (setR M 2 (fzH (breA (kepA (sen (spe (lam v))))) i)) o) (fun i => [(3, .int (nI i)), (2, .int (frostN (breA (kepA (sen (spe (lam v))))))), (4, .int (nI 9)), (1, .int (sumI ((sen (spe (lam v))) 9) (nS v))), (0, .ref (ad g (20, 0, 0)))]) (fun i => True) (Nat.zero_le _) (hP.castR (rfl)) hS (lv_sub hl [0, 1, 2, 3, 4] rfl) (trivial) (fun H locs ls hP hS hl J => ?_) (fun i hi IH H locs ls hP hS hl J => ?_)
              · have qx7 : Cn v (fzH (breA (kepA (sen (spe (lam v))))) (nH v)) := q5.tr ⟨by unfold nH; rw [fzH_16 (by decide)], by unfold nS; rw [fzH_16 (by decide)], by unfold nW; rw [fzH_16 (by decide)]⟩
                refine lv_iload_n hx hb dX5_pass_341 rfl (lv_at hl 0 rfl) ?_
                refine lv_aload_n hx hb dX5_pass_342 rfl (lv_at hl 4 rfl) ?_
                refine m_get hC hE hP (k_20 hL) e_20 rfl u_5 3 (by decide) w_655 rfl rfl dX5_pass_343 ?_
                refine m_alnA hC hE hP (k_27 hL) e_27 (congrArg nI qx7.1) dX5_pass_346 ?_
                refine lv_icmp_ge (tgt := 385) hx hb dX5_pass_347 (by decide) (fun c6 => ?_) (fun c6 => absurd (nI_le (Nat.le_refl _) (by omega)) c6)
                refine W_joinL (g := g) (K := KK g) (nL := 7) (ent g (setR M 2 (frz (breA (kepA (sen (spe (lam v))))))) o) [(1, .int (sumI ((sen (spe (lam v))) 9) (nS v))), (0, .ref (ad g (20, 0, 0)))] (pc := 429) [] (fun hj429 => ?_) (fun H locs ls hP hS hl => ?_)
                · refine lv_aload_n hx hb dX5_pass_385 rfl (lv_at hl 4 rfl) ?_
                  refine m_get hC hE hP (k_20 hL) e_20 rfl u_5 7 (by decide) w_662 rfl rfl dX5_pass_386 ?_
                  refine m_top (y := iceN (breA (kepA (sen (spe (lam v)))))) (fzH_ice) ?_
                  refine lv_iconst (v := 5) hx hb dX5_pass_389 (by decide) ?_
                  refine lv_icmp_ge (tgt := 429) hx hb dX5_pass_390 (by decide) (fun c6 => ?_) (fun c6 => ?_)
                  · exact hj429 H locs ls (hP.castR (frz_fzH q5.1 (Int32.not_lt.mpr c6))) hS (lv_sub hl [3, 4] rfl)
                  · have c6 := Int32.not_le.mp c6
                    refine lv_aload_n hx hb dX5_pass_393 rfl (lv_at hl 4 rfl) ?_
                    refine m_get hC hE hP (k_20 hL) e_20 rfl u_5 4 (by decide) w_657 rfl rfl dX5_pass_394 ?_
                    refine lv_astore_n (lv' := [(3, .ref (ad g (28, 2, 0))), (2, .int (frostN (breA (kepA (sen (spe (lam v))))))), (4, .int (nI 9)), (1, .int (sumI ((sen (spe (lam v))) 9) (nS v))), (0, .ref (ad g (20, 0, 0)))]) hx hb dX5_pass_397 rfl hl (by decide) rfl (fun ls hl => ?_)
                    refine lv_aload_n hx hb dX5_pass_398 rfl (lv_at hl 0 rfl) ?_
                    refine m_alnA hC hE hP (k_28 hL) e_28 (congrArg nI qx7.2.1) dX5_pass_399 ?_
                    refine lv_istore (lv' := [(4, .int (nI (nS v))), (3, .ref (ad g (28, 2, 0))), (2, .int (frostN (breA (kepA (sen (spe (lam v))))))), (1, .int (sumI ((sen (spe (lam v))) 9) (nS v))), (0, .ref (ad g (20, 0, 0)))]) hx hb dX5_pass_400 hl (by decide) rfl (fun ls hl => ?_)
                    refine lv_iconst (v := 0) hx hb dX5_pass_402 (by decide) ?_
                    refine lv_istore (lv' := [(5, .int ((0 : Int32))), (4, .int (nI (nS v))), (3, .ref (ad g (28, 2, 0))), (2, .int (frostN (breA (kepA (sen (spe (lam v))))))), (1, .int (sumI ((sen (spe (lam v))) 9) (nS v))), (0, .ref (ad g (20, 0, 0)))]) hx hb dX5_pass_403 hl (by decide) rfl (fun ls hl => ?_)
                    refine lp_W (i0 := 0) (nS v) (fun i => ent g (setR M 2 (fzA (breA (kepA (sen (spe (lam v))))) i)) o) (fun i => [(5, .int (nI i)), (4, .int (nI (nS v))), (3, .ref (ad g (28, 2, 0))), (2, .int (frostN (breA (kepA (sen (spe (lam v))))))), (1, .int (sumI ((sen (spe (lam v))) 9) (nS v))), (0, .ref (ad g (20, 0, 0)))]) (fun i => True) (Nat.zero_le _) (hP.castR (fzA_0 q5.1)) hS (lv_sub hl [0, 1, 2, 3, 4, 5] rfl) (trivial) (fun H locs ls hP hS hl J => ?_) (fun i hi IH H locs ls hP hS hl J => ?_)
                    · refine lv_iload hx hb dX5_pass_405 (lv_at hl 0 rfl) ?_
                      refine lv_iload hx hb dX5_pass_407 (lv_at hl 1 rfl) ?_
                      refine lv_icmp_ge (tgt := 429) hx hb dX5_pass_409 (by decide) (fun c7 => ?_) (fun c7 => absurd (nI_le (Nat.le_refl _) (by omega)) c7)
                      exact hj429 H locs ls (hP.castR (frz_fzA q5.2.1)) hS (lv_sub hl [4, 5] rfl)
                    · have qi8 : Cn v (fzA (breA (kepA (sen (spe (lam v))))) i) := q5.tr ⟨by unfold nH; rw [fzA_16 (by decide)], by unfold nS; rw [fzA_16 (by decide)], by unfold nW; rw [fzA_16 (by decide)]⟩
                      refine lv_iload hx hb dX5_pass_405 (lv_at hl 0 rfl) ?_
                      refine lv_iload hx hb dX5_pass_407 (lv_at hl 1 rfl) ?_
                      refine lv_icmp_ge (tgt := 429) hx hb dX5_pass_409 (by decide) (fun c8 => absurd c8 (nI_ge hi (by omega))) (fun c8 => ?_)
                      refine lv_aload_n hx hb dX5_pass_412 rfl (lv_at hl 2 rfl) ?_
                      refine lv_iload hx hb dX5_pass_413 (lv_at hl 0 rfl) ?_
                      refine m_aalA hC hE hP (k_28 hL) e_28 i (rfl) (qi8.lS (by omega)) (qi8.bS (by omega)) dX5_pass_415 ?_
                      refine lv_astore (lv' := [(6, .ref (ad g (24, 2, i))), (5, .int (nI i)), (4, .int (nI (nS v))), (3, .ref (ad g (28, 2, 0))), (2, .int (frostN (breA (kepA (sen (spe (lam v))))))), (1, .int (sumI ((sen (spe (lam v))) 9) (nS v))), (0, .ref (ad g (20, 0, 0)))]) hx hb dX5_pass_416 hl (by decide) rfl (fun ls hl => ?_)
                      refine lv_aload hx hb dX5_pass_418 (lv_at hl 0 rfl) ?_
                      refine lv_iconst (v := 2) hx hb dX5_pass_420 (by decide) ?_
                      refine lv_iconst (v := (-1)) hx hb dX5_pass_421 (by decide) ?_
                      refine m_iast hC hE hI hP hS (k_24 hL (by omega)) e_24 2 (rfl) (show 2 < 6 from by omega) (by decide) (p_24 2 (by decide)) (ent_put g M 2 (fzA (breA (kepA (sen (spe (lam v))))) i) o 8 i (-1 : Int32) (kf_24 (Or.inl rfl) (by decide) (by decide))) dX5_pass_422 (fun H locs hP hS => ?_)
                      refine lv_iinc (v := nI (i + 1)) (lv' := [(5, .int (nI (i + 1))), (6, .ref (ad g (24, 2, i))), (4, .int (nI (nS v))), (3, .ref (ad g (28, 2, 0))), (2, .int (frostN (breA (kepA (sen (spe (lam v))))))), (1, .int (sumI ((sen (spe (lam v))) 9) (nS v))), (0, .ref (ad g (20, 0, 0)))]) hx hb dX5_pass_423 hl (k := 1) rfl (nI_1 _) (by decide) rfl (fun ls hl => ?_)
                      refine lv_goto (tgt := 405) hx hb dX5_pass_426 (by decide) ?_
                      exact IH H locs ls (hP.castR (fzA_t c6)) hS (lv_sub hl [0, 2, 3, 4, 5, 6] rfl) (trivial)
                · refine lv_aload_n hx hb dX5_pass_429 rfl (lv_at hl 1 rfl) ?_
                  refine lv_dup hx hb dX5_pass_430 rfl ?_
                  refine m_get hC hE hP (k_20 hL) e_20 rfl u_5 6 (by decide) w_661 rfl rfl dX5_pass_431 ?_
                  refine lv_iconst (v := 1) hx hb dX5_pass_434 (by decide) ?_
                  refine lv_iadd hx hb dX5_pass_435 ?_
                  refine m_put hC hE hI hP hS (k_20 hL) e_20 rfl u_5 tyX5_ok nmX5 6 (by decide) w_661 rfl rfl rfl rfl (Nat.le_of_ble_eq_true rfl) p_20_6 (ent_put g M 2 (frz (breA (kepA (sen (spe (lam v)))))) o 16 4 (((frz (breA (kepA (sen (spe (lam v)))))) 16 4) + (1 : Int32)) (kf_20 (by decide))) dX5_pass_436 (fun H locs hP hS => ?_)
                  refine lv_iload_n hx hb dX5_pass_439 rfl (lv_at hl 0 rfl) ?_
                  exact m_iret hC hr_ hlk hS (hP.castR (rfl)) rfl (by show sumI ((sen (spe (lam v))) 9) (nS v) = got1 v; rfl) dX5_pass_440
              · have hi7 : Inv (fzH (breA (kepA (sen (spe (lam v))))) i) := fzH_inv i5 i
                have qi7 : Cn v (fzH (breA (kepA (sen (spe (lam v))))) i) := q5.tr ⟨by unfold nH; rw [fzH_16 (by decide)], by unfold nS; rw [fzH_16 (by decide)], by unfold nW; rw [fzH_16 (by decide)]⟩
                refine lv_iload_n hx hb dX5_pass_341 rfl (lv_at hl 0 rfl) ?_
                refine lv_aload_n hx hb dX5_pass_342 rfl (lv_at hl 4 rfl) ?_
                refine m_get hC hE hP (k_20 hL) e_20 rfl u_5 3 (by decide) w_655 rfl rfl dX5_pass_343 ?_
                refine m_alnA hC hE hP (k_27 hL) e_27 (congrArg nI qi7.1) dX5_pass_346 ?_
                refine lv_icmp_ge (tgt := 385) hx hb dX5_pass_347 (by decide) (fun c9 => absurd c9 (nI_ge hi (by omega))) (fun c9 => ?_)
                refine lv_aload_n hx hb dX5_pass_350 rfl (lv_at hl 4 rfl) ?_
                refine m_get hC hE hP (k_20 hL) e_20 rfl u_5 7 (by decide) w_662 rfl rfl dX5_pass_351 ?_
                refine m_top (y := iceN (breA (kepA (sen (spe (lam v)))))) (fzH_ice) ?_
                refine lv_iconst (v := 5) hx hb dX5_pass_354 (by decide) ?_
                refine lv_icmp_lt (tgt := 370) hx hb dX5_pass_355 (by decide) (fun c1 => ?_) (fun c1 => ?_)
                · refine lv_aload_n hx hb dX5_pass_370 rfl (lv_at hl 4 rfl) ?_
                  refine m_get hC hE hP (k_20 hL) e_20 rfl u_5 3 (by decide) w_655 rfl rfl dX5_pass_371 ?_
                  refine lv_iload_n hx hb dX5_pass_374 rfl (lv_at hl 0 rfl) ?_
                  refine m_aalA hC hE hP (k_27 hL) e_27 i (rfl) (qi7.lH (by omega)) (qi7.bH (by omega)) dX5_pass_375 ?_
                  refine lv_iconst (v := 2) hx hb dX5_pass_376 (by decide) ?_
                  refine lv_iconst (v := 0) hx hb dX5_pass_377 (by decide) ?_
                  refine m_iast hC hE hI hP hS (k_23 hL (by omega)) e_23 2 (rfl) (show 2 < 3 from by omega) (by decide) (p_23 2 (by decide)) (ent_put g M 2 (fzH (breA (kepA (sen (spe (lam v))))) i) o 5 i (0 : Int32) (kf_23 (by decide) (by decide))) dX5_pass_378 (fun H locs hP hS => ?_)
                  refine lv_iinc (v := nI (i + 1)) (lv' := [(3, .int (nI (i + 1))), (2, .int (frostN (breA (kepA (sen (spe (lam v))))))), (4, .int (nI 9)), (1, .int (sumI ((sen (spe (lam v))) 9) (nS v))), (0, .ref (ad g (20, 0, 0)))]) hx hb dX5_pass_379 hl (k := 0) rfl (nI_1 _) (by decide) rfl (fun ls hl => ?_)
                  refine lv_goto (tgt := 341) hx hb dX5_pass_382 (by decide) ?_
                  exact IH H locs ls (hP.castR (fzH_t (Or.inl c1))) hS (lv_sub hl [0, 1, 2, 3, 4] rfl) (trivial)
                · refine lv_iload_n hx hb dX5_pass_358 rfl (lv_at hl 1 rfl) ?_
                  refine lv_if_le (tgt := 379) hx hb dX5_pass_359 (by decide) (fun c2 => ?_) (fun c2 => ?_)
                  · refine lv_iinc (v := nI (i + 1)) (lv' := [(3, .int (nI (i + 1))), (2, .int (frostN (breA (kepA (sen (spe (lam v))))))), (4, .int (nI 9)), (1, .int (sumI ((sen (spe (lam v))) 9) (nS v))), (0, .ref (ad g (20, 0, 0)))]) hx hb dX5_pass_379 hl (k := 0) rfl (nI_1 _) (by decide) rfl (fun ls hl => ?_)
                    refine lv_goto (tgt := 341) hx hb dX5_pass_382 (by decide) ?_
                    exact IH H locs ls (hP.castR (fzH_f (fun q => q.elim c1 (fun q => Int32.not_lt.mpr c2 q.1)))) hS (lv_sub hl [0, 1, 2, 3, 4] rfl) (trivial)
                  · refine lv_aload_n hx hb dX5_pass_362 rfl (lv_at hl 4 rfl) ?_
                    refine lv_iload_n hx hb dX5_pass_363 rfl (lv_at hl 0 rfl) ?_
                    refine on_i (run_V hC hE hP hS (As := [.int (nI i)]) (c_manyS l hI hi7 (hL.cn qi7) (nI i)) cal_X5_many w_531 ⟨Nat.le_of_ble_eq_true rfl, Nat.le_of_ble_eq_true rfl⟩ (k_20 hL) e_20 rfl rfl rfl (Nat.le_of_ble_eq_true rfl) hl.1 ⟨Nat.le_of_ble_eq_true rfl, Nat.le_of_ble_eq_true rfl⟩ dX5_pass_364) hS (fun H locs hP hS => ?_)
                    refine m_top (y := spAt (breA (kepA (sen (spe (lam v))))) (nI i)) (spAt_fzH) ?_
                    refine lv_if_ne (tgt := 379) hx hb dX5_pass_367 (by decide) (fun c3 => ?_) (fun c3 => ?_)
                    · refine lv_iinc (v := nI (i + 1)) (lv' := [(3, .int (nI (i + 1))), (2, .int (frostN (breA (kepA (sen (spe (lam v))))))), (4, .int (nI 9)), (1, .int (sumI ((sen (spe (lam v))) 9) (nS v))), (0, .ref (ad g (20, 0, 0)))]) hx hb dX5_pass_379 hl (k := 0) rfl (nI_1 _) (by decide) rfl (fun ls hl => ?_)
                      refine lv_goto (tgt := 341) hx hb dX5_pass_382 (by decide) ?_
                      exact IH H locs ls (hP.castR (fzH_f (fun q => q.elim c1 (fun q => c3 q.2)))) hS (lv_sub hl [0, 1, 2, 3, 4] rfl) (trivial)
                    · refine lv_aload_n hx hb dX5_pass_370 rfl (lv_at hl 4 rfl) ?_
                      refine m_get hC hE hP (k_20 hL) e_20 rfl u_5 3 (by decide) w_655 rfl rfl dX5_pass_371 ?_
                      refine lv_iload_n hx hb dX5_pass_374 rfl (lv_at hl 0 rfl) ?_
                      refine m_aalA hC hE hP (k_27 hL) e_27 i (rfl) (qi7.lH (by omega)) (qi7.bH (by omega)) dX5_pass_375 ?_
                      refine lv_iconst (v := 2) hx hb dX5_pass_376 (by decide) ?_
                      refine lv_iconst (v := 0) hx hb dX5_pass_377 (by decide) ?_
                      refine m_iast hC hE hI hP hS (k_23 hL (by omega)) e_23 2 (rfl) (show 2 < 3 from by omega) (by decide) (p_23 2 (by decide)) (ent_put g M 2 (fzH (breA (kepA (sen (spe (lam v))))) i) o 5 i (0 : Int32) (kf_23 (by decide) (by decide))) dX5_pass_378 (fun H locs hP hS => ?_)
                      refine lv_iinc (v := nI (i + 1)) (lv' := [(3, .int (nI (i + 1))), (2, .int (frostN (breA (kepA (sen (spe (lam v))))))), (4, .int (nI 9)), (1, .int (sumI ((sen (spe (lam v))) 9) (nS v))), (0, .ref (ad g (20, 0, 0)))]) hx hb dX5_pass_379 hl (k := 0) rfl (nI_1 _) (by decide) rfl (fun ls hl => ?_)
                      refine lv_goto (tgt := 341) hx hb dX5_pass_382 (by decide) ?_
                      exact IH H locs ls (hP.castR (fzH_t (Or.inr ⟨Int32.not_le.mp c2, c3⟩))) hS (lv_sub hl [0, 1, 2, 3, 4] rfl) (trivial)
          · refine lv_iload hx hb dX5_pass_213 (lv_at hl 0 rfl) ?_
            refine lv_iload_n hx hb dX5_pass_215 rfl (lv_at hl 1 rfl) ?_
            refine lv_icmp_ge (tgt := 283) hx hb dX5_pass_216 (by decide) (fun c10 => absurd c10 (nI_ge (b := 9) hx8 (by decide))) (fun c10 => ?_)
            refine lv_aload_n hx hb dX5_pass_219 rfl (lv_at hl 2 rfl) ?_
            refine lv_iload hx hb dX5_pass_220 (lv_at hl 0 rfl) ?_
            refine m_aalA hC hE hP (k_26 hL (by decide)) f_26 x (rfl) (show x < 9 from by omega) (by decide) dX5_pass_222 ?_
            refine lv_astore (lv' := [(5, .ref (ad g (21, 0, x))), (4, .int (nI x)), (3, .int (nI 9)), (2, .ref (ad g (26, 0, 0))), (1, .int (sumI ((sen (spe (lam v))) 9) (nS v))), (0, .ref (ad g (20, 0, 0)))]) hx hb dX5_pass_223 hl (by decide) rfl (fun ls hl => ?_)
            refine lv_iconst (v := 0) hx hb dX5_pass_225 (by decide) ?_
            refine lv_istore (lv' := [(6, .int ((0 : Int32))), (5, .ref (ad g (21, 0, x))), (4, .int (nI x)), (3, .int (nI 9)), (2, .ref (ad g (26, 0, 0))), (1, .int (sumI ((sen (spe (lam v))) 9) (nS v))), (0, .ref (ad g (20, 0, 0)))]) hx hb dX5_pass_226 hl (by decide) rfl (fun ls hl => ?_)
            refine lp_W (i0 := 0) 9 (fun y => ent g (setR M 2 (bq x y (kepA (sen (spe (lam v)))))) o) (fun y => [(6, .int (nI y)), (5, .ref (ad g (21, 0, x))), (4, .int (nI x)), (3, .int (nI 9)), (2, .ref (ad g (26, 0, 0))), (1, .int (sumI ((sen (spe (lam v))) 9) (nS v))), (0, .ref (ad g (20, 0, 0)))]) (fun y => True) (Nat.zero_le _) (hP.castR (rfl)) hS (lv_sub hl [0, 1, 2, 3, 4, 5, 6] rfl) (trivial) (fun H locs ls hP hS hl J => ?_) (fun y hy IHy H locs ls hP hS hl J => ?_)
            · refine lv_iload hx hb dX5_pass_228 (lv_at hl 0 rfl) ?_
              refine lv_bipush (v := 9) hx hb dX5_pass_230 (by decide) ?_
              refine lv_icmp_ge (tgt := 277) hx hb dX5_pass_232 (by decide) (fun c11 => ?_) (fun c11 => absurd (by decide) c11)
              refine lv_iinc (v := nI (x + 1)) (lv' := [(4, .int (nI (x + 1))), (6, .int (nI 9)), (5, .ref (ad g (21, 0, x))), (3, .int (nI 9)), (2, .ref (ad g (26, 0, 0))), (1, .int (sumI ((sen (spe (lam v))) 9) (nS v))), (0, .ref (ad g (20, 0, 0)))]) hx hb dX5_pass_277 hl (k := 2) rfl (nI_1 _) (by decide) rfl (fun ls hl => ?_)
              refine lv_goto (tgt := 213) hx hb dX5_pass_280 (by decide) ?_
              exact IHx H locs ls (hP.castR (bq_row)) hS (lv_sub hl [0, 3, 4, 5, 6] rfl) (trivial)
            · refine lv_iload hx hb dX5_pass_228 (lv_at hl 0 rfl) ?_
              refine lv_bipush (v := 9) hx hb dX5_pass_230 (by decide) ?_
              refine lv_icmp_ge (tgt := 277) hx hb dX5_pass_232 (by decide) (fun c12 => absurd c12 (nI_ge (b := 9) hy (by decide))) (fun c12 => ?_)
              refine lv_aload hx hb dX5_pass_235 (lv_at hl 1 rfl) ?_
              refine lv_iload hx hb dX5_pass_237 (lv_at hl 0 rfl) ?_
              refine m_iald hC hE hP (k_21 hL (by decide) (by omega)) e_21 y (rfl) (show y < 9 from by omega) (by decide) dX5_pass_239 ?_
              refine m_top (y := (bq x y (kepA (sen (spe (lam v))))) 0 (9 * y + x)) rfl ?_
              refine m_top (y := (kepA (sen (spe (lam v)))) 0 (9 * y + x)) (bq_at hx8) ?_
              refine lv_if_le (tgt := 271) hx hb dX5_pass_240 (by decide) (fun c1 => ?_) (fun c1 => ?_)
              · refine lv_iinc (v := nI (y + 1)) (lv' := [(6, .int (nI (y + 1))), (5, .ref (ad g (21, 0, x))), (4, .int (nI x)), (3, .int (nI 9)), (2, .ref (ad g (26, 0, 0))), (1, .int (sumI ((sen (spe (lam v))) 9) (nS v))), (0, .ref (ad g (20, 0, 0)))]) hx hb dX5_pass_271 hl (k := 0) rfl (nI_1 _) (by decide) rfl (fun ls hl => ?_)
                refine lv_goto (tgt := 228) hx hb dX5_pass_274 (by decide) ?_
                exact IHy H locs ls (hP.castR (bq_no hx8 hy (in40_1 c1))) hS (lv_sub hl [0, 1, 2, 3, 4, 5, 6] rfl) (trivial)
              · refine lv_aload hx hb dX5_pass_243 (lv_at hl 1 rfl) ?_
                refine lv_iload hx hb dX5_pass_245 (lv_at hl 0 rfl) ?_
                refine m_iald hC hE hP (k_21 hL (by decide) (by omega)) e_21 y (rfl) (show y < 9 from by omega) (by decide) dX5_pass_247 ?_
                refine m_top (y := (bq x y (kepA (sen (spe (lam v))))) 0 (9 * y + x)) rfl ?_
                refine m_top (y := (kepA (sen (spe (lam v)))) 0 (9 * y + x)) (bq_at hx8) ?_
                refine lv_bipush (v := 41) hx hb dX5_pass_248 (by decide) ?_
                refine lv_icmp_ge (tgt := 271) hx hb dX5_pass_250 (by decide) (fun c2 => ?_) (fun c2 => ?_)
                · refine lv_iinc (v := nI (y + 1)) (lv' := [(6, .int (nI (y + 1))), (5, .ref (ad g (21, 0, x))), (4, .int (nI x)), (3, .int (nI 9)), (2, .ref (ad g (26, 0, 0))), (1, .int (sumI ((sen (spe (lam v))) 9) (nS v))), (0, .ref (ad g (20, 0, 0)))]) hx hb dX5_pass_271 hl (k := 0) rfl (nI_1 _) (by decide) rfl (fun ls hl => ?_)
                  refine lv_goto (tgt := 228) hx hb dX5_pass_274 (by decide) ?_
                  exact IHy H locs ls (hP.castR (bq_no hx8 hy (in40_2 c2))) hS (lv_sub hl [0, 1, 2, 3, 4, 5, 6] rfl) (trivial)
                · refine lv_aload hx hb dX5_pass_253 (lv_at hl 1 rfl) ?_
                  refine lv_iload hx hb dX5_pass_255 (lv_at hl 0 rfl) ?_
                  refine lv_dup2_11 hx hb dX5_pass_257 rfl rfl ?_
                  refine m_iald hC hE hP (k_21 hL (by decide) (by omega)) e_21 y (rfl) (show y < 9 from by omega) (by decide) dX5_pass_258 ?_
                  refine m_top (y := (bq x y (kepA (sen (spe (lam v))))) 0 (9 * y + x)) rfl ?_
                  refine m_top (y := (kepA (sen (spe (lam v)))) 0 (9 * y + x)) (bq_at hx8) ?_
                  refine lv_aload hx hb dX5_pass_259 (lv_at hl 1 rfl) ?_
                  refine lv_iload hx hb dX5_pass_261 (lv_at hl 0 rfl) ?_
                  refine m_iald hC hE hP (k_21 hL (by decide) (by omega)) e_21 y (rfl) (show y < 9 from by omega) (by decide) dX5_pass_263 ?_
                  refine m_top (y := (bq x y (kepA (sen (spe (lam v))))) 0 (9 * y + x)) rfl ?_
                  refine m_top (y := (kepA (sen (spe (lam v)))) 0 (9 * y + x)) (bq_at hx8) ?_
                  refine lv_bipush (v := 10) hx hb dX5_pass_264 (by decide) ?_
                  refine lv_idiv hx hb dX5_pass_266 (by decide) ?_
                  refine lv_iconst (v := 1) hx hb dX5_pass_267 (by decide) ?_
                  refine lv_iadd hx hb dX5_pass_268 ?_
                  refine lv_iadd hx hb dX5_pass_269 ?_
                  refine m_iast hC hE hI hP hS (k_21 hL (by decide) (by omega)) e_21 y (rfl) (show y < 9 from by omega) (by decide) (p_21 (by omega)) (ent_put g M 2 (bq x y (kepA (sen (spe (lam v))))) o 0 (9 * y + x) (((kepA (sen (spe (lam v)))) 0 (9 * y + x)) + ((((kepA (sen (spe (lam v)))) 0 (9 * y + x)) / (10 : Int32)) + (1 : Int32))) (kf_21 (by decide) (by omega))) dX5_pass_270 (fun H locs hP hS => ?_)
                  refine lv_iinc (v := nI (y + 1)) (lv' := [(6, .int (nI (y + 1))), (5, .ref (ad g (21, 0, x))), (4, .int (nI x)), (3, .int (nI 9)), (2, .ref (ad g (26, 0, 0))), (1, .int (sumI ((sen (spe (lam v))) 9) (nS v))), (0, .ref (ad g (20, 0, 0)))]) hx hb dX5_pass_271 hl (k := 0) rfl (nI_1 _) (by decide) rfl (fun ls hl => ?_)
                  refine lv_goto (tgt := 228) hx hb dX5_pass_274 (by decide) ?_
                  exact IHy H locs ls (hP.castR (bq_s hx8 hy (if_pos (in40_t c1 c2)))) hS (lv_sub hl [0, 1, 2, 3, 4, 5, 6] rfl) (trivial)
        · have qi4 : Cn v (it kep i (sen (spe (lam v)))) := q3.tr (Cn.of fun _ _ => it_keep (fun _ _ => kep_ne (by decide)) _ _)
          refine lv_iload hx hb dX5_pass_166 (lv_at hl 0 rfl) ?_
          refine lv_iload_n hx hb dX5_pass_168 rfl (lv_at hl 1 rfl) ?_
          refine lv_icmp_ge (tgt := 202) hx hb dX5_pass_169 (by decide) (fun c13 => absurd c13 (nI_ge hi (by omega))) (fun c13 => ?_)
          refine lv_aload_n hx hb dX5_pass_172 rfl (lv_at hl 2 rfl) ?_
          refine lv_iload hx hb dX5_pass_173 (lv_at hl 0 rfl) ?_
          refine m_aalA hC hE hP (k_28 hL) e_28 i (rfl) (qi4.lS (by omega)) (qi4.bS (by omega)) dX5_pass_175 ?_
          refine lv_astore (lv' := [(5, .ref (ad g (24, 2, i))), (4, .int (nI i)), (3, .int (nI (nS v))), (2, .ref (ad g (28, 2, 0))), (1, .int (sumI ((sen (spe (lam v))) 9) i)), (0, .ref (ad g (20, 0, 0)))]) hx hb dX5_pass_176 hl (by decide) rfl (fun ls hl => ?_)
          refine lv_aload hx hb dX5_pass_178 (lv_at hl 0 rfl) ?_
          refine lv_iconst (v := 4) hx hb dX5_pass_180 (by decide) ?_
          refine lv_dup2_11 hx hb dX5_pass_181 rfl rfl ?_
          refine m_iald hC hE hP (k_24 hL (by omega)) e_24 4 (rfl) (show 4 < 6 from by omega) (by decide) dX5_pass_182 ?_
          refine m_top (y := (it kep i (sen (spe (lam v)))) 10 i) rfl ?_
          refine lv_aload hx hb dX5_pass_183 (lv_at hl 0 rfl) ?_
          refine lv_iconst (v := 3) hx hb dX5_pass_185 (by decide) ?_
          refine m_iald hC hE hP (k_24 hL (by omega)) e_24 3 (rfl) (show 3 < 6 from by omega) (by decide) dX5_pass_186 ?_
          refine m_top (y := (it kep i (sen (spe (lam v)))) 9 i) rfl ?_
          refine lv_iadd hx hb dX5_pass_187 ?_
          refine m_iast hC hE hI hP hS (k_24 hL (by omega)) e_24 4 (rfl) (show 4 < 6 from by omega) (by decide) (p_24 4 (by decide)) (ent_put g M 2 (it kep i (sen (spe (lam v)))) o 10 i (((it kep i (sen (spe (lam v)))) 10 i) + ((it kep i (sen (spe (lam v)))) 9 i)) (kf_24 (Or.inl rfl) (by decide) (by decide))) dX5_pass_188 (fun H locs hP hS => ?_)
          refine lv_iload_n hx hb dX5_pass_189 rfl (lv_at hl 4 rfl) ?_
          refine lv_aload hx hb dX5_pass_190 (lv_at hl 0 rfl) ?_
          refine lv_iconst (v := 3) hx hb dX5_pass_192 (by decide) ?_
          refine m_iald hC hE hP (k_24 hL (by omega)) e_24 3 (rfl) (show 3 < 6 from by omega) (by decide) dX5_pass_193 ?_
          refine m_top (y := (up2 (it kep i (sen (spe (lam v)))) 10 i (((it kep i (sen (spe (lam v)))) 10 i) + ((it kep i (sen (spe (lam v)))) 9 i))) 9 i) rfl ?_
          refine m_top (y := (sen (spe (lam v))) 9 i) ((up2_c (by decide)).trans (it_keep (fun _ _ => kep_ne (by decide)) _ _)) ?_
          refine lv_iadd hx hb dX5_pass_194 ?_
          refine lv_istore_n (lv' := [(1, .int ((sumI ((sen (spe (lam v))) 9) i) + ((sen (spe (lam v))) 9 i))), (5, .ref (ad g (24, 2, i))), (4, .int (nI i)), (3, .int (nI (nS v))), (2, .ref (ad g (28, 2, 0))), (0, .ref (ad g (20, 0, 0)))]) hx hb dX5_pass_195 rfl hl (by decide) rfl (fun ls hl => ?_)
          refine lv_iinc (v := nI (i + 1)) (lv' := [(4, .int (nI (i + 1))), (1, .int ((sumI ((sen (spe (lam v))) 9) i) + ((sen (spe (lam v))) 9 i))), (5, .ref (ad g (24, 2, i))), (3, .int (nI (nS v))), (2, .ref (ad g (28, 2, 0))), (0, .ref (ad g (20, 0, 0)))]) hx hb dX5_pass_196 hl (k := 2) rfl (nI_1 _) (by decide) rfl (fun ls hl => ?_)
          refine lv_goto (tgt := 166) hx hb dX5_pass_199 (by decide) ?_
          exact IH H locs ls (hP.castR (rfl)) hS (by show lv_has ls _ [(4, .int (nI (i + 1))), (3, .int (nI (nS v))), (2, .ref (ad g (28, 2, 0))), (1, .int (sumI ((sen (spe (lam v))) 9) (i + 1))), (0, .ref (ad g (20, 0, 0)))]; rw [show sumI ((sen (spe (lam v))) 9) (i + 1) = (sumI ((sen (spe (lam v))) 9) i) + ((sen (spe (lam v))) 9 i) from rfl]; exact lv_sub hl [0, 3, 4, 1, 5] rfl) (trivial)
      · have hi3 : Inv (it gua i (spe (lam v))) := senI_inv i2 i (by rw [q2.2.2]; omega)
        have qi3 : Cn v (it gua i (spe (lam v))) := q2.tr (Cn.of fun _ _ => it_keep (fun _ _ => gua_ne (by decide) (by decide) (by decide) (by decide) (by decide) (by decide)) _ _)
        have hpi : ∃ n, n < 9 ∧ (it gua i (spe (lam v))) 14 i = nI n := by rw [it_keep (fun _ _ => gua_ne (by decide) (by decide) (by decide) (by decide) (by decide) (by decide)), spe_ne (by decide) (by decide), lam_ne (by decide)]; exact hp i hi
        refine lv_iload_n hx hb dX5_pass_131 rfl (lv_at hl 0 rfl) ?_
        refine lv_iload_n hx hb dX5_pass_132 rfl (lv_at hl 1 rfl) ?_
        refine lv_icmp_ge (tgt := 153) hx hb dX5_pass_133 (by decide) (fun c14 => absurd c14 (nI_ge hi (by omega))) (fun c14 => ?_)
        refine lv_aload_n hx hb dX5_pass_136 rfl (lv_at hl 2 rfl) ?_
        refine lv_iload_n hx hb dX5_pass_137 rfl (lv_at hl 0 rfl) ?_
        refine m_aalA hC hE hP (k_29 hL) e_29 i (rfl) (qi3.lW (by omega)) (qi3.bW (by omega)) dX5_pass_138 ?_
        refine lv_astore (lv' := [(4, .ref (ad g (25, 2, i))), (3, .int (nI i)), (2, .int (nI (nW v))), (1, .ref (ad g (29, 2, 0))), (0, .ref (ad g (20, 0, 0)))]) hx hb dX5_pass_139 hl (by decide) rfl (fun ls hl => ?_)
        refine lv_aload_n hx hb dX5_pass_141 rfl (lv_at hl 4 rfl) ?_
        refine lv_aload hx hb dX5_pass_142 (lv_at hl 0 rfl) ?_
        refine on_v (run_V hC hE hP hS (As := [.ref (ad g (25, 2, i))]) (c_guardS l hI hi3 (hL.cn qi3) i (qi3.lW (by omega)) hpi) cal_X5_guard w_520 ⟨Nat.le_of_ble_eq_true rfl, Nat.le_of_ble_eq_true rfl⟩ (k_20 hL) e_20 rfl rfl rfl (Nat.le_of_ble_eq_true rfl) hl.1 ⟨Nat.le_of_ble_eq_true rfl, Nat.le_of_ble_eq_true rfl⟩ dX5_pass_144) hS (fun H locs hP hS => ?_)
        refine lv_iinc (v := nI (i + 1)) (lv' := [(3, .int (nI (i + 1))), (4, .ref (ad g (25, 2, i))), (2, .int (nI (nW v))), (1, .ref (ad g (29, 2, 0))), (0, .ref (ad g (20, 0, 0)))]) hx hb dX5_pass_147 hl (k := 1) rfl (nI_1 _) (by decide) rfl (fun ls hl => ?_)
        refine lv_goto (tgt := 131) hx hb dX5_pass_150 (by decide) ?_
        exact IH H locs ls (hP.castR (rfl)) hS (lv_sub hl [0, 2, 3, 4] rfl) (trivial)
    · have hi2 : Inv (it spr i (lam v)) := (speI_inv i1 i (by rw [q1.2.1]; omega)).1
      have qi2 : Cn v (it spr i (lam v)) := q1.tr (Cn.of fun _ _ => it_keep (fun _ _ => spr_ne (by decide) (by decide)) _ _)
      refine lv_iload_n hx hb dX5_pass_42 rfl (lv_at hl 0 rfl) ?_
      refine lv_iload_n hx hb dX5_pass_43 rfl (lv_at hl 1 rfl) ?_
      refine lv_icmp_ge (tgt := 121) hx hb dX5_pass_44 (by decide) (fun c15 => absurd c15 (nI_ge hi (by omega))) (fun c15 => ?_)
      refine lv_aload_n hx hb dX5_pass_47 rfl (lv_at hl 2 rfl) ?_
      refine lv_iload_n hx hb dX5_pass_48 rfl (lv_at hl 0 rfl) ?_
      refine m_aalA hC hE hP (k_28 hL) e_28 i (rfl) (qi2.lS (by omega)) (qi2.bS (by omega)) dX5_pass_49 ?_
      refine lv_astore (lv' := [(4, .ref (ad g (24, 2, i))), (3, .int (nI i)), (2, .int (nI (nS v))), (1, .ref (ad g (28, 2, 0))), (0, .ref (ad g (20, 0, 0)))]) hx hb dX5_pass_50 hl (by decide) rfl (fun ls hl => ?_)
      refine lv_aload hx hb dX5_pass_52 (lv_at hl 0 rfl) ?_
      refine lv_iconst (v := 3) hx hb dX5_pass_54 (by decide) ?_
      refine lv_iconst (v := 0) hx hb dX5_pass_55 (by decide) ?_
      refine m_iast hC hE hI hP hS (k_24 hL (by omega)) e_24 3 (rfl) (show 3 < 6 from by omega) (by decide) (p_24 3 (by decide)) (ent_put g M 2 (it spr i (lam v)) o 9 i (0 : Int32) (kf_24 (Or.inl rfl) (by decide) (by decide))) dX5_pass_56 (fun H locs hP hS => ?_)
      refine lv_aload hx hb dX5_pass_57 (lv_at hl 0 rfl) ?_
      refine lv_iconst (v := 2) hx hb dX5_pass_59 (by decide) ?_
      refine m_iald hC hE hP (k_24 hL (by omega)) e_24 2 (rfl) (show 2 < 6 from by omega) (by decide) dX5_pass_60 ?_
      refine m_top (y := (up2 (it spr i (lam v)) 9 i (0 : Int32)) 8 i) rfl ?_
      refine m_top (y := (it spr i (lam v)) 8 i) (up2_c (by decide)) ?_
      refine lv_if_ge (tgt := 67) hx hb dX5_pass_61 (by decide) (fun c0 => ?_) (fun c0 => ?_)
      · have h8 : ¬ (it spr i (lam v)) 8 i = -1 := fun z => absurd c0 (by rw [z]; decide)
        have hz := hol_of hi2 (by rw [qi2.2.1]; exact hi) h8
        have hzv : hol (it spr i (lam v)) i < nH v := by rw [← qi2.1]; exact hz.2
        obtain ⟨a, ha9, ea⟩ := (hi2.hH _ hz.2).1
        obtain ⟨b, hb9, eb⟩ := (hi2.hH _ hz.2).2.1
        have ecl : cl (it spr i (lam v)) (hol (it spr i (lam v)) i) = 9 * b + a := by unfold cl; rw [ea, eb, nI_clamp (by omega), nI_clamp (by omega)]
        have hp0 : 0 ≤ up2 (it spr i (lam v)) 9 i 0 0 (9 * b + a) := by rw [up2_c (by decide)]; exact (hi2.hC _ (by omega)).pos
        refine lv_aload_n hx hb dX5_pass_67 rfl (lv_at hl 4 rfl) ?_
        refine m_get hC hE hP (k_20 hL) e_20 rfl u_5 3 (by decide) w_655 rfl rfl dX5_pass_68 ?_
        refine lv_aload hx hb dX5_pass_71 (lv_at hl 0 rfl) ?_
        refine lv_iconst (v := 2) hx hb dX5_pass_73 (by decide) ?_
        refine m_iald hC hE hP (k_24 hL (by omega)) e_24 2 (rfl) (show 2 < 6 from by omega) (by decide) dX5_pass_74 ?_
        refine m_top (y := (up2 (it spr i (lam v)) 9 i (0 : Int32)) 8 i) rfl ?_
        refine m_top (y := (it spr i (lam v)) 8 i) (up2_c (by decide)) ?_
        refine m_aalA hC hE hP (k_27 hL) e_27 (hol (it spr i (lam v)) i) (hz.1) ((Cn.up qi2 (by omega)).lH (hzv)) ((Cn.up qi2 (by omega)).bH (by omega)) dX5_pass_75 ?_
        refine lv_astore (lv' := [(5, .ref (ad g (23, 0, (hol (it spr i (lam v)) i)))), (4, .ref (ad g (24, 2, i))), (3, .int (nI i)), (2, .int (nI (nS v))), (1, .ref (ad g (28, 2, 0))), (0, .ref (ad g (20, 0, 0)))]) hx hb dX5_pass_76 hl (by decide) rfl (fun ls hl => ?_)
        refine lv_aload hx hb dX5_pass_78 (lv_at hl 1 rfl) ?_
        refine lv_iconst (v := 3) hx hb dX5_pass_80 (by decide) ?_
        refine lv_aload_n hx hb dX5_pass_81 rfl (lv_at hl 5 rfl) ?_
        refine lv_aload hx hb dX5_pass_82 (lv_at hl 0 rfl) ?_
        refine lv_iconst (v := 0) hx hb dX5_pass_84 (by decide) ?_
        refine m_iald hC hE hP (k_23 hL (by omega)) e_23 0 (rfl) (show 0 < 3 from by omega) (by decide) dX5_pass_85 ?_
        refine m_top (y := (up2 (it spr i (lam v)) 9 i (0 : Int32)) 3 (hol (it spr i (lam v)) i)) rfl ?_
        refine m_top (y := nI a) ((up2_c (by decide)).trans ea) ?_
        refine lv_aload hx hb dX5_pass_86 (lv_at hl 0 rfl) ?_
        refine lv_iconst (v := 1) hx hb dX5_pass_88 (by decide) ?_
        refine m_iald hC hE hP (k_23 hL (by omega)) e_23 1 (rfl) (show 1 < 3 from by omega) (by decide) dX5_pass_89 ?_
        refine m_top (y := (up2 (it spr i (lam v)) 9 i (0 : Int32)) 4 (hol (it spr i (lam v)) i)) rfl ?_
        refine m_top (y := nI b) ((up2_c (by decide)).trans eb) ?_
        refine on_i (run_V hC hE hP hS (As := [.int (nI a), .int (nI b)]) (c_wouldS l hI (hL.cn (Cn.up qi2 (by omega))) a b (by omega) (by omega) hp0) cal_X5_would w_516 ⟨Nat.le_of_ble_eq_true rfl, Nat.le_of_ble_eq_true rfl⟩ (k_20 hL) e_20 rfl rfl rfl (Nat.le_of_ble_eq_true rfl) hl.1 ⟨Nat.le_of_ble_eq_true rfl, Nat.le_of_ble_eq_true rfl⟩ dX5_pass_90) hS (fun H locs hP hS => ?_)
        refine m_top (y := would (it spr i (lam v)) (9 * b + a)) (would_up) ?_
        refine m_iast hC hE hI hP hS (k_24 hL (by omega)) e_24 3 (rfl) (show 3 < 6 from by omega) (by decide) (p_24 3 (by decide)) (ent_put g M 2 (up2 (it spr i (lam v)) 9 i (0 : Int32)) o 9 i (would (it spr i (lam v)) (9 * b + a)) (kf_24 (Or.inl rfl) (by decide) (by decide))) dX5_pass_93 (fun H locs hP hS => ?_)
        refine lv_aload_n hx hb dX5_pass_94 rfl (lv_at hl 5 rfl) ?_
        refine m_get hC hE hP (k_20 hL) e_20 rfl u_5 0 (by decide) w_649 rfl rfl dX5_pass_95 ?_
        refine lv_aload hx hb dX5_pass_98 (lv_at hl 0 rfl) ?_
        refine lv_iconst (v := 0) hx hb dX5_pass_100 (by decide) ?_
        refine m_iald hC hE hP (k_23 hL (by omega)) e_23 0 (rfl) (show 0 < 3 from by omega) (by decide) dX5_pass_101 ?_
        refine m_top (y := (up2 (up2 (it spr i (lam v)) 9 i (0 : Int32)) 9 i (would (it spr i (lam v)) (9 * b + a))) 3 (hol (it spr i (lam v)) i)) rfl ?_
        refine m_top (y := nI a) ((up2_c (by decide)).trans ((up2_c (by decide)).trans ea)) ?_
        refine m_aalA hC hE hP (k_26 hL (by decide)) f_26 a (rfl) (show a < 9 from by omega) (by decide) dX5_pass_102 ?_
        refine lv_aload hx hb dX5_pass_103 (lv_at hl 0 rfl) ?_
        refine lv_iconst (v := 1) hx hb dX5_pass_105 (by decide) ?_
        refine m_iald hC hE hP (k_23 hL (by omega)) e_23 1 (rfl) (show 1 < 3 from by omega) (by decide) dX5_pass_106 ?_
        refine m_top (y := (up2 (up2 (it spr i (lam v)) 9 i (0 : Int32)) 9 i (would (it spr i (lam v)) (9 * b + a))) 4 (hol (it spr i (lam v)) i)) rfl ?_
        refine m_top (y := nI b) ((up2_c (by decide)).trans ((up2_c (by decide)).trans eb)) ?_
        refine lv_dup2_11 hx hb dX5_pass_107 rfl rfl ?_
        refine m_iald hC hE hP (k_21 hL (by decide) (by omega)) e_21 b (rfl) (show b < 9 from by omega) (by decide) dX5_pass_108 ?_
        refine m_top (y := (up2 (up2 (it spr i (lam v)) 9 i (0 : Int32)) 9 i (would (it spr i (lam v)) (9 * b + a))) 0 (9 * b + a)) rfl ?_
        refine m_top (y := (it spr i (lam v)) 0 (9 * b + a)) ((up2_c (by decide)).trans (up2_c (by decide))) ?_
        refine lv_aload hx hb dX5_pass_109 (lv_at hl 1 rfl) ?_
        refine lv_iconst (v := 3) hx hb dX5_pass_111 (by decide) ?_
        refine m_iald hC hE hP (k_24 hL (by omega)) e_24 3 (rfl) (show 3 < 6 from by omega) (by decide) dX5_pass_112 ?_
        refine m_top (y := (up2 (up2 (it spr i (lam v)) 9 i (0 : Int32)) 9 i (would (it spr i (lam v)) (9 * b + a))) 9 i) rfl ?_
        refine m_top (y := would (it spr i (lam v)) (9 * b + a)) (up2_same _ _ _ _) ?_
        refine lv_isub hx hb dX5_pass_113 ?_
        refine m_iast hC hE hI hP hS (k_21 hL (by decide) (by omega)) e_21 b (rfl) (show b < 9 from by omega) (by decide) (p_21 (by omega)) (ent_put g M 2 (up2 (up2 (it spr i (lam v)) 9 i (0 : Int32)) 9 i (would (it spr i (lam v)) (9 * b + a))) o 0 (9 * b + a) (((it spr i (lam v)) 0 (9 * b + a)) - (would (it spr i (lam v)) (9 * b + a))) (kf_21 (by decide) (by omega))) dX5_pass_114 (fun H locs hP hS => ?_)
        refine lv_iinc (v := nI (i + 1)) (lv' := [(3, .int (nI (i + 1))), (5, .ref (ad g (23, 0, (hol (it spr i (lam v)) i)))), (4, .ref (ad g (24, 2, i))), (2, .int (nI (nS v))), (1, .ref (ad g (28, 2, 0))), (0, .ref (ad g (20, 0, 0)))]) hx hb dX5_pass_115 hl (k := 2) rfl (nI_1 _) (by decide) rfl (fun ls hl => ?_)
        refine lv_goto (tgt := 42) hx hb dX5_pass_118 (by decide) ?_
        exact IH H locs ls (hP.castR (spr_cls h8 ecl)) hS (lv_sub hl [0, 3, 4, 5] rfl) (trivial)
      · have h8 : (it spr i (lam v)) 8 i = -1 := Decidable.not_not.mp (fun z => c0 (by rw [(hol_of hi2 (by rw [qi2.2.1]; exact hi) z).1]; exact nI_ge0 (by have := (hol_of hi2 (by rw [qi2.2.1]; exact hi) z).2; have := hi2.lH; omega)))
        refine lv_goto (tgt := 115) hx hb dX5_pass_64 (by decide) ?_
        refine lv_iinc (v := nI (i + 1)) (lv' := [(3, .int (nI (i + 1))), (4, .ref (ad g (24, 2, i))), (2, .int (nI (nS v))), (1, .ref (ad g (28, 2, 0))), (0, .ref (ad g (20, 0, 0)))]) hx hb dX5_pass_115 hl (k := 1) rfl (nI_1 _) (by decide) rfl (fun ls hl => ?_)
        refine lv_goto (tgt := 42) hx hb dX5_pass_118 (by decide) ?_
        exact IH H locs ls (hP.castR (if_pos h8)) hS (lv_sub hl [0, 2, 3, 4] rfl) (trivial)
  · have hi1 : Inv (it lur i v) := (lamI_inv hv i (by omega)).1
    have qi1 : Cn v (it lur i v) := Cn.of fun _ _ => it_keep (fun _ _ => lur_ne (by decide)) _ _
    refine lv_iload_n hx hb dX5_pass_10 rfl (lv_at hl 0 rfl) ?_
    refine lv_iload_n hx hb dX5_pass_11 rfl (lv_at hl 1 rfl) ?_
    refine lv_icmp_ge (tgt := 32) hx hb dX5_pass_12 (by decide) (fun c16 => absurd c16 (nI_ge hi (by omega))) (fun c16 => ?_)
    refine lv_aload_n hx hb dX5_pass_15 rfl (lv_at hl 2 rfl) ?_
    refine lv_iload_n hx hb dX5_pass_16 rfl (lv_at hl 0 rfl) ?_
    refine m_aalA hC hE hP (k_28 hL) e_28 i (rfl) (qi1.lS (by omega)) (qi1.bS (by omega)) dX5_pass_17 ?_
    refine lv_astore (lv' := [(4, .ref (ad g (24, 2, i))), (3, .int (nI i)), (2, .int (nI (nS v))), (1, .ref (ad g (28, 2, 0))), (0, .ref (ad g (20, 0, 0)))]) hx hb dX5_pass_18 hl (by decide) rfl (fun ls hl => ?_)
    refine lv_aload_n hx hb dX5_pass_20 rfl (lv_at hl 4 rfl) ?_
    refine lv_aload hx hb dX5_pass_21 (lv_at hl 0 rfl) ?_
    refine on_v (run_V hC hE hP hS (As := [.ref (ad g (24, 2, i))]) (c_lampS l hI hi1 (hL.cn qi1) i (qi1.lS (by omega))) cal_X5_lamp w_511 ⟨Nat.le_of_ble_eq_true rfl, Nat.le_of_ble_eq_true rfl⟩ (k_20 hL) e_20 rfl rfl rfl (Nat.le_of_ble_eq_true rfl) hl.1 ⟨Nat.le_of_ble_eq_true rfl, Nat.le_of_ble_eq_true rfl⟩ dX5_pass_23) hS (fun H locs hP hS => ?_)
    refine lv_iinc (v := nI (i + 1)) (lv' := [(3, .int (nI (i + 1))), (4, .ref (ad g (24, 2, i))), (2, .int (nI (nS v))), (1, .ref (ad g (28, 2, 0))), (0, .ref (ad g (20, 0, 0)))]) hx hb dX5_pass_26 hl (k := 1) rfl (nI_1 _) (by decide) rfl (fun ls hl => ?_)
    refine lv_goto (tgt := 10) hx hb dX5_pass_29 (by decide) ?_
    exact IH H locs ls (hP.castR (rfl)) hS (lv_sub hl [0, 2, 3, 4] rfl) (trivial)
