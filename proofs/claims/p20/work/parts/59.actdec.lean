/-! The bytes of act. -/
theorem dL_act_0 : decode cL_act 0 = .ok (.iload_n 2, 1) := by decide +kernel
theorem dL_act_1 : decode cL_act 1 = .ok (.bipush 8, 2) := by decide +kernel
theorem dL_act_3 : decode cL_act 3 = .ok (.ishr, 1) := by decide +kernel
theorem dL_act_4 : decode cL_act 4 = .ok (.iconst 3, 1) := by decide +kernel
theorem dL_act_5 : decode cL_act 5 = .ok (.invokestatic 9, 3) := by decide +kernel
theorem dL_act_8 : decode cL_act 8 = .ok (.ifCond .ne 14, 3) := by decide +kernel
theorem dL_act_11 : decode cL_act 11 = .ok (.iload_n 2, 1) := by decide +kernel
theorem dL_act_12 : decode cL_act 12 = .ok (.iconst 4, 1) := by decide +kernel
theorem dL_act_13 : decode cL_act 13 = .ok (.ishr, 1) := by decide +kernel
theorem dL_act_14 : decode cL_act 14 = .ok (.bipush 9, 2) := by decide +kernel
theorem dL_act_16 : decode cL_act 16 = .ok (.invokestatic 9, 3) := by decide +kernel
theorem dL_act_19 : decode cL_act 19 = .ok (.goto 12, 3) := by decide +kernel
theorem dL_act_22 : decode cL_act 22 = .ok (.iconst 3, 1) := by decide +kernel
theorem dL_act_23 : decode cL_act 23 = .ok (.iload_n 2, 1) := by decide +kernel
theorem dL_act_24 : decode cL_act 24 = .ok (.iconst 5, 1) := by decide +kernel
theorem dL_act_25 : decode cL_act 25 = .ok (.ishr, 1) := by decide +kernel
theorem dL_act_26 : decode cL_act 26 = .ok (.iconst 4, 1) := by decide +kernel
theorem dL_act_27 : decode cL_act 27 = .ok (.invokestatic 9, 3) := by decide +kernel
theorem dL_act_30 : decode cL_act 30 = .ok (.iadd, 1) := by decide +kernel
theorem dL_act_31 : decode cL_act 31 = .ok (.istore_n 3, 1) := by decide +kernel
theorem dL_act_32 : decode cL_act 32 = .ok (.iload_n 2, 1) := by decide +kernel
theorem dL_act_33 : decode cL_act 33 = .ok (.bipush 9, 2) := by decide +kernel
theorem dL_act_35 : decode cL_act 35 = .ok (.ishr, 1) := by decide +kernel
theorem dL_act_36 : decode cL_act 36 = .ok (.iconst 3, 1) := by decide +kernel
theorem dL_act_37 : decode cL_act 37 = .ok (.invokestatic 9, 3) := by decide +kernel
theorem dL_act_40 : decode cL_act 40 = .ok (.ifCond .ne 15, 3) := by decide +kernel
theorem dL_act_43 : decode cL_act 43 = .ok (.iload_n 2, 1) := by decide +kernel
theorem dL_act_44 : decode cL_act 44 = .ok (.bipush 6, 2) := by decide +kernel
theorem dL_act_46 : decode cL_act 46 = .ok (.ishr, 1) := by decide +kernel
theorem dL_act_47 : decode cL_act 47 = .ok (.bipush 9, 2) := by decide +kernel
theorem dL_act_49 : decode cL_act 49 = .ok (.invokestatic 9, 3) := by decide +kernel
theorem dL_act_52 : decode cL_act 52 = .ok (.goto 13, 3) := by decide +kernel
theorem dL_act_55 : decode cL_act 55 = .ok (.iconst 3, 1) := by decide +kernel
theorem dL_act_56 : decode cL_act 56 = .ok (.iload_n 2, 1) := by decide +kernel
theorem dL_act_57 : decode cL_act 57 = .ok (.bipush 7, 2) := by decide +kernel
theorem dL_act_59 : decode cL_act 59 = .ok (.ishr, 1) := by decide +kernel
theorem dL_act_60 : decode cL_act 60 = .ok (.iconst 4, 1) := by decide +kernel
theorem dL_act_61 : decode cL_act 61 = .ok (.invokestatic 9, 3) := by decide +kernel
theorem dL_act_64 : decode cL_act 64 = .ok (.iadd, 1) := by decide +kernel
theorem dL_act_65 : decode cL_act 65 = .ok (.istore 4, 2) := by decide +kernel
theorem dL_act_67 : decode cL_act 67 = .ok (.iload_n 2, 1) := by decide +kernel
theorem dL_act_68 : decode cL_act 68 = .ok (.bipush 10, 2) := by decide +kernel
theorem dL_act_70 : decode cL_act 70 = .ok (.invokestatic 9, 3) := by decide +kernel
theorem dL_act_73 : decode cL_act 73 = .ok (.tableswitch 595 0 7 #[47, 47, 47, 172, 257, 257, 368, 497], 47) := by decide +kernel
theorem dL_act_120 : decode cL_act 120 = .ok (.bipush 10, 2) := by decide +kernel
theorem dL_act_122 : decode cL_act 122 = .ok (.aload_n 1, 1) := by decide +kernel
theorem dL_act_123 : decode cL_act 123 = .ok (.getfield 15, 3) := by decide +kernel
theorem dL_act_126 : decode cL_act 126 = .ok (.iload_n 3, 1) := by decide +kernel
theorem dL_act_127 : decode cL_act 127 = .ok (.aaload, 1) := by decide +kernel
theorem dL_act_128 : decode cL_act 128 = .ok (.iload 4, 2) := by decide +kernel
theorem dL_act_130 : decode cL_act 130 = .ok (.iaload, 1) := by decide +kernel
theorem dL_act_131 : decode cL_act 131 = .ok (.imul, 1) := by decide +kernel
theorem dL_act_132 : decode cL_act 132 = .ok (.aload_n 1, 1) := by decide +kernel
theorem dL_act_133 : decode cL_act 133 = .ok (.getfield 21, 3) := by decide +kernel
theorem dL_act_136 : decode cL_act 136 = .ok (.iload_n 3, 1) := by decide +kernel
theorem dL_act_137 : decode cL_act 137 = .ok (.aaload, 1) := by decide +kernel
theorem dL_act_138 : decode cL_act 138 = .ok (.iload 4, 2) := by decide +kernel
theorem dL_act_140 : decode cL_act 140 = .ok (.iaload, 1) := by decide +kernel
theorem dL_act_141 : decode cL_act 141 = .ok (.iadd, 1) := by decide +kernel
theorem dL_act_142 : decode cL_act 142 = .ok (.istore 6, 2) := by decide +kernel
theorem dL_act_144 : decode cL_act 144 = .ok (.aload_n 1, 1) := by decide +kernel
theorem dL_act_145 : decode cL_act 145 = .ok (.getfield 15, 3) := by decide +kernel
theorem dL_act_148 : decode cL_act 148 = .ok (.iload_n 3, 1) := by decide +kernel
theorem dL_act_149 : decode cL_act 149 = .ok (.aaload, 1) := by decide +kernel
theorem dL_act_150 : decode cL_act 150 = .ok (.iload 4, 2) := by decide +kernel
theorem dL_act_152 : decode cL_act 152 = .ok (.iload_n 2, 1) := by decide +kernel
theorem dL_act_153 : decode cL_act 153 = .ok (.iconst 3, 1) := by decide +kernel
theorem dL_act_154 : decode cL_act 154 = .ok (.ishr, 1) := by decide +kernel
theorem dL_act_155 : decode cL_act 155 = .ok (.iload_n 2, 1) := by decide +kernel
theorem dL_act_156 : decode cL_act 156 = .ok (.bipush 10, 2) := by decide +kernel
theorem dL_act_158 : decode cL_act 158 = .ok (.ishr, 1) := by decide +kernel
theorem dL_act_159 : decode cL_act 159 = .ok (.iconst 2, 1) := by decide +kernel
theorem dL_act_160 : decode cL_act 160 = .ok (.invokestatic 9, 3) := by decide +kernel
theorem dL_act_163 : decode cL_act 163 = .ok (.ifCond .ne 8, 3) := by decide +kernel
theorem dL_act_166 : decode cL_act 166 = .ok (.bipush 61, 2) := by decide +kernel
theorem dL_act_168 : decode cL_act 168 = .ok (.goto 5, 3) := by decide +kernel
theorem dL_act_171 : decode cL_act 171 = .ok (.bipush 25, 2) := by decide +kernel
theorem dL_act_173 : decode cL_act 173 = .ok (.invokestatic 9, 3) := by decide +kernel
theorem dL_act_176 : decode cL_act 176 = .ok (.iastore, 1) := by decide +kernel
theorem dL_act_177 : decode cL_act 177 = .ok (.aload_n 1, 1) := by decide +kernel
theorem dL_act_178 : decode cL_act 178 = .ok (.getfield 21, 3) := by decide +kernel
theorem dL_act_181 : decode cL_act 181 = .ok (.iload_n 3, 1) := by decide +kernel
theorem dL_act_182 : decode cL_act 182 = .ok (.aaload, 1) := by decide +kernel
theorem dL_act_183 : decode cL_act 183 = .ok (.iload 4, 2) := by decide +kernel
theorem dL_act_185 : decode cL_act 185 = .ok (.iload_n 2, 1) := by decide +kernel
theorem dL_act_186 : decode cL_act 186 = .ok (.iconst 5, 1) := by decide +kernel
theorem dL_act_187 : decode cL_act 187 = .ok (.ishr, 1) := by decide +kernel
theorem dL_act_188 : decode cL_act 188 = .ok (.iload_n 2, 1) := by decide +kernel
theorem dL_act_189 : decode cL_act 189 = .ok (.bipush 11, 2) := by decide +kernel
theorem dL_act_191 : decode cL_act 191 = .ok (.ishr, 1) := by decide +kernel
theorem dL_act_192 : decode cL_act 192 = .ok (.iconst 3, 1) := by decide +kernel
theorem dL_act_193 : decode cL_act 193 = .ok (.invokestatic 9, 3) := by decide +kernel
theorem dL_act_196 : decode cL_act 196 = .ok (.ifCond .ne 8, 3) := by decide +kernel
theorem dL_act_199 : decode cL_act 199 = .ok (.bipush 10, 2) := by decide +kernel
theorem dL_act_201 : decode cL_act 201 = .ok (.goto 4, 3) := by decide +kernel
theorem dL_act_204 : decode cL_act 204 = .ok (.iconst 4, 1) := by decide +kernel
theorem dL_act_205 : decode cL_act 205 = .ok (.invokestatic 9, 3) := by decide +kernel
theorem dL_act_208 : decode cL_act 208 = .ok (.iastore, 1) := by decide +kernel
theorem dL_act_209 : decode cL_act 209 = .ok (.aload_n 0, 1) := by decide +kernel
theorem dL_act_210 : decode cL_act 210 = .ok (.iload_n 3, 1) := by decide +kernel
theorem dL_act_211 : decode cL_act 211 = .ok (.iload 4, 2) := by decide +kernel
theorem dL_act_213 : decode cL_act 213 = .ok (.aload_n 1, 1) := by decide +kernel
theorem dL_act_214 : decode cL_act 214 = .ok (.getfield 15, 3) := by decide +kernel
theorem dL_act_217 : decode cL_act 217 = .ok (.iload_n 3, 1) := by decide +kernel
theorem dL_act_218 : decode cL_act 218 = .ok (.aaload, 1) := by decide +kernel
theorem dL_act_219 : decode cL_act 219 = .ok (.iload 4, 2) := by decide +kernel
theorem dL_act_221 : decode cL_act 221 = .ok (.iaload, 1) := by decide +kernel
theorem dL_act_222 : decode cL_act 222 = .ok (.aload_n 1, 1) := by decide +kernel
theorem dL_act_223 : decode cL_act 223 = .ok (.getfield 21, 3) := by decide +kernel
theorem dL_act_226 : decode cL_act 226 = .ok (.iload_n 3, 1) := by decide +kernel
theorem dL_act_227 : decode cL_act 227 = .ok (.aaload, 1) := by decide +kernel
theorem dL_act_228 : decode cL_act 228 = .ok (.iload 4, 2) := by decide +kernel
theorem dL_act_230 : decode cL_act 230 = .ok (.iaload, 1) := by decide +kernel
theorem dL_act_231 : decode cL_act 231 = .ok (.invokevirtual 24, 3) := by decide +kernel
theorem dL_act_234 : decode cL_act 234 = .ok (.iload 6, 2) := by decide +kernel
theorem dL_act_236 : decode cL_act 236 = .ok (.if_icmp .ne 7, 3) := by decide +kernel
theorem dL_act_239 : decode cL_act 239 = .ok (.iconst 1, 1) := by decide +kernel
theorem dL_act_240 : decode cL_act 240 = .ok (.goto 4, 3) := by decide +kernel
theorem dL_act_243 : decode cL_act 243 = .ok (.iconst 0, 1) := by decide +kernel
theorem dL_act_244 : decode cL_act 244 = .ok (.ireturn, 1) := by decide +kernel
theorem dL_act_245 : decode cL_act 245 = .ok (.iload_n 2, 1) := by decide +kernel
theorem dL_act_246 : decode cL_act 246 = .ok (.iconst 3, 1) := by decide +kernel
theorem dL_act_247 : decode cL_act 247 = .ok (.ishr, 1) := by decide +kernel
theorem dL_act_248 : decode cL_act 248 = .ok (.bipush 7, 2) := by decide +kernel
theorem dL_act_250 : decode cL_act 250 = .ok (.invokestatic 9, 3) := by decide +kernel
theorem dL_act_253 : decode cL_act 253 = .ok (.istore 6, 2) := by decide +kernel
theorem dL_act_255 : decode cL_act 255 = .ok (.aload_n 1, 1) := by decide +kernel
theorem dL_act_256 : decode cL_act 256 = .ok (.getfield 30, 3) := by decide +kernel
theorem dL_act_259 : decode cL_act 259 = .ok (.iload 6, 2) := by decide +kernel
theorem dL_act_261 : decode cL_act 261 = .ok (.iaload, 1) := by decide +kernel
theorem dL_act_262 : decode cL_act 262 = .ok (.istore 7, 2) := by decide +kernel
theorem dL_act_264 : decode cL_act 264 = .ok (.aload_n 1, 1) := by decide +kernel
theorem dL_act_265 : decode cL_act 265 = .ok (.getfield 30, 3) := by decide +kernel
theorem dL_act_268 : decode cL_act 268 = .ok (.iload 6, 2) := by decide +kernel
theorem dL_act_270 : decode cL_act 270 = .ok (.iload_n 2, 1) := by decide +kernel
theorem dL_act_271 : decode cL_act 271 = .ok (.bipush 9, 2) := by decide +kernel
theorem dL_act_273 : decode cL_act 273 = .ok (.ishr, 1) := by decide +kernel
theorem dL_act_274 : decode cL_act 274 = .ok (.iconst 3, 1) := by decide +kernel
theorem dL_act_275 : decode cL_act 275 = .ok (.invokestatic 9, 3) := by decide +kernel
theorem dL_act_278 : decode cL_act 278 = .ok (.ifCond .ne 17, 3) := by decide +kernel
theorem dL_act_281 : decode cL_act 281 = .ok (.iload_n 2, 1) := by decide +kernel
theorem dL_act_282 : decode cL_act 282 = .ok (.iconst 5, 1) := by decide +kernel
theorem dL_act_283 : decode cL_act 283 = .ok (.ishr, 1) := by decide +kernel
theorem dL_act_284 : decode cL_act 284 = .ok (.bipush 41, 2) := by decide +kernel
theorem dL_act_286 : decode cL_act 286 = .ok (.invokestatic 9, 3) := by decide +kernel
theorem dL_act_289 : decode cL_act 289 = .ok (.bipush 20, 2) := by decide +kernel
theorem dL_act_291 : decode cL_act 291 = .ok (.isub, 1) := by decide +kernel
theorem dL_act_292 : decode cL_act 292 = .ok (.goto 13, 3) := by decide +kernel
theorem dL_act_295 : decode cL_act 295 = .ok (.iload_n 2, 1) := by decide +kernel
theorem dL_act_296 : decode cL_act 296 = .ok (.iconst 5, 1) := by decide +kernel
theorem dL_act_297 : decode cL_act 297 = .ok (.ishr, 1) := by decide +kernel
theorem dL_act_298 : decode cL_act 298 = .ok (.bipush 7, 2) := by decide +kernel
theorem dL_act_300 : decode cL_act 300 = .ok (.invokestatic 9, 3) := by decide +kernel
theorem dL_act_303 : decode cL_act 303 = .ok (.iconst 2, 1) := by decide +kernel
theorem dL_act_304 : decode cL_act 304 = .ok (.isub, 1) := by decide +kernel
theorem dL_act_305 : decode cL_act 305 = .ok (.iastore, 1) := by decide +kernel
theorem dL_act_306 : decode cL_act 306 = .ok (.aload_n 0, 1) := by decide +kernel
theorem dL_act_307 : decode cL_act 307 = .ok (.iload 6, 2) := by decide +kernel
theorem dL_act_309 : decode cL_act 309 = .ok (.aload_n 1, 1) := by decide +kernel
theorem dL_act_310 : decode cL_act 310 = .ok (.getfield 30, 3) := by decide +kernel
theorem dL_act_313 : decode cL_act 313 = .ok (.iload 6, 2) := by decide +kernel
theorem dL_act_315 : decode cL_act 315 = .ok (.iaload, 1) := by decide +kernel
theorem dL_act_316 : decode cL_act 316 = .ok (.invokevirtual 34, 3) := by decide +kernel
theorem dL_act_319 : decode cL_act 319 = .ok (.iload 7, 2) := by decide +kernel
theorem dL_act_321 : decode cL_act 321 = .ok (.if_icmp .ne 7, 3) := by decide +kernel
theorem dL_act_324 : decode cL_act 324 = .ok (.iconst 1, 1) := by decide +kernel
theorem dL_act_325 : decode cL_act 325 = .ok (.goto 4, 3) := by decide +kernel
theorem dL_act_328 : decode cL_act 328 = .ok (.iconst 0, 1) := by decide +kernel
theorem dL_act_329 : decode cL_act 329 = .ok (.ireturn, 1) := by decide +kernel
theorem dL_act_330 : decode cL_act 330 = .ok (.aload_n 1, 1) := by decide +kernel
theorem dL_act_331 : decode cL_act 331 = .ok (.getfield 37, 3) := by decide +kernel
theorem dL_act_334 : decode cL_act 334 = .ok (.iconst 5, 1) := by decide +kernel
theorem dL_act_335 : decode cL_act 335 = .ok (.if_icmp .lt 27, 3) := by decide +kernel
theorem dL_act_338 : decode cL_act 338 = .ok (.aload_n 1, 1) := by decide +kernel
theorem dL_act_339 : decode cL_act 339 = .ok (.iload_n 3, 1) := by decide +kernel
theorem dL_act_340 : decode cL_act 340 = .ok (.iload 4, 2) := by decide +kernel
theorem dL_act_342 : decode cL_act 342 = .ok (.invokevirtual 41, 3) := by decide +kernel
theorem dL_act_345 : decode cL_act 345 = .ok (.ifCond .ge 17, 3) := by decide +kernel
theorem dL_act_348 : decode cL_act 348 = .ok (.aload_n 1, 1) := by decide +kernel
theorem dL_act_349 : decode cL_act 349 = .ok (.getfield 44, 3) := by decide +kernel
theorem dL_act_352 : decode cL_act 352 = .ok (.arraylength, 1) := by decide +kernel
theorem dL_act_353 : decode cL_act 353 = .ok (.bipush 12, 2) := by decide +kernel
theorem dL_act_355 : decode cL_act 355 = .ok (.if_icmp .ge 7, 3) := by decide +kernel
theorem dL_act_358 : decode cL_act 358 = .ok (.iconst 1, 1) := by decide +kernel
theorem dL_act_359 : decode cL_act 359 = .ok (.goto 4, 3) := by decide +kernel
theorem dL_act_362 : decode cL_act 362 = .ok (.iconst 0, 1) := by decide +kernel
theorem dL_act_363 : decode cL_act 363 = .ok (.istore 6, 2) := by decide +kernel
theorem dL_act_365 : decode cL_act 365 = .ok (.aload_n 0, 1) := by decide +kernel
theorem dL_act_366 : decode cL_act 366 = .ok (.iload_n 3, 1) := by decide +kernel
theorem dL_act_367 : decode cL_act 367 = .ok (.iload 4, 2) := by decide +kernel
theorem dL_act_369 : decode cL_act 369 = .ok (.invokevirtual 47, 3) := by decide +kernel
theorem dL_act_372 : decode cL_act 372 = .ok (.istore 5, 2) := by decide +kernel
theorem dL_act_374 : decode cL_act 374 = .ok (.goto 8, 3) := by decide +kernel
theorem dL_act_377 : decode cL_act 377 = .ok (.astore 7, 2) := by decide +kernel
theorem dL_act_379 : decode cL_act 379 = .ok (.iconst (-1), 1) := by decide +kernel
theorem dL_act_380 : decode cL_act 380 = .ok (.istore 5, 2) := by decide +kernel
theorem dL_act_382 : decode cL_act 382 = .ok (.iload 5, 2) := by decide +kernel
theorem dL_act_384 : decode cL_act 384 = .ok (.iload 6, 2) := by decide +kernel
theorem dL_act_386 : decode cL_act 386 = .ok (.ifCond .eq 11, 3) := by decide +kernel
theorem dL_act_389 : decode cL_act 389 = .ok (.aload_n 1, 1) := by decide +kernel
theorem dL_act_390 : decode cL_act 390 = .ok (.getfield 44, 3) := by decide +kernel
theorem dL_act_393 : decode cL_act 393 = .ok (.arraylength, 1) := by decide +kernel
theorem dL_act_394 : decode cL_act 394 = .ok (.goto 4, 3) := by decide +kernel
theorem dL_act_397 : decode cL_act 397 = .ok (.iconst (-1), 1) := by decide +kernel
theorem dL_act_398 : decode cL_act 398 = .ok (.if_icmp .eq 5, 3) := by decide +kernel
theorem dL_act_401 : decode cL_act 401 = .ok (.iconst 0, 1) := by decide +kernel
theorem dL_act_402 : decode cL_act 402 = .ok (.ireturn, 1) := by decide +kernel
theorem dL_act_403 : decode cL_act 403 = .ok (.iconst 3, 1) := by decide +kernel
theorem dL_act_404 : decode cL_act 404 = .ok (.newarray .int, 2) := by decide +kernel
theorem dL_act_406 : decode cL_act 406 = .ok (.dup, 1) := by decide +kernel
theorem dL_act_407 : decode cL_act 407 = .ok (.iconst 0, 1) := by decide +kernel
theorem dL_act_408 : decode cL_act 408 = .ok (.iload_n 3, 1) := by decide +kernel
theorem dL_act_409 : decode cL_act 409 = .ok (.iastore, 1) := by decide +kernel
theorem dL_act_410 : decode cL_act 410 = .ok (.dup, 1) := by decide +kernel
theorem dL_act_411 : decode cL_act 411 = .ok (.iconst 1, 1) := by decide +kernel
theorem dL_act_412 : decode cL_act 412 = .ok (.iload 4, 2) := by decide +kernel
theorem dL_act_414 : decode cL_act 414 = .ok (.iastore, 1) := by decide +kernel
theorem dL_act_415 : decode cL_act 415 = .ok (.dup, 1) := by decide +kernel
theorem dL_act_416 : decode cL_act 416 = .ok (.iconst 2, 1) := by decide +kernel
theorem dL_act_417 : decode cL_act 417 = .ok (.iconst 1, 1) := by decide +kernel
theorem dL_act_418 : decode cL_act 418 = .ok (.iastore, 1) := by decide +kernel
theorem dL_act_419 : decode cL_act 419 = .ok (.astore 7, 2) := by decide +kernel
theorem dL_act_421 : decode cL_act 421 = .ok (.iload 6, 2) := by decide +kernel
theorem dL_act_423 : decode cL_act 423 = .ok (.ifCond .eq 16, 3) := by decide +kernel
theorem dL_act_426 : decode cL_act 426 = .ok (.aload_n 1, 1) := by decide +kernel
theorem dL_act_427 : decode cL_act 427 = .ok (.aload_n 1, 1) := by decide +kernel
theorem dL_act_428 : decode cL_act 428 = .ok (.getfield 44, 3) := by decide +kernel
theorem dL_act_431 : decode cL_act 431 = .ok (.aload 7, 2) := by decide +kernel
theorem dL_act_433 : decode cL_act 433 = .ok (.invokestatic 52, 3) := by decide +kernel
theorem dL_act_436 : decode cL_act 436 = .ok (.putfield 44, 3) := by decide +kernel
theorem dL_act_439 : decode cL_act 439 = .ok (.iconst 1, 1) := by decide +kernel
theorem dL_act_440 : decode cL_act 440 = .ok (.ireturn, 1) := by decide +kernel
theorem dL_act_441 : decode cL_act 441 = .ok (.bipush 6, 2) := by decide +kernel
theorem dL_act_443 : decode cL_act 443 = .ok (.newarray .int, 2) := by decide +kernel
theorem dL_act_445 : decode cL_act 445 = .ok (.dup, 1) := by decide +kernel
theorem dL_act_446 : decode cL_act 446 = .ok (.iconst 0, 1) := by decide +kernel
theorem dL_act_447 : decode cL_act 447 = .ok (.iload_n 2, 1) := by decide +kernel
theorem dL_act_448 : decode cL_act 448 = .ok (.iconst 4, 1) := by decide +kernel
theorem dL_act_449 : decode cL_act 449 = .ok (.ishr, 1) := by decide +kernel
theorem dL_act_450 : decode cL_act 450 = .ok (.iload_n 2, 1) := by decide +kernel
theorem dL_act_451 : decode cL_act 451 = .ok (.bipush 7, 2) := by decide +kernel
theorem dL_act_453 : decode cL_act 453 = .ok (.ishr, 1) := by decide +kernel
theorem dL_act_454 : decode cL_act 454 = .ok (.iconst 2, 1) := by decide +kernel
theorem dL_act_455 : decode cL_act 455 = .ok (.invokestatic 9, 3) := by decide +kernel
theorem dL_act_458 : decode cL_act 458 = .ok (.ifCond .ne 8, 3) := by decide +kernel
theorem dL_act_461 : decode cL_act 461 = .ok (.bipush 31, 2) := by decide +kernel
theorem dL_act_463 : decode cL_act 463 = .ok (.goto 5, 3) := by decide +kernel
theorem dL_act_466 : decode cL_act 466 = .ok (.bipush 9, 2) := by decide +kernel
theorem dL_act_468 : decode cL_act 468 = .ok (.invokestatic 9, 3) := by decide +kernel
theorem dL_act_471 : decode cL_act 471 = .ok (.iastore, 1) := by decide +kernel
theorem dL_act_472 : decode cL_act 472 = .ok (.dup, 1) := by decide +kernel
theorem dL_act_473 : decode cL_act 473 = .ok (.iconst 1, 1) := by decide +kernel
theorem dL_act_474 : decode cL_act 474 = .ok (.iload_n 2, 1) := by decide +kernel
theorem dL_act_475 : decode cL_act 475 = .ok (.bipush 6, 2) := by decide +kernel
theorem dL_act_477 : decode cL_act 477 = .ok (.ishr, 1) := by decide +kernel
theorem dL_act_478 : decode cL_act 478 = .ok (.iconst 5, 1) := by decide +kernel
theorem dL_act_479 : decode cL_act 479 = .ok (.invokestatic 9, 3) := by decide +kernel
theorem dL_act_482 : decode cL_act 482 = .ok (.iastore, 1) := by decide +kernel
theorem dL_act_483 : decode cL_act 483 = .ok (.dup, 1) := by decide +kernel
theorem dL_act_484 : decode cL_act 484 = .ok (.iconst 2, 1) := by decide +kernel
theorem dL_act_485 : decode cL_act 485 = .ok (.iconst (-1), 1) := by decide +kernel
theorem dL_act_486 : decode cL_act 486 = .ok (.iastore, 1) := by decide +kernel
theorem dL_act_487 : decode cL_act 487 = .ok (.dup, 1) := by decide +kernel
theorem dL_act_488 : decode cL_act 488 = .ok (.iconst 3, 1) := by decide +kernel
theorem dL_act_489 : decode cL_act 489 = .ok (.iconst 0, 1) := by decide +kernel
theorem dL_act_490 : decode cL_act 490 = .ok (.iastore, 1) := by decide +kernel
theorem dL_act_491 : decode cL_act 491 = .ok (.dup, 1) := by decide +kernel
theorem dL_act_492 : decode cL_act 492 = .ok (.iconst 4, 1) := by decide +kernel
theorem dL_act_493 : decode cL_act 493 = .ok (.iconst 0, 1) := by decide +kernel
theorem dL_act_494 : decode cL_act 494 = .ok (.iastore, 1) := by decide +kernel
theorem dL_act_495 : decode cL_act 495 = .ok (.dup, 1) := by decide +kernel
theorem dL_act_496 : decode cL_act 496 = .ok (.iconst 5, 1) := by decide +kernel
theorem dL_act_497 : decode cL_act 497 = .ok (.iconst 0, 1) := by decide +kernel
theorem dL_act_498 : decode cL_act 498 = .ok (.iastore, 1) := by decide +kernel
theorem dL_act_499 : decode cL_act 499 = .ok (.astore 6, 2) := by decide +kernel
theorem dL_act_501 : decode cL_act 501 = .ok (.aload_n 1, 1) := by decide +kernel
theorem dL_act_502 : decode cL_act 502 = .ok (.getfield 56, 3) := by decide +kernel
theorem dL_act_505 : decode cL_act 505 = .ok (.arraylength, 1) := by decide +kernel
theorem dL_act_506 : decode cL_act 506 = .ok (.istore 7, 2) := by decide +kernel
theorem dL_act_508 : decode cL_act 508 = .ok (.aload_n 0, 1) := by decide +kernel
theorem dL_act_509 : decode cL_act 509 = .ok (.aload 6, 2) := by decide +kernel
theorem dL_act_511 : decode cL_act 511 = .ok (.iconst 0, 1) := by decide +kernel
theorem dL_act_512 : decode cL_act 512 = .ok (.iaload, 1) := by decide +kernel
theorem dL_act_513 : decode cL_act 513 = .ok (.aload 6, 2) := by decide +kernel
theorem dL_act_515 : decode cL_act 515 = .ok (.iconst 1, 1) := by decide +kernel
theorem dL_act_516 : decode cL_act 516 = .ok (.iaload, 1) := by decide +kernel
theorem dL_act_517 : decode cL_act 517 = .ok (.invokevirtual 59, 3) := by decide +kernel
theorem dL_act_520 : decode cL_act 520 = .ok (.istore 5, 2) := by decide +kernel
theorem dL_act_522 : decode cL_act 522 = .ok (.goto 8, 3) := by decide +kernel
theorem dL_act_525 : decode cL_act 525 = .ok (.astore 8, 2) := by decide +kernel
theorem dL_act_527 : decode cL_act 527 = .ok (.iconst (-1), 1) := by decide +kernel
theorem dL_act_528 : decode cL_act 528 = .ok (.istore 5, 2) := by decide +kernel
theorem dL_act_530 : decode cL_act 530 = .ok (.iload 5, 2) := by decide +kernel
theorem dL_act_532 : decode cL_act 532 = .ok (.iload 7, 2) := by decide +kernel
theorem dL_act_534 : decode cL_act 534 = .ok (.bipush 8, 2) := by decide +kernel
theorem dL_act_536 : decode cL_act 536 = .ok (.if_icmp .ge 8, 3) := by decide +kernel
theorem dL_act_539 : decode cL_act 539 = .ok (.iload 7, 2) := by decide +kernel
theorem dL_act_541 : decode cL_act 541 = .ok (.goto 4, 3) := by decide +kernel
theorem dL_act_544 : decode cL_act 544 = .ok (.iconst (-1), 1) := by decide +kernel
theorem dL_act_545 : decode cL_act 545 = .ok (.if_icmp .eq 5, 3) := by decide +kernel
theorem dL_act_548 : decode cL_act 548 = .ok (.iconst 0, 1) := by decide +kernel
theorem dL_act_549 : decode cL_act 549 = .ok (.ireturn, 1) := by decide +kernel
theorem dL_act_550 : decode cL_act 550 = .ok (.iload 5, 2) := by decide +kernel
theorem dL_act_552 : decode cL_act 552 = .ok (.ifCond .lt 16, 3) := by decide +kernel
theorem dL_act_555 : decode cL_act 555 = .ok (.aload_n 1, 1) := by decide +kernel
theorem dL_act_556 : decode cL_act 556 = .ok (.aload_n 1, 1) := by decide +kernel
theorem dL_act_557 : decode cL_act 557 = .ok (.getfield 56, 3) := by decide +kernel
theorem dL_act_560 : decode cL_act 560 = .ok (.aload 6, 2) := by decide +kernel
theorem dL_act_562 : decode cL_act 562 = .ok (.invokestatic 52, 3) := by decide +kernel
theorem dL_act_565 : decode cL_act 565 = .ok (.putfield 56, 3) := by decide +kernel
theorem dL_act_568 : decode cL_act 568 = .ok (.iconst 1, 1) := by decide +kernel
theorem dL_act_569 : decode cL_act 569 = .ok (.ireturn, 1) := by decide +kernel
theorem dL_act_570 : decode cL_act 570 = .ok (.iconst 4, 1) := by decide +kernel
theorem dL_act_571 : decode cL_act 571 = .ok (.newarray .int, 2) := by decide +kernel
theorem dL_act_573 : decode cL_act 573 = .ok (.dup, 1) := by decide +kernel
theorem dL_act_574 : decode cL_act 574 = .ok (.iconst 0, 1) := by decide +kernel
theorem dL_act_575 : decode cL_act 575 = .ok (.iload_n 3, 1) := by decide +kernel
theorem dL_act_576 : decode cL_act 576 = .ok (.iastore, 1) := by decide +kernel
theorem dL_act_577 : decode cL_act 577 = .ok (.dup, 1) := by decide +kernel
theorem dL_act_578 : decode cL_act 578 = .ok (.iconst 1, 1) := by decide +kernel
theorem dL_act_579 : decode cL_act 579 = .ok (.iload 4, 2) := by decide +kernel
theorem dL_act_581 : decode cL_act 581 = .ok (.iastore, 1) := by decide +kernel
theorem dL_act_582 : decode cL_act 582 = .ok (.dup, 1) := by decide +kernel
theorem dL_act_583 : decode cL_act 583 = .ok (.iconst 2, 1) := by decide +kernel
theorem dL_act_584 : decode cL_act 584 = .ok (.iconst 1, 1) := by decide +kernel
theorem dL_act_585 : decode cL_act 585 = .ok (.iload_n 2, 1) := by decide +kernel
theorem dL_act_586 : decode cL_act 586 = .ok (.iconst 5, 1) := by decide +kernel
theorem dL_act_587 : decode cL_act 587 = .ok (.ishr, 1) := by decide +kernel
theorem dL_act_588 : decode cL_act 588 = .ok (.bipush 8, 2) := by decide +kernel
theorem dL_act_590 : decode cL_act 590 = .ok (.invokestatic 9, 3) := by decide +kernel
theorem dL_act_593 : decode cL_act 593 = .ok (.iadd, 1) := by decide +kernel
theorem dL_act_594 : decode cL_act 594 = .ok (.iastore, 1) := by decide +kernel
theorem dL_act_595 : decode cL_act 595 = .ok (.dup, 1) := by decide +kernel
theorem dL_act_596 : decode cL_act 596 = .ok (.iconst 3, 1) := by decide +kernel
theorem dL_act_597 : decode cL_act 597 = .ok (.iconst 0, 1) := by decide +kernel
theorem dL_act_598 : decode cL_act 598 = .ok (.iastore, 1) := by decide +kernel
theorem dL_act_599 : decode cL_act 599 = .ok (.astore 6, 2) := by decide +kernel
theorem dL_act_601 : decode cL_act 601 = .ok (.aload_n 1, 1) := by decide +kernel
theorem dL_act_602 : decode cL_act 602 = .ok (.getfield 62, 3) := by decide +kernel
theorem dL_act_605 : decode cL_act 605 = .ok (.arraylength, 1) := by decide +kernel
theorem dL_act_606 : decode cL_act 606 = .ok (.istore 7, 2) := by decide +kernel
theorem dL_act_608 : decode cL_act 608 = .ok (.aload_n 0, 1) := by decide +kernel
theorem dL_act_609 : decode cL_act 609 = .ok (.iload_n 3, 1) := by decide +kernel
theorem dL_act_610 : decode cL_act 610 = .ok (.iload 4, 2) := by decide +kernel
theorem dL_act_612 : decode cL_act 612 = .ok (.aload 6, 2) := by decide +kernel
theorem dL_act_614 : decode cL_act 614 = .ok (.iconst 2, 1) := by decide +kernel
theorem dL_act_615 : decode cL_act 615 = .ok (.iaload, 1) := by decide +kernel
theorem dL_act_616 : decode cL_act 616 = .ok (.invokevirtual 65, 3) := by decide +kernel
theorem dL_act_619 : decode cL_act 619 = .ok (.istore 5, 2) := by decide +kernel
theorem dL_act_621 : decode cL_act 621 = .ok (.goto 8, 3) := by decide +kernel
theorem dL_act_624 : decode cL_act 624 = .ok (.astore 8, 2) := by decide +kernel
theorem dL_act_626 : decode cL_act 626 = .ok (.iconst (-1), 1) := by decide +kernel
theorem dL_act_627 : decode cL_act 627 = .ok (.istore 5, 2) := by decide +kernel
theorem dL_act_629 : decode cL_act 629 = .ok (.iload 5, 2) := by decide +kernel
theorem dL_act_631 : decode cL_act 631 = .ok (.iload 7, 2) := by decide +kernel
theorem dL_act_633 : decode cL_act 633 = .ok (.iconst 3, 1) := by decide +kernel
theorem dL_act_634 : decode cL_act 634 = .ok (.if_icmp .ge 8, 3) := by decide +kernel
theorem dL_act_637 : decode cL_act 637 = .ok (.iload 7, 2) := by decide +kernel
theorem dL_act_639 : decode cL_act 639 = .ok (.goto 4, 3) := by decide +kernel
theorem dL_act_642 : decode cL_act 642 = .ok (.iconst (-1), 1) := by decide +kernel
theorem dL_act_643 : decode cL_act 643 = .ok (.if_icmp .eq 5, 3) := by decide +kernel
theorem dL_act_646 : decode cL_act 646 = .ok (.iconst 0, 1) := by decide +kernel
theorem dL_act_647 : decode cL_act 647 = .ok (.ireturn, 1) := by decide +kernel
theorem dL_act_648 : decode cL_act 648 = .ok (.iload 5, 2) := by decide +kernel
theorem dL_act_650 : decode cL_act 650 = .ok (.ifCond .lt 16, 3) := by decide +kernel
theorem dL_act_653 : decode cL_act 653 = .ok (.aload_n 1, 1) := by decide +kernel
theorem dL_act_654 : decode cL_act 654 = .ok (.aload_n 1, 1) := by decide +kernel
theorem dL_act_655 : decode cL_act 655 = .ok (.getfield 62, 3) := by decide +kernel
theorem dL_act_658 : decode cL_act 658 = .ok (.aload 6, 2) := by decide +kernel
theorem dL_act_660 : decode cL_act 660 = .ok (.invokestatic 52, 3) := by decide +kernel
theorem dL_act_663 : decode cL_act 663 = .ok (.putfield 62, 3) := by decide +kernel
theorem dL_act_666 : decode cL_act 666 = .ok (.iconst 1, 1) := by decide +kernel
theorem dL_act_667 : decode cL_act 667 = .ok (.ireturn, 1) := by decide +kernel
theorem dL_act_668 : decode cL_act 668 = .ok (.aload_n 1, 1) := by decide +kernel
theorem dL_act_669 : decode cL_act 669 = .ok (.getfield 56, 3) := by decide +kernel
theorem dL_act_672 : decode cL_act 672 = .ok (.arraylength, 1) := by decide +kernel
theorem dL_act_673 : decode cL_act 673 = .ok (.ifCond .ne 5, 3) := by decide +kernel
theorem dL_act_676 : decode cL_act 676 = .ok (.iconst 1, 1) := by decide +kernel
theorem dL_act_677 : decode cL_act 677 = .ok (.ireturn, 1) := by decide +kernel
theorem dL_act_678 : decode cL_act 678 = .ok (.iload_n 2, 1) := by decide +kernel
theorem dL_act_679 : decode cL_act 679 = .ok (.iconst 4, 1) := by decide +kernel
theorem dL_act_680 : decode cL_act 680 = .ok (.ishr, 1) := by decide +kernel
theorem dL_act_681 : decode cL_act 681 = .ok (.aload_n 1, 1) := by decide +kernel
theorem dL_act_682 : decode cL_act 682 = .ok (.getfield 56, 3) := by decide +kernel
theorem dL_act_685 : decode cL_act 685 = .ok (.arraylength, 1) := by decide +kernel
theorem dL_act_686 : decode cL_act 686 = .ok (.invokestatic 9, 3) := by decide +kernel
theorem dL_act_689 : decode cL_act 689 = .ok (.istore 6, 2) := by decide +kernel
theorem dL_act_691 : decode cL_act 691 = .ok (.iload_n 2, 1) := by decide +kernel
theorem dL_act_692 : decode cL_act 692 = .ok (.bipush 6, 2) := by decide +kernel
theorem dL_act_694 : decode cL_act 694 = .ok (.ishr, 1) := by decide +kernel
theorem dL_act_695 : decode cL_act 695 = .ok (.aload_n 1, 1) := by decide +kernel
theorem dL_act_696 : decode cL_act 696 = .ok (.getfield 44, 3) := by decide +kernel
theorem dL_act_699 : decode cL_act 699 = .ok (.arraylength, 1) := by decide +kernel
theorem dL_act_700 : decode cL_act 700 = .ok (.iconst 1, 1) := by decide +kernel
theorem dL_act_701 : decode cL_act 701 = .ok (.iadd, 1) := by decide +kernel
theorem dL_act_702 : decode cL_act 702 = .ok (.invokestatic 9, 3) := by decide +kernel
theorem dL_act_705 : decode cL_act 705 = .ok (.iconst 1, 1) := by decide +kernel
theorem dL_act_706 : decode cL_act 706 = .ok (.isub, 1) := by decide +kernel
theorem dL_act_707 : decode cL_act 707 = .ok (.istore 7, 2) := by decide +kernel
theorem dL_act_709 : decode cL_act 709 = .ok (.aload_n 1, 1) := by decide +kernel
theorem dL_act_710 : decode cL_act 710 = .ok (.getfield 56, 3) := by decide +kernel
theorem dL_act_713 : decode cL_act 713 = .ok (.iload 6, 2) := by decide +kernel
theorem dL_act_715 : decode cL_act 715 = .ok (.aaload, 1) := by decide +kernel
theorem dL_act_716 : decode cL_act 716 = .ok (.iconst 2, 1) := by decide +kernel
theorem dL_act_717 : decode cL_act 717 = .ok (.iaload, 1) := by decide +kernel
theorem dL_act_718 : decode cL_act 718 = .ok (.istore 8, 2) := by decide +kernel
theorem dL_act_720 : decode cL_act 720 = .ok (.iload 7, 2) := by decide +kernel
theorem dL_act_722 : decode cL_act 722 = .ok (.ifCond .lt 16, 3) := by decide +kernel
theorem dL_act_725 : decode cL_act 725 = .ok (.aload_n 1, 1) := by decide +kernel
theorem dL_act_726 : decode cL_act 726 = .ok (.getfield 44, 3) := by decide +kernel
theorem dL_act_729 : decode cL_act 729 = .ok (.iload 7, 2) := by decide +kernel
theorem dL_act_731 : decode cL_act 731 = .ok (.aaload, 1) := by decide +kernel
theorem dL_act_732 : decode cL_act 732 = .ok (.iconst 2, 1) := by decide +kernel
theorem dL_act_733 : decode cL_act 733 = .ok (.iaload, 1) := by decide +kernel
theorem dL_act_734 : decode cL_act 734 = .ok (.iconst 1, 1) := by decide +kernel
theorem dL_act_735 : decode cL_act 735 = .ok (.if_icmp .ne 7, 3) := by decide +kernel
theorem dL_act_738 : decode cL_act 738 = .ok (.iconst 1, 1) := by decide +kernel
theorem dL_act_739 : decode cL_act 739 = .ok (.goto 4, 3) := by decide +kernel
theorem dL_act_742 : decode cL_act 742 = .ok (.iconst 0, 1) := by decide +kernel
theorem dL_act_743 : decode cL_act 743 = .ok (.istore 9, 2) := by decide +kernel
theorem dL_act_745 : decode cL_act 745 = .ok (.aload_n 0, 1) := by decide +kernel
theorem dL_act_746 : decode cL_act 746 = .ok (.iload 6, 2) := by decide +kernel
theorem dL_act_748 : decode cL_act 748 = .ok (.iload 7, 2) := by decide +kernel
theorem dL_act_750 : decode cL_act 750 = .ok (.invokevirtual 69, 3) := by decide +kernel
theorem dL_act_753 : decode cL_act 753 = .ok (.istore 5, 2) := by decide +kernel
theorem dL_act_755 : decode cL_act 755 = .ok (.goto 9, 3) := by decide +kernel
theorem dL_act_758 : decode cL_act 758 = .ok (.astore 10, 2) := by decide +kernel
theorem dL_act_760 : decode cL_act 760 = .ok (.bipush (-2), 2) := by decide +kernel
theorem dL_act_762 : decode cL_act 762 = .ok (.istore 5, 2) := by decide +kernel
theorem dL_act_764 : decode cL_act 764 = .ok (.iload 9, 2) := by decide +kernel
theorem dL_act_766 : decode cL_act 766 = .ok (.ifCond .eq 14, 3) := by decide +kernel
theorem dL_act_769 : decode cL_act 769 = .ok (.aload_n 1, 1) := by decide +kernel
theorem dL_act_770 : decode cL_act 770 = .ok (.getfield 56, 3) := by decide +kernel
theorem dL_act_773 : decode cL_act 773 = .ok (.iload 6, 2) := by decide +kernel
theorem dL_act_775 : decode cL_act 775 = .ok (.aaload, 1) := by decide +kernel
theorem dL_act_776 : decode cL_act 776 = .ok (.iconst 2, 1) := by decide +kernel
theorem dL_act_777 : decode cL_act 777 = .ok (.iload 7, 2) := by decide +kernel
theorem dL_act_779 : decode cL_act 779 = .ok (.iastore, 1) := by decide +kernel
theorem dL_act_780 : decode cL_act 780 = .ok (.iload 5, 2) := by decide +kernel
theorem dL_act_782 : decode cL_act 782 = .ok (.iload 9, 2) := by decide +kernel
theorem dL_act_784 : decode cL_act 784 = .ok (.ifCond .eq 8, 3) := by decide +kernel
theorem dL_act_787 : decode cL_act 787 = .ok (.iload 8, 2) := by decide +kernel
theorem dL_act_789 : decode cL_act 789 = .ok (.goto 5, 3) := by decide +kernel
theorem dL_act_792 : decode cL_act 792 = .ok (.bipush (-2), 2) := by decide +kernel
theorem dL_act_794 : decode cL_act 794 = .ok (.if_icmp .ne 7, 3) := by decide +kernel
theorem dL_act_797 : decode cL_act 797 = .ok (.iconst 1, 1) := by decide +kernel
theorem dL_act_798 : decode cL_act 798 = .ok (.goto 4, 3) := by decide +kernel
theorem dL_act_801 : decode cL_act 801 = .ok (.iconst 0, 1) := by decide +kernel
theorem dL_act_802 : decode cL_act 802 = .ok (.ireturn, 1) := by decide +kernel
