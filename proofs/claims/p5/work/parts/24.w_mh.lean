theorem tw_1787 : Cond.methodLink RX10 (462 : Nat) yX10_holds ∈ gT := gT_t (List.mem_of_getElem? (i := 1787) (by decide +kernel)) (by decide +kernel)
theorem tw_1789 : Cond.instanceMethod yX10_holds ∈ gT := gT_t (List.mem_of_getElem? (i := 1789) (by decide +kernel)) (by decide +kernel)
theorem tw_1790 : Cond.code yX10_holds cX10_holds 8 (some .boolean) ∈ gT := gT_t (List.mem_of_getElem? (i := 1790) (by decide +kernel)) (by decide +kernel)
theorem ts_119 : Cond.selects RX10 yX10_holds yX10_holds ∈ gT := gT_s (by decide +kernel) (by decide +kernel)
theorem dX10_holds_0 : decode cX10_holds 0 = .ok (.sipush 174, 3) := by decide +kernel
theorem dX10_holds_3 : decode cX10_holds 3 = .ok (.iconst 4, 1) := by decide +kernel
theorem dX10_holds_4 : decode cX10_holds 4 = .ok (.iload_n 1, 1) := by decide +kernel
theorem dX10_holds_5 : decode cX10_holds 5 = .ok (.imul, 1) := by decide +kernel
theorem dX10_holds_6 : decode cX10_holds 6 = .ok (.iadd, 1) := by decide +kernel
theorem dX10_holds_7 : decode cX10_holds 7 = .ok (.istore_n 3, 1) := by decide +kernel
theorem dX10_holds_8 : decode cX10_holds 8 = .ok (.aload_n 0, 1) := by decide +kernel
theorem dX10_holds_9 : decode cX10_holds 9 = .ok (.getfield 98, 3) := by decide +kernel
theorem dX10_holds_12 : decode cX10_holds 12 = .ok (.iload_n 3, 1) := by decide +kernel
theorem dX10_holds_13 : decode cX10_holds 13 = .ok (.iconst 1, 1) := by decide +kernel
theorem dX10_holds_14 : decode cX10_holds 14 = .ok (.iadd, 1) := by decide +kernel
theorem dX10_holds_15 : decode cX10_holds 15 = .ok (.iaload, 1) := by decide +kernel
theorem dX10_holds_16 : decode cX10_holds 16 = .ok (.istore 4, 2) := by decide +kernel
theorem dX10_holds_18 : decode cX10_holds 18 = .ok (.aload_n 0, 1) := by decide +kernel
theorem dX10_holds_19 : decode cX10_holds 19 = .ok (.getfield 98, 3) := by decide +kernel
theorem dX10_holds_22 : decode cX10_holds 22 = .ok (.iload_n 3, 1) := by decide +kernel
theorem dX10_holds_23 : decode cX10_holds 23 = .ok (.iconst 2, 1) := by decide +kernel
theorem dX10_holds_24 : decode cX10_holds 24 = .ok (.iadd, 1) := by decide +kernel
theorem dX10_holds_25 : decode cX10_holds 25 = .ok (.iaload, 1) := by decide +kernel
theorem dX10_holds_26 : decode cX10_holds 26 = .ok (.istore 5, 2) := by decide +kernel
theorem dX10_holds_28 : decode cX10_holds 28 = .ok (.aload_n 0, 1) := by decide +kernel
theorem dX10_holds_29 : decode cX10_holds 29 = .ok (.getfield 98, 3) := by decide +kernel
theorem dX10_holds_32 : decode cX10_holds 32 = .ok (.iload_n 3, 1) := by decide +kernel
theorem dX10_holds_33 : decode cX10_holds 33 = .ok (.iaload, 1) := by decide +kernel
theorem dX10_holds_34 : decode cX10_holds 34 = .ok (.lookupswitch 213 #[(1, 74), (2, 90), (3, 116), (69, 142), (70, 148), (71, 163), (72, 177), (73, 193)], 74) := by decide +kernel
theorem dX10_holds_108 : decode cX10_holds 108 = .ok (.aload_n 0, 1) := by decide +kernel
theorem dX10_holds_109 : decode cX10_holds 109 = .ok (.iload 4, 2) := by decide +kernel
theorem dX10_holds_111 : decode cX10_holds 111 = .ok (.iload_n 2, 1) := by decide +kernel
theorem dX10_holds_112 : decode cX10_holds 112 = .ok (.invokevirtual 462, 3) := by decide +kernel
theorem dX10_holds_115 : decode cX10_holds 115 = .ok (.ifCond .ne 7, 3) := by decide +kernel
theorem dX10_holds_118 : decode cX10_holds 118 = .ok (.iconst 1, 1) := by decide +kernel
theorem dX10_holds_119 : decode cX10_holds 119 = .ok (.goto 4, 3) := by decide +kernel
theorem dX10_holds_122 : decode cX10_holds 122 = .ok (.iconst 0, 1) := by decide +kernel
theorem dX10_holds_123 : decode cX10_holds 123 = .ok (.ireturn, 1) := by decide +kernel
theorem dX10_holds_124 : decode cX10_holds 124 = .ok (.aload_n 0, 1) := by decide +kernel
theorem dX10_holds_125 : decode cX10_holds 125 = .ok (.iload 4, 2) := by decide +kernel
theorem dX10_holds_127 : decode cX10_holds 127 = .ok (.iload_n 2, 1) := by decide +kernel
theorem dX10_holds_128 : decode cX10_holds 128 = .ok (.invokevirtual 462, 3) := by decide +kernel
theorem dX10_holds_131 : decode cX10_holds 131 = .ok (.ifCond .eq 17, 3) := by decide +kernel
theorem dX10_holds_134 : decode cX10_holds 134 = .ok (.aload_n 0, 1) := by decide +kernel
theorem dX10_holds_135 : decode cX10_holds 135 = .ok (.iload 5, 2) := by decide +kernel
theorem dX10_holds_137 : decode cX10_holds 137 = .ok (.iload_n 2, 1) := by decide +kernel
theorem dX10_holds_138 : decode cX10_holds 138 = .ok (.invokevirtual 462, 3) := by decide +kernel
theorem dX10_holds_141 : decode cX10_holds 141 = .ok (.ifCond .eq 7, 3) := by decide +kernel
theorem dX10_holds_144 : decode cX10_holds 144 = .ok (.iconst 1, 1) := by decide +kernel
theorem dX10_holds_145 : decode cX10_holds 145 = .ok (.goto 4, 3) := by decide +kernel
theorem dX10_holds_148 : decode cX10_holds 148 = .ok (.iconst 0, 1) := by decide +kernel
theorem dX10_holds_149 : decode cX10_holds 149 = .ok (.ireturn, 1) := by decide +kernel
theorem dX10_holds_150 : decode cX10_holds 150 = .ok (.aload_n 0, 1) := by decide +kernel
theorem dX10_holds_151 : decode cX10_holds 151 = .ok (.iload 4, 2) := by decide +kernel
theorem dX10_holds_153 : decode cX10_holds 153 = .ok (.iload_n 2, 1) := by decide +kernel
theorem dX10_holds_154 : decode cX10_holds 154 = .ok (.invokevirtual 462, 3) := by decide +kernel
theorem dX10_holds_157 : decode cX10_holds 157 = .ok (.ifCond .ne 13, 3) := by decide +kernel
theorem dX10_holds_160 : decode cX10_holds 160 = .ok (.aload_n 0, 1) := by decide +kernel
theorem dX10_holds_161 : decode cX10_holds 161 = .ok (.iload 5, 2) := by decide +kernel
theorem dX10_holds_163 : decode cX10_holds 163 = .ok (.iload_n 2, 1) := by decide +kernel
theorem dX10_holds_164 : decode cX10_holds 164 = .ok (.invokevirtual 462, 3) := by decide +kernel
theorem dX10_holds_167 : decode cX10_holds 167 = .ok (.ifCond .eq 7, 3) := by decide +kernel
theorem dX10_holds_170 : decode cX10_holds 170 = .ok (.iconst 1, 1) := by decide +kernel
theorem dX10_holds_171 : decode cX10_holds 171 = .ok (.goto 4, 3) := by decide +kernel
theorem dX10_holds_174 : decode cX10_holds 174 = .ok (.iconst 0, 1) := by decide +kernel
theorem dX10_holds_175 : decode cX10_holds 175 = .ok (.ireturn, 1) := by decide +kernel
theorem dX10_holds_176 : decode cX10_holds 176 = .ok (.aload_n 0, 1) := by decide +kernel
theorem dX10_holds_177 : decode cX10_holds 177 = .ok (.iload_n 2, 1) := by decide +kernel
theorem dX10_holds_178 : decode cX10_holds 178 = .ok (.invokevirtual 268, 3) := by decide +kernel
theorem dX10_holds_181 : decode cX10_holds 181 = .ok (.ireturn, 1) := by decide +kernel
theorem dX10_holds_182 : decode cX10_holds 182 = .ok (.aload_n 0, 1) := by decide +kernel
theorem dX10_holds_183 : decode cX10_holds 183 = .ok (.iload_n 2, 1) := by decide +kernel
theorem dX10_holds_184 : decode cX10_holds 184 = .ok (.invokevirtual 253, 3) := by decide +kernel
theorem dX10_holds_187 : decode cX10_holds 187 = .ok (.iconst (-1), 1) := by decide +kernel
theorem dX10_holds_188 : decode cX10_holds 188 = .ok (.if_icmp .ne 7, 3) := by decide +kernel
theorem dX10_holds_191 : decode cX10_holds 191 = .ok (.iconst 1, 1) := by decide +kernel
theorem dX10_holds_192 : decode cX10_holds 192 = .ok (.goto 4, 3) := by decide +kernel
theorem dX10_holds_195 : decode cX10_holds 195 = .ok (.iconst 0, 1) := by decide +kernel
theorem dX10_holds_196 : decode cX10_holds 196 = .ok (.ireturn, 1) := by decide +kernel
theorem dX10_holds_197 : decode cX10_holds 197 = .ok (.aload_n 0, 1) := by decide +kernel
theorem dX10_holds_198 : decode cX10_holds 198 = .ok (.iload_n 2, 1) := by decide +kernel
theorem dX10_holds_199 : decode cX10_holds 199 = .ok (.invokevirtual 271, 3) := by decide +kernel
theorem dX10_holds_202 : decode cX10_holds 202 = .ok (.ifCond .eq 7, 3) := by decide +kernel
theorem dX10_holds_205 : decode cX10_holds 205 = .ok (.iconst 1, 1) := by decide +kernel
theorem dX10_holds_206 : decode cX10_holds 206 = .ok (.goto 4, 3) := by decide +kernel
theorem dX10_holds_209 : decode cX10_holds 209 = .ok (.iconst 0, 1) := by decide +kernel
theorem dX10_holds_210 : decode cX10_holds 210 = .ok (.ireturn, 1) := by decide +kernel
theorem dX10_holds_211 : decode cX10_holds 211 = .ok (.aload_n 0, 1) := by decide +kernel
theorem dX10_holds_212 : decode cX10_holds 212 = .ok (.iload_n 2, 1) := by decide +kernel
theorem dX10_holds_213 : decode cX10_holds 213 = .ok (.invokevirtual 253, 3) := by decide +kernel
theorem dX10_holds_216 : decode cX10_holds 216 = .ok (.iload 4, 2) := by decide +kernel
theorem dX10_holds_218 : decode cX10_holds 218 = .ok (.if_icmp .ne 7, 3) := by decide +kernel
theorem dX10_holds_221 : decode cX10_holds 221 = .ok (.iconst 1, 1) := by decide +kernel
theorem dX10_holds_222 : decode cX10_holds 222 = .ok (.goto 4, 3) := by decide +kernel
theorem dX10_holds_225 : decode cX10_holds 225 = .ok (.iconst 0, 1) := by decide +kernel
theorem dX10_holds_226 : decode cX10_holds 226 = .ok (.ireturn, 1) := by decide +kernel
theorem dX10_holds_227 : decode cX10_holds 227 = .ok (.aload_n 0, 1) := by decide +kernel
theorem dX10_holds_228 : decode cX10_holds 228 = .ok (.getfield 98, 3) := by decide +kernel
theorem dX10_holds_231 : decode cX10_holds 231 = .ok (.bipush 86, 2) := by decide +kernel
theorem dX10_holds_233 : decode cX10_holds 233 = .ok (.iload_n 2, 1) := by decide +kernel
theorem dX10_holds_234 : decode cX10_holds 234 = .ok (.iadd, 1) := by decide +kernel
theorem dX10_holds_235 : decode cX10_holds 235 = .ok (.iaload, 1) := by decide +kernel
theorem dX10_holds_236 : decode cX10_holds 236 = .ok (.iload 4, 2) := by decide +kernel
theorem dX10_holds_238 : decode cX10_holds 238 = .ok (.if_icmp .ne 7, 3) := by decide +kernel
theorem dX10_holds_241 : decode cX10_holds 241 = .ok (.iconst 1, 1) := by decide +kernel
theorem dX10_holds_242 : decode cX10_holds 242 = .ok (.goto 4, 3) := by decide +kernel
theorem dX10_holds_245 : decode cX10_holds 245 = .ok (.iconst 0, 1) := by decide +kernel
theorem dX10_holds_246 : decode cX10_holds 246 = .ok (.ireturn, 1) := by decide +kernel
theorem dX10_holds_247 : decode cX10_holds 247 = .ok (.aload_n 0, 1) := by decide +kernel
theorem dX10_holds_248 : decode cX10_holds 248 = .ok (.getfield 98, 3) := by decide +kernel
theorem dX10_holds_251 : decode cX10_holds 251 = .ok (.iload_n 3, 1) := by decide +kernel
theorem dX10_holds_252 : decode cX10_holds 252 = .ok (.iaload, 1) := by decide +kernel
theorem dX10_holds_253 : decode cX10_holds 253 = .ok (.bipush 50, 2) := by decide +kernel
theorem dX10_holds_255 : decode cX10_holds 255 = .ok (.isub, 1) := by decide +kernel
theorem dX10_holds_256 : decode cX10_holds 256 = .ok (.istore 6, 2) := by decide +kernel
theorem dX10_holds_258 : decode cX10_holds 258 = .ok (.iload 6, 2) := by decide +kernel
theorem dX10_holds_260 : decode cX10_holds 260 = .ok (.bipush 24, 2) := by decide +kernel
theorem dX10_holds_262 : decode cX10_holds 262 = .ok (.if_icmp .ne 11, 3) := by decide +kernel
theorem dX10_holds_265 : decode cX10_holds 265 = .ok (.aload_n 0, 1) := by decide +kernel
theorem dX10_holds_266 : decode cX10_holds 266 = .ok (.iload_n 2, 1) := by decide +kernel
theorem dX10_holds_267 : decode cX10_holds 267 = .ok (.invokevirtual 265, 3) := by decide +kernel
theorem dX10_holds_270 : decode cX10_holds 270 = .ok (.goto 42, 3) := by decide +kernel
theorem dX10_holds_273 : decode cX10_holds 273 = .ok (.iload 6, 2) := by decide +kernel
theorem dX10_holds_275 : decode cX10_holds 275 = .ok (.bipush 25, 2) := by decide +kernel
theorem dX10_holds_277 : decode cX10_holds 277 = .ok (.if_icmp .ne 15, 3) := by decide +kernel
theorem dX10_holds_280 : decode cX10_holds 280 = .ok (.aload_n 0, 1) := by decide +kernel
theorem dX10_holds_281 : decode cX10_holds 281 = .ok (.getfield 98, 3) := by decide +kernel
theorem dX10_holds_284 : decode cX10_holds 284 = .ok (.bipush 92, 2) := by decide +kernel
theorem dX10_holds_286 : decode cX10_holds 286 = .ok (.iload_n 2, 1) := by decide +kernel
theorem dX10_holds_287 : decode cX10_holds 287 = .ok (.iadd, 1) := by decide +kernel
theorem dX10_holds_288 : decode cX10_holds 288 = .ok (.iaload, 1) := by decide +kernel
theorem dX10_holds_289 : decode cX10_holds 289 = .ok (.goto 23, 3) := by decide +kernel
theorem dX10_holds_292 : decode cX10_holds 292 = .ok (.iload 6, 2) := by decide +kernel
theorem dX10_holds_294 : decode cX10_holds 294 = .ok (.bipush 26, 2) := by decide +kernel
theorem dX10_holds_296 : decode cX10_holds 296 = .ok (.if_icmp .ne 15, 3) := by decide +kernel
theorem dX10_holds_299 : decode cX10_holds 299 = .ok (.aload_n 0, 1) := by decide +kernel
theorem dX10_holds_300 : decode cX10_holds 300 = .ok (.getfield 98, 3) := by decide +kernel
theorem dX10_holds_303 : decode cX10_holds 303 = .ok (.bipush 98, 2) := by decide +kernel
theorem dX10_holds_305 : decode cX10_holds 305 = .ok (.iload_n 2, 1) := by decide +kernel
theorem dX10_holds_306 : decode cX10_holds 306 = .ok (.iadd, 1) := by decide +kernel
theorem dX10_holds_307 : decode cX10_holds 307 = .ok (.iaload, 1) := by decide +kernel
theorem dX10_holds_308 : decode cX10_holds 308 = .ok (.goto 4, 3) := by decide +kernel
theorem dX10_holds_311 : decode cX10_holds 311 = .ok (.iload_n 2, 1) := by decide +kernel
theorem dX10_holds_312 : decode cX10_holds 312 = .ok (.istore 7, 2) := by decide +kernel
theorem dX10_holds_314 : decode cX10_holds 314 = .ok (.aload_n 0, 1) := by decide +kernel
theorem dX10_holds_315 : decode cX10_holds 315 = .ok (.getfield 98, 3) := by decide +kernel
theorem dX10_holds_318 : decode cX10_holds 318 = .ok (.iload_n 3, 1) := by decide +kernel
theorem dX10_holds_319 : decode cX10_holds 319 = .ok (.iconst 3, 1) := by decide +kernel
theorem dX10_holds_320 : decode cX10_holds 320 = .ok (.iadd, 1) := by decide +kernel
theorem dX10_holds_321 : decode cX10_holds 321 = .ok (.iaload, 1) := by decide +kernel
theorem dX10_holds_322 : decode cX10_holds 322 = .ok (.bipush 60, 2) := by decide +kernel
theorem dX10_holds_324 : decode cX10_holds 324 = .ok (.if_icmp .ne 18, 3) := by decide +kernel
theorem dX10_holds_327 : decode cX10_holds 327 = .ok (.iload 7, 2) := by decide +kernel
theorem dX10_holds_329 : decode cX10_holds 329 = .ok (.iload 5, 2) := by decide +kernel
theorem dX10_holds_331 : decode cX10_holds 331 = .ok (.if_icmp .ge 7, 3) := by decide +kernel
theorem dX10_holds_334 : decode cX10_holds 334 = .ok (.iconst 1, 1) := by decide +kernel
theorem dX10_holds_335 : decode cX10_holds 335 = .ok (.goto 47, 3) := by decide +kernel
theorem dX10_holds_338 : decode cX10_holds 338 = .ok (.iconst 0, 1) := by decide +kernel
theorem dX10_holds_339 : decode cX10_holds 339 = .ok (.goto 43, 3) := by decide +kernel
theorem dX10_holds_342 : decode cX10_holds 342 = .ok (.aload_n 0, 1) := by decide +kernel
theorem dX10_holds_343 : decode cX10_holds 343 = .ok (.getfield 98, 3) := by decide +kernel
theorem dX10_holds_346 : decode cX10_holds 346 = .ok (.iload_n 3, 1) := by decide +kernel
theorem dX10_holds_347 : decode cX10_holds 347 = .ok (.iconst 3, 1) := by decide +kernel
theorem dX10_holds_348 : decode cX10_holds 348 = .ok (.iadd, 1) := by decide +kernel
theorem dX10_holds_349 : decode cX10_holds 349 = .ok (.iaload, 1) := by decide +kernel
theorem dX10_holds_350 : decode cX10_holds 350 = .ok (.bipush 61, 2) := by decide +kernel
theorem dX10_holds_352 : decode cX10_holds 352 = .ok (.if_icmp .ne 18, 3) := by decide +kernel
theorem dX10_holds_355 : decode cX10_holds 355 = .ok (.iload 7, 2) := by decide +kernel
theorem dX10_holds_357 : decode cX10_holds 357 = .ok (.iload 5, 2) := by decide +kernel
theorem dX10_holds_359 : decode cX10_holds 359 = .ok (.if_icmp .ne 7, 3) := by decide +kernel
theorem dX10_holds_362 : decode cX10_holds 362 = .ok (.iconst 1, 1) := by decide +kernel
theorem dX10_holds_363 : decode cX10_holds 363 = .ok (.goto 19, 3) := by decide +kernel
theorem dX10_holds_366 : decode cX10_holds 366 = .ok (.iconst 0, 1) := by decide +kernel
theorem dX10_holds_367 : decode cX10_holds 367 = .ok (.goto 15, 3) := by decide +kernel
theorem dX10_holds_370 : decode cX10_holds 370 = .ok (.iload 7, 2) := by decide +kernel
theorem dX10_holds_372 : decode cX10_holds 372 = .ok (.iload 5, 2) := by decide +kernel
theorem dX10_holds_374 : decode cX10_holds 374 = .ok (.if_icmp .le 7, 3) := by decide +kernel
theorem dX10_holds_377 : decode cX10_holds 377 = .ok (.iconst 1, 1) := by decide +kernel
theorem dX10_holds_378 : decode cX10_holds 378 = .ok (.goto 4, 3) := by decide +kernel
theorem dX10_holds_381 : decode cX10_holds 381 = .ok (.iconst 0, 1) := by decide +kernel
theorem dX10_holds_382 : decode cX10_holds 382 = .ok (.ireturn, 1) := by decide +kernel
theorem dX10_said_0 : decode cX10_said 0 = .ok (.aload_n 0, 1) := by decide +kernel
theorem dX10_said_1 : decode cX10_said 1 = .ok (.iconst 0, 1) := by decide +kernel
theorem dX10_said_2 : decode cX10_said 2 = .ok (.putfield 1, 3) := by decide +kernel
theorem dX10_said_5 : decode cX10_said 5 = .ok (.aload_n 0, 1) := by decide +kernel
theorem dX10_said_6 : decode cX10_said 6 = .ok (.getfield 98, 3) := by decide +kernel
theorem dX10_said_9 : decode cX10_said 9 = .ok (.sipush 172, 3) := by decide +kernel
theorem dX10_said_12 : decode cX10_said 12 = .ok (.iaload, 1) := by decide +kernel
theorem dX10_said_13 : decode cX10_said 13 = .ok (.ifCond .ne 5, 3) := by decide +kernel
theorem dX10_said_16 : decode cX10_said 16 = .ok (.iconst (-1), 1) := by decide +kernel
theorem dX10_said_17 : decode cX10_said 17 = .ok (.ireturn, 1) := by decide +kernel
theorem dX10_said_18 : decode cX10_said 18 = .ok (.iconst 0, 1) := by decide +kernel
theorem dX10_said_19 : decode cX10_said 19 = .ok (.istore_n 2, 1) := by decide +kernel
theorem dX10_said_20 : decode cX10_said 20 = .ok (.iconst 0, 1) := by decide +kernel
theorem dX10_said_21 : decode cX10_said 21 = .ok (.istore_n 3, 1) := by decide +kernel
theorem dX10_said_22 : decode cX10_said 22 = .ok (.iload_n 3, 1) := by decide +kernel
theorem dX10_said_23 : decode cX10_said 23 = .ok (.aload_n 0, 1) := by decide +kernel
theorem dX10_said_24 : decode cX10_said 24 = .ok (.getfield 98, 3) := by decide +kernel
theorem dX10_said_27 : decode cX10_said 27 = .ok (.iconst 2, 1) := by decide +kernel
theorem dX10_said_28 : decode cX10_said 28 = .ok (.iaload, 1) := by decide +kernel
theorem dX10_said_29 : decode cX10_said 29 = .ok (.if_icmp .ge 38, 3) := by decide +kernel
theorem dX10_said_32 : decode cX10_said 32 = .ok (.aload_n 0, 1) := by decide +kernel
theorem dX10_said_33 : decode cX10_said 33 = .ok (.aload_n 0, 1) := by decide +kernel
theorem dX10_said_34 : decode cX10_said 34 = .ok (.getfield 98, 3) := by decide +kernel
theorem dX10_said_37 : decode cX10_said 37 = .ok (.sipush 173, 3) := by decide +kernel
theorem dX10_said_40 : decode cX10_said 40 = .ok (.iaload, 1) := by decide +kernel
theorem dX10_said_41 : decode cX10_said 41 = .ok (.iload_n 3, 1) := by decide +kernel
theorem dX10_said_42 : decode cX10_said 42 = .ok (.invokevirtual 462, 3) := by decide +kernel
theorem dX10_said_45 : decode cX10_said 45 = .ok (.ifCond .ne 6, 3) := by decide +kernel
theorem dX10_said_48 : decode cX10_said 48 = .ok (.goto 13, 3) := by decide +kernel
theorem dX10_said_51 : decode cX10_said 51 = .ok (.iload_n 2, 1) := by decide +kernel
theorem dX10_said_52 : decode cX10_said 52 = .ok (.iload_n 1, 1) := by decide +kernel
theorem dX10_said_53 : decode cX10_said 53 = .ok (.if_icmp .ne 5, 3) := by decide +kernel
theorem dX10_said_56 : decode cX10_said 56 = .ok (.iload_n 3, 1) := by decide +kernel
theorem dX10_said_57 : decode cX10_said 57 = .ok (.ireturn, 1) := by decide +kernel
theorem dX10_said_58 : decode cX10_said 58 = .ok (.iinc 2 1, 3) := by decide +kernel
theorem dX10_said_61 : decode cX10_said 61 = .ok (.iinc 3 1, 3) := by decide +kernel
theorem dX10_said_64 : decode cX10_said 64 = .ok (.goto (-42), 3) := by decide +kernel
theorem dX10_said_67 : decode cX10_said 67 = .ok (.iload_n 1, 1) := by decide +kernel
theorem dX10_said_68 : decode cX10_said 68 = .ok (.iconst (-1), 1) := by decide +kernel
theorem dX10_said_69 : decode cX10_said 69 = .ok (.if_icmp .ne 7, 3) := by decide +kernel
theorem dX10_said_72 : decode cX10_said 72 = .ok (.iload_n 2, 1) := by decide +kernel
theorem dX10_said_73 : decode cX10_said 73 = .ok (.goto 4, 3) := by decide +kernel
theorem dX10_said_76 : decode cX10_said 76 = .ok (.iconst (-1), 1) := by decide +kernel
theorem dX10_said_77 : decode cX10_said 77 = .ok (.ireturn, 1) := by decide +kernel
theorem rl_25 : RI 25 25 25 := by unfold RI; decide +kernel
theorem rl_69 : RI 69 69 69 := by unfold RI; decide +kernel
theorem rl_70 : RI 70 70 70 := by unfold RI; decide +kernel
theorem rl_71 : RI 71 71 71 := by unfold RI; decide +kernel
theorem rl_72 : RI 72 72 72 := by unfold RI; decide +kernel
theorem rl_73 : RI 73 73 73 := by unfold RI; decide +kernel
theorem rl_172 : RI 172 172 172 := by unfold RI; decide +kernel
theorem rl_173 : RI 173 173 173 := by unfold RI; decide +kernel
theorem rl_174 : RI 174 174 174 := by unfold RI; decide +kernel
