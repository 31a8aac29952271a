theorem kc_b7 : (Int8.ofInt 7).toInt32 = 7 := by decide +kernel
theorem dL_law_189 : decode cL_law 189 = .ok (.iconst 5, 1) := by decide +kernel
theorem dL_law_190 : decode cL_law 190 = .ok (.aload_n 1, 1) := by decide +kernel
theorem dL_law_191 : decode cL_law 191 = .ok (.iconst 0, 1) := by decide +kernel
theorem dL_law_192 : decode cL_law 192 = .ok (.iconst 1, 1) := by decide +kernel
theorem dL_law_193 : decode cL_law 193 = .ok (.invokevirtual 114, 3) := by decide +kernel
theorem dL_law_196 : decode cL_law 196 = .ok (.imul, 1) := by decide +kernel
theorem dL_law_197 : decode cL_law 197 = .ok (.iconst 2, 1) := by decide +kernel
theorem dL_law_198 : decode cL_law 198 = .ok (.aload_n 1, 1) := by decide +kernel
theorem dL_law_199 : decode cL_law 199 = .ok (.iconst 1, 1) := by decide +kernel
theorem dL_law_200 : decode cL_law 200 = .ok (.iconst 1, 1) := by decide +kernel
theorem dL_law_201 : decode cL_law 201 = .ok (.invokevirtual 114, 3) := by decide +kernel
theorem dL_law_204 : decode cL_law 204 = .ok (.imul, 1) := by decide +kernel
theorem dL_law_205 : decode cL_law 205 = .ok (.iadd, 1) := by decide +kernel
theorem dL_law_206 : decode cL_law 206 = .ok (.istore 9, 2) := by decide +kernel
theorem dL_law_208 : decode cL_law 208 = .ok (.aload_n 1, 1) := by decide +kernel
theorem dL_law_209 : decode cL_law 209 = .ok (.bipush 7, 2) := by decide +kernel
theorem dL_law_211 : decode cL_law 211 = .ok (.invokevirtual 25, 3) := by decide +kernel
theorem dL_law_214 : decode cL_law 214 = .ok (.iload 9, 2) := by decide +kernel
theorem dL_law_216 : decode cL_law 216 = .ok (.if_icmp .ne 63, 3) := by decide +kernel
theorem dL_law_219 : decode cL_law 219 = .ok (.aload_n 1, 1) := by decide +kernel
theorem dL_law_220 : decode cL_law 220 = .ok (.iconst 0, 1) := by decide +kernel
theorem dL_law_221 : decode cL_law 221 = .ok (.iconst 4, 1) := by decide +kernel
theorem dL_law_222 : decode cL_law 222 = .ok (.invokevirtual 117, 3) := by decide +kernel
theorem dL_law_225 : decode cL_law 225 = .ok (.aload_n 1, 1) := by decide +kernel
theorem dL_law_226 : decode cL_law 226 = .ok (.iconst 1, 1) := by decide +kernel
theorem dL_law_227 : decode cL_law 227 = .ok (.iconst 4, 1) := by decide +kernel
theorem dL_law_228 : decode cL_law 228 = .ok (.invokevirtual 117, 3) := by decide +kernel
theorem dL_law_231 : decode cL_law 231 = .ok (.iadd, 1) := by decide +kernel
theorem dL_law_232 : decode cL_law 232 = .ok (.iload 9, 2) := by decide +kernel
theorem dL_law_234 : decode cL_law 234 = .ok (.if_icmp .ne 45, 3) := by decide +kernel
theorem dL_law_237 : decode cL_law 237 = .ok (.iload 9, 2) := by decide +kernel
theorem dL_law_239 : decode cL_law 239 = .ok (.iload_n 2, 1) := by decide +kernel
theorem dL_law_240 : decode cL_law 240 = .ok (.if_icmp .lt 39, 3) := by decide +kernel
theorem dL_law_243 : decode cL_law 243 = .ok (.aload_n 1, 1) := by decide +kernel
theorem dL_law_244 : decode cL_law 244 = .ok (.iconst 0, 1) := by decide +kernel
theorem dL_law_245 : decode cL_law 245 = .ok (.iconst 0, 1) := by decide +kernel
theorem dL_law_246 : decode cL_law 246 = .ok (.invokevirtual 114, 3) := by decide +kernel
theorem dL_law_249 : decode cL_law 249 = .ok (.aload_n 1, 1) := by decide +kernel
theorem dL_law_250 : decode cL_law 250 = .ok (.iconst 0, 1) := by decide +kernel
theorem dL_law_251 : decode cL_law 251 = .ok (.iconst 1, 1) := by decide +kernel
theorem dL_law_252 : decode cL_law 252 = .ok (.invokevirtual 114, 3) := by decide +kernel
theorem dL_law_255 : decode cL_law 255 = .ok (.iadd, 1) := by decide +kernel
theorem dL_law_256 : decode cL_law 256 = .ok (.bipush 7, 2) := by decide +kernel
theorem dL_law_258 : decode cL_law 258 = .ok (.if_icmp .ne 21, 3) := by decide +kernel
theorem dL_law_261 : decode cL_law 261 = .ok (.aload_n 1, 1) := by decide +kernel
theorem dL_law_262 : decode cL_law 262 = .ok (.iconst 1, 1) := by decide +kernel
theorem dL_law_263 : decode cL_law 263 = .ok (.iconst 0, 1) := by decide +kernel
theorem dL_law_264 : decode cL_law 264 = .ok (.invokevirtual 114, 3) := by decide +kernel
theorem dL_law_267 : decode cL_law 267 = .ok (.aload_n 1, 1) := by decide +kernel
theorem dL_law_268 : decode cL_law 268 = .ok (.iconst 1, 1) := by decide +kernel
theorem dL_law_269 : decode cL_law 269 = .ok (.iconst 1, 1) := by decide +kernel
theorem dL_law_270 : decode cL_law 270 = .ok (.invokevirtual 114, 3) := by decide +kernel
theorem dL_law_273 : decode cL_law 273 = .ok (.iadd, 1) := by decide +kernel
theorem dL_law_274 : decode cL_law 274 = .ok (.bipush 20, 2) := by decide +kernel
theorem dL_law_276 : decode cL_law 276 = .ok (.if_icmp .eq 5, 3) := by decide +kernel
theorem dL_law_281 : decode cL_law 281 = .ok (.iload 9, 2) := by decide +kernel
theorem dL_law_283 : decode cL_law 283 = .ok (.istore_n 2, 1) := by decide +kernel
theorem dL_law_284 : decode cL_law 284 = .ok (.iconst 0, 1) := by decide +kernel
theorem dL_law_285 : decode cL_law 285 = .ok (.istore 10, 2) := by decide +kernel
theorem dL_law_287 : decode cL_law 287 = .ok (.iload 10, 2) := by decide +kernel
theorem dL_law_289 : decode cL_law 289 = .ok (.iconst 2, 1) := by decide +kernel
theorem dL_law_290 : decode cL_law 290 = .ok (.if_icmp .ge 88, 3) := by decide +kernel
theorem dL_law_293 : decode cL_law 293 = .ok (.aload_n 1, 1) := by decide +kernel
theorem dL_law_294 : decode cL_law 294 = .ok (.iload 10, 2) := by decide +kernel
theorem dL_law_296 : decode cL_law 296 = .ok (.iconst 3, 1) := by decide +kernel
theorem dL_law_297 : decode cL_law 297 = .ok (.invokevirtual 117, 3) := by decide +kernel
theorem dL_law_300 : decode cL_law 300 = .ok (.ifCond .lt 70, 3) := by decide +kernel
theorem dL_law_303 : decode cL_law 303 = .ok (.aload_n 1, 1) := by decide +kernel
theorem dL_law_304 : decode cL_law 304 = .ok (.iload 10, 2) := by decide +kernel
theorem dL_law_306 : decode cL_law 306 = .ok (.iconst 3, 1) := by decide +kernel
theorem dL_law_307 : decode cL_law 307 = .ok (.invokevirtual 117, 3) := by decide +kernel
theorem dL_law_310 : decode cL_law 310 = .ok (.bipush 60, 2) := by decide +kernel
theorem dL_law_312 : decode cL_law 312 = .ok (.if_icmp .gt 58, 3) := by decide +kernel
theorem dL_law_315 : decode cL_law 315 = .ok (.aload_n 1, 1) := by decide +kernel
theorem dL_law_316 : decode cL_law 316 = .ok (.iload 10, 2) := by decide +kernel
theorem dL_law_318 : decode cL_law 318 = .ok (.iconst 3, 1) := by decide +kernel
theorem dL_law_319 : decode cL_law 319 = .ok (.invokevirtual 120, 3) := by decide +kernel
theorem dL_law_322 : decode cL_law 322 = .ok (.aload_n 1, 1) := by decide +kernel
theorem dL_law_323 : decode cL_law 323 = .ok (.iload 10, 2) := by decide +kernel
theorem dL_law_325 : decode cL_law 325 = .ok (.iconst 0, 1) := by decide +kernel
theorem dL_law_326 : decode cL_law 326 = .ok (.invokevirtual 120, 3) := by decide +kernel
theorem dL_law_329 : decode cL_law 329 = .ok (.if_icmp .gt 41, 3) := by decide +kernel
theorem dL_law_332 : decode cL_law 332 = .ok (.aload_n 1, 1) := by decide +kernel
theorem dL_law_333 : decode cL_law 333 = .ok (.iload 10, 2) := by decide +kernel
theorem dL_law_335 : decode cL_law 335 = .ok (.bipush 6, 2) := by decide +kernel
theorem dL_law_337 : decode cL_law 337 = .ok (.invokevirtual 117, 3) := by decide +kernel
theorem dL_law_340 : decode cL_law 340 = .ok (.aload_n 1, 1) := by decide +kernel
theorem dL_law_341 : decode cL_law 341 = .ok (.iconst 0, 1) := by decide +kernel
theorem dL_law_342 : decode cL_law 342 = .ok (.iconst 3, 1) := by decide +kernel
theorem dL_law_343 : decode cL_law 343 = .ok (.invokevirtual 120, 3) := by decide +kernel
theorem dL_law_346 : decode cL_law 346 = .ok (.aload_n 1, 1) := by decide +kernel
theorem dL_law_347 : decode cL_law 347 = .ok (.iconst 1, 1) := by decide +kernel
theorem dL_law_348 : decode cL_law 348 = .ok (.iconst 3, 1) := by decide +kernel
theorem dL_law_349 : decode cL_law 349 = .ok (.invokevirtual 120, 3) := by decide +kernel
theorem dL_law_352 : decode cL_law 352 = .ok (.invokestatic 123, 3) := by decide +kernel
theorem dL_law_355 : decode cL_law 355 = .ok (.if_icmp .gt 15, 3) := by decide +kernel
theorem dL_law_358 : decode cL_law 358 = .ok (.aload_n 1, 1) := by decide +kernel
theorem dL_law_359 : decode cL_law 359 = .ok (.iload 10, 2) := by decide +kernel
theorem dL_law_361 : decode cL_law 361 = .ok (.bipush 8, 2) := by decide +kernel
theorem dL_law_363 : decode cL_law 363 = .ok (.invokevirtual 117, 3) := by decide +kernel
theorem dL_law_366 : decode cL_law 366 = .ok (.iconst 2, 1) := by decide +kernel
theorem dL_law_367 : decode cL_law 367 = .ok (.if_icmp .le 5, 3) := by decide +kernel
theorem dL_law_372 : decode cL_law 372 = .ok (.iinc 10 1, 3) := by decide +kernel
theorem dL_law_375 : decode cL_law 375 = .ok (.goto (-88), 3) := by decide +kernel
theorem dL_law_378 : decode cL_law 378 = .ok (.aload_n 1, 1) := by decide +kernel
theorem dL_law_379 : decode cL_law 379 = .ok (.iconst 0, 1) := by decide +kernel
theorem dL_law_380 : decode cL_law 380 = .ok (.iconst 5, 1) := by decide +kernel
theorem dL_law_381 : decode cL_law 381 = .ok (.invokevirtual 117, 3) := by decide +kernel
theorem dL_law_384 : decode cL_law 384 = .ok (.aload_n 1, 1) := by decide +kernel
theorem dL_law_385 : decode cL_law 385 = .ok (.iconst 1, 1) := by decide +kernel
theorem dL_law_386 : decode cL_law 386 = .ok (.iconst 5, 1) := by decide +kernel
theorem dL_law_387 : decode cL_law 387 = .ok (.invokevirtual 117, 3) := by decide +kernel
theorem dL_law_390 : decode cL_law 390 = .ok (.iadd, 1) := by decide +kernel
theorem dL_law_391 : decode cL_law 391 = .ok (.aload_n 1, 1) := by decide +kernel
theorem dL_law_392 : decode cL_law 392 = .ok (.iconst 5, 1) := by decide +kernel
theorem dL_law_393 : decode cL_law 393 = .ok (.invokevirtual 25, 3) := by decide +kernel
theorem dL_law_396 : decode cL_law 396 = .ok (.if_icmp .ne 67, 3) := by decide +kernel
theorem dL_law_399 : decode cL_law 399 = .ok (.aload_n 1, 1) := by decide +kernel
theorem dL_law_400 : decode cL_law 400 = .ok (.iconst 0, 1) := by decide +kernel
theorem dL_law_401 : decode cL_law 401 = .ok (.iconst 4, 1) := by decide +kernel
theorem dL_law_402 : decode cL_law 402 = .ok (.invokevirtual 120, 3) := by decide +kernel
theorem dL_law_405 : decode cL_law 405 = .ok (.aload_n 1, 1) := by decide +kernel
theorem dL_law_406 : decode cL_law 406 = .ok (.iconst 1, 1) := by decide +kernel
theorem dL_law_407 : decode cL_law 407 = .ok (.iconst 4, 1) := by decide +kernel
theorem dL_law_408 : decode cL_law 408 = .ok (.invokevirtual 120, 3) := by decide +kernel
theorem dL_law_411 : decode cL_law 411 = .ok (.iadd, 1) := by decide +kernel
theorem dL_law_412 : decode cL_law 412 = .ok (.aload_n 1, 1) := by decide +kernel
theorem dL_law_413 : decode cL_law 413 = .ok (.iconst 5, 1) := by decide +kernel
theorem dL_law_414 : decode cL_law 414 = .ok (.invokevirtual 25, 3) := by decide +kernel
theorem dL_law_417 : decode cL_law 417 = .ok (.if_icmp .ne 46, 3) := by decide +kernel
theorem dL_law_420 : decode cL_law 420 = .ok (.aload_n 1, 1) := by decide +kernel
theorem dL_law_421 : decode cL_law 421 = .ok (.iconst 0, 1) := by decide +kernel
theorem dL_law_422 : decode cL_law 422 = .ok (.bipush 7, 2) := by decide +kernel
theorem dL_law_424 : decode cL_law 424 = .ok (.invokevirtual 117, 3) := by decide +kernel
theorem dL_law_427 : decode cL_law 427 = .ok (.aload_n 1, 1) := by decide +kernel
theorem dL_law_428 : decode cL_law 428 = .ok (.iconst 1, 1) := by decide +kernel
theorem dL_law_429 : decode cL_law 429 = .ok (.bipush 7, 2) := by decide +kernel
theorem dL_law_431 : decode cL_law 431 = .ok (.invokevirtual 117, 3) := by decide +kernel
theorem dL_law_434 : decode cL_law 434 = .ok (.iadd, 1) := by decide +kernel
theorem dL_law_435 : decode cL_law 435 = .ok (.aload_n 1, 1) := by decide +kernel
theorem dL_law_436 : decode cL_law 436 = .ok (.bipush 6, 2) := by decide +kernel
theorem dL_law_438 : decode cL_law 438 = .ok (.invokevirtual 25, 3) := by decide +kernel
theorem dL_law_441 : decode cL_law 441 = .ok (.if_icmp .ne 22, 3) := by decide +kernel
theorem dL_law_444 : decode cL_law 444 = .ok (.aload_n 1, 1) := by decide +kernel
theorem dL_law_445 : decode cL_law 445 = .ok (.bipush 8, 2) := by decide +kernel
theorem dL_law_447 : decode cL_law 447 = .ok (.invokevirtual 25, 3) := by decide +kernel
theorem dL_law_450 : decode cL_law 450 = .ok (.bipush 10, 2) := by decide +kernel
theorem dL_law_452 : decode cL_law 452 = .ok (.aload_n 1, 1) := by decide +kernel
theorem dL_law_453 : decode cL_law 453 = .ok (.iconst 5, 1) := by decide +kernel
theorem dL_law_454 : decode cL_law 454 = .ok (.invokevirtual 25, 3) := by decide +kernel
theorem dL_law_457 : decode cL_law 457 = .ok (.invokestatic 128, 3) := by decide +kernel
theorem dL_law_460 : decode cL_law 460 = .ok (.if_icmp .eq 5, 3) := by decide +kernel
theorem dL_law_465 : decode cL_law 465 = .ok (.iinc 3 1, 3) := by decide +kernel
theorem dL_law_468 : decode cL_law 468 = .ok (.goto (-444), 3) := by decide +kernel
/-! the law: what it asks behind each step -/
section Kr
variable {G : Gp} {S : AMem} {I : Nat → Nat → Int32} {J : Nat → Nat → Int64} {R : Nat → Nat → Option Nat} {x : Nat} {E : Tp} {B : BS} {m : MS} {er : Int32} {p q : Int32}
theorem two_in {n : Nat} (i : Nat) (hp : p = nI i) (hi : i < 2) (hn : n = 2) : 0 ≤ p ∧ p < nI n := by
  subst hp
  subst hn
  exact k_inr hi (by decide)
theorem kr_prize (i w : Nat) (hp : p = nI i) (hq : q = nI w) (hi : i < 2) (hw : w < 2) (hG : okG G) (hB : BF B) (h : XW kwK S x (E, B, m, er) I J R) : Fn G mX11_prize 6 [vR x, vI p, vI q] (mw S I J R) (FQ S x (vI (m.prize i w)) (E, B, m, er)) := by
  have k := kf_prize (i := p) (w := q) hG h (two_in i hp hi hB.1.2.2.1) (by subst hq; exact ⟨nI_pos' (by omega), nI_le (b := 3) (by omega) (by decide)⟩)
  subst hp
  subst hq
  rw [nI_clamp (by omega), nI_clamp (by omega)] at k
  have e : tlP B m i w = m.prize i w := by
    unfold tlP
    rw [if_neg (by omega), if_neg (by omega)]
  rw [show tlP (XS.B (E, B, m, er)) (XS.m (E, B, m, er)) i w = m.prize i w from e] at k
  exact k
theorem kr_rail (i w : Nat) (hp : p = nI i) (hq : q = nI w) (hi : i < 2) (hw : w < 5) (hG : okG G) (hB : BF B) (h : XW kwK S x (E, B, m, er) I J R) : Fn G mX11_rail 6 [vR x, vI p, vI q] (mw S I J R) (FQ S x (vI (m.rail i w)) (E, B, m, er)) := by
  have k := kf_rail (i := p) (w := q) hG h (two_in i hp hi hB.1.1) (by subst hq; exact ⟨nI_pos' (by omega), nI_le (b := 4) (by omega) (by decide)⟩)
  subst hp
  subst hq
  rw [nI_clamp (by omega), nI_clamp (by omega)] at k
  exact k
theorem kr_fist (i w : Nat) (hp : p = nI i) (hq : q = nI w) (hi : i < 2) (hw : w < 8) (hG : okG G) (hB : BF B) (h : XW kwK S x (E, B, m, er) I J R) : Fn G mX11_fist 6 [vR x, vI p, vI q] (mw S I J R) (FQ S x (vI (m.fist i w)) (E, B, m, er)) := by
  have k := kf_fist (i := p) (w := q) hG h (two_in i hp hi hB.1.2.1) (by subst hq; exact ⟨nI_pos' (by omega), nI_le (b := 8) (by omega) (by decide)⟩)
  subst hp
  subst hq
  rw [nI_clamp (by omega), nI_clamp (by omega)] at k
  have e : tlF B m i w = m.fist i w := by
    unfold tlF
    rw [if_neg (by omega)]
  rw [show tlF (XS.B (E, B, m, er)) (XS.m (E, B, m, er)) i w = m.fist i w from e] at k
  exact k
theorem kr_place (i : Nat) (hp : p = nI i) (hi : i < 2) (hG : okG G) (hB : BF B) (h : XW kwK S x (E, B, m, er) I J R) : Fn G mX11_fist 6 [vR x, vI p, vI 8] (mw S I J R) (FQ S x (vI (plcM B m (m.fist i 4))) (E, B, m, er)) := by
  have k := kf_fist (i := p) (w := 8) hG h (two_in i hp hi hB.1.2.1) (by decide)
  subst hp
  rw [nI_clamp (by omega), show (8 : Int32).toNatClampNeg = 8 by decide] at k
  exact k
theorem kr_c7 (hG : okG G) (h : XW kwK S x (E, B, m, er) I J R) : Fn G mX11_count 6 [vR x, vI 7] (mw S I J R) (FQ S x (vI (pursM B m)) (E, B, m, er)) := by
  have k := kf_count (w := 7) hG h (by decide)
  rw [show (7 : Int32).toNatClampNeg = 7 by decide, if_neg (by decide)] at k
  exact k
theorem kr_c5 (hG : okG G) (h : XW kwK S x (E, B, m, er) I J R) : Fn G mX11_count 6 [vR x, vI 5] (mw S I J R) (FQ S x (vI (m.g 3)) (E, B, m, er)) := by
  have k := kf_count (w := 5) hG h (by decide)
  rw [show (5 : Int32).toNatClampNeg = 5 by decide, if_neg (by decide)] at k
  exact k
theorem kr_c6 (hG : okG G) (h : XW kwK S x (E, B, m, er) I J R) : Fn G mX11_count 6 [vR x, vI 6] (mw S I J R) (FQ S x (vI (m.g 4)) (E, B, m, er)) := by
  have k := kf_count (w := 6) hG h (by decide)
  rw [show (6 : Int32).toNatClampNeg = 6 by decide, if_neg (by decide)] at k
  exact k
theorem kr_c8 (hG : okG G) (h : XW kwK S x (E, B, m, er) I J R) : Fn G mX11_count 6 [vR x, vI 8] (mw S I J R) (FQ S x (vI (nI m.nb)) (E, B, m, er)) := by
  have k := kf_count (w := 8) hG h (by decide)
  rw [show (8 : Int32).toNatClampNeg = 8 by decide, if_neg (by decide)] at k
  exact k
end Kr
theorem nI_mul (a b : Nat) : nI a * nI b = nI (a * b) := (Int32.ofNat_mul a b).symm
section Tl
variable {G : Gp} {S : AMem} {I : Nat → Nat → Int32} {J : Nat → Nat → Int64} {R : Nat → Nat → Option Nat} {x : Nat} {E : Tp} {B : BS} {m : MS} {er : Int32} {n a b0 hd : Nat} {b : Nat} {o3 o4 o5 o6 o7 o8 o9 o10 : Option AV} {gv nv : Int32} {Q : (Option AV ⊕ Nat) → AMem → Prop}
/-- of one fist and one rail -/
theorem kt_in {k : Nat} (hk : k < 2) (hG : okG G) (hB : BF B) (hI : Iv m n a b) (h : XW kwK S x (E, B, m, er) I J R) (K : ∀ I1 J1 R1, XW kwK S x (E, B, m, er) I1 J1 R1 → MW G mL_law 2046 287 [some (vR b0), some (vR x), some (vI (nI hd)), o3, o4, o5, o6, o7, o8, some (vI gv), some (vI (nI (k + 1)))] [] (mw S I1 J1 R1) Q) : MW G mL_law 2046 287 [some (vR b0), some (vR x), some (vI (nI hd)), o3, o4, o5, o6, o7, o8, some (vI gv), some (vI (nI k))] [] (mw S I J R) Q := by
  have kx := h.kx
  obtain ⟨-, -, -, -, -, -, i1, i2, i3, i4, i5⟩ := hI
  obtain ⟨z, z1, z2⟩ := i1 k hk
  have c1 : ¬ m.fist k 3 < 0 := by
    rw [z2]
    exact nI_pos (by omega)
  have c2 : ¬ 60 < m.fist k 3 := by
    rw [z2]
    exact nI_nlt (b := z) (a := 60) z1 (by decide)
  have c3 : ¬ m.rail k 0 < m.rail k 3 := Int32.not_lt.mpr (i2 k hk).1
  have c4 : ¬ (if m.rail 0 3 < m.rail 1 3 then m.rail 1 3 else m.rail 0 3) < m.fist k 6 := by
    refine Int32.not_lt.mpr ?_
    rcases i3 k hk with q | q
    · exact Int32.le_trans q (mx_l _ _)
    · exact Int32.le_trans q (mx_r _ _)
  refine am_iload (q := 289) dL_law_287 rfl rfl ?_
  refine am_iconst (q := 290) (v := 2) dL_law_289 kc_i2 rfl ?_
  refine am_icmp_ge (tgt := 378) (q := 293) dL_law_290 rfl rfl (fun hz => absurd hz (nI_ge hk (by decide))) (fun _ => ?_)
  refine am_aload_n (q := 294) dL_law_293 rfl rfl ?_
  refine am_iload (q := 296) dL_law_294 rfl rfl ?_
  refine am_iconst (q := 297) (v := 3) dL_law_296 kc_i3 rfl ?_
  refine cm_call0 (q := 300) (As := [_, _]) hG dL_law_297 mlL_117 rfl (by assumption) ⟨_, _, rfl⟩ (Nat.le_of_ble_eq_true rfl) (Nat.le_of_ble_eq_true rfl) (Nat.le_of_ble_eq_true rfl) (Nat.le_of_ble_eq_true rfl) (kr_fist k 3 rfl rfl hk (by decide) hG hB h) rfl ?_
  rintro _ _ ⟨rfl, I1, J1, R1, rfl, h1⟩
  refine am_if_lt (tgt := 370) (q := 303) dL_law_300 rfl rfl (fun hz => absurd hz c1) (fun _ => ?_)
  refine am_aload_n (q := 304) dL_law_303 rfl rfl ?_
  refine am_iload (q := 306) dL_law_304 rfl rfl ?_
  refine am_iconst (q := 307) (v := 3) dL_law_306 kc_i3 rfl ?_
  refine cm_call0 (q := 310) (As := [_, _]) hG dL_law_307 mlL_117 rfl (by assumption) ⟨_, _, rfl⟩ (Nat.le_of_ble_eq_true rfl) (Nat.le_of_ble_eq_true rfl) (Nat.le_of_ble_eq_true rfl) (Nat.le_of_ble_eq_true rfl) (kr_fist k 3 rfl rfl hk (by decide) hG hB h1) rfl ?_
  rintro _ _ ⟨rfl, I2, J2, R2, rfl, h2⟩
  refine am_bipush (q := 312) (v := 60) dL_law_310 kc_b60 rfl ?_
  refine am_icmp_gt (tgt := 370) (q := 315) dL_law_312 rfl rfl (fun hz => absurd hz c2) (fun _ => ?_)
  refine am_aload_n (q := 316) dL_law_315 rfl rfl ?_
  refine am_iload (q := 318) dL_law_316 rfl rfl ?_
  refine am_iconst (q := 319) (v := 3) dL_law_318 kc_i3 rfl ?_
  refine cm_call0 (q := 322) (As := [_, _]) hG dL_law_319 mlL_120 rfl (by assumption) ⟨_, _, rfl⟩ (Nat.le_of_ble_eq_true rfl) (Nat.le_of_ble_eq_true rfl) (Nat.le_of_ble_eq_true rfl) (Nat.le_of_ble_eq_true rfl) (kr_rail k 3 rfl rfl hk (by decide) hG hB h2) rfl ?_
  rintro _ _ ⟨rfl, I3, J3, R3, rfl, h3⟩
  refine am_aload_n (q := 323) dL_law_322 rfl rfl ?_
  refine am_iload (q := 325) dL_law_323 rfl rfl ?_
  refine am_iconst (q := 326) (v := 0) dL_law_325 kc_i0 rfl ?_
  refine cm_call0 (q := 329) (As := [_, _]) hG dL_law_326 mlL_120 rfl (by assumption) ⟨_, _, rfl⟩ (Nat.le_of_ble_eq_true rfl) (Nat.le_of_ble_eq_true rfl) (Nat.le_of_ble_eq_true rfl) (Nat.le_of_ble_eq_true rfl) (kr_rail k 0 rfl rfl hk (by decide) hG hB h3) rfl ?_
  rintro _ _ ⟨rfl, I4, J4, R4, rfl, h4⟩
  refine am_icmp_gt (tgt := 370) (q := 332) dL_law_329 rfl rfl (fun hz => absurd hz c3) (fun _ => ?_)
  refine am_aload_n (q := 333) dL_law_332 rfl rfl ?_
  refine am_iload (q := 335) dL_law_333 rfl rfl ?_
  refine am_bipush (q := 337) (v := 6) dL_law_335 kc_b6 rfl ?_
  refine cm_call0 (q := 340) (As := [_, _]) hG dL_law_337 mlL_117 rfl (by assumption) ⟨_, _, rfl⟩ (Nat.le_of_ble_eq_true rfl) (Nat.le_of_ble_eq_true rfl) (Nat.le_of_ble_eq_true rfl) (Nat.le_of_ble_eq_true rfl) (kr_fist k 6 rfl rfl hk (by decide) hG hB h4) rfl ?_
  rintro _ _ ⟨rfl, I5, J5, R5, rfl, h5⟩
  refine am_aload_n (q := 341) dL_law_340 rfl rfl ?_
  refine am_iconst (q := 342) (v := 0) dL_law_341 kc_i0 rfl ?_
  refine am_iconst (q := 343) (v := 3) dL_law_342 kc_i3 rfl ?_
  refine cm_call0 (q := 346) (As := [_, _]) hG dL_law_343 mlL_120 rfl (by assumption) ⟨_, _, rfl⟩ (Nat.le_of_ble_eq_true rfl) (Nat.le_of_ble_eq_true rfl) (Nat.le_of_ble_eq_true rfl) (Nat.le_of_ble_eq_true rfl) (kr_rail 0 3 rfl rfl (by decide) (by decide) hG hB h5) rfl ?_
  rintro _ _ ⟨rfl, I6, J6, R6, rfl, h6⟩
  refine am_aload_n (q := 347) dL_law_346 rfl rfl ?_
  refine am_iconst (q := 348) (v := 1) dL_law_347 kc_i1 rfl ?_
  refine am_iconst (q := 349) (v := 3) dL_law_348 kc_i3 rfl ?_
  refine cm_call0 (q := 352) (As := [_, _]) hG dL_law_349 mlL_120 rfl (by assumption) ⟨_, _, rfl⟩ (Nat.le_of_ble_eq_true rfl) (Nat.le_of_ble_eq_true rfl) (Nat.le_of_ble_eq_true rfl) (Nat.le_of_ble_eq_true rfl) (kr_rail 1 3 rfl rfl (by decide) (by decide) hG hB h6) rfl ?_
  rintro _ _ ⟨rfl, I7, J7, R7, rfl, h7⟩
  refine am_mmax (q := 355) dL_law_352 (tbc5 139 rfl rfl) tb_max1 tb_math tb_max2 (Nat.le_of_ble_eq_true rfl) rfl ?_
  refine am_icmp_gt (tgt := 370) (q := 358) dL_law_355 rfl rfl (fun hz => absurd hz c4) (fun _ => ?_)
  refine am_aload_n (q := 359) dL_law_358 rfl rfl ?_
  refine am_iload (q := 361) dL_law_359 rfl rfl ?_
  refine am_bipush (q := 363) (v := 8) dL_law_361 kc_b8 rfl ?_
  refine cm_call0 (q := 366) (As := [_, _]) hG dL_law_363 mlL_117 rfl (by assumption) ⟨_, _, rfl⟩ (Nat.le_of_ble_eq_true rfl) (Nat.le_of_ble_eq_true rfl) (Nat.le_of_ble_eq_true rfl) (Nat.le_of_ble_eq_true rfl) (kr_place k rfl hk hG hB h7) rfl ?_
  rintro _ _ ⟨rfl, I8, J8, R8, rfl, h8⟩
  refine am_iconst (q := 367) (v := 2) dL_law_366 kc_i2 rfl ?_
  refine am_icmp_le (tgt := 372) (q := 370) dL_law_367 rfl rfl (fun _ => ?_) (fun hz => absurd (iv_plc hB hk) hz)
  refine am_iincW (q := 375) (ls1 := [_, _, _, _, _, _, _, _, _, _, _]) (w := 1) dL_law_372 rfl (Nat.le_of_ble_eq_true rfl) kc_i1 rfl rfl ?_
  refine am_goto (tgt := 287) dL_law_375 rfl ?_
  rw [nI_1]
  exact K _ _ _ h8
theorem fgt {p q r s t4 t5 t6 t7 t8 t9 t10 : Option AV} : [p, q, r, s, none, none, none, none, none, none, none].length = [p, q, r, s, t4, t5, t6, t7, t8, t9, t10].length ∧ ∀ (i : Nat) (v : AV), [p, q, r, s, none, none, none, none, none, none, none][i]? = some (some v) → [p, q, r, s, t4, t5, t6, t7, t8, t9, t10][i]? = some (some v) := by
  refine ⟨rfl, fun i v hv => ?_⟩
  match i, hv with
  | 0, hv => exact hv
  | 1, hv => exact hv
  | 2, hv => exact hv
  | 3, hv => exact hv
  | 4, hv => cases hv
  | 5, hv => cases hv
  | 6, hv => cases hv
  | 7, hv => cases hv
  | 8, hv => cases hv
  | 9, hv => cases hv
  | 10, hv => cases hv
  | i + 11, hv => cases hv
theorem kt_all {t : Nat} (hG : okG G) (hB : BF B) (hI : Iv m n a b) (hh : hd ≤ 5 * a + 2 * b) (h : XW kwK S x (E, B, m, er) I J R) (hn : n ≤ 1000) (K : ∀ I1 J1 R1, XW kwK S x (E, B, m, er) I1 J1 R1 → MW G mL_law 2046 24 [some (vR b0), some (vR x), some (vI (nI (5 * a + 2 * b))), some (vI (nI (t + 1))), none, none, none, none, none, none, none] [] (mw S I1 J1 R1) Q) : MW G mL_law 2046 189 [some (vR b0), some (vR x), some (vI (nI hd)), some (vI (nI t)), o4, o5, o6, o7, some (vI nv), o9, o10] [] (mw S I J R) Q := by
  have kx := h.kx
  have hI0 := hI
  have hp := iv_purs hB hI
  obtain ⟨⟨p0, p1, q1, q2, q3⟩, ⟨q4, q5, q6⟩, ⟨q7, q8, q9⟩, ⟨s0, s1, s2, s3, s4⟩, ⟨t0, t1, t2, t3, t4⟩, ⟨g1, g2, g3⟩, -⟩ := hI
  have e1 : (5 : Int32) * m.prize 0 1 + 2 * m.prize 1 1 = nI (5 * a + 2 * b) := by
    rw [q6, q9, show (5 : Int32) * nI a = nI (5 * a) from nI_mul 5 a, show (2 : Int32) * nI b = nI (2 * b) from nI_mul 2 b, nI_add]
  have e2 : m.fist 0 4 + m.fist 1 4 = nI (5 * a + 2 * b) := by rw [q1, q2, nI_add, q3]
  have e3 : m.prize 0 0 + m.prize 0 1 = 7 := by
    rw [q5, q6, nI_add, show 7 - a + a = 7 by omega]
    rfl
  have e4 : m.prize 1 0 + m.prize 1 1 = 20 := by
    rw [q8, q9, nI_add, show 20 - b + b = 20 by omega]
    rfl
  have e5 : m.fist 0 5 + m.fist 1 5 = m.g 3 := by rw [s2, s3, nI_add, s4, g1]
  have e6 : m.rail 0 4 + m.rail 1 4 = m.g 3 := by rw [t2, t3, nI_add, t4, g1]
  have e7 : nI m.nb = if m.g 3 < 10 then m.g 3 else 10 := by
    rw [g3, g1]
    by_cases c : n < 10
    · have c2 : nI n < 10 := nI_lt (b := 10) c (by decide)
      rw [if_pos c2, show min n 10 = n by omega]
    · have c2 : ¬ nI n < 10 := nI_nlt (b := 10) (by omega) (by omega)
      rw [if_neg c2, show min n 10 = 10 by omega]
      rfl
  refine am_iconst (q := 190) (v := 5) dL_law_189 kc_i5 rfl ?_
  refine am_aload_n (q := 191) dL_law_190 rfl rfl ?_
  refine am_iconst (q := 192) (v := 0) dL_law_191 kc_i0 rfl ?_
  refine am_iconst (q := 193) (v := 1) dL_law_192 kc_i1 rfl ?_
  refine cm_call0 (q := 196) (As := [_, _]) hG dL_law_193 mlL_114 rfl (by assumption) ⟨_, _, rfl⟩ (Nat.le_of_ble_eq_true rfl) (Nat.le_of_ble_eq_true rfl) (Nat.le_of_ble_eq_true rfl) (Nat.le_of_ble_eq_true rfl) (kr_prize 0 1 rfl rfl (by decide) (by decide) hG hB h) rfl ?_
  rintro _ _ ⟨rfl, I1, J1, R1, rfl, h1⟩
  refine am_imul (q := 197) dL_law_196 rfl ?_
  refine am_iconst (q := 198) (v := 2) dL_law_197 kc_i2 rfl ?_
  refine am_aload_n (q := 199) dL_law_198 rfl rfl ?_
  refine am_iconst (q := 200) (v := 1) dL_law_199 kc_i1 rfl ?_
  refine am_iconst (q := 201) (v := 1) dL_law_200 kc_i1 rfl ?_
  refine cm_call0 (q := 204) (As := [_, _]) hG dL_law_201 mlL_114 rfl (by assumption) ⟨_, _, rfl⟩ (Nat.le_of_ble_eq_true rfl) (Nat.le_of_ble_eq_true rfl) (Nat.le_of_ble_eq_true rfl) (Nat.le_of_ble_eq_true rfl) (kr_prize 1 1 rfl rfl (by decide) (by decide) hG hB h1) rfl ?_
  rintro _ _ ⟨rfl, I2, J2, R2, rfl, h2⟩
  refine am_imul (q := 205) dL_law_204 rfl ?_
  refine am_iadd (q := 206) dL_law_205 rfl ?_
  rw [e1]
  have c7 := kr_c7 hG h2
  rw [hp] at c7
  refine am_istore (q := 208) (ls1 := [_, _, _, _, _, _, _, _, _, _, _]) dL_law_206 (Nat.le_of_ble_eq_true rfl) rfl rfl ?_
  refine am_aload_n (q := 209) dL_law_208 rfl rfl ?_
  refine am_bipush (q := 211) (v := 7) dL_law_209 kc_b7 rfl ?_
  refine cm_call0 (q := 214) (As := [_]) hG dL_law_211 mlL_25 rfl (by assumption) ⟨_, _, rfl⟩ (Nat.le_of_ble_eq_true rfl) (Nat.le_of_ble_eq_true rfl) (Nat.le_of_ble_eq_true rfl) (Nat.le_of_ble_eq_true rfl) c7 rfl ?_
  rintro _ _ ⟨rfl, I3, J3, R3, rfl, h3⟩
  refine am_iload (q := 216) dL_law_214 rfl rfl ?_
  refine am_icmp_ne (tgt := 279) (q := 219) dL_law_216 rfl rfl (fun hz => absurd rfl hz) (fun _ => ?_)
  refine am_aload_n (q := 220) dL_law_219 rfl rfl ?_
  refine am_iconst (q := 221) (v := 0) dL_law_220 kc_i0 rfl ?_
  refine am_iconst (q := 222) (v := 4) dL_law_221 kc_i4 rfl ?_
  refine cm_call0 (q := 225) (As := [_, _]) hG dL_law_222 mlL_117 rfl (by assumption) ⟨_, _, rfl⟩ (Nat.le_of_ble_eq_true rfl) (Nat.le_of_ble_eq_true rfl) (Nat.le_of_ble_eq_true rfl) (Nat.le_of_ble_eq_true rfl) (kr_fist 0 4 rfl rfl (by decide) (by decide) hG hB h3) rfl ?_
  rintro _ _ ⟨rfl, I4, J4, R4, rfl, h4⟩
  refine am_aload_n (q := 226) dL_law_225 rfl rfl ?_
  refine am_iconst (q := 227) (v := 1) dL_law_226 kc_i1 rfl ?_
  refine am_iconst (q := 228) (v := 4) dL_law_227 kc_i4 rfl ?_
  refine cm_call0 (q := 231) (As := [_, _]) hG dL_law_228 mlL_117 rfl (by assumption) ⟨_, _, rfl⟩ (Nat.le_of_ble_eq_true rfl) (Nat.le_of_ble_eq_true rfl) (Nat.le_of_ble_eq_true rfl) (Nat.le_of_ble_eq_true rfl) (kr_fist 1 4 rfl rfl (by decide) (by decide) hG hB h4) rfl ?_
  rintro _ _ ⟨rfl, I5, J5, R5, rfl, h5⟩
  refine am_iadd (q := 232) dL_law_231 rfl ?_
  rw [e2]
  refine am_iload (q := 234) dL_law_232 rfl rfl ?_
  refine am_icmp_ne (tgt := 279) (q := 237) dL_law_234 rfl rfl (fun hz => absurd rfl hz) (fun _ => ?_)
  refine am_iload (q := 239) dL_law_237 rfl rfl ?_
  refine am_iload_n (q := 240) dL_law_239 rfl rfl ?_
  refine am_icmp_lt (tgt := 279) (q := 243) dL_law_240 rfl rfl (fun hz => absurd hz (nI_nlt hh (by omega))) (fun _ => ?_)
  refine am_aload_n (q := 244) dL_law_243 rfl rfl ?_
  refine am_iconst (q := 245) (v := 0) dL_law_244 kc_i0 rfl ?_
  refine am_iconst (q := 246) (v := 0) dL_law_245 kc_i0 rfl ?_
  refine cm_call0 (q := 249) (As := [_, _]) hG dL_law_246 mlL_114 rfl (by assumption) ⟨_, _, rfl⟩ (Nat.le_of_ble_eq_true rfl) (Nat.le_of_ble_eq_true rfl) (Nat.le_of_ble_eq_true rfl) (Nat.le_of_ble_eq_true rfl) (kr_prize 0 0 rfl rfl (by decide) (by decide) hG hB h5) rfl ?_
  rintro _ _ ⟨rfl, I6, J6, R6, rfl, h6⟩
  refine am_aload_n (q := 250) dL_law_249 rfl rfl ?_
  refine am_iconst (q := 251) (v := 0) dL_law_250 kc_i0 rfl ?_
  refine am_iconst (q := 252) (v := 1) dL_law_251 kc_i1 rfl ?_
  refine cm_call0 (q := 255) (As := [_, _]) hG dL_law_252 mlL_114 rfl (by assumption) ⟨_, _, rfl⟩ (Nat.le_of_ble_eq_true rfl) (Nat.le_of_ble_eq_true rfl) (Nat.le_of_ble_eq_true rfl) (Nat.le_of_ble_eq_true rfl) (kr_prize 0 1 rfl rfl (by decide) (by decide) hG hB h6) rfl ?_
  rintro _ _ ⟨rfl, I7, J7, R7, rfl, h7⟩
  refine am_iadd (q := 256) dL_law_255 rfl ?_
  rw [e3]
  refine am_bipush (q := 258) (v := 7) dL_law_256 kc_b7 rfl ?_
  refine am_icmp_ne (tgt := 279) (q := 261) dL_law_258 rfl rfl (fun hz => absurd rfl hz) (fun _ => ?_)
  refine am_aload_n (q := 262) dL_law_261 rfl rfl ?_
  refine am_iconst (q := 263) (v := 1) dL_law_262 kc_i1 rfl ?_
  refine am_iconst (q := 264) (v := 0) dL_law_263 kc_i0 rfl ?_
  refine cm_call0 (q := 267) (As := [_, _]) hG dL_law_264 mlL_114 rfl (by assumption) ⟨_, _, rfl⟩ (Nat.le_of_ble_eq_true rfl) (Nat.le_of_ble_eq_true rfl) (Nat.le_of_ble_eq_true rfl) (Nat.le_of_ble_eq_true rfl) (kr_prize 1 0 rfl rfl (by decide) (by decide) hG hB h7) rfl ?_
  rintro _ _ ⟨rfl, I8, J8, R8, rfl, h8⟩
  refine am_aload_n (q := 268) dL_law_267 rfl rfl ?_
  refine am_iconst (q := 269) (v := 1) dL_law_268 kc_i1 rfl ?_
  refine am_iconst (q := 270) (v := 1) dL_law_269 kc_i1 rfl ?_
  refine cm_call0 (q := 273) (As := [_, _]) hG dL_law_270 mlL_114 rfl (by assumption) ⟨_, _, rfl⟩ (Nat.le_of_ble_eq_true rfl) (Nat.le_of_ble_eq_true rfl) (Nat.le_of_ble_eq_true rfl) (Nat.le_of_ble_eq_true rfl) (kr_prize 1 1 rfl rfl (by decide) (by decide) hG hB h8) rfl ?_
  rintro _ _ ⟨rfl, I9, J9, R9, rfl, h9⟩
  refine am_iadd (q := 274) dL_law_273 rfl ?_
  rw [e4]
  refine am_bipush (q := 276) (v := 20) dL_law_274 kc_b20 rfl ?_
  refine am_icmp_eq (tgt := 281) (q := 279) dL_law_276 rfl rfl (fun _ => ?_) (fun hz => absurd rfl hz)
  refine am_iload (q := 283) dL_law_281 rfl rfl ?_
  refine am_istore_n (q := 284) (ls1 := [_, _, _, _, _, _, _, _, _, _, _]) dL_law_283 (Nat.le_of_ble_eq_true rfl) rfl rfl ?_
  refine am_iconst (q := 285) (v := 0) dL_law_284 kc_i0 rfl ?_
  refine am_istore (q := 287) (ls1 := [_, _, _, _, _, _, _, _, _, _, _]) dL_law_285 (Nat.le_of_ble_eq_true rfl) rfl rfl ?_
  refine kt_in (k := 0) (by decide) hG hB hI0 h9 (fun Ia Ja Ra ha => ?_)
  refine kt_in (k := 1) (by decide) hG hB hI0 ha (fun Ib Jb Rb hb => ?_)
  refine am_iload (q := 289) dL_law_287 rfl rfl ?_
  refine am_iconst (q := 290) (v := 2) dL_law_289 kc_i2 rfl ?_
  refine am_icmp_ge (tgt := 378) (q := 293) dL_law_290 rfl rfl (fun _ => ?_) (fun hz => absurd (Int32.le_refl _) hz)
  refine am_aload_n (q := 379) dL_law_378 rfl rfl ?_
  refine am_iconst (q := 380) (v := 0) dL_law_379 kc_i0 rfl ?_
  refine am_iconst (q := 381) (v := 5) dL_law_380 kc_i5 rfl ?_
  refine cm_call0 (q := 384) (As := [_, _]) hG dL_law_381 mlL_117 rfl (by assumption) ⟨_, _, rfl⟩ (Nat.le_of_ble_eq_true rfl) (Nat.le_of_ble_eq_true rfl) (Nat.le_of_ble_eq_true rfl) (Nat.le_of_ble_eq_true rfl) (kr_fist 0 5 rfl rfl (by decide) (by decide) hG hB hb) rfl ?_
  rintro _ _ ⟨rfl, Ic, Jc, Rc, rfl, hc⟩
  refine am_aload_n (q := 385) dL_law_384 rfl rfl ?_
  refine am_iconst (q := 386) (v := 1) dL_law_385 kc_i1 rfl ?_
  refine am_iconst (q := 387) (v := 5) dL_law_386 kc_i5 rfl ?_
  refine cm_call0 (q := 390) (As := [_, _]) hG dL_law_387 mlL_117 rfl (by assumption) ⟨_, _, rfl⟩ (Nat.le_of_ble_eq_true rfl) (Nat.le_of_ble_eq_true rfl) (Nat.le_of_ble_eq_true rfl) (Nat.le_of_ble_eq_true rfl) (kr_fist 1 5 rfl rfl (by decide) (by decide) hG hB hc) rfl ?_
  rintro _ _ ⟨rfl, Id, Jd, Rd, rfl, hd1⟩
  refine am_iadd (q := 391) dL_law_390 rfl ?_
  rw [e5]
  refine am_aload_n (q := 392) dL_law_391 rfl rfl ?_
  refine am_iconst (q := 393) (v := 5) dL_law_392 kc_i5 rfl ?_
  refine cm_call0 (q := 396) (As := [_]) hG dL_law_393 mlL_25 rfl (by assumption) ⟨_, _, rfl⟩ (Nat.le_of_ble_eq_true rfl) (Nat.le_of_ble_eq_true rfl) (Nat.le_of_ble_eq_true rfl) (Nat.le_of_ble_eq_true rfl) (kr_c5 hG hd1) rfl ?_
  rintro _ _ ⟨rfl, Ie, Je, Re, rfl, he⟩
  refine am_icmp_ne (tgt := 463) (q := 399) dL_law_396 rfl rfl (fun hz => absurd rfl hz) (fun _ => ?_)
  refine am_aload_n (q := 400) dL_law_399 rfl rfl ?_
  refine am_iconst (q := 401) (v := 0) dL_law_400 kc_i0 rfl ?_
  refine am_iconst (q := 402) (v := 4) dL_law_401 kc_i4 rfl ?_
  refine cm_call0 (q := 405) (As := [_, _]) hG dL_law_402 mlL_120 rfl (by assumption) ⟨_, _, rfl⟩ (Nat.le_of_ble_eq_true rfl) (Nat.le_of_ble_eq_true rfl) (Nat.le_of_ble_eq_true rfl) (Nat.le_of_ble_eq_true rfl) (kr_rail 0 4 rfl rfl (by decide) (by decide) hG hB he) rfl ?_
  rintro _ _ ⟨rfl, If, Jf, Rf, rfl, hf⟩
  refine am_aload_n (q := 406) dL_law_405 rfl rfl ?_
  refine am_iconst (q := 407) (v := 1) dL_law_406 kc_i1 rfl ?_
  refine am_iconst (q := 408) (v := 4) dL_law_407 kc_i4 rfl ?_
  refine cm_call0 (q := 411) (As := [_, _]) hG dL_law_408 mlL_120 rfl (by assumption) ⟨_, _, rfl⟩ (Nat.le_of_ble_eq_true rfl) (Nat.le_of_ble_eq_true rfl) (Nat.le_of_ble_eq_true rfl) (Nat.le_of_ble_eq_true rfl) (kr_rail 1 4 rfl rfl (by decide) (by decide) hG hB hf) rfl ?_
  rintro _ _ ⟨rfl, Ig, Jg, Rg, rfl, hg⟩
  refine am_iadd (q := 412) dL_law_411 rfl ?_
  rw [e6]
  refine am_aload_n (q := 413) dL_law_412 rfl rfl ?_
  refine am_iconst (q := 414) (v := 5) dL_law_413 kc_i5 rfl ?_
  refine cm_call0 (q := 417) (As := [_]) hG dL_law_414 mlL_25 rfl (by assumption) ⟨_, _, rfl⟩ (Nat.le_of_ble_eq_true rfl) (Nat.le_of_ble_eq_true rfl) (Nat.le_of_ble_eq_true rfl) (Nat.le_of_ble_eq_true rfl) (kr_c5 hG hg) rfl ?_
  rintro _ _ ⟨rfl, Ih, Jh, Rh, rfl, hq⟩
  refine am_icmp_ne (tgt := 463) (q := 420) dL_law_417 rfl rfl (fun hz => absurd rfl hz) (fun _ => ?_)
  refine am_aload_n (q := 421) dL_law_420 rfl rfl ?_
  refine am_iconst (q := 422) (v := 0) dL_law_421 kc_i0 rfl ?_
  refine am_bipush (q := 424) (v := 7) dL_law_422 kc_b7 rfl ?_
  refine cm_call0 (q := 427) (As := [_, _]) hG dL_law_424 mlL_117 rfl (by assumption) ⟨_, _, rfl⟩ (Nat.le_of_ble_eq_true rfl) (Nat.le_of_ble_eq_true rfl) (Nat.le_of_ble_eq_true rfl) (Nat.le_of_ble_eq_true rfl) (kr_fist 0 7 rfl rfl (by decide) (by decide) hG hB hq) rfl ?_
  rintro _ _ ⟨rfl, Ii, Ji, Ri, rfl, hi⟩
  refine am_aload_n (q := 428) dL_law_427 rfl rfl ?_
  refine am_iconst (q := 429) (v := 1) dL_law_428 kc_i1 rfl ?_
  refine am_bipush (q := 431) (v := 7) dL_law_429 kc_b7 rfl ?_
  refine cm_call0 (q := 434) (As := [_, _]) hG dL_law_431 mlL_117 rfl (by assumption) ⟨_, _, rfl⟩ (Nat.le_of_ble_eq_true rfl) (Nat.le_of_ble_eq_true rfl) (Nat.le_of_ble_eq_true rfl) (Nat.le_of_ble_eq_true rfl) (kr_fist 1 7 rfl rfl (by decide) (by decide) hG hB hi) rfl ?_
  rintro _ _ ⟨rfl, Ij, Jj, Rj, rfl, hj⟩
  refine am_iadd (q := 435) dL_law_434 rfl ?_
  rw [g2]
  refine am_aload_n (q := 436) dL_law_435 rfl rfl ?_
  refine am_bipush (q := 438) (v := 6) dL_law_436 kc_b6 rfl ?_
  refine cm_call0 (q := 441) (As := [_]) hG dL_law_438 mlL_25 rfl (by assumption) ⟨_, _, rfl⟩ (Nat.le_of_ble_eq_true rfl) (Nat.le_of_ble_eq_true rfl) (Nat.le_of_ble_eq_true rfl) (Nat.le_of_ble_eq_true rfl) (kr_c6 hG hj) rfl ?_
  rintro _ _ ⟨rfl, Ik, Jk, Rk, rfl, hk⟩
  refine am_icmp_ne (tgt := 463) (q := 444) dL_law_441 rfl rfl (fun hz => absurd rfl hz) (fun _ => ?_)
  refine am_aload_n (q := 445) dL_law_444 rfl rfl ?_
  refine am_bipush (q := 447) (v := 8) dL_law_445 kc_b8 rfl ?_
  refine cm_call0 (q := 450) (As := [_]) hG dL_law_447 mlL_25 rfl (by assumption) ⟨_, _, rfl⟩ (Nat.le_of_ble_eq_true rfl) (Nat.le_of_ble_eq_true rfl) (Nat.le_of_ble_eq_true rfl) (Nat.le_of_ble_eq_true rfl) (kr_c8 hG hk) rfl ?_
  rintro _ _ ⟨rfl, Il, Jl, Rl, rfl, hl⟩
  refine am_bipush (q := 452) (v := 10) dL_law_450 kc_b10 rfl ?_
  refine am_aload_n (q := 453) dL_law_452 rfl rfl ?_
  refine am_iconst (q := 454) (v := 5) dL_law_453 kc_i5 rfl ?_
  refine cm_call0 (q := 457) (As := [_]) hG dL_law_454 mlL_25 rfl (by assumption) ⟨_, _, rfl⟩ (Nat.le_of_ble_eq_true rfl) (Nat.le_of_ble_eq_true rfl) (Nat.le_of_ble_eq_true rfl) (Nat.le_of_ble_eq_true rfl) (kr_c5 hG hl) rfl ?_
  rintro _ _ ⟨rfl, Im, Jm, Rm, rfl, hm⟩
  rw [e7]
  refine am_mmin (q := 460) dL_law_457 (tbc5 142 rfl rfl) tb_min1 tb_math tb_min2 (Nat.le_of_ble_eq_true rfl) rfl ?_
  refine am_icmp_eq (tgt := 465) (q := 463) dL_law_460 rfl rfl (fun _ => ?_) (fun hz => absurd rfl hz)
  refine am_iincW (q := 468) (ls1 := [_, _, _, _, _, _, _, _, _, _, _]) (w := 1) dL_law_465 rfl (Nat.le_of_ble_eq_true rfl) kc_i1 rfl rfl ?_
  refine am_goto (tgt := 24) dL_law_468 rfl ?_
  rw [nI_1]
  exact MW.forget fgt (K _ _ _ hm)
end Tl

