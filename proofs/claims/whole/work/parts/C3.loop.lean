theorem dL_law_296 : decode cL_law 296 = .ok (.aload_n 1, 1) := by decide +kernel
theorem dL_law_297 : decode cL_law 297 = .ok (.invokevirtual 85, 3) := by decide +kernel
theorem dL_law_300 : decode cL_law 300 = .ok (.aload_n 2, 1) := by decide +kernel
theorem dL_law_301 : decode cL_law 301 = .ok (.invokevirtual 88, 3) := by decide +kernel
theorem dL_law_304 : decode cL_law 304 = .ok (.if_icmp .eq 1013, 3) := by decide +kernel
theorem dL_law_309 : decode cL_law 309 = .ok (.aload_n 1, 1) := by decide +kernel
theorem dL_law_310 : decode cL_law 310 = .ok (.invokevirtual 89, 3) := by decide +kernel
theorem dL_law_313 : decode cL_law 313 = .ok (.aload_n 2, 1) := by decide +kernel
theorem dL_law_314 : decode cL_law 314 = .ok (.invokevirtual 92, 3) := by decide +kernel
theorem dL_law_317 : decode cL_law 317 = .ok (.if_icmp .eq 1000, 3) := by decide +kernel
theorem dL_law_322 : decode cL_law 322 = .ok (.aload_n 1, 1) := by decide +kernel
theorem dL_law_323 : decode cL_law 323 = .ok (.aload_n 0, 1) := by decide +kernel
theorem dL_law_324 : decode cL_law 324 = .ok (.iload 4, 2) := by decide +kernel
theorem dL_law_326 : decode cL_law 326 = .ok (.iconst 1, 1) := by decide +kernel
theorem dL_law_327 : decode cL_law 327 = .ok (.iadd, 1) := by decide +kernel
theorem dL_law_328 : decode cL_law 328 = .ok (.iaload, 1) := by decide +kernel
theorem dL_law_329 : decode cL_law 329 = .ok (.aload_n 3, 1) := by decide +kernel
theorem dL_law_330 : decode cL_law 330 = .ok (.invokestatic 93, 3) := by decide +kernel
theorem dL_law_333 : decode cL_law 333 = .ok (.istore 5, 2) := by decide +kernel
theorem dL_law_335 : decode cL_law 335 = .ok (.aload_n 2, 1) := by decide +kernel
theorem dL_law_336 : decode cL_law 336 = .ok (.aload_n 0, 1) := by decide +kernel
theorem dL_law_337 : decode cL_law 337 = .ok (.iload 4, 2) := by decide +kernel
theorem dL_law_339 : decode cL_law 339 = .ok (.iconst 1, 1) := by decide +kernel
theorem dL_law_340 : decode cL_law 340 = .ok (.iadd, 1) := by decide +kernel
theorem dL_law_341 : decode cL_law 341 = .ok (.iaload, 1) := by decide +kernel
theorem dL_law_342 : decode cL_law 342 = .ok (.invokevirtual 95, 3) := by decide +kernel
theorem dL_law_345 : decode cL_law 345 = .ok (.istore 6, 2) := by decide +kernel
theorem dL_law_347 : decode cL_law 347 = .ok (.aload_n 2, 1) := by decide +kernel
theorem dL_law_348 : decode cL_law 348 = .ok (.invokevirtual 77, 3) := by decide +kernel
theorem dL_law_351 : decode cL_law 351 = .ok (.iload 5, 2) := by decide +kernel
theorem dL_law_353 : decode cL_law 353 = .ok (.if_icmp .eq 5, 3) := by decide +kernel
theorem dL_law_358 : decode cL_law 358 = .ok (.iload 5, 2) := by decide +kernel
theorem dL_law_360 : decode cL_law 360 = .ok (.ifCond .ne 15, 3) := by decide +kernel
theorem dL_law_363 : decode cL_law 363 = .ok (.aload_n 3, 1) := by decide +kernel
theorem dL_law_364 : decode cL_law 364 = .ok (.iconst 0, 1) := by decide +kernel
theorem dL_law_365 : decode cL_law 365 = .ok (.laload, 1) := by decide +kernel
theorem dL_law_366 : decode cL_law 366 = .ok (.iload 6, 2) := by decide +kernel
theorem dL_law_368 : decode cL_law 368 = .ok (.i2l, 1) := by decide +kernel
theorem dL_law_369 : decode cL_law 369 = .ok (.lcmp, 1) := by decide +kernel
theorem dL_law_370 : decode cL_law 370 = .ok (.ifCond .eq 5, 3) := by decide +kernel
theorem dL_law_375 : decode cL_law 375 = .ok (.goto 942, 3) := by decide +kernel
theorem dL_law_1262 : decode cL_law 1262 = .ok (.aload_n 1, 1) := by decide +kernel
theorem dL_law_1263 : decode cL_law 1263 = .ok (.invokevirtual 137, 3) := by decide +kernel
theorem dL_law_1266 : decode cL_law 1266 = .ok (.dstore 5, 2) := by decide +kernel
theorem dL_law_1268 : decode cL_law 1268 = .ok (.aload_n 2, 1) := by decide +kernel
theorem dL_law_1269 : decode cL_law 1269 = .ok (.invokevirtual 141, 3) := by decide +kernel
theorem dL_law_1272 : decode cL_law 1272 = .ok (.dstore 7, 2) := by decide +kernel
theorem dL_law_1274 : decode cL_law 1274 = .ok (.dload 5, 2) := by decide +kernel
theorem dL_law_1276 : decode cL_law 1276 = .ok (.dload 7, 2) := by decide +kernel
theorem dL_law_1278 : decode cL_law 1278 = .ok (.dcmp .l, 1) := by decide +kernel
theorem dL_law_1279 : decode cL_law 1279 = .ok (.ifCond .eq 21, 3) := by decide +kernel
theorem dL_law_1282 : decode cL_law 1282 = .ok (.dload 5, 2) := by decide +kernel
theorem dL_law_1284 : decode cL_law 1284 = .ok (.dload 5, 2) := by decide +kernel
theorem dL_law_1286 : decode cL_law 1286 = .ok (.dcmp .l, 1) := by decide +kernel
theorem dL_law_1287 : decode cL_law 1287 = .ok (.ifCond .eq 11, 3) := by decide +kernel
theorem dL_law_1290 : decode cL_law 1290 = .ok (.dload 7, 2) := by decide +kernel
theorem dL_law_1292 : decode cL_law 1292 = .ok (.dload 7, 2) := by decide +kernel
theorem dL_law_1294 : decode cL_law 1294 = .ok (.dcmp .l, 1) := by decide +kernel
theorem dL_law_1295 : decode cL_law 1295 = .ok (.ifCond .ne 5, 3) := by decide +kernel
theorem dL_law_1300 : decode cL_law 1300 = .ok (.goto 17, 3) := by decide +kernel
theorem dL_law_1303 : decode cL_law 1303 = .ok (.aload_n 1, 1) := by decide +kernel
theorem dL_law_1304 : decode cL_law 1304 = .ok (.invokevirtual 142, 3) := by decide +kernel
theorem dL_law_1307 : decode cL_law 1307 = .ok (.aload_n 2, 1) := by decide +kernel
theorem dL_law_1308 : decode cL_law 1308 = .ok (.invokevirtual 146, 3) := by decide +kernel
theorem dL_law_1311 : decode cL_law 1311 = .ok (.lcmp, 1) := by decide +kernel
theorem dL_law_1312 : decode cL_law 1312 = .ok (.ifCond .eq 5, 3) := by decide +kernel
/-! the law's other cases, its loop, and the whole of it -/
theorem lp_lt {L i : Nat} (hL : L ≤ 3072) (hi : i ≤ L) : (nI L - 6 < nI i) ↔ L < i + 6 := by
  by_cases h : 6 ≤ L
  · have e : nI L - 6 = nI (L - 6) := by
      have : nI L = nI (L - 6) + 6 := by
        rw [show (6 : Int32) = nI 6 from rfl, nI_add]
        congr 1
        omega
      rw [this, Int32.add_sub_cancel]
    rw [e, nI_ltI (by omega) (by omega)]
    omega
  · have d : ∀ L, L < 6 → ∀ i, i < 6 → nI L - 6 < nI i := by decide +kernel
    exact ⟨fun _ => by omega, fun _ => d L (by omega) i (by omega)⟩
theorem ks11_sl : (ks11.map Prod.snd).sum ≤ 100000 := by decide +kernel
theorem ks14_sl : (ks14.map Prod.snd).sum ≤ 100000 := by decide +kernel
section Lo
variable {G : Gp} {S : AMem} {I : Nat → Nat → Int32} {J : Nat → Nat → Int64} {R : Nat → Nat → Option Nat} {x y o b i L : Nat} {xs : Nat → Int32} {s : XS} {Z : StA} {Q : (Option AV ⊕ Nat) → AMem → Prop}
/-- the reference has made rows -/
theorem Inv.gr (h : Inv S I J R x y o s) {S1 S2 : AMem} {I1 I2 : Nat → Nat → Int32} {J1 J2 : Nat → Nat → Int64} {R1 R2 : Nat → Nat → Option Nat} (h1 : XW kwK S x s I1 J1 R1) (hs : S1.K = S.K ∧ S1.ln = S.ln ∧ S.hs ≤ S1.hs) (hy : YW S1 y s I1 R1) (hg : Grw y S1 I1 J1 R1 S2 I2 J2 R2) : Inv S2 I2 J2 R2 x y o s := by
  obtain ⟨hx, -, ko, lo, ey, eo, hhs⟩ := h
  obtain ⟨hk, hl, hh⟩ := hs
  have g := fun a (q : a < S1.hs) => hg.2 a q
  refine ⟨h1.ex fun a u v => ?_, hy.ex fun a u v => ?_, ?_, ?_, ey, eo, Nat.le_trans (Nat.le_trans hhs hh) hg.1⟩
  · obtain ⟨g1, g2, g3, g4, g5⟩ := g a (by omega)
    exact ⟨by rw [g1, hk], by rw [g2, hl], fun j => g5 j (Or.inl (by omega)), g3, g4⟩
  · obtain ⟨g1, g2, g3, g4, g5⟩ := g a (by omega)
    exact ⟨g1, g2, g5, g4⟩
  · rw [(g o (by omega)).1, hk]
    exact ko
  · rw [(g o (by omega)).2.1, hl]
    exact lo
theorem YW.gk {S2 : AMem} {I2 : Nat → Nat → Int32} {J2 : Nat → Nat → Int64} {R2 : Nat → Nat → Option Nat} (hk : S.K y = 15) (hy : y < S.hs) (hg : Grw y S I J R S2 I2 J2 R2) : S2.K y = 15 := (hg.2 y hy).1.trans hk
theorem kl_count (hG : okG G) (hZ : KS G Z) (hX : KX G) (hst : G.l.stackTraces = false) (hsc : Sc G b L xs) (hi : i + 6 ≤ L) (hL : L ≤ 3072) (h : Inv S I J R x y o s) (K : ∀ S1 I1 J1 R1 s1, Inv S1 I1 J1 R1 x y o s1 → S1.hs ≤ S.hs + 20 → S1.sl ≤ S.sl + 200 → MW G mL_law 2046 1317 (LL b x y o (nI i)) [] (mw S1 I1 J1 R1) Q) : MW G mL_law 2046 322 (LL b x y o (nI i)) [] (mw S I J R) Q := by
  have kx := h.1.kx
  have ko := h.2.2.1
  have ky := h.2.1.ky
  obtain ⟨ey, eo, hhs⟩ := h.2.2.2.2
  have p1 := sc_in (v := 1) (k := 1) (L := L) (i := i) rfl (by decide) hi hL
  refine am_aload_n (q := 323) dL_law_322 rfl rfl ?_
  refine am_aload_n (q := 324) dL_law_323 rfl rfl ?_
  refine am_iload (q := 326) dL_law_324 rfl rfl ?_
  refine am_iconst (q := 327) (v := 1) dL_law_326 kc_i1 rfl ?_
  refine am_iadd (q := 328) dL_law_327 rfl ?_
  refine am_tint (q := 329) dL_law_328 (hsc) p1.1 (sc_va p1) rfl ?_
  refine am_aload_n (q := 330) dL_law_329 rfl rfl ?_
  obtain ⟨rv, M1, hm, hq⟩ := kh_count (w := xs (i + 1)) hG hZ hX hst h.1 ko h.2.2.2.1
  refine am_callH (Yc := mL_count) (n := 3) (As := [vR x, vI (xs (i + 1)), vR o]) (q := 333) hG dL_law_330 hwL_count (tbc1 0 rfl rfl) ⟨by decide, by decide⟩ (by decide +kernel) (tbc4 207 rfl rfl) (tbc4 208 rfl rfl) (by decide) rfl (Nat.le_of_ble_eq_true rfl) (Nat.le_of_ble_eq_true rfl) hm rfl ?_
  by_cases hc : 0 ≤ xs (i + 1) ∧ xs (i + 1) ≤ 9
  · rw [if_pos hc] at hq
    obtain ⟨er, wv, I1, J1, R1, ew, eM, hx1, ho1⟩ := hq
    subst er
    subst eM
    obtain ⟨bl, nx, hC, hA⟩ := id (h.hy ho1)
    have hb := k_X14_count (G := G) (J := up2 J1 o 0 wv.toInt64) (w := xs (i + 1)) hG hC hA (by omega)
    have e9 := Sum.inl.inj ew
    subst e9
    rw [if_pos hc] at hb
    refine am_istore (q := 335) (ls1 := [_, _, _, _, _, _, _, _, _]) dL_law_333 (Nat.le_of_ble_eq_true rfl) rfl rfl ?_
    refine am_aload_n (q := 336) dL_law_335 rfl rfl ?_
    refine am_aload_n (q := 337) dL_law_336 rfl rfl ?_
    refine am_iload (q := 339) dL_law_337 rfl rfl ?_
    refine am_iconst (q := 340) (v := 1) dL_law_339 kc_i1 rfl ?_
    refine am_iadd (q := 341) dL_law_340 rfl ?_
    refine am_tint (q := 342) dL_law_341 (hsc) p1.1 (sc_va p1) rfl ?_
    refine cm_call0 (q := 345) (As := [_]) hG dL_law_342 mlL_95 rfl (by assumption) ⟨_, _, rfl⟩ (Nat.le_of_ble_eq_true rfl) (Nat.le_of_ble_eq_true rfl) (Nat.le_of_ble_eq_true rfl) (Nat.le_of_ble_eq_true rfl) hb rfl ?_
    rintro _ _ ⟨rfl, S2, I2, J2, R2, rfl, hg, ht2, hh2, hl2⟩
    refine am_istore (q := 347) (ls1 := [_, _, _, _, _, _, _, _, _]) dL_law_345 (Nat.le_of_ble_eq_true rfl) rfl rfl ?_
    refine am_aload_n (q := 348) dL_law_347 rfl rfl ?_
    have ky2 : S2.K y = 15 := YW.gk ky (by omega) hg
    have ko2 : S2.K o = 21 := (hg.2 o (by omega)).1.trans ko
    have hp0 : vp_in 0 (S2.ln o) := by
      rw [(hg.2 o (by omega)).2.1, h.2.2.2.1]
      unfold vp_in
      decide
    have hj : J2 o = up2 J1 o 0 (cntM s.E s.B s.m (xs (i + 1)).toNatClampNeg).toInt64 o := (hg.2 o (by omega)).2.2.1
    refine cm_call0 (q := 351) (As := []) hG dL_law_348 mlL_77 rfl (by assumption) ⟨_, _, rfl⟩ (Nat.le_of_ble_eq_true rfl) (Nat.le_of_ble_eq_true rfl) (Nat.le_of_ble_eq_true rfl) (Nat.le_of_ble_eq_true rfl) (k_X14_thrown ky2) rfl ?_
    rintro _ _ ⟨rfl, rfl⟩
    rw [ht2]
    refine am_iload (q := 353) dL_law_351 rfl rfl ?_
    refine am_icmp_eq (tgt := 358) (q := 356) dL_law_353 rfl rfl (fun _ => ?_) (fun hz => absurd rfl hz)
    refine am_iload (q := 360) dL_law_358 rfl rfl ?_
    refine am_if_ne (tgt := 375) (q := 363) dL_law_360 rfl rfl (fun hz => absurd rfl hz) (fun _ => ?_)
    refine am_aload_n (q := 364) dL_law_363 rfl rfl ?_
    refine am_iconst (q := 365) (v := 0) dL_law_364 kc_i0 rfl ?_
    refine cm_laload (q := 366) dL_law_365 (by assumption) hp0 rfl ?_
    refine am_iload (q := 368) dL_law_366 rfl rfl ?_
    refine am_i2l (q := 369) dL_law_368 rfl ?_
    rw [hj]
    refine am_lcmp (q := 370) dL_law_369 rfl ?_
    refine am_if_eq (tgt := 375) (q := 373) dL_law_370 rfl rfl (fun _ => ?_) (fun hz => absurd lc_up hz)
    refine am_goto (tgt := 1317) dL_law_375 rfl ?_
    have h1w : XW kwK S x s I1 (up2 J1 o 0 (cntM s.E s.B s.m (xs (i + 1)).toNatClampNeg).toInt64) R1 := hx1.ex fun a u v => ⟨rfl, rfl, fun _ => rfl, funext fun j => up2_a (by omega), rfl⟩
    exact MW.forget LL_le (K _ _ _ _ _ (h.gr h1w ⟨rfl, rfl, Nat.le_refl _⟩ (h.hy ho1) hg) (Nat.le_trans hh2 (Nat.add_le_add_left (by decide : 10 ≤ 20) _)) (Nat.le_trans hl2 (Nat.add_le_add_left (by decide : 100 ≤ 200) _)))
  · rw [if_neg hc] at hq
    have er : rv = 1 := hq.1
    have eM := hq.2
    subst er
    subst eM
    obtain ⟨bl, nx, hC, hA⟩ := id h.yg
    have hb := k_X14_count (G := G) (S := S.gp) (J := J) (w := xs (i + 1)) hG hC hA (show y + 39 ≤ S.hs + 1 by omega)
    rw [if_neg hc] at hb
    refine am_istore (q := 335) (ls1 := [_, _, _, _, _, _, _, _, _]) dL_law_333 (Nat.le_of_ble_eq_true rfl) rfl rfl ?_
    refine am_aload_n (q := 336) dL_law_335 rfl rfl ?_
    refine am_aload_n (q := 337) dL_law_336 rfl rfl ?_
    refine am_iload (q := 339) dL_law_337 rfl rfl ?_
    refine am_iconst (q := 340) (v := 1) dL_law_339 kc_i1 rfl ?_
    refine am_iadd (q := 341) dL_law_340 rfl ?_
    refine am_tint (q := 342) dL_law_341 (hsc) p1.1 (sc_va p1) rfl ?_
    refine cm_call0 (q := 345) (As := [_]) hG dL_law_342 mlL_95 rfl (by assumption) ⟨_, _, rfl⟩ (Nat.le_of_ble_eq_true rfl) (Nat.le_of_ble_eq_true rfl) (Nat.le_of_ble_eq_true rfl) (Nat.le_of_ble_eq_true rfl) hb rfl ?_
    rintro _ _ ⟨rfl, S2, I2, J2, R2, rfl, hg, ht2, hh2, hl2⟩
    refine am_istore (q := 347) (ls1 := [_, _, _, _, _, _, _, _, _]) dL_law_345 (Nat.le_of_ble_eq_true rfl) rfl rfl ?_
    refine am_aload_n (q := 348) dL_law_347 rfl rfl ?_
    have ky2 : S2.K y = 15 := YW.gk (S := S.gp) ky (show y < S.hs + 1 by omega) hg
    refine cm_call0 (q := 351) (As := []) hG dL_law_348 mlL_77 rfl (by assumption) ⟨_, _, rfl⟩ (Nat.le_of_ble_eq_true rfl) (Nat.le_of_ble_eq_true rfl) (Nat.le_of_ble_eq_true rfl) (Nat.le_of_ble_eq_true rfl) (k_X14_thrown ky2) rfl ?_
    rintro _ _ ⟨rfl, rfl⟩
    rw [ht2]
    refine am_iload (q := 353) dL_law_351 rfl rfl ?_
    refine am_icmp_eq (tgt := 358) (q := 356) dL_law_353 rfl rfl (fun _ => ?_) (fun hz => absurd rfl hz)
    refine am_iload (q := 360) dL_law_358 rfl rfl ?_
    refine am_if_ne (tgt := 375) (q := 363) dL_law_360 rfl rfl (fun _ => ?_) (fun hz => absurd hz (by decide))
    refine am_goto (tgt := 1317) dL_law_375 rfl ?_
    exact MW.forget LL_le (K _ _ _ _ _ (h.gr (S1 := S.gp) h.1 ⟨rfl, rfl, Nat.le_succ _⟩ h.yg hg) (Nat.le_trans hh2 (show S.hs + 1 + 10 ≤ S.hs + 20 by omega)) (Nat.le_trans hl2 (show S.sl + 6 + 100 ≤ S.sl + 200 by omega)))
theorem kl_teach0 {v : Int32} {s1 : XS} (hG : okG G) (h : Inv S I J R x y o s) (ha : Fn G mX11_teach 50 [vR x] (mw S I J R) (fun rr M1 => rr = some (vI v) ∧ ∃ I1 J1 R1, M1 = mw S I1 J1 R1 ∧ XW kwK S x s1 I1 J1 R1 ∧ OffW x I J R I1 J1 R1)) (hb0 : ∀ I1 J1 R1, YW S y s I1 R1 → Fn G mX14_teach 406 [vR y] (mw S I1 J1 R1) (YR S y I1 J1 R1 (vI v, s1, 0))) (K : ∀ S1 I1 J1 R1 s1, Inv S1 I1 J1 R1 x y o s1 → S1.hs ≤ S.hs + 20 → S1.sl ≤ S.sl + 200 → MW G mL_law 2046 1317 (LL b x y o (nI i)) [] (mw S1 I1 J1 R1) Q) : MW G mL_law 2046 296 (LL b x y o (nI i)) [] (mw S I J R) Q := by
  have kx := h.1.kx
  have ky := h.2.1.ky
  refine am_aload_n (q := 297) dL_law_296 rfl rfl ?_
  refine cm_call0 (q := 300) (As := []) hG dL_law_297 mlL_85 rfl (by assumption) ⟨_, _, rfl⟩ (Nat.le_of_ble_eq_true rfl) (Nat.le_of_ble_eq_true rfl) (Nat.le_of_ble_eq_true rfl) (Nat.le_of_ble_eq_true rfl) ha rfl ?_
  rintro _ _ ⟨rfl, I1, J1, R1, rfl, hx1, ho1⟩
  have hb := hb0 I1 J1 R1 (h.hy ho1)
  refine am_aload_n (q := 301) dL_law_300 rfl rfl ?_
  refine cm_call0 (q := 304) (As := []) hG dL_law_301 mlL_88 rfl (by assumption) ⟨_, _, rfl⟩ (Nat.le_of_ble_eq_true rfl) (Nat.le_of_ble_eq_true rfl) (Nat.le_of_ble_eq_true rfl) (Nat.le_of_ble_eq_true rfl) hb rfl ?_
  rintro _ _ ⟨rfl, I2, R2, rfl, hy2, ht2, ho2⟩
  refine am_icmp_eq (tgt := 1317) (q := 307) dL_law_304 rfl rfl (fun _ => ?_) (fun hz => absurd rfl hz)
  exact MW.forget LL_le (K _ _ _ _ _ (h.tx hx1 hy2 ho2) (Nat.le_add_right _ _) (Nat.le_add_right _ _))
theorem kl_tx (hG : okG G) (hZ : KS G Z) (h : Inv S I J R x y o s) : Fn G mX11_teach 50 [vR x] (mw S I J R) (fun rr M1 => rr = some (vI (rdB kwK s.E).P.2.1) ∧ ∃ I1 J1 R1, M1 = mw S I1 J1 R1 ∧ XW kwK S x (tchS kwK s) I1 J1 R1 ∧ OffW x I J R I1 J1 R1) := by
  have hx := h.1
  clear h
  have hsy : ∀ (R : Nat → Nat → Option Nat) (I : Nat → Nat → Int32) (J : Nat → Nat → Int64) (c : Int32), Fn G mX9_isSymbol 4 [vI c] (mw S I J R) (fun rr M1 => rr = some (vI (bI (c ∈ syms))) ∧ M1 = mw S I J R) := fun R I J c => k_X9_isSymbol hG hZ
  generalize kwK = K at hx ⊢
  exact XQ.fn (k_X11_teach hG hsy hx)
theorem kl_ty (hG : okG G) (hZ : KS G Z) (h : YW S y s I R) : Fn G mX14_teach 406 [vR y] (mw S I J R) (YR S y I J R (vI (rdB kwK s.E).P.2.1, tchS kwK s, 0)) := by
  have hsp : ∀ (I : Nat → Nat → Int32), (I y 2 = nI s.E.1 ∧ s.E.1 ≤ 2000 ∧ ∀ i, i < s.E.1 → I (y + 1) i = s.E.2 i) → Fn G mX14_split 10 [vR y] (mw S I J R) (fun rr M1 => rr = none ∧ ∃ I1, M1 = mw S I1 J R ∧ MTk I1 y (tkAll s.E kwK).toks ∧ ∀ x j, (x < y + 2 ∨ y + 5 < x) → I1 x j = I x j) := fun I' hT => by
    obtain ⟨bl, nx, hC, -⟩ := id h
    exact k_X14_split hG hZ ⟨hC.1.1, hC.2.1, hC.2.2.2.2.2.2.2.2.2⟩ hT
  generalize kwK = K at hsp ⊢
  exact k_X14_teach hG hsp h
theorem kl_teach (hG : okG G) (hZ : KS G Z) (h : Inv S I J R x y o s) (K : ∀ S1 I1 J1 R1 s1, Inv S1 I1 J1 R1 x y o s1 → S1.hs ≤ S.hs + 20 → S1.sl ≤ S.sl + 200 → MW G mL_law 2046 1317 (LL b x y o (nI i)) [] (mw S1 I1 J1 R1) Q) : MW G mL_law 2046 296 (LL b x y o (nI i)) [] (mw S I J R) Q := kl_teach0 hG h (kl_tx hG hZ h) (fun I1 J1 R1 hy => kl_ty hG hZ hy) K
theorem kl_errorAt (hG : okG G) (h : Inv S I J R x y o s) (K : ∀ S1 I1 J1 R1 s1, Inv S1 I1 J1 R1 x y o s1 → S1.hs ≤ S.hs + 20 → S1.sl ≤ S.sl + 200 → MW G mL_law 2046 1317 (LL b x y o (nI i)) [] (mw S1 I1 J1 R1) Q) : MW G mL_law 2046 309 (LL b x y o (nI i)) [] (mw S I J R) Q := by
  have kx := h.1.kx
  have ky := h.2.1.ky
  have ha := XQ.fn (k_X11_errorAt (G := G) h.1)
  refine am_aload_n (q := 310) dL_law_309 rfl rfl ?_
  refine cm_call0 (q := 313) (As := []) hG dL_law_310 mlL_89 rfl (by assumption) ⟨_, _, rfl⟩ (Nat.le_of_ble_eq_true rfl) (Nat.le_of_ble_eq_true rfl) (Nat.le_of_ble_eq_true rfl) (Nat.le_of_ble_eq_true rfl) ha rfl ?_
  rintro _ _ ⟨rfl, I1, J1, R1, rfl, hx1, ho1⟩
  have hb := k_X14_errorAt (G := G) (S := S) (J := J1) (h.hy ho1)
  refine am_aload_n (q := 314) dL_law_313 rfl rfl ?_
  refine cm_call0 (q := 317) (As := []) hG dL_law_314 mlL_92 rfl (by assumption) ⟨_, _, rfl⟩ (Nat.le_of_ble_eq_true rfl) (Nat.le_of_ble_eq_true rfl) (Nat.le_of_ble_eq_true rfl) (Nat.le_of_ble_eq_true rfl) hb rfl ?_
  rintro _ _ ⟨rfl, I2, R2, rfl, hy2, ht2, ho2⟩
  refine am_icmp_eq (tgt := 1317) (q := 320) dL_law_317 rfl rfl (fun _ => ?_) (fun hz => absurd rfl hz)
  exact MW.forget LL_le (K _ _ _ _ _ (h.tx hx1 hy2 ho2) (Nat.le_add_right _ _) (Nat.le_add_right _ _))
theorem kl_mean (hG : okG G) (h : Inv S I J R x y o s) (K : ∀ S1 I1 J1 R1 s1, Inv S1 I1 J1 R1 x y o s1 → S1.hs ≤ S.hs + 20 → S1.sl ≤ S.sl + 200 → MW G mL_law 2046 1317 (LL b x y o (nI i)) [] (mw S1 I1 J1 R1) Q) : MW G mL_law 2046 1262 (LL b x y o (nI i)) [] (mw S I J R) Q := by
  have kx := h.1.kx
  have ky := h.2.1.ky
  have ha := XQ.fn (k_X11_mean (G := G) hG h.1)
  have hb0 := fun (J1 : Nat → Nat → Int64) (R1 : Nat → Nat → Option Nat) (I1 : Nat → Nat → Int32) (hy1 : YW S y s I1 R1) => k_X14_mean (G := G) (S := S) (J := J1) hy1
  generalize meanD (sumM s.m.bd s.m.nb) s.m.nb = v at ha hb0
  refine am_aload_n (q := 1263) dL_law_1262 rfl rfl ?_
  refine cm_call0 (q := 1266) (As := []) hG dL_law_1263 mlL_137 rfl (by assumption) ⟨_, _, rfl⟩ (Nat.le_of_ble_eq_true rfl) (Nat.le_of_ble_eq_true rfl) (Nat.le_of_ble_eq_true rfl) (Nat.le_of_ble_eq_true rfl) ha rfl ?_
  rintro _ _ ⟨rfl, I1, J1, R1, rfl, hx1, ho1⟩
  refine am_dstore (q := 1268) (ls1 := [_, _, _, _, _, _, _, _, _]) dL_law_1266 (Nat.le_of_ble_eq_true rfl) rfl rfl ?_
  have hb := hb0 J1 R1 I1 (h.hy ho1)
  refine am_aload_n (q := 1269) dL_law_1268 rfl rfl ?_
  refine cm_call0 (q := 1272) (As := []) hG dL_law_1269 mlL_141 rfl (by assumption) ⟨_, _, rfl⟩ (Nat.le_of_ble_eq_true rfl) (Nat.le_of_ble_eq_true rfl) (Nat.le_of_ble_eq_true rfl) (Nat.le_of_ble_eq_true rfl) hb rfl ?_
  rintro _ _ ⟨rfl, I2, R2, rfl, hy2, ht2, ho2⟩
  refine am_dstore (q := 1274) (ls1 := [_, _, _, _, _, _, _, _, _]) dL_law_1272 (Nat.le_of_ble_eq_true rfl) rfl rfl ?_
  refine am_dload (q := 1276) dL_law_1274 rfl rfl ?_
  refine am_dload (q := 1278) dL_law_1276 rfl rfl ?_
  refine am_dcmp (q := 1279) dL_law_1278 rfl ?_
  generalize hE : Op.cmpValue (FP.dcmp v v) CmpOp.l = w
  by_cases hw : w = 0
  · refine am_if_eq (tgt := 1300) (q := 1282) dL_law_1279 rfl rfl (fun _ => ?_) (fun hz => absurd hw hz)
    refine am_goto (tgt := 1317) dL_law_1300 rfl ?_
    exact MW.forget LL_le (K _ _ _ _ _ (h.tx hx1 hy2 ho2) (Nat.le_add_right _ _) (Nat.le_add_right _ _))
  · refine am_if_eq (tgt := 1300) (q := 1282) dL_law_1279 rfl rfl (fun hz => absurd hz hw) (fun _ => ?_)
    refine am_dload (q := 1284) dL_law_1282 rfl rfl ?_
    refine am_dload (q := 1286) dL_law_1284 rfl rfl ?_
    refine am_dcmp (q := 1287) dL_law_1286 rfl ?_
    rw [hE]
    refine am_if_eq (tgt := 1298) (q := 1290) dL_law_1287 rfl rfl (fun hz => absurd hz hw) (fun _ => ?_)
    refine am_dload (q := 1292) dL_law_1290 rfl rfl ?_
    refine am_dload (q := 1294) dL_law_1292 rfl rfl ?_
    refine am_dcmp (q := 1295) dL_law_1294 rfl ?_
    rw [hE]
    refine am_if_ne (tgt := 1300) (q := 1298) dL_law_1295 rfl rfl (fun _ => ?_) (fun hz => absurd hz hw)
    refine am_goto (tgt := 1317) dL_law_1300 rfl ?_
    exact MW.forget LL_le (K _ _ _ _ _ (h.tx hx1 hy2 ho2) (Nat.le_add_right _ _) (Nat.le_add_right _ _))
theorem kl_digest (hG : okG G) (h : Inv S I J R x y o s) (K : ∀ S1 I1 J1 R1 s1, Inv S1 I1 J1 R1 x y o s1 → S1.hs ≤ S.hs + 20 → S1.sl ≤ S.sl + 200 → MW G mL_law 2046 1317 (LL b x y o (nI i)) [] (mw S1 I1 J1 R1) Q) : MW G mL_law 2046 1303 (LL b x y o (nI i)) [] (mw S I J R) Q := by
  have kx := h.1.kx
  have ky := h.2.1.ky
  obtain ⟨ey, eo, hhs⟩ := h.2.2.2.2
  have ha := XQ.fn (k_X11_digest (G := G) hG h.1)
  refine am_aload_n (q := 1304) dL_law_1303 rfl rfl ?_
  refine cm_call0 (q := 1307) (As := []) hG dL_law_1304 mlL_142 rfl (by assumption) ⟨_, _, rfl⟩ (Nat.le_of_ble_eq_true rfl) (Nat.le_of_ble_eq_true rfl) (Nat.le_of_ble_eq_true rfl) (Nat.le_of_ble_eq_true rfl) ha rfl ?_
  rintro _ _ ⟨rfl, I1, J1, R1, rfl, hx1, ho1⟩
  obtain ⟨bl, nx, hC, hA⟩ := id (h.hy ho1)
  have hb := k_X14_digest (G := G) (J := J1) hG hC hA (by omega)
  refine am_aload_n (q := 1308) dL_law_1307 rfl rfl ?_
  refine cm_call0 (q := 1311) (As := []) hG dL_law_1308 mlL_146 rfl (by assumption) ⟨_, _, rfl⟩ (Nat.le_of_ble_eq_true rfl) (Nat.le_of_ble_eq_true rfl) (Nat.le_of_ble_eq_true rfl) (Nat.le_of_ble_eq_true rfl) hb rfl ?_
  rintro _ _ ⟨rfl, S2, I2, J2, R2, rfl, hg, ht2, hh2, hl2⟩
  refine am_lcmp (q := 1312) dL_law_1311 rfl ?_
  refine am_if_eq (tgt := 1317) (q := 1315) dL_law_1312 rfl rfl (fun _ => ?_) (fun hz => absurd lc_self hz)
  exact MW.forget LL_le (K _ _ _ _ _ (h.gr hx1 ⟨rfl, rfl, Nat.le_refl _⟩ (h.hy ho1) hg) (Nat.le_trans hh2 (Nat.add_le_add_left (by decide : 10 ≤ 20) _)) (Nat.le_trans hl2 (Nat.add_le_add_left (by decide : 100 ≤ 200) _)))
end Lo

