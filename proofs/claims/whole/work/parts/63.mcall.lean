theorem dX14_pass_0 : decode cX14_pass 0 = .ok (.aload_n 0, 1) := by decide +kernel
theorem dX14_pass_1 : decode cX14_pass 1 = .ok (.iconst 0, 1) := by decide +kernel
theorem dX14_pass_2 : decode cX14_pass 2 = .ok (.putfield 58, 3) := by decide +kernel
theorem dX14_pass_5 : decode cX14_pass 5 = .ok (.iload_n 1, 1) := by decide +kernel
theorem dX14_pass_6 : decode cX14_pass 6 = .ok (.iconst 1, 1) := by decide +kernel
theorem dX14_pass_7 : decode cX14_pass 7 = .ok (.bipush 30, 2) := by decide +kernel
theorem dX14_pass_9 : decode cX14_pass 9 = .ok (.invokestatic 72, 3) := by decide +kernel
theorem dX14_pass_12 : decode cX14_pass 12 = .ok (.ifCond .ne 9, 3) := by decide +kernel
theorem dX14_pass_15 : decode cX14_pass 15 = .ok (.aload_n 0, 1) := by decide +kernel
theorem dX14_pass_16 : decode cX14_pass 16 = .ok (.iconst 1, 1) := by decide +kernel
theorem dX14_pass_17 : decode cX14_pass 17 = .ok (.invokevirtual 64, 3) := by decide +kernel
theorem dX14_pass_20 : decode cX14_pass 20 = .ok (.ireturn, 1) := by decide +kernel
theorem dX14_pass_21 : decode cX14_pass 21 = .ok (.aload_n 0, 1) := by decide +kernel
theorem dX14_pass_22 : decode cX14_pass 22 = .ok (.aload_n 0, 1) := by decide +kernel
theorem dX14_pass_23 : decode cX14_pass 23 = .ok (.getfield 51, 3) := by decide +kernel
theorem dX14_pass_26 : decode cX14_pass 26 = .ok (.invokevirtual 390, 3) := by decide +kernel
theorem dX14_pass_29 : decode cX14_pass 29 = .ok (.istore_n 2, 1) := by decide +kernel
theorem dX14_pass_30 : decode cX14_pass 30 = .ok (.aload_n 0, 1) := by decide +kernel
theorem dX14_pass_31 : decode cX14_pass 31 = .ok (.aload_n 0, 1) := by decide +kernel
theorem dX14_pass_32 : decode cX14_pass 32 = .ok (.getfield 51, 3) := by decide +kernel
theorem dX14_pass_35 : decode cX14_pass 35 = .ok (.iload_n 1, 1) := by decide +kernel
theorem dX14_pass_36 : decode cX14_pass 36 = .ok (.invokevirtual 393, 3) := by decide +kernel
theorem dX14_pass_39 : decode cX14_pass 39 = .ok (.aload_n 0, 1) := by decide +kernel
theorem dX14_pass_40 : decode cX14_pass 40 = .ok (.aload_n 0, 1) := by decide +kernel
theorem dX14_pass_41 : decode cX14_pass 41 = .ok (.getfield 51, 3) := by decide +kernel
theorem dX14_pass_44 : decode cX14_pass 44 = .ok (.invokevirtual 390, 3) := by decide +kernel
theorem dX14_pass_47 : decode cX14_pass 47 = .ok (.iload_n 2, 1) := by decide +kernel
theorem dX14_pass_48 : decode cX14_pass 48 = .ok (.isub, 1) := by decide +kernel
theorem dX14_pass_49 : decode cX14_pass 49 = .ok (.ireturn, 1) := by decide +kernel
theorem dX14_strike__0 : decode cX14_strike_ 0 = .ok (.aload_n 0, 1) := by decide +kernel
theorem dX14_strike__1 : decode cX14_strike_ 1 = .ok (.iconst 0, 1) := by decide +kernel
theorem dX14_strike__2 : decode cX14_strike_ 2 = .ok (.putfield 58, 3) := by decide +kernel
theorem dX14_strike__5 : decode cX14_strike_ 5 = .ok (.aload_n 0, 1) := by decide +kernel
theorem dX14_strike__6 : decode cX14_strike_ 6 = .ok (.iload_n 1, 1) := by decide +kernel
theorem dX14_strike__7 : decode cX14_strike_ 7 = .ok (.invokevirtual 378, 3) := by decide +kernel
theorem dX14_strike__10 : decode cX14_strike_ 10 = .ok (.ifCond .eq 11, 3) := by decide +kernel
theorem dX14_strike__13 : decode cX14_strike_ 13 = .ok (.aload_n 0, 1) := by decide +kernel
theorem dX14_strike__14 : decode cX14_strike_ 14 = .ok (.iload_n 2, 1) := by decide +kernel
theorem dX14_strike__15 : decode cX14_strike_ 15 = .ok (.invokevirtual 369, 3) := by decide +kernel
theorem dX14_strike__18 : decode cX14_strike_ 18 = .ok (.ifCond .ne 9, 3) := by decide +kernel
theorem dX14_strike__21 : decode cX14_strike_ 21 = .ok (.aload_n 0, 1) := by decide +kernel
theorem dX14_strike__22 : decode cX14_strike_ 22 = .ok (.iconst 1, 1) := by decide +kernel
theorem dX14_strike__23 : decode cX14_strike_ 23 = .ok (.invokevirtual 64, 3) := by decide +kernel
theorem dX14_strike__26 : decode cX14_strike_ 26 = .ok (.ireturn, 1) := by decide +kernel
theorem dX14_strike__27 : decode cX14_strike_ 27 = .ok (.aload_n 0, 1) := by decide +kernel
theorem dX14_strike__28 : decode cX14_strike_ 28 = .ok (.aload_n 0, 1) := by decide +kernel
theorem dX14_strike__29 : decode cX14_strike_ 29 = .ok (.getfield 51, 3) := by decide +kernel
theorem dX14_strike__32 : decode cX14_strike_ 32 = .ok (.iload_n 1, 1) := by decide +kernel
theorem dX14_strike__33 : decode cX14_strike_ 33 = .ok (.iload_n 2, 1) := by decide +kernel
theorem dX14_strike__34 : decode cX14_strike_ 34 = .ok (.invokevirtual 356, 3) := by decide +kernel
theorem dX14_strike__37 : decode cX14_strike_ 37 = .ok (.aload_n 0, 1) := by decide +kernel
theorem dX14_strike__38 : decode cX14_strike_ 38 = .ok (.getfield 51, 3) := by decide +kernel
theorem dX14_strike__41 : decode cX14_strike_ 41 = .ok (.getfield 274, 3) := by decide +kernel
theorem dX14_strike__44 : decode cX14_strike_ 44 = .ok (.ireturn, 1) := by decide +kernel
theorem dX14_wind_0 : decode cX14_wind 0 = .ok (.aload_n 0, 1) := by decide +kernel
theorem dX14_wind_1 : decode cX14_wind 1 = .ok (.iconst 0, 1) := by decide +kernel
theorem dX14_wind_2 : decode cX14_wind 2 = .ok (.putfield 58, 3) := by decide +kernel
theorem dX14_wind_5 : decode cX14_wind 5 = .ok (.aload_n 0, 1) := by decide +kernel
theorem dX14_wind_6 : decode cX14_wind 6 = .ok (.iload_n 1, 1) := by decide +kernel
theorem dX14_wind_7 : decode cX14_wind 7 = .ok (.invokevirtual 369, 3) := by decide +kernel
theorem dX14_wind_10 : decode cX14_wind 10 = .ok (.ifCond .ne 9, 3) := by decide +kernel
theorem dX14_wind_13 : decode cX14_wind 13 = .ok (.aload_n 0, 1) := by decide +kernel
theorem dX14_wind_14 : decode cX14_wind 14 = .ok (.iconst 1, 1) := by decide +kernel
theorem dX14_wind_15 : decode cX14_wind 15 = .ok (.invokevirtual 64, 3) := by decide +kernel
theorem dX14_wind_18 : decode cX14_wind 18 = .ok (.ireturn, 1) := by decide +kernel
theorem dX14_wind_19 : decode cX14_wind 19 = .ok (.iload_n 2, 1) := by decide +kernel
theorem dX14_wind_20 : decode cX14_wind 20 = .ok (.iconst 0, 1) := by decide +kernel
theorem dX14_wind_21 : decode cX14_wind 21 = .ok (.bipush 20, 2) := by decide +kernel
theorem dX14_wind_23 : decode cX14_wind 23 = .ok (.invokestatic 72, 3) := by decide +kernel
theorem dX14_wind_26 : decode cX14_wind 26 = .ok (.ifCond .ne 9, 3) := by decide +kernel
theorem dX14_wind_29 : decode cX14_wind 29 = .ok (.aload_n 0, 1) := by decide +kernel
theorem dX14_wind_30 : decode cX14_wind 30 = .ok (.iconst 2, 1) := by decide +kernel
theorem dX14_wind_31 : decode cX14_wind 31 = .ok (.invokevirtual 64, 3) := by decide +kernel
theorem dX14_wind_34 : decode cX14_wind 34 = .ok (.ireturn, 1) := by decide +kernel
theorem dX14_wind_35 : decode cX14_wind 35 = .ok (.aload_n 0, 1) := by decide +kernel
theorem dX14_wind_36 : decode cX14_wind 36 = .ok (.getfield 51, 3) := by decide +kernel
theorem dX14_wind_39 : decode cX14_wind 39 = .ok (.getfield 284, 3) := by decide +kernel
theorem dX14_wind_42 : decode cX14_wind 42 = .ok (.iconst 3, 1) := by decide +kernel
theorem dX14_wind_43 : decode cX14_wind 43 = .ok (.iload_n 1, 1) := by decide +kernel
theorem dX14_wind_44 : decode cX14_wind 44 = .ok (.imul, 1) := by decide +kernel
theorem dX14_wind_45 : decode cX14_wind 45 = .ok (.iaload, 1) := by decide +kernel
theorem dX14_wind_46 : decode cX14_wind 46 = .ok (.istore_n 3, 1) := by decide +kernel
theorem dX14_wind_47 : decode cX14_wind 47 = .ok (.aload_n 0, 1) := by decide +kernel
theorem dX14_wind_48 : decode cX14_wind 48 = .ok (.getfield 51, 3) := by decide +kernel
theorem dX14_wind_51 : decode cX14_wind 51 = .ok (.getfield 284, 3) := by decide +kernel
theorem dX14_wind_54 : decode cX14_wind 54 = .ok (.iconst 3, 1) := by decide +kernel
theorem dX14_wind_55 : decode cX14_wind 55 = .ok (.iload_n 1, 1) := by decide +kernel
theorem dX14_wind_56 : decode cX14_wind 56 = .ok (.imul, 1) := by decide +kernel
theorem dX14_wind_57 : decode cX14_wind 57 = .ok (.iload_n 2, 1) := by decide +kernel
theorem dX14_wind_58 : decode cX14_wind 58 = .ok (.iastore, 1) := by decide +kernel
theorem dX14_wind_59 : decode cX14_wind 59 = .ok (.iload_n 3, 1) := by decide +kernel
theorem dX14_wind_60 : decode cX14_wind 60 = .ok (.ireturn, 1) := by decide +kernel
/-! the reference's calls that change it, and what would be -/
theorem givM_row {B : BS} {m : MS} {f : Nat} : (givM B m f).row = m.row := by
  cases h : fpM B m 0 B.nP with
  | none => rw [givM_none h]
  | some k => rw [givM_some h]; rfl
theorem hitM_row {B : BS} {m : MS} {f r : Nat} : (hitM B m f r).row = m.row := by
  have hh : hitM B m f r = givM B (stkM B m f r) f := rfl
  rw [hh, givM_row]
  rfl
theorem PRm.row {B : BS} {m m1 : MS} (h : PRm B m) (e : m1.row = m.row) : PRm B m1 := by
  unfold PRm
  rw [e]
  exact h
theorem PRm.elb {B : BS} {m : MS} {k : Nat} (h : PRm B m) (h1 : 1 ≤ k) (h2 : k < B.nT) : PRm B (elb1 B m k) := by
  obtain ⟨a, b, c⟩ := h
  have e : ∀ j, (elb1 B m k).row j = if j = k - 1 then m.row k else if j = k then m.row (k - 1) else m.row j := fun j => rfl
  refine ⟨fun j hj => ?_, fun i j hi hj q => ?_, fun t ht => ?_⟩
  · rw [e]
    split
    · exact a k h2
    · split
      · exact a (k - 1) (by omega)
      · exact a j hj
  · rw [e, e] at q
    by_cases i1 : i = k - 1
    · rw [if_pos i1] at q
      by_cases j1 : j = k - 1
      · omega
      · rw [if_neg j1] at q
        by_cases j2 : j = k
        · rw [if_pos j2] at q
          have := b k (k - 1) h2 (by omega) q
          omega
        · rw [if_neg j2] at q
          have := b k j h2 hj q
          omega
    · rw [if_neg i1] at q
      by_cases i2 : i = k
      · rw [if_pos i2] at q
        by_cases j1 : j = k - 1
        · rw [if_pos j1] at q
          have := b (k - 1) k (by omega) h2 q
          omega
        · rw [if_neg j1] at q
          by_cases j2 : j = k
          · omega
          · rw [if_neg j2] at q
            have := b (k - 1) j (by omega) hj q
            omega
      · rw [if_neg i2] at q
        by_cases j1 : j = k - 1
        · rw [if_pos j1] at q
          have := b i k hi h2 q
          omega
        · rw [if_neg j1] at q
          by_cases j2 : j = k
          · rw [if_pos j2] at q
            have := b i (k - 1) hi (by omega) q
            omega
          · rw [if_neg j2] at q
            exact b i j hi hj q
  · obtain ⟨j, hj, ej⟩ := c t ht
    by_cases j1 : j = k - 1
    · refine ⟨k, h2, ?_⟩
      rw [e, if_neg (by omega), if_pos rfl, ← j1]
      exact ej
    · by_cases j2 : j = k
      · refine ⟨k - 1, by omega, ?_⟩
        rw [e, if_pos rfl, ← j2]
        exact ej
      · refine ⟨j, hj, ?_⟩
        rw [e, if_neg j1, if_neg j2]
        exact ej
theorem PRm.elbs {B : BS} : ∀ n k (m : MS), 1 ≤ k → k + n ≤ B.nT → PRm B m → PRm B (elbM B k n m) := by
  intro n
  induction n with
  | zero => intro k m _ _ h; exact h
  | succ n ih =>
    intro k m h1 h2 h
    show PRm B (elbM B (k + 1) n (if m.fist (B.tF (m.row (k - 1))) 2 + 2 < m.fist (B.tF (m.row k)) 2 then elb1 B m k else m))
    refine ih (k + 1) _ (by omega) (by omega) ?_
    split
    · exact h.elb h1 (by omega)
    · exact h
theorem trnM_row {B : BS} : ∀ n k (m : MS), (trnM B k n m).row = m.row := by
  intro n
  induction n with
  | zero => intro k m; rfl
  | succ n ih =>
    intro k m
    rw [trnM, ih]
    split
    · exact hitM_row
    · rfl
theorem PRm.rnd {B : BS} {m : MS} (h : PRm B m) : PRm B (rndM B m) := by
  have h1 : PRm B (elbM B 1 (B.nT - 1) m) := by
    by_cases hn : B.nT = 0
    · refine ⟨fun k hk => ?_, fun k l hk => ?_, fun t ht => ?_⟩ <;> omega
    · exact PRm.elbs _ _ _ (Nat.le_refl _) (by omega) h
  exact h1.row (m1 := rndM B m) (trnM_row _ _ _)
theorem PRm.ply {B : BS} : ∀ n (m : MS), PRm B m → PRm B (plyM B n m) := by
  intro n
  induction n with
  | zero => intro m h; exact h
  | succ n ih => intro m h; exact ih _ h.rnd
section Mc
variable {G : Gp} {S : AMem} {I I1 : Nat → Nat → Int32} {J : Nat → Nat → Int64} {R : Nat → Nat → Option Nat} {y bl nx : Nat} {s : XS}
/-- how it stands has changed -/
theorem AbY.chg {m1 : MS} (hC : MCc S R y bl nx) (h : AbY I y bl s) (hs : RS I1 (y + 27) s.B m1) (hst : Sst s.m m1) (hp : PRm s.B m1) (fr : ∀ x j, (x < y + 27 ∨ y + 39 ≤ x) → (x ≠ y ∨ j = 2 ∨ j = 3) → I1 x j = I x j) : AbY I1 y bl (s.E, s.B, m1, s.er) := by
  obtain ⟨p1, p2, p3, p4, p5⟩ := hC.lo
  obtain ⟨⟨a1, a2, a3⟩, a4, a5, a6, a7⟩ := h
  exact ⟨⟨(fr _ _ (by omega) (by omega)).trans a1, a2, fun i hi => (fr _ _ (by omega) (by omega)).trans (a3 i hi)⟩, (fr _ _ (by omega) (by omega)).trans a4, a5.st (fun x j p q => fr x j (by omega) (by omega)) hst, hs, hp⟩
theorem YQ.chg {v : AV} {th : Int32} {m1 : MS} (hC : MCc S R y bl nx) (h : AbY I y bl s) (hs : RS I1 (y + 27) s.B m1) (hst : Sst s.m m1) (hp : PRm s.B m1) (fr : ∀ x j, (x < y + 27 ∨ y + 39 ≤ x) → (x ≠ y ∨ j = 2 ∨ j = 3) → I1 x j = I x j) (ht : I1 y 0 = th) : YR S y I J R (v, (s.E, s.B, m1, s.er), th) (some v) (mw S I1 J R) := ⟨rfl, I1, R, rfl, ⟨bl, nx, hC, h.chg hC hs hst hp fr⟩, ht, fun x p => ⟨funext fun j => fr x j (by omega) (by omega), rfl⟩⟩
theorem MFr.c0 (h : MFr y (y + 27) (up2 I y 0 0) I1) : (∀ x j, (x < y + 27 ∨ y + 39 ≤ x) → (x ≠ y ∨ j = 2 ∨ j = 3) → I1 x j = I x j) ∧ I1 y 0 = 0 := by
  refine ⟨fun x j p q => ?_, ?_⟩
  · rw [h x j (by omega) (by omega), up2_at, if_neg (by omega)]
  · rw [h y 0 (by omega) (by omega)]
    exact up2_s
theorem k_X14_strike_ {i k : Int32} (hG : okG G) (h : YW S y s I R) : Fn G mX14_strike_ 406 [vR y, vI i, vI k] (mw S I J R) (YR S y I J R (if (0 ≤ i ∧ i < nI s.B.nF) ∧ 0 ≤ k ∧ k < nI s.B.nR then (vI ((hitM s.B s.m i.toNatClampNeg k.toNatClampNeg).g 1), (s.E, s.B, hitM s.B s.m i.toNatClampNeg k.toNatClampNeg, s.er), 0) else (vI 0, s, 1))) := by
  obtain ⟨bl, nx, hC, hA⟩ := h
  obtain ⟨p1, p2, p3, p4, p5⟩ := hC.lo
  have ky := hC.1.1
  have ry := hC.1.2.1
  have kb := hC.1.2.2.1
  have rs := hC.2.2.1
  have kz := hC.2.2.2.2.1.1
  have hA0 : AbY (up2 I y 0 0) y bl s := hA.clr hC
  have hB := hA0.2.2.1
  have uF := hB.1.2.1.2
  have uR := hB.1.1.2
  have no : MW G mX14_strike_ 406 21 [some (vR y), some (vI i), some (vI k)] [] (mw S (up2 I y 0 0) J R) (fun f M1 => ∃ r, f = .inl r ∧ YR S y I J R (vI 0, s, 1) r M1) := by
    refine am_aload_n (q := 22) dX14_strike__21 rfl rfl ?_
    refine am_iconst (q := 23) (v := 1) dX14_strike__22 kc_i1 rfl ?_
    refine cm_call0 (q := 26) (As := [_]) hG dX14_strike__23 mlX14_64 rfl (by assumption) ⟨_, _, rfl⟩ (Nat.le_of_ble_eq_true rfl) (Nat.le_of_ble_eq_true rfl) (Nat.le_of_ble_eq_true rfl) (Nat.le_of_ble_eq_true rfl) (k_X14_no ky) rfl ?_
    rintro _ _ ⟨rfl, rfl⟩
    exact am_iret dX14_strike__26 rfl rfl ⟨_, rfl, (YQ.cl2 hC hA)⟩
  refine am_aload_n (q := 1) dX14_strike__0 rfl rfl ?_
  refine am_iconst (q := 2) (v := 0) dX14_strike__1 kc_i0 rfl ?_
  refine cm_putI (q := 5) dX14_strike__2 flX14_58 rfl (Or.inl rfl) (Or.inl rfl) (by assumption) rfl ?_
  refine am_aload_n (q := 6) dX14_strike__5 rfl rfl ?_
  refine am_iload_n (q := 7) dX14_strike__6 rfl rfl ?_
  refine cm_call0 (q := 10) (As := [_]) hG dX14_strike__7 mlX14_378 rfl (by assumption) ⟨_, _, rfl⟩ (Nat.le_of_ble_eq_true rfl) (Nat.le_of_ble_eq_true rfl) (Nat.le_of_ble_eq_true rfl) (Nat.le_of_ble_eq_true rfl) (k_X14_isFist hG ky ry kb hB.1.2.1.1 uF) rfl ?_
  rintro _ _ ⟨rfl, rfl⟩
  refine am_if_eq (tgt := 21) (q := 13) dX14_strike__10 rfl rfl (fun h1 => ?_) (fun h1 => ?_)
  · rw [if_neg (fun q => bI_e0.mp h1 q.1)]
    exact no
  · refine am_aload_n (q := 14) dX14_strike__13 rfl rfl ?_
    refine am_iload_n (q := 15) dX14_strike__14 rfl rfl ?_
    refine cm_call0 (q := 18) (As := [_]) hG dX14_strike__15 mlX14_369 rfl (by assumption) ⟨_, _, rfl⟩ (Nat.le_of_ble_eq_true rfl) (Nat.le_of_ble_eq_true rfl) (Nat.le_of_ble_eq_true rfl) (Nat.le_of_ble_eq_true rfl) (k_X14_isRail hG ky ry kb hB.1.1.1 uR) rfl ?_
    rintro _ _ ⟨rfl, rfl⟩
    refine am_if_ne (tgt := 27) (q := 21) dX14_strike__18 rfl rfl (fun h2 => ?_) (fun h2 => ?_)
    · have h3 := bI_n0.mp h1
      have h4 := bI_n0.mp h2
      rw [if_pos ⟨h3, h4⟩]
      obtain ⟨f, hf, rfl⟩ := k_idx (by omega) h3
      obtain ⟨r, hr, rfl⟩ := k_idx (by omega) h4
      rw [nI_clamp (show f < 2 ^ 31 by omega), nI_clamp (show r < 2 ^ 31 by omega)]
      refine am_aload_n (q := 28) dX14_strike__27 rfl rfl ?_
      refine am_aload_n (q := 29) dX14_strike__28 rfl rfl ?_
      refine cm_getR (q := 32) dX14_strike__29 flX14_51 rfl (by assumption) (by assumption) rfl ?_
      refine am_iload_n (q := 33) dX14_strike__32 rfl rfl ?_
      refine am_iload_n (q := 34) dX14_strike__33 rfl rfl ?_
      refine cm_call0 (q := 37) (As := [_, _, _]) hG dX14_strike__34 mlX14_356 rfl (by assumption) ⟨_, _, rfl⟩ (Nat.le_of_ble_eq_true rfl) (Nat.le_of_ble_eq_true rfl) (Nat.le_of_ble_eq_true rfl) (Nat.le_of_ble_eq_true rfl) (k_X14_strike hG hC.1 hC.2.2.2.2.1 hB hA0.2.2.2.1 (by omega) hf hr) rfl ?_
      rintro _ _ ⟨rfl, I1, rfl, s1, f1⟩
      obtain ⟨f2, f3⟩ := f1.c0
      have e : I1 (y + 27) 3 = (hitM s.B s.m f r).g 1 := s1.1.2.2.2.1
      refine am_aload_n (q := 38) dX14_strike__37 rfl rfl ?_
      refine cm_getR (q := 41) dX14_strike__38 flX14_51 rfl (by assumption) (by assumption) rfl ?_
      refine cm_getI (q := 44) dX14_strike__41 flX14_274 rfl (by assumption) rfl ?_
      rw [e]
      exact am_iret dX14_strike__44 rfl rfl ⟨_, rfl, (YQ.chg hC hA s1 hitM_st (hA.2.2.2.2.row hitM_row) f2 f3)⟩
    · rw [if_neg (fun q => bI_e0.mp h2 q.2)]
      exact no
theorem wndM_st {m : MS} {r : Nat} {v : Int32} : Sst m (wndM m r v) := by
  refine ⟨fun i => ⟨rfl, rfl⟩, fun i => ⟨?_, ?_⟩⟩
  · show up2 m.rail r 2 v i 0 = _
    rw [up2_at, if_neg (by omega)]
  · show up2 m.rail r 2 v i 1 = _
    rw [up2_at, if_neg (by omega)]
theorem RS.wnd {z r : Nat} {v : Int32} {B : BS} {m : MS} (h : RS I z B m) (hr : r < B.nR) : RS (up2 I (z + 2) (3 * r) v) z B (wndM m r v) := by
  obtain ⟨⟨g0, g1, g2, g3, g4, g5, g6⟩, hbd, hra, hfi, hpr, hp0, hro⟩ := h
  refine ⟨⟨?_, ?_, ?_, ?_, ?_, ?_, g6⟩, fun k hk => ?_, fun k hk j hj => ?_, fun k hk j hj => ?_, fun k hk j hj => ?_, hp0, fun k hk => ?_⟩
  · rw [up2_a (by omega)]; exact g0
  · rw [up2_a (by omega)]; exact g1
  · rw [up2_a (by omega)]; exact g2
  · rw [up2_a (by omega)]; exact g3
  · rw [up2_a (by omega)]; exact g4
  · rw [up2_a (by omega)]; exact g5
  · rw [up2_a (by omega)]; exact hbd k hk
  · show _ = up2 m.rail r 2 v k (j + 2)
    rw [up2_at, up2_at]
    by_cases c : k = r ∧ j = 0
    · rw [if_pos (by omega), if_pos (by omega)]
    · rw [if_neg (by omega), if_neg (by omega)]
      exact hra k hk j hj
  · rw [up2_a (by omega)]; exact hfi k hk j hj
  · rw [up2_a (by omega)]; exact hpr k hk j hj
  · rw [up2_a (by omega)]; exact hro k hk
theorem k_X14_wind {k v : Int32} (hG : okG G) (h : YW S y s I R) : Fn G mX14_wind 406 [vR y, vI k, vI v] (mw S I J R) (YR S y I J R (if 0 ≤ k ∧ k < nI s.B.nR then (if 0 ≤ v ∧ v ≤ 20 then (vI (s.m.rail k.toNatClampNeg 2), (s.E, s.B, wndM s.m k.toNatClampNeg v, s.er), 0) else (vI 0, s, 2)) else (vI 0, s, 1))) := by
  obtain ⟨bl, nx, hC, hA⟩ := h
  obtain ⟨p1, p2, p3, p4, p5⟩ := hC.lo
  have ky := hC.1.1
  have ry := hC.1.2.1
  have kb := hC.1.2.2.1
  have rs := hC.2.2.1
  obtain ⟨kz, z6, z7, z8, z9, z10, _, ⟨kz2, lz2⟩, _⟩ := hC.2.2.2.2.1
  have hA0 : AbY (up2 I y 0 0) y bl s := hA.clr hC
  have hB := hA0.2.2.1
  have uR := hB.1.1.2
  refine am_aload_n (q := 1) dX14_wind_0 rfl rfl ?_
  refine am_iconst (q := 2) (v := 0) dX14_wind_1 kc_i0 rfl ?_
  refine cm_putI (q := 5) dX14_wind_2 flX14_58 rfl (Or.inl rfl) (Or.inl rfl) (by assumption) rfl ?_
  refine am_aload_n (q := 6) dX14_wind_5 rfl rfl ?_
  refine am_iload_n (q := 7) dX14_wind_6 rfl rfl ?_
  refine cm_call0 (q := 10) (As := [_]) hG dX14_wind_7 mlX14_369 rfl (by assumption) ⟨_, _, rfl⟩ (Nat.le_of_ble_eq_true rfl) (Nat.le_of_ble_eq_true rfl) (Nat.le_of_ble_eq_true rfl) (Nat.le_of_ble_eq_true rfl) (k_X14_isRail hG ky ry kb hB.1.1.1 uR) rfl ?_
  rintro _ _ ⟨rfl, rfl⟩
  refine am_if_ne (tgt := 19) (q := 13) dX14_wind_10 rfl rfl (fun h1 => ?_) (fun h1 => ?_)
  · have h3 := bI_n0.mp h1
    rw [if_pos h3]
    refine am_iload_n (q := 20) dX14_wind_19 rfl rfl ?_
    refine am_iconst (q := 21) (v := 0) dX14_wind_20 kc_i0 rfl ?_
    refine am_bipush (q := 23) (v := 20) dX14_wind_21 kc_b20 rfl ?_
    refine am_call1 (q := 26) (As := [_, _, _]) hG dX14_wind_23 mlX14_72 rfl (Nat.le_of_ble_eq_true rfl) (Nat.le_of_ble_eq_true rfl) (Nat.le_of_ble_eq_true rfl) k_X14_isIn rfl ?_
    rintro _ _ ⟨rfl, rfl⟩
    refine am_if_ne (tgt := 35) (q := 29) dX14_wind_26 rfl rfl (fun h2 => ?_) (fun h2 => ?_)
    · rw [if_pos (bI_n0.mp h2)]
      obtain ⟨r, hr, rfl⟩ := k_idx (by omega) h3
      rw [nI_clamp (show r < 2 ^ 31 by omega)]
      have e : (3 * nI r : Int32) = nI (3 * r) := k_mul 3 r
      have i0 : vp_in (nI (3 * r)) (S.ln (y + 27 + 2)) := by rw [lz2]; exact vp_in_nI (by omega) (by decide)
      refine am_aload_n (q := 36) dX14_wind_35 rfl rfl ?_
      refine cm_getR (q := 39) dX14_wind_36 flX14_51 rfl (by assumption) (by assumption) rfl ?_
      refine cm_getR (q := 42) dX14_wind_39 flX14_284 rfl (by assumption) (by assumption) rfl ?_
      refine am_iconst (q := 43) (v := 3) dX14_wind_42 kc_i3 rfl ?_
      refine am_iload_n (q := 44) dX14_wind_43 rfl rfl ?_
      refine am_imul (q := 45) dX14_wind_44 rfl ?_
      rw [e]
      refine cm_iaload (q := 46) dX14_wind_45 (by assumption) i0 rfl ?_
      rw [nI_clamp (show 3 * r < 2 ^ 31 by omega), show up2 I y 0 0 (y + 27 + 2) (3 * r) = s.m.rail r 2 from hA0.2.2.2.1.2.2.1 r hr 0 (by decide)]
      refine am_istore_n (q := 47) (ls1 := [_, _, _, _]) dX14_wind_46 (Nat.le_of_ble_eq_true rfl) rfl rfl ?_
      refine am_aload_n (q := 48) dX14_wind_47 rfl rfl ?_
      refine cm_getR (q := 51) dX14_wind_48 flX14_51 rfl (by assumption) (by assumption) rfl ?_
      refine cm_getR (q := 54) dX14_wind_51 flX14_284 rfl (by assumption) (by assumption) rfl ?_
      refine am_iconst (q := 55) (v := 3) dX14_wind_54 kc_i3 rfl ?_
      refine am_iload_n (q := 56) dX14_wind_55 rfl rfl ?_
      refine am_imul (q := 57) dX14_wind_56 rfl ?_
      rw [e]
      refine am_iload_n (q := 58) dX14_wind_57 rfl rfl ?_
      refine cm_iastore (q := 59) dX14_wind_58 (by assumption) i0 rfl ?_
      rw [nI_clamp (show 3 * r < 2 ^ 31 by omega)]
      refine am_iload_n (q := 60) dX14_wind_59 rfl rfl ?_
      exact am_iret dX14_wind_60 rfl rfl ⟨_, rfl, (YQ.chg hC hA (hA0.2.2.2.1.wnd hr) wndM_st (hA.2.2.2.2.row rfl) (fun x j p q => by rw [up2_a (by omega), up2_at, if_neg (by omega)]) (by rw [up2_a (by omega)]; exact up2_s))⟩
    · rw [if_neg (bI_e0.mp h2)]
      refine am_aload_n (q := 30) dX14_wind_29 rfl rfl ?_
      refine am_iconst (q := 31) (v := 2) dX14_wind_30 kc_i2 rfl ?_
      refine cm_call0 (q := 34) (As := [_]) hG dX14_wind_31 mlX14_64 rfl (by assumption) ⟨_, _, rfl⟩ (Nat.le_of_ble_eq_true rfl) (Nat.le_of_ble_eq_true rfl) (Nat.le_of_ble_eq_true rfl) (Nat.le_of_ble_eq_true rfl) (k_X14_no ky) rfl ?_
      rintro _ _ ⟨rfl, rfl⟩
      exact am_iret dX14_wind_34 rfl rfl ⟨_, rfl, (YQ.cl2 hC hA)⟩
  · rw [if_neg (bI_e0.mp h1)]
    refine am_aload_n (q := 14) dX14_wind_13 rfl rfl ?_
    refine am_iconst (q := 15) (v := 1) dX14_wind_14 kc_i1 rfl ?_
    refine cm_call0 (q := 18) (As := [_]) hG dX14_wind_15 mlX14_64 rfl (by assumption) ⟨_, _, rfl⟩ (Nat.le_of_ble_eq_true rfl) (Nat.le_of_ble_eq_true rfl) (Nat.le_of_ble_eq_true rfl) (Nat.le_of_ble_eq_true rfl) (k_X14_no ky) rfl ?_
    rintro _ _ ⟨rfl, rfl⟩
    exact am_iret dX14_wind_18 rfl rfl ⟨_, rfl, (YQ.cl2 hC hA)⟩
theorem rndM_st {B : BS} {m : MS} : Sst m (rndM B m) := ((elbM_st _ _ _).tr (trnM_st (B := B) B.nT 0 _)).tr rstM_st
theorem plyM_st {B : BS} : ∀ n (m : MS), Sst m (plyM B n m) := by
  intro n
  induction n with
  | zero => intro m; exact Sst.rf
  | succ n ih => intro m; exact rndM_st.tr (ih _)
theorem k_X14_pass {n : Int32} (hG : okG G) (h : YW S y s I R) : Fn G mX14_pass 406 [vR y, vI n] (mw S I J R) (YR S y I J R (if 1 ≤ n ∧ n ≤ 30 then (vI (gvnM s.B (plyM s.B n.toNatClampNeg s.m) - gvnM s.B s.m), (s.E, s.B, plyM s.B n.toNatClampNeg s.m, s.er), 0) else (vI 0, s, 1))) := by
  obtain ⟨bl, nx, hC, hA⟩ := h
  obtain ⟨p1, p2, p3, p4, p5⟩ := hC.lo
  have ky := hC.1.1
  have rs := hC.2.2.1
  have hA0 : AbY (up2 I y 0 0) y bl s := hA.clr hC
  have hB := hA0.2.2.1
  refine am_aload_n (q := 1) dX14_pass_0 rfl rfl ?_
  refine am_iconst (q := 2) (v := 0) dX14_pass_1 kc_i0 rfl ?_
  refine cm_putI (q := 5) dX14_pass_2 flX14_58 rfl (Or.inl rfl) (Or.inl rfl) (by assumption) rfl ?_
  refine am_iload_n (q := 6) dX14_pass_5 rfl rfl ?_
  refine am_iconst (q := 7) (v := 1) dX14_pass_6 kc_i1 rfl ?_
  refine am_bipush (q := 9) (v := 30) dX14_pass_7 kc_b30 rfl ?_
  refine am_call1 (q := 12) (As := [_, _, _]) hG dX14_pass_9 mlX14_72 rfl (Nat.le_of_ble_eq_true rfl) (Nat.le_of_ble_eq_true rfl) (Nat.le_of_ble_eq_true rfl) k_X14_isIn rfl ?_
  rintro _ _ ⟨rfl, rfl⟩
  refine am_if_ne (tgt := 21) (q := 15) dX14_pass_12 rfl rfl (fun h1 => ?_) (fun h1 => ?_)
  · have h3 := bI_n0.mp h1
    rw [if_pos h3]
    obtain ⟨j, hj, rfl⟩ := k_idx2 (v := 30) (n := 30) rfl (by decide) (fun q => Int32.lt_irrefl (Int32.lt_of_lt_of_le q (Int32.le_trans (by decide : (0 : Int32) ≤ 1) h3.1))) h3.2
    rw [nI_clamp (show j < 2 ^ 31 by omega)]
    refine am_aload_n (q := 22) dX14_pass_21 rfl rfl ?_
    refine am_aload_n (q := 23) dX14_pass_22 rfl rfl ?_
    refine cm_getR (q := 26) dX14_pass_23 flX14_51 rfl (by assumption) (by assumption) rfl ?_
    refine cm_call0 (q := 29) (As := [_]) hG dX14_pass_26 mlX14_390 rfl (by assumption) ⟨_, _, rfl⟩ (Nat.le_of_ble_eq_true rfl) (Nat.le_of_ble_eq_true rfl) (Nat.le_of_ble_eq_true rfl) (Nat.le_of_ble_eq_true rfl) (k_X14_given hC.1 hC.2.2.2.2.1 hB hA0.2.2.2.1) rfl ?_
    rintro _ _ ⟨rfl, rfl⟩
    refine am_istore_n (q := 30) (ls1 := [_, _, _]) dX14_pass_29 (Nat.le_of_ble_eq_true rfl) rfl rfl ?_
    refine am_aload_n (q := 31) dX14_pass_30 rfl rfl ?_
    refine am_aload_n (q := 32) dX14_pass_31 rfl rfl ?_
    refine cm_getR (q := 35) dX14_pass_32 flX14_51 rfl (by assumption) (by assumption) rfl ?_
    refine am_iload_n (q := 36) dX14_pass_35 rfl rfl ?_
    refine cm_call0 (q := 39) (As := [_, _]) hG dX14_pass_36 mlX14_393 rfl (by assumption) ⟨_, _, rfl⟩ (Nat.le_of_ble_eq_true rfl) (Nat.le_of_ble_eq_true rfl) (Nat.le_of_ble_eq_true rfl) (Nat.le_of_ble_eq_true rfl) (k_X14_rounds hG hC.1 hC.2.2.2.2.1 hB hA0.2.2.2.1 (by omega) (by omega)) rfl ?_
    rintro _ _ ⟨rfl, I1, rfl, s1, b1, f1⟩
    obtain ⟨f2, f3⟩ := f1.c0
    refine am_aload_n (q := 40) dX14_pass_39 rfl rfl ?_
    refine am_aload_n (q := 41) dX14_pass_40 rfl rfl ?_
    refine cm_getR (q := 44) dX14_pass_41 flX14_51 rfl (by assumption) (by assumption) rfl ?_
    refine cm_call0 (q := 47) (As := [_]) hG dX14_pass_44 mlX14_390 rfl (by assumption) ⟨_, _, rfl⟩ (Nat.le_of_ble_eq_true rfl) (Nat.le_of_ble_eq_true rfl) (Nat.le_of_ble_eq_true rfl) (Nat.le_of_ble_eq_true rfl) (k_X14_given hC.1 hC.2.2.2.2.1 b1 s1) rfl ?_
    rintro _ _ ⟨rfl, rfl⟩
    refine am_iload_n (q := 48) dX14_pass_47 rfl rfl ?_
    refine am_isub (q := 49) dX14_pass_48 rfl ?_
    exact am_iret dX14_pass_49 rfl rfl ⟨_, rfl, (YQ.chg hC hA s1 (plyM_st j s.m) (PRm.ply j s.m hA.2.2.2.2) f2 f3)⟩
  · rw [if_neg (bI_e0.mp h1)]
    refine am_aload_n (q := 16) dX14_pass_15 rfl rfl ?_
    refine am_iconst (q := 17) (v := 1) dX14_pass_16 kc_i1 rfl ?_
    refine cm_call0 (q := 20) (As := [_]) hG dX14_pass_17 mlX14_64 rfl (by assumption) ⟨_, _, rfl⟩ (Nat.le_of_ble_eq_true rfl) (Nat.le_of_ble_eq_true rfl) (Nat.le_of_ble_eq_true rfl) (Nat.le_of_ble_eq_true rfl) (k_X14_no ky) rfl ?_
    rintro _ _ ⟨rfl, rfl⟩
    exact am_iret dX14_pass_20 rfl rfl ⟨_, rfl, (YQ.cl2 hC hA)⟩
end Mc

