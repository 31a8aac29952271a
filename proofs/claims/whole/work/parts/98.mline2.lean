theorem kc_b13 : (Int8.ofInt 13).toInt32 = 13 := by decide +kernel
theorem kc_b17 : (Int8.ofInt 17).toInt32 = 17 := by decide +kernel
theorem dX14_line_0 : decode cX14_line 0 = .ok (.aload_n 0, 1) := by decide +kernel
theorem dX14_line_1 : decode cX14_line 1 = .ok (.iconst 2, 1) := by decide +kernel
theorem dX14_line_2 : decode cX14_line 2 = .ok (.iconst 0, 1) := by decide +kernel
theorem dX14_line_3 : decode cX14_line 3 = .ok (.invokevirtual 123, 3) := by decide +kernel
theorem dX14_line_6 : decode cX14_line 6 = .ok (.ifCond .eq 10, 3) := by decide +kernel
theorem dX14_line_9 : decode cX14_line 9 = .ok (.aload_n 0, 1) := by decide +kernel
theorem dX14_line_10 : decode cX14_line 10 = .ok (.invokevirtual 207, 3) := by decide +kernel
theorem dX14_line_13 : decode cX14_line 13 = .ok (.goto 74, 3) := by decide +kernel
theorem dX14_line_16 : decode cX14_line 16 = .ok (.aload_n 0, 1) := by decide +kernel
theorem dX14_line_17 : decode cX14_line 17 = .ok (.iconst 2, 1) := by decide +kernel
theorem dX14_line_18 : decode cX14_line 18 = .ok (.iconst 4, 1) := by decide +kernel
theorem dX14_line_19 : decode cX14_line 19 = .ok (.invokevirtual 123, 3) := by decide +kernel
theorem dX14_line_22 : decode cX14_line 22 = .ok (.ifCond .eq 10, 3) := by decide +kernel
theorem dX14_line_25 : decode cX14_line 25 = .ok (.aload_n 0, 1) := by decide +kernel
theorem dX14_line_26 : decode cX14_line 26 = .ok (.invokevirtual 210, 3) := by decide +kernel
theorem dX14_line_29 : decode cX14_line 29 = .ok (.goto 58, 3) := by decide +kernel
theorem dX14_line_32 : decode cX14_line 32 = .ok (.aload_n 0, 1) := by decide +kernel
theorem dX14_line_33 : decode cX14_line 33 = .ok (.iconst 2, 1) := by decide +kernel
theorem dX14_line_34 : decode cX14_line 34 = .ok (.bipush 9, 2) := by decide +kernel
theorem dX14_line_36 : decode cX14_line 36 = .ok (.invokevirtual 123, 3) := by decide +kernel
theorem dX14_line_39 : decode cX14_line 39 = .ok (.ifCond .eq 10, 3) := by decide +kernel
theorem dX14_line_42 : decode cX14_line 42 = .ok (.aload_n 0, 1) := by decide +kernel
theorem dX14_line_43 : decode cX14_line 43 = .ok (.invokevirtual 213, 3) := by decide +kernel
theorem dX14_line_46 : decode cX14_line 46 = .ok (.goto 41, 3) := by decide +kernel
theorem dX14_line_49 : decode cX14_line 49 = .ok (.aload_n 0, 1) := by decide +kernel
theorem dX14_line_50 : decode cX14_line 50 = .ok (.iconst 2, 1) := by decide +kernel
theorem dX14_line_51 : decode cX14_line 51 = .ok (.bipush 13, 2) := by decide +kernel
theorem dX14_line_53 : decode cX14_line 53 = .ok (.invokevirtual 123, 3) := by decide +kernel
theorem dX14_line_56 : decode cX14_line 56 = .ok (.ifCond .eq 10, 3) := by decide +kernel
theorem dX14_line_59 : decode cX14_line 59 = .ok (.aload_n 0, 1) := by decide +kernel
theorem dX14_line_60 : decode cX14_line 60 = .ok (.invokevirtual 216, 3) := by decide +kernel
theorem dX14_line_63 : decode cX14_line 63 = .ok (.goto 24, 3) := by decide +kernel
theorem dX14_line_66 : decode cX14_line 66 = .ok (.aload_n 0, 1) := by decide +kernel
theorem dX14_line_67 : decode cX14_line 67 = .ok (.iconst 2, 1) := by decide +kernel
theorem dX14_line_68 : decode cX14_line 68 = .ok (.bipush 17, 2) := by decide +kernel
theorem dX14_line_70 : decode cX14_line 70 = .ok (.invokevirtual 123, 3) := by decide +kernel
theorem dX14_line_73 : decode cX14_line 73 = .ok (.ifCond .eq 10, 3) := by decide +kernel
theorem dX14_line_76 : decode cX14_line 76 = .ok (.aload_n 0, 1) := by decide +kernel
theorem dX14_line_77 : decode cX14_line 77 = .ok (.invokevirtual 219, 3) := by decide +kernel
theorem dX14_line_80 : decode cX14_line 80 = .ok (.goto 7, 3) := by decide +kernel
theorem dX14_line_83 : decode cX14_line 83 = .ok (.aload_n 0, 1) := by decide +kernel
theorem dX14_line_84 : decode cX14_line 84 = .ok (.invokevirtual 127, 3) := by decide +kernel
theorem dX14_line_87 : decode cX14_line 87 = .ok (.aload_n 0, 1) := by decide +kernel
theorem dX14_line_88 : decode cX14_line 88 = .ok (.iconst 4, 1) := by decide +kernel
theorem dX14_line_89 : decode cX14_line 89 = .ok (.bipush 59, 2) := by decide +kernel
theorem dX14_line_91 : decode cX14_line 91 = .ok (.invokevirtual 152, 3) := by decide +kernel
theorem dX14_line_94 : decode cX14_line 94 = .ok (.return_, 1) := by decide +kernel
/-! the reference reads a line -/
section Lq
variable {G : Gp} {S : AMem} {I I1 : Nat → Nat → Int32} {J : Nat → Nat → Int64} {R : Nat → Nat → Option Nat} {y bl nx : Nat} {T : Toks} {b : BL} {a k : Nat}
theorem pEx_n1 {kw : Int32} {s : PS} (hk : kw ≠ 257) (h : (pEx T kw s).2.1 ≠ 1) : s.2.1 ≠ 1 := fun q => h (by rw [pEx_f1 hk q]; exact q)
theorem kF_n1 {V : PS × Cd → PS × Cd} (hV : KF1 V) {v : PS} {L : Cd} (h : (V (v, L)).1.2.1 ≠ 1) : v.2.1 ≠ 1 := fun q => h (by rw [hV (v, L) q]; exact q)
theorem k_X14_readRail (hG : okG G) (hC : MCc S R y bl nx) (h : PL I y nx T b a k) (hk : pK T b.P = 300) : Fn G mX14_readRail 4 [vR y] (mw S I J R) (fun rr M1 => rr = none ∧ ∃ I1 a1 k1, M1 = mw S I1 J R ∧ PL I1 y nx T (rdRail T b) a1 k1 ∧ a < a1 ∧ OffP y nx I I1) := by
  refine kv_readRail (P1 := rR1 T b) (P2 := rR2 T b) (P3 := rR3 T b) (P4 := rR4 T b) (P5 := rR5 T b) hG hC h hk ?_ rfl ?_ ?_ ?_ ?_ rfl rfl rfl (fun q => (rR_0 q).2) ?_ ?_
  · unfold rR1; rfl
  · unfold rR2; rfl
  · unfold rR3; rfl
  · unfold rR4; rfl
  · unfold rR5; rfl
  · intro c
    unfold rdRail
    rw [if_pos c]
  · intro c
    unfold rdRail
    rw [if_neg c]
theorem rF_0 (h : (rF5 T b).2.1 = 0) : b.P.2.1 = 0 ∧ b.B.nF < 8 := by
  unfold rF5 at h
  obtain ⟨g1, _⟩ := pNum_0 h
  unfold rF4 at g1
  obtain ⟨g2, _⟩ := pNum_0 g1
  unfold rF3 at g2
  obtain ⟨g5, _⟩ := pNum_0 g2
  unfold rF2 at g5
  obtain ⟨g9, _, _, g6, _⟩ := pNew_0 g5
  unfold rF1 at g9
  exact ⟨(pEx_0 g9).1, Nat.not_le.mp (bI_e0.mp g6)⟩
theorem k_X14_readFist (hG : okG G) (hC : MCc S R y bl nx) (h : PL I y nx T b a k) (hk : pK T b.P = 309) : Fn G mX14_readFist 4 [vR y] (mw S I J R) (fun rr M1 => rr = none ∧ ∃ I1 a1 k1, M1 = mw S I1 J R ∧ PL I1 y nx T (rdFist T b) a1 k1 ∧ a < a1 ∧ OffP y nx I I1) := by
  refine kv_readFist (P1 := rF1 T b) (P2 := rF2 T b) (P3 := rF3 T b) (P4 := rF4 T b) (P5 := rF5 T b) hG hC h hk ?_ rfl ?_ ?_ ?_ ?_ rfl rfl rfl rF_0 ?_ ?_
  · unfold rF1; rfl
  · unfold rF2; rfl
  · unfold rF3; rfl
  · unfold rF4; rfl
  · unfold rF5; rfl
  · intro c
    unfold rdFist
    rw [if_pos c]
  · intro c
    unfold rdFist
    rw [if_neg c]
theorem rU_0 (h : (rU5 T b).2.1 = 0) : b.P.2.1 = 0 ∧ ¬ 12 ≤ b.u ∧ ∃ i, i < b.B.nR ∧ rUi T b = nI i := by
  unfold rU5 at h
  obtain ⟨g1, _⟩ := pNum_0 h
  unfold rU4 at g1
  obtain ⟨g2, _⟩ := pTo_0 g1
  unfold rU3 at g2
  obtain ⟨g3, _⟩ := pNum_0 g2
  unfold rU2 at g3
  obtain ⟨g4, _, g5, _⟩ := pKn_0 g3
  unfold rU1 at g4
  obtain ⟨g6, _⟩ := pEx_0 g4
  obtain ⟨g7, _⟩ := pEx_0 g6
  unfold rU0 at g7
  obtain ⟨g8, _, g9⟩ := pIf_0 (by decide) g7
  obtain ⟨i, hi, ei, _⟩ := pIx_0 (i := rUi T b) rfl g5
  exact ⟨g9, g8, i, hi, ei⟩
theorem k_X14_readRust (hG : okG G) (hC : MCc S R y bl nx) (h : PL I y nx T b a k) (hk : pK T b.P = 304) : Fn G mX14_readRust 4 [vR y] (mw S I J R) (fun rr M1 => rr = none ∧ ∃ I1 a1 k1, M1 = mw S I1 J R ∧ PL I1 y nx T (rdRust T b) a1 k1 ∧ a < a1 ∧ OffP y nx I I1) := by
  refine kv_readRust (P0 := rU0 T b) (P0' := pEx T 304 (rU0 T b)) (P1 := rU1 T b) (P2 := rU2 T b) (P3 := rU3 T b) (P4 := rU4 T b) (P5 := rU5 T b) (ri := rUi T b) hG hC h hk ?_ rfl ?_ rfl ?_ ?_ ?_ ?_ rfl rfl rfl rU_0 ?_ ?_
  · unfold rU0; rfl
  · unfold rU1; rfl
  · unfold rU2; rfl
  · unfold rU3; rfl
  · unfold rU4; rfl
  · unfold rU5; rfl
  · intro c
    unfold rdRust
    rw [if_pos c]
  · intro c
    unfold rdRust
    rw [if_neg c]
theorem rP_0 (h : (rPt T b).1.2.1 = 0) : ((rP3 T b).2.1 = 0 ∧ (rPw T b).1.2.1 = 0) ∧ b.P.2.1 = 0 ∧ b.B.nP < 8 ∧ 0 ≤ pW T 315 (rPw T b).1 := by
  unfold rPt at h
  have g1 := eTs_er (eSng_0 8) h
  unfold rP4 at g1
  have g2 := (pEx_0 g1).1
  have g2' := g2
  unfold rP3 at g2
  obtain ⟨g3, _, _, _, h3, h4, _⟩ := pNum_0 g2
  have g3' := g3
  unfold rPw at g3
  have g4 := eSu_er (eVal_0 8) g3
  unfold rP2 at g4
  have g5 := (pEx_0 g4).1
  unfold rPn at g5
  obtain ⟨g9, _, _, g6, _⟩ := pNew_0 g5
  unfold rP1 at g9
  exact ⟨⟨g2', g3'⟩, (pEx_0 g9).1, Nat.not_le.mp (bI_e0.mp g6), (k_rng h3 h4).1⟩
theorem rP_n (h : (rPt T b).1.2.1 ≠ 1) : (rP3 T b).2.1 ≠ 1 ∧ (rPn T b).2.1 ≠ 1 := by
  unfold rPt at h
  have g1 := kF_n1 (eTs_f1 (eSng_f1 8)) h
  unfold rP4 at g1
  have g2 := pEx_n1 (by decide) g1
  have g2' := g2
  unfold rP3 at g2
  have g3 := pNum_n1 (by decide) g2
  unfold rPw at g3
  have g4 := kF_n1 (eSu_f1 (eVal_f1 8)) g3
  unfold rP2 at g4
  exact ⟨g2', pEx_n1 (by decide) g4⟩
theorem k_X14_readPrize (hG : okG G) (hC : MCc S R y bl nx) (h : PL I y nx T b a k) (hk : pK T b.P = 313) : Fn G mX14_readPrize 47 [vR y] (mw S I J R) (fun rr M1 => rr = none ∧ ∃ I1 a1 k1, M1 = mw S I1 J R ∧ PL I1 y nx T (rdPrize T b) a1 k1 ∧ a < a1 ∧ OffP y nx I I1) := by
  refine kv_readPrize (P1 := rP1 T b) (P2 := rPn T b) (P3 := rP2 T b) (W := rPw T b) (P5 := rP3 T b) (P6 := rP4 T b) (Z := rPt T b) hG hC h hk (k_sum0M hG hC) (k_test0M hG hC) ?_ rfl ?_ ?_ ?_ ?_ rfl ?_ ?_ rP_n rP_0 ?_ ?_
  · unfold rP1; rfl
  · unfold rPn; rfl
  · unfold rP2; rfl
  · unfold rPw; rfl
  · unfold rP3; rfl
  · unfold rP4; rfl
  · unfold rPt; rfl
  · intro c
    unfold rdPrize
    rw [if_pos c]
  · intro c
    unfold rdPrize
    rw [if_neg c]
theorem rT_0 (h : (rTt T b).1.2.1 = 0) : (((rT3 T b).2.1 = 0 → (rT2 T b).2.1 = 0) ∧ (rT4 T b).2.1 = 0 ∧ (rT3 T b).2.1 = 0) ∧ b.P.2.1 = 0 ∧ ¬ 20 ≤ b.B.nT ∧ (∃ i, i < b.B.nF ∧ rTf T b = nI i) ∧ ∃ i, i < b.B.nR ∧ rTr T b = nI i := by
  have g4 : (rT4 T b).2.1 = 0 := by
    unfold rTt at h
    by_cases c : pK T (rT4 T b) = 316
    · rw [if_pos c] at h
      exact (pEx_0 (eTs_er (eSng_0 8) h)).1
    · rw [if_neg c] at h
      dsimp only at h
      exact h
  have g4' := g4
  unfold rT4 at g4
  obtain ⟨g3, _, g5, _⟩ := pKn_0 g4
  have g3' := g3
  unfold rT3 at g3
  have g2 := (pEx_0 g3).1
  have g2' := g2
  unfold rT2 at g2
  obtain ⟨g1, _, g6, _⟩ := pKn_0 g2
  unfold rT1 at g1
  have g0 := (pEx_0 g1).1
  unfold rT0 at g0
  obtain ⟨g8, _, g9⟩ := pIf_0 (by decide) g0
  obtain ⟨i, hi, ei, _⟩ := pIx_0 (i := rTf T b) rfl g6
  obtain ⟨i2, hi2, ei2, _⟩ := pIx_0 (i := rTr T b) rfl g5
  exact ⟨⟨fun _ => g2', g4', g3'⟩, g9, g8, ⟨i, hi, ei⟩, i2, hi2, ei2⟩
theorem k_X14_readTurn (hG : okG G) (hC : MCc S R y bl nx) (h : PL I y nx T b a k) (hk : pK T b.P = 317) : Fn G mX14_readTurn 47 [vR y] (mw S I J R) (fun rr M1 => rr = none ∧ ∃ I1 a1 k1, M1 = mw S I1 J R ∧ PL I1 y nx T (rdTurn T b) a1 k1 ∧ a < a1 ∧ OffP y nx I I1) := by
  refine kv_readTurn (P0 := rT0 T b) (P1 := rT1 T b) (P2 := rT2 T b) (P3 := rT3 T b) (P4 := rT4 T b) (P5 := pEx T 316 (rT4 T b)) (Z := rTt T b) (fi := rTf T b) (ri := rTr T b) hG hC h hk (k_test0M hG hC) ?_ ?_ rfl ?_ ?_ rfl ?_ rfl ?_ ?_ rT_0 ?_ ?_
  · unfold rT0; rfl
  · unfold rT1; rfl
  · unfold rT2; rfl
  · unfold rT3; rfl
  · unfold rT4; rfl
  · intro c
    unfold rTt
    rw [if_pos c]
  · intro c
    unfold rTt
    rw [if_neg c]
  · intro c
    unfold rdTurn
    rw [if_pos c]
  · intro c
    unfold rdTurn
    rw [if_neg c]
/-- the reader alone goes on -/
theorem PL.go {P : PS} {a1 : Nat} (hC : MCc S R y bl nx) (h : PL I y nx T b a k) (h1 : PC I1 y nx T (ixB b) (b.B.nR, b.B.nF, b.B.nP) (P, b.L) 0 a1 k) (off : OffM y nx k I I1) (h0 : P.2.1 = 0 → b.P.2.1 = 0) (hn : P.2.1 ≠ 1 → b.P.2.1 ≠ 1) : PL I1 y nx T (BP b P) a1 k := by
  obtain ⟨p1, p2, p3, p4, p5⟩ := hC.lo
  have hk4 : k ≤ 401 := by have := h1.2.1.2.2.2.1; have := h1.2.1.2.1; have := h1.1.2.1; omega
  obtain ⟨_, g2, g3⟩ := h
  refine ⟨h1, fun q => ?_, fun q => ⟨(g3 (h0 q)).1.om hC (g3 (h0 q)).2 hk4 off, (g3 (h0 q)).2.om hC off⟩⟩
  obtain ⟨u, t, e1, e2, e3, e4⟩ := g2 (hn q)
  exact ⟨u, t, (off _ _ (by omega) (by omega) (by omega)).trans e1, e2, (off _ _ (by omega) (by omega) (by omega)).trans e3, e4⟩
/-- a line, and what stands behind it -/
theorem k_X14_line (hG : okG G) (hC : MCc S R y bl nx) (h : PL I y nx T b a k) (hg : b.P.2.1 ≠ 1) : Fn G mX14_line 48 [vR y] (mw S I J R) (fun rr M1 => rr = none ∧ ∃ I1 a1 k1, M1 = mw S I1 J R ∧ PL I1 y nx T (rdNext T b) a1 k1 ∧ ((rdNext T b).P.2.1 ≠ 1 → a < a1) ∧ OffP y nx I I1) := by
  have ky := hC.1.1
  have fin : ∀ (b1 : BL) (I2 : Nat → Nat → Int32) (a2 k2 : Nat), rdLine T b = b1 → PL I2 y nx T b1 a2 k2 → (b1.P.2.1 ≠ 1 → a < a2) → OffP y nx I I2 → MW G mX14_line 48 87 [some (vR y)] [] (mw S I2 J R) (fun f M1 => ∃ rr, f = .inl rr ∧ (rr = none ∧ ∃ I1 a1 k1, M1 = mw S I1 J R ∧ PL I1 y nx T (rdNext T b) a1 k1 ∧ ((rdNext T b).P.2.1 ≠ 1 → a < a1) ∧ OffP y nx I I1)) := by
    intro b1 I2 a2 k2 e1 h2 lt o2
    have e2 : rdNext T b = BP b1 (pEx T 59 b1.P) := by
      unfold rdNext
      rw [e1]
    rw [e2]
    clear e1 e2
    have tk := k_X14_take (J := J) (w := 4) (o := 59) (kk := 59) hG hC h2.1 (by decide) (by decide) (sg_all (c := 59) (by decide))
    refine am_aload_n (q := 88) dX14_line_87 rfl rfl ?_
    refine am_iconst (q := 89) (v := 4) dX14_line_88 kc_i4 rfl ?_
    refine am_bipush (q := 91) (v := 59) dX14_line_89 kc_b59 rfl ?_
    refine cm_call0 (q := 94) (As := [_, _]) hG dX14_line_91 mlX14_152 rfl (by assumption) ⟨_, _, rfl⟩ (Nat.le_of_ble_eq_true rfl) (Nat.le_of_ble_eq_true rfl) (Nat.le_of_ble_eq_true rfl) (Nat.le_of_ble_eq_true rfl) tk rfl ?_
    rintro _ _ ⟨rfl, I3, a3, rfl, g1, g2, g3⟩
    exact am_ret dX14_line_94 rfl ⟨_, rfl, rfl, I3, a3, k2, rfl, h2.go hC g1 g3 (fun q => (pEx_0 q).1) (fun q => pEx_n1 (by decide) q), fun q => Nat.lt_of_lt_of_le (lt (pEx_n1 (by decide) q)) g2, o2.tr g3.p⟩
  have is := fun (j kk : Nat) (w : Int32) (q : Int32) (hj : j < 32) (e1 : q = nI (300 + j)) (e2 : w = nI j) => k_X14_is (J := J) (w := 2) (o := w) (kk := q) hG hC h.1 (by rw [e1]; exact k_ne (b := 257) (by omega) (by decide) (by omega)) (by rw [e1, e2]; exact ky_all hj)
  have i0 := is 0 0 0 300 (by decide) (by decide) (by decide)
  have i4 := is 4 0 4 304 (by decide) (by decide) (by decide)
  have i9 := is 9 0 9 309 (by decide) (by decide) (by decide)
  have i13 := is 13 0 13 313 (by decide) (by decide) (by decide)
  have i17 := is 17 0 17 317 (by decide) (by decide) (by decide)
  have eP : ((b.P, b.L) : PS × Cd).1 = b.P := rfl
  rw [eP] at i0 i4 i9 i13 i17
  clear is
  by_cases c0 : pK T b.P = 300
  · rw [bI_t c0] at i0
    have el : rdLine T b = rdRail T b := by
      unfold rdLine
      rw [if_pos c0]
    have f := fun I2 a2 k2 => fin _ I2 a2 k2 el
    have m := k_X14_readRail (J := J) hG hC h c0
    clear fin i4 i9 i13 i17 c0 hg el
    generalize rdRail T b = b1 at f m
    refine am_aload_n (q := 1) dX14_line_0 rfl rfl ?_
    refine am_iconst (q := 2) (v := 2) dX14_line_1 kc_i2 rfl ?_
    refine am_iconst (q := 3) (v := 0) dX14_line_2 kc_i0 rfl ?_
    refine cm_call0 (q := 6) (As := [_, _]) hG dX14_line_3 mlX14_123 rfl (by assumption) ⟨_, _, rfl⟩ (Nat.le_of_ble_eq_true rfl) (Nat.le_of_ble_eq_true rfl) (Nat.le_of_ble_eq_true rfl) (Nat.le_of_ble_eq_true rfl) i0 rfl ?_
    rintro _ _ ⟨rfl, rfl⟩
    refine am_if_eq (tgt := 16) (q := 9) dX14_line_6 rfl rfl (fun hz => absurd hz (by decide)) (fun _ => ?_)
    refine am_aload_n (q := 10) dX14_line_9 rfl rfl ?_
    refine cm_call0 (q := 13) (As := []) hG dX14_line_10 mlX14_207 rfl (by assumption) ⟨_, _, rfl⟩ (Nat.le_of_ble_eq_true rfl) (Nat.le_of_ble_eq_true rfl) (Nat.le_of_ble_eq_true rfl) (Nat.le_of_ble_eq_true rfl) m rfl ?_
    rintro _ _ ⟨rfl, I2, a2, k2, rfl, g1, g2, g3⟩
    refine am_goto (tgt := 87) dX14_line_13 rfl ?_
    exact f I2 a2 k2 g1 (fun _ => g2) g3
  · rw [bI_f c0] at i0
    refine am_aload_n (q := 1) dX14_line_0 rfl rfl ?_
    refine am_iconst (q := 2) (v := 2) dX14_line_1 kc_i2 rfl ?_
    refine am_iconst (q := 3) (v := 0) dX14_line_2 kc_i0 rfl ?_
    refine cm_call0 (q := 6) (As := [_, _]) hG dX14_line_3 mlX14_123 rfl (by assumption) ⟨_, _, rfl⟩ (Nat.le_of_ble_eq_true rfl) (Nat.le_of_ble_eq_true rfl) (Nat.le_of_ble_eq_true rfl) (Nat.le_of_ble_eq_true rfl) i0 rfl ?_
    rintro _ _ ⟨rfl, rfl⟩
    refine am_if_eq (tgt := 16) (q := 9) dX14_line_6 rfl rfl (fun _ => ?_) (fun hz => absurd rfl hz)
    clear i0
    by_cases c4 : pK T b.P = 304
    · rw [bI_t c4] at i4
      have el : rdLine T b = rdRust T b := by
        unfold rdLine
        rw [if_neg c0, if_pos c4]
      have f := fun I2 a2 k2 => fin _ I2 a2 k2 el
      have m := k_X14_readRust (J := J) hG hC h c4
      clear fin i9 i13 i17 c0 c4 hg el
      generalize rdRust T b = b1 at f m
      refine am_aload_n (q := 17) dX14_line_16 rfl rfl ?_
      refine am_iconst (q := 18) (v := 2) dX14_line_17 kc_i2 rfl ?_
      refine am_iconst (q := 19) (v := 4) dX14_line_18 kc_i4 rfl ?_
      refine cm_call0 (q := 22) (As := [_, _]) hG dX14_line_19 mlX14_123 rfl (by assumption) ⟨_, _, rfl⟩ (Nat.le_of_ble_eq_true rfl) (Nat.le_of_ble_eq_true rfl) (Nat.le_of_ble_eq_true rfl) (Nat.le_of_ble_eq_true rfl) i4 rfl ?_
      rintro _ _ ⟨rfl, rfl⟩
      refine am_if_eq (tgt := 32) (q := 25) dX14_line_22 rfl rfl (fun hz => absurd hz (by decide)) (fun _ => ?_)
      refine am_aload_n (q := 26) dX14_line_25 rfl rfl ?_
      refine cm_call0 (q := 29) (As := []) hG dX14_line_26 mlX14_210 rfl (by assumption) ⟨_, _, rfl⟩ (Nat.le_of_ble_eq_true rfl) (Nat.le_of_ble_eq_true rfl) (Nat.le_of_ble_eq_true rfl) (Nat.le_of_ble_eq_true rfl) m rfl ?_
      rintro _ _ ⟨rfl, I2, a2, k2, rfl, g1, g2, g3⟩
      refine am_goto (tgt := 87) dX14_line_29 rfl ?_
      exact f I2 a2 k2 g1 (fun _ => g2) g3
    · rw [bI_f c4] at i4
      refine am_aload_n (q := 17) dX14_line_16 rfl rfl ?_
      refine am_iconst (q := 18) (v := 2) dX14_line_17 kc_i2 rfl ?_
      refine am_iconst (q := 19) (v := 4) dX14_line_18 kc_i4 rfl ?_
      refine cm_call0 (q := 22) (As := [_, _]) hG dX14_line_19 mlX14_123 rfl (by assumption) ⟨_, _, rfl⟩ (Nat.le_of_ble_eq_true rfl) (Nat.le_of_ble_eq_true rfl) (Nat.le_of_ble_eq_true rfl) (Nat.le_of_ble_eq_true rfl) i4 rfl ?_
      rintro _ _ ⟨rfl, rfl⟩
      refine am_if_eq (tgt := 32) (q := 25) dX14_line_22 rfl rfl (fun _ => ?_) (fun hz => absurd rfl hz)
      clear i4
      by_cases c9 : pK T b.P = 309
      · rw [bI_t c9] at i9
        have el : rdLine T b = rdFist T b := by
          unfold rdLine
          rw [if_neg c0, if_neg c4, if_pos c9]
        have f := fun I2 a2 k2 => fin _ I2 a2 k2 el
        have m := k_X14_readFist (J := J) hG hC h c9
        clear fin i13 i17 c0 c4 c9 hg el
        generalize rdFist T b = b1 at f m
        refine am_aload_n (q := 33) dX14_line_32 rfl rfl ?_
        refine am_iconst (q := 34) (v := 2) dX14_line_33 kc_i2 rfl ?_
        refine am_bipush (q := 36) (v := 9) dX14_line_34 kc_b9 rfl ?_
        refine cm_call0 (q := 39) (As := [_, _]) hG dX14_line_36 mlX14_123 rfl (by assumption) ⟨_, _, rfl⟩ (Nat.le_of_ble_eq_true rfl) (Nat.le_of_ble_eq_true rfl) (Nat.le_of_ble_eq_true rfl) (Nat.le_of_ble_eq_true rfl) i9 rfl ?_
        rintro _ _ ⟨rfl, rfl⟩
        refine am_if_eq (tgt := 49) (q := 42) dX14_line_39 rfl rfl (fun hz => absurd hz (by decide)) (fun _ => ?_)
        refine am_aload_n (q := 43) dX14_line_42 rfl rfl ?_
        refine cm_call0 (q := 46) (As := []) hG dX14_line_43 mlX14_213 rfl (by assumption) ⟨_, _, rfl⟩ (Nat.le_of_ble_eq_true rfl) (Nat.le_of_ble_eq_true rfl) (Nat.le_of_ble_eq_true rfl) (Nat.le_of_ble_eq_true rfl) m rfl ?_
        rintro _ _ ⟨rfl, I2, a2, k2, rfl, g1, g2, g3⟩
        refine am_goto (tgt := 87) dX14_line_46 rfl ?_
        exact f I2 a2 k2 g1 (fun _ => g2) g3
      · rw [bI_f c9] at i9
        refine am_aload_n (q := 33) dX14_line_32 rfl rfl ?_
        refine am_iconst (q := 34) (v := 2) dX14_line_33 kc_i2 rfl ?_
        refine am_bipush (q := 36) (v := 9) dX14_line_34 kc_b9 rfl ?_
        refine cm_call0 (q := 39) (As := [_, _]) hG dX14_line_36 mlX14_123 rfl (by assumption) ⟨_, _, rfl⟩ (Nat.le_of_ble_eq_true rfl) (Nat.le_of_ble_eq_true rfl) (Nat.le_of_ble_eq_true rfl) (Nat.le_of_ble_eq_true rfl) i9 rfl ?_
        rintro _ _ ⟨rfl, rfl⟩
        refine am_if_eq (tgt := 49) (q := 42) dX14_line_39 rfl rfl (fun _ => ?_) (fun hz => absurd rfl hz)
        clear i9
        by_cases c13 : pK T b.P = 313
        · rw [bI_t c13] at i13
          have el : rdLine T b = rdPrize T b := by
            unfold rdLine
            rw [if_neg c0, if_neg c4, if_neg c9, if_pos c13]
          have f := fun I2 a2 k2 => fin _ I2 a2 k2 el
          have m := k_X14_readPrize (J := J) hG hC h c13
          clear fin i17 c0 c4 c9 c13 hg el
          generalize rdPrize T b = b1 at f m
          refine am_aload_n (q := 50) dX14_line_49 rfl rfl ?_
          refine am_iconst (q := 51) (v := 2) dX14_line_50 kc_i2 rfl ?_
          refine am_bipush (q := 53) (v := 13) dX14_line_51 kc_b13 rfl ?_
          refine cm_call0 (q := 56) (As := [_, _]) hG dX14_line_53 mlX14_123 rfl (by assumption) ⟨_, _, rfl⟩ (Nat.le_of_ble_eq_true rfl) (Nat.le_of_ble_eq_true rfl) (Nat.le_of_ble_eq_true rfl) (Nat.le_of_ble_eq_true rfl) i13 rfl ?_
          rintro _ _ ⟨rfl, rfl⟩
          refine am_if_eq (tgt := 66) (q := 59) dX14_line_56 rfl rfl (fun hz => absurd hz (by decide)) (fun _ => ?_)
          refine am_aload_n (q := 60) dX14_line_59 rfl rfl ?_
          refine cm_call0 (q := 63) (As := []) hG dX14_line_60 mlX14_216 rfl (by assumption) ⟨_, _, rfl⟩ (Nat.le_of_ble_eq_true rfl) (Nat.le_of_ble_eq_true rfl) (Nat.le_of_ble_eq_true rfl) (Nat.le_of_ble_eq_true rfl) m rfl ?_
          rintro _ _ ⟨rfl, I2, a2, k2, rfl, g1, g2, g3⟩
          refine am_goto (tgt := 87) dX14_line_63 rfl ?_
          exact f I2 a2 k2 g1 (fun _ => g2) g3
        · rw [bI_f c13] at i13
          refine am_aload_n (q := 50) dX14_line_49 rfl rfl ?_
          refine am_iconst (q := 51) (v := 2) dX14_line_50 kc_i2 rfl ?_
          refine am_bipush (q := 53) (v := 13) dX14_line_51 kc_b13 rfl ?_
          refine cm_call0 (q := 56) (As := [_, _]) hG dX14_line_53 mlX14_123 rfl (by assumption) ⟨_, _, rfl⟩ (Nat.le_of_ble_eq_true rfl) (Nat.le_of_ble_eq_true rfl) (Nat.le_of_ble_eq_true rfl) (Nat.le_of_ble_eq_true rfl) i13 rfl ?_
          rintro _ _ ⟨rfl, rfl⟩
          refine am_if_eq (tgt := 66) (q := 59) dX14_line_56 rfl rfl (fun _ => ?_) (fun hz => absurd rfl hz)
          clear i13
          by_cases c17 : pK T b.P = 317
          · rw [bI_t c17] at i17
            have el : rdLine T b = rdTurn T b := by
              unfold rdLine
              rw [if_neg c0, if_neg c4, if_neg c9, if_neg c13, if_pos c17]
            have f := fun I2 a2 k2 => fin _ I2 a2 k2 el
            have m := k_X14_readTurn (J := J) hG hC h c17
            clear fin c0 c4 c9 c13 c17 hg el
            generalize rdTurn T b = b1 at f m
            refine am_aload_n (q := 67) dX14_line_66 rfl rfl ?_
            refine am_iconst (q := 68) (v := 2) dX14_line_67 kc_i2 rfl ?_
            refine am_bipush (q := 70) (v := 17) dX14_line_68 kc_b17 rfl ?_
            refine cm_call0 (q := 73) (As := [_, _]) hG dX14_line_70 mlX14_123 rfl (by assumption) ⟨_, _, rfl⟩ (Nat.le_of_ble_eq_true rfl) (Nat.le_of_ble_eq_true rfl) (Nat.le_of_ble_eq_true rfl) (Nat.le_of_ble_eq_true rfl) i17 rfl ?_
            rintro _ _ ⟨rfl, rfl⟩
            refine am_if_eq (tgt := 83) (q := 76) dX14_line_73 rfl rfl (fun hz => absurd hz (by decide)) (fun _ => ?_)
            refine am_aload_n (q := 77) dX14_line_76 rfl rfl ?_
            refine cm_call0 (q := 80) (As := []) hG dX14_line_77 mlX14_219 rfl (by assumption) ⟨_, _, rfl⟩ (Nat.le_of_ble_eq_true rfl) (Nat.le_of_ble_eq_true rfl) (Nat.le_of_ble_eq_true rfl) (Nat.le_of_ble_eq_true rfl) m rfl ?_
            rintro _ _ ⟨rfl, I2, a2, k2, rfl, g1, g2, g3⟩
            refine am_goto (tgt := 87) dX14_line_80 rfl ?_
            exact f I2 a2 k2 g1 (fun _ => g2) g3
          · rw [bI_f c17] at i17
            have el : rdLine T b = BP b (pRef T b.P) := by
              unfold rdLine
              rw [if_neg c0, if_neg c4, if_neg c9, if_neg c13, if_neg c17]
            have f := fun I2 a2 k2 => fin _ I2 a2 k2 el
            have hz : b.P.2.1 ≠ 1 ∧ True := ⟨hg, trivial⟩
            clear fin c0 c4 c9 c13 c17 hg el
            refine am_aload_n (q := 67) dX14_line_66 rfl rfl ?_
            refine am_iconst (q := 68) (v := 2) dX14_line_67 kc_i2 rfl ?_
            refine am_bipush (q := 70) (v := 17) dX14_line_68 kc_b17 rfl ?_
            refine cm_call0 (q := 73) (As := [_, _]) hG dX14_line_70 mlX14_123 rfl (by assumption) ⟨_, _, rfl⟩ (Nat.le_of_ble_eq_true rfl) (Nat.le_of_ble_eq_true rfl) (Nat.le_of_ble_eq_true rfl) (Nat.le_of_ble_eq_true rfl) i17 rfl ?_
            rintro _ _ ⟨rfl, rfl⟩
            refine am_if_eq (tgt := 83) (q := 76) dX14_line_73 rfl rfl (fun _ => ?_) (fun hz => absurd rfl hz)
            refine am_aload_n (q := 84) dX14_line_83 rfl rfl ?_
            refine cm_call0 (q := 87) (As := []) hG dX14_line_84 mlX14_127 rfl (by assumption) ⟨_, _, rfl⟩ (Nat.le_of_ble_eq_true rfl) (Nat.le_of_ble_eq_true rfl) (Nat.le_of_ble_eq_true rfl) (Nat.le_of_ble_eq_true rfl) (k_X14_fail hC h.1) rfl ?_
            rintro _ _ ⟨rfl, I2, rfl, g1, g2⟩
            refine f I2 a k (h.go hC g1 g2 (fun q => ?_) (fun _ => hz.1)) (fun q => absurd pRef_1 q) g2.p
            have q2 : (pRef T b.P).2.1 = 0 := q
            rw [pRef_1] at q2
            exact absurd q2 (by decide)
end Lq

