theorem kc_b11 : (Int8.ofInt 11).toInt32 = 11 := by decide +kernel
theorem dX14_readFist_0 : decode cX14_readFist 0 = .ok (.aload_n 0, 1) := by decide +kernel
theorem dX14_readFist_1 : decode cX14_readFist 1 = .ok (.dup, 1) := by decide +kernel
theorem dX14_readFist_2 : decode cX14_readFist 2 = .ok (.getfield 116, 3) := by decide +kernel
theorem dX14_readFist_5 : decode cX14_readFist 5 = .ok (.iconst 1, 1) := by decide +kernel
theorem dX14_readFist_6 : decode cX14_readFist 6 = .ok (.iadd, 1) := by decide +kernel
theorem dX14_readFist_7 : decode cX14_readFist 7 = .ok (.putfield 116, 3) := by decide +kernel
theorem dX14_readFist_10 : decode cX14_readFist 10 = .ok (.aload_n 0, 1) := by decide +kernel
theorem dX14_readFist_11 : decode cX14_readFist 11 = .ok (.aload_n 0, 1) := by decide +kernel
theorem dX14_readFist_12 : decode cX14_readFist 12 = .ok (.getfield 42, 3) := by decide +kernel
theorem dX14_readFist_15 : decode cX14_readFist 15 = .ok (.aload_n 0, 1) := by decide +kernel
theorem dX14_readFist_16 : decode cX14_readFist 16 = .ok (.getfield 36, 3) := by decide +kernel
theorem dX14_readFist_19 : decode cX14_readFist 19 = .ok (.getfield 170, 3) := by decide +kernel
theorem dX14_readFist_22 : decode cX14_readFist 22 = .ok (.bipush 8, 2) := by decide +kernel
theorem dX14_readFist_24 : decode cX14_readFist 24 = .ok (.invokevirtual 222, 3) := by decide +kernel
theorem dX14_readFist_27 : decode cX14_readFist 27 = .ok (.istore_n 1, 1) := by decide +kernel
theorem dX14_readFist_28 : decode cX14_readFist 28 = .ok (.aload_n 0, 1) := by decide +kernel
theorem dX14_readFist_29 : decode cX14_readFist 29 = .ok (.bipush 10, 2) := by decide +kernel
theorem dX14_readFist_31 : decode cX14_readFist 31 = .ok (.iconst 1, 1) := by decide +kernel
theorem dX14_readFist_32 : decode cX14_readFist 32 = .ok (.bipush 60, 2) := by decide +kernel
theorem dX14_readFist_34 : decode cX14_readFist 34 = .ok (.invokevirtual 225, 3) := by decide +kernel
theorem dX14_readFist_37 : decode cX14_readFist 37 = .ok (.istore_n 2, 1) := by decide +kernel
theorem dX14_readFist_38 : decode cX14_readFist 38 = .ok (.aload_n 0, 1) := by decide +kernel
theorem dX14_readFist_39 : decode cX14_readFist 39 = .ok (.bipush 11, 2) := by decide +kernel
theorem dX14_readFist_41 : decode cX14_readFist 41 = .ok (.iconst 0, 1) := by decide +kernel
theorem dX14_readFist_42 : decode cX14_readFist 42 = .ok (.bipush 20, 2) := by decide +kernel
theorem dX14_readFist_44 : decode cX14_readFist 44 = .ok (.invokevirtual 225, 3) := by decide +kernel
theorem dX14_readFist_47 : decode cX14_readFist 47 = .ok (.istore_n 3, 1) := by decide +kernel
theorem dX14_readFist_48 : decode cX14_readFist 48 = .ok (.aload_n 0, 1) := by decide +kernel
theorem dX14_readFist_49 : decode cX14_readFist 49 = .ok (.bipush 12, 2) := by decide +kernel
theorem dX14_readFist_51 : decode cX14_readFist 51 = .ok (.iconst 0, 1) := by decide +kernel
theorem dX14_readFist_52 : decode cX14_readFist 52 = .ok (.bipush 9, 2) := by decide +kernel
theorem dX14_readFist_54 : decode cX14_readFist 54 = .ok (.invokevirtual 225, 3) := by decide +kernel
theorem dX14_readFist_57 : decode cX14_readFist 57 = .ok (.istore 4, 2) := by decide +kernel
theorem dX14_readFist_59 : decode cX14_readFist 59 = .ok (.aload_n 0, 1) := by decide +kernel
theorem dX14_readFist_60 : decode cX14_readFist 60 = .ok (.getfield 36, 3) := by decide +kernel
theorem dX14_readFist_63 : decode cX14_readFist 63 = .ok (.getfield 170, 3) := by decide +kernel
theorem dX14_readFist_66 : decode cX14_readFist 66 = .ok (.bipush 8, 2) := by decide +kernel
theorem dX14_readFist_68 : decode cX14_readFist 68 = .ok (.if_icmp .ne 4, 3) := by decide +kernel
theorem dX14_readFist_71 : decode cX14_readFist 71 = .ok (.return_, 1) := by decide +kernel
theorem dX14_readFist_72 : decode cX14_readFist 72 = .ok (.aload_n 0, 1) := by decide +kernel
theorem dX14_readFist_73 : decode cX14_readFist 73 = .ok (.getfield 36, 3) := by decide +kernel
theorem dX14_readFist_76 : decode cX14_readFist 76 = .ok (.getfield 240, 3) := by decide +kernel
theorem dX14_readFist_79 : decode cX14_readFist 79 = .ok (.iconst 3, 1) := by decide +kernel
theorem dX14_readFist_80 : decode cX14_readFist 80 = .ok (.aload_n 0, 1) := by decide +kernel
theorem dX14_readFist_81 : decode cX14_readFist 81 = .ok (.getfield 36, 3) := by decide +kernel
theorem dX14_readFist_84 : decode cX14_readFist 84 = .ok (.getfield 170, 3) := by decide +kernel
theorem dX14_readFist_87 : decode cX14_readFist 87 = .ok (.imul, 1) := by decide +kernel
theorem dX14_readFist_88 : decode cX14_readFist 88 = .ok (.iload_n 2, 1) := by decide +kernel
theorem dX14_readFist_89 : decode cX14_readFist 89 = .ok (.iload_n 3, 1) := by decide +kernel
theorem dX14_readFist_90 : decode cX14_readFist 90 = .ok (.iload 4, 2) := by decide +kernel
theorem dX14_readFist_92 : decode cX14_readFist 92 = .ok (.invokestatic 230, 3) := by decide +kernel
theorem dX14_readFist_95 : decode cX14_readFist 95 = .ok (.aload_n 0, 1) := by decide +kernel
theorem dX14_readFist_96 : decode cX14_readFist 96 = .ok (.getfield 42, 3) := by decide +kernel
theorem dX14_readFist_99 : decode cX14_readFist 99 = .ok (.aload_n 0, 1) := by decide +kernel
theorem dX14_readFist_100 : decode cX14_readFist 100 = .ok (.getfield 36, 3) := by decide +kernel
theorem dX14_readFist_103 : decode cX14_readFist 103 = .ok (.getfield 170, 3) := by decide +kernel
theorem dX14_readFist_106 : decode cX14_readFist 106 = .ok (.iload_n 1, 1) := by decide +kernel
theorem dX14_readFist_107 : decode cX14_readFist 107 = .ok (.iastore, 1) := by decide +kernel
theorem dX14_readFist_108 : decode cX14_readFist 108 = .ok (.aload_n 0, 1) := by decide +kernel
theorem dX14_readFist_109 : decode cX14_readFist 109 = .ok (.getfield 36, 3) := by decide +kernel
theorem dX14_readFist_112 : decode cX14_readFist 112 = .ok (.dup, 1) := by decide +kernel
theorem dX14_readFist_113 : decode cX14_readFist 113 = .ok (.getfield 170, 3) := by decide +kernel
theorem dX14_readFist_116 : decode cX14_readFist 116 = .ok (.iconst 1, 1) := by decide +kernel
theorem dX14_readFist_117 : decode cX14_readFist 117 = .ok (.iadd, 1) := by decide +kernel
theorem dX14_readFist_118 : decode cX14_readFist 118 = .ok (.putfield 170, 3) := by decide +kernel
theorem dX14_readFist_121 : decode cX14_readFist 121 = .ok (.return_, 1) := by decide +kernel
/-! the reference's readFist -/
section Rqf
variable {G : Gp} {S : AMem} {I I1 : Nat → Nat → Int32} {J : Nat → Nat → Int64} {R : Nat → Nat → Option Nat} {y bl nx : Nat} {T : Toks} {b : BL} {a k : Nat}
theorem kv_readFist {P1 P2 P3 P4 P5 : PS} {v1 : Int64} {x3 x4 x5 : Int32} {B1 : BL} (hG : okG G) (hC : MCc S R y bl nx) (h : PL I y nx T b a k) (hk : pK T b.P = 309) (q1 : pEx T 309 b.P = P1) (qv : pV T P1 = v1) (q2 : pNew T (bI (0 ≤ fndJ b.nf v1 0 b.B.nF)) (bI (8 ≤ b.B.nF)) P1 = P2) (q3 : pNum T 310 1 60 P2 = P3) (q4 : pNum T 311 0 20 P3 = P4) (q5 : pNum T 312 0 9 P4 = P5) (w3 : pW T 310 P2 = x3) (w4 : pW T 311 P3 = x4) (w5 : pW T 312 P4 = x5) (h0 : P5.2.1 = 0 → b.P.2.1 = 0 ∧ b.B.nF < 8) (hB0 : P5.2.1 = 0 → B1 = (P5, b.L, BSfist b.B, MSfist b.m b.B.nF x3 x4 x5, b.u, b.nr, up1 b.nf b.B.nF v1, b.np)) (hB1 : P5.2.1 ≠ 0 → B1 = BP b P5) : Fn G mX14_readFist 4 [vR y] (mw S I J R) (fun rr M1 => rr = none ∧ ∃ I1 a1 k1, M1 = mw S I1 J R ∧ PL I1 y nx T B1 a1 k1 ∧ a < a1 ∧ OffP y nx I I1) := by
  have ky := hC.1.1
  obtain ⟨kb, _, _, c5, _, _, _, _, _, _, _, ⟨kr1, lr1⟩, _⟩ := id hC.2.2.2.2.2.2.2.2.1
  have rn := hC.2.2.2.2.2.2.1
  obtain ⟨_, _, _, _, _, _, _, _, q10, q11, q12, _, ⟨k24, l24⟩, _⟩ := id hC.2.2.2.2.2.2.2.2.2
  obtain ⟨p1, p2, p3, p4, p5⟩ := hC.lo
  obtain ⟨h1, h2, h3⟩ := h
  have hg : b.P.2.1 ≠ 1 := PC.ng (s := (b.P, b.L)) (by decide) hk
  obtain ⟨a1, a2, a3, mr, mf, mp, nm, nA⟩ := h1.nmm hg
  obtain ⟨u0, t0, hu⟩ := h2 hg
  obtain ⟨_, ⟨nm1, nm2⟩, _, _, nm7, _⟩ := id nm
  have h13 := h1.2.1.1
  have hk4 : k ≤ 401 := by have := h1.2.1.2.2.2.1; have := h1.2.1.2.1; have := h1.1.2.1; omega
  have I2h : ∀ x j, up2 I y 13 (nI (a + 1)) x j = if x = y ∧ j = 13 then nI (a + 1) else I x j := fun x j => up2_at _ _
  obtain ⟨d1, d2⟩ := h1.eat (kk := 309) (I1 := up2 I y 13 (nI (a + 1))) hC hg hk (by decide) (by decide) I2h
  have d1' : PC (up2 I y 13 (nI (a + 1))) y nx T (ixB b) (b.B.nR, b.B.nF, b.B.nP) (P1, b.L) 0 (a + 1) k := by
    rw [← q1]
    exact d1
  have e0 : P1.2.1 = 0 → b.P.2.1 = 0 := fun z => by
    rw [← q1] at z
    exact (pEx_0 z).1
  have hfr : Fn G mX14_fresh 2 [vR y, vR (y + 25), vI (nI a2), vI 8] (mw S (up2 I y 13 (nI (a + 1))) J R) (fun rr M1 => ∃ w I1 a', rr = some (vI w) ∧ M1 = mw S I1 J R ∧ PC I1 y nx T (ixB b) (b.B.nR, b.B.nF, b.B.nP) (P2, b.L) 0 a' k ∧ a + 1 ≤ a' ∧ OffM y nx k (up2 I y 13 (nI (a + 1))) I1 ∧ (P2.2.1 ≠ 1 → w = nI (a + 1) ∧ T.k (a + 1) = 258 ∧ v1 = T.v (a + 1))) :=
    kn_new (f := mf) (f1 := bI (0 ≤ fndJ b.nf v1 0 b.B.nF)) (f2 := bI (8 ≤ b.B.nF)) hG hC d1' k24 (by omega) (by omega) (by omega) (by omega) (fun l hl => by rw [I2h, if_neg (by omega)]; exact nm7 l hl) q2 qv (fun z => by
      obtain ⟨⟨_, w1, _⟩, _, w4, _⟩ := (nA (e0 z)).on
      refine ⟨?_, ?_⟩
      · rw [fndJ_ge (by omega), w4]
      · rw [w1]
        exact nI_4 (q := 8) (by omega) (by decide) nm2)
  have n3 : ∀ (I : Nat → Nat → Int32) (a : Nat), PC I y nx T (ixB b) (b.B.nR, b.B.nF, b.B.nP) (P2, b.L) 0 a k → Fn G mX14_number_ 3 [vR y, vI 10, vI 1, vI 60] (mw S I J R) (fun rr M1 => ∃ w I1 a1, rr = some (vI w) ∧ M1 = mw S I1 J R ∧ PC I1 y nx T (ixB b) (b.B.nR, b.B.nF, b.B.nP) (P3, b.L) 0 a1 k ∧ a ≤ a1 ∧ OffM y nx k I I1 ∧ (P3.2.1 ≠ 1 → w = x3 ∧ a + 1 ≤ a1)) := fun I a h => kn_num (j0 := 10) (kw := 310) hG hC h (by decide) (by decide) q3 w3
  have n4 : ∀ (I : Nat → Nat → Int32) (a : Nat), PC I y nx T (ixB b) (b.B.nR, b.B.nF, b.B.nP) (P3, b.L) 0 a k → Fn G mX14_number_ 3 [vR y, vI 11, vI 0, vI 20] (mw S I J R) (fun rr M1 => ∃ w I1 a1, rr = some (vI w) ∧ M1 = mw S I1 J R ∧ PC I1 y nx T (ixB b) (b.B.nR, b.B.nF, b.B.nP) (P4, b.L) 0 a1 k ∧ a ≤ a1 ∧ OffM y nx k I I1 ∧ (P4.2.1 ≠ 1 → w = x4 ∧ a + 1 ≤ a1)) := fun I a h => kn_num (j0 := 11) (kw := 311) hG hC h (by decide) (by decide) q4 w4
  have n5 : ∀ (I : Nat → Nat → Int32) (a : Nat), PC I y nx T (ixB b) (b.B.nR, b.B.nF, b.B.nP) (P4, b.L) 0 a k → Fn G mX14_number_ 3 [vR y, vI 12, vI 0, vI 9] (mw S I J R) (fun rr M1 => ∃ w I1 a1, rr = some (vI w) ∧ M1 = mw S I1 J R ∧ PC I1 y nx T (ixB b) (b.B.nR, b.B.nF, b.B.nP) (P5, b.L) 0 a1 k ∧ a ≤ a1 ∧ OffM y nx k I I1 ∧ (P5.2.1 ≠ 1 → w = x5 ∧ a + 1 ≤ a1)) := fun I a h => kn_num (j0 := 12) (kw := 312) hG hC h (by decide) (by decide) q5 w5
  have hnx : P5.2.1 ≠ 1 → P4.2.1 ≠ 1 ∧ P3.2.1 ≠ 1 ∧ P2.2.1 ≠ 1 := fun z => by
    rw [← q5] at z
    have z4 := pNum_n1 (by decide) z
    have z4' := z4
    rw [← q4] at z4
    have z3 := pNum_n1 (by decide) z4
    have z3' := z3
    rw [← q3] at z3
    exact ⟨z4', z3', pNum_n1 (by decide) z3⟩
  clear q1 qv q2 q3 q4 q5 w3 w4 w5 d1 e0 hk hg h2
  refine am_aload_n (q := 1) dX14_readFist_0 rfl rfl ?_
  refine am_dup (q := 2) dX14_readFist_1 rfl rfl ?_
  refine cm_getI (q := 5) dX14_readFist_2 flX14_116 rfl (by assumption) rfl ?_
  rw [h13]
  refine am_iconst (q := 6) (v := 1) dX14_readFist_5 kc_i1 rfl ?_
  refine am_iadd (q := 7) dX14_readFist_6 rfl ?_
  refine cm_putI (q := 10) dX14_readFist_7 flX14_116 rfl (Or.inl rfl) (Or.inl rfl) (by assumption) rfl ?_
  rw [nI_1]
  generalize up2 I y 13 (nI (a + 1)) = I2 at I2h d1' d2 hfr ⊢
  have f0 : I2 nx 2 = nI a2 := by rw [I2h, if_neg (by omega)]; exact nm1
  refine am_aload_n (q := 11) dX14_readFist_10 rfl rfl ?_
  refine am_aload_n (q := 12) dX14_readFist_11 rfl rfl ?_
  refine cm_getR (q := 15) dX14_readFist_12 flX14_42 rfl (by assumption) (by assumption) rfl ?_
  refine am_aload_n (q := 16) dX14_readFist_15 rfl rfl ?_
  refine cm_getR (q := 19) dX14_readFist_16 flX14_36 rfl (by assumption) (by assumption) rfl ?_
  refine cm_getI (q := 22) dX14_readFist_19 flX14_170 rfl (by assumption) rfl ?_
  rw [f0]
  refine am_bipush (q := 24) (v := 8) dX14_readFist_22 kc_b8 rfl ?_
  refine cm_call0 (q := 27) (As := [_, _, _]) hG dX14_readFist_24 mlX14_222 rfl (by assumption) ⟨_, _, rfl⟩ (Nat.le_of_ble_eq_true rfl) (Nat.le_of_ble_eq_true rfl) (Nat.le_of_ble_eq_true rfl) (Nat.le_of_ble_eq_true rfl) hfr rfl ?_
  rintro _ _ ⟨tk, I3, e3, rfl, rfl, g1, g2, g3, g4⟩
  refine am_istore_n (q := 28) (ls1 := [_, _, _, _, _]) dX14_readFist_27 (Nat.le_of_ble_eq_true rfl) rfl rfl ?_
  have n3' := n3 I3 e3 g1
  refine am_aload_n (q := 29) dX14_readFist_28 rfl rfl ?_
  refine am_bipush (q := 31) (v := 10) dX14_readFist_29 kc_b10 rfl ?_
  refine am_iconst (q := 32) (v := 1) dX14_readFist_31 kc_i1 rfl ?_
  refine am_bipush (q := 34) (v := 60) dX14_readFist_32 kc_b60 rfl ?_
  refine cm_call0 (q := 37) (As := [_, _, _]) hG dX14_readFist_34 mlX14_225 rfl (by assumption) ⟨_, _, rfl⟩ (Nat.le_of_ble_eq_true rfl) (Nat.le_of_ble_eq_true rfl) (Nat.le_of_ble_eq_true rfl) (Nat.le_of_ble_eq_true rfl) n3' rfl ?_
  rintro _ _ ⟨y3, I4, e4, rfl, rfl, r1, r2, r3, r4⟩
  refine am_istore_n (q := 38) (ls1 := [_, _, _, _, _]) dX14_readFist_37 (Nat.le_of_ble_eq_true rfl) rfl rfl ?_
  have n4' := n4 I4 e4 r1
  refine am_aload_n (q := 39) dX14_readFist_38 rfl rfl ?_
  refine am_bipush (q := 41) (v := 11) dX14_readFist_39 kc_b11 rfl ?_
  refine am_iconst (q := 42) (v := 0) dX14_readFist_41 kc_i0 rfl ?_
  refine am_bipush (q := 44) (v := 20) dX14_readFist_42 kc_b20 rfl ?_
  refine cm_call0 (q := 47) (As := [_, _, _]) hG dX14_readFist_44 mlX14_225 rfl (by assumption) ⟨_, _, rfl⟩ (Nat.le_of_ble_eq_true rfl) (Nat.le_of_ble_eq_true rfl) (Nat.le_of_ble_eq_true rfl) (Nat.le_of_ble_eq_true rfl) n4' rfl ?_
  rintro _ _ ⟨y4, I5, e5, rfl, rfl, s1, s2, s3, s4⟩
  refine am_istore_n (q := 48) (ls1 := [_, _, _, _, _]) dX14_readFist_47 (Nat.le_of_ble_eq_true rfl) rfl rfl ?_
  have n5' := n5 I5 e5 s1
  refine am_aload_n (q := 49) dX14_readFist_48 rfl rfl ?_
  refine am_bipush (q := 51) (v := 12) dX14_readFist_49 kc_b12 rfl ?_
  refine am_iconst (q := 52) (v := 0) dX14_readFist_51 kc_i0 rfl ?_
  refine am_bipush (q := 54) (v := 9) dX14_readFist_52 kc_b9 rfl ?_
  refine cm_call0 (q := 57) (As := [_, _, _]) hG dX14_readFist_54 mlX14_225 rfl (by assumption) ⟨_, _, rfl⟩ (Nat.le_of_ble_eq_true rfl) (Nat.le_of_ble_eq_true rfl) (Nat.le_of_ble_eq_true rfl) (Nat.le_of_ble_eq_true rfl) n5' rfl ?_
  rintro _ _ ⟨y5, I6, e6, rfl, rfl, o1, o2, o3, o4⟩
  refine am_istore (q := 59) (ls1 := [_, _, _, _, _]) dX14_readFist_57 (Nat.le_of_ble_eq_true rfl) rfl rfl ?_
  clear n3 n4 n5 n3' n4' n5' hfr
  have off : OffM y nx k I I6 := (((d2.tr g3 (Nat.le_refl _)).tr r3 (Nat.le_refl _)).tr s3 (Nat.le_refl _)).tr o3 (Nat.le_refl _)
  have z0 : I6 nx 2 = nI a2 := (off _ _ (by omega) (by omega) (by omega)).trans nm1
  have hu6 : I6 nx 1 = nI u0 ∧ u0 ≤ 12 ∧ I6 nx 4 = nI t0 ∧ t0 ≤ 20 := ⟨(off _ _ (by omega) (by omega) (by omega)).trans hu.1, hu.2.1, (off _ _ (by omega) (by omega) (by omega)).trans hu.2.2.1, hu.2.2.2⟩
  have nm6 : NmM I6 y nx T a1 a2 a3 mr mf mp := nm.cg (fun j hj => off _ _ (by omega) (by omega) (by omega)) (fun x j q1 q2 => off _ _ (by omega) (by omega) (by omega))
  have lt : a < e6 := by omega
  have nz4 : a2 = 8 → P5.2.1 ≠ 0 := fun c q => by
    obtain ⟨z2, z3⟩ := h0 q
    have := (nA z2).on.1.2.1
    omega
  refine am_aload_n (q := 60) dX14_readFist_59 rfl rfl ?_
  refine cm_getR (q := 63) dX14_readFist_60 flX14_36 rfl (by assumption) (by assumption) rfl ?_
  refine cm_getI (q := 66) dX14_readFist_63 flX14_170 rfl (by assumption) rfl ?_
  rw [z0]
  by_cases c4 : a2 = 8
  · have nz := nz4 c4
    have fin : PL I6 y nx T B1 e6 k := by
      rw [hB1 nz]
      exact PL.bp o1 rfl rfl rfl rfl (fun _ => ⟨u0, t0, hu6⟩) nz
    subst c4
    clear nz nz4 h0 hB0 hB1 hnx g4 r4 s4 o4
    refine am_bipush (q := 68) (v := 8) dX14_readFist_66 kc_b8 rfl ?_
    refine am_icmp_ne (tgt := 72) (q := 71) dX14_readFist_68 rfl rfl (fun hz => absurd rfl hz) (fun _ => ?_)
    exact am_ret dX14_readFist_71 rfl ⟨_, rfl, rfl, I6, e6, k, rfl, fin, lt, off.p⟩
  · have c5 : a2 < 8 := by omega
    have rb6 : b.P.2.1 = 0 → NmA (ixB b) (b.B.nR, b.B.nF, b.B.nP) a1 a2 a3 mr mf mp ∧ RBx I6 nx b.B b.m b.u ∧ RBk I6 nx b.B k := fun q => ⟨nA q, (h3 q).1.om hC (h3 q).2 hk4 off, (h3 q).2.om hC off⟩
    have fin : PL (rwI I6 (nx + 3) (3 * a2) y3 y4 y5 (y + 25) a2 tk nx 2 (nI (a2 + 1))) y nx T B1 e6 k := PL.fist (t := a + 1) (v1 := v1) hC o1 c5 (fun q => by
        obtain ⟨_, _, z⟩ := hnx q
        obtain ⟨_, z2, z3⟩ := g4 z
        exact ⟨nm6, Tk_lt z2, z2, z3⟩) rb6 hu6 (fun q => (g4 (hnx q).2.2).1) (fun q => by
        exact h0 q) (fun q => by
        have q' : P5.2.1 ≠ 1 := by rw [q]; decide
        rw [(r4 (hnx q').2.1).1, (s4 (hnx q').1).1, (o4 q').1]
        exact hB0 q) hB1
    have ofw := off.p.tr (rwI_off (nx := nx) (y := y) (I := I6) (q := nx + 3) (p := 3 * a2) (u := y3) (v := y4) (w := y5) (nq := y + 25) (l := a2) (t := tk) (c := 2) (n := nI (a2 + 1)) (by omega) (by omega) (by omega) (by omega))
    have m3 : (3 : Int32) * nI a2 = nI (3 * a2) := k_mul 3 a2
    have cl : (nI a2).toNatClampNeg = a2 := nI_clamp (by omega)
    clear nz4 h0 hB0 hB1 hnx g4 r4 s4 o4 rb6 nA h3
    refine am_bipush (q := 68) (v := 8) dX14_readFist_66 kc_b8 rfl ?_
    refine am_icmp_ne (tgt := 72) (q := 71) dX14_readFist_68 rfl rfl (fun _ => ?_) (fun hz => absurd hz (k_ne (b := 8) (by omega) (by decide) c4))
    refine am_aload_n (q := 73) dX14_readFist_72 rfl rfl ?_
    refine cm_getR (q := 76) dX14_readFist_73 flX14_36 rfl (by assumption) (by assumption) rfl ?_
    refine cm_getR (q := 79) dX14_readFist_76 flX14_240 rfl (by assumption) (by assumption) rfl ?_
    refine am_iconst (q := 80) (v := 3) dX14_readFist_79 kc_i3 rfl ?_
    refine am_aload_n (q := 81) dX14_readFist_80 rfl rfl ?_
    refine cm_getR (q := 84) dX14_readFist_81 flX14_36 rfl (by assumption) (by assumption) rfl ?_
    refine cm_getI (q := 87) dX14_readFist_84 flX14_170 rfl (by assumption) rfl ?_
    rw [z0]
    refine am_imul (q := 88) dX14_readFist_87 rfl ?_
    rw [m3]
    refine am_iload_n (q := 89) dX14_readFist_88 rfl rfl ?_
    refine am_iload_n (q := 90) dX14_readFist_89 rfl rfl ?_
    refine am_iload (q := 92) dX14_readFist_90 rfl rfl ?_
    refine am_call1 (q := 95) (As := [_, _, _, _, _]) hG dX14_readFist_92 mlX14_230 rfl (Nat.le_of_ble_eq_true rfl) (Nat.le_of_ble_eq_true rfl) (Nat.le_of_ble_eq_true rfl) (k_X14_put kr1 (by omega) (by omega)) rfl ?_
    rintro _ _ ⟨rfl, rfl⟩
    have z7 : up2 (up2 (up2 I6 (nx + 3) (3 * a2) y3) (nx + 3) (3 * a2 + 1) y4) (nx + 3) (3 * a2 + 2) y5 nx 2 = nI a2 := by
      rw [up2_a (by omega), up2_a (by omega), up2_a (by omega)]
      exact z0
    refine am_aload_n (q := 96) dX14_readFist_95 rfl rfl ?_
    refine cm_getR (q := 99) dX14_readFist_96 flX14_42 rfl (by assumption) (by assumption) rfl ?_
    refine am_aload_n (q := 100) dX14_readFist_99 rfl rfl ?_
    refine cm_getR (q := 103) dX14_readFist_100 flX14_36 rfl (by assumption) (by assumption) rfl ?_
    refine cm_getI (q := 106) dX14_readFist_103 flX14_170 rfl (by assumption) rfl ?_
    rw [z7]
    refine am_iload_n (q := 107) dX14_readFist_106 rfl rfl ?_
    refine cm_iastore (q := 108) dX14_readFist_107 (by assumption) (vp_in_nI (by omega) (by omega)) rfl ?_
    rw [cl]
    refine am_aload_n (q := 109) dX14_readFist_108 rfl rfl ?_
    refine cm_getR (q := 112) dX14_readFist_109 flX14_36 rfl (by assumption) (by assumption) rfl ?_
    refine am_dup (q := 113) dX14_readFist_112 rfl rfl ?_
    refine cm_getI (q := 116) dX14_readFist_113 flX14_170 rfl (by assumption) rfl ?_
    rw [up2_a (by omega), z7]
    refine am_iconst (q := 117) (v := 1) dX14_readFist_116 kc_i1 rfl ?_
    refine am_iadd (q := 118) dX14_readFist_117 rfl ?_
    rw [nI_1]
    refine cm_putI (q := 121) dX14_readFist_118 flX14_170 rfl (Or.inl rfl) (Or.inl rfl) (by assumption) rfl ?_
    exact am_ret dX14_readFist_121 rfl ⟨_, rfl, rfl, rwI I6 (nx + 3) (3 * a2) y3 y4 y5 (y + 25) a2 tk nx 2 (nI (a2 + 1)), e6, k, rfl, fin, lt, ofw⟩
end Rqf

