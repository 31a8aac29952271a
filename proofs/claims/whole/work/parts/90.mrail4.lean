theorem dX14_readRail_0 : decode cX14_readRail 0 = .ok (.aload_n 0, 1) := by decide +kernel
theorem dX14_readRail_1 : decode cX14_readRail 1 = .ok (.dup, 1) := by decide +kernel
theorem dX14_readRail_2 : decode cX14_readRail 2 = .ok (.getfield 116, 3) := by decide +kernel
theorem dX14_readRail_5 : decode cX14_readRail 5 = .ok (.iconst 1, 1) := by decide +kernel
theorem dX14_readRail_6 : decode cX14_readRail 6 = .ok (.iadd, 1) := by decide +kernel
theorem dX14_readRail_7 : decode cX14_readRail 7 = .ok (.putfield 116, 3) := by decide +kernel
theorem dX14_readRail_10 : decode cX14_readRail 10 = .ok (.aload_n 0, 1) := by decide +kernel
theorem dX14_readRail_11 : decode cX14_readRail 11 = .ok (.aload_n 0, 1) := by decide +kernel
theorem dX14_readRail_12 : decode cX14_readRail 12 = .ok (.getfield 39, 3) := by decide +kernel
theorem dX14_readRail_15 : decode cX14_readRail 15 = .ok (.aload_n 0, 1) := by decide +kernel
theorem dX14_readRail_16 : decode cX14_readRail 16 = .ok (.getfield 36, 3) := by decide +kernel
theorem dX14_readRail_19 : decode cX14_readRail 19 = .ok (.getfield 177, 3) := by decide +kernel
theorem dX14_readRail_22 : decode cX14_readRail 22 = .ok (.iconst 4, 1) := by decide +kernel
theorem dX14_readRail_23 : decode cX14_readRail 23 = .ok (.invokevirtual 222, 3) := by decide +kernel
theorem dX14_readRail_26 : decode cX14_readRail 26 = .ok (.istore_n 1, 1) := by decide +kernel
theorem dX14_readRail_27 : decode cX14_readRail 27 = .ok (.aload_n 0, 1) := by decide +kernel
theorem dX14_readRail_28 : decode cX14_readRail 28 = .ok (.iconst 1, 1) := by decide +kernel
theorem dX14_readRail_29 : decode cX14_readRail 29 = .ok (.bipush 20, 2) := by decide +kernel
theorem dX14_readRail_31 : decode cX14_readRail 31 = .ok (.bipush 99, 2) := by decide +kernel
theorem dX14_readRail_33 : decode cX14_readRail 33 = .ok (.invokevirtual 225, 3) := by decide +kernel
theorem dX14_readRail_36 : decode cX14_readRail 36 = .ok (.istore_n 2, 1) := by decide +kernel
theorem dX14_readRail_37 : decode cX14_readRail 37 = .ok (.aload_n 0, 1) := by decide +kernel
theorem dX14_readRail_38 : decode cX14_readRail 38 = .ok (.iconst 2, 1) := by decide +kernel
theorem dX14_readRail_39 : decode cX14_readRail 39 = .ok (.iconst 1, 1) := by decide +kernel
theorem dX14_readRail_40 : decode cX14_readRail 40 = .ok (.bipush 9, 2) := by decide +kernel
theorem dX14_readRail_42 : decode cX14_readRail 42 = .ok (.invokevirtual 225, 3) := by decide +kernel
theorem dX14_readRail_45 : decode cX14_readRail 45 = .ok (.istore_n 3, 1) := by decide +kernel
theorem dX14_readRail_46 : decode cX14_readRail 46 = .ok (.aload_n 0, 1) := by decide +kernel
theorem dX14_readRail_47 : decode cX14_readRail 47 = .ok (.iconst 3, 1) := by decide +kernel
theorem dX14_readRail_48 : decode cX14_readRail 48 = .ok (.iconst 0, 1) := by decide +kernel
theorem dX14_readRail_49 : decode cX14_readRail 49 = .ok (.bipush 20, 2) := by decide +kernel
theorem dX14_readRail_51 : decode cX14_readRail 51 = .ok (.invokevirtual 225, 3) := by decide +kernel
theorem dX14_readRail_54 : decode cX14_readRail 54 = .ok (.istore 4, 2) := by decide +kernel
theorem dX14_readRail_56 : decode cX14_readRail 56 = .ok (.aload_n 0, 1) := by decide +kernel
theorem dX14_readRail_57 : decode cX14_readRail 57 = .ok (.getfield 36, 3) := by decide +kernel
theorem dX14_readRail_60 : decode cX14_readRail 60 = .ok (.getfield 177, 3) := by decide +kernel
theorem dX14_readRail_63 : decode cX14_readRail 63 = .ok (.iconst 4, 1) := by decide +kernel
theorem dX14_readRail_64 : decode cX14_readRail 64 = .ok (.if_icmp .ne 4, 3) := by decide +kernel
theorem dX14_readRail_67 : decode cX14_readRail 67 = .ok (.return_, 1) := by decide +kernel
theorem dX14_readRail_68 : decode cX14_readRail 68 = .ok (.aload_n 0, 1) := by decide +kernel
theorem dX14_readRail_69 : decode cX14_readRail 69 = .ok (.getfield 36, 3) := by decide +kernel
theorem dX14_readRail_72 : decode cX14_readRail 72 = .ok (.getfield 227, 3) := by decide +kernel
theorem dX14_readRail_75 : decode cX14_readRail 75 = .ok (.iconst 3, 1) := by decide +kernel
theorem dX14_readRail_76 : decode cX14_readRail 76 = .ok (.aload_n 0, 1) := by decide +kernel
theorem dX14_readRail_77 : decode cX14_readRail 77 = .ok (.getfield 36, 3) := by decide +kernel
theorem dX14_readRail_80 : decode cX14_readRail 80 = .ok (.getfield 177, 3) := by decide +kernel
theorem dX14_readRail_83 : decode cX14_readRail 83 = .ok (.imul, 1) := by decide +kernel
theorem dX14_readRail_84 : decode cX14_readRail 84 = .ok (.iload_n 2, 1) := by decide +kernel
theorem dX14_readRail_85 : decode cX14_readRail 85 = .ok (.iload_n 3, 1) := by decide +kernel
theorem dX14_readRail_86 : decode cX14_readRail 86 = .ok (.iload 4, 2) := by decide +kernel
theorem dX14_readRail_88 : decode cX14_readRail 88 = .ok (.invokestatic 230, 3) := by decide +kernel
theorem dX14_readRail_91 : decode cX14_readRail 91 = .ok (.aload_n 0, 1) := by decide +kernel
theorem dX14_readRail_92 : decode cX14_readRail 92 = .ok (.getfield 39, 3) := by decide +kernel
theorem dX14_readRail_95 : decode cX14_readRail 95 = .ok (.aload_n 0, 1) := by decide +kernel
theorem dX14_readRail_96 : decode cX14_readRail 96 = .ok (.getfield 36, 3) := by decide +kernel
theorem dX14_readRail_99 : decode cX14_readRail 99 = .ok (.getfield 177, 3) := by decide +kernel
theorem dX14_readRail_102 : decode cX14_readRail 102 = .ok (.iload_n 1, 1) := by decide +kernel
theorem dX14_readRail_103 : decode cX14_readRail 103 = .ok (.iastore, 1) := by decide +kernel
theorem dX14_readRail_104 : decode cX14_readRail 104 = .ok (.aload_n 0, 1) := by decide +kernel
theorem dX14_readRail_105 : decode cX14_readRail 105 = .ok (.getfield 36, 3) := by decide +kernel
theorem dX14_readRail_108 : decode cX14_readRail 108 = .ok (.dup, 1) := by decide +kernel
theorem dX14_readRail_109 : decode cX14_readRail 109 = .ok (.getfield 177, 3) := by decide +kernel
theorem dX14_readRail_112 : decode cX14_readRail 112 = .ok (.iconst 1, 1) := by decide +kernel
theorem dX14_readRail_113 : decode cX14_readRail 113 = .ok (.iadd, 1) := by decide +kernel
theorem dX14_readRail_114 : decode cX14_readRail 114 = .ok (.putfield 177, 3) := by decide +kernel
theorem dX14_readRail_117 : decode cX14_readRail 117 = .ok (.return_, 1) := by decide +kernel
/-! the reference's readRail -/
section Rq
variable {G : Gp} {S : AMem} {I I1 : Nat → Nat → Int32} {J : Nat → Nat → Int64} {R : Nat → Nat → Option Nat} {y bl nx : Nat} {T : Toks} {b : BL} {a k : Nat}
theorem Tk_lt {i : Nat} (h : T.k i = 258) : i < T.n := by
  unfold Toks.k at h
  by_cases c : i < T.n
  · exact c
  · rw [if_neg c] at h
    exact absurd h (by decide)
theorem rwI_off {q p nq l c : Nat} {u v w t n : Int32} (h1 : nx ≤ q) (h2 : q < nx + 9) (h3 : y + 24 ≤ nq) (h4 : nq ≤ y + 26) : OffP y nx I (rwI I q p u v w nq l t nx c n) := fun x j e1 e2 e3 => by
  unfold rwI
  rw [up2_a (by omega), up2_a (by omega), up2_a (by omega), up2_a (by omega), up2_a (by omega)]
theorem kv_readRail {P1 P2 P3 P4 P5 : PS} {v1 : Int64} {x3 x4 x5 : Int32} {B1 : BL} (hG : okG G) (hC : MCc S R y bl nx) (h : PL I y nx T b a k) (hk : pK T b.P = 300) (q1 : pEx T 300 b.P = P1) (qv : pV T P1 = v1) (q2 : pNew T (bI (0 ≤ fndJ b.nr v1 0 b.B.nR)) (bI (4 ≤ b.B.nR)) P1 = P2) (q3 : pNum T 301 20 99 P2 = P3) (q4 : pNum T 302 1 9 P3 = P4) (q5 : pNum T 303 0 20 P4 = P5) (w3 : pW T 301 P2 = x3) (w4 : pW T 302 P3 = x4) (w5 : pW T 303 P4 = x5) (h0 : P5.2.1 = 0 → b.P.2.1 = 0 ∧ b.B.nR < 4 ∧ (20 ≤ x3 ∧ x3 ≤ 99) ∧ 1 ≤ x4 ∧ x4 ≤ 9) (hB0 : P5.2.1 = 0 → B1 = (P5, b.L, BSrail b.B, MSrail b.m b.B.nR x3 x4 x5, b.u, up1 b.nr b.B.nR v1, b.nf, b.np)) (hB1 : P5.2.1 ≠ 0 → B1 = BP b P5) : Fn G mX14_readRail 4 [vR y] (mw S I J R) (fun rr M1 => rr = none ∧ ∃ I1 a1 k1, M1 = mw S I1 J R ∧ PL I1 y nx T B1 a1 k1 ∧ a < a1 ∧ OffP y nx I I1) := by
  have ky := hC.1.1
  obtain ⟨kb, c5, _, _, _, _, _, _, _, ⟨kr1, lr1⟩, _⟩ := id hC.2.2.2.2.2.2.2.2.1
  have rn := hC.2.2.2.2.2.2.1
  obtain ⟨_, _, _, _, _, _, _, _, q10, q11, q12, ⟨k24, l24⟩, _⟩ := id hC.2.2.2.2.2.2.2.2.2
  obtain ⟨p1, p2, p3, p4, p5⟩ := hC.lo
  obtain ⟨h1, h2, h3⟩ := h
  have hg : b.P.2.1 ≠ 1 := PC.ng (s := (b.P, b.L)) (by decide) hk
  obtain ⟨a1, a2, a3, mr, mf, mp, nm, nA⟩ := h1.nmm hg
  obtain ⟨u0, t0, hu⟩ := h2 hg
  obtain ⟨⟨nm1, nm2⟩, _, _, nm7, _, _⟩ := id nm
  have h13 := h1.2.1.1
  have hk4 : k ≤ 401 := by have := h1.2.1.2.2.2.1; have := h1.2.1.2.1; have := h1.1.2.1; omega
  have I2h : ∀ x j, up2 I y 13 (nI (a + 1)) x j = if x = y ∧ j = 13 then nI (a + 1) else I x j := fun x j => up2_at _ _
  obtain ⟨d1, d2⟩ := h1.eat (kk := 300) (I1 := up2 I y 13 (nI (a + 1))) hC hg hk (by decide) (by decide) I2h
  have d1' : PC (up2 I y 13 (nI (a + 1))) y nx T (ixB b) (b.B.nR, b.B.nF, b.B.nP) (P1, b.L) 0 (a + 1) k := by
    rw [← q1]
    exact d1
  have e0 : P1.2.1 = 0 → b.P.2.1 = 0 := fun z => by
    rw [← q1] at z
    exact (pEx_0 z).1
  have hfr : Fn G mX14_fresh 2 [vR y, vR (y + 24), vI (nI a1), vI 4] (mw S (up2 I y 13 (nI (a + 1))) J R) (fun rr M1 => ∃ w I1 a', rr = some (vI w) ∧ M1 = mw S I1 J R ∧ PC I1 y nx T (ixB b) (b.B.nR, b.B.nF, b.B.nP) (P2, b.L) 0 a' k ∧ a + 1 ≤ a' ∧ OffM y nx k (up2 I y 13 (nI (a + 1))) I1 ∧ (P2.2.1 ≠ 1 → w = nI (a + 1) ∧ T.k (a + 1) = 258 ∧ v1 = T.v (a + 1))) :=
    kn_new (f := mr) (f1 := bI (0 ≤ fndJ b.nr v1 0 b.B.nR)) (f2 := bI (4 ≤ b.B.nR)) hG hC d1' k24 (by omega) (by omega) (by omega) (by omega) (fun l hl => by rw [I2h, if_neg (by omega)]; exact nm7 l hl) q2 qv (fun z => by
      obtain ⟨⟨w1, _⟩, w4, _⟩ := (nA (e0 z)).on
      refine ⟨?_, ?_⟩
      · rw [fndJ_ge (by omega), w4]
      · rw [w1]
        exact nI_4 (q := 4) (by omega) (by decide) nm2)
  have n3 : ∀ (I : Nat → Nat → Int32) (a : Nat), PC I y nx T (ixB b) (b.B.nR, b.B.nF, b.B.nP) (P2, b.L) 0 a k → Fn G mX14_number_ 3 [vR y, vI 1, vI 20, vI 99] (mw S I J R) (fun rr M1 => ∃ w I1 a1, rr = some (vI w) ∧ M1 = mw S I1 J R ∧ PC I1 y nx T (ixB b) (b.B.nR, b.B.nF, b.B.nP) (P3, b.L) 0 a1 k ∧ a ≤ a1 ∧ OffM y nx k I I1 ∧ (P3.2.1 ≠ 1 → w = x3 ∧ a + 1 ≤ a1)) := fun I a h => kn_num (j0 := 1) (kw := 301) hG hC h (by decide) (by decide) q3 w3
  have n4 : ∀ (I : Nat → Nat → Int32) (a : Nat), PC I y nx T (ixB b) (b.B.nR, b.B.nF, b.B.nP) (P3, b.L) 0 a k → Fn G mX14_number_ 3 [vR y, vI 2, vI 1, vI 9] (mw S I J R) (fun rr M1 => ∃ w I1 a1, rr = some (vI w) ∧ M1 = mw S I1 J R ∧ PC I1 y nx T (ixB b) (b.B.nR, b.B.nF, b.B.nP) (P4, b.L) 0 a1 k ∧ a ≤ a1 ∧ OffM y nx k I I1 ∧ (P4.2.1 ≠ 1 → w = x4 ∧ a + 1 ≤ a1)) := fun I a h => kn_num (j0 := 2) (kw := 302) hG hC h (by decide) (by decide) q4 w4
  have n5 : ∀ (I : Nat → Nat → Int32) (a : Nat), PC I y nx T (ixB b) (b.B.nR, b.B.nF, b.B.nP) (P4, b.L) 0 a k → Fn G mX14_number_ 3 [vR y, vI 3, vI 0, vI 20] (mw S I J R) (fun rr M1 => ∃ w I1 a1, rr = some (vI w) ∧ M1 = mw S I1 J R ∧ PC I1 y nx T (ixB b) (b.B.nR, b.B.nF, b.B.nP) (P5, b.L) 0 a1 k ∧ a ≤ a1 ∧ OffM y nx k I I1 ∧ (P5.2.1 ≠ 1 → w = x5 ∧ a + 1 ≤ a1)) := fun I a h => kn_num (j0 := 3) (kw := 303) hG hC h (by decide) (by decide) q5 w5
  have hnx : P5.2.1 ≠ 1 → P4.2.1 ≠ 1 ∧ P3.2.1 ≠ 1 ∧ P2.2.1 ≠ 1 := fun z => by
    rw [← q5] at z
    have z4 := pNum_n1 (by decide) z
    have z4' := z4
    rw [← q4] at z4
    have z3 := pNum_n1 (by decide) z4
    have z3' := z3
    rw [← q3] at z3
    exact ⟨z4', z3', pNum_n1 (by decide) z3⟩
  clear q1 qv q2 q3 q4 q5 w3 w4 w5 d1 e0 hk hg h2
  refine am_aload_n (q := 1) dX14_readRail_0 rfl rfl ?_
  refine am_dup (q := 2) dX14_readRail_1 rfl rfl ?_
  refine cm_getI (q := 5) dX14_readRail_2 flX14_116 rfl (by assumption) rfl ?_
  rw [h13]
  refine am_iconst (q := 6) (v := 1) dX14_readRail_5 kc_i1 rfl ?_
  refine am_iadd (q := 7) dX14_readRail_6 rfl ?_
  refine cm_putI (q := 10) dX14_readRail_7 flX14_116 rfl (Or.inl rfl) (Or.inl rfl) (by assumption) rfl ?_
  rw [nI_1]
  generalize up2 I y 13 (nI (a + 1)) = I2 at I2h d1' d2 hfr ⊢
  have f0 : I2 nx 0 = nI a1 := by rw [I2h, if_neg (by omega)]; exact nm1
  refine am_aload_n (q := 11) dX14_readRail_10 rfl rfl ?_
  refine am_aload_n (q := 12) dX14_readRail_11 rfl rfl ?_
  refine cm_getR (q := 15) dX14_readRail_12 flX14_39 rfl (by assumption) (by assumption) rfl ?_
  refine am_aload_n (q := 16) dX14_readRail_15 rfl rfl ?_
  refine cm_getR (q := 19) dX14_readRail_16 flX14_36 rfl (by assumption) (by assumption) rfl ?_
  refine cm_getI (q := 22) dX14_readRail_19 flX14_177 rfl (by assumption) rfl ?_
  rw [f0]
  refine am_iconst (q := 23) (v := 4) dX14_readRail_22 kc_i4 rfl ?_
  refine cm_call0 (q := 26) (As := [_, _, _]) hG dX14_readRail_23 mlX14_222 rfl (by assumption) ⟨_, _, rfl⟩ (Nat.le_of_ble_eq_true rfl) (Nat.le_of_ble_eq_true rfl) (Nat.le_of_ble_eq_true rfl) (Nat.le_of_ble_eq_true rfl) hfr rfl ?_
  rintro _ _ ⟨tk, I3, e3, rfl, rfl, g1, g2, g3, g4⟩
  refine am_istore_n (q := 27) (ls1 := [_, _, _, _, _]) dX14_readRail_26 (Nat.le_of_ble_eq_true rfl) rfl rfl ?_
  have n3' := n3 I3 e3 g1
  refine am_aload_n (q := 28) dX14_readRail_27 rfl rfl ?_
  refine am_iconst (q := 29) (v := 1) dX14_readRail_28 kc_i1 rfl ?_
  refine am_bipush (q := 31) (v := 20) dX14_readRail_29 kc_b20 rfl ?_
  refine am_bipush (q := 33) (v := 99) dX14_readRail_31 kc_b99 rfl ?_
  refine cm_call0 (q := 36) (As := [_, _, _]) hG dX14_readRail_33 mlX14_225 rfl (by assumption) ⟨_, _, rfl⟩ (Nat.le_of_ble_eq_true rfl) (Nat.le_of_ble_eq_true rfl) (Nat.le_of_ble_eq_true rfl) (Nat.le_of_ble_eq_true rfl) n3' rfl ?_
  rintro _ _ ⟨y3, I4, e4, rfl, rfl, r1, r2, r3, r4⟩
  refine am_istore_n (q := 37) (ls1 := [_, _, _, _, _]) dX14_readRail_36 (Nat.le_of_ble_eq_true rfl) rfl rfl ?_
  have n4' := n4 I4 e4 r1
  refine am_aload_n (q := 38) dX14_readRail_37 rfl rfl ?_
  refine am_iconst (q := 39) (v := 2) dX14_readRail_38 kc_i2 rfl ?_
  refine am_iconst (q := 40) (v := 1) dX14_readRail_39 kc_i1 rfl ?_
  refine am_bipush (q := 42) (v := 9) dX14_readRail_40 kc_b9 rfl ?_
  refine cm_call0 (q := 45) (As := [_, _, _]) hG dX14_readRail_42 mlX14_225 rfl (by assumption) ⟨_, _, rfl⟩ (Nat.le_of_ble_eq_true rfl) (Nat.le_of_ble_eq_true rfl) (Nat.le_of_ble_eq_true rfl) (Nat.le_of_ble_eq_true rfl) n4' rfl ?_
  rintro _ _ ⟨y4, I5, e5, rfl, rfl, s1, s2, s3, s4⟩
  refine am_istore_n (q := 46) (ls1 := [_, _, _, _, _]) dX14_readRail_45 (Nat.le_of_ble_eq_true rfl) rfl rfl ?_
  have n5' := n5 I5 e5 s1
  refine am_aload_n (q := 47) dX14_readRail_46 rfl rfl ?_
  refine am_iconst (q := 48) (v := 3) dX14_readRail_47 kc_i3 rfl ?_
  refine am_iconst (q := 49) (v := 0) dX14_readRail_48 kc_i0 rfl ?_
  refine am_bipush (q := 51) (v := 20) dX14_readRail_49 kc_b20 rfl ?_
  refine cm_call0 (q := 54) (As := [_, _, _]) hG dX14_readRail_51 mlX14_225 rfl (by assumption) ⟨_, _, rfl⟩ (Nat.le_of_ble_eq_true rfl) (Nat.le_of_ble_eq_true rfl) (Nat.le_of_ble_eq_true rfl) (Nat.le_of_ble_eq_true rfl) n5' rfl ?_
  rintro _ _ ⟨y5, I6, e6, rfl, rfl, o1, o2, o3, o4⟩
  refine am_istore (q := 56) (ls1 := [_, _, _, _, _]) dX14_readRail_54 (Nat.le_of_ble_eq_true rfl) rfl rfl ?_
  clear n3 n4 n5 n3' n4' n5' hfr
  have off : OffM y nx k I I6 := (((d2.tr g3 (Nat.le_refl _)).tr r3 (Nat.le_refl _)).tr s3 (Nat.le_refl _)).tr o3 (Nat.le_refl _)
  have z0 : I6 nx 0 = nI a1 := (off _ _ (by omega) (by omega) (by omega)).trans nm1
  have hu6 : I6 nx 1 = nI u0 ∧ u0 ≤ 12 ∧ I6 nx 4 = nI t0 ∧ t0 ≤ 20 := ⟨(off _ _ (by omega) (by omega) (by omega)).trans hu.1, hu.2.1, (off _ _ (by omega) (by omega) (by omega)).trans hu.2.2.1, hu.2.2.2⟩
  have nm6 : NmM I6 y nx T a1 a2 a3 mr mf mp := nm.cg (fun j hj => off _ _ (by omega) (by omega) (by omega)) (fun x j q1 q2 => off _ _ (by omega) (by omega) (by omega))
  have lt : a < e6 := by omega
  have nz4 : a1 = 4 → P5.2.1 ≠ 0 := fun c q => by
    obtain ⟨z2, z3, _⟩ := h0 q
    have := (nA z2).on.1.1
    omega
  refine am_aload_n (q := 57) dX14_readRail_56 rfl rfl ?_
  refine cm_getR (q := 60) dX14_readRail_57 flX14_36 rfl (by assumption) (by assumption) rfl ?_
  refine cm_getI (q := 63) dX14_readRail_60 flX14_177 rfl (by assumption) rfl ?_
  rw [z0]
  by_cases c4 : a1 = 4
  · have nz := nz4 c4
    have fin : PL I6 y nx T B1 e6 k := by
      rw [hB1 nz]
      exact PL.bp o1 rfl rfl rfl rfl (fun _ => ⟨u0, t0, hu6⟩) nz
    subst c4
    clear nz nz4 h0 hB0 hB1 hnx g4 r4 s4 o4
    refine am_iconst (q := 64) (v := 4) dX14_readRail_63 kc_i4 rfl ?_
    refine am_icmp_ne (tgt := 68) (q := 67) dX14_readRail_64 rfl rfl (fun hz => absurd rfl hz) (fun _ => ?_)
    exact am_ret dX14_readRail_67 rfl ⟨_, rfl, rfl, I6, e6, k, rfl, fin, lt, off.p⟩
  · have c5 : a1 < 4 := by omega
    have rb6 : b.P.2.1 = 0 → NmA (ixB b) (b.B.nR, b.B.nF, b.B.nP) a1 a2 a3 mr mf mp ∧ RBx I6 nx b.B b.m b.u ∧ RBk I6 nx b.B k := fun q => ⟨nA q, (h3 q).1.om hC (h3 q).2 hk4 off, (h3 q).2.om hC off⟩
    have fin : PL (rwI I6 (nx + 1) (3 * a1) y3 y4 y5 (y + 24) a1 tk nx 0 (nI (a1 + 1))) y nx T B1 e6 k := PL.rail (t := a + 1) (v1 := v1) hC o1 c5 (fun q => by
        obtain ⟨_, _, z⟩ := hnx q
        obtain ⟨_, z2, z3⟩ := g4 z
        exact ⟨nm6, Tk_lt z2, z2, z3⟩) rb6 hu6 (fun q => (g4 (hnx q).2.2).1) (fun q => by
        have q' : P5.2.1 ≠ 1 := by rw [q]; decide
        rw [(r4 (hnx q').2.1).1, (s4 (hnx q').1).1]
        exact h0 q) (fun q => by
        have q' : P5.2.1 ≠ 1 := by rw [q]; decide
        rw [(r4 (hnx q').2.1).1, (s4 (hnx q').1).1, (o4 q').1]
        exact hB0 q) hB1
    have ofw := off.p.tr (rwI_off (nx := nx) (y := y) (I := I6) (q := nx + 1) (p := 3 * a1) (u := y3) (v := y4) (w := y5) (nq := y + 24) (l := a1) (t := tk) (c := 0) (n := nI (a1 + 1)) (by omega) (by omega) (by omega) (by omega))
    have m3 : (3 : Int32) * nI a1 = nI (3 * a1) := k_mul 3 a1
    have cl : (nI a1).toNatClampNeg = a1 := nI_clamp (by omega)
    clear nz4 h0 hB0 hB1 hnx g4 r4 s4 o4 rb6 nA h3
    refine am_iconst (q := 64) (v := 4) dX14_readRail_63 kc_i4 rfl ?_
    refine am_icmp_ne (tgt := 68) (q := 67) dX14_readRail_64 rfl rfl (fun _ => ?_) (fun hz => absurd hz (k_ne (b := 4) (by omega) (by decide) c4))
    refine am_aload_n (q := 69) dX14_readRail_68 rfl rfl ?_
    refine cm_getR (q := 72) dX14_readRail_69 flX14_36 rfl (by assumption) (by assumption) rfl ?_
    refine cm_getR (q := 75) dX14_readRail_72 flX14_227 rfl (by assumption) (by assumption) rfl ?_
    refine am_iconst (q := 76) (v := 3) dX14_readRail_75 kc_i3 rfl ?_
    refine am_aload_n (q := 77) dX14_readRail_76 rfl rfl ?_
    refine cm_getR (q := 80) dX14_readRail_77 flX14_36 rfl (by assumption) (by assumption) rfl ?_
    refine cm_getI (q := 83) dX14_readRail_80 flX14_177 rfl (by assumption) rfl ?_
    rw [z0]
    refine am_imul (q := 84) dX14_readRail_83 rfl ?_
    rw [m3]
    refine am_iload_n (q := 85) dX14_readRail_84 rfl rfl ?_
    refine am_iload_n (q := 86) dX14_readRail_85 rfl rfl ?_
    refine am_iload (q := 88) dX14_readRail_86 rfl rfl ?_
    refine am_call1 (q := 91) (As := [_, _, _, _, _]) hG dX14_readRail_88 mlX14_230 rfl (Nat.le_of_ble_eq_true rfl) (Nat.le_of_ble_eq_true rfl) (Nat.le_of_ble_eq_true rfl) (k_X14_put kr1 (by omega) (by omega)) rfl ?_
    rintro _ _ ⟨rfl, rfl⟩
    have z7 : up2 (up2 (up2 I6 (nx + 1) (3 * a1) y3) (nx + 1) (3 * a1 + 1) y4) (nx + 1) (3 * a1 + 2) y5 nx 0 = nI a1 := by
      rw [up2_a (by omega), up2_a (by omega), up2_a (by omega)]
      exact z0
    refine am_aload_n (q := 92) dX14_readRail_91 rfl rfl ?_
    refine cm_getR (q := 95) dX14_readRail_92 flX14_39 rfl (by assumption) (by assumption) rfl ?_
    refine am_aload_n (q := 96) dX14_readRail_95 rfl rfl ?_
    refine cm_getR (q := 99) dX14_readRail_96 flX14_36 rfl (by assumption) (by assumption) rfl ?_
    refine cm_getI (q := 102) dX14_readRail_99 flX14_177 rfl (by assumption) rfl ?_
    rw [z7]
    refine am_iload_n (q := 103) dX14_readRail_102 rfl rfl ?_
    refine cm_iastore (q := 104) dX14_readRail_103 (by assumption) (vp_in_nI (by omega) (by omega)) rfl ?_
    rw [cl]
    refine am_aload_n (q := 105) dX14_readRail_104 rfl rfl ?_
    refine cm_getR (q := 108) dX14_readRail_105 flX14_36 rfl (by assumption) (by assumption) rfl ?_
    refine am_dup (q := 109) dX14_readRail_108 rfl rfl ?_
    refine cm_getI (q := 112) dX14_readRail_109 flX14_177 rfl (by assumption) rfl ?_
    rw [up2_a (by omega), z7]
    refine am_iconst (q := 113) (v := 1) dX14_readRail_112 kc_i1 rfl ?_
    refine am_iadd (q := 114) dX14_readRail_113 rfl ?_
    rw [nI_1]
    refine cm_putI (q := 117) dX14_readRail_114 flX14_177 rfl (Or.inl rfl) (Or.inl rfl) (by assumption) rfl ?_
    exact am_ret dX14_readRail_117 rfl ⟨_, rfl, rfl, rwI I6 (nx + 1) (3 * a1) y3 y4 y5 (y + 24) a1 tk nx 0 (nI (a1 + 1)), e6, k, rfl, fin, lt, ofw⟩
end Rq

