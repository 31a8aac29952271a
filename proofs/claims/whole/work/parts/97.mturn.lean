theorem kc_b18 : (Int8.ofInt 18).toInt32 = 18 := by decide +kernel
theorem dX14_readTurn_0 : decode cX14_readTurn 0 = .ok (.aload_n 0, 1) := by decide +kernel
theorem dX14_readTurn_1 : decode cX14_readTurn 1 = .ok (.getfield 36, 3) := by decide +kernel
theorem dX14_readTurn_4 : decode cX14_readTurn 4 = .ok (.getfield 246, 3) := by decide +kernel
theorem dX14_readTurn_7 : decode cX14_readTurn 7 = .ok (.bipush 20, 2) := by decide +kernel
theorem dX14_readTurn_9 : decode cX14_readTurn 9 = .ok (.if_icmp .ne 12, 3) := by decide +kernel
theorem dX14_readTurn_12 : decode cX14_readTurn 12 = .ok (.aload_n 0, 1) := by decide +kernel
theorem dX14_readTurn_13 : decode cX14_readTurn 13 = .ok (.iconst 4, 1) := by decide +kernel
theorem dX14_readTurn_14 : decode cX14_readTurn 14 = .ok (.aload_n 0, 1) := by decide +kernel
theorem dX14_readTurn_15 : decode cX14_readTurn 15 = .ok (.getfield 116, 3) := by decide +kernel
theorem dX14_readTurn_18 : decode cX14_readTurn 18 = .ok (.invokevirtual 149, 3) := by decide +kernel
theorem dX14_readTurn_21 : decode cX14_readTurn 21 = .ok (.aload_n 0, 1) := by decide +kernel
theorem dX14_readTurn_22 : decode cX14_readTurn 22 = .ok (.dup, 1) := by decide +kernel
theorem dX14_readTurn_23 : decode cX14_readTurn 23 = .ok (.getfield 116, 3) := by decide +kernel
theorem dX14_readTurn_26 : decode cX14_readTurn 26 = .ok (.iconst 1, 1) := by decide +kernel
theorem dX14_readTurn_27 : decode cX14_readTurn 27 = .ok (.iadd, 1) := by decide +kernel
theorem dX14_readTurn_28 : decode cX14_readTurn 28 = .ok (.putfield 116, 3) := by decide +kernel
theorem dX14_readTurn_31 : decode cX14_readTurn 31 = .ok (.aload_n 0, 1) := by decide +kernel
theorem dX14_readTurn_32 : decode cX14_readTurn 32 = .ok (.aload_n 0, 1) := by decide +kernel
theorem dX14_readTurn_33 : decode cX14_readTurn 33 = .ok (.getfield 42, 3) := by decide +kernel
theorem dX14_readTurn_36 : decode cX14_readTurn 36 = .ok (.aload_n 0, 1) := by decide +kernel
theorem dX14_readTurn_37 : decode cX14_readTurn 37 = .ok (.getfield 36, 3) := by decide +kernel
theorem dX14_readTurn_40 : decode cX14_readTurn 40 = .ok (.getfield 170, 3) := by decide +kernel
theorem dX14_readTurn_43 : decode cX14_readTurn 43 = .ok (.invokevirtual 192, 3) := by decide +kernel
theorem dX14_readTurn_46 : decode cX14_readTurn 46 = .ok (.istore_n 1, 1) := by decide +kernel
theorem dX14_readTurn_47 : decode cX14_readTurn 47 = .ok (.aload_n 0, 1) := by decide +kernel
theorem dX14_readTurn_48 : decode cX14_readTurn 48 = .ok (.iconst 2, 1) := by decide +kernel
theorem dX14_readTurn_49 : decode cX14_readTurn 49 = .ok (.bipush 18, 2) := by decide +kernel
theorem dX14_readTurn_51 : decode cX14_readTurn 51 = .ok (.invokevirtual 152, 3) := by decide +kernel
theorem dX14_readTurn_54 : decode cX14_readTurn 54 = .ok (.aload_n 0, 1) := by decide +kernel
theorem dX14_readTurn_55 : decode cX14_readTurn 55 = .ok (.aload_n 0, 1) := by decide +kernel
theorem dX14_readTurn_56 : decode cX14_readTurn 56 = .ok (.getfield 39, 3) := by decide +kernel
theorem dX14_readTurn_59 : decode cX14_readTurn 59 = .ok (.aload_n 0, 1) := by decide +kernel
theorem dX14_readTurn_60 : decode cX14_readTurn 60 = .ok (.getfield 36, 3) := by decide +kernel
theorem dX14_readTurn_63 : decode cX14_readTurn 63 = .ok (.getfield 177, 3) := by decide +kernel
theorem dX14_readTurn_66 : decode cX14_readTurn 66 = .ok (.invokevirtual 192, 3) := by decide +kernel
theorem dX14_readTurn_69 : decode cX14_readTurn 69 = .ok (.istore_n 2, 1) := by decide +kernel
theorem dX14_readTurn_70 : decode cX14_readTurn 70 = .ok (.iconst (-1), 1) := by decide +kernel
theorem dX14_readTurn_71 : decode cX14_readTurn 71 = .ok (.istore_n 3, 1) := by decide +kernel
theorem dX14_readTurn_72 : decode cX14_readTurn 72 = .ok (.aload_n 0, 1) := by decide +kernel
theorem dX14_readTurn_73 : decode cX14_readTurn 73 = .ok (.iconst 2, 1) := by decide +kernel
theorem dX14_readTurn_74 : decode cX14_readTurn 74 = .ok (.bipush 16, 2) := by decide +kernel
theorem dX14_readTurn_76 : decode cX14_readTurn 76 = .ok (.invokevirtual 123, 3) := by decide +kernel
theorem dX14_readTurn_79 : decode cX14_readTurn 79 = .ok (.ifCond .eq 18, 3) := by decide +kernel
theorem dX14_readTurn_82 : decode cX14_readTurn 82 = .ok (.aload_n 0, 1) := by decide +kernel
theorem dX14_readTurn_83 : decode cX14_readTurn 83 = .ok (.dup, 1) := by decide +kernel
theorem dX14_readTurn_84 : decode cX14_readTurn 84 = .ok (.getfield 116, 3) := by decide +kernel
theorem dX14_readTurn_87 : decode cX14_readTurn 87 = .ok (.iconst 1, 1) := by decide +kernel
theorem dX14_readTurn_88 : decode cX14_readTurn 88 = .ok (.iadd, 1) := by decide +kernel
theorem dX14_readTurn_89 : decode cX14_readTurn 89 = .ok (.putfield 116, 3) := by decide +kernel
theorem dX14_readTurn_92 : decode cX14_readTurn 92 = .ok (.aload_n 0, 1) := by decide +kernel
theorem dX14_readTurn_93 : decode cX14_readTurn 93 = .ok (.invokevirtual 204, 3) := by decide +kernel
theorem dX14_readTurn_96 : decode cX14_readTurn 96 = .ok (.istore_n 3, 1) := by decide +kernel
theorem dX14_readTurn_97 : decode cX14_readTurn 97 = .ok (.aload_n 0, 1) := by decide +kernel
theorem dX14_readTurn_98 : decode cX14_readTurn 98 = .ok (.getfield 36, 3) := by decide +kernel
theorem dX14_readTurn_101 : decode cX14_readTurn 101 = .ok (.getfield 246, 3) := by decide +kernel
theorem dX14_readTurn_104 : decode cX14_readTurn 104 = .ok (.bipush 20, 2) := by decide +kernel
theorem dX14_readTurn_106 : decode cX14_readTurn 106 = .ok (.if_icmp .ne 4, 3) := by decide +kernel
theorem dX14_readTurn_109 : decode cX14_readTurn 109 = .ok (.return_, 1) := by decide +kernel
theorem dX14_readTurn_110 : decode cX14_readTurn 110 = .ok (.aload_n 0, 1) := by decide +kernel
theorem dX14_readTurn_111 : decode cX14_readTurn 111 = .ok (.getfield 36, 3) := by decide +kernel
theorem dX14_readTurn_114 : decode cX14_readTurn 114 = .ok (.getfield 249, 3) := by decide +kernel
theorem dX14_readTurn_117 : decode cX14_readTurn 117 = .ok (.iconst 3, 1) := by decide +kernel
theorem dX14_readTurn_118 : decode cX14_readTurn 118 = .ok (.aload_n 0, 1) := by decide +kernel
theorem dX14_readTurn_119 : decode cX14_readTurn 119 = .ok (.getfield 36, 3) := by decide +kernel
theorem dX14_readTurn_122 : decode cX14_readTurn 122 = .ok (.getfield 246, 3) := by decide +kernel
theorem dX14_readTurn_125 : decode cX14_readTurn 125 = .ok (.imul, 1) := by decide +kernel
theorem dX14_readTurn_126 : decode cX14_readTurn 126 = .ok (.iload_n 1, 1) := by decide +kernel
theorem dX14_readTurn_127 : decode cX14_readTurn 127 = .ok (.iload_n 2, 1) := by decide +kernel
theorem dX14_readTurn_128 : decode cX14_readTurn 128 = .ok (.iload_n 3, 1) := by decide +kernel
theorem dX14_readTurn_129 : decode cX14_readTurn 129 = .ok (.invokestatic 230, 3) := by decide +kernel
theorem dX14_readTurn_132 : decode cX14_readTurn 132 = .ok (.aload_n 0, 1) := by decide +kernel
theorem dX14_readTurn_133 : decode cX14_readTurn 133 = .ok (.getfield 36, 3) := by decide +kernel
theorem dX14_readTurn_136 : decode cX14_readTurn 136 = .ok (.dup, 1) := by decide +kernel
theorem dX14_readTurn_137 : decode cX14_readTurn 137 = .ok (.getfield 246, 3) := by decide +kernel
theorem dX14_readTurn_140 : decode cX14_readTurn 140 = .ok (.iconst 1, 1) := by decide +kernel
theorem dX14_readTurn_141 : decode cX14_readTurn 141 = .ok (.iadd, 1) := by decide +kernel
theorem dX14_readTurn_142 : decode cX14_readTurn 142 = .ok (.putfield 246, 3) := by decide +kernel
theorem dX14_readTurn_145 : decode cX14_readTurn 145 = .ok (.return_, 1) := by decide +kernel
/-! the reference's readTurn -/
section Rt
variable {G : Gp} {S : AMem} {I I1 : Nat → Nat → Int32} {J : Nat → Nat → Int64} {R : Nat → Nat → Option Nat} {y bl nx : Nat} {T : Toks} {b : BL} {a k : Nat}
theorem kv_readTurn {P0 P1 P2 P3 P4 P5 : PS} {Z : PS × Cd} {fi ri : Int32} {B1 : BL} {U : PS × Cd → PS × Cd} (hG : okG G) (hC : MCc S R y bl nx) (h : PL I y nx T b a k) (hk : pK T b.P = 317) (hU : KM G S J R y nx T (ixB b) (b.B.nR, b.B.nF, b.B.nP) NdB mX14_test 46 0 U) (q0 : (if 20 ≤ b.B.nT then pBl T 4 b.P else b.P) = P0) (q1 : pEx T 317 P0 = P1) (qf : fndJ b.nf (pV T P1) 0 b.B.nF = fi) (q2 : pKn T fi P1 = P2) (q3 : pEx T 318 P2 = P3) (qr : fndJ b.nr (pV T P3) 0 b.B.nR = ri) (q4 : pKn T ri P3 = P4) (q5 : pEx T 316 P4 = P5) (qy : pK T P4 = 316 → U (P5, b.L) = Z) (qn : pK T P4 ≠ 316 → Z = (P4, b.L)) (h0 : Z.1.2.1 = 0 → ((P3.2.1 = 0 → P2.2.1 = 0) ∧ P4.2.1 = 0 ∧ P3.2.1 = 0) ∧ b.P.2.1 = 0 ∧ ¬ 20 ≤ b.B.nT ∧ (∃ i, i < b.B.nF ∧ fi = nI i) ∧ ∃ i, i < b.B.nR ∧ ri = nI i) (hB0 : Z.1.2.1 = 0 → B1 = (Z.1, Z.2, BSturn b.B fi.toNatClampNeg ri.toNatClampNeg (semT Z.2 b.L.length Z.2.length), MSturn b.m b.B.nT, b.u, b.nr, b.nf, b.np)) (hB1 : Z.1.2.1 ≠ 0 → B1 = BE b Z) : Fn G mX14_readTurn 47 [vR y] (mw S I J R) (fun rr M1 => rr = none ∧ ∃ I1 a1 k1, M1 = mw S I1 J R ∧ PL I1 y nx T B1 a1 k1 ∧ a < a1 ∧ OffP y nx I I1) := by
  have ky := hC.1.1
  obtain ⟨kb, _, _, _, _, c5, _, _, _, _, _, _, _, ⟨kr1, lr1⟩, _⟩ := id hC.2.2.2.2.2.2.2.2.1
  have rn := hC.2.2.2.2.2.2.1
  obtain ⟨_, _, _, _, _, _, _, _, q10, q11, q12, ⟨k24, l24⟩, ⟨k25, l25⟩, _⟩ := id hC.2.2.2.2.2.2.2.2.2
  obtain ⟨p1, p2, p3, p4, p5⟩ := hC.lo
  obtain ⟨h1, h2, h3⟩ := h
  have hg : b.P.2.1 ≠ 1 := PC.ng (s := (b.P, b.L)) (by decide) hk
  obtain ⟨a1, a2, a3, mr, mf, mp, nm, nA⟩ := h1.nmm hg
  obtain ⟨u0, t0, hu1, hu2, hu3, hu4⟩ := h2 hg
  obtain ⟨⟨nm1, nm2⟩, ⟨nm3, nm4⟩, _, nm7, nm8, _⟩ := id nm
  have h13 := h1.2.1.1
  have hk4 : k ≤ 401 := by have := h1.2.1.2.2.2.1; have := h1.2.1.2.1; have := h1.1.2.1; omega
  have et : b.P.2.1 = 0 → b.B.nT = t0 := fun z => by
    have x2 := (h3 z).1
    exact (nI_eq (by have := x2.1.1.2.2.2.2; omega) (by omega)).mp (x2.1.1.2.2.2.1.symm.trans hu3)
  have e1 : P1.2.1 = 0 → b.P.2.1 = 0 := fun z => by
    rw [← q1] at z
    have z1 := (pEx_0 z).1
    rw [← q0] at z1
    exact (pIf_0 (by decide) z1).2.2
  have e3' : P3.2.1 = 0 → b.P.2.1 = 0 := fun z => by
    rw [← q3] at z
    have z1 := (pEx_0 z).1
    rw [← q2] at z1
    exact e1 (pKn_0 z1).1
  have fin : ∀ (I8 : Nat → Nat → Int32) (e8 k8 : Nat) (w1 w2 w3 : Int32), PC I8 y nx T (ixB b) (b.B.nR, b.B.nF, b.B.nP) Z 0 e8 k8 → OffM y nx k I I8 → a < e8 → k ≤ k8 → (Z.1.2.1 = 0 → w1 = fi ∧ w2 = ri ∧ ((Z.2 = b.L ∧ w3 = -1) ∨ ∃ m, w3 = nI m ∧ NRx NdB I8 nx (b.B.nR, b.B.nF, b.B.nP) b.L Z.2 m)) → MW G mX14_readTurn 47 97 [some (vR y), some (vI w1), some (vI w2), some (vI w3)] [] (mw S I8 J R) (fun f M1 => ∃ rr, f = .inl rr ∧ (rr = none ∧ ∃ I1 a1 k1, M1 = mw S I1 J R ∧ PL I1 y nx T B1 a1 k1 ∧ a < a1 ∧ OffP y nx I I1)) := by
    intro I8 e8 k8 w1 w2 w3 o1 off lt kle hw
    have z0 : I8 nx 4 = nI t0 := (off _ _ (by omega) (by omega) (by omega)).trans hu3
    have zu : I8 nx 1 = nI u0 := (off _ _ (by omega) (by omega) (by omega)).trans hu1
    have kk8 : k8 ≤ 401 := by have := o1.2.1.2.2.2.1; have := o1.2.1.2.1; have := o1.1.2.1; omega
    have nz4 : t0 = 20 → Z.1.2.1 ≠ 0 := fun c q => by
      obtain ⟨_, x1, x2, _⟩ := h0 q
      have := et x1
      omega
    clear q0 q1 qf q2 q3 qr q4 q5 qy qn e1 e3' hk hg h2
    refine am_aload_n (q := 98) dX14_readTurn_97 rfl rfl ?_
    refine cm_getR (q := 101) dX14_readTurn_98 flX14_36 rfl (by assumption) (by assumption) rfl ?_
    refine cm_getI (q := 104) dX14_readTurn_101 flX14_246 rfl (by assumption) rfl ?_
    rw [z0]
    by_cases c4 : t0 = 20
    · have nz := nz4 c4
      have fin : PL I8 y nx T B1 e8 k8 := by
        rw [hB1 nz]
        exact PL.bp (P := Z.1) (L := Z.2) o1 rfl rfl rfl rfl (fun _ => ⟨u0, t0, zu, hu2, z0, hu4⟩) nz
      subst c4
      clear nz nz4 h0 hB0 hB1 hw et
      refine am_bipush (q := 106) (v := 20) dX14_readTurn_104 kc_b20 rfl ?_
      refine am_icmp_ne (tgt := 110) (q := 109) dX14_readTurn_106 rfl rfl (fun hz => absurd rfl hz) (fun _ => ?_)
      exact am_ret dX14_readTurn_109 rfl ⟨_, rfl, rfl, I8, e8, k8, rfl, fin, lt, off.p⟩
    · have c5' : t0 < 20 := by omega
      have rb7 : b.P.2.1 = 0 → RBx I8 nx b.B b.m b.u ∧ RBk I8 nx b.B k8 := fun q => ⟨(h3 q).1.om hC (h3 q).2 hk4 off, ((h3 q).2.om hC off).le kle⟩
      have fin : PL (tuI I8 (nx + 5) (3 * t0) w1 w2 w3 nx (nI (t0 + 1))) y nx T B1 e8 k8 := PL.turn (P5 := Z.1) (L5 := Z.2) (u0 := u0) (fi := fi.toNatClampNeg) (ri := ri.toNatClampNeg) (s := semT Z.2 b.L.length Z.2.length) hC o1 c5' ⟨zu, hu2, z0⟩ rb7 (fun q => by
          obtain ⟨_, x1, _, ⟨i, x3, x4⟩, i2, x5, x6⟩ := h0 q
          obtain ⟨f1, f2, f3⟩ := hw q
          have nr4 : b.B.nR ≤ 4 := (h3 x1).1.1.1.1.2
          have nf8 : b.B.nF ≤ 8 := (h3 x1).1.1.1.2.1.2
          obtain ⟨l2, _, _, _⟩ := o1.len q
          have ei : fi.toNatClampNeg = i := by rw [x4, nI_clamp (by omega)]
          have ei2 : ri.toNatClampNeg = i2 := by rw [x6, nI_clamp (by omega)]
          rw [ei, ei2, f1, f2]
          refine ⟨x1, ⟨x4, x3⟩, ⟨x6, x5⟩, kk8, ?_, ?_⟩
          · intro z
            rcases f3 with ⟨_, f4⟩ | ⟨m, f4, y1, y2, y3, _⟩
            · exact f4
            · unfold semT at z
              have y3' : m + 1 = Z.2.length := y3
              rw [if_neg (by omega)] at z
              cases z
          · intro σ z
            rcases f3 with ⟨f4, _⟩ | ⟨m, f4, y1, y2, y3, τ, y4, y5⟩
            · unfold semT at z
              rw [f4, if_pos rfl] at z
              cases z
            · unfold semT at z
              have y3' : m + 1 = Z.2.length := y3
              rw [if_neg (by omega)] at z
              have z2 := Option.some.inj z
              refine ⟨m, f4, by omega, ?_⟩
              rw [← z2, semC_sg y5]
              exact y4) hB0 hB1
      have ofw := off.p.tr (tuI_off (nx := nx) (y := y) (I := I8) (q := nx + 5) (p := 3 * t0) (f := w1) (r := w2) (v := w3) (n := nI (t0 + 1)) (by omega) (by omega))
      have m3 : (3 : Int32) * nI t0 = nI (3 * t0) := k_mul 3 t0
      clear nz4 h0 hB0 hB1 hw et rb7 nA h3
      refine am_bipush (q := 106) (v := 20) dX14_readTurn_104 kc_b20 rfl ?_
      refine am_icmp_ne (tgt := 110) (q := 109) dX14_readTurn_106 rfl rfl (fun _ => ?_) (fun hz => absurd hz (k_ne (b := 20) (by omega) (by decide) c4))
      refine am_aload_n (q := 111) dX14_readTurn_110 rfl rfl ?_
      refine cm_getR (q := 114) dX14_readTurn_111 flX14_36 rfl (by assumption) (by assumption) rfl ?_
      refine cm_getR (q := 117) dX14_readTurn_114 flX14_249 rfl (by assumption) (by assumption) rfl ?_
      refine am_iconst (q := 118) (v := 3) dX14_readTurn_117 kc_i3 rfl ?_
      refine am_aload_n (q := 119) dX14_readTurn_118 rfl rfl ?_
      refine cm_getR (q := 122) dX14_readTurn_119 flX14_36 rfl (by assumption) (by assumption) rfl ?_
      refine cm_getI (q := 125) dX14_readTurn_122 flX14_246 rfl (by assumption) rfl ?_
      rw [z0]
      refine am_imul (q := 126) dX14_readTurn_125 rfl ?_
      rw [m3]
      refine am_iload_n (q := 127) dX14_readTurn_126 rfl rfl ?_
      refine am_iload_n (q := 128) dX14_readTurn_127 rfl rfl ?_
      refine am_iload_n (q := 129) dX14_readTurn_128 rfl rfl ?_
      refine am_call1 (q := 132) (As := [_, _, _, _, _]) hG dX14_readTurn_129 mlX14_230 rfl (Nat.le_of_ble_eq_true rfl) (Nat.le_of_ble_eq_true rfl) (Nat.le_of_ble_eq_true rfl) (k_X14_put kr1 (by omega) (by omega)) rfl ?_
      rintro _ _ ⟨rfl, rfl⟩
      have z7 : up2 (up2 (up2 I8 (nx + 5) (3 * t0) w1) (nx + 5) (3 * t0 + 1) w2) (nx + 5) (3 * t0 + 2) w3 nx 4 = nI t0 := by
        rw [up2_a (by omega), up2_a (by omega), up2_a (by omega)]
        exact z0
      refine am_aload_n (q := 133) dX14_readTurn_132 rfl rfl ?_
      refine cm_getR (q := 136) dX14_readTurn_133 flX14_36 rfl (by assumption) (by assumption) rfl ?_
      refine am_dup (q := 137) dX14_readTurn_136 rfl rfl ?_
      refine cm_getI (q := 140) dX14_readTurn_137 flX14_246 rfl (by assumption) rfl ?_
      rw [z7]
      refine am_iconst (q := 141) (v := 1) dX14_readTurn_140 kc_i1 rfl ?_
      refine am_iadd (q := 142) dX14_readTurn_141 rfl ?_
      rw [nI_1]
      refine cm_putI (q := 145) dX14_readTurn_142 flX14_246 rfl (Or.inl rfl) (Or.inl rfl) (by assumption) rfl ?_
      exact am_ret dX14_readTurn_145 rfl ⟨_, rfl, rfl, tuI I8 (nx + 5) (3 * t0) w1 w2 w3 nx (nI (t0 + 1)), e8, k8, rfl, fin, lt, ofw⟩
  have mid : ∀ (I2 : Nat → Nat → Int32), PC I2 y nx T (ixB b) (b.B.nR, b.B.nF, b.B.nP) (P1, b.L) 0 (a + 1) k → OffM y nx k I I2 → MW G mX14_readTurn 47 31 [some (vR y), none, none, none] [] (mw S I2 J R) (fun f M1 => ∃ rr, f = .inl rr ∧ (rr = none ∧ ∃ I1 a1 k1, M1 = mw S I1 J R ∧ PL I1 y nx T B1 a1 k1 ∧ a < a1 ∧ OffP y nx I I1)) := by
    intro I2 d1 d2
    have k2 := kn_known (J := J) (q := y + 25) (n := a2) (f := mf) (i := fi) hG hC d1 k25 (by omega) (by omega) (by omega) (by omega) (fun l hl => by rw [d2 _ _ (by omega) (by omega) (by omega)]; exact nm8 l hl) q2 (fun z => by rw [← qf]; exact (nA (e1 z)).on.2.2.1 _)
    have t3 := fun (I3 : Nat → Nat → Int32) (e3 : Nat) (g1 : PC I3 y nx T (ixB b) (b.B.nR, b.B.nF, b.B.nP) (P2, b.L) 0 e3 k) => kn_take (j0 := 18) (kw := 318) (o := 18) (J := J) hG hC g1 (by decide) (by decide) (by decide) q3
    have k4 := fun (I3 : Nat → Nat → Int32) (e3 : Nat) (g1 : PC I3 y nx T (ixB b) (b.B.nR, b.B.nF, b.B.nP) (P3, b.L) 0 e3 k) (o3 : OffM y nx k I I3) => kn_known (J := J) (q := y + 24) (n := a1) (f := mr) (i := ri) hG hC g1 k24 (by omega) (by omega) (by omega) (by omega) (fun l hl => by rw [o3 _ _ (by omega) (by omega) (by omega)]; exact nm7 l hl) q4 (fun z => by rw [← qr]; exact (nA (e3' z)).on.2.1 _)
    have isw := fun (I3 : Nat → Nat → Int32) (e3 : Nat) (g1 : PC I3 y nx T (ixB b) (b.B.nR, b.B.nF, b.B.nP) (P4, b.L) 0 e3 k) => k_X14_is (J := J) (w := 2) (o := 16) (kk := 316) hG hC g1 (by decide) (ky_all (j := 16) (by decide))
    have ts := fun (z : pK T P4 = 316) (I3 : Nat → Nat → Int32) (e3 : Nat) (g1 : PC I3 y nx T (ixB b) (b.B.nR, b.B.nF, b.B.nP) (P5, b.L) 0 e3 k) (g2 : 1 ≤ e3) => kn_sum hU g1 g2 (qy z)
    have et3 := fun (z : pK T P4 = 316) (I3 : Nat → Nat → Int32) (e3 : Nat) (g1 : PC I3 y nx T (ixB b) (b.B.nR, b.B.nF, b.B.nP) (P4, b.L) 0 e3 k) => g1.eat (kk := 316) (I1 := up2 I3 y 13 (nI (e3 + 1))) hC (PC.ng (s := (P4, b.L)) (by decide) z) z (by decide) (by decide) (fun x j => up2_at _ _)
    have e5 : eEx T 316 (P4, b.L) = (P5, b.L) := by
      rw [← q5]
      rfl
    rw [e5] at et3
    clear q0 q1 qf q2 q3 qr q4 q5 qy e1 e3' h2 hk hg hB0 hB1 e5
    have f1 : I2 nx 2 = nI a2 := (d2 _ _ (by omega) (by omega) (by omega)).trans nm3
    refine am_aload_n (q := 32) dX14_readTurn_31 rfl rfl ?_
    refine am_aload_n (q := 33) dX14_readTurn_32 rfl rfl ?_
    refine cm_getR (q := 36) dX14_readTurn_33 flX14_42 rfl (by assumption) (by assumption) rfl ?_
    refine am_aload_n (q := 37) dX14_readTurn_36 rfl rfl ?_
    refine cm_getR (q := 40) dX14_readTurn_37 flX14_36 rfl (by assumption) (by assumption) rfl ?_
    refine cm_getI (q := 43) dX14_readTurn_40 flX14_170 rfl (by assumption) rfl ?_
    rw [f1]
    refine cm_call0 (q := 46) (As := [_, _]) hG dX14_readTurn_43 mlX14_192 rfl (by assumption) ⟨_, _, rfl⟩ (Nat.le_of_ble_eq_true rfl) (Nat.le_of_ble_eq_true rfl) (Nat.le_of_ble_eq_true rfl) (Nat.le_of_ble_eq_true rfl) k2 rfl ?_
    rintro _ _ ⟨w1, I3, e3, rfl, rfl, g1, g2, g3, g4⟩
    refine am_istore_n (q := 47) (ls1 := [_, _, _, _]) dX14_readTurn_46 (Nat.le_of_ble_eq_true rfl) rfl rfl ?_
    have t3' := t3 I3 e3 g1
    refine am_aload_n (q := 48) dX14_readTurn_47 rfl rfl ?_
    refine am_iconst (q := 49) (v := 2) dX14_readTurn_48 kc_i2 rfl ?_
    refine am_bipush (q := 51) (v := 18) dX14_readTurn_49 kc_b18 rfl ?_
    refine cm_call0 (q := 54) (As := [_, _]) hG dX14_readTurn_51 mlX14_152 rfl (by assumption) ⟨_, _, rfl⟩ (Nat.le_of_ble_eq_true rfl) (Nat.le_of_ble_eq_true rfl) (Nat.le_of_ble_eq_true rfl) (Nat.le_of_ble_eq_true rfl) t3' rfl ?_
    rintro _ _ ⟨rfl, I4, e4, rfl, r1, r2, r3⟩
    have o4 := (d2.tr g3 (Nat.le_refl _)).tr r3 (Nat.le_refl _)
    have k4' := k4 I4 e4 r1 o4
    have f2 : I4 nx 0 = nI a1 := (o4 _ _ (by omega) (by omega) (by omega)).trans nm1
    clear k2 t3 t3' k4
    refine am_aload_n (q := 55) dX14_readTurn_54 rfl rfl ?_
    refine am_aload_n (q := 56) dX14_readTurn_55 rfl rfl ?_
    refine cm_getR (q := 59) dX14_readTurn_56 flX14_39 rfl (by assumption) (by assumption) rfl ?_
    refine am_aload_n (q := 60) dX14_readTurn_59 rfl rfl ?_
    refine cm_getR (q := 63) dX14_readTurn_60 flX14_36 rfl (by assumption) (by assumption) rfl ?_
    refine cm_getI (q := 66) dX14_readTurn_63 flX14_177 rfl (by assumption) rfl ?_
    rw [f2]
    refine cm_call0 (q := 69) (As := [_, _]) hG dX14_readTurn_66 mlX14_192 rfl (by assumption) ⟨_, _, rfl⟩ (Nat.le_of_ble_eq_true rfl) (Nat.le_of_ble_eq_true rfl) (Nat.le_of_ble_eq_true rfl) (Nat.le_of_ble_eq_true rfl) k4' rfl ?_
    rintro _ _ ⟨w2, I5, e5, rfl, rfl, s1, s2, s3, s4⟩
    refine am_istore_n (q := 70) (ls1 := [_, _, _, _]) dX14_readTurn_69 (Nat.le_of_ble_eq_true rfl) rfl rfl ?_
    refine am_iconst (q := 71) (v := (-1)) dX14_readTurn_70 kc_im1 rfl ?_
    refine am_istore_n (q := 72) (ls1 := [_, _, _, _]) dX14_readTurn_71 (Nat.le_of_ble_eq_true rfl) rfl rfl ?_
    have o5 := o4.tr s3 (Nat.le_refl _)
    have isw' := isw I5 e5 s1
    have lt5 : a < e5 := by omega
    clear k4' isw
    by_cases c : pK T P4 = 316
    · have et4 := et3 c I5 e5 s1
      have ts' := ts c (up2 I5 y 13 (nI (e5 + 1))) (e5 + 1) et4.1 (by omega)
      have b1 : bI (pK T ((P4, b.L) : PS × Cd).1 = 316) = 1 := bI_t c
      have i13 : I5 y 13 = nI e5 := s1.2.1.1
      have gs : Z.1.2.1 = 0 → w1 = fi ∧ w2 = ri := fun q => by
        obtain ⟨⟨x0, x1, x2⟩, _⟩ := h0 q
        exact ⟨g4 (x0 x2), s4 x1⟩
      rw [b1] at isw'
      clear qn et3 ts h0 g4 s4 c b1
      refine am_aload_n (q := 73) dX14_readTurn_72 rfl rfl ?_
      refine am_iconst (q := 74) (v := 2) dX14_readTurn_73 kc_i2 rfl ?_
      refine am_bipush (q := 76) (v := 16) dX14_readTurn_74 kc_b16 rfl ?_
      refine cm_call0 (q := 79) (As := [_, _]) hG dX14_readTurn_76 mlX14_123 rfl (by assumption) ⟨_, _, rfl⟩ (Nat.le_of_ble_eq_true rfl) (Nat.le_of_ble_eq_true rfl) (Nat.le_of_ble_eq_true rfl) (Nat.le_of_ble_eq_true rfl) isw' rfl ?_
      rintro _ _ ⟨rfl, rfl⟩
      refine am_if_eq (tgt := 97) (q := 82) dX14_readTurn_79 rfl rfl (fun hz => absurd hz (by decide)) (fun _ => ?_)
      refine am_aload_n (q := 83) dX14_readTurn_82 rfl rfl ?_
      refine am_dup (q := 84) dX14_readTurn_83 rfl rfl ?_
      refine cm_getI (q := 87) dX14_readTurn_84 flX14_116 rfl (by assumption) rfl ?_
      rw [i13]
      refine am_iconst (q := 88) (v := 1) dX14_readTurn_87 kc_i1 rfl ?_
      refine am_iadd (q := 89) dX14_readTurn_88 rfl ?_
      rw [nI_1]
      refine cm_putI (q := 92) dX14_readTurn_89 flX14_116 rfl (Or.inl rfl) (Or.inl rfl) (by assumption) rfl ?_
      refine am_aload_n (q := 93) dX14_readTurn_92 rfl rfl ?_
      refine cm_call0 (q := 96) (As := []) hG dX14_readTurn_93 mlX14_204 rfl (by assumption) ⟨_, _, rfl⟩ (Nat.le_of_ble_eq_true rfl) (Nat.le_of_ble_eq_true rfl) (Nat.le_of_ble_eq_true rfl) (Nat.le_of_ble_eq_true rfl) ts' rfl ?_
      rintro _ _ ⟨m, I8, e8, k8, rfl, rfl, o1, ⟨o2, o3, o4'⟩, o5', o6⟩
      refine am_istore_n (q := 97) (ls1 := [_, _, _, _]) dX14_readTurn_96 (Nat.le_of_ble_eq_true rfl) rfl rfl ?_
      exact fin I8 e8 k8 w1 w2 (nI m) o1 ((o5.tr et4.2 (Nat.le_refl _)).tr o5' (Nat.le_refl _)) (by omega) o4' (fun q => ⟨(gs q).1, (gs q).2, Or.inr ⟨m, rfl, o6 q⟩⟩)
    · have eZ := qn c
      have f3 := fin I5 e5 k w1 w2 (-1) (by rw [eZ]; exact s1) o5 lt5 (Nat.le_refl _) (fun q => by
        obtain ⟨⟨x0, x1, x2⟩, _⟩ := h0 q
        exact ⟨g4 (x0 x2), s4 x1, Or.inl ⟨by rw [eZ], rfl⟩⟩)
      have b1 : bI (pK T ((P4, b.L) : PS × Cd).1 = 316) = 0 := bI_f c
      clear qn et3 ts h0 g4 s4 c fin
      rw [b1] at isw'
      refine am_aload_n (q := 73) dX14_readTurn_72 rfl rfl ?_
      refine am_iconst (q := 74) (v := 2) dX14_readTurn_73 kc_i2 rfl ?_
      refine am_bipush (q := 76) (v := 16) dX14_readTurn_74 kc_b16 rfl ?_
      refine cm_call0 (q := 79) (As := [_, _]) hG dX14_readTurn_76 mlX14_123 rfl (by assumption) ⟨_, _, rfl⟩ (Nat.le_of_ble_eq_true rfl) (Nat.le_of_ble_eq_true rfl) (Nat.le_of_ble_eq_true rfl) (Nat.le_of_ble_eq_true rfl) isw' rfl ?_
      rintro _ _ ⟨rfl, rfl⟩
      refine am_if_eq (tgt := 97) (q := 82) dX14_readTurn_79 rfl rfl (fun _ => ?_) (fun hz => absurd rfl hz)
      exact f3
  have eat : P0 = b.P → PC (up2 I y 13 (nI (a + 1))) y nx T (ixB b) (b.B.nR, b.B.nF, b.B.nP) (P1, b.L) 0 (a + 1) k ∧ OffM y nx k I (up2 I y 13 (nI (a + 1))) := fun z => by
    have d := h1.eat (kk := 317) (I1 := up2 I y 13 (nI (a + 1))) hC hg hk (by decide) (by decide) (fun x j => up2_at _ _)
    rw [← q1, z]
    exact d
  by_cases c12 : t0 = 20
  · have tl := k_tel (n := 4) (J := J) (G := G) hC h1 hg rfl rfl
    by_cases hz : b.P.2.1 = 0
    · rw [if_pos hz] at tl
      have e0 : P0 = pBl T 4 b.P := by rw [← q0, if_pos (by rw [et hz, c12]; exact Nat.le_refl _)]
      have d := h1.told (n := 4) (I1 := up2 (up2 (up2 I y 16 4) y 17 (nI a)) y 13 (nI (a + 1))) hC hz hk (by decide) (by decide) (by decide) (by decide) (fun x j => by
        rw [up3_at (by decide) (by decide) (by decide)]
        by_cases z1 : x = y ∧ j = 16
        · rw [if_pos z1, if_neg (by omega), if_pos z1]
        · rw [if_neg z1, if_neg z1]
          by_cases z2 : x = y ∧ j = 17
          · rw [if_pos z2, if_neg (by omega), if_pos z2]
          · rw [if_neg z2, if_neg z2])
      have m1 := mid (up2 (up2 (up2 I y 16 4) y 17 (nI a)) y 13 (nI (a + 1))) (by rw [← q1, e0]; exact d.1) d.2
      have i13 : up2 (up2 I y 16 4) y 17 (nI a) y 13 = nI a := by rw [up2_j (by decide), up2_j (by decide)]; exact h13
      clear mid fin eat q0 q1 qf q2 q3 qr q4 q5 qy qn e1 e3' h0 hB0 hB1 hk hg hz e0 h2 h3 et nA
      refine am_aload_n (q := 1) dX14_readTurn_0 rfl rfl ?_
      refine cm_getR (q := 4) dX14_readTurn_1 flX14_36 rfl (by assumption) (by assumption) rfl ?_
      refine cm_getI (q := 7) dX14_readTurn_4 flX14_246 rfl (by assumption) rfl ?_
      rw [hu3, c12]
      refine am_bipush (q := 9) (v := 20) dX14_readTurn_7 kc_b20 rfl ?_
      refine am_icmp_ne (tgt := 21) (q := 12) dX14_readTurn_9 rfl rfl (fun hz => absurd rfl hz) (fun _ => ?_)
      refine am_aload_n (q := 13) dX14_readTurn_12 rfl rfl ?_
      refine am_iconst (q := 14) (v := 4) dX14_readTurn_13 kc_i4 rfl ?_
      refine am_aload_n (q := 15) dX14_readTurn_14 rfl rfl ?_
      refine cm_getI (q := 18) dX14_readTurn_15 flX14_116 rfl (by assumption) rfl ?_
      rw [h13]
      refine cm_call0 (q := 21) (As := [_, _]) hG dX14_readTurn_18 mlX14_149 rfl (by assumption) ⟨_, _, rfl⟩ (Nat.le_of_ble_eq_true rfl) (Nat.le_of_ble_eq_true rfl) (Nat.le_of_ble_eq_true rfl) (Nat.le_of_ble_eq_true rfl) tl rfl ?_
      rintro _ _ ⟨rfl, rfl⟩
      refine am_aload_n (q := 22) dX14_readTurn_21 rfl rfl ?_
      refine am_dup (q := 23) dX14_readTurn_22 rfl rfl ?_
      refine cm_getI (q := 26) dX14_readTurn_23 flX14_116 rfl (by assumption) rfl ?_
      rw [i13]
      refine am_iconst (q := 27) (v := 1) dX14_readTurn_26 kc_i1 rfl ?_
      refine am_iadd (q := 28) dX14_readTurn_27 rfl ?_
      rw [nI_1]
      refine cm_putI (q := 31) dX14_readTurn_28 flX14_116 rfl (Or.inl rfl) (Or.inl rfl) (by assumption) rfl ?_
      exact m1
    · rw [if_neg hz] at tl
      have e0 : P0 = b.P := by
        rw [← q0]
        split
        · exact pBl_no hz
        · rfl
      have m1 := mid _ (eat e0).1 (eat e0).2
      clear mid fin eat q0 q1 qf q2 q3 qr q4 q5 qy qn e1 e3' h0 hB0 hB1 hk hg hz e0 h2 h3 et nA
      refine am_aload_n (q := 1) dX14_readTurn_0 rfl rfl ?_
      refine cm_getR (q := 4) dX14_readTurn_1 flX14_36 rfl (by assumption) (by assumption) rfl ?_
      refine cm_getI (q := 7) dX14_readTurn_4 flX14_246 rfl (by assumption) rfl ?_
      rw [hu3, c12]
      refine am_bipush (q := 9) (v := 20) dX14_readTurn_7 kc_b20 rfl ?_
      refine am_icmp_ne (tgt := 21) (q := 12) dX14_readTurn_9 rfl rfl (fun hz => absurd rfl hz) (fun _ => ?_)
      refine am_aload_n (q := 13) dX14_readTurn_12 rfl rfl ?_
      refine am_iconst (q := 14) (v := 4) dX14_readTurn_13 kc_i4 rfl ?_
      refine am_aload_n (q := 15) dX14_readTurn_14 rfl rfl ?_
      refine cm_getI (q := 18) dX14_readTurn_15 flX14_116 rfl (by assumption) rfl ?_
      rw [h13]
      refine cm_call0 (q := 21) (As := [_, _]) hG dX14_readTurn_18 mlX14_149 rfl (by assumption) ⟨_, _, rfl⟩ (Nat.le_of_ble_eq_true rfl) (Nat.le_of_ble_eq_true rfl) (Nat.le_of_ble_eq_true rfl) (Nat.le_of_ble_eq_true rfl) tl rfl ?_
      rintro _ _ ⟨rfl, rfl⟩
      refine am_aload_n (q := 22) dX14_readTurn_21 rfl rfl ?_
      refine am_dup (q := 23) dX14_readTurn_22 rfl rfl ?_
      refine cm_getI (q := 26) dX14_readTurn_23 flX14_116 rfl (by assumption) rfl ?_
      rw [h13]
      refine am_iconst (q := 27) (v := 1) dX14_readTurn_26 kc_i1 rfl ?_
      refine am_iadd (q := 28) dX14_readTurn_27 rfl ?_
      rw [nI_1]
      refine cm_putI (q := 31) dX14_readTurn_28 flX14_116 rfl (Or.inl rfl) (Or.inl rfl) (by assumption) rfl ?_
      exact m1
  · have e0 : P0 = b.P := by
      rw [← q0]
      by_cases hz : b.P.2.1 = 0
      · rw [if_neg (by rw [et hz]; omega)]
      · split
        · exact pBl_no hz
        · rfl
    have m1 := mid _ (eat e0).1 (eat e0).2
    clear mid fin eat q0 q1 qf q2 q3 qr q4 q5 qy qn e1 e3' h0 hB0 hB1 hk hg e0 h2 h3 et nA
    refine am_aload_n (q := 1) dX14_readTurn_0 rfl rfl ?_
    refine cm_getR (q := 4) dX14_readTurn_1 flX14_36 rfl (by assumption) (by assumption) rfl ?_
    refine cm_getI (q := 7) dX14_readTurn_4 flX14_246 rfl (by assumption) rfl ?_
    rw [hu3]
    refine am_bipush (q := 9) (v := 20) dX14_readTurn_7 kc_b20 rfl ?_
    refine am_icmp_ne (tgt := 21) (q := 12) dX14_readTurn_9 rfl rfl (fun _ => ?_) (fun hz => absurd hz (k_ne (b := 20) (by omega) (by decide) c12))
    refine am_aload_n (q := 22) dX14_readTurn_21 rfl rfl ?_
    refine am_dup (q := 23) dX14_readTurn_22 rfl rfl ?_
    refine cm_getI (q := 26) dX14_readTurn_23 flX14_116 rfl (by assumption) rfl ?_
    rw [h13]
    refine am_iconst (q := 27) (v := 1) dX14_readTurn_26 kc_i1 rfl ?_
    refine am_iadd (q := 28) dX14_readTurn_27 rfl ?_
    rw [nI_1]
    refine cm_putI (q := 31) dX14_readTurn_28 flX14_116 rfl (Or.inl rfl) (Or.inl rfl) (by assumption) rfl ?_
    exact m1
end Rt

