theorem kc_b14 : (Int8.ofInt 14).toInt32 = 14 := by decide +kernel
theorem kc_b15 : (Int8.ofInt 15).toInt32 = 15 := by decide +kernel
theorem kc_b16 : (Int8.ofInt 16).toInt32 = 16 := by decide +kernel
theorem dX14_readPrize_0 : decode cX14_readPrize 0 = .ok (.aload_n 0, 1) := by decide +kernel
theorem dX14_readPrize_1 : decode cX14_readPrize 1 = .ok (.dup, 1) := by decide +kernel
theorem dX14_readPrize_2 : decode cX14_readPrize 2 = .ok (.getfield 116, 3) := by decide +kernel
theorem dX14_readPrize_5 : decode cX14_readPrize 5 = .ok (.iconst 1, 1) := by decide +kernel
theorem dX14_readPrize_6 : decode cX14_readPrize 6 = .ok (.iadd, 1) := by decide +kernel
theorem dX14_readPrize_7 : decode cX14_readPrize 7 = .ok (.putfield 116, 3) := by decide +kernel
theorem dX14_readPrize_10 : decode cX14_readPrize 10 = .ok (.aload_n 0, 1) := by decide +kernel
theorem dX14_readPrize_11 : decode cX14_readPrize 11 = .ok (.aload_n 0, 1) := by decide +kernel
theorem dX14_readPrize_12 : decode cX14_readPrize 12 = .ok (.getfield 45, 3) := by decide +kernel
theorem dX14_readPrize_15 : decode cX14_readPrize 15 = .ok (.aload_n 0, 1) := by decide +kernel
theorem dX14_readPrize_16 : decode cX14_readPrize 16 = .ok (.getfield 36, 3) := by decide +kernel
theorem dX14_readPrize_19 : decode cX14_readPrize 19 = .ok (.getfield 180, 3) := by decide +kernel
theorem dX14_readPrize_22 : decode cX14_readPrize 22 = .ok (.bipush 8, 2) := by decide +kernel
theorem dX14_readPrize_24 : decode cX14_readPrize 24 = .ok (.invokevirtual 222, 3) := by decide +kernel
theorem dX14_readPrize_27 : decode cX14_readPrize 27 = .ok (.istore_n 1, 1) := by decide +kernel
theorem dX14_readPrize_28 : decode cX14_readPrize 28 = .ok (.aload_n 0, 1) := by decide +kernel
theorem dX14_readPrize_29 : decode cX14_readPrize 29 = .ok (.iconst 2, 1) := by decide +kernel
theorem dX14_readPrize_30 : decode cX14_readPrize 30 = .ok (.bipush 14, 2) := by decide +kernel
theorem dX14_readPrize_32 : decode cX14_readPrize 32 = .ok (.invokevirtual 152, 3) := by decide +kernel
theorem dX14_readPrize_35 : decode cX14_readPrize 35 = .ok (.aload_n 0, 1) := by decide +kernel
theorem dX14_readPrize_36 : decode cX14_readPrize 36 = .ok (.invokevirtual 195, 3) := by decide +kernel
theorem dX14_readPrize_39 : decode cX14_readPrize 39 = .ok (.istore_n 2, 1) := by decide +kernel
theorem dX14_readPrize_40 : decode cX14_readPrize 40 = .ok (.aload_n 0, 1) := by decide +kernel
theorem dX14_readPrize_41 : decode cX14_readPrize 41 = .ok (.bipush 15, 2) := by decide +kernel
theorem dX14_readPrize_43 : decode cX14_readPrize 43 = .ok (.iconst 0, 1) := by decide +kernel
theorem dX14_readPrize_44 : decode cX14_readPrize 44 = .ok (.bipush 99, 2) := by decide +kernel
theorem dX14_readPrize_46 : decode cX14_readPrize 46 = .ok (.invokevirtual 225, 3) := by decide +kernel
theorem dX14_readPrize_49 : decode cX14_readPrize 49 = .ok (.istore_n 3, 1) := by decide +kernel
theorem dX14_readPrize_50 : decode cX14_readPrize 50 = .ok (.aload_n 0, 1) := by decide +kernel
theorem dX14_readPrize_51 : decode cX14_readPrize 51 = .ok (.iconst 2, 1) := by decide +kernel
theorem dX14_readPrize_52 : decode cX14_readPrize 52 = .ok (.bipush 16, 2) := by decide +kernel
theorem dX14_readPrize_54 : decode cX14_readPrize 54 = .ok (.invokevirtual 152, 3) := by decide +kernel
theorem dX14_readPrize_57 : decode cX14_readPrize 57 = .ok (.aload_n 0, 1) := by decide +kernel
theorem dX14_readPrize_58 : decode cX14_readPrize 58 = .ok (.invokevirtual 204, 3) := by decide +kernel
theorem dX14_readPrize_61 : decode cX14_readPrize 61 = .ok (.istore 4, 2) := by decide +kernel
theorem dX14_readPrize_63 : decode cX14_readPrize 63 = .ok (.aload_n 0, 1) := by decide +kernel
theorem dX14_readPrize_64 : decode cX14_readPrize 64 = .ok (.getfield 36, 3) := by decide +kernel
theorem dX14_readPrize_67 : decode cX14_readPrize 67 = .ok (.getfield 180, 3) := by decide +kernel
theorem dX14_readPrize_70 : decode cX14_readPrize 70 = .ok (.bipush 8, 2) := by decide +kernel
theorem dX14_readPrize_72 : decode cX14_readPrize 72 = .ok (.if_icmp .ne 4, 3) := by decide +kernel
theorem dX14_readPrize_75 : decode cX14_readPrize 75 = .ok (.return_, 1) := by decide +kernel
theorem dX14_readPrize_76 : decode cX14_readPrize 76 = .ok (.aload_n 0, 1) := by decide +kernel
theorem dX14_readPrize_77 : decode cX14_readPrize 77 = .ok (.getfield 36, 3) := by decide +kernel
theorem dX14_readPrize_80 : decode cX14_readPrize 80 = .ok (.getfield 243, 3) := by decide +kernel
theorem dX14_readPrize_83 : decode cX14_readPrize 83 = .ok (.iconst 3, 1) := by decide +kernel
theorem dX14_readPrize_84 : decode cX14_readPrize 84 = .ok (.aload_n 0, 1) := by decide +kernel
theorem dX14_readPrize_85 : decode cX14_readPrize 85 = .ok (.getfield 36, 3) := by decide +kernel
theorem dX14_readPrize_88 : decode cX14_readPrize 88 = .ok (.getfield 180, 3) := by decide +kernel
theorem dX14_readPrize_91 : decode cX14_readPrize 91 = .ok (.imul, 1) := by decide +kernel
theorem dX14_readPrize_92 : decode cX14_readPrize 92 = .ok (.iload_n 2, 1) := by decide +kernel
theorem dX14_readPrize_93 : decode cX14_readPrize 93 = .ok (.iload_n 3, 1) := by decide +kernel
theorem dX14_readPrize_94 : decode cX14_readPrize 94 = .ok (.iload 4, 2) := by decide +kernel
theorem dX14_readPrize_96 : decode cX14_readPrize 96 = .ok (.invokestatic 230, 3) := by decide +kernel
theorem dX14_readPrize_99 : decode cX14_readPrize 99 = .ok (.aload_n 0, 1) := by decide +kernel
theorem dX14_readPrize_100 : decode cX14_readPrize 100 = .ok (.getfield 45, 3) := by decide +kernel
theorem dX14_readPrize_103 : decode cX14_readPrize 103 = .ok (.aload_n 0, 1) := by decide +kernel
theorem dX14_readPrize_104 : decode cX14_readPrize 104 = .ok (.getfield 36, 3) := by decide +kernel
theorem dX14_readPrize_107 : decode cX14_readPrize 107 = .ok (.getfield 180, 3) := by decide +kernel
theorem dX14_readPrize_110 : decode cX14_readPrize 110 = .ok (.iload_n 1, 1) := by decide +kernel
theorem dX14_readPrize_111 : decode cX14_readPrize 111 = .ok (.iastore, 1) := by decide +kernel
theorem dX14_readPrize_112 : decode cX14_readPrize 112 = .ok (.aload_n 0, 1) := by decide +kernel
theorem dX14_readPrize_113 : decode cX14_readPrize 113 = .ok (.getfield 36, 3) := by decide +kernel
theorem dX14_readPrize_116 : decode cX14_readPrize 116 = .ok (.dup, 1) := by decide +kernel
theorem dX14_readPrize_117 : decode cX14_readPrize 117 = .ok (.getfield 180, 3) := by decide +kernel
theorem dX14_readPrize_120 : decode cX14_readPrize 120 = .ok (.iconst 1, 1) := by decide +kernel
theorem dX14_readPrize_121 : decode cX14_readPrize 121 = .ok (.iadd, 1) := by decide +kernel
theorem dX14_readPrize_122 : decode cX14_readPrize 122 = .ok (.putfield 180, 3) := by decide +kernel
theorem dX14_readPrize_125 : decode cX14_readPrize 125 = .ok (.return_, 1) := by decide +kernel
/-! the reference's readPrize -/
theorem semC_sg {L : Cd} {p q : Nat} {σ : Sem} (h : SgL L p q σ) : semC L p q = σ := by
  funext rd
  unfold semC
  rw [h.2.2 rd []]
  rfl
section Rp
variable {G : Gp} {S : AMem} {I I1 : Nat → Nat → Int32} {J : Nat → Nat → Int64} {R : Nat → Nat → Option Nat} {y bl nx : Nat} {T : Toks} {b : BL} {a k : Nat}
theorem kn_sum {V : PS × Cd → PS × Cd} {s W : PS × Cd} {D : NdK} {Y : MD} {dd : Nat} {ix : Int32 → Int64 → Int32} {N : Nat × Nat × Nat} (hK : KM G S J R y nx T ix N D Y dd 0 V) (h : PC I y nx T ix N s 0 a k) (ha : 1 ≤ a) (hW : V s = W) : Fn G Y dd [vR y] (mw S I J R) (fun rr M1 => ∃ n I1 a1 k1, rr = some (vI (nI n)) ∧ M1 = mw S I1 J R ∧ PC I1 y nx T ix N W 0 a1 k1 ∧ (k1 + a ≤ k + a1 ∧ a ≤ a1 ∧ k ≤ k1) ∧ OffM y nx k I I1 ∧ (W.1.2.1 = 0 → NRx D I1 nx N s.2 W.2 n)) := by
  subst hW
  exact hK I s a k h ha
theorem kv_readPrize {P1 P2 P3 P5 P6 : PS} {W Z : PS × Cd} {v1 : Int64} {x5 : Int32} {B1 : BL} {V U : PS × Cd → PS × Cd} (hG : okG G) (hC : MCc S R y bl nx) (h : PL I y nx T b a k) (hk : pK T b.P = 313) (hV : KM G S J R y nx T (ixB b) (b.B.nR, b.B.nF, b.B.nP) NdN mX14_sum 40 0 V) (hU : KM G S J R y nx T (ixB b) (b.B.nR, b.B.nF, b.B.nP) NdB mX14_test 46 0 U) (q1 : pEx T 313 b.P = P1) (qv : pV T P1 = v1) (q2 : pNew T (bI (0 ≤ fndJ b.np v1 0 b.B.nP)) (bI (8 ≤ b.B.nP)) P1 = P2) (q3 : pEx T 314 P2 = P3) (qw : V (P3, b.L) = W) (q5 : pNum T 315 0 99 W.1 = P5) (w5 : pW T 315 W.1 = x5) (q6 : pEx T 316 P5 = P6) (qz : U (P6, W.2) = Z) (hnx : Z.1.2.1 ≠ 1 → P5.2.1 ≠ 1 ∧ P2.2.1 ≠ 1) (h0 : Z.1.2.1 = 0 → (P5.2.1 = 0 ∧ W.1.2.1 = 0) ∧ b.P.2.1 = 0 ∧ b.B.nP < 8 ∧ 0 ≤ x5) (hB0 : Z.1.2.1 = 0 → B1 = (Z.1, Z.2, BSprize b.B (semC Z.2 b.L.length W.2.length) (semC Z.2 W.2.length Z.2.length), MSprize b.m b.B.nP x5, b.u, b.nr, b.nf, up1 b.np b.B.nP v1)) (hB1 : Z.1.2.1 ≠ 0 → B1 = BE b Z) : Fn G mX14_readPrize 47 [vR y] (mw S I J R) (fun rr M1 => rr = none ∧ ∃ I1 a1 k1, M1 = mw S I1 J R ∧ PL I1 y nx T B1 a1 k1 ∧ a < a1 ∧ OffP y nx I I1) := by
  have ky := hC.1.1
  obtain ⟨kb, _, _, _, c5, _, _, _, _, _, _, _, ⟨kr1, lr1⟩, _⟩ := id hC.2.2.2.2.2.2.2.2.1
  have rn := hC.2.2.2.2.2.2.1
  obtain ⟨_, _, _, _, _, _, _, _, q10, q11, q12, _, _, k24, l24⟩ := id hC.2.2.2.2.2.2.2.2.2
  obtain ⟨p1, p2, p3, p4, p5⟩ := hC.lo
  obtain ⟨h1, h2, h3⟩ := h
  have hg : b.P.2.1 ≠ 1 := PC.ng (s := (b.P, b.L)) (by decide) hk
  obtain ⟨a1, a2, a3, mr, mf, mp, nm, nA⟩ := h1.nmm hg
  obtain ⟨u0, t0, hu⟩ := h2 hg
  obtain ⟨_, _, ⟨nm1, nm2⟩, _, _, nm7⟩ := id nm
  have h13 := h1.2.1.1
  have hk4 : k ≤ 401 := by have := h1.2.1.2.2.2.1; have := h1.2.1.2.1; have := h1.1.2.1; omega
  have I2h : ∀ x j, up2 I y 13 (nI (a + 1)) x j = if x = y ∧ j = 13 then nI (a + 1) else I x j := fun x j => up2_at _ _
  obtain ⟨d1, d2⟩ := h1.eat (kk := 313) (I1 := up2 I y 13 (nI (a + 1))) hC hg hk (by decide) (by decide) I2h
  have d1' : PC (up2 I y 13 (nI (a + 1))) y nx T (ixB b) (b.B.nR, b.B.nF, b.B.nP) (P1, b.L) 0 (a + 1) k := by
    rw [← q1]
    exact d1
  have e0 : P1.2.1 = 0 → b.P.2.1 = 0 := fun z => by
    rw [← q1] at z
    exact (pEx_0 z).1
  have hfr : Fn G mX14_fresh 2 [vR y, vR (y + 26), vI (nI a3), vI 8] (mw S (up2 I y 13 (nI (a + 1))) J R) (fun rr M1 => ∃ w I1 a', rr = some (vI w) ∧ M1 = mw S I1 J R ∧ PC I1 y nx T (ixB b) (b.B.nR, b.B.nF, b.B.nP) (P2, b.L) 0 a' k ∧ a + 1 ≤ a' ∧ OffM y nx k (up2 I y 13 (nI (a + 1))) I1 ∧ (P2.2.1 ≠ 1 → w = nI (a + 1) ∧ T.k (a + 1) = 258 ∧ v1 = T.v (a + 1))) :=
    kn_new (f := mp) (f1 := bI (0 ≤ fndJ b.np v1 0 b.B.nP)) (f2 := bI (8 ≤ b.B.nP)) hG hC d1' k24 (by omega) (by omega) (by omega) (by omega) (fun l hl => by rw [I2h, if_neg (by omega)]; exact nm7 l hl) q2 qv (fun z => by
      obtain ⟨⟨_, _, w1⟩, _, _, w4⟩ := (nA (e0 z)).on
      refine ⟨?_, ?_⟩
      · rw [fndJ_ge (by omega), w4]
      · rw [w1]
        exact nI_4 (q := 8) (by omega) (by decide) nm2)
  have tk3 := fun (I3 : Nat → Nat → Int32) (e3 : Nat) (g1 : PC I3 y nx T (ixB b) (b.B.nR, b.B.nF, b.B.nP) (P2, b.L) 0 e3 k) => kn_take (j0 := 14) (kw := 314) (o := 14) (J := J) hG hC g1 (by decide) (by decide) (by decide) q3
  have sm := fun (I3 : Nat → Nat → Int32) (e3 : Nat) (g1 : PC I3 y nx T (ixB b) (b.B.nR, b.B.nF, b.B.nP) (P3, b.L) 0 e3 k) (g2 : 1 ≤ e3) => kn_sum hV g1 g2 qw
  have n5 := fun (I3 : Nat → Nat → Int32) (e3 k1 : Nat) (g1 : PC I3 y nx T (ixB b) (b.B.nR, b.B.nF, b.B.nP) W 0 e3 k1) => kn_num (J := J) (j0 := 15) (kw := 315) hG hC g1 (by decide) (by decide) q5 w5
  have tk6 := fun (I3 : Nat → Nat → Int32) (e3 k1 : Nat) (g1 : PC I3 y nx T (ixB b) (b.B.nR, b.B.nF, b.B.nP) (P5, W.2) 0 e3 k1) => kn_take (j0 := 16) (kw := 316) (o := 16) (J := J) hG hC g1 (by decide) (by decide) (by decide) q6
  have ts := fun (I3 : Nat → Nat → Int32) (e3 k1 : Nat) (g1 : PC I3 y nx T (ixB b) (b.B.nR, b.B.nF, b.B.nP) (P6, W.2) 0 e3 k1) (g2 : 1 ≤ e3) => kn_sum hU g1 g2 qz
  clear q1 qv q2 q3 qw q5 q6 qz w5 d1 e0 hk hg h2
  refine am_aload_n (q := 1) dX14_readPrize_0 rfl rfl ?_
  refine am_dup (q := 2) dX14_readPrize_1 rfl rfl ?_
  refine cm_getI (q := 5) dX14_readPrize_2 flX14_116 rfl (by assumption) rfl ?_
  rw [h13]
  refine am_iconst (q := 6) (v := 1) dX14_readPrize_5 kc_i1 rfl ?_
  refine am_iadd (q := 7) dX14_readPrize_6 rfl ?_
  refine cm_putI (q := 10) dX14_readPrize_7 flX14_116 rfl (Or.inl rfl) (Or.inl rfl) (by assumption) rfl ?_
  rw [nI_1]
  generalize up2 I y 13 (nI (a + 1)) = I2 at I2h d1' d2 hfr ⊢
  have f0 : I2 nx 3 = nI a3 := by rw [I2h, if_neg (by omega)]; exact nm1
  refine am_aload_n (q := 11) dX14_readPrize_10 rfl rfl ?_
  refine am_aload_n (q := 12) dX14_readPrize_11 rfl rfl ?_
  refine cm_getR (q := 15) dX14_readPrize_12 flX14_45 rfl (by assumption) (by assumption) rfl ?_
  refine am_aload_n (q := 16) dX14_readPrize_15 rfl rfl ?_
  refine cm_getR (q := 19) dX14_readPrize_16 flX14_36 rfl (by assumption) (by assumption) rfl ?_
  refine cm_getI (q := 22) dX14_readPrize_19 flX14_180 rfl (by assumption) rfl ?_
  rw [f0]
  refine am_bipush (q := 24) (v := 8) dX14_readPrize_22 kc_b8 rfl ?_
  refine cm_call0 (q := 27) (As := [_, _, _]) hG dX14_readPrize_24 mlX14_222 rfl (by assumption) ⟨_, _, rfl⟩ (Nat.le_of_ble_eq_true rfl) (Nat.le_of_ble_eq_true rfl) (Nat.le_of_ble_eq_true rfl) (Nat.le_of_ble_eq_true rfl) hfr rfl ?_
  rintro _ _ ⟨tk, I3, e3, rfl, rfl, g1, g2, g3, g4⟩
  refine am_istore_n (q := 28) (ls1 := [_, _, _, _, _]) dX14_readPrize_27 (Nat.le_of_ble_eq_true rfl) rfl rfl ?_
  have tk3' := tk3 I3 e3 g1
  refine am_aload_n (q := 29) dX14_readPrize_28 rfl rfl ?_
  refine am_iconst (q := 30) (v := 2) dX14_readPrize_29 kc_i2 rfl ?_
  refine am_bipush (q := 32) (v := 14) dX14_readPrize_30 kc_b14 rfl ?_
  refine cm_call0 (q := 35) (As := [_, _]) hG dX14_readPrize_32 mlX14_152 rfl (by assumption) ⟨_, _, rfl⟩ (Nat.le_of_ble_eq_true rfl) (Nat.le_of_ble_eq_true rfl) (Nat.le_of_ble_eq_true rfl) (Nat.le_of_ble_eq_true rfl) tk3' rfl ?_
  rintro _ _ ⟨rfl, I4, e4, rfl, r1, r2, r3⟩
  have sm' := sm I4 e4 r1 (by omega)
  refine am_aload_n (q := 36) dX14_readPrize_35 rfl rfl ?_
  refine cm_call0 (q := 39) (As := []) hG dX14_readPrize_36 mlX14_195 rfl (by assumption) ⟨_, _, rfl⟩ (Nat.le_of_ble_eq_true rfl) (Nat.le_of_ble_eq_true rfl) (Nat.le_of_ble_eq_true rfl) (Nat.le_of_ble_eq_true rfl) sm' rfl ?_
  rintro _ _ ⟨n, I5, e5, k5, rfl, rfl, s1, ⟨s2, s3, s4⟩, s5, s6⟩
  refine am_istore_n (q := 40) (ls1 := [_, _, _, _, _]) dX14_readPrize_39 (Nat.le_of_ble_eq_true rfl) rfl rfl ?_
  have n5' := n5 I5 e5 k5 s1
  refine am_aload_n (q := 41) dX14_readPrize_40 rfl rfl ?_
  refine am_bipush (q := 43) (v := 15) dX14_readPrize_41 kc_b15 rfl ?_
  refine am_iconst (q := 44) (v := 0) dX14_readPrize_43 kc_i0 rfl ?_
  refine am_bipush (q := 46) (v := 99) dX14_readPrize_44 kc_b99 rfl ?_
  refine cm_call0 (q := 49) (As := [_, _, _]) hG dX14_readPrize_46 mlX14_225 rfl (by assumption) ⟨_, _, rfl⟩ (Nat.le_of_ble_eq_true rfl) (Nat.le_of_ble_eq_true rfl) (Nat.le_of_ble_eq_true rfl) (Nat.le_of_ble_eq_true rfl) n5' rfl ?_
  rintro _ _ ⟨y5, I6, e6, rfl, rfl, v1', v2, v3, v4⟩
  refine am_istore_n (q := 50) (ls1 := [_, _, _, _, _]) dX14_readPrize_49 (Nat.le_of_ble_eq_true rfl) rfl rfl ?_
  have tk6' := tk6 I6 e6 k5 v1'
  refine am_aload_n (q := 51) dX14_readPrize_50 rfl rfl ?_
  refine am_iconst (q := 52) (v := 2) dX14_readPrize_51 kc_i2 rfl ?_
  refine am_bipush (q := 54) (v := 16) dX14_readPrize_52 kc_b16 rfl ?_
  refine cm_call0 (q := 57) (As := [_, _]) hG dX14_readPrize_54 mlX14_152 rfl (by assumption) ⟨_, _, rfl⟩ (Nat.le_of_ble_eq_true rfl) (Nat.le_of_ble_eq_true rfl) (Nat.le_of_ble_eq_true rfl) (Nat.le_of_ble_eq_true rfl) tk6' rfl ?_
  rintro _ _ ⟨rfl, I7, e7, rfl, t1, t2, t3⟩
  have ts' := ts I7 e7 k5 t1 (by omega)
  refine am_aload_n (q := 58) dX14_readPrize_57 rfl rfl ?_
  refine cm_call0 (q := 61) (As := []) hG dX14_readPrize_58 mlX14_204 rfl (by assumption) ⟨_, _, rfl⟩ (Nat.le_of_ble_eq_true rfl) (Nat.le_of_ble_eq_true rfl) (Nat.le_of_ble_eq_true rfl) (Nat.le_of_ble_eq_true rfl) ts' rfl ?_
  rintro _ _ ⟨m, I8, e8, k8, rfl, rfl, o1, ⟨o2, o3, o4⟩, o5, o6⟩
  refine am_istore (q := 63) (ls1 := [_, _, _, _, _]) dX14_readPrize_61 (Nat.le_of_ble_eq_true rfl) rfl rfl ?_
  clear tk3 sm n5 tk6 ts tk3' sm' n5' tk6' ts' hfr
  have off58 : OffM y nx k5 I5 I8 := (v3.tr t3 (Nat.le_refl _)).tr o5 (Nat.le_refl _)
  have off : OffM y nx k I I8 := ((((d2.tr g3 (Nat.le_refl _)).tr r3 (Nat.le_refl _)).tr s5 (Nat.le_refl _)).tr off58 s4)
  have z0 : I8 nx 3 = nI a3 := (off _ _ (by omega) (by omega) (by omega)).trans nm1
  have hu6 : I8 nx 1 = nI u0 ∧ u0 ≤ 12 ∧ I8 nx 4 = nI t0 ∧ t0 ≤ 20 := ⟨(off _ _ (by omega) (by omega) (by omega)).trans hu.1, hu.2.1, (off _ _ (by omega) (by omega) (by omega)).trans hu.2.2.1, hu.2.2.2⟩
  have nm6 : NmM I8 y nx T a1 a2 a3 mr mf mp := nm.cg (fun j hj => off _ _ (by omega) (by omega) (by omega)) (fun x j q1 q2 => off _ _ (by omega) (by omega) (by omega))
  have lt : a < e8 := by omega
  have kk8 : k8 ≤ 401 := by have := o1.2.1.2.2.2.1; have := o1.2.1.2.1; have := o1.1.2.1; omega
  have nz4 : a3 = 8 → Z.1.2.1 ≠ 0 := fun c q => by
    obtain ⟨_, z2, z3, _⟩ := h0 q
    have := (nA z2).on.1.2.2
    omega
  refine am_aload_n (q := 64) dX14_readPrize_63 rfl rfl ?_
  refine cm_getR (q := 67) dX14_readPrize_64 flX14_36 rfl (by assumption) (by assumption) rfl ?_
  refine cm_getI (q := 70) dX14_readPrize_67 flX14_180 rfl (by assumption) rfl ?_
  rw [z0]
  by_cases c4 : a3 = 8
  · have nz := nz4 c4
    have fin : PL I8 y nx T B1 e8 k8 := by
      rw [hB1 nz]
      exact PL.bp (P := Z.1) (L := Z.2) o1 rfl rfl rfl rfl (fun _ => ⟨u0, t0, hu6⟩) nz
    subst c4
    clear nz nz4 h0 hB0 hB1 hnx g4 s6 v4 o6
    refine am_bipush (q := 72) (v := 8) dX14_readPrize_70 kc_b8 rfl ?_
    refine am_icmp_ne (tgt := 76) (q := 75) dX14_readPrize_72 rfl rfl (fun hz => absurd rfl hz) (fun _ => ?_)
    exact am_ret dX14_readPrize_75 rfl ⟨_, rfl, rfl, I8, e8, k8, rfl, fin, lt, off.p⟩
  · have c5' : a3 < 8 := by omega
    have rb6 : b.P.2.1 = 0 → NmA (ixB b) (b.B.nR, b.B.nF, b.B.nP) a1 a2 a3 mr mf mp ∧ RBx I8 nx b.B b.m b.u ∧ RBk I8 nx b.B k8 := fun q => ⟨nA q, (h3 q).1.om hC (h3 q).2 hk4 off, ((h3 q).2.om hC off).le (by omega)⟩
    have fin : PL (rwI I8 (nx + 4) (3 * a3) (nI n) y5 (nI m) (y + 26) a3 tk nx 3 (nI (a3 + 1))) y nx T B1 e8 k8 := PL.prize (t := a + 1) (v1 := v1) (L5 := Z.2) (P5 := Z.1) (σ := semC Z.2 b.L.length W.2.length) (τ := semC Z.2 W.2.length Z.2.length) hC o1 c5' (fun q => by
        obtain ⟨_, z⟩ := hnx q
        obtain ⟨_, z2, z3⟩ := g4 z
        exact ⟨nm6, Tk_lt z2, z2, z3⟩) rb6 hu6 (fun q => (g4 (hnx q).2).1) (fun q => by
        obtain ⟨⟨f1, f2⟩, f3, f4, f5⟩ := h0 q
        obtain ⟨l1, _, _, _⟩ := s1.len f2
        obtain ⟨l2, _, _, _⟩ := o1.len q
        have nr := s6 f2
        obtain ⟨x1, x2, x3, σ, x4, x5⟩ := nr.off NdN_w hC off58 (by omega)
        obtain ⟨y1, y2, y3, τ, y4, y6⟩ := o6 q
        have y1' : W.2 <+: Z.2 := y1
        have le := y1'.length_le
        refine ⟨f3, f4, ?_, n, m, rfl, rfl, by omega, by omega, kk8, ?_, ?_⟩
        · rw [(v4 (by rw [f1]; decide)).1]
          exact f5
        · rw [semC_sg (x5.mono y1')]
          exact x4
        · rw [semC_sg y6]
          exact y4) (fun q => by
        obtain ⟨⟨f1, _⟩, _⟩ := h0 q
        rw [(v4 (by rw [f1]; decide)).1]
        exact hB0 q) hB1
    have ofw := off.p.tr (rwI_off (nx := nx) (y := y) (I := I8) (q := nx + 4) (p := 3 * a3) (u := nI n) (v := y5) (w := nI m) (nq := y + 26) (l := a3) (t := tk) (c := 3) (n := nI (a3 + 1)) (by omega) (by omega) (by omega) (by omega))
    have m3 : (3 : Int32) * nI a3 = nI (3 * a3) := k_mul 3 a3
    have cl : (nI a3).toNatClampNeg = a3 := nI_clamp (by omega)
    clear nz4 h0 hB0 hB1 hnx g4 s6 v4 o6 rb6 nA h3
    refine am_bipush (q := 72) (v := 8) dX14_readPrize_70 kc_b8 rfl ?_
    refine am_icmp_ne (tgt := 76) (q := 75) dX14_readPrize_72 rfl rfl (fun _ => ?_) (fun hz => absurd hz (k_ne (b := 8) (by omega) (by decide) c4))
    refine am_aload_n (q := 77) dX14_readPrize_76 rfl rfl ?_
    refine cm_getR (q := 80) dX14_readPrize_77 flX14_36 rfl (by assumption) (by assumption) rfl ?_
    refine cm_getR (q := 83) dX14_readPrize_80 flX14_243 rfl (by assumption) (by assumption) rfl ?_
    refine am_iconst (q := 84) (v := 3) dX14_readPrize_83 kc_i3 rfl ?_
    refine am_aload_n (q := 85) dX14_readPrize_84 rfl rfl ?_
    refine cm_getR (q := 88) dX14_readPrize_85 flX14_36 rfl (by assumption) (by assumption) rfl ?_
    refine cm_getI (q := 91) dX14_readPrize_88 flX14_180 rfl (by assumption) rfl ?_
    rw [z0]
    refine am_imul (q := 92) dX14_readPrize_91 rfl ?_
    rw [m3]
    refine am_iload_n (q := 93) dX14_readPrize_92 rfl rfl ?_
    refine am_iload_n (q := 94) dX14_readPrize_93 rfl rfl ?_
    refine am_iload (q := 96) dX14_readPrize_94 rfl rfl ?_
    refine am_call1 (q := 99) (As := [_, _, _, _, _]) hG dX14_readPrize_96 mlX14_230 rfl (Nat.le_of_ble_eq_true rfl) (Nat.le_of_ble_eq_true rfl) (Nat.le_of_ble_eq_true rfl) (k_X14_put kr1 (by omega) (by omega)) rfl ?_
    rintro _ _ ⟨rfl, rfl⟩
    have z7 : up2 (up2 (up2 I8 (nx + 4) (3 * a3) (nI n)) (nx + 4) (3 * a3 + 1) y5) (nx + 4) (3 * a3 + 2) (nI m) nx 3 = nI a3 := by
      rw [up2_a (by omega), up2_a (by omega), up2_a (by omega)]
      exact z0
    refine am_aload_n (q := 100) dX14_readPrize_99 rfl rfl ?_
    refine cm_getR (q := 103) dX14_readPrize_100 flX14_45 rfl (by assumption) (by assumption) rfl ?_
    refine am_aload_n (q := 104) dX14_readPrize_103 rfl rfl ?_
    refine cm_getR (q := 107) dX14_readPrize_104 flX14_36 rfl (by assumption) (by assumption) rfl ?_
    refine cm_getI (q := 110) dX14_readPrize_107 flX14_180 rfl (by assumption) rfl ?_
    rw [z7]
    refine am_iload_n (q := 111) dX14_readPrize_110 rfl rfl ?_
    refine cm_iastore (q := 112) dX14_readPrize_111 (by assumption) (vp_in_nI (by omega) (by omega)) rfl ?_
    rw [cl]
    refine am_aload_n (q := 113) dX14_readPrize_112 rfl rfl ?_
    refine cm_getR (q := 116) dX14_readPrize_113 flX14_36 rfl (by assumption) (by assumption) rfl ?_
    refine am_dup (q := 117) dX14_readPrize_116 rfl rfl ?_
    refine cm_getI (q := 120) dX14_readPrize_117 flX14_180 rfl (by assumption) rfl ?_
    rw [up2_a (by omega), z7]
    refine am_iconst (q := 121) (v := 1) dX14_readPrize_120 kc_i1 rfl ?_
    refine am_iadd (q := 122) dX14_readPrize_121 rfl ?_
    rw [nI_1]
    refine cm_putI (q := 125) dX14_readPrize_122 flX14_180 rfl (Or.inl rfl) (Or.inl rfl) (by assumption) rfl ?_
    exact am_ret dX14_readPrize_125 rfl ⟨_, rfl, rfl, rwI I8 (nx + 4) (3 * a3) (nI n) y5 (nI m) (y + 26) a3 tk nx 3 (nI (a3 + 1)), e8, k8, rfl, fin, lt, ofw⟩
end Rp

