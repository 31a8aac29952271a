theorem dX14_readRust_0 : decode cX14_readRust 0 = .ok (.aload_n 0, 1) := by decide +kernel
theorem dX14_readRust_1 : decode cX14_readRust 1 = .ok (.getfield 36, 3) := by decide +kernel
theorem dX14_readRust_4 : decode cX14_readRust 4 = .ok (.getfield 234, 3) := by decide +kernel
theorem dX14_readRust_7 : decode cX14_readRust 7 = .ok (.bipush 12, 2) := by decide +kernel
theorem dX14_readRust_9 : decode cX14_readRust 9 = .ok (.if_icmp .ne 12, 3) := by decide +kernel
theorem dX14_readRust_12 : decode cX14_readRust 12 = .ok (.aload_n 0, 1) := by decide +kernel
theorem dX14_readRust_13 : decode cX14_readRust 13 = .ok (.iconst 4, 1) := by decide +kernel
theorem dX14_readRust_14 : decode cX14_readRust 14 = .ok (.aload_n 0, 1) := by decide +kernel
theorem dX14_readRust_15 : decode cX14_readRust 15 = .ok (.getfield 116, 3) := by decide +kernel
theorem dX14_readRust_18 : decode cX14_readRust 18 = .ok (.invokevirtual 149, 3) := by decide +kernel
theorem dX14_readRust_21 : decode cX14_readRust 21 = .ok (.aload_n 0, 1) := by decide +kernel
theorem dX14_readRust_22 : decode cX14_readRust 22 = .ok (.dup, 1) := by decide +kernel
theorem dX14_readRust_23 : decode cX14_readRust 23 = .ok (.getfield 116, 3) := by decide +kernel
theorem dX14_readRust_26 : decode cX14_readRust 26 = .ok (.iconst 1, 1) := by decide +kernel
theorem dX14_readRust_27 : decode cX14_readRust 27 = .ok (.iadd, 1) := by decide +kernel
theorem dX14_readRust_28 : decode cX14_readRust 28 = .ok (.putfield 116, 3) := by decide +kernel
theorem dX14_readRust_31 : decode cX14_readRust 31 = .ok (.aload_n 0, 1) := by decide +kernel
theorem dX14_readRust_32 : decode cX14_readRust 32 = .ok (.iconst 2, 1) := by decide +kernel
theorem dX14_readRust_33 : decode cX14_readRust 33 = .ok (.iconst 5, 1) := by decide +kernel
theorem dX14_readRust_34 : decode cX14_readRust 34 = .ok (.invokevirtual 152, 3) := by decide +kernel
theorem dX14_readRust_37 : decode cX14_readRust 37 = .ok (.aload_n 0, 1) := by decide +kernel
theorem dX14_readRust_38 : decode cX14_readRust 38 = .ok (.aload_n 0, 1) := by decide +kernel
theorem dX14_readRust_39 : decode cX14_readRust 39 = .ok (.getfield 39, 3) := by decide +kernel
theorem dX14_readRust_42 : decode cX14_readRust 42 = .ok (.aload_n 0, 1) := by decide +kernel
theorem dX14_readRust_43 : decode cX14_readRust 43 = .ok (.getfield 36, 3) := by decide +kernel
theorem dX14_readRust_46 : decode cX14_readRust 46 = .ok (.getfield 177, 3) := by decide +kernel
theorem dX14_readRust_49 : decode cX14_readRust 49 = .ok (.invokevirtual 192, 3) := by decide +kernel
theorem dX14_readRust_52 : decode cX14_readRust 52 = .ok (.istore_n 1, 1) := by decide +kernel
theorem dX14_readRust_53 : decode cX14_readRust 53 = .ok (.aload_n 0, 1) := by decide +kernel
theorem dX14_readRust_54 : decode cX14_readRust 54 = .ok (.bipush 6, 2) := by decide +kernel
theorem dX14_readRust_56 : decode cX14_readRust 56 = .ok (.iconst 0, 1) := by decide +kernel
theorem dX14_readRust_57 : decode cX14_readRust 57 = .ok (.bipush 99, 2) := by decide +kernel
theorem dX14_readRust_59 : decode cX14_readRust 59 = .ok (.invokevirtual 225, 3) := by decide +kernel
theorem dX14_readRust_62 : decode cX14_readRust 62 = .ok (.istore_n 2, 1) := by decide +kernel
theorem dX14_readRust_97 : decode cX14_readRust 97 = .ok (.aload_n 0, 1) := by decide +kernel
theorem dX14_readRust_98 : decode cX14_readRust 98 = .ok (.bipush 8, 2) := by decide +kernel
theorem dX14_readRust_100 : decode cX14_readRust 100 = .ok (.iconst 0, 1) := by decide +kernel
theorem dX14_readRust_101 : decode cX14_readRust 101 = .ok (.bipush 9, 2) := by decide +kernel
theorem dX14_readRust_103 : decode cX14_readRust 103 = .ok (.invokevirtual 225, 3) := by decide +kernel
theorem dX14_readRust_106 : decode cX14_readRust 106 = .ok (.istore 4, 2) := by decide +kernel
theorem dX14_readRust_108 : decode cX14_readRust 108 = .ok (.aload_n 0, 1) := by decide +kernel
theorem dX14_readRust_109 : decode cX14_readRust 109 = .ok (.getfield 36, 3) := by decide +kernel
theorem dX14_readRust_112 : decode cX14_readRust 112 = .ok (.getfield 234, 3) := by decide +kernel
theorem dX14_readRust_115 : decode cX14_readRust 115 = .ok (.bipush 12, 2) := by decide +kernel
theorem dX14_readRust_117 : decode cX14_readRust 117 = .ok (.if_icmp .ne 4, 3) := by decide +kernel
theorem dX14_readRust_120 : decode cX14_readRust 120 = .ok (.return_, 1) := by decide +kernel
theorem dX14_readRust_121 : decode cX14_readRust 121 = .ok (.aload_n 0, 1) := by decide +kernel
theorem dX14_readRust_122 : decode cX14_readRust 122 = .ok (.getfield 36, 3) := by decide +kernel
theorem dX14_readRust_125 : decode cX14_readRust 125 = .ok (.getfield 237, 3) := by decide +kernel
theorem dX14_readRust_128 : decode cX14_readRust 128 = .ok (.iconst 4, 1) := by decide +kernel
theorem dX14_readRust_129 : decode cX14_readRust 129 = .ok (.aload_n 0, 1) := by decide +kernel
theorem dX14_readRust_130 : decode cX14_readRust 130 = .ok (.getfield 36, 3) := by decide +kernel
theorem dX14_readRust_133 : decode cX14_readRust 133 = .ok (.getfield 234, 3) := by decide +kernel
theorem dX14_readRust_136 : decode cX14_readRust 136 = .ok (.imul, 1) := by decide +kernel
theorem dX14_readRust_137 : decode cX14_readRust 137 = .ok (.iload_n 1, 1) := by decide +kernel
theorem dX14_readRust_138 : decode cX14_readRust 138 = .ok (.iload_n 2, 1) := by decide +kernel
theorem dX14_readRust_139 : decode cX14_readRust 139 = .ok (.iload_n 3, 1) := by decide +kernel
theorem dX14_readRust_140 : decode cX14_readRust 140 = .ok (.invokestatic 230, 3) := by decide +kernel
theorem dX14_readRust_143 : decode cX14_readRust 143 = .ok (.aload_n 0, 1) := by decide +kernel
theorem dX14_readRust_144 : decode cX14_readRust 144 = .ok (.getfield 36, 3) := by decide +kernel
theorem dX14_readRust_147 : decode cX14_readRust 147 = .ok (.getfield 237, 3) := by decide +kernel
theorem dX14_readRust_150 : decode cX14_readRust 150 = .ok (.iconst 4, 1) := by decide +kernel
theorem dX14_readRust_151 : decode cX14_readRust 151 = .ok (.aload_n 0, 1) := by decide +kernel
theorem dX14_readRust_152 : decode cX14_readRust 152 = .ok (.getfield 36, 3) := by decide +kernel
theorem dX14_readRust_155 : decode cX14_readRust 155 = .ok (.getfield 234, 3) := by decide +kernel
theorem dX14_readRust_158 : decode cX14_readRust 158 = .ok (.imul, 1) := by decide +kernel
theorem dX14_readRust_159 : decode cX14_readRust 159 = .ok (.iconst 3, 1) := by decide +kernel
theorem dX14_readRust_160 : decode cX14_readRust 160 = .ok (.iadd, 1) := by decide +kernel
theorem dX14_readRust_161 : decode cX14_readRust 161 = .ok (.iload 4, 2) := by decide +kernel
theorem dX14_readRust_163 : decode cX14_readRust 163 = .ok (.iastore, 1) := by decide +kernel
theorem dX14_readRust_164 : decode cX14_readRust 164 = .ok (.aload_n 0, 1) := by decide +kernel
theorem dX14_readRust_165 : decode cX14_readRust 165 = .ok (.getfield 36, 3) := by decide +kernel
theorem dX14_readRust_168 : decode cX14_readRust 168 = .ok (.dup, 1) := by decide +kernel
theorem dX14_readRust_169 : decode cX14_readRust 169 = .ok (.getfield 234, 3) := by decide +kernel
theorem dX14_readRust_172 : decode cX14_readRust 172 = .ok (.iconst 1, 1) := by decide +kernel
theorem dX14_readRust_173 : decode cX14_readRust 173 = .ok (.iadd, 1) := by decide +kernel
theorem dX14_readRust_174 : decode cX14_readRust 174 = .ok (.putfield 234, 3) := by decide +kernel
theorem dX14_readRust_177 : decode cX14_readRust 177 = .ok (.return_, 1) := by decide +kernel
/-! the reference's readRust -/
section Rv
variable {G : Gp} {S : AMem} {I I1 : Nat → Nat → Int32} {J : Nat → Nat → Int64} {R : Nat → Nat → Option Nat} {y bl nx : Nat} {T : Toks} {b : BL} {a k : Nat}
theorem kn_take {j0 dep : Nat} {kw o : Int32} {P1 : PS} {s : PS × Cd} {ix : Int32 → Int64 → Int32} {N : Nat × Nat × Nat} (hG : okG G) (hC : MCc S R y bl nx) (h : PC I y nx T ix N s dep a k) (hj : j0 < 32) (hk : kw = nI (300 + j0)) (ho : o = nI j0) (hP : pEx T kw s.1 = P1) : Fn G mX14_take 2 [vR y, vI 2, vI o] (mw S I J R) (fun rr M1 => rr = none ∧ ∃ I1 a1, M1 = mw S I1 J R ∧ PC I1 y nx T ix N (P1, s.2) dep a1 k ∧ a ≤ a1 ∧ OffM y nx k I I1) := by
  subst hk hP ho
  exact k_X14_take (kk := nI (300 + j0)) hG hC h (k_ne (b := 256) (by omega) (by decide) (by omega)) (k_ne (b := 257) (by omega) (by decide) (by omega)) (fun _ _ _ _ q => srt_key q hj)
theorem kn_known {q n dep : Nat} {f : Nat → Int64} {i : Int32} {P1 : PS} {s : PS × Cd} {ix : Int32 → Int64 → Int32} {N : Nat × Nat × Nat} (hG : okG G) (hC : MCc S R y bl nx) (h : PC I y nx T ix N s dep a k) (hq : S.K q = 20) (hqn : n ≤ S.ln q) (hq31 : S.ln q < 2 ^ 31) (hn8 : n ≤ 8) (hqy : q ≠ y) (hf : ∀ l, l < n → ∃ t, I q l = nI t ∧ t < T.n ∧ T.k t = 258 ∧ T.v t = f l) (hP : pKn T i s.1 = P1) (hi : s.1.2.1 = 0 → i = fndJ f (pV T s.1) 0 n) : Fn G mX14_known 2 [vR y, vR q, vI (nI n)] (mw S I J R) (fun rr M1 => ∃ w I1 a1, rr = some (vI w) ∧ M1 = mw S I1 J R ∧ PC I1 y nx T ix N (P1, s.2) dep a1 k ∧ a ≤ a1 ∧ OffM y nx k I I1 ∧ (P1.2.1 = 0 → w = i)) := by
  subst hP
  refine MW.weaken (k_X14_known (i := i) (f := f) hG hC h hq hqn hq31 hn8 hqy (fun _ => hf) (fun z _ => hi z)) ?_
  rintro f M1 ⟨r, e1, w, I1, a1, e2, e3, e4, e5, e6, e7⟩
  exact ⟨r, e1, w, I1, a1, e2, e3, e4, e5, e6, fun z => (e7 z).1⟩
theorem kv_readRust {P0 P0' P1 P2 P3 P4 P5 : PS} {ri x3 x4 x5 : Int32} {B1 : BL} (hG : okG G) (hC : MCc S R y bl nx) (h : PL I y nx T b a k) (hk : pK T b.P = 304) (q0 : (if 12 ≤ b.u then pBl T 4 b.P else b.P) = P0) (q0' : pEx T 304 P0 = P0') (q1 : pEx T 305 P0' = P1) (qv : fndJ b.nr (pV T P1) 0 b.B.nR = ri) (q2 : pKn T ri P1 = P2) (q3 : pNum T 306 0 99 P2 = P3) (q4 : pTo T x3 P3 = P4) (q5 : pNum T 308 0 9 P4 = P5) (w3 : pW T 306 P2 = x3) (w4 : pW T 307 P3 = x4) (w5 : pW T 308 P4 = x5) (h0 : P5.2.1 = 0 → b.P.2.1 = 0 ∧ ¬ 12 ≤ b.u ∧ ∃ i, i < b.B.nR ∧ ri = nI i) (hB0 : P5.2.1 = 0 → B1 = (P5, b.L, BSrust b.B ri.toNatClampNeg x3 x4 x5, b.m, b.u + 1, b.nr, b.nf, b.np)) (hB1 : P5.2.1 ≠ 0 → B1 = BP b P5) : Fn G mX14_readRust 4 [vR y] (mw S I J R) (fun rr M1 => rr = none ∧ ∃ I1 a1 k1, M1 = mw S I1 J R ∧ PL I1 y nx T B1 a1 k1 ∧ a < a1 ∧ OffP y nx I I1) := by
  have ky := hC.1.1
  obtain ⟨kb, _, c5, _, _, _, _, _, _, _, ⟨kr1, lr1⟩, _⟩ := id hC.2.2.2.2.2.2.2.2.1
  have rn := hC.2.2.2.2.2.2.1
  obtain ⟨_, _, _, _, _, _, _, _, q10, q11, q12, ⟨k24, l24⟩, _⟩ := id hC.2.2.2.2.2.2.2.2.2
  obtain ⟨p1, p2, p3, p4, p5⟩ := hC.lo
  obtain ⟨h1, h2, h3⟩ := h
  have hg : b.P.2.1 ≠ 1 := PC.ng (s := (b.P, b.L)) (by decide) hk
  obtain ⟨a1, a2, a3, mr, mf, mp, nm, nA⟩ := h1.nmm hg
  obtain ⟨u0, t0, hu1, hu2, hu3, hu4⟩ := h2 hg
  obtain ⟨⟨nm1, nm2⟩, _, _, nm7, _, _⟩ := id nm
  have h13 := h1.2.1.1
  have hk4 : k ≤ 401 := by have := h1.2.1.2.2.2.1; have := h1.2.1.2.1; have := h1.1.2.1; omega
  have eu : b.P.2.1 = 0 → b.u = u0 := fun z => by
    have x2 := (h3 z).1
    exact (nI_eq (by have := x2.2.1.2.1; omega) (by omega)).mp (x2.2.1.1.symm.trans hu1)
  have e1 : P1.2.1 = 0 → b.P.2.1 = 0 := fun z => by
    rw [← q1] at z
    have z1 := (pEx_0 z).1
    rw [← q0'] at z1
    have z2 := (pEx_0 z1).1
    rw [← q0] at z2
    exact (pIf_0 (by decide) z2).2.2
  have mid : ∀ (I2 : Nat → Nat → Int32), PC I2 y nx T (ixB b) (b.B.nR, b.B.nF, b.B.nP) (P0', b.L) 0 (a + 1) k → OffM y nx k I I2 → MW G mX14_readRust 4 31 [some (vR y), none, none, none, none] [] (mw S I2 J R) (fun f M1 => ∃ rr, f = .inl rr ∧ (rr = none ∧ ∃ I1 a1 k1, M1 = mw S I1 J R ∧ PL I1 y nx T B1 a1 k1 ∧ a < a1 ∧ OffP y nx I I1)) := by
    intro I2 d1 d2
    have t1 := kn_take (j0 := 5) (kw := 305) (o := 5) (J := J) hG hC d1 (by decide) (by decide) (by decide) q1
    have kk := fun (I3 : Nat → Nat → Int32) (e3 : Nat) (g1 : PC I3 y nx T (ixB b) (b.B.nR, b.B.nF, b.B.nP) (P1, b.L) 0 e3 k) (o3 : OffM y nx k I I3) => kn_known (J := J) (q := y + 24) (n := a1) (f := mr) (i := ri) hG hC g1 k24 (by omega) (by omega) (by omega) (by omega) (fun l hl => by rw [o3 _ _ (by omega) (by omega) (by omega)]; exact nm7 l hl) q2 (fun z => by rw [← qv]; exact (nA (e1 z)).on.2.1 _)
    have n3 := fun (I3 : Nat → Nat → Int32) (e3 : Nat) (g1 : PC I3 y nx T (ixB b) (b.B.nR, b.B.nF, b.B.nP) (P2, b.L) 0 e3 k) => kn_num (J := J) (j0 := 6) (kw := 306) hG hC g1 (by decide) (by decide) q3 w3
    have n5 := fun (I3 : Nat → Nat → Int32) (e3 : Nat) (g1 : PC I3 y nx T (ixB b) (b.B.nR, b.B.nF, b.B.nP) (P4, b.L) 0 e3 k) => kn_num (J := J) (j0 := 8) (kw := 308) hG hC g1 (by decide) (by decide) q5 w5
    have to := fun (I3 : Nat → Nat → Int32) (e3 : Nat) (r f : Int32) (hf : P3.2.1 ≠ 1 → f = x3) (g1 : PC I3 y nx T (ixB b) (b.B.nR, b.B.nF, b.B.nP) (P3, b.L) 0 e3 k) => k_rustTo (J := J) (r := r) (Q := fun f M1 => ∃ rr, f = .inl rr ∧ (rr = none ∧ ∃ I1 a1 k1, M1 = mw S I1 J R ∧ PL I1 y nx T B1 a1 k1 ∧ a < a1 ∧ OffP y nx I I1)) hG hC g1 hf q4 w4
    have z4 : P5.2.1 = 0 → P4.2.1 = 0 := fun z => by rw [← q5] at z; exact (pNum_0 z).1
    have z3 : P4.2.1 = 0 → P3.2.1 = 0 := fun z => by rw [← q4] at z; exact (pTo_0 z).1
    have z2 : P3.2.1 = 0 → P2.2.1 = 0 := fun z => by rw [← q3] at z; exact (pNum_0 z).1
    clear q0 q0' q1 qv q2 q3 q4 q5 w3 w4 w5 e1 h2 hk hg
    refine am_aload_n (q := 32) dX14_readRust_31 rfl rfl ?_
    refine am_iconst (q := 33) (v := 2) dX14_readRust_32 kc_i2 rfl ?_
    refine am_iconst (q := 34) (v := 5) dX14_readRust_33 kc_i5 rfl ?_
    refine cm_call0 (q := 37) (As := [_, _]) hG dX14_readRust_34 mlX14_152 rfl (by assumption) ⟨_, _, rfl⟩ (Nat.le_of_ble_eq_true rfl) (Nat.le_of_ble_eq_true rfl) (Nat.le_of_ble_eq_true rfl) (Nat.le_of_ble_eq_true rfl) t1 rfl ?_
    rintro _ _ ⟨rfl, I3, e3, rfl, g1, g2, g3⟩
    have o3 := d2.tr g3 (Nat.le_refl _)
    have k3 := kk I3 e3 g1 o3
    have f0 : I3 nx 0 = nI a1 := (o3 _ _ (by omega) (by omega) (by omega)).trans nm1
    clear t1 kk
    refine am_aload_n (q := 38) dX14_readRust_37 rfl rfl ?_
    refine am_aload_n (q := 39) dX14_readRust_38 rfl rfl ?_
    refine cm_getR (q := 42) dX14_readRust_39 flX14_39 rfl (by assumption) (by assumption) rfl ?_
    refine am_aload_n (q := 43) dX14_readRust_42 rfl rfl ?_
    refine cm_getR (q := 46) dX14_readRust_43 flX14_36 rfl (by assumption) (by assumption) rfl ?_
    refine cm_getI (q := 49) dX14_readRust_46 flX14_177 rfl (by assumption) rfl ?_
    rw [f0]
    refine cm_call0 (q := 52) (As := [_, _]) hG dX14_readRust_49 mlX14_192 rfl (by assumption) ⟨_, _, rfl⟩ (Nat.le_of_ble_eq_true rfl) (Nat.le_of_ble_eq_true rfl) (Nat.le_of_ble_eq_true rfl) (Nat.le_of_ble_eq_true rfl) k3 rfl ?_
    rintro _ _ ⟨w1, I4, e4, rfl, rfl, r1, r2, r3, r4⟩
    refine am_istore_n (q := 53) (ls1 := [_, _, _, _, _]) dX14_readRust_52 (Nat.le_of_ble_eq_true rfl) rfl rfl ?_
    have n3' := n3 I4 e4 r1
    refine am_aload_n (q := 54) dX14_readRust_53 rfl rfl ?_
    refine am_bipush (q := 56) (v := 6) dX14_readRust_54 kc_b6 rfl ?_
    refine am_iconst (q := 57) (v := 0) dX14_readRust_56 kc_i0 rfl ?_
    refine am_bipush (q := 59) (v := 99) dX14_readRust_57 kc_b99 rfl ?_
    refine cm_call0 (q := 62) (As := [_, _, _]) hG dX14_readRust_59 mlX14_225 rfl (by assumption) ⟨_, _, rfl⟩ (Nat.le_of_ble_eq_true rfl) (Nat.le_of_ble_eq_true rfl) (Nat.le_of_ble_eq_true rfl) (Nat.le_of_ble_eq_true rfl) n3' rfl ?_
    rintro _ _ ⟨y2, I5, e5, rfl, rfl, s1, s2, s3, s4⟩
    refine am_istore_n (q := 63) (ls1 := [_, _, _, _, _]) dX14_readRust_62 (Nat.le_of_ble_eq_true rfl) rfl rfl ?_
    refine to I5 e5 w1 y2 (fun z => (s4 z).1) s1 (fun I6 e6 y3 v1 v2 v3 v4 => ?_)
    have n5' := n5 I6 e6 v1
    clear n3 n5 n3' to k3
    refine am_aload_n (q := 98) dX14_readRust_97 rfl rfl ?_
    refine am_bipush (q := 100) (v := 8) dX14_readRust_98 kc_b8 rfl ?_
    refine am_iconst (q := 101) (v := 0) dX14_readRust_100 kc_i0 rfl ?_
    refine am_bipush (q := 103) (v := 9) dX14_readRust_101 kc_b9 rfl ?_
    refine cm_call0 (q := 106) (As := [_, _, _]) hG dX14_readRust_103 mlX14_225 rfl (by assumption) ⟨_, _, rfl⟩ (Nat.le_of_ble_eq_true rfl) (Nat.le_of_ble_eq_true rfl) (Nat.le_of_ble_eq_true rfl) (Nat.le_of_ble_eq_true rfl) n5' rfl ?_
    rintro _ _ ⟨y4, I7, e7, rfl, rfl, o1, o2, o4, o5⟩
    refine am_istore (q := 108) (ls1 := [_, _, _, _, _]) dX14_readRust_106 (Nat.le_of_ble_eq_true rfl) rfl rfl ?_
    clear n5'
    have off : OffM y nx k I I7 := (((o3.tr r3 (Nat.le_refl _)).tr s3 (Nat.le_refl _)).tr v3 (Nat.le_refl _)).tr o4 (Nat.le_refl _)
    have z0 : I7 nx 1 = nI u0 := (off _ _ (by omega) (by omega) (by omega)).trans hu1
    have zt : I7 nx 4 = nI t0 := (off _ _ (by omega) (by omega) (by omega)).trans hu3
    have lt : a < e7 := by omega
    have nz4 : u0 = 12 → P5.2.1 ≠ 0 := fun c q => by
      obtain ⟨x1, x2, _⟩ := h0 q
      have := eu x1
      omega
    refine am_aload_n (q := 109) dX14_readRust_108 rfl rfl ?_
    refine cm_getR (q := 112) dX14_readRust_109 flX14_36 rfl (by assumption) (by assumption) rfl ?_
    refine cm_getI (q := 115) dX14_readRust_112 flX14_234 rfl (by assumption) rfl ?_
    rw [z0]
    by_cases c4 : u0 = 12
    · have nz := nz4 c4
      have fin : PL I7 y nx T B1 e7 k := by
        rw [hB1 nz]
        exact PL.bp o1 rfl rfl rfl rfl (fun _ => ⟨u0, t0, z0, hu2, zt, hu4⟩) nz
      subst c4
      clear nz nz4 h0 hB0 hB1 r4 s4 v4 o5 z4 z3 z2 eu
      refine am_bipush (q := 117) (v := 12) dX14_readRust_115 kc_b12 rfl ?_
      refine am_icmp_ne (tgt := 121) (q := 120) dX14_readRust_117 rfl rfl (fun hz => absurd rfl hz) (fun _ => ?_)
      exact am_ret dX14_readRust_120 rfl ⟨_, rfl, rfl, I7, e7, k, rfl, fin, lt, off.p⟩
    · have c5 : u0 < 12 := by omega
      have rb7 : b.P.2.1 = 0 → RBx I7 nx b.B b.m b.u ∧ RBk I7 nx b.B k := fun q => ⟨(h3 q).1.om hC (h3 q).2 hk4 off, (h3 q).2.om hC off⟩
      have fin : PL (ruI I7 (nx + 2) (4 * u0) w1 y2 y3 y4 nx (nI (u0 + 1))) y nx T B1 e7 k := PL.rust (t0 := t0) (ri := ri.toNatClampNeg) hC o1 c5 ⟨z0, zt, hu4⟩ rb7 (fun q => by
          obtain ⟨x1, x2, i, x3, x4⟩ := h0 q
          have e2 := r4 (z2 (z3 (z4 q)))
          have nr4 : b.B.nR ≤ 4 := (h3 x1).1.1.1.1.2
          refine ⟨x1, ?_, ?_⟩
          · rw [e2, x4, nI_clamp (by omega)]
          · rw [x4, nI_clamp (by omega)]
            exact x3) (fun q => by
          have e4 : P4.2.1 ≠ 1 := by rw [z4 q]; decide
          have e3 : P3.2.1 ≠ 1 := by rw [z3 (z4 q)]; decide
          have e5 : P5.2.1 ≠ 1 := by rw [q]; decide
          rw [(s4 e3).1, v4 e4, (o5 e5).1]
          exact hB0 q) hB1
      have ofw := off.p.tr (ruI_off (nx := nx) (y := y) (I := I7) (q := nx + 2) (p := 4 * u0) (r := w1) (f := y2) (t := y3) (v := y4) (n := nI (u0 + 1)) (by omega) (by omega))
      have m4 : (4 : Int32) * nI u0 = nI (4 * u0) := k_mul 4 u0
      have a3' : nI (4 * u0) + 3 = nI (4 * u0 + 3) := nI_add (4 * u0) 3
      have cl : (nI (4 * u0 + 3)).toNatClampNeg = 4 * u0 + 3 := nI_clamp (by omega)
      clear nz4 h0 hB0 hB1 r4 s4 v4 o5 z4 z3 z2 eu rb7 nA h3
      refine am_bipush (q := 117) (v := 12) dX14_readRust_115 kc_b12 rfl ?_
      refine am_icmp_ne (tgt := 121) (q := 120) dX14_readRust_117 rfl rfl (fun _ => ?_) (fun hz => absurd hz (k_ne (b := 12) (by omega) (by decide) c4))
      refine am_aload_n (q := 122) dX14_readRust_121 rfl rfl ?_
      refine cm_getR (q := 125) dX14_readRust_122 flX14_36 rfl (by assumption) (by assumption) rfl ?_
      refine cm_getR (q := 128) dX14_readRust_125 flX14_237 rfl (by assumption) (by assumption) rfl ?_
      refine am_iconst (q := 129) (v := 4) dX14_readRust_128 kc_i4 rfl ?_
      refine am_aload_n (q := 130) dX14_readRust_129 rfl rfl ?_
      refine cm_getR (q := 133) dX14_readRust_130 flX14_36 rfl (by assumption) (by assumption) rfl ?_
      refine cm_getI (q := 136) dX14_readRust_133 flX14_234 rfl (by assumption) rfl ?_
      rw [z0]
      refine am_imul (q := 137) dX14_readRust_136 rfl ?_
      rw [m4]
      refine am_iload_n (q := 138) dX14_readRust_137 rfl rfl ?_
      refine am_iload_n (q := 139) dX14_readRust_138 rfl rfl ?_
      refine am_iload_n (q := 140) dX14_readRust_139 rfl rfl ?_
      refine am_call1 (q := 143) (As := [_, _, _, _, _]) hG dX14_readRust_140 mlX14_230 rfl (Nat.le_of_ble_eq_true rfl) (Nat.le_of_ble_eq_true rfl) (Nat.le_of_ble_eq_true rfl) (k_X14_put kr1 (by omega) (by omega)) rfl ?_
      rintro _ _ ⟨rfl, rfl⟩
      have z7 : up2 (up2 (up2 I7 (nx + 2) (4 * u0) w1) (nx + 2) (4 * u0 + 1) y2) (nx + 2) (4 * u0 + 2) y3 nx 1 = nI u0 := by
        rw [up2_a (by omega), up2_a (by omega), up2_a (by omega)]
        exact z0
      refine am_aload_n (q := 144) dX14_readRust_143 rfl rfl ?_
      refine cm_getR (q := 147) dX14_readRust_144 flX14_36 rfl (by assumption) (by assumption) rfl ?_
      refine cm_getR (q := 150) dX14_readRust_147 flX14_237 rfl (by assumption) (by assumption) rfl ?_
      refine am_iconst (q := 151) (v := 4) dX14_readRust_150 kc_i4 rfl ?_
      refine am_aload_n (q := 152) dX14_readRust_151 rfl rfl ?_
      refine cm_getR (q := 155) dX14_readRust_152 flX14_36 rfl (by assumption) (by assumption) rfl ?_
      refine cm_getI (q := 158) dX14_readRust_155 flX14_234 rfl (by assumption) rfl ?_
      rw [z7]
      refine am_imul (q := 159) dX14_readRust_158 rfl ?_
      rw [m4]
      refine am_iconst (q := 160) (v := 3) dX14_readRust_159 kc_i3 rfl ?_
      refine am_iadd (q := 161) dX14_readRust_160 rfl ?_
      rw [a3']
      refine am_iload (q := 163) dX14_readRust_161 rfl rfl ?_
      refine cm_iastore (q := 164) dX14_readRust_163 (by assumption) (vp_in_nI (by omega) (by omega)) rfl ?_
      rw [cl]
      refine am_aload_n (q := 165) dX14_readRust_164 rfl rfl ?_
      refine cm_getR (q := 168) dX14_readRust_165 flX14_36 rfl (by assumption) (by assumption) rfl ?_
      refine am_dup (q := 169) dX14_readRust_168 rfl rfl ?_
      refine cm_getI (q := 172) dX14_readRust_169 flX14_234 rfl (by assumption) rfl ?_
      rw [up2_a (by omega), z7]
      refine am_iconst (q := 173) (v := 1) dX14_readRust_172 kc_i1 rfl ?_
      refine am_iadd (q := 174) dX14_readRust_173 rfl ?_
      rw [nI_1]
      refine cm_putI (q := 177) dX14_readRust_174 flX14_234 rfl (Or.inl rfl) (Or.inl rfl) (by assumption) rfl ?_
      exact am_ret dX14_readRust_177 rfl ⟨_, rfl, rfl, ruI I7 (nx + 2) (4 * u0) w1 y2 y3 y4 nx (nI (u0 + 1)), e7, k, rfl, fin, lt, ofw⟩
  have eat : P0 = b.P → PC (up2 I y 13 (nI (a + 1))) y nx T (ixB b) (b.B.nR, b.B.nF, b.B.nP) (P0', b.L) 0 (a + 1) k ∧ OffM y nx k I (up2 I y 13 (nI (a + 1))) := fun z => by
    have d := h1.eat (kk := 304) (I1 := up2 I y 13 (nI (a + 1))) hC hg hk (by decide) (by decide) (fun x j => up2_at _ _)
    rw [← q0', z]
    exact d
  by_cases c12 : u0 = 12
  · have tl := k_tel (n := 4) (J := J) (G := G) hC h1 hg rfl rfl
    by_cases hz : b.P.2.1 = 0
    · rw [if_pos hz] at tl
      have e0 : P0 = pBl T 4 b.P := by rw [← q0, if_pos (by rw [eu hz, c12]; exact Nat.le_refl _)]
      have d := h1.told (n := 4) (I1 := up2 (up2 (up2 I y 16 4) y 17 (nI a)) y 13 (nI (a + 1))) hC hz hk (by decide) (by decide) (by decide) (by decide) (fun x j => by
        rw [up3_at (by decide) (by decide) (by decide)]
        by_cases z1 : x = y ∧ j = 16
        · rw [if_pos z1, if_neg (by omega), if_pos z1]
        · rw [if_neg z1, if_neg z1]
          by_cases z2 : x = y ∧ j = 17
          · rw [if_pos z2, if_neg (by omega), if_pos z2]
          · rw [if_neg z2, if_neg z2])
      have m1 := mid (up2 (up2 (up2 I y 16 4) y 17 (nI a)) y 13 (nI (a + 1))) (by rw [← q0', e0]; exact d.1) d.2
      have i13 : up2 (up2 I y 16 4) y 17 (nI a) y 13 = nI a := by rw [up2_j (by decide), up2_j (by decide)]; exact h13
      clear mid eat q0 q0' q1 qv q2 q3 q4 q5 w3 w4 w5 e1 h0 hB0 hB1 hk hg hz e0 h2 h3 eu nA
      refine am_aload_n (q := 1) dX14_readRust_0 rfl rfl ?_
      refine cm_getR (q := 4) dX14_readRust_1 flX14_36 rfl (by assumption) (by assumption) rfl ?_
      refine cm_getI (q := 7) dX14_readRust_4 flX14_234 rfl (by assumption) rfl ?_
      rw [hu1, c12]
      refine am_bipush (q := 9) (v := 12) dX14_readRust_7 kc_b12 rfl ?_
      refine am_icmp_ne (tgt := 21) (q := 12) dX14_readRust_9 rfl rfl (fun hz => absurd rfl hz) (fun _ => ?_)
      refine am_aload_n (q := 13) dX14_readRust_12 rfl rfl ?_
      refine am_iconst (q := 14) (v := 4) dX14_readRust_13 kc_i4 rfl ?_
      refine am_aload_n (q := 15) dX14_readRust_14 rfl rfl ?_
      refine cm_getI (q := 18) dX14_readRust_15 flX14_116 rfl (by assumption) rfl ?_
      rw [h13]
      refine cm_call0 (q := 21) (As := [_, _]) hG dX14_readRust_18 mlX14_149 rfl (by assumption) ⟨_, _, rfl⟩ (Nat.le_of_ble_eq_true rfl) (Nat.le_of_ble_eq_true rfl) (Nat.le_of_ble_eq_true rfl) (Nat.le_of_ble_eq_true rfl) tl rfl ?_
      rintro _ _ ⟨rfl, rfl⟩
      refine am_aload_n (q := 22) dX14_readRust_21 rfl rfl ?_
      refine am_dup (q := 23) dX14_readRust_22 rfl rfl ?_
      refine cm_getI (q := 26) dX14_readRust_23 flX14_116 rfl (by assumption) rfl ?_
      rw [i13]
      refine am_iconst (q := 27) (v := 1) dX14_readRust_26 kc_i1 rfl ?_
      refine am_iadd (q := 28) dX14_readRust_27 rfl ?_
      rw [nI_1]
      refine cm_putI (q := 31) dX14_readRust_28 flX14_116 rfl (Or.inl rfl) (Or.inl rfl) (by assumption) rfl ?_
      exact m1
    · rw [if_neg hz] at tl
      have e0 : P0 = b.P := by
        rw [← q0]
        split
        · exact pBl_no hz
        · rfl
      have m1 := mid _ (eat e0).1 (eat e0).2
      clear mid eat q0 q0' q1 qv q2 q3 q4 q5 w3 w4 w5 e1 h0 hB0 hB1 hk hg hz e0 h2 h3 eu nA
      refine am_aload_n (q := 1) dX14_readRust_0 rfl rfl ?_
      refine cm_getR (q := 4) dX14_readRust_1 flX14_36 rfl (by assumption) (by assumption) rfl ?_
      refine cm_getI (q := 7) dX14_readRust_4 flX14_234 rfl (by assumption) rfl ?_
      rw [hu1, c12]
      refine am_bipush (q := 9) (v := 12) dX14_readRust_7 kc_b12 rfl ?_
      refine am_icmp_ne (tgt := 21) (q := 12) dX14_readRust_9 rfl rfl (fun hz => absurd rfl hz) (fun _ => ?_)
      refine am_aload_n (q := 13) dX14_readRust_12 rfl rfl ?_
      refine am_iconst (q := 14) (v := 4) dX14_readRust_13 kc_i4 rfl ?_
      refine am_aload_n (q := 15) dX14_readRust_14 rfl rfl ?_
      refine cm_getI (q := 18) dX14_readRust_15 flX14_116 rfl (by assumption) rfl ?_
      rw [h13]
      refine cm_call0 (q := 21) (As := [_, _]) hG dX14_readRust_18 mlX14_149 rfl (by assumption) ⟨_, _, rfl⟩ (Nat.le_of_ble_eq_true rfl) (Nat.le_of_ble_eq_true rfl) (Nat.le_of_ble_eq_true rfl) (Nat.le_of_ble_eq_true rfl) tl rfl ?_
      rintro _ _ ⟨rfl, rfl⟩
      refine am_aload_n (q := 22) dX14_readRust_21 rfl rfl ?_
      refine am_dup (q := 23) dX14_readRust_22 rfl rfl ?_
      refine cm_getI (q := 26) dX14_readRust_23 flX14_116 rfl (by assumption) rfl ?_
      rw [h13]
      refine am_iconst (q := 27) (v := 1) dX14_readRust_26 kc_i1 rfl ?_
      refine am_iadd (q := 28) dX14_readRust_27 rfl ?_
      rw [nI_1]
      refine cm_putI (q := 31) dX14_readRust_28 flX14_116 rfl (Or.inl rfl) (Or.inl rfl) (by assumption) rfl ?_
      exact m1
  · have e0 : P0 = b.P := by
      rw [← q0]
      by_cases hz : b.P.2.1 = 0
      · rw [if_neg (by rw [eu hz]; omega)]
      · split
        · exact pBl_no hz
        · rfl
    have m1 := mid _ (eat e0).1 (eat e0).2
    clear mid eat q0 q0' q1 qv q2 q3 q4 q5 w3 w4 w5 e1 h0 hB0 hB1 hk hg e0 h2 h3 eu nA
    refine am_aload_n (q := 1) dX14_readRust_0 rfl rfl ?_
    refine cm_getR (q := 4) dX14_readRust_1 flX14_36 rfl (by assumption) (by assumption) rfl ?_
    refine cm_getI (q := 7) dX14_readRust_4 flX14_234 rfl (by assumption) rfl ?_
    rw [hu1]
    refine am_bipush (q := 9) (v := 12) dX14_readRust_7 kc_b12 rfl ?_
    refine am_icmp_ne (tgt := 21) (q := 12) dX14_readRust_9 rfl rfl (fun _ => ?_) (fun hz => absurd hz (k_ne (b := 12) (by omega) (by decide) c12))
    refine am_aload_n (q := 22) dX14_readRust_21 rfl rfl ?_
    refine am_dup (q := 23) dX14_readRust_22 rfl rfl ?_
    refine cm_getI (q := 26) dX14_readRust_23 flX14_116 rfl (by assumption) rfl ?_
    rw [h13]
    refine am_iconst (q := 27) (v := 1) dX14_readRust_26 kc_i1 rfl ?_
    refine am_iadd (q := 28) dX14_readRust_27 rfl ?_
    rw [nI_1]
    refine cm_putI (q := 31) dX14_readRust_28 flX14_116 rfl (Or.inl rfl) (Or.inl rfl) (by assumption) rfl ?_
    exact m1
end Rv

