theorem dX14_counted_0 : decode cX14_counted 0 = .ok (.bipush 10, 2) := by decide +kernel
theorem dX14_counted_2 : decode cX14_counted 2 = .ok (.newarray .int, 2) := by decide +kernel
theorem dX14_counted_4 : decode cX14_counted 4 = .ok (.dup, 1) := by decide +kernel
theorem dX14_counted_5 : decode cX14_counted 5 = .ok (.iconst 0, 1) := by decide +kernel
theorem dX14_counted_6 : decode cX14_counted 6 = .ok (.aload_n 0, 1) := by decide +kernel
theorem dX14_counted_7 : decode cX14_counted 7 = .ok (.getfield 51, 3) := by decide +kernel
theorem dX14_counted_10 : decode cX14_counted 10 = .ok (.getfield 280, 3) := by decide +kernel
theorem dX14_counted_13 : decode cX14_counted 13 = .ok (.iastore, 1) := by decide +kernel
theorem dX14_counted_14 : decode cX14_counted 14 = .ok (.dup, 1) := by decide +kernel
theorem dX14_counted_15 : decode cX14_counted 15 = .ok (.iconst 1, 1) := by decide +kernel
theorem dX14_counted_16 : decode cX14_counted 16 = .ok (.aload_n 0, 1) := by decide +kernel
theorem dX14_counted_17 : decode cX14_counted 17 = .ok (.getfield 32, 3) := by decide +kernel
theorem dX14_counted_20 : decode cX14_counted 20 = .ok (.getfield 177, 3) := by decide +kernel
theorem dX14_counted_23 : decode cX14_counted 23 = .ok (.iastore, 1) := by decide +kernel
theorem dX14_counted_24 : decode cX14_counted 24 = .ok (.dup, 1) := by decide +kernel
theorem dX14_counted_25 : decode cX14_counted 25 = .ok (.iconst 2, 1) := by decide +kernel
theorem dX14_counted_26 : decode cX14_counted 26 = .ok (.aload_n 0, 1) := by decide +kernel
theorem dX14_counted_27 : decode cX14_counted 27 = .ok (.getfield 32, 3) := by decide +kernel
theorem dX14_counted_30 : decode cX14_counted 30 = .ok (.getfield 170, 3) := by decide +kernel
theorem dX14_counted_33 : decode cX14_counted 33 = .ok (.iastore, 1) := by decide +kernel
theorem dX14_counted_34 : decode cX14_counted 34 = .ok (.dup, 1) := by decide +kernel
theorem dX14_counted_35 : decode cX14_counted 35 = .ok (.iconst 3, 1) := by decide +kernel
theorem dX14_counted_36 : decode cX14_counted 36 = .ok (.aload_n 0, 1) := by decide +kernel
theorem dX14_counted_37 : decode cX14_counted 37 = .ok (.getfield 32, 3) := by decide +kernel
theorem dX14_counted_40 : decode cX14_counted 40 = .ok (.getfield 180, 3) := by decide +kernel
theorem dX14_counted_43 : decode cX14_counted 43 = .ok (.iastore, 1) := by decide +kernel
theorem dX14_counted_44 : decode cX14_counted 44 = .ok (.dup, 1) := by decide +kernel
theorem dX14_counted_45 : decode cX14_counted 45 = .ok (.iconst 4, 1) := by decide +kernel
theorem dX14_counted_46 : decode cX14_counted 46 = .ok (.aload_n 0, 1) := by decide +kernel
theorem dX14_counted_47 : decode cX14_counted 47 = .ok (.getfield 32, 3) := by decide +kernel
theorem dX14_counted_50 : decode cX14_counted 50 = .ok (.getfield 246, 3) := by decide +kernel
theorem dX14_counted_53 : decode cX14_counted 53 = .ok (.iastore, 1) := by decide +kernel
theorem dX14_counted_54 : decode cX14_counted 54 = .ok (.dup, 1) := by decide +kernel
theorem dX14_counted_55 : decode cX14_counted 55 = .ok (.iconst 5, 1) := by decide +kernel
theorem dX14_counted_56 : decode cX14_counted 56 = .ok (.aload_n 0, 1) := by decide +kernel
theorem dX14_counted_57 : decode cX14_counted 57 = .ok (.getfield 51, 3) := by decide +kernel
theorem dX14_counted_60 : decode cX14_counted 60 = .ok (.getfield 327, 3) := by decide +kernel
theorem dX14_counted_63 : decode cX14_counted 63 = .ok (.iastore, 1) := by decide +kernel
theorem dX14_counted_64 : decode cX14_counted 64 = .ok (.dup, 1) := by decide +kernel
theorem dX14_counted_65 : decode cX14_counted 65 = .ok (.bipush 6, 2) := by decide +kernel
theorem dX14_counted_67 : decode cX14_counted 67 = .ok (.aload_n 0, 1) := by decide +kernel
theorem dX14_counted_68 : decode cX14_counted 68 = .ok (.getfield 51, 3) := by decide +kernel
theorem dX14_counted_71 : decode cX14_counted 71 = .ok (.getfield 330, 3) := by decide +kernel
theorem dX14_counted_74 : decode cX14_counted 74 = .ok (.iastore, 1) := by decide +kernel
theorem dX14_counted_75 : decode cX14_counted 75 = .ok (.dup, 1) := by decide +kernel
theorem dX14_counted_76 : decode cX14_counted 76 = .ok (.bipush 7, 2) := by decide +kernel
theorem dX14_counted_78 : decode cX14_counted 78 = .ok (.aload_n 0, 1) := by decide +kernel
theorem dX14_counted_79 : decode cX14_counted 79 = .ok (.aload_n 0, 1) := by decide +kernel
theorem dX14_counted_80 : decode cX14_counted 80 = .ok (.getfield 51, 3) := by decide +kernel
theorem dX14_counted_83 : decode cX14_counted 83 = .ok (.invokevirtual 362, 3) := by decide +kernel
theorem dX14_counted_86 : decode cX14_counted 86 = .ok (.iastore, 1) := by decide +kernel
theorem dX14_counted_87 : decode cX14_counted 87 = .ok (.dup, 1) := by decide +kernel
theorem dX14_counted_88 : decode cX14_counted 88 = .ok (.bipush 8, 2) := by decide +kernel
theorem dX14_counted_90 : decode cX14_counted 90 = .ok (.aload_n 0, 1) := by decide +kernel
theorem dX14_counted_91 : decode cX14_counted 91 = .ok (.getfield 51, 3) := by decide +kernel
theorem dX14_counted_94 : decode cX14_counted 94 = .ok (.getfield 336, 3) := by decide +kernel
theorem dX14_counted_97 : decode cX14_counted 97 = .ok (.iastore, 1) := by decide +kernel
theorem dX14_counted_98 : decode cX14_counted 98 = .ok (.dup, 1) := by decide +kernel
theorem dX14_counted_99 : decode cX14_counted 99 = .ok (.bipush 9, 2) := by decide +kernel
theorem dX14_counted_101 : decode cX14_counted 101 = .ok (.aload_n 0, 1) := by decide +kernel
theorem dX14_counted_102 : decode cX14_counted 102 = .ok (.getfield 61, 3) := by decide +kernel
theorem dX14_counted_105 : decode cX14_counted 105 = .ok (.iastore, 1) := by decide +kernel
theorem dX14_counted_106 : decode cX14_counted 106 = .ok (.astore_n 2, 1) := by decide +kernel
theorem dX14_counted_107 : decode cX14_counted 107 = .ok (.aload_n 2, 1) := by decide +kernel
theorem dX14_counted_108 : decode cX14_counted 108 = .ok (.iload_n 1, 1) := by decide +kernel
theorem dX14_counted_109 : decode cX14_counted 109 = .ok (.iaload, 1) := by decide +kernel
theorem dX14_counted_110 : decode cX14_counted 110 = .ok (.ireturn, 1) := by decide +kernel
/-! the reference counts: a new row at each call -/
section Mn2
variable {G : Gp} {S : AMem} {I I1 : Nat → Nat → Int32} {J : Nat → Nat → Int64} {R : Nat → Nat → Option Nat} {y bl nx : Nat} {s : XS}
theorem mw_nw {k n : Nat} : (mw S I J R).nw k n = mw (S.nw k n) (fun b i => if b = S.hs then 0 else I b i) (fun b i => if b = S.hs then 0 else J b i) (fun b i => if b = S.hs then none else R b i) := rfl
def xI (S : AMem) (I : Nat → Nat → Int32) : Nat → Nat → Int32 := fun b i => if b = S.hs then 0 else I b i
def xJ (S : AMem) (J : Nat → Nat → Int64) : Nat → Nat → Int64 := fun b i => if b = S.hs then 0 else J b i
def xR (S : AMem) (R : Nat → Nat → Option Nat) : Nat → Nat → Option Nat := fun b i => if b = S.hs then none else R b i
def cntM (E : Tp) (B : BS) (m : MS) (w : Nat) : Int32 := if w = 9 then nI E.1 else tlC B m w
theorem MCc.ext {S1 : AMem} {R1 : Nat → Nat → Option Nat} (h : MCc S R y bl nx) (hK : ∀ a, y ≤ a → a < y + 39 → S1.K a = S.K a ∧ S1.ln a = S.ln a ∧ ∀ j, R1 a j = R a j) : MCc S1 R1 y bl nx := by
  obtain ⟨p1, p2, p3, p4, p5⟩ := h.lo
  have k : ∀ a, y ≤ a → a < y + 39 → S1.K a = S.K a := fun a p q => (hK a p q).1
  have l : ∀ a, y ≤ a → a < y + 39 → S1.ln a = S.ln a := fun a p q => (hK a p q).2.1
  have r : ∀ a j, y ≤ a → a < y + 39 → R1 a j = R a j := fun a j p q => (hK a p q).2.2 j
  have hb : ∀ b, y ≤ b → b + 9 ≤ y + 39 → BCc S R b → BCc S1 R1 b := by
    intro b p q ⟨h0, h5, h6, h7, h8, h9, h11, h12, h13, ⟨a1, c1⟩, ⟨a2, c2⟩, ⟨a3, c3⟩, ⟨a4, c4⟩, ⟨a5, c5⟩, ⟨a6, c6⟩, ⟨a7, c7⟩, a8, c8⟩
    exact ⟨(k _ (by omega) (by omega)).trans h0, (r _ _ (by omega) (by omega)).trans h5, (r _ _ (by omega) (by omega)).trans h6, (r _ _ (by omega) (by omega)).trans h7, (r _ _ (by omega) (by omega)).trans h8, (r _ _ (by omega) (by omega)).trans h9, (r _ _ (by omega) (by omega)).trans h11, (r _ _ (by omega) (by omega)).trans h12, (r _ _ (by omega) (by omega)).trans h13, ⟨(k _ (by omega) (by omega)).trans a1, (l _ (by omega) (by omega)).trans c1⟩, ⟨(k _ (by omega) (by omega)).trans a2, (l _ (by omega) (by omega)).trans c2⟩, ⟨(k _ (by omega) (by omega)).trans a3, (l _ (by omega) (by omega)).trans c3⟩, ⟨(k _ (by omega) (by omega)).trans a4, (l _ (by omega) (by omega)).trans c4⟩, ⟨(k _ (by omega) (by omega)).trans a5, (l _ (by omega) (by omega)).trans c5⟩, ⟨(k _ (by omega) (by omega)).trans a6, (l _ (by omega) (by omega)).trans c6⟩, ⟨(k _ (by omega) (by omega)).trans a7, (l _ (by omega) (by omega)).trans c7⟩, (k _ (by omega) (by omega)).trans a8, (l _ (by omega) (by omega)).trans c8⟩
  have hs : ∀ b, y ≤ b → b + 6 ≤ y + 39 → SCc S R b → SCc S1 R1 b := by
    intro b p q ⟨h0, h6, h7, h8, h9, h10, ⟨a1, c1⟩, ⟨a2, c2⟩, ⟨a3, c3⟩, ⟨a4, c4⟩, a5, c5⟩
    exact ⟨(k _ (by omega) (by omega)).trans h0, (r _ _ (by omega) (by omega)).trans h6, (r _ _ (by omega) (by omega)).trans h7, (r _ _ (by omega) (by omega)).trans h8, (r _ _ (by omega) (by omega)).trans h9, (r _ _ (by omega) (by omega)).trans h10, ⟨(k _ (by omega) (by omega)).trans a1, (l _ (by omega) (by omega)).trans c1⟩, ⟨(k _ (by omega) (by omega)).trans a2, (l _ (by omega) (by omega)).trans c2⟩, ⟨(k _ (by omega) (by omega)).trans a3, (l _ (by omega) (by omega)).trans c3⟩, ⟨(k _ (by omega) (by omega)).trans a4, (l _ (by omega) (by omega)).trans c4⟩, (k _ (by omega) (by omega)).trans a5, (l _ (by omega) (by omega)).trans c5⟩
  obtain ⟨⟨m1, m2, m3⟩, ⟨m4, m5, m6⟩, m7, m8, m9, m10, m11, m12, m13, q1, q2, q3, q4, ⟨q5, q6⟩, ⟨q7, q8⟩, ⟨q9, q10⟩, ⟨q11, q12⟩, q13, q14, q15, ⟨q16, q17⟩, ⟨q18, q19⟩, q20, q21⟩ := h
  exact ⟨⟨(k _ (by omega) (by omega)).trans m1, (r _ _ (by omega) (by omega)).trans m2, hb _ (by omega) (by omega) m3⟩, ⟨(r _ _ (by omega) (by omega)).trans m4, (k _ (by omega) (by omega)).trans m5, (l _ (by omega) (by omega)).trans m6⟩, (r _ _ (by omega) (by omega)).trans m7, (r _ _ (by omega) (by omega)).trans m8, hs _ (by omega) (by omega) m9, hs _ (by omega) (by omega) m10, (r _ _ (by omega) (by omega)).trans m11, m12, hb _ (by omega) (by omega) m13, (r _ _ (by omega) (by omega)).trans q1, (r _ _ (by omega) (by omega)).trans q2, (r _ _ (by omega) (by omega)).trans q3, (r _ _ (by omega) (by omega)).trans q4, ⟨(k _ (by omega) (by omega)).trans q5, (l _ (by omega) (by omega)).trans q6⟩, ⟨(k _ (by omega) (by omega)).trans q7, (l _ (by omega) (by omega)).trans q8⟩, ⟨(k _ (by omega) (by omega)).trans q9, (l _ (by omega) (by omega)).trans q10⟩, ⟨(k _ (by omega) (by omega)).trans q11, (l _ (by omega) (by omega)).trans q12⟩, (r _ _ (by omega) (by omega)).trans q13, (r _ _ (by omega) (by omega)).trans q14, (r _ _ (by omega) (by omega)).trans q15, ⟨(k _ (by omega) (by omega)).trans q16, (l _ (by omega) (by omega)).trans q17⟩, ⟨(k _ (by omega) (by omega)).trans q18, (l _ (by omega) (by omega)).trans q19⟩, (k _ (by omega) (by omega)).trans q20, (l _ (by omega) (by omega)).trans q21⟩
theorem MCc.nw {k n : Nat} (h : MCc S R y bl nx) (hy : y + 39 ≤ S.hs) : MCc (S.nw k n) (xR S R) y bl nx := h.ext fun a p q => ⟨if_neg (show ¬ a = S.hs by omega), if_neg (show ¬ a = S.hs by omega), fun j => if_neg (show ¬ a = S.hs by omega)⟩
theorem AbY.loc (hC : MCc S R y bl nx) (h : AbY I y bl s) (fr : ∀ x j, y ≤ x → x < y + 33 → (x ≠ y ∨ j = 2 ∨ j = 3) → I1 x j = I x j) : AbY I1 y bl s := by
  obtain ⟨p1, p2, p3, p4, p5⟩ := hC.lo
  obtain ⟨⟨a1, a2, a3⟩, a4, a5, a6, a7⟩ := h
  exact ⟨⟨(fr _ _ (by omega) (by omega) (by omega)).trans a1, a2, fun i hi => (fr _ _ (by omega) (by omega) (by omega)).trans (a3 i hi)⟩, (fr _ _ (by omega) (by omega) (by omega)).trans a4, a5.mv (fun x j p q => fr x j (by omega) (by omega) (by omega)) (fun _ _ => ⟨rfl, rfl⟩) (fun _ _ => ⟨rfl, rfl⟩), a6.fr (fun x j p q => fr x j (by omega) (by omega) (by omega)), a7⟩
theorem k_X14_counted {w : Nat} (hG : okG G) (hC : MCc S R y bl nx) (hA : AbY I y bl s) (hy : y + 39 ≤ S.hs) (hw : w < 10) : Fn G mX14_counted 1 [vR y, vI (nI w)] (mw S I J R) (fun rr M1 => rr = some (vI (cntM s.E s.B s.m w)) ∧ ∃ I1, M1 = mw (S.nw 20 10) I1 (xJ S J) (xR S R) ∧ ∀ a j, a ≠ S.hs → I1 a j = I a j) := by
  obtain ⟨p1, p2, p3, p4, p5⟩ := hC.lo
  have hC1 : MCc (S.nw 20 10) (xR S R) y bl nx := hC.nw hy
  have o0 : ∀ a j, a ≠ S.hs → xI S I a j = I a j := fun a j q => if_neg q
  have hA1 : AbY (xI S I) y bl s := hA.loc hC (fun x j p q r => o0 x j (by omega))
  refine am_bipush (q := 2) (v := 10) dX14_counted_0 kc_b10 rfl ?_
  refine am_newI (q := 4) (n := 10) dX14_counted_2 (by decide) rfl (Nat.le_of_ble_eq_true rfl) rfl ?_ tb_aI
  rw [mw_nw, show (fun b i => if b = S.hs then 0 else I b i) = xI S I from rfl, show (fun b i => if b = S.hs then 0 else J b i) = xJ S J from rfl, show (fun b i => if b = S.hs then none else R b i) = xR S R from rfl]
  have kN : (S.nw 20 10).K S.hs = 20 := if_pos rfl
  have lN : (S.nw 20 10).ln S.hs = 10 := if_pos rfl
  have eN : (mw S I J R).hs = S.hs := rfl
  rw [eN]
  clear eN
  generalize S.nw 20 10 = S1 at hC1 kN lN ⊢
  generalize xR S R = R1 at hC1 ⊢
  generalize xJ S J = J1
  generalize xI S I = I0 at o0 hA1
  generalize S.hs = a at hy kN lN o0 ⊢
  have ky := hC1.1.1
  have ry := hC1.1.2.1
  have kb := hC1.1.2.2.1
  have rs := hC1.2.2.1
  have kz := hC1.2.2.2.2.1.1
  obtain ⟨⟨a1, a2, a3⟩, a4, hB, hs, a7⟩ := id hA1
  obtain ⟨⟨g0, g1, g2, g3, g4, g5, g6⟩, _⟩ := id hs
  have cR := hB.1.1.1
  have cF := hB.1.2.1.1
  have cP := hB.1.2.2.1.1
  have cT := hB.1.2.2.2.1
  refine am_dup (q := 5) dX14_counted_4 rfl rfl ?_
  refine am_iconst (q := 6) (v := 0) dX14_counted_5 kc_i0 rfl ?_
  refine am_aload_n (q := 7) dX14_counted_6 rfl rfl ?_
  refine cm_getR (q := 10) dX14_counted_7 flX14_51 rfl (by assumption) (by assumption) rfl ?_
  refine cm_getI (q := 13) dX14_counted_10 flX14_280 rfl (by assumption) rfl ?_
  rw [g0]
  refine cm_iastore (q := 14) dX14_counted_13 (by assumption) (by rw [lN]; exact (vp_in_nI (by omega) (by decide) : vp_in (nI 0) 10)) rfl ?_
  refine am_dup (q := 15) dX14_counted_14 rfl rfl ?_
  refine am_iconst (q := 16) (v := 1) dX14_counted_15 kc_i1 rfl ?_
  refine am_aload_n (q := 17) dX14_counted_16 rfl rfl ?_
  refine cm_getR (q := 20) dX14_counted_17 flX14_32 rfl (by assumption) (by assumption) rfl ?_
  refine cm_getI (q := 23) dX14_counted_20 flX14_177 rfl (by assumption) rfl ?_
  rw [up2_a (by omega), cR]
  refine cm_iastore (q := 24) dX14_counted_23 (by assumption) (by rw [lN]; exact (vp_in_nI (by omega) (by decide) : vp_in (nI 1) 10)) rfl ?_
  refine am_dup (q := 25) dX14_counted_24 rfl rfl ?_
  refine am_iconst (q := 26) (v := 2) dX14_counted_25 kc_i2 rfl ?_
  refine am_aload_n (q := 27) dX14_counted_26 rfl rfl ?_
  refine cm_getR (q := 30) dX14_counted_27 flX14_32 rfl (by assumption) (by assumption) rfl ?_
  refine cm_getI (q := 33) dX14_counted_30 flX14_170 rfl (by assumption) rfl ?_
  rw [up2_a (by omega), up2_a (by omega), cF]
  refine cm_iastore (q := 34) dX14_counted_33 (by assumption) (by rw [lN]; exact (vp_in_nI (by omega) (by decide) : vp_in (nI 2) 10)) rfl ?_
  refine am_dup (q := 35) dX14_counted_34 rfl rfl ?_
  refine am_iconst (q := 36) (v := 3) dX14_counted_35 kc_i3 rfl ?_
  refine am_aload_n (q := 37) dX14_counted_36 rfl rfl ?_
  refine cm_getR (q := 40) dX14_counted_37 flX14_32 rfl (by assumption) (by assumption) rfl ?_
  refine cm_getI (q := 43) dX14_counted_40 flX14_180 rfl (by assumption) rfl ?_
  rw [up2_a (by omega), up2_a (by omega), up2_a (by omega), cP]
  refine cm_iastore (q := 44) dX14_counted_43 (by assumption) (by rw [lN]; exact (vp_in_nI (by omega) (by decide) : vp_in (nI 3) 10)) rfl ?_
  refine am_dup (q := 45) dX14_counted_44 rfl rfl ?_
  refine am_iconst (q := 46) (v := 4) dX14_counted_45 kc_i4 rfl ?_
  refine am_aload_n (q := 47) dX14_counted_46 rfl rfl ?_
  refine cm_getR (q := 50) dX14_counted_47 flX14_32 rfl (by assumption) (by assumption) rfl ?_
  refine cm_getI (q := 53) dX14_counted_50 flX14_246 rfl (by assumption) rfl ?_
  rw [up2_a (by omega), up2_a (by omega), up2_a (by omega), up2_a (by omega), cT]
  refine cm_iastore (q := 54) dX14_counted_53 (by assumption) (by rw [lN]; exact (vp_in_nI (by omega) (by decide) : vp_in (nI 4) 10)) rfl ?_
  refine am_dup (q := 55) dX14_counted_54 rfl rfl ?_
  refine am_iconst (q := 56) (v := 5) dX14_counted_55 kc_i5 rfl ?_
  refine am_aload_n (q := 57) dX14_counted_56 rfl rfl ?_
  refine cm_getR (q := 60) dX14_counted_57 flX14_51 rfl (by assumption) (by assumption) rfl ?_
  refine cm_getI (q := 63) dX14_counted_60 flX14_327 rfl (by assumption) rfl ?_
  rw [up2_a (by omega), up2_a (by omega), up2_a (by omega), up2_a (by omega), up2_a (by omega), g1]
  refine cm_iastore (q := 64) dX14_counted_63 (by assumption) (by rw [lN]; exact (vp_in_nI (by omega) (by decide) : vp_in (nI 5) 10)) rfl ?_
  refine am_dup (q := 65) dX14_counted_64 rfl rfl ?_
  refine am_bipush (q := 67) (v := 6) dX14_counted_65 kc_b6 rfl ?_
  refine am_aload_n (q := 68) dX14_counted_67 rfl rfl ?_
  refine cm_getR (q := 71) dX14_counted_68 flX14_51 rfl (by assumption) (by assumption) rfl ?_
  refine cm_getI (q := 74) dX14_counted_71 flX14_330 rfl (by assumption) rfl ?_
  rw [up2_a (by omega), up2_a (by omega), up2_a (by omega), up2_a (by omega), up2_a (by omega), up2_a (by omega), g2]
  refine cm_iastore (q := 75) dX14_counted_74 (by assumption) (by rw [lN]; exact (vp_in_nI (by omega) (by decide) : vp_in (nI 6) 10)) rfl ?_
  refine k_nm (P := fun I2 => MW G mX14_counted 1 75 _ _ (mw S1 I2 J1 R1) _) _ ?_
  intro I2 hI2
  have q2 : ∀ x j, I2 x j = if x = a ∧ j = 6 then s.m.g 4 else if x = a ∧ j = 5 then s.m.g 3 else if x = a ∧ j = 4 then nI s.B.nT else if x = a ∧ j = 3 then nI s.B.nP else if x = a ∧ j = 2 then nI s.B.nF else if x = a ∧ j = 1 then nI s.B.nR else if x = a ∧ j = 0 then s.m.g 0 else I0 x j := fun x j => by rw [hI2, up2_at, up2_at, up2_at, up2_at, up2_at, up2_at, up2_at]; rfl
  clear hI2
  have n2 : ∀ x j, x ≠ a → I2 x j = I0 x j := fun x j q => by rw [q2, if_neg (by omega), if_neg (by omega), if_neg (by omega), if_neg (by omega), if_neg (by omega), if_neg (by omega), if_neg (by omega)]
  have hA2 : AbY I2 y bl s := hA1.loc hC1 (fun x j p q r => n2 x j (by omega))
  refine am_dup (q := 76) dX14_counted_75 rfl rfl ?_
  refine am_bipush (q := 78) (v := 7) dX14_counted_76 kc_b7 rfl ?_
  refine am_aload_n (q := 79) dX14_counted_78 rfl rfl ?_
  refine am_aload_n (q := 80) dX14_counted_79 rfl rfl ?_
  refine cm_getR (q := 83) dX14_counted_80 flX14_51 rfl (by assumption) (by assumption) rfl ?_
  refine cm_call0 (q := 86) (As := [_]) hG dX14_counted_83 mlX14_362 rfl (by assumption) ⟨_, _, rfl⟩ (Nat.le_of_ble_eq_true rfl) (Nat.le_of_ble_eq_true rfl) (Nat.le_of_ble_eq_true rfl) (Nat.le_of_ble_eq_true rfl) (k_X14_purses hC1.1 hC1.2.2.2.2.1 hA2.2.2.1 hA2.2.2.2.1) rfl ?_
  rintro _ _ ⟨rfl, rfl⟩
  refine cm_iastore (q := 87) dX14_counted_86 (by assumption) (by rw [lN]; exact (vp_in_nI (by omega) (by decide) : vp_in (nI 7) 10)) rfl ?_
  refine am_dup (q := 88) dX14_counted_87 rfl rfl ?_
  refine am_bipush (q := 90) (v := 8) dX14_counted_88 kc_b8 rfl ?_
  refine am_aload_n (q := 91) dX14_counted_90 rfl rfl ?_
  refine cm_getR (q := 94) dX14_counted_91 flX14_51 rfl (by assumption) (by assumption) rfl ?_
  refine cm_getI (q := 97) dX14_counted_94 flX14_336 rfl (by assumption) rfl ?_
  rw [up2_a (by omega), n2 _ _ (by omega), g5]
  refine cm_iastore (q := 98) dX14_counted_97 (by assumption) (by rw [lN]; exact (vp_in_nI (by omega) (by decide) : vp_in (nI 8) 10)) rfl ?_
  refine am_dup (q := 99) dX14_counted_98 rfl rfl ?_
  refine am_bipush (q := 101) (v := 9) dX14_counted_99 kc_b9 rfl ?_
  refine am_aload_n (q := 102) dX14_counted_101 rfl rfl ?_
  refine cm_getI (q := 105) dX14_counted_102 flX14_61 rfl (by assumption) rfl ?_
  rw [up2_a (by omega), up2_a (by omega), n2 _ _ (by omega), a1]
  refine cm_iastore (q := 106) dX14_counted_105 (by assumption) (by rw [lN]; exact (vp_in_nI (by omega) (by decide) : vp_in (nI 9) 10)) rfl ?_
  refine k_nm (P := fun I3 => MW G mX14_counted 1 106 _ _ (mw S1 I3 J1 R1) _) _ ?_
  intro I3 hI3
  have q3 : ∀ x j, I3 x j = if x = a ∧ j = 9 then nI s.E.1 else if x = a ∧ j = 8 then nI s.m.nb else if x = a ∧ j = 7 then pursM s.B s.m else I2 x j := fun x j => by rw [hI3, up2_at, up2_at, up2_at]; rfl
  clear hI3
  have e : I3 a w = cntM s.E s.B s.m w := by
    unfold cntM
    rw [q3]
    by_cases c : w = 9
    · rw [if_pos ⟨rfl, c⟩, if_pos c]
    · rw [if_neg (fun z => c z.2), if_neg c]
      unfold tlC
      rcases (show w = 0 ∨ w = 1 ∨ w = 2 ∨ w = 3 ∨ w = 4 ∨ w = 5 ∨ w = 6 ∨ w = 7 ∨ w = 8 by omega) with rfl | rfl | rfl | rfl | rfl | rfl | rfl | rfl | rfl
      · rw [if_neg (by omega), if_neg (by omega), q2, if_neg (by omega), if_neg (by omega), if_neg (by omega), if_neg (by omega), if_neg (by omega), if_neg (by omega), if_pos ⟨rfl, rfl⟩]
        rfl
      · rw [if_neg (by omega), if_neg (by omega), q2, if_neg (by omega), if_neg (by omega), if_neg (by omega), if_neg (by omega), if_neg (by omega), if_pos ⟨rfl, rfl⟩]
        rfl
      · rw [if_neg (by omega), if_neg (by omega), q2, if_neg (by omega), if_neg (by omega), if_neg (by omega), if_neg (by omega), if_pos ⟨rfl, rfl⟩]
        rfl
      · rw [if_neg (by omega), if_neg (by omega), q2, if_neg (by omega), if_neg (by omega), if_neg (by omega), if_pos ⟨rfl, rfl⟩]
        rfl
      · rw [if_neg (by omega), if_neg (by omega), q2, if_neg (by omega), if_neg (by omega), if_pos ⟨rfl, rfl⟩]
        rfl
      · rw [if_neg (by omega), if_neg (by omega), q2, if_neg (by omega), if_pos ⟨rfl, rfl⟩]
        rfl
      · rw [if_neg (by omega), if_neg (by omega), q2, if_pos ⟨rfl, rfl⟩]
        rfl
      · rw [if_neg (by omega), if_pos ⟨rfl, rfl⟩]
        rfl
      · rw [if_pos ⟨rfl, rfl⟩]
        rfl
  have n3 : ∀ x j, x ≠ a → I3 x j = I x j := fun x j q => by rw [q3, if_neg (by omega), if_neg (by omega), if_neg (by omega), n2 x j q, o0 x j q]
  refine am_astore_n (q := 107) (ls1 := [_, _, _]) dX14_counted_106 (Nat.le_of_ble_eq_true rfl) rfl rfl ?_
  refine am_aload_n (q := 108) dX14_counted_107 rfl rfl ?_
  refine am_iload_n (q := 109) dX14_counted_108 rfl rfl ?_
  refine cm_iaload (q := 110) dX14_counted_109 (by assumption) (by rw [lN]; exact vp_in_nI hw (by decide)) rfl ?_
  rw [nI_clamp (show w < 2 ^ 31 by omega), e]
  exact am_iret dX14_counted_110 rfl rfl ⟨_, rfl, rfl, I3, rfl, n3⟩
end Mn2

