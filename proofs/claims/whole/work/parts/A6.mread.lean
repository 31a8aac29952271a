theorem dX14_byteAt_0 : decode cX14_byteAt 0 = .ok (.iload_n 1, 1) := by decide +kernel
theorem dX14_byteAt_1 : decode cX14_byteAt 1 = .ok (.aload_n 0, 1) := by decide +kernel
theorem dX14_byteAt_2 : decode cX14_byteAt 2 = .ok (.getfield 61, 3) := by decide +kernel
theorem dX14_byteAt_5 : decode cX14_byteAt 5 = .ok (.if_icmp .ge 12, 3) := by decide +kernel
theorem dX14_byteAt_8 : decode cX14_byteAt 8 = .ok (.aload_n 0, 1) := by decide +kernel
theorem dX14_byteAt_9 : decode cX14_byteAt 9 = .ok (.getfield 9, 3) := by decide +kernel
theorem dX14_byteAt_12 : decode cX14_byteAt 12 = .ok (.iload_n 1, 1) := by decide +kernel
theorem dX14_byteAt_13 : decode cX14_byteAt 13 = .ok (.iaload, 1) := by decide +kernel
theorem dX14_byteAt_14 : decode cX14_byteAt 14 = .ok (.goto 4, 3) := by decide +kernel
theorem dX14_byteAt_17 : decode cX14_byteAt 17 = .ok (.iconst 0, 1) := by decide +kernel
theorem dX14_byteAt_18 : decode cX14_byteAt 18 = .ok (.ireturn, 1) := by decide +kernel
theorem dX14_isDigit_0 : decode cX14_isDigit 0 = .ok (.iload_n 0, 1) := by decide +kernel
theorem dX14_isDigit_1 : decode cX14_isDigit 1 = .ok (.bipush 48, 2) := by decide +kernel
theorem dX14_isDigit_3 : decode cX14_isDigit 3 = .ok (.if_icmp .lt 13, 3) := by decide +kernel
theorem dX14_isDigit_6 : decode cX14_isDigit 6 = .ok (.iload_n 0, 1) := by decide +kernel
theorem dX14_isDigit_7 : decode cX14_isDigit 7 = .ok (.bipush 57, 2) := by decide +kernel
theorem dX14_isDigit_9 : decode cX14_isDigit 9 = .ok (.if_icmp .gt 7, 3) := by decide +kernel
theorem dX14_isDigit_12 : decode cX14_isDigit 12 = .ok (.iconst 1, 1) := by decide +kernel
theorem dX14_isDigit_13 : decode cX14_isDigit 13 = .ok (.goto 4, 3) := by decide +kernel
theorem dX14_isDigit_16 : decode cX14_isDigit 16 = .ok (.iconst 0, 1) := by decide +kernel
theorem dX14_isDigit_17 : decode cX14_isDigit 17 = .ok (.ireturn, 1) := by decide +kernel
theorem dX14_isLetter_0 : decode cX14_isLetter 0 = .ok (.iload_n 0, 1) := by decide +kernel
theorem dX14_isLetter_1 : decode cX14_isLetter 1 = .ok (.bipush 97, 2) := by decide +kernel
theorem dX14_isLetter_3 : decode cX14_isLetter 3 = .ok (.if_icmp .lt 13, 3) := by decide +kernel
theorem dX14_isLetter_6 : decode cX14_isLetter 6 = .ok (.iload_n 0, 1) := by decide +kernel
theorem dX14_isLetter_7 : decode cX14_isLetter 7 = .ok (.bipush 122, 2) := by decide +kernel
theorem dX14_isLetter_9 : decode cX14_isLetter 9 = .ok (.if_icmp .gt 7, 3) := by decide +kernel
theorem dX14_isLetter_12 : decode cX14_isLetter 12 = .ok (.iconst 1, 1) := by decide +kernel
theorem dX14_isLetter_13 : decode cX14_isLetter 13 = .ok (.goto 4, 3) := by decide +kernel
theorem dX14_isLetter_16 : decode cX14_isLetter 16 = .ok (.iconst 0, 1) := by decide +kernel
theorem dX14_isLetter_17 : decode cX14_isLetter 17 = .ok (.ireturn, 1) := by decide +kernel
theorem dX14_readWord_0 : decode cX14_readWord 0 = .ok (.iload_n 2, 1) := by decide +kernel
theorem dX14_readWord_1 : decode cX14_readWord 1 = .ok (.istore_n 3, 1) := by decide +kernel
theorem dX14_readWord_2 : decode cX14_readWord 2 = .ok (.aload_n 0, 1) := by decide +kernel
theorem dX14_readWord_3 : decode cX14_readWord 3 = .ok (.iload_n 3, 1) := by decide +kernel
theorem dX14_readWord_4 : decode cX14_readWord 4 = .ok (.invokevirtual 76, 3) := by decide +kernel
theorem dX14_readWord_7 : decode cX14_readWord 7 = .ok (.invokestatic 83, 3) := by decide +kernel
theorem dX14_readWord_10 : decode cX14_readWord 10 = .ok (.ifCond .ne 14, 3) := by decide +kernel
theorem dX14_readWord_13 : decode cX14_readWord 13 = .ok (.aload_n 0, 1) := by decide +kernel
theorem dX14_readWord_14 : decode cX14_readWord 14 = .ok (.iload_n 3, 1) := by decide +kernel
theorem dX14_readWord_15 : decode cX14_readWord 15 = .ok (.invokevirtual 76, 3) := by decide +kernel
theorem dX14_readWord_18 : decode cX14_readWord 18 = .ok (.invokestatic 90, 3) := by decide +kernel
theorem dX14_readWord_21 : decode cX14_readWord 21 = .ok (.ifCond .eq 9, 3) := by decide +kernel
theorem dX14_readWord_24 : decode cX14_readWord 24 = .ok (.iinc 3 1, 3) := by decide +kernel
theorem dX14_readWord_27 : decode cX14_readWord 27 = .ok (.goto (-25), 3) := by decide +kernel
theorem dX14_readWord_30 : decode cX14_readWord 30 = .ok (.aload_n 0, 1) := by decide +kernel
theorem dX14_readWord_31 : decode cX14_readWord 31 = .ok (.getfield 26, 3) := by decide +kernel
theorem dX14_readWord_34 : decode cX14_readWord 34 = .ok (.iload_n 1, 1) := by decide +kernel
theorem dX14_readWord_35 : decode cX14_readWord 35 = .ok (.iload_n 3, 1) := by decide +kernel
theorem dX14_readWord_36 : decode cX14_readWord 36 = .ok (.iload_n 2, 1) := by decide +kernel
theorem dX14_readWord_37 : decode cX14_readWord 37 = .ok (.isub, 1) := by decide +kernel
theorem dX14_readWord_38 : decode cX14_readWord 38 = .ok (.iastore, 1) := by decide +kernel
theorem dX14_readWord_39 : decode cX14_readWord 39 = .ok (.aload_n 0, 1) := by decide +kernel
theorem dX14_readWord_40 : decode cX14_readWord 40 = .ok (.getfield 17, 3) := by decide +kernel
theorem dX14_readWord_43 : decode cX14_readWord 43 = .ok (.iload_n 1, 1) := by decide +kernel
theorem dX14_readWord_44 : decode cX14_readWord 44 = .ok (.iload_n 3, 1) := by decide +kernel
theorem dX14_readWord_45 : decode cX14_readWord 45 = .ok (.iload_n 2, 1) := by decide +kernel
theorem dX14_readWord_46 : decode cX14_readWord 46 = .ok (.isub, 1) := by decide +kernel
theorem dX14_readWord_47 : decode cX14_readWord 47 = .ok (.bipush 10, 2) := by decide +kernel
theorem dX14_readWord_49 : decode cX14_readWord 49 = .ok (.if_icmp .le 7, 3) := by decide +kernel
theorem dX14_readWord_52 : decode cX14_readWord 52 = .ok (.iconst 5, 1) := by decide +kernel
theorem dX14_readWord_53 : decode cX14_readWord 53 = .ok (.goto 4, 3) := by decide +kernel
theorem dX14_readWord_56 : decode cX14_readWord 56 = .ok (.iconst 1, 1) := by decide +kernel
theorem dX14_readWord_57 : decode cX14_readWord 57 = .ok (.iastore, 1) := by decide +kernel
theorem dX14_readWord_58 : decode cX14_readWord 58 = .ok (.iconst 0, 1) := by decide +kernel
theorem dX14_readWord_59 : decode cX14_readWord 59 = .ok (.istore 4, 2) := by decide +kernel
theorem dX14_readWord_61 : decode cX14_readWord 61 = .ok (.iload 4, 2) := by decide +kernel
theorem dX14_readWord_63 : decode cX14_readWord 63 = .ok (.getstatic 96, 3) := by decide +kernel
theorem dX14_readWord_66 : decode cX14_readWord 66 = .ok (.arraylength, 1) := by decide +kernel
theorem dX14_readWord_67 : decode cX14_readWord 67 = .ok (.if_icmp .ge 44, 3) := by decide +kernel
theorem dX14_readWord_70 : decode cX14_readWord 70 = .ok (.aload_n 0, 1) := by decide +kernel
theorem dX14_readWord_71 : decode cX14_readWord 71 = .ok (.iload_n 2, 1) := by decide +kernel
theorem dX14_readWord_72 : decode cX14_readWord 72 = .ok (.iload_n 3, 1) := by decide +kernel
theorem dX14_readWord_73 : decode cX14_readWord 73 = .ok (.iload_n 2, 1) := by decide +kernel
theorem dX14_readWord_74 : decode cX14_readWord 74 = .ok (.isub, 1) := by decide +kernel
theorem dX14_readWord_75 : decode cX14_readWord 75 = .ok (.getstatic 96, 3) := by decide +kernel
theorem dX14_readWord_78 : decode cX14_readWord 78 = .ok (.iload 4, 2) := by decide +kernel
theorem dX14_readWord_80 : decode cX14_readWord 80 = .ok (.aaload, 1) := by decide +kernel
theorem dX14_readWord_81 : decode cX14_readWord 81 = .ok (.invokevirtual 100, 3) := by decide +kernel
theorem dX14_readWord_84 : decode cX14_readWord 84 = .ok (.ifCond .ne 6, 3) := by decide +kernel
theorem dX14_readWord_87 : decode cX14_readWord 87 = .ok (.goto 18, 3) := by decide +kernel
theorem dX14_readWord_90 : decode cX14_readWord 90 = .ok (.aload_n 0, 1) := by decide +kernel
theorem dX14_readWord_91 : decode cX14_readWord 91 = .ok (.getfield 17, 3) := by decide +kernel
theorem dX14_readWord_94 : decode cX14_readWord 94 = .ok (.iload_n 1, 1) := by decide +kernel
theorem dX14_readWord_95 : decode cX14_readWord 95 = .ok (.iconst 2, 1) := by decide +kernel
theorem dX14_readWord_96 : decode cX14_readWord 96 = .ok (.iastore, 1) := by decide +kernel
theorem dX14_readWord_97 : decode cX14_readWord 97 = .ok (.aload_n 0, 1) := by decide +kernel
theorem dX14_readWord_98 : decode cX14_readWord 98 = .ok (.getfield 20, 3) := by decide +kernel
theorem dX14_readWord_101 : decode cX14_readWord 101 = .ok (.iload_n 1, 1) := by decide +kernel
theorem dX14_readWord_102 : decode cX14_readWord 102 = .ok (.iload 4, 2) := by decide +kernel
theorem dX14_readWord_104 : decode cX14_readWord 104 = .ok (.iastore, 1) := by decide +kernel
theorem dX14_readWord_105 : decode cX14_readWord 105 = .ok (.iinc 4 1, 3) := by decide +kernel
theorem dX14_readWord_108 : decode cX14_readWord 108 = .ok (.goto (-47), 3) := by decide +kernel
theorem dX14_readWord_111 : decode cX14_readWord 111 = .ok (.return_, 1) := by decide +kernel
/-! the reference reads a token -/
def Tp.atm (E : Tp) (p : Nat) : Int32 := if p < E.1 then E.2 p else 0
theorem Tp.atm_lt {E : Tp} {p : Nat} (h : p < E.1) : E.atm p = E.2 p := if_pos h
theorem Tp.atm_0 {E : Tp} {p : Nat} (h : ¬ p < E.1) : E.atm p = 0 := if_neg h
/-- the reference's tape -/
def TPm (I : Nat → Nat → Int32) (y : Nat) (E : Tp) : Prop := I y 2 = nI E.1 ∧ E.1 ≤ 2000 ∧ ∀ i, i < E.1 → I (y + 1) i = E.2 i
/-- its cells, as far as tokens go -/
def RDc (S : AMem) (R : Nat → Nat → Option Nat) (y : Nat) : Prop := S.K y = 15 ∧ (R y 1 = some (y + 1) ∧ S.K (y + 1) = 20 ∧ S.ln (y + 1) = 2000) ∧ MPc S R y
/-- only the row's place n of sorts, values, sizes has changed -/
def OffN (y n : Nat) (I I1 : Nat → Nat → Int32) : Prop := ∀ x j, (x ≠ y + 2 ∧ x ≠ y + 3 ∧ x ≠ y + 5) ∨ j ≠ n → I1 x j = I x j
theorem OffN.rf {y n : Nat} {I : Nat → Nat → Int32} : OffN y n I I := fun _ _ _ => rfl
theorem OffN.tr {y n : Nat} {I I1 I2 : Nat → Nat → Int32} (h1 : OffN y n I I1) (h2 : OffN y n I1 I2) : OffN y n I I2 := fun x j q => (h2 x j q).trans (h1 x j q)
theorem TPm.off {y n : Nat} {I I1 : Nat → Nat → Int32} {E : Tp} (h : TPm I y E) (ho : OffN y n I I1) : TPm I1 y E := ⟨(ho _ _ (Or.inl (by omega))).trans h.1, h.2.1, fun i hi => (ho _ _ (Or.inl (by omega))).trans (h.2.2 i hi)⟩
section Rt0
variable {G : Gp} {S : AMem} {I : Nat → Nat → Int32} {J : Nat → Nat → Int64} {R : Nat → Nat → Option Nat} {Z : StA} {y n p : Nat} {E : Tp}
theorem k_X14_byteAt (hC : RDc S R y) (hT : TPm I y E) (hp : p < 2 ^ 31) : Fn G mX14_byteAt 0 [vR y, vI (nI p)] (mw S I J R) (fun rr M1 => rr = some (vI (E.atm p)) ∧ M1 = mw S I J R) := by
  obtain ⟨ky, ⟨r1, k1, l1⟩, _⟩ := hC
  obtain ⟨t1, t2, t3⟩ := hT
  refine am_iload_n (q := 1) dX14_byteAt_0 rfl rfl ?_
  refine am_aload_n (q := 2) dX14_byteAt_1 rfl rfl ?_
  refine cm_getI (q := 5) dX14_byteAt_2 flX14_61 rfl (by assumption) rfl ?_
  rw [t1]
  by_cases h : p < E.1
  · rw [Tp.atm_lt h]
    refine am_icmp_ge (tgt := 17) (q := 8) dX14_byteAt_5 rfl rfl (fun hz => absurd hz (nI_ge h (by omega))) (fun _ => ?_)
    refine am_aload_n (q := 9) dX14_byteAt_8 rfl rfl ?_
    refine cm_getR (q := 12) dX14_byteAt_9 flX14_9 rfl (by assumption) (by assumption) rfl ?_
    refine am_iload_n (q := 13) dX14_byteAt_12 rfl rfl ?_
    refine cm_iaload (q := 14) dX14_byteAt_13 (by assumption) (by rw [l1]; exact vp_in_nI (by omega) (by decide)) rfl ?_
    rw [nI_clamp hp, t3 p h]
    refine am_goto (tgt := 18) dX14_byteAt_14 rfl ?_
    exact am_iret dX14_byteAt_18 rfl rfl ⟨_, rfl, rfl, rfl⟩
  · rw [Tp.atm_0 h]
    refine am_icmp_ge (tgt := 17) (q := 8) dX14_byteAt_5 rfl rfl (fun _ => ?_) (fun hz => absurd (nI_le (by omega) hp) hz)
    refine am_iconst (q := 18) (v := 0) dX14_byteAt_17 kc_i0 rfl ?_
    exact am_iret dX14_byteAt_18 rfl rfl ⟨_, rfl, rfl, rfl⟩
theorem k_X14_isLetter {c : Int32} : Fn G mX14_isLetter 0 [vI c] (mw S I J R) (fun rr M1 => rr = some (vI (bI (isLeB c = true))) ∧ M1 = mw S I J R) := by
  refine am_iload_n (q := 1) dX14_isLetter_0 rfl rfl ?_
  refine am_bipush (q := 3) (v := 97) dX14_isLetter_1 kc_b97 rfl ?_
  refine am_icmp_lt (tgt := 16) (q := 6) dX14_isLetter_3 rfl rfl (fun h1 => ?_) (fun h1 => ?_)
  · refine am_iconst (q := 17) (v := 0) dX14_isLetter_16 kc_i0 rfl ?_
    exact am_iret dX14_isLetter_17 rfl rfl ⟨_, rfl, by rw [bI_f (fun q => Int32.not_le.mpr h1 (isLeB_i.mp q).1)], rfl⟩
  · refine am_iload_n (q := 7) dX14_isLetter_6 rfl rfl ?_
    refine am_bipush (q := 9) (v := 122) dX14_isLetter_7 kc_b122 rfl ?_
    refine am_icmp_gt (tgt := 16) (q := 12) dX14_isLetter_9 rfl rfl (fun h2 => ?_) (fun h2 => ?_)
    · refine am_iconst (q := 17) (v := 0) dX14_isLetter_16 kc_i0 rfl ?_
      exact am_iret dX14_isLetter_17 rfl rfl ⟨_, rfl, by rw [bI_f (fun q => Int32.not_le.mpr h2 (isLeB_i.mp q).2)], rfl⟩
    · refine am_iconst (q := 13) (v := 1) dX14_isLetter_12 kc_i1 rfl ?_
      refine am_goto (tgt := 17) dX14_isLetter_13 rfl ?_
      exact am_iret dX14_isLetter_17 rfl rfl ⟨_, rfl, by rw [bI_t (isLeB_i.mpr ⟨Int32.not_lt.mp h1, Int32.not_lt.mp h2⟩)], rfl⟩
theorem k_X14_isDigit {c : Int32} : Fn G mX14_isDigit 0 [vI c] (mw S I J R) (fun rr M1 => rr = some (vI (bI (isDiB c = true))) ∧ M1 = mw S I J R) := by
  refine am_iload_n (q := 1) dX14_isDigit_0 rfl rfl ?_
  refine am_bipush (q := 3) (v := 48) dX14_isDigit_1 kc_b48 rfl ?_
  refine am_icmp_lt (tgt := 16) (q := 6) dX14_isDigit_3 rfl rfl (fun h1 => ?_) (fun h1 => ?_)
  · refine am_iconst (q := 17) (v := 0) dX14_isDigit_16 kc_i0 rfl ?_
    exact am_iret dX14_isDigit_17 rfl rfl ⟨_, rfl, by rw [bI_f (fun q => Int32.not_le.mpr h1 (isDiB_i.mp q).1)], rfl⟩
  · refine am_iload_n (q := 7) dX14_isDigit_6 rfl rfl ?_
    refine am_bipush (q := 9) (v := 57) dX14_isDigit_7 kc_b57 rfl ?_
    refine am_icmp_gt (tgt := 16) (q := 12) dX14_isDigit_9 rfl rfl (fun h2 => ?_) (fun h2 => ?_)
    · refine am_iconst (q := 17) (v := 0) dX14_isDigit_16 kc_i0 rfl ?_
      exact am_iret dX14_isDigit_17 rfl rfl ⟨_, rfl, by rw [bI_f (fun q => Int32.not_le.mpr h2 (isDiB_i.mp q).2)], rfl⟩
    · refine am_iconst (q := 13) (v := 1) dX14_isDigit_12 kc_i1 rfl ?_
      refine am_goto (tgt := 17) dX14_isDigit_13 rfl ?_
      exact am_iret dX14_isDigit_17 rfl rfl ⟨_, rfl, by rw [bI_t (isDiB_i.mpr ⟨Int32.not_lt.mp h1, Int32.not_lt.mp h2⟩)], rfl⟩
/-- at the end of the tape stands no sign of a word -/
theorem atm_P {P : Int32 → Bool} (h0 : P 0 = false) : P (E.atm p) = true ↔ (p < E.1 ∧ P (E.2 p) = true) := by
  by_cases h : p < E.1
  · rw [Tp.atm_lt h]
    exact ⟨fun q => ⟨h, q⟩, fun q => q.2⟩
  · rw [Tp.atm_0 h, h0]
    exact ⟨fun q => absurd q (by decide), fun q => absurd q.1 h⟩
theorem spnE_P {P : Int32 → Bool} (hp : p ≤ E.1) : ∀ l, l < spnE P E p - p → P (E.2 (p + l)) = true := by
  have key : ∀ m p, E.1 - p = m → p ≤ E.1 → ∀ l, l < spnE P E p - p → P (E.2 (p + l)) = true := by
    intro m
    induction m with
    | zero =>
      intro p e hp l hl
      have := (spnE_le (P := P) hp).2
      omega
    | succ m ih =>
      intro p e hp l hl
      by_cases c : p < E.1 ∧ P (E.2 p) = true
      · rw [spnE_t c.1 c.2] at hl
        by_cases z : l = 0
        · rw [z]
          exact c.2
        · have := ih (p + 1) (by omega) (by omega) (l - 1) (by omega)
          rw [show p + 1 + (l - 1) = p + l by omega] at this
          exact this
      · rw [spnE_f c] at hl
        omega
  exact key _ p rfl hp
theorem kw_one : ∀ i, i < 32 → ∀ j, j < 32 → strN i = strN j → i = j := by decide +kernel
/-- what is known of a word that was read -/
def WdR (I : Nat → Nat → Int32) (y n p e : Nat) (E : Tp) : Prop := I (y + 5) n = nI (e - p) ∧ (10 < e - p → I (y + 2) n = 5) ∧ (e - p ≤ 10 → (kowN kwK (codN E (e - p) p 0) 0 32 = 258 ∧ I (y + 2) n = 1) ∨ ∃ j, j < 32 ∧ kowN kwK (codN E (e - p) p 0) 0 32 = nI (300 + j) ∧ I (y + 2) n = 2 ∧ I (y + 3) n = nI j)
theorem k_X14_readWord (hG : okG G) (hZ : KS G Z) (hC : RDc S R y) (hT : TPm I y E) (hn : n < 402) (hp : p ≤ E.1) : Fn G mX14_readWord 6 [vR y, vI (nI n), vI (nI p)] (mw S I J R) (fun rr M1 => rr = none ∧ ∃ I1, M1 = mw S I1 J R ∧ WdR I1 y n p (spnE isLDB E p) E ∧ OffN y n I I1) := by
  obtain ⟨ky, ⟨r1, k1, l1⟩, m4, m5, m6, m7, ⟨k2, l2⟩, ⟨k3, l3⟩, ⟨k4, l4⟩, ⟨k5, l5⟩, _⟩ := id hC
  obtain ⟨t1, t2, t3⟩ := id hT
  have i2 : vp_in (nI n) (S.ln (y + 2)) := by rw [l2]; exact vp_in_nI hn (by decide)
  have i3 : vp_in (nI n) (S.ln (y + 3)) := by rw [l3]; exact vp_in_nI hn (by decide)
  have i5 : vp_in (nI n) (S.ln (y + 5)) := by rw [l5]; exact vp_in_nI hn (by decide)
  have cn : (nI n).toNatClampNeg = n := nI_clamp (by omega)
  refine am_iload_n (q := 1) dX14_readWord_0 rfl rfl ?_
  refine am_istore_n (q := 2) (ls1 := [_, _, _, _, _]) dX14_readWord_1 (Nat.le_of_ble_eq_true rfl) rfl rfl ?_
  refine k_spn (P := isLDB) (E := E) (σ := Unit) (Inv := fun q _ => p ≤ q ∧ spnE isLDB E q = spnE isLDB E p) (W := fun q _ => MW G mX14_readWord 6 2 [some (vR y), some (vI (nI n)), some (vI (nI p)), some (vI (nI q)), none] [] (mw S I J R) _) ?_ ?_ p () hp ⟨Nat.le_refl _, rfl⟩
  · intro q _ h1 h2 ⟨v1, v2⟩ ih
    have ba := k_X14_byteAt (G := G) (J := J) (p := q) hC hT (by omega)
    rw [Tp.atm_lt h1] at ba
    have ih2 := ih () ⟨by omega, by rw [← v2, spnE_t h1 h2]⟩
    clear ih
    by_cases c : isLeB (E.2 q) = true
    · refine am_aload_n (q := 3) dX14_readWord_2 rfl rfl ?_
      refine am_iload_n (q := 4) dX14_readWord_3 rfl rfl ?_
      refine cm_call0 (q := 7) (As := [_]) hG dX14_readWord_4 mlX14_76 rfl (by assumption) ⟨_, _, rfl⟩ (Nat.le_of_ble_eq_true rfl) (Nat.le_of_ble_eq_true rfl) (Nat.le_of_ble_eq_true rfl) (Nat.le_of_ble_eq_true rfl) ba rfl ?_
      rintro _ _ ⟨rfl, rfl⟩
      refine am_call1 (q := 10) (As := [_]) hG dX14_readWord_7 mlX14_83 rfl (Nat.le_of_ble_eq_true rfl) (Nat.le_of_ble_eq_true rfl) (Nat.le_of_ble_eq_true rfl) k_X14_isLetter rfl ?_
      rintro _ _ ⟨rfl, rfl⟩
      refine am_if_ne (tgt := 24) (q := 13) dX14_readWord_10 rfl rfl (fun _ => ?_) (fun hz => absurd hz (bI_n0.mpr c))
      refine am_iincW (q := 27) (ls1 := [_, _, _, _, _]) (w := 1) dX14_readWord_24 rfl (Nat.le_of_ble_eq_true rfl) kc_i1 rfl rfl ?_
      refine am_goto (tgt := 2) dX14_readWord_27 rfl ?_
      rw [nI_1]
      exact ih2
    · have c2 := (isLDB_i.mp h2).resolve_left c
      refine am_aload_n (q := 3) dX14_readWord_2 rfl rfl ?_
      refine am_iload_n (q := 4) dX14_readWord_3 rfl rfl ?_
      refine cm_call0 (q := 7) (As := [_]) hG dX14_readWord_4 mlX14_76 rfl (by assumption) ⟨_, _, rfl⟩ (Nat.le_of_ble_eq_true rfl) (Nat.le_of_ble_eq_true rfl) (Nat.le_of_ble_eq_true rfl) (Nat.le_of_ble_eq_true rfl) ba rfl ?_
      rintro _ _ ⟨rfl, rfl⟩
      refine am_call1 (q := 10) (As := [_]) hG dX14_readWord_7 mlX14_83 rfl (Nat.le_of_ble_eq_true rfl) (Nat.le_of_ble_eq_true rfl) (Nat.le_of_ble_eq_true rfl) k_X14_isLetter rfl ?_
      rintro _ _ ⟨rfl, rfl⟩
      refine am_if_ne (tgt := 24) (q := 13) dX14_readWord_10 rfl rfl (fun hz => absurd (bI_e0.mpr c) hz) (fun _ => ?_)
      refine am_aload_n (q := 14) dX14_readWord_13 rfl rfl ?_
      refine am_iload_n (q := 15) dX14_readWord_14 rfl rfl ?_
      refine cm_call0 (q := 18) (As := [_]) hG dX14_readWord_15 mlX14_76 rfl (by assumption) ⟨_, _, rfl⟩ (Nat.le_of_ble_eq_true rfl) (Nat.le_of_ble_eq_true rfl) (Nat.le_of_ble_eq_true rfl) (Nat.le_of_ble_eq_true rfl) ba rfl ?_
      rintro _ _ ⟨rfl, rfl⟩
      refine am_call1 (q := 21) (As := [_]) hG dX14_readWord_18 mlX14_90 rfl (Nat.le_of_ble_eq_true rfl) (Nat.le_of_ble_eq_true rfl) (Nat.le_of_ble_eq_true rfl) k_X14_isDigit rfl ?_
      rintro _ _ ⟨rfl, rfl⟩
      refine am_if_eq (tgt := 30) (q := 24) dX14_readWord_21 rfl rfl (fun hz => absurd hz (bI_n0.mpr c2)) (fun _ => ?_)
      refine am_iincW (q := 27) (ls1 := [_, _, _, _, _]) (w := 1) dX14_readWord_24 rfl (Nat.le_of_ble_eq_true rfl) kc_i1 rfl rfl ?_
      refine am_goto (tgt := 2) dX14_readWord_27 rfl ?_
      rw [nI_1]
      exact ih2
  · intro q _ h1 h2 ⟨v1, v2⟩
    rw [spnE_f h2] at v2
    have ba := k_X14_byteAt (G := G) (J := J) (p := q) hC hT (by omega)
    have c1 : ¬ isLeB (E.atm q) = true := fun z => by
      obtain ⟨z1, z2⟩ := (atm_P (P := isLeB) (by decide)).mp z
      exact h2 ⟨z1, isLDB_i.mpr (Or.inl z2)⟩
    have c2 : ¬ isDiB (E.atm q) = true := fun z => by
      obtain ⟨z1, z2⟩ := (atm_P (P := isDiB) (by decide)).mp z
      exact h2 ⟨z1, isLDB_i.mpr (Or.inr z2)⟩
    have ld : ∀ l, l < q - p → isLDB (E.2 (p + l)) = true := fun l hl => spnE_P hp l (by rw [← v2]; exact hl)
    refine am_aload_n (q := 3) dX14_readWord_2 rfl rfl ?_
    refine am_iload_n (q := 4) dX14_readWord_3 rfl rfl ?_
    refine cm_call0 (q := 7) (As := [_]) hG dX14_readWord_4 mlX14_76 rfl (by assumption) ⟨_, _, rfl⟩ (Nat.le_of_ble_eq_true rfl) (Nat.le_of_ble_eq_true rfl) (Nat.le_of_ble_eq_true rfl) (Nat.le_of_ble_eq_true rfl) ba rfl ?_
    rintro _ _ ⟨rfl, rfl⟩
    refine am_call1 (q := 10) (As := [_]) hG dX14_readWord_7 mlX14_83 rfl (Nat.le_of_ble_eq_true rfl) (Nat.le_of_ble_eq_true rfl) (Nat.le_of_ble_eq_true rfl) k_X14_isLetter rfl ?_
    rintro _ _ ⟨rfl, rfl⟩
    refine am_if_ne (tgt := 24) (q := 13) dX14_readWord_10 rfl rfl (fun hz => absurd (bI_e0.mpr c1) hz) (fun _ => ?_)
    refine am_aload_n (q := 14) dX14_readWord_13 rfl rfl ?_
    refine am_iload_n (q := 15) dX14_readWord_14 rfl rfl ?_
    refine cm_call0 (q := 18) (As := [_]) hG dX14_readWord_15 mlX14_76 rfl (by assumption) ⟨_, _, rfl⟩ (Nat.le_of_ble_eq_true rfl) (Nat.le_of_ble_eq_true rfl) (Nat.le_of_ble_eq_true rfl) (Nat.le_of_ble_eq_true rfl) ba rfl ?_
    rintro _ _ ⟨rfl, rfl⟩
    refine am_call1 (q := 21) (As := [_]) hG dX14_readWord_18 mlX14_90 rfl (Nat.le_of_ble_eq_true rfl) (Nat.le_of_ble_eq_true rfl) (Nat.le_of_ble_eq_true rfl) k_X14_isDigit rfl ?_
    rintro _ _ ⟨rfl, rfl⟩
    refine am_if_eq (tgt := 30) (q := 24) dX14_readWord_21 rfl rfl (fun _ => ?_) (fun hz => absurd (bI_e0.mpr c2) hz)
    rw [← v2]
    clear c1 c2 ba h2
    refine am_aload_n (q := 31) dX14_readWord_30 rfl rfl ?_
    refine cm_getR (q := 34) dX14_readWord_31 flX14_26 rfl (by assumption) (by assumption) rfl ?_
    refine am_iload_n (q := 35) dX14_readWord_34 rfl rfl ?_
    refine am_iload_n (q := 36) dX14_readWord_35 rfl rfl ?_
    refine am_iload_n (q := 37) dX14_readWord_36 rfl rfl ?_
    refine am_isub (q := 38) dX14_readWord_37 rfl ?_
    rw [k_nsub v1]
    refine cm_iastore (q := 39) dX14_readWord_38 (by assumption) i5 rfl ?_
    refine am_aload_n (q := 40) dX14_readWord_39 rfl rfl ?_
    refine cm_getR (q := 43) dX14_readWord_40 flX14_17 rfl (by assumption) (by assumption) rfl ?_
    refine am_iload_n (q := 44) dX14_readWord_43 rfl rfl ?_
    refine am_iload_n (q := 45) dX14_readWord_44 rfl rfl ?_
    refine am_iload_n (q := 46) dX14_readWord_45 rfl rfl ?_
    refine am_isub (q := 47) dX14_readWord_46 rfl ?_
    rw [cn, k_nsub v1]
    have lp : ∀ (I3 : Nat → Nat → Int32), I3 (y + 5) n = nI (q - p) → OffN y n I I3 → I3 (y + 2) n = (if q - p ≤ 10 then 1 else 5) → MW G mX14_readWord 6 61 [some (vR y), some (vI (nI n)), some (vI (nI p)), some (vI (nI q)), some (vI (nI 0))] [] (mw S I3 J R) (fun f M1 => ∃ r, f = .inl r ∧ (r = none ∧ ∃ I1, M1 = mw S I1 J R ∧ WdR I1 y n p q E ∧ OffN y n I I1)) := by
      intro I3 w5 wo ws
      refine k_loop (σ := Nat → Nat → Int32) (n := 32) (Inv := fun k I4 => I4 (y + 5) n = nI (q - p) ∧ OffN y n I I4 ∧ (((∀ j, j < k → ¬ isWd I y p (q - p) j) ∧ I4 (y + 2) n = (if q - p ≤ 10 then 1 else 5)) ∨ ∃ j, j < k ∧ isWd I y p (q - p) j ∧ I4 (y + 2) n = 2 ∧ I4 (y + 3) n = nI j)) (W := fun k I4 => MW G mX14_readWord 6 61 [some (vR y), some (vI (nI n)), some (vI (nI p)), some (vI (nI q)), some (vI (nI k))] [] (mw S I4 J R) _) ?_ ?_ 0 I3 (Nat.zero_le _) ⟨w5, wo, Or.inl ⟨fun j hj => absurd hj (Nat.not_lt_zero j), ws⟩⟩
      · rintro k I4 hk ⟨z5, zo, zd⟩ ih
        have iw : ∀ j, isWd I4 y p (q - p) j ↔ isWd I y p (q - p) j := fun j => by
          unfold isWd
          rw [show I4 (y + 1) = I (y + 1) from funext fun x => zo _ _ (Or.inl (by omega))]
        have wd := k_X14_isWord (J := J) (I := I4) (a := p) (n := q - p) hG hZ ky r1 k1 l1 (show k < 34 by omega) (by omega)
        refine am_iload (q := 63) dX14_readWord_61 rfl rfl ?_
        refine am_gets (q := 66) dX14_readWord_63 (hZ.ky) fs_ky rfl ?_
        refine am_tlen (q := 67) dX14_readWord_66 (hZ.row) (rfl) rfl ?_
        refine am_icmp_ge (tgt := 111) (q := 70) dX14_readWord_67 rfl rfl (fun hz => absurd hz (nI_ge hk (by decide))) (fun _ => ?_)
        refine am_aload_n (q := 71) dX14_readWord_70 rfl rfl ?_
        refine am_iload_n (q := 72) dX14_readWord_71 rfl rfl ?_
        refine am_iload_n (q := 73) dX14_readWord_72 rfl rfl ?_
        refine am_iload_n (q := 74) dX14_readWord_73 rfl rfl ?_
        refine am_isub (q := 75) dX14_readWord_74 rfl ?_
        rw [k_nsub v1]
        refine am_gets (q := 78) dX14_readWord_75 (hZ.ky) fs_ky rfl ?_
        refine am_iload (q := 80) dX14_readWord_78 rfl rfl ?_
        refine am_tq (q := 81) dX14_readWord_80 (hZ.row) (vp_in_nI hk (by decide)) (show Value.ref (Z.k (nI k).toNatClampNeg) = Value.ref (Z.k k) by rw [nI_clamp (by omega)]) rfl ?_
        refine cm_call0 (q := 84) (As := [_, _, _]) hG dX14_readWord_81 mlX14_100 rfl (by assumption) ⟨_, _, rfl⟩ (Nat.le_of_ble_eq_true rfl) (Nat.le_of_ble_eq_true rfl) (Nat.le_of_ble_eq_true rfl) (Nat.le_of_ble_eq_true rfl) wd rfl ?_
        rintro _ _ ⟨bb, rfl, b1, rfl⟩
        by_cases c : isWd I y p (q - p) k
        · have hb : ¬ bb = 0 := b1.mpr ((iw k).mpr c)
          have n1 : MW G mX14_readWord 6 61 [some (vR y), some (vI (nI n)), some (vI (nI p)), some (vI (nI q)), some (vI (nI (k + 1)))] [] (mw S (up2 (up2 I4 (y + 2) n 2) (y + 3) n (nI k)) J R) _ := ih _ ⟨by rw [up2_a (by omega), up2_a (by omega)]; exact z5, fun x j h => by
            rw [up2_at, if_neg (by omega), up2_at, if_neg (by omega)]
            exact zo x j h, Or.inr ⟨k, Nat.lt_succ_self k, c, by rw [up2_a (by omega), up2_s], up2_s⟩⟩
          clear ih c
          refine am_if_ne (tgt := 90) (q := 87) dX14_readWord_84 rfl rfl (fun _ => ?_) (fun hz => absurd hz hb)
          refine am_aload_n (q := 91) dX14_readWord_90 rfl rfl ?_
          refine cm_getR (q := 94) dX14_readWord_91 flX14_17 rfl (by assumption) (by assumption) rfl ?_
          refine am_iload_n (q := 95) dX14_readWord_94 rfl rfl ?_
          refine am_iconst (q := 96) (v := 2) dX14_readWord_95 kc_i2 rfl ?_
          refine cm_iastore (q := 97) dX14_readWord_96 (by assumption) i2 rfl ?_
          rw [cn]
          refine am_aload_n (q := 98) dX14_readWord_97 rfl rfl ?_
          refine cm_getR (q := 101) dX14_readWord_98 flX14_20 rfl (by assumption) (by assumption) rfl ?_
          refine am_iload_n (q := 102) dX14_readWord_101 rfl rfl ?_
          refine am_iload (q := 104) dX14_readWord_102 rfl rfl ?_
          refine cm_iastore (q := 105) dX14_readWord_104 (by assumption) i3 rfl ?_
          rw [cn]
          refine am_iincW (q := 108) (ls1 := [_, _, _, _, _]) (w := 1) dX14_readWord_105 rfl (Nat.le_of_ble_eq_true rfl) kc_i1 rfl rfl ?_
          refine am_goto (tgt := 61) dX14_readWord_108 rfl ?_
          rw [nI_1]
          exact n1
        · have hb : bb = 0 := Classical.byContradiction fun z => c ((iw k).mp (b1.mp z))
          have n1 : MW G mX14_readWord 6 61 [some (vR y), some (vI (nI n)), some (vI (nI p)), some (vI (nI q)), some (vI (nI (k + 1)))] [] (mw S I4 J R) _ := ih _ ⟨z5, zo, by
            rcases zd with ⟨d1, d2⟩ | ⟨j, d1, d2⟩
            · refine Or.inl ⟨fun j hj => ?_, d2⟩
              by_cases z : j = k
              · rw [z]
                exact c
              · exact d1 j (by omega)
            · exact Or.inr ⟨j, by omega, d2⟩⟩
          clear ih c
          refine am_if_ne (tgt := 90) (q := 87) dX14_readWord_84 rfl rfl (fun hz => absurd hb hz) (fun _ => ?_)
          refine am_goto (tgt := 105) dX14_readWord_87 rfl ?_
          refine am_iincW (q := 108) (ls1 := [_, _, _, _, _]) (w := 1) dX14_readWord_105 rfl (Nat.le_of_ble_eq_true rfl) kc_i1 rfl rfl ?_
          refine am_goto (tgt := 61) dX14_readWord_108 rfl ?_
          rw [nI_1]
          exact n1
      · rintro I4 ⟨z5, zo, zd⟩
        have fin : WdR I4 y n p q E := by
          refine ⟨z5, fun h10 => ?_, fun h10 => ?_⟩
          · rcases zd with ⟨d1, d2⟩ | ⟨j, d1, d2, _⟩
            · rw [d2, if_neg (by omega)]
            · have := (kw_ld j d1).1
              have := d2.1
              omega
          · have kw := fun j hj => kw_is (I := I) (y := y) (p := p) (n := q - p) (j := j) (E := E) hj h10 ld (fun l hl => t3 _ (by omega))
            rcases kowN_s (K := kwK) (v := codN E (q - p) p 0) 32 0 with ⟨j, _, g2, g3, g4⟩ | ⟨g1, g2⟩
            · rcases zd with ⟨d1, d2⟩ | ⟨j', d1, d2, d3, d4⟩
              · exact absurd ((kw j (by omega)).mpr g3) (d1 j (by omega))
              · refine Or.inr ⟨j', d1, ?_, d3, d4⟩
                have e1 := (kw j (by omega)).mpr g3
                have e2 : strN j = strN j' := by
                  refine List.ext_getElem? (fun l => ?_)
                  by_cases hl : l < q - p
                  · have a1 := e1.2 l hl
                    have a2 := d2.2 l hl
                    rw [a1] at a2
                    rw [List.getD_eq_getElem?_getD, List.getD_eq_getElem?_getD] at a2
                    rw [List.getElem?_eq_getElem (by have := e1.1; omega), List.getElem?_eq_getElem (by have := d2.1; omega)] at a2 ⊢
                    exact congrArg some a2
                  · rw [List.getElem?_eq_none (by have := e1.1; omega), List.getElem?_eq_none (by have := d2.1; omega)]
                have e3 : j = j' := kw_one j (by omega) j' d1 e2
                rw [← e3]
                exact g4
            · rcases zd with ⟨d1, d2⟩ | ⟨j', d1, d2, _⟩
              · exact Or.inl ⟨g2, by rw [d2, if_pos h10]⟩
              · exact absurd ((kw j' d1).mp d2) (g1 j' (Nat.zero_le _) (by omega))
        refine am_iload (q := 63) dX14_readWord_61 rfl rfl ?_
        refine am_gets (q := 66) dX14_readWord_63 (hZ.ky) fs_ky rfl ?_
        refine am_tlen (q := 67) dX14_readWord_66 (hZ.row) (rfl) rfl ?_
        refine am_icmp_ge (tgt := 111) (q := 70) dX14_readWord_67 rfl rfl (fun _ => ?_) (fun hz => absurd (Int32.le_refl _) hz)
        exact am_ret dX14_readWord_111 rfl ⟨_, rfl, rfl, I4, rfl, fin, zo⟩
    by_cases h10 : q - p ≤ 10
    · refine am_bipush (q := 49) (v := 10) dX14_readWord_47 kc_b10 rfl ?_
      refine am_icmp_le (tgt := 56) (q := 52) dX14_readWord_49 rfl rfl (fun _ => ?_) (fun hz => absurd (nI_le (b := 10) h10 (by decide)) hz)
      refine am_iconst (q := 57) (v := 1) dX14_readWord_56 kc_i1 rfl ?_
      refine cm_iastore (q := 58) dX14_readWord_57 (by assumption) i2 rfl ?_
      rw [cn]
      refine am_iconst (q := 59) (v := 0) dX14_readWord_58 kc_i0 rfl ?_
      refine am_istore (q := 61) (ls1 := [_, _, _, _, _]) dX14_readWord_59 (Nat.le_of_ble_eq_true rfl) rfl rfl ?_
      exact lp _ (by rw [up2_a (by omega), up2_s]) (fun x j h => by rw [up2_at, if_neg (by omega), up2_at, if_neg (by omega)]) (by rw [up2_s, if_pos h10])
    · refine am_bipush (q := 49) (v := 10) dX14_readWord_47 kc_b10 rfl ?_
      refine am_icmp_le (tgt := 56) (q := 52) dX14_readWord_49 rfl rfl (fun hz => absurd hz (fun z => h10 ((nI_leI (b := 10) (by omega) (by decide)).mp z))) (fun _ => ?_)
      refine am_iconst (q := 53) (v := 5) dX14_readWord_52 kc_i5 rfl ?_
      refine am_goto (tgt := 57) dX14_readWord_53 rfl ?_
      refine cm_iastore (q := 58) dX14_readWord_57 (by assumption) i2 rfl ?_
      rw [cn]
      refine am_iconst (q := 59) (v := 0) dX14_readWord_58 kc_i0 rfl ?_
      refine am_istore (q := 61) (ls1 := [_, _, _, _, _]) dX14_readWord_59 (Nat.le_of_ble_eq_true rfl) rfl rfl ?_
      exact lp _ (by rw [up2_a (by omega), up2_s]) (fun x j h => by rw [up2_at, if_neg (by omega), up2_at, if_neg (by omega)]) (by rw [up2_s, if_neg h10])
end Rt0

