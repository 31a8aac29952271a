theorem kc_b27 : (Int8.ofInt 27).toInt32 = 27 := by decide +kernel
theorem kc_b32 : (Int8.ofInt 32).toInt32 = 32 := by decide +kernel
theorem kc_b48 : (Int8.ofInt 48).toInt32 = 48 := by decide +kernel
theorem kc_b57 : (Int8.ofInt 57).toInt32 = 57 := by decide +kernel
theorem kc_b97 : (Int8.ofInt 97).toInt32 = 97 := by decide +kernel
theorem kc_b122 : (Int8.ofInt 122).toInt32 = 122 := by decide +kernel
theorem dX9_addToken_0 : decode cX9_addToken 0 = .ok (.aload_n 0, 1) := by decide +kernel
theorem dX9_addToken_1 : decode cX9_addToken 1 = .ok (.getfield 31, 3) := by decide +kernel
theorem dX9_addToken_4 : decode cX9_addToken 4 = .ok (.ifCond .lt 79, 3) := by decide +kernel
theorem dX9_addToken_7 : decode cX9_addToken 7 = .ok (.aload_n 0, 1) := by decide +kernel
theorem dX9_addToken_8 : decode cX9_addToken 8 = .ok (.getfield 31, 3) := by decide +kernel
theorem dX9_addToken_11 : decode cX9_addToken 11 = .ok (.aload_n 0, 1) := by decide +kernel
theorem dX9_addToken_12 : decode cX9_addToken 12 = .ok (.getfield 11, 3) := by decide +kernel
theorem dX9_addToken_15 : decode cX9_addToken 15 = .ok (.arraylength, 1) := by decide +kernel
theorem dX9_addToken_16 : decode cX9_addToken 16 = .ok (.if_icmp .ge 67, 3) := by decide +kernel
theorem dX9_addToken_19 : decode cX9_addToken 19 = .ok (.aload_n 0, 1) := by decide +kernel
theorem dX9_addToken_20 : decode cX9_addToken 20 = .ok (.getfield 31, 3) := by decide +kernel
theorem dX9_addToken_23 : decode cX9_addToken 23 = .ok (.aload_n 0, 1) := by decide +kernel
theorem dX9_addToken_24 : decode cX9_addToken 24 = .ok (.getfield 15, 3) := by decide +kernel
theorem dX9_addToken_27 : decode cX9_addToken 27 = .ok (.arraylength, 1) := by decide +kernel
theorem dX9_addToken_28 : decode cX9_addToken 28 = .ok (.if_icmp .ge 55, 3) := by decide +kernel
theorem dX9_addToken_31 : decode cX9_addToken 31 = .ok (.aload_n 0, 1) := by decide +kernel
theorem dX9_addToken_32 : decode cX9_addToken 32 = .ok (.getfield 31, 3) := by decide +kernel
theorem dX9_addToken_35 : decode cX9_addToken 35 = .ok (.aload_n 0, 1) := by decide +kernel
theorem dX9_addToken_36 : decode cX9_addToken 36 = .ok (.getfield 18, 3) := by decide +kernel
theorem dX9_addToken_39 : decode cX9_addToken 39 = .ok (.arraylength, 1) := by decide +kernel
theorem dX9_addToken_40 : decode cX9_addToken 40 = .ok (.if_icmp .ge 43, 3) := by decide +kernel
theorem dX9_addToken_43 : decode cX9_addToken 43 = .ok (.aload_n 0, 1) := by decide +kernel
theorem dX9_addToken_44 : decode cX9_addToken 44 = .ok (.getfield 11, 3) := by decide +kernel
theorem dX9_addToken_47 : decode cX9_addToken 47 = .ok (.aload_n 0, 1) := by decide +kernel
theorem dX9_addToken_48 : decode cX9_addToken 48 = .ok (.getfield 31, 3) := by decide +kernel
theorem dX9_addToken_51 : decode cX9_addToken 51 = .ok (.iload_n 1, 1) := by decide +kernel
theorem dX9_addToken_52 : decode cX9_addToken 52 = .ok (.iastore, 1) := by decide +kernel
theorem dX9_addToken_53 : decode cX9_addToken 53 = .ok (.aload_n 0, 1) := by decide +kernel
theorem dX9_addToken_54 : decode cX9_addToken 54 = .ok (.getfield 15, 3) := by decide +kernel
theorem dX9_addToken_57 : decode cX9_addToken 57 = .ok (.aload_n 0, 1) := by decide +kernel
theorem dX9_addToken_58 : decode cX9_addToken 58 = .ok (.getfield 31, 3) := by decide +kernel
theorem dX9_addToken_61 : decode cX9_addToken 61 = .ok (.iload_n 2, 1) := by decide +kernel
theorem dX9_addToken_62 : decode cX9_addToken 62 = .ok (.iastore, 1) := by decide +kernel
theorem dX9_addToken_63 : decode cX9_addToken 63 = .ok (.aload_n 0, 1) := by decide +kernel
theorem dX9_addToken_64 : decode cX9_addToken 64 = .ok (.getfield 18, 3) := by decide +kernel
theorem dX9_addToken_67 : decode cX9_addToken 67 = .ok (.aload_n 0, 1) := by decide +kernel
theorem dX9_addToken_68 : decode cX9_addToken 68 = .ok (.getfield 31, 3) := by decide +kernel
theorem dX9_addToken_71 : decode cX9_addToken 71 = .ok (.lload_n 3, 1) := by decide +kernel
theorem dX9_addToken_72 : decode cX9_addToken 72 = .ok (.lastore, 1) := by decide +kernel
theorem dX9_addToken_73 : decode cX9_addToken 73 = .ok (.aload_n 0, 1) := by decide +kernel
theorem dX9_addToken_74 : decode cX9_addToken 74 = .ok (.dup, 1) := by decide +kernel
theorem dX9_addToken_75 : decode cX9_addToken 75 = .ok (.getfield 31, 3) := by decide +kernel
theorem dX9_addToken_78 : decode cX9_addToken 78 = .ok (.iconst 1, 1) := by decide +kernel
theorem dX9_addToken_79 : decode cX9_addToken 79 = .ok (.iadd, 1) := by decide +kernel
theorem dX9_addToken_80 : decode cX9_addToken 80 = .ok (.putfield 31, 3) := by decide +kernel
theorem dX9_addToken_83 : decode cX9_addToken 83 = .ok (.return_, 1) := by decide +kernel
theorem dX9_behindBlanks_0 : decode cX9_behindBlanks 0 = .ok (.iload_n 1, 1) := by decide +kernel
theorem dX9_behindBlanks_1 : decode cX9_behindBlanks 1 = .ok (.istore_n 2, 1) := by decide +kernel
theorem dX9_behindBlanks_2 : decode cX9_behindBlanks 2 = .ok (.iload_n 2, 1) := by decide +kernel
theorem dX9_behindBlanks_3 : decode cX9_behindBlanks 3 = .ok (.aload_n 0, 1) := by decide +kernel
theorem dX9_behindBlanks_4 : decode cX9_behindBlanks 4 = .ok (.getfield 42, 3) := by decide +kernel
theorem dX9_behindBlanks_7 : decode cX9_behindBlanks 7 = .ok (.if_icmp .ge 20, 3) := by decide +kernel
theorem dX9_behindBlanks_10 : decode cX9_behindBlanks 10 = .ok (.aload_n 0, 1) := by decide +kernel
theorem dX9_behindBlanks_11 : decode cX9_behindBlanks 11 = .ok (.iload_n 2, 1) := by decide +kernel
theorem dX9_behindBlanks_12 : decode cX9_behindBlanks 12 = .ok (.invokevirtual 51, 3) := by decide +kernel
theorem dX9_behindBlanks_15 : decode cX9_behindBlanks 15 = .ok (.invokestatic 55, 3) := by decide +kernel
theorem dX9_behindBlanks_18 : decode cX9_behindBlanks 18 = .ok (.ifCond .eq 9, 3) := by decide +kernel
theorem dX9_behindBlanks_21 : decode cX9_behindBlanks 21 = .ok (.iinc 2 1, 3) := by decide +kernel
theorem dX9_behindBlanks_24 : decode cX9_behindBlanks 24 = .ok (.goto (-22), 3) := by decide +kernel
theorem dX9_behindBlanks_27 : decode cX9_behindBlanks 27 = .ok (.iload_n 2, 1) := by decide +kernel
theorem dX9_behindBlanks_28 : decode cX9_behindBlanks 28 = .ok (.ireturn, 1) := by decide +kernel
theorem dX9_isBlank_0 : decode cX9_isBlank 0 = .ok (.iload_n 0, 1) := by decide +kernel
theorem dX9_isBlank_1 : decode cX9_isBlank 1 = .ok (.bipush 32, 2) := by decide +kernel
theorem dX9_isBlank_3 : decode cX9_isBlank 3 = .ok (.if_icmp .eq 9, 3) := by decide +kernel
theorem dX9_isBlank_6 : decode cX9_isBlank 6 = .ok (.iload_n 0, 1) := by decide +kernel
theorem dX9_isBlank_7 : decode cX9_isBlank 7 = .ok (.bipush 10, 2) := by decide +kernel
theorem dX9_isBlank_9 : decode cX9_isBlank 9 = .ok (.if_icmp .ne 7, 3) := by decide +kernel
theorem dX9_isBlank_12 : decode cX9_isBlank 12 = .ok (.iconst 1, 1) := by decide +kernel
theorem dX9_isBlank_13 : decode cX9_isBlank 13 = .ok (.goto 4, 3) := by decide +kernel
theorem dX9_isBlank_16 : decode cX9_isBlank 16 = .ok (.iconst 0, 1) := by decide +kernel
theorem dX9_isBlank_17 : decode cX9_isBlank 17 = .ok (.ireturn, 1) := by decide +kernel
theorem dX9_isDigit_0 : decode cX9_isDigit 0 = .ok (.iload_n 0, 1) := by decide +kernel
theorem dX9_isDigit_1 : decode cX9_isDigit 1 = .ok (.bipush 48, 2) := by decide +kernel
theorem dX9_isDigit_3 : decode cX9_isDigit 3 = .ok (.if_icmp .lt 13, 3) := by decide +kernel
theorem dX9_isDigit_6 : decode cX9_isDigit 6 = .ok (.iload_n 0, 1) := by decide +kernel
theorem dX9_isDigit_7 : decode cX9_isDigit 7 = .ok (.bipush 57, 2) := by decide +kernel
theorem dX9_isDigit_9 : decode cX9_isDigit 9 = .ok (.if_icmp .gt 7, 3) := by decide +kernel
theorem dX9_isDigit_12 : decode cX9_isDigit 12 = .ok (.iconst 1, 1) := by decide +kernel
theorem dX9_isDigit_13 : decode cX9_isDigit 13 = .ok (.goto 4, 3) := by decide +kernel
theorem dX9_isDigit_16 : decode cX9_isDigit 16 = .ok (.iconst 0, 1) := by decide +kernel
theorem dX9_isDigit_17 : decode cX9_isDigit 17 = .ok (.ireturn, 1) := by decide +kernel
theorem dX9_isLetter_0 : decode cX9_isLetter 0 = .ok (.iload_n 0, 1) := by decide +kernel
theorem dX9_isLetter_1 : decode cX9_isLetter 1 = .ok (.bipush 97, 2) := by decide +kernel
theorem dX9_isLetter_3 : decode cX9_isLetter 3 = .ok (.if_icmp .lt 13, 3) := by decide +kernel
theorem dX9_isLetter_6 : decode cX9_isLetter 6 = .ok (.iload_n 0, 1) := by decide +kernel
theorem dX9_isLetter_7 : decode cX9_isLetter 7 = .ok (.bipush 122, 2) := by decide +kernel
theorem dX9_isLetter_9 : decode cX9_isLetter 9 = .ok (.if_icmp .gt 7, 3) := by decide +kernel
theorem dX9_isLetter_12 : decode cX9_isLetter 12 = .ok (.iconst 1, 1) := by decide +kernel
theorem dX9_isLetter_13 : decode cX9_isLetter 13 = .ok (.goto 4, 3) := by decide +kernel
theorem dX9_isLetter_16 : decode cX9_isLetter 16 = .ok (.iconst 0, 1) := by decide +kernel
theorem dX9_isLetter_17 : decode cX9_isLetter 17 = .ok (.ireturn, 1) := by decide +kernel
theorem dX9_isLetterOrDigit_0 : decode cX9_isLetterOrDigit 0 = .ok (.iload_n 0, 1) := by decide +kernel
theorem dX9_isLetterOrDigit_1 : decode cX9_isLetterOrDigit 1 = .ok (.invokestatic 59, 3) := by decide +kernel
theorem dX9_isLetterOrDigit_4 : decode cX9_isLetterOrDigit 4 = .ok (.ifCond .ne 10, 3) := by decide +kernel
theorem dX9_isLetterOrDigit_7 : decode cX9_isLetterOrDigit 7 = .ok (.iload_n 0, 1) := by decide +kernel
theorem dX9_isLetterOrDigit_8 : decode cX9_isLetterOrDigit 8 = .ok (.invokestatic 65, 3) := by decide +kernel
theorem dX9_isLetterOrDigit_11 : decode cX9_isLetterOrDigit 11 = .ok (.ifCond .eq 7, 3) := by decide +kernel
theorem dX9_isLetterOrDigit_14 : decode cX9_isLetterOrDigit 14 = .ok (.iconst 1, 1) := by decide +kernel
theorem dX9_isLetterOrDigit_15 : decode cX9_isLetterOrDigit 15 = .ok (.goto 4, 3) := by decide +kernel
theorem dX9_isLetterOrDigit_18 : decode cX9_isLetterOrDigit 18 = .ok (.iconst 0, 1) := by decide +kernel
theorem dX9_isLetterOrDigit_19 : decode cX9_isLetterOrDigit 19 = .ok (.ireturn, 1) := by decide +kernel
theorem dX9_kindOfWord_0 : decode cX9_kindOfWord 0 = .ok (.iconst 0, 1) := by decide +kernel
theorem dX9_kindOfWord_1 : decode cX9_kindOfWord 1 = .ok (.istore_n 3, 1) := by decide +kernel
theorem dX9_kindOfWord_2 : decode cX9_kindOfWord 2 = .ok (.iload_n 3, 1) := by decide +kernel
theorem dX9_kindOfWord_3 : decode cX9_kindOfWord 3 = .ok (.aload_n 0, 1) := by decide +kernel
theorem dX9_kindOfWord_4 : decode cX9_kindOfWord 4 = .ok (.getfield 28, 3) := by decide +kernel
theorem dX9_kindOfWord_7 : decode cX9_kindOfWord 7 = .ok (.arraylength, 1) := by decide +kernel
theorem dX9_kindOfWord_8 : decode cX9_kindOfWord 8 = .ok (.if_icmp .ge 26, 3) := by decide +kernel
theorem dX9_kindOfWord_11 : decode cX9_kindOfWord 11 = .ok (.aload_n 0, 1) := by decide +kernel
theorem dX9_kindOfWord_12 : decode cX9_kindOfWord 12 = .ok (.getfield 28, 3) := by decide +kernel
theorem dX9_kindOfWord_15 : decode cX9_kindOfWord 15 = .ok (.iload_n 3, 1) := by decide +kernel
theorem dX9_kindOfWord_16 : decode cX9_kindOfWord 16 = .ok (.laload, 1) := by decide +kernel
theorem dX9_kindOfWord_17 : decode cX9_kindOfWord 17 = .ok (.lload_n 1, 1) := by decide +kernel
theorem dX9_kindOfWord_18 : decode cX9_kindOfWord 18 = .ok (.lcmp, 1) := by decide +kernel
theorem dX9_kindOfWord_19 : decode cX9_kindOfWord 19 = .ok (.ifCond .ne 9, 3) := by decide +kernel
theorem dX9_kindOfWord_22 : decode cX9_kindOfWord 22 = .ok (.sipush 300, 3) := by decide +kernel
theorem dX9_kindOfWord_25 : decode cX9_kindOfWord 25 = .ok (.iload_n 3, 1) := by decide +kernel
theorem dX9_kindOfWord_26 : decode cX9_kindOfWord 26 = .ok (.iadd, 1) := by decide +kernel
theorem dX9_kindOfWord_27 : decode cX9_kindOfWord 27 = .ok (.ireturn, 1) := by decide +kernel
theorem dX9_kindOfWord_28 : decode cX9_kindOfWord 28 = .ok (.iinc 3 1, 3) := by decide +kernel
theorem dX9_kindOfWord_31 : decode cX9_kindOfWord 31 = .ok (.goto (-29), 3) := by decide +kernel
theorem dX9_kindOfWord_34 : decode cX9_kindOfWord 34 = .ok (.sipush 258, 3) := by decide +kernel
theorem dX9_kindOfWord_37 : decode cX9_kindOfWord 37 = .ok (.ireturn, 1) := by decide +kernel
theorem dX9_withSign_0 : decode cX9_withSign 0 = .ok (.lload_n 0, 1) := by decide +kernel
theorem dX9_withSign_1 : decode cX9_withSign 1 = .ok (.ldc2_w 100, 3) := by decide +kernel
theorem dX9_withSign_4 : decode cX9_withSign 4 = .ok (.lmul, 1) := by decide +kernel
theorem dX9_withSign_5 : decode cX9_withSign 5 = .ok (.iload_n 2, 1) := by decide +kernel
theorem dX9_withSign_6 : decode cX9_withSign 6 = .ok (.invokestatic 59, 3) := by decide +kernel
theorem dX9_withSign_9 : decode cX9_withSign 9 = .ok (.ifCond .eq 12, 3) := by decide +kernel
theorem dX9_withSign_12 : decode cX9_withSign 12 = .ok (.iload_n 2, 1) := by decide +kernel
theorem dX9_withSign_13 : decode cX9_withSign 13 = .ok (.bipush 97, 2) := by decide +kernel
theorem dX9_withSign_15 : decode cX9_withSign 15 = .ok (.isub, 1) := by decide +kernel
theorem dX9_withSign_16 : decode cX9_withSign 16 = .ok (.iconst 1, 1) := by decide +kernel
theorem dX9_withSign_17 : decode cX9_withSign 17 = .ok (.iadd, 1) := by decide +kernel
theorem dX9_withSign_18 : decode cX9_withSign 18 = .ok (.goto 10, 3) := by decide +kernel
theorem dX9_withSign_21 : decode cX9_withSign 21 = .ok (.iload_n 2, 1) := by decide +kernel
theorem dX9_withSign_22 : decode cX9_withSign 22 = .ok (.bipush 48, 2) := by decide +kernel
theorem dX9_withSign_24 : decode cX9_withSign 24 = .ok (.isub, 1) := by decide +kernel
theorem dX9_withSign_25 : decode cX9_withSign 25 = .ok (.bipush 27, 2) := by decide +kernel
theorem dX9_withSign_27 : decode cX9_withSign 27 = .ok (.iadd, 1) := by decide +kernel
theorem dX9_withSign_28 : decode cX9_withSign 28 = .ok (.i2l, 1) := by decide +kernel
theorem dX9_withSign_29 : decode cX9_withSign 29 = .ok (.ladd, 1) := by decide +kernel
theorem dX9_withSign_30 : decode cX9_withSign 30 = .ok (.lreturn, 1) := by decide +kernel
/-! how the tape is cut into tokens -/
theorem k_nsub {p q : Nat} (h : q ≤ p) : nI p - nI q = nI (p - q) := by
  have e : nI (p - q) + nI q = nI p := by rw [nI_add, Nat.sub_add_cancel h]
  rw [← e, Int32.add_sub_cancel]
theorem isBlB_i {c : Int32} : isBlB c = true ↔ (c = 32 ∨ c = 10) := decide_eq_true_iff
theorem isLeB_i {c : Int32} : isLeB c = true ↔ (97 ≤ c ∧ c ≤ 122) := decide_eq_true_iff
theorem isDiB_i {c : Int32} : isDiB c = true ↔ (48 ≤ c ∧ c ≤ 57) := decide_eq_true_iff
theorem isLDB_i {c : Int32} : isLDB c = true ↔ (isLeB c = true ∨ isDiB c = true) := Bool.or_eq_true_iff
theorem Tp.at_lt {E : Tp} {p : Nat} (h : p < E.1) : E.at p = E.2 p := if_pos h
theorem Tp.at_256 {E : Tp} {p : Nat} (h : ¬ p < E.1) : E.at p = 256 := if_neg h
theorem Tp.lt_of {E : Tp} {p : Nat} (h : E.at p ≠ 256) : p < E.1 := Classical.byContradiction fun q => h (Tp.at_256 q)
theorem isLe_lt {E : Tp} {p : Nat} (h : isLeB (E.at p) = true) : p < E.1 := Tp.lt_of fun e => by rw [e] at h; exact absurd h (by decide)
theorem isDi_lt {E : Tp} {p : Nat} (h : isDiB (E.at p) = true) : p < E.1 := Tp.lt_of fun e => by rw [e] at h; exact absurd h (by decide)
theorem isSy_lt {E : Tp} {p : Nat} (h : E.at p ∈ syms) : p < E.1 := Tp.lt_of fun e => by rw [e] at h; exact absurd h (by decide)
theorem spnE_gt {P : Int32 → Bool} {E : Tp} {p : Nat} (h : p < E.1) (h2 : P (E.2 p) = true) : p < spnE P E p ∧ spnE P E p ≤ E.1 := by
  rw [spnE_t h h2]
  exact spnE_le (P := P) (E := E) (p := p + 1) h
/-- where nothing was read, nothing is told; else it goes on -/
theorem tok_p {E : Tp} {K : Nat → Int64} {p : Nat} (hp : p ≤ E.1) : ((tokR E K p).2 = p ∧ (tokR E K p).1 = []) ∨ (p < (tokR E K p).2 ∧ (tokR E K p).2 ≤ E.1 ∧ ∃ x, (tokR E K p).1 = [x]) := by
  unfold tokR
  by_cases h1 : isLeB (E.at p) = true
  · rw [if_pos h1]
    have hl := isLe_lt h1
    rw [Tp.at_lt hl] at h1
    obtain ⟨g1, g2⟩ := spnE_gt (P := isLDB) hl (isLDB_i.mpr (Or.inl h1))
    unfold tokW
    split
    · exact Or.inl ⟨rfl, rfl⟩
    · exact Or.inr ⟨g1, g2, _, rfl⟩
  · rw [if_neg h1]
    by_cases h2 : isDiB (E.at p) = true
    · rw [if_pos h2]
      have hl := isDi_lt h2
      rw [Tp.at_lt hl] at h2
      obtain ⟨g1, g2⟩ := spnE_gt (P := isDiB) hl h2
      unfold tokN
      split
      · exact Or.inl ⟨rfl, rfl⟩
      · exact Or.inr ⟨g1, g2, _, rfl⟩
    · rw [if_neg h2]
      unfold tokS
      by_cases h3 : E.at p ∈ syms
      · rw [if_pos h3]
        have hl := isSy_lt h3
        by_cases h4 : (E.at p = 60 ∨ E.at p = 62) ∧ E.at (p + 1) = 61
        · rw [if_pos h4]
          have hl2 : p + 1 < E.1 := Tp.lt_of fun e => by rw [e] at h4; exact absurd h4.2 (by decide)
          exact Or.inr ⟨show p < p + 2 by omega, hl2, _, rfl⟩
        · rw [if_neg h4]
          exact Or.inr ⟨Nat.lt_succ_self _, hl, _, rfl⟩
      · rw [if_neg h3]
        exact Or.inl ⟨rfl, rfl⟩
def OffT (t : Nat) (I I1 : Nat → Nat → Int32) : Prop := ∀ y j, (y < t ∨ t + 3 ≤ y) → I1 y j = I y j
def OffTJ (t : Nat) (J J1 : Nat → Nat → Int64) : Prop := ∀ y j, y ≠ t + 3 → J1 y j = J y j
theorem OffT.rf {t : Nat} {I : Nat → Nat → Int32} : OffT t I I := fun _ _ _ => rfl
theorem OffTJ.rf {t : Nat} {J : Nat → Nat → Int64} : OffTJ t J J := fun _ _ _ => rfl
theorem OffT.tr {t : Nat} {I I1 I2 : Nat → Nat → Int32} (h1 : OffT t I I1) (h2 : OffT t I1 I2) : OffT t I I2 := fun y j q => (h2 y j q).trans (h1 y j q)
theorem OffTJ.tr {t : Nat} {I I1 I2 : Nat → Nat → Int64} (h1 : OffTJ t I I1) (h2 : OffTJ t I1 I2) : OffTJ t I I2 := fun y j q => (h2 y j q).trans (h1 y j q)
theorem AbTp.offT {t a : Nat} {I I1 : Nat → Nat → Int32} {E : Tp} (h : AbTp I a E) (ho : OffT t I I1) (ha : a + 1 < t ∨ t + 3 ≤ a) : AbTp I1 a E := h.off (ho _ _ (by omega)) (fun i _ => ho _ _ (by omega))
section Tk
variable {G : Gp} {S : AMem} {I : Nat → Nat → Int32} {J : Nat → Nat → Int64} {R : Nat → Nat → Option Nat} {a t : Nat} {E : Tp} {K : Nat → Int64} {L : TL}
theorem k_X9_isBlank {c : Int32} : Fn G mX9_isBlank 0 [vI c] (mw S I J R) (fun rr M1 => rr = some (vI (bI (isBlB c = true))) ∧ M1 = mw S I J R) := by
  refine am_iload_n (q := 1) dX9_isBlank_0 rfl rfl ?_
  refine am_bipush (q := 3) (v := 32) dX9_isBlank_1 kc_b32 rfl ?_
  refine am_icmp_eq (tgt := 12) (q := 6) dX9_isBlank_3 rfl rfl (fun h1 => ?_) (fun h1 => ?_)
  · refine am_iconst (q := 13) (v := 1) dX9_isBlank_12 kc_i1 rfl ?_
    refine am_goto (tgt := 17) dX9_isBlank_13 rfl ?_
    exact am_iret dX9_isBlank_17 rfl rfl ⟨_, rfl, by rw [bI_t (isBlB_i.mpr (Or.inl h1))], rfl⟩
  · refine am_iload_n (q := 7) dX9_isBlank_6 rfl rfl ?_
    refine am_bipush (q := 9) (v := 10) dX9_isBlank_7 kc_b10 rfl ?_
    refine am_icmp_ne (tgt := 16) (q := 12) dX9_isBlank_9 rfl rfl (fun h2 => ?_) (fun h2 => ?_)
    · refine am_iconst (q := 17) (v := 0) dX9_isBlank_16 kc_i0 rfl ?_
      exact am_iret dX9_isBlank_17 rfl rfl ⟨_, rfl, by rw [bI_f (fun q => (isBlB_i.mp q).elim h1 h2)], rfl⟩
    · refine am_iconst (q := 13) (v := 1) dX9_isBlank_12 kc_i1 rfl ?_
      refine am_goto (tgt := 17) dX9_isBlank_13 rfl ?_
      exact am_iret dX9_isBlank_17 rfl rfl ⟨_, rfl, by rw [bI_t (isBlB_i.mpr (Or.inr h2))], rfl⟩
theorem k_X9_isLetter {c : Int32} : Fn G mX9_isLetter 0 [vI c] (mw S I J R) (fun rr M1 => rr = some (vI (bI (isLeB c = true))) ∧ M1 = mw S I J R) := by
  refine am_iload_n (q := 1) dX9_isLetter_0 rfl rfl ?_
  refine am_bipush (q := 3) (v := 97) dX9_isLetter_1 kc_b97 rfl ?_
  refine am_icmp_lt (tgt := 16) (q := 6) dX9_isLetter_3 rfl rfl (fun h1 => ?_) (fun h1 => ?_)
  · refine am_iconst (q := 17) (v := 0) dX9_isLetter_16 kc_i0 rfl ?_
    exact am_iret dX9_isLetter_17 rfl rfl ⟨_, rfl, by rw [bI_f (fun q => Int32.not_le.mpr h1 (isLeB_i.mp q).1)], rfl⟩
  · refine am_iload_n (q := 7) dX9_isLetter_6 rfl rfl ?_
    refine am_bipush (q := 9) (v := 122) dX9_isLetter_7 kc_b122 rfl ?_
    refine am_icmp_gt (tgt := 16) (q := 12) dX9_isLetter_9 rfl rfl (fun h2 => ?_) (fun h2 => ?_)
    · refine am_iconst (q := 17) (v := 0) dX9_isLetter_16 kc_i0 rfl ?_
      exact am_iret dX9_isLetter_17 rfl rfl ⟨_, rfl, by rw [bI_f (fun q => Int32.not_le.mpr h2 (isLeB_i.mp q).2)], rfl⟩
    · refine am_iconst (q := 13) (v := 1) dX9_isLetter_12 kc_i1 rfl ?_
      refine am_goto (tgt := 17) dX9_isLetter_13 rfl ?_
      exact am_iret dX9_isLetter_17 rfl rfl ⟨_, rfl, by rw [bI_t (isLeB_i.mpr ⟨Int32.not_lt.mp h1, Int32.not_lt.mp h2⟩)], rfl⟩
theorem k_X9_isDigit {c : Int32} : Fn G mX9_isDigit 0 [vI c] (mw S I J R) (fun rr M1 => rr = some (vI (bI (isDiB c = true))) ∧ M1 = mw S I J R) := by
  refine am_iload_n (q := 1) dX9_isDigit_0 rfl rfl ?_
  refine am_bipush (q := 3) (v := 48) dX9_isDigit_1 kc_b48 rfl ?_
  refine am_icmp_lt (tgt := 16) (q := 6) dX9_isDigit_3 rfl rfl (fun h1 => ?_) (fun h1 => ?_)
  · refine am_iconst (q := 17) (v := 0) dX9_isDigit_16 kc_i0 rfl ?_
    exact am_iret dX9_isDigit_17 rfl rfl ⟨_, rfl, by rw [bI_f (fun q => Int32.not_le.mpr h1 (isDiB_i.mp q).1)], rfl⟩
  · refine am_iload_n (q := 7) dX9_isDigit_6 rfl rfl ?_
    refine am_bipush (q := 9) (v := 57) dX9_isDigit_7 kc_b57 rfl ?_
    refine am_icmp_gt (tgt := 16) (q := 12) dX9_isDigit_9 rfl rfl (fun h2 => ?_) (fun h2 => ?_)
    · refine am_iconst (q := 17) (v := 0) dX9_isDigit_16 kc_i0 rfl ?_
      exact am_iret dX9_isDigit_17 rfl rfl ⟨_, rfl, by rw [bI_f (fun q => Int32.not_le.mpr h2 (isDiB_i.mp q).2)], rfl⟩
    · refine am_iconst (q := 13) (v := 1) dX9_isDigit_12 kc_i1 rfl ?_
      refine am_goto (tgt := 17) dX9_isDigit_13 rfl ?_
      exact am_iret dX9_isDigit_17 rfl rfl ⟨_, rfl, by rw [bI_t (isDiB_i.mpr ⟨Int32.not_lt.mp h1, Int32.not_lt.mp h2⟩)], rfl⟩
theorem k_X9_isLetterOrDigit {c : Int32} (hG : okG G) : Fn G mX9_isLetterOrDigit 1 [vI c] (mw S I J R) (fun rr M1 => rr = some (vI (bI (isLDB c = true))) ∧ M1 = mw S I J R) := by
  refine am_iload_n (q := 1) dX9_isLetterOrDigit_0 rfl rfl ?_
  refine am_call1 (q := 4) (As := [_]) hG dX9_isLetterOrDigit_1 mlX9_59 rfl (Nat.le_of_ble_eq_true rfl) (Nat.le_of_ble_eq_true rfl) (Nat.le_of_ble_eq_true rfl) k_X9_isLetter rfl ?_
  rintro _ _ ⟨rfl, rfl⟩
  refine am_if_ne (tgt := 14) (q := 7) dX9_isLetterOrDigit_4 rfl rfl (fun h1 => ?_) (fun h1 => ?_)
  · refine am_iconst (q := 15) (v := 1) dX9_isLetterOrDigit_14 kc_i1 rfl ?_
    refine am_goto (tgt := 19) dX9_isLetterOrDigit_15 rfl ?_
    exact am_iret dX9_isLetterOrDigit_19 rfl rfl ⟨_, rfl, by rw [bI_t (isLDB_i.mpr (Or.inl (bI_n0.mp h1)))], rfl⟩
  · refine am_iload_n (q := 8) dX9_isLetterOrDigit_7 rfl rfl ?_
    refine am_call1 (q := 11) (As := [_]) hG dX9_isLetterOrDigit_8 mlX9_65 rfl (Nat.le_of_ble_eq_true rfl) (Nat.le_of_ble_eq_true rfl) (Nat.le_of_ble_eq_true rfl) k_X9_isDigit rfl ?_
    rintro _ _ ⟨rfl, rfl⟩
    refine am_if_eq (tgt := 18) (q := 14) dX9_isLetterOrDigit_11 rfl rfl (fun h2 => ?_) (fun h2 => ?_)
    · refine am_iconst (q := 19) (v := 0) dX9_isLetterOrDigit_18 kc_i0 rfl ?_
      exact am_iret dX9_isLetterOrDigit_19 rfl rfl ⟨_, rfl, by rw [bI_f (fun q => (isLDB_i.mp q).elim (bI_e0.mp h1) (bI_e0.mp h2))], rfl⟩
    · refine am_iconst (q := 15) (v := 1) dX9_isLetterOrDigit_14 kc_i1 rfl ?_
      refine am_goto (tgt := 19) dX9_isLetterOrDigit_15 rfl ?_
      exact am_iret dX9_isLetterOrDigit_19 rfl rfl ⟨_, rfl, by rw [bI_t (isLDB_i.mpr (Or.inr (bI_n0.mp h2)))], rfl⟩
theorem k_X9_withSign {v : Int64} {c : Int32} (hG : okG G) : Fn G mX9_withSign 1 [vJ v, vI c] (mw S I J R) (fun rr M1 => rr = some (vJ (sgC v c)) ∧ M1 = mw S I J R) := by
  unfold sgC
  refine am_lload_n (q := 1) dX9_withSign_0 rfl rfl ?_
  refine am_ldcJ (q := 4) (v := 37) dX9_withSign_1 (tbc1 63 rfl rfl) rfl ?_
  refine am_lmul (q := 5) dX9_withSign_4 rfl ?_
  refine am_iload_n (q := 6) dX9_withSign_5 rfl rfl ?_
  refine am_call1 (q := 9) (As := [_]) hG dX9_withSign_6 mlX9_59 rfl (Nat.le_of_ble_eq_true rfl) (Nat.le_of_ble_eq_true rfl) (Nat.le_of_ble_eq_true rfl) k_X9_isLetter rfl ?_
  rintro _ _ ⟨rfl, rfl⟩
  refine am_if_eq (tgt := 21) (q := 12) dX9_withSign_9 rfl rfl (fun h1 => ?_) (fun h1 => ?_)
  · rw [if_neg (fun q => bI_e0.mp h1 (isLeB_i.mpr q))]
    refine am_iload_n (q := 22) dX9_withSign_21 rfl rfl ?_
    refine am_bipush (q := 24) (v := 48) dX9_withSign_22 kc_b48 rfl ?_
    refine am_isub (q := 25) dX9_withSign_24 rfl ?_
    refine am_bipush (q := 27) (v := 27) dX9_withSign_25 kc_b27 rfl ?_
    refine am_iadd (q := 28) dX9_withSign_27 rfl ?_
    refine am_i2l (q := 29) dX9_withSign_28 rfl ?_
    refine am_ladd (q := 30) dX9_withSign_29 rfl ?_
    exact am_lret dX9_withSign_30 rfl ⟨_, rfl, rfl, rfl⟩
  · rw [if_pos (isLeB_i.mp (bI_n0.mp h1))]
    refine am_iload_n (q := 13) dX9_withSign_12 rfl rfl ?_
    refine am_bipush (q := 15) (v := 97) dX9_withSign_13 kc_b97 rfl ?_
    refine am_isub (q := 16) dX9_withSign_15 rfl ?_
    refine am_iconst (q := 17) (v := 1) dX9_withSign_16 kc_i1 rfl ?_
    refine am_iadd (q := 18) dX9_withSign_17 rfl ?_
    refine am_goto (tgt := 28) dX9_withSign_18 rfl ?_
    refine am_i2l (q := 29) dX9_withSign_28 rfl ?_
    refine am_ladd (q := 30) dX9_withSign_29 rfl ?_
    exact am_lret dX9_withSign_30 rfl ⟨_, rfl, rfl, rfl⟩
theorem k_X9_behindBlanks {p0 : Nat} (hG : okG G) (h : TPc S R a) (hE : AbTp I a E) (hp : p0 ≤ E.1) : Fn G mX9_behindBlanks 1 [vR a, vI (nI p0)] (mw S I J R) (fun rr M1 => rr = some (vI (nI (spnE isBlB E p0))) ∧ M1 = mw S I J R) := by
  have ka := h.1
  have e1 := hE.1
  have e2 := hE.2.1
  refine am_iload_n (q := 1) dX9_behindBlanks_0 rfl rfl ?_
  refine am_istore_n (q := 2) (ls1 := [_, _, _]) dX9_behindBlanks_1 (Nat.le_of_ble_eq_true rfl) rfl rfl ?_
  refine k_spn (P := isBlB) (E := E) (σ := Unit) (Inv := fun p _ => spnE isBlB E p = spnE isBlB E p0) (W := fun p _ => MW G mX9_behindBlanks 1 2 [some (vR a), some (vI (nI p0)), some (vI (nI p))] [] (mw S I J R) _) ?_ ?_ p0 () hp rfl
  · intro p _ h1 h2 hi ih
    refine am_iload_n (q := 3) dX9_behindBlanks_2 rfl rfl ?_
    refine am_aload_n (q := 4) dX9_behindBlanks_3 rfl rfl ?_
    refine cm_getI (q := 7) dX9_behindBlanks_4 flX9_42 rfl (by assumption) rfl ?_
    rw [e1]
    refine am_icmp_ge (tgt := 27) (q := 10) dX9_behindBlanks_7 rfl rfl (fun hz => absurd hz (nI_ge h1 (by omega))) (fun _ => ?_)
    refine am_aload_n (q := 11) dX9_behindBlanks_10 rfl rfl ?_
    refine am_iload_n (q := 12) dX9_behindBlanks_11 rfl rfl ?_
    refine cm_call0 (q := 15) (As := [_]) hG dX9_behindBlanks_12 mlX9_51 rfl (by assumption) ⟨_, _, rfl⟩ (Nat.le_of_ble_eq_true rfl) (Nat.le_of_ble_eq_true rfl) (Nat.le_of_ble_eq_true rfl) (Nat.le_of_ble_eq_true rfl) (k_X8_at h hE (by omega)) rfl ?_
    rintro _ _ ⟨rfl, rfl⟩
    rw [Tp.at_lt h1]
    refine am_call1 (q := 18) (As := [_]) hG dX9_behindBlanks_15 mlX9_55 rfl (Nat.le_of_ble_eq_true rfl) (Nat.le_of_ble_eq_true rfl) (Nat.le_of_ble_eq_true rfl) k_X9_isBlank rfl ?_
    rintro _ _ ⟨rfl, rfl⟩
    refine am_if_eq (tgt := 27) (q := 21) dX9_behindBlanks_18 rfl rfl (fun hz => absurd hz (bI_n0.mpr h2)) (fun _ => ?_)
    refine am_iincW (q := 24) (ls1 := [_, _, _]) (w := 1) dX9_behindBlanks_21 rfl (Nat.le_of_ble_eq_true rfl) kc_i1 rfl rfl ?_
    refine am_goto (tgt := 2) dX9_behindBlanks_24 rfl ?_
    rw [nI_1]
    exact ih () (by rw [← hi, spnE_t h1 h2])
  · intro p _ h1 h2 hi
    rw [← hi, spnE_f h2]
    refine am_iload_n (q := 3) dX9_behindBlanks_2 rfl rfl ?_
    refine am_aload_n (q := 4) dX9_behindBlanks_3 rfl rfl ?_
    refine cm_getI (q := 7) dX9_behindBlanks_4 flX9_42 rfl (by assumption) rfl ?_
    rw [e1]
    refine am_icmp_ge (tgt := 27) (q := 10) dX9_behindBlanks_7 rfl rfl (fun hc => ?_) (fun hc => ?_)
    · refine am_iload_n (q := 28) dX9_behindBlanks_27 rfl rfl ?_
      exact am_iret dX9_behindBlanks_28 rfl rfl ⟨_, rfl, rfl, rfl⟩
    · have h3 : p < E.1 := (nI_ltI (by omega) (by omega)).mp (Int32.not_le.mp hc)
      refine am_aload_n (q := 11) dX9_behindBlanks_10 rfl rfl ?_
      refine am_iload_n (q := 12) dX9_behindBlanks_11 rfl rfl ?_
      refine cm_call0 (q := 15) (As := [_]) hG dX9_behindBlanks_12 mlX9_51 rfl (by assumption) ⟨_, _, rfl⟩ (Nat.le_of_ble_eq_true rfl) (Nat.le_of_ble_eq_true rfl) (Nat.le_of_ble_eq_true rfl) (Nat.le_of_ble_eq_true rfl) (k_X8_at h hE (by omega)) rfl ?_
      rintro _ _ ⟨rfl, rfl⟩
      rw [Tp.at_lt h3]
      refine am_call1 (q := 18) (As := [_]) hG dX9_behindBlanks_15 mlX9_55 rfl (Nat.le_of_ble_eq_true rfl) (Nat.le_of_ble_eq_true rfl) (Nat.le_of_ble_eq_true rfl) k_X9_isBlank rfl ?_
      rintro _ _ ⟨rfl, rfl⟩
      refine am_if_eq (tgt := 27) (q := 21) dX9_behindBlanks_18 rfl rfl (fun _ => ?_) (fun hz => absurd (bI_e0.mpr fun q => h2 ⟨h3, q⟩) hz)
      refine am_iload_n (q := 28) dX9_behindBlanks_27 rfl rfl ?_
      exact am_iret dX9_behindBlanks_28 rfl rfl ⟨_, rfl, rfl, rfl⟩
theorem k_X9_addToken {k : Int32} {p : Nat} {v : Int64} (ht : TC S R t) (hL : AbT I J t L.toks) (hl : L.length < 401) : Fn G mX9_addToken 0 [vR t, vI k, vI (nI p), vJ v] (mw S I J R) (fun rr M1 => rr = none ∧ ∃ I1 J1, M1 = mw S I1 J1 R ∧ AbT I1 J1 t (TL.toks (L ++ [(k, p, v)])) ∧ OffT t I I1 ∧ OffTJ t J J1) := by
  obtain ⟨t0, t1, t2, t3, t4, t5, t6, t7, t8, t9, t10, t11, t12⟩ := ht
  obtain ⟨a1, a2, a3, a4, a5⟩ := hL
  have a1' : I t 4 = nI L.length := a1
  refine am_aload_n (q := 1) dX9_addToken_0 rfl rfl ?_
  refine cm_getI (q := 4) dX9_addToken_1 flX9_31 rfl (by assumption) rfl ?_
  rw [a1']
  refine am_if_lt (tgt := 83) (q := 7) dX9_addToken_4 rfl rfl (fun hz => absurd hz (nI_pos (by omega))) (fun _ => ?_)
  refine am_aload_n (q := 8) dX9_addToken_7 rfl rfl ?_
  refine cm_getI (q := 11) dX9_addToken_8 flX9_31 rfl (by assumption) rfl ?_
  rw [a1']
  refine am_aload_n (q := 12) dX9_addToken_11 rfl rfl ?_
  refine cm_getR (q := 15) dX9_addToken_12 flX9_11 rfl (by assumption) (by assumption) rfl ?_
  refine cm_alenI (q := 16) dX9_addToken_15 (by assumption) (by rw [t6] : nI (S.ln (t + 1)) = nI 401) rfl ?_
  refine am_icmp_ge (tgt := 83) (q := 19) dX9_addToken_16 rfl rfl (fun hz => absurd hz (nI_ge (by omega) (by decide))) (fun _ => ?_)
  refine am_aload_n (q := 20) dX9_addToken_19 rfl rfl ?_
  refine cm_getI (q := 23) dX9_addToken_20 flX9_31 rfl (by assumption) rfl ?_
  rw [a1']
  refine am_aload_n (q := 24) dX9_addToken_23 rfl rfl ?_
  refine cm_getR (q := 27) dX9_addToken_24 flX9_15 rfl (by assumption) (by assumption) rfl ?_
  refine cm_alenI (q := 28) dX9_addToken_27 (by assumption) (by rw [t8] : nI (S.ln (t + 2)) = nI 401) rfl ?_
  refine am_icmp_ge (tgt := 83) (q := 31) dX9_addToken_28 rfl rfl (fun hz => absurd hz (nI_ge (by omega) (by decide))) (fun _ => ?_)
  refine am_aload_n (q := 32) dX9_addToken_31 rfl rfl ?_
  refine cm_getI (q := 35) dX9_addToken_32 flX9_31 rfl (by assumption) rfl ?_
  rw [a1']
  refine am_aload_n (q := 36) dX9_addToken_35 rfl rfl ?_
  refine cm_getR (q := 39) dX9_addToken_36 flX9_18 rfl (by assumption) (by assumption) rfl ?_
  refine cm_alenJ (q := 40) dX9_addToken_39 (by assumption) (by rw [t10] : nI (S.ln (t + 3)) = nI 401) rfl ?_
  refine am_icmp_ge (tgt := 83) (q := 43) dX9_addToken_40 rfl rfl (fun hz => absurd hz (nI_ge (by omega) (by decide))) (fun _ => ?_)
  refine am_aload_n (q := 44) dX9_addToken_43 rfl rfl ?_
  refine cm_getR (q := 47) dX9_addToken_44 flX9_11 rfl (by assumption) (by assumption) rfl ?_
  refine am_aload_n (q := 48) dX9_addToken_47 rfl rfl ?_
  refine cm_getI (q := 51) dX9_addToken_48 flX9_31 rfl (by assumption) rfl ?_
  rw [a1']
  refine am_iload_n (q := 52) dX9_addToken_51 rfl rfl ?_
  refine cm_iastore (q := 53) dX9_addToken_52 (by assumption) (by rw [t6]; exact vp_in_nI (by omega) (by decide)) rfl ?_
  refine am_aload_n (q := 54) dX9_addToken_53 rfl rfl ?_
  refine cm_getR (q := 57) dX9_addToken_54 flX9_15 rfl (by assumption) (by assumption) rfl ?_
  refine am_aload_n (q := 58) dX9_addToken_57 rfl rfl ?_
  refine cm_getI (q := 61) dX9_addToken_58 flX9_31 rfl (by assumption) rfl ?_
  rw [up2_a (by omega), a1', nI_clamp (by omega)]
  refine am_iload_n (q := 62) dX9_addToken_61 rfl rfl ?_
  refine cm_iastore (q := 63) dX9_addToken_62 (by assumption) (by rw [t8]; exact vp_in_nI (by omega) (by decide)) rfl ?_
  refine am_aload_n (q := 64) dX9_addToken_63 rfl rfl ?_
  refine cm_getR (q := 67) dX9_addToken_64 flX9_18 rfl (by assumption) (by assumption) rfl ?_
  refine am_aload_n (q := 68) dX9_addToken_67 rfl rfl ?_
  refine cm_getI (q := 71) dX9_addToken_68 flX9_31 rfl (by assumption) rfl ?_
  rw [up2_a (by omega), up2_a (by omega), a1', nI_clamp (by omega)]
  refine am_lload_n (q := 72) dX9_addToken_71 rfl rfl ?_
  refine cm_lastore (q := 73) dX9_addToken_72 (by assumption) (by rw [t10]; exact vp_in_nI (by omega) (by decide)) rfl ?_
  refine am_aload_n (q := 74) dX9_addToken_73 rfl rfl ?_
  refine am_dup (q := 75) dX9_addToken_74 rfl rfl ?_
  refine cm_getI (q := 78) dX9_addToken_75 flX9_31 rfl (by assumption) rfl ?_
  rw [up2_a (by omega), up2_a (by omega), a1', nI_clamp (by omega)]
  have key : ∀ x j, up2 (up2 (up2 I (t + 1) L.length k) (t + 2) L.length (nI p)) t 4 (nI L.length + 1) x j = if x = t ∧ j = 4 then nI (L.length + 1) else if x = t + 2 ∧ j = L.length then nI p else if x = t + 1 ∧ j = L.length then k else I x j := fun x j => by rw [up2_at, up2_at, up2_at, nI_1]
  refine am_iconst (q := 79) (v := 1) dX9_addToken_78 kc_i1 rfl ?_
  refine am_iadd (q := 80) dX9_addToken_79 rfl ?_
  refine cm_putI (q := 83) dX9_addToken_80 flX9_31 rfl (Or.inl rfl) (Or.inl rfl) (by assumption) rfl ?_
  generalize up2 (up2 (up2 I (t + 1) L.length k) (t + 2) L.length (nI p)) t 4 (nI L.length + 1) = I3 at key ⊢
  have ge : ∀ i, i < L.length → (L ++ [(k, p, v)]).getD i (0, 0, 0) = L.getD i (0, 0, 0) := fun i hi => by simp [List.getD, List.getElem?_append_left hi]
  have gn : (L ++ [(k, p, v)]).getD L.length (0, 0, 0) = (k, p, v) := by simp [List.getD]
  have hlen : (L ++ [(k, p, v)]).length = L.length + 1 := by simp
  exact am_ret dX9_addToken_83 rfl ⟨_, rfl, rfl, I3, _, rfl, ⟨by
      show I3 t 4 = nI (L ++ [(k, p, v)]).length
      rw [key, if_pos ⟨rfl, rfl⟩, hlen], by
      show (L ++ [(k, p, v)]).length ≤ 401
      omega, fun i hi => by
      have hi2 : i < (L ++ [(k, p, v)]).length := hi
      show I3 (t + 1) i = ((L ++ [(k, p, v)]).getD i (0, 0, 0)).1
      rw [key, if_neg (by omega), if_neg (by omega)]
      by_cases e : i = L.length
      · rw [if_pos ⟨rfl, e⟩, e, gn]
      · rw [if_neg (fun z => e z.2), ge i (by omega)]
        exact a3 i (show i < L.length by omega), fun i hi => by
      have hi2 : i < (L ++ [(k, p, v)]).length := hi
      show I3 (t + 2) i = nI ((L ++ [(k, p, v)]).getD i (0, 0, 0)).2.1
      rw [key, if_neg (by omega)]
      by_cases e : i = L.length
      · rw [if_pos ⟨rfl, e⟩, e, gn]
      · rw [if_neg (fun z => e z.2), if_neg (by omega), ge i (by omega)]
        exact a4 i (show i < L.length by omega), fun i hi => by
      have hi2 : i < (L ++ [(k, p, v)]).length := hi
      show up2 J (t + 3) L.length v (t + 3) i = ((L ++ [(k, p, v)]).getD i (0, 0, 0)).2.2
      rw [up2_at]
      by_cases e : i = L.length
      · rw [if_pos ⟨rfl, e⟩, e, gn]
      · rw [if_neg (fun z => e z.2), ge i (by omega)]
        exact a5 i (show i < L.length by omega)⟩, fun y j q => by rw [key, if_neg (by omega), if_neg (by omega), if_neg (by omega)], fun y j q => up2_a q⟩
theorem k_X9_kindOfWord {v : Int64} (ht : TC S R t) (hK : ∀ i, i < 32 → J (t + 4) i = K i) : Fn G mX9_kindOfWord 0 [vR t, vJ v] (mw S I J R) (fun rr M1 => rr = some (vI (kowN K v 0 32)) ∧ M1 = mw S I J R) := by
  obtain ⟨t0, t1, t2, t3, t4, t5, t6, t7, t8, t9, t10, t11, t12⟩ := ht
  refine am_iconst (q := 1) (v := 0) dX9_kindOfWord_0 kc_i0 rfl ?_
  refine am_istore_n (q := 2) (ls1 := [_, _, _, _]) dX9_kindOfWord_1 (Nat.le_of_ble_eq_true rfl) rfl rfl ?_
  refine k_loop (σ := Unit) (n := 32) (Inv := fun i _ => kowN K v i (32 - i) = kowN K v 0 32) (W := fun i _ => MW G mX9_kindOfWord 0 2 [some (vR t), some (vJ v), none, some (vI (nI i))] [] (mw S I J R) _) ?_ ?_ 0 () (Nat.zero_le _) rfl
  · intro i _ hi hinv ih
    rw [show 32 - i = (32 - (i + 1)) + 1 by omega, kowN] at hinv
    refine am_iload_n (q := 3) dX9_kindOfWord_2 rfl rfl ?_
    refine am_aload_n (q := 4) dX9_kindOfWord_3 rfl rfl ?_
    refine cm_getR (q := 7) dX9_kindOfWord_4 flX9_28 rfl (by assumption) (by assumption) rfl ?_
    refine cm_alenJ (q := 8) dX9_kindOfWord_7 (by assumption) (by rw [t12] : nI (S.ln (t + 4)) = nI 32) rfl ?_
    refine am_icmp_ge (tgt := 34) (q := 11) dX9_kindOfWord_8 rfl rfl (fun hz => absurd hz (nI_ge (by omega) (by decide))) (fun _ => ?_)
    refine am_aload_n (q := 12) dX9_kindOfWord_11 rfl rfl ?_
    refine cm_getR (q := 15) dX9_kindOfWord_12 flX9_28 rfl (by assumption) (by assumption) rfl ?_
    refine am_iload_n (q := 16) dX9_kindOfWord_15 rfl rfl ?_
    refine cm_laload (q := 17) dX9_kindOfWord_16 (by assumption) (by rw [t12]; exact vp_in_nI (by omega) (by decide)) rfl ?_
    rw [nI_clamp (by omega), hK i hi]
    refine am_lload_n (q := 18) dX9_kindOfWord_17 rfl rfl ?_
    refine am_lcmp (q := 19) dX9_kindOfWord_18 rfl ?_
    refine am_if_ne (tgt := 28) (q := 22) dX9_kindOfWord_19 rfl rfl (fun hc => ?_) (fun hc => ?_)
    · rw [lg_cmp_eq] at hc
      rw [if_neg hc] at hinv
      refine am_iincW (q := 31) (ls1 := [_, _, _, _]) (w := 1) dX9_kindOfWord_28 rfl (Nat.le_of_ble_eq_true rfl) kc_i1 rfl rfl ?_
      refine am_goto (tgt := 2) dX9_kindOfWord_31 rfl ?_
      rw [nI_1]
      exact ih () hinv
    · rw [lg_cmp_eq] at hc
      rw [if_pos hc] at hinv
      rw [← hinv]
      refine am_sipush (q := 25) (v := 300) dX9_kindOfWord_22 kc_s300 rfl ?_
      refine am_iload_n (q := 26) dX9_kindOfWord_25 rfl rfl ?_
      refine am_iadd (q := 27) dX9_kindOfWord_26 rfl ?_
      exact am_iret dX9_kindOfWord_27 rfl rfl ⟨_, rfl, rfl, rfl⟩
  · intro _ hinv
    rw [Nat.sub_self, kowN] at hinv
    rw [← hinv]
    refine am_iload_n (q := 3) dX9_kindOfWord_2 rfl rfl ?_
    refine am_aload_n (q := 4) dX9_kindOfWord_3 rfl rfl ?_
    refine cm_getR (q := 7) dX9_kindOfWord_4 flX9_28 rfl (by assumption) (by assumption) rfl ?_
    refine cm_alenJ (q := 8) dX9_kindOfWord_7 (by assumption) (by rw [t12] : nI (S.ln (t + 4)) = nI 32) rfl ?_
    refine am_icmp_ge (tgt := 34) (q := 11) dX9_kindOfWord_8 rfl rfl (fun _ => ?_) (fun hz => absurd (Int32.le_refl _) hz)
    refine am_sipush (q := 37) (v := 258) dX9_kindOfWord_34 kc_s258 rfl ?_
    exact am_iret dX9_kindOfWord_37 rfl rfl ⟨_, rfl, rfl, rfl⟩
end Tk

