/-! what is known where no error was told -/
section Er
variable {T : Toks} {s : PS}
theorem pRef_1 : (pRef T s).2.1 = 1 := by
  unfold pRef
  split
  · assumption
  · rfl
theorem pEx_0 {k : Int32} (h : (pEx T k s).2.1 = 0) : s.2.1 = 0 ∧ pK T s = k ∧ pEx T k s = (s.1 + 1, s.2.1, s.2.2) := by
  unfold pEx at h ⊢
  by_cases e : pK T s = k
  · rw [if_pos e] at h
    exact ⟨h, e, if_pos e⟩
  · rw [if_neg e, pRef_1] at h
    exact absurd h (by decide)
theorem pBl_0 {n : Int32} (hn : n ≠ 0) : ¬ (pBl T n s).2.1 = 0 := by
  unfold pBl
  by_cases e : s.2.1 = 0
  · rw [if_pos e]
    exact hn
  · rw [if_neg e]
    exact e
theorem pIf_0 {n : Int32} {P : Prop} [Decidable P] (hn : n ≠ 0) (h : (if P then pBl T n s else s).2.1 = 0) : ¬ P ∧ (if P then pBl T n s else s) = s ∧ s.2.1 = 0 := by
  by_cases e : P
  · rw [if_pos e] at h
    exact absurd h (pBl_0 hn)
  · rw [if_neg e] at h
    exact ⟨e, if_neg e, h⟩
theorem pKn_0 {i : Int32} (h : (pKn T i s).2.1 = 0) : s.2.1 = 0 ∧ pK T s = 258 ∧ ¬ i < 0 ∧ pKn T i s = (s.1 + 1, s.2.1, s.2.2) := by
  unfold pKn at h ⊢
  obtain ⟨h1, h2, h3⟩ := pEx_0 h
  obtain ⟨h4, h5, h6⟩ := pIf_0 (by decide) h1
  rw [h5] at h2 h3 ⊢
  exact ⟨h6, h2, fun q => h4 ⟨h2, q⟩, h3⟩
theorem pNew_0 {p q : Int32} (h : (pNew T p q s).2.1 = 0) : s.2.1 = 0 ∧ pK T s = 258 ∧ p = 0 ∧ q = 0 ∧ pNew T p q s = (s.1 + 1, s.2.1, s.2.2) := by
  unfold pNew at h ⊢
  obtain ⟨h1, h2, h3⟩ := pEx_0 h
  unfold pN1 at h1 h2 h3 ⊢
  obtain ⟨h4, h5, h6⟩ := pIf_0 (by decide) h1
  rw [h5] at h2 h3 ⊢
  obtain ⟨h7, h8, h9⟩ := pIf_0 (by decide) h6
  rw [h8] at h2 h3 h4 ⊢
  exact ⟨h9, h2, Classical.byContradiction fun z => h7 ⟨h2, z⟩, Classical.byContradiction fun z => h4 ⟨h2, z⟩, h3⟩
theorem pNum_0 {kw lo hi : Int32} (h : (pNum T kw lo hi s).2.1 = 0) : s.2.1 = 0 ∧ pK T s = kw ∧ pEx T kw s = (s.1 + 1, s.2.1, s.2.2) ∧ pK T (pEx T kw s) = 259 ∧ lo.toInt64 ≤ pV T (pEx T kw s) ∧ pV T (pEx T kw s) ≤ hi.toInt64 ∧ pNum T kw lo hi s = (s.1 + 2, s.2.1, s.2.2) := by
  unfold pNum at h ⊢
  obtain ⟨h1, h2, h3⟩ := pEx_0 h
  obtain ⟨h4, h5, h6⟩ := pIf_0 (by decide) h1
  rw [h5] at h2 h3 ⊢
  obtain ⟨h7, h8, h9⟩ := pEx_0 h6
  refine ⟨h7, h8, h9, h2, Int64.not_lt.mp fun z => h4 ⟨h2, Or.inl z⟩, Int64.not_lt.mp fun z => h4 ⟨h2, Or.inr z⟩, ?_⟩
  rw [h3, h9]
theorem pTo_0 {f : Int32} (h : (pTo T f s).2.1 = 0) : s.2.1 = 0 ∧ pK T s = 307 ∧ pEx T 307 s = (s.1 + 1, s.2.1, s.2.2) ∧ pK T (pEx T 307 s) = 259 ∧ f.toInt64 ≤ pV T (pEx T 307 s) ∧ pV T (pEx T 307 s) ≤ 99 ∧ pTo T f s = (s.1 + 2, s.2.1, s.2.2) := by
  unfold pTo at h ⊢
  obtain ⟨h1, h2, h3⟩ := pEx_0 h
  unfold pT2 at h1 h2 h3 ⊢
  obtain ⟨h4, h5, h6⟩ := pIf_0 (by decide) h1
  rw [h5] at h2 h3 ⊢
  unfold pT1 at h2 h3 h4 h6 ⊢
  obtain ⟨g4, g5, g6⟩ := pIf_0 (by decide) h6
  rw [g5] at h2 h3 h4 ⊢
  obtain ⟨h7, h8, h9⟩ := pEx_0 g6
  refine ⟨h7, h8, h9, h2, Int64.not_lt.mp fun z => h4 ⟨h2, z⟩, Int64.not_lt.mp fun z => g4 ⟨h2, z⟩, ?_⟩
  rw [h3, h9]
theorem pIx_0 {f : Nat → Int64} {v : Int64} {n : Nat} {i : Int32} (hi : i = fndJ f v 0 n) (h : ¬ i < 0) : ∃ j, j < n ∧ i = nI j ∧ f j = v := by
  subst hi
  rcases fndJ_ix (f := f) (v := v) n 0 with q | ⟨j, q1, q2, q3, q4⟩
  · exact absurd q h
  · exact ⟨j, by omega, q3, q4⟩
/-- a number between two ints stays as it is -/
theorem k_rng {v : Int64} {lo hi : Int32} (h1 : lo.toInt64 ≤ v) (h2 : v ≤ hi.toInt64) : lo ≤ v.toInt32 ∧ v.toInt32 ≤ hi ∧ v.toInt32.toInt64 = v := by
  rw [Int64.le_iff_toInt_le, Int32.toInt_toInt64] at h1 h2
  have a1 := lo.le_toInt
  have a2 := hi.toInt_lt
  have e : v.toInt32.toInt = v.toInt := by
    rw [Int64.toInt_toInt32, Int.bmod_eq_of_le (by omega) (by omega)]
  refine ⟨Int32.le_iff_toInt_le.mpr (by omega), Int32.le_iff_toInt_le.mpr (by omega), Int64.toInt_inj.mp ?_⟩
  rw [Int32.toInt_toInt64, e]
end Er

