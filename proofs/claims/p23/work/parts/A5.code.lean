/-! words and their codes -/
theorem ld_of {c : Int32} (h : isLDB c = true) : ∃ b, c = nI b ∧ ((97 ≤ b ∧ b ≤ 122) ∨ (48 ≤ b ∧ b ≤ 57)) := by
  rcases isLDB_i.mp h with q | q
  · obtain ⟨q1, q2⟩ := isLeB_i.mp q
    obtain ⟨b, hb, rfl⟩ := nI_of (Int32.not_lt.mpr (Int32.le_trans (show (0 : Int32) ≤ 97 by decide) q1))
    exact ⟨b, rfl, Or.inl ⟨(nI_leI (a := 97) (by decide) hb).mp q1, (nI_leI (b := 122) hb (by decide)).mp q2⟩⟩
  · obtain ⟨q1, q2⟩ := isDiB_i.mp q
    obtain ⟨b, hb, rfl⟩ := nI_of (Int32.not_lt.mpr (Int32.le_trans (show (0 : Int32) ≤ 48 by decide) q1))
    exact ⟨b, rfl, Or.inr ⟨(nI_leI (a := 48) (by decide) hb).mp q1, (nI_leI (b := 57) hb (by decide)).mp q2⟩⟩
/-- a sign's number in a code -/
def dgN (c : Int32) : Nat := if 97 ≤ c ∧ c ≤ 122 then c.toNatClampNeg - 96 else c.toNatClampNeg - 21
theorem dgN_l {b : Nat} (h : 97 ≤ b ∧ b ≤ 122) : (97 ≤ nI b ∧ nI b ≤ 122) ∧ dgN (nI b) = b - 96 := by
  have q : 97 ≤ nI b ∧ nI b ≤ 122 := ⟨nI_le (a := 97) h.1 (by omega), nI_le (b := 122) h.2 (by decide)⟩
  refine ⟨q, ?_⟩
  unfold dgN
  rw [if_pos q, nI_clamp (by omega)]
theorem dgN_d {b : Nat} (h : 48 ≤ b ∧ b ≤ 57) : ¬ (97 ≤ nI b ∧ nI b ≤ 122) ∧ dgN (nI b) = b - 21 := by
  have q : ¬ (97 ≤ nI b ∧ nI b ≤ 122) := fun z => by
    have := (nI_leI (a := 97) (by decide) (by omega)).mp z.1
    omega
  refine ⟨q, ?_⟩
  unfold dgN
  rw [if_neg q, nI_clamp (by omega)]
theorem dgN_b {c : Int32} (h : isLDB c = true) : 1 ≤ dgN c ∧ dgN c ≤ 36 := by
  obtain ⟨b, rfl, q | q⟩ := ld_of h
  · rw [(dgN_l q).2]
    omega
  · rw [(dgN_d q).2]
    omega
theorem dgN_i {c c' : Int32} (h : isLDB c = true) (h' : isLDB c' = true) (e : dgN c = dgN c') : c = c' := by
  obtain ⟨b, rfl, q | q⟩ := ld_of h
  · obtain ⟨b', rfl, q' | q'⟩ := ld_of h'
    · rw [(dgN_l q).2, (dgN_l q').2] at e
      rw [show b = b' by omega]
    · rw [(dgN_l q).2, (dgN_d q').2] at e
      omega
  · obtain ⟨b', rfl, q' | q'⟩ := ld_of h'
    · rw [(dgN_d q).2, (dgN_l q').2] at e
      omega
    · rw [(dgN_d q).2, (dgN_d q').2] at e
      rw [show b = b' by omega]
theorem to64 {n : Nat} (h : n < 2 ^ 31) : (nI n).toInt64 = Int64.ofNat n := Int32.toInt64_ofNat' (by show (n : Int) ≤ 2147483647; omega)
theorem sgC_n {c : Int32} (h : isLDB c = true) (a : Nat) : sgC (Int64.ofNat a) c = Int64.ofNat (a * 37 + dgN c) := by
  have key : ∀ d, d < 100 → Int64.ofNat a * 37 + (nI d).toInt64 = Int64.ofNat (a * 37 + d) := fun d hd => by
    rw [to64 (by omega), Int64.ofNat_add, Int64.ofNat_mul]
    rfl
  unfold sgC
  obtain ⟨b, rfl, q | q⟩ := ld_of h
  · obtain ⟨g1, g2⟩ := dgN_l q
    rw [if_pos g1, g2, show nI b - 97 = nI (b - 97) from k_nsub q.1, nI_1, show b - 97 + 1 = b - 96 by omega]
    exact key _ (by omega)
  · obtain ⟨g1, g2⟩ := dgN_d q
    rw [if_neg g1, g2, show nI b - 48 = nI (b - 48) from k_nsub q.1, show nI (b - 48) + 27 = nI (b - 48 + 27) from nI_add (b - 48) 27, show b - 48 + 27 = b - 21 by omega]
    exact key _ (by omega)
def natW (f : Nat → Int32) : Nat → Nat
  | 0 => 0
  | n + 1 => natW f n * 37 + dgN (f n)
theorem codN_n {E : Tp} {p : Nat} : ∀ n, (∀ l, l < n → isLDB (E.2 (p + l)) = true) → codN E n p 0 = Int64.ofNat (natW (fun l => E.2 (p + l)) n) := by
  intro n
  induction n with
  | zero => intro _; rfl
  | succ n ih =>
    intro h
    rw [codN_s, ih (fun l hl => h l (by omega)), sgC_n (h n (Nat.lt_succ_self n))]
    rfl
theorem natW_lt {f : Nat → Int32} : ∀ n, (∀ l, l < n → isLDB (f l) = true) → natW f n < 37 ^ n := by
  intro n
  induction n with
  | zero => intro _; exact Nat.one_pos
  | succ n ih =>
    intro h
    have h1 := ih (fun l hl => h l (by omega))
    have h2 := (dgN_b (h n (Nat.lt_succ_self n))).2
    rw [natW, Nat.pow_succ]
    omega
theorem natW_inj : ∀ (n m : Nat) (f g : Nat → Int32), (∀ l, l < n → isLDB (f l) = true) → (∀ l, l < m → isLDB (g l) = true) → natW f n = natW g m → n = m ∧ ∀ l, l < n → f l = g l := by
  intro n
  induction n with
  | zero =>
    intro m f g _ hg e
    cases m with
    | zero => exact ⟨rfl, fun l hl => absurd hl (Nat.not_lt_zero l)⟩
    | succ m =>
      have := (dgN_b (hg m (Nat.lt_succ_self m))).1
      rw [natW, natW] at e
      omega
  | succ n ih =>
    intro m f g hf hg e
    have b1 := dgN_b (hf n (Nat.lt_succ_self n))
    cases m with
    | zero =>
      rw [natW, natW] at e
      omega
    | succ m =>
      have b2 := dgN_b (hg m (Nat.lt_succ_self m))
      rw [natW, natW] at e
      have e1 : dgN (f n) = dgN (g m) := by omega
      have e2 : natW f n = natW g m := by omega
      obtain ⟨i1, i2⟩ := ih m f g (fun l hl => hf l (by omega)) (fun l hl => hg l (by omega)) e2
      subst i1
      refine ⟨rfl, fun l hl => ?_⟩
      by_cases c : l = n
      · rw [c]
        exact dgN_i (hf n (Nat.lt_succ_self n)) (hg n (Nat.lt_succ_self n)) e1
      · exact i2 l (by omega)
theorem of64_inj {a b : Nat} (ha : a < 2 ^ 63) (hb : b < 2 ^ 63) (e : Int64.ofNat a = Int64.ofNat b) : a = b := by
  have h1 := Int64.toInt_ofNat_of_lt ha
  have h2 := Int64.toInt_ofNat_of_lt hb
  rw [e, h2] at h1
  omega
theorem pow37 {n : Nat} (h : n ≤ 10) : 37 ^ n < 2 ^ 63 := Nat.lt_of_le_of_lt (Nat.pow_le_pow_right (by decide) h) (by decide)
/-- words of at most ten signs: one code, one word -/
theorem cod_inj {E E' : Tp} {p p' n n' : Nat} (hn : n ≤ 10) (hn' : n' ≤ 10) (h : ∀ l, l < n → isLDB (E.2 (p + l)) = true) (h' : ∀ l, l < n' → isLDB (E'.2 (p' + l)) = true) : codN E n p 0 = codN E' n' p' 0 ↔ (n = n' ∧ ∀ l, l < n → E.2 (p + l) = E'.2 (p' + l)) := by
  rw [codN_n n h, codN_n n' h']
  constructor
  · intro e
    exact natW_inj n n' _ _ h h' (of64_inj (Nat.lt_trans (natW_lt n h) (pow37 hn)) (Nat.lt_trans (natW_lt n' h') (pow37 hn')) e)
  · rintro ⟨rfl, e⟩
    congr 1
    clear hn hn' h'
    induction n with
    | zero => rfl
    | succ n ih =>
      rw [natW, natW, ih (fun l hl => h l (by omega)) (fun l hl => e l (by omega)), e n (Nat.lt_succ_self n)]
/-- the keywords' codes -/
def kwT (j : Nat) : Tp := ((wdN j).length, fun i => (wdN j).getD i 0)
def kwK (j : Nat) : Int64 := codN (kwT j) (wdN j).length 0 0
theorem kw_ld : ∀ j, j < 32 → (wdN j).length ≤ 10 ∧ ∀ l, l < (wdN j).length → isLDB ((wdN j).getD l 0) = true := by decide +kernel
theorem kowN_s {K : Nat → Int64} {v : Int64} : ∀ n k, (∃ j, k ≤ j ∧ j < k + n ∧ K j = v ∧ kowN K v k n = nI (300 + j)) ∨ ((∀ j, k ≤ j → j < k + n → K j ≠ v) ∧ kowN K v k n = 258) := by
  intro n
  induction n with
  | zero => intro k; exact Or.inr ⟨fun j h1 h2 => by omega, rfl⟩
  | succ n ih =>
    intro k
    rw [kowN]
    by_cases c : K k = v
    · rw [if_pos c]
      exact Or.inl ⟨k, Nat.le_refl _, by omega, c, (nI_add 300 k)⟩
    · rw [if_neg c]
      rcases ih (k + 1) with ⟨j, h1, h2, h3, h4⟩ | ⟨h1, h2⟩
      · exact Or.inl ⟨j, by omega, by omega, h3, h4⟩
      · refine Or.inr ⟨fun j q1 q2 => ?_, h2⟩
        by_cases z : j = k
        · rw [z]
          exact c
        · exact h1 j (by omega) (by omega)
/-- a number's digits -/
def numW (f : Nat → Int32) : Nat → Nat
  | 0 => 0
  | n + 1 => numW f n * 10 + ((f n).toNatClampNeg - 48)
theorem di_of {c : Int32} (h : isDiB c = true) : ∃ b, c = nI b ∧ 48 ≤ b ∧ b ≤ 57 := by
  obtain ⟨q1, q2⟩ := isDiB_i.mp h
  obtain ⟨b, hb, rfl⟩ := nI_of (Int32.not_lt.mpr (Int32.le_trans (show (0 : Int32) ≤ 48 by decide) q1))
  exact ⟨b, rfl, (nI_leI (a := 48) (by decide) hb).mp q1, (nI_leI (b := 57) hb (by decide)).mp q2⟩
theorem numW_lt {f : Nat → Int32} : ∀ n, (∀ l, l < n → isDiB (f l) = true) → numW f n < 10 ^ n := by
  intro n
  induction n with
  | zero => intro _; exact Nat.one_pos
  | succ n ih =>
    intro h
    have h1 := ih (fun l hl => h l (by omega))
    obtain ⟨b, hb, h2, h3⟩ := di_of (h n (Nat.lt_succ_self n))
    rw [numW, hb, nI_clamp (by omega), Nat.pow_succ]
    omega
theorem nuN_n {E : Tp} {p : Nat} : ∀ n, (∀ l, l < n → isDiB (E.2 (p + l)) = true) → nuN E n p 0 = Int64.ofNat (numW (fun l => E.2 (p + l)) n) := by
  intro n
  induction n with
  | zero => intro _; rfl
  | succ n ih =>
    intro h
    obtain ⟨b, hb, h2, h3⟩ := di_of (h n (Nat.lt_succ_self n))
    rw [nuN_s, ih (fun l hl => h l (by omega)), numW, hb, nI_clamp (by omega), show nI b - 48 = nI (b - 48) from k_nsub h2, to64 (by omega), Int64.ofNat_add, Int64.ofNat_mul]
    rfl

