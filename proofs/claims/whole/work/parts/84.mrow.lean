/-! the reference's bill while it is read: one row more -/
theorem NdN.up {O A E : Nat → Int32} {nR nF nP mR mF mP : Nat} (h1 : nR ≤ mR) (h2 : nF ≤ mF) (h3 : nP ≤ mP) : ∀ f n s, NdN O A E nR nF nP f n s → NdN O A E mR mF mP f n s := by
  intro f
  induction f with
  | zero => intro n s h; exact False.elim h
  | succ f ih =>
    intro n s h
    rcases h with h | h | ⟨j, q1, q2, q3⟩ | ⟨a, u, g1, ha, han, hu, g2⟩ | ⟨a, b, u, v, ha, hb, han, hbn, g1, hu, hv, g2⟩
    · exact Or.inl h
    · exact Or.inr (Or.inl h)
    · refine Or.inr (Or.inr (Or.inl ⟨j, q1, ?_, q3⟩))
      rcases q2 with ⟨z, z2⟩ | ⟨z, z2⟩ | ⟨z, z2⟩
      · exact Or.inl ⟨by omega, z2⟩
      · exact Or.inr (Or.inl ⟨by omega, z2⟩)
      · exact Or.inr (Or.inr ⟨by omega, z2⟩)
    · exact Or.inr (Or.inr (Or.inr (Or.inl ⟨a, u, g1, ha, han, ih a u hu, g2⟩)))
    · exact Or.inr (Or.inr (Or.inr (Or.inr ⟨a, b, u, v, ha, hb, han, hbn, g1, ih a u hu, ih b v hv, g2⟩)))
theorem NdB.up {O A E : Nat → Int32} {nR nF nP mR mF mP : Nat} (h1 : nR ≤ mR) (h2 : nF ≤ mF) (h3 : nP ≤ mP) : ∀ f n s, NdB O A E nR nF nP f n s → NdB O A E mR mF mP f n s := by
  intro f
  induction f with
  | zero => intro n s h; exact False.elim h
  | succ f ih =>
    intro n s h
    rcases h with h | ⟨a, u, g1, ha, han, hu, g2⟩ | ⟨a, b, u, v, ha, hb, han, hbn, g1, hu, hv, g2⟩ | ⟨a, b, u, v, ha, hb, han, hbn, g1, hu, hv, g2⟩
    · exact Or.inl h
    · exact Or.inr (Or.inl ⟨a, u, g1, ha, han, ih a u hu, g2⟩)
    · exact Or.inr (Or.inr (Or.inl ⟨a, b, u, v, ha, hb, han, hbn, g1, ih a u hu, ih b v hv, g2⟩))
    · exact Or.inr (Or.inr (Or.inr ⟨a, b, u, v, ha, hb, han, hbn, g1, NdN.up h1 h2 h3 f a u hu, NdN.up h1 h2 h3 f b v hv, g2⟩))
/-- what more the bill tells, for the beginning -/
def RBf (I : Nat → Nat → Int32) (nx : Nat) (B : BS) (m : MS) (u : Nat) : Prop :=
  (I nx 1 = nI u ∧ u ≤ 12 ∧ ∀ k, k < u → ∃ r, r < B.nR ∧ I (nx + 2) (4 * k) = nI r) ∧ (∀ i, i < B.nR → I (nx + 1) (3 * i + 2) = m.rail i 2 ∧ m.rail i 3 = 0 ∧ m.rail i 4 = 0) ∧ (∀ i, i < B.nF → I (nx + 3) (3 * i + 2) = m.fist i 2 ∧ ∀ j, 3 ≤ j → j < 9 → m.fist i j = 0) ∧ (∀ i, i < B.nP → I (nx + 4) (3 * i + 1) = m.prize i 0 ∧ 0 ≤ m.prize i 0 ∧ m.prize i 1 = 0) ∧ ((∀ j, m.g j = 0) ∧ m.nb = 0) ∧ ∀ k, k < B.nT → m.row k = k
def RBx (I : Nat → Nat → Int32) (nx : Nat) (B : BS) (m : MS) (u : Nat) : Prop := RB I nx B m ∧ RBf I nx B m u
theorem rusE_0 {F : Nat → Int32} {n : Nat} {p : Int32} (hn : n < 100) : ∀ u, (∀ k, k < u → ∃ r, r < n ∧ F (4 * k) = nI r) → rusE F (nI n) p u = 0 := by
  intro u
  induction u with
  | zero => intro _; rfl
  | succ u ih =>
    intro h
    rw [rusE, ih (fun k hk => h k (by omega)), if_neg]
    · rfl
    · rintro ⟨q, _⟩
      obtain ⟨r, h1, h2⟩ := h u (by omega)
      rw [h2] at q
      have := (nI_eq (by omega) (by omega)).mp q
      omega
theorem rusE_cg {F F1 : Nat → Int32} {r p : Int32} : ∀ u, (∀ k, k < 4 * u → F1 k = F k) → rusE F1 r p u = rusE F r p u := by
  intro u
  induction u with
  | zero => intro _; rfl
  | succ u ih =>
    intro h
    rw [rusE, rusE, ih (fun k hk => h k (by omega)), h (4 * u) (by omega), h (4 * u + 1) (by omega), h (4 * u + 2) (by omega), h (4 * u + 3) (by omega)]
section Rw
variable {I I1 : Nat → Nat → Int32} {nx u : Nat} {B : BS} {m : MS}
theorem RBx.mv (h : RBx I nx B m u) (fr : ∀ x j, nx ≤ x → x < nx + 9 → (x = nx → j ≠ 10) → I1 x j = I x j) : RBx I1 nx B m u := by
  obtain ⟨⟨⟨⟨c1, d1⟩, ⟨c2, d2⟩, ⟨c3, d3⟩, c4, d4⟩, ⟨w, w1, w2, w3⟩, hr, hf, hp, ht⟩, ⟨u1, u2, u3⟩, f2, f3, f4, f5, f6⟩ := h
  have e1 : I1 (nx + 1) = I (nx + 1) := funext fun j => fr _ _ (by omega) (by omega) (by omega)
  have e2 : I1 (nx + 2) = I (nx + 2) := funext fun j => fr _ _ (by omega) (by omega) (by omega)
  have e3 : I1 (nx + 3) = I (nx + 3) := funext fun j => fr _ _ (by omega) (by omega) (by omega)
  have e4 : I1 (nx + 4) = I (nx + 4) := funext fun j => fr _ _ (by omega) (by omega) (by omega)
  have e5 : I1 (nx + 5) = I (nx + 5) := funext fun j => fr _ _ (by omega) (by omega) (by omega)
  have e6 : I1 (nx + 6) = I (nx + 6) := funext fun j => fr _ _ (by omega) (by omega) (by omega)
  have e7 : I1 (nx + 7) = I (nx + 7) := funext fun j => fr _ _ (by omega) (by omega) (by omega)
  have e8 : I1 (nx + 8) = I (nx + 8) := funext fun j => fr _ _ (by omega) (by omega) (by omega)
  have e0 : ∀ j, j < 10 → I1 nx j = I nx j := fun j hj => fr _ _ (by omega) (by omega) (by omega)
  unfold RBx RB RBf
  rw [e1, e2, e3, e4, e5, e6, e7, e8, e0 0 (by decide), e0 1 (by decide), e0 2 (by decide), e0 3 (by decide), e0 4 (by decide)]
  exact ⟨⟨⟨⟨c1, d1⟩, ⟨c2, d2⟩, ⟨c3, d3⟩, c4, d4⟩, ⟨w, w1, w2, w3⟩, hr, hf, hp, ht⟩, ⟨u1, u2, u3⟩, f2, f3, f4, f5, f6⟩
theorem RBx.rail {p q r : Int32} (h : RBx I nx B m u) (hn : B.nR < 4) (hp : 0 < p ∧ p < 100) (hq : 0 < q ∧ q ≤ 9) (e : ∀ x j, nx ≤ x → x < nx + 9 → I1 x j = if x = nx + 1 ∧ j = 3 * B.nR then p else if x = nx + 1 ∧ j = 3 * B.nR + 1 then q else if x = nx + 1 ∧ j = 3 * B.nR + 2 then r else if x = nx ∧ j = 0 then nI (B.nR + 1) else I x j) : RBx I1 nx (BSrail B) (MSrail m B.nR p q r) u := by
  obtain ⟨⟨⟨⟨c1, d1⟩, ⟨c2, d2⟩, ⟨c3, d3⟩, c4, d4⟩, ⟨w, w1, w2, w3⟩, hr, hf, hpz, ht⟩, ⟨u1, u2, u3⟩, f2, f3, f4, f5, f6⟩ := h
  have hw : w = u := (nI_eq (by omega) (by omega)).mp (w2.symm.trans u1)
  subst hw
  have o : ∀ x, nx ≤ x → x < nx + 9 → x ≠ nx → x ≠ nx + 1 → I1 x = I x := fun x h1 h2 h3 h4 => funext fun j => by
    rw [e _ _ h1 h2, if_neg (by omega), if_neg (by omega), if_neg (by omega), if_neg (by omega)]
  have o0 : ∀ j, j ≠ 0 → I1 nx j = I nx j := fun j hj => by
    rw [e _ _ (by omega) (by omega), if_neg (by omega), if_neg (by omega), if_neg (by omega), if_neg (by omega)]
  have e2 := o (nx + 2) (by omega) (by omega) (by omega) (by omega)
  have e3 := o (nx + 3) (by omega) (by omega) (by omega) (by omega)
  have e4 := o (nx + 4) (by omega) (by omega) (by omega) (by omega)
  have e5 := o (nx + 5) (by omega) (by omega) (by omega) (by omega)
  have e6 := o (nx + 6) (by omega) (by omega) (by omega) (by omega)
  have e7 := o (nx + 7) (by omega) (by omega) (by omega) (by omega)
  have e8 := o (nx + 8) (by omega) (by omega) (by omega) (by omega)
  have old : ∀ i, i < B.nR → ∀ j, j < 3 → I1 (nx + 1) (3 * i + j) = I (nx + 1) (3 * i + j) := fun i hi j hj => by
    rw [e _ _ (by omega) (by omega), if_neg (by omega), if_neg (by omega), if_neg (by omega), if_neg (by omega)]
  have n0 : I1 (nx + 1) (3 * B.nR) = p := by rw [e _ _ (by omega) (by omega), if_pos ⟨rfl, rfl⟩]
  have n1 : I1 (nx + 1) (3 * B.nR + 1) = q := by rw [e _ _ (by omega) (by omega), if_neg (by omega), if_pos ⟨rfl, rfl⟩]
  have n2 : I1 (nx + 1) (3 * B.nR + 2) = r := by rw [e _ _ (by omega) (by omega), if_neg (by omega), if_neg (by omega), if_pos ⟨rfl, rfl⟩]
  have nn : I1 nx 0 = nI (B.nR + 1) := by rw [e _ _ (by omega) (by omega), if_neg (by omega), if_neg (by omega), if_neg (by omega), if_pos ⟨rfl, rfl⟩]
  have mo : ∀ i, i < B.nR → ∀ j, (MSrail m B.nR p q r).rail i j = m.rail i j := fun i hi j => if_neg (by omega)
  have mn : ∀ j, (MSrail m B.nR p q r).rail B.nR j = if j = 0 then p else if j = 1 then q else if j = 2 then r else 0 := fun j => if_pos rfl
  refine ⟨⟨⟨⟨nn, by show B.nR + 1 ≤ 4; omega⟩, ⟨(o0 2 (by decide)).trans c2, d2⟩, ⟨(o0 3 (by decide)).trans c3, d3⟩, (o0 4 (by decide)).trans c4, d4⟩, ⟨w, w1, (o0 1 (by decide)).trans w2, fun i hi k hk => ?_⟩, fun i hi => ?_, ?_, ?_, ?_⟩, ⟨(o0 1 (by decide)).trans u1, u2, fun k hk => ?_⟩, fun i hi => ?_, ?_, ?_, f5, f6⟩
  · rw [e2]
    have hi2 : i < B.nR + 1 := hi
    show (if i = B.nR then 0 else B.rust i k) = _
    by_cases c : i = B.nR
    · rw [if_pos c, c, rusE_0 (by omega) w u3]
    · rw [if_neg c]
      exact w3 i (by omega) k hk
  · have hi2 : i < B.nR + 1 := hi
    by_cases c : i = B.nR
    · subst c
      rw [n0, n1, mn, mn]
      exact ⟨rfl, rfl, hq.1, hp.1, hp.2, hq.2⟩
    · rw [mo i (by omega), mo i (by omega), show 3 * i = 3 * i + 0 by omega, old i (by omega) 0 (by decide), show 3 * i + 0 + 1 = 3 * i + 1 by omega, old i (by omega) 1 (by decide)]
      exact hr i (by omega)
  · rw [e3]
    exact hf
  · rw [e4, e6, e7, e8]
    intro i hi
    obtain ⟨a, t, a1, a2, a3, a4, a5, a6⟩ := hpz i hi
    exact ⟨a, t, a1, a2, a3.up (Nat.le_succ _) (Nat.le_refl _) (Nat.le_refl _), a4, a5, a6.up (Nat.le_succ _) (Nat.le_refl _) (Nat.le_refl _)⟩
  · rw [e5, e6, e7, e8]
    intro i hi
    obtain ⟨a1, a2, a3, a4, a5⟩ := ht i hi
    refine ⟨a1, a2, a3, Nat.lt_succ_of_lt a4, ?_⟩
    show (match B.tt i with | none => _ | some s => _)
    revert a5
    cases B.tt i with
    | none => exact id
    | some s =>
      rintro ⟨t, t1, t2, t3⟩
      exact ⟨t, t1, t2, t3.up (Nat.le_succ _) (Nat.le_refl _) (Nat.le_refl _)⟩
  · rw [e2]
    obtain ⟨z, z1, z2⟩ := u3 k hk
    exact ⟨z, Nat.lt_succ_of_lt z1, z2⟩
  · have hi2 : i < B.nR + 1 := hi
    by_cases c : i = B.nR
    · subst c
      rw [n2, mn, mn, mn]
      exact ⟨rfl, rfl, rfl⟩
    · rw [mo i (by omega), mo i (by omega), mo i (by omega), old i (by omega) 2 (by decide)]
      exact f2 i (by omega)
  · rw [e3]
    exact f3
  · rw [e4]
    exact f4
theorem RBx.fist {p q r : Int32} (h : RBx I nx B m u) (hn : B.nF < 8) (e : ∀ x j, nx ≤ x → x < nx + 9 → I1 x j = if x = nx + 3 ∧ j = 3 * B.nF then p else if x = nx + 3 ∧ j = 3 * B.nF + 1 then q else if x = nx + 3 ∧ j = 3 * B.nF + 2 then r else if x = nx ∧ j = 2 then nI (B.nF + 1) else I x j) : RBx I1 nx (BSfist B) (MSfist m B.nF p q r) u := by
  obtain ⟨⟨⟨⟨c1, d1⟩, ⟨c2, d2⟩, ⟨c3, d3⟩, c4, d4⟩, hru, hr, hf, hpz, ht⟩, ⟨u1, u2, u3⟩, f2, f3, f4, f5, f6⟩ := h
  have o : ∀ x, nx ≤ x → x < nx + 9 → x ≠ nx → x ≠ nx + 3 → I1 x = I x := fun x h1 h2 h3 h4 => funext fun j => by
    rw [e _ _ h1 h2, if_neg (by omega), if_neg (by omega), if_neg (by omega), if_neg (by omega)]
  have o0 : ∀ j, j ≠ 2 → I1 nx j = I nx j := fun j hj => by
    rw [e _ _ (by omega) (by omega), if_neg (by omega), if_neg (by omega), if_neg (by omega), if_neg (by omega)]
  have e1 := o (nx + 1) (by omega) (by omega) (by omega) (by omega)
  have e2 := o (nx + 2) (by omega) (by omega) (by omega) (by omega)
  have e4 := o (nx + 4) (by omega) (by omega) (by omega) (by omega)
  have e5 := o (nx + 5) (by omega) (by omega) (by omega) (by omega)
  have e6 := o (nx + 6) (by omega) (by omega) (by omega) (by omega)
  have e7 := o (nx + 7) (by omega) (by omega) (by omega) (by omega)
  have e8 := o (nx + 8) (by omega) (by omega) (by omega) (by omega)
  have old : ∀ i, i < B.nF → ∀ j, j < 3 → I1 (nx + 3) (3 * i + j) = I (nx + 3) (3 * i + j) := fun i hi j hj => by
    rw [e _ _ (by omega) (by omega), if_neg (by omega), if_neg (by omega), if_neg (by omega), if_neg (by omega)]
  have n0 : I1 (nx + 3) (3 * B.nF) = p := by rw [e _ _ (by omega) (by omega), if_pos ⟨rfl, rfl⟩]
  have n1 : I1 (nx + 3) (3 * B.nF + 1) = q := by rw [e _ _ (by omega) (by omega), if_neg (by omega), if_pos ⟨rfl, rfl⟩]
  have n2 : I1 (nx + 3) (3 * B.nF + 2) = r := by rw [e _ _ (by omega) (by omega), if_neg (by omega), if_neg (by omega), if_pos ⟨rfl, rfl⟩]
  have nn : I1 nx 2 = nI (B.nF + 1) := by rw [e _ _ (by omega) (by omega), if_neg (by omega), if_neg (by omega), if_neg (by omega), if_pos ⟨rfl, rfl⟩]
  have mo : ∀ i, i < B.nF → ∀ j, (MSfist m B.nF p q r).fist i j = m.fist i j := fun i hi j => if_neg (by omega)
  have mn : ∀ j, (MSfist m B.nF p q r).fist B.nF j = if j = 0 then p else if j = 1 then q else if j = 2 then r else 0 := fun j => if_pos rfl
  refine ⟨⟨⟨⟨(o0 0 (by decide)).trans c1, d1⟩, ⟨nn, by show B.nF + 1 ≤ 8; omega⟩, ⟨(o0 3 (by decide)).trans c3, d3⟩, (o0 4 (by decide)).trans c4, d4⟩, ?_, ?_, fun i hi => ?_, ?_, ?_⟩, ⟨(o0 1 (by decide)).trans u1, u2, ?_⟩, ?_, fun i hi => ?_, ?_, f5, f6⟩
  · rw [e2, o0 1 (by decide)]
    exact hru
  · rw [e1]
    exact hr
  · have hi2 : i < B.nF + 1 := hi
    by_cases c : i = B.nF
    · subst c
      rw [n0, n1, mn, mn]
      exact ⟨rfl, rfl⟩
    · rw [mo i (by omega), mo i (by omega), show 3 * i = 3 * i + 0 by omega, old i (by omega) 0 (by decide), show 3 * i + 0 + 1 = 3 * i + 1 by omega, old i (by omega) 1 (by decide)]
      exact hf i (by omega)
  · rw [e4, e6, e7, e8]
    intro i hi
    obtain ⟨a, t, a1, a2, a3, a4, a5, a6⟩ := hpz i hi
    exact ⟨a, t, a1, a2, a3.up (Nat.le_refl _) (Nat.le_succ _) (Nat.le_refl _), a4, a5, a6.up (Nat.le_refl _) (Nat.le_succ _) (Nat.le_refl _)⟩
  · rw [e5, e6, e7, e8]
    intro i hi
    obtain ⟨a1, a2, a3, a4, a5⟩ := ht i hi
    refine ⟨a1, Nat.lt_succ_of_lt a2, a3, a4, ?_⟩
    show (match B.tt i with | none => _ | some s => _)
    revert a5
    cases B.tt i with
    | none => exact id
    | some s =>
      rintro ⟨t, t1, t2, t3⟩
      exact ⟨t, t1, t2, t3.up (Nat.le_refl _) (Nat.le_succ _) (Nat.le_refl _)⟩
  · rw [e2]
    exact u3
  · rw [e1]
    exact f2
  · have hi2 : i < B.nF + 1 := hi
    by_cases c : i = B.nF
    · subst c
      rw [n2, mn]
      refine ⟨rfl, fun j h1 h2 => ?_⟩
      rw [mn, if_neg (by omega), if_neg (by omega), if_neg (by omega)]
    · rw [mo i (by omega), old i (by omega) 2 (by decide)]
      refine ⟨(f3 i (by omega)).1, fun j h1 h2 => ?_⟩
      rw [mo i (by omega)]
      exact (f3 i (by omega)).2 j h1 h2
  · rw [e4]
    exact f4
end Rw

