/-! what a change of one cell is to the mathematical contest -/
theorem AbB.cg {c : Nat} {I I1 : Nat → Nat → Int32} {B : BS} (h : AbB I c B) (q : ∀ x j, (x = c ∧ 8 ≤ j ∧ j ≤ 12) ∨ (x = c + 1 ∧ j = 4) ∨ x = c + 2 ∨ x = c + 3 ∨ (∃ i, i < 4 ∧ x = c + 15 + 2 * i) ∨ c + 38 ≤ x ∨ (c + 30 ≤ x ∧ x < c + 38 ∧ 3 ≤ j) → I1 x j = I x j) : AbB I1 c B := by
  obtain ⟨⟨a1, a2⟩, ⟨a3, a4⟩, ⟨a5, a6⟩, ⟨a7, a8⟩, b1, b2, z, b3, b4, b5, b6⟩ := h
  have q2 : I1 (c + 2) = I (c + 2) := funext fun j => q _ _ (by omega)
  have q3 : I1 (c + 3) = I (c + 3) := funext fun j => q _ _ (by omega)
  have qs : ∀ p r s, SegC I c p r s → SegC I1 c p r s := by
    intro p r s hs rd
    rw [q2, q3]
    exact hs rd
  refine ⟨⟨?_, a2⟩, ⟨?_, a4⟩, ⟨?_, a6⟩, ⟨?_, a8⟩, ?_, ?_, z, ?_, b4, ?_, ?_⟩
  · rw [q _ _ (by omega)]; exact a1
  · rw [q _ _ (by omega)]; exact a3
  · rw [q _ _ (by omega)]; exact a5
  · rw [q _ _ (by omega)]; exact a7
  · intro i hi p hp
    rw [q _ _ (Or.inr (Or.inr (Or.inr (Or.inr (Or.inl ⟨i, by omega, rfl⟩)))))]
    exact b1 i hi p hp
  · intro i hi
    rw [q _ _ (by omega), q _ _ (by omega)]
    exact b2 i hi
  · rw [q _ _ (by omega)]; exact b3
  · intro i hi
    obtain ⟨p, r, e1, e2, e3, e4, e5⟩ := b5 i hi
    refine ⟨p, r, ?_, ?_, e3, e4, ?_⟩
    · rw [q _ _ (by omega)]; exact e1
    · rw [q _ _ (by omega)]; exact e2
    · cases hh : B.tt i with
      | none => rw [hh] at e5; exact e5
      | some s => rw [hh] at e5; exact ⟨e5.1, qs _ _ _ e5.2⟩
  · intro i hi
    obtain ⟨p, r, t, e1, e2, e3, e4, e5, e6, e7, e8⟩ := b6 i hi
    refine ⟨p, r, t, ?_, ?_, ?_, e4, e5, e6, qs _ _ _ e7, qs _ _ _ e8⟩
    · rw [q _ _ (by omega)]; exact e1
    · rw [q _ _ (by omega)]; exact e2
    · rw [q _ _ (by omega)]; exact e3
theorem OffC.up {c a j : Nat} {I I1 : Nat → Nat → Int32} {v : Int32} (h : OffC c I I1) (h1 : c ≤ a ∧ a < c + 58) : OffC c I (up2 I1 a j v) := fun x i q => by
  rw [up2_a (by omega)]
  exact h x i q
theorem AbB.up {c a j : Nat} {I : Nat → Nat → Int32} {B : BS} {v : Int32} (h : AbB I c B) (q : ¬ ((a = c ∧ 8 ≤ j ∧ j ≤ 12) ∨ (a = c + 1 ∧ j = 4) ∨ a = c + 2 ∨ a = c + 3 ∨ (∃ i, i < 4 ∧ a = c + 15 + 2 * i) ∨ c + 38 ≤ a ∨ (c + 30 ≤ a ∧ a < c + 38 ∧ 3 ≤ j))) : AbB (up2 I a j v) c B := by
  refine h.cg fun x i hx => ?_
  rw [up2_at, if_neg]
  rintro ⟨rfl, rfl⟩
  exact q hx
theorem AbB.upF {c i j : Nat} {I : Nat → Nat → Int32} {B : BS} {v : Int32} (h : AbB I c B) (hi : i < 8) : AbB (up2 I (c + 22 + i) j v) c B := h.up (by
  rintro (q | q | q | q | ⟨k, hk, q⟩ | q | q) <;> omega)
theorem AbB.upR {c i j : Nat} {I : Nat → Nat → Int32} {B : BS} {v : Int32} (h : AbB I c B) (hi : i < 4) : AbB (up2 I (c + 14 + 2 * i) j v) c B := h.up (by
  rintro (q | q | q | q | ⟨k, hk, q⟩ | q | q) <;> omega)
theorem AbB.upP {c i j : Nat} {I : Nat → Nat → Int32} {B : BS} {v : Int32} (h : AbB I c B) (hi : i < 8) (hj : j < 3) : AbB (up2 I (c + 30 + i) j v) c B := h.up (by
  rintro (q | q | q | q | ⟨k, hk, q⟩ | q | q) <;> omega)
theorem AbB.upG {c j : Nat} {I : Nat → Nat → Int32} {B : BS} {v : Int32} (h : AbB I c B) (hj : 13 ≤ j) : AbB (up2 I c j v) c B := h.up (by
  rintro (q | q | q | q | ⟨k, hk, q⟩ | q | q) <;> omega)
theorem AbB.upW {c j : Nat} {I : Nat → Nat → Int32} {B : BS} {v : Int32} (h : AbB I c B) : AbB (up2 I (c + 13) j v) c B := h.up (by
  rintro (q | q | q | q | ⟨k, hk, q⟩ | q | q) <;> omega)
theorem up1_at {α : Type} {f : Nat → α} {k : Nat} {v : α} (j : Nat) : up1 f k v j = if j = k then v else f j := rfl
theorem sumM_cg {f g : Nat → Int32} {n : Nat} (h : ∀ i, i < n → f i = g i) : sumM f n = sumM g n := by
  induction n with
  | zero => rfl
  | succ n ih => rw [sumM, sumM, ih (fun i hi => h i (by omega)), h n (by omega)]
theorem sumM_up {f g : Nat → Int32} {n k : Nat} {d : Int32} (hk : k < n) (h : ∀ i, i < n → g i = if i = k then f i + d else f i) : sumM g n = sumM f n + d := by
  induction n with
  | zero => exact absurd hk (Nat.not_lt_zero _)
  | succ n ih =>
    rw [sumM, sumM]
    by_cases e : k = n
    · rw [h n (by omega), if_pos e.symm, sumM_cg (g := f) (n := n) (fun i hi => by rw [h i (by omega), if_neg (by omega)]), Int32.add_assoc]
    · rw [ih (by omega) (fun i hi => h i (by omega)), h n (by omega), if_neg (fun q => e q.symm), Int32.add_assoc, Int32.add_assoc, Int32.add_comm d]
section Upd
variable {c i j : Nat} {I : Nat → Nat → Int32} {B : BS} {m : MS} {v : Int32}
theorem AbM.setF (hB : AbB I c B) (h : AbM I c B m) (hi : i < B.nF) (hj : j < 9) (h8 : j = 8 → v = 0 ∨ v = 1) : AbM (up2 I (c + 22 + i) (j + 1) v) c B (mkMS (up2 m.fist i j v) m.rail m.prize m.g m.row m.bd m.nb) := by
  obtain ⟨a1, a2, a3, a4, a5, a6, a7, a8, a9, a10, a11⟩ := h
  obtain ⟨⟨_, u1⟩, ⟨_, u2⟩, ⟨_, u3⟩, ⟨_, u4⟩, _⟩ := hB
  refine ⟨?_, ?_, ?_, ?_, ?_, ?_, ?_, ?_, a9, a10, ?_⟩
  · intro x hx y hy
    show up2 I _ _ _ _ _ = up2 _ _ _ _ _ _
    rw [up2_at, up2_at]
    by_cases e : x = i ∧ y = j
    · rw [if_pos e, if_pos ⟨by omega, by omega⟩]
    · rw [if_neg e, if_neg (fun q => e ⟨by omega, by omega⟩)]
      exact a1 x hx y hy
  · intro x hx y hy
    rw [up2_a (by omega)]; exact a2 x hx y hy
  · intro x hx y hy
    rw [up2_a (by omega)]; exact a3 x hx y hy
  · intro y hy
    rw [up2_a (by omega)]; exact a4 y hy
  · rw [up2_a (by omega)]; exact a5
  · intro k hk
    rw [up2_a (by omega)]; exact a6 k hk
  · intro k hk
    rw [up2_a (by omega)]; exact a7 k hk
  · rw [up2_a (by omega)]; exact a8
  · intro x hx
    rw [up2_at]
    by_cases e : c + 22 + x = c + 22 + i ∧ 9 = j + 1
    · rw [if_pos e]
      exact h8 (by omega)
    · rw [if_neg e]
      exact a11 x hx
theorem AbM.setR (hB : AbB I c B) (h : AbM I c B m) (hi : i < B.nR) (hj : j < 5) (h1 : j ≠ 1) : AbM (up2 I (c + 14 + 2 * i) (j + 2) v) c B (mkMS m.fist (up2 m.rail i j v) m.prize m.g m.row m.bd m.nb) := by
  obtain ⟨a1, a2, a3, a4, a5, a6, a7, a8, a9, a10, a11⟩ := h
  obtain ⟨⟨_, u1⟩, ⟨_, u2⟩, ⟨_, u3⟩, ⟨_, u4⟩, _⟩ := hB
  refine ⟨?_, ?_, ?_, ?_, ?_, ?_, ?_, ?_, a9, ?_, ?_⟩
  · intro x hx y hy
    rw [up2_a (by omega)]; exact a1 x hx y hy
  · intro x hx y hy
    show up2 I _ _ _ _ _ = up2 _ _ _ _ _ _
    rw [up2_at, up2_at]
    by_cases e : x = i ∧ y = j
    · rw [if_pos e, if_pos ⟨by omega, by omega⟩]
    · rw [if_neg e, if_neg (fun q => e ⟨by omega, by omega⟩)]
      exact a2 x hx y hy
  · intro x hx y hy
    rw [up2_a (by omega)]; exact a3 x hx y hy
  · intro y hy
    rw [up2_a (by omega)]; exact a4 y hy
  · rw [up2_a (by omega)]; exact a5
  · intro k hk
    rw [up2_a (by omega)]; exact a6 k hk
  · intro k hk
    rw [up2_a (by omega)]; exact a7 k hk
  · rw [up2_a (by omega)]; exact a8
  · intro x hx
    show 0 < up2 _ _ _ _ _ _
    rw [up2_j (by omega)]
    exact a10 x hx
  · intro x hx
    rw [up2_a (by omega)]; exact a11 x hx
theorem AbM.setG (hB : AbB I c B) (h : AbM I c B m) (hj : j < 5) : AbM (up2 I c (13 + j) v) c B (mkMS m.fist m.rail m.prize (up1 m.g j v) m.row m.bd m.nb) := by
  obtain ⟨a1, a2, a3, a4, a5, a6, a7, a8, a9, a10, a11⟩ := h
  refine ⟨?_, ?_, ?_, ?_, ?_, ?_, ?_, ?_, a9, a10, ?_⟩
  · intro x hx y hy
    rw [up2_a (by omega)]; exact a1 x hx y hy
  · intro x hx y hy
    rw [up2_a (by omega)]; exact a2 x hx y hy
  · intro x hx y hy
    rw [up2_a (by omega)]; exact a3 x hx y hy
  · intro y hy
    show up2 I _ _ _ _ _ = up1 _ _ _ _
    rw [up2_at, up1_at]
    by_cases e : y = j
    · rw [if_pos e, if_pos ⟨rfl, by omega⟩]
    · rw [if_neg e, if_neg (fun q => e (by omega))]
      exact a4 y hy
  · rw [up2_j (by omega)]; exact a5
  · intro k hk
    rw [up2_a (by omega)]; exact a6 k hk
  · intro k hk
    rw [up2_a (by omega)]; exact a7 k hk
  · rw [up2_a (by omega)]; exact a8
  · intro x hx
    rw [up2_a (by omega)]; exact a11 x hx
/-- a prize is given: one less is left, one more is given, by the prize and in all -/
theorem AbM.setP (hB : AbB I c B) (h : AbM I c B m) (hi : i < B.nP) : AbM (up2 (up2 (up2 I (c + 30 + i) 1 (m.prize i 0 - 1)) (c + 30 + i) 2 (m.prize i 1 + 1)) c 18 (gvnM B m + 1)) c B (mkMS m.fist m.rail (up2 (up2 m.prize i 0 (m.prize i 0 - 1)) i 1 (m.prize i 1 + 1)) m.g m.row m.bd m.nb) := by
  obtain ⟨a1, a2, a3, a4, a5, a6, a7, a8, a9, a10, a11⟩ := h
  obtain ⟨⟨_, u1⟩, ⟨_, u2⟩, ⟨_, u3⟩, ⟨_, u4⟩, _⟩ := hB
  refine ⟨?_, ?_, ?_, ?_, ?_, ?_, ?_, ?_, a9, a10, ?_⟩
  · intro x hx y hy
    rw [up2_a (by omega), up2_a (by omega), up2_a (by omega)]; exact a1 x hx y hy
  · intro x hx y hy
    rw [up2_a (by omega), up2_a (by omega), up2_a (by omega)]; exact a2 x hx y hy
  · intro x hx y hy
    rw [up2_a (by omega)]
    show up2 (up2 I _ _ _) _ _ _ _ _ = up2 (up2 _ _ _ _) _ _ _ _ _
    rw [up2_at, up2_at, up2_at, up2_at, a3 x hx y hy]
    have e1 : (c + 30 + x = c + 30 + i ∧ y + 1 = 2) = (x = i ∧ y = 1) := propext ⟨fun q => ⟨by omega, by omega⟩, fun q => ⟨by omega, by omega⟩⟩
    have e2 : (c + 30 + x = c + 30 + i ∧ y + 1 = 1) = (x = i ∧ y = 0) := propext ⟨fun q => ⟨by omega, by omega⟩, fun q => ⟨by omega, by omega⟩⟩
    simp only [e1, e2]
  · intro y hy
    rw [up2_j (by omega), up2_a (by omega), up2_a (by omega)]; exact a4 y hy
  · rw [up2_s]
    refine (sumM_up (f := fun x => m.prize x 1) (k := i) hi ?_).symm
    intro x hx
    show up2 (up2 _ _ _ _) _ _ _ _ _ = _
    rw [up2_at]
    by_cases e : x = i
    · rw [if_pos ⟨e, rfl⟩, if_pos e, e]
    · rw [if_neg (fun q => e q.1), if_neg e, up2_a e]
  · intro k hk
    rw [up2_a (by omega), up2_a (by omega), up2_a (by omega)]; exact a6 k hk
  · intro k hk
    rw [up2_a (by omega), up2_a (by omega), up2_a (by omega)]; exact a7 k hk
  · rw [up2_a (by omega), up2_a (by omega), up2_a (by omega)]; exact a8
  · intro x hx
    rw [up2_a (by omega), up2_a (by omega), up2_a (by omega)]; exact a11 x hx
end Upd

