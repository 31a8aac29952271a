/-! how the class and the reference stand at the start -/
def XS0 : XS := ((0, fun _ => 0), BS0, MS0, -1)
theorem st_X {K : Nat → Int64} {S : AMem} {I : Nat → Nat → Int32} {J : Nat → Nat → Int64} {R : Nat → Nat → Option Nat} {x : Nat} (hC : XC S R x (x + 8) (x + 66)) (hz : ∀ y j, x + 1 ≤ y → y < x + 125 → I y j = 0) (h5 : I x 5 = -1) (hk : ∀ i, i < 32 → J (x + 7) i = K i) : XW K S x XS0 I J R := by
  have n0 : ∀ {P : Nat → Prop} (i : Nat), i < 0 → P i := fun i hi => absurd hi (Nat.not_lt_zero i)
  refine ⟨x + 8, x + 66, hC, ⟨hz _ _ (by omega) (by omega), Nat.zero_le _, n0⟩, ?_, ?_, fun i hi => Or.inl (hz _ _ (by omega) (by omega)), h5, hk⟩
  · exact ⟨⟨hz _ _ (by omega) (by omega), Nat.zero_le _⟩, ⟨hz _ _ (by omega) (by omega), Nat.zero_le _⟩, ⟨hz _ _ (by omega) (by omega), Nat.zero_le _⟩, ⟨hz _ _ (by omega) (by omega), Nat.zero_le _⟩, n0, n0, 0, hz _ _ (by omega) (by omega), Nat.zero_le _, n0, n0⟩
  · exact ⟨n0, n0, n0, fun j hj => hz _ _ (by omega) (by omega), hz _ _ (by omega) (by omega), n0, n0, hz _ _ (by omega) (by omega), Nat.zero_le _, n0, fun i hi => Or.inl (hz _ _ (by omega) (by omega))⟩
theorem st_Y {S : AMem} {I : Nat → Nat → Int32} {R : Nat → Nat → Option Nat} {y : Nat} (hC : MCc S R y (y + 6) (y + 15)) (hz : ∀ a j, y + 1 ≤ a → a < y + 39 → I a j = 0) (h2 : I y 2 = 0) (h3 : I y 3 = -1) : YW S y XS0 I R := by
  have n0 : ∀ {P : Nat → Prop} (i : Nat), i < 0 → P i := fun i hi => absurd hi (Nat.not_lt_zero i)
  refine ⟨y + 6, y + 15, hC, ⟨h2, Nat.zero_le _, n0⟩, h3, ?_, ?_, n0, fun k l hk => absurd hk (Nat.not_lt_zero _), n0⟩
  · exact ⟨⟨⟨hz _ _ (by omega) (by omega), Nat.zero_le _⟩, ⟨hz _ _ (by omega) (by omega), Nat.zero_le _⟩, ⟨hz _ _ (by omega) (by omega), Nat.zero_le _⟩, hz _ _ (by omega) (by omega), Nat.zero_le _⟩, ⟨0, Nat.zero_le _, hz _ _ (by omega) (by omega), n0⟩, n0, n0, n0, n0⟩
  · exact ⟨⟨hz _ _ (by omega) (by omega), hz _ _ (by omega) (by omega), hz _ _ (by omega) (by omega), hz _ _ (by omega) (by omega), hz _ _ (by omega) (by omega), hz _ _ (by omega) (by omega), Nat.zero_le _⟩, n0, n0, n0, n0, ⟨n0, n0⟩, n0⟩

