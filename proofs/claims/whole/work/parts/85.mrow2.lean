/-! the reference's bill while it is read: rusts, prizes, turns -/
section Rx
variable {I I1 : Nat → Nat → Int32} {nx u : Nat} {B : BS} {m : MS}
theorem RBx.rust {r : Nat} {p q v : Int32} (h : RBx I nx B m u) (hr0 : r < B.nR) (hu : u < 12) (e : ∀ x j, nx ≤ x → x < nx + 9 → I1 x j = if x = nx + 2 ∧ j = 4 * u then nI r else if x = nx + 2 ∧ j = 4 * u + 1 then p else if x = nx + 2 ∧ j = 4 * u + 2 then q else if x = nx + 2 ∧ j = 4 * u + 3 then v else if x = nx ∧ j = 1 then nI (u + 1) else I x j) : RBx I1 nx (BSrust B r p q v) m (u + 1) := by
  obtain ⟨⟨⟨⟨c1, d1⟩, ⟨c2, d2⟩, ⟨c3, d3⟩, c4, d4⟩, ⟨w, w1, w2, w3⟩, hr, hf, hpz, ht⟩, ⟨u1, u2, u3⟩, f2, f3, f4, f5, f6⟩ := h
  have hw : w = u := (nI_eq (by omega) (by omega)).mp (w2.symm.trans u1)
  subst hw
  have o : ∀ x, nx ≤ x → x < nx + 9 → x ≠ nx → x ≠ nx + 2 → I1 x = I x := fun x h1 h2 h3 h4 => funext fun j => by
    rw [e _ _ h1 h2, if_neg (by omega), if_neg (by omega), if_neg (by omega), if_neg (by omega), if_neg (by omega)]
  have o0 : ∀ j, j ≠ 1 → I1 nx j = I nx j := fun j hj => by
    rw [e _ _ (by omega) (by omega), if_neg (by omega), if_neg (by omega), if_neg (by omega), if_neg (by omega), if_neg (by omega)]
  have e1 := o (nx + 1) (by omega) (by omega) (by omega) (by omega)
  have e3 := o (nx + 3) (by omega) (by omega) (by omega) (by omega)
  have e4 := o (nx + 4) (by omega) (by omega) (by omega) (by omega)
  have e5 := o (nx + 5) (by omega) (by omega) (by omega) (by omega)
  have e6 := o (nx + 6) (by omega) (by omega) (by omega) (by omega)
  have e7 := o (nx + 7) (by omega) (by omega) (by omega) (by omega)
  have e8 := o (nx + 8) (by omega) (by omega) (by omega) (by omega)
  have old : ∀ k, k < 4 * w → I1 (nx + 2) k = I (nx + 2) k := fun k hk => by
    rw [e _ _ (by omega) (by omega), if_neg (by omega), if_neg (by omega), if_neg (by omega), if_neg (by omega), if_neg (by omega)]
  have n0 : I1 (nx + 2) (4 * w) = nI r := by rw [e _ _ (by omega) (by omega), if_pos ⟨rfl, rfl⟩]
  have n1 : I1 (nx + 2) (4 * w + 1) = p := by rw [e _ _ (by omega) (by omega), if_neg (by omega), if_pos ⟨rfl, rfl⟩]
  have n2 : I1 (nx + 2) (4 * w + 2) = q := by rw [e _ _ (by omega) (by omega), if_neg (by omega), if_neg (by omega), if_pos ⟨rfl, rfl⟩]
  have n3 : I1 (nx + 2) (4 * w + 3) = v := by rw [e _ _ (by omega) (by omega), if_neg (by omega), if_neg (by omega), if_neg (by omega), if_pos ⟨rfl, rfl⟩]
  have nn : I1 nx 1 = nI (w + 1) := by rw [e _ _ (by omega) (by omega), if_neg (by omega), if_neg (by omega), if_neg (by omega), if_neg (by omega), if_pos ⟨rfl, rfl⟩]
  refine ⟨⟨⟨⟨(o0 0 (by decide)).trans c1, d1⟩, ⟨(o0 2 (by decide)).trans c2, d2⟩, ⟨(o0 3 (by decide)).trans c3, d3⟩, (o0 4 (by decide)).trans c4, d4⟩, ⟨w + 1, hu, nn, fun i hi k hk => ?_⟩, ?_, ?_, ?_, ?_⟩, ⟨nn, hu, fun k hk => ?_⟩, ?_, ?_, ?_, f5, f6⟩
  · have hi2 : i < B.nR := hi
    rw [rusE, rusE_cg w old, n0, n1, n2, n3, ← w3 i hi2 k hk]
    show (if i = r ∧ p ≤ nI k ∧ nI k ≤ q then B.rust i k + v else B.rust i k) = _
    by_cases c : i = r ∧ p ≤ nI k ∧ nI k ≤ q
    · rw [if_pos c, if_pos ⟨by rw [c.1], c.2⟩]
    · rw [if_neg c, if_neg, Int32.add_zero]
      rintro ⟨z, z2⟩
      exact c ⟨((nI_eq (by omega) (by omega)).mp z).symm, z2⟩
  · rw [e1]
    exact hr
  · rw [e3]
    exact hf
  · rw [e4, e6, e7, e8]
    exact hpz
  · rw [e5, e6, e7, e8]
    exact ht
  · by_cases c : k = w
    · subst c
      exact ⟨r, hr0, n0⟩
    · rw [old _ (by omega)]
      exact u3 k (by omega)
  · rw [e1]
    exact f2
  · rw [e3]
    exact f3
  · rw [e4]
    exact f4
theorem RBx.prize {a t : Nat} {v : Int32} {σ τ : Sem} (h : RBx I nx B m u) (hn : B.nP < 8) (hv : 0 ≤ v) (ha : a < 401) (ht0 : t < 401) (hN : NdN (I (nx + 6)) (I (nx + 7)) (I (nx + 8)) B.nR B.nF B.nP (a + 1) a σ) (hB : NdB (I (nx + 6)) (I (nx + 7)) (I (nx + 8)) B.nR B.nF B.nP (t + 1) t τ) (e : ∀ x j, nx ≤ x → x < nx + 9 → I1 x j = if x = nx + 4 ∧ j = 3 * B.nP then nI a else if x = nx + 4 ∧ j = 3 * B.nP + 1 then v else if x = nx + 4 ∧ j = 3 * B.nP + 2 then nI t else if x = nx ∧ j = 3 then nI (B.nP + 1) else I x j) : RBx I1 nx (BSprize B σ τ) (MSprize m B.nP v) u := by
  obtain ⟨⟨⟨⟨c1, d1⟩, ⟨c2, d2⟩, ⟨c3, d3⟩, c4, d4⟩, hru, hr, hf, hpz, ht⟩, ⟨u1, u2, u3⟩, f2, f3, f4, f5, f6⟩ := h
  have o : ∀ x, nx ≤ x → x < nx + 9 → x ≠ nx → x ≠ nx + 4 → I1 x = I x := fun x h1 h2 h3 h4 => funext fun j => by
    rw [e _ _ h1 h2, if_neg (by omega), if_neg (by omega), if_neg (by omega), if_neg (by omega)]
  have o0 : ∀ j, j ≠ 3 → I1 nx j = I nx j := fun j hj => by
    rw [e _ _ (by omega) (by omega), if_neg (by omega), if_neg (by omega), if_neg (by omega), if_neg (by omega)]
  have e1 := o (nx + 1) (by omega) (by omega) (by omega) (by omega)
  have e2 := o (nx + 2) (by omega) (by omega) (by omega) (by omega)
  have e3 := o (nx + 3) (by omega) (by omega) (by omega) (by omega)
  have e5 := o (nx + 5) (by omega) (by omega) (by omega) (by omega)
  have e6 := o (nx + 6) (by omega) (by omega) (by omega) (by omega)
  have e7 := o (nx + 7) (by omega) (by omega) (by omega) (by omega)
  have e8 := o (nx + 8) (by omega) (by omega) (by omega) (by omega)
  have old : ∀ i, i < B.nP → ∀ j, j < 3 → I1 (nx + 4) (3 * i + j) = I (nx + 4) (3 * i + j) := fun i hi j hj => by
    rw [e _ _ (by omega) (by omega), if_neg (by omega), if_neg (by omega), if_neg (by omega), if_neg (by omega)]
  have n0 : I1 (nx + 4) (3 * B.nP) = nI a := by rw [e _ _ (by omega) (by omega), if_pos ⟨rfl, rfl⟩]
  have n1 : I1 (nx + 4) (3 * B.nP + 1) = v := by rw [e _ _ (by omega) (by omega), if_neg (by omega), if_pos ⟨rfl, rfl⟩]
  have n2 : I1 (nx + 4) (3 * B.nP + 2) = nI t := by rw [e _ _ (by omega) (by omega), if_neg (by omega), if_neg (by omega), if_pos ⟨rfl, rfl⟩]
  have nn : I1 nx 3 = nI (B.nP + 1) := by rw [e _ _ (by omega) (by omega), if_neg (by omega), if_neg (by omega), if_neg (by omega), if_pos ⟨rfl, rfl⟩]
  have mo : ∀ i, i < B.nP → ∀ j, (MSprize m B.nP v).prize i j = m.prize i j := fun i hi j => if_neg (by omega)
  have mn : ∀ j, (MSprize m B.nP v).prize B.nP j = if j = 0 then v else 0 := fun j => if_pos rfl
  refine ⟨⟨⟨⟨(o0 0 (by decide)).trans c1, d1⟩, ⟨(o0 2 (by decide)).trans c2, d2⟩, ⟨nn, by show B.nP + 1 ≤ 8; omega⟩, (o0 4 (by decide)).trans c4, d4⟩, ?_, ?_, ?_, ?_, ?_⟩, ⟨(o0 1 (by decide)).trans u1, u2, ?_⟩, ?_, ?_, fun i hi => ?_, f5, f6⟩
  · rw [e2, o0 1 (by decide)]
    exact hru
  · rw [e1]
    exact hr
  · rw [e3]
    exact hf
  · rw [e6, e7, e8]
    intro i hi
    have hi2 : i < B.nP + 1 := hi
    show ∃ w t, I1 (nx + 4) (3 * i) = nI w ∧ w < 401 ∧ NdN _ _ _ B.nR B.nF (B.nP + 1) (w + 1) w (if i = B.nP then σ else B.wo i) ∧ I1 (nx + 4) (3 * i + 2) = nI t ∧ t < 401 ∧ NdB _ _ _ B.nR B.nF (B.nP + 1) (t + 1) t (if i = B.nP then τ else B.te i)
    by_cases c : i = B.nP
    · subst c
      rw [if_pos rfl, if_pos rfl, n0, n2]
      exact ⟨a, t, rfl, ha, hN.up (Nat.le_refl _) (Nat.le_refl _) (Nat.le_succ _), rfl, ht0, hB.up (Nat.le_refl _) (Nat.le_refl _) (Nat.le_succ _)⟩
    · rw [if_neg c, if_neg c, show 3 * i = 3 * i + 0 by omega, old i (by omega) 0 (by decide), show 3 * i + 0 + 2 = 3 * i + 2 by omega, old i (by omega) 2 (by decide)]
      obtain ⟨a', t', a1, a2, a3, a4, a5, a6⟩ := hpz i (by omega)
      exact ⟨a', t', a1, a2, a3.up (Nat.le_refl _) (Nat.le_refl _) (Nat.le_succ _), a4, a5, a6.up (Nat.le_refl _) (Nat.le_refl _) (Nat.le_succ _)⟩
  · rw [e5, e6, e7, e8]
    intro i hi
    obtain ⟨a1, a2, a3, a4, a5⟩ := ht i hi
    refine ⟨a1, a2, a3, a4, ?_⟩
    show (match B.tt i with | none => _ | some s => _)
    revert a5
    cases B.tt i with
    | none => exact id
    | some s =>
      rintro ⟨t', t1, t2, t3⟩
      exact ⟨t', t1, t2, t3.up (Nat.le_refl _) (Nat.le_refl _) (Nat.le_succ _)⟩
  · rw [e2]
    exact u3
  · rw [e1]
    exact f2
  · rw [e3]
    exact f3
  · have hi2 : i < B.nP + 1 := hi
    by_cases c : i = B.nP
    · subst c
      rw [n1, mn, mn]
      exact ⟨rfl, hv, rfl⟩
    · rw [mo i (by omega), mo i (by omega), old i (by omega) 1 (by decide)]
      exact f4 i (by omega)
theorem RBx.turn {f r : Nat} {tv : Int32} {s : Option Sem} (h : RBx I nx B m u) (hn : B.nT < 20) (hf0 : f < B.nF) (hr0 : r < B.nR) (hs : match s with | none => tv = -1 | some σ => ∃ t, tv = nI t ∧ t < 401 ∧ NdB (I (nx + 6)) (I (nx + 7)) (I (nx + 8)) B.nR B.nF B.nP (t + 1) t σ) (e : ∀ x j, nx ≤ x → x < nx + 9 → I1 x j = if x = nx + 5 ∧ j = 3 * B.nT then nI f else if x = nx + 5 ∧ j = 3 * B.nT + 1 then nI r else if x = nx + 5 ∧ j = 3 * B.nT + 2 then tv else if x = nx ∧ j = 4 then nI (B.nT + 1) else I x j) : RBx I1 nx (BSturn B f r s) (MSturn m B.nT) u := by
  obtain ⟨⟨⟨⟨c1, d1⟩, ⟨c2, d2⟩, ⟨c3, d3⟩, c4, d4⟩, hru, hr, hf, hpz, ht⟩, ⟨u1, u2, u3⟩, f2, f3, f4, f5, f6⟩ := h
  have o : ∀ x, nx ≤ x → x < nx + 9 → x ≠ nx → x ≠ nx + 5 → I1 x = I x := fun x h1 h2 h3 h4 => funext fun j => by
    rw [e _ _ h1 h2, if_neg (by omega), if_neg (by omega), if_neg (by omega), if_neg (by omega)]
  have o0 : ∀ j, j ≠ 4 → I1 nx j = I nx j := fun j hj => by
    rw [e _ _ (by omega) (by omega), if_neg (by omega), if_neg (by omega), if_neg (by omega), if_neg (by omega)]
  have e1 := o (nx + 1) (by omega) (by omega) (by omega) (by omega)
  have e2 := o (nx + 2) (by omega) (by omega) (by omega) (by omega)
  have e3 := o (nx + 3) (by omega) (by omega) (by omega) (by omega)
  have e4 := o (nx + 4) (by omega) (by omega) (by omega) (by omega)
  have e6 := o (nx + 6) (by omega) (by omega) (by omega) (by omega)
  have e7 := o (nx + 7) (by omega) (by omega) (by omega) (by omega)
  have e8 := o (nx + 8) (by omega) (by omega) (by omega) (by omega)
  have old : ∀ i, i < B.nT → ∀ j, j < 3 → I1 (nx + 5) (3 * i + j) = I (nx + 5) (3 * i + j) := fun i hi j hj => by
    rw [e _ _ (by omega) (by omega), if_neg (by omega), if_neg (by omega), if_neg (by omega), if_neg (by omega)]
  have n0 : I1 (nx + 5) (3 * B.nT) = nI f := by rw [e _ _ (by omega) (by omega), if_pos ⟨rfl, rfl⟩]
  have n1 : I1 (nx + 5) (3 * B.nT + 1) = nI r := by rw [e _ _ (by omega) (by omega), if_neg (by omega), if_pos ⟨rfl, rfl⟩]
  have n2 : I1 (nx + 5) (3 * B.nT + 2) = tv := by rw [e _ _ (by omega) (by omega), if_neg (by omega), if_neg (by omega), if_pos ⟨rfl, rfl⟩]
  have nn : I1 nx 4 = nI (B.nT + 1) := by rw [e _ _ (by omega) (by omega), if_neg (by omega), if_neg (by omega), if_neg (by omega), if_pos ⟨rfl, rfl⟩]
  refine ⟨⟨⟨⟨(o0 0 (by decide)).trans c1, d1⟩, ⟨(o0 2 (by decide)).trans c2, d2⟩, ⟨(o0 3 (by decide)).trans c3, d3⟩, nn, by show B.nT + 1 ≤ 20; omega⟩, ?_, ?_, ?_, ?_, ?_⟩, ⟨(o0 1 (by decide)).trans u1, u2, ?_⟩, ?_, ?_, ?_, f5, fun k hk => ?_⟩
  · rw [e2, o0 1 (by decide)]
    exact hru
  · rw [e1]
    exact hr
  · rw [e3]
    exact hf
  · rw [e4, e6, e7, e8]
    exact hpz
  · rw [e6, e7, e8]
    intro i hi
    have hi2 : i < B.nT + 1 := hi
    show I1 (nx + 5) (3 * i) = nI (if i = B.nT then f else B.tF i) ∧ (if i = B.nT then f else B.tF i) < B.nF ∧ I1 (nx + 5) (3 * i + 1) = nI (if i = B.nT then r else B.tR i) ∧ (if i = B.nT then r else B.tR i) < B.nR ∧ (match (if i = B.nT then s else B.tt i) with | none => I1 (nx + 5) (3 * i + 2) = -1 | some σ => ∃ t, I1 (nx + 5) (3 * i + 2) = nI t ∧ t < 401 ∧ NdB _ _ _ B.nR B.nF B.nP (t + 1) t σ)
    by_cases c : i = B.nT
    · subst c
      rw [if_pos rfl, if_pos rfl, if_pos rfl, n0, n1, n2]
      exact ⟨rfl, hf0, rfl, hr0, hs⟩
    · rw [if_neg c, if_neg c, if_neg c, show 3 * i = 3 * i + 0 by omega, old i (by omega) 0 (by decide), show 3 * i + 0 + 1 = 3 * i + 1 by omega, old i (by omega) 1 (by decide), show 3 * i + 0 + 2 = 3 * i + 2 by omega, old i (by omega) 2 (by decide)]
      exact ht i (by omega)
  · rw [e2]
    exact u3
  · rw [e1]
    exact f2
  · rw [e3]
    exact f3
  · rw [e4]
    exact f4
  · have hk2 : k < B.nT + 1 := hk
    show (if k = B.nT then B.nT else m.row k) = k
    by_cases c : k = B.nT
    · rw [if_pos c, c]
    · rw [if_neg c]
      exact f6 k (by omega)
end Rx
/-! the reference's bill stays while more is read -/
/-- the nodes that the bill names lie below k -/
def RBk (I : Nat → Nat → Int32) (nx : Nat) (B : BS) (k : Nat) : Prop := (∀ i, i < B.nP → ∃ w t, I (nx + 4) (3 * i) = nI w ∧ w < k ∧ I (nx + 4) (3 * i + 2) = nI t ∧ t < k) ∧ ∀ i, i < B.nT → B.tt i ≠ none → ∃ t, I (nx + 5) (3 * i + 2) = nI t ∧ t < k
section Kp
variable {S : AMem} {I I1 : Nat → Nat → Int32} {R : Nat → Nat → Option Nat} {y bl nx u k k1 : Nat} {B : BS} {m : MS}
theorem RBk.le (h : RBk I nx B k) (hk : k ≤ k1) : RBk I nx B k1 := by
  obtain ⟨h1, h2⟩ := h
  refine ⟨fun i hi => ?_, fun i hi hn => ?_⟩
  · obtain ⟨w, t, a1, a2, a3, a4⟩ := h1 i hi
    exact ⟨w, t, a1, by omega, a3, by omega⟩
  · obtain ⟨t, a1, a2⟩ := h2 i hi hn
    exact ⟨t, a1, by omega⟩
theorem RBk.cg {B1 : BS} (h : RBk I nx B k) (e4 : I1 (nx + 4) = I (nx + 4)) (e5 : I1 (nx + 5) = I (nx + 5)) (a1 : B1.nP = B.nP) (a2 : B1.nT = B.nT) (a3 : B1.tt = B.tt) : RBk I1 nx B1 k := by
  unfold RBk
  rw [e4, e5, a1, a2, a3]
  exact h
theorem RBk.om (hC : MCc S R y bl nx) (h : RBk I nx B k) (ho : OffM y nx k1 I I1) : RBk I1 nx B k := by
  obtain ⟨p1, p2, p3, p4, p5⟩ := hC.lo
  have e4 : I1 (nx + 4) = I (nx + 4) := funext fun j => ho _ _ (by omega) (by omega) (by omega)
  have e5 : I1 (nx + 5) = I (nx + 5) := funext fun j => ho _ _ (by omega) (by omega) (by omega)
  unfold RBk
  rw [e4, e5]
  exact h
theorem RBx.om (hC : MCc S R y bl nx) (h : RBx I nx B m u) (hk : RBk I nx B k) (hk4 : k ≤ 401) (ho : OffM y nx k I I1) : RBx I1 nx B m u := by
  obtain ⟨p1, p2, p3, p4, p5⟩ := hC.lo
  obtain ⟨⟨⟨⟨c1, d1⟩, ⟨c2, d2⟩, ⟨c3, d3⟩, c4, d4⟩, hw, hr, hf, hp, ht⟩, ⟨u1, u2, u3⟩, f2, f3, f4, f5, f6⟩ := h
  obtain ⟨hk1, hk2⟩ := hk
  have e1 : I1 (nx + 1) = I (nx + 1) := funext fun j => ho _ _ (by omega) (by omega) (by omega)
  have e2 : I1 (nx + 2) = I (nx + 2) := funext fun j => ho _ _ (by omega) (by omega) (by omega)
  have e3 : I1 (nx + 3) = I (nx + 3) := funext fun j => ho _ _ (by omega) (by omega) (by omega)
  have e4 : I1 (nx + 4) = I (nx + 4) := funext fun j => ho _ _ (by omega) (by omega) (by omega)
  have e5 : I1 (nx + 5) = I (nx + 5) := funext fun j => ho _ _ (by omega) (by omega) (by omega)
  have e0 : ∀ j, j < 10 → I1 nx j = I nx j := fun j hj => ho _ _ (by omega) (by omega) (by omega)
  have nd : ∀ w, w < k → ∀ j, j ≤ w → I1 (nx + 6) j = I (nx + 6) j ∧ I1 (nx + 7) j = I (nx + 7) j ∧ I1 (nx + 8) j = I (nx + 8) j := fun w hw j hj => ⟨ho _ _ (by omega) (by omega) (by omega), ho _ _ (by omega) (by omega) (by omega), ho _ _ (by omega) (by omega) (by omega)⟩
  unfold RBx RB RBf
  rw [e1, e2, e3, e4, e5, e0 0 (by decide), e0 1 (by decide), e0 2 (by decide), e0 3 (by decide), e0 4 (by decide)]
  refine ⟨⟨⟨⟨c1, d1⟩, ⟨c2, d2⟩, ⟨c3, d3⟩, c4, d4⟩, hw, hr, hf, fun i hi => ?_, fun i hi => ?_⟩, ⟨u1, u2, u3⟩, f2, f3, f4, f5, f6⟩
  · obtain ⟨w, t, a1, a2, a3, a4, a5, a6⟩ := hp i hi
    obtain ⟨w', t', b1, b2, b3, b4⟩ := hk1 i hi
    have ew : w = w' := (nI_eq (by omega) (by omega)).mp (a1.symm.trans b1)
    have et : t = t' := (nI_eq (by omega) (by omega)).mp (a4.symm.trans b3)
    exact ⟨w, t, a1, a2, a3.cg _ _ _ (nd w (by omega)), a4, a5, a6.cg _ _ _ (nd t (by omega))⟩
  · obtain ⟨a1, a2, a3, a4, a5⟩ := ht i hi
    refine ⟨a1, a2, a3, a4, ?_⟩
    have b := hk2 i hi
    revert a5 b
    cases B.tt i with
    | none => exact fun z _ => z
    | some s =>
      rintro ⟨t, t1, t2, t3⟩ b
      obtain ⟨t', b1, b2⟩ := b (fun q => by cases q)
      have et : t = t' := (nI_eq (by omega) (by omega)).mp (t1.symm.trans b1)
      exact ⟨t, t1, t2, t3.cg _ _ _ (nd t (by omega))⟩
end Kp

