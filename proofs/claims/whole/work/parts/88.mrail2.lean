/-! the reference reads a rail: the method -/
section Rm
variable {G : Gp} {S : AMem} {I I1 : Nat → Nat → Int32} {J : Nat → Nat → Int64} {R : Nat → Nat → Option Nat} {y bl nx : Nat} {T : Toks} {b : BL} {a k : Nat}
theorem rR_0 (h : (rR5 T b).2.1 = 0) : (rR1 T b).2.1 = 0 ∧ b.P.2.1 = 0 ∧ b.B.nR < 4 ∧ (20 ≤ pW T 301 (rR2 T b) ∧ pW T 301 (rR2 T b) ≤ 99) ∧ 1 ≤ pW T 302 (rR3 T b) ∧ pW T 302 (rR3 T b) ≤ 9 := by
  unfold rR5 at h
  obtain ⟨g1, _⟩ := pNum_0 h
  unfold rR4 at g1
  obtain ⟨g2, _, _, _, g3, g4, _⟩ := pNum_0 g1
  unfold rR3 at g2
  obtain ⟨g5, _, _, _, g7, g8, _⟩ := pNum_0 g2
  unfold rR2 at g5
  obtain ⟨g9, _, _, g6, _⟩ := pNew_0 g5
  have z := k_rng g3 g4
  have z2 := k_rng g7 g8
  have g10 := g9
  unfold rR1 at g10
  exact ⟨g9, (pEx_0 g10).1, Nat.not_le.mp (bI_e0.mp g6), ⟨z2.1, z2.2.1⟩, z.1, z.2.1⟩
/-- the five cells that a new rail, fist or prize writes -/
def rwI (I : Nat → Nat → Int32) (q p : Nat) (u v w : Int32) (nq l : Nat) (t : Int32) (nx c : Nat) (n : Int32) : Nat → Nat → Int32 := up2 (up2 (up2 (up2 (up2 I q p u) q (p + 1) v) q (p + 2) w) nq l t) nx c n
theorem rwI_at {q p nq l nx c : Nat} {u v w t n : Int32} (h1 : q ≠ nq) (h2 : q ≠ nx) (h3 : nq ≠ nx) (x j : Nat) : rwI I q p u v w nq l t nx c n x j = if x = q ∧ j = p then u else if x = q ∧ j = p + 1 then v else if x = q ∧ j = p + 2 then w else if x = nx ∧ j = c then n else if x = nq ∧ j = l then t else I x j := by
  unfold rwI
  rw [up2_at, up2_at, up2_at, up2_at, up2_at]
  by_cases e1 : x = nx ∧ j = c
  · rw [if_pos e1, if_neg (by omega), if_neg (by omega), if_neg (by omega), if_pos e1]
  · rw [if_neg e1, if_neg e1]
    by_cases e2 : x = nq ∧ j = l
    · rw [if_pos e2, if_neg (by omega), if_neg (by omega), if_neg (by omega), if_pos e2]
    · rw [if_neg e2, if_neg e2]
      by_cases e3 : x = q ∧ j = p + 2
      · rw [if_pos e3, if_neg (by omega), if_neg (by omega), if_pos e3]
      · rw [if_neg e3, if_neg e3]
        by_cases e4 : x = q ∧ j = p + 1
        · rw [if_pos e4, if_neg (by omega), if_pos e4]
        · rw [if_neg e4, if_neg e4]
theorem PL.rail {P5 : PS} {v1 : Int64} {B1 : BL} {a1 a2 a3 t u0 t0 a5 k5 : Nat} {mr mf mp : Nat → Int64} {hi pu sp : Int32} (hC : MCc S R y bl nx) (h : PC I y nx T (ixB b) (b.B.nR, b.B.nF, b.B.nP) (P5, b.L) 0 a5 k5) (h4 : a1 < 4) (hnm : P5.2.1 ≠ 1 → NmM I y nx T a1 a2 a3 mr mf mp ∧ t < T.n ∧ T.k t = 258 ∧ v1 = T.v t) (hA : b.P.2.1 = 0 → NmA (ixB b) (b.B.nR, b.B.nF, b.B.nP) a1 a2 a3 mr mf mp ∧ RBx I nx b.B b.m b.u ∧ RBk I nx b.B k5) (hu : I nx 1 = nI u0 ∧ u0 ≤ 12 ∧ I nx 4 = nI t0 ∧ t0 ≤ 20) {tk : Int32} (htk : P5.2.1 ≠ 1 → tk = nI t) (h0 : P5.2.1 = 0 → b.P.2.1 = 0 ∧ b.B.nR < 4 ∧ (20 ≤ hi ∧ hi ≤ 99) ∧ 1 ≤ pu ∧ pu ≤ 9) (hB0 : P5.2.1 = 0 → B1 = (P5, b.L, BSrail b.B, MSrail b.m b.B.nR hi pu sp, b.u, up1 b.nr b.B.nR v1, b.nf, b.np)) (hB1 : P5.2.1 ≠ 0 → B1 = BP b P5) : PL (rwI I (nx + 1) (3 * a1) hi pu sp (y + 24) a1 tk nx 0 (nI (a1 + 1))) y nx T B1 a5 k5 := by
  obtain ⟨p1, p2, p3, p4, p5⟩ := hC.lo
  have e : ∀ x j, rwI I (nx + 1) (3 * a1) hi pu sp (y + 24) a1 tk nx 0 (nI (a1 + 1)) x j = if x = nx + 1 ∧ j = 3 * a1 then hi else if x = nx + 1 ∧ j = 3 * a1 + 1 then pu else if x = nx + 1 ∧ j = 3 * a1 + 2 then sp else if x = nx ∧ j = 0 then nI (a1 + 1) else if x = y + 24 ∧ j = a1 then tk else I x j := fun x j => rwI_at (by omega) (by omega) (by omega) x j
  generalize rwI I (nx + 1) (3 * a1) hi pu sp (y + 24) a1 tk nx 0 (nI (a1 + 1)) = I2 at e ⊢
  have eo : ∀ x j, (x ≠ nx + 1) → (x = nx → j ≠ 0) → (x = y + 24 → j ≠ a1) → I2 x j = I x j := fun x j q1 q2 q3 => by
    rw [e, if_neg (by omega), if_neg (by omega), if_neg (by omega), if_neg (by omega), if_neg (by omega)]
  have fr : ∀ x j, (x < y + 6 → x ≠ nx → I2 x j = I x j) ∧ I2 nx 10 = I nx 10 := fun x j => ⟨fun q1 q2 => eo x j (by omega) (by omega) (by omega), eo _ _ (by omega) (by omega) (by omega)⟩
  have nm2 : P5.2.1 ≠ 1 → NmM I2 y nx T (a1 + 1) a2 a3 (up1 mr a1 (T.v t)) mf mp := fun q => by
    obtain ⟨z1, z2, z3, _⟩ := hnm q
    exact z1.addR h4 z2 z3 (by rw [e, if_neg (by omega), if_neg (by omega), if_neg (by omega), if_pos ⟨rfl, rfl⟩]) (eo _ _ (by omega) (by omega) (by omega)) (eo _ _ (by omega) (by omega) (by omega)) (by rw [e, if_neg (by omega), if_neg (by omega), if_neg (by omega), if_neg (by omega), if_pos ⟨rfl, rfl⟩, htk q]) (fun l hl => eo _ _ (by omega) (by omega) (by omega)) (funext fun j => eo _ _ (by omega) (by omega) (by omega)) (funext fun j => eo _ _ (by omega) (by omega) (by omega))
  have cn : ∃ u t, I2 nx 1 = nI u ∧ u ≤ 12 ∧ I2 nx 4 = nI t ∧ t ≤ 20 := ⟨u0, t0, (eo _ _ (by omega) (by omega) (by omega)).trans hu.1, hu.2.1, (eo _ _ (by omega) (by omega) (by omega)).trans hu.2.2.1, hu.2.2.2⟩
  by_cases c : P5.2.1 = 0
  · rw [hB0 c]
    obtain ⟨g2, g3, g4, g5⟩ := h0 c
    have c1 : P5.2.1 ≠ 1 := by rw [c]; decide
    obtain ⟨z1, z2, z3, z4⟩ := hnm c1
    obtain ⟨x1, x2, x3⟩ := hA g2
    obtain ⟨⟨w1, w2, w3⟩, w4, w5, w6⟩ := x1.on
    have nm3 := nm2 c1
    have gb : (0 < hi ∧ hi < 100) ∧ 0 < pu ∧ pu ≤ 9 := ⟨⟨Int32.lt_of_lt_of_le (by decide) g4.1, Int32.lt_of_le_of_lt g4.2 (by decide)⟩, Int32.lt_of_lt_of_le (by decide) g5.1, g5.2⟩
    refine ⟨?_, fun _ => cn, fun _ => ?_⟩
    · refine h.nm hC fr (fun _ => ⟨a1 + 1, a2, a3, _, mf, mp, nm3, fun _ => ?_⟩)
      refine NmA.of ⟨by show b.B.nR + 1 = _; rw [w1], w2, w3⟩ (fun v => ?_) w5 w6
      show fndJ (up1 b.nr b.B.nR v1) v 0 (b.B.nR + 1) = fndJ (up1 mr a1 (T.v t)) v 0 (a1 + 1)
      rw [w1] at w4 ⊢
      rw [z4]
      exact fndJ_up (by omega) w4 v
    · show RBx I2 nx (BSrail b.B) (MSrail b.m b.B.nR hi pu sp) b.u ∧ RBk I2 nx (BSrail b.B) k5
      refine ⟨?_, x3.cg (B1 := BSrail b.B) (funext fun j => eo _ _ (by omega) (by omega) (by omega)) (funext fun j => eo _ _ (by omega) (by omega) (by omega)) rfl rfl rfl⟩
      refine RBx.rail x2 g3 gb.1 gb.2 (fun x j q1 q2 => ?_)
      rw [e, w1]
      by_cases c1 : x = nx + 1 ∧ j = 3 * a1
      · rw [if_pos c1, if_pos c1]
      · rw [if_neg c1, if_neg c1]
        by_cases c2 : x = nx + 1 ∧ j = 3 * a1 + 1
        · rw [if_pos c2, if_pos c2]
        · rw [if_neg c2, if_neg c2]
          by_cases c3 : x = nx + 1 ∧ j = 3 * a1 + 2
          · rw [if_pos c3, if_pos c3]
          · rw [if_neg c3, if_neg c3]
            by_cases c4 : x = nx ∧ j = 0
            · rw [if_pos c4, if_pos c4]
            · rw [if_neg c4, if_neg c4, if_neg (by omega)]
  · rw [hB1 c]
    have h' : PC I2 y nx T (ixB b) (b.B.nR, b.B.nF, b.B.nP) (P5, b.L) 0 a5 k5 := h.nm hC fr (fun q => ⟨a1 + 1, a2, a3, _, mf, mp, nm2 q, fun z => absurd z c⟩)
    exact PL.bp h' rfl rfl rfl rfl (fun _ => cn) c
end Rm

