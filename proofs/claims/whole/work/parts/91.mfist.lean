/-! the reference puts down a fist, a prize -/
section Ry
variable {G : Gp} {S : AMem} {I I1 : Nat → Nat → Int32} {J : Nat → Nat → Int64} {R : Nat → Nat → Option Nat} {y bl nx : Nat} {T : Toks} {b : BL} {a k : Nat}
theorem NmM.addF {a1 a2 a3 t : Nat} {mr mf mp : Nat → Int64} (h : NmM I y nx T a1 a2 a3 mr mf mp) (h4 : a2 < 8) (ht : t < T.n) (hk : T.k t = 258) (e2 : I1 nx 2 = nI (a2 + 1)) (e0 : I1 nx 0 = I nx 0) (e3 : I1 nx 3 = I nx 3) (en : I1 (y + 25) a2 = nI t) (eo : ∀ l, l < a2 → I1 (y + 25) l = I (y + 25) l) (e5 : I1 (y + 24) = I (y + 24)) (e6 : I1 (y + 26) = I (y + 26)) : NmM I1 y nx T a1 (a2 + 1) a3 mr (up1 mf a2 (T.v t)) mp := by
  obtain ⟨⟨h1, h2⟩, ⟨h3, h5⟩, ⟨h6, h7⟩, h8, h9, h10⟩ := h
  refine ⟨⟨e0.trans h1, h2⟩, ⟨e2, h4⟩, ⟨e3.trans h6, h7⟩, ?_, fun l hl => ?_, ?_⟩
  · rw [e5]; exact h8
  · by_cases c : l = a2
    · rw [c]
      exact ⟨t, en, ht, hk, by unfold up1; rw [if_pos rfl]⟩
    · obtain ⟨z, z1, z2, z3, z4⟩ := h9 l (by omega)
      exact ⟨z, (eo l (by omega)).trans z1, z2, z3, by unfold up1; rw [if_neg c]; exact z4⟩
  · rw [e6]; exact h10
theorem NmM.addP {a1 a2 a3 t : Nat} {mr mf mp : Nat → Int64} (h : NmM I y nx T a1 a2 a3 mr mf mp) (h4 : a3 < 8) (ht : t < T.n) (hk : T.k t = 258) (e3 : I1 nx 3 = nI (a3 + 1)) (e0 : I1 nx 0 = I nx 0) (e2 : I1 nx 2 = I nx 2) (en : I1 (y + 26) a3 = nI t) (eo : ∀ l, l < a3 → I1 (y + 26) l = I (y + 26) l) (e5 : I1 (y + 24) = I (y + 24)) (e6 : I1 (y + 25) = I (y + 25)) : NmM I1 y nx T a1 a2 (a3 + 1) mr mf (up1 mp a3 (T.v t)) := by
  obtain ⟨⟨h1, h2⟩, ⟨h3, h5⟩, ⟨h6, h7⟩, h8, h9, h10⟩ := h
  refine ⟨⟨e0.trans h1, h2⟩, ⟨e2.trans h3, h5⟩, ⟨e3, h4⟩, ?_, ?_, fun l hl => ?_⟩
  · rw [e5]; exact h8
  · rw [e6]; exact h9
  · by_cases c : l = a3
    · rw [c]
      exact ⟨t, en, ht, hk, by unfold up1; rw [if_pos rfl]⟩
    · obtain ⟨z, z1, z2, z3, z4⟩ := h10 l (by omega)
      exact ⟨z, (eo l (by omega)).trans z1, z2, z3, by unfold up1; rw [if_neg c]; exact z4⟩
theorem RBk.addP {B : BS} {σ τ : Sem} {n m : Nat} (h : RBk I nx B k) (e1 : I1 (nx + 4) (3 * B.nP) = nI n) (hn : n < k) (e2 : I1 (nx + 4) (3 * B.nP + 2) = nI m) (hm : m < k) (eo : ∀ j, j < 3 * B.nP → I1 (nx + 4) j = I (nx + 4) j) (e5 : I1 (nx + 5) = I (nx + 5)) : RBk I1 nx (BSprize B σ τ) k := by
  obtain ⟨h1, h2⟩ := h
  refine ⟨fun i hi => ?_, fun i hi hn => ?_⟩
  · have hi2 : i < B.nP + 1 := hi
    by_cases c : i = B.nP
    · subst c
      exact ⟨n, m, e1, hn, e2, hm⟩
    · obtain ⟨w, t, a1, a2, a3, a4⟩ := h1 i (by omega)
      exact ⟨w, t, (eo _ (by omega)).trans a1, a2, (eo _ (by omega)).trans a3, a4⟩
  · rw [e5]
    exact h2 i hi hn
theorem PL.fist {P5 : PS} {v1 : Int64} {B1 : BL} {a1 a2 a3 t u0 t0 a5 k5 : Nat} {mr mf mp : Nat → Int64} {hi pu sp : Int32} (hC : MCc S R y bl nx) (h : PC I y nx T (ixB b) (b.B.nR, b.B.nF, b.B.nP) (P5, b.L) 0 a5 k5) (h4 : a2 < 8) (hnm : P5.2.1 ≠ 1 → NmM I y nx T a1 a2 a3 mr mf mp ∧ t < T.n ∧ T.k t = 258 ∧ v1 = T.v t) (hA : b.P.2.1 = 0 → NmA (ixB b) (b.B.nR, b.B.nF, b.B.nP) a1 a2 a3 mr mf mp ∧ RBx I nx b.B b.m b.u ∧ RBk I nx b.B k5) (hu : I nx 1 = nI u0 ∧ u0 ≤ 12 ∧ I nx 4 = nI t0 ∧ t0 ≤ 20) {tk : Int32} (htk : P5.2.1 ≠ 1 → tk = nI t) (h0 : P5.2.1 = 0 → b.P.2.1 = 0 ∧ b.B.nF < 8) (hB0 : P5.2.1 = 0 → B1 = (P5, b.L, BSfist b.B, MSfist b.m b.B.nF hi pu sp, b.u, b.nr, up1 b.nf b.B.nF v1, b.np)) (hB1 : P5.2.1 ≠ 0 → B1 = BP b P5) : PL (rwI I (nx + 3) (3 * a2) hi pu sp (y + 25) a2 tk nx 2 (nI (a2 + 1))) y nx T B1 a5 k5 := by
  obtain ⟨p1, p2, p3, p4, p5⟩ := hC.lo
  have e : ∀ x j, rwI I (nx + 3) (3 * a2) hi pu sp (y + 25) a2 tk nx 2 (nI (a2 + 1)) x j = if x = nx + 3 ∧ j = 3 * a2 then hi else if x = nx + 3 ∧ j = 3 * a2 + 1 then pu else if x = nx + 3 ∧ j = 3 * a2 + 2 then sp else if x = nx ∧ j = 2 then nI (a2 + 1) else if x = y + 25 ∧ j = a2 then tk else I x j := fun x j => rwI_at (by omega) (by omega) (by omega) x j
  generalize rwI I (nx + 3) (3 * a2) hi pu sp (y + 25) a2 tk nx 2 (nI (a2 + 1)) = I2 at e ⊢
  have eo : ∀ x j, (x ≠ nx + 3) → (x = nx → j ≠ 2) → (x = y + 25 → j ≠ a2) → I2 x j = I x j := fun x j q1 q2 q3 => by
    rw [e, if_neg (by omega), if_neg (by omega), if_neg (by omega), if_neg (by omega), if_neg (by omega)]
  have fr : ∀ x j, (x < y + 6 → x ≠ nx → I2 x j = I x j) ∧ I2 nx 10 = I nx 10 := fun x j => ⟨fun q1 q2 => eo x j (by omega) (by omega) (by omega), eo _ _ (by omega) (by omega) (by omega)⟩
  have nm2 : P5.2.1 ≠ 1 → NmM I2 y nx T a1 (a2 + 1) a3 mr (up1 mf a2 (T.v t)) mp := fun q => by
    obtain ⟨z1, z2, z3, _⟩ := hnm q
    exact z1.addF h4 z2 z3 (by rw [e, if_neg (by omega), if_neg (by omega), if_neg (by omega), if_pos ⟨rfl, rfl⟩]) (eo _ _ (by omega) (by omega) (by omega)) (eo _ _ (by omega) (by omega) (by omega)) (by rw [e, if_neg (by omega), if_neg (by omega), if_neg (by omega), if_neg (by omega), if_pos ⟨rfl, rfl⟩, htk q]) (fun l hl => eo _ _ (by omega) (by omega) (by omega)) (funext fun j => eo _ _ (by omega) (by omega) (by omega)) (funext fun j => eo _ _ (by omega) (by omega) (by omega))
  have cn : ∃ u t, I2 nx 1 = nI u ∧ u ≤ 12 ∧ I2 nx 4 = nI t ∧ t ≤ 20 := ⟨u0, t0, (eo _ _ (by omega) (by omega) (by omega)).trans hu.1, hu.2.1, (eo _ _ (by omega) (by omega) (by omega)).trans hu.2.2.1, hu.2.2.2⟩
  by_cases c : P5.2.1 = 0
  · rw [hB0 c]
    obtain ⟨g2, g3⟩ := h0 c
    have c1 : P5.2.1 ≠ 1 := by rw [c]; decide
    obtain ⟨z1, z2, z3, z4⟩ := hnm c1
    obtain ⟨x1, x2, x3⟩ := hA g2
    obtain ⟨⟨w1, w2, w3⟩, w4, w5, w6⟩ := x1.on
    have nm3 := nm2 c1
    refine ⟨?_, fun _ => cn, fun _ => ?_⟩
    · refine h.nm hC fr (fun _ => ⟨a1, a2 + 1, a3, mr, _, mp, nm3, fun _ => ?_⟩)
      refine NmA.of ⟨w1, by show b.B.nF + 1 = _; rw [w2], w3⟩ w4 (fun v => ?_) w6
      show fndJ (up1 b.nf b.B.nF v1) v 0 (b.B.nF + 1) = fndJ (up1 mf a2 (T.v t)) v 0 (a2 + 1)
      rw [w2] at w5 ⊢
      rw [z4]
      exact fndJ_up (by omega) w5 v
    · show RBx I2 nx (BSfist b.B) (MSfist b.m b.B.nF hi pu sp) b.u ∧ RBk I2 nx (BSfist b.B) k5
      refine ⟨?_, x3.cg (B1 := BSfist b.B) (funext fun j => eo _ _ (by omega) (by omega) (by omega)) (funext fun j => eo _ _ (by omega) (by omega) (by omega)) rfl rfl rfl⟩
      refine RBx.fist x2 g3 (fun x j q1 q2 => ?_)
      rw [e, w2]
      by_cases c1 : x = nx + 3 ∧ j = 3 * a2
      · rw [if_pos c1, if_pos c1]
      · rw [if_neg c1, if_neg c1]
        by_cases c2 : x = nx + 3 ∧ j = 3 * a2 + 1
        · rw [if_pos c2, if_pos c2]
        · rw [if_neg c2, if_neg c2]
          by_cases c3 : x = nx + 3 ∧ j = 3 * a2 + 2
          · rw [if_pos c3, if_pos c3]
          · rw [if_neg c3, if_neg c3]
            by_cases c4 : x = nx ∧ j = 2
            · rw [if_pos c4, if_pos c4]
            · rw [if_neg c4, if_neg c4, if_neg (by omega)]
  · rw [hB1 c]
    have h' : PC I2 y nx T (ixB b) (b.B.nR, b.B.nF, b.B.nP) (P5, b.L) 0 a5 k5 := h.nm hC fr (fun q => ⟨a1, a2 + 1, a3, mr, _, mp, nm2 q, fun z => absurd z c⟩)
    exact PL.bp h' rfl rfl rfl rfl (fun _ => cn) c
theorem PL.prize {P5 : PS} {L5 : Cd} {σ τ : Sem} {v1 : Int64} {B1 : BL} {a1 a2 a3 t u0 t0 a5 k5 : Nat} {mr mf mp : Nat → Int64} {hi pu sp : Int32} (hC : MCc S R y bl nx) (h : PC I y nx T (ixB b) (b.B.nR, b.B.nF, b.B.nP) (P5, L5) 0 a5 k5) (h4 : a3 < 8) (hnm : P5.2.1 ≠ 1 → NmM I y nx T a1 a2 a3 mr mf mp ∧ t < T.n ∧ T.k t = 258 ∧ v1 = T.v t) (hA : b.P.2.1 = 0 → NmA (ixB b) (b.B.nR, b.B.nF, b.B.nP) a1 a2 a3 mr mf mp ∧ RBx I nx b.B b.m b.u ∧ RBk I nx b.B k5) (hu : I nx 1 = nI u0 ∧ u0 ≤ 12 ∧ I nx 4 = nI t0 ∧ t0 ≤ 20) {tk : Int32} (htk : P5.2.1 ≠ 1 → tk = nI t) (h0 : P5.2.1 = 0 → b.P.2.1 = 0 ∧ b.B.nP < 8 ∧ 0 ≤ pu ∧ ∃ n m, hi = nI n ∧ sp = nI m ∧ n < k5 ∧ m < k5 ∧ k5 ≤ 401 ∧ NdN (I (nx + 6)) (I (nx + 7)) (I (nx + 8)) b.B.nR b.B.nF b.B.nP (n + 1) n σ ∧ NdB (I (nx + 6)) (I (nx + 7)) (I (nx + 8)) b.B.nR b.B.nF b.B.nP (m + 1) m τ) (hB0 : P5.2.1 = 0 → B1 = (P5, L5, BSprize b.B σ τ, MSprize b.m b.B.nP pu, b.u, b.nr, b.nf, up1 b.np b.B.nP v1)) (hB1 : P5.2.1 ≠ 0 → B1 = BE b (P5, L5)) : PL (rwI I (nx + 4) (3 * a3) hi pu sp (y + 26) a3 tk nx 3 (nI (a3 + 1))) y nx T B1 a5 k5 := by
  obtain ⟨p1, p2, p3, p4, p5⟩ := hC.lo
  have e : ∀ x j, rwI I (nx + 4) (3 * a3) hi pu sp (y + 26) a3 tk nx 3 (nI (a3 + 1)) x j = if x = nx + 4 ∧ j = 3 * a3 then hi else if x = nx + 4 ∧ j = 3 * a3 + 1 then pu else if x = nx + 4 ∧ j = 3 * a3 + 2 then sp else if x = nx ∧ j = 3 then nI (a3 + 1) else if x = y + 26 ∧ j = a3 then tk else I x j := fun x j => rwI_at (by omega) (by omega) (by omega) x j
  generalize rwI I (nx + 4) (3 * a3) hi pu sp (y + 26) a3 tk nx 3 (nI (a3 + 1)) = I2 at e ⊢
  have eo : ∀ x j, (x ≠ nx + 4) → (x = nx → j ≠ 3) → (x = y + 26 → j ≠ a3) → I2 x j = I x j := fun x j q1 q2 q3 => by
    rw [e, if_neg (by omega), if_neg (by omega), if_neg (by omega), if_neg (by omega), if_neg (by omega)]
  have fr : ∀ x j, (x < y + 6 → x ≠ nx → I2 x j = I x j) ∧ I2 nx 10 = I nx 10 := fun x j => ⟨fun q1 q2 => eo x j (by omega) (by omega) (by omega), eo _ _ (by omega) (by omega) (by omega)⟩
  have nm2 : P5.2.1 ≠ 1 → NmM I2 y nx T a1 a2 (a3 + 1) mr mf (up1 mp a3 (T.v t)) := fun q => by
    obtain ⟨z1, z2, z3, _⟩ := hnm q
    exact z1.addP h4 z2 z3 (by rw [e, if_neg (by omega), if_neg (by omega), if_neg (by omega), if_pos ⟨rfl, rfl⟩]) (eo _ _ (by omega) (by omega) (by omega)) (eo _ _ (by omega) (by omega) (by omega)) (by rw [e, if_neg (by omega), if_neg (by omega), if_neg (by omega), if_neg (by omega), if_pos ⟨rfl, rfl⟩, htk q]) (fun l hl => eo _ _ (by omega) (by omega) (by omega)) (funext fun j => eo _ _ (by omega) (by omega) (by omega)) (funext fun j => eo _ _ (by omega) (by omega) (by omega))
  have cn : ∃ u t, I2 nx 1 = nI u ∧ u ≤ 12 ∧ I2 nx 4 = nI t ∧ t ≤ 20 := ⟨u0, t0, (eo _ _ (by omega) (by omega) (by omega)).trans hu.1, hu.2.1, (eo _ _ (by omega) (by omega) (by omega)).trans hu.2.2.1, hu.2.2.2⟩
  by_cases c : P5.2.1 = 0
  · rw [hB0 c]
    obtain ⟨g2, g3, g4, n, m, g5, g6, g7, g8, g9, g10, g11⟩ := h0 c
    have c1 : P5.2.1 ≠ 1 := by rw [c]; decide
    obtain ⟨z1, z2, z3, z4⟩ := hnm c1
    obtain ⟨x1, x2, x3⟩ := hA g2
    obtain ⟨⟨w1, w2, w3⟩, w4, w5, w6⟩ := x1.on
    have nm3 := nm2 c1
    refine ⟨?_, fun _ => cn, fun _ => ?_⟩
    · refine h.nm hC fr (fun _ => ⟨a1, a2, a3 + 1, mr, mf, _, nm3, fun _ => ?_⟩)
      refine NmA.of ⟨w1, w2, by show b.B.nP + 1 = _; rw [w3]⟩ w4 w5 (fun v => ?_)
      show fndJ (up1 b.np b.B.nP v1) v 0 (b.B.nP + 1) = fndJ (up1 mp a3 (T.v t)) v 0 (a3 + 1)
      rw [w3] at w6 ⊢
      rw [z4]
      exact fndJ_up (by omega) w6 v
    · show RBx I2 nx (BSprize b.B σ τ) (MSprize b.m b.B.nP pu) b.u ∧ RBk I2 nx (BSprize b.B σ τ) k5
      refine ⟨?_, x3.addP (by rw [w3, e, if_pos ⟨rfl, rfl⟩, g5]) g7 (by rw [w3, e, if_neg (by omega), if_neg (by omega), if_pos ⟨rfl, rfl⟩, g6]) g8 (fun j hj => by rw [w3] at hj; rw [e, if_neg (by omega), if_neg (by omega), if_neg (by omega), if_neg (by omega), if_neg (by omega)]) (funext fun j => eo _ _ (by omega) (by omega) (by omega))⟩
      refine RBx.prize x2 g3 g4 (by omega) (by omega) g10 g11 (fun x j q1 q2 => ?_)
      rw [e, w3, g5, g6]
      by_cases c1 : x = nx + 4 ∧ j = 3 * a3
      · rw [if_pos c1, if_pos c1]
      · rw [if_neg c1, if_neg c1]
        by_cases c2 : x = nx + 4 ∧ j = 3 * a3 + 1
        · rw [if_pos c2, if_pos c2]
        · rw [if_neg c2, if_neg c2]
          by_cases c3 : x = nx + 4 ∧ j = 3 * a3 + 2
          · rw [if_pos c3, if_pos c3]
          · rw [if_neg c3, if_neg c3]
            by_cases c4 : x = nx ∧ j = 3
            · rw [if_pos c4, if_pos c4]
            · rw [if_neg c4, if_neg c4, if_neg (by omega)]
  · rw [hB1 c]
    have h' : PC I2 y nx T (ixB b) (b.B.nR, b.B.nF, b.B.nP) (P5, L5) 0 a5 k5 := h.nm hC fr (fun q => ⟨a1, a2, a3 + 1, mr, mf, _, nm2 q, fun z => absurd z c⟩)
    exact PL.bp h' rfl rfl rfl rfl (fun _ => cn) c
end Ry

