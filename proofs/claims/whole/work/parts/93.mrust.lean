/-! the reference puts down a rust, a turn -/
section Rz
variable {G : Gp} {S : AMem} {I I1 : Nat → Nat → Int32} {J : Nat → Nat → Int64} {R : Nat → Nat → Option Nat} {y bl nx : Nat} {T : Toks} {b : BL} {a k : Nat}
/-- the five cells that a new rust writes -/
def ruI (I : Nat → Nat → Int32) (q p : Nat) (r f t v : Int32) (nx : Nat) (n : Int32) : Nat → Nat → Int32 := up2 (up2 (up2 (up2 (up2 I q p r) q (p + 1) f) q (p + 2) t) q (p + 3) v) nx 1 n
theorem ruI_at {q p : Nat} {r f t v n : Int32} (h : q ≠ nx) (x j : Nat) : ruI I q p r f t v nx n x j = if x = q ∧ j = p then r else if x = q ∧ j = p + 1 then f else if x = q ∧ j = p + 2 then t else if x = q ∧ j = p + 3 then v else if x = nx ∧ j = 1 then n else I x j := by
  unfold ruI
  rw [up2_at, up2_at, up2_at, up2_at, up2_at]
  by_cases e1 : x = nx ∧ j = 1
  · rw [if_pos e1, if_neg (by omega), if_neg (by omega), if_neg (by omega), if_neg (by omega), if_pos e1]
  · rw [if_neg e1, if_neg e1]
    by_cases e2 : x = q ∧ j = p + 3
    · rw [if_pos e2, if_neg (by omega), if_neg (by omega), if_neg (by omega), if_pos e2]
    · rw [if_neg e2, if_neg e2]
      by_cases e3 : x = q ∧ j = p + 2
      · rw [if_pos e3, if_neg (by omega), if_neg (by omega), if_pos e3]
      · rw [if_neg e3, if_neg e3]
        by_cases e4 : x = q ∧ j = p + 1
        · rw [if_pos e4, if_neg (by omega), if_pos e4]
        · rw [if_neg e4, if_neg e4]
theorem ruI_off {q p : Nat} {r f t v n : Int32} (h1 : nx ≤ q) (h2 : q < nx + 9) : OffP y nx I (ruI I q p r f t v nx n) := fun x j e1 e2 e3 => by
  unfold ruI
  rw [up2_a (by omega), up2_a (by omega), up2_a (by omega), up2_a (by omega), up2_a (by omega)]
/-- the four cells that a new turn writes -/
def tuI (I : Nat → Nat → Int32) (q p : Nat) (f r v : Int32) (nx : Nat) (n : Int32) : Nat → Nat → Int32 := up2 (up2 (up2 (up2 I q p f) q (p + 1) r) q (p + 2) v) nx 4 n
theorem tuI_at {q p : Nat} {r f v n : Int32} (h : q ≠ nx) (x j : Nat) : tuI I q p f r v nx n x j = if x = q ∧ j = p then f else if x = q ∧ j = p + 1 then r else if x = q ∧ j = p + 2 then v else if x = nx ∧ j = 4 then n else I x j := by
  unfold tuI
  rw [up2_at, up2_at, up2_at, up2_at]
  by_cases e1 : x = nx ∧ j = 4
  · rw [if_pos e1, if_neg (by omega), if_neg (by omega), if_neg (by omega), if_pos e1]
  · rw [if_neg e1, if_neg e1]
    by_cases e3 : x = q ∧ j = p + 2
    · rw [if_pos e3, if_neg (by omega), if_neg (by omega), if_pos e3]
    · rw [if_neg e3, if_neg e3]
      by_cases e4 : x = q ∧ j = p + 1
      · rw [if_pos e4, if_neg (by omega), if_pos e4]
      · rw [if_neg e4, if_neg e4]
theorem tuI_off {q p : Nat} {r f v n : Int32} (h1 : nx ≤ q) (h2 : q < nx + 9) : OffP y nx I (tuI I q p f r v nx n) := fun x j e1 e2 e3 => by
  unfold tuI
  rw [up2_a (by omega), up2_a (by omega), up2_a (by omega), up2_a (by omega)]
theorem RBk.addT {B : BS} {f r : Nat} {s : Option Sem} (h : RBk I nx B k) (e4 : I1 (nx + 4) = I (nx + 4)) (hs : s ≠ none → ∃ t, I1 (nx + 5) (3 * B.nT + 2) = nI t ∧ t < k) (eo : ∀ j, j < 3 * B.nT → I1 (nx + 5) j = I (nx + 5) j) : RBk I1 nx (BSturn B f r s) k := by
  obtain ⟨h1, h2⟩ := h
  refine ⟨?_, fun i hi hn => ?_⟩
  · rw [e4]
    exact h1
  · have hi2 : i < B.nT + 1 := hi
    have hn2 : (if i = B.nT then s else B.tt i) ≠ none := hn
    by_cases c : i = B.nT
    · rw [if_pos c] at hn2
      subst c
      exact hs hn2
    · rw [if_neg c] at hn2
      obtain ⟨t, t1, t2⟩ := h2 i (by omega) hn2
      exact ⟨t, (eo _ (by omega)).trans t1, t2⟩
theorem PL.rust {P5 : PS} {B1 : BL} {u0 t0 a5 k5 ri : Nat} {r5 f5 t5 v5 : Int32} (hC : MCc S R y bl nx) (h : PC I y nx T (ixB b) (b.B.nR, b.B.nF, b.B.nP) (P5, b.L) 0 a5 k5) (h4 : u0 < 12) (hu : I nx 1 = nI u0 ∧ I nx 4 = nI t0 ∧ t0 ≤ 20) (hA : b.P.2.1 = 0 → RBx I nx b.B b.m b.u ∧ RBk I nx b.B k5) (h0 : P5.2.1 = 0 → b.P.2.1 = 0 ∧ r5 = nI ri ∧ ri < b.B.nR) (hB0 : P5.2.1 = 0 → B1 = (P5, b.L, BSrust b.B ri f5 t5 v5, b.m, b.u + 1, b.nr, b.nf, b.np)) (hB1 : P5.2.1 ≠ 0 → B1 = BP b P5) : PL (ruI I (nx + 2) (4 * u0) r5 f5 t5 v5 nx (nI (u0 + 1))) y nx T B1 a5 k5 := by
  obtain ⟨p1, p2, p3, p4, p5⟩ := hC.lo
  have e : ∀ x j, ruI I (nx + 2) (4 * u0) r5 f5 t5 v5 nx (nI (u0 + 1)) x j = if x = nx + 2 ∧ j = 4 * u0 then r5 else if x = nx + 2 ∧ j = 4 * u0 + 1 then f5 else if x = nx + 2 ∧ j = 4 * u0 + 2 then t5 else if x = nx + 2 ∧ j = 4 * u0 + 3 then v5 else if x = nx ∧ j = 1 then nI (u0 + 1) else I x j := fun x j => ruI_at (by omega) x j
  generalize ruI I (nx + 2) (4 * u0) r5 f5 t5 v5 nx (nI (u0 + 1)) = I2 at e ⊢
  have eo : ∀ x j, (x ≠ nx + 2) → (x = nx → j ≠ 1) → I2 x j = I x j := fun x j q1 q2 => by
    rw [e, if_neg (by omega), if_neg (by omega), if_neg (by omega), if_neg (by omega), if_neg (by omega)]
  have fr : ∀ x j, (x < y + 6 → x ≠ nx → I2 x j = I x j) ∧ I2 nx 10 = I nx 10 := fun x j => ⟨fun q1 q2 => eo x j (by omega) (by omega), eo _ _ (by omega) (by omega)⟩
  have cn : ∃ u t, I2 nx 1 = nI u ∧ u ≤ 12 ∧ I2 nx 4 = nI t ∧ t ≤ 20 := ⟨u0 + 1, t0, by rw [e, if_neg (by omega), if_neg (by omega), if_neg (by omega), if_neg (by omega), if_pos ⟨rfl, rfl⟩], h4, (eo _ _ (by omega) (by omega)).trans hu.2.1, hu.2.2⟩
  have nm2 : ∀ {a1 a2 a3 : Nat} {mr mf mp : Nat → Int64}, NmM I y nx T a1 a2 a3 mr mf mp → NmM I2 y nx T a1 a2 a3 mr mf mp := fun {a1 a2 a3 mr mf mp} z => by
    obtain ⟨⟨z1, z2⟩, ⟨z3, z4⟩, ⟨z5, z6⟩, z7, z8, z9⟩ := z
    refine ⟨⟨(eo _ _ (by omega) (by omega)).trans z1, z2⟩, ⟨(eo _ _ (by omega) (by omega)).trans z3, z4⟩, ⟨(eo _ _ (by omega) (by omega)).trans z5, z6⟩, fun l hl => ?_, fun l hl => ?_, fun l hl => ?_⟩
    · rw [eo _ _ (by omega) (by omega)]; exact z7 l hl
    · rw [eo _ _ (by omega) (by omega)]; exact z8 l hl
    · rw [eo _ _ (by omega) (by omega)]; exact z9 l hl
  have h' : PC I2 y nx T (ixB b) (b.B.nR, b.B.nF, b.B.nP) (P5, b.L) 0 a5 k5 := h.nm hC fr (fun q => by
    obtain ⟨a1, a2, a3, mr, mf, mp, z1, z2⟩ := h.nmm q
    exact ⟨a1, a2, a3, mr, mf, mp, nm2 z1, z2⟩)
  by_cases c : P5.2.1 = 0
  · rw [hB0 c]
    obtain ⟨g2, g3, g4⟩ := h0 c
    obtain ⟨x2, x3⟩ := hA g2
    have eu : b.u = u0 := (nI_eq (by have := x2.2.1.2.1; omega) (by omega)).mp (x2.2.1.1.symm.trans hu.1)
    refine ⟨h', fun _ => cn, fun _ => ?_⟩
    show RBx I2 nx (BSrust b.B ri f5 t5 v5) b.m (b.u + 1) ∧ RBk I2 nx (BSrust b.B ri f5 t5 v5) k5
    refine ⟨?_, x3.cg (B1 := BSrust b.B ri f5 t5 v5) (funext fun j => eo _ _ (by omega) (by omega)) (funext fun j => eo _ _ (by omega) (by omega)) rfl rfl rfl⟩
    refine RBx.rust x2 g4 (by omega) (fun x j q1 q2 => ?_)
    rw [e, eu, g3]
  · rw [hB1 c]
    exact PL.bp h' rfl rfl rfl rfl (fun _ => cn) c
theorem PL.turn {P5 : PS} {L5 : Cd} {B1 : BL} {u0 t0 a5 k5 fi ri : Nat} {f5 r5 v5 : Int32} {s : Option Sem} (hC : MCc S R y bl nx) (h : PC I y nx T (ixB b) (b.B.nR, b.B.nF, b.B.nP) (P5, L5) 0 a5 k5) (h4 : t0 < 20) (hu : I nx 1 = nI u0 ∧ u0 ≤ 12 ∧ I nx 4 = nI t0) (hA : b.P.2.1 = 0 → RBx I nx b.B b.m b.u ∧ RBk I nx b.B k5) (h0 : P5.2.1 = 0 → b.P.2.1 = 0 ∧ (f5 = nI fi ∧ fi < b.B.nF) ∧ (r5 = nI ri ∧ ri < b.B.nR) ∧ k5 ≤ 401 ∧ (s = none → v5 = -1) ∧ ∀ σ, s = some σ → ∃ t, v5 = nI t ∧ t < k5 ∧ NdB (I (nx + 6)) (I (nx + 7)) (I (nx + 8)) b.B.nR b.B.nF b.B.nP (t + 1) t σ) (hB0 : P5.2.1 = 0 → B1 = (P5, L5, BSturn b.B fi ri s, MSturn b.m b.B.nT, b.u, b.nr, b.nf, b.np)) (hB1 : P5.2.1 ≠ 0 → B1 = BE b (P5, L5)) : PL (tuI I (nx + 5) (3 * t0) f5 r5 v5 nx (nI (t0 + 1))) y nx T B1 a5 k5 := by
  obtain ⟨p1, p2, p3, p4, p5⟩ := hC.lo
  have e : ∀ x j, tuI I (nx + 5) (3 * t0) f5 r5 v5 nx (nI (t0 + 1)) x j = if x = nx + 5 ∧ j = 3 * t0 then f5 else if x = nx + 5 ∧ j = 3 * t0 + 1 then r5 else if x = nx + 5 ∧ j = 3 * t0 + 2 then v5 else if x = nx ∧ j = 4 then nI (t0 + 1) else I x j := fun x j => tuI_at (by omega) x j
  generalize tuI I (nx + 5) (3 * t0) f5 r5 v5 nx (nI (t0 + 1)) = I2 at e ⊢
  have eo : ∀ x j, (x ≠ nx + 5) → (x = nx → j ≠ 4) → I2 x j = I x j := fun x j q1 q2 => by
    rw [e, if_neg (by omega), if_neg (by omega), if_neg (by omega), if_neg (by omega)]
  have fr : ∀ x j, (x < y + 6 → x ≠ nx → I2 x j = I x j) ∧ I2 nx 10 = I nx 10 := fun x j => ⟨fun q1 q2 => eo x j (by omega) (by omega), eo _ _ (by omega) (by omega)⟩
  have cn : ∃ u t, I2 nx 1 = nI u ∧ u ≤ 12 ∧ I2 nx 4 = nI t ∧ t ≤ 20 := ⟨u0, t0 + 1, (eo _ _ (by omega) (by omega)).trans hu.1, hu.2.1, by rw [e, if_neg (by omega), if_neg (by omega), if_neg (by omega), if_pos ⟨rfl, rfl⟩], h4⟩
  have nm2 : ∀ {a1 a2 a3 : Nat} {mr mf mp : Nat → Int64}, NmM I y nx T a1 a2 a3 mr mf mp → NmM I2 y nx T a1 a2 a3 mr mf mp := fun {a1 a2 a3 mr mf mp} z => by
    obtain ⟨⟨z1, z2⟩, ⟨z3, z4⟩, ⟨z5, z6⟩, z7, z8, z9⟩ := z
    refine ⟨⟨(eo _ _ (by omega) (by omega)).trans z1, z2⟩, ⟨(eo _ _ (by omega) (by omega)).trans z3, z4⟩, ⟨(eo _ _ (by omega) (by omega)).trans z5, z6⟩, fun l hl => ?_, fun l hl => ?_, fun l hl => ?_⟩
    · rw [eo _ _ (by omega) (by omega)]; exact z7 l hl
    · rw [eo _ _ (by omega) (by omega)]; exact z8 l hl
    · rw [eo _ _ (by omega) (by omega)]; exact z9 l hl
  have h' : PC I2 y nx T (ixB b) (b.B.nR, b.B.nF, b.B.nP) (P5, L5) 0 a5 k5 := h.nm hC fr (fun q => by
    obtain ⟨a1, a2, a3, mr, mf, mp, z1, z2⟩ := h.nmm q
    exact ⟨a1, a2, a3, mr, mf, mp, nm2 z1, z2⟩)
  by_cases c : P5.2.1 = 0
  · rw [hB0 c]
    obtain ⟨g2, ⟨g3, g4⟩, ⟨g5, g6⟩, g7, g8, g9⟩ := h0 c
    obtain ⟨x2, x3⟩ := hA g2
    have et : b.B.nT = t0 := (nI_eq (by have := x2.1.1.2.2.2.2; omega) (by omega)).mp (x2.1.1.2.2.2.1.symm.trans hu.2.2)
    have e6 : I2 (nx + 6) = I (nx + 6) := funext fun j => eo _ _ (by omega) (by omega)
    have e7 : I2 (nx + 7) = I (nx + 7) := funext fun j => eo _ _ (by omega) (by omega)
    have e8 : I2 (nx + 8) = I (nx + 8) := funext fun j => eo _ _ (by omega) (by omega)
    refine ⟨h', fun _ => cn, fun _ => ?_⟩
    show RBx I2 nx (BSturn b.B fi ri s) (MSturn b.m b.B.nT) b.u ∧ RBk I2 nx (BSturn b.B fi ri s) k5
    refine ⟨?_, x3.addT (funext fun j => eo _ _ (by omega) (by omega)) (fun q => ?_) (fun j hj => ?_)⟩
    · refine RBx.turn (tv := v5) x2 (by omega) g4 g6 ?_ (fun x j q1 q2 => ?_)
      · cases s with
        | none => exact g8 rfl
        | some σ =>
          obtain ⟨t, t1, t2, t3⟩ := g9 σ rfl
          exact ⟨t, t1, by omega, t3⟩
      · rw [e, et, g3, g5]
    · cases s with
      | none => exact absurd rfl q
      | some σ =>
        obtain ⟨t, t1, t2, t3⟩ := g9 σ rfl
        exact ⟨t, by rw [et, e, if_neg (by omega), if_neg (by omega), if_pos ⟨rfl, rfl⟩, t1], t2⟩
    · rw [et] at hj
      rw [e, if_neg (by omega), if_neg (by omega), if_neg (by omega), if_neg (by omega)]
  · rw [hB1 c]
    exact PL.bp h' rfl rfl rfl rfl (fun _ => cn) c
end Rz

