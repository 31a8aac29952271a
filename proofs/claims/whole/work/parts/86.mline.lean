theorem dX14_put_0 : decode cX14_put 0 = .ok (.iload_n 1, 1) := by decide +kernel
theorem dX14_put_1 : decode cX14_put 1 = .ok (.iconst 2, 1) := by decide +kernel
theorem dX14_put_2 : decode cX14_put 2 = .ok (.iadd, 1) := by decide +kernel
theorem dX14_put_3 : decode cX14_put 3 = .ok (.aload_n 0, 1) := by decide +kernel
theorem dX14_put_4 : decode cX14_put 4 = .ok (.arraylength, 1) := by decide +kernel
theorem dX14_put_5 : decode cX14_put 5 = .ok (.if_icmp .lt 4, 3) := by decide +kernel
theorem dX14_put_9 : decode cX14_put 9 = .ok (.aload_n 0, 1) := by decide +kernel
theorem dX14_put_10 : decode cX14_put 10 = .ok (.iload_n 1, 1) := by decide +kernel
theorem dX14_put_11 : decode cX14_put 11 = .ok (.iload_n 2, 1) := by decide +kernel
theorem dX14_put_12 : decode cX14_put 12 = .ok (.iastore, 1) := by decide +kernel
theorem dX14_put_13 : decode cX14_put 13 = .ok (.aload_n 0, 1) := by decide +kernel
theorem dX14_put_14 : decode cX14_put 14 = .ok (.iload_n 1, 1) := by decide +kernel
theorem dX14_put_15 : decode cX14_put 15 = .ok (.iconst 1, 1) := by decide +kernel
theorem dX14_put_16 : decode cX14_put 16 = .ok (.iadd, 1) := by decide +kernel
theorem dX14_put_17 : decode cX14_put 17 = .ok (.iload_n 3, 1) := by decide +kernel
theorem dX14_put_18 : decode cX14_put 18 = .ok (.iastore, 1) := by decide +kernel
theorem dX14_put_19 : decode cX14_put 19 = .ok (.aload_n 0, 1) := by decide +kernel
theorem dX14_put_20 : decode cX14_put 20 = .ok (.iload_n 1, 1) := by decide +kernel
theorem dX14_put_21 : decode cX14_put 21 = .ok (.iconst 2, 1) := by decide +kernel
theorem dX14_put_22 : decode cX14_put 22 = .ok (.iadd, 1) := by decide +kernel
theorem dX14_put_23 : decode cX14_put 23 = .ok (.iload 4, 2) := by decide +kernel
theorem dX14_put_25 : decode cX14_put 25 = .ok (.iastore, 1) := by decide +kernel
theorem dX14_put_26 : decode cX14_put 26 = .ok (.return_, 1) := by decide +kernel
/-! the reference reads a bill: names that grow, what stands between two lines -/
theorem fndJ_snoc {f : Nat → Int64} {v : Int64} : ∀ n k, k + n < 2 ^ 31 → fndJ f v k (n + 1) = if fndJ f v k n = -1 then (if f (k + n) = v then nI (k + n) else -1) else fndJ f v k n := by
  intro n
  induction n with
  | zero => intro k _; rw [fndJ, fndJ, if_pos rfl]; rfl
  | succ n ih =>
    intro k hk
    rw [fndJ]
    by_cases c : f k = v
    · rw [if_pos c, fndJ, if_pos c, if_neg]
      intro q
      have := nI_pos (n := k) (by omega)
      rw [q] at this
      exact this (by decide)
    · rw [if_neg c, ih (k + 1) (by omega), fndJ, if_neg c, show k + 1 + n = k + (n + 1) by omega]
theorem fndJ_up {f g : Nat → Int64} {n : Nat} {w : Int64} (hn : n < 100) (h : ∀ v, fndJ f v 0 n = fndJ g v 0 n) (v : Int64) : fndJ (up1 f n w) v 0 (n + 1) = fndJ (up1 g n w) v 0 (n + 1) := by
  have e : ∀ (z : Nat → Int64), fndJ (up1 z n w) v 0 n = fndJ z v 0 n := fun z => fndJ_cg n 0 (fun i _ q => by
    unfold up1
    exact if_neg (by omega))
  rw [fndJ_snoc n 0 (by omega), fndJ_snoc n 0 (by omega), e f, e g, h v]
  have e2 : ∀ (z : Nat → Int64), up1 z n w (0 + n) = w := fun z => by
    unfold up1
    exact if_pos (by omega)
  rw [e2 f, e2 g]
theorem fndJ_ge {f : Nat → Int64} {v : Int64} {n : Nat} (hn : n < 100) : bI (0 ≤ fndJ f v 0 n) ≠ 0 ↔ fndJ f v 0 n ≠ -1 := by
  rcases fndJ_ix (f := f) (v := v) n 0 with z | ⟨i, _, z2, z3, _⟩
  · rw [fndJ_m1 z (by omega)]
    exact ⟨fun q => absurd (show bI ((0 : Int32) ≤ -1) = 0 from bI_f (by decide)) q, fun q => absurd rfl q⟩
  · rw [z3, bI_t (nI_pos' (by omega))]
    refine ⟨fun _ q => ?_, fun _ => by decide⟩
    have := nI_pos (n := i) (by omega)
    rw [q] at this
    exact this (by decide)
section Ln
variable {G : Gp} {S : AMem} {I I1 : Nat → Nat → Int32} {J : Nat → Nat → Int64} {R : Nat → Nat → Option Nat} {y bl nx : Nat} {T : Toks} {b : BL} {a k : Nat}
theorem k_X14_put {q p : Nat} {u v w : Int32} (hq : S.K q = 20) (hp : p + 2 < S.ln q) (hl : S.ln q < 2 ^ 31) : Fn G mX14_put 0 [vR q, vI (nI p), vI u, vI v, vI w] (mw S I J R) (fun rr M1 => rr = none ∧ M1 = mw S (up2 (up2 (up2 I q p u) q (p + 1) v) q (p + 2) w) J R) := by
  have c0 : (nI p).toNatClampNeg = p := nI_clamp (by omega)
  have c1 : (nI (p + 1)).toNatClampNeg = p + 1 := nI_clamp (by omega)
  have c2 : (nI (p + 2)).toNatClampNeg = p + 2 := nI_clamp (by omega)
  have a1 : nI p + 1 = nI (p + 1) := nI_1 p
  have a2 : nI p + 2 = nI (p + 2) := nI_add p 2
  refine am_iload_n (q := 1) dX14_put_0 rfl rfl ?_
  refine am_iconst (q := 2) (v := 2) dX14_put_1 kc_i2 rfl ?_
  refine am_iadd (q := 3) dX14_put_2 rfl ?_
  rw [a2]
  refine am_aload_n (q := 4) dX14_put_3 rfl rfl ?_
  refine cm_alenI (q := 5) dX14_put_4 (by assumption) rfl rfl ?_
  refine am_icmp_lt (tgt := 9) (q := 8) dX14_put_5 rfl rfl (fun _ => ?_) (fun hz => absurd (nI_lt hp hl) hz)
  refine am_aload_n (q := 10) dX14_put_9 rfl rfl ?_
  refine am_iload_n (q := 11) dX14_put_10 rfl rfl ?_
  refine am_iload_n (q := 12) dX14_put_11 rfl rfl ?_
  refine cm_iastore (q := 13) dX14_put_12 (by assumption) (vp_in_nI (by omega) hl) rfl ?_
  rw [c0]
  refine am_aload_n (q := 14) dX14_put_13 rfl rfl ?_
  refine am_iload_n (q := 15) dX14_put_14 rfl rfl ?_
  refine am_iconst (q := 16) (v := 1) dX14_put_15 kc_i1 rfl ?_
  refine am_iadd (q := 17) dX14_put_16 rfl ?_
  rw [a1]
  refine am_iload_n (q := 18) dX14_put_17 rfl rfl ?_
  refine cm_iastore (q := 19) dX14_put_18 (by assumption) (vp_in_nI (by omega) hl) rfl ?_
  rw [c1]
  refine am_aload_n (q := 20) dX14_put_19 rfl rfl ?_
  refine am_iload_n (q := 21) dX14_put_20 rfl rfl ?_
  refine am_iconst (q := 22) (v := 2) dX14_put_21 kc_i2 rfl ?_
  refine am_iadd (q := 23) dX14_put_22 rfl ?_
  rw [a2]
  refine am_iload (q := 25) dX14_put_23 rfl rfl ?_
  refine cm_iastore (q := 26) dX14_put_25 (by assumption) (vp_in_nI (by omega) hl) rfl ?_
  rw [c2]
  exact am_ret dX14_put_26 rfl ⟨_, rfl, rfl, rfl⟩
/-- what stands between two lines -/
def PL (I : Nat → Nat → Int32) (y nx : Nat) (T : Toks) (b : BL) (a k : Nat) : Prop :=
  PC I y nx T (ixB b) (b.B.nR, b.B.nF, b.B.nP) (b.P, b.L) 0 a k ∧ (b.P.2.1 ≠ 1 → ∃ u t, I nx 1 = nI u ∧ u ≤ 12 ∧ I nx 4 = nI t ∧ t ≤ 20) ∧ (b.P.2.1 = 0 → RBx I nx b.B b.m b.u ∧ RBk I nx b.B k)
/-- nothing but the reader, the next bill and the names has changed -/
def OffP (y nx : Nat) (I I1 : Nat → Nat → Int32) : Prop := ∀ x j, (x = y → (j < 13 ∨ 17 < j)) → (x < nx ∨ nx + 9 ≤ x) → (x < y + 24 ∨ y + 26 < x) → I1 x j = I x j
theorem OffP.tr {I2 : Nat → Nat → Int32} (h1 : OffP y nx I I1) (h2 : OffP y nx I1 I2) : OffP y nx I I2 := fun x j p q r => (h2 x j p q r).trans (h1 x j p q r)
theorem OffM.p (h : OffM y nx k I I1) : OffP y nx I I1 := fun x j p q _ => h x j p (by omega) (by omega)
/-- where an error was told, or it has failed, or no more is told: the reader alone -/
theorem PL.bp {P : PS} {L : Cd} {b1 : BL} (h : PC I1 y nx T (ixB b) (b.B.nR, b.B.nF, b.B.nP) (P, L) 0 a k) (e1 : b1.P = P) (e2 : b1.L = L) (e3 : b1.B = b.B) (e4 : ixB b1 = ixB b) (hc : P.2.1 ≠ 1 → ∃ u t, I1 nx 1 = nI u ∧ u ≤ 12 ∧ I1 nx 4 = nI t ∧ t ≤ 20) (h0 : P.2.1 ≠ 0) : PL I1 y nx T b1 a k := by
  unfold PL
  rw [e1, e2, e3, e4]
  exact ⟨h, hc, fun q => absurd q h0⟩
theorem PC.nmm {s : PS × Cd} {ix : Int32 → Int64 → Int32} {N : Nat × Nat × Nat} {d : Nat} (h : PC I y nx T ix N s d a k) (hg : s.1.2.1 ≠ 1) : ∃ a1 a2 a3 mr mf mp, NmM I y nx T a1 a2 a3 mr mf mp ∧ (s.1.2.1 = 0 → NmA ix N a1 a2 a3 mr mf mp) := by
  obtain ⟨_, _, z | z⟩ := h
  · exact absurd z.1 hg
  · exact z.2.2.2.2.2.2.2
/-- names and counts anew, the reader as it stands -/
theorem PC.nm {s : PS × Cd} {ix ix1 : Int32 → Int64 → Int32} {N N1 : Nat × Nat × Nat} {d : Nat} (hC : MCc S R y bl nx) (h : PC I y nx T ix N s d a k) (fr : ∀ x j, (x < y + 6 → x ≠ nx → I1 x j = I x j) ∧ I1 nx 10 = I nx 10) (hn : s.1.2.1 ≠ 1 → ∃ a1 a2 a3 mr mf mp, NmM I1 y nx T a1 a2 a3 mr mf mp ∧ (s.1.2.1 = 0 → NmA ix1 N1 a1 a2 a3 mr mf mp)) : PC I1 y nx T ix1 N1 s d a k := by
  obtain ⟨p1, p2, p3, p4, p5⟩ := hC.lo
  have e : ∀ x j, x < y + 6 → I1 x j = I x j := fun x j q => (fr x j).1 q (by omega)
  obtain ⟨hT, ⟨h1, h2, h3, h4, h5⟩, ⟨g0, tk, g1, g2⟩ | ⟨g0, g1, g2, g3, g4, g5, g6, _⟩⟩ := h
  · exact ⟨hT.cg (fun x j p q => e x j (by omega)), ⟨(e _ _ (by omega)).trans h1, h2, ((fr 0 0).2).trans h3, h4, (e _ _ (by omega)).trans h5⟩, Or.inl ⟨g0, tk, (e _ _ (by omega)).trans g1, g2⟩⟩
  · exact ⟨hT.cg (fun x j p q => e x j (by omega)), ⟨(e _ _ (by omega)).trans h1, h2, ((fr 0 0).2).trans h3, h4, (e _ _ (by omega)).trans h5⟩, Or.inr ⟨g0, (e _ _ (by omega)).trans g1, g2, g3, (e _ _ (by omega)).trans g4, fun z => by
      obtain ⟨tk, t1, t2, t3⟩ := g5 z
      exact ⟨tk, t1, (e _ _ (by omega)).trans t2, t3⟩, g6, hn g0⟩⟩
end Ln

