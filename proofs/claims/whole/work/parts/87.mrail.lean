/-! the reference reads a rail -/
section Rl
variable {G : Gp} {S : AMem} {I I1 : Nat → Nat → Int32} {J : Nat → Nat → Int64} {R : Nat → Nat → Option Nat} {y bl nx : Nat} {T : Toks} {b : BL} {a k : Nat}
theorem pEx_f1 {kk : Int32} {s : PS} (hk : kk ≠ 257) (h : s.2.1 = 1) : pEx T kk s = s := eEx_f1 (T := T) hk (s, []) h
theorem pRef_f1 {s : PS} (h : s.2.1 = 1) : pRef T s = s := eRef_f1 (T := T) (s, []) h
theorem pNum_n1 {kw lo hi : Int32} {s : PS} (hk : kw ≠ 257) (h : (pNum T kw lo hi s).2.1 ≠ 1) : s.2.1 ≠ 1 := by
  intro q
  refine h ?_
  rw [show pNum T kw lo hi s = pNu T lo hi (pEx T kw s) from rfl, pEx_f1 hk q, pNu_no (by rw [pK_f1 q]; decide)]
  exact pRef_1
theorem NmM.addR {a1 a2 a3 t : Nat} {mr mf mp : Nat → Int64} (h : NmM I y nx T a1 a2 a3 mr mf mp) (h4 : a1 < 4) (ht : t < T.n) (hk : T.k t = 258) (e0 : I1 nx 0 = nI (a1 + 1)) (e2 : I1 nx 2 = I nx 2) (e3 : I1 nx 3 = I nx 3) (en : I1 (y + 24) a1 = nI t) (eo : ∀ l, l < a1 → I1 (y + 24) l = I (y + 24) l) (e5 : I1 (y + 25) = I (y + 25)) (e6 : I1 (y + 26) = I (y + 26)) : NmM I1 y nx T (a1 + 1) a2 a3 (up1 mr a1 (T.v t)) mf mp := by
  obtain ⟨⟨h1, h2⟩, ⟨h3, h5⟩, ⟨h6, h7⟩, h8, h9, h10⟩ := h
  refine ⟨⟨e0, h4⟩, ⟨e2.trans h3, h5⟩, ⟨e3.trans h6, h7⟩, fun l hl => ?_, ?_, ?_⟩
  · by_cases c : l = a1
    · rw [c]
      exact ⟨t, en, ht, hk, by unfold up1; rw [if_pos rfl]⟩
    · obtain ⟨z, z1, z2, z3, z4⟩ := h8 l (by omega)
      exact ⟨z, (eo l (by omega)).trans z1, z2, z3, by unfold up1; rw [if_neg c]; exact z4⟩
  · rw [e5]; exact h9
  · rw [e6]; exact h10
theorem ixB_r (v : Int64) : ixB b 324 v = fndJ b.nr v 0 b.B.nR := if_pos rfl
theorem ixB_p (v : Int64) : ixB b 325 v = fndJ b.np v 0 b.B.nP := by
  unfold ixB
  rw [if_neg (by decide), if_pos rfl]
theorem ixB_f {kk : Int32} (hk : kk = 322 ∨ kk = 323) (v : Int64) : ixB b kk v = fndJ b.nf v 0 b.B.nF := by
  unfold ixB
  rcases hk with r | r <;> rw [r, if_neg (by decide), if_neg (by decide)]
/-- where no error was told the reference has the class's names -/
theorem NmA.on {a1 a2 a3 : Nat} {mr mf mp : Nat → Int64} (h : NmA (ixB b) (b.B.nR, b.B.nF, b.B.nP) a1 a2 a3 mr mf mp) : (b.B.nR = a1 ∧ b.B.nF = a2 ∧ b.B.nP = a3) ∧ (∀ v, fndJ b.nr v 0 b.B.nR = fndJ mr v 0 a1) ∧ (∀ v, fndJ b.nf v 0 b.B.nF = fndJ mf v 0 a2) ∧ ∀ v, fndJ b.np v 0 b.B.nP = fndJ mp v 0 a3 := by
  obtain ⟨h1, h2⟩ := h
  refine ⟨⟨congrArg (fun z => z.1) h2, congrArg (fun z => z.2.1) h2, congrArg (fun z => z.2.2) h2⟩, fun v => ?_, fun v => ?_, fun v => ?_⟩
  · rw [← (h1 v).1, ixB_r]
  · rw [← (h1 v).2.1, ixB_f (Or.inl rfl)]
  · rw [← (h1 v).2.2.2, ixB_p]
theorem NmA.of {b1 : BL} {a1 a2 a3 : Nat} {mr mf mp : Nat → Int64} (e : b1.B.nR = a1 ∧ b1.B.nF = a2 ∧ b1.B.nP = a3) (hr : ∀ v, fndJ b1.nr v 0 b1.B.nR = fndJ mr v 0 a1) (hf : ∀ v, fndJ b1.nf v 0 b1.B.nF = fndJ mf v 0 a2) (hp : ∀ v, fndJ b1.np v 0 b1.B.nP = fndJ mp v 0 a3) : NmA (ixB b1) (b1.B.nR, b1.B.nF, b1.B.nP) a1 a2 a3 mr mf mp :=
  ⟨fun v => ⟨by rw [ixB_r, hr], by rw [ixB_f (Or.inl rfl), hf], by rw [ixB_f (Or.inr rfl), hf], by rw [ixB_p, hp]⟩, by rw [e.1, e.2.1, e.2.2]⟩
theorem nI_4 {n : Nat} (h : n ≤ 100) {q : Nat} (hq : q ≤ 100) (hn : n ≤ q) : bI (q ≤ n) ≠ 0 ↔ nI n = nI q := by
  by_cases c : q ≤ n
  · rw [bI_t c]
    exact ⟨fun _ => by rw [show n = q by omega], fun _ => by decide⟩
  · rw [bI_f c]
    exact ⟨fun z => absurd rfl z, fun z => absurd ((nI_eq (by omega) (by omega)).mp z) (by omega)⟩
theorem rR_nx (h : (rR5 T b).2.1 ≠ 1) : (rR4 T b).2.1 ≠ 1 ∧ (rR3 T b).2.1 ≠ 1 ∧ (rR2 T b).2.1 ≠ 1 := by
  unfold rR5 at h
  have h4 := pNum_n1 (by decide) h
  have h4b := h4
  unfold rR4 at h4b
  have h3 := pNum_n1 (by decide) h4b
  have h3b := h3
  unfold rR3 at h3b
  exact ⟨h4, h3, pNum_n1 (by decide) h3b⟩
theorem pW_rng {kw : Int32} {s : PS} {lo hi : Int32} (hg : (pEx T kw s).2.1 ≠ 1) (hk : pK T (pEx T kw s) = 259) (hm : ∃ m, m < 1000000 ∧ pV T (pEx T kw s) = (nI m).toInt64) (h1 : lo.toInt64 ≤ pV T (pEx T kw s)) (h2 : pV T (pEx T kw s) ≤ hi.toInt64) : lo ≤ pW T kw s ∧ pW T kw s ≤ hi := by
  obtain ⟨m, _, hm⟩ := hm
  unfold pW
  rw [hm] at h1 h2 ⊢
  rw [Int32.toInt32_toInt64]
  exact ⟨Int32.toInt64_le.mp h1, Int32.toInt64_le.mp h2⟩
end Rl

