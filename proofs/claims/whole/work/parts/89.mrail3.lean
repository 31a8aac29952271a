/-! the reference's readRail -/
section Ro
variable {G : Gp} {S : AMem} {I I1 : Nat → Nat → Int32} {J : Nat → Nat → Int64} {R : Nat → Nat → Option Nat} {y bl nx : Nat} {T : Toks} {b : BL} {a k : Nat}
theorem kn_num {j0 dep : Nat} {kw lo hi W : Int32} {P1 : PS} {s : PS × Cd} {ix : Int32 → Int64 → Int32} {N : Nat × Nat × Nat} (hG : okG G) (hC : MCc S R y bl nx) (h : PC I y nx T ix N s dep a k) (hj : j0 < 32) (hk : kw = nI (300 + j0)) (hP : pNum T kw lo hi s.1 = P1) (hW : pW T kw s.1 = W) : Fn G mX14_number_ 3 [vR y, vI (nI j0), vI lo, vI hi] (mw S I J R) (fun rr M1 => ∃ w I1 a1, rr = some (vI w) ∧ M1 = mw S I1 J R ∧ PC I1 y nx T ix N (P1, s.2) dep a1 k ∧ a ≤ a1 ∧ OffM y nx k I I1 ∧ (P1.2.1 ≠ 1 → w = W ∧ a + 1 ≤ a1)) := by
  subst hk hP hW
  exact k_X14_number_ hG hC h hj
theorem kn_new {q n dep : Nat} {f : Nat → Int64} {f1 f2 most : Int32} {P1 : PS} {s : PS × Cd} {v1 : Int64} {ix : Int32 → Int64 → Int32} {N : Nat × Nat × Nat} (hG : okG G) (hC : MCc S R y bl nx) (h : PC I y nx T ix N s dep a k) (hq : S.K q = 20) (hqn : n ≤ S.ln q) (hq31 : S.ln q < 2 ^ 31) (hn8 : n ≤ 8) (hqy : q ≠ y) (hf : ∀ l, l < n → ∃ t, I q l = nI t ∧ t < T.n ∧ T.k t = 258 ∧ T.v t = f l) (hP : pNew T f1 f2 s.1 = P1) (hv : pV T s.1 = v1) (hi : s.1.2.1 = 0 → ((f1 ≠ 0 ↔ fndJ f v1 0 n ≠ -1) ∧ (f2 ≠ 0 ↔ nI n = most))) : Fn G mX14_fresh 2 [vR y, vR q, vI (nI n), vI most] (mw S I J R) (fun rr M1 => ∃ w I1 a1, rr = some (vI w) ∧ M1 = mw S I1 J R ∧ PC I1 y nx T ix N (P1, s.2) dep a1 k ∧ a ≤ a1 ∧ OffM y nx k I I1 ∧ (P1.2.1 ≠ 1 → w = nI a ∧ T.k a = 258 ∧ v1 = T.v a)) := by
  subst hP hv
  exact k_X14_fresh hG hC h hq hqn hq31 hn8 hqy (fun _ => hf) (fun q1 _ => hi q1)
end Ro

