/-! the law: its script, what holds at its loop's head -/
abbrev mL_law : MD := (yL_law, cL_law, 9, some .boolean)
section Lw
variable {G : Gp} {Y : MD} {d pc : Nat} {ls ls1 : List (Option AV)} {st st1 : List AV} {M : AMem} {Q : (Option AV ⊕ Nat) → AMem → Prop}
/-- less may be known of the locals -/
theorem MW.forget (h : ls1.length = ls.length ∧ ∀ (i : Nat) (v : AV), ls1[i]? = some (some v) → ls[i]? = some (some v)) (k : MW G Y d pc ls1 st M Q) : MW G Y d pc ls st M Q := by
  refine MW.step (pc1 := pc) (ls1 := ls1) (st1 := st) (M1 := M) ⟨Nat.le_refl _, Nat.le_refl _, fun p e R s m args below meth c H locs cells slots lsr Q0 hC hW hS hL hcc hss kk => ?_⟩ k
  have := kk H locs lsr hW hS ⟨hL.1, hL.2.1, h.1.trans hL.2.2.1, fun i v hv => hL.2.2.2 i v (h.2 i v hv)⟩
  rw [Nat.sub_self, Nat.sub_self] at this
  exact this
theorem am_tint {t N : Nat} {f : Nat → Value} {i x : Int32} (hd : decode Y.cc pc = .ok (.iaload, 1)) (hT : ∀ U, G.ST U → va_T .int t N f (fun q => G.base ≤ q) U U.heap) (hin : vp_in i N) (hv : f i.toNatClampNeg = .int x) {q : Nat} (hq : pc + 1 = q) (k : MW G Y d q ls (vI x :: st) M Q) : MW G Y d pc ls (vI i :: vR t :: st) M Q := by
  subst hq
  exact MW.step (am_rowS (st1 := vI x :: st) fun hC hS hL kk => va_ti hC.1 hC.2.1 (hT _ hC.2.2.2.2.2.2.2.1.2) hS hin hv hd kk) k
end Lw
section Ex
variable {K : Nat → Int64} {S S1 : AMem} {I I1 : Nat → Nat → Int32} {J J1 : Nat → Nat → Int64} {R R1 : Nat → Nat → Option Nat} {x y : Nat} {s : XS}
theorem XW.ex (h : XW K S x s I J R) (q : ∀ a, x ≤ a → a < x + 125 → S1.K a = S.K a ∧ S1.ln a = S.ln a ∧ (∀ j, I1 a j = I a j) ∧ J1 a = J a ∧ R1 a = R a) : XW K S1 x s I1 J1 R1 := by
  obtain ⟨c, o, hC, hA⟩ := h
  obtain ⟨p1, p2, p3, p4, p5⟩ := hC.lo
  have k : ∀ a, x ≤ a → a < x + 125 → S1.K a = S.K a := fun a u v => (q a u v).1
  have l : ∀ a, x ≤ a → a < x + 125 → S1.ln a = S.ln a := fun a u v => (q a u v).2.1
  have i : ∀ a j, x ≤ a → a < x + 125 → I1 a j = I a j := fun a j u v => (q a u v).2.2.1 j
  have jj : ∀ a j, x ≤ a → a < x + 125 → J1 a j = J a j := fun a j u v => by rw [(q a u v).2.2.2.1]
  have r : ∀ a j, x ≤ a → a < x + 125 → R1 a j = R a j := fun a j u v => by rw [(q a u v).2.2.2.2]
  obtain ⟨kx, r0, r1, r2, r3, r4, hco, ⟨t1, t2, t3, t4⟩, ⟨u1, u2, u3, u4, u5, u6, u7, u8, u9, u10, u11, u12, u13⟩, hct, hot, kr, rr⟩ := hC
  obtain ⟨⟨e1, e2, e3⟩, hB, hM, ho, he, hk⟩ := hA
  refine ⟨c, o, ⟨(k _ (by omega) (by omega)).trans kx, (r _ _ (by omega) (by omega)).trans r0, (r _ _ (by omega) (by omega)).trans r1, (r _ _ (by omega) (by omega)).trans r2, (r _ _ (by omega) (by omega)).trans r3, (r _ _ (by omega) (by omega)).trans r4, hco, ⟨(k _ (by omega) (by omega)).trans t1, (r _ _ (by omega) (by omega)).trans t2, (k _ (by omega) (by omega)).trans t3, (l _ (by omega) (by omega)).trans t4⟩, ⟨(k _ (by omega) (by omega)).trans u1, (r _ _ (by omega) (by omega)).trans u2, (r _ _ (by omega) (by omega)).trans u3, (r _ _ (by omega) (by omega)).trans u4, (r _ _ (by omega) (by omega)).trans u5, (k _ (by omega) (by omega)).trans u6, (l _ (by omega) (by omega)).trans u7, (k _ (by omega) (by omega)).trans u8, (l _ (by omega) (by omega)).trans u9, (k _ (by omega) (by omega)).trans u10, (l _ (by omega) (by omega)).trans u11, (k _ (by omega) (by omega)).trans u12, (l _ (by omega) (by omega)).trans u13⟩, hct.ex fun a v w => ⟨⟨k _ (by omega) (by omega), l _ (by omega) (by omega)⟩, funext fun j => r _ _ (by omega) (by omega)⟩, hot.ex fun a v w => ⟨⟨k _ (by omega) (by omega), l _ (by omega) (by omega)⟩, funext fun j => r _ _ (by omega) (by omega)⟩, (k _ (by omega) (by omega)).trans kr, (r _ _ (by omega) (by omega)).trans rr⟩, ⟨(i _ _ (by omega) (by omega)).trans e1, e2, fun n hn => (i _ _ (by omega) (by omega)).trans (e3 n hn)⟩, hB.out fun a j v w => i _ _ (by omega) (by omega), AbM.out hB hM fun a j v w => i _ _ (by omega) (by omega), fun n hn => by rw [i _ _ (by omega) (by omega)]; exact ho n hn, (i _ _ (by omega) (by omega)).trans he, fun n hn => (jj _ _ (by omega) (by omega)).trans (hk n hn)⟩
theorem YW.ex (h : YW S y s I R) (q : ∀ a, y ≤ a → a < y + 39 → S1.K a = S.K a ∧ S1.ln a = S.ln a ∧ (∀ j, (a ≠ y ∨ j ≠ 0) → I1 a j = I a j) ∧ R1 a = R a) : YW S1 y s I1 R1 := by
  obtain ⟨bl, nx, hC, hA⟩ := h
  exact ⟨bl, nx, hC.ext fun a u v => ⟨(q a u v).1, (q a u v).2.1, fun j => by rw [(q a u v).2.2.2]⟩, hA.loc hC fun a j u v w => (q a u (by omega)).2.2.1 j (by omega)⟩
end Ex
/-- what holds at the loop's head -/
def Inv (S : AMem) (I : Nat → Nat → Int32) (J : Nat → Nat → Int64) (R : Nat → Nat → Option Nat) (x y o : Nat) (s : XS) : Prop := XW kwK S x s I J R ∧ YW S y s I R ∧ S.K o = 21 ∧ S.ln o = 1 ∧ y = x + 125 ∧ o = x + 164 ∧ x + 165 ≤ S.hs
def Sc (G : Gp) (b L : Nat) (xs : Nat → Int32) : Prop := ∀ U, G.ST U → va_T .int b L (fun j => .int (xs j)) (fun q => G.base ≤ q) U U.heap
abbrev LL (b x y o : Nat) (v : Int32) : List (Option AV) := [some (vR b), some (vR x), some (vR y), some (vR o), some (vI v), none, none, none, none]
/-- the script's word k of the call at i -/
theorem sc_in {i L k : Nat} {v : Int32} (hv : v = nI k) (hk : k < 6) (hi : i + 6 ≤ L) (hL : L ≤ 3072) : vp_in (nI i + v) L ∧ (nI i + v).toNatClampNeg = i + k := by
  subst hv
  have e : nI i + nI k = nI (i + k) := by rw [nI_add]
  rw [e]
  exact ⟨vp_in_nI (by omega) (by omega), nI_clamp (by omega)⟩
theorem sc_va {i L k : Nat} {v : Int32} {xs : Nat → Int32} (h : vp_in (nI i + v) L ∧ (nI i + v).toNatClampNeg = i + k) : (fun j => Value.int (xs j)) (nI i + v).toNatClampNeg = .int (xs (i + k)) := by
  show Value.int (xs _) = _
  rw [h.2]

