/-! the state while a bill is read, with what it has told so far -/
/-- reader, code, what is told, how it stands, rusts, names of rails, fists, prizes -/
abbrev BL : Type := PS × Cd × BS × MS × Nat × (Nat → Int64) × (Nat → Int64) × (Nat → Int64)
def BL.P (b : BL) : PS := b.1
def BL.L (b : BL) : Cd := b.2.1
def BL.B (b : BL) : BS := b.2.2.1
def BL.m (b : BL) : MS := b.2.2.2.1
def BL.u (b : BL) : Nat := b.2.2.2.2.1
def BL.nr (b : BL) : Nat → Int64 := b.2.2.2.2.2.1
def BL.nf (b : BL) : Nat → Int64 := b.2.2.2.2.2.2.1
def BL.np (b : BL) : Nat → Int64 := b.2.2.2.2.2.2.2
def BP (b : BL) (s : PS) : BL := (s, b.2)
def BE (b : BL) (s : PS × Cd) : BL := (s.1, s.2, b.2.2)
def NmJ (J : Nat → Nat → Int64) (c : Nat) (b : BL) : Prop := (∀ i, i < b.B.nR → J (c + 14 + 2 * i) 1 = b.nr i) ∧ (∀ i, i < b.B.nF → J (c + 22 + i) 0 = b.nf i) ∧ ∀ i, i < b.B.nP → J (c + 30 + i) 0 = b.np i
def AbL (I : Nat → Nat → Int32) (J : Nat → Nat → Int64) (x t c : Nat) (T : Toks) (b : BL) : Prop := AbE I J x t c b.B.nR b.B.nF b.B.nP T (b.P, b.L) ∧ AbB I c b.B ∧ AbM I c b.B b.m ∧ I c 9 = nI b.u ∧ b.u ≤ 12 ∧ NmJ J c b
/-- nothing but the reader at x and the contest at c has changed -/
def OffX (x c : Nat) (I I1 : Nat → Nat → Int32) : Prop := ∀ y j, y ≠ x → (y < c ∨ c + 58 ≤ y) → I1 y j = I y j
theorem OffX.rf {x c : Nat} {I : Nat → Nat → Int32} : OffX x c I I := fun _ _ _ _ => rfl
theorem OffX.tr {x c : Nat} {I I1 I2 : Nat → Nat → Int32} (h1 : OffX x c I I1) (h2 : OffX x c I1 I2) : OffX x c I I2 := fun y j p q => (h2 y j p q).trans (h1 y j p q)
theorem OffR.x {x c : Nat} {I I1 : Nat → Nat → Int32} (h : OffR x I I1) : OffX x c I I1 := fun y j p _ => h y j p
theorem OffE.x {x c : Nat} {I I1 : Nat → Nat → Int32} (h : OffE x c I I1) : OffX x c I I1 := fun y j p _ => h y j p (Or.inl (by omega)) (by omega) (by omega)
theorem OffC.x {x c : Nat} {I I1 : Nat → Nat → Int32} (h : OffC c I I1) : OffX x c I I1 := fun y j _ q => h y j q
def OffJc (c : Nat) (J J1 : Nat → Nat → Int64) : Prop := ∀ y j, (y < c ∨ c + 58 ≤ y) → J1 y j = J y j
theorem OffJc.rf {c : Nat} {J : Nat → Nat → Int64} : OffJc c J J := fun _ _ _ => rfl
theorem OffJc.tr {c : Nat} {I I1 I2 : Nat → Nat → Int64} (h1 : OffJc c I I1) (h2 : OffJc c I1 I2) : OffJc c I I2 := fun y j q => (h2 y j q).trans (h1 y j q)
def ixB (b : BL) (k : Int32) (v : Int64) : Int32 := if k = 324 then fndJ b.nr v 0 b.B.nR else if k = 325 then fndJ b.np v 0 b.B.nP else fndJ b.nf v 0 b.B.nF
theorem fndJ_cg {f g : Nat → Int64} {v : Int64} : ∀ (n k : Nat), (∀ i, k ≤ i → i < k + n → f i = g i) → fndJ f v k n = fndJ g v k n := by
  intro n
  induction n with
  | zero => intro k _; rfl
  | succ n ih =>
    intro k h
    rw [fndJ, fndJ, h k (Nat.le_refl _) (by omega), ih (k + 1) (fun i q1 q2 => h i (by omega) (by omega))]
theorem fndJ_ix {f : Nat → Int64} {v : Int64} : ∀ (n k : Nat), fndJ f v k n < 0 ∨ ∃ i, k ≤ i ∧ i < k + n ∧ fndJ f v k n = nI i ∧ f i = v := by
  intro n
  induction n with
  | zero => intro k; exact Or.inl (show (-1 : Int32) < 0 by decide)
  | succ n ih =>
    intro k
    rw [fndJ]
    by_cases h : f k = v
    · rw [if_pos h]
      exact Or.inr ⟨k, Nat.le_refl _, by omega, rfl, h⟩
    · rw [if_neg h]
      rcases ih (k + 1) with q | ⟨i, q1, q2, q3, q4⟩
      · exact Or.inl q
      · exact Or.inr ⟨i, by omega, by omega, q3, q4⟩
theorem NmJ.ix {J : Nat → Nat → Int64} {c : Nat} {b : BL} (h : NmJ J c b) : ixM J c b.B.nR b.B.nF b.B.nP = ixB b := by
  obtain ⟨h1, h2, h3⟩ := h
  funext k v
  unfold ixM ixB
  rw [fndJ_cg (f := fun i => J (c + 14 + 2 * i) 1) (g := b.nr) b.B.nR 0 (fun i _ q => h1 i (by omega)), fndJ_cg (f := fun i => J (c + 22 + i) 0) (g := b.nf) b.B.nF 0 (fun i _ q => h2 i (by omega)), fndJ_cg (f := fun i => J (c + 30 + i) 0) (g := b.np) b.B.nP 0 (fun i _ q => h3 i (by omega))]
/-! the code only grows -/
def KEx (V : PS × Cd → PS × Cd) : Prop := ∀ s, s.2 <+: (V s).2
theorem adC_ex (L : Cd) (x : Int32 × Int32) : L <+: adC L x := by
  unfold adC
  split
  · exact List.prefix_append _ _
  · exact List.prefix_refl _
theorem eAd_ex {k g : Int32} (s : PS × Cd) : s.2 <+: (eAd k g s).2 := adC_ex _ _
theorem eLoop_ex {T : Toks} {p : PS × Cd → PS × Cd} {a b : Int32} (h : KEx p) : ∀ n, KEx (eLoop T p a b n) := by
  intro n
  induction n with
  | zero => intro s; exact List.prefix_refl _
  | succ n ih =>
    intro s
    rw [eLoop]
    split
    · exact ((h (eEx T (pK T s.1) s)).trans (eAd_ex _)).trans (ih _)
    · exact List.prefix_refl _
theorem eSu_ex {T : Toks} {V : PS × Cd → PS × Cd} (h : KEx V) : KEx (eSu T V) := by
  have h1 : KEx (eProd T V) := fun s => (h s).trans (eLoop_ex h 400 _)
  exact fun s => (h1 s).trans (eLoop_ex h1 400 _)
theorem eTs_ex {T : Toks} {V : PS × Cd → PS × Cd} (h : KEx V) : KEx (eTs T V) := by
  have h1 : KEx (eBoth T V) := fun s => (h s).trans (eLoop_ex h 400 _)
  exact fun s => (h1 s).trans (eLoop_ex h1 400 _)
theorem ePair_ex {T : Toks} {V : PS × Cd → PS × Cd} (h : KEx V) (d : Nat) (k : Int32) : KEx (ePair T V d k) := by
  intro s
  unfold ePair
  split
  · exact List.prefix_refl _
  · have a1 := eSu_ex (T := T) h (eDp T 40 d s)
    generalize eSu T V (eDp T 40 d s) = s1 at a1 ⊢
    have a2 := eSu_ex (T := T) h (eEx T 44 s1)
    generalize eSu T V (eEx T 44 s1) = s2 at a2 ⊢
    exact (a1.trans a2).trans (adC_ex _ _)
theorem eValF_ex {T : Toks} {ix : Int32 → Int64 → Int32} {V : PS × Cd → PS × Cd} (h : KEx V) (d : Nat) : KEx (eValF T ix V d) := by
  intro s
  unfold eValF
  split
  · split
    · exact List.prefix_refl _
    · have a1 := eSu_ex (T := T) h (eDp T 40 d s)
      generalize eSu T V (eDp T 40 d s) = s1 at a1 ⊢
      exact a1
  · split
    · split
      · exact List.prefix_refl _
      · have a1 := h (eDp T 45 d s)
        exact a1.trans (adC_ex _ _)
    · split
      · exact adC_ex _ _
      · split
        · exact adC_ex _ _
        · split
          · have a1 := ePair_ex (T := T) h d (pK T s.1) (eEx T (pK T s.1) s)
            generalize ePair T V d (pK T s.1) (eEx T (pK T s.1) s) = s1 at a1 ⊢
            exact a1
          · exact List.prefix_refl _
theorem eVal_ex {T : Toks} {ix : Int32 → Int64 → Int32} : ∀ r, KEx (eVal T ix r) := by
  intro r
  induction r with
  | zero => exact eValF_ex (fun _ => List.prefix_refl _) 8
  | succ r ih => exact eValF_ex ih (7 - r)
theorem eCmp_ex {T : Toks} {V : PS × Cd → PS × Cd} (h : KEx V) : KEx (eCmp T V) := by
  intro s
  unfold eCmp eCs
  split
  · exact ((h s).trans (h (eEx T _ (V s)))).trans (eAd_ex _)
  · exact ((h s).trans (h (eRef T (V s)))).trans (eAd_ex _)
theorem eSngF_ex {T : Toks} {P Q C : PS × Cd → PS × Cd} (hP : KEx P) (hQ : KEx Q) (hC : KEx C) (d : Nat) : KEx (eSngF T P Q C d) := by
  intro s
  unfold eSngF
  split
  · split
    · exact List.prefix_refl _
    · exact hQ (eDp T 91 d s)
  · split
    · exact adC_ex _ _
    · split
      · split
        · exact List.prefix_refl _
        · exact (hP (eDp T 327 d s)).trans (eAd_ex _)
      · exact hC s
theorem eSng_ex {T : Toks} {ix : Int32 → Int64 → Int32} : ∀ r, KEx (eSng T ix r) := by
  intro r
  induction r with
  | zero => exact eSngF_ex (fun _ => List.prefix_refl _) (fun _ => List.prefix_refl _) (eCmp_ex (eSu_ex (eVal_ex 0))) 8
  | succ r ih => exact eSngF_ex ih (eTs_ex ih) (eCmp_ex (eSu_ex (eVal_ex (r + 1)))) (7 - r)
theorem AbC.agree {I I1 : Nat → Nat → Int32} {c : Nat} {L L1 : Cd} (h : AbC I c L) (h1 : AbC I1 c L1) (he : L <+: L1) : L.length ≤ L1.length ∧ ∀ j, j < L.length → I1 (c + 2) j = I (c + 2) j ∧ I1 (c + 3) j = I (c + 3) j := by
  obtain ⟨r, rfl⟩ := he
  refine ⟨by simp, fun j hj => ?_⟩
  obtain ⟨q1, q2⟩ := h.2.2 j hj
  obtain ⟨q3, q4⟩ := h1.2.2 j (by rw [List.length_append]; omega)
  have e : (L ++ r).getD j (0, 0) = L.getD j (0, 0) := by simp [List.getD, List.getElem?_append_left hj]
  rw [q1, q2, q3, q4, e]
  exact ⟨rfl, rfl⟩
theorem AbB.ext {I I1 : Nat → Nat → Int32} {x c : Nat} {B : BS} {L L1 : Cd} (hB : AbB I c B) (h : AbC I c L) (h1 : AbC I1 c L1) (he : L <+: L1) (ho : OffE x c I I1) (hx : x < c ∨ c + 58 ≤ x) : AbB I1 c B := by
  obtain ⟨hl, ag⟩ := h.agree h1 he
  obtain ⟨⟨a1, a2⟩, ⟨a3, a4⟩, ⟨a5, a6⟩, ⟨a7, a8⟩, b1, b2, z, b3, b4, b5, b6⟩ := hB
  have hz : z = L.length := (nI_eq (by omega) (by have := h.2.1; omega)).mp (b3.symm.trans h.1)
  have o : ∀ y j, c ≤ y → y < c + 58 → y ≠ c + 1 → y ≠ c + 2 → y ≠ c + 3 → I1 y j = I y j := fun y j q1 q2 q3 q4 q5 => ho y j (by omega) (Or.inl q3) q4 q5
  have qs : ∀ p r s, r ≤ z → SegC I c p r s → SegC I1 c p r s := by
    intro p r s hr hs rd
    rw [← hs rd, evE_cg (K := I1 (c + 2)) (A := I1 (c + 3)) (K2 := I (c + 2)) (A2 := I (c + 3))]
    intro j q1 q2
    exact ag j (by omega)
  refine ⟨⟨(o _ _ (by omega) (by omega) (by omega) (by omega) (by omega)).trans a1, a2⟩, ⟨(o _ _ (by omega) (by omega) (by omega) (by omega) (by omega)).trans a3, a4⟩, ⟨(o _ _ (by omega) (by omega) (by omega) (by omega) (by omega)).trans a5, a6⟩, ⟨(o _ _ (by omega) (by omega) (by omega) (by omega) (by omega)).trans a7, a8⟩, ?_, ?_, L1.length, h1.1, h1.2.1, ?_, ?_⟩
  · intro i hi j hj
    rw [o _ _ (by omega) (by omega) (by omega) (by omega) (by omega)]
    exact b1 i hi j hj
  · intro i hi
    rw [o _ _ (by omega) (by omega) (by omega) (by omega) (by omega), o _ _ (by omega) (by omega) (by omega) (by omega) (by omega)]
    exact b2 i hi
  · intro i hi
    obtain ⟨p1, r1, e1, e2, e3, e4, e5⟩ := b5 i hi
    refine ⟨p1, r1, (o _ _ (by omega) (by omega) (by omega) (by omega) (by omega)).trans e1, (o _ _ (by omega) (by omega) (by omega) (by omega) (by omega)).trans e2, e3, by omega, ?_⟩
    cases hh : B.tt i with
    | none => rw [hh] at e5; exact e5
    | some s => rw [hh] at e5; exact ⟨e5.1, qs _ _ _ e4 e5.2⟩
  · intro i hi
    obtain ⟨p1, r1, t1, e1, e2, e3, e4, e5, e6, e7, e8⟩ := b6 i hi
    exact ⟨p1, r1, t1, (o _ _ (by omega) (by omega) (by omega) (by omega) (by omega)).trans e1, (o _ _ (by omega) (by omega) (by omega) (by omega) (by omega)).trans e2, (o _ _ (by omega) (by omega) (by omega) (by omega) (by omega)).trans e3, e4, e5, by omega, qs _ _ _ (by omega) e7, qs _ _ _ e6 e8⟩
theorem AbM.ext {I I1 : Nat → Nat → Int32} {x c : Nat} {B : BS} {m : MS} (hB : AbB I c B) (hm : AbM I c B m) (ho : OffE x c I I1) (hx : x < c ∨ c + 58 ≤ x) : AbM I1 c B m := by
  have u5 : B.nR ≤ 4 := hB.1.2
  have u6 : B.nF ≤ 8 := hB.2.1.2
  have u7 : B.nP ≤ 8 := hB.2.2.1.2
  have o : ∀ y j, c ≤ y → y < c + 58 → y ≠ c + 1 → y ≠ c + 2 → y ≠ c + 3 → I1 y j = I y j := fun y j q1 q2 q3 q4 q5 => ho y j (by omega) (Or.inl q3) q4 q5
  obtain ⟨a1, a2, a3, a4, a5, a6, a7, a8, a9, a10, a11⟩ := hm
  exact ⟨fun i hi j hj => (o _ _ (by omega) (by omega) (by omega) (by omega) (by omega)).trans (a1 i hi j hj), fun i hi j hj => (o _ _ (by omega) (by omega) (by omega) (by omega) (by omega)).trans (a2 i hi j hj), fun i hi j hj => (o _ _ (by omega) (by omega) (by omega) (by omega) (by omega)).trans (a3 i hi j hj), fun j hj => (o _ _ (by omega) (by omega) (by omega) (by omega) (by omega)).trans (a4 j hj), (o _ _ (by omega) (by omega) (by omega) (by omega) (by omega)).trans a5, fun k hk => by rw [o _ _ (by omega) (by omega) (by omega) (by omega) (by omega)]; exact a6 k hk, fun k hk => (o _ _ (by omega) (by omega) (by omega) (by omega) (by omega)).trans (a7 k hk), (o _ _ (by omega) (by omega) (by omega) (by omega) (by omega)).trans a8, a9, a10, fun i hi => by rw [o _ _ (by omega) (by omega) (by omega) (by omega) (by omega)]; exact a11 i hi⟩
theorem AbL.e {S : AMem} {R : Nat → Nat → Option Nat} {I I1 : Nat → Nat → Int32} {J : Nat → Nat → Int64} {x t c : Nat} {T : Toks} {b : BL} {s : PS × Cd} (hX : RX S R x t c) (h : AbL I J x t c T b) (h1 : AbE I1 J x t c b.B.nR b.B.nF b.B.nP T s) (ho : OffE x c I I1) (he : b.L <+: s.2) : AbL I1 J x t c T (BE b s) := by
  obtain ⟨k1, k2, k3, k4, k5, k6⟩ := h
  exact ⟨h1, k2.ext k1.2.2.1 h1.2.2.1 he ho hX.2.2.2.1, k3.ext k2 ho hX.2.2.2.1, (ho _ _ (by have := hX.2.2.2.1; omega) (Or.inl (by omega)) (by omega) (by omega)).trans k4, k5, k6⟩
theorem AbL.p {S : AMem} {R : Nat → Nat → Option Nat} {I I1 : Nat → Nat → Int32} {J : Nat → Nat → Int64} {x t c : Nat} {T : Toks} {b : BL} {s0 s : PS} (hX : RX S R x t c) (h : AbL I J x t c T (BP b s0)) (h1 : AbP I1 x T s) (ho : OffR x I I1) : AbL I1 J x t c T (BP b s) := AbL.e (b := BP b s0) (s := (s, b.L)) hX h (h.1.r hX h1 ho) ho.e (List.prefix_refl _)
section Ks
variable {I : Nat → Nat → Int32} {J : Nat → Nat → Int64} {t x c : Nat} {T : Toks} {b : BL} {s : PS} {w : PS × Cd}
theorem AbL.hE (h : AbL I J x t c T (BP b s)) : AbE I J x t c b.B.nR b.B.nF b.B.nP T (s, b.L) := h.1
theorem AbL.hB (h : AbL I J x t c T (BP b s)) : AbB I c b.B := h.2.1
theorem AbL.hM (h : AbL I J x t c T (BP b s)) : AbM I c b.B b.m := h.2.2.1
theorem AbL.hU (h : AbL I J x t c T (BP b s)) : I c 9 = nI b.u := h.2.2.2.1
theorem AbL.hV (h : AbL I J x t c T (BP b s)) : b.u ≤ 12 := h.2.2.2.2.1
theorem AbL.hN (h : AbL I J x t c T (BP b s)) : NmJ J c b := h.2.2.2.2.2
theorem AbL.kE (h : AbL I J x t c T (BE b w)) : AbE I J x t c b.B.nR b.B.nF b.B.nP T w := h.1
theorem AbL.kC (h : AbL I J x t c T (BE b w)) : AbC I c w.2 := h.1.2.2.1
theorem AbL.kB (h : AbL I J x t c T (BE b w)) : AbB I c b.B := h.2.1
theorem AbL.kM (h : AbL I J x t c T (BE b w)) : AbM I c b.B b.m := h.2.2.1
theorem AbL.kU (h : AbL I J x t c T (BE b w)) : I c 9 = nI b.u := h.2.2.2.1
theorem AbL.kV (h : AbL I J x t c T (BE b w)) : b.u ≤ 12 := h.2.2.2.2.1
theorem AbL.kN (h : AbL I J x t c T (BE b w)) : NmJ J c b := h.2.2.2.2.2
theorem AbL.put {L : Cd} {B : BS} {m : MS} {u : Nat} {nr nf np : Nat → Int64} (h1 : AbE I J x t c B.nR B.nF B.nP T (s, L)) (h2 : AbB I c B) (h3 : AbM I c B m) (h4 : I c 9 = nI u) (h5 : u ≤ 12) (h6 : ∀ i, i < B.nR → J (c + 14 + 2 * i) 1 = nr i) (h7 : ∀ i, i < B.nF → J (c + 22 + i) 0 = nf i) (h8 : ∀ i, i < B.nP → J (c + 30 + i) 0 = np i) : AbL I J x t c T (s, L, B, m, u, nr, nf, np) := ⟨h1, h2, h3, h4, h5, h6, h7, h8⟩
end Ks
section Kb
variable {G : Gp} {S : AMem} {I : Nat → Nat → Int32} {J : Nat → Nat → Int64} {R : Nat → Nat → Option Nat} {t x c : Nat} {T : Toks} {b : BL} {s : PS}
theorem kb_expect {k : Int32} (hG : okG G) (hX : RX S R x t c) (h : AbL I J x t c T (BP b s)) (hk : k ≠ 257) : Fn G mX7_expect 2 [vR x, vI k] (mw S I J R) (fun rr M1 => rr = none ∧ ∃ I1, M1 = mw S I1 J R ∧ AbL I1 J x t c T (BP b (pEx T k s)) ∧ OffX x c I I1) := by
  refine MW.weaken (kx_expect hG hX.1 h.1.1 h.1.2.1 hk) ?_
  rintro f M1 ⟨r, e1, e2, I1, e3, e4, e5⟩
  exact ⟨r, e1, e2, I1, e3, h.p hX e4 e5, e5.x⟩
theorem kb_blame {n : Int32} (hG : okG G) (hX : RX S R x t c) (h : AbL I J x t c T (BP b s)) : Fn G mX7_blame 1 [vR x, vI n] (mw S I J R) (fun rr M1 => rr = none ∧ ∃ I1, M1 = mw S I1 J R ∧ AbL I1 J x t c T (BP b (pBl T n s)) ∧ OffX x c I I1) := by
  refine MW.weaken (kx_blame hG hX.1 h.1.1 h.1.2.1) ?_
  rintro f M1 ⟨r, e1, e2, I1, e3, e4, e5⟩
  exact ⟨r, e1, e2, I1, e3, h.p hX e4 e5, e5.x⟩
theorem kb_refuse (hG : okG G) (hX : RX S R x t c) (h : AbL I J x t c T (BP b s)) : Fn G mX7_refuse 1 [vR x] (mw S I J R) (fun rr M1 => rr = none ∧ ∃ I1, M1 = mw S I1 J R ∧ AbL I1 J x t c T (BP b (pRef T s)) ∧ OffX x c I I1) := by
  refine MW.weaken (k_X7_refuse hG hX.1.1 h.1.1 hX.1.2.1 hX.1.2.2.1 hX.1.2.2.2 h.1.2.1) ?_
  rintro f M1 ⟨r, e1, e2, I1, e3, e4, e5⟩
  exact ⟨r, e1, e2, I1, e3, h.p hX e4 e5, e5.x⟩
theorem kb_kind (hG : okG G) (hX : RX S R x t c) (h : AbL I J x t c T (BP b s)) : Fn G mX7_kind 1 [vR x] (mw S I J R) (fun rr M1 => rr = some (vI (pK T s)) ∧ M1 = mw S I J R) := kx_kind hG hX.1 h.1.1 h.1.2.1
theorem kb_value (hG : okG G) (hX : RX S R x t c) (h : AbL I J x t c T (BP b s)) : Fn G mX7_value 1 [vR x] (mw S I J R) (fun rr M1 => rr = some (vJ (pV T s)) ∧ M1 = mw S I J R) := kx_value hG hX.1 h.1.1 h.1.2.1
theorem kb_new {p q : Int32} (hG : okG G) (hX : RX S R x t c) (h : AbL I J x t c T (BP b s)) : Fn G mX7_expectNewName 3 [vR x, vI p, vI q] (mw S I J R) (fun rr M1 => rr = none ∧ ∃ I1, M1 = mw S I1 J R ∧ AbL I1 J x t c T (BP b (pNew T p q s)) ∧ OffX x c I I1) := by
  refine MW.weaken (k_X7_expectNewName hG hX.1 h.1.1 h.1.2.1) ?_
  rintro f M1 ⟨r, e1, e2, I1, e3, e4, e5⟩
  exact ⟨r, e1, e2, I1, e3, h.p hX e4 e5, e5.x⟩
theorem kb_known {i : Int32} (hG : okG G) (hX : RX S R x t c) (h : AbL I J x t c T (BP b s)) : Fn G mX7_knownName 3 [vR x, vI i] (mw S I J R) (fun rr M1 => rr = some (vI i) ∧ ∃ I1, M1 = mw S I1 J R ∧ AbL I1 J x t c T (BP b (pKn T i s)) ∧ OffX x c I I1) := by
  refine MW.weaken (k_X7_knownName hG hX.1 h.1.1 h.1.2.1) ?_
  rintro f M1 ⟨r, e1, e2, I1, e3, e4, e5⟩
  exact ⟨r, e1, e2, I1, e3, h.p hX e4 e5, e5.x⟩
theorem kb_num {kw lo hi : Int32} (hG : okG G) (hX : RX S R x t c) (h : AbL I J x t c T (BP b s)) (hk : kw ≠ 257) : Fn G mX7_numberBehind 3 [vR x, vI kw, vI lo, vI hi] (mw S I J R) (fun rr M1 => rr = some (vI (pV T (pEx T kw s)).toInt32) ∧ ∃ I1, M1 = mw S I1 J R ∧ AbL I1 J x t c T (BP b (pNum T kw lo hi s)) ∧ OffX x c I I1) := by
  refine MW.weaken (k_X7_numberBehind hG hX.1 h.1.1 h.1.2.1 hk) ?_
  rintro f M1 ⟨r, e1, e2, I1, e3, e4, e5⟩
  exact ⟨r, e1, e2, I1, e3, h.p hX e4 e5, e5.x⟩
theorem kb_to {f0 : Int32} (hG : okG G) (hX : RX S R x t c) (h : AbL I J x t c T (BP b s)) : Fn G mX7_numberOfTo 3 [vR x, vI f0] (mw S I J R) (fun rr M1 => rr = some (vI (pV T (pEx T 307 s)).toInt32) ∧ ∃ I1, M1 = mw S I1 J R ∧ AbL I1 J x t c T (BP b (pTo T f0 s)) ∧ OffX x c I I1) := by
  refine MW.weaken (k_X7_numberOfTo hG hX.1 h.1.1 h.1.2.1) ?_
  rintro f M1 ⟨r, e1, e2, I1, e3, e4, e5⟩
  exact ⟨r, e1, e2, I1, e3, h.p hX e4 e5, e5.x⟩
theorem kb_rail {v : Int64} (hX : RX S R x t c) (h : AbL I J x t c T (BP b s)) : Fn G mX2_railNamed 0 [vR c, vJ v] (mw S I J R) (fun rr M1 => rr = some (vI (fndJ b.nr v 0 b.B.nR)) ∧ M1 = mw S I J R) := by
  have e : fndJ b.nr v 0 b.B.nR = fndJ (fun i => J (c + 14 + 2 * i) 1) v 0 b.B.nR := fndJ_cg _ _ (fun i _ q => (h.2.2.2.2.2.1 i (show i < b.B.nR by omega)).symm)
  rw [e]
  exact k_X2_railNamed hX.2.1 h.2.1.1.1 h.2.1.1.2
theorem kb_fist {v : Int64} (hX : RX S R x t c) (h : AbL I J x t c T (BP b s)) : Fn G mX2_fistNamed 0 [vR c, vJ v] (mw S I J R) (fun rr M1 => rr = some (vI (fndJ b.nf v 0 b.B.nF)) ∧ M1 = mw S I J R) := by
  have e : fndJ b.nf v 0 b.B.nF = fndJ (fun i => J (c + 22 + i) 0) v 0 b.B.nF := fndJ_cg _ _ (fun i _ q => (h.2.2.2.2.2.2.1 i (show i < b.B.nF by omega)).symm)
  rw [e]
  exact k_X2_fistNamed hX.2.1 h.2.1.2.1.1 h.2.1.2.1.2
theorem kb_prize {v : Int64} (hX : RX S R x t c) (h : AbL I J x t c T (BP b s)) : Fn G mX2_prizeNamed 0 [vR c, vJ v] (mw S I J R) (fun rr M1 => rr = some (vI (fndJ b.np v 0 b.B.nP)) ∧ M1 = mw S I J R) := by
  have e : fndJ b.np v 0 b.B.nP = fndJ (fun i => J (c + 30 + i) 0) v 0 b.B.nP := fndJ_cg _ _ (fun i _ q => (h.2.2.2.2.2.2.2 i (show i < b.B.nP by omega)).symm)
  rw [e]
  exact k_X2_prizeNamed hX.2.1 h.2.1.2.2.1.1 h.2.1.2.2.1.2
theorem kb_sum (hG : okG G) (hX : RX S R x t c) (h : AbL I J x t c T b) : Fn G mX7_readSum 40 [vR x, vI 0] (mw S I J R) (fun rr M1 => rr = none ∧ ∃ I1, M1 = mw S I1 J R ∧ AbL I1 J x t c T (BE b (eSu T (eVal T (ixB b) 8) (b.P, b.L))) ∧ OffX x c I I1) := by
  refine MW.weaken (k_readSum0 hG hX I (b.P, b.L) h.1) ?_
  rintro f M1 ⟨r, e1, e2, I1, e3, e4, e5⟩
  rw [h.2.2.2.2.2.ix] at e4
  exact ⟨r, e1, e2, I1, e3, h.e hX e4 e5 (eSu_ex (eVal_ex 8) (b.P, b.L)), e5.x⟩
theorem kb_test (hG : okG G) (hX : RX S R x t c) (h : AbL I J x t c T b) : Fn G mX7_readTest 46 [vR x, vI 0] (mw S I J R) (fun rr M1 => rr = none ∧ ∃ I1, M1 = mw S I1 J R ∧ AbL I1 J x t c T (BE b (eTs T (eSng T (ixB b) 8) (b.P, b.L))) ∧ OffX x c I I1) := by
  refine MW.weaken (k_readTest0 hG hX I (b.P, b.L) h.1) ?_
  rintro f M1 ⟨r, e1, e2, I1, e3, e4, e5⟩
  rw [h.2.2.2.2.2.ix] at e4
  exact ⟨r, e1, e2, I1, e3, h.e hX e4 e5 (eTs_ex (eSng_ex 8) (b.P, b.L)), e5.x⟩
end Kb

