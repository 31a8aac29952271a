/-! nodes of the reference and steps of the class mean the same -/
theorem NdN.re {O A E : Nat → Int32} {nR nF nP : Nat} : ∀ f n s, NdN O A E nR nF nP f n s → ∀ f', n < f' → NdN O A E nR nF nP f' n s := by
  intro f
  induction f with
  | zero => intro n s h; exact False.elim h
  | succ f ih =>
    intro n s h f' hf
    obtain ⟨f'', rfl⟩ : ∃ z, f' = z + 1 := ⟨f' - 1, by omega⟩
    rcases h with h | h | h | ⟨a, u, h1, ha, han, hu, h2⟩ | ⟨a, b, u, v, ha, hb, han, hbn, h1, hu, hv, h2⟩
    · exact Or.inl h
    · exact Or.inr (Or.inl h)
    · exact Or.inr (Or.inr (Or.inl h))
    · exact Or.inr (Or.inr (Or.inr (Or.inl ⟨a, u, h1, ha, han, ih a u hu f'' (by omega), h2⟩)))
    · exact Or.inr (Or.inr (Or.inr (Or.inr ⟨a, b, u, v, ha, hb, han, hbn, h1, ih a u hu f'' (by omega), ih b v hv f'' (by omega), h2⟩)))
theorem NdB.re {O A E : Nat → Int32} {nR nF nP : Nat} : ∀ f n s, NdB O A E nR nF nP f n s → ∀ f', n < f' → NdB O A E nR nF nP f' n s := by
  intro f
  induction f with
  | zero => intro n s h; exact False.elim h
  | succ f ih =>
    intro n s h f' hf
    obtain ⟨f'', rfl⟩ : ∃ z, f' = z + 1 := ⟨f' - 1, by omega⟩
    rcases h with h | ⟨a, u, h1, ha, han, hu, h2⟩ | ⟨a, b, u, v, ha, hb, han, hbn, h1, hu, hv, h2⟩ | ⟨a, b, u, v, ha, hb, han, hbn, h1, hu, hv, h2⟩
    · exact Or.inl h
    · exact Or.inr (Or.inl ⟨a, u, h1, ha, han, ih a u hu f'' (by omega), h2⟩)
    · exact Or.inr (Or.inr (Or.inl ⟨a, b, u, v, ha, hb, han, hbn, h1, ih a u hu f'' (by omega), ih b v hv f'' (by omega), h2⟩))
    · exact Or.inr (Or.inr (Or.inr ⟨a, b, u, v, ha, hb, han, hbn, h1, NdN.re f a u hu f'' (by omega), NdN.re f b v hv f'' (by omega), h2⟩))
theorem NdN.cg {O A E O1 A1 E1 : Nat → Int32} {nR nF nP : Nat} : ∀ f n s, NdN O A E nR nF nP f n s → (∀ j, j ≤ n → O1 j = O j ∧ A1 j = A j ∧ E1 j = E j) → NdN O1 A1 E1 nR nF nP f n s := by
  intro f
  induction f with
  | zero => intro n s h; exact False.elim h
  | succ f ih =>
    intro n s h q
    obtain ⟨e1, e2, e3⟩ := q n (Nat.le_refl n)
    unfold NdN
    rw [e1, e2, e3]
    rcases h with h | h | h | ⟨a, u, h1, ha, han, hu, h2⟩ | ⟨a, b, u, v, ha, hb, han, hbn, h1, hu, hv, h2⟩
    · exact Or.inl h
    · exact Or.inr (Or.inl h)
    · exact Or.inr (Or.inr (Or.inl h))
    · exact Or.inr (Or.inr (Or.inr (Or.inl ⟨a, u, h1, ha, han, ih a u hu (fun j hj => q j (by omega)), h2⟩)))
    · exact Or.inr (Or.inr (Or.inr (Or.inr ⟨a, b, u, v, ha, hb, han, hbn, h1, ih a u hu (fun j hj => q j (by omega)), ih b v hv (fun j hj => q j (by omega)), h2⟩)))
theorem NdB.cg {O A E O1 A1 E1 : Nat → Int32} {nR nF nP : Nat} : ∀ f n s, NdB O A E nR nF nP f n s → (∀ j, j ≤ n → O1 j = O j ∧ A1 j = A j ∧ E1 j = E j) → NdB O1 A1 E1 nR nF nP f n s := by
  intro f
  induction f with
  | zero => intro n s h; exact False.elim h
  | succ f ih =>
    intro n s h q
    obtain ⟨e1, e2, e3⟩ := q n (Nat.le_refl n)
    unfold NdB
    rw [e1, e2, e3]
    rcases h with h | ⟨a, u, h1, ha, han, hu, h2⟩ | ⟨a, b, u, v, ha, hb, han, hbn, h1, hu, hv, h2⟩ | ⟨a, b, u, v, ha, hb, han, hbn, h1, hu, hv, h2⟩
    · exact Or.inl h
    · exact Or.inr (Or.inl ⟨a, u, h1, ha, han, ih a u hu (fun j hj => q j (by omega)), h2⟩)
    · exact Or.inr (Or.inr (Or.inl ⟨a, b, u, v, ha, hb, han, hbn, h1, ih a u hu (fun j hj => q j (by omega)), ih b v hv (fun j hj => q j (by omega)), h2⟩))
    · exact Or.inr (Or.inr (Or.inr ⟨a, b, u, v, ha, hb, han, hbn, h1, NdN.cg f a u hu (fun j hj => q j (by omega)), NdN.cg f b v hv (fun j hj => q j (by omega)), h2⟩))
/-- a kind of node: of sums, of tests -/
abbrev NdK : Type := (Nat → Int32) → (Nat → Int32) → (Nat → Int32) → Nat → Nat → Nat → Nat → Nat → Sem → Prop
def NdW (D : NdK) : Prop := (∀ O A E nR nF nP f n s, D O A E nR nF nP f n s → ∀ f', n < f' → D O A E nR nF nP f' n s) ∧ ∀ O A E O1 A1 E1 nR nF nP f n s, D O A E nR nF nP f n s → (∀ j, j ≤ n → O1 j = O j ∧ A1 j = A j ∧ E1 j = E j) → D O1 A1 E1 nR nF nP f n s
theorem NdN_w : NdW NdN := ⟨fun _ _ _ _ _ _ => NdN.re, fun _ _ _ _ _ _ _ _ _ => NdN.cg⟩
theorem NdB_w : NdW NdB := ⟨fun _ _ _ _ _ _ => NdB.re, fun _ _ _ _ _ _ _ _ _ => NdB.cg⟩
/-- steps p to q of a code put one value on any stack -/
def SgL (L : Cd) (p q : Nat) (σ : Sem) : Prop := p ≤ q ∧ q ≤ L.length ∧ ∀ rd st, evE rd (fun i => (L.getD i (0, 0)).1) (fun i => (L.getD i (0, 0)).2) p (q - p) st = σ rd :: st
theorem evE_app {rd : Int32 → Int32 → Int32} {K A : Nat → Int32} : ∀ n p m st, evE rd K A p (n + m) st = evE rd K A (p + n) m (evE rd K A p n st) := by
  intro n
  induction n with
  | zero => intro p m st; rw [Nat.zero_add, Nat.add_zero]; rfl
  | succ n ih =>
    intro p m st
    rw [show n + 1 + m = (n + m) + 1 by omega, evE, ih, evE, show p + 1 + n = p + (n + 1) by omega]
theorem pre_getD {L L1 : Cd} (h : L <+: L1) {i : Nat} (hi : i < L.length) : L1.getD i (0, 0) = L.getD i (0, 0) := by
  obtain ⟨r, rfl⟩ := h
  simp [List.getD, List.getElem?_append_left hi]
theorem SgL.mono {L L1 : Cd} {p q : Nat} {σ : Sem} (h : SgL L p q σ) (hp : L <+: L1) : SgL L1 p q σ := by
  obtain ⟨h1, h2, h3⟩ := h
  refine ⟨h1, Nat.le_trans h2 hp.length_le, fun rd st => ?_⟩
  rw [← h3 rd st]
  refine evE_cg _ _ _ (fun j q1 q2 => ?_)
  rw [pre_getD hp (show j < L.length by omega)]
  exact ⟨rfl, rfl⟩
theorem last_getD {L : Cd} {x : Int32 × Int32} : (L ++ [x]).getD L.length (0, 0) = x := by simp
theorem SgL.step {L : Cd} {p : Nat} {k g : Int32} {τ : Sem} (hp : p ≤ L.length) (h : ∀ rd st, stE rd k g (evE rd (fun i => (L.getD i (0, 0)).1) (fun i => (L.getD i (0, 0)).2) p (L.length - p) st) = τ rd :: st) : SgL (L ++ [(k, g)]) p (L ++ [(k, g)]).length τ := by
  have hl : (L ++ [(k, g)]).length = L.length + 1 := by simp
  refine ⟨by omega, Nat.le_refl _, fun rd st => ?_⟩
  rw [hl, show L.length + 1 - p = (L.length - p) + 1 by omega, evE_app, show p + (L.length - p) = L.length by omega]
  show stE rd (((L ++ [(k, g)]).getD L.length (0, 0)).1) (((L ++ [(k, g)]).getD L.length (0, 0)).2) _ = _
  rw [last_getD, ← h rd st]
  congr 1
  refine evE_cg _ _ _ (fun j q1 q2 => ?_)
  rw [pre_getD (List.prefix_append L [(k, g)]) (show j < L.length by omega)]
  exact ⟨rfl, rfl⟩
theorem SgL.one {L : Cd} {k g : Int32} {τ : Sem} (h : ∀ rd st, stE rd k g st = τ rd :: st) : SgL (L ++ [(k, g)]) L.length (L ++ [(k, g)]).length τ := by
  refine SgL.step (Nat.le_refl _) (fun rd st => ?_)
  rw [Nat.sub_self]
  exact h rd st
theorem SgL.un {L : Cd} {p : Nat} {k g : Int32} {σ τ : Sem} (h1 : SgL L p L.length σ) (h : ∀ rd st, stE rd k g (σ rd :: st) = τ rd :: st) : SgL (L ++ [(k, g)]) p (L ++ [(k, g)]).length τ :=
  SgL.step h1.1 (fun rd st => by rw [h1.2.2 rd st]; exact h rd st)
theorem SgL.bi {L L1 : Cd} {p : Nat} {k g : Int32} {σ1 σ2 τ : Sem} (hp : L <+: L1) (h1 : SgL L p L.length σ1) (h2 : SgL L1 L.length L1.length σ2) (h : ∀ rd st, stE rd k g (σ2 rd :: σ1 rd :: st) = τ rd :: st) : SgL (L1 ++ [(k, g)]) p (L1 ++ [(k, g)]).length τ := by
  have q1 := h1.1
  have q2 := h2.1
  refine SgL.step (by omega) (fun rd st => ?_)
  rw [show L1.length - p = (L.length - p) + (L1.length - L.length) by omega, evE_app, show p + (L.length - p) = L.length by omega, (h1.mono hp).2.2 rd st, h2.2.2 rd _]
  exact h rd st
/-- a node that was read means what the code means that was read -/
def NRx (D : NdK) (I : Nat → Nat → Int32) (nx : Nat) (N : Nat × Nat × Nat) (L0 L1 : Cd) (n : Nat) : Prop := L0 <+: L1 ∧ L0.length ≤ n ∧ n + 1 = L1.length ∧ ∃ σ, D (I (nx + 6)) (I (nx + 7)) (I (nx + 8)) N.1 N.2.1 N.2.2 (n + 1) n σ ∧ SgL L1 L0.length L1.length σ
theorem NRx.off {D : NdK} {S : AMem} {I I1 : Nat → Nat → Int32} {R : Nat → Nat → Option Nat} {y bl nx k n : Nat} {N : Nat × Nat × Nat} {L0 L1 : Cd} (hD : NdW D) (hC : MCc S R y bl nx) (h : NRx D I nx N L0 L1 n) (ho : OffM y nx k I I1) (hk : L1.length ≤ k) : NRx D I1 nx N L0 L1 n := by
  obtain ⟨p1, p2, p3, p4, p5⟩ := hC.lo
  obtain ⟨h1, h2, h3, σ, h4, h5⟩ := h
  exact ⟨h1, h2, h3, σ, hD.2 _ _ _ _ _ _ _ _ _ _ _ _ h4 (fun j hj => ⟨ho _ _ (by omega) (by omega) (by omega), ho _ _ (by omega) (by omega) (by omega), ho _ _ (by omega) (by omega) (by omega)⟩), h5⟩
/-! nothing is read once it has failed -/
def KF1 (V : PS × Cd → PS × Cd) : Prop := ∀ s, s.1.2.1 = 1 → (V s).1 = s.1
theorem pK_f1 {T : Toks} {s : PS} (h : s.2.1 = 1) : pK T s = 257 := by
  unfold pK
  rw [if_pos h]
theorem eRef_f1 {T : Toks} : KF1 (eRef T) := by
  intro s h
  unfold eRef pRef
  rw [if_pos h]
theorem eEx_f1 {T : Toks} {k : Int32} (hk : k ≠ 257) : KF1 (eEx T k) := by
  intro s h
  unfold eEx pEx
  rw [if_neg (by rw [pK_f1 h]; exact hk.symm)]
  exact eRef_f1 (T := T) s h
theorem eLoop_f1 {T : Toks} {p : PS × Cd → PS × Cd} {a b : Int32} (ha : a ≠ 257) (hb : b ≠ 257) {s : PS × Cd} (h : s.1.2.1 = 1) : ∀ n, eLoop T p a b n s = s := by
  intro n
  cases n with
  | zero => rfl
  | succ n =>
    rw [eLoop, pK_f1 h, if_neg (fun q => q.elim (fun z => ha z.symm) (fun z => hb z.symm))]
theorem KF1.er {V : PS × Cd → PS × Cd} (hV : KF1 V) {s : PS × Cd} (h : s.1.2.1 = 1) : (V s).1.2.1 = 1 := by rw [hV s h]; exact h
theorem eLoop_k1 {T : Toks} {p : PS × Cd → PS × Cd} {a b : Int32} (ha : a ≠ 257) (hb : b ≠ 257) (hV : KF1 p) (n : Nat) : KF1 (fun s => eLoop T p a b n (p s)) := by
  intro s h
  show (eLoop T p a b n (p s)).1 = s.1
  rw [eLoop_f1 ha hb (hV.er h)]
  exact hV s h
theorem eProd_f1 {T : Toks} {V : PS × Cd → PS × Cd} (h : KF1 V) : KF1 (eProd T V) := eLoop_k1 (by decide) (by decide) h 400
theorem eSu_f1 {T : Toks} {V : PS × Cd → PS × Cd} (h : KF1 V) : KF1 (eSu T V) := eLoop_k1 (p := eProd T V) (by decide) (by decide) (eProd_f1 h) 400
theorem eTs_f1 {T : Toks} {V : PS × Cd → PS × Cd} (h : KF1 V) : KF1 (eTs T V) := eLoop_k1 (p := eBoth T V) (by decide) (by decide) (eLoop_k1 (by decide) (by decide) h 400) 400
theorem eValF_f1 {T : Toks} {ix : Int32 → Int64 → Int32} {V : PS × Cd → PS × Cd} {d : Nat} : KF1 (eValF T ix V d) := by
  intro s h
  unfold eValF
  rw [pK_f1 h, if_neg (by decide), if_neg (by decide), if_neg (by decide), if_neg (by decide), if_neg (by decide)]
  exact eRef_f1 s h
theorem eVal_f1 {T : Toks} {ix : Int32 → Int64 → Int32} : ∀ r, KF1 (eVal T ix r) := by
  intro r
  cases r with
  | zero => exact eValF_f1
  | succ r => exact eValF_f1
theorem eCmp_f1 {T : Toks} {V : PS × Cd → PS × Cd} (hV : KF1 V) : KF1 (eCmp T V) := by
  intro s h
  have e1 : (eRef T (V s)).1 = (V s).1 := eRef_f1 (T := T) (V s) (hV.er h)
  unfold eCmp eCs
  rw [pK_f1 (hV.er h), if_neg (by decide)]
  show (V (eRef T (V s))).1 = s.1
  rw [hV _ (by rw [e1]; exact hV.er h), e1]
  exact hV s h
theorem eSngF_f1 {T : Toks} {P Q C : PS × Cd → PS × Cd} {d : Nat} (hC : KF1 C) : KF1 (eSngF T P Q C d) := by
  intro s h
  unfold eSngF
  rw [pK_f1 h, if_neg (by decide), if_neg (by decide), if_neg (by decide)]
  exact hC s h
theorem eSng_f1 {T : Toks} {ix : Int32 → Int64 → Int32} : ∀ r, KF1 (eSng T ix r) := by
  intro r
  cases r with
  | zero => exact eSngF_f1 (eCmp_f1 (eSu_f1 (eVal_f1 0)))
  | succ r => exact eSngF_f1 (eCmp_f1 (eSu_f1 (eVal_f1 (r + 1))))

