/-! nodes joined, and the reading methods' contract -/
theorem sg_all {c : Nat} (hc : c ∈ symN) : ∀ so va k v, srt k so va v → ((so = 4 ∧ va = nI c) ↔ k = nI c) := fun _ _ _ _ q => srt_sig q hc
theorem ky_all {j : Nat} (hj : j < 32) : ∀ so va k v, srt k so va v → ((so = 2 ∧ va = nI j) ↔ k = nI (300 + j)) := fun _ _ _ _ q => srt_key q hj
theorem lg_all {c q0 : Nat} (hc : (c = 108 ∧ q0 = 260) ∨ (c = 103 ∧ q0 = 261)) : ∀ so va k v, srt k so va v → ((so = 4 ∧ va = nI c) ↔ k = nI q0) := fun _ _ _ _ q => srt_lg q hc
theorem adC_lt {L : Cd} {x : Int32 × Int32} (h : L.length < 400) : adC L x = L ++ [x] := if_pos h
section Jn
variable {S : AMem} {I I1 I3 : Nat → Nat → Int32} {R : Nat → Nat → Option Nat} {y bl nx : Nat} {N : Nat × Nat × Nat} {k : Nat}
theorem ndI_at {w u v : Int32} (x j : Nat) : ndI I nx k w u v x j = if x = nx + 6 ∧ j = k then w else if x = nx + 7 ∧ j = k then u else if x = nx + 8 ∧ j = k then v else if x = nx ∧ j = 10 then nI (k + 1) else I x j := up4_at x j
theorem ndI_o {w u v : Int32} : ndI I nx k w u v (nx + 6) k = w := by rw [ndI_at, if_pos ⟨rfl, rfl⟩]
theorem ndI_a {w u v : Int32} : ndI I nx k w u v (nx + 7) k = u := by rw [ndI_at, if_neg (by omega), if_pos ⟨rfl, rfl⟩]
theorem ndI_d {w u v : Int32} : ndI I nx k w u v (nx + 8) k = v := by rw [ndI_at, if_neg (by omega), if_neg (by omega), if_pos ⟨rfl, rfl⟩]
theorem ndI_n {w u v : Int32} {x j : Nat} (h : j ≠ k) (hx : x ≠ nx) : ndI I nx k w u v x j = I x j := by rw [ndI_at, if_neg (by omega), if_neg (by omega), if_neg (by omega), if_neg (by omega)]
theorem ndI_off {D : NdK} (hD : NdW D) {w u v : Int32} {n f : Nat} {σ : Sem} {a b c : Nat} (h : D (I (nx + 6)) (I (nx + 7)) (I (nx + 8)) a b c f n σ) (hn : n < k) : D (ndI I nx k w u v (nx + 6)) (ndI I nx k w u v (nx + 7)) (ndI I nx k w u v (nx + 8)) a b c k n σ :=
  hD.1 _ _ _ _ _ _ _ _ _ (hD.2 _ _ _ _ _ _ _ _ _ _ _ _ h (fun j hj => ⟨ndI_n (by omega) (by omega), ndI_n (by omega) (by omega), ndI_n (by omega) (by omega)⟩)) _ hn
/-- a leaf -/
theorem NRx.one {D : NdK} {op kc g u v : Int32} {L : Cd} {τ : Sem} (hk : k = L.length) (hl : L.length < 400) (hn : ∀ O A E, O k = op → A k = u → D O A E N.1 N.2.1 N.2.2 (k + 1) k τ) (hst : ∀ rd st, stE rd kc g st = τ rd :: st) : NRx D (ndI I nx k op u v) nx N L (adC L (kc, g)) k := by
  rw [adC_lt hl]
  subst hk
  exact ⟨List.prefix_append _ _, Nat.le_refl _, by simp, τ, hn _ _ _ ndI_o ndI_a, SgL.one hst⟩
/-- one part -/
theorem NRx.un {D : NdK} (hD : NdW D) {op kc g v : Int32} {L0 L : Cd} {n : Nat} {F : Int32 → Int32} (h : NRx D I nx N L0 L n) (hk : k = L.length) (hl : L.length < 400) (hn : ∀ O A E u, O k = op → A k = nI n → n < k → D O A E N.1 N.2.1 N.2.2 k n u → D O A E N.1 N.2.1 N.2.2 (k + 1) k (fun rd => F (u rd))) (hst : ∀ rd p st, stE rd kc g (p :: st) = F p :: st) : NRx D (ndI I nx k op (nI n) v) nx N L0 (adC L (kc, g)) k := by
  obtain ⟨h1, h2, h3, σ, h4, h5⟩ := h
  rw [adC_lt hl]
  exact ⟨h1.trans (List.prefix_append _ _), by omega, by rw [List.length_append, hk]; rfl, _, hn _ _ _ σ ndI_o ndI_a (by omega) (ndI_off hD h4 (by omega)), SgL.un h5 (fun rd st => hst rd _ st)⟩
/-- two parts -/
theorem NRx.bi {D D1 : NdK} (hD : NdW D) (hC : MCc S R y bl nx) {op kc g : Int32} {L0 L1 L2 : Cd} {n m k1 : Nat} {F : Int32 → Int32 → Int32} (h : NRx D I1 nx N L0 L1 n) (h' : NRx D I3 nx N L1 L2 m) (ho : OffM y nx k1 I1 I3) (hk1 : L1.length ≤ k1) (hk : k = L2.length) (hl : L2.length < 400) (hn : ∀ O A E u v, O k = op → A k = nI n → E k = nI m → n < k → m < k → D O A E N.1 N.2.1 N.2.2 k n u → D O A E N.1 N.2.1 N.2.2 k m v → D1 O A E N.1 N.2.1 N.2.2 (k + 1) k (fun rd => F (u rd) (v rd))) (hst : ∀ rd p q st, stE rd kc g (q :: p :: st) = F p q :: st) : NRx D1 (ndI I3 nx k op (nI n) (nI m)) nx N L0 (adC L2 (kc, g)) k := by
  obtain ⟨h1, h2, h3, σ, h4, h5⟩ := h.off hD hC ho hk1
  obtain ⟨g1, g2, g3, σ2, g4, g5⟩ := h'
  have hle := g1.length_le
  rw [adC_lt hl]
  exact ⟨(h1.trans g1).trans (List.prefix_append _ _), by omega, by rw [List.length_append, hk]; rfl, _, hn _ _ _ σ σ2 ndI_o ndI_a ndI_d (by omega) (by omega) (ndI_off hD h4 (by omega)) (ndI_off hD g4 (by omega)), SgL.bi g1 h5 g5 (fun rd st => hst rd _ _ st)⟩
theorem stE_j {rd : Int32 → Int32 → Int32} {kc g p q : Int32} {st : List Int32} (h : kc = 330 ∨ kc = 331 ∨ kc = 42 ∨ kc = 47 ∨ kc = 45 ∨ kc = 43 ∨ kc = 328 ∨ kc = 329) : stE rd kc g (q :: p :: st) = jnE kc p q :: st := by
  unfold stE
  rcases h with e | e | e | e | e | e | e | e <;> rw [e, if_neg (by decide), if_neg (by decide), if_neg (by decide), if_neg (by decide), if_pos (by decide)] <;> rfl
theorem stE_c {rd : Int32 → Int32 → Int32} {kc g p q : Int32} {st : List Int32} (h : kc = 60 ∨ kc = 62 ∨ kc = 61 ∨ kc = 260 ∨ kc = 261) : stE rd kc g (q :: p :: st) = cmE kc p q :: st := by
  unfold stE
  rcases h with e | e | e | e | e <;> rw [e, if_neg (by decide), if_neg (by decide), if_neg (by decide), if_neg (by decide), if_neg (by decide)] <;> rfl
theorem NRx.bn (hC : MCc S R y bl nx) {op kc g : Int32} {L0 L1 L2 : Cd} {n m k1 : Nat} (h : NRx NdN I1 nx N L0 L1 n) (h' : NRx NdN I3 nx N L1 L2 m) (ho : OffM y nx k1 I1 I3) (hk1 : L1.length ≤ k1) (hk : k = L2.length) (hl : L2.length < 400) (hop : (op = 30 ∧ kc = 330) ∨ (op = 31 ∧ kc = 331) ∨ (op = 42 ∧ kc = 42) ∨ (op = 47 ∧ kc = 47) ∨ (op = 45 ∧ kc = 45) ∨ (op = 43 ∧ kc = 43)) : NRx NdN (ndI I3 nx k op (nI n) (nI m)) nx N L0 (adC L2 (kc, g)) k := by
  refine NRx.bi (F := jnE kc) NdN_w hC h h' ho hk1 hk hl ?_ ?_
  · intro O A E u v q1 q2 q3 q4 q5 q6 q7
    refine Or.inr (Or.inr (Or.inr (Or.inr ⟨n, m, u, v, q2, q3, q4, q5, ?_, q6, q7, ?_⟩)))
    · rw [q1]
      rcases hop with ⟨e, _⟩ | ⟨e, _⟩ | ⟨e, _⟩ | ⟨e, _⟩ | ⟨e, _⟩ | ⟨e, _⟩ <;> rw [e] <;> decide
    · rw [q1]
      have e0 : (if op = 30 then (330 : Int32) else if op = 31 then 331 else op) = kc := by
        rcases hop with ⟨e, e2⟩ | ⟨e, e2⟩ | ⟨e, e2⟩ | ⟨e, e2⟩ | ⟨e, e2⟩ | ⟨e, e2⟩
        · rw [e, e2, if_pos rfl]
        · rw [e, e2, if_neg (by decide), if_pos rfl]
        · rw [e, e2, if_neg (by decide), if_neg (by decide)]
        · rw [e, e2, if_neg (by decide), if_neg (by decide)]
        · rw [e, e2, if_neg (by decide), if_neg (by decide)]
        · rw [e, e2, if_neg (by decide), if_neg (by decide)]
      rw [e0]
  · intro rd p q st
    refine stE_j ?_
    rcases hop with ⟨_, e2⟩ | ⟨_, e2⟩ | ⟨_, e2⟩ | ⟨_, e2⟩ | ⟨_, e2⟩ | ⟨_, e2⟩ <;> rw [e2] <;> decide
theorem NRx.bb (hC : MCc S R y bl nx) {op kc g : Int32} {L0 L1 L2 : Cd} {n m k1 : Nat} (h : NRx NdB I1 nx N L0 L1 n) (h' : NRx NdB I3 nx N L1 L2 m) (ho : OffM y nx k1 I1 I3) (hk1 : L1.length ≤ k1) (hk : k = L2.length) (hl : L2.length < 400) (hop : (op = 28 ∧ kc = 328) ∨ (op = 29 ∧ kc = 329)) : NRx NdB (ndI I3 nx k op (nI n) (nI m)) nx N L0 (adC L2 (kc, g)) k := by
  refine NRx.bi (F := jnE kc) NdB_w hC h h' ho hk1 hk hl ?_ ?_
  · intro O A E u v q1 q2 q3 q4 q5 q6 q7
    refine Or.inr (Or.inr (Or.inl ⟨n, m, u, v, q2, q3, q4, q5, ?_, q6, q7, ?_⟩))
    · rw [q1]
      rcases hop with ⟨e, _⟩ | ⟨e, _⟩ <;> rw [e] <;> decide
    · rw [q1]
      have e0 : (op + 300) = kc := by
        rcases hop with ⟨e, e2⟩ | ⟨e, e2⟩
        · rw [e, e2]
          rfl
        · rw [e, e2]
          rfl
      rw [e0]
  · intro rd p q st
    refine stE_j ?_
    rcases hop with ⟨_, e2⟩ | ⟨_, e2⟩ <;> rw [e2] <;> decide
theorem NRx.bc (hC : MCc S R y bl nx) {op kc g : Int32} {L0 L1 L2 : Cd} {n m k1 : Nat} (h : NRx NdN I1 nx N L0 L1 n) (h' : NRx NdN I3 nx N L1 L2 m) (ho : OffM y nx k1 I1 I3) (hk1 : L1.length ≤ k1) (hk : k = L2.length) (hl : L2.length < 400) (hop : (op = 60 ∧ kc = 60) ∨ (op = 62 ∧ kc = 62) ∨ (op = 61 ∧ kc = 61) ∨ (op = 108 ∧ kc = 260) ∨ (op = 103 ∧ kc = 261)) : NRx NdB (ndI I3 nx k op (nI n) (nI m)) nx N L0 (adC L2 (kc, g)) k := by
  refine NRx.bi (F := cmE kc) NdN_w hC h h' ho hk1 hk hl ?_ ?_
  · intro O A E u v q1 q2 q3 q4 q5 q6 q7
    refine Or.inr (Or.inr (Or.inr ⟨n, m, u, v, q2, q3, q4, q5, ?_, q6, q7, ?_⟩))
    · rw [q1]
      rcases hop with ⟨e, _⟩ | ⟨e, _⟩ | ⟨e, _⟩ | ⟨e, _⟩ | ⟨e, _⟩ <;> rw [e] <;> decide
    · rw [q1]
      have e0 : (if op = 108 then (260 : Int32) else if op = 103 then 261 else op) = kc := by
        rcases hop with ⟨e, e2⟩ | ⟨e, e2⟩ | ⟨e, e2⟩ | ⟨e, e2⟩ | ⟨e, e2⟩
        · rw [e, e2, if_neg (by decide), if_neg (by decide)]
        · rw [e, e2, if_neg (by decide), if_neg (by decide)]
        · rw [e, e2, if_neg (by decide), if_neg (by decide)]
        · rw [e, e2, if_pos rfl]
        · rw [e, e2, if_neg (by decide), if_pos rfl]
      rw [e0]
  · intro rd p q st
    refine stE_c ?_
    rcases hop with ⟨_, e2⟩ | ⟨_, e2⟩ | ⟨_, e2⟩ | ⟨_, e2⟩ | ⟨_, e2⟩ <;> rw [e2] <;> decide
end Jn
/-- a reading method of the reference keeps to V at one depth -/
def KM (G : Gp) (S : AMem) (J : Nat → Nat → Int64) (R : Nat → Nat → Option Nat) (y nx : Nat) (T : Toks) (ix : Int32 → Int64 → Int32) (N : Nat × Nat × Nat) (D : NdK) (Y : MD) (dd dep : Nat) (V : PS × Cd → PS × Cd) : Prop := ∀ (I : Nat → Nat → Int32) (s : PS × Cd) (a k : Nat), PC I y nx T ix N s dep a k → 1 ≤ a → Fn G Y dd [vR y] (mw S I J R) (fun rr M1 => ∃ n I1 a1 k1, rr = some (vI (nI n)) ∧ M1 = mw S I1 J R ∧ PC I1 y nx T ix N (V s) dep a1 k1 ∧ (k1 + a ≤ k + a1 ∧ a ≤ a1 ∧ k ≤ k1) ∧ OffM y nx k I I1 ∧ ((V s).1.2.1 = 0 → NRx D I1 nx N s.2 (V s).2 n))
/-- once it has failed, a reading method changes nothing -/
def KZ (G : Gp) (S : AMem) (J : Nat → Nat → Int64) (R : Nat → Nat → Option Nat) (y nx : Nat) (T : Toks) (ix : Int32 → Int64 → Int32) (N : Nat × Nat × Nat) (Y : MD) (dd : Nat) : Prop := ∀ (I : Nat → Nat → Int32) (s : PS × Cd) (dep a k : Nat), PC I y nx T ix N s dep a k → s.1.2.1 = 1 → Fn G Y dd [vR y] (mw S I J R) (fun rr M1 => ∃ n I1, rr = some (vI (nI n)) ∧ M1 = mw S I1 J R ∧ PC I1 y nx T ix N s dep a k ∧ OffM y nx k I I1)

