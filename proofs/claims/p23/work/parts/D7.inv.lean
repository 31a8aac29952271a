/-! what goes on holding of the law's contest -/
def BF (B : BS) : Prop := (B.nR = 2 ∧ B.nF = 2 ∧ B.nP = 2 ∧ B.nT = 3) ∧ (∀ i, i < 3 → B.tF i < 2 ∧ B.tR i < 2) ∧ (∀ rd, B.wo 0 rd = nI 5) ∧ ∀ rd, B.wo 1 rd = nI 2
/-- n strikes so far, a and b prizes given -/
def Iv (m : MS) (n a b : Nat) : Prop :=
  (∃ p0 p1, m.fist 0 4 = nI p0 ∧ m.fist 1 4 = nI p1 ∧ p0 + p1 = 5 * a + 2 * b) ∧
  (a ≤ 7 ∧ m.prize 0 0 = nI (7 - a) ∧ m.prize 0 1 = nI a) ∧ (b ≤ 20 ∧ m.prize 1 0 = nI (20 - b) ∧ m.prize 1 1 = nI b) ∧
  (∃ s0 s1, m.fist 0 5 = nI s0 ∧ m.fist 1 5 = nI s1 ∧ s0 + s1 = n) ∧ (∃ t0 t1, m.rail 0 4 = nI t0 ∧ m.rail 1 4 = nI t1 ∧ t0 + t1 = n) ∧
  (m.g 3 = nI n ∧ m.fist 0 7 + m.fist 1 7 = m.g 4 ∧ m.nb = min n 10) ∧
  (∀ k, k < 2 → ∃ z, z ≤ 60 ∧ m.fist k 3 = nI z) ∧ (∀ k, k < 2 → m.rail k 3 ≤ m.rail k 0 ∧ 0 ≤ m.rail k 0) ∧
  (∀ k, k < 2 → m.fist k 6 ≤ m.rail 0 3 ∨ m.fist k 6 ≤ m.rail 1 3) ∧ (∀ k, k < 2 → ∃ p, p ≤ 9 ∧ m.rail k 1 = nI p) ∧ ∀ k, k < 3 → m.row k < 3
section Iq
variable {B : BS} {m m' : MS} {n a b f r : Nat}
theorem Iv.cg (h : Iv m n a b) (hf : ∀ i j, i < 2 → 3 ≤ j → j ≤ 7 → m'.fist i j = m.fist i j) (hr : ∀ i j, i < 2 → j ≠ 2 → m'.rail i j = m.rail i j) (hp : m'.prize = m.prize) (h3 : m'.g 3 = m.g 3) (h4 : m'.g 4 = m.g 4) (hb : m'.nb = m.nb) (hw : ∀ k, k < 3 → m'.row k < 3) : Iv m' n a b := by
  obtain ⟨⟨p0, p1, q1, q2, q3⟩, q4, q5, ⟨s0, s1, q6, q7, q8⟩, ⟨t0, t1, q9, q10, q11⟩, ⟨q12, q13, q14⟩, q15, q16, q17, q18, q19⟩ := h
  refine ⟨⟨p0, p1, (hf 0 4 (by decide) (by decide) (by decide)).trans q1, (hf 1 4 (by decide) (by decide) (by decide)).trans q2, q3⟩, by rw [hp]; exact q4, by rw [hp]; exact q5, ⟨s0, s1, (hf 0 5 (by decide) (by decide) (by decide)).trans q6, (hf 1 5 (by decide) (by decide) (by decide)).trans q7, q8⟩, ⟨t0, t1, (hr 0 4 (by decide) (by decide)).trans q9, (hr 1 4 (by decide) (by decide)).trans q10, q11⟩, ⟨h3.trans q12, ?_, hb.trans q14⟩, fun k hk => ?_, fun k hk => ?_, fun k hk => ?_, fun k hk => ?_, hw⟩
  · rw [hf 0 7 (by decide) (by decide) (by decide), hf 1 7 (by decide) (by decide) (by decide), h4]
    exact q13
  · rw [hf k 3 hk (by decide) (by decide)]
    exact q15 k hk
  · rw [hr k 3 hk (by decide), hr k 0 hk (by decide)]
    exact q16 k hk
  · rw [hf k 6 hk (by decide) (by decide), hr 0 3 (by decide) (by decide), hr 1 3 (by decide) (by decide)]
    exact q17 k hk
  · rw [hr k 1 hk (by decide)]
    exact q18 k hk
theorem fP_le {hi p v : Int32} (h0 : 0 ≤ hi) : fP hi p v ≤ hi := by
  unfold fP
  split
  · exact Int32.le_refl _
  · split
    · exact h0
    · rename_i c _
      exact Int32.le_of_lt (Int32.not_le.mp c)
theorem flS_le {hi sp : Int32} {ru : Int32 → Int32} {v0 : Int32} (h0 : 0 ≤ hi) : ∀ n, (flS hi sp ru v0 n).2.2.1 ≤ hi := by
  intro n
  induction n with
  | zero => exact h0
  | succ n ih =>
    rw [flS]
    split
    · show (if _ < _ then _ else _) ≤ hi
      split
      · exact fP_le h0
      · exact ih
    · exact ih
theorem flM_le {arm : Int32} (h0 : 0 ≤ m.rail r 0) (q : Nat) : (flM B m f r arm q).2.2.1 ≤ m.rail r 0 := flS_le h0 q
theorem mx_l (x y : Int32) : x ≤ if x < y then y else x := by
  split
  · rename_i c
    exact Int32.le_of_lt c
  · exact Int32.le_refl _
theorem mx_r (x y : Int32) : y ≤ if x < y then y else x := by
  split
  · exact Int32.le_refl _
  · rename_i c
    exact Int32.not_lt.mp c
theorem stk_f {i j : Nat} : (stkM B m f r).fist i j = if i = f then (if j = 3 then (if m.fist f 3 + m.rail r 1 < 60 then m.fist f 3 + m.rail r 1 else 60) else if j = 5 then m.fist f 5 + 1 else if j = 6 then (if m.fist f 6 < (flM B m f r (m.fist f 0) 300).2.2.1 then (flM B m f r (m.fist f 0) 300).2.2.1 else m.fist f 6) else if j = 7 then m.fist f 7 + (flM B m f r (m.fist f 0) 300).2.2.2.1 else if j = 8 then 1 else m.fist i j) else m.fist i j := rfl
theorem stk_r {i j : Nat} : (stkM B m f r).rail i j = if i = r then (if j = 3 then (if m.rail r 3 < (flM B m f r (m.fist f 0) 300).2.2.1 then (flM B m f r (m.fist f 0) 300).2.2.1 else m.rail r 3) else if j = 4 then m.rail r 4 + 1 else m.rail i j) else m.rail i j := rfl
theorem stk_g : (stkM B m f r).g 3 = m.g 3 + 1 ∧ (stkM B m f r).g 4 = m.g 4 + (flM B m f r (m.fist f 0) 300).2.2.2.1 ∧ (stkM B m f r).nb = if m.nb < 10 then m.nb + 1 else m.nb := ⟨rfl, rfl, rfl⟩
theorem stk_iv (hf : f < 2) (hr : r < 2) (h : Iv m n a b) : Iv (stkM B m f r) (n + 1) a b := by
  obtain ⟨⟨p0, p1, q1, q2, q3⟩, q4, q5, ⟨s0, s1, q6, q7, q8⟩, ⟨t0, t1, q9, q10, q11⟩, ⟨q12, q13, q14⟩, q15, q16, q17, q18, q19⟩ := h
  have hle := flM_le (B := B) (m := m) (f := f) (r := r) (arm := m.fist f 0) (q16 r hr).2 300
  have fE := fun i j => stk_f (B := B) (m := m) (f := f) (r := r) (i := i) (j := j)
  have rE := fun i j => stk_r (B := B) (m := m) (f := f) (r := r) (i := i) (j := j)
  have gE := stk_g (B := B) (m := m) (f := f) (r := r)
  have pE : (stkM B m f r).prize = m.prize := rfl
  have wE : (stkM B m f r).row = m.row := rfl
  generalize stkM B m f r = M1 at fE rE gE pE wE ⊢
  generalize (flM B m f r (m.fist f 0) 300).2.2.2.1 = bl at fE gE
  generalize (flM B m f r (m.fist f 0) 300).2.2.1 = ht at hle fE rE
  obtain ⟨g3, g4, gn⟩ := gE
  have f4 : ∀ i, (if i = f then m.fist i 4 else m.fist i 4) = m.fist i 4 := fun i => by split <;> rfl
  refine ⟨⟨p0, p1, ?_, ?_, q3⟩, by rw [pE]; exact q4, by rw [pE]; exact q5, ?_, ?_, ⟨?_, ?_, ?_⟩, fun k hk => ?_, fun k hk => ?_, fun k hk => ?_, fun k hk => ?_, by rw [wE]; exact q19⟩
  · rw [fE]
    exact (f4 0).trans q1
  · rw [fE]
    exact (f4 1).trans q2
  · rw [fE, fE]
    rcases (show f = 0 ∨ f = 1 by omega) with e | e
    · subst e
      exact ⟨s0 + 1, s1, by show m.fist 0 5 + 1 = _; rw [q6, nI_1], q7, by omega⟩
    · subst e
      exact ⟨s0, s1 + 1, q6, by show m.fist 1 5 + 1 = _; rw [q7, nI_1], by omega⟩
  · rw [rE, rE]
    rcases (show r = 0 ∨ r = 1 by omega) with e | e
    · subst e
      exact ⟨t0 + 1, t1, by show m.rail 0 4 + 1 = _; rw [q9, nI_1], q10, by omega⟩
    · subst e
      exact ⟨t0, t1 + 1, q9, by show m.rail 1 4 + 1 = _; rw [q10, nI_1], by omega⟩
  · rw [g3, q12, nI_1]
  · rw [fE, fE, g4, ← q13]
    rcases (show f = 0 ∨ f = 1 by omega) with e | e
    · subst e
      show m.fist 0 7 + bl + m.fist 1 7 = _
      rw [Int32.add_assoc, Int32.add_comm bl, ← Int32.add_assoc]
    · subst e
      show m.fist 0 7 + (m.fist 1 7 + bl) = _
      rw [← Int32.add_assoc]
  · rw [gn, q14]
    split <;> omega
  · rw [fE]
    by_cases e : k = f
    · rw [if_pos e, if_pos rfl]
      obtain ⟨z, z1, z2⟩ := q15 f hf
      obtain ⟨p, p1, p2⟩ := q18 r hr
      rw [z2, p2, nI_add]
      split
      · rename_i c
        have c : nI (z + p) < nI 60 := c
        exact ⟨z + p, by have := (nI_ltI (by omega) (by decide)).mp c; omega, rfl⟩
      · exact ⟨60, Nat.le_refl _, rfl⟩
    · rw [if_neg e]
      exact q15 k hk
  · by_cases e : k = r
    · have e3 : M1.rail k 3 = if m.rail r 3 < ht then ht else m.rail r 3 := by rw [rE, if_pos e, if_pos rfl]
      have e0 : M1.rail k 0 = m.rail k 0 := by rw [rE, if_pos e, if_neg (by decide), if_neg (by decide)]
      rw [e3, e0]
      refine ⟨?_, (q16 k hk).2⟩
      subst e
      split
      · exact hle
      · exact (q16 k hk).1
    · rw [rE, rE, if_neg e, if_neg e]
      exact q16 k hk
  · rw [fE, rE, rE]
    have up : ∀ i x, x ≤ m.rail i 3 → x ≤ (if i = r then (if (3 : Nat) = 3 then (if m.rail r 3 < ht then ht else m.rail r 3) else if (3 : Nat) = 4 then m.rail r 4 + 1 else m.rail i 3) else m.rail i 3) := fun i x hx => by
      by_cases e : i = r
      · rw [if_pos e, if_pos rfl]
        rw [e] at hx
        exact Int32.le_trans hx (mx_l _ _)
      · rw [if_neg e]
        exact hx
    have old : m.fist k 6 ≤ (if 0 = r then (if (3 : Nat) = 3 then (if m.rail r 3 < ht then ht else m.rail r 3) else if (3 : Nat) = 4 then m.rail r 4 + 1 else m.rail 0 3) else m.rail 0 3) ∨ m.fist k 6 ≤ (if 1 = r then (if (3 : Nat) = 3 then (if m.rail r 3 < ht then ht else m.rail r 3) else if (3 : Nat) = 4 then m.rail r 4 + 1 else m.rail 1 3) else m.rail 1 3) := by
      rcases q17 k hk with q | q
      · exact Or.inl (up 0 _ q)
      · exact Or.inr (up 1 _ q)
    by_cases e : k = f
    · rw [if_pos e, if_neg (by decide), if_neg (by decide), if_pos rfl]
      by_cases c : m.fist f 6 < ht
      · rw [if_pos c]
        rcases (show r = 0 ∨ r = 1 by omega) with e2 | e2
        · subst e2
          exact Or.inl (mx_r _ _)
        · subst e2
          exact Or.inr (mx_r _ _)
      · rw [if_neg c, ← e]
        exact old
    · rw [if_neg e]
      exact old
  · rw [rE]
    by_cases e : k = r
    · rw [if_pos e, if_neg (by decide), if_neg (by decide)]
      exact q18 k hk
    · rw [if_neg e]
      exact q18 k hk
theorem fpM_2 {k : Nat} (h : fpM B m 0 2 = some k) : (k = 0 ∨ k = 1) ∧ 0 < m.prize k 0 := by
  rw [fpM] at h
  split at h
  · rename_i c
    cases h
    exact ⟨Or.inl rfl, c.1⟩
  · rw [fpM] at h
    split at h
    · rename_i c
      cases h
      exact ⟨Or.inr rfl, c.1⟩
    · cases h
theorem giv_iv (hB : BF B) (hf : f < 2) (h : Iv m n a b) : ∃ a' b', Iv (givM B m f) n a' b' ∧ a ≤ a' ∧ b ≤ b' := by
  unfold givM
  rw [hB.1.2.2.1]
  cases hk : fpM B m 0 2 with
  | none => exact ⟨a, b, h, Nat.le_refl _, Nat.le_refl _⟩
  | some k =>
    obtain ⟨q0, q1⟩ := fpM_2 hk
    obtain ⟨⟨p0, p1, r1, r2, r3⟩, ⟨r4, r5, r6⟩, ⟨r7, r8, r9⟩, rest⟩ := h
    have keep : ∀ x : Int32, ∀ k2, ∀ i j, j ≠ 4 → (mkMS (up2 m.fist f 4 x) m.rail k2 m.g m.row m.bd m.nb).fist i j = m.fist i j := fun x k2 i j hj => up2_j hj
    have rst : ∀ x : Int32, ∀ k2, (∃ s0 s1, (mkMS (up2 m.fist f 4 x) m.rail k2 m.g m.row m.bd m.nb).fist 0 5 = nI s0 ∧ (mkMS (up2 m.fist f 4 x) m.rail k2 m.g m.row m.bd m.nb).fist 1 5 = nI s1 ∧ s0 + s1 = n) ∧ (∃ t0 t1, m.rail 0 4 = nI t0 ∧ m.rail 1 4 = nI t1 ∧ t0 + t1 = n) ∧ (m.g 3 = nI n ∧ (mkMS (up2 m.fist f 4 x) m.rail k2 m.g m.row m.bd m.nb).fist 0 7 + (mkMS (up2 m.fist f 4 x) m.rail k2 m.g m.row m.bd m.nb).fist 1 7 = m.g 4 ∧ m.nb = min n 10) ∧ (∀ k, k < 2 → ∃ z, z ≤ 60 ∧ (mkMS (up2 m.fist f 4 x) m.rail k2 m.g m.row m.bd m.nb).fist k 3 = nI z) ∧ (∀ k, k < 2 → m.rail k 3 ≤ m.rail k 0 ∧ 0 ≤ m.rail k 0) ∧ (∀ k, k < 2 → (mkMS (up2 m.fist f 4 x) m.rail k2 m.g m.row m.bd m.nb).fist k 6 ≤ m.rail 0 3 ∨ (mkMS (up2 m.fist f 4 x) m.rail k2 m.g m.row m.bd m.nb).fist k 6 ≤ m.rail 1 3) ∧ (∀ k, k < 2 → ∃ p, p ≤ 9 ∧ m.rail k 1 = nI p) ∧ ∀ k, k < 3 → m.row k < 3 := by
      intro x k2
      rw [keep x k2 0 5 (by decide), keep x k2 1 5 (by decide), keep x k2 0 7 (by decide), keep x k2 1 7 (by decide)]
      obtain ⟨z1, z2, z3, z4, z5, z6, z7, z8⟩ := rest
      exact ⟨z1, z2, z3, fun k hk => by rw [keep x k2 k 3 (by decide)]; exact z4 k hk, z5, fun k hk => by rw [keep x k2 k 6 (by decide)]; exact z6 k hk, z7, z8⟩
    have purse : ∀ v w : Nat, ∀ k2, w = 5 * a + 2 * b + v → ∃ p0 p1, (mkMS (up2 m.fist f 4 (m.fist f 4 + nI v)) m.rail k2 m.g m.row m.bd m.nb).fist 0 4 = nI p0 ∧ (mkMS (up2 m.fist f 4 (m.fist f 4 + nI v)) m.rail k2 m.g m.row m.bd m.nb).fist 1 4 = nI p1 ∧ p0 + p1 = w := by
      intro v w k2 hw
      rcases (show f = 0 ∨ f = 1 by omega) with e | e
      · subst e
        exact ⟨p0 + v, p1, by show up2 m.fist 0 4 (m.fist 0 4 + nI v) 0 4 = _; rw [up2_s, r1, nI_add], by show up2 m.fist 0 4 (m.fist 0 4 + nI v) 1 4 = _; rw [up2_a (by decide)]; exact r2, by omega⟩
      · subst e
        exact ⟨p0, p1 + v, by show up2 m.fist 1 4 (m.fist 1 4 + nI v) 0 4 = _; rw [up2_a (by decide)]; exact r1, by show up2 m.fist 1 4 (m.fist 1 4 + nI v) 1 4 = _; rw [up2_s, r2, nI_add], by omega⟩
    rcases q0 with e | e
    · subst e
      have ha : a < 7 := by
        rw [r5] at q1
        have := (nI_ltI (a := 0) (b := 7 - a) (by decide) (by omega)).mp q1
        omega
      refine ⟨a + 1, b, ?_, by omega, Nat.le_refl _⟩
      show Iv (mkMS (up2 m.fist f 4 (m.fist f 4 + B.wo 0 _)) m.rail (up2 (up2 m.prize 0 0 (m.prize 0 0 - 1)) 0 1 (m.prize 0 1 + 1)) m.g m.row m.bd m.nb) n (a + 1) b
      rw [hB.2.2.1]
      refine ⟨purse 5 _ _ (by omega), ⟨by omega, ?_, ?_⟩, ⟨r7, ?_, ?_⟩, rst _ _⟩
      · show up2 (up2 m.prize 0 0 (m.prize 0 0 - 1)) 0 1 (m.prize 0 1 + 1) 0 0 = _
        rw [up2_j (by decide), up2_s, r5, show 7 - a = (7 - (a + 1)) + 1 by omega, nI_pred]
      · show up2 (up2 m.prize 0 0 (m.prize 0 0 - 1)) 0 1 (m.prize 0 1 + 1) 0 1 = _
        rw [up2_s, r6, nI_1]
      · show up2 (up2 m.prize 0 0 (m.prize 0 0 - 1)) 0 1 (m.prize 0 1 + 1) 1 0 = _
        rw [up2_a (by decide), up2_a (by decide)]
        exact r8
      · show up2 (up2 m.prize 0 0 (m.prize 0 0 - 1)) 0 1 (m.prize 0 1 + 1) 1 1 = _
        rw [up2_a (by decide), up2_a (by decide)]
        exact r9
    · subst e
      have ha : b < 20 := by
        rw [r8] at q1
        have := (nI_ltI (a := 0) (b := 20 - b) (by decide) (by omega)).mp q1
        omega
      refine ⟨a, b + 1, ?_, Nat.le_refl _, by omega⟩
      show Iv (mkMS (up2 m.fist f 4 (m.fist f 4 + B.wo 1 _)) m.rail (up2 (up2 m.prize 1 0 (m.prize 1 0 - 1)) 1 1 (m.prize 1 1 + 1)) m.g m.row m.bd m.nb) n a (b + 1)
      rw [hB.2.2.2]
      refine ⟨purse 2 _ _ (by omega), ⟨r4, ?_, ?_⟩, ⟨by omega, ?_, ?_⟩, rst _ _⟩
      · show up2 (up2 m.prize 1 0 (m.prize 1 0 - 1)) 1 1 (m.prize 1 1 + 1) 0 0 = _
        rw [up2_a (by decide), up2_a (by decide)]
        exact r5
      · show up2 (up2 m.prize 1 0 (m.prize 1 0 - 1)) 1 1 (m.prize 1 1 + 1) 0 1 = _
        rw [up2_a (by decide), up2_a (by decide)]
        exact r6
      · show up2 (up2 m.prize 1 0 (m.prize 1 0 - 1)) 1 1 (m.prize 1 1 + 1) 1 0 = _
        rw [up2_j (by decide), up2_s, r8, show 20 - b = (20 - (b + 1)) + 1 by omega, nI_pred]
      · show up2 (up2 m.prize 1 0 (m.prize 1 0 - 1)) 1 1 (m.prize 1 1 + 1) 1 1 = _
        rw [up2_s, r9, nI_1]
theorem hit_iv (hB : BF B) (hf : f < 2) (hr : r < 2) (h : Iv m n a b) : ∃ a' b', Iv (hitM B m f r) (n + 1) a' b' ∧ a ≤ a' ∧ b ≤ b' := giv_iv hB hf (stk_iv hf hr h)
theorem wnd_iv {v : Int32} (h : Iv m n a b) : Iv (wndM m r v) n a b := by
  have w := h.2.2.2.2.2.2.2.2.2.2
  exact h.cg (fun _ _ _ _ _ => rfl) (fun i j _ hj => up2_j hj) rfl rfl rfl rfl w
theorem elb_iv : ∀ (q k : Nat) (m : MS), 1 ≤ k → k + q ≤ 3 → Iv m n a b → Iv (elbM B k q m) n a b := by
  intro q
  induction q with
  | zero => intro k m _ _ h; exact h
  | succ q ih =>
    intro k m hk hq h
    rw [elbM]
    refine ih (k + 1) _ (by omega) (by omega) ?_
    have w := h.2.2.2.2.2.2.2.2.2.2
    split
    · refine h.cg (fun i j _ h1 _ => up2_j (by omega)) (fun _ _ _ _ => rfl) rfl rfl rfl rfl (fun i hi => ?_)
      show up1 (up1 m.row k (m.row (k - 1))) (k - 1) (m.row k) i < 3
      unfold up1
      split
      · exact w k (by omega)
      · split
        · exact w (k - 1) (by omega)
        · exact w i hi
    · exact h
theorem trn_iv (hB : BF B) : ∀ (q k : Nat) (m : MS) (n a b : Nat), k + q ≤ 3 → Iv m n a b → ∃ n' a' b', Iv (trnM B k q m) n' a' b' ∧ n' ≤ n + q ∧ a ≤ a' ∧ b ≤ b' := by
  intro q
  induction q with
  | zero => intro k m n a b _ h; exact ⟨n, a, b, h, Nat.le_refl _, Nat.le_refl _, Nat.le_refl _⟩
  | succ q ih =>
    intro k m n a b hq h
    rw [trnM]
    have w := h.2.2.2.2.2.2.2.2.2.2 k (by omega)
    obtain ⟨t1, t2⟩ := hB.2.1 _ w
    split
    · obtain ⟨a1, b1, h1, l1, l2⟩ := hit_iv hB t1 t2 h
      obtain ⟨n2, a2, b2, h2, l3, l4, l5⟩ := ih (k + 1) _ _ _ _ (by omega) h1
      exact ⟨n2, a2, b2, h2, by omega, by omega, by omega⟩
    · obtain ⟨n2, a2, b2, h2, l3, l4, l5⟩ := ih (k + 1) _ _ _ _ (by omega) h
      exact ⟨n2, a2, b2, h2, by omega, by omega, by omega⟩
theorem rst_iv (h : Iv m n a b) : Iv (rstM m 2) n a b := by
  obtain ⟨⟨p0, p1, q1, q2, q3⟩, q4, q5, ⟨s0, s1, q6, q7, q8⟩, q9, ⟨q12, q13, q14⟩, q15, q16, q17, q18, q19⟩ := h
  refine ⟨⟨p0, p1, q1, q2, q3⟩, q4, q5, ⟨s0, s1, q6, q7, q8⟩, q9, ⟨q12, q13, q14⟩, fun k hk => ?_, q16, fun k hk => ?_, q18, q19⟩
  · obtain ⟨z, z1, z2⟩ := q15 k hk
    show ∃ z, z ≤ 60 ∧ (if k < 2 then (if (3 : Nat) = 8 then 0 else if (3 : Nat) = 3 then (if m.fist k 8 = 0 then (if 3 < m.fist k 3 then m.fist k 3 - 3 else 0) else m.fist k 3) else m.fist k 3) else m.fist k 3) = nI z
    rw [if_pos hk, if_neg (by decide), if_pos rfl]
    split
    · split
      · rename_i c
        rw [z2] at c ⊢
        have c : nI 3 < nI z := c
        have := (nI_ltI (by decide) (by omega)).mp c
        exact ⟨z - 3, by omega, k_nsub (p := z) (q := 3) (by omega)⟩
      · exact ⟨0, by decide, rfl⟩
    · exact ⟨z, z1, z2⟩
  · have := q17 k hk
    show (if k < 2 then (if (6 : Nat) = 8 then 0 else if (6 : Nat) = 3 then (if m.fist k 8 = 0 then (if 3 < m.fist k 3 then m.fist k 3 - 3 else 0) else m.fist k 3) else m.fist k 6) else m.fist k 6) ≤ _ ∨ (if k < 2 then (if (6 : Nat) = 8 then 0 else if (6 : Nat) = 3 then (if m.fist k 8 = 0 then (if 3 < m.fist k 3 then m.fist k 3 - 3 else 0) else m.fist k 3) else m.fist k 6) else m.fist k 6) ≤ _
    rw [if_pos hk, if_neg (by decide), if_neg (by decide)]
    exact this
theorem rnd_iv (hB : BF B) (h : Iv m n a b) : ∃ n' a' b', Iv (rndM B m) n' a' b' ∧ n' ≤ n + 3 ∧ a ≤ a' ∧ b ≤ b' := by
  unfold rndM
  rw [hB.1.2.2.2, hB.1.2.1]
  obtain ⟨n1, a1, b1, h1, l1, l2, l3⟩ := trn_iv hB 3 0 _ _ _ _ (by decide) (elb_iv (B := B) (3 - 1) 1 m (by decide) (by decide) h)
  exact ⟨n1, a1, b1, (rst_iv h1).cg (fun _ _ _ _ _ => rfl) (fun _ _ _ _ => rfl) rfl rfl rfl rfl (rst_iv h1).2.2.2.2.2.2.2.2.2.2, l1, l2, l3⟩
theorem ply_iv (hB : BF B) : ∀ (q : Nat) (m : MS) (n a b : Nat), Iv m n a b → ∃ n' a' b', Iv (plyM B q m) n' a' b' ∧ n' ≤ n + 3 * q ∧ a ≤ a' ∧ b ≤ b' := by
  intro q
  induction q with
  | zero => intro m n a b h; exact ⟨n, a, b, h, Nat.le_refl _, Nat.le_refl _, Nat.le_refl _⟩
  | succ q ih =>
    intro m n a b h
    obtain ⟨n1, a1, b1, h1, l1, l2, l3⟩ := rnd_iv hB h
    obtain ⟨n2, a2, b2, h2, k1, k2, k3⟩ := ih _ _ _ _ h1
    exact ⟨n2, a2, b2, h2, by omega, by omega, by omega⟩
/-! what is read off it -/
theorem iv_purs (hB : BF B) (h : Iv m n a b) : pursM B m = nI (5 * a + 2 * b) := by
  obtain ⟨⟨p0, p1, q1, q2, q3⟩, _⟩ := h
  unfold pursM
  rw [hB.1.2.1]
  show 0 + m.fist 0 4 + m.fist 1 4 = _
  rw [q1, q2, Int32.zero_add, nI_add, q3]
theorem iv_gvn (hB : BF B) (h : Iv m n a b) : gvnM B m = nI (a + b) := by
  obtain ⟨_, ⟨_, _, q1⟩, ⟨_, _, q2⟩, _⟩ := h
  unfold gvnM
  rw [hB.1.2.2.1]
  show 0 + m.prize 0 1 + m.prize 1 1 = _
  rw [q1, q2, Int32.zero_add, nI_add]
theorem iv_plc (hB : BF B) {k : Nat} (hk : k < 2) : plcM B m (m.fist k 4) ≤ 2 := by
  unfold plcM
  rw [hB.1.2.1]
  show 1 + (0 + bI (m.fist k 4 < m.fist 0 4) + bI (m.fist k 4 < m.fist 1 4)) ≤ 2
  have b01 : ∀ (p : Prop) [Decidable p], bI p = 0 ∨ bI p = 1 := fun p _ => by
    unfold bI
    split
    · exact Or.inr rfl
    · exact Or.inl rfl
  rcases (show k = 0 ∨ k = 1 by omega) with e | e
  · subst e
    rw [bI_f (c := m.fist 0 4 < m.fist 0 4) Int32.lt_irrefl]
    rcases b01 (m.fist 0 4 < m.fist 1 4) with e | e <;> rw [e] <;> decide
  · subst e
    rw [bI_f (c := m.fist 1 4 < m.fist 1 4) Int32.lt_irrefl]
    rcases b01 (m.fist 1 4 < m.fist 0 4) with e | e <;> rw [e] <;> decide
theorem nds_ok : ∀ (q k : Nat), 1 ≤ k → k + q ≤ 100 → ∃ v, ndsM B m f r k q = v ∧ ¬ v = 0 ∧ v ≤ 99 := by
  intro q
  induction q with
  | zero => intro k _ _; exact ⟨-1, rfl, by decide, by decide⟩
  | succ q ih =>
    intro k h1 h2
    rw [ndsM]
    split
    · exact ⟨nI k, rfl, nI_ne0 (by omega) (by omega), nI_le (b := 99) (by omega) (by decide)⟩
    · exact ih (k + 1) (by omega) (by omega)
end Iq

