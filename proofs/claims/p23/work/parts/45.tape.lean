theorem kc_b24 : (Int8.ofInt 24).toInt32 = 24 := by decide +kernel
theorem kc_im8 : Int32.ofInt (-8) = (-8) := by decide +kernel
theorem kc_s255 : (Int16.ofInt 255).toInt32 = 255 := by decide +kernel
theorem dX8_addNumber_0 : decode cX8_addNumber 0 = .ok (.bipush 24, 2) := by decide +kernel
theorem dX8_addNumber_2 : decode cX8_addNumber 2 = .ok (.istore_n 2, 1) := by decide +kernel
theorem dX8_addNumber_3 : decode cX8_addNumber 3 = .ok (.iload_n 2, 1) := by decide +kernel
theorem dX8_addNumber_4 : decode cX8_addNumber 4 = .ok (.ifCond .lt 54, 3) := by decide +kernel
theorem dX8_addNumber_7 : decode cX8_addNumber 7 = .ok (.aload_n 0, 1) := by decide +kernel
theorem dX8_addNumber_8 : decode cX8_addNumber 8 = .ok (.getfield 15, 3) := by decide +kernel
theorem dX8_addNumber_11 : decode cX8_addNumber 11 = .ok (.ifCond .lt 41, 3) := by decide +kernel
theorem dX8_addNumber_14 : decode cX8_addNumber 14 = .ok (.aload_n 0, 1) := by decide +kernel
theorem dX8_addNumber_15 : decode cX8_addNumber 15 = .ok (.getfield 15, 3) := by decide +kernel
theorem dX8_addNumber_18 : decode cX8_addNumber 18 = .ok (.aload_n 0, 1) := by decide +kernel
theorem dX8_addNumber_19 : decode cX8_addNumber 19 = .ok (.getfield 11, 3) := by decide +kernel
theorem dX8_addNumber_22 : decode cX8_addNumber 22 = .ok (.arraylength, 1) := by decide +kernel
theorem dX8_addNumber_23 : decode cX8_addNumber 23 = .ok (.if_icmp .ge 29, 3) := by decide +kernel
theorem dX8_addNumber_26 : decode cX8_addNumber 26 = .ok (.aload_n 0, 1) := by decide +kernel
theorem dX8_addNumber_27 : decode cX8_addNumber 27 = .ok (.getfield 11, 3) := by decide +kernel
theorem dX8_addNumber_30 : decode cX8_addNumber 30 = .ok (.aload_n 0, 1) := by decide +kernel
theorem dX8_addNumber_31 : decode cX8_addNumber 31 = .ok (.getfield 15, 3) := by decide +kernel
theorem dX8_addNumber_34 : decode cX8_addNumber 34 = .ok (.iload_n 1, 1) := by decide +kernel
theorem dX8_addNumber_35 : decode cX8_addNumber 35 = .ok (.iload_n 2, 1) := by decide +kernel
theorem dX8_addNumber_36 : decode cX8_addNumber 36 = .ok (.iushr, 1) := by decide +kernel
theorem dX8_addNumber_37 : decode cX8_addNumber 37 = .ok (.sipush 255, 3) := by decide +kernel
theorem dX8_addNumber_40 : decode cX8_addNumber 40 = .ok (.iand, 1) := by decide +kernel
theorem dX8_addNumber_41 : decode cX8_addNumber 41 = .ok (.iastore, 1) := by decide +kernel
theorem dX8_addNumber_42 : decode cX8_addNumber 42 = .ok (.aload_n 0, 1) := by decide +kernel
theorem dX8_addNumber_43 : decode cX8_addNumber 43 = .ok (.dup, 1) := by decide +kernel
theorem dX8_addNumber_44 : decode cX8_addNumber 44 = .ok (.getfield 15, 3) := by decide +kernel
theorem dX8_addNumber_47 : decode cX8_addNumber 47 = .ok (.iconst 1, 1) := by decide +kernel
theorem dX8_addNumber_48 : decode cX8_addNumber 48 = .ok (.iadd, 1) := by decide +kernel
theorem dX8_addNumber_49 : decode cX8_addNumber 49 = .ok (.putfield 15, 3) := by decide +kernel
theorem dX8_addNumber_52 : decode cX8_addNumber 52 = .ok (.iinc 2 (-8), 3) := by decide +kernel
theorem dX8_addNumber_55 : decode cX8_addNumber 55 = .ok (.goto (-52), 3) := by decide +kernel
theorem dX8_addNumber_58 : decode cX8_addNumber 58 = .ok (.return_, 1) := by decide +kernel
/-! the tape, and how it is cut -/
/-- how many bytes, and which -/
abbrev Tp : Type := Nat × (Nat → Int32)
def Tp.at (E : Tp) (p : Nat) : Int32 := if p < E.1 then E.2 p else 256
def TPc (S : AMem) (R : Nat → Nat → Option Nat) (a : Nat) : Prop := S.K a = 9 ∧ R a 0 = some (a + 1) ∧ S.K (a + 1) = 20 ∧ S.ln (a + 1) = 2000
def AbTp (I : Nat → Nat → Int32) (a : Nat) (E : Tp) : Prop := I a 1 = nI E.1 ∧ E.1 ≤ 2000 ∧ ∀ i, i < E.1 → I (a + 1) i = E.2 i
theorem AbTp.off {I I1 : Nat → Nat → Int32} {a : Nat} {E : Tp} (h : AbTp I a E) (h1 : I1 a 1 = I a 1) (h2 : ∀ i, i < E.1 → I1 (a + 1) i = I (a + 1) i) : AbTp I1 a E := ⟨h1.trans h.1, h.2.1, fun i hi => (h2 i hi).trans (h.2.2 i hi)⟩
/-- a number's four bytes behind the tape -/
def Tp.num (E : Tp) (v : Int32) : Nat → Tp
  | 0 => E
  | k + 1 => ((E.num v k).1 + 1, up1 (E.num v k).2 (E.num v k).1 ((v.toUInt32 >>> ((nI (24 - 8 * k)).toUInt32 &&& Int32.toUInt32 31)).toInt32 &&& 255))
theorem Tp.num_1 {E : Tp} {v : Int32} : ∀ k, (E.num v k).1 = E.1 + k := by
  intro k
  induction k with
  | zero => rfl
  | succ k ih => show (E.num v k).1 + 1 = _; rw [ih]; rfl
def isBlB (c : Int32) : Bool := decide (c = 32 ∨ c = 10)
def isLeB (c : Int32) : Bool := decide (97 ≤ c ∧ c ≤ 122)
def isDiB (c : Int32) : Bool := decide (48 ≤ c ∧ c ≤ 57)
def isLDB (c : Int32) : Bool := isLeB c || isDiB c
/-- the first place from p on where the signs of a kind end -/
def spnN (P : Int32 → Bool) (E : Tp) : Nat → Nat → Nat
  | 0, p => p
  | n + 1, p => if p < E.1 ∧ P (E.2 p) = true then spnN P E n (p + 1) else p
def spnE (P : Int32 → Bool) (E : Tp) (p : Nat) : Nat := spnN P E (E.1 - p) p
theorem spnE_t {P : Int32 → Bool} {E : Tp} {p : Nat} (h : p < E.1) (h2 : P (E.2 p) = true) : spnE P E p = spnE P E (p + 1) := by
  unfold spnE
  rw [show E.1 - p = (E.1 - (p + 1)) + 1 by omega, spnN, if_pos ⟨h, h2⟩]
theorem spnE_f {P : Int32 → Bool} {E : Tp} {p : Nat} (h : ¬ (p < E.1 ∧ P (E.2 p) = true)) : spnE P E p = p := by
  unfold spnE
  cases E.1 - p with
  | zero => rfl
  | succ n => rw [spnN, if_neg h]
theorem spnN_le {P : Int32 → Bool} {E : Tp} : ∀ n p, p ≤ E.1 → p ≤ spnN P E n p ∧ spnN P E n p ≤ E.1 := by
  intro n
  induction n with
  | zero => intro p h; exact ⟨Nat.le_refl _, h⟩
  | succ n ih =>
    intro p h
    rw [spnN]
    by_cases q : p < E.1 ∧ P (E.2 p) = true
    · rw [if_pos q]
      have := ih (p + 1) (by omega)
      omega
    · rw [if_neg q]
      exact ⟨Nat.le_refl _, h⟩
theorem spnE_le {P : Int32 → Bool} {E : Tp} {p : Nat} (h : p ≤ E.1) : p ≤ spnE P E p ∧ spnE P E p ≤ E.1 := spnN_le _ _ h
/-- a loop over the signs of a kind: from each place, if it goes on behind a sign of the kind and ends at another -/
theorem k_spn {P : Int32 → Bool} {E : Tp} {σ : Type} {W : Nat → σ → Prop} {Inv : Nat → σ → Prop} (hs : ∀ p s, p < E.1 → P (E.2 p) = true → Inv p s → (∀ s', Inv (p + 1) s' → W (p + 1) s') → W p s) (he : ∀ p s, p ≤ E.1 → ¬ (p < E.1 ∧ P (E.2 p) = true) → Inv p s → W p s) : ∀ p s, p ≤ E.1 → Inv p s → W p s := by
  have key : ∀ n p s, E.1 - p = n → p ≤ E.1 → Inv p s → W p s := by
    intro n
    induction n with
    | zero => intro p s e h hi; exact he p s h (fun z => by omega) hi
    | succ n ih =>
      intro p s e h hi
      by_cases q : p < E.1 ∧ P (E.2 p) = true
      · exact hs p s q.1 q.2 hi (fun s' hi' => ih (p + 1) s' (by omega) (by omega) hi')
      · exact he p s h q hi
  exact fun p s h hi => key _ p s rfl h hi
def sgC (v : Int64) (c : Int32) : Int64 := v * 37 + (if 97 ≤ c ∧ c ≤ 122 then c - 97 + 1 else c - 48 + 27).toInt64
/-- the code of n signs from p on, behind v -/
def codN (E : Tp) : Nat → Nat → Int64 → Int64
  | 0, _, v => v
  | n + 1, p, v => codN E n (p + 1) (sgC v (E.2 p))
/-- the number of n digits from p on, behind v -/
def nuN (E : Tp) : Nat → Nat → Int64 → Int64
  | 0, _, v => v
  | n + 1, p, v => nuN E n (p + 1) (v * 10 + (E.2 p - 48).toInt64)
theorem codN_s {E : Tp} : ∀ n p v, codN E (n + 1) p v = sgC (codN E n p v) (E.2 (p + n)) := by
  intro n
  induction n with
  | zero => intro p v; rfl
  | succ n ih =>
    intro p v
    show codN E (n + 1) (p + 1) (sgC v (E.2 p)) = _
    rw [ih, show p + 1 + n = p + (n + 1) by omega]
    rfl
theorem nuN_s {E : Tp} : ∀ n p v, nuN E (n + 1) p v = nuN E n p v * 10 + (E.2 (p + n) - 48).toInt64 := by
  intro n
  induction n with
  | zero => intro p v; rfl
  | succ n ih =>
    intro p v
    show nuN E (n + 1) (p + 1) (v * 10 + (E.2 p - 48).toInt64) = _
    rw [ih, show p + 1 + n = p + (n + 1) by omega]
    rfl
/-- a word's kind by the codes of the keywords -/
def kowN (K : Nat → Int64) (v : Int64) : Nat → Nat → Int32
  | _, 0 => 258
  | k, n + 1 => if K k = v then 300 + nI k else kowN K v (k + 1) n
def syms : List Int32 := [40, 41, 91, 93, 59, 44, 43, 45, 42, 47, 60, 62, 61]
abbrev TL : Type := List (Int32 × Nat × Int64)
/-- the token at p, and where it ends (nothing and p where there is none): words, numbers, symbols -/
def tokW (E : Tp) (K : Nat → Int64) (p : Nat) : TL × Nat := if 10 < spnE isLDB E p - p then ([], p) else ([(kowN K (codN E (spnE isLDB E p - p) p 0) 0 32, p, if kowN K (codN E (spnE isLDB E p - p) p 0) 0 32 = 258 then codN E (spnE isLDB E p - p) p 0 else 0)], spnE isLDB E p)
def tokN (E : Tp) (p : Nat) : TL × Nat := if 6 < spnE isDiB E p - p then ([], p) else ([(259, p, nuN E (spnE isDiB E p - p) p 0)], spnE isDiB E p)
def tokS (E : Tp) (p : Nat) : TL × Nat := if E.at p ∈ syms then (if (E.at p = 60 ∨ E.at p = 62) ∧ E.at (p + 1) = 61 then ([(if E.at p = 60 then 260 else 261, p, 0)], p + 2) else ([(E.at p, p, 0)], p + 1)) else ([], p)
def tokR (E : Tp) (K : Nat → Int64) (p : Nat) : TL × Nat := if isLeB (E.at p) = true then tokW E K p else if isDiB (E.at p) = true then tokN E p else tokS E p
/-- up to n tokens from p on -/
def tkL (E : Tp) (K : Nat → Int64) : Nat → Nat → TL → TL × Nat
  | 0, p, L => (L, p)
  | n + 1, p, L => if (tokR E K p).2 = p then (L, p) else tkL E K n (spnE isBlB E (tokR E K p).2) (L ++ (tokR E K p).1)
def tkF (E : Tp) (r : TL × Nat) : TL := r.1 ++ [(if r.2 < E.1 then 257 else 256, r.2, 0)]
def tkAll (E : Tp) (K : Nat → Int64) : TL := tkF E (tkL E K 400 (spnE isBlB E 0) [])
/-- tokens out of a list -/
def TL.toks (L : TL) : Toks := (L.length, (fun i => (L.getD i (0, 0, 0)).1), (fun i => nI (L.getD i (0, 0, 0)).2.1), fun i => (L.getD i (0, 0, 0)).2.2)
section Tpp
variable {G : Gp} {S : AMem} {I : Nat → Nat → Int32} {J : Nat → Nat → Int64} {R : Nat → Nat → Option Nat} {a t : Nat} {E : Tp}
theorem k_X8_at {p : Nat} (h : TPc S R a) (hE : AbTp I a E) (hp : p < 2 ^ 31) : Fn G mX8_byteAt 0 [vR a, vI (nI p)] (mw S I J R) (fun rr M1 => rr = some (vI (E.at p)) ∧ M1 = mw S I J R) := by
  obtain ⟨k1, k2, k3, k4⟩ := h
  obtain ⟨e1, e2, e3⟩ := hE
  have e : E.at p = if 0 ≤ nI p ∧ nI p < I a 1 ∧ nI p < 2000 then I (a + 1) (nI p).toNatClampNeg else 256 := by
    unfold Tp.at
    rw [nI_clamp hp, e1]
    by_cases q : p < E.1
    · rw [if_pos q, if_pos ⟨nI_pos' hp, nI_lt q (by omega), nI_lt (b := 2000) (by omega) (by decide)⟩]
      exact (e3 p q).symm
    · rw [if_neg q, if_neg (fun z => q ((nI_ltI hp (by omega)).mp z.2.1))]
  rw [e]
  exact k_X8_byteAt k1 k2 k3 k4
theorem k_X8_addNumber {v : Int32} (h : TPc S R a) (hE : AbTp I a E) (hr : E.1 + 4 ≤ 2000) : Fn G mX8_addNumber 0 [vR a, vI v] (mw S I J R) (fun rr M1 => rr = none ∧ ∃ I1, M1 = mw S I1 J R ∧ AbTp I1 a (E.num v 4) ∧ ∀ x j, x ≠ a → x ≠ a + 1 → I1 x j = I x j) := by
  obtain ⟨k1, k2, k3, k4⟩ := h
  refine am_bipush (q := 2) (v := 24) dX8_addNumber_0 kc_b24 rfl ?_
  refine am_istore_n (q := 3) (ls1 := [_, _, _]) dX8_addNumber_2 (Nat.le_of_ble_eq_true rfl) rfl rfl ?_
  refine k_loop (σ := Nat → Nat → Int32) (n := 4) (Inv := fun k I1 => AbTp I1 a (E.num v k) ∧ ∀ x j, x ≠ a → x ≠ a + 1 → I1 x j = I x j) (W := fun k I1 => MW G mX8_addNumber 0 3 [some (vR a), some (vI v), some (vI (24 - 8 * nI k))] [] (mw S I1 J R) _) ?_ ?_ 0 I (Nat.zero_le _) ⟨hE, fun _ _ _ _ => rfl⟩
  · intro k I1 hk ⟨⟨h1, h2, h3⟩, ho⟩ ih
    have es : (24 - 8 * nI k : Int32) = nI (24 - 8 * k) := by
      rcases Nat.lt_or_ge k 2 with q | q
      · rcases Nat.lt_or_ge k 1 with q2 | q2
        · rw [show k = 0 by omega]; rfl
        · rw [show k = 1 by omega]; rfl
      · rcases Nat.lt_or_ge k 3 with q2 | q2
        · rw [show k = 2 by omega]; rfl
        · rw [show k = 3 by omega]; rfl
    have en : (24 - 8 * nI k + -8 : Int32) = 24 - 8 * nI (k + 1) := by
      rcases Nat.lt_or_ge k 2 with q | q
      · rcases Nat.lt_or_ge k 1 with q2 | q2
        · rw [show k = 0 by omega]; rfl
        · rw [show k = 1 by omega]; rfl
      · rcases Nat.lt_or_ge k 3 with q2 | q2
        · rw [show k = 2 by omega]; rfl
        · rw [show k = 3 by omega]; rfl
    have hl := Tp.num_1 (E := E) (v := v) k
    refine am_iload_n (q := 4) dX8_addNumber_3 rfl rfl ?_
    refine am_if_lt (tgt := 58) (q := 7) dX8_addNumber_4 rfl rfl (fun hz => absurd hz (by rw [es]; exact nI_pos (by omega))) (fun _ => ?_)
    refine am_aload_n (q := 8) dX8_addNumber_7 rfl rfl ?_
    refine cm_getI (q := 11) dX8_addNumber_8 flX8_15 rfl (by assumption) rfl ?_
    rw [h1]
    refine am_if_lt (tgt := 52) (q := 14) dX8_addNumber_11 rfl rfl (fun hz => absurd hz (nI_pos (by omega))) (fun _ => ?_)
    refine am_aload_n (q := 15) dX8_addNumber_14 rfl rfl ?_
    refine cm_getI (q := 18) dX8_addNumber_15 flX8_15 rfl (by assumption) rfl ?_
    rw [h1]
    refine am_aload_n (q := 19) dX8_addNumber_18 rfl rfl ?_
    refine cm_getR (q := 22) dX8_addNumber_19 flX8_11 rfl (by assumption) (by assumption) rfl ?_
    refine cm_alenI (q := 23) dX8_addNumber_22 (by assumption) (by rw [k4] : nI (S.ln (a + 1)) = nI 2000) rfl ?_
    refine am_icmp_ge (tgt := 52) (q := 26) dX8_addNumber_23 rfl rfl (fun hz => absurd hz (nI_ge (by omega) (by decide))) (fun _ => ?_)
    refine am_aload_n (q := 27) dX8_addNumber_26 rfl rfl ?_
    refine cm_getR (q := 30) dX8_addNumber_27 flX8_11 rfl (by assumption) (by assumption) rfl ?_
    refine am_aload_n (q := 31) dX8_addNumber_30 rfl rfl ?_
    refine cm_getI (q := 34) dX8_addNumber_31 flX8_15 rfl (by assumption) rfl ?_
    rw [h1]
    refine am_iload_n (q := 35) dX8_addNumber_34 rfl rfl ?_
    refine am_iload_n (q := 36) dX8_addNumber_35 rfl rfl ?_
    refine am_iushr (q := 37) dX8_addNumber_36 rfl ?_
    refine am_sipush (q := 40) (v := 255) dX8_addNumber_37 kc_s255 rfl ?_
    refine am_iand (q := 41) dX8_addNumber_40 rfl ?_
    refine cm_iastore (q := 42) dX8_addNumber_41 (by assumption) (by rw [k4]; exact vp_in_nI (by omega) (by decide)) rfl ?_
    rw [nI_clamp (by omega)]
    refine am_aload_n (q := 43) dX8_addNumber_42 rfl rfl ?_
    refine am_dup (q := 44) dX8_addNumber_43 rfl rfl ?_
    refine cm_getI (q := 47) dX8_addNumber_44 flX8_15 rfl (by assumption) rfl ?_
    rw [up2_a (by omega), h1]
    refine am_iconst (q := 48) (v := 1) dX8_addNumber_47 kc_i1 rfl ?_
    refine am_iadd (q := 49) dX8_addNumber_48 rfl ?_
    refine cm_putI (q := 52) dX8_addNumber_49 flX8_15 rfl (Or.inl rfl) (Or.inl rfl) (by assumption) rfl ?_
    refine am_iincW (q := 55) (ls1 := [_, _, _]) (w := (-8)) dX8_addNumber_52 rfl (Nat.le_of_ble_eq_true rfl) kc_im8 rfl rfl ?_
    refine am_goto (tgt := 3) dX8_addNumber_55 rfl ?_
    rw [en]
    refine ih _ ⟨⟨?_, ?_, ?_⟩, ?_⟩
    · rw [up2_s, nI_1]
      rfl
    · show (E.num v k).1 + 1 ≤ 2000
      omega
    · intro i hi
      have hi2 : i < (E.num v k).1 + 1 := hi
      show up2 (up2 I1 _ _ _) _ _ _ _ _ = up1 (E.num v k).2 (E.num v k).1 ((v.toUInt32 >>> ((nI (24 - 8 * k)).toUInt32 &&& Int32.toUInt32 31)).toInt32 &&& 255) i
      rw [up2_a (by omega), up2_at]
      unfold up1
      by_cases e : i = (E.num v k).1
      · rw [if_pos ⟨rfl, e⟩, if_pos e, es]
      · rw [if_neg (fun z => e z.2), if_neg e]
        exact h3 i (by omega)
    · intro x j q1 q2
      rw [up2_a q1, up2_a q2]
      exact ho x j q1 q2
  · intro I1 ⟨h1, ho⟩
    refine am_iload_n (q := 4) dX8_addNumber_3 rfl rfl ?_
    refine am_if_lt (tgt := 58) (q := 7) dX8_addNumber_4 rfl rfl (fun _ => ?_) (fun hz => absurd (by decide) hz)
    exact am_ret dX8_addNumber_58 rfl ⟨_, rfl, rfl, I1, rfl, h1, ho⟩
end Tpp

