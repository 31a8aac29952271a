theorem kc_b61 : (Int8.ofInt 61).toInt32 = 61 := by decide +kernel
theorem kc_b62 : (Int8.ofInt 62).toInt32 = 62 := by decide +kernel
theorem kc_s260 : (Int16.ofInt 260).toInt32 = 260 := by decide +kernel
theorem kc_s261 : (Int16.ofInt 261).toInt32 = 261 := by decide +kernel
theorem dX7_isComparing_0 : decode cX7_isComparing 0 = .ok (.iload_n 0, 1) := by decide +kernel
theorem dX7_isComparing_1 : decode cX7_isComparing 1 = .ok (.bipush 60, 2) := by decide +kernel
theorem dX7_isComparing_3 : decode cX7_isComparing 3 = .ok (.if_icmp .eq 29, 3) := by decide +kernel
theorem dX7_isComparing_6 : decode cX7_isComparing 6 = .ok (.iload_n 0, 1) := by decide +kernel
theorem dX7_isComparing_7 : decode cX7_isComparing 7 = .ok (.bipush 62, 2) := by decide +kernel
theorem dX7_isComparing_9 : decode cX7_isComparing 9 = .ok (.if_icmp .eq 23, 3) := by decide +kernel
theorem dX7_isComparing_12 : decode cX7_isComparing 12 = .ok (.iload_n 0, 1) := by decide +kernel
theorem dX7_isComparing_13 : decode cX7_isComparing 13 = .ok (.bipush 61, 2) := by decide +kernel
theorem dX7_isComparing_15 : decode cX7_isComparing 15 = .ok (.if_icmp .eq 17, 3) := by decide +kernel
theorem dX7_isComparing_18 : decode cX7_isComparing 18 = .ok (.iload_n 0, 1) := by decide +kernel
theorem dX7_isComparing_19 : decode cX7_isComparing 19 = .ok (.sipush 260, 3) := by decide +kernel
theorem dX7_isComparing_22 : decode cX7_isComparing 22 = .ok (.if_icmp .eq 10, 3) := by decide +kernel
theorem dX7_isComparing_25 : decode cX7_isComparing 25 = .ok (.iload_n 0, 1) := by decide +kernel
theorem dX7_isComparing_26 : decode cX7_isComparing 26 = .ok (.sipush 261, 3) := by decide +kernel
theorem dX7_isComparing_29 : decode cX7_isComparing 29 = .ok (.if_icmp .ne 7, 3) := by decide +kernel
theorem dX7_isComparing_32 : decode cX7_isComparing 32 = .ok (.iconst 1, 1) := by decide +kernel
theorem dX7_isComparing_33 : decode cX7_isComparing 33 = .ok (.goto 4, 3) := by decide +kernel
theorem dX7_isComparing_36 : decode cX7_isComparing 36 = .ok (.iconst 0, 1) := by decide +kernel
theorem dX7_isComparing_37 : decode cX7_isComparing 37 = .ok (.ireturn, 1) := by decide +kernel
/-! the reader's code: plain values, named values -/
abbrev Cd : Type := List (Int32 × Int32)
def adC (L : Cd) (x : Int32 × Int32) : Cd := if L.length < 400 then L ++ [x] else L
def AbC (I : Nat → Nat → Int32) (c : Nat) (L : Cd) : Prop := I (c + 1) 4 = nI L.length ∧ L.length ≤ 400 ∧ ∀ i, i < L.length → I (c + 2) i = (L.getD i (0, 0)).1 ∧ I (c + 3) i = (L.getD i (0, 0)).2
/-- nothing but the reader at x and the code of the contest at c has changed -/
def OffE (x c : Nat) (I I1 : Nat → Nat → Int32) : Prop := ∀ y j, y ≠ x → (y ≠ c + 1 ∨ j ≠ 4) → y ≠ c + 2 → y ≠ c + 3 → I1 y j = I y j
theorem OffE.rf {x c : Nat} {I : Nat → Nat → Int32} : OffE x c I I := fun _ _ _ _ _ _ => rfl
theorem OffE.tr {x c : Nat} {I I1 I2 : Nat → Nat → Int32} (h1 : OffE x c I I1) (h2 : OffE x c I1 I2) : OffE x c I I2 := fun y j p q r s => (h2 y j p q r s).trans (h1 y j p q r s)
theorem OffR.e {x c : Nat} {I I1 : Nat → Nat → Int32} (h : OffR x I I1) : OffE x c I I1 := fun y j p _ _ _ => h y j p
theorem AbC.off {x c : Nat} {I I1 : Nat → Nat → Int32} {L : Cd} (h : AbC I c L) (ho : OffR x I I1) (hx : x < c ∨ c + 58 ≤ x) : AbC I1 c L := by
  obtain ⟨h1, h2, h3⟩ := h
  refine ⟨(ho _ _ (by omega)).trans h1, h2, fun i hi => ?_⟩
  rw [ho _ _ (by omega), ho _ _ (by omega)]
  exact h3 i hi
/-- the index that a name has where a word of the kind stands -/
def ixM (J : Nat → Nat → Int64) (c n1 n2 n3 : Nat) (k : Int32) (v : Int64) : Int32 := if k = 324 then fndJ (fun i => J (c + 14 + 2 * i) 1) v 0 n1 else if k = 325 then fndJ (fun i => J (c + 30 + i) 0) v 0 n3 else fndJ (fun i => J (c + 22 + i) 0) v 0 n2
def Cnt (I : Nat → Nat → Int32) (c n1 n2 n3 : Nat) : Prop := I c 8 = nI n1 ∧ n1 ≤ 4 ∧ I c 10 = nI n2 ∧ n2 ≤ 8 ∧ I c 11 = nI n3 ∧ n3 ≤ 8
theorem Cnt.off {x c n1 n2 n3 : Nat} {I I1 : Nat → Nat → Int32} (h : Cnt I c n1 n2 n3) (ho : OffE x c I I1) (hx : x < c ∨ c + 58 ≤ x) : Cnt I1 c n1 n2 n3 := by
  obtain ⟨h1, h2, h3, h4, h5, h6⟩ := h
  have e : ∀ j, I1 c j = I c j := fun j => ho _ _ (by omega) (Or.inl (by omega)) (by omega) (by omega)
  exact ⟨(e 8).trans h1, h2, (e 10).trans h3, h4, (e 11).trans h5, h6⟩
theorem AbT.offE {x t c : Nat} {I I1 : Nat → Nat → Int32} {J : Nat → Nat → Int64} {T : Toks} (h : AbT I J t T) (ho : OffE x c I I1) (h1 : x < t ∨ t + 4 < x) (h2 : t + 4 < c ∨ c + 58 ≤ t) : AbT I1 J t T := by
  obtain ⟨a1, a2, a3, a4, a5⟩ := h
  refine ⟨(ho _ _ (by omega) (Or.inl (by omega)) (by omega) (by omega)).trans a1, a2, fun i hi => (ho _ _ (by omega) (Or.inl (by omega)) (by omega) (by omega)).trans (a3 i hi), fun i hi => (ho _ _ (by omega) (Or.inl (by omega)) (by omega) (by omega)).trans (a4 i hi), a5⟩
/-- the reader, its tokens and its contest lie apart -/
def RX (S : AMem) (R : Nat → Nat → Option Nat) (x t c : Nat) : Prop := RD S R x t ∧ CT S R c ∧ R x 1 = some c ∧ (x < c ∨ c + 58 ≤ x) ∧ (t + 4 < c ∨ c + 58 ≤ t)
section Vl
variable {G : Gp} {S : AMem} {I : Nat → Nat → Int32} {J : Nat → Nat → Int64} {R : Nat → Nat → Option Nat} {t x c n1 n2 n3 : Nat} {T : Toks} {s : PS} {L : Cd}
theorem k_X7_isComparing {k : Int32} : Fn G mX7_isComparing 0 [vI k] (mw S I J R) (fun rr M1 => rr = some (vI (bI (k = 60 ∨ k = 62 ∨ k = 61 ∨ k = 260 ∨ k = 261))) ∧ M1 = mw S I J R) := by
  refine am_iload_n (q := 1) dX7_isComparing_0 rfl rfl ?_
  refine am_bipush (q := 3) (v := 60) dX7_isComparing_1 kc_b60 rfl ?_
  refine am_icmp_eq (tgt := 32) (q := 6) dX7_isComparing_3 rfl rfl (fun h1 => ?_) (fun h1 => ?_)
  · refine am_iconst (q := 33) (v := 1) dX7_isComparing_32 kc_i1 rfl ?_
    refine am_goto (tgt := 37) dX7_isComparing_33 rfl ?_
    exact am_iret dX7_isComparing_37 rfl rfl ⟨_, rfl, by rw [bI_t (Or.inl h1)], rfl⟩
  · refine am_iload_n (q := 7) dX7_isComparing_6 rfl rfl ?_
    refine am_bipush (q := 9) (v := 62) dX7_isComparing_7 kc_b62 rfl ?_
    refine am_icmp_eq (tgt := 32) (q := 12) dX7_isComparing_9 rfl rfl (fun h2 => ?_) (fun h2 => ?_)
    · refine am_iconst (q := 33) (v := 1) dX7_isComparing_32 kc_i1 rfl ?_
      refine am_goto (tgt := 37) dX7_isComparing_33 rfl ?_
      exact am_iret dX7_isComparing_37 rfl rfl ⟨_, rfl, by rw [bI_t (Or.inr (Or.inl h2))], rfl⟩
    · refine am_iload_n (q := 13) dX7_isComparing_12 rfl rfl ?_
      refine am_bipush (q := 15) (v := 61) dX7_isComparing_13 kc_b61 rfl ?_
      refine am_icmp_eq (tgt := 32) (q := 18) dX7_isComparing_15 rfl rfl (fun h3 => ?_) (fun h3 => ?_)
      · refine am_iconst (q := 33) (v := 1) dX7_isComparing_32 kc_i1 rfl ?_
        refine am_goto (tgt := 37) dX7_isComparing_33 rfl ?_
        exact am_iret dX7_isComparing_37 rfl rfl ⟨_, rfl, by rw [bI_t (Or.inr (Or.inr (Or.inl h3)))], rfl⟩
      · refine am_iload_n (q := 19) dX7_isComparing_18 rfl rfl ?_
        refine am_sipush (q := 22) (v := 260) dX7_isComparing_19 kc_s260 rfl ?_
        refine am_icmp_eq (tgt := 32) (q := 25) dX7_isComparing_22 rfl rfl (fun h4 => ?_) (fun h4 => ?_)
        · refine am_iconst (q := 33) (v := 1) dX7_isComparing_32 kc_i1 rfl ?_
          refine am_goto (tgt := 37) dX7_isComparing_33 rfl ?_
          exact am_iret dX7_isComparing_37 rfl rfl ⟨_, rfl, by rw [bI_t (Or.inr (Or.inr (Or.inr (Or.inl h4))))], rfl⟩
        · refine am_iload_n (q := 26) dX7_isComparing_25 rfl rfl ?_
          refine am_sipush (q := 29) (v := 261) dX7_isComparing_26 kc_s261 rfl ?_
          refine am_icmp_ne (tgt := 36) (q := 32) dX7_isComparing_29 rfl rfl (fun h5 => ?_) (fun h5 => ?_)
          · refine am_iconst (q := 37) (v := 0) dX7_isComparing_36 kc_i0 rfl ?_
            exact am_iret dX7_isComparing_37 rfl rfl ⟨_, rfl, by
              rw [bI_f]
              rintro (q | q | q | q | q)
              · exact h1 q
              · exact h2 q
              · exact h3 q
              · exact h4 q
              · exact h5 q, rfl⟩
          · refine am_iconst (q := 33) (v := 1) dX7_isComparing_32 kc_i1 rfl ?_
            refine am_goto (tgt := 37) dX7_isComparing_33 rfl ?_
            exact am_iret dX7_isComparing_37 rfl rfl ⟨_, rfl, by rw [bI_t (Or.inr (Or.inr (Or.inr (Or.inr h5))))], rfl⟩
theorem k_adC {k g : Int32} (hct : CT S R c) (hL : AbC I c L) : Fn G mX1_add 0 [vR (c + 1), vI k, vI g] (mw S I J R) (fun rr M1 => rr = none ∧ ∃ I1, M1 = mw S I1 J R ∧ AbC I1 c (adC L (k, g)) ∧ OffE x c I I1) := by
  obtain ⟨kc, rc0, rc1, rc2, rc3, rc4, rc5, rc6, rc7, ⟨kd, rd0, rd1, rd2, kd2, ld2, kd3, ld3, kd4, ld4⟩, ⟨kb, rb, kb6, lb6⟩, ⟨kf, rf, kf8, lf8⟩, ⟨kr, lr, hr⟩, ⟨kfi, lfi, hfi⟩, ⟨kp, lp, hpz⟩, ⟨kt, lt, htu⟩, kw, lw⟩ := id hct
  obtain ⟨l1, l2, l3⟩ := hL
  by_cases h : L.length < 400
  · refine MW.weaken (k_X1_add (k := k) (g := g) kd rd0 kd2 ld2 rd1 kd3 ld3 (by omega) l1 h) ?_
    rintro f M1 ⟨r, e1, e2, rfl⟩
    refine ⟨r, e1, e2, _, rfl, ?_, ?_⟩
    · unfold adC
      rw [if_pos h]
      refine ⟨?_, by simp; omega, fun i hi => ?_⟩
      · show (if c + 1 = c + 2 ∧ 4 = L.length then _ else if c + 1 = c + 3 ∧ 4 = L.length then _ else if c + 1 = c + 1 ∧ 4 = 4 then nI (L.length + 1) else _) = _
        rw [if_neg (by omega), if_neg (by omega), if_pos ⟨rfl, rfl⟩]
        simp
      · have hi2 : i < L.length + 1 := by simpa using hi
        show (if c + 2 = c + 2 ∧ i = L.length then k else if c + 2 = c + 3 ∧ i = L.length then g else if c + 2 = c + 1 ∧ i = 4 then _ else I (c + 2) i) = _ ∧ (if c + 3 = c + 2 ∧ i = L.length then k else if c + 3 = c + 3 ∧ i = L.length then g else if c + 3 = c + 1 ∧ i = 4 then _ else I (c + 3) i) = _
        by_cases e : i = L.length
        · rw [if_pos ⟨rfl, e⟩, if_neg (by omega), if_pos ⟨rfl, e⟩, e]
          simp
        · obtain ⟨q1, q2⟩ := l3 i (by omega)
          rw [if_neg (by omega), if_neg (by omega), if_neg (by omega), if_neg (by omega), if_neg (by omega), if_neg (by omega), q1, q2]
          have hlt : i < L.length := by omega
          simp [List.getD, List.getElem?_append_left hlt]
    · intro y j q1 q2 q3 q4
      show (if y = c + 2 ∧ j = L.length then _ else if y = c + 3 ∧ j = L.length then _ else if y = c + 1 ∧ j = 4 then _ else I y j) = _
      rw [if_neg (fun z => q3 z.1), if_neg (fun z => q4 z.1), if_neg (fun z => by omega)]
  · have hz : I (c + 1) 4 = nI 400 := by rw [l1, show L.length = 400 by omega]
    refine MW.weaken (k_X1_addFull (k := k) (g := g) kd rd0 kd2 ld2 hz) ?_
    rintro f M1 ⟨r, e1, e2, rfl⟩
    refine ⟨r, e1, e2, I, rfl, ?_, OffE.rf⟩
    unfold adC
    rw [if_neg h]
    exact ⟨l1, l2, l3⟩
theorem AbP.offC {I1 : Nat → Nat → Int32} (h : AbP I x T s) (ho : ∀ j, I1 x j = I x j) : AbP I1 x T s := by
  obtain ⟨h1, h2, h3, h4⟩ := h
  exact ⟨(ho 2).trans h1, (ho 3).trans h2, (ho 4).trans h3, h4⟩
end Vl

