theorem kc_s257 : (Int16.ofInt 257).toInt32 = 257 := by decide +kernel
theorem dX7_blame_0 : decode cX7_blame 0 = .ok (.aload_n 0, 1) := by decide +kernel
theorem dX7_blame_1 : decode cX7_blame 1 = .ok (.getfield 26, 3) := by decide +kernel
theorem dX7_blame_4 : decode cX7_blame 4 = .ok (.ifCond .ne 23, 3) := by decide +kernel
theorem dX7_blame_7 : decode cX7_blame 7 = .ok (.aload_n 0, 1) := by decide +kernel
theorem dX7_blame_8 : decode cX7_blame 8 = .ok (.iload_n 1, 1) := by decide +kernel
theorem dX7_blame_9 : decode cX7_blame 9 = .ok (.putfield 26, 3) := by decide +kernel
theorem dX7_blame_12 : decode cX7_blame 12 = .ok (.aload_n 0, 1) := by decide +kernel
theorem dX7_blame_13 : decode cX7_blame 13 = .ok (.aload_n 0, 1) := by decide +kernel
theorem dX7_blame_14 : decode cX7_blame 14 = .ok (.getfield 9, 3) := by decide +kernel
theorem dX7_blame_17 : decode cX7_blame 17 = .ok (.aload_n 0, 1) := by decide +kernel
theorem dX7_blame_18 : decode cX7_blame 18 = .ok (.getfield 23, 3) := by decide +kernel
theorem dX7_blame_21 : decode cX7_blame 21 = .ok (.invokevirtual 186, 3) := by decide +kernel
theorem dX7_blame_24 : decode cX7_blame 24 = .ok (.putfield 19, 3) := by decide +kernel
theorem dX7_blame_27 : decode cX7_blame 27 = .ok (.return_, 1) := by decide +kernel
theorem dX7_expect_0 : decode cX7_expect 0 = .ok (.aload_n 0, 1) := by decide +kernel
theorem dX7_expect_1 : decode cX7_expect 1 = .ok (.invokevirtual 31, 3) := by decide +kernel
theorem dX7_expect_4 : decode cX7_expect 4 = .ok (.iload_n 1, 1) := by decide +kernel
theorem dX7_expect_5 : decode cX7_expect 5 = .ok (.if_icmp .ne 16, 3) := by decide +kernel
theorem dX7_expect_8 : decode cX7_expect 8 = .ok (.aload_n 0, 1) := by decide +kernel
theorem dX7_expect_9 : decode cX7_expect 9 = .ok (.dup, 1) := by decide +kernel
theorem dX7_expect_10 : decode cX7_expect 10 = .ok (.getfield 23, 3) := by decide +kernel
theorem dX7_expect_13 : decode cX7_expect 13 = .ok (.iconst 1, 1) := by decide +kernel
theorem dX7_expect_14 : decode cX7_expect 14 = .ok (.iadd, 1) := by decide +kernel
theorem dX7_expect_15 : decode cX7_expect 15 = .ok (.putfield 23, 3) := by decide +kernel
theorem dX7_expect_18 : decode cX7_expect 18 = .ok (.goto 7, 3) := by decide +kernel
theorem dX7_expect_21 : decode cX7_expect 21 = .ok (.aload_n 0, 1) := by decide +kernel
theorem dX7_expect_22 : decode cX7_expect 22 = .ok (.invokevirtual 50, 3) := by decide +kernel
theorem dX7_expect_25 : decode cX7_expect 25 = .ok (.return_, 1) := by decide +kernel
theorem dX7_goesDeeper_0 : decode cX7_goesDeeper 0 = .ok (.iload_n 2, 1) := by decide +kernel
theorem dX7_goesDeeper_1 : decode cX7_goesDeeper 1 = .ok (.bipush 8, 2) := by decide +kernel
theorem dX7_goesDeeper_3 : decode cX7_goesDeeper 3 = .ok (.if_icmp .ge 11, 3) := by decide +kernel
theorem dX7_goesDeeper_6 : decode cX7_goesDeeper 6 = .ok (.aload_n 0, 1) := by decide +kernel
theorem dX7_goesDeeper_7 : decode cX7_goesDeeper 7 = .ok (.iload_n 1, 1) := by decide +kernel
theorem dX7_goesDeeper_8 : decode cX7_goesDeeper 8 = .ok (.invokevirtual 53, 3) := by decide +kernel
theorem dX7_goesDeeper_11 : decode cX7_goesDeeper 11 = .ok (.goto 7, 3) := by decide +kernel
theorem dX7_goesDeeper_14 : decode cX7_goesDeeper 14 = .ok (.aload_n 0, 1) := by decide +kernel
theorem dX7_goesDeeper_15 : decode cX7_goesDeeper 15 = .ok (.invokevirtual 50, 3) := by decide +kernel
theorem dX7_goesDeeper_18 : decode cX7_goesDeeper 18 = .ok (.aload_n 0, 1) := by decide +kernel
theorem dX7_goesDeeper_19 : decode cX7_goesDeeper 19 = .ok (.getfield 26, 3) := by decide +kernel
theorem dX7_goesDeeper_22 : decode cX7_goesDeeper 22 = .ok (.iconst 1, 1) := by decide +kernel
theorem dX7_goesDeeper_23 : decode cX7_goesDeeper 23 = .ok (.if_icmp .eq 7, 3) := by decide +kernel
theorem dX7_goesDeeper_26 : decode cX7_goesDeeper 26 = .ok (.iconst 1, 1) := by decide +kernel
theorem dX7_goesDeeper_27 : decode cX7_goesDeeper 27 = .ok (.goto 4, 3) := by decide +kernel
theorem dX7_goesDeeper_30 : decode cX7_goesDeeper 30 = .ok (.iconst 0, 1) := by decide +kernel
theorem dX7_goesDeeper_31 : decode cX7_goesDeeper 31 = .ok (.ireturn, 1) := by decide +kernel
theorem dX7_kind_0 : decode cX7_kind 0 = .ok (.aload_n 0, 1) := by decide +kernel
theorem dX7_kind_1 : decode cX7_kind 1 = .ok (.getfield 26, 3) := by decide +kernel
theorem dX7_kind_4 : decode cX7_kind 4 = .ok (.iconst 1, 1) := by decide +kernel
theorem dX7_kind_5 : decode cX7_kind 5 = .ok (.if_icmp .ne 9, 3) := by decide +kernel
theorem dX7_kind_8 : decode cX7_kind 8 = .ok (.sipush 257, 3) := by decide +kernel
theorem dX7_kind_11 : decode cX7_kind 11 = .ok (.goto 14, 3) := by decide +kernel
theorem dX7_kind_14 : decode cX7_kind 14 = .ok (.aload_n 0, 1) := by decide +kernel
theorem dX7_kind_15 : decode cX7_kind 15 = .ok (.getfield 9, 3) := by decide +kernel
theorem dX7_kind_18 : decode cX7_kind 18 = .ok (.aload_n 0, 1) := by decide +kernel
theorem dX7_kind_19 : decode cX7_kind 19 = .ok (.getfield 23, 3) := by decide +kernel
theorem dX7_kind_22 : decode cX7_kind 22 = .ok (.invokevirtual 179, 3) := by decide +kernel
theorem dX7_kind_25 : decode cX7_kind 25 = .ok (.ireturn, 1) := by decide +kernel
theorem dX7_refuse_0 : decode cX7_refuse 0 = .ok (.aload_n 0, 1) := by decide +kernel
theorem dX7_refuse_1 : decode cX7_refuse 1 = .ok (.getfield 26, 3) := by decide +kernel
theorem dX7_refuse_4 : decode cX7_refuse 4 = .ok (.iconst 1, 1) := by decide +kernel
theorem dX7_refuse_5 : decode cX7_refuse 5 = .ok (.if_icmp .eq 23, 3) := by decide +kernel
theorem dX7_refuse_8 : decode cX7_refuse 8 = .ok (.aload_n 0, 1) := by decide +kernel
theorem dX7_refuse_9 : decode cX7_refuse 9 = .ok (.iconst 1, 1) := by decide +kernel
theorem dX7_refuse_10 : decode cX7_refuse 10 = .ok (.putfield 26, 3) := by decide +kernel
theorem dX7_refuse_13 : decode cX7_refuse 13 = .ok (.aload_n 0, 1) := by decide +kernel
theorem dX7_refuse_14 : decode cX7_refuse 14 = .ok (.aload_n 0, 1) := by decide +kernel
theorem dX7_refuse_15 : decode cX7_refuse 15 = .ok (.getfield 9, 3) := by decide +kernel
theorem dX7_refuse_18 : decode cX7_refuse 18 = .ok (.aload_n 0, 1) := by decide +kernel
theorem dX7_refuse_19 : decode cX7_refuse 19 = .ok (.getfield 23, 3) := by decide +kernel
theorem dX7_refuse_22 : decode cX7_refuse 22 = .ok (.invokevirtual 186, 3) := by decide +kernel
theorem dX7_refuse_25 : decode cX7_refuse 25 = .ok (.putfield 19, 3) := by decide +kernel
theorem dX7_refuse_28 : decode cX7_refuse 28 = .ok (.return_, 1) := by decide +kernel
theorem dX7_value_0 : decode cX7_value 0 = .ok (.aload_n 0, 1) := by decide +kernel
theorem dX7_value_1 : decode cX7_value 1 = .ok (.getfield 26, 3) := by decide +kernel
theorem dX7_value_4 : decode cX7_value 4 = .ok (.iconst 1, 1) := by decide +kernel
theorem dX7_value_5 : decode cX7_value 5 = .ok (.if_icmp .ne 7, 3) := by decide +kernel
theorem dX7_value_8 : decode cX7_value 8 = .ok (.lconst 0, 1) := by decide +kernel
theorem dX7_value_9 : decode cX7_value 9 = .ok (.goto 14, 3) := by decide +kernel
theorem dX7_value_12 : decode cX7_value 12 = .ok (.aload_n 0, 1) := by decide +kernel
theorem dX7_value_13 : decode cX7_value 13 = .ok (.getfield 9, 3) := by decide +kernel
theorem dX7_value_16 : decode cX7_value 16 = .ok (.aload_n 0, 1) := by decide +kernel
theorem dX7_value_17 : decode cX7_value 17 = .ok (.getfield 23, 3) := by decide +kernel
theorem dX7_value_20 : decode cX7_value 20 = .ok (.invokevirtual 182, 3) := by decide +kernel
theorem dX7_value_23 : decode cX7_value 23 = .ok (.lreturn, 1) := by decide +kernel
theorem dX9_kindAt_0 : decode cX9_kindAt 0 = .ok (.iload_n 1, 1) := by decide +kernel
theorem dX9_kindAt_1 : decode cX9_kindAt 1 = .ok (.ifCond .lt 29, 3) := by decide +kernel
theorem dX9_kindAt_4 : decode cX9_kindAt 4 = .ok (.iload_n 1, 1) := by decide +kernel
theorem dX9_kindAt_5 : decode cX9_kindAt 5 = .ok (.aload_n 0, 1) := by decide +kernel
theorem dX9_kindAt_6 : decode cX9_kindAt 6 = .ok (.getfield 31, 3) := by decide +kernel
theorem dX9_kindAt_9 : decode cX9_kindAt 9 = .ok (.if_icmp .ge 21, 3) := by decide +kernel
theorem dX9_kindAt_12 : decode cX9_kindAt 12 = .ok (.iload_n 1, 1) := by decide +kernel
theorem dX9_kindAt_13 : decode cX9_kindAt 13 = .ok (.aload_n 0, 1) := by decide +kernel
theorem dX9_kindAt_14 : decode cX9_kindAt 14 = .ok (.getfield 11, 3) := by decide +kernel
theorem dX9_kindAt_17 : decode cX9_kindAt 17 = .ok (.arraylength, 1) := by decide +kernel
theorem dX9_kindAt_18 : decode cX9_kindAt 18 = .ok (.if_icmp .ge 12, 3) := by decide +kernel
theorem dX9_kindAt_21 : decode cX9_kindAt 21 = .ok (.aload_n 0, 1) := by decide +kernel
theorem dX9_kindAt_22 : decode cX9_kindAt 22 = .ok (.getfield 11, 3) := by decide +kernel
theorem dX9_kindAt_25 : decode cX9_kindAt 25 = .ok (.iload_n 1, 1) := by decide +kernel
theorem dX9_kindAt_26 : decode cX9_kindAt 26 = .ok (.iaload, 1) := by decide +kernel
theorem dX9_kindAt_27 : decode cX9_kindAt 27 = .ok (.goto 6, 3) := by decide +kernel
theorem dX9_kindAt_30 : decode cX9_kindAt 30 = .ok (.sipush 257, 3) := by decide +kernel
theorem dX9_kindAt_33 : decode cX9_kindAt 33 = .ok (.ireturn, 1) := by decide +kernel
theorem dX9_startAt_0 : decode cX9_startAt 0 = .ok (.iload_n 1, 1) := by decide +kernel
theorem dX9_startAt_1 : decode cX9_startAt 1 = .ok (.ifCond .lt 29, 3) := by decide +kernel
theorem dX9_startAt_4 : decode cX9_startAt 4 = .ok (.iload_n 1, 1) := by decide +kernel
theorem dX9_startAt_5 : decode cX9_startAt 5 = .ok (.aload_n 0, 1) := by decide +kernel
theorem dX9_startAt_6 : decode cX9_startAt 6 = .ok (.getfield 31, 3) := by decide +kernel
theorem dX9_startAt_9 : decode cX9_startAt 9 = .ok (.if_icmp .ge 21, 3) := by decide +kernel
theorem dX9_startAt_12 : decode cX9_startAt 12 = .ok (.iload_n 1, 1) := by decide +kernel
theorem dX9_startAt_13 : decode cX9_startAt 13 = .ok (.aload_n 0, 1) := by decide +kernel
theorem dX9_startAt_14 : decode cX9_startAt 14 = .ok (.getfield 15, 3) := by decide +kernel
theorem dX9_startAt_17 : decode cX9_startAt 17 = .ok (.arraylength, 1) := by decide +kernel
theorem dX9_startAt_18 : decode cX9_startAt 18 = .ok (.if_icmp .ge 12, 3) := by decide +kernel
theorem dX9_startAt_21 : decode cX9_startAt 21 = .ok (.aload_n 0, 1) := by decide +kernel
theorem dX9_startAt_22 : decode cX9_startAt 22 = .ok (.getfield 15, 3) := by decide +kernel
theorem dX9_startAt_25 : decode cX9_startAt 25 = .ok (.iload_n 1, 1) := by decide +kernel
theorem dX9_startAt_26 : decode cX9_startAt 26 = .ok (.iaload, 1) := by decide +kernel
theorem dX9_startAt_27 : decode cX9_startAt 27 = .ok (.goto 4, 3) := by decide +kernel
theorem dX9_startAt_30 : decode cX9_startAt 30 = .ok (.iconst 0, 1) := by decide +kernel
theorem dX9_startAt_31 : decode cX9_startAt 31 = .ok (.ireturn, 1) := by decide +kernel
theorem dX9_valueAt_0 : decode cX9_valueAt 0 = .ok (.iload_n 1, 1) := by decide +kernel
theorem dX9_valueAt_1 : decode cX9_valueAt 1 = .ok (.ifCond .lt 29, 3) := by decide +kernel
theorem dX9_valueAt_4 : decode cX9_valueAt 4 = .ok (.iload_n 1, 1) := by decide +kernel
theorem dX9_valueAt_5 : decode cX9_valueAt 5 = .ok (.aload_n 0, 1) := by decide +kernel
theorem dX9_valueAt_6 : decode cX9_valueAt 6 = .ok (.getfield 31, 3) := by decide +kernel
theorem dX9_valueAt_9 : decode cX9_valueAt 9 = .ok (.if_icmp .ge 21, 3) := by decide +kernel
theorem dX9_valueAt_12 : decode cX9_valueAt 12 = .ok (.iload_n 1, 1) := by decide +kernel
theorem dX9_valueAt_13 : decode cX9_valueAt 13 = .ok (.aload_n 0, 1) := by decide +kernel
theorem dX9_valueAt_14 : decode cX9_valueAt 14 = .ok (.getfield 18, 3) := by decide +kernel
theorem dX9_valueAt_17 : decode cX9_valueAt 17 = .ok (.arraylength, 1) := by decide +kernel
theorem dX9_valueAt_18 : decode cX9_valueAt 18 = .ok (.if_icmp .ge 12, 3) := by decide +kernel
theorem dX9_valueAt_21 : decode cX9_valueAt 21 = .ok (.aload_n 0, 1) := by decide +kernel
theorem dX9_valueAt_22 : decode cX9_valueAt 22 = .ok (.getfield 18, 3) := by decide +kernel
theorem dX9_valueAt_25 : decode cX9_valueAt 25 = .ok (.iload_n 1, 1) := by decide +kernel
theorem dX9_valueAt_26 : decode cX9_valueAt 26 = .ok (.laload, 1) := by decide +kernel
theorem dX9_valueAt_27 : decode cX9_valueAt 27 = .ok (.goto 4, 3) := by decide +kernel
theorem dX9_valueAt_30 : decode cX9_valueAt 30 = .ok (.lconst 0, 1) := by decide +kernel
theorem dX9_valueAt_31 : decode cX9_valueAt 31 = .ok (.lreturn, 1) := by decide +kernel
/-! tokens as they were cut, and the reader's first steps -/
/-- tokens: how many, kinds, starts, values -/
abbrev Toks : Type := Nat × (Nat → Int32) × (Nat → Int32) × (Nat → Int64)
def Toks.n (T : Toks) : Nat := T.1
def Toks.k (T : Toks) (i : Nat) : Int32 := if i < T.n then T.2.1 i else 257
def Toks.s (T : Toks) (i : Nat) : Int32 := if i < T.n then T.2.2.1 i else 0
def Toks.v (T : Toks) (i : Nat) : Int64 := if i < T.n then T.2.2.2 i else 0
/-- the cells of the tokens at t -/
def TC (S : AMem) (R : Nat → Nat → Option Nat) (t : Nat) : Prop := S.K t = 10 ∧ R t 0 = some (t + 1) ∧ R t 1 = some (t + 2) ∧ R t 2 = some (t + 3) ∧ R t 3 = some (t + 4) ∧ S.K (t + 1) = 20 ∧ S.ln (t + 1) = 401 ∧ S.K (t + 2) = 20 ∧ S.ln (t + 2) = 401 ∧ S.K (t + 3) = 21 ∧ S.ln (t + 3) = 401 ∧ S.K (t + 4) = 21 ∧ S.ln (t + 4) = 32
def AbT (I : Nat → Nat → Int32) (J : Nat → Nat → Int64) (t : Nat) (T : Toks) : Prop := I t 4 = nI T.n ∧ T.n ≤ 401 ∧ (∀ i, i < T.n → I (t + 1) i = T.2.1 i) ∧ (∀ i, i < T.n → I (t + 2) i = T.2.2.1 i) ∧ ∀ i, i < T.n → J (t + 3) i = T.2.2.2 i
/-- where the reader stands: the next token, the error, its byte -/
abbrev PS : Type := Nat × Int32 × Int32
def AbP (I : Nat → Nat → Int32) (x : Nat) (T : Toks) (s : PS) : Prop := I x 2 = nI s.1 ∧ I x 3 = s.2.1 ∧ I x 4 = s.2.2 ∧ s.1 ≤ T.n
def pK (T : Toks) (s : PS) : Int32 := if s.2.1 = 1 then 257 else T.k s.1
def pV (T : Toks) (s : PS) : Int64 := if s.2.1 = 1 then 0 else T.v s.1
def pRef (T : Toks) (s : PS) : PS := if s.2.1 = 1 then s else (s.1, 1, T.s s.1)
def pBl (T : Toks) (n : Int32) (s : PS) : PS := if s.2.1 = 0 then (s.1, n, T.s s.1) else s
def pEx (T : Toks) (k : Int32) (s : PS) : PS := if pK T s = k then (s.1 + 1, s.2.1, s.2.2) else pRef T s
def pDp (T : Toks) (k : Int32) (d : Nat) (s : PS) : PS := if d < 8 then pEx T k s else pRef T s
/-- nothing but the reader at x has changed -/
def OffR (x : Nat) (I I1 : Nat → Nat → Int32) : Prop := ∀ y j, y ≠ x → I1 y j = I y j
theorem OffR.rf {x : Nat} {I : Nat → Nat → Int32} : OffR x I I := fun _ _ _ => rfl
theorem OffR.tr {x : Nat} {I I1 I2 : Nat → Nat → Int32} (h1 : OffR x I I1) (h2 : OffR x I1 I2) : OffR x I I2 := fun y j q => (h2 y j q).trans (h1 y j q)
theorem AbT.off {x t : Nat} {I I1 : Nat → Nat → Int32} {J : Nat → Nat → Int64} {T : Toks} (h : AbT I J t T) (ho : OffR x I I1) (h1 : x < t ∨ t + 4 < x) : AbT I1 J t T := by
  obtain ⟨a1, a2, a3, a4, a5⟩ := h
  refine ⟨(ho _ _ (by omega)).trans a1, a2, fun i hi => (ho _ _ (by omega)).trans (a3 i hi), fun i hi => (ho _ _ (by omega)).trans (a4 i hi), a5⟩
section Rd
variable {G : Gp} {S : AMem} {I : Nat → Nat → Int32} {J : Nat → Nat → Int64} {R : Nat → Nat → Option Nat} {t x c : Nat} {T : Toks} {s : PS}
theorem k_X9_kindAt {i : Nat} (ht : TC S R t) (hT : AbT I J t T) (hi : i ≤ T.n) : Fn G mX9_kindAt 0 [vR t, vI (nI i)] (mw S I J R) (fun rr M1 => rr = some (vI (T.k i)) ∧ M1 = mw S I J R) := by
  obtain ⟨t0, t1, t2, t3, t4, t5, t6, t7, t8, t9, t10, _⟩ := ht
  obtain ⟨a1, a2, a3, a4, a5⟩ := hT
  refine am_iload_n (q := 1) dX9_kindAt_0 rfl rfl ?_
  refine am_if_lt (tgt := 30) (q := 4) dX9_kindAt_1 rfl rfl (fun hz => absurd hz (nI_pos (by omega))) (fun _ => ?_)
  refine am_iload_n (q := 5) dX9_kindAt_4 rfl rfl ?_
  refine am_aload_n (q := 6) dX9_kindAt_5 rfl rfl ?_
  refine cm_getI (q := 9) dX9_kindAt_6 flX9_31 rfl (by assumption) rfl ?_
  rw [a1]
  unfold Toks.k
  by_cases h : i < T.n
  · rw [if_pos h, ← a3 i h]
    refine am_icmp_ge (tgt := 30) (q := 12) dX9_kindAt_9 rfl rfl (fun hz => absurd hz (nI_ge (by omega) (by omega))) (fun _ => ?_)
    refine am_iload_n (q := 13) dX9_kindAt_12 rfl rfl ?_
    refine am_aload_n (q := 14) dX9_kindAt_13 rfl rfl ?_
    refine cm_getR (q := 17) dX9_kindAt_14 flX9_11 rfl (by assumption) (by assumption) rfl ?_
    refine cm_alenI (q := 18) dX9_kindAt_17 (by assumption) (by rw [t6] : nI (S.ln (t + 1)) = nI 401) rfl ?_
    refine am_icmp_ge (tgt := 30) (q := 21) dX9_kindAt_18 rfl rfl (fun hz => absurd hz (nI_ge (by omega) (by decide))) (fun _ => ?_)
    refine am_aload_n (q := 22) dX9_kindAt_21 rfl rfl ?_
    refine cm_getR (q := 25) dX9_kindAt_22 flX9_11 rfl (by assumption) (by assumption) rfl ?_
    refine am_iload_n (q := 26) dX9_kindAt_25 rfl rfl ?_
    refine cm_iaload (q := 27) dX9_kindAt_26 (by assumption) (by rw [t6]; exact vp_in_nI (by omega) (by decide)) rfl ?_
    refine am_goto (tgt := 33) dX9_kindAt_27 rfl ?_
    exact am_iret dX9_kindAt_33 rfl rfl ⟨_, rfl, by rw [nI_clamp (by omega)], rfl⟩
  · rw [if_neg h]
    refine am_icmp_ge (tgt := 30) (q := 12) dX9_kindAt_9 rfl rfl (fun _ => ?_) (fun hz => absurd (Int32.not_lt.mp fun q => h ((nI_ltI (by omega) (by omega)).mp q)) hz)
    refine am_sipush (q := 33) (v := 257) dX9_kindAt_30 kc_s257 rfl ?_
    exact am_iret dX9_kindAt_33 rfl rfl ⟨_, rfl, rfl, rfl⟩
theorem k_X9_startAt {i : Nat} (ht : TC S R t) (hT : AbT I J t T) (hi : i ≤ T.n) : Fn G mX9_startAt 0 [vR t, vI (nI i)] (mw S I J R) (fun rr M1 => rr = some (vI (T.s i)) ∧ M1 = mw S I J R) := by
  obtain ⟨t0, t1, t2, t3, t4, t5, t6, t7, t8, t9, t10, _⟩ := ht
  obtain ⟨a1, a2, a3, a4, a5⟩ := hT
  refine am_iload_n (q := 1) dX9_startAt_0 rfl rfl ?_
  refine am_if_lt (tgt := 30) (q := 4) dX9_startAt_1 rfl rfl (fun hz => absurd hz (nI_pos (by omega))) (fun _ => ?_)
  refine am_iload_n (q := 5) dX9_startAt_4 rfl rfl ?_
  refine am_aload_n (q := 6) dX9_startAt_5 rfl rfl ?_
  refine cm_getI (q := 9) dX9_startAt_6 flX9_31 rfl (by assumption) rfl ?_
  rw [a1]
  unfold Toks.s
  by_cases h : i < T.n
  · rw [if_pos h, ← a4 i h]
    refine am_icmp_ge (tgt := 30) (q := 12) dX9_startAt_9 rfl rfl (fun hz => absurd hz (nI_ge (by omega) (by omega))) (fun _ => ?_)
    refine am_iload_n (q := 13) dX9_startAt_12 rfl rfl ?_
    refine am_aload_n (q := 14) dX9_startAt_13 rfl rfl ?_
    refine cm_getR (q := 17) dX9_startAt_14 flX9_15 rfl (by assumption) (by assumption) rfl ?_
    refine cm_alenI (q := 18) dX9_startAt_17 (by assumption) (by rw [t8] : nI (S.ln (t + 2)) = nI 401) rfl ?_
    refine am_icmp_ge (tgt := 30) (q := 21) dX9_startAt_18 rfl rfl (fun hz => absurd hz (nI_ge (by omega) (by decide))) (fun _ => ?_)
    refine am_aload_n (q := 22) dX9_startAt_21 rfl rfl ?_
    refine cm_getR (q := 25) dX9_startAt_22 flX9_15 rfl (by assumption) (by assumption) rfl ?_
    refine am_iload_n (q := 26) dX9_startAt_25 rfl rfl ?_
    refine cm_iaload (q := 27) dX9_startAt_26 (by assumption) (by rw [t8]; exact vp_in_nI (by omega) (by decide)) rfl ?_
    refine am_goto (tgt := 31) dX9_startAt_27 rfl ?_
    exact am_iret dX9_startAt_31 rfl rfl ⟨_, rfl, by rw [nI_clamp (by omega)], rfl⟩
  · rw [if_neg h]
    refine am_icmp_ge (tgt := 30) (q := 12) dX9_startAt_9 rfl rfl (fun _ => ?_) (fun hz => absurd (Int32.not_lt.mp fun q => h ((nI_ltI (by omega) (by omega)).mp q)) hz)
    refine am_iconst (q := 31) (v := 0) dX9_startAt_30 kc_i0 rfl ?_
    exact am_iret dX9_startAt_31 rfl rfl ⟨_, rfl, rfl, rfl⟩
theorem k_X9_valueAt {i : Nat} (ht : TC S R t) (hT : AbT I J t T) (hi : i ≤ T.n) : Fn G mX9_valueAt 0 [vR t, vI (nI i)] (mw S I J R) (fun rr M1 => rr = some (vJ (T.v i)) ∧ M1 = mw S I J R) := by
  obtain ⟨t0, t1, t2, t3, t4, t5, t6, t7, t8, t9, t10, _⟩ := ht
  obtain ⟨a1, a2, a3, a4, a5⟩ := hT
  refine am_iload_n (q := 1) dX9_valueAt_0 rfl rfl ?_
  refine am_if_lt (tgt := 30) (q := 4) dX9_valueAt_1 rfl rfl (fun hz => absurd hz (nI_pos (by omega))) (fun _ => ?_)
  refine am_iload_n (q := 5) dX9_valueAt_4 rfl rfl ?_
  refine am_aload_n (q := 6) dX9_valueAt_5 rfl rfl ?_
  refine cm_getI (q := 9) dX9_valueAt_6 flX9_31 rfl (by assumption) rfl ?_
  rw [a1]
  unfold Toks.v
  by_cases h : i < T.n
  · rw [if_pos h, ← a5 i h]
    refine am_icmp_ge (tgt := 30) (q := 12) dX9_valueAt_9 rfl rfl (fun hz => absurd hz (nI_ge (by omega) (by omega))) (fun _ => ?_)
    refine am_iload_n (q := 13) dX9_valueAt_12 rfl rfl ?_
    refine am_aload_n (q := 14) dX9_valueAt_13 rfl rfl ?_
    refine cm_getR (q := 17) dX9_valueAt_14 flX9_18 rfl (by assumption) (by assumption) rfl ?_
    refine cm_alenJ (q := 18) dX9_valueAt_17 (by assumption) (by rw [t10] : nI (S.ln (t + 3)) = nI 401) rfl ?_
    refine am_icmp_ge (tgt := 30) (q := 21) dX9_valueAt_18 rfl rfl (fun hz => absurd hz (nI_ge (by omega) (by decide))) (fun _ => ?_)
    refine am_aload_n (q := 22) dX9_valueAt_21 rfl rfl ?_
    refine cm_getR (q := 25) dX9_valueAt_22 flX9_18 rfl (by assumption) (by assumption) rfl ?_
    refine am_iload_n (q := 26) dX9_valueAt_25 rfl rfl ?_
    refine cm_laload (q := 27) dX9_valueAt_26 (by assumption) (by rw [t10]; exact vp_in_nI (by omega) (by decide)) rfl ?_
    refine am_goto (tgt := 31) dX9_valueAt_27 rfl ?_
    exact am_lret dX9_valueAt_31 rfl ⟨_, rfl, by rw [nI_clamp (by omega)], rfl⟩
  · rw [if_neg h]
    refine am_icmp_ge (tgt := 30) (q := 12) dX9_valueAt_9 rfl rfl (fun _ => ?_) (fun hz => absurd (Int32.not_lt.mp fun q => h ((nI_ltI (by omega) (by omega)).mp q)) hz)
    refine am_lconst (q := 31) (v := 0) dX9_valueAt_30 rfl rfl ?_
    exact am_lret dX9_valueAt_31 rfl ⟨_, rfl, rfl, rfl⟩
theorem k_X7_kind (hG : okG G) (ht : TC S R t) (hT : AbT I J t T) (hx : S.K x = 8) (hr : R x 0 = some t) (hs : AbP I x T s) : Fn G mX7_kind 1 [vR x] (mw S I J R) (fun rr M1 => rr = some (vI (pK T s)) ∧ M1 = mw S I J R) := by
  have kt := ht.1
  obtain ⟨s1, s2, s3, s4⟩ := hs
  refine am_aload_n (q := 1) dX7_kind_0 rfl rfl ?_
  refine cm_getI (q := 4) dX7_kind_1 flX7_26 rfl (by assumption) rfl ?_
  rw [s2]
  unfold pK
  refine am_iconst (q := 5) (v := 1) dX7_kind_4 kc_i1 rfl ?_
  refine am_icmp_ne (tgt := 14) (q := 8) dX7_kind_5 rfl rfl (fun hc => ?_) (fun hc => ?_)
  · rw [if_neg hc]
    refine am_aload_n (q := 15) dX7_kind_14 rfl rfl ?_
    refine cm_getR (q := 18) dX7_kind_15 flX7_9 rfl (by assumption) (by assumption) rfl ?_
    refine am_aload_n (q := 19) dX7_kind_18 rfl rfl ?_
    refine cm_getI (q := 22) dX7_kind_19 flX7_23 rfl (by assumption) rfl ?_
    rw [s1]
    refine cm_call0 (q := 25) (As := [_]) hG dX7_kind_22 mlX7_179 rfl (by assumption) ⟨_, _, rfl⟩ (Nat.le_of_ble_eq_true rfl) (Nat.le_of_ble_eq_true rfl) (Nat.le_of_ble_eq_true rfl) (Nat.le_of_ble_eq_true rfl) (k_X9_kindAt ht hT s4) rfl ?_
    rintro _ _ ⟨rfl, rfl⟩
    exact am_iret dX7_kind_25 rfl rfl ⟨_, rfl, rfl, rfl⟩
  · rw [if_pos hc]
    refine am_sipush (q := 11) (v := 257) dX7_kind_8 kc_s257 rfl ?_
    refine am_goto (tgt := 25) dX7_kind_11 rfl ?_
    exact am_iret dX7_kind_25 rfl rfl ⟨_, rfl, rfl, rfl⟩
theorem k_X7_value (hG : okG G) (ht : TC S R t) (hT : AbT I J t T) (hx : S.K x = 8) (hr : R x 0 = some t) (hs : AbP I x T s) : Fn G mX7_value 1 [vR x] (mw S I J R) (fun rr M1 => rr = some (vJ (pV T s)) ∧ M1 = mw S I J R) := by
  have kt := ht.1
  obtain ⟨s1, s2, s3, s4⟩ := hs
  refine am_aload_n (q := 1) dX7_value_0 rfl rfl ?_
  refine cm_getI (q := 4) dX7_value_1 flX7_26 rfl (by assumption) rfl ?_
  rw [s2]
  unfold pV
  refine am_iconst (q := 5) (v := 1) dX7_value_4 kc_i1 rfl ?_
  refine am_icmp_ne (tgt := 12) (q := 8) dX7_value_5 rfl rfl (fun hc => ?_) (fun hc => ?_)
  · rw [if_neg hc]
    refine am_aload_n (q := 13) dX7_value_12 rfl rfl ?_
    refine cm_getR (q := 16) dX7_value_13 flX7_9 rfl (by assumption) (by assumption) rfl ?_
    refine am_aload_n (q := 17) dX7_value_16 rfl rfl ?_
    refine cm_getI (q := 20) dX7_value_17 flX7_23 rfl (by assumption) rfl ?_
    rw [s1]
    refine cm_call0 (q := 23) (As := [_]) hG dX7_value_20 mlX7_182 rfl (by assumption) ⟨_, _, rfl⟩ (Nat.le_of_ble_eq_true rfl) (Nat.le_of_ble_eq_true rfl) (Nat.le_of_ble_eq_true rfl) (Nat.le_of_ble_eq_true rfl) (k_X9_valueAt ht hT s4) rfl ?_
    rintro _ _ ⟨rfl, rfl⟩
    exact am_lret dX7_value_23 rfl ⟨_, rfl, rfl, rfl⟩
  · rw [if_pos hc]
    refine am_lconst (q := 9) (v := 0) dX7_value_8 rfl rfl ?_
    refine am_goto (tgt := 23) dX7_value_9 rfl ?_
    exact am_lret dX7_value_23 rfl ⟨_, rfl, rfl, rfl⟩
theorem k_X7_refuse (hG : okG G) (ht : TC S R t) (hT : AbT I J t T) (hx : S.K x = 8) (hr : R x 0 = some t) (hxt : x < t ∨ t + 4 < x) (hs : AbP I x T s) : Fn G mX7_refuse 1 [vR x] (mw S I J R) (fun rr M1 => rr = none ∧ ∃ I1, M1 = mw S I1 J R ∧ AbP I1 x T (pRef T s) ∧ OffR x I I1) := by
  have kt := ht.1
  have hs0 := hs
  obtain ⟨s1, s2, s3, s4⟩ := hs
  refine am_aload_n (q := 1) dX7_refuse_0 rfl rfl ?_
  refine cm_getI (q := 4) dX7_refuse_1 flX7_26 rfl (by assumption) rfl ?_
  rw [s2]
  unfold pRef
  refine am_iconst (q := 5) (v := 1) dX7_refuse_4 kc_i1 rfl ?_
  refine am_icmp_eq (tgt := 28) (q := 8) dX7_refuse_5 rfl rfl (fun hc => ?_) (fun hc => ?_)
  · rw [if_pos hc]
    exact am_ret dX7_refuse_28 rfl ⟨_, rfl, rfl, I, rfl, hs0, OffR.rf⟩
  · rw [if_neg hc]
    have ho : OffR x I (up2 I x 3 1) := fun y j q => up2_a q
    refine am_aload_n (q := 9) dX7_refuse_8 rfl rfl ?_
    refine am_iconst (q := 10) (v := 1) dX7_refuse_9 kc_i1 rfl ?_
    refine cm_putI (q := 13) dX7_refuse_10 flX7_26 rfl (Or.inl rfl) (Or.inl rfl) (by assumption) rfl ?_
    refine am_aload_n (q := 14) dX7_refuse_13 rfl rfl ?_
    refine am_aload_n (q := 15) dX7_refuse_14 rfl rfl ?_
    refine cm_getR (q := 18) dX7_refuse_15 flX7_9 rfl (by assumption) (by assumption) rfl ?_
    refine am_aload_n (q := 19) dX7_refuse_18 rfl rfl ?_
    refine cm_getI (q := 22) dX7_refuse_19 flX7_23 rfl (by assumption) rfl ?_
    rw [up2_j (by decide), s1]
    refine cm_call0 (q := 25) (As := [_]) hG dX7_refuse_22 mlX7_186 rfl (by assumption) ⟨_, _, rfl⟩ (Nat.le_of_ble_eq_true rfl) (Nat.le_of_ble_eq_true rfl) (Nat.le_of_ble_eq_true rfl) (Nat.le_of_ble_eq_true rfl) (k_X9_startAt ht (hT.off ho hxt) s4) rfl ?_
    rintro _ _ ⟨rfl, rfl⟩
    refine cm_putI (q := 28) dX7_refuse_25 flX7_19 rfl (Or.inl rfl) (Or.inl rfl) (by assumption) rfl ?_
    exact am_ret dX7_refuse_28 rfl ⟨_, rfl, rfl, _, rfl, ⟨by rw [up2_j (by decide), up2_j (by decide)]; exact s1, by rw [up2_j (by decide), up2_s], up2_s, s4⟩, fun y j q => by rw [up2_a q, up2_a q]⟩
theorem k_X7_blame {n : Int32} (hG : okG G) (ht : TC S R t) (hT : AbT I J t T) (hx : S.K x = 8) (hr : R x 0 = some t) (hxt : x < t ∨ t + 4 < x) (hs : AbP I x T s) : Fn G mX7_blame 1 [vR x, vI n] (mw S I J R) (fun rr M1 => rr = none ∧ ∃ I1, M1 = mw S I1 J R ∧ AbP I1 x T (pBl T n s) ∧ OffR x I I1) := by
  have kt := ht.1
  have hs0 := hs
  obtain ⟨s1, s2, s3, s4⟩ := hs
  refine am_aload_n (q := 1) dX7_blame_0 rfl rfl ?_
  refine cm_getI (q := 4) dX7_blame_1 flX7_26 rfl (by assumption) rfl ?_
  rw [s2]
  unfold pBl
  refine am_if_ne (tgt := 27) (q := 7) dX7_blame_4 rfl rfl (fun hc => ?_) (fun hc => ?_)
  · rw [if_neg hc]
    exact am_ret dX7_blame_27 rfl ⟨_, rfl, rfl, I, rfl, hs0, OffR.rf⟩
  · rw [if_pos hc]
    have ho : OffR x I (up2 I x 3 n) := fun y j q => up2_a q
    refine am_aload_n (q := 8) dX7_blame_7 rfl rfl ?_
    refine am_iload_n (q := 9) dX7_blame_8 rfl rfl ?_
    refine cm_putI (q := 12) dX7_blame_9 flX7_26 rfl (Or.inl rfl) (Or.inl rfl) (by assumption) rfl ?_
    refine am_aload_n (q := 13) dX7_blame_12 rfl rfl ?_
    refine am_aload_n (q := 14) dX7_blame_13 rfl rfl ?_
    refine cm_getR (q := 17) dX7_blame_14 flX7_9 rfl (by assumption) (by assumption) rfl ?_
    refine am_aload_n (q := 18) dX7_blame_17 rfl rfl ?_
    refine cm_getI (q := 21) dX7_blame_18 flX7_23 rfl (by assumption) rfl ?_
    rw [up2_j (by decide), s1]
    refine cm_call0 (q := 24) (As := [_]) hG dX7_blame_21 mlX7_186 rfl (by assumption) ⟨_, _, rfl⟩ (Nat.le_of_ble_eq_true rfl) (Nat.le_of_ble_eq_true rfl) (Nat.le_of_ble_eq_true rfl) (Nat.le_of_ble_eq_true rfl) (k_X9_startAt ht (hT.off ho hxt) s4) rfl ?_
    rintro _ _ ⟨rfl, rfl⟩
    refine cm_putI (q := 27) dX7_blame_24 flX7_19 rfl (Or.inl rfl) (Or.inl rfl) (by assumption) rfl ?_
    exact am_ret dX7_blame_27 rfl ⟨_, rfl, rfl, _, rfl, ⟨by rw [up2_j (by decide), up2_j (by decide)]; exact s1, by rw [up2_j (by decide), up2_s], up2_s, s4⟩, fun y j q => by rw [up2_a q, up2_a q]⟩
theorem k_X7_expect {k : Int32} (hG : okG G) (ht : TC S R t) (hT : AbT I J t T) (hx : S.K x = 8) (hr : R x 0 = some t) (hxt : x < t ∨ t + 4 < x) (hs : AbP I x T s) (hk : k ≠ 257) : Fn G mX7_expect 2 [vR x, vI k] (mw S I J R) (fun rr M1 => rr = none ∧ ∃ I1, M1 = mw S I1 J R ∧ AbP I1 x T (pEx T k s) ∧ OffR x I I1) := by
  have kt := ht.1
  have hn : T.n ≤ 401 := hT.2.1
  obtain ⟨s1, s2, s3, s4⟩ := id hs
  unfold pEx
  refine am_aload_n (q := 1) dX7_expect_0 rfl rfl ?_
  refine cm_call0 (q := 4) (As := []) hG dX7_expect_1 mlX7_31 rfl (by assumption) ⟨_, _, rfl⟩ (Nat.le_of_ble_eq_true rfl) (Nat.le_of_ble_eq_true rfl) (Nat.le_of_ble_eq_true rfl) (Nat.le_of_ble_eq_true rfl) (k_X7_kind hG ht hT hx hr hs) rfl ?_
  rintro _ _ ⟨rfl, rfl⟩
  refine am_iload_n (q := 5) dX7_expect_4 rfl rfl ?_
  refine am_icmp_ne (tgt := 21) (q := 8) dX7_expect_5 rfl rfl (fun hc => ?_) (fun hc => ?_)
  · rw [if_neg hc]
    refine am_aload_n (q := 22) dX7_expect_21 rfl rfl ?_
    refine cm_call0 (q := 25) (As := []) hG dX7_expect_22 mlX7_50 rfl (by assumption) ⟨_, _, rfl⟩ (Nat.le_of_ble_eq_true rfl) (Nat.le_of_ble_eq_true rfl) (Nat.le_of_ble_eq_true rfl) (Nat.le_of_ble_eq_true rfl) (k_X7_refuse hG ht hT hx hr hxt hs) rfl ?_
    rintro _ _ ⟨rfl, I1, rfl, hp, ho⟩
    exact am_ret dX7_expect_25 rfl ⟨_, rfl, rfl, I1, rfl, hp, ho⟩
  · rw [if_pos hc]
    have hlt : s.1 < T.n := by
      unfold pK Toks.k at hc
      split at hc
      · exact absurd hc.symm hk
      · split at hc
        · assumption
        · exact absurd hc.symm hk
    refine am_aload_n (q := 9) dX7_expect_8 rfl rfl ?_
    refine am_dup (q := 10) dX7_expect_9 rfl rfl ?_
    refine cm_getI (q := 13) dX7_expect_10 flX7_23 rfl (by assumption) rfl ?_
    rw [s1]
    refine am_iconst (q := 14) (v := 1) dX7_expect_13 kc_i1 rfl ?_
    refine am_iadd (q := 15) dX7_expect_14 rfl ?_
    refine cm_putI (q := 18) dX7_expect_15 flX7_23 rfl (Or.inl rfl) (Or.inl rfl) (by assumption) rfl ?_
    refine am_goto (tgt := 25) dX7_expect_18 rfl ?_
    exact am_ret dX7_expect_25 rfl ⟨_, rfl, rfl, _, rfl, ⟨by rw [nI_1]; exact up2_s, by rw [up2_j (by decide)]; exact s2, by rw [up2_j (by decide)]; exact s3, hlt⟩, fun y j q => up2_a q⟩
theorem k_X7_goesDeeper {k : Int32} {d : Nat} (hG : okG G) (ht : TC S R t) (hT : AbT I J t T) (hx : S.K x = 8) (hr : R x 0 = some t) (hxt : x < t ∨ t + 4 < x) (hs : AbP I x T s) (hk : k ≠ 257) (hd : d < 1000) : Fn G mX7_goesDeeper 3 [vR x, vI k, vI (nI d)] (mw S I J R) (fun rr M1 => rr = some (vI (bI ((pDp T k d s).2.1 ≠ 1))) ∧ ∃ I1, M1 = mw S I1 J R ∧ AbP I1 x T (pDp T k d s) ∧ OffR x I I1) := by
  have fin : ∀ (I1 : Nat → Nat → Int32) (s1 : PS), AbP I1 x T s1 → OffR x I I1 → MW G mX7_goesDeeper 3 18 [some (vR x), some (vI k), some (vI (nI d))] [] (mw S I1 J R) (fun f M1 => ∃ r, f = .inl r ∧ (r = some (vI (bI (s1.2.1 ≠ 1))) ∧ ∃ I1, M1 = mw S I1 J R ∧ AbP I1 x T s1 ∧ OffR x I I1)) := by
    intro I1 s1 h1 h2
    have h3 := h1.2.1
    refine am_aload_n (q := 19) dX7_goesDeeper_18 rfl rfl ?_
    refine cm_getI (q := 22) dX7_goesDeeper_19 flX7_26 rfl (by assumption) rfl ?_
    rw [h3]
    refine am_iconst (q := 23) (v := 1) dX7_goesDeeper_22 kc_i1 rfl ?_
    refine am_icmp_eq (tgt := 30) (q := 26) dX7_goesDeeper_23 rfl rfl (fun hc => ?_) (fun hc => ?_)
    · refine am_iconst (q := 31) (v := 0) dX7_goesDeeper_30 kc_i0 rfl ?_
      exact am_iret dX7_goesDeeper_31 rfl rfl ⟨_, rfl, by rw [bI_f (fun q => q hc)], I1, rfl, h1, h2⟩
    · refine am_iconst (q := 27) (v := 1) dX7_goesDeeper_26 kc_i1 rfl ?_
      refine am_goto (tgt := 31) dX7_goesDeeper_27 rfl ?_
      exact am_iret dX7_goesDeeper_31 rfl rfl ⟨_, rfl, by rw [bI_t hc], I1, rfl, h1, h2⟩
  unfold pDp
  by_cases h : d < 8
  · rw [if_pos h]
    refine am_iload_n (q := 1) dX7_goesDeeper_0 rfl rfl ?_
    refine am_bipush (q := 3) (v := 8) dX7_goesDeeper_1 kc_b8 rfl ?_
    refine am_icmp_ge (tgt := 14) (q := 6) dX7_goesDeeper_3 rfl rfl (fun hz => absurd hz (nI_ge (b := 8) (by omega) (by decide))) (fun _ => ?_)
    refine am_aload_n (q := 7) dX7_goesDeeper_6 rfl rfl ?_
    refine am_iload_n (q := 8) dX7_goesDeeper_7 rfl rfl ?_
    refine cm_call0 (q := 11) (As := [_]) hG dX7_goesDeeper_8 mlX7_53 rfl (by assumption) ⟨_, _, rfl⟩ (Nat.le_of_ble_eq_true rfl) (Nat.le_of_ble_eq_true rfl) (Nat.le_of_ble_eq_true rfl) (Nat.le_of_ble_eq_true rfl) (k_X7_expect hG ht hT hx hr hxt hs hk) rfl ?_
    rintro _ _ ⟨rfl, I1, rfl, hp, ho⟩
    refine am_goto (tgt := 18) dX7_goesDeeper_11 rfl ?_
    exact fin I1 _ hp ho
  · rw [if_neg h]
    refine am_iload_n (q := 1) dX7_goesDeeper_0 rfl rfl ?_
    refine am_bipush (q := 3) (v := 8) dX7_goesDeeper_1 kc_b8 rfl ?_
    refine am_icmp_ge (tgt := 14) (q := 6) dX7_goesDeeper_3 rfl rfl (fun _ => ?_) (fun hz => absurd (Int32.not_lt.mp fun q => h ((nI_ltI (b := 8) (by omega) (by decide)).mp q)) hz)
    refine am_aload_n (q := 15) dX7_goesDeeper_14 rfl rfl ?_
    refine cm_call0 (q := 18) (As := []) hG dX7_goesDeeper_15 mlX7_50 rfl (by assumption) ⟨_, _, rfl⟩ (Nat.le_of_ble_eq_true rfl) (Nat.le_of_ble_eq_true rfl) (Nat.le_of_ble_eq_true rfl) (Nat.le_of_ble_eq_true rfl) (k_X7_refuse hG ht hT hx hr hxt hs) rfl ?_
    rintro _ _ ⟨rfl, I1, rfl, hp, ho⟩
    exact fin I1 _ hp ho
end Rd

