theorem kc_i5 : Int32.ofInt 5 = 5 := by decide +kernel
theorem kc_s258 : (Int16.ofInt 258).toInt32 = 258 := by decide +kernel
theorem dX7_expectNewName_0 : decode cX7_expectNewName 0 = .ok (.aload_n 0, 1) := by decide +kernel
theorem dX7_expectNewName_1 : decode cX7_expectNewName 1 = .ok (.invokevirtual 31, 3) := by decide +kernel
theorem dX7_expectNewName_4 : decode cX7_expectNewName 4 = .ok (.sipush 258, 3) := by decide +kernel
theorem dX7_expectNewName_7 : decode cX7_expectNewName 7 = .ok (.if_icmp .ne 12, 3) := by decide +kernel
theorem dX7_expectNewName_10 : decode cX7_expectNewName 10 = .ok (.iload_n 1, 1) := by decide +kernel
theorem dX7_expectNewName_11 : decode cX7_expectNewName 11 = .ok (.ifCond .eq 8, 3) := by decide +kernel
theorem dX7_expectNewName_14 : decode cX7_expectNewName 14 = .ok (.aload_n 0, 1) := by decide +kernel
theorem dX7_expectNewName_15 : decode cX7_expectNewName 15 = .ok (.iconst 2, 1) := by decide +kernel
theorem dX7_expectNewName_16 : decode cX7_expectNewName 16 = .ok (.invokevirtual 87, 3) := by decide +kernel
theorem dX7_expectNewName_19 : decode cX7_expectNewName 19 = .ok (.aload_n 0, 1) := by decide +kernel
theorem dX7_expectNewName_20 : decode cX7_expectNewName 20 = .ok (.invokevirtual 31, 3) := by decide +kernel
theorem dX7_expectNewName_23 : decode cX7_expectNewName 23 = .ok (.sipush 258, 3) := by decide +kernel
theorem dX7_expectNewName_26 : decode cX7_expectNewName 26 = .ok (.if_icmp .ne 12, 3) := by decide +kernel
theorem dX7_expectNewName_29 : decode cX7_expectNewName 29 = .ok (.iload_n 2, 1) := by decide +kernel
theorem dX7_expectNewName_30 : decode cX7_expectNewName 30 = .ok (.ifCond .eq 8, 3) := by decide +kernel
theorem dX7_expectNewName_33 : decode cX7_expectNewName 33 = .ok (.aload_n 0, 1) := by decide +kernel
theorem dX7_expectNewName_34 : decode cX7_expectNewName 34 = .ok (.iconst 4, 1) := by decide +kernel
theorem dX7_expectNewName_35 : decode cX7_expectNewName 35 = .ok (.invokevirtual 87, 3) := by decide +kernel
theorem dX7_expectNewName_38 : decode cX7_expectNewName 38 = .ok (.aload_n 0, 1) := by decide +kernel
theorem dX7_expectNewName_39 : decode cX7_expectNewName 39 = .ok (.sipush 258, 3) := by decide +kernel
theorem dX7_expectNewName_42 : decode cX7_expectNewName 42 = .ok (.invokevirtual 53, 3) := by decide +kernel
theorem dX7_expectNewName_45 : decode cX7_expectNewName 45 = .ok (.return_, 1) := by decide +kernel
theorem dX7_knownName_0 : decode cX7_knownName 0 = .ok (.aload_n 0, 1) := by decide +kernel
theorem dX7_knownName_1 : decode cX7_knownName 1 = .ok (.invokevirtual 31, 3) := by decide +kernel
theorem dX7_knownName_4 : decode cX7_knownName 4 = .ok (.sipush 258, 3) := by decide +kernel
theorem dX7_knownName_7 : decode cX7_knownName 7 = .ok (.if_icmp .ne 12, 3) := by decide +kernel
theorem dX7_knownName_10 : decode cX7_knownName 10 = .ok (.iload_n 1, 1) := by decide +kernel
theorem dX7_knownName_11 : decode cX7_knownName 11 = .ok (.ifCond .ge 8, 3) := by decide +kernel
theorem dX7_knownName_14 : decode cX7_knownName 14 = .ok (.aload_n 0, 1) := by decide +kernel
theorem dX7_knownName_15 : decode cX7_knownName 15 = .ok (.iconst 3, 1) := by decide +kernel
theorem dX7_knownName_16 : decode cX7_knownName 16 = .ok (.invokevirtual 87, 3) := by decide +kernel
theorem dX7_knownName_19 : decode cX7_knownName 19 = .ok (.aload_n 0, 1) := by decide +kernel
theorem dX7_knownName_20 : decode cX7_knownName 20 = .ok (.sipush 258, 3) := by decide +kernel
theorem dX7_knownName_23 : decode cX7_knownName 23 = .ok (.invokevirtual 53, 3) := by decide +kernel
theorem dX7_knownName_26 : decode cX7_knownName 26 = .ok (.iload_n 1, 1) := by decide +kernel
theorem dX7_knownName_27 : decode cX7_knownName 27 = .ok (.ireturn, 1) := by decide +kernel
theorem dX7_numberBehind_0 : decode cX7_numberBehind 0 = .ok (.aload_n 0, 1) := by decide +kernel
theorem dX7_numberBehind_1 : decode cX7_numberBehind 1 = .ok (.iload_n 1, 1) := by decide +kernel
theorem dX7_numberBehind_2 : decode cX7_numberBehind 2 = .ok (.invokevirtual 53, 3) := by decide +kernel
theorem dX7_numberBehind_5 : decode cX7_numberBehind 5 = .ok (.aload_n 0, 1) := by decide +kernel
theorem dX7_numberBehind_6 : decode cX7_numberBehind 6 = .ok (.invokevirtual 57, 3) := by decide +kernel
theorem dX7_numberBehind_9 : decode cX7_numberBehind 9 = .ok (.lstore 4, 2) := by decide +kernel
theorem dX7_numberBehind_11 : decode cX7_numberBehind 11 = .ok (.aload_n 0, 1) := by decide +kernel
theorem dX7_numberBehind_12 : decode cX7_numberBehind 12 = .ok (.invokevirtual 31, 3) := by decide +kernel
theorem dX7_numberBehind_15 : decode cX7_numberBehind 15 = .ok (.sipush 259, 3) := by decide +kernel
theorem dX7_numberBehind_18 : decode cX7_numberBehind 18 = .ok (.if_icmp .ne 24, 3) := by decide +kernel
theorem dX7_numberBehind_21 : decode cX7_numberBehind 21 = .ok (.lload 4, 2) := by decide +kernel
theorem dX7_numberBehind_23 : decode cX7_numberBehind 23 = .ok (.iload_n 2, 1) := by decide +kernel
theorem dX7_numberBehind_24 : decode cX7_numberBehind 24 = .ok (.i2l, 1) := by decide +kernel
theorem dX7_numberBehind_25 : decode cX7_numberBehind 25 = .ok (.lcmp, 1) := by decide +kernel
theorem dX7_numberBehind_26 : decode cX7_numberBehind 26 = .ok (.ifCond .lt 11, 3) := by decide +kernel
theorem dX7_numberBehind_29 : decode cX7_numberBehind 29 = .ok (.lload 4, 2) := by decide +kernel
theorem dX7_numberBehind_31 : decode cX7_numberBehind 31 = .ok (.iload_n 3, 1) := by decide +kernel
theorem dX7_numberBehind_32 : decode cX7_numberBehind 32 = .ok (.i2l, 1) := by decide +kernel
theorem dX7_numberBehind_33 : decode cX7_numberBehind 33 = .ok (.lcmp, 1) := by decide +kernel
theorem dX7_numberBehind_34 : decode cX7_numberBehind 34 = .ok (.ifCond .le 8, 3) := by decide +kernel
theorem dX7_numberBehind_37 : decode cX7_numberBehind 37 = .ok (.aload_n 0, 1) := by decide +kernel
theorem dX7_numberBehind_38 : decode cX7_numberBehind 38 = .ok (.iconst 5, 1) := by decide +kernel
theorem dX7_numberBehind_39 : decode cX7_numberBehind 39 = .ok (.invokevirtual 87, 3) := by decide +kernel
theorem dX7_numberBehind_42 : decode cX7_numberBehind 42 = .ok (.aload_n 0, 1) := by decide +kernel
theorem dX7_numberBehind_43 : decode cX7_numberBehind 43 = .ok (.sipush 259, 3) := by decide +kernel
theorem dX7_numberBehind_46 : decode cX7_numberBehind 46 = .ok (.invokevirtual 53, 3) := by decide +kernel
theorem dX7_numberBehind_49 : decode cX7_numberBehind 49 = .ok (.lload 4, 2) := by decide +kernel
theorem dX7_numberBehind_51 : decode cX7_numberBehind 51 = .ok (.l2i, 1) := by decide +kernel
theorem dX7_numberBehind_52 : decode cX7_numberBehind 52 = .ok (.ireturn, 1) := by decide +kernel
/-! the reader's names and numbers -/
def RD (S : AMem) (R : Nat → Nat → Option Nat) (x t : Nat) : Prop := TC S R t ∧ S.K x = 8 ∧ R x 0 = some t ∧ (x < t ∨ t + 4 < x)
def pKn (T : Toks) (i : Int32) (s : PS) : PS := pEx T 258 (if pK T s = 258 ∧ i < 0 then pBl T 3 s else s)
def pN1 (T : Toks) (a n : Int32) (s : PS) : PS := if pK T s = 258 ∧ a ≠ 0 then pBl T n s else s
def pNew (T : Toks) (a b : Int32) (s : PS) : PS := pEx T 258 (pN1 T b 4 (pN1 T a 2 s))
def pNum (T : Toks) (kw lo hi : Int32) (s : PS) : PS := pEx T 259 (if pK T (pEx T kw s) = 259 ∧ (pV T (pEx T kw s) < lo.toInt64 ∨ hi.toInt64 < pV T (pEx T kw s)) then pBl T 5 (pEx T kw s) else pEx T kw s)
def pT1 (T : Toks) (v : Int64) (s : PS) : PS := if pK T s = 259 ∧ 99 < v then pBl T 5 s else s
def pT2 (T : Toks) (v : Int64) (f : Int32) (s : PS) : PS := if pK T s = 259 ∧ v < f.toInt64 then pBl T 6 s else s
def pTo (T : Toks) (f : Int32) (s : PS) : PS := pEx T 259 (pT2 T (pV T (pEx T 307 s)) f (pT1 T (pV T (pEx T 307 s)) (pEx T 307 s)))
section Nm
variable {G : Gp} {S : AMem} {I : Nat → Nat → Int32} {J : Nat → Nat → Int64} {R : Nat → Nat → Option Nat} {t x c : Nat} {T : Toks} {s : PS}
theorem kx_kind (hG : okG G) (h : RD S R x t) (hT : AbT I J t T) (hs : AbP I x T s) : Fn G mX7_kind 1 [vR x] (mw S I J R) (fun rr M1 => rr = some (vI (pK T s)) ∧ M1 = mw S I J R) := k_X7_kind hG h.1 hT h.2.1 h.2.2.1 hs
theorem kx_value (hG : okG G) (h : RD S R x t) (hT : AbT I J t T) (hs : AbP I x T s) : Fn G mX7_value 1 [vR x] (mw S I J R) (fun rr M1 => rr = some (vJ (pV T s)) ∧ M1 = mw S I J R) := k_X7_value hG h.1 hT h.2.1 h.2.2.1 hs
theorem kx_expect {k : Int32} (hG : okG G) (h : RD S R x t) (hT : AbT I J t T) (hs : AbP I x T s) (hk : k ≠ 257) : Fn G mX7_expect 2 [vR x, vI k] (mw S I J R) (fun rr M1 => rr = none ∧ ∃ I1, M1 = mw S I1 J R ∧ AbP I1 x T (pEx T k s) ∧ OffR x I I1) := k_X7_expect hG h.1 hT h.2.1 h.2.2.1 h.2.2.2 hs hk
theorem kx_blame {n : Int32} (hG : okG G) (h : RD S R x t) (hT : AbT I J t T) (hs : AbP I x T s) : Fn G mX7_blame 1 [vR x, vI n] (mw S I J R) (fun rr M1 => rr = none ∧ ∃ I1, M1 = mw S I1 J R ∧ AbP I1 x T (pBl T n s) ∧ OffR x I I1) := k_X7_blame hG h.1 hT h.2.1 h.2.2.1 h.2.2.2 hs
theorem k_X7_knownName {i : Int32} (hG : okG G) (h : RD S R x t) (hT : AbT I J t T) (hs : AbP I x T s) : Fn G mX7_knownName 3 [vR x, vI i] (mw S I J R) (fun rr M1 => rr = some (vI i) ∧ ∃ I1, M1 = mw S I1 J R ∧ AbP I1 x T (pKn T i s) ∧ OffR x I I1) := by
  obtain ⟨h1, hx, hr, hxt⟩ := id h
  have fin : ∀ (I1 : Nat → Nat → Int32) (s1 : PS), AbP I1 x T s1 → OffR x I I1 → MW G mX7_knownName 3 19 [some (vR x), some (vI i)] [] (mw S I1 J R) (fun f M1 => ∃ r, f = .inl r ∧ (r = some (vI i) ∧ ∃ I1, M1 = mw S I1 J R ∧ AbP I1 x T (pEx T 258 s1) ∧ OffR x I I1)) := by
    intro I1 s1 q1 q2
    refine am_aload_n (q := 20) dX7_knownName_19 rfl rfl ?_
    refine am_sipush (q := 23) (v := 258) dX7_knownName_20 kc_s258 rfl ?_
    refine cm_call0 (q := 26) (As := [_]) hG dX7_knownName_23 mlX7_53 rfl (by assumption) ⟨_, _, rfl⟩ (Nat.le_of_ble_eq_true rfl) (Nat.le_of_ble_eq_true rfl) (Nat.le_of_ble_eq_true rfl) (Nat.le_of_ble_eq_true rfl) (kx_expect hG h (hT.off q2 hxt) q1 (by decide)) rfl ?_
    rintro _ _ ⟨rfl, I2, rfl, hp, ho⟩
    refine am_iload_n (q := 27) dX7_knownName_26 rfl rfl ?_
    exact am_iret dX7_knownName_27 rfl rfl ⟨_, rfl, rfl, I2, rfl, hp, q2.tr ho⟩
  unfold pKn
  refine am_aload_n (q := 1) dX7_knownName_0 rfl rfl ?_
  refine cm_call0 (q := 4) (As := []) hG dX7_knownName_1 mlX7_31 rfl (by assumption) ⟨_, _, rfl⟩ (Nat.le_of_ble_eq_true rfl) (Nat.le_of_ble_eq_true rfl) (Nat.le_of_ble_eq_true rfl) (Nat.le_of_ble_eq_true rfl) (kx_kind hG h hT hs) rfl ?_
  rintro _ _ ⟨rfl, rfl⟩
  refine am_sipush (q := 7) (v := 258) dX7_knownName_4 kc_s258 rfl ?_
  refine am_icmp_ne (tgt := 19) (q := 10) dX7_knownName_7 rfl rfl (fun hc => ?_) (fun hc => ?_)
  · rw [if_neg (fun q => hc q.1)]
    exact fin I s hs OffR.rf
  · refine am_iload_n (q := 11) dX7_knownName_10 rfl rfl ?_
    refine am_if_ge (tgt := 19) (q := 14) dX7_knownName_11 rfl rfl (fun hc2 => ?_) (fun hc2 => ?_)
    · rw [if_neg (fun q => Int32.not_lt.mpr hc2 q.2)]
      exact fin I s hs OffR.rf
    · rw [if_pos ⟨hc, Int32.not_le.mp hc2⟩]
      refine am_aload_n (q := 15) dX7_knownName_14 rfl rfl ?_
      refine am_iconst (q := 16) (v := 3) dX7_knownName_15 kc_i3 rfl ?_
      refine cm_call0 (q := 19) (As := [_]) hG dX7_knownName_16 mlX7_87 rfl (by assumption) ⟨_, _, rfl⟩ (Nat.le_of_ble_eq_true rfl) (Nat.le_of_ble_eq_true rfl) (Nat.le_of_ble_eq_true rfl) (Nat.le_of_ble_eq_true rfl) (kx_blame hG h hT hs) rfl ?_
      rintro _ _ ⟨rfl, I1, rfl, hp, ho⟩
      exact fin I1 _ hp ho
theorem k_X7_expectNewName {a b : Int32} (hG : okG G) (h : RD S R x t) (hT : AbT I J t T) (hs : AbP I x T s) : Fn G mX7_expectNewName 3 [vR x, vI a, vI b] (mw S I J R) (fun rr M1 => rr = none ∧ ∃ I1, M1 = mw S I1 J R ∧ AbP I1 x T (pNew T a b s) ∧ OffR x I I1) := by
  obtain ⟨h1, hx, hr, hxt⟩ := id h
  have fin : ∀ (I1 : Nat → Nat → Int32) (s1 : PS), AbP I1 x T s1 → OffR x I I1 → MW G mX7_expectNewName 3 38 [some (vR x), some (vI a), some (vI b)] [] (mw S I1 J R) (fun f M1 => ∃ r, f = .inl r ∧ (r = none ∧ ∃ I1, M1 = mw S I1 J R ∧ AbP I1 x T (pEx T 258 s1) ∧ OffR x I I1)) := by
    intro I1 s1 q1 q2
    refine am_aload_n (q := 39) dX7_expectNewName_38 rfl rfl ?_
    refine am_sipush (q := 42) (v := 258) dX7_expectNewName_39 kc_s258 rfl ?_
    refine cm_call0 (q := 45) (As := [_]) hG dX7_expectNewName_42 mlX7_53 rfl (by assumption) ⟨_, _, rfl⟩ (Nat.le_of_ble_eq_true rfl) (Nat.le_of_ble_eq_true rfl) (Nat.le_of_ble_eq_true rfl) (Nat.le_of_ble_eq_true rfl) (kx_expect hG h (hT.off q2 hxt) q1 (by decide)) rfl ?_
    rintro _ _ ⟨rfl, I2, rfl, hp, ho⟩
    exact am_ret dX7_expectNewName_45 rfl ⟨_, rfl, rfl, I2, rfl, hp, q2.tr ho⟩
  have mid : ∀ (I1 : Nat → Nat → Int32) (s1 : PS), AbP I1 x T s1 → OffR x I I1 → MW G mX7_expectNewName 3 19 [some (vR x), some (vI a), some (vI b)] [] (mw S I1 J R) (fun f M1 => ∃ r, f = .inl r ∧ (r = none ∧ ∃ I1, M1 = mw S I1 J R ∧ AbP I1 x T (pEx T 258 (pN1 T b 4 s1)) ∧ OffR x I I1)) := by
    intro I1 s1 q1 q2
    have hT1 := hT.off q2 hxt
    unfold pN1
    refine am_aload_n (q := 20) dX7_expectNewName_19 rfl rfl ?_
    refine cm_call0 (q := 23) (As := []) hG dX7_expectNewName_20 mlX7_31 rfl (by assumption) ⟨_, _, rfl⟩ (Nat.le_of_ble_eq_true rfl) (Nat.le_of_ble_eq_true rfl) (Nat.le_of_ble_eq_true rfl) (Nat.le_of_ble_eq_true rfl) (kx_kind hG h hT1 q1) rfl ?_
    rintro _ _ ⟨rfl, rfl⟩
    refine am_sipush (q := 26) (v := 258) dX7_expectNewName_23 kc_s258 rfl ?_
    refine am_icmp_ne (tgt := 38) (q := 29) dX7_expectNewName_26 rfl rfl (fun hc => ?_) (fun hc => ?_)
    · rw [if_neg (fun q => hc q.1)]
      exact fin I1 s1 q1 q2
    · refine am_iload_n (q := 30) dX7_expectNewName_29 rfl rfl ?_
      refine am_if_eq (tgt := 38) (q := 33) dX7_expectNewName_30 rfl rfl (fun hc2 => ?_) (fun hc2 => ?_)
      · rw [if_neg (fun q => q.2 hc2)]
        exact fin I1 s1 q1 q2
      · rw [if_pos ⟨hc, hc2⟩]
        refine am_aload_n (q := 34) dX7_expectNewName_33 rfl rfl ?_
        refine am_iconst (q := 35) (v := 4) dX7_expectNewName_34 kc_i4 rfl ?_
        refine cm_call0 (q := 38) (As := [_]) hG dX7_expectNewName_35 mlX7_87 rfl (by assumption) ⟨_, _, rfl⟩ (Nat.le_of_ble_eq_true rfl) (Nat.le_of_ble_eq_true rfl) (Nat.le_of_ble_eq_true rfl) (Nat.le_of_ble_eq_true rfl) (kx_blame hG h hT1 q1) rfl ?_
        rintro _ _ ⟨rfl, I2, rfl, hp, ho⟩
        exact fin I2 _ hp (q2.tr ho)
  unfold pNew
  have e : pN1 T a 2 s = pN1 T a 2 s := rfl
  conv at e => rhs; unfold pN1
  refine am_aload_n (q := 1) dX7_expectNewName_0 rfl rfl ?_
  refine cm_call0 (q := 4) (As := []) hG dX7_expectNewName_1 mlX7_31 rfl (by assumption) ⟨_, _, rfl⟩ (Nat.le_of_ble_eq_true rfl) (Nat.le_of_ble_eq_true rfl) (Nat.le_of_ble_eq_true rfl) (Nat.le_of_ble_eq_true rfl) (kx_kind hG h hT hs) rfl ?_
  rintro _ _ ⟨rfl, rfl⟩
  refine am_sipush (q := 7) (v := 258) dX7_expectNewName_4 kc_s258 rfl ?_
  refine am_icmp_ne (tgt := 19) (q := 10) dX7_expectNewName_7 rfl rfl (fun hc => ?_) (fun hc => ?_)
  · rw [if_neg (fun q => hc q.1)] at e
    rw [e]
    exact mid I s hs OffR.rf
  · refine am_iload_n (q := 11) dX7_expectNewName_10 rfl rfl ?_
    refine am_if_eq (tgt := 19) (q := 14) dX7_expectNewName_11 rfl rfl (fun hc2 => ?_) (fun hc2 => ?_)
    · rw [if_neg (fun q => q.2 hc2)] at e
      rw [e]
      exact mid I s hs OffR.rf
    · rw [if_pos ⟨hc, hc2⟩] at e
      rw [e]
      refine am_aload_n (q := 15) dX7_expectNewName_14 rfl rfl ?_
      refine am_iconst (q := 16) (v := 2) dX7_expectNewName_15 kc_i2 rfl ?_
      refine cm_call0 (q := 19) (As := [_]) hG dX7_expectNewName_16 mlX7_87 rfl (by assumption) ⟨_, _, rfl⟩ (Nat.le_of_ble_eq_true rfl) (Nat.le_of_ble_eq_true rfl) (Nat.le_of_ble_eq_true rfl) (Nat.le_of_ble_eq_true rfl) (kx_blame hG h hT hs) rfl ?_
      rintro _ _ ⟨rfl, I1, rfl, hp, ho⟩
      exact mid I1 _ hp ho
theorem k_X7_numberBehind {kw lo hi : Int32} (hG : okG G) (h : RD S R x t) (hT : AbT I J t T) (hs : AbP I x T s) (hk : kw ≠ 257) : Fn G mX7_numberBehind 3 [vR x, vI kw, vI lo, vI hi] (mw S I J R) (fun rr M1 => rr = some (vI (pV T (pEx T kw s)).toInt32) ∧ ∃ I1, M1 = mw S I1 J R ∧ AbP I1 x T (pNum T kw lo hi s) ∧ OffR x I I1) := by
  obtain ⟨h1, hx, hr, hxt⟩ := id h
  unfold pNum
  refine am_aload_n (q := 1) dX7_numberBehind_0 rfl rfl ?_
  refine am_iload_n (q := 2) dX7_numberBehind_1 rfl rfl ?_
  refine cm_call0 (q := 5) (As := [_]) hG dX7_numberBehind_2 mlX7_53 rfl (by assumption) ⟨_, _, rfl⟩ (Nat.le_of_ble_eq_true rfl) (Nat.le_of_ble_eq_true rfl) (Nat.le_of_ble_eq_true rfl) (Nat.le_of_ble_eq_true rfl) (kx_expect hG h hT hs hk) rfl ?_
  rintro _ _ ⟨rfl, I0, rfl, hp0, ho0⟩
  generalize pEx T kw s = s0 at hp0 ⊢
  have hT0 := hT.off ho0 hxt
  have fin : ∀ (I1 : Nat → Nat → Int32) (s1 : PS), AbP I1 x T s1 → OffR x I I1 → MW G mX7_numberBehind 3 42 [some (vR x), some (vI kw), some (vI lo), some (vI hi), some (vJ (pV T s0)), none] [] (mw S I1 J R) (fun f M1 => ∃ r, f = .inl r ∧ (r = some (vI (pV T s0).toInt32) ∧ ∃ I1, M1 = mw S I1 J R ∧ AbP I1 x T (pEx T 259 s1) ∧ OffR x I I1)) := by
    intro I1 s1 q1 q2
    refine am_aload_n (q := 43) dX7_numberBehind_42 rfl rfl ?_
    refine am_sipush (q := 46) (v := 259) dX7_numberBehind_43 kc_s259 rfl ?_
    refine cm_call0 (q := 49) (As := [_]) hG dX7_numberBehind_46 mlX7_53 rfl (by assumption) ⟨_, _, rfl⟩ (Nat.le_of_ble_eq_true rfl) (Nat.le_of_ble_eq_true rfl) (Nat.le_of_ble_eq_true rfl) (Nat.le_of_ble_eq_true rfl) (kx_expect hG h (hT.off q2 hxt) q1 (by decide)) rfl ?_
    rintro _ _ ⟨rfl, I2, rfl, hp, ho⟩
    refine am_lload (q := 51) dX7_numberBehind_49 rfl rfl ?_
    refine am_l2i (q := 52) dX7_numberBehind_51 rfl ?_
    exact am_iret dX7_numberBehind_52 rfl rfl ⟨_, rfl, rfl, I2, rfl, hp, q2.tr ho⟩
  refine am_aload_n (q := 6) dX7_numberBehind_5 rfl rfl ?_
  refine cm_call0 (q := 9) (As := []) hG dX7_numberBehind_6 mlX7_57 rfl (by assumption) ⟨_, _, rfl⟩ (Nat.le_of_ble_eq_true rfl) (Nat.le_of_ble_eq_true rfl) (Nat.le_of_ble_eq_true rfl) (Nat.le_of_ble_eq_true rfl) (kx_value hG h hT0 hp0) rfl ?_
  rintro _ _ ⟨rfl, rfl⟩
  refine am_lstore (q := 11) (ls1 := [_, _, _, _, _, _]) dX7_numberBehind_9 (Nat.le_of_ble_eq_true rfl) rfl rfl ?_
  refine am_aload_n (q := 12) dX7_numberBehind_11 rfl rfl ?_
  refine cm_call0 (q := 15) (As := []) hG dX7_numberBehind_12 mlX7_31 rfl (by assumption) ⟨_, _, rfl⟩ (Nat.le_of_ble_eq_true rfl) (Nat.le_of_ble_eq_true rfl) (Nat.le_of_ble_eq_true rfl) (Nat.le_of_ble_eq_true rfl) (kx_kind hG h hT0 hp0) rfl ?_
  rintro _ _ ⟨rfl, rfl⟩
  refine am_sipush (q := 18) (v := 259) dX7_numberBehind_15 kc_s259 rfl ?_
  have bad : pK T s0 = 259 → (pV T s0 < lo.toInt64 ∨ hi.toInt64 < pV T s0) → MW G mX7_numberBehind 3 37 [some (vR x), some (vI kw), some (vI lo), some (vI hi), some (vJ (pV T s0)), none] [] (mw S I0 J R) (fun f M1 => ∃ r, f = .inl r ∧ (r = some (vI (pV T s0).toInt32) ∧ ∃ I1, M1 = mw S I1 J R ∧ AbP I1 x T (pEx T 259 (if pK T s0 = 259 ∧ (pV T s0 < lo.toInt64 ∨ hi.toInt64 < pV T s0) then pBl T 5 s0 else s0)) ∧ OffR x I I1)) := by
    intro q1 q2
    rw [if_pos ⟨q1, q2⟩]
    refine am_aload_n (q := 38) dX7_numberBehind_37 rfl rfl ?_
    refine am_iconst (q := 39) (v := 5) dX7_numberBehind_38 kc_i5 rfl ?_
    refine cm_call0 (q := 42) (As := [_]) hG dX7_numberBehind_39 mlX7_87 rfl (by assumption) ⟨_, _, rfl⟩ (Nat.le_of_ble_eq_true rfl) (Nat.le_of_ble_eq_true rfl) (Nat.le_of_ble_eq_true rfl) (Nat.le_of_ble_eq_true rfl) (kx_blame hG h hT0 hp0) rfl ?_
    rintro _ _ ⟨rfl, I1, rfl, hp, ho⟩
    exact fin I1 _ hp (ho0.tr ho)
  refine am_icmp_ne (tgt := 42) (q := 21) dX7_numberBehind_18 rfl rfl (fun hc => ?_) (fun hc => ?_)
  · rw [if_neg (fun q => hc q.1)]
    exact fin I0 _ hp0 ho0
  · refine am_lload (q := 23) dX7_numberBehind_21 rfl rfl ?_
    refine am_iload_n (q := 24) dX7_numberBehind_23 rfl rfl ?_
    refine am_i2l (q := 25) dX7_numberBehind_24 rfl ?_
    refine am_lcmp (q := 26) dX7_numberBehind_25 rfl ?_
    refine am_if_lt (tgt := 37) (q := 29) dX7_numberBehind_26 rfl rfl (fun hc2 => ?_) (fun hc2 => ?_)
    · exact bad hc (Or.inl ((lg_cmp_lt _ _).mp hc2))
    · refine am_lload (q := 31) dX7_numberBehind_29 rfl rfl ?_
      refine am_iload_n (q := 32) dX7_numberBehind_31 rfl rfl ?_
      refine am_i2l (q := 33) dX7_numberBehind_32 rfl ?_
      refine am_lcmp (q := 34) dX7_numberBehind_33 rfl ?_
      refine am_if_le (tgt := 42) (q := 37) dX7_numberBehind_34 rfl rfl (fun hc3 => ?_) (fun hc3 => ?_)
      · rw [if_neg]
        · exact fin I0 _ hp0 ho0
        · rintro ⟨_, q | q⟩
          · exact hc2 ((lg_cmp_lt _ _).mpr q)
          · exact absurd q (Int64.not_lt.mpr ((lg_cmp_le _ _).mp hc3))
      · exact bad hc (Or.inr (Int64.not_le.mp fun q => hc3 ((lg_cmp_le _ _).mpr q)))
end Nm

