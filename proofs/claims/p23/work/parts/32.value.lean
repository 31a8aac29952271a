theorem kc_s324 : (Int16.ofInt 324).toInt32 = 324 := by decide +kernel
theorem kc_s325 : (Int16.ofInt 325).toInt32 = 325 := by decide +kernel
theorem dX7_indexOf_0 : decode cX7_indexOf 0 = .ok (.iload_n 1, 1) := by decide +kernel
theorem dX7_indexOf_1 : decode cX7_indexOf 1 = .ok (.sipush 324, 3) := by decide +kernel
theorem dX7_indexOf_4 : decode cX7_indexOf 4 = .ok (.if_icmp .ne 12, 3) := by decide +kernel
theorem dX7_indexOf_7 : decode cX7_indexOf 7 = .ok (.aload_n 0, 1) := by decide +kernel
theorem dX7_indexOf_8 : decode cX7_indexOf 8 = .ok (.getfield 15, 3) := by decide +kernel
theorem dX7_indexOf_11 : decode cX7_indexOf 11 = .ok (.lload_n 2, 1) := by decide +kernel
theorem dX7_indexOf_12 : decode cX7_indexOf 12 = .ok (.invokevirtual 61, 3) := by decide +kernel
theorem dX7_indexOf_15 : decode cX7_indexOf 15 = .ok (.ireturn, 1) := by decide +kernel
theorem dX7_indexOf_16 : decode cX7_indexOf 16 = .ok (.iload_n 1, 1) := by decide +kernel
theorem dX7_indexOf_17 : decode cX7_indexOf 17 = .ok (.sipush 325, 3) := by decide +kernel
theorem dX7_indexOf_20 : decode cX7_indexOf 20 = .ok (.if_icmp .ne 14, 3) := by decide +kernel
theorem dX7_indexOf_23 : decode cX7_indexOf 23 = .ok (.aload_n 0, 1) := by decide +kernel
theorem dX7_indexOf_24 : decode cX7_indexOf 24 = .ok (.getfield 15, 3) := by decide +kernel
theorem dX7_indexOf_27 : decode cX7_indexOf 27 = .ok (.lload_n 2, 1) := by decide +kernel
theorem dX7_indexOf_28 : decode cX7_indexOf 28 = .ok (.invokevirtual 110, 3) := by decide +kernel
theorem dX7_indexOf_31 : decode cX7_indexOf 31 = .ok (.goto 11, 3) := by decide +kernel
theorem dX7_indexOf_34 : decode cX7_indexOf 34 = .ok (.aload_n 0, 1) := by decide +kernel
theorem dX7_indexOf_35 : decode cX7_indexOf 35 = .ok (.getfield 15, 3) := by decide +kernel
theorem dX7_indexOf_38 : decode cX7_indexOf 38 = .ok (.lload_n 2, 1) := by decide +kernel
theorem dX7_indexOf_39 : decode cX7_indexOf 39 = .ok (.invokevirtual 101, 3) := by decide +kernel
theorem dX7_indexOf_42 : decode cX7_indexOf 42 = .ok (.ireturn, 1) := by decide +kernel
theorem dX7_readNamedValue_0 : decode cX7_readNamedValue 0 = .ok (.aload_n 0, 1) := by decide +kernel
theorem dX7_readNamedValue_1 : decode cX7_readNamedValue 1 = .ok (.iload_n 1, 1) := by decide +kernel
theorem dX7_readNamedValue_2 : decode cX7_readNamedValue 2 = .ok (.invokevirtual 53, 3) := by decide +kernel
theorem dX7_readNamedValue_5 : decode cX7_readNamedValue 5 = .ok (.aload_n 0, 1) := by decide +kernel
theorem dX7_readNamedValue_6 : decode cX7_readNamedValue 6 = .ok (.aload_n 0, 1) := by decide +kernel
theorem dX7_readNamedValue_7 : decode cX7_readNamedValue 7 = .ok (.iload_n 1, 1) := by decide +kernel
theorem dX7_readNamedValue_8 : decode cX7_readNamedValue 8 = .ok (.aload_n 0, 1) := by decide +kernel
theorem dX7_readNamedValue_9 : decode cX7_readNamedValue 9 = .ok (.invokevirtual 57, 3) := by decide +kernel
theorem dX7_readNamedValue_12 : decode cX7_readNamedValue 12 = .ok (.invokevirtual 173, 3) := by decide +kernel
theorem dX7_readNamedValue_15 : decode cX7_readNamedValue 15 = .ok (.invokevirtual 90, 3) := by decide +kernel
theorem dX7_readNamedValue_18 : decode cX7_readNamedValue 18 = .ok (.istore_n 2, 1) := by decide +kernel
theorem dX7_readNamedValue_19 : decode cX7_readNamedValue 19 = .ok (.aload_n 0, 1) := by decide +kernel
theorem dX7_readNamedValue_20 : decode cX7_readNamedValue 20 = .ok (.getfield 15, 3) := by decide +kernel
theorem dX7_readNamedValue_23 : decode cX7_readNamedValue 23 = .ok (.getfield 116, 3) := by decide +kernel
theorem dX7_readNamedValue_26 : decode cX7_readNamedValue 26 = .ok (.iload_n 1, 1) := by decide +kernel
theorem dX7_readNamedValue_27 : decode cX7_readNamedValue 27 = .ok (.iload_n 2, 1) := by decide +kernel
theorem dX7_readNamedValue_28 : decode cX7_readNamedValue 28 = .ok (.invokevirtual 144, 3) := by decide +kernel
theorem dX7_readNamedValue_31 : decode cX7_readNamedValue 31 = .ok (.return_, 1) := by decide +kernel
theorem dX7_readPlainValue_0 : decode cX7_readPlainValue 0 = .ok (.aload_n 0, 1) := by decide +kernel
theorem dX7_readPlainValue_1 : decode cX7_readPlainValue 1 = .ok (.getfield 15, 3) := by decide +kernel
theorem dX7_readPlainValue_4 : decode cX7_readPlainValue 4 = .ok (.getfield 116, 3) := by decide +kernel
theorem dX7_readPlainValue_7 : decode cX7_readPlainValue 7 = .ok (.iload_n 1, 1) := by decide +kernel
theorem dX7_readPlainValue_8 : decode cX7_readPlainValue 8 = .ok (.aload_n 0, 1) := by decide +kernel
theorem dX7_readPlainValue_9 : decode cX7_readPlainValue 9 = .ok (.invokevirtual 57, 3) := by decide +kernel
theorem dX7_readPlainValue_12 : decode cX7_readPlainValue 12 = .ok (.l2i, 1) := by decide +kernel
theorem dX7_readPlainValue_13 : decode cX7_readPlainValue 13 = .ok (.invokevirtual 144, 3) := by decide +kernel
theorem dX7_readPlainValue_16 : decode cX7_readPlainValue 16 = .ok (.aload_n 0, 1) := by decide +kernel
theorem dX7_readPlainValue_17 : decode cX7_readPlainValue 17 = .ok (.iload_n 1, 1) := by decide +kernel
theorem dX7_readPlainValue_18 : decode cX7_readPlainValue 18 = .ok (.invokevirtual 53, 3) := by decide +kernel
theorem dX7_readPlainValue_21 : decode cX7_readPlainValue 21 = .ok (.return_, 1) := by decide +kernel
/-! the reader's code: plain values, named values -/
abbrev Cd : Type := List (Int32 × Int32)
def adC (L : Cd) (x : Int32 × Int32) : Cd := if L.length < 400 then L ++ [x] else L
def AbC (I : Nat → Nat → Int32) (c : Nat) (L : Cd) : Prop := I (c + 1) 4 = nI L.length ∧ L.length ≤ 400 ∧ ∀ i, i < L.length → I (c + 2) i = (L.getD i (0, 0)).1 ∧ I (c + 3) i = (L.getD i (0, 0)).2
/-- nothing but the reader at x and the code of the contest at c has changed -/
def OffE (x c : Nat) (I I1 : Nat → Nat → Int32) : Prop := ∀ y j, y ≠ x → (y ≠ c + 1 ∨ j ≠ 4) → y ≠ c + 2 → y ≠ c + 3 → I1 y j = I y j
def OffD (c : Nat) (I I1 : Nat → Nat → Int32) : Prop := ∀ y j, (y ≠ c + 1 ∨ j ≠ 4) → y ≠ c + 2 → y ≠ c + 3 → I1 y j = I y j
theorem OffD.e {x c : Nat} {I I1 : Nat → Nat → Int32} (h : OffD c I I1) : OffE x c I I1 := fun y j _ p q r => h y j p q r
theorem OffE.rf {x c : Nat} {I : Nat → Nat → Int32} : OffE x c I I := fun _ _ _ _ _ _ => rfl
theorem OffE.tr {x c : Nat} {I I1 I2 : Nat → Nat → Int32} (h1 : OffE x c I I1) (h2 : OffE x c I1 I2) : OffE x c I I2 := fun y j p q r s => (h2 y j p q r s).trans (h1 y j p q r s)
theorem OffR.e {x c : Nat} {I I1 : Nat → Nat → Int32} (h : OffR x I I1) : OffE x c I I1 := fun y j p _ _ _ => h y j p
theorem AbC.off {x c : Nat} {I I1 : Nat → Nat → Int32} {L : Cd} (h : AbC I c L) (ho : OffR x I I1) (hx : x < c ∨ c + 58 ≤ x) : AbC I1 c L := by
  obtain ⟨h1, h2, h3⟩ := h
  refine ⟨(ho _ _ (by omega)).trans h1, h2, fun i hi => ?_⟩
  rw [ho _ _ (by omega), ho _ _ (by omega)]
  exact h3 i hi
/-- the index that a name has where a word of the kind stands -/
def ixM (J : Nat → Nat → Int64) (c n1 n2 n3 : Nat) (k : Int32) (v : Int64) : Int32 := if k = 324 then fndJ (fun i => J (c + 14 + 2 * i) 1) v 0 n1 else if k = 325 then fndJ (fun i => J (c + 30 + i) 0) v 0 n3 else fndJ (fun i => J (c + 22 + i) 0) v 0 n2
def Cnt (I : Nat → Nat → Int32) (c n1 n2 n3 : Nat) : Prop := I c 8 = nI n1 ∧ n1 ≤ 4 ∧ I c 10 = nI n2 ∧ n2 ≤ 8 ∧ I c 11 = nI n3 ∧ n3 ≤ 8
theorem Cnt.off {x c n1 n2 n3 : Nat} {I I1 : Nat → Nat → Int32} (h : Cnt I c n1 n2 n3) (ho : OffE x c I I1) (hx : x < c ∨ c + 58 ≤ x) : Cnt I1 c n1 n2 n3 := by
  obtain ⟨h1, h2, h3, h4, h5, h6⟩ := h
  have e : ∀ j, I1 c j = I c j := fun j => ho _ _ (by omega) (Or.inl (by omega)) (by omega) (by omega)
  exact ⟨(e 8).trans h1, h2, (e 10).trans h3, h4, (e 11).trans h5, h6⟩
theorem AbT.offE {x t c : Nat} {I I1 : Nat → Nat → Int32} {J : Nat → Nat → Int64} {T : Toks} (h : AbT I J t T) (ho : OffE x c I I1) (h1 : x < t ∨ t + 4 < x) (h2 : t + 4 < c ∨ c + 58 ≤ t) : AbT I1 J t T := by
  obtain ⟨a1, a2, a3, a4, a5⟩ := h
  refine ⟨(ho _ _ (by omega) (Or.inl (by omega)) (by omega) (by omega)).trans a1, a2, fun i hi => (ho _ _ (by omega) (Or.inl (by omega)) (by omega) (by omega)).trans (a3 i hi), fun i hi => (ho _ _ (by omega) (Or.inl (by omega)) (by omega) (by omega)).trans (a4 i hi), a5⟩
/-- the reader, its tokens and its contest lie apart -/
def RX (S : AMem) (R : Nat → Nat → Option Nat) (x t c : Nat) : Prop := RD S R x t ∧ CT S R c ∧ R x 1 = some c ∧ (x < c ∨ c + 58 ≤ x) ∧ (t + 4 < c ∨ c + 58 ≤ t)
section Vl
variable {G : Gp} {S : AMem} {I : Nat → Nat → Int32} {J : Nat → Nat → Int64} {R : Nat → Nat → Option Nat} {t x c n1 n2 n3 : Nat} {T : Toks} {s : PS} {L : Cd}
theorem k_adC {k g : Int32} (hct : CT S R c) (hL : AbC I c L) : Fn G mX1_add 0 [vR (c + 1), vI k, vI g] (mw S I J R) (fun rr M1 => rr = none ∧ ∃ I1, M1 = mw S I1 J R ∧ AbC I1 c (adC L (k, g)) ∧ OffD c I I1) := by
  obtain ⟨kc, rc0, rc1, rc2, rc3, rc4, rc5, rc6, rc7, ⟨kd, rd0, rd1, rd2, kd2, ld2, kd3, ld3, kd4, ld4⟩, ⟨kb, rb, kb6, lb6⟩, ⟨kf, rf, kf8, lf8⟩, ⟨kr, lr, hr⟩, ⟨kfi, lfi, hfi⟩, ⟨kp, lp, hpz⟩, ⟨kt, lt, htu⟩, kw, lw⟩ := id hct
  obtain ⟨l1, l2, l3⟩ := hL
  by_cases h : L.length < 400
  · refine MW.weaken (k_X1_add (k := k) (g := g) kd rd0 kd2 ld2 rd1 kd3 ld3 (by omega) l1 h) ?_
    rintro f M1 ⟨r, e1, e2, rfl⟩
    refine ⟨r, e1, e2, _, rfl, ?_, ?_⟩
    · unfold adC
      rw [if_pos h]
      refine ⟨?_, by simp; omega, fun i hi => ?_⟩
      · show (if c + 1 = c + 2 ∧ 4 = L.length then _ else if c + 1 = c + 3 ∧ 4 = L.length then _ else if c + 1 = c + 1 ∧ 4 = 4 then nI (L.length + 1) else _) = _
        rw [if_neg (by omega), if_neg (by omega), if_pos ⟨rfl, rfl⟩]
        simp
      · have hi2 : i < L.length + 1 := by simpa using hi
        show (if c + 2 = c + 2 ∧ i = L.length then k else if c + 2 = c + 3 ∧ i = L.length then g else if c + 2 = c + 1 ∧ i = 4 then _ else I (c + 2) i) = _ ∧ (if c + 3 = c + 2 ∧ i = L.length then k else if c + 3 = c + 3 ∧ i = L.length then g else if c + 3 = c + 1 ∧ i = 4 then _ else I (c + 3) i) = _
        by_cases e : i = L.length
        · rw [if_pos ⟨rfl, e⟩, if_neg (by omega), if_pos ⟨rfl, e⟩, e]
          simp
        · obtain ⟨q1, q2⟩ := l3 i (by omega)
          rw [if_neg (by omega), if_neg (by omega), if_neg (by omega), if_neg (by omega), if_neg (by omega), if_neg (by omega), q1, q2]
          have hlt : i < L.length := by omega
          simp [List.getD, List.getElem?_append_left hlt]
    · intro y j q2 q3 q4
      show (if y = c + 2 ∧ j = L.length then _ else if y = c + 3 ∧ j = L.length then _ else if y = c + 1 ∧ j = 4 then _ else I y j) = _
      rw [if_neg (fun z => q3 z.1), if_neg (fun z => q4 z.1), if_neg (fun z => by omega)]
  · have hz : I (c + 1) 4 = nI 400 := by rw [l1, show L.length = 400 by omega]
    refine MW.weaken (k_X1_addFull (k := k) (g := g) kd rd0 kd2 ld2 hz) ?_
    rintro f M1 ⟨r, e1, e2, rfl⟩
    refine ⟨r, e1, e2, I, rfl, ?_, fun _ _ _ _ _ => rfl⟩
    unfold adC
    rw [if_neg h]
    exact ⟨l1, l2, l3⟩
theorem AbP.offD {I1 : Nat → Nat → Int32} (h : AbP I x T s) (ho : OffD c I I1) (hx : x < c ∨ c + 58 ≤ x) : AbP I1 x T s := by
  obtain ⟨h1, h2, h3, h4⟩ := h
  exact ⟨(ho _ _ (by omega) (by omega) (by omega)).trans h1, (ho _ _ (by omega) (by omega) (by omega)).trans h2, (ho _ _ (by omega) (by omega) (by omega)).trans h3, h4⟩
/-- what stands while a bill is read: tokens, reader, code, counts -/
def AbE (I : Nat → Nat → Int32) (J : Nat → Nat → Int64) (x t c n1 n2 n3 : Nat) (T : Toks) (s : PS × Cd) : Prop := AbT I J t T ∧ AbP I x T s.1 ∧ AbC I c s.2 ∧ Cnt I c n1 n2 n3
theorem AbE.r {I1 : Nat → Nat → Int32} {s1 : PS} {s : PS × Cd} (hX : RX S R x t c) (h : AbE I J x t c n1 n2 n3 T s) (hp : AbP I1 x T s1) (ho : OffR x I I1) : AbE I1 J x t c n1 n2 n3 T (s1, s.2) :=
  ⟨h.1.off ho hX.1.2.2.2, hp, h.2.2.1.off ho hX.2.2.2.1, h.2.2.2.off ho.e hX.2.2.2.1⟩
theorem AbE.d {I1 : Nat → Nat → Int32} {L1 : Cd} {s : PS × Cd} (hX : RX S R x t c) (h : AbE I J x t c n1 n2 n3 T s) (hp : AbC I1 c L1) (ho : OffD c I I1) : AbE I1 J x t c n1 n2 n3 T (s.1, L1) :=
  ⟨h.1.offE (x := x) ho.e hX.1.2.2.2 hX.2.2.2.2, h.2.1.offD ho hX.2.2.2.1, hp, h.2.2.2.off (x := x) ho.e hX.2.2.2.1⟩
def eEx (T : Toks) (k : Int32) (s : PS × Cd) : PS × Cd := (pEx T k s.1, s.2)
def eRef (T : Toks) (s : PS × Cd) : PS × Cd := (pRef T s.1, s.2)
def eDp (T : Toks) (k : Int32) (d : Nat) (s : PS × Cd) : PS × Cd := (pDp T k d s.1, s.2)
def eAd (k g : Int32) (s : PS × Cd) : PS × Cd := (s.1, adC s.2 (k, g))
def ePl (T : Toks) (k : Int32) (s : PS × Cd) : PS × Cd := eEx T k (eAd k (pV T s.1).toInt32 s)
def eNm (T : Toks) (ix : Int32 → Int64 → Int32) (k : Int32) (s : PS × Cd) : PS × Cd := eAd k (ix k (pV T (pEx T k s.1))) (pKn T (ix k (pV T (pEx T k s.1))) (pEx T k s.1), s.2)
section Ee
variable {s : PS × Cd}
theorem ke_expect {k : Int32} (hG : okG G) (hX : RX S R x t c) (h : AbE I J x t c n1 n2 n3 T s) (hk : k ≠ 257) : Fn G mX7_expect 2 [vR x, vI k] (mw S I J R) (fun rr M1 => rr = none ∧ ∃ I1, M1 = mw S I1 J R ∧ AbE I1 J x t c n1 n2 n3 T (eEx T k s) ∧ OffE x c I I1) := by
  refine MW.weaken (kx_expect hG hX.1 h.1 h.2.1 hk) ?_
  rintro f M1 ⟨r, e1, e2, I1, e3, e4, e5⟩
  exact ⟨r, e1, e2, I1, e3, h.r hX e4 e5, e5.e⟩
theorem ke_refuse (hG : okG G) (hX : RX S R x t c) (h : AbE I J x t c n1 n2 n3 T s) : Fn G mX7_refuse 1 [vR x] (mw S I J R) (fun rr M1 => rr = none ∧ ∃ I1, M1 = mw S I1 J R ∧ AbE I1 J x t c n1 n2 n3 T (eRef T s) ∧ OffE x c I I1) := by
  refine MW.weaken (k_X7_refuse hG hX.1.1 h.1 hX.1.2.1 hX.1.2.2.1 hX.1.2.2.2 h.2.1) ?_
  rintro f M1 ⟨r, e1, e2, I1, e3, e4, e5⟩
  exact ⟨r, e1, e2, I1, e3, h.r hX e4 e5, e5.e⟩
theorem ke_deeper {k : Int32} {d' : Nat} (hG : okG G) (hX : RX S R x t c) (h : AbE I J x t c n1 n2 n3 T s) (hk : k ≠ 257) (hd : d' < 1000) : Fn G mX7_goesDeeper 3 [vR x, vI k, vI (nI d')] (mw S I J R) (fun rr M1 => rr = some (vI (bI ((eDp T k d' s).1.2.1 ≠ 1))) ∧ ∃ I1, M1 = mw S I1 J R ∧ AbE I1 J x t c n1 n2 n3 T (eDp T k d' s) ∧ OffE x c I I1) := by
  refine MW.weaken (k_X7_goesDeeper hG hX.1.1 h.1 hX.1.2.1 hX.1.2.2.1 hX.1.2.2.2 h.2.1 hk hd) ?_
  rintro f M1 ⟨r, e1, e2, I1, e3, e4, e5⟩
  exact ⟨r, e1, e2, I1, e3, h.r hX e4 e5, e5.e⟩
theorem ke_kind (hG : okG G) (hX : RX S R x t c) (h : AbE I J x t c n1 n2 n3 T s) : Fn G mX7_kind 1 [vR x] (mw S I J R) (fun rr M1 => rr = some (vI (pK T s.1)) ∧ M1 = mw S I J R) := kx_kind hG hX.1 h.1 h.2.1
theorem ke_value (hG : okG G) (hX : RX S R x t c) (h : AbE I J x t c n1 n2 n3 T s) : Fn G mX7_value 1 [vR x] (mw S I J R) (fun rr M1 => rr = some (vJ (pV T s.1)) ∧ M1 = mw S I J R) := kx_value hG hX.1 h.1 h.2.1
theorem ke_add {k g : Int32} (hX : RX S R x t c) (h : AbE I J x t c n1 n2 n3 T s) : Fn G mX1_add 0 [vR (c + 1), vI k, vI g] (mw S I J R) (fun rr M1 => rr = none ∧ ∃ I1, M1 = mw S I1 J R ∧ AbE I1 J x t c n1 n2 n3 T (eAd k g s) ∧ OffE x c I I1) := by
  refine MW.weaken (k_adC (k := k) (g := g) hX.2.1 h.2.2.1) ?_
  rintro f M1 ⟨r, e1, e2, I1, e3, e4, e5⟩
  exact ⟨r, e1, e2, I1, e3, h.d hX e4 e5, e5.e⟩
theorem k_X7_indexOf {k : Int32} {v : Int64} (hG : okG G) (hX : RX S R x t c) (h : AbE I J x t c n1 n2 n3 T s) : Fn G mX7_indexOf 1 [vR x, vI k, vJ v] (mw S I J R) (fun rr M1 => rr = some (vI (ixM J c n1 n2 n3 k v)) ∧ M1 = mw S I J R) := by
  obtain ⟨⟨hT, hx, hr, hxt⟩, hct, hr1, hxc, htc⟩ := hX
  obtain ⟨_, _, _, ⟨c1, c2, c3, c4, c5, c6⟩⟩ := h
  have kc := hct.1
  unfold ixM
  refine am_iload_n (q := 1) dX7_indexOf_0 rfl rfl ?_
  refine am_sipush (q := 4) (v := 324) dX7_indexOf_1 kc_s324 rfl ?_
  refine am_icmp_ne (tgt := 16) (q := 7) dX7_indexOf_4 rfl rfl (fun hc => ?_) (fun hc => ?_)
  · rw [if_neg hc]
    refine am_iload_n (q := 17) dX7_indexOf_16 rfl rfl ?_
    refine am_sipush (q := 20) (v := 325) dX7_indexOf_17 kc_s325 rfl ?_
    refine am_icmp_ne (tgt := 34) (q := 23) dX7_indexOf_20 rfl rfl (fun hc2 => ?_) (fun hc2 => ?_)
    · rw [if_neg hc2]
      refine am_aload_n (q := 35) dX7_indexOf_34 rfl rfl ?_
      refine cm_getR (q := 38) dX7_indexOf_35 flX7_15 rfl (by assumption) (by assumption) rfl ?_
      refine am_lload_n (q := 39) dX7_indexOf_38 rfl rfl ?_
      refine cm_call0 (q := 42) (As := [_]) hG dX7_indexOf_39 mlX7_101 rfl (by assumption) ⟨_, _, rfl⟩ (Nat.le_of_ble_eq_true rfl) (Nat.le_of_ble_eq_true rfl) (Nat.le_of_ble_eq_true rfl) (Nat.le_of_ble_eq_true rfl) (k_X2_fistNamed hct c3 c4) rfl ?_
      rintro _ _ ⟨rfl, rfl⟩
      exact am_iret dX7_indexOf_42 rfl rfl ⟨_, rfl, rfl, rfl⟩
    · rw [if_pos hc2]
      refine am_aload_n (q := 24) dX7_indexOf_23 rfl rfl ?_
      refine cm_getR (q := 27) dX7_indexOf_24 flX7_15 rfl (by assumption) (by assumption) rfl ?_
      refine am_lload_n (q := 28) dX7_indexOf_27 rfl rfl ?_
      refine cm_call0 (q := 31) (As := [_]) hG dX7_indexOf_28 mlX7_110 rfl (by assumption) ⟨_, _, rfl⟩ (Nat.le_of_ble_eq_true rfl) (Nat.le_of_ble_eq_true rfl) (Nat.le_of_ble_eq_true rfl) (Nat.le_of_ble_eq_true rfl) (k_X2_prizeNamed hct c5 c6) rfl ?_
      rintro _ _ ⟨rfl, rfl⟩
      refine am_goto (tgt := 42) dX7_indexOf_31 rfl ?_
      exact am_iret dX7_indexOf_42 rfl rfl ⟨_, rfl, rfl, rfl⟩
  · rw [if_pos hc]
    refine am_aload_n (q := 8) dX7_indexOf_7 rfl rfl ?_
    refine cm_getR (q := 11) dX7_indexOf_8 flX7_15 rfl (by assumption) (by assumption) rfl ?_
    refine am_lload_n (q := 12) dX7_indexOf_11 rfl rfl ?_
    refine cm_call0 (q := 15) (As := [_]) hG dX7_indexOf_12 mlX7_61 rfl (by assumption) ⟨_, _, rfl⟩ (Nat.le_of_ble_eq_true rfl) (Nat.le_of_ble_eq_true rfl) (Nat.le_of_ble_eq_true rfl) (Nat.le_of_ble_eq_true rfl) (k_X2_railNamed hct c1 c2) rfl ?_
    rintro _ _ ⟨rfl, rfl⟩
    exact am_iret dX7_indexOf_15 rfl rfl ⟨_, rfl, rfl, rfl⟩
theorem k_X7_readPlainValue {k : Int32} (hG : okG G) (hX : RX S R x t c) (h : AbE I J x t c n1 n2 n3 T s) (hk : k ≠ 257) : Fn G mX7_readPlainValue 3 [vR x, vI k] (mw S I J R) (fun rr M1 => rr = none ∧ ∃ I1, M1 = mw S I1 J R ∧ AbE I1 J x t c n1 n2 n3 T (ePl T k s) ∧ OffE x c I I1) := by
  obtain ⟨⟨hT, hx, hr, hxt⟩, hct, hr1, hxc, htc⟩ := id hX
  obtain ⟨kc, rc0, _, _, _, _, _, _, _, ⟨kd, _⟩, _⟩ := hct
  refine am_aload_n (q := 1) dX7_readPlainValue_0 rfl rfl ?_
  refine cm_getR (q := 4) dX7_readPlainValue_1 flX7_15 rfl (by assumption) (by assumption) rfl ?_
  refine cm_getR (q := 7) dX7_readPlainValue_4 flX7_116 rfl (by assumption) (by assumption) rfl ?_
  refine am_iload_n (q := 8) dX7_readPlainValue_7 rfl rfl ?_
  refine am_aload_n (q := 9) dX7_readPlainValue_8 rfl rfl ?_
  refine cm_call0 (q := 12) (As := []) hG dX7_readPlainValue_9 mlX7_57 rfl (by assumption) ⟨_, _, rfl⟩ (Nat.le_of_ble_eq_true rfl) (Nat.le_of_ble_eq_true rfl) (Nat.le_of_ble_eq_true rfl) (Nat.le_of_ble_eq_true rfl) (ke_value hG hX h) rfl ?_
  rintro _ _ ⟨rfl, rfl⟩
  refine am_l2i (q := 13) dX7_readPlainValue_12 rfl ?_
  refine cm_call0 (q := 16) (As := [_, _]) hG dX7_readPlainValue_13 mlX7_144 rfl (by assumption) ⟨_, _, rfl⟩ (Nat.le_of_ble_eq_true rfl) (Nat.le_of_ble_eq_true rfl) (Nat.le_of_ble_eq_true rfl) (Nat.le_of_ble_eq_true rfl) (ke_add hX h) rfl ?_
  rintro _ _ ⟨rfl, I1, rfl, h1, o1⟩
  refine am_aload_n (q := 17) dX7_readPlainValue_16 rfl rfl ?_
  refine am_iload_n (q := 18) dX7_readPlainValue_17 rfl rfl ?_
  refine cm_call0 (q := 21) (As := [_]) hG dX7_readPlainValue_18 mlX7_53 rfl (by assumption) ⟨_, _, rfl⟩ (Nat.le_of_ble_eq_true rfl) (Nat.le_of_ble_eq_true rfl) (Nat.le_of_ble_eq_true rfl) (Nat.le_of_ble_eq_true rfl) (ke_expect hG hX h1 hk) rfl ?_
  rintro _ _ ⟨rfl, I2, rfl, h2, o2⟩
  exact am_ret dX7_readPlainValue_21 rfl ⟨_, rfl, rfl, I2, rfl, h2, o1.tr o2⟩
theorem k_X7_readNamedValue {k : Int32} (hG : okG G) (hX : RX S R x t c) (h : AbE I J x t c n1 n2 n3 T s) (hk : k ≠ 257) : Fn G mX7_readNamedValue 4 [vR x, vI k] (mw S I J R) (fun rr M1 => rr = none ∧ ∃ I1, M1 = mw S I1 J R ∧ AbE I1 J x t c n1 n2 n3 T (eNm T (ixM J c n1 n2 n3) k s) ∧ OffE x c I I1) := by
  obtain ⟨⟨hT, hx, hr, hxt⟩, hct, hr1, hxc, htc⟩ := id hX
  obtain ⟨kc, rc0, _, _, _, _, _, _, _, ⟨kd, _⟩, _⟩ := hct
  refine am_aload_n (q := 1) dX7_readNamedValue_0 rfl rfl ?_
  refine am_iload_n (q := 2) dX7_readNamedValue_1 rfl rfl ?_
  refine cm_call0 (q := 5) (As := [_]) hG dX7_readNamedValue_2 mlX7_53 rfl (by assumption) ⟨_, _, rfl⟩ (Nat.le_of_ble_eq_true rfl) (Nat.le_of_ble_eq_true rfl) (Nat.le_of_ble_eq_true rfl) (Nat.le_of_ble_eq_true rfl) (ke_expect hG hX h hk) rfl ?_
  rintro _ _ ⟨rfl, I1, rfl, h1, o1⟩
  refine am_aload_n (q := 6) dX7_readNamedValue_5 rfl rfl ?_
  refine am_aload_n (q := 7) dX7_readNamedValue_6 rfl rfl ?_
  refine am_iload_n (q := 8) dX7_readNamedValue_7 rfl rfl ?_
  refine am_aload_n (q := 9) dX7_readNamedValue_8 rfl rfl ?_
  refine cm_call0 (q := 12) (As := []) hG dX7_readNamedValue_9 mlX7_57 rfl (by assumption) ⟨_, _, rfl⟩ (Nat.le_of_ble_eq_true rfl) (Nat.le_of_ble_eq_true rfl) (Nat.le_of_ble_eq_true rfl) (Nat.le_of_ble_eq_true rfl) (ke_value hG hX h1) rfl ?_
  rintro _ _ ⟨rfl, rfl⟩
  refine cm_call0 (q := 15) (As := [_, _]) hG dX7_readNamedValue_12 mlX7_173 rfl (by assumption) ⟨_, _, rfl⟩ (Nat.le_of_ble_eq_true rfl) (Nat.le_of_ble_eq_true rfl) (Nat.le_of_ble_eq_true rfl) (Nat.le_of_ble_eq_true rfl) (k_X7_indexOf hG hX h1) rfl ?_
  rintro _ _ ⟨rfl, rfl⟩
  refine cm_call0 (q := 18) (As := [_]) hG dX7_readNamedValue_15 mlX7_90 rfl (by assumption) ⟨_, _, rfl⟩ (Nat.le_of_ble_eq_true rfl) (Nat.le_of_ble_eq_true rfl) (Nat.le_of_ble_eq_true rfl) (Nat.le_of_ble_eq_true rfl) (k_X7_knownName hG hX.1 h1.1 h1.2.1) rfl ?_
  rintro _ _ ⟨rfl, I2, rfl, hp, ho⟩
  refine am_istore_n (q := 19) (ls1 := [_, _, _]) dX7_readNamedValue_18 (Nat.le_of_ble_eq_true rfl) rfl rfl ?_
  have h2 := h1.r hX hp ho
  refine am_aload_n (q := 20) dX7_readNamedValue_19 rfl rfl ?_
  refine cm_getR (q := 23) dX7_readNamedValue_20 flX7_15 rfl (by assumption) (by assumption) rfl ?_
  refine cm_getR (q := 26) dX7_readNamedValue_23 flX7_116 rfl (by assumption) (by assumption) rfl ?_
  refine am_iload_n (q := 27) dX7_readNamedValue_26 rfl rfl ?_
  refine am_iload_n (q := 28) dX7_readNamedValue_27 rfl rfl ?_
  refine cm_call0 (q := 31) (As := [_, _]) hG dX7_readNamedValue_28 mlX7_144 rfl (by assumption) ⟨_, _, rfl⟩ (Nat.le_of_ble_eq_true rfl) (Nat.le_of_ble_eq_true rfl) (Nat.le_of_ble_eq_true rfl) (Nat.le_of_ble_eq_true rfl) (ke_add hX h2) rfl ?_
  rintro _ _ ⟨rfl, I3, rfl, h3, o3⟩
  exact am_ret dX7_readNamedValue_31 rfl ⟨_, rfl, rfl, I3, rfl, h3, (o1.tr ho.e).tr o3⟩
end Ee
end Vl

