theorem dX14_split_0 : decode cX14_split 0 = .ok (.iconst 0, 1) := by decide +kernel
theorem dX14_split_1 : decode cX14_split 1 = .ok (.istore_n 1, 1) := by decide +kernel
theorem dX14_split_2 : decode cX14_split 2 = .ok (.iconst 0, 1) := by decide +kernel
theorem dX14_split_3 : decode cX14_split 3 = .ok (.istore_n 2, 1) := by decide +kernel
theorem dX14_split_4 : decode cX14_split 4 = .ok (.iconst 1, 1) := by decide +kernel
theorem dX14_split_5 : decode cX14_split 5 = .ok (.istore_n 3, 1) := by decide +kernel
theorem dX14_split_6 : decode cX14_split 6 = .ok (.iload_n 3, 1) := by decide +kernel
theorem dX14_split_7 : decode cX14_split 7 = .ok (.ifCond .eq 105, 3) := by decide +kernel
theorem dX14_split_10 : decode cX14_split 10 = .ok (.aload_n 0, 1) := by decide +kernel
theorem dX14_split_11 : decode cX14_split 11 = .ok (.iload_n 1, 1) := by decide +kernel
theorem dX14_split_12 : decode cX14_split 12 = .ok (.invokevirtual 76, 3) := by decide +kernel
theorem dX14_split_15 : decode cX14_split 15 = .ok (.bipush 32, 2) := by decide +kernel
theorem dX14_split_17 : decode cX14_split 17 = .ok (.if_icmp .eq 13, 3) := by decide +kernel
theorem dX14_split_20 : decode cX14_split 20 = .ok (.aload_n 0, 1) := by decide +kernel
theorem dX14_split_21 : decode cX14_split 21 = .ok (.iload_n 1, 1) := by decide +kernel
theorem dX14_split_22 : decode cX14_split 22 = .ok (.invokevirtual 76, 3) := by decide +kernel
theorem dX14_split_25 : decode cX14_split 25 = .ok (.bipush 10, 2) := by decide +kernel
theorem dX14_split_27 : decode cX14_split 27 = .ok (.if_icmp .ne 9, 3) := by decide +kernel
theorem dX14_split_30 : decode cX14_split 30 = .ok (.iinc 1 1, 3) := by decide +kernel
theorem dX14_split_33 : decode cX14_split 33 = .ok (.goto (-23), 3) := by decide +kernel
theorem dX14_split_36 : decode cX14_split 36 = .ok (.aload_n 0, 1) := by decide +kernel
theorem dX14_split_37 : decode cX14_split 37 = .ok (.getfield 23, 3) := by decide +kernel
theorem dX14_split_40 : decode cX14_split 40 = .ok (.iload_n 2, 1) := by decide +kernel
theorem dX14_split_41 : decode cX14_split 41 = .ok (.iload_n 1, 1) := by decide +kernel
theorem dX14_split_42 : decode cX14_split 42 = .ok (.iastore, 1) := by decide +kernel
theorem dX14_split_43 : decode cX14_split 43 = .ok (.aload_n 0, 1) := by decide +kernel
theorem dX14_split_44 : decode cX14_split 44 = .ok (.iload_n 2, 1) := by decide +kernel
theorem dX14_split_45 : decode cX14_split 45 = .ok (.iload_n 1, 1) := by decide +kernel
theorem dX14_split_46 : decode cX14_split 46 = .ok (.invokevirtual 79, 3) := by decide +kernel
theorem dX14_split_49 : decode cX14_split 49 = .ok (.iload_n 2, 1) := by decide +kernel
theorem dX14_split_50 : decode cX14_split 50 = .ok (.sipush 400, 3) := by decide +kernel
theorem dX14_split_53 : decode cX14_split 53 = .ok (.if_icmp .ne 19, 3) := by decide +kernel
theorem dX14_split_56 : decode cX14_split 56 = .ok (.aload_n 0, 1) := by decide +kernel
theorem dX14_split_57 : decode cX14_split 57 = .ok (.getfield 17, 3) := by decide +kernel
theorem dX14_split_60 : decode cX14_split 60 = .ok (.iload_n 2, 1) := by decide +kernel
theorem dX14_split_61 : decode cX14_split 61 = .ok (.iaload, 1) := by decide +kernel
theorem dX14_split_62 : decode cX14_split 62 = .ok (.ifCond .eq 10, 3) := by decide +kernel
theorem dX14_split_65 : decode cX14_split 65 = .ok (.aload_n 0, 1) := by decide +kernel
theorem dX14_split_66 : decode cX14_split 66 = .ok (.getfield 17, 3) := by decide +kernel
theorem dX14_split_69 : decode cX14_split 69 = .ok (.iload_n 2, 1) := by decide +kernel
theorem dX14_split_70 : decode cX14_split 70 = .ok (.iconst 5, 1) := by decide +kernel
theorem dX14_split_71 : decode cX14_split 71 = .ok (.iastore, 1) := by decide +kernel
theorem dX14_split_72 : decode cX14_split 72 = .ok (.aload_n 0, 1) := by decide +kernel
theorem dX14_split_73 : decode cX14_split 73 = .ok (.getfield 17, 3) := by decide +kernel
theorem dX14_split_76 : decode cX14_split 76 = .ok (.iload_n 2, 1) := by decide +kernel
theorem dX14_split_77 : decode cX14_split 77 = .ok (.iaload, 1) := by decide +kernel
theorem dX14_split_78 : decode cX14_split 78 = .ok (.ifCond .eq 17, 3) := by decide +kernel
theorem dX14_split_81 : decode cX14_split 81 = .ok (.aload_n 0, 1) := by decide +kernel
theorem dX14_split_82 : decode cX14_split 82 = .ok (.getfield 17, 3) := by decide +kernel
theorem dX14_split_85 : decode cX14_split 85 = .ok (.iload_n 2, 1) := by decide +kernel
theorem dX14_split_86 : decode cX14_split 86 = .ok (.iaload, 1) := by decide +kernel
theorem dX14_split_87 : decode cX14_split 87 = .ok (.iconst 5, 1) := by decide +kernel
theorem dX14_split_88 : decode cX14_split 88 = .ok (.if_icmp .eq 7, 3) := by decide +kernel
theorem dX14_split_91 : decode cX14_split 91 = .ok (.iconst 1, 1) := by decide +kernel
theorem dX14_split_92 : decode cX14_split 92 = .ok (.goto 4, 3) := by decide +kernel
theorem dX14_split_95 : decode cX14_split 95 = .ok (.iconst 0, 1) := by decide +kernel
theorem dX14_split_96 : decode cX14_split 96 = .ok (.istore_n 3, 1) := by decide +kernel
theorem dX14_split_97 : decode cX14_split 97 = .ok (.iload_n 1, 1) := by decide +kernel
theorem dX14_split_98 : decode cX14_split 98 = .ok (.aload_n 0, 1) := by decide +kernel
theorem dX14_split_99 : decode cX14_split 99 = .ok (.getfield 26, 3) := by decide +kernel
theorem dX14_split_102 : decode cX14_split 102 = .ok (.iload_n 2, 1) := by decide +kernel
theorem dX14_split_103 : decode cX14_split 103 = .ok (.iaload, 1) := by decide +kernel
theorem dX14_split_104 : decode cX14_split 104 = .ok (.iadd, 1) := by decide +kernel
theorem dX14_split_105 : decode cX14_split 105 = .ok (.istore_n 1, 1) := by decide +kernel
theorem dX14_split_106 : decode cX14_split 106 = .ok (.iinc 2 1, 3) := by decide +kernel
theorem dX14_split_109 : decode cX14_split 109 = .ok (.goto (-103), 3) := by decide +kernel
theorem dX14_split_112 : decode cX14_split 112 = .ok (.return_, 1) := by decide +kernel
/-! the reference cuts the tape -/
section Rs0
variable {G : Gp} {S : AMem} {I I1 : Nat → Nat → Int32} {J : Nat → Nat → Int64} {R : Nat → Nat → Option Nat} {Z : StA} {y n p : Nat} {E : Tp} {L : TL} {Q : (Option AV ⊕ Nat) → AMem → Prop}
/-- the tokens that were cut so far -/
def TkOK (I : Nat → Nat → Int32) (y : Nat) (E : Tp) (L : TL) : Prop := ∀ i, i < L.length → srt (L.getD i (0, 0, 0)).1 (I (y + 2) i) (I (y + 3) i) (L.getD i (0, 0, 0)).2.2 ∧ I (y + 4) i = nI (L.getD i (0, 0, 0)).2.1 ∧ ((L.getD i (0, 0, 0)).1 ≠ 256 ∧ (L.getD i (0, 0, 0)).1 ≠ 257) ∧ ((L.getD i (0, 0, 0)).1 = 258 → ∃ len, I (y + 5) i = nI len ∧ (L.getD i (0, 0, 0)).2.1 + len ≤ E.1 ∧ len ≤ 10 ∧ (∀ l, l < len → isLDB (E.2 ((L.getD i (0, 0, 0)).2.1 + l)) = true) ∧ (L.getD i (0, 0, 0)).2.2 = codN E len (L.getD i (0, 0, 0)).2.1 0)
theorem TL_lt {x : Int32 × Nat × Int64} {i : Nat} (h : i < L.length) : (L ++ [x]).getD i (0, 0, 0) = L.getD i (0, 0, 0) := by
  simp [List.getD, List.getElem?_append_left h]
theorem TL_eq {x : Int32 × Nat × Int64} : (L ++ [x]).getD L.length (0, 0, 0) = x := by simp
theorem TL_tk {i : Nat} (h : i < L.length) : (TL.toks L).k i = (L.getD i (0, 0, 0)).1 ∧ (TL.toks L).s i = nI (L.getD i (0, 0, 0)).2.1 ∧ (TL.toks L).v i = (L.getD i (0, 0, 0)).2.2 := ⟨if_pos h, if_pos h, if_pos h⟩
theorem MTk.of {x : Nat} (hT : TPm I y E) (h : TkOK I y E L) (hm : L.length ≤ 400) (h2 : I (y + 2) L.length = (if x < E.1 then 5 else 0)) (h4 : I (y + 4) L.length = nI x) : MTk I y (TL.toks (L ++ [(if x < E.1 then 257 else 256, x, 0)])) := by
  have hl : (L ++ [((if x < E.1 then 257 else 256 : Int32), x, (0 : Int64))]).length = L.length + 1 := by simp
  have hn : (TL.toks (L ++ [(if x < E.1 then 257 else 256, x, 0)])).n = L.length + 1 := hl
  have tk : ∀ i, i < L.length → (TL.toks (L ++ [(if x < E.1 then 257 else 256, x, 0)])).k i = (L.getD i (0, 0, 0)).1 ∧ (TL.toks (L ++ [(if x < E.1 then 257 else 256, x, 0)])).s i = nI (L.getD i (0, 0, 0)).2.1 ∧ (TL.toks (L ++ [(if x < E.1 then 257 else 256, x, 0)])).v i = (L.getD i (0, 0, 0)).2.2 := fun i hi => by
    have := TL_tk (L := L ++ [(if x < E.1 then 257 else 256, x, 0)]) (i := i) (by rw [hl]; omega)
    rw [TL_lt hi] at this
    exact this
  have te : (TL.toks (L ++ [(if x < E.1 then 257 else 256, x, 0)])).k L.length = (if x < E.1 then 257 else 256) ∧ (TL.toks (L ++ [(if x < E.1 then 257 else 256, x, 0)])).s L.length = nI x ∧ (TL.toks (L ++ [(if x < E.1 then 257 else 256, x, 0)])).v L.length = 0 := by
    have := TL_tk (L := L ++ [(if x < E.1 then 257 else 256, x, 0)]) (i := L.length) (by rw [hl]; omega)
    rw [TL_eq] at this
    exact this
  generalize TL.toks (L ++ [(if x < E.1 then 257 else 256, x, 0)]) = T at hn tk te ⊢
  have k258 : ∀ i, i < T.n → T.k i = 258 → i < L.length := fun i hi hk => by
    by_cases z : i = L.length
    · rw [z, te.1] at hk
      split at hk <;> exact absurd hk (by decide)
    · omega
  refine ⟨by omega, by omega, fun i hi => ?_, fun i hi => ?_, fun i hi hk => ?_⟩
  · by_cases z : i = L.length
    · subst z
      rw [te.1, te.2.1, te.2.2, h2, h4]
      refine ⟨?_, rfl⟩
      by_cases c : x < E.1
      · rw [if_pos c, if_pos c]
        exact Or.inr (Or.inr (Or.inr (Or.inr (Or.inr (Or.inr (Or.inr ⟨rfl, rfl⟩))))))
      · rw [if_neg c, if_neg c]
        exact Or.inr (Or.inr (Or.inr (Or.inr (Or.inr (Or.inr (Or.inl ⟨rfl, rfl⟩))))))
    · have hi2 : i < L.length := by omega
      obtain ⟨g1, g2, g3⟩ := tk i hi2
      obtain ⟨q1, q2, _⟩ := h i hi2
      rw [g1, g2, g3]
      exact ⟨q1, q2⟩
  · by_cases z : i = L.length
    · subst z
      rw [te.1, hn]
      refine ⟨fun _ => rfl, fun _ => ?_⟩
      by_cases c : x < E.1
      · rw [if_pos c]
        exact Or.inr rfl
      · rw [if_neg c]
        exact Or.inl rfl
    · have hi2 : i < L.length := by omega
      obtain ⟨_, _, q3, _⟩ := h i hi2
      rw [(tk i hi2).1, hn]
      exact ⟨fun q => q.elim (fun w => absurd w q3.1) (fun w => absurd w q3.2), fun q => absurd q (by omega)⟩
  · have hi2 := k258 i hi hk
    obtain ⟨g1, g2, g3⟩ := tk i hi2
    obtain ⟨_, q2, _, q4⟩ := h i hi2
    rw [g1] at hk
    obtain ⟨len, w1, w2, w3, w4, w5⟩ := q4 hk
    have e1 := hT.2.1
    refine ⟨(L.getD i (0, 0, 0)).2.1, len, q2, w1, by omega, fun i' hi' hk' b' n' hb' hn' hbn => ?_⟩
    have hi3 := k258 i' hi' hk'
    obtain ⟨g1', g2', g3'⟩ := tk i' hi3
    obtain ⟨_, q2', _, q4'⟩ := h i' hi3
    rw [g1'] at hk'
    obtain ⟨len', w1', w2', w3', w4', w5'⟩ := q4' hk'
    rw [q2'] at hb'
    rw [w1'] at hn'
    have eb := (nI_eq (by omega) (by omega)).mp hb'
    have en := (nI_eq (by omega) (by omega)).mp hn'
    subst eb en
    rw [g3, g3', w5, w5', cod_inj w3 w3' w4 w4']
    constructor
    · rintro ⟨z1, z2⟩
      refine ⟨z1, fun l hl => ?_⟩
      rw [← hT.2.2 _ (by omega), ← hT.2.2 _ (by omega)]
      exact z2 l hl
    · rintro ⟨z1, z2⟩
      refine ⟨z1, fun l hl => ?_⟩
      rw [hT.2.2 _ (by omega), hT.2.2 _ (by omega)]
      exact z2 l hl
def OffS (y : Nat) (I I1 : Nat → Nat → Int32) : Prop := ∀ x j, (x < y + 2 ∨ y + 5 < x) → I1 x j = I x j
theorem OffS.tr {I2 : Nat → Nat → Int32} (h1 : OffS y I I1) (h2 : OffS y I1 I2) : OffS y I I2 := fun x j q => (h2 x j q).trans (h1 x j q)
theorem OffS.tp (h : TPm I y E) (o : OffS y I I1) : TPm I1 y E := ⟨(o _ _ (by omega)).trans h.1, h.2.1, fun i hi => (o _ _ (by omega)).trans (h.2.2 i hi)⟩
theorem TkOK.off (h : TkOK I y E L) (o : ∀ x j, j < L.length → I1 x j = I x j) : TkOK I1 y E L := fun i hi => by
  obtain ⟨q1, q2, q3, q4⟩ := h i hi
  rw [o _ _ hi, o _ _ hi, o _ _ hi, o _ _ hi]
  exact ⟨q1, q2, q3, q4⟩
/-- one token more -/
theorem TkOK.add {k : Int32} {v : Int64} {q : Nat} (h : TkOK I y E L) (h1 : srt k (I (y + 2) L.length) (I (y + 3) L.length) v) (h2 : I (y + 4) L.length = nI p) (h3 : k ≠ 256 ∧ k ≠ 257) (h5 : I (y + 5) L.length = nI (q - p)) (hq : p ≤ q ∧ q ≤ E.1) (h4 : k = 258 → q - p ≤ 10 ∧ (∀ l, l < q - p → isLDB (E.2 (p + l)) = true) ∧ v = codN E (q - p) p 0) : TkOK I y E (L ++ [(k, p, v)]) := fun i hi => by
  have hi2 : i < L.length + 1 := by simpa using hi
  by_cases z : i = L.length
  · subst z
    rw [TL_eq]
    exact ⟨h1, h2, h3, fun e => ⟨q - p, h5, show p + (q - p) ≤ E.1 by omega, (h4 e).1, (h4 e).2.1, (h4 e).2.2⟩⟩
  · rw [TL_lt (by omega)]
    exact h i (by omega)
/-- up to a token's reading -/
theorem k_spl1 (hG : okG G) (hZ : KS G Z) (hC : RDc S R y) (hL : L.length ≤ 400) (hT : TPm I y E) (hK : TkOK I y E L) (hp : p ≤ E.1) (K : ∀ I2, I2 (y + 4) L.length = nI (spnE isBlB E p) → TkR I2 y L.length (spnE isBlB E p) E → TkOK I2 y E L → OffS y I I2 → MW G mX14_split 10 49 [some (vR y), some (vI (nI (spnE isBlB E p))), some (vI (nI L.length)), some (vI 1)] [] (mw S I2 J R) Q) : MW G mX14_split 10 6 [some (vR y), some (vI (nI p)), some (vI (nI L.length)), some (vI 1)] [] (mw S I J R) Q := by
  obtain ⟨ky, ⟨r1, k1, l1⟩, m4, m5, m6, m7, ⟨k2, l2⟩, ⟨k3, l3⟩, ⟨k4, l4⟩, ⟨k5, l5⟩, _⟩ := id hC
  have i4 : vp_in (nI L.length) (S.ln (y + 4)) := by rw [l4]; exact vp_in_nI (by omega) (by decide)
  have cn : (nI L.length).toNatClampNeg = L.length := nI_clamp (by omega)
  have e1 := hT.2.1
  refine am_iload_n (q := 7) dX14_split_6 rfl rfl ?_
  refine am_if_eq (tgt := 112) (q := 10) dX14_split_7 rfl rfl (fun hz => absurd hz (by decide)) (fun _ => ?_)
  refine k_spn (P := isBlB) (E := E) (σ := Unit) (Inv := fun q _ => spnE isBlB E q = spnE isBlB E p) (W := fun q _ => MW G mX14_split 10 10 [some (vR y), some (vI (nI q)), some (vI (nI L.length)), some (vI 1)] [] (mw S I J R) Q) ?_ ?_ p () hp rfl
  · intro q _ h1 h2 v2 ih
    have ba := k_X14_byteAt (G := G) (J := J) (p := q) hC hT (by omega)
    rw [Tp.atm_lt h1] at ba
    have ih2 := ih () (by rw [← v2, spnE_t h1 h2])
    clear ih K
    by_cases c : E.2 q = 32
    · refine am_aload_n (q := 11) dX14_split_10 rfl rfl ?_
      refine am_iload_n (q := 12) dX14_split_11 rfl rfl ?_
      refine cm_call0 (q := 15) (As := [_]) hG dX14_split_12 mlX14_76 rfl (by assumption) ⟨_, _, rfl⟩ (Nat.le_of_ble_eq_true rfl) (Nat.le_of_ble_eq_true rfl) (Nat.le_of_ble_eq_true rfl) (Nat.le_of_ble_eq_true rfl) ba rfl ?_
      rintro _ _ ⟨rfl, rfl⟩
      refine am_bipush (q := 17) (v := 32) dX14_split_15 kc_b32 rfl ?_
      refine am_icmp_eq (tgt := 30) (q := 20) dX14_split_17 rfl rfl (fun _ => ?_) (fun hz => absurd c hz)
      refine am_iincW (q := 33) (ls1 := [_, _, _, _]) (w := 1) dX14_split_30 rfl (Nat.le_of_ble_eq_true rfl) kc_i1 rfl rfl ?_
      refine am_goto (tgt := 10) dX14_split_33 rfl ?_
      rw [nI_1]
      exact ih2
    · have c2 := (isBlB_i.mp h2).resolve_left c
      refine am_aload_n (q := 11) dX14_split_10 rfl rfl ?_
      refine am_iload_n (q := 12) dX14_split_11 rfl rfl ?_
      refine cm_call0 (q := 15) (As := [_]) hG dX14_split_12 mlX14_76 rfl (by assumption) ⟨_, _, rfl⟩ (Nat.le_of_ble_eq_true rfl) (Nat.le_of_ble_eq_true rfl) (Nat.le_of_ble_eq_true rfl) (Nat.le_of_ble_eq_true rfl) ba rfl ?_
      rintro _ _ ⟨rfl, rfl⟩
      refine am_bipush (q := 17) (v := 32) dX14_split_15 kc_b32 rfl ?_
      refine am_icmp_eq (tgt := 30) (q := 20) dX14_split_17 rfl rfl (fun hz => absurd hz c) (fun _ => ?_)
      refine am_aload_n (q := 21) dX14_split_20 rfl rfl ?_
      refine am_iload_n (q := 22) dX14_split_21 rfl rfl ?_
      refine cm_call0 (q := 25) (As := [_]) hG dX14_split_22 mlX14_76 rfl (by assumption) ⟨_, _, rfl⟩ (Nat.le_of_ble_eq_true rfl) (Nat.le_of_ble_eq_true rfl) (Nat.le_of_ble_eq_true rfl) (Nat.le_of_ble_eq_true rfl) ba rfl ?_
      rintro _ _ ⟨rfl, rfl⟩
      refine am_bipush (q := 27) (v := 10) dX14_split_25 kc_b10 rfl ?_
      refine am_icmp_ne (tgt := 36) (q := 30) dX14_split_27 rfl rfl (fun hz => absurd c2 hz) (fun _ => ?_)
      refine am_iincW (q := 33) (ls1 := [_, _, _, _]) (w := 1) dX14_split_30 rfl (Nat.le_of_ble_eq_true rfl) kc_i1 rfl rfl ?_
      refine am_goto (tgt := 10) dX14_split_33 rfl ?_
      rw [nI_1]
      exact ih2
  · intro q _ h1 h2 v2
    rw [spnE_f h2] at v2
    rw [← v2] at K
    have ba := k_X14_byteAt (G := G) (J := J) (p := q) hC hT (by omega)
    have c1 : ¬ E.atm q = 32 := fun z => h2 ((atm_P (P := isBlB) (by decide)).mp (isBlB_i.mpr (Or.inl z)))
    have c2 : ¬ E.atm q = 10 := fun z => h2 ((atm_P (P := isBlB) (by decide)).mp (isBlB_i.mpr (Or.inr z)))
    refine am_aload_n (q := 11) dX14_split_10 rfl rfl ?_
    refine am_iload_n (q := 12) dX14_split_11 rfl rfl ?_
    refine cm_call0 (q := 15) (As := [_]) hG dX14_split_12 mlX14_76 rfl (by assumption) ⟨_, _, rfl⟩ (Nat.le_of_ble_eq_true rfl) (Nat.le_of_ble_eq_true rfl) (Nat.le_of_ble_eq_true rfl) (Nat.le_of_ble_eq_true rfl) ba rfl ?_
    rintro _ _ ⟨rfl, rfl⟩
    refine am_bipush (q := 17) (v := 32) dX14_split_15 kc_b32 rfl ?_
    refine am_icmp_eq (tgt := 30) (q := 20) dX14_split_17 rfl rfl (fun hz => absurd hz c1) (fun _ => ?_)
    refine am_aload_n (q := 21) dX14_split_20 rfl rfl ?_
    refine am_iload_n (q := 22) dX14_split_21 rfl rfl ?_
    refine cm_call0 (q := 25) (As := [_]) hG dX14_split_22 mlX14_76 rfl (by assumption) ⟨_, _, rfl⟩ (Nat.le_of_ble_eq_true rfl) (Nat.le_of_ble_eq_true rfl) (Nat.le_of_ble_eq_true rfl) (Nat.le_of_ble_eq_true rfl) ba rfl ?_
    rintro _ _ ⟨rfl, rfl⟩
    refine am_bipush (q := 27) (v := 10) dX14_split_25 kc_b10 rfl ?_
    refine am_icmp_ne (tgt := 36) (q := 30) dX14_split_27 rfl rfl (fun _ => ?_) (fun hz => absurd hz c2)
    clear ba c1 c2 h2
    have o3 : OffS y I (up2 I (y + 4) L.length (nI q)) := fun x j h => by rw [up2_a (by omega)]
    have rd := k_X14_read (J := J) (I := up2 I (y + 4) L.length (nI q)) (n := L.length) (p := q) hG hZ hC (OffS.tp hT o3) (by omega) h1
    have ok3 : TkOK (up2 I (y + 4) L.length (nI q)) y E L := hK.off (fun x j hj => by rw [up2_at, if_neg (by omega)])
    have f4 : up2 I (y + 4) L.length (nI q) (y + 4) L.length = nI q := up2_s
    generalize hI3 : up2 I (y + 4) L.length (nI q) = I3 at rd ok3 o3 f4
    refine am_aload_n (q := 37) dX14_split_36 rfl rfl ?_
    refine cm_getR (q := 40) dX14_split_37 flX14_23 rfl (by assumption) (by assumption) rfl ?_
    refine am_iload_n (q := 41) dX14_split_40 rfl rfl ?_
    refine am_iload_n (q := 42) dX14_split_41 rfl rfl ?_
    refine cm_iastore (q := 43) dX14_split_42 (by assumption) i4 rfl ?_
    rw [cn, hI3]
    refine am_aload_n (q := 44) dX14_split_43 rfl rfl ?_
    refine am_iload_n (q := 45) dX14_split_44 rfl rfl ?_
    refine am_iload_n (q := 46) dX14_split_45 rfl rfl ?_
    refine cm_call0 (q := 49) (As := [_, _]) hG dX14_split_46 mlX14_79 rfl (by assumption) ⟨_, _, rfl⟩ (Nat.le_of_ble_eq_true rfl) (Nat.le_of_ble_eq_true rfl) (Nat.le_of_ble_eq_true rfl) (Nat.le_of_ble_eq_true rfl) rd rfl ?_
    rintro _ _ ⟨rfl, I4, rfl, g1, g2⟩
    exact K I4 ((g2 _ _ (Or.inl (by omega))).trans f4) g1 (ok3.off (fun x j hj => g2 x j (Or.inr (by omega)))) (o3.tr (fun x j h => g2 x j (Or.inl (by omega))))
/-- no token was read: the last -/
theorem k_spl0 {x : Nat} (hC : RDc S R y) (hL : L.length ≤ 400) (h2 : I (y + 2) L.length = 0 ∨ I (y + 2) L.length = 5) (K : ∀ a b : Int32, MW G mX14_split 10 6 [some (vR y), some (vI a), some (vI b), some (vI 0)] [] (mw S I J R) Q) : MW G mX14_split 10 72 [some (vR y), some (vI (nI x)), some (vI (nI L.length)), some (vI 1)] [] (mw S I J R) Q := by
  obtain ⟨ky, ⟨r1, k1, l1⟩, m4, m5, m6, m7, ⟨k2, l2⟩, ⟨k3, l3⟩, ⟨k4, l4⟩, ⟨k5, l5⟩, _⟩ := id hC
  have i2 : vp_in (nI L.length) (S.ln (y + 2)) := by rw [l2]; exact vp_in_nI (by omega) (by decide)
  have i5 : vp_in (nI L.length) (S.ln (y + 5)) := by rw [l5]; exact vp_in_nI (by omega) (by decide)
  have cn : (nI L.length).toNatClampNeg = L.length := nI_clamp (by omega)
  rcases h2 with h2 | h2
  · refine am_aload_n (q := 73) dX14_split_72 rfl rfl ?_
    refine cm_getR (q := 76) dX14_split_73 flX14_17 rfl (by assumption) (by assumption) rfl ?_
    refine am_iload_n (q := 77) dX14_split_76 rfl rfl ?_
    refine cm_iaload (q := 78) dX14_split_77 (by assumption) i2 rfl ?_
    rw [cn, h2]
    refine am_if_eq (tgt := 95) (q := 81) dX14_split_78 rfl rfl (fun _ => ?_) (fun hz => absurd rfl hz)
    refine am_iconst (q := 96) (v := 0) dX14_split_95 kc_i0 rfl ?_
    refine am_istore_n (q := 97) (ls1 := [_, _, _, _]) dX14_split_96 (Nat.le_of_ble_eq_true rfl) rfl rfl ?_
    refine am_iload_n (q := 98) dX14_split_97 rfl rfl ?_
    refine am_aload_n (q := 99) dX14_split_98 rfl rfl ?_
    refine cm_getR (q := 102) dX14_split_99 flX14_26 rfl (by assumption) (by assumption) rfl ?_
    refine am_iload_n (q := 103) dX14_split_102 rfl rfl ?_
    refine cm_iaload (q := 104) dX14_split_103 (by assumption) i5 rfl ?_
    rw [cn]
    refine am_iadd (q := 105) dX14_split_104 rfl ?_
    refine am_istore_n (q := 106) (ls1 := [_, _, _, _]) dX14_split_105 (Nat.le_of_ble_eq_true rfl) rfl rfl ?_
    refine am_iincW (q := 109) (ls1 := [_, _, _, _]) (w := 1) dX14_split_106 rfl (Nat.le_of_ble_eq_true rfl) kc_i1 rfl rfl ?_
    refine am_goto (tgt := 6) dX14_split_109 rfl ?_
    exact K _ _
  · refine am_aload_n (q := 73) dX14_split_72 rfl rfl ?_
    refine cm_getR (q := 76) dX14_split_73 flX14_17 rfl (by assumption) (by assumption) rfl ?_
    refine am_iload_n (q := 77) dX14_split_76 rfl rfl ?_
    refine cm_iaload (q := 78) dX14_split_77 (by assumption) i2 rfl ?_
    rw [cn, h2]
    refine am_if_eq (tgt := 95) (q := 81) dX14_split_78 rfl rfl (fun hz => absurd hz (by decide)) (fun _ => ?_)
    refine am_aload_n (q := 82) dX14_split_81 rfl rfl ?_
    refine cm_getR (q := 85) dX14_split_82 flX14_17 rfl (by assumption) (by assumption) rfl ?_
    refine am_iload_n (q := 86) dX14_split_85 rfl rfl ?_
    refine cm_iaload (q := 87) dX14_split_86 (by assumption) i2 rfl ?_
    rw [cn, h2]
    refine am_iconst (q := 88) (v := 5) dX14_split_87 kc_i5 rfl ?_
    refine am_icmp_eq (tgt := 95) (q := 91) dX14_split_88 rfl rfl (fun _ => ?_) (fun hz => absurd rfl hz)
    refine am_iconst (q := 96) (v := 0) dX14_split_95 kc_i0 rfl ?_
    refine am_istore_n (q := 97) (ls1 := [_, _, _, _]) dX14_split_96 (Nat.le_of_ble_eq_true rfl) rfl rfl ?_
    refine am_iload_n (q := 98) dX14_split_97 rfl rfl ?_
    refine am_aload_n (q := 99) dX14_split_98 rfl rfl ?_
    refine cm_getR (q := 102) dX14_split_99 flX14_26 rfl (by assumption) (by assumption) rfl ?_
    refine am_iload_n (q := 103) dX14_split_102 rfl rfl ?_
    refine cm_iaload (q := 104) dX14_split_103 (by assumption) i5 rfl ?_
    rw [cn]
    refine am_iadd (q := 105) dX14_split_104 rfl ?_
    refine am_istore_n (q := 106) (ls1 := [_, _, _, _]) dX14_split_105 (Nat.le_of_ble_eq_true rfl) rfl rfl ?_
    refine am_iincW (q := 109) (ls1 := [_, _, _, _]) (w := 1) dX14_split_106 rfl (Nat.le_of_ble_eq_true rfl) kc_i1 rfl rfl ?_
    refine am_goto (tgt := 6) dX14_split_109 rfl ?_
    exact K _ _
theorem k_tsplit (hG : okG G) (hZ : KS G Z) (hC : RDc S R y) : ∀ (m : Nat) (L : TL) (p : Nat) (I : Nat → Nat → Int32), L.length + m = 400 → TPm I y E → TkOK I y E L → p ≤ E.1 → tkAll E kwK = tkF E (tkL E kwK m (spnE isBlB E p) L) → (∀ (I1 : Nat → Nat → Int32) (a b : Int32), MTk I1 y (tkAll E kwK).toks → OffS y I I1 → MW G mX14_split 10 6 [some (vR y), some (vI a), some (vI b), some (vI 0)] [] (mw S I1 J R) Q) → MW G mX14_split 10 6 [some (vR y), some (vI (nI p)), some (vI (nI L.length)), some (vI 1)] [] (mw S I J R) Q := by
  obtain ⟨ky, ⟨r1, k1, l1⟩, m4, m5, m6, m7, ⟨k2, l2⟩, ⟨k3, l3⟩, ⟨k4, l4⟩, ⟨k5, l5⟩, _⟩ := id hC
  intro m
  induction m with
  | zero =>
    intro L p I hL hT hK hp ht K
    have i2 : vp_in (nI L.length) (S.ln (y + 2)) := by rw [l2]; exact vp_in_nI (by omega) (by decide)
    have cn : (nI L.length).toNatClampNeg = L.length := nI_clamp (by omega)
    have hp2 := spnE_le (P := isBlB) hp
    refine k_spl1 hG hZ hC (by omega) hT hK hp (fun I2 f4 tr ok o2 => ?_)
    have e0 : tkAll E kwK = L ++ [(if spnE isBlB E p < E.1 then 257 else 256, spnE isBlB E p, 0)] := ht
    rw [e0] at K
    generalize spnE isBlB E p = x at f4 tr K hp2 ⊢
    have fin : ∀ I3, I3 (y + 2) L.length = (if x < E.1 then 5 else 0) → I3 (y + 4) L.length = nI x → TkOK I3 y E L → OffS y I I3 → MW G mX14_split 10 72 [some (vR y), some (vI (nI x)), some (vI (nI L.length)), some (vI 1)] [] (mw S I3 J R) Q := fun I3 s2 s4 sk so =>
      k_spl0 hC (by omega) (by rw [s2]; split; exact Or.inr rfl; exact Or.inl rfl) (fun a b => K I3 a b (MTk.of (OffS.tp hT so) sk (by omega) s2 s4) so)
    clear K ht e0
    have h400 : nI L.length = 400 := by rw [show L.length = 400 by omega]; rfl
    have so : (I2 (y + 2) L.length = 0 ∧ ¬ x < E.1) ∨ (I2 (y + 2) L.length ≠ 0 ∧ x < E.1) := by
      rcases tr with ⟨k, v, q, q1, q2, q3, q4, q5, q6, _⟩ | ⟨_, q2, _⟩
      · refine Or.inr ⟨fun z => q6.1 ((srt_one (w := 0) (q0 := 256) q5 (Or.inr (Or.inr (Or.inl ⟨rfl, rfl⟩)))).mp z), by omega⟩
      · by_cases c : x < E.1
        · rw [if_pos c] at q2
          exact Or.inr ⟨by rw [q2]; decide, c⟩
        · rw [if_neg c] at q2
          exact Or.inl ⟨q2, c⟩
    clear tr
    rcases so with ⟨s1, s2⟩ | ⟨s1, s2⟩
    · have f := fin I2 (by rw [s1, if_neg s2]) f4 ok o2
      clear fin
      refine am_iload_n (q := 50) dX14_split_49 rfl rfl ?_
      refine am_sipush (q := 53) (v := 400) dX14_split_50 kc_s400 rfl ?_
      refine am_icmp_ne (tgt := 72) (q := 56) dX14_split_53 rfl rfl (fun hz => absurd h400 hz) (fun _ => ?_)
      refine am_aload_n (q := 57) dX14_split_56 rfl rfl ?_
      refine cm_getR (q := 60) dX14_split_57 flX14_17 rfl (by assumption) (by assumption) rfl ?_
      refine am_iload_n (q := 61) dX14_split_60 rfl rfl ?_
      refine cm_iaload (q := 62) dX14_split_61 (by assumption) i2 rfl ?_
      rw [cn, s1]
      refine am_if_eq (tgt := 72) (q := 65) dX14_split_62 rfl rfl (fun _ => ?_) (fun hz => absurd rfl hz)
      exact f
    · have f := fin (up2 I2 (y + 2) L.length 5) (by rw [up2_s, if_pos s2]) (by rw [up2_a (by omega)]; exact f4) (ok.off (fun x j hj => by rw [up2_at, if_neg (by omega)])) (o2.tr (fun x j h => by rw [up2_a (by omega)]))
      clear fin
      refine am_iload_n (q := 50) dX14_split_49 rfl rfl ?_
      refine am_sipush (q := 53) (v := 400) dX14_split_50 kc_s400 rfl ?_
      refine am_icmp_ne (tgt := 72) (q := 56) dX14_split_53 rfl rfl (fun hz => absurd h400 hz) (fun _ => ?_)
      refine am_aload_n (q := 57) dX14_split_56 rfl rfl ?_
      refine cm_getR (q := 60) dX14_split_57 flX14_17 rfl (by assumption) (by assumption) rfl ?_
      refine am_iload_n (q := 61) dX14_split_60 rfl rfl ?_
      refine cm_iaload (q := 62) dX14_split_61 (by assumption) i2 rfl ?_
      rw [cn]
      refine am_if_eq (tgt := 72) (q := 65) dX14_split_62 rfl rfl (fun hz => absurd hz s1) (fun _ => ?_)
      refine am_aload_n (q := 66) dX14_split_65 rfl rfl ?_
      refine cm_getR (q := 69) dX14_split_66 flX14_17 rfl (by assumption) (by assumption) rfl ?_
      refine am_iload_n (q := 70) dX14_split_69 rfl rfl ?_
      refine am_iconst (q := 71) (v := 5) dX14_split_70 kc_i5 rfl ?_
      refine cm_iastore (q := 72) dX14_split_71 (by assumption) i2 rfl ?_
      rw [cn]
      exact f
  | succ m ih =>
    intro L p I hL hT hK hp ht K
    have i2 : vp_in (nI L.length) (S.ln (y + 2)) := by rw [l2]; exact vp_in_nI (by omega) (by decide)
    have i5 : vp_in (nI L.length) (S.ln (y + 5)) := by rw [l5]; exact vp_in_nI (by omega) (by decide)
    have cn : (nI L.length).toNatClampNeg = L.length := nI_clamp (by omega)
    have hp2 := spnE_le (P := isBlB) hp
    refine k_spl1 hG hZ hC (by omega) hT hK hp (fun I2 f4 tr ok o2 => ?_)
    generalize spnE isBlB E p = x at f4 tr ht hp2 ⊢
    have h400 : ¬ nI L.length = 400 := k_ne (b := 400) (by omega) (by decide) (by omega)
    have e1 := hT.2.1
    rcases tr with ⟨k, v, q, q1, q2, q3, q4, q5, q6, q7⟩ | ⟨q1, q2, _⟩
    · have tn : tkAll E kwK = tkF E (tkL E kwK m (spnE isBlB E q) (L ++ [(k, x, v)])) := by
        rw [ht, tkL, q1]
        dsimp only
        rw [if_neg (by omega)]
      have nx := ih (L ++ [(k, x, v)]) q I2 (by simp; omega) (OffS.tp hT o2) (ok.add q5 f4 q6 q4 ⟨by omega, q3⟩ q7) q3 tn (fun I1 a b g1 g2 => K I1 a b g1 (o2.tr g2))
      have ll : (L ++ [(k, x, v)]).length = L.length + 1 := by simp
      rw [ll] at nx
      have s0 : ¬ I2 (y + 2) L.length = 0 := fun z => q6.1 ((srt_one (w := 0) (q0 := 256) q5 (Or.inr (Or.inr (Or.inl ⟨rfl, rfl⟩)))).mp z)
      have s5 : ¬ I2 (y + 2) L.length = 5 := fun z => q6.2 ((srt_one (w := 5) (q0 := 257) q5 (Or.inr (Or.inr (Or.inr ⟨rfl, rfl⟩)))).mp z)
      clear ih K q5 q7 tn ht ll q1
      refine am_iload_n (q := 50) dX14_split_49 rfl rfl ?_
      refine am_sipush (q := 53) (v := 400) dX14_split_50 kc_s400 rfl ?_
      refine am_icmp_ne (tgt := 72) (q := 56) dX14_split_53 rfl rfl (fun _ => ?_) (fun hz => absurd hz h400)
      refine am_aload_n (q := 73) dX14_split_72 rfl rfl ?_
      refine cm_getR (q := 76) dX14_split_73 flX14_17 rfl (by assumption) (by assumption) rfl ?_
      refine am_iload_n (q := 77) dX14_split_76 rfl rfl ?_
      refine cm_iaload (q := 78) dX14_split_77 (by assumption) i2 rfl ?_
      rw [cn]
      refine am_if_eq (tgt := 95) (q := 81) dX14_split_78 rfl rfl (fun hz => absurd hz s0) (fun _ => ?_)
      refine am_aload_n (q := 82) dX14_split_81 rfl rfl ?_
      refine cm_getR (q := 85) dX14_split_82 flX14_17 rfl (by assumption) (by assumption) rfl ?_
      refine am_iload_n (q := 86) dX14_split_85 rfl rfl ?_
      refine cm_iaload (q := 87) dX14_split_86 (by assumption) i2 rfl ?_
      rw [cn]
      refine am_iconst (q := 88) (v := 5) dX14_split_87 kc_i5 rfl ?_
      refine am_icmp_eq (tgt := 95) (q := 91) dX14_split_88 rfl rfl (fun hz => absurd hz s5) (fun _ => ?_)
      refine am_iconst (q := 92) (v := 1) dX14_split_91 kc_i1 rfl ?_
      refine am_goto (tgt := 96) dX14_split_92 rfl ?_
      refine am_istore_n (q := 97) (ls1 := [_, _, _, _]) dX14_split_96 (Nat.le_of_ble_eq_true rfl) rfl rfl ?_
      refine am_iload_n (q := 98) dX14_split_97 rfl rfl ?_
      refine am_aload_n (q := 99) dX14_split_98 rfl rfl ?_
      refine cm_getR (q := 102) dX14_split_99 flX14_26 rfl (by assumption) (by assumption) rfl ?_
      refine am_iload_n (q := 103) dX14_split_102 rfl rfl ?_
      refine cm_iaload (q := 104) dX14_split_103 (by assumption) i5 rfl ?_
      rw [cn, q4]
      refine am_iadd (q := 105) dX14_split_104 rfl ?_
      rw [show nI x + nI (q - x) = nI q from by rw [nI_add, show x + (q - x) = q by omega]]
      refine am_istore_n (q := 106) (ls1 := [_, _, _, _]) dX14_split_105 (Nat.le_of_ble_eq_true rfl) rfl rfl ?_
      refine am_iincW (q := 109) (ls1 := [_, _, _, _]) (w := 1) dX14_split_106 rfl (Nat.le_of_ble_eq_true rfl) kc_i1 rfl rfl ?_
      refine am_goto (tgt := 6) dX14_split_109 rfl ?_
      rw [nI_1]
      exact nx
    · have e0 : tkAll E kwK = L ++ [(if x < E.1 then 257 else 256, x, 0)] := by
        rw [ht, tkL, q1, if_pos rfl]
        rfl
      rw [e0] at K
      clear ih
      refine am_iload_n (q := 50) dX14_split_49 rfl rfl ?_
      refine am_sipush (q := 53) (v := 400) dX14_split_50 kc_s400 rfl ?_
      refine am_icmp_ne (tgt := 72) (q := 56) dX14_split_53 rfl rfl (fun _ => ?_) (fun hz => absurd hz h400)
      exact k_spl0 hC (by omega) (by rw [q2]; split; exact Or.inr rfl; exact Or.inl rfl) (fun a b => K I2 a b (MTk.of (OffS.tp hT o2) ok (by omega) q2 f4) o2)
theorem k_X14_split (hG : okG G) (hZ : KS G Z) (hC : RDc S R y) (hT : TPm I y E) : Fn G mX14_split 10 [vR y] (mw S I J R) (fun rr M1 => rr = none ∧ ∃ I1, M1 = mw S I1 J R ∧ MTk I1 y (tkAll E kwK).toks ∧ ∀ x j, (x < y + 2 ∨ y + 5 < x) → I1 x j = I x j) := by
  refine am_iconst (q := 1) (v := 0) dX14_split_0 kc_i0 rfl ?_
  refine am_istore_n (q := 2) (ls1 := [_, _, _, _]) dX14_split_1 (Nat.le_of_ble_eq_true rfl) rfl rfl ?_
  refine am_iconst (q := 3) (v := 0) dX14_split_2 kc_i0 rfl ?_
  refine am_istore_n (q := 4) (ls1 := [_, _, _, _]) dX14_split_3 (Nat.le_of_ble_eq_true rfl) rfl rfl ?_
  refine am_iconst (q := 5) (v := 1) dX14_split_4 kc_i1 rfl ?_
  refine am_istore_n (q := 6) (ls1 := [_, _, _, _]) dX14_split_5 (Nat.le_of_ble_eq_true rfl) rfl rfl ?_
  refine k_tsplit hG hZ hC 400 [] 0 I rfl hT (fun i hi => absurd hi (Nat.not_lt_zero i)) (Nat.zero_le _) rfl (fun I1 a b g1 g2 => ?_)
  refine am_iload_n (q := 7) dX14_split_6 rfl rfl ?_
  refine am_if_eq (tgt := 112) (q := 10) dX14_split_7 rfl rfl (fun _ => ?_) (fun hz => absurd rfl hz)
  exact am_ret dX14_split_112 rfl ⟨_, rfl, rfl, I1, rfl, g1, g2⟩
end Rs0

