theorem dX14_both_0 : decode cX14_both 0 = .ok (.aload_n 0, 1) := by decide +kernel
theorem dX14_both_1 : decode cX14_both 1 = .ok (.dup, 1) := by decide +kernel
theorem dX14_both_2 : decode cX14_both 2 = .ok (.getfield 116, 3) := by decide +kernel
theorem dX14_both_5 : decode cX14_both 5 = .ok (.iconst 1, 1) := by decide +kernel
theorem dX14_both_6 : decode cX14_both 6 = .ok (.iadd, 1) := by decide +kernel
theorem dX14_both_7 : decode cX14_both 7 = .ok (.putfield 116, 3) := by decide +kernel
theorem dX14_both_10 : decode cX14_both 10 = .ok (.aload_n 0, 1) := by decide +kernel
theorem dX14_both_11 : decode cX14_both 11 = .ok (.iconst 4, 1) := by decide +kernel
theorem dX14_both_12 : decode cX14_both 12 = .ok (.bipush 40, 2) := by decide +kernel
theorem dX14_both_14 : decode cX14_both 14 = .ok (.invokevirtual 123, 3) := by decide +kernel
theorem dX14_both_17 : decode cX14_both 17 = .ok (.ifCond .ne 9, 3) := by decide +kernel
theorem dX14_both_20 : decode cX14_both 20 = .ok (.aload_n 0, 1) := by decide +kernel
theorem dX14_both_21 : decode cX14_both 21 = .ok (.invokevirtual 127, 3) := by decide +kernel
theorem dX14_both_24 : decode cX14_both 24 = .ok (.iconst 0, 1) := by decide +kernel
theorem dX14_both_25 : decode cX14_both 25 = .ok (.ireturn, 1) := by decide +kernel
theorem dX14_both_26 : decode cX14_both 26 = .ok (.aload_n 0, 1) := by decide +kernel
theorem dX14_both_27 : decode cX14_both 27 = .ok (.invokevirtual 183, 3) := by decide +kernel
theorem dX14_both_30 : decode cX14_both 30 = .ok (.aload_n 0, 1) := by decide +kernel
theorem dX14_both_31 : decode cX14_both 31 = .ok (.dup, 1) := by decide +kernel
theorem dX14_both_32 : decode cX14_both 32 = .ok (.getfield 116, 3) := by decide +kernel
theorem dX14_both_35 : decode cX14_both 35 = .ok (.iconst 1, 1) := by decide +kernel
theorem dX14_both_36 : decode cX14_both 36 = .ok (.iadd, 1) := by decide +kernel
theorem dX14_both_37 : decode cX14_both 37 = .ok (.putfield 116, 3) := by decide +kernel
theorem dX14_both_40 : decode cX14_both 40 = .ok (.aload_n 0, 1) := by decide +kernel
theorem dX14_both_41 : decode cX14_both 41 = .ok (.invokevirtual 195, 3) := by decide +kernel
theorem dX14_both_44 : decode cX14_both 44 = .ok (.istore_n 2, 1) := by decide +kernel
theorem dX14_both_45 : decode cX14_both 45 = .ok (.aload_n 0, 1) := by decide +kernel
theorem dX14_both_46 : decode cX14_both 46 = .ok (.iconst 4, 1) := by decide +kernel
theorem dX14_both_47 : decode cX14_both 47 = .ok (.bipush 44, 2) := by decide +kernel
theorem dX14_both_49 : decode cX14_both 49 = .ok (.invokevirtual 152, 3) := by decide +kernel
theorem dX14_both_52 : decode cX14_both 52 = .ok (.aload_n 0, 1) := by decide +kernel
theorem dX14_both_53 : decode cX14_both 53 = .ok (.invokevirtual 195, 3) := by decide +kernel
theorem dX14_both_56 : decode cX14_both 56 = .ok (.istore_n 3, 1) := by decide +kernel
theorem dX14_both_57 : decode cX14_both 57 = .ok (.aload_n 0, 1) := by decide +kernel
theorem dX14_both_58 : decode cX14_both 58 = .ok (.iconst 4, 1) := by decide +kernel
theorem dX14_both_59 : decode cX14_both 59 = .ok (.bipush 41, 2) := by decide +kernel
theorem dX14_both_61 : decode cX14_both 61 = .ok (.invokevirtual 152, 3) := by decide +kernel
theorem dX14_both_64 : decode cX14_both 64 = .ok (.aload_n 0, 1) := by decide +kernel
theorem dX14_both_65 : decode cX14_both 65 = .ok (.dup, 1) := by decide +kernel
theorem dX14_both_66 : decode cX14_both 66 = .ok (.getfield 136, 3) := by decide +kernel
theorem dX14_both_69 : decode cX14_both 69 = .ok (.iconst 1, 1) := by decide +kernel
theorem dX14_both_70 : decode cX14_both 70 = .ok (.isub, 1) := by decide +kernel
theorem dX14_both_71 : decode cX14_both 71 = .ok (.putfield 136, 3) := by decide +kernel
theorem dX14_both_74 : decode cX14_both 74 = .ok (.aload_n 0, 1) := by decide +kernel
theorem dX14_both_75 : decode cX14_both 75 = .ok (.getfield 36, 3) := by decide +kernel
theorem dX14_both_78 : decode cX14_both 78 = .ok (.iload_n 1, 1) := by decide +kernel
theorem dX14_both_79 : decode cX14_both 79 = .ok (.iload_n 2, 1) := by decide +kernel
theorem dX14_both_80 : decode cX14_both 80 = .ok (.iload_n 3, 1) := by decide +kernel
theorem dX14_both_81 : decode cX14_both 81 = .ok (.invokevirtual 162, 3) := by decide +kernel
theorem dX14_both_84 : decode cX14_both 84 = .ok (.ireturn, 1) := by decide +kernel
theorem dX14_inner_0 : decode cX14_inner 0 = .ok (.aload_n 0, 1) := by decide +kernel
theorem dX14_inner_1 : decode cX14_inner 1 = .ok (.invokevirtual 183, 3) := by decide +kernel
theorem dX14_inner_4 : decode cX14_inner 4 = .ok (.aload_n 0, 1) := by decide +kernel
theorem dX14_inner_5 : decode cX14_inner 5 = .ok (.dup, 1) := by decide +kernel
theorem dX14_inner_6 : decode cX14_inner 6 = .ok (.getfield 116, 3) := by decide +kernel
theorem dX14_inner_9 : decode cX14_inner 9 = .ok (.iconst 1, 1) := by decide +kernel
theorem dX14_inner_10 : decode cX14_inner 10 = .ok (.iadd, 1) := by decide +kernel
theorem dX14_inner_11 : decode cX14_inner 11 = .ok (.putfield 116, 3) := by decide +kernel
theorem dX14_inner_14 : decode cX14_inner 14 = .ok (.aload_n 0, 1) := by decide +kernel
theorem dX14_inner_15 : decode cX14_inner 15 = .ok (.invokevirtual 195, 3) := by decide +kernel
theorem dX14_inner_18 : decode cX14_inner 18 = .ok (.istore_n 1, 1) := by decide +kernel
theorem dX14_inner_19 : decode cX14_inner 19 = .ok (.aload_n 0, 1) := by decide +kernel
theorem dX14_inner_20 : decode cX14_inner 20 = .ok (.iconst 4, 1) := by decide +kernel
theorem dX14_inner_21 : decode cX14_inner 21 = .ok (.bipush 41, 2) := by decide +kernel
theorem dX14_inner_23 : decode cX14_inner 23 = .ok (.invokevirtual 152, 3) := by decide +kernel
theorem dX14_inner_26 : decode cX14_inner 26 = .ok (.aload_n 0, 1) := by decide +kernel
theorem dX14_inner_27 : decode cX14_inner 27 = .ok (.dup, 1) := by decide +kernel
theorem dX14_inner_28 : decode cX14_inner 28 = .ok (.getfield 136, 3) := by decide +kernel
theorem dX14_inner_31 : decode cX14_inner 31 = .ok (.iconst 1, 1) := by decide +kernel
theorem dX14_inner_32 : decode cX14_inner 32 = .ok (.isub, 1) := by decide +kernel
theorem dX14_inner_33 : decode cX14_inner 33 = .ok (.putfield 136, 3) := by decide +kernel
theorem dX14_inner_36 : decode cX14_inner 36 = .ok (.iload_n 1, 1) := by decide +kernel
theorem dX14_inner_37 : decode cX14_inner 37 = .ok (.ireturn, 1) := by decide +kernel
/-! the reference: sums in brackets; pairs -/
section Bt
variable {G : Gp} {S : AMem} {I I1 : Nat → Nat → Int32} {J : Nat → Nat → Int64} {R : Nat → Nat → Option Nat} {y bl nx : Nat} {T : Toks} {ix : Int32 → Int64 → Int32} {N : Nat × Nat × Nat} {s s1 : PS × Cd} {a k d dv : Nat} {V : PS × Cd → PS × Cd}
theorem eRef_e : (eRef T s).1.2.1 = 1 := pRef_1
theorem eDp_lt {kk : Int32} (h : d < 8) : eDp T kk d s = eEx T kk s := by
  unfold eDp pDp
  rw [if_pos h]
  rfl
theorem eDp_ge {kk : Int32} (h : ¬ d < 8) : eDp T kk d s = eRef T s := by
  unfold eDp pDp
  rw [if_neg h]
  rfl
theorem k_sumV (hG : okG G) (hC : MCc S R y bl nx) (hdv : 1 ≤ dv) (v0 : KE0 V) (hV : KM G S J R y nx T ix N NdN mX14_one dv d V) : KM G S J R y nx T ix N NdN mX14_sum (dv + 2) d (eSu T V) :=
  k_X14_sum hG hC (by omega) (fun s hs => v0 s (eLoop_0 v0 400 _ hs)) (k_X14_product hG hC hdv v0 hV)
/-- the depth is taken back -/
theorem k_up {I1 : Nat → Nat → Int32} (hC : MCc S R y bl nx) (h : PC I y nx T ix N s (d + 1) a k) (e : ∀ x j, I1 x j = if x = y ∧ j = 14 then nI d else I x j) : PC I1 y nx T ix N s d a k ∧ OffM y nx k I I1 := h.dp hC e
/-- a token is passed by after it has failed -/
theorem PC.skip {I1 : Nat → Nat → Int32} (hC : MCc S R y bl nx) (h : PC I y nx T ix N s d a k) (h1 : s.1.2.1 = 1) (ha : a < T.n) (e : ∀ x j, I1 x j = if x = y ∧ j = 13 then nI (a + 1) else I x j) : PC I1 y nx T ix N s d (a + 1) k ∧ OffM y nx k I I1 := by
  obtain ⟨p1, p2, p3, p4, p5⟩ := hC.lo
  exact ⟨h.fmv hC h1 (fun x j p _ _ => by rw [e, if_neg (by omega)]) (by rw [e, if_pos ⟨rfl, rfl⟩]) ha (by rw [e, if_neg (by omega)]; exact h.2.1.2.2.1) (by have := h.2.1.2.2.2.1; omega) (by rw [e, if_neg (by omega)]; exact h.2.1.2.2.2.2), fun x j p q r => by rw [e, if_neg (fun z => by have := p z.1; omega)]⟩
theorem k_X14_inner (hG : okG G) (hC : MCc S R y bl nx) (hdv : 2 ≤ dv) (hd : d < 9) (v0 : KE0 V) (hV : d < 8 → KM G S J R y nx T ix N NdN mX14_one dv (d + 1) V) (h : PC I y nx T ix N s d a k) (hk : pK T s.1 = 40) : Fn G mX14_inner (dv + 3) [vR y] (mw S I J R) (fun rr M1 => QM S J R y nx T ix N NdN d I a k s (if (eDp T 40 d s).1.2.1 = 1 then eDp T 40 d s else eEx T 41 (eSu T V (eDp T 40 d s))) rr M1) := by
  have ky := hC.1.1
  have hg := PC.ng (by decide) hk
  obtain ⟨e1, e2, e3⟩ := h.kind hg
  have hdp := k_X14_deeper (G := G) (J := J) hG hC h (by omega)
  by_cases c : d < 8
  · rw [eDp_lt c, if_neg (eEx_ok hk hg).1]
    rw [if_neg (show ¬ d = 8 by omega)] at hdp
    have hz : (pK T s.1 = 40 ∧ s.1.2.1 ≠ 1) ∧ True := ⟨⟨hk, hg⟩, trivial⟩
    clear hk hg e1 e3
    have hS := k_sumV hG hC (by omega) v0 (hV c)
    refine am_aload_n (q := 1) dX14_inner_0 rfl rfl ?_
    refine cm_call0 (q := 4) (As := []) hG dX14_inner_1 mlX14_183 rfl (by assumption) ⟨_, _, rfl⟩ (Nat.le_of_ble_eq_true rfl) (Nat.le_of_ble_eq_true rfl) (by omega) (Nat.le_of_ble_eq_true rfl) hdp rfl ?_
    rintro _ _ ⟨rfl, I1, rfl, g1, g2⟩
    have h13 := g1.2.1.1
    have I2h : ∀ x j, up2 I1 y 13 (nI (a + 1)) x j = if x = y ∧ j = 13 then nI (a + 1) else I1 x j := fun x j => up2_at _ _
    obtain ⟨d1, d2⟩ := g1.eat hC hz.1.2 hz.1.1 (by decide) (by decide) I2h
    refine am_aload_n (q := 5) dX14_inner_4 rfl rfl ?_
    refine am_dup (q := 6) dX14_inner_5 rfl rfl ?_
    refine cm_getI (q := 9) dX14_inner_6 flX14_116 rfl (by assumption) rfl ?_
    rw [h13]
    refine am_iconst (q := 10) (v := 1) dX14_inner_9 kc_i1 rfl ?_
    refine am_iadd (q := 11) dX14_inner_10 rfl ?_
    refine cm_putI (q := 14) dX14_inner_11 flX14_116 rfl (Or.inl rfl) (Or.inl rfl) (by assumption) rfl ?_
    rw [nI_1]
    generalize up2 I1 y 13 (nI (a + 1)) = I2 at I2h d1 d2 ⊢
    have e23 : (eEx T 40 s).2 = s.2 := rfl
    have s0 := eSu_0 (T := T) v0
    generalize eEx T 40 s = s2 at d1 e23 ⊢
    have hS1 := hS I2 s2 (a + 1) k d1 (by omega)
    generalize eSu T V s2 = s3 at hS1 ⊢
    refine am_aload_n (q := 15) dX14_inner_14 rfl rfl ?_
    refine cm_call0 (q := 18) (As := []) hG dX14_inner_15 mlX14_195 rfl (by assumption) ⟨_, _, rfl⟩ (Nat.le_of_ble_eq_true rfl) (Nat.le_of_ble_eq_true rfl) (by omega) (Nat.le_of_ble_eq_true rfl) hS1 rfl ?_
    rintro _ _ ⟨n, I3, a3, k3, rfl, rfl, t1, t2, t3, t4⟩
    refine am_istore_n (q := 19) (ls1 := [_, _]) dX14_inner_18 (Nat.le_of_ble_eq_true rfl) rfl rfl ?_
    have z2 : (eEx T 41 s3).1.2.1 = 0 → s3.1.2.1 = 0 := fun z => eEx_0 z
    have e24 : (eEx T 41 s3).2 = s3.2 := rfl
    refine am_aload_n (q := 20) dX14_inner_19 rfl rfl ?_
    refine am_iconst (q := 21) (v := 4) dX14_inner_20 kc_i4 rfl ?_
    refine am_bipush (q := 23) (v := 41) dX14_inner_21 kc_b41 rfl ?_
    refine cm_call0 (q := 26) (As := [_, _]) hG dX14_inner_23 mlX14_152 rfl (by assumption) ⟨_, _, rfl⟩ (Nat.le_of_ble_eq_true rfl) (Nat.le_of_ble_eq_true rfl) (by omega) (Nat.le_of_ble_eq_true rfl) (k_X14_take (kk := nI 41) hG hC t1 (by decide) (by decide) (sg_all (c := 41) (by decide))) rfl ?_
    rintro _ _ ⟨rfl, I4, a4, rfl, (u1 : PC I4 y nx T ix N (eEx T 41 s3) (d + 1) a4 k3), u2, u3⟩
    generalize eEx T 41 s3 = s4 at u1 z2 e24 ⊢
    have h14 := u1.2.1.2.2.2.2
    have I5h : ∀ x j, up2 I4 y 14 (nI d) x j = if x = y ∧ j = 14 then nI d else I4 x j := fun x j => up2_at _ _
    obtain ⟨w1, w2⟩ := k_up hC u1 I5h
    have res : s4.1.2.1 = 0 → NRx NdN (up2 I4 y 14 (nI d)) nx N s.2 s4.2 n := by
      intro z
      have z0 := z2 z
      have n1 := t4 z0
      have l1 := (t1.len z0).1
      rw [e23] at n1
      rw [e24]
      exact n1.off NdN_w hC (u3.tr w2 (Nat.le_refl _)) (by omega)
    clear t4 z2
    refine am_aload_n (q := 27) dX14_inner_26 rfl rfl ?_
    refine am_dup (q := 28) dX14_inner_27 rfl rfl ?_
    refine cm_getI (q := 31) dX14_inner_28 flX14_136 rfl (by assumption) rfl ?_
    rw [h14]
    refine am_iconst (q := 32) (v := 1) dX14_inner_31 kc_i1 rfl ?_
    refine am_isub (q := 33) dX14_inner_32 rfl ?_
    rw [nI_pred]
    refine cm_putI (q := 36) dX14_inner_33 flX14_136 rfl (Or.inl rfl) (Or.inl rfl) (by assumption) rfl ?_
    refine am_iload_n (q := 37) dX14_inner_36 rfl rfl ?_
    exact am_iret dX14_inner_37 rfl rfl ⟨_, rfl, n, _, a4, k3, rfl, rfl, w1, ⟨by omega, by omega, by omega⟩, (((g2.tr d2 (Nat.le_refl _)).tr t3 (Nat.le_refl _)).tr u3 t2.2.2).tr w2 t2.2.2, res⟩
  · have d8 : d = 8 := by omega
    subst d8
    rw [eDp_ge c, if_pos eRef_e]
    rw [if_pos rfl] at hdp
    have er : (eRef T s).1.2.1 = 1 := pRef_1
    have er2 : (eEx T 41 (eRef T s)).1 = (eRef T s).1 := eEx_f1 (by decide) _ er
    have hS := kz_sum (G := G) (J := J) (T := T) (ix := ix) (N := N) hC hG
    have nz : (eRef T s).1.2.1 = 0 → ∀ P : Prop, P := fun z => absurd (er.symm.trans z) (by decide)
    clear hk hg e1 e3 c
    generalize eRef T s = s2 at hdp er er2 nz ⊢
    refine am_aload_n (q := 1) dX14_inner_0 rfl rfl ?_
    refine cm_call0 (q := 4) (As := []) hG dX14_inner_1 mlX14_183 rfl (by assumption) ⟨_, _, rfl⟩ (Nat.le_of_ble_eq_true rfl) (Nat.le_of_ble_eq_true rfl) (by omega) (Nat.le_of_ble_eq_true rfl) hdp rfl ?_
    rintro _ _ ⟨rfl, I1, rfl, g1, g2⟩
    have h13 := g1.2.1.1
    have I2h : ∀ x j, up2 I1 y 13 (nI (a + 1)) x j = if x = y ∧ j = 13 then nI (a + 1) else I1 x j := fun x j => up2_at _ _
    obtain ⟨d1, d2⟩ := g1.skip hC er e2 I2h
    refine am_aload_n (q := 5) dX14_inner_4 rfl rfl ?_
    refine am_dup (q := 6) dX14_inner_5 rfl rfl ?_
    refine cm_getI (q := 9) dX14_inner_6 flX14_116 rfl (by assumption) rfl ?_
    rw [h13]
    refine am_iconst (q := 10) (v := 1) dX14_inner_9 kc_i1 rfl ?_
    refine am_iadd (q := 11) dX14_inner_10 rfl ?_
    refine cm_putI (q := 14) dX14_inner_11 flX14_116 rfl (Or.inl rfl) (Or.inl rfl) (by assumption) rfl ?_
    rw [nI_1]
    generalize up2 I1 y 13 (nI (a + 1)) = I2 at I2h d1 d2 ⊢
    have hS2 := hS I2 s2 _ _ _ d1 er
    have hz : (s2.1.2.1 = 1 ∧ (eEx T 41 s2).1 = s2.1) ∧ True := ⟨⟨er, er2⟩, trivial⟩
    clear er er2
    refine am_aload_n (q := 15) dX14_inner_14 rfl rfl ?_
    refine cm_call0 (q := 18) (As := []) hG dX14_inner_15 mlX14_195 rfl (by assumption) ⟨_, _, rfl⟩ (Nat.le_of_ble_eq_true rfl) (Nat.le_of_ble_eq_true rfl) (by omega) (Nat.le_of_ble_eq_true rfl) hS2 rfl ?_
    rintro _ _ ⟨n, I3, rfl, rfl, t1, t3⟩
    refine am_istore_n (q := 19) (ls1 := [_, _]) dX14_inner_18 (Nat.le_of_ble_eq_true rfl) rfl rfl ?_
    refine am_aload_n (q := 20) dX14_inner_19 rfl rfl ?_
    refine am_iconst (q := 21) (v := 4) dX14_inner_20 kc_i4 rfl ?_
    refine am_bipush (q := 23) (v := 41) dX14_inner_21 kc_b41 rfl ?_
    refine cm_call0 (q := 26) (As := [_, _]) hG dX14_inner_23 mlX14_152 rfl (by assumption) ⟨_, _, rfl⟩ (Nat.le_of_ble_eq_true rfl) (Nat.le_of_ble_eq_true rfl) (by omega) (Nat.le_of_ble_eq_true rfl) (k_X14_take (kk := nI 41) hG hC t1 (by decide) (by decide) (sg_all (c := 41) (by decide))) rfl ?_
    rintro _ _ ⟨rfl, I4, a4, rfl, (u0 : PC I4 y nx T ix N (eEx T 41 s2) 9 a4 k), u2, u3⟩
    have u1 : PC I4 y nx T ix N s2 9 a4 k := u0.fl (by rw [hz.1.2]; exact hz.1.1) hz.1.2.symm
    have h14 := u1.2.1.2.2.2.2
    have I5h : ∀ x j, up2 I4 y 14 (nI 8) x j = if x = y ∧ j = 14 then nI 8 else I4 x j := fun x j => up2_at _ _
    obtain ⟨w1, w2⟩ := k_up hC u1 I5h
    refine am_aload_n (q := 27) dX14_inner_26 rfl rfl ?_
    refine am_dup (q := 28) dX14_inner_27 rfl rfl ?_
    refine cm_getI (q := 31) dX14_inner_28 flX14_136 rfl (by assumption) rfl ?_
    rw [h14]
    refine am_iconst (q := 32) (v := 1) dX14_inner_31 kc_i1 rfl ?_
    refine am_isub (q := 33) dX14_inner_32 rfl ?_
    rw [nI_pred]
    refine cm_putI (q := 36) dX14_inner_33 flX14_136 rfl (Or.inl rfl) (Or.inl rfl) (by assumption) rfl ?_
    refine am_iload_n (q := 37) dX14_inner_36 rfl rfl ?_
    exact am_iret dX14_inner_37 rfl rfl ⟨_, rfl, n, _, a4, k, rfl, rfl, w1, ⟨by omega, by omega, by omega⟩, (((g2.tr d2 (Nat.le_refl _)).tr t3 (Nat.le_refl _)).tr u3 (Nat.le_refl _)).tr w2 (Nat.le_refl _), fun z => nz z _⟩
theorem k_X14_both {j : Nat} (hG : okG G) (hC : MCc S R y bl nx) (hdv : 2 ≤ dv) (hd : d < 9) (v0 : KE0 V) (hV : d < 8 → KM G S J R y nx T ix N NdN mX14_one dv (d + 1) V) (h : PC I y nx T ix N s d a k) (hj : j = 30 ∨ j = 31) (hk : pK T s.1 = nI (300 + j)) : Fn G mX14_both (dv + 3) [vR y, vI (nI j)] (mw S I J R) (fun rr M1 => QM S J R y nx T ix N NdN d I a k s (ePair T V d (nI (300 + j)) (eEx T (nI (300 + j)) s)) rr M1) := by
  have ky := hC.1.1
  have kb := hC.2.2.2.2.2.2.2.2.1.1
  have rn := hC.2.2.2.2.2.2.1
  have k7 : nI (300 + j) ≠ 257 := k_ne (b := 257) (by omega) (by decide) (by omega)
  have k6 : nI (300 + j) ≠ 256 := k_ne (b := 256) (by omega) (by decide) (by omega)
  have hg := PC.ng k7 hk
  obtain ⟨e1, e2, e3⟩ := h.kind hg
  have h13 := h.2.1.1
  have hka := h.2.1.2.2.2.1
  have I2h : ∀ x j, up2 I y 13 (nI (a + 1)) x j = if x = y ∧ j = 13 then nI (a + 1) else I x j := fun x j => up2_at _ _
  obtain ⟨d1, d2⟩ := h.eat hC hg hk k6 k7 I2h
  have ok := (eEx_ok hk hg).1
  have e22 : (eEx T (nI (300 + j)) s).2 = s.2 := rfl
  refine am_aload_n (q := 1) dX14_both_0 rfl rfl ?_
  refine am_dup (q := 2) dX14_both_1 rfl rfl ?_
  refine cm_getI (q := 5) dX14_both_2 flX14_116 rfl (by assumption) rfl ?_
  rw [h13]
  refine am_iconst (q := 6) (v := 1) dX14_both_5 kc_i1 rfl ?_
  refine am_iadd (q := 7) dX14_both_6 rfl ?_
  refine cm_putI (q := 10) dX14_both_7 flX14_116 rfl (Or.inl rfl) (Or.inl rfl) (by assumption) rfl ?_
  rw [nI_1]
  generalize up2 I y 13 (nI (a + 1)) = I2 at I2h d1 d2 ⊢
  clear hk hg e1 e3
  generalize eEx T (nI (300 + j)) s = s1 at d1 ok e22 ⊢
  obtain ⟨f1, f2, f3⟩ := d1.kind ok
  refine am_aload_n (q := 11) dX14_both_10 rfl rfl ?_
  refine am_iconst (q := 12) (v := 4) dX14_both_11 kc_i4 rfl ?_
  refine am_bipush (q := 14) (v := 40) dX14_both_12 kc_b40 rfl ?_
  refine cm_call0 (q := 17) (As := [_, _]) hG dX14_both_14 mlX14_123 rfl (by assumption) ⟨_, _, rfl⟩ (Nat.le_of_ble_eq_true rfl) (Nat.le_of_ble_eq_true rfl) (by omega) (Nat.le_of_ble_eq_true rfl) (k_X14_is (kk := nI 40) hG hC d1 (by decide) (sg_all (c := 40) (by decide))) rfl ?_
  rintro _ _ ⟨rfl, rfl⟩
  unfold ePair
  by_cases c4 : pK T s1.1 = 40
  · rw [bI_t (c := pK T s1.1 = nI 40) c4]
    have hdp := k_X14_deeper (G := G) (J := J) hG hC d1 (by omega)
    by_cases c : d < 8
    · rw [eDp_lt c, if_neg (eEx_ok c4 ok).1]
      rw [if_neg (show ¬ d = 8 by omega)] at hdp
      have hz : (pK T s1.1 = 40 ∧ s1.1.2.1 ≠ 1) ∧ True := ⟨⟨c4, ok⟩, trivial⟩
      clear c4 ok f1 f3
      have hS := k_sumV hG hC (by omega) v0 (hV c)
      have s0 := eSu_0 (T := T) v0
      refine am_if_ne (tgt := 26) (q := 20) dX14_both_17 rfl rfl (fun _ => ?_) (fun hz => absurd hz (by decide))
      refine am_aload_n (q := 27) dX14_both_26 rfl rfl ?_
      refine cm_call0 (q := 30) (As := []) hG dX14_both_27 mlX14_183 rfl (by assumption) ⟨_, _, rfl⟩ (Nat.le_of_ble_eq_true rfl) (Nat.le_of_ble_eq_true rfl) (by omega) (Nat.le_of_ble_eq_true rfl) hdp rfl ?_
      rintro _ _ ⟨rfl, I3, rfl, g1, g2⟩
      have g13 := g1.2.1.1
      have I4h : ∀ x j, up2 I3 y 13 (nI (a + 1 + 1)) x j = if x = y ∧ j = 13 then nI (a + 1 + 1) else I3 x j := fun x j => up2_at _ _
      obtain ⟨b1, b2⟩ := g1.eat hC hz.1.2 hz.1.1 (by decide) (by decide) I4h
      refine am_aload_n (q := 31) dX14_both_30 rfl rfl ?_
      refine am_dup (q := 32) dX14_both_31 rfl rfl ?_
      refine cm_getI (q := 35) dX14_both_32 flX14_116 rfl (by assumption) rfl ?_
      rw [g13]
      refine am_iconst (q := 36) (v := 1) dX14_both_35 kc_i1 rfl ?_
      refine am_iadd (q := 37) dX14_both_36 rfl ?_
      refine cm_putI (q := 40) dX14_both_37 flX14_116 rfl (Or.inl rfl) (Or.inl rfl) (by assumption) rfl ?_
      rw [nI_1]
      generalize up2 I3 y 13 (nI (a + 1 + 1)) = I4 at I4h b1 b2 ⊢
      have e23 : (eEx T 40 s1).2 = s.2 := e22
      generalize eEx T 40 s1 = s2 at b1 e23 ⊢
      have hS1 := hS I4 s2 (a + 1 + 1) k b1 (by omega)
      have z1 := s0 s2
      generalize eSu T V s2 = s3 at hS1 z1 ⊢
      refine am_aload_n (q := 41) dX14_both_40 rfl rfl ?_
      refine cm_call0 (q := 44) (As := []) hG dX14_both_41 mlX14_195 rfl (by assumption) ⟨_, _, rfl⟩ (Nat.le_of_ble_eq_true rfl) (Nat.le_of_ble_eq_true rfl) (by omega) (Nat.le_of_ble_eq_true rfl) hS1 rfl ?_
      rintro _ _ ⟨n, I5, a5, k5, rfl, rfl, t1, t2, t3, t4⟩
      refine am_istore_n (q := 45) (ls1 := [_, _, _, _]) dX14_both_44 (Nat.le_of_ble_eq_true rfl) rfl rfl ?_
      have z2 : (eEx T 44 s3).1.2.1 = 0 → s3.1.2.1 = 0 := fun z => eEx_0 z
      have e24 : (eEx T 44 s3).2 = s3.2 := rfl
      refine am_aload_n (q := 46) dX14_both_45 rfl rfl ?_
      refine am_iconst (q := 47) (v := 4) dX14_both_46 kc_i4 rfl ?_
      refine am_bipush (q := 49) (v := 44) dX14_both_47 kc_b44 rfl ?_
      refine cm_call0 (q := 52) (As := [_, _]) hG dX14_both_49 mlX14_152 rfl (by assumption) ⟨_, _, rfl⟩ (Nat.le_of_ble_eq_true rfl) (Nat.le_of_ble_eq_true rfl) (by omega) (Nat.le_of_ble_eq_true rfl) (k_X14_take (kk := nI 44) hG hC t1 (by decide) (by decide) (sg_all (c := 44) (by decide))) rfl ?_
      rintro _ _ ⟨rfl, I6, a6, rfl, (u1 : PC I6 y nx T ix N (eEx T 44 s3) (d + 1) a6 k5), u2, u3⟩
      generalize eEx T 44 s3 = s4 at u1 z2 e24 ⊢
      have hS2 := hS I6 s4 a6 k5 u1 (by omega)
      have z3 := s0 s4
      generalize eSu T V s4 = s5 at hS2 z3 ⊢
      refine am_aload_n (q := 53) dX14_both_52 rfl rfl ?_
      refine cm_call0 (q := 56) (As := []) hG dX14_both_53 mlX14_195 rfl (by assumption) ⟨_, _, rfl⟩ (Nat.le_of_ble_eq_true rfl) (Nat.le_of_ble_eq_true rfl) (by omega) (Nat.le_of_ble_eq_true rfl) hS2 rfl ?_
      rintro _ _ ⟨m, I7, a7, k7, rfl, rfl, r1, r2, r3, r4⟩
      refine am_istore_n (q := 57) (ls1 := [_, _, _, _]) dX14_both_56 (Nat.le_of_ble_eq_true rfl) rfl rfl ?_
      have z4 : (eEx T 41 s5).1.2.1 = 0 → s5.1.2.1 = 0 := fun z => eEx_0 z
      have e25 : (eEx T 41 s5).2 = s5.2 := rfl
      refine am_aload_n (q := 58) dX14_both_57 rfl rfl ?_
      refine am_iconst (q := 59) (v := 4) dX14_both_58 kc_i4 rfl ?_
      refine am_bipush (q := 61) (v := 41) dX14_both_59 kc_b41 rfl ?_
      refine cm_call0 (q := 64) (As := [_, _]) hG dX14_both_61 mlX14_152 rfl (by assumption) ⟨_, _, rfl⟩ (Nat.le_of_ble_eq_true rfl) (Nat.le_of_ble_eq_true rfl) (by omega) (Nat.le_of_ble_eq_true rfl) (k_X14_take (kk := nI 41) hG hC r1 (by decide) (by decide) (sg_all (c := 41) (by decide))) rfl ?_
      rintro _ _ ⟨rfl, I8, a8, rfl, (o1 : PC I8 y nx T ix N (eEx T 41 s5) (d + 1) a8 k7), o2, o3⟩
      generalize eEx T 41 s5 = s6 at o1 z4 e25 ⊢
      have h14 := o1.2.1.2.2.2.2
      have I9h : ∀ x j, up2 I8 y 14 (nI d) x j = if x = y ∧ j = 14 then nI d else I8 x j := fun x j => up2_at _ _
      obtain ⟨w1, w2⟩ := k_up hC o1 I9h
      refine am_aload_n (q := 65) dX14_both_64 rfl rfl ?_
      refine am_dup (q := 66) dX14_both_65 rfl rfl ?_
      refine cm_getI (q := 69) dX14_both_66 flX14_136 rfl (by assumption) rfl ?_
      rw [h14]
      refine am_iconst (q := 70) (v := 1) dX14_both_69 kc_i1 rfl ?_
      refine am_isub (q := 71) dX14_both_70 rfl ?_
      rw [nI_pred]
      refine cm_putI (q := 74) dX14_both_71 flX14_136 rfl (Or.inl rfl) (Or.inl rfl) (by assumption) rfl ?_
      generalize up2 I8 y 14 (nI d) = I9 at I9h w1 w2 ⊢
      obtain ⟨x1, x2, x3⟩ := w1.nd (w := nI j) (u := nI n) (v := nI m) (kk := nI (300 + j)) (g := 0) hC (by omega)
      have h10 := w1.2.1.2.2.1
      have ndc := k_X12_node (G := G) (J := J) (I := I9) (w := nI j) (u := nI n) (v := nI m) hC h10 x3
      have res : (eAd (nI (300 + j)) 0 s6).1.2.1 = 0 → NRx NdN (ndI I9 nx k7 (nI j) (nI n) (nI m)) nx N s.2 (eAd (nI (300 + j)) 0 s6).2 k7 := by
        intro z
        have y5 := z4 z
        have y3 := z2 (z3 y5)
        have n1 := t4 y3
        have n2 := r4 y5
        rw [e23] at n1
        rw [e24] at n2
        have l1 := (t1.len y3).1
        have l2 := (r1.len y5)
        have hT := h.1.2.1
        show NRx NdN (ndI I9 nx k7 (nI j) (nI n) (nI m)) nx N s.2 (adC s6.2 (nI (300 + j), 0)) k7
        rw [e25]
        refine NRx.bn hC n1 (n2.off NdN_w hC (o3.tr w2 (Nat.le_refl _)) (by omega)) (((u3.tr r3 (Nat.le_refl _)).tr o3 r2.2.2).tr w2 r2.2.2) (by omega) l2.1 (by omega) ?_
        rcases hj with r | r
        · exact Or.inl ⟨by rw [r]; rfl, by rw [r]; rfl⟩
        · exact Or.inr (Or.inl ⟨by rw [r]; rfl, by rw [r]; rfl⟩)
      clear t4 r4 z1 z2 z3 z4
      generalize eAd (nI (300 + j)) 0 s6 = s7 at x1 res ⊢
      refine am_aload_n (q := 75) dX14_both_74 rfl rfl ?_
      refine cm_getR (q := 78) dX14_both_75 flX14_36 rfl (by assumption) (by assumption) rfl ?_
      refine am_iload_n (q := 79) dX14_both_78 rfl rfl ?_
      refine am_iload_n (q := 80) dX14_both_79 rfl rfl ?_
      refine am_iload_n (q := 81) dX14_both_80 rfl rfl ?_
      refine cm_call0 (q := 84) (As := [_, _, _]) hG dX14_both_81 mlX14_162 rfl (by assumption) ⟨_, _, rfl⟩ (Nat.le_of_ble_eq_true rfl) (Nat.le_of_ble_eq_true rfl) (by omega) (Nat.le_of_ble_eq_true rfl) ndc rfl ?_
      rintro _ _ ⟨rfl, rfl⟩
      exact am_iret dX14_both_84 rfl rfl ⟨_, rfl, k7, _, a8, k7 + 1, rfl, rfl, x1, ⟨by omega, by omega, by omega⟩, ((((((((d2.tr g2 (Nat.le_refl _)).tr b2 (Nat.le_refl _)).tr t3 (Nat.le_refl _)).tr u3 t2.2.2).tr r3 t2.2.2).tr o3 (by omega)).tr w2 (by omega)).tr x2 (by omega)), res⟩
    · have d8 : d = 8 := by omega
      subst d8
      rw [eDp_ge c, if_pos eRef_e]
      rw [if_pos rfl] at hdp
      have er : (eRef T s1).1.2.1 = 1 := pRef_1
      have er2 : (eEx T 41 (eRef T s1)).1 = (eRef T s1).1 := eEx_f1 (by decide) _ er
      have er3 : (eEx T 44 (eRef T s1)).1 = (eRef T s1).1 := eEx_f1 (by decide) _ er
      have hS := kz_sum (G := G) (J := J) (T := T) (ix := ix) (N := N) hC hG
      have nz : (eRef T s1).1.2.1 = 0 → ∀ P : Prop, P := fun z => absurd (er.symm.trans z) (by decide)
      clear c4 ok f1 f3 c
      generalize eRef T s1 = s2 at hdp er er2 er3 nz ⊢
      refine am_if_ne (tgt := 26) (q := 20) dX14_both_17 rfl rfl (fun _ => ?_) (fun hz => absurd hz (by decide))
      refine am_aload_n (q := 27) dX14_both_26 rfl rfl ?_
      refine cm_call0 (q := 30) (As := []) hG dX14_both_27 mlX14_183 rfl (by assumption) ⟨_, _, rfl⟩ (Nat.le_of_ble_eq_true rfl) (Nat.le_of_ble_eq_true rfl) (by omega) (Nat.le_of_ble_eq_true rfl) hdp rfl ?_
      rintro _ _ ⟨rfl, I3, rfl, g1, g2⟩
      have g13 := g1.2.1.1
      have I4h : ∀ x j, up2 I3 y 13 (nI (a + 1 + 1)) x j = if x = y ∧ j = 13 then nI (a + 1 + 1) else I3 x j := fun x j => up2_at _ _
      obtain ⟨b1, b2⟩ := g1.skip hC er f2 I4h
      refine am_aload_n (q := 31) dX14_both_30 rfl rfl ?_
      refine am_dup (q := 32) dX14_both_31 rfl rfl ?_
      refine cm_getI (q := 35) dX14_both_32 flX14_116 rfl (by assumption) rfl ?_
      rw [g13]
      refine am_iconst (q := 36) (v := 1) dX14_both_35 kc_i1 rfl ?_
      refine am_iadd (q := 37) dX14_both_36 rfl ?_
      refine cm_putI (q := 40) dX14_both_37 flX14_116 rfl (Or.inl rfl) (Or.inl rfl) (by assumption) rfl ?_
      rw [nI_1]
      generalize up2 I3 y 13 (nI (a + 1 + 1)) = I4 at I4h b1 b2 ⊢
      have hS1 := hS I4 s2 _ _ _ b1 er
      have hz : (s2.1.2.1 = 1 ∧ (eEx T 41 s2).1 = s2.1 ∧ (eEx T 44 s2).1 = s2.1) ∧ True := ⟨⟨er, er2, er3⟩, trivial⟩
      clear er er2 er3
      refine am_aload_n (q := 41) dX14_both_40 rfl rfl ?_
      refine cm_call0 (q := 44) (As := []) hG dX14_both_41 mlX14_195 rfl (by assumption) ⟨_, _, rfl⟩ (Nat.le_of_ble_eq_true rfl) (Nat.le_of_ble_eq_true rfl) (by omega) (Nat.le_of_ble_eq_true rfl) hS1 rfl ?_
      rintro _ _ ⟨n, I5, rfl, rfl, t1, t3⟩
      refine am_istore_n (q := 45) (ls1 := [_, _, _, _]) dX14_both_44 (Nat.le_of_ble_eq_true rfl) rfl rfl ?_
      refine am_aload_n (q := 46) dX14_both_45 rfl rfl ?_
      refine am_iconst (q := 47) (v := 4) dX14_both_46 kc_i4 rfl ?_
      refine am_bipush (q := 49) (v := 44) dX14_both_47 kc_b44 rfl ?_
      refine cm_call0 (q := 52) (As := [_, _]) hG dX14_both_49 mlX14_152 rfl (by assumption) ⟨_, _, rfl⟩ (Nat.le_of_ble_eq_true rfl) (Nat.le_of_ble_eq_true rfl) (by omega) (Nat.le_of_ble_eq_true rfl) (k_X14_take (kk := nI 44) hG hC t1 (by decide) (by decide) (sg_all (c := 44) (by decide))) rfl ?_
      rintro _ _ ⟨rfl, I6, a6, rfl, (u0 : PC I6 y nx T ix N (eEx T 44 s2) 9 a6 k), u2, u3⟩
      have u1 : PC I6 y nx T ix N s2 9 a6 k := u0.fl (by rw [hz.1.2.2]; exact hz.1.1) hz.1.2.2.symm
      have hS2 := hS I6 s2 _ _ _ u1 hz.1.1
      refine am_aload_n (q := 53) dX14_both_52 rfl rfl ?_
      refine cm_call0 (q := 56) (As := []) hG dX14_both_53 mlX14_195 rfl (by assumption) ⟨_, _, rfl⟩ (Nat.le_of_ble_eq_true rfl) (Nat.le_of_ble_eq_true rfl) (by omega) (Nat.le_of_ble_eq_true rfl) hS2 rfl ?_
      rintro _ _ ⟨m, I7, rfl, rfl, r1, r3⟩
      refine am_istore_n (q := 57) (ls1 := [_, _, _, _]) dX14_both_56 (Nat.le_of_ble_eq_true rfl) rfl rfl ?_
      refine am_aload_n (q := 58) dX14_both_57 rfl rfl ?_
      refine am_iconst (q := 59) (v := 4) dX14_both_58 kc_i4 rfl ?_
      refine am_bipush (q := 61) (v := 41) dX14_both_59 kc_b41 rfl ?_
      refine cm_call0 (q := 64) (As := [_, _]) hG dX14_both_61 mlX14_152 rfl (by assumption) ⟨_, _, rfl⟩ (Nat.le_of_ble_eq_true rfl) (Nat.le_of_ble_eq_true rfl) (by omega) (Nat.le_of_ble_eq_true rfl) (k_X14_take (kk := nI 41) hG hC r1 (by decide) (by decide) (sg_all (c := 41) (by decide))) rfl ?_
      rintro _ _ ⟨rfl, I8, a8, rfl, (o0 : PC I8 y nx T ix N (eEx T 41 s2) 9 a8 k), o2, o3⟩
      have o1 : PC I8 y nx T ix N s2 9 a8 k := o0.fl (by rw [hz.1.2.1]; exact hz.1.1) hz.1.2.1.symm
      have h14 := o1.2.1.2.2.2.2
      have I9h : ∀ x j, up2 I8 y 14 (nI 8) x j = if x = y ∧ j = 14 then nI 8 else I8 x j := fun x j => up2_at _ _
      obtain ⟨w1, w2⟩ := k_up hC o1 I9h
      refine am_aload_n (q := 65) dX14_both_64 rfl rfl ?_
      refine am_dup (q := 66) dX14_both_65 rfl rfl ?_
      refine cm_getI (q := 69) dX14_both_66 flX14_136 rfl (by assumption) rfl ?_
      rw [h14]
      refine am_iconst (q := 70) (v := 1) dX14_both_69 kc_i1 rfl ?_
      refine am_isub (q := 71) dX14_both_70 rfl ?_
      rw [nI_pred]
      refine cm_putI (q := 74) dX14_both_71 flX14_136 rfl (Or.inl rfl) (Or.inl rfl) (by assumption) rfl ?_
      generalize up2 I8 y 14 (nI 8) = I9 at I9h w1 w2 ⊢
      obtain ⟨x1, x2, x3⟩ := w1.nd (w := nI j) (u := nI n) (v := nI m) (kk := nI (300 + j)) (g := 0) hC (by omega)
      have h10 := w1.2.1.2.2.1
      have ndc := k_X12_node (G := G) (J := J) (I := I9) (w := nI j) (u := nI n) (v := nI m) hC h10 x3
      have x4 : PC (ndI I9 nx k (nI j) (nI n) (nI m)) y nx T ix N s2 8 a8 (k + 1) := x1.fl hz.1.1 rfl
      refine am_aload_n (q := 75) dX14_both_74 rfl rfl ?_
      refine cm_getR (q := 78) dX14_both_75 flX14_36 rfl (by assumption) (by assumption) rfl ?_
      refine am_iload_n (q := 79) dX14_both_78 rfl rfl ?_
      refine am_iload_n (q := 80) dX14_both_79 rfl rfl ?_
      refine am_iload_n (q := 81) dX14_both_80 rfl rfl ?_
      refine cm_call0 (q := 84) (As := [_, _, _]) hG dX14_both_81 mlX14_162 rfl (by assumption) ⟨_, _, rfl⟩ (Nat.le_of_ble_eq_true rfl) (Nat.le_of_ble_eq_true rfl) (by omega) (Nat.le_of_ble_eq_true rfl) ndc rfl ?_
      rintro _ _ ⟨rfl, rfl⟩
      exact am_iret dX14_both_84 rfl rfl ⟨_, rfl, k, _, a8, k + 1, rfl, rfl, x4, ⟨by omega, by omega, by omega⟩, ((((((((d2.tr g2 (Nat.le_refl _)).tr b2 (Nat.le_refl _)).tr t3 (Nat.le_refl _)).tr u3 (Nat.le_refl _)).tr r3 (Nat.le_refl _)).tr o3 (Nat.le_refl _)).tr w2 (Nat.le_refl _)).tr x2 (Nat.le_refl _)), fun z => nz z _⟩
  · rw [bI_f (c := pK T s1.1 = nI 40) c4]
    have ee : eDp T 40 d s1 = eRef T s1 := by
      by_cases c : d < 8
      · rw [eDp_lt c]
        unfold eEx eRef pEx
        rw [if_neg c4]
      · exact eDp_ge c
    rw [ee, if_pos eRef_e]
    have nz : (eRef T s1).1.2.1 = 0 → ∀ P : Prop, P := fun z => absurd ((pRef_1 (T := T) (s := s1.1)).symm.trans z) (by decide)
    have hfl := k_X14_fail (G := G) (J := J) hC d1
    clear c4 ok f1 f3 ee
    generalize eRef T s1 = s2 at hfl nz ⊢
    refine am_if_ne (tgt := 26) (q := 20) dX14_both_17 rfl rfl (fun hz => absurd rfl hz) (fun _ => ?_)
    refine am_aload_n (q := 21) dX14_both_20 rfl rfl ?_
    refine cm_call0 (q := 24) (As := []) hG dX14_both_21 mlX14_127 rfl (by assumption) ⟨_, _, rfl⟩ (Nat.le_of_ble_eq_true rfl) (Nat.le_of_ble_eq_true rfl) (by omega) (Nat.le_of_ble_eq_true rfl) hfl rfl ?_
    rintro _ _ ⟨rfl, I3, rfl, g1, g2⟩
    refine am_iconst (q := 25) (v := 0) dX14_both_24 kc_i0 rfl ?_
    exact am_iret dX14_both_25 rfl rfl ⟨_, rfl, 0, I3, a + 1, k, rfl, rfl, g1, ⟨by omega, by omega, by omega⟩, d2.tr g2 (Nat.le_refl _), fun z => nz z _⟩
end Bt

