theorem dX14_single_10 : decode cX14_single 10 = .ok (.aload_n 0, 1) := by decide +kernel
theorem dX14_single_11 : decode cX14_single 11 = .ok (.invokevirtual 183, 3) := by decide +kernel
theorem dX14_single_14 : decode cX14_single 14 = .ok (.aload_n 0, 1) := by decide +kernel
theorem dX14_single_15 : decode cX14_single 15 = .ok (.dup, 1) := by decide +kernel
theorem dX14_single_16 : decode cX14_single 16 = .ok (.getfield 116, 3) := by decide +kernel
theorem dX14_single_19 : decode cX14_single 19 = .ok (.iconst 1, 1) := by decide +kernel
theorem dX14_single_20 : decode cX14_single 20 = .ok (.iadd, 1) := by decide +kernel
theorem dX14_single_21 : decode cX14_single 21 = .ok (.putfield 116, 3) := by decide +kernel
theorem dX14_single_24 : decode cX14_single 24 = .ok (.aload_n 0, 1) := by decide +kernel
theorem dX14_single_25 : decode cX14_single 25 = .ok (.getfield 36, 3) := by decide +kernel
theorem dX14_single_28 : decode cX14_single 28 = .ok (.bipush 27, 2) := by decide +kernel
theorem dX14_single_30 : decode cX14_single 30 = .ok (.aload_n 0, 1) := by decide +kernel
theorem dX14_single_31 : decode cX14_single 31 = .ok (.invokevirtual 201, 3) := by decide +kernel
theorem dX14_single_34 : decode cX14_single 34 = .ok (.iconst 0, 1) := by decide +kernel
theorem dX14_single_35 : decode cX14_single 35 = .ok (.invokevirtual 162, 3) := by decide +kernel
theorem dX14_single_38 : decode cX14_single 38 = .ok (.istore_n 1, 1) := by decide +kernel
theorem dX14_single_39 : decode cX14_single 39 = .ok (.aload_n 0, 1) := by decide +kernel
theorem dX14_single_40 : decode cX14_single 40 = .ok (.dup, 1) := by decide +kernel
theorem dX14_single_41 : decode cX14_single 41 = .ok (.getfield 136, 3) := by decide +kernel
theorem dX14_single_44 : decode cX14_single 44 = .ok (.iconst 1, 1) := by decide +kernel
theorem dX14_single_45 : decode cX14_single 45 = .ok (.isub, 1) := by decide +kernel
theorem dX14_single_46 : decode cX14_single 46 = .ok (.putfield 136, 3) := by decide +kernel
theorem dX14_single_49 : decode cX14_single 49 = .ok (.iload_n 1, 1) := by decide +kernel
theorem dX14_single_50 : decode cX14_single 50 = .ok (.ireturn, 1) := by decide +kernel
theorem dX14_single_61 : decode cX14_single 61 = .ok (.aload_n 0, 1) := by decide +kernel
theorem dX14_single_62 : decode cX14_single 62 = .ok (.invokevirtual 183, 3) := by decide +kernel
theorem dX14_single_65 : decode cX14_single 65 = .ok (.aload_n 0, 1) := by decide +kernel
theorem dX14_single_66 : decode cX14_single 66 = .ok (.dup, 1) := by decide +kernel
theorem dX14_single_67 : decode cX14_single 67 = .ok (.getfield 116, 3) := by decide +kernel
theorem dX14_single_70 : decode cX14_single 70 = .ok (.iconst 1, 1) := by decide +kernel
theorem dX14_single_71 : decode cX14_single 71 = .ok (.iadd, 1) := by decide +kernel
theorem dX14_single_72 : decode cX14_single 72 = .ok (.putfield 116, 3) := by decide +kernel
theorem dX14_single_75 : decode cX14_single 75 = .ok (.aload_n 0, 1) := by decide +kernel
theorem dX14_single_76 : decode cX14_single 76 = .ok (.invokevirtual 204, 3) := by decide +kernel
theorem dX14_single_79 : decode cX14_single 79 = .ok (.istore_n 1, 1) := by decide +kernel
theorem dX14_single_80 : decode cX14_single 80 = .ok (.aload_n 0, 1) := by decide +kernel
theorem dX14_single_81 : decode cX14_single 81 = .ok (.iconst 4, 1) := by decide +kernel
theorem dX14_single_82 : decode cX14_single 82 = .ok (.bipush 93, 2) := by decide +kernel
theorem dX14_single_84 : decode cX14_single 84 = .ok (.invokevirtual 152, 3) := by decide +kernel
theorem dX14_single_87 : decode cX14_single 87 = .ok (.aload_n 0, 1) := by decide +kernel
theorem dX14_single_88 : decode cX14_single 88 = .ok (.dup, 1) := by decide +kernel
theorem dX14_single_89 : decode cX14_single 89 = .ok (.getfield 136, 3) := by decide +kernel
theorem dX14_single_92 : decode cX14_single 92 = .ok (.iconst 1, 1) := by decide +kernel
theorem dX14_single_93 : decode cX14_single 93 = .ok (.isub, 1) := by decide +kernel
theorem dX14_single_94 : decode cX14_single 94 = .ok (.putfield 136, 3) := by decide +kernel
theorem dX14_single_97 : decode cX14_single 97 = .ok (.iload_n 1, 1) := by decide +kernel
theorem dX14_single_98 : decode cX14_single 98 = .ok (.ireturn, 1) := by decide +kernel
theorem dX14_single_109 : decode cX14_single 109 = .ok (.aload_n 0, 1) := by decide +kernel
theorem dX14_single_110 : decode cX14_single 110 = .ok (.dup, 1) := by decide +kernel
theorem dX14_single_111 : decode cX14_single 111 = .ok (.getfield 116, 3) := by decide +kernel
theorem dX14_single_114 : decode cX14_single 114 = .ok (.iconst 1, 1) := by decide +kernel
theorem dX14_single_115 : decode cX14_single 115 = .ok (.iadd, 1) := by decide +kernel
theorem dX14_single_116 : decode cX14_single 116 = .ok (.putfield 116, 3) := by decide +kernel
theorem dX14_single_119 : decode cX14_single 119 = .ok (.aload_n 0, 1) := by decide +kernel
theorem dX14_single_120 : decode cX14_single 120 = .ok (.getfield 36, 3) := by decide +kernel
theorem dX14_single_123 : decode cX14_single 123 = .ok (.bipush 26, 2) := by decide +kernel
theorem dX14_single_125 : decode cX14_single 125 = .ok (.iconst 0, 1) := by decide +kernel
theorem dX14_single_126 : decode cX14_single 126 = .ok (.iconst 0, 1) := by decide +kernel
theorem dX14_single_127 : decode cX14_single 127 = .ok (.invokevirtual 162, 3) := by decide +kernel
theorem dX14_single_130 : decode cX14_single 130 = .ok (.ireturn, 1) := by decide +kernel
theorem dX14_single_192 : decode cX14_single 192 = .ok (.aload_n 0, 1) := by decide +kernel
theorem dX14_single_193 : decode cX14_single 193 = .ok (.getfield 20, 3) := by decide +kernel
theorem dX14_single_196 : decode cX14_single 196 = .ok (.aload_n 0, 1) := by decide +kernel
theorem dX14_single_197 : decode cX14_single 197 = .ok (.getfield 116, 3) := by decide +kernel
theorem dX14_single_200 : decode cX14_single 200 = .ok (.iaload, 1) := by decide +kernel
theorem dX14_single_201 : decode cX14_single 201 = .ok (.istore_n 2, 1) := by decide +kernel
theorem dX14_single_202 : decode cX14_single 202 = .ok (.aload_n 0, 1) := by decide +kernel
theorem dX14_single_203 : decode cX14_single 203 = .ok (.dup, 1) := by decide +kernel
theorem dX14_single_204 : decode cX14_single 204 = .ok (.getfield 116, 3) := by decide +kernel
theorem dX14_single_207 : decode cX14_single 207 = .ok (.iconst 1, 1) := by decide +kernel
theorem dX14_single_208 : decode cX14_single 208 = .ok (.iadd, 1) := by decide +kernel
theorem dX14_single_209 : decode cX14_single 209 = .ok (.putfield 116, 3) := by decide +kernel
theorem dX14_single_212 : decode cX14_single 212 = .ok (.aload_n 0, 1) := by decide +kernel
theorem dX14_single_213 : decode cX14_single 213 = .ok (.getfield 36, 3) := by decide +kernel
theorem dX14_single_216 : decode cX14_single 216 = .ok (.iload_n 2, 1) := by decide +kernel
theorem dX14_single_217 : decode cX14_single 217 = .ok (.iload_n 1, 1) := by decide +kernel
theorem dX14_single_218 : decode cX14_single 218 = .ok (.aload_n 0, 1) := by decide +kernel
theorem dX14_single_219 : decode cX14_single 219 = .ok (.invokevirtual 195, 3) := by decide +kernel
theorem dX14_single_222 : decode cX14_single 222 = .ok (.invokevirtual 162, 3) := by decide +kernel
theorem dX14_single_225 : decode cX14_single 225 = .ok (.ireturn, 1) := by decide +kernel
/-! the reference: single tests -/
section Si
variable {G : Gp} {S : AMem} {J : Nat → Nat → Int64} {R : Nat → Nat → Option Nat} {y bl nx : Nat} {T : Toks} {ix : Int32 → Int64 → Int32} {N : Nat × Nat × Nat} {d dv dP dQ dW : Nat} {P Q W : PS × Cd → PS × Cd}
theorem stE_not {rd : Int32 → Int32 → Int32} {g p : Int32} {st : List Int32} : stE rd 327 g (p :: st) = (1 - p) :: st := by
  unfold stE
  rw [if_neg (by decide), if_neg (by decide), if_pos rfl]
  rfl
theorem k_X14_single (hG : okG G) (hC : MCc S R y bl nx) (hdv : 6 ≤ dv) (hd : d < 9) (vP : dP ≤ dv) (vQ : dQ ≤ dv) (vW : dW ≤ dv) (hP : d < 8 → KM G S J R y nx T ix N NdB mX14_single dP (d + 1) P) (hQ : d < 8 → KM G S J R y nx T ix N NdB mX14_test dQ (d + 1) Q) (w0 : KE0 W) (wf : KF1 W) (hW : KM G S J R y nx T ix N NdN mX14_sum dW d W) : KM G S J R y nx T ix N NdB mX14_single (dv + 1) d (eSngF T P Q (eCmp T W) d) := by
  intro I s a k h ha
  show Fn G mX14_single (dv + 1) [vR y] (mw S I J R) (fun rr M1 => QM S J R y nx T ix N NdB d I a k s (eSngF T P Q (eCmp T W) d s) rr M1)
  have ky := hC.1.1
  have kb := hC.2.2.2.2.2.2.2.2.1.1
  have rn := hC.2.2.2.2.2.2.1
  obtain ⟨q4, q5, _, _, ⟨k2, l2⟩, ⟨k3, l3⟩, _⟩ := id hC.2.2.2.2.2.2.2.2.2
  have h13 := h.2.1.1
  have hka := h.2.1.2.2.2.1
  have hT := h.1.2.1
  have I2h : ∀ x j, up2 I y 13 (nI (a + 1)) x j = if x = y ∧ j = 13 then nI (a + 1) else I x j := fun x j => up2_at _ _
  have rings : pK T s.1 = 326 → MW G mX14_single (dv + 1) 109 [some (vR y), none, none] [] (mw S I J R) (fun f M1 => ∃ rr, f = .inl rr ∧ QM S J R y nx T ix N NdB d I a k s (eSngF T P Q (eCmp T W) d s) rr M1) := by
    intro hk
    have ev : eSngF T P Q (eCmp T W) d s = eAd 326 (pV T s.1).toInt32 (eEx T 326 s) := by
      unfold eSngF
      rw [hk, if_neg (by decide), if_pos rfl]
      rfl
    rw [ev]
    have hg := PC.ng (by decide) hk
    obtain ⟨d1, d2⟩ := h.eat hC hg hk (by decide) (by decide) I2h
    have hz : (eEx T 326 s).2 = s.2 ∧ True := ⟨rfl, trivial⟩
    clear hk hg ev
    generalize eEx T 326 s = s1 at d1 hz ⊢
    generalize (pV T s.1).toInt32 = g
    refine am_aload_n (q := 110) dX14_single_109 rfl rfl ?_
    refine am_dup (q := 111) dX14_single_110 rfl rfl ?_
    refine cm_getI (q := 114) dX14_single_111 flX14_116 rfl (by assumption) rfl ?_
    rw [h13]
    refine am_iconst (q := 115) (v := 1) dX14_single_114 kc_i1 rfl ?_
    refine am_iadd (q := 116) dX14_single_115 rfl ?_
    refine cm_putI (q := 119) dX14_single_116 flX14_116 rfl (Or.inl rfl) (Or.inl rfl) (by assumption) rfl ?_
    rw [nI_1]
    generalize up2 I y 13 (nI (a + 1)) = I2 at I2h d1 d2 ⊢
    obtain ⟨x1, x2, x3⟩ := d1.nd (w := 26) (u := 0) (v := 0) (kk := 326) (g := g) hC (by omega)
    have h10 := d1.2.1.2.2.1
    have ndc := k_X12_node (G := G) (J := J) (I := I2) (w := 26) (u := 0) (v := 0) hC h10 x3
    have res : (eAd 326 g s1).1.2.1 = 0 → NRx NdB (ndI I2 nx k 26 0 0) nx N s.2 (eAd 326 g s1).2 k := by
      intro z
      obtain ⟨l1, l2, _⟩ := d1.len z
      show NRx NdB (ndI I2 nx k 26 0 0) nx N s.2 (adC s1.2 (326, g)) k
      rw [hz.1] at l1 ⊢
      exact NRx.one (τ := fun rd => rd 326 g) l1 (by omega) (fun O A E o1 o2 => Or.inl ⟨g, o1, rfl⟩) (fun rd st => stE_rd (by decide))
    generalize eAd 326 g s1 = s2 at x1 res ⊢
    refine am_aload_n (q := 120) dX14_single_119 rfl rfl ?_
    refine cm_getR (q := 123) dX14_single_120 flX14_36 rfl (by assumption) (by assumption) rfl ?_
    refine am_bipush (q := 125) (v := 26) dX14_single_123 kc_b26 rfl ?_
    refine am_iconst (q := 126) (v := 0) dX14_single_125 kc_i0 rfl ?_
    refine am_iconst (q := 127) (v := 0) dX14_single_126 kc_i0 rfl ?_
    refine cm_call0 (q := 130) (As := [_, _, _]) hG dX14_single_127 mlX14_162 rfl (by assumption) ⟨_, _, rfl⟩ (Nat.le_of_ble_eq_true rfl) (Nat.le_of_ble_eq_true rfl) (by omega) (Nat.le_of_ble_eq_true rfl) ndc rfl ?_
    rintro _ _ ⟨rfl, rfl⟩
    exact am_iret dX14_single_130 rfl rfl ⟨_, rfl, k, _, a + 1, k + 1, rfl, rfl, x1, ⟨by omega, by omega, by omega⟩, d2.tr x2 (Nat.le_refl _), res⟩
  have nots : pK T s.1 = 327 → MW G mX14_single (dv + 1) 10 [some (vR y), none, none] [] (mw S I J R) (fun f M1 => ∃ rr, f = .inl rr ∧ QM S J R y nx T ix N NdB d I a k s (eSngF T P Q (eCmp T W) d s) rr M1) := by
    intro hk
    have hg := PC.ng (by decide) hk
    obtain ⟨e1, e2, e3⟩ := h.kind hg
    have ev : eSngF T P Q (eCmp T W) d s = if (eDp T 327 d s).1.2.1 = 1 then eDp T 327 d s else eAd 327 0 (P (eDp T 327 d s)) := by
      unfold eSngF
      rw [hk, if_neg (by decide), if_neg (by decide), if_pos rfl]
    rw [ev]
    have hdp := k_X14_deeper (G := G) (J := J) hG hC h (by omega)
    clear ev e1 rings
    by_cases c : d < 8
    · rw [eDp_lt c, if_neg (eEx_ok hk hg).1]
      rw [if_neg (show ¬ d = 8 by omega)] at hdp
      have hz : (pK T s.1 = 327 ∧ s.1.2.1 ≠ 1) ∧ True := ⟨⟨hk, hg⟩, trivial⟩
      clear hk hg
      have hS := hP c
      refine am_aload_n (q := 11) dX14_single_10 rfl rfl ?_
      refine cm_call0 (q := 14) (As := []) hG dX14_single_11 mlX14_183 rfl (by assumption) ⟨_, _, rfl⟩ (Nat.le_of_ble_eq_true rfl) (Nat.le_of_ble_eq_true rfl) (by omega) (Nat.le_of_ble_eq_true rfl) hdp rfl ?_
      rintro _ _ ⟨rfl, I1, rfl, g1, g2⟩
      have g13 := g1.2.1.1
      have I3h : ∀ x j, up2 I1 y 13 (nI (a + 1)) x j = if x = y ∧ j = 13 then nI (a + 1) else I1 x j := fun x j => up2_at _ _
      obtain ⟨d1, d2⟩ := g1.eat hC hz.1.2 hz.1.1 (by decide) (by decide) I3h
      refine am_aload_n (q := 15) dX14_single_14 rfl rfl ?_
      refine am_dup (q := 16) dX14_single_15 rfl rfl ?_
      refine cm_getI (q := 19) dX14_single_16 flX14_116 rfl (by assumption) rfl ?_
      rw [g13]
      refine am_iconst (q := 20) (v := 1) dX14_single_19 kc_i1 rfl ?_
      refine am_iadd (q := 21) dX14_single_20 rfl ?_
      refine cm_putI (q := 24) dX14_single_21 flX14_116 rfl (Or.inl rfl) (Or.inl rfl) (by assumption) rfl ?_
      rw [nI_1]
      generalize up2 I1 y 13 (nI (a + 1)) = I3 at I3h d1 d2 ⊢
      have e23 : (eEx T 327 s).2 = s.2 := rfl
      generalize eEx T 327 s = s1 at d1 e23 ⊢
      have hS1 := hS I3 s1 (a + 1) k d1 (by omega)
      generalize P s1 = s2 at hS1 ⊢
      refine am_aload_n (q := 25) dX14_single_24 rfl rfl ?_
      refine cm_getR (q := 28) dX14_single_25 flX14_36 rfl (by assumption) (by assumption) rfl ?_
      refine am_bipush (q := 30) (v := 27) dX14_single_28 kc_b27 rfl ?_
      refine am_aload_n (q := 31) dX14_single_30 rfl rfl ?_
      refine cm_call0 (q := 34) (As := []) hG dX14_single_31 mlX14_201 rfl (by assumption) ⟨_, _, rfl⟩ (Nat.le_of_ble_eq_true rfl) (Nat.le_of_ble_eq_true rfl) (by omega) (Nat.le_of_ble_eq_true rfl) hS1 rfl ?_
      rintro _ _ ⟨n, I4, a4, k4, rfl, rfl, t1, t2, t3, t4⟩
      obtain ⟨x1, x2, x3⟩ := t1.nd (w := 27) (u := nI n) (v := 0) (kk := 327) (g := 0) hC (by omega)
      have h10 := t1.2.1.2.2.1
      have ndc := k_X12_node (G := G) (J := J) (I := I4) (w := 27) (u := nI n) (v := 0) hC h10 x3
      have res : (eAd 327 0 s2).1.2.1 = 0 → NRx NdB (ndI I4 nx k4 27 (nI n) 0) nx N s.2 (eAd 327 0 s2).2 k4 := by
        intro z
        have n1 := t4 z
        rw [e23] at n1
        have l1 := t1.len z
        exact NRx.un (F := fun p => 1 - p) NdB_w n1 l1.1 (by omega) (fun O A E u o1 o2 o3 o4 => Or.inr (Or.inl ⟨n, u, o1, o2, o3, o4, rfl⟩)) (fun rd p st => stE_not)
      clear t4
      generalize eAd 327 0 s2 = s3 at x1 res ⊢
      refine am_iconst (q := 35) (v := 0) dX14_single_34 kc_i0 rfl ?_
      refine cm_call0 (q := 38) (As := [_, _, _]) hG dX14_single_35 mlX14_162 rfl (by assumption) ⟨_, _, rfl⟩ (Nat.le_of_ble_eq_true rfl) (Nat.le_of_ble_eq_true rfl) (by omega) (Nat.le_of_ble_eq_true rfl) ndc rfl ?_
      rintro _ _ ⟨rfl, rfl⟩
      refine am_istore_n (q := 39) (ls1 := [_, _, _]) dX14_single_38 (Nat.le_of_ble_eq_true rfl) rfl rfl ?_
      generalize ndI I4 nx k4 27 (nI n) 0 = I5 at x1 x2 res ⊢
      have h14 := x1.2.1.2.2.2.2
      have I6h : ∀ x j, up2 I5 y 14 (nI d) x j = if x = y ∧ j = 14 then nI d else I5 x j := fun x j => up2_at _ _
      obtain ⟨w1, w2⟩ := k_up hC x1 I6h
      have res2 : s3.1.2.1 = 0 → NRx NdB (up2 I5 y 14 (nI d)) nx N s.2 s3.2 k4 := fun z => (res z).off NdB_w hC w2 (by have := (x1.len z).1; omega)
      clear res
      refine am_aload_n (q := 40) dX14_single_39 rfl rfl ?_
      refine am_dup (q := 41) dX14_single_40 rfl rfl ?_
      refine cm_getI (q := 44) dX14_single_41 flX14_136 rfl (by assumption) rfl ?_
      rw [h14]
      refine am_iconst (q := 45) (v := 1) dX14_single_44 kc_i1 rfl ?_
      refine am_isub (q := 46) dX14_single_45 rfl ?_
      rw [nI_pred]
      refine cm_putI (q := 49) dX14_single_46 flX14_136 rfl (Or.inl rfl) (Or.inl rfl) (by assumption) rfl ?_
      refine am_iload_n (q := 50) dX14_single_49 rfl rfl ?_
      exact am_iret dX14_single_50 rfl rfl ⟨_, rfl, k4, _, a4, k4 + 1, rfl, rfl, w1, ⟨by omega, by omega, by omega⟩, ((((g2.tr d2 (Nat.le_refl _)).tr t3 (Nat.le_refl _)).tr x2 t2.2.2).tr w2 (by omega)), res2⟩
    · have d8 : d = 8 := by omega
      subst d8
      rw [eDp_ge c, if_pos eRef_e]
      rw [if_pos rfl] at hdp
      have er : (eRef T s).1.2.1 = 1 := eRef_e
      have hS := kz_single (G := G) (J := J) (T := T) (ix := ix) (N := N) hC hG
      have nz : (eRef T s).1.2.1 = 0 → ∀ P : Prop, P := fun z => absurd (er.symm.trans z) (by decide)
      clear hk hg e3 c
      generalize eRef T s = s2 at hdp er nz ⊢
      refine am_aload_n (q := 11) dX14_single_10 rfl rfl ?_
      refine cm_call0 (q := 14) (As := []) hG dX14_single_11 mlX14_183 rfl (by assumption) ⟨_, _, rfl⟩ (Nat.le_of_ble_eq_true rfl) (Nat.le_of_ble_eq_true rfl) (by omega) (Nat.le_of_ble_eq_true rfl) hdp rfl ?_
      rintro _ _ ⟨rfl, I1, rfl, g1, g2⟩
      have g13 := g1.2.1.1
      have I3h : ∀ x j, up2 I1 y 13 (nI (a + 1)) x j = if x = y ∧ j = 13 then nI (a + 1) else I1 x j := fun x j => up2_at _ _
      obtain ⟨d1, d2⟩ := g1.skip hC er e2 I3h
      refine am_aload_n (q := 15) dX14_single_14 rfl rfl ?_
      refine am_dup (q := 16) dX14_single_15 rfl rfl ?_
      refine cm_getI (q := 19) dX14_single_16 flX14_116 rfl (by assumption) rfl ?_
      rw [g13]
      refine am_iconst (q := 20) (v := 1) dX14_single_19 kc_i1 rfl ?_
      refine am_iadd (q := 21) dX14_single_20 rfl ?_
      refine cm_putI (q := 24) dX14_single_21 flX14_116 rfl (Or.inl rfl) (Or.inl rfl) (by assumption) rfl ?_
      rw [nI_1]
      generalize up2 I1 y 13 (nI (a + 1)) = I3 at I3h d1 d2 ⊢
      have hS1 := hS I3 s2 _ _ _ d1 er
      have hz : s2.1.2.1 = 1 ∧ True := ⟨er, trivial⟩
      clear er
      refine am_aload_n (q := 25) dX14_single_24 rfl rfl ?_
      refine cm_getR (q := 28) dX14_single_25 flX14_36 rfl (by assumption) (by assumption) rfl ?_
      refine am_bipush (q := 30) (v := 27) dX14_single_28 kc_b27 rfl ?_
      refine am_aload_n (q := 31) dX14_single_30 rfl rfl ?_
      refine cm_call0 (q := 34) (As := []) hG dX14_single_31 mlX14_201 rfl (by assumption) ⟨_, _, rfl⟩ (Nat.le_of_ble_eq_true rfl) (Nat.le_of_ble_eq_true rfl) (by omega) (Nat.le_of_ble_eq_true rfl) hS1 rfl ?_
      rintro _ _ ⟨n, I4, rfl, rfl, t1, t3⟩
      obtain ⟨x1, x2, x3⟩ := t1.nd (w := 27) (u := nI n) (v := 0) (kk := 327) (g := 0) hC (by omega)
      have h10 := t1.2.1.2.2.1
      have ndc := k_X12_node (G := G) (J := J) (I := I4) (w := 27) (u := nI n) (v := 0) hC h10 x3
      have x4 : PC (ndI I4 nx k 27 (nI n) 0) y nx T ix N s2 9 (a + 1) (k + 1) := x1.fl hz.1 rfl
      refine am_iconst (q := 35) (v := 0) dX14_single_34 kc_i0 rfl ?_
      refine cm_call0 (q := 38) (As := [_, _, _]) hG dX14_single_35 mlX14_162 rfl (by assumption) ⟨_, _, rfl⟩ (Nat.le_of_ble_eq_true rfl) (Nat.le_of_ble_eq_true rfl) (by omega) (Nat.le_of_ble_eq_true rfl) ndc rfl ?_
      rintro _ _ ⟨rfl, rfl⟩
      refine am_istore_n (q := 39) (ls1 := [_, _, _]) dX14_single_38 (Nat.le_of_ble_eq_true rfl) rfl rfl ?_
      generalize ndI I4 nx k 27 (nI n) 0 = I5 at x4 x2 ⊢
      have h14 := x4.2.1.2.2.2.2
      have I6h : ∀ x j, up2 I5 y 14 (nI 8) x j = if x = y ∧ j = 14 then nI 8 else I5 x j := fun x j => up2_at _ _
      obtain ⟨w1, w2⟩ := k_up hC x4 I6h
      refine am_aload_n (q := 40) dX14_single_39 rfl rfl ?_
      refine am_dup (q := 41) dX14_single_40 rfl rfl ?_
      refine cm_getI (q := 44) dX14_single_41 flX14_136 rfl (by assumption) rfl ?_
      rw [h14]
      refine am_iconst (q := 45) (v := 1) dX14_single_44 kc_i1 rfl ?_
      refine am_isub (q := 46) dX14_single_45 rfl ?_
      rw [nI_pred]
      refine cm_putI (q := 49) dX14_single_46 flX14_136 rfl (Or.inl rfl) (Or.inl rfl) (by assumption) rfl ?_
      refine am_iload_n (q := 50) dX14_single_49 rfl rfl ?_
      exact am_iret dX14_single_50 rfl rfl ⟨_, rfl, k, _, a + 1, k + 1, rfl, rfl, w1, ⟨by omega, by omega, by omega⟩, ((((g2.tr d2 (Nat.le_refl _)).tr t3 (Nat.le_refl _)).tr x2 (Nat.le_refl _)).tr w2 (Nat.le_succ _)), fun z => nz z _⟩
  have brack : pK T s.1 = 91 → MW G mX14_single (dv + 1) 61 [some (vR y), none, none] [] (mw S I J R) (fun f M1 => ∃ rr, f = .inl rr ∧ QM S J R y nx T ix N NdB d I a k s (eSngF T P Q (eCmp T W) d s) rr M1) := by
    intro hk
    have hg := PC.ng (by decide) hk
    obtain ⟨e1, e2, e3⟩ := h.kind hg
    have ev : eSngF T P Q (eCmp T W) d s = if (eDp T 91 d s).1.2.1 = 1 then eDp T 91 d s else eEx T 93 (Q (eDp T 91 d s)) := by
      unfold eSngF
      rw [hk, if_pos rfl]
    rw [ev]
    have hdp := k_X14_deeper (G := G) (J := J) hG hC h (by omega)
    clear ev e1 rings nots
    by_cases c : d < 8
    · rw [eDp_lt c, if_neg (eEx_ok hk hg).1]
      rw [if_neg (show ¬ d = 8 by omega)] at hdp
      have hz : (pK T s.1 = 91 ∧ s.1.2.1 ≠ 1) ∧ True := ⟨⟨hk, hg⟩, trivial⟩
      clear hk hg
      have hS := hQ c
      refine am_aload_n (q := 62) dX14_single_61 rfl rfl ?_
      refine cm_call0 (q := 65) (As := []) hG dX14_single_62 mlX14_183 rfl (by assumption) ⟨_, _, rfl⟩ (Nat.le_of_ble_eq_true rfl) (Nat.le_of_ble_eq_true rfl) (by omega) (Nat.le_of_ble_eq_true rfl) hdp rfl ?_
      rintro _ _ ⟨rfl, I1, rfl, g1, g2⟩
      have g13 := g1.2.1.1
      have I3h : ∀ x j, up2 I1 y 13 (nI (a + 1)) x j = if x = y ∧ j = 13 then nI (a + 1) else I1 x j := fun x j => up2_at _ _
      obtain ⟨d1, d2⟩ := g1.eat hC hz.1.2 hz.1.1 (by decide) (by decide) I3h
      refine am_aload_n (q := 66) dX14_single_65 rfl rfl ?_
      refine am_dup (q := 67) dX14_single_66 rfl rfl ?_
      refine cm_getI (q := 70) dX14_single_67 flX14_116 rfl (by assumption) rfl ?_
      rw [g13]
      refine am_iconst (q := 71) (v := 1) dX14_single_70 kc_i1 rfl ?_
      refine am_iadd (q := 72) dX14_single_71 rfl ?_
      refine cm_putI (q := 75) dX14_single_72 flX14_116 rfl (Or.inl rfl) (Or.inl rfl) (by assumption) rfl ?_
      rw [nI_1]
      generalize up2 I1 y 13 (nI (a + 1)) = I3 at I3h d1 d2 ⊢
      have e23 : (eEx T 91 s).2 = s.2 := rfl
      generalize eEx T 91 s = s2 at d1 e23 ⊢
      have hS1 := hS I3 s2 (a + 1) k d1 (by omega)
      generalize Q s2 = s3 at hS1 ⊢
      refine am_aload_n (q := 76) dX14_single_75 rfl rfl ?_
      refine cm_call0 (q := 79) (As := []) hG dX14_single_76 mlX14_204 rfl (by assumption) ⟨_, _, rfl⟩ (Nat.le_of_ble_eq_true rfl) (Nat.le_of_ble_eq_true rfl) (by omega) (Nat.le_of_ble_eq_true rfl) hS1 rfl ?_
      rintro _ _ ⟨n, I4, a4, k4, rfl, rfl, t1, t2, t3, t4⟩
      refine am_istore_n (q := 80) (ls1 := [_, _, _]) dX14_single_79 (Nat.le_of_ble_eq_true rfl) rfl rfl ?_
      have z2 : (eEx T 93 s3).1.2.1 = 0 → s3.1.2.1 = 0 := fun z => eEx_0 z
      have e24 : (eEx T 93 s3).2 = s3.2 := rfl
      refine am_aload_n (q := 81) dX14_single_80 rfl rfl ?_
      refine am_iconst (q := 82) (v := 4) dX14_single_81 kc_i4 rfl ?_
      refine am_bipush (q := 84) (v := 93) dX14_single_82 kc_b93 rfl ?_
      refine cm_call0 (q := 87) (As := [_, _]) hG dX14_single_84 mlX14_152 rfl (by assumption) ⟨_, _, rfl⟩ (Nat.le_of_ble_eq_true rfl) (Nat.le_of_ble_eq_true rfl) (by omega) (Nat.le_of_ble_eq_true rfl) (k_X14_take (kk := nI 93) hG hC t1 (by decide) (by decide) (sg_all (c := 93) (by decide))) rfl ?_
      rintro _ _ ⟨rfl, I5, a5, rfl, (u1 : PC I5 y nx T ix N (eEx T 93 s3) (d + 1) a5 k4), u2, u3⟩
      generalize eEx T 93 s3 = s4 at u1 z2 e24 ⊢
      have h14 := u1.2.1.2.2.2.2
      have I6h : ∀ x j, up2 I5 y 14 (nI d) x j = if x = y ∧ j = 14 then nI d else I5 x j := fun x j => up2_at _ _
      obtain ⟨w1, w2⟩ := k_up hC u1 I6h
      have res : s4.1.2.1 = 0 → NRx NdB (up2 I5 y 14 (nI d)) nx N s.2 s4.2 n := by
        intro z
        have z0 := z2 z
        have n1 := t4 z0
        have l1 := (t1.len z0).1
        rw [e23] at n1
        rw [e24]
        exact n1.off NdB_w hC (u3.tr w2 (Nat.le_refl _)) (by omega)
      clear t4 z2
      refine am_aload_n (q := 88) dX14_single_87 rfl rfl ?_
      refine am_dup (q := 89) dX14_single_88 rfl rfl ?_
      refine cm_getI (q := 92) dX14_single_89 flX14_136 rfl (by assumption) rfl ?_
      rw [h14]
      refine am_iconst (q := 93) (v := 1) dX14_single_92 kc_i1 rfl ?_
      refine am_isub (q := 94) dX14_single_93 rfl ?_
      rw [nI_pred]
      refine cm_putI (q := 97) dX14_single_94 flX14_136 rfl (Or.inl rfl) (Or.inl rfl) (by assumption) rfl ?_
      refine am_iload_n (q := 98) dX14_single_97 rfl rfl ?_
      exact am_iret dX14_single_98 rfl rfl ⟨_, rfl, n, _, a5, k4, rfl, rfl, w1, ⟨by omega, by omega, by omega⟩, (((g2.tr d2 (Nat.le_refl _)).tr t3 (Nat.le_refl _)).tr u3 t2.2.2).tr w2 t2.2.2, res⟩
    · have d8 : d = 8 := by omega
      subst d8
      rw [eDp_ge c, if_pos eRef_e]
      rw [if_pos rfl] at hdp
      have er : (eRef T s).1.2.1 = 1 := eRef_e
      have er2 : (eEx T 93 (eRef T s)).1 = (eRef T s).1 := eEx_f1 (by decide) _ er
      have hS := kz_test (G := G) (J := J) (T := T) (ix := ix) (N := N) hC hG
      have nz : (eRef T s).1.2.1 = 0 → ∀ P : Prop, P := fun z => absurd (er.symm.trans z) (by decide)
      clear hk hg e3 c
      generalize eRef T s = s2 at hdp er er2 nz ⊢
      refine am_aload_n (q := 62) dX14_single_61 rfl rfl ?_
      refine cm_call0 (q := 65) (As := []) hG dX14_single_62 mlX14_183 rfl (by assumption) ⟨_, _, rfl⟩ (Nat.le_of_ble_eq_true rfl) (Nat.le_of_ble_eq_true rfl) (by omega) (Nat.le_of_ble_eq_true rfl) hdp rfl ?_
      rintro _ _ ⟨rfl, I1, rfl, g1, g2⟩
      have g13 := g1.2.1.1
      have I3h : ∀ x j, up2 I1 y 13 (nI (a + 1)) x j = if x = y ∧ j = 13 then nI (a + 1) else I1 x j := fun x j => up2_at _ _
      obtain ⟨d1, d2⟩ := g1.skip hC er e2 I3h
      refine am_aload_n (q := 66) dX14_single_65 rfl rfl ?_
      refine am_dup (q := 67) dX14_single_66 rfl rfl ?_
      refine cm_getI (q := 70) dX14_single_67 flX14_116 rfl (by assumption) rfl ?_
      rw [g13]
      refine am_iconst (q := 71) (v := 1) dX14_single_70 kc_i1 rfl ?_
      refine am_iadd (q := 72) dX14_single_71 rfl ?_
      refine cm_putI (q := 75) dX14_single_72 flX14_116 rfl (Or.inl rfl) (Or.inl rfl) (by assumption) rfl ?_
      rw [nI_1]
      generalize up2 I1 y 13 (nI (a + 1)) = I3 at I3h d1 d2 ⊢
      have hS1 := hS I3 s2 _ _ _ d1 er
      have hz : (s2.1.2.1 = 1 ∧ (eEx T 93 s2).1 = s2.1) ∧ True := ⟨⟨er, er2⟩, trivial⟩
      clear er er2
      refine am_aload_n (q := 76) dX14_single_75 rfl rfl ?_
      refine cm_call0 (q := 79) (As := []) hG dX14_single_76 mlX14_204 rfl (by assumption) ⟨_, _, rfl⟩ (Nat.le_of_ble_eq_true rfl) (Nat.le_of_ble_eq_true rfl) (by omega) (Nat.le_of_ble_eq_true rfl) hS1 rfl ?_
      rintro _ _ ⟨n, I4, rfl, rfl, t1, t3⟩
      refine am_istore_n (q := 80) (ls1 := [_, _, _]) dX14_single_79 (Nat.le_of_ble_eq_true rfl) rfl rfl ?_
      refine am_aload_n (q := 81) dX14_single_80 rfl rfl ?_
      refine am_iconst (q := 82) (v := 4) dX14_single_81 kc_i4 rfl ?_
      refine am_bipush (q := 84) (v := 93) dX14_single_82 kc_b93 rfl ?_
      refine cm_call0 (q := 87) (As := [_, _]) hG dX14_single_84 mlX14_152 rfl (by assumption) ⟨_, _, rfl⟩ (Nat.le_of_ble_eq_true rfl) (Nat.le_of_ble_eq_true rfl) (by omega) (Nat.le_of_ble_eq_true rfl) (k_X14_take (kk := nI 93) hG hC t1 (by decide) (by decide) (sg_all (c := 93) (by decide))) rfl ?_
      rintro _ _ ⟨rfl, I5, a5, rfl, (u0 : PC I5 y nx T ix N (eEx T 93 s2) 9 a5 k), u2, u3⟩
      have u1 : PC I5 y nx T ix N s2 9 a5 k := u0.fl (by rw [hz.1.2]; exact hz.1.1) hz.1.2.symm
      have h14 := u1.2.1.2.2.2.2
      have I6h : ∀ x j, up2 I5 y 14 (nI 8) x j = if x = y ∧ j = 14 then nI 8 else I5 x j := fun x j => up2_at _ _
      obtain ⟨w1, w2⟩ := k_up hC u1 I6h
      refine am_aload_n (q := 88) dX14_single_87 rfl rfl ?_
      refine am_dup (q := 89) dX14_single_88 rfl rfl ?_
      refine cm_getI (q := 92) dX14_single_89 flX14_136 rfl (by assumption) rfl ?_
      rw [h14]
      refine am_iconst (q := 93) (v := 1) dX14_single_92 kc_i1 rfl ?_
      refine am_isub (q := 94) dX14_single_93 rfl ?_
      rw [nI_pred]
      refine cm_putI (q := 97) dX14_single_94 flX14_136 rfl (Or.inl rfl) (Or.inl rfl) (by assumption) rfl ?_
      refine am_iload_n (q := 98) dX14_single_97 rfl rfl ?_
      exact am_iret dX14_single_98 rfl rfl ⟨_, rfl, n, _, a5, k, rfl, rfl, w1, ⟨by omega, by omega, by omega⟩, (((g2.tr d2 (Nat.le_refl _)).tr t3 (Nat.le_refl _)).tr u3 (Nat.le_refl _)).tr w2 (Nat.le_refl _), fun z => nz z _⟩
  have isk : ∀ j, j < 32 → Fn G mX14_is 1 [vR y, vI 2, vI (nI j)] (mw S I J R) (fun rr M1 => rr = some (vI (bI (pK T s.1 = nI (300 + j)))) ∧ M1 = mw S I J R) := fun j hj => k_X14_is (kk := nI (300 + j)) hG hC h (k_ne (b := 257) (by omega) (by decide) (by omega)) (ky_all hj)
  have iss : ∀ c, c ∈ symN → Fn G mX14_is 1 [vR y, vI 4, vI (nI c)] (mw S I J R) (fun rr M1 => rr = some (vI (bI (pK T s.1 = nI c))) ∧ M1 = mw S I J R) := fun c hc => k_X14_is (kk := nI c) hG hC h (k_ne (b := 257) (by have := symN_b c hc; omega) (by decide) (by have := symN_b c hc; omega)) (sg_all hc)
  refine am_aload_n (q := 1) dX14_single_0 rfl rfl ?_
  refine am_iconst (q := 2) (v := 2) dX14_single_1 kc_i2 rfl ?_
  refine am_bipush (q := 4) (v := 27) dX14_single_2 kc_b27 rfl ?_
  refine cm_call0 (q := 7) (As := [_, _]) hG dX14_single_4 mlX14_123 rfl (by assumption) ⟨_, _, rfl⟩ (Nat.le_of_ble_eq_true rfl) (Nat.le_of_ble_eq_true rfl) (by omega) (Nat.le_of_ble_eq_true rfl) (isk 27 (by decide)) rfl ?_
  rintro _ _ ⟨rfl, rfl⟩
  by_cases c27 : pK T s.1 = nI (300 + 27)
  · rw [bI_t c27]
    have b := nots c27
    clear c27
    refine am_if_eq (tgt := 51) (q := 10) dX14_single_7 rfl rfl (fun hz => absurd hz (by decide)) (fun _ => ?_)
    exact b
  rw [bI_f c27]
  refine am_if_eq (tgt := 51) (q := 10) dX14_single_7 rfl rfl (fun _ => ?_) (fun hz => absurd rfl hz)
  refine am_aload_n (q := 52) dX14_single_51 rfl rfl ?_
  refine am_iconst (q := 53) (v := 4) dX14_single_52 kc_i4 rfl ?_
  refine am_bipush (q := 55) (v := 91) dX14_single_53 kc_b91 rfl ?_
  refine cm_call0 (q := 58) (As := [_, _]) hG dX14_single_55 mlX14_123 rfl (by assumption) ⟨_, _, rfl⟩ (Nat.le_of_ble_eq_true rfl) (Nat.le_of_ble_eq_true rfl) (by omega) (Nat.le_of_ble_eq_true rfl) (iss 91 (by decide)) rfl ?_
  rintro _ _ ⟨rfl, rfl⟩
  by_cases c91 : pK T s.1 = nI 91
  · rw [bI_t c91]
    have b := brack c91
    clear c27 c91
    refine am_if_eq (tgt := 99) (q := 61) dX14_single_58 rfl rfl (fun hz => absurd hz (by decide)) (fun _ => ?_)
    exact b
  rw [bI_f c91]
  refine am_if_eq (tgt := 99) (q := 61) dX14_single_58 rfl rfl (fun _ => ?_) (fun hz => absurd rfl hz)
  refine am_aload_n (q := 100) dX14_single_99 rfl rfl ?_
  refine am_iconst (q := 101) (v := 2) dX14_single_100 kc_i2 rfl ?_
  refine am_bipush (q := 103) (v := 26) dX14_single_101 kc_b26 rfl ?_
  refine cm_call0 (q := 106) (As := [_, _]) hG dX14_single_103 mlX14_123 rfl (by assumption) ⟨_, _, rfl⟩ (Nat.le_of_ble_eq_true rfl) (Nat.le_of_ble_eq_true rfl) (by omega) (Nat.le_of_ble_eq_true rfl) (isk 26 (by decide)) rfl ?_
  rintro _ _ ⟨rfl, rfl⟩
  by_cases c26 : pK T s.1 = nI (300 + 26)
  · rw [bI_t c26]
    have b := rings c26
    clear c27 c91 c26
    refine am_if_eq (tgt := 131) (q := 109) dX14_single_106 rfl rfl (fun hz => absurd hz (by decide)) (fun _ => ?_)
    exact b
  rw [bI_f c26]
  have ev : eSngF T P Q (eCmp T W) d s = eCmp T W s := by
    unfold eSngF
    rw [if_neg (c := pK T s.1 = 91) c91, if_neg (c := pK T s.1 = 326) c26, if_neg (c := pK T s.1 = 327) c27]
  rw [ev]
  unfold eCmp
  have hW1 := hW I s a k h ha
  clear c27 c91 c26 ev nots brack rings isk iss
  obtain ⟨s1, es1⟩ : ∃ s1, W s = s1 := ⟨_, rfl⟩
  rw [es1] at hW1 ⊢
  clear es1
  refine am_if_eq (tgt := 131) (q := 109) dX14_single_106 rfl rfl (fun _ => ?_) (fun hz => absurd rfl hz)
  refine am_aload_n (q := 132) dX14_single_131 rfl rfl ?_
  refine cm_call0 (q := 135) (As := []) hG dX14_single_132 mlX14_195 rfl (by assumption) ⟨_, _, rfl⟩ (Nat.le_of_ble_eq_true rfl) (Nat.le_of_ble_eq_true rfl) (by omega) (Nat.le_of_ble_eq_true rfl) hW1 rfl ?_
  rintro _ _ ⟨n, I1, a1, k1, rfl, rfl, t1, t2, t3, t4⟩
  refine am_istore_n (q := 136) (ls1 := [_, _, _]) dX14_single_135 (Nat.le_of_ble_eq_true rfl) rfl rfl ?_
  have p13 := t1.2.1.1
  have pka := t1.2.1.2.2.2.1
  have cmpb : ∀ c q0, ((c = 60 ∧ q0 = 60) ∨ (c = 62 ∧ q0 = 62) ∨ (c = 61 ∧ q0 = 61) ∨ (c = 108 ∧ q0 = 260) ∨ (c = 103 ∧ q0 = 261)) → pK T s1.1 = nI q0 → MW G mX14_single (dv + 1) 192 [some (vR y), some (vI (nI n)), none] [] (mw S I1 J R) (fun f M1 => ∃ rr, f = .inl rr ∧ QM S J R y nx T ix N NdB d I a k s (eAd (pK T s1.1) 0 (W (eCs T s1))) rr M1) := by
    intro c q0 hc hk
    have k7 : nI q0 ≠ 257 := k_ne (b := 257) (by omega) (by decide) (by omega)
    have k6 : nI q0 ≠ 256 := k_ne (b := 256) (by omega) (by decide) (by omega)
    have hg := PC.ng k7 hk
    obtain ⟨e1, e2, e3⟩ := t1.kind hg
    obtain ⟨i2, i3, sr, ca⟩ := t1.sort hC e2
    have hva : I1 (y + 3) a1 = nI c := by
      rcases hc with ⟨r1, r2⟩ | ⟨r1, r2⟩ | ⟨r1, r2⟩ | r | r
      · exact ((srt_sig (c := c) sr (by rw [r1]; decide)).mpr (by rw [← e1, hk, r1, r2])).2
      · exact ((srt_sig (c := c) sr (by rw [r1]; decide)).mpr (by rw [← e1, hk, r1, r2])).2
      · exact ((srt_sig (c := c) sr (by rw [r1]; decide)).mpr (by rw [← e1, hk, r1, r2])).2
      · exact ((srt_lg (c := c) sr (Or.inl r)).mpr (by rw [← e1, hk])).2
      · exact ((srt_lg (c := c) sr (Or.inr r)).mpr (by rw [← e1, hk])).2
    have I3h : ∀ x j, up2 I1 y 13 (nI (a1 + 1)) x j = if x = y ∧ j = 13 then nI (a1 + 1) else I1 x j := fun x j => up2_at _ _
    obtain ⟨d1, d2⟩ := t1.eat hC hg hk k6 k7 I3h
    have ec : eCs T s1 = eEx T (nI q0) s1 := by
      unfold eCs
      rw [hk, if_pos (by rcases hc with ⟨_, r⟩ | ⟨_, r⟩ | ⟨_, r⟩ | ⟨_, r⟩ | ⟨_, r⟩ <;> rw [r] <;> decide)]
    rw [ec, hk]
    clear ec
    have z1 : (eEx T (nI q0) s1).1.2.1 = 0 → s1.1.2.1 = 0 := fun z => eEx_0 z
    have e23 : (eEx T (nI q0) s1).2 = s1.2 := rfl
    clear hk hg e1 e3 k6 k7
    refine am_aload_n (q := 193) dX14_single_192 rfl rfl ?_
    refine cm_getR (q := 196) dX14_single_193 flX14_20 rfl (by assumption) (by assumption) rfl ?_
    refine am_aload_n (q := 197) dX14_single_196 rfl rfl ?_
    refine cm_getI (q := 200) dX14_single_197 flX14_116 rfl (by assumption) rfl ?_
    rw [p13]
    refine cm_iaload (q := 201) dX14_single_200 (by assumption) i3 rfl ?_
    rw [ca, hva]
    refine am_istore_n (q := 202) (ls1 := [_, _, _]) dX14_single_201 (Nat.le_of_ble_eq_true rfl) rfl rfl ?_
    refine am_aload_n (q := 203) dX14_single_202 rfl rfl ?_
    refine am_dup (q := 204) dX14_single_203 rfl rfl ?_
    refine cm_getI (q := 207) dX14_single_204 flX14_116 rfl (by assumption) rfl ?_
    rw [p13]
    refine am_iconst (q := 208) (v := 1) dX14_single_207 kc_i1 rfl ?_
    refine am_iadd (q := 209) dX14_single_208 rfl ?_
    refine cm_putI (q := 212) dX14_single_209 flX14_116 rfl (Or.inl rfl) (Or.inl rfl) (by assumption) rfl ?_
    rw [nI_1]
    generalize up2 I1 y 13 (nI (a1 + 1)) = I3 at I3h d1 d2 ⊢
    generalize eEx T (nI q0) s1 = s2 at d1 z1 e23 ⊢
    have hW2 := hW I3 s2 (a1 + 1) k1 d1 (by omega)
    have z2 := w0 s2
    generalize W s2 = s3 at hW2 z2 ⊢
    refine am_aload_n (q := 213) dX14_single_212 rfl rfl ?_
    refine cm_getR (q := 216) dX14_single_213 flX14_36 rfl (by assumption) (by assumption) rfl ?_
    refine am_iload_n (q := 217) dX14_single_216 rfl rfl ?_
    refine am_iload_n (q := 218) dX14_single_217 rfl rfl ?_
    refine am_aload_n (q := 219) dX14_single_218 rfl rfl ?_
    refine cm_call0 (q := 222) (As := []) hG dX14_single_219 mlX14_195 rfl (by assumption) ⟨_, _, rfl⟩ (Nat.le_of_ble_eq_true rfl) (Nat.le_of_ble_eq_true rfl) (by omega) (Nat.le_of_ble_eq_true rfl) hW2 rfl ?_
    rintro _ _ ⟨m, I4, a4, k4, rfl, rfl, r1, r2, r3, r4⟩
    obtain ⟨x1, x2, x3⟩ := r1.nd (w := nI c) (u := nI n) (v := nI m) (kk := nI q0) (g := 0) hC (by omega)
    have h10 := r1.2.1.2.2.1
    have ndc := k_X12_node (G := G) (J := J) (I := I4) (w := nI c) (u := nI n) (v := nI m) hC h10 x3
    have res : (eAd (nI q0) 0 s3).1.2.1 = 0 → NRx NdB (ndI I4 nx k4 (nI c) (nI n) (nI m)) nx N s.2 (eAd (nI q0) 0 s3).2 k4 := by
      intro z
      have y3 : s3.1.2.1 = 0 := z
      have y1 := z1 (z2 y3)
      have n1 := t4 y1
      have n2 := r4 y3
      rw [e23] at n2
      have l1 := (t1.len y1).1
      have l2 := r1.len y3
      refine NRx.bc hC n1 n2 (d2.tr r3 (Nat.le_refl _)) (by omega) l2.1 (by omega) ?_
      rcases hc with ⟨o1, o2⟩ | ⟨o1, o2⟩ | ⟨o1, o2⟩ | ⟨o1, o2⟩ | ⟨o1, o2⟩ <;> rw [o1, o2] <;> decide
    clear t4 r4 z1 z2
    generalize eAd (nI q0) 0 s3 = s4 at x1 res ⊢
    refine cm_call0 (q := 225) (As := [_, _, _]) hG dX14_single_222 mlX14_162 rfl (by assumption) ⟨_, _, rfl⟩ (Nat.le_of_ble_eq_true rfl) (Nat.le_of_ble_eq_true rfl) (by omega) (Nat.le_of_ble_eq_true rfl) ndc rfl ?_
    rintro _ _ ⟨rfl, rfl⟩
    exact am_iret dX14_single_225 rfl rfl ⟨_, rfl, k4, _, a4, k4 + 1, rfl, rfl, x1, ⟨by omega, by omega, by omega⟩, (((t3.tr d2 t2.2.2).tr r3 t2.2.2).tr x2 (by omega)), res⟩
  clear t4
  have tsg : ∀ c, c ∈ symN → Fn G mX14_is 1 [vR y, vI 4, vI (nI c)] (mw S I1 J R) (fun rr M1 => rr = some (vI (bI (pK T s1.1 = nI c))) ∧ M1 = mw S I1 J R) := fun c hc => k_X14_is (kk := nI c) hG hC t1 (k_ne (b := 257) (by have := symN_b c hc; omega) (by decide) (by have := symN_b c hc; omega)) (sg_all hc)
  have tlg : ∀ c q0, ((c = 108 ∧ q0 = 260) ∨ (c = 103 ∧ q0 = 261)) → Fn G mX14_is 1 [vR y, vI 4, vI (nI c)] (mw S I1 J R) (fun rr M1 => rr = some (vI (bI (pK T s1.1 = nI q0))) ∧ M1 = mw S I1 J R) := fun c q0 hc => k_X14_is (kk := nI q0) hG hC t1 (k_ne (b := 257) (by omega) (by decide) (by omega)) (lg_all hc)
  refine am_aload_n (q := 137) dX14_single_136 rfl rfl ?_
  refine am_iconst (q := 138) (v := 4) dX14_single_137 kc_i4 rfl ?_
  refine am_bipush (q := 140) (v := 60) dX14_single_138 kc_b60 rfl ?_
  refine cm_call0 (q := 143) (As := [_, _]) hG dX14_single_140 mlX14_123 rfl (by assumption) ⟨_, _, rfl⟩ (Nat.le_of_ble_eq_true rfl) (Nat.le_of_ble_eq_true rfl) (by omega) (Nat.le_of_ble_eq_true rfl) (tsg 60 (by decide)) rfl ?_
  rintro _ _ ⟨rfl, rfl⟩
  by_cases c60 : pK T s1.1 = nI 60
  · rw [bI_t c60]
    have b := cmpb 60 60 (by decide) c60
    clear c60
    refine am_if_ne (tgt := 192) (q := 146) dX14_single_143 rfl rfl (fun _ => ?_) (fun hz => absurd hz (by decide))
    exact b
  rw [bI_f c60]
  refine am_if_ne (tgt := 192) (q := 146) dX14_single_143 rfl rfl (fun hz => absurd rfl hz) (fun _ => ?_)
  refine am_aload_n (q := 147) dX14_single_146 rfl rfl ?_
  refine am_iconst (q := 148) (v := 4) dX14_single_147 kc_i4 rfl ?_
  refine am_bipush (q := 150) (v := 62) dX14_single_148 kc_b62 rfl ?_
  refine cm_call0 (q := 153) (As := [_, _]) hG dX14_single_150 mlX14_123 rfl (by assumption) ⟨_, _, rfl⟩ (Nat.le_of_ble_eq_true rfl) (Nat.le_of_ble_eq_true rfl) (by omega) (Nat.le_of_ble_eq_true rfl) (tsg 62 (by decide)) rfl ?_
  rintro _ _ ⟨rfl, rfl⟩
  by_cases c62 : pK T s1.1 = nI 62
  · rw [bI_t c62]
    have b := cmpb 62 62 (by decide) c62
    clear c60 c62
    refine am_if_ne (tgt := 192) (q := 156) dX14_single_153 rfl rfl (fun _ => ?_) (fun hz => absurd hz (by decide))
    exact b
  rw [bI_f c62]
  refine am_if_ne (tgt := 192) (q := 156) dX14_single_153 rfl rfl (fun hz => absurd rfl hz) (fun _ => ?_)
  refine am_aload_n (q := 157) dX14_single_156 rfl rfl ?_
  refine am_iconst (q := 158) (v := 4) dX14_single_157 kc_i4 rfl ?_
  refine am_bipush (q := 160) (v := 61) dX14_single_158 kc_b61 rfl ?_
  refine cm_call0 (q := 163) (As := [_, _]) hG dX14_single_160 mlX14_123 rfl (by assumption) ⟨_, _, rfl⟩ (Nat.le_of_ble_eq_true rfl) (Nat.le_of_ble_eq_true rfl) (by omega) (Nat.le_of_ble_eq_true rfl) (tsg 61 (by decide)) rfl ?_
  rintro _ _ ⟨rfl, rfl⟩
  by_cases c61 : pK T s1.1 = nI 61
  · rw [bI_t c61]
    have b := cmpb 61 61 (by decide) c61
    clear c60 c62 c61
    refine am_if_ne (tgt := 192) (q := 166) dX14_single_163 rfl rfl (fun _ => ?_) (fun hz => absurd hz (by decide))
    exact b
  rw [bI_f c61]
  refine am_if_ne (tgt := 192) (q := 166) dX14_single_163 rfl rfl (fun hz => absurd rfl hz) (fun _ => ?_)
  refine am_aload_n (q := 167) dX14_single_166 rfl rfl ?_
  refine am_iconst (q := 168) (v := 4) dX14_single_167 kc_i4 rfl ?_
  refine am_bipush (q := 170) (v := 108) dX14_single_168 kc_b108 rfl ?_
  refine cm_call0 (q := 173) (As := [_, _]) hG dX14_single_170 mlX14_123 rfl (by assumption) ⟨_, _, rfl⟩ (Nat.le_of_ble_eq_true rfl) (Nat.le_of_ble_eq_true rfl) (by omega) (Nat.le_of_ble_eq_true rfl) (tlg 108 260 (by decide)) rfl ?_
  rintro _ _ ⟨rfl, rfl⟩
  by_cases c260 : pK T s1.1 = nI 260
  · rw [bI_t c260]
    have b := cmpb 108 260 (by decide) c260
    clear c60 c62 c61 c260
    refine am_if_ne (tgt := 192) (q := 176) dX14_single_173 rfl rfl (fun _ => ?_) (fun hz => absurd hz (by decide))
    exact b
  rw [bI_f c260]
  refine am_if_ne (tgt := 192) (q := 176) dX14_single_173 rfl rfl (fun hz => absurd rfl hz) (fun _ => ?_)
  refine am_aload_n (q := 177) dX14_single_176 rfl rfl ?_
  refine am_iconst (q := 178) (v := 4) dX14_single_177 kc_i4 rfl ?_
  refine am_bipush (q := 180) (v := 103) dX14_single_178 kc_b103 rfl ?_
  refine cm_call0 (q := 183) (As := [_, _]) hG dX14_single_180 mlX14_123 rfl (by assumption) ⟨_, _, rfl⟩ (Nat.le_of_ble_eq_true rfl) (Nat.le_of_ble_eq_true rfl) (by omega) (Nat.le_of_ble_eq_true rfl) (tlg 103 261 (by decide)) rfl ?_
  rintro _ _ ⟨rfl, rfl⟩
  by_cases c261 : pK T s1.1 = nI 261
  · rw [bI_t c261]
    have b := cmpb 103 261 (by decide) c261
    clear c60 c62 c61 c260 c261
    refine am_if_ne (tgt := 192) (q := 186) dX14_single_183 rfl rfl (fun _ => ?_) (fun hz => absurd hz (by decide))
    exact b
  have ec : eCs T s1 = eRef T s1 := if_neg (by
    rintro (q | q | q | q | q)
    · exact c60 q
    · exact c62 q
    · exact c61 q
    · exact c260 q
    · exact c261 q)
  rw [bI_f c261, ec]
  have f1 : (eRef T s1).1.2.1 = 1 := pRef_1 (T := T) (s := s1.1)
  have f2 : (eAd (pK T s1.1) 0 (W (eRef T s1))).1 = (eRef T s1).1 := wf (eRef T s1) f1
  have nz : (eAd (pK T s1.1) 0 (W (eRef T s1))).1.2.1 = 0 → ∀ P : Prop, P := fun z => by
    rw [f2, f1] at z
    exact absurd z (by decide)
  have hfl := k_X14_fail (G := G) (J := J) hC t1
  clear ec c60 c62 c61 c260 c261 cmpb tsg tlg
  generalize eAd (pK T s1.1) 0 (W (eRef T s1)) = s3 at f2 nz ⊢
  generalize eRef T s1 = s2 at hfl f1 f2
  refine am_if_ne (tgt := 192) (q := 186) dX14_single_183 rfl rfl (fun hz => absurd rfl hz) (fun _ => ?_)
  refine am_aload_n (q := 187) dX14_single_186 rfl rfl ?_
  refine cm_call0 (q := 190) (As := []) hG dX14_single_187 mlX14_127 rfl (by assumption) ⟨_, _, rfl⟩ (Nat.le_of_ble_eq_true rfl) (Nat.le_of_ble_eq_true rfl) (by omega) (Nat.le_of_ble_eq_true rfl) hfl rfl ?_
  rintro _ _ ⟨rfl, I3, rfl, g1, g2⟩
  refine am_iconst (q := 191) (v := 0) dX14_single_190 kc_i0 rfl ?_
  exact am_iret dX14_single_191 rfl rfl ⟨_, rfl, 0, I3, a1, k1, rfl, rfl, g1.fl f1 f2, t2, t3.tr g2 t2.2.2, fun z => nz z _⟩
/-- values, tests: of all depths -/
theorem k_eValM (hG : okG G) (hC : MCc S R y bl nx) : ∀ r, r ≤ 8 → KM G S J R y nx T ix N NdN mX14_one (4 * r + 6) (8 - r) (eVal T ix r) := by
  intro r
  induction r with
  | zero => intro _; exact k_X14_one (V := id) (dv := 2) (d := 8) hG hC (by omega) (by omega) (fun _ h => h) (fun h => absurd h (by omega))
  | succ r ih =>
    intro hr
    have h1 := ih (by omega)
    have h2 := k_X14_one (V := eVal T ix r) (dv := 4 * r + 6) (d := 7 - r) hG hC (by omega) (by omega) (eVal_0 r) (fun _ => by rw [show 7 - r + 1 = 8 - r by omega]; exact h1)
    rw [show 8 - (r + 1) = 7 - r by omega, show 4 * (r + 1) + 6 = 4 * r + 6 + 4 by omega]
    exact h2
theorem k_eSumM (hG : okG G) (hC : MCc S R y bl nx) {r : Nat} (hr : r ≤ 8) : KM G S J R y nx T ix N NdN mX14_sum (4 * r + 8) (8 - r) (eSu T (eVal T ix r)) := k_sumV (dv := 4 * r + 6) hG hC (by omega) (eVal_0 r) (k_eValM hG hC r hr)
theorem k_testV {V : PS × Cd → PS × Cd} {dep : Nat} (hG : okG G) (hC : MCc S R y bl nx) (hdv : 1 ≤ dv) (v0 : KE0 V) (hV : KM G S J R y nx T ix N NdB mX14_single dv dep V) : KM G S J R y nx T ix N NdB mX14_test (dv + 2) dep (eTs T V) :=
  k_X14_test hG hC (by omega) (fun s hs => v0 s (eLoop_0 v0 400 _ hs)) (k_X14_pair hG hC hdv v0 hV)
theorem k_eSngM (hG : okG G) (hC : MCc S R y bl nx) : ∀ r, r ≤ 8 → KM G S J R y nx T ix N NdB mX14_single (4 * r + 12) (8 - r) (eSng T ix r) := by
  intro r
  induction r with
  | zero =>
    intro _
    exact k_X14_single (P := id) (Q := id) (dv := 11) (dP := 0) (dQ := 0) (dW := 8) (d := 8) hG hC (by omega) (by omega) (by omega) (by omega) (by omega) (fun h => absurd h (by omega)) (fun h => absurd h (by omega)) (eSu_0 (eVal_0 0)) (eSu_f1 (eVal_f1 0)) (k_eSumM (r := 0) hG hC (by omega))
  | succ r ih =>
    intro hr
    have h1 := ih (by omega)
    have h3 := k_eSumM (r := r + 1) (J := J) (T := T) (ix := ix) (N := N) hG hC hr
    rw [show 8 - (r + 1) = 7 - r by omega] at h3
    have h2 := k_X14_single (P := eSng T ix r) (Q := eTs T (eSng T ix r)) (W := eSu T (eVal T ix (r + 1))) (dv := 4 * r + 15) (dP := 4 * r + 12) (dQ := 4 * r + 12 + 2) (dW := 4 * (r + 1) + 8) (d := 7 - r) hG hC (by omega) (by omega) (by omega) (by omega) (by omega) (fun _ => by rw [show 7 - r + 1 = 8 - r by omega]; exact h1) (fun _ => by rw [show 7 - r + 1 = 8 - r by omega]; exact k_testV hG hC (by omega) (eSng_0 r) h1) (eSu_0 (eVal_0 (r + 1))) (eSu_f1 (eVal_f1 (r + 1))) h3
    rw [show 8 - (r + 1) = 7 - r by omega, show 4 * (r + 1) + 12 = 4 * r + 15 + 1 by omega]
    exact h2
/-- worths and tests as the bill asks for them -/
theorem k_sum0M (hG : okG G) (hC : MCc S R y bl nx) : KM G S J R y nx T ix N NdN mX14_sum 40 0 (eSu T (eVal T ix 8)) := k_eSumM (r := 8) hG hC (by omega)
theorem k_test0M (hG : okG G) (hC : MCc S R y bl nx) : KM G S J R y nx T ix N NdB mX14_test 46 0 (eTs T (eSng T ix 8)) := k_testV hG hC (by omega) (eSng_0 8) (k_eSngM hG hC 8 (by omega))
end Si

