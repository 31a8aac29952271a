theorem kc_b28 : (Int8.ofInt 28).toInt32 = 28 := by decide +kernel
theorem kc_b29 : (Int8.ofInt 29).toInt32 = 29 := by decide +kernel
theorem dX14_pair_0 : decode cX14_pair 0 = .ok (.aload_n 0, 1) := by decide +kernel
theorem dX14_pair_1 : decode cX14_pair 1 = .ok (.invokevirtual 201, 3) := by decide +kernel
theorem dX14_pair_4 : decode cX14_pair 4 = .ok (.istore_n 1, 1) := by decide +kernel
theorem dX14_pair_5 : decode cX14_pair 5 = .ok (.aload_n 0, 1) := by decide +kernel
theorem dX14_pair_6 : decode cX14_pair 6 = .ok (.iconst 2, 1) := by decide +kernel
theorem dX14_pair_7 : decode cX14_pair 7 = .ok (.bipush 28, 2) := by decide +kernel
theorem dX14_pair_9 : decode cX14_pair 9 = .ok (.invokevirtual 123, 3) := by decide +kernel
theorem dX14_pair_12 : decode cX14_pair 12 = .ok (.ifCond .eq 31, 3) := by decide +kernel
theorem dX14_pair_15 : decode cX14_pair 15 = .ok (.aload_n 0, 1) := by decide +kernel
theorem dX14_pair_16 : decode cX14_pair 16 = .ok (.dup, 1) := by decide +kernel
theorem dX14_pair_17 : decode cX14_pair 17 = .ok (.getfield 116, 3) := by decide +kernel
theorem dX14_pair_20 : decode cX14_pair 20 = .ok (.iconst 1, 1) := by decide +kernel
theorem dX14_pair_21 : decode cX14_pair 21 = .ok (.iadd, 1) := by decide +kernel
theorem dX14_pair_22 : decode cX14_pair 22 = .ok (.putfield 116, 3) := by decide +kernel
theorem dX14_pair_25 : decode cX14_pair 25 = .ok (.aload_n 0, 1) := by decide +kernel
theorem dX14_pair_26 : decode cX14_pair 26 = .ok (.getfield 36, 3) := by decide +kernel
theorem dX14_pair_29 : decode cX14_pair 29 = .ok (.bipush 28, 2) := by decide +kernel
theorem dX14_pair_31 : decode cX14_pair 31 = .ok (.iload_n 1, 1) := by decide +kernel
theorem dX14_pair_32 : decode cX14_pair 32 = .ok (.aload_n 0, 1) := by decide +kernel
theorem dX14_pair_33 : decode cX14_pair 33 = .ok (.invokevirtual 201, 3) := by decide +kernel
theorem dX14_pair_36 : decode cX14_pair 36 = .ok (.invokevirtual 162, 3) := by decide +kernel
theorem dX14_pair_39 : decode cX14_pair 39 = .ok (.istore_n 1, 1) := by decide +kernel
theorem dX14_pair_40 : decode cX14_pair 40 = .ok (.goto (-35), 3) := by decide +kernel
theorem dX14_pair_43 : decode cX14_pair 43 = .ok (.iload_n 1, 1) := by decide +kernel
theorem dX14_pair_44 : decode cX14_pair 44 = .ok (.ireturn, 1) := by decide +kernel
theorem dX14_product_0 : decode cX14_product 0 = .ok (.aload_n 0, 1) := by decide +kernel
theorem dX14_product_1 : decode cX14_product 1 = .ok (.invokevirtual 166, 3) := by decide +kernel
theorem dX14_product_4 : decode cX14_product 4 = .ok (.istore_n 1, 1) := by decide +kernel
theorem dX14_product_5 : decode cX14_product 5 = .ok (.aload_n 0, 1) := by decide +kernel
theorem dX14_product_6 : decode cX14_product 6 = .ok (.iconst 4, 1) := by decide +kernel
theorem dX14_product_7 : decode cX14_product 7 = .ok (.bipush 42, 2) := by decide +kernel
theorem dX14_product_9 : decode cX14_product 9 = .ok (.invokevirtual 123, 3) := by decide +kernel
theorem dX14_product_12 : decode cX14_product 12 = .ok (.ifCond .ne 13, 3) := by decide +kernel
theorem dX14_product_15 : decode cX14_product 15 = .ok (.aload_n 0, 1) := by decide +kernel
theorem dX14_product_16 : decode cX14_product 16 = .ok (.iconst 4, 1) := by decide +kernel
theorem dX14_product_17 : decode cX14_product 17 = .ok (.bipush 47, 2) := by decide +kernel
theorem dX14_product_19 : decode cX14_product 19 = .ok (.invokevirtual 123, 3) := by decide +kernel
theorem dX14_product_22 : decode cX14_product 22 = .ok (.ifCond .eq 40, 3) := by decide +kernel
theorem dX14_product_25 : decode cX14_product 25 = .ok (.aload_n 0, 1) := by decide +kernel
theorem dX14_product_26 : decode cX14_product 26 = .ok (.getfield 20, 3) := by decide +kernel
theorem dX14_product_29 : decode cX14_product 29 = .ok (.aload_n 0, 1) := by decide +kernel
theorem dX14_product_30 : decode cX14_product 30 = .ok (.getfield 116, 3) := by decide +kernel
theorem dX14_product_33 : decode cX14_product 33 = .ok (.iaload, 1) := by decide +kernel
theorem dX14_product_34 : decode cX14_product 34 = .ok (.istore_n 2, 1) := by decide +kernel
theorem dX14_product_35 : decode cX14_product 35 = .ok (.aload_n 0, 1) := by decide +kernel
theorem dX14_product_36 : decode cX14_product 36 = .ok (.dup, 1) := by decide +kernel
theorem dX14_product_37 : decode cX14_product 37 = .ok (.getfield 116, 3) := by decide +kernel
theorem dX14_product_40 : decode cX14_product 40 = .ok (.iconst 1, 1) := by decide +kernel
theorem dX14_product_41 : decode cX14_product 41 = .ok (.iadd, 1) := by decide +kernel
theorem dX14_product_42 : decode cX14_product 42 = .ok (.putfield 116, 3) := by decide +kernel
theorem dX14_product_45 : decode cX14_product 45 = .ok (.aload_n 0, 1) := by decide +kernel
theorem dX14_product_46 : decode cX14_product 46 = .ok (.getfield 36, 3) := by decide +kernel
theorem dX14_product_49 : decode cX14_product 49 = .ok (.iload_n 2, 1) := by decide +kernel
theorem dX14_product_50 : decode cX14_product 50 = .ok (.iload_n 1, 1) := by decide +kernel
theorem dX14_product_51 : decode cX14_product 51 = .ok (.aload_n 0, 1) := by decide +kernel
theorem dX14_product_52 : decode cX14_product 52 = .ok (.invokevirtual 166, 3) := by decide +kernel
theorem dX14_product_55 : decode cX14_product 55 = .ok (.invokevirtual 162, 3) := by decide +kernel
theorem dX14_product_58 : decode cX14_product 58 = .ok (.istore_n 1, 1) := by decide +kernel
theorem dX14_product_59 : decode cX14_product 59 = .ok (.goto (-54), 3) := by decide +kernel
theorem dX14_product_62 : decode cX14_product 62 = .ok (.iload_n 1, 1) := by decide +kernel
theorem dX14_product_63 : decode cX14_product 63 = .ok (.ireturn, 1) := by decide +kernel
theorem dX14_sum_0 : decode cX14_sum 0 = .ok (.aload_n 0, 1) := by decide +kernel
theorem dX14_sum_1 : decode cX14_sum 1 = .ok (.invokevirtual 159, 3) := by decide +kernel
theorem dX14_sum_4 : decode cX14_sum 4 = .ok (.istore_n 1, 1) := by decide +kernel
theorem dX14_sum_5 : decode cX14_sum 5 = .ok (.aload_n 0, 1) := by decide +kernel
theorem dX14_sum_6 : decode cX14_sum 6 = .ok (.iconst 4, 1) := by decide +kernel
theorem dX14_sum_7 : decode cX14_sum 7 = .ok (.bipush 43, 2) := by decide +kernel
theorem dX14_sum_9 : decode cX14_sum 9 = .ok (.invokevirtual 123, 3) := by decide +kernel
theorem dX14_sum_12 : decode cX14_sum 12 = .ok (.ifCond .ne 13, 3) := by decide +kernel
theorem dX14_sum_15 : decode cX14_sum 15 = .ok (.aload_n 0, 1) := by decide +kernel
theorem dX14_sum_16 : decode cX14_sum 16 = .ok (.iconst 4, 1) := by decide +kernel
theorem dX14_sum_17 : decode cX14_sum 17 = .ok (.bipush 45, 2) := by decide +kernel
theorem dX14_sum_19 : decode cX14_sum 19 = .ok (.invokevirtual 123, 3) := by decide +kernel
theorem dX14_sum_22 : decode cX14_sum 22 = .ok (.ifCond .eq 40, 3) := by decide +kernel
theorem dX14_sum_25 : decode cX14_sum 25 = .ok (.aload_n 0, 1) := by decide +kernel
theorem dX14_sum_26 : decode cX14_sum 26 = .ok (.getfield 20, 3) := by decide +kernel
theorem dX14_sum_29 : decode cX14_sum 29 = .ok (.aload_n 0, 1) := by decide +kernel
theorem dX14_sum_30 : decode cX14_sum 30 = .ok (.getfield 116, 3) := by decide +kernel
theorem dX14_sum_33 : decode cX14_sum 33 = .ok (.iaload, 1) := by decide +kernel
theorem dX14_sum_34 : decode cX14_sum 34 = .ok (.istore_n 2, 1) := by decide +kernel
theorem dX14_sum_35 : decode cX14_sum 35 = .ok (.aload_n 0, 1) := by decide +kernel
theorem dX14_sum_36 : decode cX14_sum 36 = .ok (.dup, 1) := by decide +kernel
theorem dX14_sum_37 : decode cX14_sum 37 = .ok (.getfield 116, 3) := by decide +kernel
theorem dX14_sum_40 : decode cX14_sum 40 = .ok (.iconst 1, 1) := by decide +kernel
theorem dX14_sum_41 : decode cX14_sum 41 = .ok (.iadd, 1) := by decide +kernel
theorem dX14_sum_42 : decode cX14_sum 42 = .ok (.putfield 116, 3) := by decide +kernel
theorem dX14_sum_45 : decode cX14_sum 45 = .ok (.aload_n 0, 1) := by decide +kernel
theorem dX14_sum_46 : decode cX14_sum 46 = .ok (.getfield 36, 3) := by decide +kernel
theorem dX14_sum_49 : decode cX14_sum 49 = .ok (.iload_n 2, 1) := by decide +kernel
theorem dX14_sum_50 : decode cX14_sum 50 = .ok (.iload_n 1, 1) := by decide +kernel
theorem dX14_sum_51 : decode cX14_sum 51 = .ok (.aload_n 0, 1) := by decide +kernel
theorem dX14_sum_52 : decode cX14_sum 52 = .ok (.invokevirtual 159, 3) := by decide +kernel
theorem dX14_sum_55 : decode cX14_sum 55 = .ok (.invokevirtual 162, 3) := by decide +kernel
theorem dX14_sum_58 : decode cX14_sum 58 = .ok (.istore_n 1, 1) := by decide +kernel
theorem dX14_sum_59 : decode cX14_sum 59 = .ok (.goto (-54), 3) := by decide +kernel
theorem dX14_sum_62 : decode cX14_sum 62 = .ok (.iload_n 1, 1) := by decide +kernel
theorem dX14_sum_63 : decode cX14_sum 63 = .ok (.ireturn, 1) := by decide +kernel
theorem dX14_test_0 : decode cX14_test 0 = .ok (.aload_n 0, 1) := by decide +kernel
theorem dX14_test_1 : decode cX14_test 1 = .ok (.invokevirtual 198, 3) := by decide +kernel
theorem dX14_test_4 : decode cX14_test 4 = .ok (.istore_n 1, 1) := by decide +kernel
theorem dX14_test_5 : decode cX14_test 5 = .ok (.aload_n 0, 1) := by decide +kernel
theorem dX14_test_6 : decode cX14_test 6 = .ok (.iconst 2, 1) := by decide +kernel
theorem dX14_test_7 : decode cX14_test 7 = .ok (.bipush 29, 2) := by decide +kernel
theorem dX14_test_9 : decode cX14_test 9 = .ok (.invokevirtual 123, 3) := by decide +kernel
theorem dX14_test_12 : decode cX14_test 12 = .ok (.ifCond .eq 31, 3) := by decide +kernel
theorem dX14_test_15 : decode cX14_test 15 = .ok (.aload_n 0, 1) := by decide +kernel
theorem dX14_test_16 : decode cX14_test 16 = .ok (.dup, 1) := by decide +kernel
theorem dX14_test_17 : decode cX14_test 17 = .ok (.getfield 116, 3) := by decide +kernel
theorem dX14_test_20 : decode cX14_test 20 = .ok (.iconst 1, 1) := by decide +kernel
theorem dX14_test_21 : decode cX14_test 21 = .ok (.iadd, 1) := by decide +kernel
theorem dX14_test_22 : decode cX14_test 22 = .ok (.putfield 116, 3) := by decide +kernel
theorem dX14_test_25 : decode cX14_test 25 = .ok (.aload_n 0, 1) := by decide +kernel
theorem dX14_test_26 : decode cX14_test 26 = .ok (.getfield 36, 3) := by decide +kernel
theorem dX14_test_29 : decode cX14_test 29 = .ok (.bipush 29, 2) := by decide +kernel
theorem dX14_test_31 : decode cX14_test 31 = .ok (.iload_n 1, 1) := by decide +kernel
theorem dX14_test_32 : decode cX14_test 32 = .ok (.aload_n 0, 1) := by decide +kernel
theorem dX14_test_33 : decode cX14_test 33 = .ok (.invokevirtual 198, 3) := by decide +kernel
theorem dX14_test_36 : decode cX14_test 36 = .ok (.invokevirtual 162, 3) := by decide +kernel
theorem dX14_test_39 : decode cX14_test 39 = .ok (.istore_n 1, 1) := by decide +kernel
theorem dX14_test_40 : decode cX14_test 40 = .ok (.goto (-35), 3) := by decide +kernel
theorem dX14_test_43 : decode cX14_test 43 = .ok (.iload_n 1, 1) := by decide +kernel
theorem dX14_test_44 : decode cX14_test 44 = .ok (.ireturn, 1) := by decide +kernel
/-! the reference reads rows of parts -/
section Lm
variable {G : Gp} {S : AMem} {J : Nat → Nat → Int64} {R : Nat → Nat → Option Nat} {y bl nx : Nat} {T : Toks} {ix : Int32 → Int64 → Int32} {N : Nat × Nat × Nat}
theorem k_X14_product {V : PS × Cd → PS × Cd} {dv dep : Nat} (hG : okG G) (hC : MCc S R y bl nx) (hdv : 1 ≤ dv) (v0 : KE0 V) (hV : KM G S J R y nx T ix N NdN mX14_one dv dep V) : KM G S J R y nx T ix N NdN mX14_product (dv + 1) dep (eProd T V) := by
  intro I s a k h ha
  have ky := hC.1.1
  have kb := hC.2.2.2.2.2.2.2.2.1.1
  have rn := hC.2.2.2.2.2.2.1
  obtain ⟨q4, q5, _, _, ⟨k2, l2⟩, ⟨k3, l3⟩, _⟩ := id hC.2.2.2.2.2.2.2.2.2
  have hn : T.n ≤ 401 := h.1.2.1
  unfold eProd
  obtain ⟨W, hW⟩ : ∃ W, eLoop T V 42 47 400 (V s) = W := ⟨_, rfl⟩
  rw [hW]
  have ex : ∀ (I1 : Nat → Nat → Int32) (s1 : PS × Cd) (a1 k1 n : Nat) (x2 : Option AV) , PC I1 y nx T ix N s1 dep a1 k1 → (k1 + a ≤ k + a1 ∧ a ≤ a1 ∧ k ≤ k1) → OffM y nx k I I1 → (s1.1.2.1 = 0 → NRx NdN I1 nx N s.2 s1.2 n) → s1 = W → pK T s1.1 ≠ 42 → pK T s1.1 ≠ 47 → MW G mX14_product (dv + 1) 5 [some (vR y), some (vI (nI n)), x2] [] (mw S I1 J R) (fun f M1 => ∃ rr, f = .inl rr ∧ (∃ n I1 a1 k1, rr = some (vI (nI n)) ∧ M1 = mw S I1 J R ∧ PC I1 y nx T ix N W dep a1 k1 ∧ (k1 + a ≤ k + a1 ∧ a ≤ a1 ∧ k ≤ k1) ∧ OffM y nx k I I1 ∧ (W.1.2.1 = 0 → NRx NdN I1 nx N s.2 W.2 n))) := by
    intro I1 s1 a1 k1 n x2 g1 g2 g3 g4 e c1 c2
    subst e
    have cc : (pK T s1.1 ≠ 42 ∧ pK T s1.1 ≠ 47) ∧ True := ⟨⟨c1, c2⟩, trivial⟩
    clear c1 c2
    refine am_aload_n (q := 6) dX14_product_5 rfl rfl ?_
    refine am_iconst (q := 7) (v := 4) dX14_product_6 kc_i4 rfl ?_
    refine am_bipush (q := 9) (v := 42) dX14_product_7 kc_b42 rfl ?_
    refine cm_call0 (q := 12) (As := [_, _]) hG dX14_product_9 mlX14_123 rfl (by assumption) ⟨_, _, rfl⟩ (Nat.le_of_ble_eq_true rfl) (Nat.le_of_ble_eq_true rfl) (by omega) (Nat.le_of_ble_eq_true rfl) (k_X14_is (kk := nI 42) hG hC g1 (by decide) (sg_all (c := 42) (by decide))) rfl ?_
    rintro _ _ ⟨rfl, rfl⟩
    rw [bI_f (c := pK T s1.1 = nI 42) cc.1.1]
    refine am_if_ne (tgt := 25) (q := 15) dX14_product_12 rfl rfl (fun hz => absurd rfl hz) (fun _ => ?_)
    refine am_aload_n (q := 16) dX14_product_15 rfl rfl ?_
    refine am_iconst (q := 17) (v := 4) dX14_product_16 kc_i4 rfl ?_
    refine am_bipush (q := 19) (v := 47) dX14_product_17 kc_b47 rfl ?_
    refine cm_call0 (q := 22) (As := [_, _]) hG dX14_product_19 mlX14_123 rfl (by assumption) ⟨_, _, rfl⟩ (Nat.le_of_ble_eq_true rfl) (Nat.le_of_ble_eq_true rfl) (by omega) (Nat.le_of_ble_eq_true rfl) (k_X14_is (kk := nI 47) hG hC g1 (by decide) (sg_all (c := 47) (by decide))) rfl ?_
    rintro _ _ ⟨rfl, rfl⟩
    rw [bI_f (c := pK T s1.1 = nI 47) cc.1.2]
    refine am_if_eq (tgt := 62) (q := 25) dX14_product_22 rfl rfl (fun _ => ?_) (fun hz => absurd rfl hz)
    refine am_iload_n (q := 63) dX14_product_62 rfl rfl ?_
    exact am_iret dX14_product_63 rfl rfl ⟨_, rfl, n, I1, a1, k1, rfl, rfl, g1, g2, g3, g4⟩
  have go : ∀ m, (∀ (I1 : Nat → Nat → Int32) (s1 : PS × Cd) (a1 k1 n : Nat) (x2 : Option AV) , PC I1 y nx T ix N s1 dep a1 k1 → (k1 + a ≤ k + a1 ∧ a ≤ a1 ∧ k ≤ k1) → OffM y nx k I I1 → (s1.1.2.1 = 0 → NRx NdN I1 nx N s.2 s1.2 n) → (s1.1.2.1 ≠ 1 → T.n ≤ a1 + m) → eLoop T V 42 47 m s1 = W → MW G mX14_product (dv + 1) 5 [some (vR y), some (vI (nI n)), x2] [] (mw S I1 J R) (fun f M1 => ∃ rr, f = .inl rr ∧ (∃ n I1 a1 k1, rr = some (vI (nI n)) ∧ M1 = mw S I1 J R ∧ PC I1 y nx T ix N W dep a1 k1 ∧ (k1 + a ≤ k + a1 ∧ a ≤ a1 ∧ k ≤ k1) ∧ OffM y nx k I I1 ∧ (W.1.2.1 = 0 → NRx NdN I1 nx N s.2 W.2 n)))) := by
    intro m
    induction m with
    | zero =>
      intro I1 s1 a1 k1 n x2 g1 g2 g3 g4 g5 e
      have hg : s1.1.2.1 = 1 := Classical.byContradiction fun q => by
        have := (g1.kind q).2.1
        have := g5 q
        omega
      exact ex I1 s1 a1 k1 n x2 g1 g2 g3 g4 e (by rw [pK_f1 hg]; decide) (by rw [pK_f1 hg]; decide)
    | succ m ih =>
      intro I1 s1 a1 k1 n x2 g1 g2 g3 g4 g5 e
      rw [eLoop] at e
      by_cases c : pK T s1.1 = 42 ∨ pK T s1.1 = 47
      · rw [if_pos c] at e
        have hg : s1.1.2.1 ≠ 1 := fun q => by
          rw [pK_f1 q] at c
          exact absurd c (by decide)
        obtain ⟨e1, e2, e3⟩ := g1.kind hg
        obtain ⟨i2, i3, sr, ca⟩ := g1.sort hC e2
        have h13 := g1.2.1.1
        have hka := g1.2.1.2.2.2.1
        obtain ⟨kk, hkk⟩ : ∃ kk, pK T s1.1 = kk := ⟨_, rfl⟩
        rw [hkk] at c e
        have k6 : kk ≠ 256 := by rcases c with z | z <;> rw [z] <;> decide
        have k7 : kk ≠ 257 := by rcases c with z | z <;> rw [z] <;> decide
        have hva : I1 (y + 3) a1 = kk := by
          rcases c with z | z
          · have := ((sg_all (c := 42) (by decide)) _ _ _ _ sr).mpr (by rw [← e1, hkk, z]; rfl)
            rw [this.2, z]
            rfl
          · have := ((sg_all (c := 47) (by decide)) _ _ _ _ sr).mpr (by rw [← e1, hkk, z]; rfl)
            rw [this.2, z]
            rfl
        have I2h : ∀ x j, up2 I1 y 13 (nI (a1 + 1)) x j = if x = y ∧ j = 13 then nI (a1 + 1) else I1 x j := fun x j => up2_at _ _
        obtain ⟨d1, d2⟩ := g1.eat hC hg hkk k6 k7 I2h
        have body : MW G mX14_product (dv + 1) 25 [some (vR y), some (vI (nI n)), x2] [] (mw S I1 J R) (fun f M1 => ∃ rr, f = .inl rr ∧ (∃ n I1 a1 k1, rr = some (vI (nI n)) ∧ M1 = mw S I1 J R ∧ PC I1 y nx T ix N W dep a1 k1 ∧ (k1 + a ≤ k + a1 ∧ a ≤ a1 ∧ k ≤ k1) ∧ OffM y nx k I I1 ∧ (W.1.2.1 = 0 → NRx NdN I1 nx N s.2 W.2 n))) := by
          have hz : (s1.1.2.1 ≠ 1 ∧ pK T s1.1 = kk ∧ kk ≠ 256 ∧ kk ≠ 257) ∧ True := ⟨⟨hg, hkk, k6, k7⟩, trivial⟩
          clear hg hkk e1 e3 ex k6 k7
          refine am_aload_n (q := 26) dX14_product_25 rfl rfl ?_
          refine cm_getR (q := 29) dX14_product_26 flX14_20 rfl (by assumption) (by assumption) rfl ?_
          refine am_aload_n (q := 30) dX14_product_29 rfl rfl ?_
          refine cm_getI (q := 33) dX14_product_30 flX14_116 rfl (by assumption) rfl ?_
          rw [h13]
          refine cm_iaload (q := 34) dX14_product_33 (by assumption) i3 rfl ?_
          rw [ca, hva]
          refine am_istore_n (q := 35) (ls1 := [_, _, _]) dX14_product_34 (Nat.le_of_ble_eq_true rfl) rfl rfl ?_
          refine am_aload_n (q := 36) dX14_product_35 rfl rfl ?_
          refine am_dup (q := 37) dX14_product_36 rfl rfl ?_
          refine cm_getI (q := 40) dX14_product_37 flX14_116 rfl (by assumption) rfl ?_
          rw [h13]
          refine am_iconst (q := 41) (v := 1) dX14_product_40 kc_i1 rfl ?_
          refine am_iadd (q := 42) dX14_product_41 rfl ?_
          refine cm_putI (q := 45) dX14_product_42 flX14_116 rfl (Or.inl rfl) (Or.inl rfl) (by assumption) rfl ?_
          rw [nI_1]
          generalize up2 I1 y 13 (nI (a1 + 1)) = I2 at I2h d1 d2 ⊢
          refine am_aload_n (q := 46) dX14_product_45 rfl rfl ?_
          refine cm_getR (q := 49) dX14_product_46 flX14_36 rfl (by assumption) (by assumption) rfl ?_
          refine am_iload_n (q := 50) dX14_product_49 rfl rfl ?_
          refine am_iload_n (q := 51) dX14_product_50 rfl rfl ?_
          refine am_aload_n (q := 52) dX14_product_51 rfl rfl ?_
          refine cm_call0 (q := 55) (As := []) hG dX14_product_52 mlX14_166 rfl (by assumption) ⟨_, _, rfl⟩ (Nat.le_of_ble_eq_true rfl) (Nat.le_of_ble_eq_true rfl) (by omega) (Nat.le_of_ble_eq_true rfl) (hV I2 _ (a1 + 1) k1 d1 (by omega)) rfl ?_
          rintro _ _ ⟨n2, I3, a3, k3, rfl, rfl, t1, t2, t3, t4⟩
          obtain ⟨u1, u2, u3⟩ := t1.nd (w := kk) (u := nI n) (v := nI n2) (kk := kk) (g := 0) hC (by omega)
          have h10 := t1.2.1.2.2.1
          have ndc := k_X12_node (G := G) (J := J) (I := I3) (w := kk) (u := nI n) (v := nI n2) hC h10 u3
          have res : (eAd kk 0 (V (eEx T kk s1))).1.2.1 = 0 → NRx NdN (ndI I3 nx k3 kk (nI n) (nI n2)) nx N s.2 (eAd kk 0 (V (eEx T kk s1))).2 k3 := by
            intro q
            have q1 : (eEx T kk s1).1.2.1 = 0 := v0 _ (eAd_0 q)
            have q2 : s1.1.2.1 = 0 := eEx_0 q1
            have hk1 : k1 = s1.2.length := by
              obtain ⟨_, _, z | z⟩ := g1
              · exact absurd z.1 hz.1.1
              · exact (z.2.2.2.2.2.2.1 q2).2
            have hk3 : k3 = (V (eEx T kk s1)).2.length ∧ a3 < T.n := by
              obtain ⟨_, _, z | z⟩ := t1
              · exact absurd (z.1.symm.trans (eAd_0 q)) (by decide)
              · exact ⟨(z.2.2.2.2.2.2.1 (eAd_0 q)).2, z.2.2.2.1⟩
            exact NRx.bn hC (g4 q2) (t4 (eAd_0 q)) (d2.tr t3 (Nat.le_refl _)) (by omega) hk3.1 (by omega) (by rcases c with z | z <;> rw [z] <;> decide)
          generalize eAd kk 0 (V (eEx T kk s1)) = s2 at e u1 res
          have u4 := u1
          have fin := fun x => ih (ndI I3 nx k3 kk (nI n) (nI n2)) s2 a3 (k3 + 1) k3 x u1 ⟨by omega, by omega, by omega⟩ (((g3.tr d2 (by omega)).tr t3 (by omega)).tr u2 (by omega)) res (fun _ => by have := g5 hz.1.1; omega) e
          clear res e t4 g4 g5 ih hW
          refine cm_call0 (q := 58) (As := [_, _, _]) hG dX14_product_55 mlX14_162 rfl (by assumption) ⟨_, _, rfl⟩ (Nat.le_of_ble_eq_true rfl) (Nat.le_of_ble_eq_true rfl) (by omega) (Nat.le_of_ble_eq_true rfl) ndc rfl ?_
          rintro _ _ ⟨rfl, rfl⟩
          refine am_istore_n (q := 59) (ls1 := [_, _, _]) dX14_product_58 (Nat.le_of_ble_eq_true rfl) rfl rfl ?_
          refine am_goto (tgt := 5) dX14_product_59 rfl ?_
          exact fin _
        clear e hva ex g4 g5 ih d1 d2 hW
        refine am_aload_n (q := 6) dX14_product_5 rfl rfl ?_
        refine am_iconst (q := 7) (v := 4) dX14_product_6 kc_i4 rfl ?_
        refine am_bipush (q := 9) (v := 42) dX14_product_7 kc_b42 rfl ?_
        refine cm_call0 (q := 12) (As := [_, _]) hG dX14_product_9 mlX14_123 rfl (by assumption) ⟨_, _, rfl⟩ (Nat.le_of_ble_eq_true rfl) (Nat.le_of_ble_eq_true rfl) (by omega) (Nat.le_of_ble_eq_true rfl) (k_X14_is (kk := nI 42) hG hC g1 (by decide) (sg_all (c := 42) (by decide))) rfl ?_
        rintro _ _ ⟨rfl, rfl⟩
        rw [hkk]
        by_cases cz : kk = nI 42
        · rw [bI_t cz]
          clear hkk hg
          refine am_if_ne (tgt := 25) (q := 15) dX14_product_12 rfl rfl (fun _ => ?_) (fun hz => absurd hz (by decide))
          exact body
        · rw [bI_f cz]
          have cy : pK T s1.1 = nI 47 ∧ True := ⟨hkk.trans (c.resolve_left cz), trivial⟩
          clear hkk hg
          refine am_if_ne (tgt := 25) (q := 15) dX14_product_12 rfl rfl (fun hz => absurd rfl hz) (fun _ => ?_)
          refine am_aload_n (q := 16) dX14_product_15 rfl rfl ?_
          refine am_iconst (q := 17) (v := 4) dX14_product_16 kc_i4 rfl ?_
          refine am_bipush (q := 19) (v := 47) dX14_product_17 kc_b47 rfl ?_
          refine cm_call0 (q := 22) (As := [_, _]) hG dX14_product_19 mlX14_123 rfl (by assumption) ⟨_, _, rfl⟩ (Nat.le_of_ble_eq_true rfl) (Nat.le_of_ble_eq_true rfl) (by omega) (Nat.le_of_ble_eq_true rfl) (k_X14_is (kk := nI 47) hG hC g1 (by decide) (sg_all (c := 47) (by decide))) rfl ?_
          rintro _ _ ⟨rfl, rfl⟩
          rw [bI_t cy.1]
          refine am_if_eq (tgt := 62) (q := 25) dX14_product_22 rfl rfl (fun hz => absurd hz (by decide)) (fun _ => ?_)
          exact body
      · rw [if_neg c] at e
        exact ex I1 s1 a1 k1 n x2 g1 g2 g3 g4 e (fun q => c (Or.inl q)) (fun q => c (Or.inr q))
  clear ex
  refine am_aload_n (q := 1) dX14_product_0 rfl rfl ?_
  refine cm_call0 (q := 4) (As := []) hG dX14_product_1 mlX14_166 rfl (by assumption) ⟨_, _, rfl⟩ (Nat.le_of_ble_eq_true rfl) (Nat.le_of_ble_eq_true rfl) (by omega) (Nat.le_of_ble_eq_true rfl) (hV I s a k h ha) rfl ?_
  rintro _ _ ⟨n, I1, a1, k1, rfl, rfl, t1, t2, t3, t4⟩
  refine am_istore_n (q := 5) (ls1 := [_, _, _]) dX14_product_4 (Nat.le_of_ble_eq_true rfl) rfl rfl ?_
  exact go 400 I1 (V s) a1 k1 n _ t1 t2 t3 t4 (fun _ => by omega) hW
theorem k_X14_sum {V : PS × Cd → PS × Cd} {dv dep : Nat} (hG : okG G) (hC : MCc S R y bl nx) (hdv : 1 ≤ dv) (v0 : KE0 V) (hV : KM G S J R y nx T ix N NdN mX14_product dv dep V) : KM G S J R y nx T ix N NdN mX14_sum (dv + 1) dep (eSum1 T V) := by
  intro I s a k h ha
  have ky := hC.1.1
  have kb := hC.2.2.2.2.2.2.2.2.1.1
  have rn := hC.2.2.2.2.2.2.1
  obtain ⟨q4, q5, _, _, ⟨k2, l2⟩, ⟨k3, l3⟩, _⟩ := id hC.2.2.2.2.2.2.2.2.2
  have hn : T.n ≤ 401 := h.1.2.1
  unfold eSum1
  obtain ⟨W, hW⟩ : ∃ W, eLoop T V 43 45 400 (V s) = W := ⟨_, rfl⟩
  rw [hW]
  have ex : ∀ (I1 : Nat → Nat → Int32) (s1 : PS × Cd) (a1 k1 n : Nat) (x2 : Option AV) , PC I1 y nx T ix N s1 dep a1 k1 → (k1 + a ≤ k + a1 ∧ a ≤ a1 ∧ k ≤ k1) → OffM y nx k I I1 → (s1.1.2.1 = 0 → NRx NdN I1 nx N s.2 s1.2 n) → s1 = W → pK T s1.1 ≠ 43 → pK T s1.1 ≠ 45 → MW G mX14_sum (dv + 1) 5 [some (vR y), some (vI (nI n)), x2] [] (mw S I1 J R) (fun f M1 => ∃ rr, f = .inl rr ∧ (∃ n I1 a1 k1, rr = some (vI (nI n)) ∧ M1 = mw S I1 J R ∧ PC I1 y nx T ix N W dep a1 k1 ∧ (k1 + a ≤ k + a1 ∧ a ≤ a1 ∧ k ≤ k1) ∧ OffM y nx k I I1 ∧ (W.1.2.1 = 0 → NRx NdN I1 nx N s.2 W.2 n))) := by
    intro I1 s1 a1 k1 n x2 g1 g2 g3 g4 e c1 c2
    subst e
    have cc : (pK T s1.1 ≠ 43 ∧ pK T s1.1 ≠ 45) ∧ True := ⟨⟨c1, c2⟩, trivial⟩
    clear c1 c2
    refine am_aload_n (q := 6) dX14_sum_5 rfl rfl ?_
    refine am_iconst (q := 7) (v := 4) dX14_sum_6 kc_i4 rfl ?_
    refine am_bipush (q := 9) (v := 43) dX14_sum_7 kc_b43 rfl ?_
    refine cm_call0 (q := 12) (As := [_, _]) hG dX14_sum_9 mlX14_123 rfl (by assumption) ⟨_, _, rfl⟩ (Nat.le_of_ble_eq_true rfl) (Nat.le_of_ble_eq_true rfl) (by omega) (Nat.le_of_ble_eq_true rfl) (k_X14_is (kk := nI 43) hG hC g1 (by decide) (sg_all (c := 43) (by decide))) rfl ?_
    rintro _ _ ⟨rfl, rfl⟩
    rw [bI_f (c := pK T s1.1 = nI 43) cc.1.1]
    refine am_if_ne (tgt := 25) (q := 15) dX14_sum_12 rfl rfl (fun hz => absurd rfl hz) (fun _ => ?_)
    refine am_aload_n (q := 16) dX14_sum_15 rfl rfl ?_
    refine am_iconst (q := 17) (v := 4) dX14_sum_16 kc_i4 rfl ?_
    refine am_bipush (q := 19) (v := 45) dX14_sum_17 kc_b45 rfl ?_
    refine cm_call0 (q := 22) (As := [_, _]) hG dX14_sum_19 mlX14_123 rfl (by assumption) ⟨_, _, rfl⟩ (Nat.le_of_ble_eq_true rfl) (Nat.le_of_ble_eq_true rfl) (by omega) (Nat.le_of_ble_eq_true rfl) (k_X14_is (kk := nI 45) hG hC g1 (by decide) (sg_all (c := 45) (by decide))) rfl ?_
    rintro _ _ ⟨rfl, rfl⟩
    rw [bI_f (c := pK T s1.1 = nI 45) cc.1.2]
    refine am_if_eq (tgt := 62) (q := 25) dX14_sum_22 rfl rfl (fun _ => ?_) (fun hz => absurd rfl hz)
    refine am_iload_n (q := 63) dX14_sum_62 rfl rfl ?_
    exact am_iret dX14_sum_63 rfl rfl ⟨_, rfl, n, I1, a1, k1, rfl, rfl, g1, g2, g3, g4⟩
  have go : ∀ m, (∀ (I1 : Nat → Nat → Int32) (s1 : PS × Cd) (a1 k1 n : Nat) (x2 : Option AV) , PC I1 y nx T ix N s1 dep a1 k1 → (k1 + a ≤ k + a1 ∧ a ≤ a1 ∧ k ≤ k1) → OffM y nx k I I1 → (s1.1.2.1 = 0 → NRx NdN I1 nx N s.2 s1.2 n) → (s1.1.2.1 ≠ 1 → T.n ≤ a1 + m) → eLoop T V 43 45 m s1 = W → MW G mX14_sum (dv + 1) 5 [some (vR y), some (vI (nI n)), x2] [] (mw S I1 J R) (fun f M1 => ∃ rr, f = .inl rr ∧ (∃ n I1 a1 k1, rr = some (vI (nI n)) ∧ M1 = mw S I1 J R ∧ PC I1 y nx T ix N W dep a1 k1 ∧ (k1 + a ≤ k + a1 ∧ a ≤ a1 ∧ k ≤ k1) ∧ OffM y nx k I I1 ∧ (W.1.2.1 = 0 → NRx NdN I1 nx N s.2 W.2 n)))) := by
    intro m
    induction m with
    | zero =>
      intro I1 s1 a1 k1 n x2 g1 g2 g3 g4 g5 e
      have hg : s1.1.2.1 = 1 := Classical.byContradiction fun q => by
        have := (g1.kind q).2.1
        have := g5 q
        omega
      exact ex I1 s1 a1 k1 n x2 g1 g2 g3 g4 e (by rw [pK_f1 hg]; decide) (by rw [pK_f1 hg]; decide)
    | succ m ih =>
      intro I1 s1 a1 k1 n x2 g1 g2 g3 g4 g5 e
      rw [eLoop] at e
      by_cases c : pK T s1.1 = 43 ∨ pK T s1.1 = 45
      · rw [if_pos c] at e
        have hg : s1.1.2.1 ≠ 1 := fun q => by
          rw [pK_f1 q] at c
          exact absurd c (by decide)
        obtain ⟨e1, e2, e3⟩ := g1.kind hg
        obtain ⟨i2, i3, sr, ca⟩ := g1.sort hC e2
        have h13 := g1.2.1.1
        have hka := g1.2.1.2.2.2.1
        obtain ⟨kk, hkk⟩ : ∃ kk, pK T s1.1 = kk := ⟨_, rfl⟩
        rw [hkk] at c e
        have k6 : kk ≠ 256 := by rcases c with z | z <;> rw [z] <;> decide
        have k7 : kk ≠ 257 := by rcases c with z | z <;> rw [z] <;> decide
        have hva : I1 (y + 3) a1 = kk := by
          rcases c with z | z
          · have := ((sg_all (c := 43) (by decide)) _ _ _ _ sr).mpr (by rw [← e1, hkk, z]; rfl)
            rw [this.2, z]
            rfl
          · have := ((sg_all (c := 45) (by decide)) _ _ _ _ sr).mpr (by rw [← e1, hkk, z]; rfl)
            rw [this.2, z]
            rfl
        have I2h : ∀ x j, up2 I1 y 13 (nI (a1 + 1)) x j = if x = y ∧ j = 13 then nI (a1 + 1) else I1 x j := fun x j => up2_at _ _
        obtain ⟨d1, d2⟩ := g1.eat hC hg hkk k6 k7 I2h
        have body : MW G mX14_sum (dv + 1) 25 [some (vR y), some (vI (nI n)), x2] [] (mw S I1 J R) (fun f M1 => ∃ rr, f = .inl rr ∧ (∃ n I1 a1 k1, rr = some (vI (nI n)) ∧ M1 = mw S I1 J R ∧ PC I1 y nx T ix N W dep a1 k1 ∧ (k1 + a ≤ k + a1 ∧ a ≤ a1 ∧ k ≤ k1) ∧ OffM y nx k I I1 ∧ (W.1.2.1 = 0 → NRx NdN I1 nx N s.2 W.2 n))) := by
          have hz : (s1.1.2.1 ≠ 1 ∧ pK T s1.1 = kk ∧ kk ≠ 256 ∧ kk ≠ 257) ∧ True := ⟨⟨hg, hkk, k6, k7⟩, trivial⟩
          clear hg hkk e1 e3 ex k6 k7
          refine am_aload_n (q := 26) dX14_sum_25 rfl rfl ?_
          refine cm_getR (q := 29) dX14_sum_26 flX14_20 rfl (by assumption) (by assumption) rfl ?_
          refine am_aload_n (q := 30) dX14_sum_29 rfl rfl ?_
          refine cm_getI (q := 33) dX14_sum_30 flX14_116 rfl (by assumption) rfl ?_
          rw [h13]
          refine cm_iaload (q := 34) dX14_sum_33 (by assumption) i3 rfl ?_
          rw [ca, hva]
          refine am_istore_n (q := 35) (ls1 := [_, _, _]) dX14_sum_34 (Nat.le_of_ble_eq_true rfl) rfl rfl ?_
          refine am_aload_n (q := 36) dX14_sum_35 rfl rfl ?_
          refine am_dup (q := 37) dX14_sum_36 rfl rfl ?_
          refine cm_getI (q := 40) dX14_sum_37 flX14_116 rfl (by assumption) rfl ?_
          rw [h13]
          refine am_iconst (q := 41) (v := 1) dX14_sum_40 kc_i1 rfl ?_
          refine am_iadd (q := 42) dX14_sum_41 rfl ?_
          refine cm_putI (q := 45) dX14_sum_42 flX14_116 rfl (Or.inl rfl) (Or.inl rfl) (by assumption) rfl ?_
          rw [nI_1]
          generalize up2 I1 y 13 (nI (a1 + 1)) = I2 at I2h d1 d2 ⊢
          refine am_aload_n (q := 46) dX14_sum_45 rfl rfl ?_
          refine cm_getR (q := 49) dX14_sum_46 flX14_36 rfl (by assumption) (by assumption) rfl ?_
          refine am_iload_n (q := 50) dX14_sum_49 rfl rfl ?_
          refine am_iload_n (q := 51) dX14_sum_50 rfl rfl ?_
          refine am_aload_n (q := 52) dX14_sum_51 rfl rfl ?_
          refine cm_call0 (q := 55) (As := []) hG dX14_sum_52 mlX14_159 rfl (by assumption) ⟨_, _, rfl⟩ (Nat.le_of_ble_eq_true rfl) (Nat.le_of_ble_eq_true rfl) (by omega) (Nat.le_of_ble_eq_true rfl) (hV I2 _ (a1 + 1) k1 d1 (by omega)) rfl ?_
          rintro _ _ ⟨n2, I3, a3, k3, rfl, rfl, t1, t2, t3, t4⟩
          obtain ⟨u1, u2, u3⟩ := t1.nd (w := kk) (u := nI n) (v := nI n2) (kk := kk) (g := 0) hC (by omega)
          have h10 := t1.2.1.2.2.1
          have ndc := k_X12_node (G := G) (J := J) (I := I3) (w := kk) (u := nI n) (v := nI n2) hC h10 u3
          have res : (eAd kk 0 (V (eEx T kk s1))).1.2.1 = 0 → NRx NdN (ndI I3 nx k3 kk (nI n) (nI n2)) nx N s.2 (eAd kk 0 (V (eEx T kk s1))).2 k3 := by
            intro q
            have q1 : (eEx T kk s1).1.2.1 = 0 := v0 _ (eAd_0 q)
            have q2 : s1.1.2.1 = 0 := eEx_0 q1
            have hk1 : k1 = s1.2.length := by
              obtain ⟨_, _, z | z⟩ := g1
              · exact absurd z.1 hz.1.1
              · exact (z.2.2.2.2.2.2.1 q2).2
            have hk3 : k3 = (V (eEx T kk s1)).2.length ∧ a3 < T.n := by
              obtain ⟨_, _, z | z⟩ := t1
              · exact absurd (z.1.symm.trans (eAd_0 q)) (by decide)
              · exact ⟨(z.2.2.2.2.2.2.1 (eAd_0 q)).2, z.2.2.2.1⟩
            exact NRx.bn hC (g4 q2) (t4 (eAd_0 q)) (d2.tr t3 (Nat.le_refl _)) (by omega) hk3.1 (by omega) (by rcases c with z | z <;> rw [z] <;> decide)
          generalize eAd kk 0 (V (eEx T kk s1)) = s2 at e u1 res
          have u4 := u1
          have fin := fun x => ih (ndI I3 nx k3 kk (nI n) (nI n2)) s2 a3 (k3 + 1) k3 x u1 ⟨by omega, by omega, by omega⟩ (((g3.tr d2 (by omega)).tr t3 (by omega)).tr u2 (by omega)) res (fun _ => by have := g5 hz.1.1; omega) e
          clear res e t4 g4 g5 ih hW
          refine cm_call0 (q := 58) (As := [_, _, _]) hG dX14_sum_55 mlX14_162 rfl (by assumption) ⟨_, _, rfl⟩ (Nat.le_of_ble_eq_true rfl) (Nat.le_of_ble_eq_true rfl) (by omega) (Nat.le_of_ble_eq_true rfl) ndc rfl ?_
          rintro _ _ ⟨rfl, rfl⟩
          refine am_istore_n (q := 59) (ls1 := [_, _, _]) dX14_sum_58 (Nat.le_of_ble_eq_true rfl) rfl rfl ?_
          refine am_goto (tgt := 5) dX14_sum_59 rfl ?_
          exact fin _
        clear e hva ex g4 g5 ih d1 d2 hW
        refine am_aload_n (q := 6) dX14_sum_5 rfl rfl ?_
        refine am_iconst (q := 7) (v := 4) dX14_sum_6 kc_i4 rfl ?_
        refine am_bipush (q := 9) (v := 43) dX14_sum_7 kc_b43 rfl ?_
        refine cm_call0 (q := 12) (As := [_, _]) hG dX14_sum_9 mlX14_123 rfl (by assumption) ⟨_, _, rfl⟩ (Nat.le_of_ble_eq_true rfl) (Nat.le_of_ble_eq_true rfl) (by omega) (Nat.le_of_ble_eq_true rfl) (k_X14_is (kk := nI 43) hG hC g1 (by decide) (sg_all (c := 43) (by decide))) rfl ?_
        rintro _ _ ⟨rfl, rfl⟩
        rw [hkk]
        by_cases cz : kk = nI 43
        · rw [bI_t cz]
          clear hkk hg
          refine am_if_ne (tgt := 25) (q := 15) dX14_sum_12 rfl rfl (fun _ => ?_) (fun hz => absurd hz (by decide))
          exact body
        · rw [bI_f cz]
          have cy : pK T s1.1 = nI 45 ∧ True := ⟨hkk.trans (c.resolve_left cz), trivial⟩
          clear hkk hg
          refine am_if_ne (tgt := 25) (q := 15) dX14_sum_12 rfl rfl (fun hz => absurd rfl hz) (fun _ => ?_)
          refine am_aload_n (q := 16) dX14_sum_15 rfl rfl ?_
          refine am_iconst (q := 17) (v := 4) dX14_sum_16 kc_i4 rfl ?_
          refine am_bipush (q := 19) (v := 45) dX14_sum_17 kc_b45 rfl ?_
          refine cm_call0 (q := 22) (As := [_, _]) hG dX14_sum_19 mlX14_123 rfl (by assumption) ⟨_, _, rfl⟩ (Nat.le_of_ble_eq_true rfl) (Nat.le_of_ble_eq_true rfl) (by omega) (Nat.le_of_ble_eq_true rfl) (k_X14_is (kk := nI 45) hG hC g1 (by decide) (sg_all (c := 45) (by decide))) rfl ?_
          rintro _ _ ⟨rfl, rfl⟩
          rw [bI_t cy.1]
          refine am_if_eq (tgt := 62) (q := 25) dX14_sum_22 rfl rfl (fun hz => absurd hz (by decide)) (fun _ => ?_)
          exact body
      · rw [if_neg c] at e
        exact ex I1 s1 a1 k1 n x2 g1 g2 g3 g4 e (fun q => c (Or.inl q)) (fun q => c (Or.inr q))
  clear ex
  refine am_aload_n (q := 1) dX14_sum_0 rfl rfl ?_
  refine cm_call0 (q := 4) (As := []) hG dX14_sum_1 mlX14_159 rfl (by assumption) ⟨_, _, rfl⟩ (Nat.le_of_ble_eq_true rfl) (Nat.le_of_ble_eq_true rfl) (by omega) (Nat.le_of_ble_eq_true rfl) (hV I s a k h ha) rfl ?_
  rintro _ _ ⟨n, I1, a1, k1, rfl, rfl, t1, t2, t3, t4⟩
  refine am_istore_n (q := 5) (ls1 := [_, _, _]) dX14_sum_4 (Nat.le_of_ble_eq_true rfl) rfl rfl ?_
  exact go 400 I1 (V s) a1 k1 n _ t1 t2 t3 t4 (fun _ => by omega) hW
theorem k_X14_pair {V : PS × Cd → PS × Cd} {dv dep : Nat} (hG : okG G) (hC : MCc S R y bl nx) (hdv : 1 ≤ dv) (v0 : KE0 V) (hV : KM G S J R y nx T ix N NdB mX14_single dv dep V) : KM G S J R y nx T ix N NdB mX14_pair (dv + 1) dep (eBoth T V) := by
  intro I s a k h ha
  have ky := hC.1.1
  have kb := hC.2.2.2.2.2.2.2.2.1.1
  have rn := hC.2.2.2.2.2.2.1
  obtain ⟨q4, q5, _, _, ⟨k2, l2⟩, ⟨k3, l3⟩, _⟩ := id hC.2.2.2.2.2.2.2.2.2
  have hn : T.n ≤ 401 := h.1.2.1
  unfold eBoth
  obtain ⟨W, hW⟩ : ∃ W, eLoop T V 328 328 400 (V s) = W := ⟨_, rfl⟩
  rw [hW]
  have ex : ∀ (I1 : Nat → Nat → Int32) (s1 : PS × Cd) (a1 k1 n : Nat) , PC I1 y nx T ix N s1 dep a1 k1 → (k1 + a ≤ k + a1 ∧ a ≤ a1 ∧ k ≤ k1) → OffM y nx k I I1 → (s1.1.2.1 = 0 → NRx NdB I1 nx N s.2 s1.2 n) → s1 = W → pK T s1.1 ≠ 328 → pK T s1.1 ≠ 328 → MW G mX14_pair (dv + 1) 5 [some (vR y), some (vI (nI n))] [] (mw S I1 J R) (fun f M1 => ∃ rr, f = .inl rr ∧ (∃ n I1 a1 k1, rr = some (vI (nI n)) ∧ M1 = mw S I1 J R ∧ PC I1 y nx T ix N W dep a1 k1 ∧ (k1 + a ≤ k + a1 ∧ a ≤ a1 ∧ k ≤ k1) ∧ OffM y nx k I I1 ∧ (W.1.2.1 = 0 → NRx NdB I1 nx N s.2 W.2 n))) := by
    intro I1 s1 a1 k1 n g1 g2 g3 g4 e c1 c2
    subst e
    have cc : (pK T s1.1 ≠ 328 ∧ pK T s1.1 ≠ 328) ∧ True := ⟨⟨c1, c2⟩, trivial⟩
    clear c1 c2
    refine am_aload_n (q := 6) dX14_pair_5 rfl rfl ?_
    refine am_iconst (q := 7) (v := 2) dX14_pair_6 kc_i2 rfl ?_
    refine am_bipush (q := 9) (v := 28) dX14_pair_7 kc_b28 rfl ?_
    refine cm_call0 (q := 12) (As := [_, _]) hG dX14_pair_9 mlX14_123 rfl (by assumption) ⟨_, _, rfl⟩ (Nat.le_of_ble_eq_true rfl) (Nat.le_of_ble_eq_true rfl) (by omega) (Nat.le_of_ble_eq_true rfl) (k_X14_is (kk := nI 328) hG hC g1 (by decide) (ky_all (j := 28) (by decide))) rfl ?_
    rintro _ _ ⟨rfl, rfl⟩
    rw [bI_f (c := pK T s1.1 = nI 328) cc.1.1]
    refine am_if_eq (tgt := 43) (q := 15) dX14_pair_12 rfl rfl (fun _ => ?_) (fun hz => absurd rfl hz)
    refine am_iload_n (q := 44) dX14_pair_43 rfl rfl ?_
    exact am_iret dX14_pair_44 rfl rfl ⟨_, rfl, n, I1, a1, k1, rfl, rfl, g1, g2, g3, g4⟩
  have go : ∀ m, (∀ (I1 : Nat → Nat → Int32) (s1 : PS × Cd) (a1 k1 n : Nat) , PC I1 y nx T ix N s1 dep a1 k1 → (k1 + a ≤ k + a1 ∧ a ≤ a1 ∧ k ≤ k1) → OffM y nx k I I1 → (s1.1.2.1 = 0 → NRx NdB I1 nx N s.2 s1.2 n) → (s1.1.2.1 ≠ 1 → T.n ≤ a1 + m) → eLoop T V 328 328 m s1 = W → MW G mX14_pair (dv + 1) 5 [some (vR y), some (vI (nI n))] [] (mw S I1 J R) (fun f M1 => ∃ rr, f = .inl rr ∧ (∃ n I1 a1 k1, rr = some (vI (nI n)) ∧ M1 = mw S I1 J R ∧ PC I1 y nx T ix N W dep a1 k1 ∧ (k1 + a ≤ k + a1 ∧ a ≤ a1 ∧ k ≤ k1) ∧ OffM y nx k I I1 ∧ (W.1.2.1 = 0 → NRx NdB I1 nx N s.2 W.2 n)))) := by
    intro m
    induction m with
    | zero =>
      intro I1 s1 a1 k1 n g1 g2 g3 g4 g5 e
      have hg : s1.1.2.1 = 1 := Classical.byContradiction fun q => by
        have := (g1.kind q).2.1
        have := g5 q
        omega
      exact ex I1 s1 a1 k1 n g1 g2 g3 g4 e (by rw [pK_f1 hg]; decide) (by rw [pK_f1 hg]; decide)
    | succ m ih =>
      intro I1 s1 a1 k1 n g1 g2 g3 g4 g5 e
      rw [eLoop] at e
      by_cases c : pK T s1.1 = 328 ∨ pK T s1.1 = 328
      · rw [if_pos c] at e
        have hg : s1.1.2.1 ≠ 1 := fun q => by
          rw [pK_f1 q] at c
          exact absurd c (by decide)
        obtain ⟨e1, e2, e3⟩ := g1.kind hg
        obtain ⟨i2, i3, sr, ca⟩ := g1.sort hC e2
        have h13 := g1.2.1.1
        have hka := g1.2.1.2.2.2.1
        obtain ⟨kk, hkk⟩ : ∃ kk, pK T s1.1 = kk := ⟨_, rfl⟩
        rw [hkk] at c e
        have k6 : kk ≠ 256 := by rcases c with z | z <;> rw [z] <;> decide
        have k7 : kk ≠ 257 := by rcases c with z | z <;> rw [z] <;> decide
        have I2h : ∀ x j, up2 I1 y 13 (nI (a1 + 1)) x j = if x = y ∧ j = 13 then nI (a1 + 1) else I1 x j := fun x j => up2_at _ _
        obtain ⟨d1, d2⟩ := g1.eat hC hg hkk k6 k7 I2h
        have body : MW G mX14_pair (dv + 1) 15 [some (vR y), some (vI (nI n))] [] (mw S I1 J R) (fun f M1 => ∃ rr, f = .inl rr ∧ (∃ n I1 a1 k1, rr = some (vI (nI n)) ∧ M1 = mw S I1 J R ∧ PC I1 y nx T ix N W dep a1 k1 ∧ (k1 + a ≤ k + a1 ∧ a ≤ a1 ∧ k ≤ k1) ∧ OffM y nx k I I1 ∧ (W.1.2.1 = 0 → NRx NdB I1 nx N s.2 W.2 n))) := by
          have hz : (s1.1.2.1 ≠ 1 ∧ pK T s1.1 = kk ∧ kk ≠ 256 ∧ kk ≠ 257) ∧ True := ⟨⟨hg, hkk, k6, k7⟩, trivial⟩
          clear hg hkk e1 e3 ex k6 k7
          refine am_aload_n (q := 16) dX14_pair_15 rfl rfl ?_
          refine am_dup (q := 17) dX14_pair_16 rfl rfl ?_
          refine cm_getI (q := 20) dX14_pair_17 flX14_116 rfl (by assumption) rfl ?_
          rw [h13]
          refine am_iconst (q := 21) (v := 1) dX14_pair_20 kc_i1 rfl ?_
          refine am_iadd (q := 22) dX14_pair_21 rfl ?_
          refine cm_putI (q := 25) dX14_pair_22 flX14_116 rfl (Or.inl rfl) (Or.inl rfl) (by assumption) rfl ?_
          rw [nI_1]
          generalize up2 I1 y 13 (nI (a1 + 1)) = I2 at I2h d1 d2 ⊢
          refine am_aload_n (q := 26) dX14_pair_25 rfl rfl ?_
          refine cm_getR (q := 29) dX14_pair_26 flX14_36 rfl (by assumption) (by assumption) rfl ?_
          refine am_bipush (q := 31) (v := 28) dX14_pair_29 kc_b28 rfl ?_
          refine am_iload_n (q := 32) dX14_pair_31 rfl rfl ?_
          refine am_aload_n (q := 33) dX14_pair_32 rfl rfl ?_
          refine cm_call0 (q := 36) (As := []) hG dX14_pair_33 mlX14_201 rfl (by assumption) ⟨_, _, rfl⟩ (Nat.le_of_ble_eq_true rfl) (Nat.le_of_ble_eq_true rfl) (by omega) (Nat.le_of_ble_eq_true rfl) (hV I2 _ (a1 + 1) k1 d1 (by omega)) rfl ?_
          rintro _ _ ⟨n2, I3, a3, k3, rfl, rfl, t1, t2, t3, t4⟩
          obtain ⟨u1, u2, u3⟩ := t1.nd (w := 28) (u := nI n) (v := nI n2) (kk := kk) (g := 0) hC (by omega)
          have h10 := t1.2.1.2.2.1
          have ndc := k_X12_node (G := G) (J := J) (I := I3) (w := 28) (u := nI n) (v := nI n2) hC h10 u3
          have res : (eAd kk 0 (V (eEx T kk s1))).1.2.1 = 0 → NRx NdB (ndI I3 nx k3 28 (nI n) (nI n2)) nx N s.2 (eAd kk 0 (V (eEx T kk s1))).2 k3 := by
            intro q
            have q1 : (eEx T kk s1).1.2.1 = 0 := v0 _ (eAd_0 q)
            have q2 : s1.1.2.1 = 0 := eEx_0 q1
            have hk1 : k1 = s1.2.length := by
              obtain ⟨_, _, z | z⟩ := g1
              · exact absurd z.1 hz.1.1
              · exact (z.2.2.2.2.2.2.1 q2).2
            have hk3 : k3 = (V (eEx T kk s1)).2.length ∧ a3 < T.n := by
              obtain ⟨_, _, z | z⟩ := t1
              · exact absurd (z.1.symm.trans (eAd_0 q)) (by decide)
              · exact ⟨(z.2.2.2.2.2.2.1 (eAd_0 q)).2, z.2.2.2.1⟩
            exact NRx.bb hC (g4 q2) (t4 (eAd_0 q)) (d2.tr t3 (Nat.le_refl _)) (by omega) hk3.1 (by omega) (by rcases c with z | z <;> rw [z] <;> decide)
          generalize eAd kk 0 (V (eEx T kk s1)) = s2 at e u1 res
          have u4 := u1
          have fin := ih (ndI I3 nx k3 28 (nI n) (nI n2)) s2 a3 (k3 + 1) k3 u1 ⟨by omega, by omega, by omega⟩ (((g3.tr d2 (by omega)).tr t3 (by omega)).tr u2 (by omega)) res (fun _ => by have := g5 hz.1.1; omega) e
          clear res e t4 g4 g5 ih hW
          refine cm_call0 (q := 39) (As := [_, _, _]) hG dX14_pair_36 mlX14_162 rfl (by assumption) ⟨_, _, rfl⟩ (Nat.le_of_ble_eq_true rfl) (Nat.le_of_ble_eq_true rfl) (by omega) (Nat.le_of_ble_eq_true rfl) ndc rfl ?_
          rintro _ _ ⟨rfl, rfl⟩
          refine am_istore_n (q := 40) (ls1 := [_, _]) dX14_pair_39 (Nat.le_of_ble_eq_true rfl) rfl rfl ?_
          refine am_goto (tgt := 5) dX14_pair_40 rfl ?_
          exact fin
        clear e ex g4 g5 ih d1 d2 hW
        refine am_aload_n (q := 6) dX14_pair_5 rfl rfl ?_
        refine am_iconst (q := 7) (v := 2) dX14_pair_6 kc_i2 rfl ?_
        refine am_bipush (q := 9) (v := 28) dX14_pair_7 kc_b28 rfl ?_
        refine cm_call0 (q := 12) (As := [_, _]) hG dX14_pair_9 mlX14_123 rfl (by assumption) ⟨_, _, rfl⟩ (Nat.le_of_ble_eq_true rfl) (Nat.le_of_ble_eq_true rfl) (by omega) (Nat.le_of_ble_eq_true rfl) (k_X14_is (kk := nI 328) hG hC g1 (by decide) (ky_all (j := 28) (by decide))) rfl ?_
        rintro _ _ ⟨rfl, rfl⟩
        rw [bI_t (c := pK T s1.1 = nI 328) (hkk.trans (c.elim id id))]
        clear hkk hg
        refine am_if_eq (tgt := 43) (q := 15) dX14_pair_12 rfl rfl (fun hz => absurd hz (by decide)) (fun _ => ?_)
        exact body
      · rw [if_neg c] at e
        exact ex I1 s1 a1 k1 n g1 g2 g3 g4 e (fun q => c (Or.inl q)) (fun q => c (Or.inr q))
  clear ex
  refine am_aload_n (q := 1) dX14_pair_0 rfl rfl ?_
  refine cm_call0 (q := 4) (As := []) hG dX14_pair_1 mlX14_201 rfl (by assumption) ⟨_, _, rfl⟩ (Nat.le_of_ble_eq_true rfl) (Nat.le_of_ble_eq_true rfl) (by omega) (Nat.le_of_ble_eq_true rfl) (hV I s a k h ha) rfl ?_
  rintro _ _ ⟨n, I1, a1, k1, rfl, rfl, t1, t2, t3, t4⟩
  refine am_istore_n (q := 5) (ls1 := [_, _]) dX14_pair_4 (Nat.le_of_ble_eq_true rfl) rfl rfl ?_
  exact go 400 I1 (V s) a1 k1 n t1 t2 t3 t4 (fun _ => by omega) hW
theorem k_X14_test {V : PS × Cd → PS × Cd} {dv dep : Nat} (hG : okG G) (hC : MCc S R y bl nx) (hdv : 1 ≤ dv) (v0 : KE0 V) (hV : KM G S J R y nx T ix N NdB mX14_pair dv dep V) : KM G S J R y nx T ix N NdB mX14_test (dv + 1) dep (eTest1 T V) := by
  intro I s a k h ha
  have ky := hC.1.1
  have kb := hC.2.2.2.2.2.2.2.2.1.1
  have rn := hC.2.2.2.2.2.2.1
  obtain ⟨q4, q5, _, _, ⟨k2, l2⟩, ⟨k3, l3⟩, _⟩ := id hC.2.2.2.2.2.2.2.2.2
  have hn : T.n ≤ 401 := h.1.2.1
  unfold eTest1
  obtain ⟨W, hW⟩ : ∃ W, eLoop T V 329 329 400 (V s) = W := ⟨_, rfl⟩
  rw [hW]
  have ex : ∀ (I1 : Nat → Nat → Int32) (s1 : PS × Cd) (a1 k1 n : Nat) , PC I1 y nx T ix N s1 dep a1 k1 → (k1 + a ≤ k + a1 ∧ a ≤ a1 ∧ k ≤ k1) → OffM y nx k I I1 → (s1.1.2.1 = 0 → NRx NdB I1 nx N s.2 s1.2 n) → s1 = W → pK T s1.1 ≠ 329 → pK T s1.1 ≠ 329 → MW G mX14_test (dv + 1) 5 [some (vR y), some (vI (nI n))] [] (mw S I1 J R) (fun f M1 => ∃ rr, f = .inl rr ∧ (∃ n I1 a1 k1, rr = some (vI (nI n)) ∧ M1 = mw S I1 J R ∧ PC I1 y nx T ix N W dep a1 k1 ∧ (k1 + a ≤ k + a1 ∧ a ≤ a1 ∧ k ≤ k1) ∧ OffM y nx k I I1 ∧ (W.1.2.1 = 0 → NRx NdB I1 nx N s.2 W.2 n))) := by
    intro I1 s1 a1 k1 n g1 g2 g3 g4 e c1 c2
    subst e
    have cc : (pK T s1.1 ≠ 329 ∧ pK T s1.1 ≠ 329) ∧ True := ⟨⟨c1, c2⟩, trivial⟩
    clear c1 c2
    refine am_aload_n (q := 6) dX14_test_5 rfl rfl ?_
    refine am_iconst (q := 7) (v := 2) dX14_test_6 kc_i2 rfl ?_
    refine am_bipush (q := 9) (v := 29) dX14_test_7 kc_b29 rfl ?_
    refine cm_call0 (q := 12) (As := [_, _]) hG dX14_test_9 mlX14_123 rfl (by assumption) ⟨_, _, rfl⟩ (Nat.le_of_ble_eq_true rfl) (Nat.le_of_ble_eq_true rfl) (by omega) (Nat.le_of_ble_eq_true rfl) (k_X14_is (kk := nI 329) hG hC g1 (by decide) (ky_all (j := 29) (by decide))) rfl ?_
    rintro _ _ ⟨rfl, rfl⟩
    rw [bI_f (c := pK T s1.1 = nI 329) cc.1.1]
    refine am_if_eq (tgt := 43) (q := 15) dX14_test_12 rfl rfl (fun _ => ?_) (fun hz => absurd rfl hz)
    refine am_iload_n (q := 44) dX14_test_43 rfl rfl ?_
    exact am_iret dX14_test_44 rfl rfl ⟨_, rfl, n, I1, a1, k1, rfl, rfl, g1, g2, g3, g4⟩
  have go : ∀ m, (∀ (I1 : Nat → Nat → Int32) (s1 : PS × Cd) (a1 k1 n : Nat) , PC I1 y nx T ix N s1 dep a1 k1 → (k1 + a ≤ k + a1 ∧ a ≤ a1 ∧ k ≤ k1) → OffM y nx k I I1 → (s1.1.2.1 = 0 → NRx NdB I1 nx N s.2 s1.2 n) → (s1.1.2.1 ≠ 1 → T.n ≤ a1 + m) → eLoop T V 329 329 m s1 = W → MW G mX14_test (dv + 1) 5 [some (vR y), some (vI (nI n))] [] (mw S I1 J R) (fun f M1 => ∃ rr, f = .inl rr ∧ (∃ n I1 a1 k1, rr = some (vI (nI n)) ∧ M1 = mw S I1 J R ∧ PC I1 y nx T ix N W dep a1 k1 ∧ (k1 + a ≤ k + a1 ∧ a ≤ a1 ∧ k ≤ k1) ∧ OffM y nx k I I1 ∧ (W.1.2.1 = 0 → NRx NdB I1 nx N s.2 W.2 n)))) := by
    intro m
    induction m with
    | zero =>
      intro I1 s1 a1 k1 n g1 g2 g3 g4 g5 e
      have hg : s1.1.2.1 = 1 := Classical.byContradiction fun q => by
        have := (g1.kind q).2.1
        have := g5 q
        omega
      exact ex I1 s1 a1 k1 n g1 g2 g3 g4 e (by rw [pK_f1 hg]; decide) (by rw [pK_f1 hg]; decide)
    | succ m ih =>
      intro I1 s1 a1 k1 n g1 g2 g3 g4 g5 e
      rw [eLoop] at e
      by_cases c : pK T s1.1 = 329 ∨ pK T s1.1 = 329
      · rw [if_pos c] at e
        have hg : s1.1.2.1 ≠ 1 := fun q => by
          rw [pK_f1 q] at c
          exact absurd c (by decide)
        obtain ⟨e1, e2, e3⟩ := g1.kind hg
        obtain ⟨i2, i3, sr, ca⟩ := g1.sort hC e2
        have h13 := g1.2.1.1
        have hka := g1.2.1.2.2.2.1
        obtain ⟨kk, hkk⟩ : ∃ kk, pK T s1.1 = kk := ⟨_, rfl⟩
        rw [hkk] at c e
        have k6 : kk ≠ 256 := by rcases c with z | z <;> rw [z] <;> decide
        have k7 : kk ≠ 257 := by rcases c with z | z <;> rw [z] <;> decide
        have I2h : ∀ x j, up2 I1 y 13 (nI (a1 + 1)) x j = if x = y ∧ j = 13 then nI (a1 + 1) else I1 x j := fun x j => up2_at _ _
        obtain ⟨d1, d2⟩ := g1.eat hC hg hkk k6 k7 I2h
        have body : MW G mX14_test (dv + 1) 15 [some (vR y), some (vI (nI n))] [] (mw S I1 J R) (fun f M1 => ∃ rr, f = .inl rr ∧ (∃ n I1 a1 k1, rr = some (vI (nI n)) ∧ M1 = mw S I1 J R ∧ PC I1 y nx T ix N W dep a1 k1 ∧ (k1 + a ≤ k + a1 ∧ a ≤ a1 ∧ k ≤ k1) ∧ OffM y nx k I I1 ∧ (W.1.2.1 = 0 → NRx NdB I1 nx N s.2 W.2 n))) := by
          have hz : (s1.1.2.1 ≠ 1 ∧ pK T s1.1 = kk ∧ kk ≠ 256 ∧ kk ≠ 257) ∧ True := ⟨⟨hg, hkk, k6, k7⟩, trivial⟩
          clear hg hkk e1 e3 ex k6 k7
          refine am_aload_n (q := 16) dX14_test_15 rfl rfl ?_
          refine am_dup (q := 17) dX14_test_16 rfl rfl ?_
          refine cm_getI (q := 20) dX14_test_17 flX14_116 rfl (by assumption) rfl ?_
          rw [h13]
          refine am_iconst (q := 21) (v := 1) dX14_test_20 kc_i1 rfl ?_
          refine am_iadd (q := 22) dX14_test_21 rfl ?_
          refine cm_putI (q := 25) dX14_test_22 flX14_116 rfl (Or.inl rfl) (Or.inl rfl) (by assumption) rfl ?_
          rw [nI_1]
          generalize up2 I1 y 13 (nI (a1 + 1)) = I2 at I2h d1 d2 ⊢
          refine am_aload_n (q := 26) dX14_test_25 rfl rfl ?_
          refine cm_getR (q := 29) dX14_test_26 flX14_36 rfl (by assumption) (by assumption) rfl ?_
          refine am_bipush (q := 31) (v := 29) dX14_test_29 kc_b29 rfl ?_
          refine am_iload_n (q := 32) dX14_test_31 rfl rfl ?_
          refine am_aload_n (q := 33) dX14_test_32 rfl rfl ?_
          refine cm_call0 (q := 36) (As := []) hG dX14_test_33 mlX14_198 rfl (by assumption) ⟨_, _, rfl⟩ (Nat.le_of_ble_eq_true rfl) (Nat.le_of_ble_eq_true rfl) (by omega) (Nat.le_of_ble_eq_true rfl) (hV I2 _ (a1 + 1) k1 d1 (by omega)) rfl ?_
          rintro _ _ ⟨n2, I3, a3, k3, rfl, rfl, t1, t2, t3, t4⟩
          obtain ⟨u1, u2, u3⟩ := t1.nd (w := 29) (u := nI n) (v := nI n2) (kk := kk) (g := 0) hC (by omega)
          have h10 := t1.2.1.2.2.1
          have ndc := k_X12_node (G := G) (J := J) (I := I3) (w := 29) (u := nI n) (v := nI n2) hC h10 u3
          have res : (eAd kk 0 (V (eEx T kk s1))).1.2.1 = 0 → NRx NdB (ndI I3 nx k3 29 (nI n) (nI n2)) nx N s.2 (eAd kk 0 (V (eEx T kk s1))).2 k3 := by
            intro q
            have q1 : (eEx T kk s1).1.2.1 = 0 := v0 _ (eAd_0 q)
            have q2 : s1.1.2.1 = 0 := eEx_0 q1
            have hk1 : k1 = s1.2.length := by
              obtain ⟨_, _, z | z⟩ := g1
              · exact absurd z.1 hz.1.1
              · exact (z.2.2.2.2.2.2.1 q2).2
            have hk3 : k3 = (V (eEx T kk s1)).2.length ∧ a3 < T.n := by
              obtain ⟨_, _, z | z⟩ := t1
              · exact absurd (z.1.symm.trans (eAd_0 q)) (by decide)
              · exact ⟨(z.2.2.2.2.2.2.1 (eAd_0 q)).2, z.2.2.2.1⟩
            exact NRx.bb hC (g4 q2) (t4 (eAd_0 q)) (d2.tr t3 (Nat.le_refl _)) (by omega) hk3.1 (by omega) (by rcases c with z | z <;> rw [z] <;> decide)
          generalize eAd kk 0 (V (eEx T kk s1)) = s2 at e u1 res
          have u4 := u1
          have fin := ih (ndI I3 nx k3 29 (nI n) (nI n2)) s2 a3 (k3 + 1) k3 u1 ⟨by omega, by omega, by omega⟩ (((g3.tr d2 (by omega)).tr t3 (by omega)).tr u2 (by omega)) res (fun _ => by have := g5 hz.1.1; omega) e
          clear res e t4 g4 g5 ih hW
          refine cm_call0 (q := 39) (As := [_, _, _]) hG dX14_test_36 mlX14_162 rfl (by assumption) ⟨_, _, rfl⟩ (Nat.le_of_ble_eq_true rfl) (Nat.le_of_ble_eq_true rfl) (by omega) (Nat.le_of_ble_eq_true rfl) ndc rfl ?_
          rintro _ _ ⟨rfl, rfl⟩
          refine am_istore_n (q := 40) (ls1 := [_, _]) dX14_test_39 (Nat.le_of_ble_eq_true rfl) rfl rfl ?_
          refine am_goto (tgt := 5) dX14_test_40 rfl ?_
          exact fin
        clear e ex g4 g5 ih d1 d2 hW
        refine am_aload_n (q := 6) dX14_test_5 rfl rfl ?_
        refine am_iconst (q := 7) (v := 2) dX14_test_6 kc_i2 rfl ?_
        refine am_bipush (q := 9) (v := 29) dX14_test_7 kc_b29 rfl ?_
        refine cm_call0 (q := 12) (As := [_, _]) hG dX14_test_9 mlX14_123 rfl (by assumption) ⟨_, _, rfl⟩ (Nat.le_of_ble_eq_true rfl) (Nat.le_of_ble_eq_true rfl) (by omega) (Nat.le_of_ble_eq_true rfl) (k_X14_is (kk := nI 329) hG hC g1 (by decide) (ky_all (j := 29) (by decide))) rfl ?_
        rintro _ _ ⟨rfl, rfl⟩
        rw [bI_t (c := pK T s1.1 = nI 329) (hkk.trans (c.elim id id))]
        clear hkk hg
        refine am_if_eq (tgt := 43) (q := 15) dX14_test_12 rfl rfl (fun hz => absurd hz (by decide)) (fun _ => ?_)
        exact body
      · rw [if_neg c] at e
        exact ex I1 s1 a1 k1 n g1 g2 g3 g4 e (fun q => c (Or.inl q)) (fun q => c (Or.inr q))
  clear ex
  refine am_aload_n (q := 1) dX14_test_0 rfl rfl ?_
  refine cm_call0 (q := 4) (As := []) hG dX14_test_1 mlX14_198 rfl (by assumption) ⟨_, _, rfl⟩ (Nat.le_of_ble_eq_true rfl) (Nat.le_of_ble_eq_true rfl) (by omega) (Nat.le_of_ble_eq_true rfl) (hV I s a k h ha) rfl ?_
  rintro _ _ ⟨n, I1, a1, k1, rfl, rfl, t1, t2, t3, t4⟩
  refine am_istore_n (q := 5) (ls1 := [_, _]) dX14_test_4 (Nat.le_of_ble_eq_true rfl) rfl rfl ?_
  exact go 400 I1 (V s) a1 k1 n t1 t2 t3 t4 (fun _ => by omega) hW
end Lm

