theorem dX14_readRust_63 : decode cX14_readRust 63 = .ok (.aload_n 0, 1) := by decide +kernel
theorem dX14_readRust_64 : decode cX14_readRust 64 = .ok (.bipush 7, 2) := by decide +kernel
theorem dX14_readRust_66 : decode cX14_readRust 66 = .ok (.iconst 0, 1) := by decide +kernel
theorem dX14_readRust_67 : decode cX14_readRust 67 = .ok (.bipush 99, 2) := by decide +kernel
theorem dX14_readRust_69 : decode cX14_readRust 69 = .ok (.invokevirtual 225, 3) := by decide +kernel
theorem dX14_readRust_72 : decode cX14_readRust 72 = .ok (.istore_n 3, 1) := by decide +kernel
theorem dX14_readRust_73 : decode cX14_readRust 73 = .ok (.aload_n 0, 1) := by decide +kernel
theorem dX14_readRust_74 : decode cX14_readRust 74 = .ok (.invokevirtual 119, 3) := by decide +kernel
theorem dX14_readRust_77 : decode cX14_readRust 77 = .ok (.ifCond .eq 20, 3) := by decide +kernel
theorem dX14_readRust_80 : decode cX14_readRust 80 = .ok (.iload_n 3, 1) := by decide +kernel
theorem dX14_readRust_81 : decode cX14_readRust 81 = .ok (.iload_n 2, 1) := by decide +kernel
theorem dX14_readRust_82 : decode cX14_readRust 82 = .ok (.if_icmp .ge 15, 3) := by decide +kernel
theorem dX14_readRust_85 : decode cX14_readRust 85 = .ok (.aload_n 0, 1) := by decide +kernel
theorem dX14_readRust_86 : decode cX14_readRust 86 = .ok (.bipush 6, 2) := by decide +kernel
theorem dX14_readRust_88 : decode cX14_readRust 88 = .ok (.aload_n 0, 1) := by decide +kernel
theorem dX14_readRust_89 : decode cX14_readRust 89 = .ok (.getfield 116, 3) := by decide +kernel
theorem dX14_readRust_92 : decode cX14_readRust 92 = .ok (.iconst 1, 1) := by decide +kernel
theorem dX14_readRust_93 : decode cX14_readRust 93 = .ok (.isub, 1) := by decide +kernel
theorem dX14_readRust_94 : decode cX14_readRust 94 = .ok (.invokevirtual 149, 3) := by decide +kernel
/-! the reference reads a number behind a number of a rust -/
section Pw
variable {G : Gp} {S : AMem} {I I1 : Nat → Nat → Int32} {J : Nat → Nat → Int64} {R : Nat → Nat → Option Nat} {y bl nx : Nat} {T : Toks} {ix : Int32 → Int64 → Int32} {N : Nat × Nat × Nat} {s s1 : PS × Cd} {dep a k : Nat} {Q : (Option AV ⊕ Nat) → AMem → Prop}
theorem k_X14_number7 {lo hi : Int32} (hG : okG G) (hC : MCc S R y bl nx) (h : PC I y nx T ix N s dep a k) : Fn G mX14_number 1 [vR y, vI lo, vI hi] (mw S I J R) (fun rr M1 => ∃ w I1 a1, rr = some (vI w) ∧ M1 = mw S I1 J R ∧ PC I1 y nx T ix N (pNu T lo hi s.1, s.2) dep a1 k ∧ a ≤ a1 ∧ OffM y nx k I I1 ∧ ((pNu T lo hi s.1).2.1 ≠ 1 → (w = (pV T s.1).toInt32 ∧ a1 = a + 1) ∧ (s.1.2.1 ≠ 0 → I1 y 17 = I y 17))) := by
  have ky := hC.1.1
  obtain ⟨q4, q5, _, _, ⟨k2, l2⟩, ⟨k3, l3⟩, _⟩ := id hC.2.2.2.2.2.2.2.2.2
  have h13 := h.2.1.1
  have bad : pK T s.1 ≠ 259 → MW G mX14_number 1 20 [some (vR y), some (vI lo), some (vI hi)] [] (mw S I J R) (fun f M1 => ∃ rr, f = .inl rr ∧ (∃ w I1 a1, rr = some (vI w) ∧ M1 = mw S I1 J R ∧ PC I1 y nx T ix N (pNu T lo hi s.1, s.2) dep a1 k ∧ a ≤ a1 ∧ OffM y nx k I I1 ∧ ((pNu T lo hi s.1).2.1 ≠ 1 → (w = (pV T s.1).toInt32 ∧ a1 = a + 1) ∧ (s.1.2.1 ≠ 0 → I1 y 17 = I y 17)))) := by
    intro hb
    rw [pNu_no hb]
    have er : (pRef T s.1).2.1 = 1 ∧ True := ⟨pRef_1, trivial⟩
    clear hb
    refine am_aload_n (q := 21) dX14_number_20 rfl rfl ?_
    refine cm_call0 (q := 24) (As := []) hG dX14_number_21 mlX14_127 rfl (by assumption) ⟨_, _, rfl⟩ (Nat.le_of_ble_eq_true rfl) (Nat.le_of_ble_eq_true rfl) (Nat.le_of_ble_eq_true rfl) (Nat.le_of_ble_eq_true rfl) (k_X14_fail hC h) rfl ?_
    rintro _ _ ⟨rfl, I1, rfl, g1, g2⟩
    refine am_iconst (q := 25) (v := 0) dX14_number_24 kc_i0 rfl ?_
    exact am_iret dX14_number_25 rfl rfl ⟨_, rfl, _, I1, a, rfl, rfl, g1, Nat.le_refl _, g2, fun q => absurd er.1 q⟩
  refine am_aload_n (q := 1) dX14_number_0 rfl rfl ?_
  refine cm_call0 (q := 4) (As := []) hG dX14_number_1 mlX14_119 rfl (by assumption) ⟨_, _, rfl⟩ (Nat.le_of_ble_eq_true rfl) (Nat.le_of_ble_eq_true rfl) (Nat.le_of_ble_eq_true rfl) (Nat.le_of_ble_eq_true rfl) (k_X14_isOk hC h) rfl ?_
  rintro _ _ ⟨rfl, rfl⟩
  by_cases hg : s.1.2.1 = 1
  · have b := bad (by unfold pK; rw [if_pos hg]; decide)
    rw [bI_f (fun q => q hg)]
    clear hg
    refine am_if_eq (tgt := 20) (q := 7) dX14_number_4 rfl rfl (fun _ => ?_) (fun hz => absurd rfl hz)
    exact b
  · obtain ⟨e1, e2, e3⟩ := h.kind hg
    obtain ⟨i2, i3, sr, ca⟩ := h.sort hC e2
    have iff := srt_one (w := 3) (q0 := 259) sr (Or.inr (Or.inl ⟨rfl, rfl⟩))
    have e4 : pV T s.1 = T.v a := by
      unfold pV
      rw [if_neg hg, ← e3]
    rw [bI_t hg]
    have hz : s.1.2.1 ≠ 1 ∧ pK T s.1 = T.k a := ⟨hg, e1⟩
    clear hg e1 e3
    refine am_if_eq (tgt := 20) (q := 7) dX14_number_4 rfl rfl (fun hz => absurd hz (by decide)) (fun _ => ?_)
    refine am_aload_n (q := 8) dX14_number_7 rfl rfl ?_
    refine cm_getR (q := 11) dX14_number_8 flX14_17 rfl (by assumption) (by assumption) rfl ?_
    refine am_aload_n (q := 12) dX14_number_11 rfl rfl ?_
    refine cm_getI (q := 15) dX14_number_12 flX14_116 rfl (by assumption) rfl ?_
    rw [h13]
    refine cm_iaload (q := 16) dX14_number_15 (by assumption) i2 rfl ?_
    rw [ca]
    by_cases c : I (y + 2) a = 3
    · have hk : pK T s.1 = 259 := hz.2.trans (iff.mp c)
      obtain ⟨m, hm, m1, m2⟩ := srt_num sr (iff.mp c)
      refine am_iconst (q := 17) (v := 3) dX14_number_16 kc_i3 rfl ?_
      refine am_icmp_eq (tgt := 26) (q := 20) dX14_number_17 rfl rfl (fun _ => ?_) (fun hz => absurd c hz)
      refine am_aload_n (q := 27) dX14_number_26 rfl rfl ?_
      refine cm_getR (q := 30) dX14_number_27 flX14_20 rfl (by assumption) (by assumption) rfl ?_
      refine am_aload_n (q := 31) dX14_number_30 rfl rfl ?_
      refine cm_getI (q := 34) dX14_number_31 flX14_116 rfl (by assumption) rfl ?_
      rw [h13]
      refine cm_iaload (q := 35) dX14_number_34 (by assumption) i3 rfl ?_
      rw [ca, m1]
      refine am_iload_n (q := 36) dX14_number_35 rfl rfl ?_
      refine am_iload_n (q := 37) dX14_number_36 rfl rfl ?_
      refine am_call1 (q := 40) (As := [_, _, _]) hG dX14_number_37 mlX14_72 rfl (Nat.le_of_ble_eq_true rfl) (Nat.le_of_ble_eq_true rfl) (Nat.le_of_ble_eq_true rfl) k_X14_isIn rfl ?_
      rintro _ _ ⟨rfl, rfl⟩
      have hw : (pV T s.1).toInt32 = nI m := by
        rw [e4, m2]
        exact Int32.toInt32_toInt64 _
      have hout : ¬ (lo ≤ nI m ∧ nI m ≤ hi) ↔ (pV T s.1 < lo.toInt64 ∨ hi.toInt64 < pV T s.1) := by
        rw [e4, m2, Int32.toInt64_lt, Int32.toInt64_lt]
        constructor
        · intro q
          by_cases z : lo ≤ nI m
          · exact Or.inr (Int32.not_le.mp fun z2 => q ⟨z, z2⟩)
          · exact Or.inl (Int32.not_le.mp z)
        · rintro (q | q) ⟨z1, z2⟩
          · exact Int32.not_le.mpr q z1
          · exact Int32.not_le.mpr q z2
      have fin : ∀ (I2 : Nat → Nat → Int32), I2 y 13 = nI a → (∀ j, I2 (y + 3) j = I (y + 3) j) → (s.1.2.1 ≠ 0 → I2 y 17 = I y 17) → PC (up2 I2 y 13 (nI (a + 1))) y nx T ix N (pNu T lo hi s.1, s.2) dep (a + 1) k ∧ OffM y nx k I (up2 I2 y 13 (nI (a + 1))) → MW G mX14_number 1 52 [some (vR y), some (vI lo), some (vI hi)] [] (mw S I2 J R) (fun f M1 => ∃ rr, f = .inl rr ∧ (∃ w I1 a1, rr = some (vI w) ∧ M1 = mw S I1 J R ∧ PC I1 y nx T ix N (pNu T lo hi s.1, s.2) dep a1 k ∧ a ≤ a1 ∧ OffM y nx k I I1 ∧ ((pNu T lo hi s.1).2.1 ≠ 1 → (w = (pV T s.1).toInt32 ∧ a1 = a + 1) ∧ (s.1.2.1 ≠ 0 → I1 y 17 = I y 17)))) := by
        intro I2 z1 z2 z4 z3
        refine am_aload_n (q := 53) dX14_number_52 rfl rfl ?_
        refine am_dup (q := 54) dX14_number_53 rfl rfl ?_
        refine cm_getI (q := 57) dX14_number_54 flX14_116 rfl (by assumption) rfl ?_
        rw [z1]
        refine am_iconst (q := 58) (v := 1) dX14_number_57 kc_i1 rfl ?_
        refine am_iadd (q := 59) dX14_number_58 rfl ?_
        refine cm_putI (q := 62) dX14_number_59 flX14_116 rfl (Or.inl rfl) (Or.inl rfl) (by assumption) rfl ?_
        refine am_aload_n (q := 63) dX14_number_62 rfl rfl ?_
        refine cm_getR (q := 66) dX14_number_63 flX14_20 rfl (by assumption) (by assumption) rfl ?_
        refine am_aload_n (q := 67) dX14_number_66 rfl rfl ?_
        refine cm_getI (q := 70) dX14_number_67 flX14_116 rfl (by assumption) rfl ?_
        rw [nI_1, up2_s]
        refine am_iconst (q := 71) (v := 1) dX14_number_70 kc_i1 rfl ?_
        refine am_isub (q := 72) dX14_number_71 rfl ?_
        rw [nI_pred]
        refine cm_iaload (q := 73) dX14_number_72 (by assumption) i3 rfl ?_
        rw [ca, up2_a (show y + 3 ≠ y by omega), z2, m1]
        exact am_iret dX14_number_73 rfl rfl ⟨_, rfl, nI m, _, a + 1, rfl, rfl, z3.1, Nat.le_succ _, z3.2, fun _ => ⟨⟨hw.symm, rfl⟩, fun q => by rw [up2_j (by decide)]; exact z4 q⟩⟩
      by_cases cin : lo ≤ nI m ∧ nI m ≤ hi
      · rw [bI_t cin]
        have d := h.eat (I1 := up2 I y 13 (nI (a + 1))) hC hz.1 hk (by decide) (by decide) (fun x j => up2_at _ _)
        have d3 := fin I h13 (fun _ => rfl) (fun _ => rfl) (by rw [pNu_in (fun q => hout.mpr q cin)]; exact d)
        clear hk hw hout fin
        refine am_if_ne (tgt := 52) (q := 43) dX14_number_40 rfl rfl (fun _ => ?_) (fun hz => absurd hz (by decide))
        exact d3
      · rw [bI_f cin]
        have t1 : Fn G mX14_tell 0 [vR y, vI 5, vI (nI a)] (mw S I J R) (fun rr M1 => rr = none ∧ M1 = mw S (if s.1.2.1 = 0 then up2 (up2 I y 16 5) y 17 (nI a) else I) J R) := k_tel hC h hz.1 rfl rfl
        by_cases h0 : s.1.2.1 = 0
        · rw [if_pos h0] at t1
          have d := h.told (I1 := up2 (up2 (up2 I y 16 5) y 17 (nI a)) y 13 (nI (a + 1))) (n := 5) hC h0 hk (by decide) (by decide) (by decide) (by decide) (fun x j => by
            rw [up3_at (by decide) (by decide) (by decide)]
            by_cases z1 : x = y ∧ j = 16
            · rw [if_pos z1, if_neg (by omega), if_pos z1]
            · rw [if_neg z1, if_neg z1]
              by_cases z2 : x = y ∧ j = 17
              · rw [if_pos z2, if_neg (by omega), if_pos z2]
              · rw [if_neg z2, if_neg z2])
          have d3 := fin (up2 (up2 I y 16 5) y 17 (nI a)) (by rw [up2_j (by decide), up2_j (by decide)]; exact h13) (fun j => by rw [up2_a (by omega), up2_a (by omega)]) (fun q => absurd h0 q) (by rw [pNu_out hk (hout.mp cin)]; exact d)
          clear h0 hk hw hout fin
          refine am_if_ne (tgt := 52) (q := 43) dX14_number_40 rfl rfl (fun hz => absurd rfl hz) (fun _ => ?_)
          refine am_aload_n (q := 44) dX14_number_43 rfl rfl ?_
          refine am_iconst (q := 45) (v := 5) dX14_number_44 kc_i5 rfl ?_
          refine am_aload_n (q := 46) dX14_number_45 rfl rfl ?_
          refine cm_getI (q := 49) dX14_number_46 flX14_116 rfl (by assumption) rfl ?_
          rw [h13]
          refine cm_call0 (q := 52) (As := [_, _]) hG dX14_number_49 mlX14_149 rfl (by assumption) ⟨_, _, rfl⟩ (Nat.le_of_ble_eq_true rfl) (Nat.le_of_ble_eq_true rfl) (Nat.le_of_ble_eq_true rfl) (Nat.le_of_ble_eq_true rfl) t1 rfl ?_
          rintro _ _ ⟨rfl, rfl⟩
          exact d3
        · rw [if_neg h0] at t1
          have d := h.eat (I1 := up2 I y 13 (nI (a + 1))) hC hz.1 hk (by decide) (by decide) (fun x j => up2_at _ _)
          have d3 := fin I h13 (fun _ => rfl) (fun _ => rfl) (by rw [pNu_out hk (hout.mp cin), pBl_no h0]; exact d)
          clear h0 hk hw hout fin
          refine am_if_ne (tgt := 52) (q := 43) dX14_number_40 rfl rfl (fun hz => absurd rfl hz) (fun _ => ?_)
          refine am_aload_n (q := 44) dX14_number_43 rfl rfl ?_
          refine am_iconst (q := 45) (v := 5) dX14_number_44 kc_i5 rfl ?_
          refine am_aload_n (q := 46) dX14_number_45 rfl rfl ?_
          refine cm_getI (q := 49) dX14_number_46 flX14_116 rfl (by assumption) rfl ?_
          rw [h13]
          refine cm_call0 (q := 52) (As := [_, _]) hG dX14_number_49 mlX14_149 rfl (by assumption) ⟨_, _, rfl⟩ (Nat.le_of_ble_eq_true rfl) (Nat.le_of_ble_eq_true rfl) (Nat.le_of_ble_eq_true rfl) (Nat.le_of_ble_eq_true rfl) t1 rfl ?_
          rintro _ _ ⟨rfl, rfl⟩
          exact d3
    · have b := bad (fun q => c (iff.mpr (hz.2.symm.trans q)))
      refine am_iconst (q := 17) (v := 3) dX14_number_16 kc_i3 rfl ?_
      refine am_icmp_eq (tgt := 26) (q := 20) dX14_number_17 rfl rfl (fun hz => absurd hz c) (fun _ => ?_)
      exact b
theorem pNu_1 {lo hi : Int32} {s : PS} (h : s.2.1 = 1) : (pNu T lo hi s).2.1 = 1 := by
  rw [pNu_no (by rw [pK_f1 h]; decide)]
  exact pRef_1
theorem k_X14_number7_ {j0 : Nat} {kw lo hi W : Int32} {P1 : PS} (hG : okG G) (hC : MCc S R y bl nx) (h : PC I y nx T ix N s dep a k) (hj : j0 < 32) (hk : kw = nI (300 + j0)) (hP : pNum T kw lo hi s.1 = P1) (hW : pW T kw s.1 = W) : Fn G mX14_number_ 3 [vR y, vI (nI j0), vI lo, vI hi] (mw S I J R) (fun rr M1 => ∃ w I1 a1, rr = some (vI w) ∧ M1 = mw S I1 J R ∧ PC I1 y nx T ix N (P1, s.2) dep a1 k ∧ a ≤ a1 ∧ OffM y nx k I I1 ∧ (P1.2.1 ≠ 1 → w = W ∧ a + 1 ≤ a1 ∧ ((pEx T kw s.1).2.1 ≠ 0 → I1 y 17 ≠ nI (a1 - 1)))) := by
  subst hk hP hW
  have ky := hC.1.1
  rw [show pNum T (nI (300 + j0)) lo hi s.1 = pNu T lo hi (eEx T (nI (300 + j0)) s).1 from rfl]
  refine am_aload_n (q := 1) dX14_number__0 rfl rfl ?_
  refine am_iconst (q := 2) (v := 2) dX14_number__1 kc_i2 rfl ?_
  refine am_iload_n (q := 3) dX14_number__2 rfl rfl ?_
  refine cm_call0 (q := 6) (As := [_, _]) hG dX14_number__3 mlX14_152 rfl (by assumption) ⟨_, _, rfl⟩ (Nat.le_of_ble_eq_true rfl) (Nat.le_of_ble_eq_true rfl) (Nat.le_of_ble_eq_true rfl) (Nat.le_of_ble_eq_true rfl) (k_X14_take (kk := nI (300 + j0)) hG hC h (k_ne (b := 256) (by omega) (by decide) (by omega)) (k_ne (b := 257) (by omega) (by decide) (by omega)) (fun _ _ _ _ q => srt_key q hj)) rfl ?_
  rintro _ _ ⟨rfl, I1, a1, rfl, g1, g2, g3⟩
  have hN := k_X14_number7 (lo := lo) (hi := hi) (J := J) hG hC g1
  have ev : (pV T (eEx T (nI (300 + j0)) s).1).toInt32 = pW T (nI (300 + j0)) s.1 := rfl
  rw [ev] at hN
  generalize pW T (nI (300 + j0)) s.1 = W at hN ⊢
  have e2 : (eEx T (nI (300 + j0)) s).2 = s.2 := rfl
  rw [e2] at hN
  have kk0 : (pNu T lo hi (eEx T (nI (300 + j0)) s).1).2.1 ≠ 1 → (eEx T (nI (300 + j0)) s).1.2.1 ≠ 0 → ∃ tk, tk < a1 ∧ I1 y 17 = nI tk := fun z1 z => by
    obtain ⟨_, _, q | ⟨_, _, _, _, _, g5, _⟩⟩ := g1
    · exact absurd (pNu_1 q.1) z1
    · obtain ⟨tk, t1, t2, _⟩ := g5 z
      exact ⟨tk, t1, t2⟩
  have hn := g1.1.2.1
  have hle := g1.2.1.2.1
  rw [show (pEx T (nI (300 + j0)) s.1).2.1 = (eEx T (nI (300 + j0)) s).1.2.1 from rfl]
  generalize (eEx T (nI (300 + j0)) s).1.2.1 = E0 at hN kk0 ⊢
  generalize pNu T lo hi (eEx T (nI (300 + j0)) s).1 = P at hN kk0 ⊢
  clear g1 ev e2 h
  refine am_aload_n (q := 7) dX14_number__6 rfl rfl ?_
  refine am_iload_n (q := 8) dX14_number__7 rfl rfl ?_
  refine am_iload_n (q := 9) dX14_number__8 rfl rfl ?_
  refine cm_call0 (q := 12) (As := [_, _]) hG dX14_number__9 mlX14_155 rfl (by assumption) ⟨_, _, rfl⟩ (Nat.le_of_ble_eq_true rfl) (Nat.le_of_ble_eq_true rfl) (Nat.le_of_ble_eq_true rfl) (Nat.le_of_ble_eq_true rfl) hN rfl ?_
  rintro _ _ ⟨w, I2, a2, rfl, rfl, g4, g5, g6, g7⟩
  exact am_iret dX14_number__12 rfl rfl ⟨_, rfl, w, I2, a2, rfl, rfl, g4, Nat.le_trans g2 g5, g3.tr g6 (Nat.le_refl _), fun q => ⟨(g7 q).1.1, by have := (g7 q).1.2; omega, fun z => by
    obtain ⟨tk, t1, t2⟩ := kk0 q z
    have e := (g7 q).1.2
    rw [(g7 q).2 z, t2]
    exact fun y1 => by have := (nI_eq (by omega) (by omega)).mp y1; omega⟩⟩
theorem nI_pred' {n : Nat} (h : 1 ≤ n) : nI n - 1 = nI (n - 1) := by
  obtain ⟨m, rfl⟩ : ∃ m, n = m + 1 := ⟨n - 1, by omega⟩
  exact nI_pred m
theorem pK_bl {n kk : Int32} {s : PS} (h : pK T s = kk) (n1 : n ≠ 1) (h7 : kk ≠ 257) : pK T (pBl T n s) = kk := by
  unfold pBl
  by_cases c : s.2.1 = 0
  · rw [if_pos c]
    show (if n = 1 then 257 else T.k s.1) = kk
    rw [if_neg n1, ← h]
    unfold pK
    rw [if_neg (by rw [c]; decide)]
  · rw [if_neg c]
    exact h
theorem pTo_f {f : Int32} {s : PS} (h : (pNum T 307 0 99 s).2.1 = 1) : pTo T f s = pNum T 307 0 99 s := by
  have e1 : pNum T 307 0 99 s = pNu T 0 99 (pEx T 307 s) := rfl
  rw [e1] at h ⊢
  unfold pTo
  generalize pEx T 307 s = s1 at h ⊢
  by_cases hk : pK T s1 = 259
  · exfalso
    have g : s1.2.1 ≠ 1 := fun q => by rw [pK_f1 q] at hk; exact absurd hk (by decide)
    by_cases c : pV T s1 < (0 : Int32).toInt64 ∨ (99 : Int32).toInt64 < pV T s1
    · rw [pNu_out hk c, show pEx T 259 (pBl T 5 s1) = _ from if_pos (pK_bl hk (by decide) (by decide))] at h
      have h2 : (pBl T 5 s1).2.1 = 1 := h
      unfold pBl at h2
      by_cases c2 : s1.2.1 = 0
      · rw [if_pos c2] at h2
        exact absurd (show (5 : Int32) = 1 from h2) (by decide)
      · rw [if_neg c2] at h2
        exact g h2
    · rw [pNu_in c, show pEx T 259 s1 = _ from if_pos hk] at h
      exact g h
  · rw [pNu_no hk]
    unfold pT1
    rw [if_neg (c := pK T s1 = 259 ∧ _) (fun q => hk q.1)]
    unfold pT2
    rw [if_neg (c := pK T s1 = 259 ∧ _) (fun q => hk q.1)]
    unfold pEx
    rw [if_neg hk]
theorem pTo_g {f : Int32} {s : PS} {m : Nat} (h : (pNum T 307 0 99 s).2.1 ≠ 1) (hm : pV T (pEx T 307 s) = (nI m).toInt64) (m31 : m < 2 ^ 31) : (¬ nI m < f → pTo T f s = pNum T 307 0 99 s) ∧ (nI m < f → (pNum T 307 0 99 s).2.1 ≠ 0 → pTo T f s = pNum T 307 0 99 s ∧ ((pEx T 307 s).2.1 = 0 → (pNum T 307 0 99 s).2.1 = 5)) ∧ (nI m < f → (pNum T 307 0 99 s).2.1 = 0 → pTo T f s = ((pNum T 307 0 99 s).1, 6, T.s ((pNum T 307 0 99 s).1 - 1))) := by
  have e1 : pNum T 307 0 99 s = pNu T 0 99 (pEx T 307 s) := rfl
  rw [e1] at h ⊢
  unfold pTo
  generalize pEx T 307 s = s1 at h hm ⊢
  have hk : pK T s1 = 259 := Classical.byContradiction fun q => h (by rw [pNu_no q]; exact pRef_1)
  have g : s1.2.1 ≠ 1 := fun q => by rw [pK_f1 q] at hk; exact absurd hk (by decide)
  have e9 : (99 : Int64) = (99 : Int32).toInt64 := by decide
  have cl : ¬ pV T s1 < (0 : Int32).toInt64 := by
    rw [hm, Int32.toInt64_lt]
    exact Int32.not_lt.mpr (nI_pos' m31)
  have cf : pV T s1 < f.toInt64 ↔ nI m < f := by rw [hm, Int32.toInt64_lt]
  have e2 : pNu T 0 99 s1 = pEx T 259 (pT1 T (pV T s1) s1) := by
    unfold pT1
    by_cases c : 99 < pV T s1
    · rw [if_pos ⟨hk, c⟩, pNu_out hk (Or.inr (by rw [← e9]; exact c))]
    · rw [if_neg (fun q => c q.2), pNu_in (fun q => q.elim cl (fun z => c (by rw [e9]; exact z)))]
  have k1 : pK T (pT1 T (pV T s1) s1) = 259 := by
    unfold pT1
    split
    · exact pK_bl hk (by decide) (by decide)
    · exact hk
  have i1 : (pT1 T (pV T s1) s1).1 = s1.1 := by
    unfold pT1 pBl
    split
    · split <;> rfl
    · rfl
  have z5 : s1.2.1 = 0 → (pT1 T (pV T s1) s1).2.1 ≠ 0 → (pT1 T (pV T s1) s1).2.1 = 5 := by
    intro q1 q2
    unfold pT1 at q2 ⊢
    by_cases c : pK T s1 = 259 ∧ 99 < pV T s1
    · rw [if_pos c]
      unfold pBl
      rw [if_pos q1]
    · rw [if_neg c] at q2
      exact absurd q1 q2
  rw [e2]
  generalize pT1 T (pV T s1) s1 = X at k1 i1 z5 ⊢
  have e3 : pEx T 259 X = (X.1 + 1, X.2.1, X.2.2) := if_pos k1
  rw [e3]
  unfold pT2
  refine ⟨fun q => ?_, fun q q2 => ?_, fun q q2 => ?_⟩
  · rw [if_neg (fun z => q (cf.mp z.2)), e3]
  · have q3 : X.2.1 ≠ 0 := q2
    rw [if_pos ⟨k1, cf.mpr q⟩, pBl_no q3, e3]
    exact ⟨rfl, fun z => z5 z q3⟩
  · have q3 : X.2.1 = 0 := q2
    rw [if_pos ⟨k1, cf.mpr q⟩, show pEx T 259 (pBl T 6 X) = _ from if_pos (pK_bl k1 (by decide) (by decide))]
    unfold pBl
    rw [if_pos q3]
    rfl
theorem MTk.num (h : MTk I y T) {i : Nat} (hi : i < T.n) (hk : T.k i = 259) : ∃ m, m < 1000000 ∧ T.v i = (nI m).toInt64 := by
  obtain ⟨m, m1, _, m3⟩ := srt_num (h.2.2.1 i hi).1 hk
  exact ⟨m, m1, m3⟩
/-- an error is told at the token that was eaten last -/
theorem PC.blame {P : PS} {L : Cd} {n : Int32} (hC : MCc S R y bl nx) (h : PC I y nx T ix N (P, L) dep a k) (h0 : P.2.1 = 0) (ha : 1 ≤ a) (n0 : n ≠ 0) (n1 : n ≠ 1) (e : ∀ x j, I1 x j = if x = y ∧ j = 16 then n else if x = y ∧ j = 17 then nI (a - 1) else I x j) : PC I1 y nx T ix N ((P.1, n, T.s (a - 1)), L) dep a k ∧ OffM y nx k I I1 := by
  obtain ⟨p1, p2, p3, p4, p5⟩ := hC.lo
  have hg : P.2.1 ≠ 1 := by rw [h0]; decide
  obtain ⟨hT, ⟨h1, h2, h3, h4, h5⟩, q | ⟨g0, g1, g2, g3, g4, g5, g6, a1, a2, a3, mr, mf, mp, g7, g8⟩⟩ := h
  · exact absurd q.1 hg
  · refine ⟨⟨hT.cg (fun x j p q => by rw [e, if_neg (by omega), if_neg (by omega)]), ⟨by rw [e, if_neg (by omega), if_neg (by omega)]; exact h1, h2, by rw [e, if_neg (by omega), if_neg (by omega)]; exact h3, h4, by rw [e, if_neg (by omega), if_neg (by omega)]; exact h5⟩, Or.inr ?_⟩, fun x j p q r => by rw [e, if_neg (fun z => by have := p z.1; omega), if_neg (fun z => by have := p z.1; omega)]⟩
    exact ⟨n1, by rw [e, if_neg (by omega), if_neg (by omega)]; exact g1, g2, g3, by rw [e, if_pos ⟨rfl, rfl⟩], fun _ => ⟨a - 1, by omega, by rw [e, if_neg (by omega), if_pos ⟨rfl, rfl⟩], rfl⟩, fun q => absurd q n0, a1, a2, a3, mr, mf, mp, g7.cg (fun j hj => by rw [e, if_neg (by omega), if_neg (by omega)]) (fun x j p q => by rw [e, if_neg (by omega), if_neg (by omega)]), fun q => absurd q n0⟩
/-- the number behind to, and its errors -/
theorem k_rustTo {P3 P4 : PS} {L : Cd} {f f0 r W : Int32} (hG : okG G) (hC : MCc S R y bl nx) (h : PC I y nx T ix N (P3, L) 0 a k) (hf : P3.2.1 ≠ 1 → f = f0) (q4 : pTo T f0 P3 = P4) (w4 : pW T 307 P3 = W) (K : ∀ (I1 : Nat → Nat → Int32) (a1 : Nat) (w : Int32), PC I1 y nx T ix N (P4, L) 0 a1 k → a ≤ a1 → OffM y nx k I I1 → (P4.2.1 ≠ 1 → w = W) → MW G mX14_readRust 4 97 [some (vR y), some (vI r), some (vI f), some (vI w), none] [] (mw S I1 J R) Q) : MW G mX14_readRust 4 63 [some (vR y), some (vI r), some (vI f), none, none] [] (mw S I J R) Q := by
  have ky := hC.1.1
  have eF := pTo_f (T := T) (f := f0) (s := P3)
  have eG := fun m => pTo_g (T := T) (f := f0) (s := P3) (m := m)
  have hN := k_X14_number7_ (j0 := 7) (kw := 307) (lo := 0) (hi := 99) (J := J) hG hC h (by decide) (by decide) rfl w4
  have hv : (pNum T 307 0 99 P3).2.1 ≠ 1 → P3.2.1 ≠ 1 ∧ pK T (pEx T 307 P3) = 259 ∧ (pEx T 307 P3).2.1 ≠ 1 ∧ (pNum T 307 0 99 P3).1 = (pEx T 307 P3).1 + 1 := fun z => by
    have z1 := pNum_n1 (by decide) z
    have e1 : pNum T 307 0 99 P3 = pNu T 0 99 (pEx T 307 P3) := rfl
    rw [e1] at z ⊢
    generalize pEx T 307 P3 = s1 at z ⊢
    have hk : pK T s1 = 259 := Classical.byContradiction fun q => z (by rw [pNu_no q]; exact pRef_1)
    refine ⟨z1, hk, fun q => by rw [pK_f1 q] at hk; exact absurd hk (by decide), ?_⟩
    unfold pNu
    split
    · rw [show pEx T 259 (pBl T 5 s1) = _ from if_pos (pK_bl hk (by decide) (by decide))]
      unfold pBl
      split <;> rfl
    · rw [show pEx T 259 s1 = _ from if_pos hk]
  have hW : pW T 307 P3 = (pV T (pEx T 307 P3)).toInt32 := rfl
  rw [w4] at hW
  rw [q4] at eF eG
  clear q4 w4
  generalize pNum T 307 0 99 P3 = P at hN hv eF eG
  generalize pEx T 307 P3 = s1 at hN hv eG hW
  refine am_aload_n (q := 64) dX14_readRust_63 rfl rfl ?_
  refine am_bipush (q := 66) (v := 7) dX14_readRust_64 kc_b7 rfl ?_
  refine am_iconst (q := 67) (v := 0) dX14_readRust_66 kc_i0 rfl ?_
  refine am_bipush (q := 69) (v := 99) dX14_readRust_67 kc_b99 rfl ?_
  refine cm_call0 (q := 72) (As := [_, _, _]) hG dX14_readRust_69 mlX14_225 rfl (by assumption) ⟨_, _, rfl⟩ (Nat.le_of_ble_eq_true rfl) (Nat.le_of_ble_eq_true rfl) (Nat.le_of_ble_eq_true rfl) (Nat.le_of_ble_eq_true rfl) hN rfl ?_
  rintro _ _ ⟨w, I1, a1, rfl, rfl, g1, g2, g3, g4⟩
  refine am_istore_n (q := 73) (ls1 := [_, _, _, _, _]) dX14_readRust_72 (Nat.le_of_ble_eq_true rfl) rfl rfl ?_
  by_cases c1 : P.2.1 = 1
  · have h4 := eF c1
    have k1 := K I1 a1 w (by rw [h4]; exact g1) g2 g3 (fun q => absurd (by rw [h4]; exact c1) q)
    clear K eG hv g4 eF hf hN
    refine am_aload_n (q := 74) dX14_readRust_73 rfl rfl ?_
    refine cm_call0 (q := 77) (As := []) hG dX14_readRust_74 mlX14_119 rfl (by assumption) ⟨_, _, rfl⟩ (Nat.le_of_ble_eq_true rfl) (Nat.le_of_ble_eq_true rfl) (Nat.le_of_ble_eq_true rfl) (Nat.le_of_ble_eq_true rfl) (k_X14_isOk hC g1) rfl ?_
    rintro _ _ ⟨rfl, rfl⟩
    rw [show bI (((P, L) : PS × Cd).1.2.1 ≠ 1) = 0 from bI_f (fun q => q c1)]
    refine am_if_eq (tgt := 97) (q := 80) dX14_readRust_77 rfl rfl (fun _ => ?_) (fun hz => absurd rfl hz)
    exact k1
  · obtain ⟨g5, g6, g7⟩ := g4 c1
    obtain ⟨v1, v2, v3, v4⟩ := hv c1
    have ef := hf v1
    subst ef
    obtain ⟨_, b2, b3⟩ := g1.kind c1
    have hT := g1.1
    have h1n := hT.2.1
    have ea : a1 - 1 = s1.1 := by
      have : a1 = P.1 := b3
      omega
    have la : a1 - 1 < T.n := by omega
    have kt : T.k (a1 - 1) = 259 := by
      rw [ea, ← v2]
      unfold pK
      rw [if_neg v3]
    obtain ⟨m, m1, m2⟩ := hT.num la kt
    have ev : pV T s1 = (nI m).toInt64 := by
      rw [← m2, ea]
      unfold pV
      rw [if_neg v3]
    obtain ⟨G1, G2, G3⟩ := eG m c1 ev (by omega)
    have ew : w = nI m := by
      rw [g5, hW, ev]
      exact Int32.toInt32_toInt64 _
    subst ew
    have h13 : I1 y 13 = nI a1 := g1.2.1.1
    have b0 : bI (((P, L) : PS × Cd).1.2.1 ≠ 1) = 1 := bI_t c1
    by_cases c2 : nI m < f
    · have tl := k_X14_tell (G := G) (S := S) (I := I1) (J := J) (R := R) (y := y) (n := 6) (tk := nI (a1 - 1)) hC.1.1
      have e16 : I1 y 16 = P.2.1 := by
        obtain ⟨_, _, q | q⟩ := g1
        · exact absurd q.1 c1
        · exact q.2.2.2.2.1
      by_cases c3 : P.2.1 = 0
      · have q4 := G3 c2 c3
        obtain ⟨d1, d2⟩ := g1.blame (n := 6) (I1 := up2 (up2 I1 y 16 6) y 17 (nI (a1 - 1))) hC c3 (by omega) (by decide) (by decide) (fun x j => by
          rw [up2_at, up2_at]
          by_cases z1 : x = y ∧ j = 17
          · rw [if_pos z1, if_neg (by omega), if_pos z1]
          · rw [if_neg z1, if_neg z1])
        have k1 := K _ a1 (nI m) (by
          have q := d1
          have e9 : P.1 = a1 := b3.symm
          rw [e9] at q
          rw [q4, e9]
          exact q) g2 (g3.tr d2 (Nat.le_refl _)) (fun _ => g5)
        have nb : ¬ (I1 y 16 ≠ 0 ∧ (I1 y 17 ≠ nI (a1 - 1) ∨ I1 y 16 ≤ 6)) := fun q => q.1 (e16.trans c3)
        have tl2 : Fn G mX14_tell 0 [vR y, vI 6, vI (nI (a1 - 1))] (mw S I1 J R) (fun rr M1 => rr = none ∧ M1 = mw S (up2 (up2 I1 y 16 6) y 17 (nI (a1 - 1))) J R) := by
          refine MW.weaken tl ?_
          rintro f M1 ⟨r, x1, x2, _, x4⟩
          exact ⟨r, x1, x2, x4 nb⟩
        clear K hv eF hf hN G1 G2 G3 g7 c1 v1 v3 q4 e16 nb c3 eG tl kt v2
        refine am_aload_n (q := 74) dX14_readRust_73 rfl rfl ?_
        refine cm_call0 (q := 77) (As := []) hG dX14_readRust_74 mlX14_119 rfl (by assumption) ⟨_, _, rfl⟩ (Nat.le_of_ble_eq_true rfl) (Nat.le_of_ble_eq_true rfl) (Nat.le_of_ble_eq_true rfl) (Nat.le_of_ble_eq_true rfl) (k_X14_isOk hC g1) rfl ?_
        rintro _ _ ⟨rfl, rfl⟩
        rw [b0]
        refine am_if_eq (tgt := 97) (q := 80) dX14_readRust_77 rfl rfl (fun hz => absurd hz (by decide)) (fun _ => ?_)
        refine am_iload_n (q := 81) dX14_readRust_80 rfl rfl ?_
        refine am_iload_n (q := 82) dX14_readRust_81 rfl rfl ?_
        refine am_icmp_ge (tgt := 97) (q := 85) dX14_readRust_82 rfl rfl (fun hz => absurd hz (Int32.not_le.mpr c2)) (fun _ => ?_)
        refine am_aload_n (q := 86) dX14_readRust_85 rfl rfl ?_
        refine am_bipush (q := 88) (v := 6) dX14_readRust_86 kc_b6 rfl ?_
        refine am_aload_n (q := 89) dX14_readRust_88 rfl rfl ?_
        refine cm_getI (q := 92) dX14_readRust_89 flX14_116 rfl (by assumption) rfl ?_
        rw [h13]
        refine am_iconst (q := 93) (v := 1) dX14_readRust_92 kc_i1 rfl ?_
        refine am_isub (q := 94) dX14_readRust_93 rfl ?_
        rw [nI_pred' (by omega)]
        refine cm_call0 (q := 97) (As := [_, _]) hG dX14_readRust_94 mlX14_149 rfl (by assumption) ⟨_, _, rfl⟩ (Nat.le_of_ble_eq_true rfl) (Nat.le_of_ble_eq_true rfl) (Nat.le_of_ble_eq_true rfl) (Nat.le_of_ble_eq_true rfl) tl2 rfl ?_
        rintro _ _ ⟨rfl, rfl⟩
        exact k1
      · obtain ⟨q4, q5⟩ := G2 c2 c3
        have k1 := K I1 a1 (nI m) (by rw [q4]; exact g1) g2 g3 (fun _ => g5)
        have yb : I1 y 16 ≠ 0 ∧ (I1 y 17 ≠ nI (a1 - 1) ∨ I1 y 16 ≤ 6) := by
          refine ⟨by rw [e16]; exact c3, ?_⟩
          by_cases z : s1.2.1 = 0
          · right
            rw [e16, q5 z]
            decide
          · exact Or.inl (g7 z)
        have tl2 : Fn G mX14_tell 0 [vR y, vI 6, vI (nI (a1 - 1))] (mw S I1 J R) (fun rr M1 => rr = none ∧ M1 = mw S I1 J R) := by
          refine MW.weaken tl ?_
          rintro f M1 ⟨r, x1, x2, x3, _⟩
          exact ⟨r, x1, x2, x3 yb⟩
        clear K hv eF hf hN G1 G2 G3 g7 c1 v1 v3 q4 q5 e16 yb c3 eG tl kt v2
        refine am_aload_n (q := 74) dX14_readRust_73 rfl rfl ?_
        refine cm_call0 (q := 77) (As := []) hG dX14_readRust_74 mlX14_119 rfl (by assumption) ⟨_, _, rfl⟩ (Nat.le_of_ble_eq_true rfl) (Nat.le_of_ble_eq_true rfl) (Nat.le_of_ble_eq_true rfl) (Nat.le_of_ble_eq_true rfl) (k_X14_isOk hC g1) rfl ?_
        rintro _ _ ⟨rfl, rfl⟩
        rw [b0]
        refine am_if_eq (tgt := 97) (q := 80) dX14_readRust_77 rfl rfl (fun hz => absurd hz (by decide)) (fun _ => ?_)
        refine am_iload_n (q := 81) dX14_readRust_80 rfl rfl ?_
        refine am_iload_n (q := 82) dX14_readRust_81 rfl rfl ?_
        refine am_icmp_ge (tgt := 97) (q := 85) dX14_readRust_82 rfl rfl (fun hz => absurd hz (Int32.not_le.mpr c2)) (fun _ => ?_)
        refine am_aload_n (q := 86) dX14_readRust_85 rfl rfl ?_
        refine am_bipush (q := 88) (v := 6) dX14_readRust_86 kc_b6 rfl ?_
        refine am_aload_n (q := 89) dX14_readRust_88 rfl rfl ?_
        refine cm_getI (q := 92) dX14_readRust_89 flX14_116 rfl (by assumption) rfl ?_
        rw [h13]
        refine am_iconst (q := 93) (v := 1) dX14_readRust_92 kc_i1 rfl ?_
        refine am_isub (q := 94) dX14_readRust_93 rfl ?_
        rw [nI_pred' (by omega)]
        refine cm_call0 (q := 97) (As := [_, _]) hG dX14_readRust_94 mlX14_149 rfl (by assumption) ⟨_, _, rfl⟩ (Nat.le_of_ble_eq_true rfl) (Nat.le_of_ble_eq_true rfl) (Nat.le_of_ble_eq_true rfl) (Nat.le_of_ble_eq_true rfl) tl2 rfl ?_
        rintro _ _ ⟨rfl, rfl⟩
        exact k1
    · have q4 := G1 c2
      have k1 := K I1 a1 (nI m) (by rw [q4]; exact g1) g2 g3 (fun _ => g5)
      clear K hv eF hf hN G1 G2 G3 g7 c1 v1 v3 q4 eG kt v2
      refine am_aload_n (q := 74) dX14_readRust_73 rfl rfl ?_
      refine cm_call0 (q := 77) (As := []) hG dX14_readRust_74 mlX14_119 rfl (by assumption) ⟨_, _, rfl⟩ (Nat.le_of_ble_eq_true rfl) (Nat.le_of_ble_eq_true rfl) (Nat.le_of_ble_eq_true rfl) (Nat.le_of_ble_eq_true rfl) (k_X14_isOk hC g1) rfl ?_
      rintro _ _ ⟨rfl, rfl⟩
      rw [b0]
      refine am_if_eq (tgt := 97) (q := 80) dX14_readRust_77 rfl rfl (fun hz => absurd hz (by decide)) (fun _ => ?_)
      refine am_iload_n (q := 81) dX14_readRust_80 rfl rfl ?_
      refine am_iload_n (q := 82) dX14_readRust_81 rfl rfl ?_
      refine am_icmp_ge (tgt := 97) (q := 85) dX14_readRust_82 rfl rfl (fun _ => ?_) (fun hz => absurd (Int32.not_lt.mp c2) hz)
      exact k1
end Pw

