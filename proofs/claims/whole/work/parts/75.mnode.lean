theorem dX12_node_0 : decode cX12_node 0 = .ok (.aload_n 0, 1) := by decide +kernel
theorem dX12_node_1 : decode cX12_node 1 = .ok (.getfield 27, 3) := by decide +kernel
theorem dX12_node_4 : decode cX12_node 4 = .ok (.aload_n 0, 1) := by decide +kernel
theorem dX12_node_5 : decode cX12_node 5 = .ok (.getfield 52, 3) := by decide +kernel
theorem dX12_node_8 : decode cX12_node 8 = .ok (.iload_n 1, 1) := by decide +kernel
theorem dX12_node_9 : decode cX12_node 9 = .ok (.iastore, 1) := by decide +kernel
theorem dX12_node_10 : decode cX12_node 10 = .ok (.aload_n 0, 1) := by decide +kernel
theorem dX12_node_11 : decode cX12_node 11 = .ok (.getfield 30, 3) := by decide +kernel
theorem dX12_node_14 : decode cX12_node 14 = .ok (.aload_n 0, 1) := by decide +kernel
theorem dX12_node_15 : decode cX12_node 15 = .ok (.getfield 52, 3) := by decide +kernel
theorem dX12_node_18 : decode cX12_node 18 = .ok (.iload_n 2, 1) := by decide +kernel
theorem dX12_node_19 : decode cX12_node 19 = .ok (.iastore, 1) := by decide +kernel
theorem dX12_node_20 : decode cX12_node 20 = .ok (.aload_n 0, 1) := by decide +kernel
theorem dX12_node_21 : decode cX12_node 21 = .ok (.getfield 33, 3) := by decide +kernel
theorem dX12_node_24 : decode cX12_node 24 = .ok (.aload_n 0, 1) := by decide +kernel
theorem dX12_node_25 : decode cX12_node 25 = .ok (.getfield 52, 3) := by decide +kernel
theorem dX12_node_28 : decode cX12_node 28 = .ok (.iload_n 3, 1) := by decide +kernel
theorem dX12_node_29 : decode cX12_node 29 = .ok (.iastore, 1) := by decide +kernel
theorem dX12_node_30 : decode cX12_node 30 = .ok (.aload_n 0, 1) := by decide +kernel
theorem dX12_node_31 : decode cX12_node 31 = .ok (.dup, 1) := by decide +kernel
theorem dX12_node_32 : decode cX12_node 32 = .ok (.getfield 52, 3) := by decide +kernel
theorem dX12_node_35 : decode cX12_node 35 = .ok (.iconst 1, 1) := by decide +kernel
theorem dX12_node_36 : decode cX12_node 36 = .ok (.iadd, 1) := by decide +kernel
theorem dX12_node_37 : decode cX12_node 37 = .ok (.putfield 52, 3) := by decide +kernel
theorem dX12_node_40 : decode cX12_node 40 = .ok (.aload_n 0, 1) := by decide +kernel
theorem dX12_node_41 : decode cX12_node 41 = .ok (.getfield 52, 3) := by decide +kernel
theorem dX12_node_44 : decode cX12_node 44 = .ok (.iconst 1, 1) := by decide +kernel
theorem dX12_node_45 : decode cX12_node 45 = .ok (.isub, 1) := by decide +kernel
theorem dX12_node_46 : decode cX12_node 46 = .ok (.ireturn, 1) := by decide +kernel
theorem dX14_number_0 : decode cX14_number 0 = .ok (.aload_n 0, 1) := by decide +kernel
theorem dX14_number_1 : decode cX14_number 1 = .ok (.invokevirtual 119, 3) := by decide +kernel
theorem dX14_number_4 : decode cX14_number 4 = .ok (.ifCond .eq 16, 3) := by decide +kernel
theorem dX14_number_7 : decode cX14_number 7 = .ok (.aload_n 0, 1) := by decide +kernel
theorem dX14_number_8 : decode cX14_number 8 = .ok (.getfield 17, 3) := by decide +kernel
theorem dX14_number_11 : decode cX14_number 11 = .ok (.aload_n 0, 1) := by decide +kernel
theorem dX14_number_12 : decode cX14_number 12 = .ok (.getfield 116, 3) := by decide +kernel
theorem dX14_number_15 : decode cX14_number 15 = .ok (.iaload, 1) := by decide +kernel
theorem dX14_number_16 : decode cX14_number 16 = .ok (.iconst 3, 1) := by decide +kernel
theorem dX14_number_17 : decode cX14_number 17 = .ok (.if_icmp .eq 9, 3) := by decide +kernel
theorem dX14_number_20 : decode cX14_number 20 = .ok (.aload_n 0, 1) := by decide +kernel
theorem dX14_number_21 : decode cX14_number 21 = .ok (.invokevirtual 127, 3) := by decide +kernel
theorem dX14_number_24 : decode cX14_number 24 = .ok (.iconst 0, 1) := by decide +kernel
theorem dX14_number_25 : decode cX14_number 25 = .ok (.ireturn, 1) := by decide +kernel
theorem dX14_number_26 : decode cX14_number 26 = .ok (.aload_n 0, 1) := by decide +kernel
theorem dX14_number_27 : decode cX14_number 27 = .ok (.getfield 20, 3) := by decide +kernel
theorem dX14_number_30 : decode cX14_number 30 = .ok (.aload_n 0, 1) := by decide +kernel
theorem dX14_number_31 : decode cX14_number 31 = .ok (.getfield 116, 3) := by decide +kernel
theorem dX14_number_34 : decode cX14_number 34 = .ok (.iaload, 1) := by decide +kernel
theorem dX14_number_35 : decode cX14_number 35 = .ok (.iload_n 1, 1) := by decide +kernel
theorem dX14_number_36 : decode cX14_number 36 = .ok (.iload_n 2, 1) := by decide +kernel
theorem dX14_number_37 : decode cX14_number 37 = .ok (.invokestatic 72, 3) := by decide +kernel
theorem dX14_number_40 : decode cX14_number 40 = .ok (.ifCond .ne 12, 3) := by decide +kernel
theorem dX14_number_43 : decode cX14_number 43 = .ok (.aload_n 0, 1) := by decide +kernel
theorem dX14_number_44 : decode cX14_number 44 = .ok (.iconst 5, 1) := by decide +kernel
theorem dX14_number_45 : decode cX14_number 45 = .ok (.aload_n 0, 1) := by decide +kernel
theorem dX14_number_46 : decode cX14_number 46 = .ok (.getfield 116, 3) := by decide +kernel
theorem dX14_number_49 : decode cX14_number 49 = .ok (.invokevirtual 149, 3) := by decide +kernel
theorem dX14_number_52 : decode cX14_number 52 = .ok (.aload_n 0, 1) := by decide +kernel
theorem dX14_number_53 : decode cX14_number 53 = .ok (.dup, 1) := by decide +kernel
theorem dX14_number_54 : decode cX14_number 54 = .ok (.getfield 116, 3) := by decide +kernel
theorem dX14_number_57 : decode cX14_number 57 = .ok (.iconst 1, 1) := by decide +kernel
theorem dX14_number_58 : decode cX14_number 58 = .ok (.iadd, 1) := by decide +kernel
theorem dX14_number_59 : decode cX14_number 59 = .ok (.putfield 116, 3) := by decide +kernel
theorem dX14_number_62 : decode cX14_number 62 = .ok (.aload_n 0, 1) := by decide +kernel
theorem dX14_number_63 : decode cX14_number 63 = .ok (.getfield 20, 3) := by decide +kernel
theorem dX14_number_66 : decode cX14_number 66 = .ok (.aload_n 0, 1) := by decide +kernel
theorem dX14_number_67 : decode cX14_number 67 = .ok (.getfield 116, 3) := by decide +kernel
theorem dX14_number_70 : decode cX14_number 70 = .ok (.iconst 1, 1) := by decide +kernel
theorem dX14_number_71 : decode cX14_number 71 = .ok (.isub, 1) := by decide +kernel
theorem dX14_number_72 : decode cX14_number 72 = .ok (.iaload, 1) := by decide +kernel
theorem dX14_number_73 : decode cX14_number 73 = .ok (.ireturn, 1) := by decide +kernel
theorem dX14_number__0 : decode cX14_number_ 0 = .ok (.aload_n 0, 1) := by decide +kernel
theorem dX14_number__1 : decode cX14_number_ 1 = .ok (.iconst 2, 1) := by decide +kernel
theorem dX14_number__2 : decode cX14_number_ 2 = .ok (.iload_n 1, 1) := by decide +kernel
theorem dX14_number__3 : decode cX14_number_ 3 = .ok (.invokevirtual 152, 3) := by decide +kernel
theorem dX14_number__6 : decode cX14_number_ 6 = .ok (.aload_n 0, 1) := by decide +kernel
theorem dX14_number__7 : decode cX14_number_ 7 = .ok (.iload_n 2, 1) := by decide +kernel
theorem dX14_number__8 : decode cX14_number_ 8 = .ok (.iload_n 3, 1) := by decide +kernel
theorem dX14_number__9 : decode cX14_number_ 9 = .ok (.invokevirtual 155, 3) := by decide +kernel
theorem dX14_number__12 : decode cX14_number_ 12 = .ok (.ireturn, 1) := by decide +kernel
/-! the reference's reader: numbers, nodes -/
theorem srt_num {k so va : Int32} {v : Int64} (h : srt k so va v) (hk : k = 259) : ∃ m, m < 1000000 ∧ va = nI m ∧ v = (nI m).toInt64 := by
  rcases h with ⟨j, hj1, rfl, rfl, rfl⟩ | ⟨rfl, rfl⟩ | ⟨n, h1, rfl, rfl, h2, h3⟩ | ⟨rfl, rfl, rfl⟩ | ⟨rfl, rfl, rfl⟩ | ⟨j, hj1, rfl, rfl, rfl⟩ | ⟨rfl, rfl⟩ | ⟨rfl, rfl⟩
  · exact absurd hk (k_ne (b := 259) (by omega) (by decide) (by omega))
  · exact absurd hk (by decide)
  · exact ⟨n, h1, h2, h3⟩
  · exact absurd hk (by decide)
  · exact absurd hk (by decide)
  · have := symN_b j hj1
    exact absurd hk (k_ne (b := 259) (by omega) (by decide) (by omega))
  · exact absurd hk (by decide)
  · exact absurd hk (by decide)
section Pu
variable {G : Gp} {S : AMem} {I I1 : Nat → Nat → Int32} {J : Nat → Nat → Int64} {R : Nat → Nat → Option Nat} {y bl nx : Nat} {T : Toks} {ix : Int32 → Int64 → Int32} {N : Nat × Nat × Nat} {s s1 : PS × Cd} {dep a k : Nat}
theorem pNu_no {lo hi : Int32} {s : PS} (h : pK T s ≠ 259) : pNu T lo hi s = pRef T s := by
  unfold pNu
  rw [if_neg (c := pK T s = 259 ∧ _) (fun q => h q.1)]
  unfold pEx
  rw [if_neg h]
theorem pNu_in {lo hi : Int32} {s : PS} (h : ¬ (pV T s < lo.toInt64 ∨ hi.toInt64 < pV T s)) : pNu T lo hi s = pEx T 259 s := by
  unfold pNu
  rw [if_neg (c := pK T s = 259 ∧ _) (fun q => h q.2)]
theorem pNu_out {lo hi : Int32} {s : PS} (hk : pK T s = 259) (h : pV T s < lo.toInt64 ∨ hi.toInt64 < pV T s) : pNu T lo hi s = pEx T 259 (pBl T 5 s) := by
  unfold pNu
  rw [if_pos (c := pK T s = 259 ∧ _) ⟨hk, h⟩]
theorem k_X14_number {lo hi : Int32} (hG : okG G) (hC : MCc S R y bl nx) (h : PC I y nx T ix N s dep a k) : Fn G mX14_number 1 [vR y, vI lo, vI hi] (mw S I J R) (fun rr M1 => ∃ w I1 a1, rr = some (vI w) ∧ M1 = mw S I1 J R ∧ PC I1 y nx T ix N (pNu T lo hi s.1, s.2) dep a1 k ∧ a ≤ a1 ∧ OffM y nx k I I1 ∧ ((pNu T lo hi s.1).2.1 ≠ 1 → w = (pV T s.1).toInt32 ∧ a1 = a + 1)) := by
  have ky := hC.1.1
  obtain ⟨q4, q5, _, _, ⟨k2, l2⟩, ⟨k3, l3⟩, _⟩ := id hC.2.2.2.2.2.2.2.2.2
  have h13 := h.2.1.1
  have bad : pK T s.1 ≠ 259 → MW G mX14_number 1 20 [some (vR y), some (vI lo), some (vI hi)] [] (mw S I J R) (fun f M1 => ∃ rr, f = .inl rr ∧ (∃ w I1 a1, rr = some (vI w) ∧ M1 = mw S I1 J R ∧ PC I1 y nx T ix N (pNu T lo hi s.1, s.2) dep a1 k ∧ a ≤ a1 ∧ OffM y nx k I I1 ∧ ((pNu T lo hi s.1).2.1 ≠ 1 → w = (pV T s.1).toInt32 ∧ a1 = a + 1))) := by
    intro hb
    rw [pNu_no hb]
    have er : (pRef T s.1).2.1 = 1 ∧ True := ⟨pRef_1, trivial⟩
    clear hb
    refine am_aload_n (q := 21) dX14_number_20 rfl rfl ?_
    refine cm_call0 (q := 24) (As := []) hG dX14_number_21 mlX14_127 rfl (by assumption) ⟨_, _, rfl⟩ (Nat.le_of_ble_eq_true rfl) (Nat.le_of_ble_eq_true rfl) (Nat.le_of_ble_eq_true rfl) (Nat.le_of_ble_eq_true rfl) (k_X14_fail hC h) rfl ?_
    rintro _ _ ⟨rfl, I1, rfl, g1, g2⟩
    refine am_iconst (q := 25) (v := 0) dX14_number_24 kc_i0 rfl ?_
    exact am_iret dX14_number_25 rfl rfl ⟨_, rfl, _, I1, a, rfl, rfl, g1, Nat.le_refl _, g2, fun q => absurd er.1 q⟩
  refine am_aload_n (q := 1) dX14_number_0 rfl rfl ?_
  refine cm_call0 (q := 4) (As := []) hG dX14_number_1 mlX14_119 rfl (by assumption) ⟨_, _, rfl⟩ (Nat.le_of_ble_eq_true rfl) (Nat.le_of_ble_eq_true rfl) (Nat.le_of_ble_eq_true rfl) (Nat.le_of_ble_eq_true rfl) (k_X14_isOk hC h) rfl ?_
  rintro _ _ ⟨rfl, rfl⟩
  by_cases hg : s.1.2.1 = 1
  · have b := bad (by unfold pK; rw [if_pos hg]; decide)
    rw [bI_f (fun q => q hg)]
    clear hg
    refine am_if_eq (tgt := 20) (q := 7) dX14_number_4 rfl rfl (fun _ => ?_) (fun hz => absurd rfl hz)
    exact b
  · obtain ⟨e1, e2, e3⟩ := h.kind hg
    obtain ⟨i2, i3, sr, ca⟩ := h.sort hC e2
    have iff := srt_one (w := 3) (q0 := 259) sr (Or.inr (Or.inl ⟨rfl, rfl⟩))
    have e4 : pV T s.1 = T.v a := by
      unfold pV
      rw [if_neg hg, ← e3]
    rw [bI_t hg]
    have hz : s.1.2.1 ≠ 1 ∧ pK T s.1 = T.k a := ⟨hg, e1⟩
    clear hg e1 e3
    refine am_if_eq (tgt := 20) (q := 7) dX14_number_4 rfl rfl (fun hz => absurd hz (by decide)) (fun _ => ?_)
    refine am_aload_n (q := 8) dX14_number_7 rfl rfl ?_
    refine cm_getR (q := 11) dX14_number_8 flX14_17 rfl (by assumption) (by assumption) rfl ?_
    refine am_aload_n (q := 12) dX14_number_11 rfl rfl ?_
    refine cm_getI (q := 15) dX14_number_12 flX14_116 rfl (by assumption) rfl ?_
    rw [h13]
    refine cm_iaload (q := 16) dX14_number_15 (by assumption) i2 rfl ?_
    rw [ca]
    by_cases c : I (y + 2) a = 3
    · have hk : pK T s.1 = 259 := hz.2.trans (iff.mp c)
      obtain ⟨m, hm, m1, m2⟩ := srt_num sr (iff.mp c)
      refine am_iconst (q := 17) (v := 3) dX14_number_16 kc_i3 rfl ?_
      refine am_icmp_eq (tgt := 26) (q := 20) dX14_number_17 rfl rfl (fun _ => ?_) (fun hz => absurd c hz)
      refine am_aload_n (q := 27) dX14_number_26 rfl rfl ?_
      refine cm_getR (q := 30) dX14_number_27 flX14_20 rfl (by assumption) (by assumption) rfl ?_
      refine am_aload_n (q := 31) dX14_number_30 rfl rfl ?_
      refine cm_getI (q := 34) dX14_number_31 flX14_116 rfl (by assumption) rfl ?_
      rw [h13]
      refine cm_iaload (q := 35) dX14_number_34 (by assumption) i3 rfl ?_
      rw [ca, m1]
      refine am_iload_n (q := 36) dX14_number_35 rfl rfl ?_
      refine am_iload_n (q := 37) dX14_number_36 rfl rfl ?_
      refine am_call1 (q := 40) (As := [_, _, _]) hG dX14_number_37 mlX14_72 rfl (Nat.le_of_ble_eq_true rfl) (Nat.le_of_ble_eq_true rfl) (Nat.le_of_ble_eq_true rfl) k_X14_isIn rfl ?_
      rintro _ _ ⟨rfl, rfl⟩
      have hw : (pV T s.1).toInt32 = nI m := by
        rw [e4, m2]
        exact Int32.toInt32_toInt64 _
      have hout : ¬ (lo ≤ nI m ∧ nI m ≤ hi) ↔ (pV T s.1 < lo.toInt64 ∨ hi.toInt64 < pV T s.1) := by
        rw [e4, m2, Int32.toInt64_lt, Int32.toInt64_lt]
        constructor
        · intro q
          by_cases z : lo ≤ nI m
          · exact Or.inr (Int32.not_le.mp fun z2 => q ⟨z, z2⟩)
          · exact Or.inl (Int32.not_le.mp z)
        · rintro (q | q) ⟨z1, z2⟩
          · exact Int32.not_le.mpr q z1
          · exact Int32.not_le.mpr q z2
      have fin : ∀ (I2 : Nat → Nat → Int32), I2 y 13 = nI a → (∀ j, I2 (y + 3) j = I (y + 3) j) → PC (up2 I2 y 13 (nI (a + 1))) y nx T ix N (pNu T lo hi s.1, s.2) dep (a + 1) k ∧ OffM y nx k I (up2 I2 y 13 (nI (a + 1))) → MW G mX14_number 1 52 [some (vR y), some (vI lo), some (vI hi)] [] (mw S I2 J R) (fun f M1 => ∃ rr, f = .inl rr ∧ (∃ w I1 a1, rr = some (vI w) ∧ M1 = mw S I1 J R ∧ PC I1 y nx T ix N (pNu T lo hi s.1, s.2) dep a1 k ∧ a ≤ a1 ∧ OffM y nx k I I1 ∧ ((pNu T lo hi s.1).2.1 ≠ 1 → w = (pV T s.1).toInt32 ∧ a1 = a + 1))) := by
        intro I2 z1 z2 z3
        refine am_aload_n (q := 53) dX14_number_52 rfl rfl ?_
        refine am_dup (q := 54) dX14_number_53 rfl rfl ?_
        refine cm_getI (q := 57) dX14_number_54 flX14_116 rfl (by assumption) rfl ?_
        rw [z1]
        refine am_iconst (q := 58) (v := 1) dX14_number_57 kc_i1 rfl ?_
        refine am_iadd (q := 59) dX14_number_58 rfl ?_
        refine cm_putI (q := 62) dX14_number_59 flX14_116 rfl (Or.inl rfl) (Or.inl rfl) (by assumption) rfl ?_
        refine am_aload_n (q := 63) dX14_number_62 rfl rfl ?_
        refine cm_getR (q := 66) dX14_number_63 flX14_20 rfl (by assumption) (by assumption) rfl ?_
        refine am_aload_n (q := 67) dX14_number_66 rfl rfl ?_
        refine cm_getI (q := 70) dX14_number_67 flX14_116 rfl (by assumption) rfl ?_
        rw [nI_1, up2_s]
        refine am_iconst (q := 71) (v := 1) dX14_number_70 kc_i1 rfl ?_
        refine am_isub (q := 72) dX14_number_71 rfl ?_
        rw [nI_pred]
        refine cm_iaload (q := 73) dX14_number_72 (by assumption) i3 rfl ?_
        rw [ca, up2_a (show y + 3 ≠ y by omega), z2, m1]
        exact am_iret dX14_number_73 rfl rfl ⟨_, rfl, nI m, _, a + 1, rfl, rfl, z3.1, Nat.le_succ _, z3.2, fun _ => ⟨hw.symm, rfl⟩⟩
      by_cases cin : lo ≤ nI m ∧ nI m ≤ hi
      · rw [bI_t cin]
        have d := h.eat (I1 := up2 I y 13 (nI (a + 1))) hC hz.1 hk (by decide) (by decide) (fun x j => up2_at _ _)
        have d3 := fin I h13 (fun _ => rfl) (by rw [pNu_in (fun q => hout.mpr q cin)]; exact d)
        clear hk hw hout fin
        refine am_if_ne (tgt := 52) (q := 43) dX14_number_40 rfl rfl (fun _ => ?_) (fun hz => absurd hz (by decide))
        exact d3
      · rw [bI_f cin]
        have t1 : Fn G mX14_tell 0 [vR y, vI 5, vI (nI a)] (mw S I J R) (fun rr M1 => rr = none ∧ M1 = mw S (if s.1.2.1 = 0 then up2 (up2 I y 16 5) y 17 (nI a) else I) J R) := k_tel hC h hz.1 rfl rfl
        by_cases h0 : s.1.2.1 = 0
        · rw [if_pos h0] at t1
          have d := h.told (I1 := up2 (up2 (up2 I y 16 5) y 17 (nI a)) y 13 (nI (a + 1))) (n := 5) hC h0 hk (by decide) (by decide) (by decide) (by decide) (fun x j => by
            rw [up3_at (by decide) (by decide) (by decide)]
            by_cases z1 : x = y ∧ j = 16
            · rw [if_pos z1, if_neg (by omega), if_pos z1]
            · rw [if_neg z1, if_neg z1]
              by_cases z2 : x = y ∧ j = 17
              · rw [if_pos z2, if_neg (by omega), if_pos z2]
              · rw [if_neg z2, if_neg z2])
          have d3 := fin (up2 (up2 I y 16 5) y 17 (nI a)) (by rw [up2_j (by decide), up2_j (by decide)]; exact h13) (fun j => by rw [up2_a (by omega), up2_a (by omega)]) (by rw [pNu_out hk (hout.mp cin)]; exact d)
          clear h0 hk hw hout fin
          refine am_if_ne (tgt := 52) (q := 43) dX14_number_40 rfl rfl (fun hz => absurd rfl hz) (fun _ => ?_)
          refine am_aload_n (q := 44) dX14_number_43 rfl rfl ?_
          refine am_iconst (q := 45) (v := 5) dX14_number_44 kc_i5 rfl ?_
          refine am_aload_n (q := 46) dX14_number_45 rfl rfl ?_
          refine cm_getI (q := 49) dX14_number_46 flX14_116 rfl (by assumption) rfl ?_
          rw [h13]
          refine cm_call0 (q := 52) (As := [_, _]) hG dX14_number_49 mlX14_149 rfl (by assumption) ⟨_, _, rfl⟩ (Nat.le_of_ble_eq_true rfl) (Nat.le_of_ble_eq_true rfl) (Nat.le_of_ble_eq_true rfl) (Nat.le_of_ble_eq_true rfl) t1 rfl ?_
          rintro _ _ ⟨rfl, rfl⟩
          exact d3
        · rw [if_neg h0] at t1
          have d := h.eat (I1 := up2 I y 13 (nI (a + 1))) hC hz.1 hk (by decide) (by decide) (fun x j => up2_at _ _)
          have d3 := fin I h13 (fun _ => rfl) (by rw [pNu_out hk (hout.mp cin), pBl_no h0]; exact d)
          clear h0 hk hw hout fin
          refine am_if_ne (tgt := 52) (q := 43) dX14_number_40 rfl rfl (fun hz => absurd rfl hz) (fun _ => ?_)
          refine am_aload_n (q := 44) dX14_number_43 rfl rfl ?_
          refine am_iconst (q := 45) (v := 5) dX14_number_44 kc_i5 rfl ?_
          refine am_aload_n (q := 46) dX14_number_45 rfl rfl ?_
          refine cm_getI (q := 49) dX14_number_46 flX14_116 rfl (by assumption) rfl ?_
          rw [h13]
          refine cm_call0 (q := 52) (As := [_, _]) hG dX14_number_49 mlX14_149 rfl (by assumption) ⟨_, _, rfl⟩ (Nat.le_of_ble_eq_true rfl) (Nat.le_of_ble_eq_true rfl) (Nat.le_of_ble_eq_true rfl) (Nat.le_of_ble_eq_true rfl) t1 rfl ?_
          rintro _ _ ⟨rfl, rfl⟩
          exact d3
    · have b := bad (fun q => c (iff.mpr (hz.2.symm.trans q)))
      refine am_iconst (q := 17) (v := 3) dX14_number_16 kc_i3 rfl ?_
      refine am_icmp_eq (tgt := 26) (q := 20) dX14_number_17 rfl rfl (fun hz => absurd hz c) (fun _ => ?_)
      exact b
/-- a keyword, and the number behind it -/
theorem k_X14_number_ {j0 : Nat} {lo hi : Int32} (hG : okG G) (hC : MCc S R y bl nx) (h : PC I y nx T ix N s dep a k) (hj : j0 < 32) : Fn G mX14_number_ 3 [vR y, vI (nI j0), vI lo, vI hi] (mw S I J R) (fun rr M1 => ∃ w I1 a1, rr = some (vI w) ∧ M1 = mw S I1 J R ∧ PC I1 y nx T ix N (pNum T (nI (300 + j0)) lo hi s.1, s.2) dep a1 k ∧ a ≤ a1 ∧ OffM y nx k I I1 ∧ ((pNum T (nI (300 + j0)) lo hi s.1).2.1 ≠ 1 → w = (pV T (pEx T (nI (300 + j0)) s.1)).toInt32 ∧ a + 1 ≤ a1)) := by
  have ky := hC.1.1
  rw [show pNum T (nI (300 + j0)) lo hi s.1 = pNu T lo hi (eEx T (nI (300 + j0)) s).1 from rfl]
  refine am_aload_n (q := 1) dX14_number__0 rfl rfl ?_
  refine am_iconst (q := 2) (v := 2) dX14_number__1 kc_i2 rfl ?_
  refine am_iload_n (q := 3) dX14_number__2 rfl rfl ?_
  refine cm_call0 (q := 6) (As := [_, _]) hG dX14_number__3 mlX14_152 rfl (by assumption) ⟨_, _, rfl⟩ (Nat.le_of_ble_eq_true rfl) (Nat.le_of_ble_eq_true rfl) (Nat.le_of_ble_eq_true rfl) (Nat.le_of_ble_eq_true rfl) (k_X14_take (kk := nI (300 + j0)) hG hC h (k_ne (b := 256) (by omega) (by decide) (by omega)) (k_ne (b := 257) (by omega) (by decide) (by omega)) (fun _ _ _ _ q => srt_key q hj)) rfl ?_
  rintro _ _ ⟨rfl, I1, a1, rfl, g1, g2, g3⟩
  have hN := k_X14_number (lo := lo) (hi := hi) (J := J) hG hC g1
  have ev : (pV T (eEx T (nI (300 + j0)) s).1).toInt32 = (pV T (pEx T (nI (300 + j0)) s.1)).toInt32 := rfl
  rw [ev] at hN
  generalize (pV T (pEx T (nI (300 + j0)) s.1)).toInt32 = W at hN ⊢
  have e2 : (eEx T (nI (300 + j0)) s).2 = s.2 := rfl
  rw [e2] at hN
  generalize pNu T lo hi (eEx T (nI (300 + j0)) s).1 = P at hN ⊢
  clear g1 ev e2 h
  refine am_aload_n (q := 7) dX14_number__6 rfl rfl ?_
  refine am_iload_n (q := 8) dX14_number__7 rfl rfl ?_
  refine am_iload_n (q := 9) dX14_number__8 rfl rfl ?_
  refine cm_call0 (q := 12) (As := [_, _]) hG dX14_number__9 mlX14_155 rfl (by assumption) ⟨_, _, rfl⟩ (Nat.le_of_ble_eq_true rfl) (Nat.le_of_ble_eq_true rfl) (Nat.le_of_ble_eq_true rfl) (Nat.le_of_ble_eq_true rfl) hN rfl ?_
  rintro _ _ ⟨w, I2, a2, rfl, rfl, g4, g5, g6, g7⟩
  exact am_iret dX14_number__12 rfl rfl ⟨_, rfl, w, I2, a2, rfl, rfl, g4, Nat.le_trans g2 g5, g3.tr g6 (Nat.le_refl _), fun q => ⟨(g7 q).1, by have := (g7 q).2; omega⟩⟩
theorem up4_at {f : Nat → Nat → Int32} {b k : Nat} {v1 v2 v3 v4 : Int32} (x j : Nat) : up2 (up2 (up2 (up2 f (b + 6) k v1) (b + 7) k v2) (b + 8) k v3) b 10 v4 x j = if x = b + 6 ∧ j = k then v1 else if x = b + 7 ∧ j = k then v2 else if x = b + 8 ∧ j = k then v3 else if x = b ∧ j = 10 then v4 else f x j := by
  rw [up2_at, up2_at, up2_at, up2_at]
  by_cases e4 : x = b ∧ j = 10
  · rw [if_pos e4, if_neg (by omega), if_neg (by omega), if_neg (by omega), if_pos e4]
  · rw [if_neg e4, if_neg e4]
    by_cases e3 : x = b + 8 ∧ j = k
    · rw [if_pos e3, if_neg (by omega), if_neg (by omega), if_pos e3]
    · rw [if_neg e3, if_neg e3]
      by_cases e2 : x = b + 7 ∧ j = k
      · rw [if_pos e2, if_neg (by omega), if_pos e2]
      · rw [if_neg e2, if_neg e2]
/-- a node is made -/
def ndI (I : Nat → Nat → Int32) (nx k : Nat) (w u v : Int32) : Nat → Nat → Int32 := up2 (up2 (up2 (up2 I (nx + 6) k w) (nx + 7) k u) (nx + 8) k v) nx 10 (nI (k + 1))
theorem k_X12_node {w u v : Int32} (hC : MCc S R y bl nx) (h10 : I nx 10 = nI k) (hk : k < 401) : Fn G mX12_node 0 [vR nx, vI w, vI u, vI v] (mw S I J R) (fun rr M1 => rr = some (vI (nI k)) ∧ M1 = mw S (ndI I nx k w u v) J R) := by
  obtain ⟨_, _, _, _, _, _, _, _, ⟨kb, b5, b6, b7, b8, b9, b11, b12, b13, _, _, _, _, _, ⟨ko, lo⟩, ⟨ka, la⟩, kd, ld⟩, _⟩ := hC
  unfold ndI
  have ca : (nI k).toNatClampNeg = k := nI_clamp (by omega)
  refine am_aload_n (q := 1) dX12_node_0 rfl rfl ?_
  refine cm_getR (q := 4) dX12_node_1 flX12_27 rfl (by assumption) (by assumption) rfl ?_
  refine am_aload_n (q := 5) dX12_node_4 rfl rfl ?_
  refine cm_getI (q := 8) dX12_node_5 flX12_52 rfl (by assumption) rfl ?_
  rw [h10]
  refine am_iload_n (q := 9) dX12_node_8 rfl rfl ?_
  refine cm_iastore (q := 10) dX12_node_9 (by assumption) (by rw [lo]; exact vp_in_nI hk (by decide)) rfl ?_
  rw [ca]
  refine am_aload_n (q := 11) dX12_node_10 rfl rfl ?_
  refine cm_getR (q := 14) dX12_node_11 flX12_30 rfl (by assumption) (by assumption) rfl ?_
  refine am_aload_n (q := 15) dX12_node_14 rfl rfl ?_
  refine cm_getI (q := 18) dX12_node_15 flX12_52 rfl (by assumption) rfl ?_
  rw [up2_a (show nx ≠ nx + 6 by omega), h10]
  refine am_iload_n (q := 19) dX12_node_18 rfl rfl ?_
  refine cm_iastore (q := 20) dX12_node_19 (by assumption) (by rw [la]; exact vp_in_nI hk (by decide)) rfl ?_
  rw [ca]
  refine am_aload_n (q := 21) dX12_node_20 rfl rfl ?_
  refine cm_getR (q := 24) dX12_node_21 flX12_33 rfl (by assumption) (by assumption) rfl ?_
  refine am_aload_n (q := 25) dX12_node_24 rfl rfl ?_
  refine cm_getI (q := 28) dX12_node_25 flX12_52 rfl (by assumption) rfl ?_
  rw [up2_a (show nx ≠ nx + 7 by omega), up2_a (show nx ≠ nx + 6 by omega), h10]
  refine am_iload_n (q := 29) dX12_node_28 rfl rfl ?_
  refine cm_iastore (q := 30) dX12_node_29 (by assumption) (by rw [ld]; exact vp_in_nI hk (by decide)) rfl ?_
  rw [ca]
  refine am_aload_n (q := 31) dX12_node_30 rfl rfl ?_
  refine am_dup (q := 32) dX12_node_31 rfl rfl ?_
  refine cm_getI (q := 35) dX12_node_32 flX12_52 rfl (by assumption) rfl ?_
  rw [up2_a (show nx ≠ nx + 8 by omega), up2_a (show nx ≠ nx + 7 by omega), up2_a (show nx ≠ nx + 6 by omega), h10]
  refine am_iconst (q := 36) (v := 1) dX12_node_35 kc_i1 rfl ?_
  refine am_iadd (q := 37) dX12_node_36 rfl ?_
  refine cm_putI (q := 40) dX12_node_37 flX12_52 rfl (Or.inl rfl) (Or.inl rfl) (by assumption) rfl ?_
  refine am_aload_n (q := 41) dX12_node_40 rfl rfl ?_
  refine cm_getI (q := 44) dX12_node_41 flX12_52 rfl (by assumption) rfl ?_
  rw [nI_1, up2_s]
  refine am_iconst (q := 45) (v := 1) dX12_node_44 kc_i1 rfl ?_
  refine am_isub (q := 46) dX12_node_45 rfl ?_
  rw [nI_pred]
  exact am_iret dX12_node_46 rfl rfl ⟨_, rfl, rfl, rfl⟩
theorem PC.nd {w u v kk g : Int32} (hC : MCc S R y bl nx) (h : PC I y nx T ix N s dep a k) (hk : k < a) : PC (ndI I nx k w u v) y nx T ix N (eAd kk g s) dep a (k + 1) ∧ OffM y nx k I (ndI I nx k w u v) ∧ k < 401 := by
  obtain ⟨p1, p2, p3, p4, p5⟩ := hC.lo
  have e : ∀ x j, ndI I nx k w u v x j = if x = nx + 6 ∧ j = k then w else if x = nx + 7 ∧ j = k then u else if x = nx + 8 ∧ j = k then v else if x = nx ∧ j = 10 then nI (k + 1) else I x j := fun x j => up4_at x j
  have e2 : ∀ x j, (x = nx → j ≠ 10) → ((x = nx + 6 ∨ x = nx + 7 ∨ x = nx + 8) → j < k) → ndI I nx k w u v x j = I x j := fun x j p q => by
    rw [e, if_neg (by omega), if_neg (by omega), if_neg (by omega), if_neg (by omega)]
  have e10 : ndI I nx k w u v nx 10 = nI (k + 1) := by
    rw [e, if_neg (by omega), if_neg (by omega), if_neg (by omega), if_pos ⟨rfl, rfl⟩]
  generalize ndI I nx k w u v = I1 at e e2 e10 ⊢
  have hn : T.n ≤ 401 := h.1.2.1
  have ha := h.2.1.2.1
  refine ⟨?_, fun x j p q r => e2 x j q r, by omega⟩
  obtain ⟨hT, ⟨h1, h2, h3, h4, h5⟩, ⟨g0, tk, g1, g2⟩ | ⟨g0, g1, g2, g3, g4, g5, g6, a1, a2, a3, mr, mf, mp, g7, g8⟩⟩ := h
  · exact ⟨hT.cg (fun x j p q => e2 x j (by omega) (by omega)), ⟨(e2 _ _ (by omega) (by omega)).trans h1, h2, e10, by omega, (e2 _ _ (by omega) (by omega)).trans h5⟩, Or.inl ⟨g0, tk, (e2 _ _ (by omega) (by omega)).trans g1, g2⟩⟩
  · refine ⟨hT.cg (fun x j p q => e2 x j (by omega) (by omega)), ⟨(e2 _ _ (by omega) (by omega)).trans h1, h2, e10, by omega, (e2 _ _ (by omega) (by omega)).trans h5⟩, Or.inr ⟨g0, (e2 _ _ (by omega) (by omega)).trans g1, g2, g3, (e2 _ _ (by omega) (by omega)).trans g4, fun z => ?_, fun z => ?_, a1, a2, a3, mr, mf, mp, g7.cg (fun j hj => e2 _ _ (by omega) (by omega)) (fun x j p q => e2 _ _ (by omega) (by omega)), g8⟩⟩
    · obtain ⟨tk, t1, t2, t3⟩ := g5 z
      exact ⟨tk, t1, (e2 _ _ (by omega) (by omega)).trans t2, t3⟩
    · obtain ⟨z1, z2⟩ := g6 z
      refine ⟨z1, ?_⟩
      show k + 1 = (adC s.2 (kk, g)).length
      unfold adC
      rw [if_pos (by omega), List.length_append, ← z2]
      rfl
end Pu

