theorem kc_b6 : (Int8.ofInt 6).toInt32 = 6 := by decide +kernel
theorem kc_s307 : (Int16.ofInt 307).toInt32 = 307 := by decide +kernel
theorem dX7_numberOfTo_0 : decode cX7_numberOfTo 0 = .ok (.aload_n 0, 1) := by decide +kernel
theorem dX7_numberOfTo_1 : decode cX7_numberOfTo 1 = .ok (.sipush 307, 3) := by decide +kernel
theorem dX7_numberOfTo_4 : decode cX7_numberOfTo 4 = .ok (.invokevirtual 53, 3) := by decide +kernel
theorem dX7_numberOfTo_7 : decode cX7_numberOfTo 7 = .ok (.aload_n 0, 1) := by decide +kernel
theorem dX7_numberOfTo_8 : decode cX7_numberOfTo 8 = .ok (.invokevirtual 57, 3) := by decide +kernel
theorem dX7_numberOfTo_11 : decode cX7_numberOfTo 11 = .ok (.lstore_n 2, 1) := by decide +kernel
theorem dX7_numberOfTo_12 : decode cX7_numberOfTo 12 = .ok (.aload_n 0, 1) := by decide +kernel
theorem dX7_numberOfTo_13 : decode cX7_numberOfTo 13 = .ok (.invokevirtual 31, 3) := by decide +kernel
theorem dX7_numberOfTo_16 : decode cX7_numberOfTo 16 = .ok (.sipush 259, 3) := by decide +kernel
theorem dX7_numberOfTo_19 : decode cX7_numberOfTo 19 = .ok (.if_icmp .ne 16, 3) := by decide +kernel
theorem dX7_numberOfTo_22 : decode cX7_numberOfTo 22 = .ok (.lload_n 2, 1) := by decide +kernel
theorem dX7_numberOfTo_23 : decode cX7_numberOfTo 23 = .ok (.ldc2_w 177, 3) := by decide +kernel
theorem dX7_numberOfTo_26 : decode cX7_numberOfTo 26 = .ok (.lcmp, 1) := by decide +kernel
theorem dX7_numberOfTo_27 : decode cX7_numberOfTo 27 = .ok (.ifCond .le 8, 3) := by decide +kernel
theorem dX7_numberOfTo_30 : decode cX7_numberOfTo 30 = .ok (.aload_n 0, 1) := by decide +kernel
theorem dX7_numberOfTo_31 : decode cX7_numberOfTo 31 = .ok (.iconst 5, 1) := by decide +kernel
theorem dX7_numberOfTo_32 : decode cX7_numberOfTo 32 = .ok (.invokevirtual 87, 3) := by decide +kernel
theorem dX7_numberOfTo_35 : decode cX7_numberOfTo 35 = .ok (.aload_n 0, 1) := by decide +kernel
theorem dX7_numberOfTo_36 : decode cX7_numberOfTo 36 = .ok (.invokevirtual 31, 3) := by decide +kernel
theorem dX7_numberOfTo_39 : decode cX7_numberOfTo 39 = .ok (.sipush 259, 3) := by decide +kernel
theorem dX7_numberOfTo_42 : decode cX7_numberOfTo 42 = .ok (.if_icmp .ne 16, 3) := by decide +kernel
theorem dX7_numberOfTo_45 : decode cX7_numberOfTo 45 = .ok (.lload_n 2, 1) := by decide +kernel
theorem dX7_numberOfTo_46 : decode cX7_numberOfTo 46 = .ok (.iload_n 1, 1) := by decide +kernel
theorem dX7_numberOfTo_47 : decode cX7_numberOfTo 47 = .ok (.i2l, 1) := by decide +kernel
theorem dX7_numberOfTo_48 : decode cX7_numberOfTo 48 = .ok (.lcmp, 1) := by decide +kernel
theorem dX7_numberOfTo_49 : decode cX7_numberOfTo 49 = .ok (.ifCond .ge 9, 3) := by decide +kernel
theorem dX7_numberOfTo_52 : decode cX7_numberOfTo 52 = .ok (.aload_n 0, 1) := by decide +kernel
theorem dX7_numberOfTo_53 : decode cX7_numberOfTo 53 = .ok (.bipush 6, 2) := by decide +kernel
theorem dX7_numberOfTo_55 : decode cX7_numberOfTo 55 = .ok (.invokevirtual 87, 3) := by decide +kernel
theorem dX7_numberOfTo_58 : decode cX7_numberOfTo 58 = .ok (.aload_n 0, 1) := by decide +kernel
theorem dX7_numberOfTo_59 : decode cX7_numberOfTo 59 = .ok (.sipush 259, 3) := by decide +kernel
theorem dX7_numberOfTo_62 : decode cX7_numberOfTo 62 = .ok (.invokevirtual 53, 3) := by decide +kernel
theorem dX7_numberOfTo_65 : decode cX7_numberOfTo 65 = .ok (.lload_n 2, 1) := by decide +kernel
theorem dX7_numberOfTo_66 : decode cX7_numberOfTo 66 = .ok (.l2i, 1) := by decide +kernel
theorem dX7_numberOfTo_67 : decode cX7_numberOfTo 67 = .ok (.ireturn, 1) := by decide +kernel
/-! the second number of rust -/
section To
variable {G : Gp} {S : AMem} {I : Nat → Nat → Int32} {J : Nat → Nat → Int64} {R : Nat → Nat → Option Nat} {t x c : Nat} {T : Toks} {s : PS}
theorem k_X7_numberOfTo {f0 : Int32} (hG : okG G) (h : RD S R x t) (hT : AbT I J t T) (hs : AbP I x T s) : Fn G mX7_numberOfTo 3 [vR x, vI f0] (mw S I J R) (fun rr M1 => rr = some (vI (pV T (pEx T 307 s)).toInt32) ∧ ∃ I1, M1 = mw S I1 J R ∧ AbP I1 x T (pTo T f0 s) ∧ OffR x I I1) := by
  obtain ⟨h1, hx, hr, hxt⟩ := id h
  unfold pTo
  refine am_aload_n (q := 1) dX7_numberOfTo_0 rfl rfl ?_
  refine am_sipush (q := 4) (v := 307) dX7_numberOfTo_1 kc_s307 rfl ?_
  refine cm_call0 (q := 7) (As := [_]) hG dX7_numberOfTo_4 mlX7_53 rfl (by assumption) ⟨_, _, rfl⟩ (Nat.le_of_ble_eq_true rfl) (Nat.le_of_ble_eq_true rfl) (Nat.le_of_ble_eq_true rfl) (Nat.le_of_ble_eq_true rfl) (kx_expect hG h hT hs (by decide)) rfl ?_
  rintro _ _ ⟨rfl, I0, rfl, hp0, ho0⟩
  generalize pEx T 307 s = s0 at hp0 ⊢
  have hT0 := hT.off ho0 hxt
  refine am_aload_n (q := 8) dX7_numberOfTo_7 rfl rfl ?_
  refine cm_call0 (q := 11) (As := []) hG dX7_numberOfTo_8 mlX7_57 rfl (by assumption) ⟨_, _, rfl⟩ (Nat.le_of_ble_eq_true rfl) (Nat.le_of_ble_eq_true rfl) (Nat.le_of_ble_eq_true rfl) (Nat.le_of_ble_eq_true rfl) (kx_value hG h hT0 hp0) rfl ?_
  rintro _ _ ⟨rfl, rfl⟩
  refine am_lstore_n (q := 12) (ls1 := [_, _, _, _]) dX7_numberOfTo_11 (Nat.le_of_ble_eq_true rfl) rfl rfl ?_
  generalize pV T s0 = v
  have fin : ∀ (I1 : Nat → Nat → Int32) (s1 : PS), AbP I1 x T s1 → OffR x I I1 → MW G mX7_numberOfTo 3 58 [some (vR x), some (vI f0), some (vJ v), none] [] (mw S I1 J R) (fun f M1 => ∃ r, f = .inl r ∧ (r = some (vI v.toInt32) ∧ ∃ I1, M1 = mw S I1 J R ∧ AbP I1 x T (pEx T 259 s1) ∧ OffR x I I1)) := by
    intro I1 s1 q1 q2
    refine am_aload_n (q := 59) dX7_numberOfTo_58 rfl rfl ?_
    refine am_sipush (q := 62) (v := 259) dX7_numberOfTo_59 kc_s259 rfl ?_
    refine cm_call0 (q := 65) (As := [_]) hG dX7_numberOfTo_62 mlX7_53 rfl (by assumption) ⟨_, _, rfl⟩ (Nat.le_of_ble_eq_true rfl) (Nat.le_of_ble_eq_true rfl) (Nat.le_of_ble_eq_true rfl) (Nat.le_of_ble_eq_true rfl) (kx_expect hG h (hT.off q2 hxt) q1 (by decide)) rfl ?_
    rintro _ _ ⟨rfl, I2, rfl, hp, ho⟩
    refine am_lload_n (q := 66) dX7_numberOfTo_65 rfl rfl ?_
    refine am_l2i (q := 67) dX7_numberOfTo_66 rfl ?_
    exact am_iret dX7_numberOfTo_67 rfl rfl ⟨_, rfl, rfl, I2, rfl, hp, q2.tr ho⟩
  have mid : ∀ (I1 : Nat → Nat → Int32) (s1 : PS), AbP I1 x T s1 → OffR x I I1 → MW G mX7_numberOfTo 3 35 [some (vR x), some (vI f0), some (vJ v), none] [] (mw S I1 J R) (fun f M1 => ∃ r, f = .inl r ∧ (r = some (vI v.toInt32) ∧ ∃ I1, M1 = mw S I1 J R ∧ AbP I1 x T (pEx T 259 (pT2 T v f0 s1)) ∧ OffR x I I1)) := by
    intro I1 s1 q1 q2
    have hT1 := hT.off q2 hxt
    unfold pT2
    refine am_aload_n (q := 36) dX7_numberOfTo_35 rfl rfl ?_
    refine cm_call0 (q := 39) (As := []) hG dX7_numberOfTo_36 mlX7_31 rfl (by assumption) ⟨_, _, rfl⟩ (Nat.le_of_ble_eq_true rfl) (Nat.le_of_ble_eq_true rfl) (Nat.le_of_ble_eq_true rfl) (Nat.le_of_ble_eq_true rfl) (kx_kind hG h hT1 q1) rfl ?_
    rintro _ _ ⟨rfl, rfl⟩
    refine am_sipush (q := 42) (v := 259) dX7_numberOfTo_39 kc_s259 rfl ?_
    refine am_icmp_ne (tgt := 58) (q := 45) dX7_numberOfTo_42 rfl rfl (fun hc => ?_) (fun hc => ?_)
    · rw [if_neg (fun q => hc q.1)]
      exact fin I1 s1 q1 q2
    · refine am_lload_n (q := 46) dX7_numberOfTo_45 rfl rfl ?_
      refine am_iload_n (q := 47) dX7_numberOfTo_46 rfl rfl ?_
      refine am_i2l (q := 48) dX7_numberOfTo_47 rfl ?_
      refine am_lcmp (q := 49) dX7_numberOfTo_48 rfl ?_
      refine am_if_ge (tgt := 58) (q := 52) dX7_numberOfTo_49 rfl rfl (fun hc2 => ?_) (fun hc2 => ?_)
      · rw [if_neg (fun q => absurd q.2 (Int64.not_lt.mpr ((lg_cmp_ge _ _).mp hc2)))]
        exact fin I1 s1 q1 q2
      · rw [if_pos ⟨hc, Int64.not_le.mp fun q => hc2 ((lg_cmp_ge _ _).mpr q)⟩]
        refine am_aload_n (q := 53) dX7_numberOfTo_52 rfl rfl ?_
        refine am_bipush (q := 55) (v := 6) dX7_numberOfTo_53 kc_b6 rfl ?_
        refine cm_call0 (q := 58) (As := [_]) hG dX7_numberOfTo_55 mlX7_87 rfl (by assumption) ⟨_, _, rfl⟩ (Nat.le_of_ble_eq_true rfl) (Nat.le_of_ble_eq_true rfl) (Nat.le_of_ble_eq_true rfl) (Nat.le_of_ble_eq_true rfl) (kx_blame hG h hT1 q1) rfl ?_
        rintro _ _ ⟨rfl, I2, rfl, hp, ho⟩
        exact fin I2 _ hp (q2.tr ho)
  have e : pT1 T v s0 = pT1 T v s0 := rfl
  conv at e => rhs; unfold pT1
  refine am_aload_n (q := 13) dX7_numberOfTo_12 rfl rfl ?_
  refine cm_call0 (q := 16) (As := []) hG dX7_numberOfTo_13 mlX7_31 rfl (by assumption) ⟨_, _, rfl⟩ (Nat.le_of_ble_eq_true rfl) (Nat.le_of_ble_eq_true rfl) (Nat.le_of_ble_eq_true rfl) (Nat.le_of_ble_eq_true rfl) (kx_kind hG h hT0 hp0) rfl ?_
  rintro _ _ ⟨rfl, rfl⟩
  refine am_sipush (q := 19) (v := 259) dX7_numberOfTo_16 kc_s259 rfl ?_
  refine am_icmp_ne (tgt := 35) (q := 22) dX7_numberOfTo_19 rfl rfl (fun hc => ?_) (fun hc => ?_)
  · rw [if_neg (fun q => hc q.1)] at e
    rw [e]
    exact mid I0 s0 hp0 ho0
  · refine am_lload_n (q := 23) dX7_numberOfTo_22 rfl rfl ?_
    refine am_ldcJ (q := 26) (v := 99) dX7_numberOfTo_23 (tbc1 214 rfl rfl) rfl ?_
    refine am_lcmp (q := 27) dX7_numberOfTo_26 rfl ?_
    refine am_if_le (tgt := 35) (q := 30) dX7_numberOfTo_27 rfl rfl (fun hc2 => ?_) (fun hc2 => ?_)
    · rw [if_neg (fun q => absurd q.2 (Int64.not_lt.mpr ((lg_cmp_le _ _).mp hc2)))] at e
      rw [e]
      exact mid I0 s0 hp0 ho0
    · rw [if_pos ⟨hc, Int64.not_le.mp fun q => hc2 ((lg_cmp_le _ _).mpr q)⟩] at e
      rw [e]
      refine am_aload_n (q := 31) dX7_numberOfTo_30 rfl rfl ?_
      refine am_iconst (q := 32) (v := 5) dX7_numberOfTo_31 kc_i5 rfl ?_
      refine cm_call0 (q := 35) (As := [_]) hG dX7_numberOfTo_32 mlX7_87 rfl (by assumption) ⟨_, _, rfl⟩ (Nat.le_of_ble_eq_true rfl) (Nat.le_of_ble_eq_true rfl) (Nat.le_of_ble_eq_true rfl) (Nat.le_of_ble_eq_true rfl) (kx_blame hG h hT0 hp0) rfl ?_
      rintro _ _ ⟨rfl, I1, rfl, hp, ho⟩
      exact mid I1 _ hp (ho0.tr ho)
end To

