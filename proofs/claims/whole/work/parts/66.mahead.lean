theorem dX14_advise_0 : decode cX14_advise 0 = .ok (.aload_n 0, 1) := by decide +kernel
theorem dX14_advise_1 : decode cX14_advise 1 = .ok (.iconst 0, 1) := by decide +kernel
theorem dX14_advise_2 : decode cX14_advise 2 = .ok (.putfield 58, 3) := by decide +kernel
theorem dX14_advise_5 : decode cX14_advise 5 = .ok (.aload_n 0, 1) := by decide +kernel
theorem dX14_advise_6 : decode cX14_advise 6 = .ok (.iload_n 1, 1) := by decide +kernel
theorem dX14_advise_7 : decode cX14_advise 7 = .ok (.invokevirtual 369, 3) := by decide +kernel
theorem dX14_advise_10 : decode cX14_advise 10 = .ok (.ifCond .ne 9, 3) := by decide +kernel
theorem dX14_advise_13 : decode cX14_advise 13 = .ok (.aload_n 0, 1) := by decide +kernel
theorem dX14_advise_14 : decode cX14_advise 14 = .ok (.iconst 1, 1) := by decide +kernel
theorem dX14_advise_15 : decode cX14_advise 15 = .ok (.invokevirtual 64, 3) := by decide +kernel
theorem dX14_advise_18 : decode cX14_advise 18 = .ok (.ireturn, 1) := by decide +kernel
theorem dX14_advise_19 : decode cX14_advise 19 = .ok (.iload_n 2, 1) := by decide +kernel
theorem dX14_advise_20 : decode cX14_advise 20 = .ok (.iconst 1, 1) := by decide +kernel
theorem dX14_advise_21 : decode cX14_advise 21 = .ok (.iconst 4, 1) := by decide +kernel
theorem dX14_advise_22 : decode cX14_advise 22 = .ok (.invokestatic 72, 3) := by decide +kernel
theorem dX14_advise_25 : decode cX14_advise 25 = .ok (.ifCond .ne 9, 3) := by decide +kernel
theorem dX14_advise_28 : decode cX14_advise 28 = .ok (.aload_n 0, 1) := by decide +kernel
theorem dX14_advise_29 : decode cX14_advise 29 = .ok (.iconst 2, 1) := by decide +kernel
theorem dX14_advise_30 : decode cX14_advise 30 = .ok (.invokevirtual 64, 3) := by decide +kernel
theorem dX14_advise_33 : decode cX14_advise 33 = .ok (.ireturn, 1) := by decide +kernel
theorem dX14_advise_34 : decode cX14_advise 34 = .ok (.iconst 0, 1) := by decide +kernel
theorem dX14_advise_35 : decode cX14_advise 35 = .ok (.istore_n 3, 1) := by decide +kernel
theorem dX14_advise_36 : decode cX14_advise 36 = .ok (.aload_n 0, 1) := by decide +kernel
theorem dX14_advise_37 : decode cX14_advise 37 = .ok (.iload_n 1, 1) := by decide +kernel
theorem dX14_advise_38 : decode cX14_advise 38 = .ok (.iconst 0, 1) := by decide +kernel
theorem dX14_advise_39 : decode cX14_advise 39 = .ok (.iload_n 2, 1) := by decide +kernel
theorem dX14_advise_40 : decode cX14_advise 40 = .ok (.invokevirtual 399, 3) := by decide +kernel
theorem dX14_advise_43 : decode cX14_advise 43 = .ok (.istore 4, 2) := by decide +kernel
theorem dX14_advise_45 : decode cX14_advise 45 = .ok (.iconst 1, 1) := by decide +kernel
theorem dX14_advise_46 : decode cX14_advise 46 = .ok (.istore 5, 2) := by decide +kernel
theorem dX14_advise_48 : decode cX14_advise 48 = .ok (.iload 5, 2) := by decide +kernel
theorem dX14_advise_50 : decode cX14_advise 50 = .ok (.bipush 20, 2) := by decide +kernel
theorem dX14_advise_52 : decode cX14_advise 52 = .ok (.if_icmp .gt 36, 3) := by decide +kernel
theorem dX14_advise_55 : decode cX14_advise 55 = .ok (.aload_n 0, 1) := by decide +kernel
theorem dX14_advise_56 : decode cX14_advise 56 = .ok (.iload_n 1, 1) := by decide +kernel
theorem dX14_advise_57 : decode cX14_advise 57 = .ok (.iload 5, 2) := by decide +kernel
theorem dX14_advise_59 : decode cX14_advise 59 = .ok (.iload_n 2, 1) := by decide +kernel
theorem dX14_advise_60 : decode cX14_advise 60 = .ok (.invokevirtual 399, 3) := by decide +kernel
theorem dX14_advise_63 : decode cX14_advise 63 = .ok (.istore 6, 2) := by decide +kernel
theorem dX14_advise_65 : decode cX14_advise 65 = .ok (.iload 6, 2) := by decide +kernel
theorem dX14_advise_67 : decode cX14_advise 67 = .ok (.iload 4, 2) := by decide +kernel
theorem dX14_advise_69 : decode cX14_advise 69 = .ok (.if_icmp .lt 6, 3) := by decide +kernel
theorem dX14_advise_72 : decode cX14_advise 72 = .ok (.goto 10, 3) := by decide +kernel
theorem dX14_advise_75 : decode cX14_advise 75 = .ok (.iload 5, 2) := by decide +kernel
theorem dX14_advise_77 : decode cX14_advise 77 = .ok (.istore_n 3, 1) := by decide +kernel
theorem dX14_advise_78 : decode cX14_advise 78 = .ok (.iload 6, 2) := by decide +kernel
theorem dX14_advise_80 : decode cX14_advise 80 = .ok (.istore 4, 2) := by decide +kernel
theorem dX14_advise_82 : decode cX14_advise 82 = .ok (.iinc 5 1, 3) := by decide +kernel
theorem dX14_advise_85 : decode cX14_advise 85 = .ok (.goto (-37), 3) := by decide +kernel
theorem dX14_advise_88 : decode cX14_advise 88 = .ok (.iload_n 3, 1) := by decide +kernel
theorem dX14_advise_89 : decode cX14_advise 89 = .ok (.ireturn, 1) := by decide +kernel
theorem dX14_foresee_0 : decode cX14_foresee 0 = .ok (.aload_n 0, 1) := by decide +kernel
theorem dX14_foresee_1 : decode cX14_foresee 1 = .ok (.iconst 0, 1) := by decide +kernel
theorem dX14_foresee_2 : decode cX14_foresee 2 = .ok (.putfield 58, 3) := by decide +kernel
theorem dX14_foresee_5 : decode cX14_foresee 5 = .ok (.iload_n 1, 1) := by decide +kernel
theorem dX14_foresee_6 : decode cX14_foresee 6 = .ok (.iconst 1, 1) := by decide +kernel
theorem dX14_foresee_7 : decode cX14_foresee 7 = .ok (.bipush 30, 2) := by decide +kernel
theorem dX14_foresee_9 : decode cX14_foresee 9 = .ok (.invokestatic 72, 3) := by decide +kernel
theorem dX14_foresee_12 : decode cX14_foresee 12 = .ok (.ifCond .ne 9, 3) := by decide +kernel
theorem dX14_foresee_15 : decode cX14_foresee 15 = .ok (.aload_n 0, 1) := by decide +kernel
theorem dX14_foresee_16 : decode cX14_foresee 16 = .ok (.iconst 1, 1) := by decide +kernel
theorem dX14_foresee_17 : decode cX14_foresee 17 = .ok (.invokevirtual 64, 3) := by decide +kernel
theorem dX14_foresee_20 : decode cX14_foresee 20 = .ok (.ireturn, 1) := by decide +kernel
theorem dX14_foresee_21 : decode cX14_foresee 21 = .ok (.iload_n 2, 1) := by decide +kernel
theorem dX14_foresee_22 : decode cX14_foresee 22 = .ok (.iconst 0, 1) := by decide +kernel
theorem dX14_foresee_23 : decode cX14_foresee 23 = .ok (.iconst 3, 1) := by decide +kernel
theorem dX14_foresee_24 : decode cX14_foresee 24 = .ok (.invokestatic 72, 3) := by decide +kernel
theorem dX14_foresee_27 : decode cX14_foresee 27 = .ok (.ifCond .ne 9, 3) := by decide +kernel
theorem dX14_foresee_30 : decode cX14_foresee 30 = .ok (.aload_n 0, 1) := by decide +kernel
theorem dX14_foresee_31 : decode cX14_foresee 31 = .ok (.iconst 2, 1) := by decide +kernel
theorem dX14_foresee_32 : decode cX14_foresee 32 = .ok (.invokevirtual 64, 3) := by decide +kernel
theorem dX14_foresee_35 : decode cX14_foresee 35 = .ok (.ireturn, 1) := by decide +kernel
theorem dX14_foresee_36 : decode cX14_foresee 36 = .ok (.aload_n 0, 1) := by decide +kernel
theorem dX14_foresee_37 : decode cX14_foresee 37 = .ok (.getfield 55, 3) := by decide +kernel
theorem dX14_foresee_40 : decode cX14_foresee 40 = .ok (.aload_n 0, 1) := by decide +kernel
theorem dX14_foresee_41 : decode cX14_foresee 41 = .ok (.getfield 51, 3) := by decide +kernel
theorem dX14_foresee_44 : decode cX14_foresee 44 = .ok (.invokevirtual 396, 3) := by decide +kernel
theorem dX14_foresee_47 : decode cX14_foresee 47 = .ok (.aload_n 0, 1) := by decide +kernel
theorem dX14_foresee_48 : decode cX14_foresee 48 = .ok (.aload_n 0, 1) := by decide +kernel
theorem dX14_foresee_49 : decode cX14_foresee 49 = .ok (.getfield 55, 3) := by decide +kernel
theorem dX14_foresee_52 : decode cX14_foresee 52 = .ok (.iload_n 1, 1) := by decide +kernel
theorem dX14_foresee_53 : decode cX14_foresee 53 = .ok (.invokevirtual 393, 3) := by decide +kernel
theorem dX14_foresee_56 : decode cX14_foresee 56 = .ok (.iload_n 2, 1) := by decide +kernel
theorem dX14_foresee_57 : decode cX14_foresee 57 = .ok (.ifCond .ne 23, 3) := by decide +kernel
theorem dX14_foresee_60 : decode cX14_foresee 60 = .ok (.aload_n 0, 1) := by decide +kernel
theorem dX14_foresee_61 : decode cX14_foresee 61 = .ok (.aload_n 0, 1) := by decide +kernel
theorem dX14_foresee_62 : decode cX14_foresee 62 = .ok (.getfield 55, 3) := by decide +kernel
theorem dX14_foresee_65 : decode cX14_foresee 65 = .ok (.invokevirtual 390, 3) := by decide +kernel
theorem dX14_foresee_68 : decode cX14_foresee 68 = .ok (.aload_n 0, 1) := by decide +kernel
theorem dX14_foresee_69 : decode cX14_foresee 69 = .ok (.aload_n 0, 1) := by decide +kernel
theorem dX14_foresee_70 : decode cX14_foresee 70 = .ok (.getfield 51, 3) := by decide +kernel
theorem dX14_foresee_73 : decode cX14_foresee 73 = .ok (.invokevirtual 390, 3) := by decide +kernel
theorem dX14_foresee_76 : decode cX14_foresee 76 = .ok (.isub, 1) := by decide +kernel
theorem dX14_foresee_77 : decode cX14_foresee 77 = .ok (.goto 57, 3) := by decide +kernel
theorem dX14_foresee_80 : decode cX14_foresee 80 = .ok (.iload_n 2, 1) := by decide +kernel
theorem dX14_foresee_81 : decode cX14_foresee 81 = .ok (.iconst 1, 1) := by decide +kernel
theorem dX14_foresee_82 : decode cX14_foresee 82 = .ok (.if_icmp .ne 14, 3) := by decide +kernel
theorem dX14_foresee_85 : decode cX14_foresee 85 = .ok (.aload_n 0, 1) := by decide +kernel
theorem dX14_foresee_86 : decode cX14_foresee 86 = .ok (.aload_n 0, 1) := by decide +kernel
theorem dX14_foresee_87 : decode cX14_foresee 87 = .ok (.getfield 55, 3) := by decide +kernel
theorem dX14_foresee_90 : decode cX14_foresee 90 = .ok (.invokevirtual 362, 3) := by decide +kernel
theorem dX14_foresee_93 : decode cX14_foresee 93 = .ok (.goto 41, 3) := by decide +kernel
theorem dX14_foresee_96 : decode cX14_foresee 96 = .ok (.iload_n 2, 1) := by decide +kernel
theorem dX14_foresee_97 : decode cX14_foresee 97 = .ok (.iconst 2, 1) := by decide +kernel
theorem dX14_foresee_98 : decode cX14_foresee 98 = .ok (.if_icmp .ne 21, 3) := by decide +kernel
theorem dX14_foresee_101 : decode cX14_foresee 101 = .ok (.aload_n 0, 1) := by decide +kernel
theorem dX14_foresee_102 : decode cX14_foresee 102 = .ok (.getfield 55, 3) := by decide +kernel
theorem dX14_foresee_105 : decode cX14_foresee 105 = .ok (.getfield 330, 3) := by decide +kernel
theorem dX14_foresee_108 : decode cX14_foresee 108 = .ok (.aload_n 0, 1) := by decide +kernel
theorem dX14_foresee_109 : decode cX14_foresee 109 = .ok (.getfield 51, 3) := by decide +kernel
theorem dX14_foresee_112 : decode cX14_foresee 112 = .ok (.getfield 330, 3) := by decide +kernel
theorem dX14_foresee_115 : decode cX14_foresee 115 = .ok (.isub, 1) := by decide +kernel
theorem dX14_foresee_116 : decode cX14_foresee 116 = .ok (.goto 18, 3) := by decide +kernel
theorem dX14_foresee_119 : decode cX14_foresee 119 = .ok (.aload_n 0, 1) := by decide +kernel
theorem dX14_foresee_120 : decode cX14_foresee 120 = .ok (.getfield 55, 3) := by decide +kernel
theorem dX14_foresee_123 : decode cX14_foresee 123 = .ok (.getfield 327, 3) := by decide +kernel
theorem dX14_foresee_126 : decode cX14_foresee 126 = .ok (.aload_n 0, 1) := by decide +kernel
theorem dX14_foresee_127 : decode cX14_foresee 127 = .ok (.getfield 51, 3) := by decide +kernel
theorem dX14_foresee_130 : decode cX14_foresee 130 = .ok (.getfield 327, 3) := by decide +kernel
theorem dX14_foresee_133 : decode cX14_foresee 133 = .ok (.isub, 1) := by decide +kernel
theorem dX14_foresee_134 : decode cX14_foresee 134 = .ok (.ireturn, 1) := by decide +kernel
theorem dX14_pursesWith_0 : decode cX14_pursesWith 0 = .ok (.aload_n 0, 1) := by decide +kernel
theorem dX14_pursesWith_1 : decode cX14_pursesWith 1 = .ok (.getfield 55, 3) := by decide +kernel
theorem dX14_pursesWith_4 : decode cX14_pursesWith 4 = .ok (.aload_n 0, 1) := by decide +kernel
theorem dX14_pursesWith_5 : decode cX14_pursesWith 5 = .ok (.getfield 51, 3) := by decide +kernel
theorem dX14_pursesWith_8 : decode cX14_pursesWith 8 = .ok (.invokevirtual 396, 3) := by decide +kernel
theorem dX14_pursesWith_11 : decode cX14_pursesWith 11 = .ok (.aload_n 0, 1) := by decide +kernel
theorem dX14_pursesWith_12 : decode cX14_pursesWith 12 = .ok (.getfield 55, 3) := by decide +kernel
theorem dX14_pursesWith_15 : decode cX14_pursesWith 15 = .ok (.getfield 284, 3) := by decide +kernel
theorem dX14_pursesWith_18 : decode cX14_pursesWith 18 = .ok (.iconst 3, 1) := by decide +kernel
theorem dX14_pursesWith_19 : decode cX14_pursesWith 19 = .ok (.iload_n 1, 1) := by decide +kernel
theorem dX14_pursesWith_20 : decode cX14_pursesWith 20 = .ok (.imul, 1) := by decide +kernel
theorem dX14_pursesWith_21 : decode cX14_pursesWith 21 = .ok (.iload_n 2, 1) := by decide +kernel
theorem dX14_pursesWith_22 : decode cX14_pursesWith 22 = .ok (.iastore, 1) := by decide +kernel
theorem dX14_pursesWith_23 : decode cX14_pursesWith 23 = .ok (.aload_n 0, 1) := by decide +kernel
theorem dX14_pursesWith_24 : decode cX14_pursesWith 24 = .ok (.aload_n 0, 1) := by decide +kernel
theorem dX14_pursesWith_25 : decode cX14_pursesWith 25 = .ok (.getfield 55, 3) := by decide +kernel
theorem dX14_pursesWith_28 : decode cX14_pursesWith 28 = .ok (.iload_n 3, 1) := by decide +kernel
theorem dX14_pursesWith_29 : decode cX14_pursesWith 29 = .ok (.invokevirtual 393, 3) := by decide +kernel
theorem dX14_pursesWith_32 : decode cX14_pursesWith 32 = .ok (.aload_n 0, 1) := by decide +kernel
theorem dX14_pursesWith_33 : decode cX14_pursesWith 33 = .ok (.aload_n 0, 1) := by decide +kernel
theorem dX14_pursesWith_34 : decode cX14_pursesWith 34 = .ok (.getfield 55, 3) := by decide +kernel
theorem dX14_pursesWith_37 : decode cX14_pursesWith 37 = .ok (.invokevirtual 362, 3) := by decide +kernel
theorem dX14_pursesWith_40 : decode cX14_pursesWith 40 = .ok (.ireturn, 1) := by decide +kernel
/-! the reference foresees and advises; it is fed -/
section Ma
variable {G : Gp} {S : AMem} {I I1 : Nat → Nat → Int32} {J : Nat → Nat → Int64} {R : Nat → Nat → Option Nat} {y bl nx : Nat} {s : XS}
theorem k_X14_foresee {n w : Int32} (hG : okG G) (h : YW S y s I R) : Fn G mX14_foresee 406 [vR y, vI n, vI w] (mw S I J R) (YR S y I J R (if 1 ≤ n ∧ n ≤ 30 then (if 0 ≤ w ∧ w ≤ 3 then (vI (fseM s.B s.m (plyM s.B n.toNatClampNeg s.m) w), s, 0) else (vI 0, s, 2)) else (vI 0, s, 1))) := by
  obtain ⟨bl, nx, hC, hA⟩ := h
  obtain ⟨p1, p2, p3, p4, p5⟩ := hC.lo
  have ky := hC.1.1
  have rs := hC.2.2.1
  have ra := hC.2.2.2.1
  have kz := hC.2.2.2.2.1.1
  have ka := hC.2.2.2.2.2.1.1
  have hA0 : AbY (up2 I y 0 0) y bl s := hA.clr hC
  have hB := hA0.2.2.1
  refine am_aload_n (q := 1) dX14_foresee_0 rfl rfl ?_
  refine am_iconst (q := 2) (v := 0) dX14_foresee_1 kc_i0 rfl ?_
  refine cm_putI (q := 5) dX14_foresee_2 flX14_58 rfl (Or.inl rfl) (Or.inl rfl) (by assumption) rfl ?_
  refine am_iload_n (q := 6) dX14_foresee_5 rfl rfl ?_
  refine am_iconst (q := 7) (v := 1) dX14_foresee_6 kc_i1 rfl ?_
  refine am_bipush (q := 9) (v := 30) dX14_foresee_7 kc_b30 rfl ?_
  refine am_call1 (q := 12) (As := [_, _, _]) hG dX14_foresee_9 mlX14_72 rfl (Nat.le_of_ble_eq_true rfl) (Nat.le_of_ble_eq_true rfl) (Nat.le_of_ble_eq_true rfl) k_X14_isIn rfl ?_
  rintro _ _ ⟨rfl, rfl⟩
  refine am_if_ne (tgt := 21) (q := 15) dX14_foresee_12 rfl rfl (fun h1 => ?_) (fun h1 => ?_)
  · have h3 := bI_n0.mp h1
    rw [if_pos h3]
    refine am_iload_n (q := 22) dX14_foresee_21 rfl rfl ?_
    refine am_iconst (q := 23) (v := 0) dX14_foresee_22 kc_i0 rfl ?_
    refine am_iconst (q := 24) (v := 3) dX14_foresee_23 kc_i3 rfl ?_
    refine am_call1 (q := 27) (As := [_, _, _]) hG dX14_foresee_24 mlX14_72 rfl (Nat.le_of_ble_eq_true rfl) (Nat.le_of_ble_eq_true rfl) (Nat.le_of_ble_eq_true rfl) k_X14_isIn rfl ?_
    rintro _ _ ⟨rfl, rfl⟩
    refine am_if_ne (tgt := 36) (q := 30) dX14_foresee_27 rfl rfl (fun h2 => ?_) (fun h2 => ?_)
    · have h4 := bI_n0.mp h2
      rw [if_pos h4]
      obtain ⟨j, hj, rfl⟩ := k_idx2 (v := 30) (n := 30) rfl (by decide) (fun q => Int32.lt_irrefl (Int32.lt_of_lt_of_le q (Int32.le_trans (by decide : (0 : Int32) ≤ 1) h3.1))) h3.2
      obtain ⟨v, hv, rfl⟩ := k_idx2 (v := 3) (n := 3) rfl (by decide) (Int32.not_lt.mpr h4.1) h4.2
      rw [nI_clamp (show j < 2 ^ 31 by omega)]
      refine am_aload_n (q := 37) dX14_foresee_36 rfl rfl ?_
      refine cm_getR (q := 40) dX14_foresee_37 flX14_55 rfl (by assumption) (by assumption) rfl ?_
      refine am_aload_n (q := 41) dX14_foresee_40 rfl rfl ?_
      refine cm_getR (q := 44) dX14_foresee_41 flX14_51 rfl (by assumption) (by assumption) rfl ?_
      refine cm_call0 (q := 47) (As := [_]) hG dX14_foresee_44 mlX14_396 rfl (by assumption) ⟨_, _, rfl⟩ (Nat.le_of_ble_eq_true rfl) (Nat.le_of_ble_eq_true rfl) (Nat.le_of_ble_eq_true rfl) (Nat.le_of_ble_eq_true rfl) (k_X13_become hG hC.2.2.2.2.2.1 hC.2.2.2.2.1 hA0.2.2.2.1 (Or.inr (by omega)) hB.1.1.2 hB.1.2.1.2 hB.1.2.2.1.2 hB.1.2.2.2.2) rfl ?_
      rintro _ _ ⟨rfl, I2, rfl, s2, f2⟩
      have hB2 : RB I2 bl s.B s.m := hB.st (fun x j p q => f2 x j (by omega)) Sst.rf
      refine am_aload_n (q := 48) dX14_foresee_47 rfl rfl ?_
      refine am_aload_n (q := 49) dX14_foresee_48 rfl rfl ?_
      refine cm_getR (q := 52) dX14_foresee_49 flX14_55 rfl (by assumption) (by assumption) rfl ?_
      refine am_iload_n (q := 53) dX14_foresee_52 rfl rfl ?_
      refine cm_call0 (q := 56) (As := [_, _]) hG dX14_foresee_53 mlX14_393 rfl (by assumption) ⟨_, _, rfl⟩ (Nat.le_of_ble_eq_true rfl) (Nat.le_of_ble_eq_true rfl) (Nat.le_of_ble_eq_true rfl) (Nat.le_of_ble_eq_true rfl) (k_X14_rounds hG hC.1 hC.2.2.2.2.2.1 hB2 s2 (by omega) (by omega)) rfl ?_
      rintro _ _ ⟨rfl, I3, rfl, s3, b3, f3⟩
      have fr : ∀ x j, (x < y + 33 ∨ y + 39 ≤ x) → (x ≠ y ∨ j = 2 ∨ j = 3) → I3 x j = I x j := fun x j p q => by rw [f3 x j (by omega) (by omega), f2 x j (by omega), up2_at, if_neg (by omega)]
      have t0 : I3 y 0 = 0 := by rw [f3 y 0 (by omega) (by omega), f2 y 0 (by omega)]; exact up2_s
      have hA3 : AbY I3 y bl s := hA.own hC fr
      have fin : ∀ z : Int32, YR S y I J R (vI z, s, 0) (some (vI z)) (mw S I3 J R) := fun z => YQ.own hC hA fr t0
      have e1 : I3 (y + 33) 2 = (plyM s.B j s.m).g 4 := s3.1.2.2.1
      have e2 : I3 (y + 27) 2 = s.m.g 4 := hA3.2.2.2.1.1.2.2.1
      have e3 : I3 (y + 33) 1 = (plyM s.B j s.m).g 3 := s3.1.2.1
      have e4 : I3 (y + 27) 1 = s.m.g 3 := hA3.2.2.2.1.1.2.1
      rcases k_c4 hv with rfl | rfl | rfl | rfl
      · refine am_iload_n (q := 57) dX14_foresee_56 rfl rfl ?_
        refine am_if_ne (tgt := 80) (q := 60) dX14_foresee_57 rfl rfl (fun hz => absurd rfl hz) (fun _ => ?_)
        refine am_aload_n (q := 61) dX14_foresee_60 rfl rfl ?_
        refine am_aload_n (q := 62) dX14_foresee_61 rfl rfl ?_
        refine cm_getR (q := 65) dX14_foresee_62 flX14_55 rfl (by assumption) (by assumption) rfl ?_
        refine cm_call0 (q := 68) (As := [_]) hG dX14_foresee_65 mlX14_390 rfl (by assumption) ⟨_, _, rfl⟩ (Nat.le_of_ble_eq_true rfl) (Nat.le_of_ble_eq_true rfl) (Nat.le_of_ble_eq_true rfl) (Nat.le_of_ble_eq_true rfl) (k_X14_given hC.1 hC.2.2.2.2.2.1 b3 s3) rfl ?_
        rintro _ _ ⟨rfl, rfl⟩
        refine am_aload_n (q := 69) dX14_foresee_68 rfl rfl ?_
        refine am_aload_n (q := 70) dX14_foresee_69 rfl rfl ?_
        refine cm_getR (q := 73) dX14_foresee_70 flX14_51 rfl (by assumption) (by assumption) rfl ?_
        refine cm_call0 (q := 76) (As := [_]) hG dX14_foresee_73 mlX14_390 rfl (by assumption) ⟨_, _, rfl⟩ (Nat.le_of_ble_eq_true rfl) (Nat.le_of_ble_eq_true rfl) (Nat.le_of_ble_eq_true rfl) (Nat.le_of_ble_eq_true rfl) (k_X14_given hC.1 hC.2.2.2.2.1 b3 hA3.2.2.2.1) rfl ?_
        rintro _ _ ⟨rfl, rfl⟩
        refine am_isub (q := 77) dX14_foresee_76 rfl ?_
        refine am_goto (tgt := 134) dX14_foresee_77 rfl ?_
        exact am_iret dX14_foresee_134 rfl rfl ⟨_, rfl, (fin _)⟩
      · refine am_iload_n (q := 57) dX14_foresee_56 rfl rfl ?_
        refine am_if_ne (tgt := 80) (q := 60) dX14_foresee_57 rfl rfl (fun _ => ?_) (fun hz => absurd hz (by decide))
        refine am_iload_n (q := 81) dX14_foresee_80 rfl rfl ?_
        refine am_iconst (q := 82) (v := 1) dX14_foresee_81 kc_i1 rfl ?_
        refine am_icmp_ne (tgt := 96) (q := 85) dX14_foresee_82 rfl rfl (fun hz => absurd rfl hz) (fun _ => ?_)
        refine am_aload_n (q := 86) dX14_foresee_85 rfl rfl ?_
        refine am_aload_n (q := 87) dX14_foresee_86 rfl rfl ?_
        refine cm_getR (q := 90) dX14_foresee_87 flX14_55 rfl (by assumption) (by assumption) rfl ?_
        refine cm_call0 (q := 93) (As := [_]) hG dX14_foresee_90 mlX14_362 rfl (by assumption) ⟨_, _, rfl⟩ (Nat.le_of_ble_eq_true rfl) (Nat.le_of_ble_eq_true rfl) (Nat.le_of_ble_eq_true rfl) (Nat.le_of_ble_eq_true rfl) (k_X14_purses hC.1 hC.2.2.2.2.2.1 b3 s3) rfl ?_
        rintro _ _ ⟨rfl, rfl⟩
        refine am_goto (tgt := 134) dX14_foresee_93 rfl ?_
        exact am_iret dX14_foresee_134 rfl rfl ⟨_, rfl, (fin _)⟩
      · refine am_iload_n (q := 57) dX14_foresee_56 rfl rfl ?_
        refine am_if_ne (tgt := 80) (q := 60) dX14_foresee_57 rfl rfl (fun _ => ?_) (fun hz => absurd hz (by decide))
        refine am_iload_n (q := 81) dX14_foresee_80 rfl rfl ?_
        refine am_iconst (q := 82) (v := 1) dX14_foresee_81 kc_i1 rfl ?_
        refine am_icmp_ne (tgt := 96) (q := 85) dX14_foresee_82 rfl rfl (fun _ => ?_) (fun hz => absurd hz (by decide))
        refine am_iload_n (q := 97) dX14_foresee_96 rfl rfl ?_
        refine am_iconst (q := 98) (v := 2) dX14_foresee_97 kc_i2 rfl ?_
        refine am_icmp_ne (tgt := 119) (q := 101) dX14_foresee_98 rfl rfl (fun hz => absurd rfl hz) (fun _ => ?_)
        refine am_aload_n (q := 102) dX14_foresee_101 rfl rfl ?_
        refine cm_getR (q := 105) dX14_foresee_102 flX14_55 rfl (by assumption) (by assumption) rfl ?_
        refine cm_getI (q := 108) dX14_foresee_105 flX14_330 rfl (by assumption) rfl ?_
        rw [e1]
        refine am_aload_n (q := 109) dX14_foresee_108 rfl rfl ?_
        refine cm_getR (q := 112) dX14_foresee_109 flX14_51 rfl (by assumption) (by assumption) rfl ?_
        refine cm_getI (q := 115) dX14_foresee_112 flX14_330 rfl (by assumption) rfl ?_
        rw [e2]
        refine am_isub (q := 116) dX14_foresee_115 rfl ?_
        refine am_goto (tgt := 134) dX14_foresee_116 rfl ?_
        exact am_iret dX14_foresee_134 rfl rfl ⟨_, rfl, (fin _)⟩
      · refine am_iload_n (q := 57) dX14_foresee_56 rfl rfl ?_
        refine am_if_ne (tgt := 80) (q := 60) dX14_foresee_57 rfl rfl (fun _ => ?_) (fun hz => absurd hz (by decide))
        refine am_iload_n (q := 81) dX14_foresee_80 rfl rfl ?_
        refine am_iconst (q := 82) (v := 1) dX14_foresee_81 kc_i1 rfl ?_
        refine am_icmp_ne (tgt := 96) (q := 85) dX14_foresee_82 rfl rfl (fun _ => ?_) (fun hz => absurd hz (by decide))
        refine am_iload_n (q := 97) dX14_foresee_96 rfl rfl ?_
        refine am_iconst (q := 98) (v := 2) dX14_foresee_97 kc_i2 rfl ?_
        refine am_icmp_ne (tgt := 119) (q := 101) dX14_foresee_98 rfl rfl (fun _ => ?_) (fun hz => absurd hz (by decide))
        refine am_aload_n (q := 120) dX14_foresee_119 rfl rfl ?_
        refine cm_getR (q := 123) dX14_foresee_120 flX14_55 rfl (by assumption) (by assumption) rfl ?_
        refine cm_getI (q := 126) dX14_foresee_123 flX14_327 rfl (by assumption) rfl ?_
        rw [e3]
        refine am_aload_n (q := 127) dX14_foresee_126 rfl rfl ?_
        refine cm_getR (q := 130) dX14_foresee_127 flX14_51 rfl (by assumption) (by assumption) rfl ?_
        refine cm_getI (q := 133) dX14_foresee_130 flX14_327 rfl (by assumption) rfl ?_
        rw [e4]
        refine am_isub (q := 134) dX14_foresee_133 rfl ?_
        exact am_iret dX14_foresee_134 rfl rfl ⟨_, rfl, (fin _)⟩
    · rw [if_neg (bI_e0.mp h2)]
      refine am_aload_n (q := 31) dX14_foresee_30 rfl rfl ?_
      refine am_iconst (q := 32) (v := 2) dX14_foresee_31 kc_i2 rfl ?_
      refine cm_call0 (q := 35) (As := [_]) hG dX14_foresee_32 mlX14_64 rfl (by assumption) ⟨_, _, rfl⟩ (Nat.le_of_ble_eq_true rfl) (Nat.le_of_ble_eq_true rfl) (Nat.le_of_ble_eq_true rfl) (Nat.le_of_ble_eq_true rfl) (k_X14_no ky) rfl ?_
      rintro _ _ ⟨rfl, rfl⟩
      exact am_iret dX14_foresee_35 rfl rfl ⟨_, rfl, (YQ.cl2 hC hA)⟩
  · rw [if_neg (bI_e0.mp h1)]
    refine am_aload_n (q := 16) dX14_foresee_15 rfl rfl ?_
    refine am_iconst (q := 17) (v := 1) dX14_foresee_16 kc_i1 rfl ?_
    refine cm_call0 (q := 20) (As := [_]) hG dX14_foresee_17 mlX14_64 rfl (by assumption) ⟨_, _, rfl⟩ (Nat.le_of_ble_eq_true rfl) (Nat.le_of_ble_eq_true rfl) (Nat.le_of_ble_eq_true rfl) (Nat.le_of_ble_eq_true rfl) (k_X14_no ky) rfl ?_
    rintro _ _ ⟨rfl, rfl⟩
    exact am_iret dX14_foresee_20 rfl rfl ⟨_, rfl, (YQ.cl2 hC hA)⟩
theorem k_X14_pursesWith {r n : Nat} {v : Int32} (hG : okG G) (hC : MCc S R y bl nx) (hA : AbY I y bl s) (hr : r < s.B.nR) (hn : n < 2 ^ 31) : Fn G mX14_pursesWith 406 [vR y, vI (nI r), vI v, vI (nI n)] (mw S I J R) (fun rr M1 => rr = some (vI (pursM s.B (plyM s.B n (wndM s.m r v)))) ∧ ∃ I1, M1 = mw S I1 J R ∧ ∀ x j, (x < y + 33 ∨ y + 39 ≤ x) → (x ≠ y ∨ j < 20 ∨ j = 23) → I1 x j = I x j) := by
  obtain ⟨p1, p2, p3, p4, p5⟩ := hC.lo
  have ky := hC.1.1
  have rs := hC.2.2.1
  have ra := hC.2.2.2.1
  have kz := hC.2.2.2.2.1.1
  obtain ⟨ka, z6, z7, z8, z9, z10, _, ⟨kz2, lz2⟩, _⟩ := id hC.2.2.2.2.2.1
  have hB := hA.2.2.1
  have uR := hB.1.1.2
  refine am_aload_n (q := 1) dX14_pursesWith_0 rfl rfl ?_
  refine cm_getR (q := 4) dX14_pursesWith_1 flX14_55 rfl (by assumption) (by assumption) rfl ?_
  refine am_aload_n (q := 5) dX14_pursesWith_4 rfl rfl ?_
  refine cm_getR (q := 8) dX14_pursesWith_5 flX14_51 rfl (by assumption) (by assumption) rfl ?_
  refine cm_call0 (q := 11) (As := [_]) hG dX14_pursesWith_8 mlX14_396 rfl (by assumption) ⟨_, _, rfl⟩ (Nat.le_of_ble_eq_true rfl) (Nat.le_of_ble_eq_true rfl) (Nat.le_of_ble_eq_true rfl) (Nat.le_of_ble_eq_true rfl) (k_X13_become hG hC.2.2.2.2.2.1 hC.2.2.2.2.1 hA.2.2.2.1 (Or.inr (by omega)) hB.1.1.2 hB.1.2.1.2 hB.1.2.2.1.2 hB.1.2.2.2.2) rfl ?_
  rintro _ _ ⟨rfl, I2, rfl, s2, f2⟩
  refine am_aload_n (q := 12) dX14_pursesWith_11 rfl rfl ?_
  refine cm_getR (q := 15) dX14_pursesWith_12 flX14_55 rfl (by assumption) (by assumption) rfl ?_
  refine cm_getR (q := 18) dX14_pursesWith_15 flX14_284 rfl (by assumption) (by assumption) rfl ?_
  refine am_iconst (q := 19) (v := 3) dX14_pursesWith_18 kc_i3 rfl ?_
  refine am_iload_n (q := 20) dX14_pursesWith_19 rfl rfl ?_
  refine am_imul (q := 21) dX14_pursesWith_20 rfl ?_
  rw [show (3 * nI r : Int32) = nI (3 * r) from k_mul 3 r]
  refine am_iload_n (q := 22) dX14_pursesWith_21 rfl rfl ?_
  refine cm_iastore (q := 23) dX14_pursesWith_22 (by assumption) (by rw [lz2]; exact vp_in_nI (by omega) (by decide)) rfl ?_
  rw [nI_clamp (show 3 * r < 2 ^ 31 by omega)]
  have s3 := s2.wnd (v := v) hr
  have f3 : ∀ x j, (x < y + 33 ∨ y + 39 ≤ x) → up2 I2 (y + 33 + 2) (3 * r) v x j = I x j := fun x j p => by rw [up2_at, if_neg (by omega)]; exact f2 x j (by omega)
  generalize up2 I2 (y + 33 + 2) (3 * r) v = I3 at s3 f3 ⊢
  have hB3 : RB I3 bl s.B (wndM s.m r v) := hB.st (fun x j p q => f3 x j (by omega)) wndM_st
  refine am_aload_n (q := 24) dX14_pursesWith_23 rfl rfl ?_
  refine am_aload_n (q := 25) dX14_pursesWith_24 rfl rfl ?_
  refine cm_getR (q := 28) dX14_pursesWith_25 flX14_55 rfl (by assumption) (by assumption) rfl ?_
  refine am_iload_n (q := 29) dX14_pursesWith_28 rfl rfl ?_
  refine cm_call0 (q := 32) (As := [_, _]) hG dX14_pursesWith_29 mlX14_393 rfl (by assumption) ⟨_, _, rfl⟩ (Nat.le_of_ble_eq_true rfl) (Nat.le_of_ble_eq_true rfl) (Nat.le_of_ble_eq_true rfl) (Nat.le_of_ble_eq_true rfl) (k_X14_rounds hG hC.1 hC.2.2.2.2.2.1 hB3 s3 (by omega) hn) rfl ?_
  rintro _ _ ⟨rfl, I4, rfl, s4, b4, f4⟩
  refine am_aload_n (q := 33) dX14_pursesWith_32 rfl rfl ?_
  refine am_aload_n (q := 34) dX14_pursesWith_33 rfl rfl ?_
  refine cm_getR (q := 37) dX14_pursesWith_34 flX14_55 rfl (by assumption) (by assumption) rfl ?_
  refine cm_call0 (q := 40) (As := [_]) hG dX14_pursesWith_37 mlX14_362 rfl (by assumption) ⟨_, _, rfl⟩ (Nat.le_of_ble_eq_true rfl) (Nat.le_of_ble_eq_true rfl) (Nat.le_of_ble_eq_true rfl) (Nat.le_of_ble_eq_true rfl) (k_X14_purses hC.1 hC.2.2.2.2.2.1 b4 s4) rfl ?_
  rintro _ _ ⟨rfl, rfl⟩
  exact am_iret dX14_pursesWith_40 rfl rfl ⟨_, rfl, rfl, I4, rfl, fun x j p q => (f4 x j p (by omega)).trans (f3 x j p)⟩
theorem k_X14_advise {k n : Int32} (hG : okG G) (h : YW S y s I R) : Fn G mX14_advise 407 [vR y, vI k, vI n] (mw S I J R) (YR S y I J R (if 0 ≤ k ∧ k < nI s.B.nR then (if 1 ≤ n ∧ n ≤ 4 then (vI (advM s.B s.m k.toNatClampNeg n.toNatClampNeg 21).1, s, 0) else (vI 0, s, 2)) else (vI 0, s, 1))) := by
  obtain ⟨bl, nx, hC, hA⟩ := h
  obtain ⟨p1, p2, p3, p4, p5⟩ := hC.lo
  have ky := hC.1.1
  have ry := hC.1.2.1
  have kb := hC.1.2.2.1
  have hA0 : AbY (up2 I y 0 0) y bl s := hA.clr hC
  have hB := hA0.2.2.1
  have uR := hB.1.1.2
  refine am_aload_n (q := 1) dX14_advise_0 rfl rfl ?_
  refine am_iconst (q := 2) (v := 0) dX14_advise_1 kc_i0 rfl ?_
  refine cm_putI (q := 5) dX14_advise_2 flX14_58 rfl (Or.inl rfl) (Or.inl rfl) (by assumption) rfl ?_
  refine am_aload_n (q := 6) dX14_advise_5 rfl rfl ?_
  refine am_iload_n (q := 7) dX14_advise_6 rfl rfl ?_
  refine cm_call0 (q := 10) (As := [_]) hG dX14_advise_7 mlX14_369 rfl (by assumption) ⟨_, _, rfl⟩ (Nat.le_of_ble_eq_true rfl) (Nat.le_of_ble_eq_true rfl) (Nat.le_of_ble_eq_true rfl) (Nat.le_of_ble_eq_true rfl) (k_X14_isRail hG ky ry kb hB.1.1.1 uR) rfl ?_
  rintro _ _ ⟨rfl, rfl⟩
  refine am_if_ne (tgt := 19) (q := 13) dX14_advise_10 rfl rfl (fun h1 => ?_) (fun h1 => ?_)
  · have h3 := bI_n0.mp h1
    rw [if_pos h3]
    refine am_iload_n (q := 20) dX14_advise_19 rfl rfl ?_
    refine am_iconst (q := 21) (v := 1) dX14_advise_20 kc_i1 rfl ?_
    refine am_iconst (q := 22) (v := 4) dX14_advise_21 kc_i4 rfl ?_
    refine am_call1 (q := 25) (As := [_, _, _]) hG dX14_advise_22 mlX14_72 rfl (Nat.le_of_ble_eq_true rfl) (Nat.le_of_ble_eq_true rfl) (Nat.le_of_ble_eq_true rfl) k_X14_isIn rfl ?_
    rintro _ _ ⟨rfl, rfl⟩
    refine am_if_ne (tgt := 34) (q := 28) dX14_advise_25 rfl rfl (fun h2 => ?_) (fun h2 => ?_)
    · have h4 := bI_n0.mp h2
      rw [if_pos h4]
      obtain ⟨r, hr, rfl⟩ := k_idx (by omega) h3
      obtain ⟨j, hj, rfl⟩ := k_idx2 (v := 4) (n := 4) rfl (by decide) (fun q => Int32.lt_irrefl (Int32.lt_of_lt_of_le q (Int32.le_trans (by decide : (0 : Int32) ≤ 1) h4.1))) h4.2
      rw [nI_clamp (show r < 2 ^ 31 by omega), nI_clamp (show j < 2 ^ 31 by omega)]
      refine am_iconst (q := 35) (v := 0) dX14_advise_34 kc_i0 rfl ?_
      refine am_istore_n (q := 36) (ls1 := [_, _, _, _, _, _, _]) dX14_advise_35 (Nat.le_of_ble_eq_true rfl) rfl rfl ?_
      refine am_aload_n (q := 37) dX14_advise_36 rfl rfl ?_
      refine am_iload_n (q := 38) dX14_advise_37 rfl rfl ?_
      refine am_iconst (q := 39) (v := 0) dX14_advise_38 kc_i0 rfl ?_
      refine am_iload_n (q := 40) dX14_advise_39 rfl rfl ?_
      refine cm_call0 (q := 43) (As := [_, _, _]) hG dX14_advise_40 mlX14_399 rfl (by assumption) ⟨_, _, rfl⟩ (Nat.le_of_ble_eq_true rfl) (Nat.le_of_ble_eq_true rfl) (Nat.le_of_ble_eq_true rfl) (Nat.le_of_ble_eq_true rfl) (k_X14_pursesWith hG hC hA0 hr (by omega)) rfl ?_
      rintro _ _ ⟨rfl, I2, rfl, f2⟩
      have e1 : advM s.B s.m r j 1 = (nI 0, pursM s.B (plyM s.B j (wndM s.m r (nI 0)))) := if_pos (Or.inl rfl)
      refine am_istore (q := 45) (ls1 := [_, _, _, _, _, _, _]) dX14_advise_43 (Nat.le_of_ble_eq_true rfl) rfl rfl ?_
      refine am_iconst (q := 46) (v := 1) dX14_advise_45 kc_i1 rfl ?_
      refine am_istore (q := 48) (ls1 := [_, _, _, _, _, _, _]) dX14_advise_46 (Nat.le_of_ble_eq_true rfl) rfl rfl ?_
      refine k_loop (σ := (Nat → Nat → Int32) × (Int32 × Int32) × Option AV) (n := 20) (Inv := fun i q => q.2.1 = advM s.B s.m r j (i + 1) ∧ ∀ x j, (x < y + 33 ∨ y + 39 ≤ x) → (x ≠ y ∨ j < 20 ∨ j = 23) → q.1 x j = up2 I y 0 0 x j) (W := fun i q => MW G mX14_advise 407 48 [some (vR y), some (vI (nI r)), some (vI (nI j)), some (vI q.2.1.1), some (vI q.2.1.2), some (vI (nI (i + 1))), q.2.2] [] (mw S q.1 J R) _) ?_ ?_ 0 (I2, (0, pursM s.B (plyM s.B j (wndM s.m r 0))), none) (Nat.zero_le _) ⟨e1.symm, f2⟩
      · rintro i ⟨I3, ⟨a1, a2⟩, x6⟩ hi ⟨hinv, f3⟩ ih
        dsimp only at hinv f3 ih ⊢
        have hA3 : AbY I3 y bl s := hA0.own hC (fun x j p q => f3 x j p (by omega))
        refine am_iload (q := 50) dX14_advise_48 rfl rfl ?_
        refine am_bipush (q := 52) (v := 20) dX14_advise_50 kc_b20 rfl ?_
        refine am_icmp_gt (tgt := 88) (q := 55) dX14_advise_52 rfl rfl (fun hz => absurd hz (Int32.not_lt.mpr (nI_le (b := 20) (by omega) (by decide)))) (fun _ => ?_)
        refine am_aload_n (q := 56) dX14_advise_55 rfl rfl ?_
        refine am_iload_n (q := 57) dX14_advise_56 rfl rfl ?_
        refine am_iload (q := 59) dX14_advise_57 rfl rfl ?_
        refine am_iload_n (q := 60) dX14_advise_59 rfl rfl ?_
        refine cm_call0 (q := 63) (As := [_, _, _]) hG dX14_advise_60 mlX14_399 rfl (by assumption) ⟨_, _, rfl⟩ (Nat.le_of_ble_eq_true rfl) (Nat.le_of_ble_eq_true rfl) (Nat.le_of_ble_eq_true rfl) (Nat.le_of_ble_eq_true rfl) (k_X14_pursesWith hG hC hA3 hr (by omega)) rfl ?_
        rintro _ _ ⟨rfl, I4, rfl, f4⟩
        refine am_istore (q := 65) (ls1 := [_, _, _, _, _, _, _]) dX14_advise_63 (Nat.le_of_ble_eq_true rfl) rfl rfl ?_
        have f5 : ∀ x j, (x < y + 33 ∨ y + 39 ≤ x) → (x ≠ y ∨ j < 20 ∨ j = 23) → I4 x j = up2 I y 0 0 x j := fun x j p q => (f4 x j p q).trans (f3 x j p q)
        have ek : advM s.B s.m r j (i + 1 + 1) = if i + 1 = 0 ∨ pursM s.B (plyM s.B j (wndM s.m r (nI (i + 1)))) < (advM s.B s.m r j (i + 1)).2 then (nI (i + 1), pursM s.B (plyM s.B j (wndM s.m r (nI (i + 1))))) else advM s.B s.m r j (i + 1) := rfl
        rw [← hinv] at ek
        dsimp only at ek
        generalize pursM s.B (plyM s.B j (wndM s.m r (nI (i + 1)))) = pu at ek ⊢
        refine am_iload (q := 67) dX14_advise_65 rfl rfl ?_
        refine am_iload (q := 69) dX14_advise_67 rfl rfl ?_
        refine am_icmp_lt (tgt := 75) (q := 72) dX14_advise_69 rfl rfl (fun hc => ?_) (fun hc => ?_)
        · rw [if_pos (Or.inr hc)] at ek
          refine am_iload (q := 77) dX14_advise_75 rfl rfl ?_
          refine am_istore_n (q := 78) (ls1 := [_, _, _, _, _, _, _]) dX14_advise_77 (Nat.le_of_ble_eq_true rfl) rfl rfl ?_
          refine am_iload (q := 80) dX14_advise_78 rfl rfl ?_
          refine am_istore (q := 82) (ls1 := [_, _, _, _, _, _, _]) dX14_advise_80 (Nat.le_of_ble_eq_true rfl) rfl rfl ?_
          refine am_iincW (q := 85) (ls1 := [_, _, _, _, _, _, _]) (w := 1) dX14_advise_82 rfl (Nat.le_of_ble_eq_true rfl) kc_i1 rfl rfl ?_
          refine am_goto (tgt := 48) dX14_advise_85 rfl ?_
          rw [nI_1]
          exact ih (I4, (nI (i + 1), pu), some (vI pu)) ⟨ek.symm, f5⟩
        · rw [if_neg (fun q => q.elim (fun z => by omega) hc)] at ek
          refine am_goto (tgt := 82) dX14_advise_72 rfl ?_
          refine am_iincW (q := 85) (ls1 := [_, _, _, _, _, _, _]) (w := 1) dX14_advise_82 rfl (Nat.le_of_ble_eq_true rfl) kc_i1 rfl rfl ?_
          refine am_goto (tgt := 48) dX14_advise_85 rfl ?_
          rw [nI_1]
          exact ih (I4, (a1, a2), some (vI pu)) ⟨ek.symm, f5⟩
      · rintro ⟨I3, ⟨a1, a2⟩, x6⟩ ⟨hinv, f3⟩
        dsimp only at hinv f3 ⊢
        have hv : (advM s.B s.m r j 21).1 = a1 := by rw [← hinv]
        rw [hv]
        clear hinv hv
        refine am_iload (q := 50) dX14_advise_48 rfl rfl ?_
        refine am_bipush (q := 52) (v := 20) dX14_advise_50 kc_b20 rfl ?_
        refine am_icmp_gt (tgt := 88) (q := 55) dX14_advise_52 rfl rfl (fun _ => ?_) (fun hz => absurd (nI_lt (a := 20) (b := 21) (by omega) (by decide)) hz)
        refine am_iload_n (q := 89) dX14_advise_88 rfl rfl ?_
        exact am_iret dX14_advise_89 rfl rfl ⟨_, rfl, (YQ.own hC hA (fun x j p q => by rw [f3 x j p (by omega), up2_at, if_neg (by omega)]) (by rw [f3 y 0 (by omega) (by omega)]; exact up2_s))⟩
    · rw [if_neg (bI_e0.mp h2)]
      refine am_aload_n (q := 29) dX14_advise_28 rfl rfl ?_
      refine am_iconst (q := 30) (v := 2) dX14_advise_29 kc_i2 rfl ?_
      refine cm_call0 (q := 33) (As := [_]) hG dX14_advise_30 mlX14_64 rfl (by assumption) ⟨_, _, rfl⟩ (Nat.le_of_ble_eq_true rfl) (Nat.le_of_ble_eq_true rfl) (Nat.le_of_ble_eq_true rfl) (Nat.le_of_ble_eq_true rfl) (k_X14_no ky) rfl ?_
      rintro _ _ ⟨rfl, rfl⟩
      exact am_iret dX14_advise_33 rfl rfl ⟨_, rfl, (YQ.cl2 hC hA)⟩
  · rw [if_neg (bI_e0.mp h1)]
    refine am_aload_n (q := 14) dX14_advise_13 rfl rfl ?_
    refine am_iconst (q := 15) (v := 1) dX14_advise_14 kc_i1 rfl ?_
    refine cm_call0 (q := 18) (As := [_]) hG dX14_advise_15 mlX14_64 rfl (by assumption) ⟨_, _, rfl⟩ (Nat.le_of_ble_eq_true rfl) (Nat.le_of_ble_eq_true rfl) (Nat.le_of_ble_eq_true rfl) (Nat.le_of_ble_eq_true rfl) (k_X14_no ky) rfl ?_
    rintro _ _ ⟨rfl, rfl⟩
    exact am_iret dX14_advise_18 rfl rfl ⟨_, rfl, (YQ.cl2 hC hA)⟩
end Ma

