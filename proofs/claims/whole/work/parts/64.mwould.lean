theorem dX14_needs_0 : decode cX14_needs 0 = .ok (.aload_n 0, 1) := by decide +kernel
theorem dX14_needs_1 : decode cX14_needs 1 = .ok (.iconst 0, 1) := by decide +kernel
theorem dX14_needs_2 : decode cX14_needs 2 = .ok (.putfield 58, 3) := by decide +kernel
theorem dX14_needs_5 : decode cX14_needs 5 = .ok (.aload_n 0, 1) := by decide +kernel
theorem dX14_needs_6 : decode cX14_needs 6 = .ok (.iload_n 1, 1) := by decide +kernel
theorem dX14_needs_7 : decode cX14_needs 7 = .ok (.invokevirtual 378, 3) := by decide +kernel
theorem dX14_needs_10 : decode cX14_needs 10 = .ok (.ifCond .eq 11, 3) := by decide +kernel
theorem dX14_needs_13 : decode cX14_needs 13 = .ok (.aload_n 0, 1) := by decide +kernel
theorem dX14_needs_14 : decode cX14_needs 14 = .ok (.iload_n 2, 1) := by decide +kernel
theorem dX14_needs_15 : decode cX14_needs 15 = .ok (.invokevirtual 369, 3) := by decide +kernel
theorem dX14_needs_18 : decode cX14_needs 18 = .ok (.ifCond .ne 9, 3) := by decide +kernel
theorem dX14_needs_21 : decode cX14_needs 21 = .ok (.aload_n 0, 1) := by decide +kernel
theorem dX14_needs_22 : decode cX14_needs 22 = .ok (.iconst 1, 1) := by decide +kernel
theorem dX14_needs_23 : decode cX14_needs 23 = .ok (.invokevirtual 64, 3) := by decide +kernel
theorem dX14_needs_26 : decode cX14_needs 26 = .ok (.ireturn, 1) := by decide +kernel
theorem dX14_needs_27 : decode cX14_needs 27 = .ok (.iconst 1, 1) := by decide +kernel
theorem dX14_needs_28 : decode cX14_needs 28 = .ok (.istore_n 3, 1) := by decide +kernel
theorem dX14_needs_29 : decode cX14_needs 29 = .ok (.iload_n 3, 1) := by decide +kernel
theorem dX14_needs_30 : decode cX14_needs 30 = .ok (.bipush 99, 2) := by decide +kernel
theorem dX14_needs_32 : decode cX14_needs 32 = .ok (.if_icmp .gt 29, 3) := by decide +kernel
theorem dX14_needs_35 : decode cX14_needs 35 = .ok (.aload_n 0, 1) := by decide +kernel
theorem dX14_needs_36 : decode cX14_needs 36 = .ok (.aload_n 0, 1) := by decide +kernel
theorem dX14_needs_37 : decode cX14_needs 37 = .ok (.getfield 51, 3) := by decide +kernel
theorem dX14_needs_40 : decode cX14_needs 40 = .ok (.iload_n 1, 1) := by decide +kernel
theorem dX14_needs_41 : decode cX14_needs 41 = .ok (.iload_n 2, 1) := by decide +kernel
theorem dX14_needs_42 : decode cX14_needs 42 = .ok (.iload_n 3, 1) := by decide +kernel
theorem dX14_needs_43 : decode cX14_needs 43 = .ok (.invokevirtual 323, 3) := by decide +kernel
theorem dX14_needs_46 : decode cX14_needs 46 = .ok (.aload_n 0, 1) := by decide +kernel
theorem dX14_needs_47 : decode cX14_needs 47 = .ok (.getfield 308, 3) := by decide +kernel
theorem dX14_needs_50 : decode cX14_needs 50 = .ok (.ifCond .le 5, 3) := by decide +kernel
theorem dX14_needs_53 : decode cX14_needs 53 = .ok (.iload_n 3, 1) := by decide +kernel
theorem dX14_needs_54 : decode cX14_needs 54 = .ok (.ireturn, 1) := by decide +kernel
theorem dX14_needs_55 : decode cX14_needs 55 = .ok (.iinc 3 1, 3) := by decide +kernel
theorem dX14_needs_58 : decode cX14_needs 58 = .ok (.goto (-29), 3) := by decide +kernel
theorem dX14_needs_61 : decode cX14_needs 61 = .ok (.iconst (-1), 1) := by decide +kernel
theorem dX14_needs_62 : decode cX14_needs 62 = .ok (.ireturn, 1) := by decide +kernel
theorem dX14_path_0 : decode cX14_path 0 = .ok (.aload_n 0, 1) := by decide +kernel
theorem dX14_path_1 : decode cX14_path 1 = .ok (.iconst 0, 1) := by decide +kernel
theorem dX14_path_2 : decode cX14_path 2 = .ok (.putfield 58, 3) := by decide +kernel
theorem dX14_path_5 : decode cX14_path 5 = .ok (.aload_n 0, 1) := by decide +kernel
theorem dX14_path_6 : decode cX14_path 6 = .ok (.iload_n 1, 1) := by decide +kernel
theorem dX14_path_7 : decode cX14_path 7 = .ok (.invokevirtual 378, 3) := by decide +kernel
theorem dX14_path_10 : decode cX14_path 10 = .ok (.ifCond .eq 11, 3) := by decide +kernel
theorem dX14_path_13 : decode cX14_path 13 = .ok (.aload_n 0, 1) := by decide +kernel
theorem dX14_path_14 : decode cX14_path 14 = .ok (.iload_n 2, 1) := by decide +kernel
theorem dX14_path_15 : decode cX14_path 15 = .ok (.invokevirtual 369, 3) := by decide +kernel
theorem dX14_path_18 : decode cX14_path 18 = .ok (.ifCond .ne 9, 3) := by decide +kernel
theorem dX14_path_21 : decode cX14_path 21 = .ok (.aload_n 0, 1) := by decide +kernel
theorem dX14_path_22 : decode cX14_path 22 = .ok (.iconst 1, 1) := by decide +kernel
theorem dX14_path_23 : decode cX14_path 23 = .ok (.invokevirtual 64, 3) := by decide +kernel
theorem dX14_path_26 : decode cX14_path 26 = .ok (.ireturn, 1) := by decide +kernel
theorem dX14_path_27 : decode cX14_path 27 = .ok (.iload_n 3, 1) := by decide +kernel
theorem dX14_path_28 : decode cX14_path 28 = .ok (.iconst 0, 1) := by decide +kernel
theorem dX14_path_29 : decode cX14_path 29 = .ok (.sipush 300, 3) := by decide +kernel
theorem dX14_path_32 : decode cX14_path 32 = .ok (.invokestatic 72, 3) := by decide +kernel
theorem dX14_path_35 : decode cX14_path 35 = .ok (.ifCond .ne 9, 3) := by decide +kernel
theorem dX14_path_38 : decode cX14_path 38 = .ok (.aload_n 0, 1) := by decide +kernel
theorem dX14_path_39 : decode cX14_path 39 = .ok (.iconst 2, 1) := by decide +kernel
theorem dX14_path_40 : decode cX14_path 40 = .ok (.invokevirtual 64, 3) := by decide +kernel
theorem dX14_path_43 : decode cX14_path 43 = .ok (.ireturn, 1) := by decide +kernel
theorem dX14_path_44 : decode cX14_path 44 = .ok (.aload_n 0, 1) := by decide +kernel
theorem dX14_path_45 : decode cX14_path 45 = .ok (.iload_n 3, 1) := by decide +kernel
theorem dX14_path_46 : decode cX14_path 46 = .ok (.putfield 320, 3) := by decide +kernel
theorem dX14_path_49 : decode cX14_path 49 = .ok (.aload_n 0, 1) := by decide +kernel
theorem dX14_path_50 : decode cX14_path 50 = .ok (.aload_n 0, 1) := by decide +kernel
theorem dX14_path_51 : decode cX14_path 51 = .ok (.getfield 51, 3) := by decide +kernel
theorem dX14_path_54 : decode cX14_path 54 = .ok (.iload_n 1, 1) := by decide +kernel
theorem dX14_path_55 : decode cX14_path 55 = .ok (.iload_n 2, 1) := by decide +kernel
theorem dX14_path_56 : decode cX14_path 56 = .ok (.aload_n 0, 1) := by decide +kernel
theorem dX14_path_57 : decode cX14_path 57 = .ok (.getfield 32, 3) := by decide +kernel
theorem dX14_path_60 : decode cX14_path 60 = .ok (.getfield 240, 3) := by decide +kernel
theorem dX14_path_63 : decode cX14_path 63 = .ok (.iconst 3, 1) := by decide +kernel
theorem dX14_path_64 : decode cX14_path 64 = .ok (.iload_n 1, 1) := by decide +kernel
theorem dX14_path_65 : decode cX14_path 65 = .ok (.imul, 1) := by decide +kernel
theorem dX14_path_66 : decode cX14_path 66 = .ok (.iaload, 1) := by decide +kernel
theorem dX14_path_67 : decode cX14_path 67 = .ok (.invokevirtual 323, 3) := by decide +kernel
theorem dX14_path_70 : decode cX14_path 70 = .ok (.aload_n 0, 1) := by decide +kernel
theorem dX14_path_71 : decode cX14_path 71 = .ok (.getfield 314, 3) := by decide +kernel
theorem dX14_path_74 : decode cX14_path 74 = .ok (.ireturn, 1) := by decide +kernel
theorem dX14_trim_0 : decode cX14_trim 0 = .ok (.aload_n 0, 1) := by decide +kernel
theorem dX14_trim_1 : decode cX14_trim 1 = .ok (.iconst 0, 1) := by decide +kernel
theorem dX14_trim_2 : decode cX14_trim 2 = .ok (.putfield 58, 3) := by decide +kernel
theorem dX14_trim_5 : decode cX14_trim 5 = .ok (.iload_n 1, 1) := by decide +kernel
theorem dX14_trim_6 : decode cX14_trim 6 = .ok (.iconst 0, 1) := by decide +kernel
theorem dX14_trim_7 : decode cX14_trim 7 = .ok (.aload_n 0, 1) := by decide +kernel
theorem dX14_trim_8 : decode cX14_trim 8 = .ok (.getfield 61, 3) := by decide +kernel
theorem dX14_trim_11 : decode cX14_trim 11 = .ok (.invokestatic 72, 3) := by decide +kernel
theorem dX14_trim_14 : decode cX14_trim 14 = .ok (.ifCond .ne 9, 3) := by decide +kernel
theorem dX14_trim_17 : decode cX14_trim 17 = .ok (.aload_n 0, 1) := by decide +kernel
theorem dX14_trim_18 : decode cX14_trim 18 = .ok (.iconst 1, 1) := by decide +kernel
theorem dX14_trim_19 : decode cX14_trim 19 = .ok (.invokevirtual 64, 3) := by decide +kernel
theorem dX14_trim_22 : decode cX14_trim 22 = .ok (.ireturn, 1) := by decide +kernel
theorem dX14_trim_23 : decode cX14_trim 23 = .ok (.aload_n 0, 1) := by decide +kernel
theorem dX14_trim_24 : decode cX14_trim 24 = .ok (.iload_n 1, 1) := by decide +kernel
theorem dX14_trim_25 : decode cX14_trim 25 = .ok (.putfield 61, 3) := by decide +kernel
theorem dX14_trim_28 : decode cX14_trim 28 = .ok (.iload_n 1, 1) := by decide +kernel
theorem dX14_trim_29 : decode cX14_trim 29 = .ok (.ireturn, 1) := by decide +kernel
theorem dX14_would_0 : decode cX14_would 0 = .ok (.aload_n 0, 1) := by decide +kernel
theorem dX14_would_1 : decode cX14_would 1 = .ok (.iconst 0, 1) := by decide +kernel
theorem dX14_would_2 : decode cX14_would 2 = .ok (.putfield 58, 3) := by decide +kernel
theorem dX14_would_5 : decode cX14_would 5 = .ok (.aload_n 0, 1) := by decide +kernel
theorem dX14_would_6 : decode cX14_would 6 = .ok (.iload_n 1, 1) := by decide +kernel
theorem dX14_would_7 : decode cX14_would 7 = .ok (.invokevirtual 378, 3) := by decide +kernel
theorem dX14_would_10 : decode cX14_would 10 = .ok (.ifCond .eq 20, 3) := by decide +kernel
theorem dX14_would_13 : decode cX14_would 13 = .ok (.aload_n 0, 1) := by decide +kernel
theorem dX14_would_14 : decode cX14_would 14 = .ok (.iload_n 2, 1) := by decide +kernel
theorem dX14_would_15 : decode cX14_would 15 = .ok (.invokevirtual 369, 3) := by decide +kernel
theorem dX14_would_18 : decode cX14_would 18 = .ok (.ifCond .eq 12, 3) := by decide +kernel
theorem dX14_would_21 : decode cX14_would 21 = .ok (.iload_n 3, 1) := by decide +kernel
theorem dX14_would_22 : decode cX14_would 22 = .ok (.iconst 0, 1) := by decide +kernel
theorem dX14_would_23 : decode cX14_would 23 = .ok (.iconst 2, 1) := by decide +kernel
theorem dX14_would_24 : decode cX14_would 24 = .ok (.invokestatic 72, 3) := by decide +kernel
theorem dX14_would_27 : decode cX14_would 27 = .ok (.ifCond .ne 9, 3) := by decide +kernel
theorem dX14_would_30 : decode cX14_would 30 = .ok (.aload_n 0, 1) := by decide +kernel
theorem dX14_would_31 : decode cX14_would 31 = .ok (.iconst 1, 1) := by decide +kernel
theorem dX14_would_32 : decode cX14_would 32 = .ok (.invokevirtual 64, 3) := by decide +kernel
theorem dX14_would_35 : decode cX14_would 35 = .ok (.ireturn, 1) := by decide +kernel
theorem dX14_would_36 : decode cX14_would 36 = .ok (.aload_n 0, 1) := by decide +kernel
theorem dX14_would_37 : decode cX14_would 37 = .ok (.aload_n 0, 1) := by decide +kernel
theorem dX14_would_38 : decode cX14_would 38 = .ok (.getfield 51, 3) := by decide +kernel
theorem dX14_would_41 : decode cX14_would 41 = .ok (.iload_n 1, 1) := by decide +kernel
theorem dX14_would_42 : decode cX14_would 42 = .ok (.iload_n 2, 1) := by decide +kernel
theorem dX14_would_43 : decode cX14_would 43 = .ok (.aload_n 0, 1) := by decide +kernel
theorem dX14_would_44 : decode cX14_would 44 = .ok (.getfield 32, 3) := by decide +kernel
theorem dX14_would_47 : decode cX14_would 47 = .ok (.getfield 240, 3) := by decide +kernel
theorem dX14_would_50 : decode cX14_would 50 = .ok (.iconst 3, 1) := by decide +kernel
theorem dX14_would_51 : decode cX14_would 51 = .ok (.iload_n 1, 1) := by decide +kernel
theorem dX14_would_52 : decode cX14_would 52 = .ok (.imul, 1) := by decide +kernel
theorem dX14_would_53 : decode cX14_would 53 = .ok (.iaload, 1) := by decide +kernel
theorem dX14_would_54 : decode cX14_would 54 = .ok (.invokevirtual 323, 3) := by decide +kernel
theorem dX14_would_57 : decode cX14_would 57 = .ok (.iload_n 3, 1) := by decide +kernel
theorem dX14_would_58 : decode cX14_would 58 = .ok (.ifCond .ne 10, 3) := by decide +kernel
theorem dX14_would_61 : decode cX14_would 61 = .ok (.aload_n 0, 1) := by decide +kernel
theorem dX14_would_62 : decode cX14_would 62 = .ok (.getfield 305, 3) := by decide +kernel
theorem dX14_would_65 : decode cX14_would 65 = .ok (.goto 19, 3) := by decide +kernel
theorem dX14_would_68 : decode cX14_would 68 = .ok (.iload_n 3, 1) := by decide +kernel
theorem dX14_would_69 : decode cX14_would 69 = .ok (.iconst 1, 1) := by decide +kernel
theorem dX14_would_70 : decode cX14_would 70 = .ok (.if_icmp .ne 10, 3) := by decide +kernel
theorem dX14_would_73 : decode cX14_would 73 = .ok (.aload_n 0, 1) := by decide +kernel
theorem dX14_would_74 : decode cX14_would 74 = .ok (.getfield 308, 3) := by decide +kernel
theorem dX14_would_77 : decode cX14_would 77 = .ok (.goto 7, 3) := by decide +kernel
theorem dX14_would_80 : decode cX14_would 80 = .ok (.aload_n 0, 1) := by decide +kernel
theorem dX14_would_81 : decode cX14_would 81 = .ok (.getfield 311, 3) := by decide +kernel
theorem dX14_would_84 : decode cX14_would 84 = .ok (.ireturn, 1) := by decide +kernel
/-! the reference: what would be; feeding -/
section Mw
variable {G : Gp} {S : AMem} {I I1 : Nat → Nat → Int32} {J : Nat → Nat → Int64} {R : Nat → Nat → Option Nat} {y bl nx : Nat} {s : XS}
theorem k_X14_would {i k w : Int32} (hG : okG G) (h : YW S y s I R) : Fn G mX14_would 406 [vR y, vI i, vI k, vI w] (mw S I J R) (YR S y I J R (if ((0 ≤ i ∧ i < nI s.B.nF) ∧ 0 ≤ k ∧ k < nI s.B.nR) ∧ 0 ≤ w ∧ w ≤ 2 then (vI (wldM s.B s.m i.toNatClampNeg k.toNatClampNeg w), s, 0) else (vI 0, s, 1))) := by
  obtain ⟨bl, nx, hC, hA⟩ := h
  obtain ⟨p1, p2, p3, p4, p5⟩ := hC.lo
  obtain ⟨ky, ry, kb, b5, b6, b7, b8, b9, b11, b12, b13, _, _, ⟨k3, l3⟩, _⟩ := hC.1
  have rs := hC.2.2.1
  have kz := hC.2.2.2.2.1.1
  have hA0 : AbY (up2 I y 0 0) y bl s := hA.clr hC
  have hB := hA0.2.2.1
  have uF := hB.1.2.1.2
  have uR := hB.1.1.2
  have no : MW G mX14_would 406 30 [some (vR y), some (vI i), some (vI k), some (vI w)] [] (mw S (up2 I y 0 0) J R) (fun f M1 => ∃ r, f = .inl r ∧ YR S y I J R (vI 0, s, 1) r M1) := by
    refine am_aload_n (q := 31) dX14_would_30 rfl rfl ?_
    refine am_iconst (q := 32) (v := 1) dX14_would_31 kc_i1 rfl ?_
    refine cm_call0 (q := 35) (As := [_]) hG dX14_would_32 mlX14_64 rfl (by assumption) ⟨_, _, rfl⟩ (Nat.le_of_ble_eq_true rfl) (Nat.le_of_ble_eq_true rfl) (Nat.le_of_ble_eq_true rfl) (Nat.le_of_ble_eq_true rfl) (k_X14_no ky) rfl ?_
    rintro _ _ ⟨rfl, rfl⟩
    exact am_iret dX14_would_35 rfl rfl ⟨_, rfl, (YQ.cl2 hC hA)⟩
  refine am_aload_n (q := 1) dX14_would_0 rfl rfl ?_
  refine am_iconst (q := 2) (v := 0) dX14_would_1 kc_i0 rfl ?_
  refine cm_putI (q := 5) dX14_would_2 flX14_58 rfl (Or.inl rfl) (Or.inl rfl) (by assumption) rfl ?_
  refine am_aload_n (q := 6) dX14_would_5 rfl rfl ?_
  refine am_iload_n (q := 7) dX14_would_6 rfl rfl ?_
  refine cm_call0 (q := 10) (As := [_]) hG dX14_would_7 mlX14_378 rfl (by assumption) ⟨_, _, rfl⟩ (Nat.le_of_ble_eq_true rfl) (Nat.le_of_ble_eq_true rfl) (Nat.le_of_ble_eq_true rfl) (Nat.le_of_ble_eq_true rfl) (k_X14_isFist hG ky ry kb hB.1.2.1.1 uF) rfl ?_
  rintro _ _ ⟨rfl, rfl⟩
  refine am_if_eq (tgt := 30) (q := 13) dX14_would_10 rfl rfl (fun h1 => ?_) (fun h1 => ?_)
  · rw [if_neg (fun q => bI_e0.mp h1 q.1.1)]
    exact no
  · refine am_aload_n (q := 14) dX14_would_13 rfl rfl ?_
    refine am_iload_n (q := 15) dX14_would_14 rfl rfl ?_
    refine cm_call0 (q := 18) (As := [_]) hG dX14_would_15 mlX14_369 rfl (by assumption) ⟨_, _, rfl⟩ (Nat.le_of_ble_eq_true rfl) (Nat.le_of_ble_eq_true rfl) (Nat.le_of_ble_eq_true rfl) (Nat.le_of_ble_eq_true rfl) (k_X14_isRail hG ky ry kb hB.1.1.1 uR) rfl ?_
    rintro _ _ ⟨rfl, rfl⟩
    refine am_if_eq (tgt := 30) (q := 21) dX14_would_18 rfl rfl (fun h2 => ?_) (fun h2 => ?_)
    · rw [if_neg (fun q => bI_e0.mp h2 q.1.2)]
      exact no
    · refine am_iload_n (q := 22) dX14_would_21 rfl rfl ?_
      refine am_iconst (q := 23) (v := 0) dX14_would_22 kc_i0 rfl ?_
      refine am_iconst (q := 24) (v := 2) dX14_would_23 kc_i2 rfl ?_
      refine am_call1 (q := 27) (As := [_, _, _]) hG dX14_would_24 mlX14_72 rfl (Nat.le_of_ble_eq_true rfl) (Nat.le_of_ble_eq_true rfl) (Nat.le_of_ble_eq_true rfl) k_X14_isIn rfl ?_
      rintro _ _ ⟨rfl, rfl⟩
      refine am_if_ne (tgt := 36) (q := 30) dX14_would_27 rfl rfl (fun h5 => ?_) (fun h5 => ?_)
      · have h3 := bI_n0.mp h1
        have h4 := bI_n0.mp h2
        have h6 := bI_n0.mp h5
        rw [if_pos ⟨⟨h3, h4⟩, h6⟩]
        obtain ⟨f, hf, rfl⟩ := k_idx (by omega) h3
        obtain ⟨r, hr, rfl⟩ := k_idx (by omega) h4
        rw [nI_clamp (show f < 2 ^ 31 by omega), nI_clamp (show r < 2 ^ 31 by omega)]
        refine am_aload_n (q := 37) dX14_would_36 rfl rfl ?_
        refine am_aload_n (q := 38) dX14_would_37 rfl rfl ?_
        refine cm_getR (q := 41) dX14_would_38 flX14_51 rfl (by assumption) (by assumption) rfl ?_
        refine am_iload_n (q := 42) dX14_would_41 rfl rfl ?_
        refine am_iload_n (q := 43) dX14_would_42 rfl rfl ?_
        refine am_aload_n (q := 44) dX14_would_43 rfl rfl ?_
        refine cm_getR (q := 47) dX14_would_44 flX14_32 rfl (by assumption) (by assumption) rfl ?_
        refine cm_getR (q := 50) dX14_would_47 flX14_240 rfl (by assumption) (by assumption) rfl ?_
        refine am_iconst (q := 51) (v := 3) dX14_would_50 kc_i3 rfl ?_
        refine am_iload_n (q := 52) dX14_would_51 rfl rfl ?_
        refine am_imul (q := 53) dX14_would_52 rfl ?_
        rw [show (3 * nI f : Int32) = nI (3 * f) from k_mul 3 f]
        refine cm_iaload (q := 54) dX14_would_53 (by assumption) (by rw [l3]; exact vp_in_nI (by omega) (by decide)) rfl ?_
        rw [nI_clamp (show 3 * f < 2 ^ 31 by omega), (hB.2.2.2.1 f hf).1]
        refine cm_call0 (q := 57) (As := [_, _, _, _]) hG dX14_would_54 mlX14_323 rfl (by assumption) ⟨_, _, rfl⟩ (Nat.le_of_ble_eq_true rfl) (Nat.le_of_ble_eq_true rfl) (Nat.le_of_ble_eq_true rfl) (Nat.le_of_ble_eq_true rfl) (k_X14_fly hG hC.1 hC.2.2.2.2.1 hB hA0.2.2.2.1 (by omega) hf hr) rfl ?_
        rintro _ _ ⟨rfl, I1, rfl, t1, t2, t3, t4, t5⟩
        unfold wldM
        generalize (flM s.B s.m f r (s.m.fist f 0) 300) = fl at t1 t2 t3 ⊢
        clear t4
        have fr : ∀ x j, (x < y + 33 ∨ y + 39 ≤ x) → (x ≠ y ∨ j = 2 ∨ j = 3) → I1 x j = I x j := fun x j p q => by rw [t5 x j (by omega), up2_at, if_neg (by omega)]
        have t0 : I1 y 0 = 0 := by rw [t5 y 0 (by omega)]; exact up2_s
        refine am_iload_n (q := 58) dX14_would_57 rfl rfl ?_
        refine am_if_ne (tgt := 68) (q := 61) dX14_would_58 rfl rfl (fun h7 => ?_) (fun h7 => ?_)
        · rw [if_neg h7]
          refine am_iload_n (q := 69) dX14_would_68 rfl rfl ?_
          refine am_iconst (q := 70) (v := 1) dX14_would_69 kc_i1 rfl ?_
          refine am_icmp_ne (tgt := 80) (q := 73) dX14_would_70 rfl rfl (fun h8 => ?_) (fun h8 => ?_)
          · rw [if_neg h8]
            refine am_aload_n (q := 81) dX14_would_80 rfl rfl ?_
            refine cm_getI (q := 84) dX14_would_81 flX14_311 rfl (by assumption) rfl ?_
            rw [t3]
            exact am_iret dX14_would_84 rfl rfl ⟨_, rfl, (YQ.own hC hA fr t0)⟩
          · rw [if_pos h8]
            refine am_aload_n (q := 74) dX14_would_73 rfl rfl ?_
            refine cm_getI (q := 77) dX14_would_74 flX14_308 rfl (by assumption) rfl ?_
            rw [t2]
            refine am_goto (tgt := 84) dX14_would_77 rfl ?_
            exact am_iret dX14_would_84 rfl rfl ⟨_, rfl, (YQ.own hC hA fr t0)⟩
        · rw [if_pos h7]
          refine am_aload_n (q := 62) dX14_would_61 rfl rfl ?_
          refine cm_getI (q := 65) dX14_would_62 flX14_305 rfl (by assumption) rfl ?_
          rw [t1]
          refine am_goto (tgt := 84) dX14_would_65 rfl ?_
          exact am_iret dX14_would_84 rfl rfl ⟨_, rfl, (YQ.own hC hA fr t0)⟩
      · rw [if_neg (fun q => bI_e0.mp h5 q.2)]
        exact no
theorem k_X14_path {i k w : Int32} (hG : okG G) (h : YW S y s I R) : Fn G mX14_path 406 [vR y, vI i, vI k, vI w] (mw S I J R) (YR S y I J R (if (0 ≤ i ∧ i < nI s.B.nF) ∧ 0 ≤ k ∧ k < nI s.B.nR then (if 0 ≤ w ∧ w ≤ 300 then (vI (pthM s.B s.m i.toNatClampNeg k.toNatClampNeg w.toNatClampNeg), s, 0) else (vI 0, s, 2)) else (vI 0, s, 1))) := by
  obtain ⟨bl, nx, hC, hA⟩ := h
  obtain ⟨p1, p2, p3, p4, p5⟩ := hC.lo
  obtain ⟨ky, ry, kb, b5, b6, b7, b8, b9, b11, b12, b13, _, _, ⟨k3, l3⟩, _⟩ := hC.1
  have rs := hC.2.2.1
  have kz := hC.2.2.2.2.1.1
  have hA0 : AbY (up2 I y 0 0) y bl s := hA.clr hC
  have hB := hA0.2.2.1
  have uF := hB.1.2.1.2
  have uR := hB.1.1.2
  have no : MW G mX14_path 406 21 [some (vR y), some (vI i), some (vI k), some (vI w)] [] (mw S (up2 I y 0 0) J R) (fun f M1 => ∃ r, f = .inl r ∧ YR S y I J R (vI 0, s, 1) r M1) := by
    refine am_aload_n (q := 22) dX14_path_21 rfl rfl ?_
    refine am_iconst (q := 23) (v := 1) dX14_path_22 kc_i1 rfl ?_
    refine cm_call0 (q := 26) (As := [_]) hG dX14_path_23 mlX14_64 rfl (by assumption) ⟨_, _, rfl⟩ (Nat.le_of_ble_eq_true rfl) (Nat.le_of_ble_eq_true rfl) (Nat.le_of_ble_eq_true rfl) (Nat.le_of_ble_eq_true rfl) (k_X14_no ky) rfl ?_
    rintro _ _ ⟨rfl, rfl⟩
    exact am_iret dX14_path_26 rfl rfl ⟨_, rfl, (YQ.cl2 hC hA)⟩
  refine am_aload_n (q := 1) dX14_path_0 rfl rfl ?_
  refine am_iconst (q := 2) (v := 0) dX14_path_1 kc_i0 rfl ?_
  refine cm_putI (q := 5) dX14_path_2 flX14_58 rfl (Or.inl rfl) (Or.inl rfl) (by assumption) rfl ?_
  refine am_aload_n (q := 6) dX14_path_5 rfl rfl ?_
  refine am_iload_n (q := 7) dX14_path_6 rfl rfl ?_
  refine cm_call0 (q := 10) (As := [_]) hG dX14_path_7 mlX14_378 rfl (by assumption) ⟨_, _, rfl⟩ (Nat.le_of_ble_eq_true rfl) (Nat.le_of_ble_eq_true rfl) (Nat.le_of_ble_eq_true rfl) (Nat.le_of_ble_eq_true rfl) (k_X14_isFist hG ky ry kb hB.1.2.1.1 uF) rfl ?_
  rintro _ _ ⟨rfl, rfl⟩
  refine am_if_eq (tgt := 21) (q := 13) dX14_path_10 rfl rfl (fun h1 => ?_) (fun h1 => ?_)
  · rw [if_neg (fun q => bI_e0.mp h1 q.1)]
    exact no
  · refine am_aload_n (q := 14) dX14_path_13 rfl rfl ?_
    refine am_iload_n (q := 15) dX14_path_14 rfl rfl ?_
    refine cm_call0 (q := 18) (As := [_]) hG dX14_path_15 mlX14_369 rfl (by assumption) ⟨_, _, rfl⟩ (Nat.le_of_ble_eq_true rfl) (Nat.le_of_ble_eq_true rfl) (Nat.le_of_ble_eq_true rfl) (Nat.le_of_ble_eq_true rfl) (k_X14_isRail hG ky ry kb hB.1.1.1 uR) rfl ?_
    rintro _ _ ⟨rfl, rfl⟩
    refine am_if_ne (tgt := 27) (q := 21) dX14_path_18 rfl rfl (fun h2 => ?_) (fun h2 => ?_)
    · have h3 := bI_n0.mp h1
      have h4 := bI_n0.mp h2
      rw [if_pos ⟨h3, h4⟩]
      refine am_iload_n (q := 28) dX14_path_27 rfl rfl ?_
      refine am_iconst (q := 29) (v := 0) dX14_path_28 kc_i0 rfl ?_
      refine am_sipush (q := 32) (v := 300) dX14_path_29 kc_s300 rfl ?_
      refine am_call1 (q := 35) (As := [_, _, _]) hG dX14_path_32 mlX14_72 rfl (Nat.le_of_ble_eq_true rfl) (Nat.le_of_ble_eq_true rfl) (Nat.le_of_ble_eq_true rfl) k_X14_isIn rfl ?_
      rintro _ _ ⟨rfl, rfl⟩
      refine am_if_ne (tgt := 44) (q := 38) dX14_path_35 rfl rfl (fun h5 => ?_) (fun h5 => ?_)
      · have h6 := bI_n0.mp h5
        rw [if_pos h6]
        obtain ⟨f, hf, rfl⟩ := k_idx (by omega) h3
        obtain ⟨r, hr, rfl⟩ := k_idx (by omega) h4
        obtain ⟨t, ht, rfl⟩ := k_idx2 (v := 300) (n := 300) rfl (by decide) (Int32.not_lt.mpr h6.1) h6.2
        rw [nI_clamp (show f < 2 ^ 31 by omega), nI_clamp (show r < 2 ^ 31 by omega), nI_clamp (show t < 2 ^ 31 by omega)]
        refine am_aload_n (q := 45) dX14_path_44 rfl rfl ?_
        refine am_iload_n (q := 46) dX14_path_45 rfl rfl ?_
        refine cm_putI (q := 49) dX14_path_46 flX14_320 rfl (Or.inl rfl) (Or.inl rfl) (by assumption) rfl ?_
        have hA1 : AbY (up2 (up2 I y 0 0) y 23 (nI t)) y bl s := hA.own hC (fun x j p q => by rw [up2_at, if_neg (by omega), up2_at, if_neg (by omega)])
        have hB1 := hA1.2.2.1
        refine am_aload_n (q := 50) dX14_path_49 rfl rfl ?_
        refine am_aload_n (q := 51) dX14_path_50 rfl rfl ?_
        refine cm_getR (q := 54) dX14_path_51 flX14_51 rfl (by assumption) (by assumption) rfl ?_
        refine am_iload_n (q := 55) dX14_path_54 rfl rfl ?_
        refine am_iload_n (q := 56) dX14_path_55 rfl rfl ?_
        refine am_aload_n (q := 57) dX14_path_56 rfl rfl ?_
        refine cm_getR (q := 60) dX14_path_57 flX14_32 rfl (by assumption) (by assumption) rfl ?_
        refine cm_getR (q := 63) dX14_path_60 flX14_240 rfl (by assumption) (by assumption) rfl ?_
        refine am_iconst (q := 64) (v := 3) dX14_path_63 kc_i3 rfl ?_
        refine am_iload_n (q := 65) dX14_path_64 rfl rfl ?_
        refine am_imul (q := 66) dX14_path_65 rfl ?_
        rw [show (3 * nI f : Int32) = nI (3 * f) from k_mul 3 f]
        refine cm_iaload (q := 67) dX14_path_66 (by assumption) (by rw [l3]; exact vp_in_nI (by omega) (by decide)) rfl ?_
        rw [nI_clamp (show 3 * f < 2 ^ 31 by omega), (hB1.2.2.2.1 f hf).1]
        refine cm_call0 (q := 70) (As := [_, _, _, _]) hG dX14_path_67 mlX14_323 rfl (by assumption) ⟨_, _, rfl⟩ (Nat.le_of_ble_eq_true rfl) (Nat.le_of_ble_eq_true rfl) (Nat.le_of_ble_eq_true rfl) (Nat.le_of_ble_eq_true rfl) (k_X14_fly hG hC.1 hC.2.2.2.2.1 hB1 hA1.2.2.2.1 (by omega) hf hr) rfl ?_
        rintro _ _ ⟨rfl, I1, rfl, t1, t2, t3, t4, t5⟩
        have e : I1 y 24 = pthM s.B s.m f r t := t4 t (by omega) up2_s
        clear t1 t2 t3 t4
        have fr : ∀ x j, (x < y + 33 ∨ y + 39 ≤ x) → (x ≠ y ∨ j = 2 ∨ j = 3) → I1 x j = I x j := fun x j p q => by rw [t5 x j (by omega), up2_at, if_neg (by omega), up2_at, if_neg (by omega)]
        have t0 : I1 y 0 = 0 := by rw [t5 y 0 (by omega), up2_j (by decide)]; exact up2_s
        generalize pthM s.B s.m f r t = pv at e ⊢
        refine am_aload_n (q := 71) dX14_path_70 rfl rfl ?_
        refine cm_getI (q := 74) dX14_path_71 flX14_314 rfl (by assumption) rfl ?_
        rw [e]
        exact am_iret dX14_path_74 rfl rfl ⟨_, rfl, (YQ.own hC hA fr t0)⟩
      · rw [if_neg (bI_e0.mp h5)]
        refine am_aload_n (q := 39) dX14_path_38 rfl rfl ?_
        refine am_iconst (q := 40) (v := 2) dX14_path_39 kc_i2 rfl ?_
        refine cm_call0 (q := 43) (As := [_]) hG dX14_path_40 mlX14_64 rfl (by assumption) ⟨_, _, rfl⟩ (Nat.le_of_ble_eq_true rfl) (Nat.le_of_ble_eq_true rfl) (Nat.le_of_ble_eq_true rfl) (Nat.le_of_ble_eq_true rfl) (k_X14_no ky) rfl ?_
        rintro _ _ ⟨rfl, rfl⟩
        exact am_iret dX14_path_43 rfl rfl ⟨_, rfl, (YQ.cl2 hC hA)⟩
    · rw [if_neg (fun q => bI_e0.mp h2 q.2)]
      exact no
theorem k_X14_needs {i k : Int32} (hG : okG G) (h : YW S y s I R) : Fn G mX14_needs 406 [vR y, vI i, vI k] (mw S I J R) (YR S y I J R (if (0 ≤ i ∧ i < nI s.B.nF) ∧ 0 ≤ k ∧ k < nI s.B.nR then (vI (ndsM s.B s.m i.toNatClampNeg k.toNatClampNeg 1 99), s, 0) else (vI 0, s, 1))) := by
  obtain ⟨bl, nx, hC, hA⟩ := h
  obtain ⟨p1, p2, p3, p4, p5⟩ := hC.lo
  have ky := hC.1.1
  have ry := hC.1.2.1
  have kb := hC.1.2.2.1
  have rs := hC.2.2.1
  have kz := hC.2.2.2.2.1.1
  have hA0 : AbY (up2 I y 0 0) y bl s := hA.clr hC
  have hB := hA0.2.2.1
  have uF := hB.1.2.1.2
  have uR := hB.1.1.2
  have no : MW G mX14_needs 406 21 [some (vR y), some (vI i), some (vI k), none] [] (mw S (up2 I y 0 0) J R) (fun f M1 => ∃ r, f = .inl r ∧ YR S y I J R (vI 0, s, 1) r M1) := by
    refine am_aload_n (q := 22) dX14_needs_21 rfl rfl ?_
    refine am_iconst (q := 23) (v := 1) dX14_needs_22 kc_i1 rfl ?_
    refine cm_call0 (q := 26) (As := [_]) hG dX14_needs_23 mlX14_64 rfl (by assumption) ⟨_, _, rfl⟩ (Nat.le_of_ble_eq_true rfl) (Nat.le_of_ble_eq_true rfl) (Nat.le_of_ble_eq_true rfl) (Nat.le_of_ble_eq_true rfl) (k_X14_no ky) rfl ?_
    rintro _ _ ⟨rfl, rfl⟩
    exact am_iret dX14_needs_26 rfl rfl ⟨_, rfl, (YQ.cl2 hC hA)⟩
  refine am_aload_n (q := 1) dX14_needs_0 rfl rfl ?_
  refine am_iconst (q := 2) (v := 0) dX14_needs_1 kc_i0 rfl ?_
  refine cm_putI (q := 5) dX14_needs_2 flX14_58 rfl (Or.inl rfl) (Or.inl rfl) (by assumption) rfl ?_
  refine am_aload_n (q := 6) dX14_needs_5 rfl rfl ?_
  refine am_iload_n (q := 7) dX14_needs_6 rfl rfl ?_
  refine cm_call0 (q := 10) (As := [_]) hG dX14_needs_7 mlX14_378 rfl (by assumption) ⟨_, _, rfl⟩ (Nat.le_of_ble_eq_true rfl) (Nat.le_of_ble_eq_true rfl) (Nat.le_of_ble_eq_true rfl) (Nat.le_of_ble_eq_true rfl) (k_X14_isFist hG ky ry kb hB.1.2.1.1 uF) rfl ?_
  rintro _ _ ⟨rfl, rfl⟩
  refine am_if_eq (tgt := 21) (q := 13) dX14_needs_10 rfl rfl (fun h1 => ?_) (fun h1 => ?_)
  · rw [if_neg (fun q => bI_e0.mp h1 q.1)]
    exact no
  · refine am_aload_n (q := 14) dX14_needs_13 rfl rfl ?_
    refine am_iload_n (q := 15) dX14_needs_14 rfl rfl ?_
    refine cm_call0 (q := 18) (As := [_]) hG dX14_needs_15 mlX14_369 rfl (by assumption) ⟨_, _, rfl⟩ (Nat.le_of_ble_eq_true rfl) (Nat.le_of_ble_eq_true rfl) (Nat.le_of_ble_eq_true rfl) (Nat.le_of_ble_eq_true rfl) (k_X14_isRail hG ky ry kb hB.1.1.1 uR) rfl ?_
    rintro _ _ ⟨rfl, rfl⟩
    refine am_if_ne (tgt := 27) (q := 21) dX14_needs_18 rfl rfl (fun h2 => ?_) (fun h2 => ?_)
    · have h3 := bI_n0.mp h1
      have h4 := bI_n0.mp h2
      rw [if_pos ⟨h3, h4⟩]
      obtain ⟨f, hf, rfl⟩ := k_idx (by omega) h3
      obtain ⟨r, hr, rfl⟩ := k_idx (by omega) h4
      rw [nI_clamp (show f < 2 ^ 31 by omega), nI_clamp (show r < 2 ^ 31 by omega)]
      refine am_iconst (q := 28) (v := 1) dX14_needs_27 kc_i1 rfl ?_
      refine am_istore_n (q := 29) (ls1 := [_, _, _, _]) dX14_needs_28 (Nat.le_of_ble_eq_true rfl) rfl rfl ?_
      refine k_loop (σ := Nat → Nat → Int32) (n := 99) (Inv := fun a I1 => ndsM s.B s.m f r (a + 1) (99 - a) = ndsM s.B s.m f r 1 99 ∧ ∀ x j, (x ≠ y ∨ (j < 20 ∧ j ≠ 0) ∨ j = 23) → I1 x j = I x j ∧ I1 y 0 = 0) (W := fun a I1 => MW G mX14_needs 406 29 [some (vR y), some (vI (nI f)), some (vI (nI r)), some (vI (nI (a + 1)))] [] (mw S I1 J R) _) ?_ ?_ 0 (up2 I y 0 0) (Nat.zero_le _) ⟨rfl, fun x j q => ⟨by rw [up2_at, if_neg (by omega)], up2_s⟩⟩
      · rintro a I1 ha ⟨hinv, q1⟩ ih
        have hA1 : AbY I1 y bl s := hA.own hC (fun x j p q => (q1 x j (by omega)).1)
        refine am_iload_n (q := 30) dX14_needs_29 rfl rfl ?_
        refine am_bipush (q := 32) (v := 99) dX14_needs_30 kc_b99 rfl ?_
        refine am_icmp_gt (tgt := 61) (q := 35) dX14_needs_32 rfl rfl (fun hz => absurd hz (Int32.not_lt.mpr (nI_le (b := 99) (by omega) (by decide)))) (fun _ => ?_)
        refine am_aload_n (q := 36) dX14_needs_35 rfl rfl ?_
        refine am_aload_n (q := 37) dX14_needs_36 rfl rfl ?_
        refine cm_getR (q := 40) dX14_needs_37 flX14_51 rfl (by assumption) (by assumption) rfl ?_
        refine am_iload_n (q := 41) dX14_needs_40 rfl rfl ?_
        refine am_iload_n (q := 42) dX14_needs_41 rfl rfl ?_
        refine am_iload_n (q := 43) dX14_needs_42 rfl rfl ?_
        refine cm_call0 (q := 46) (As := [_, _, _, _]) hG dX14_needs_43 mlX14_323 rfl (by assumption) ⟨_, _, rfl⟩ (Nat.le_of_ble_eq_true rfl) (Nat.le_of_ble_eq_true rfl) (Nat.le_of_ble_eq_true rfl) (Nat.le_of_ble_eq_true rfl) (k_X14_fly (arm := nI (a + 1)) hG hC.1 hC.2.2.2.2.1 hA1.2.2.1 hA1.2.2.2.1 (by omega) hf hr) rfl ?_
        rintro _ _ ⟨rfl, I2, rfl, t1, t2, t3, t4, t5⟩
        rw [show 99 - a = (99 - (a + 1)) + 1 by omega, ndsM] at hinv
        clear t1 t3 t4
        generalize flM s.B s.m f r (nI (a + 1)) 300 = fl at t2 hinv
        have q2 : ∀ x j, (x ≠ y ∨ (j < 20 ∧ j ≠ 0) ∨ j = 23) → I2 x j = I x j ∧ I2 y 0 = 0 := fun x j q => ⟨(t5 x j (by omega)).trans (q1 x j q).1, (t5 y 0 (by omega)).trans (q1 x j q).2⟩
        refine am_aload_n (q := 47) dX14_needs_46 rfl rfl ?_
        refine cm_getI (q := 50) dX14_needs_47 flX14_308 rfl (by assumption) rfl ?_
        rw [t2]
        refine am_if_le (tgt := 55) (q := 53) dX14_needs_50 rfl rfl (fun hc => ?_) (fun hc => ?_)
        · rw [if_neg (Int32.not_lt.mpr hc)] at hinv
          refine am_iincW (q := 58) (ls1 := [_, _, _, _]) (w := 1) dX14_needs_55 rfl (Nat.le_of_ble_eq_true rfl) kc_i1 rfl rfl ?_
          refine am_goto (tgt := 29) dX14_needs_58 rfl ?_
          rw [nI_1]
          exact ih I2 ⟨hinv, q2⟩
        · rw [if_pos (Int32.not_le.mp hc)] at hinv
          rw [← hinv]
          refine am_iload_n (q := 54) dX14_needs_53 rfl rfl ?_
          exact am_iret dX14_needs_54 rfl rfl ⟨_, rfl, (YQ.own hC hA (fun x j p q => (q2 x j (by omega)).1) (q2 y 23 (by omega)).2)⟩
      · rintro I1 ⟨hinv, q1⟩
        rw [Nat.sub_self, ndsM] at hinv
        rw [← hinv]
        refine am_iload_n (q := 30) dX14_needs_29 rfl rfl ?_
        refine am_bipush (q := 32) (v := 99) dX14_needs_30 kc_b99 rfl ?_
        refine am_icmp_gt (tgt := 61) (q := 35) dX14_needs_32 rfl rfl (fun _ => ?_) (fun hz => absurd (nI_lt (a := 99) (b := 100) (by omega) (by decide)) hz)
        refine am_iconst (q := 62) (v := (-1)) dX14_needs_61 kc_im1 rfl ?_
        exact am_iret dX14_needs_62 rfl rfl ⟨_, rfl, (YQ.own hC hA (fun x j p q => (q1 x j (by omega)).1) (q1 y 23 (by omega)).2)⟩
    · rw [if_neg (fun q => bI_e0.mp h2 q.2)]
      exact no
theorem k_X14_trim {n : Int32} (hG : okG G) (h : YW S y s I R) : Fn G mX14_trim 406 [vR y, vI n] (mw S I J R) (YR S y I J R (if 0 ≤ n ∧ n ≤ nI s.E.1 then (vI n, ((n.toNatClampNeg, s.E.2), s.B, s.m, s.er), 0) else (vI 0, s, 1))) := by
  obtain ⟨bl, nx, hC, hA⟩ := h
  obtain ⟨p1, p2, p3, p4, p5⟩ := hC.lo
  have ky := hC.1.1
  have e : up2 I y 0 0 y 2 = nI s.E.1 := (up2_j (by decide)).trans hA.1.1
  have ul := hA.1.2.1
  refine am_aload_n (q := 1) dX14_trim_0 rfl rfl ?_
  refine am_iconst (q := 2) (v := 0) dX14_trim_1 kc_i0 rfl ?_
  refine cm_putI (q := 5) dX14_trim_2 flX14_58 rfl (Or.inl rfl) (Or.inl rfl) (by assumption) rfl ?_
  refine am_iload_n (q := 6) dX14_trim_5 rfl rfl ?_
  refine am_iconst (q := 7) (v := 0) dX14_trim_6 kc_i0 rfl ?_
  refine am_aload_n (q := 8) dX14_trim_7 rfl rfl ?_
  refine cm_getI (q := 11) dX14_trim_8 flX14_61 rfl (by assumption) rfl ?_
  rw [e]
  refine am_call1 (q := 14) (As := [_, _, _]) hG dX14_trim_11 mlX14_72 rfl (Nat.le_of_ble_eq_true rfl) (Nat.le_of_ble_eq_true rfl) (Nat.le_of_ble_eq_true rfl) k_X14_isIn rfl ?_
  rintro _ _ ⟨rfl, rfl⟩
  refine am_if_ne (tgt := 23) (q := 17) dX14_trim_14 rfl rfl (fun h1 => ?_) (fun h1 => ?_)
  · have h2 := bI_n0.mp h1
    rw [if_pos h2]
    obtain ⟨j, hj, rfl⟩ := k_idx2 rfl (by omega) (Int32.not_lt.mpr h2.1) h2.2
    rw [nI_clamp (show j < 2 ^ 31 by omega)]
    have fr : ∀ x i, (x ≠ y ∨ (i ≠ 0 ∧ i ≠ 2)) → up2 (up2 I y 0 0) y 2 (nI j) x i = I x i := fun x i q => by rw [up2_at, if_neg (by omega), up2_at, if_neg (by omega)]
    obtain ⟨⟨a1, a2, a3⟩, a4, a5, a6, a7⟩ := hA
    refine am_aload_n (q := 24) dX14_trim_23 rfl rfl ?_
    refine am_iload_n (q := 25) dX14_trim_24 rfl rfl ?_
    refine cm_putI (q := 28) dX14_trim_25 flX14_61 rfl (Or.inl rfl) (Or.inl rfl) (by assumption) rfl ?_
    refine am_iload_n (q := 29) dX14_trim_28 rfl rfl ?_
    exact am_iret dX14_trim_29 rfl rfl ⟨_, rfl, rfl, _, R, rfl, ⟨bl, nx, hC, ⟨up2_s, show j ≤ 2000 by omega, fun i hi => (fr _ _ (by omega)).trans (a3 i (by have : i < j := hi; omega))⟩, (fr _ _ (by omega)).trans a4, a5.mv (fun x i p q => fr _ _ (by omega)) (fun _ _ => ⟨rfl, rfl⟩) (fun _ _ => ⟨rfl, rfl⟩), a6.fr (fun x i p q => fr _ _ (by omega)), a7⟩, (by
      show up2 (up2 I y 0 0) y 2 (nI j) y 0 = 0
      rw [up2_j (by decide)]
      exact up2_s), fun x p => ⟨funext fun i => fr _ _ (by omega), rfl⟩⟩
  · rw [if_neg (bI_e0.mp h1)]
    refine am_aload_n (q := 18) dX14_trim_17 rfl rfl ?_
    refine am_iconst (q := 19) (v := 1) dX14_trim_18 kc_i1 rfl ?_
    refine cm_call0 (q := 22) (As := [_]) hG dX14_trim_19 mlX14_64 rfl (by assumption) ⟨_, _, rfl⟩ (Nat.le_of_ble_eq_true rfl) (Nat.le_of_ble_eq_true rfl) (Nat.le_of_ble_eq_true rfl) (Nat.le_of_ble_eq_true rfl) (k_X14_no ky) rfl ?_
    rintro _ _ ⟨rfl, rfl⟩
    exact am_iret dX14_trim_22 rfl rfl ⟨_, rfl, (YQ.cl2 hC hA)⟩
end Mw

