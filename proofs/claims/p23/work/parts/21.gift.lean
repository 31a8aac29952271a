theorem dX2_giveTo_0 : decode cX2_giveTo 0 = .ok (.iconst 0, 1) := by decide +kernel
theorem dX2_giveTo_1 : decode cX2_giveTo 1 = .ok (.istore_n 2, 1) := by decide +kernel
theorem dX2_giveTo_2 : decode cX2_giveTo 2 = .ok (.iload_n 2, 1) := by decide +kernel
theorem dX2_giveTo_3 : decode cX2_giveTo 3 = .ok (.aload_n 0, 1) := by decide +kernel
theorem dX2_giveTo_4 : decode cX2_giveTo 4 = .ok (.getfield 78, 3) := by decide +kernel
theorem dX2_giveTo_7 : decode cX2_giveTo 7 = .ok (.if_icmp .ge 107, 3) := by decide +kernel
theorem dX2_giveTo_10 : decode cX2_giveTo 10 = .ok (.iload_n 2, 1) := by decide +kernel
theorem dX2_giveTo_11 : decode cX2_giveTo 11 = .ok (.aload_n 0, 1) := by decide +kernel
theorem dX2_giveTo_12 : decode cX2_giveTo 12 = .ok (.getfield 46, 3) := by decide +kernel
theorem dX2_giveTo_15 : decode cX2_giveTo 15 = .ok (.arraylength, 1) := by decide +kernel
theorem dX2_giveTo_16 : decode cX2_giveTo 16 = .ok (.if_icmp .ge 98, 3) := by decide +kernel
theorem dX2_giveTo_19 : decode cX2_giveTo 19 = .ok (.aload_n 0, 1) := by decide +kernel
theorem dX2_giveTo_20 : decode cX2_giveTo 20 = .ok (.getfield 46, 3) := by decide +kernel
theorem dX2_giveTo_23 : decode cX2_giveTo 23 = .ok (.iload_n 2, 1) := by decide +kernel
theorem dX2_giveTo_24 : decode cX2_giveTo 24 = .ok (.aaload, 1) := by decide +kernel
theorem dX2_giveTo_25 : decode cX2_giveTo 25 = .ok (.astore_n 3, 1) := by decide +kernel
theorem dX2_giveTo_26 : decode cX2_giveTo 26 = .ok (.aload_n 3, 1) := by decide +kernel
theorem dX2_giveTo_27 : decode cX2_giveTo 27 = .ok (.getfield 195, 3) := by decide +kernel
theorem dX2_giveTo_30 : decode cX2_giveTo 30 = .ok (.ifCond .le 78, 3) := by decide +kernel
theorem dX2_giveTo_33 : decode cX2_giveTo 33 = .ok (.aload_n 0, 1) := by decide +kernel
theorem dX2_giveTo_34 : decode cX2_giveTo 34 = .ok (.getfield 12, 3) := by decide +kernel
theorem dX2_giveTo_37 : decode cX2_giveTo 37 = .ok (.aload_n 3, 1) := by decide +kernel
theorem dX2_giveTo_38 : decode cX2_giveTo 38 = .ok (.getfield 202, 3) := by decide +kernel
theorem dX2_giveTo_41 : decode cX2_giveTo 41 = .ok (.aload_n 3, 1) := by decide +kernel
theorem dX2_giveTo_42 : decode cX2_giveTo 42 = .ok (.getfield 209, 3) := by decide +kernel
theorem dX2_giveTo_45 : decode cX2_giveTo 45 = .ok (.aload_n 0, 1) := by decide +kernel
theorem dX2_giveTo_46 : decode cX2_giveTo 46 = .ok (.invokevirtual 205, 3) := by decide +kernel
theorem dX2_giveTo_49 : decode cX2_giveTo 49 = .ok (.ifCond .eq 59, 3) := by decide +kernel
theorem dX2_giveTo_52 : decode cX2_giveTo 52 = .ok (.aload_n 3, 1) := by decide +kernel
theorem dX2_giveTo_53 : decode cX2_giveTo 53 = .ok (.dup, 1) := by decide +kernel
theorem dX2_giveTo_54 : decode cX2_giveTo 54 = .ok (.getfield 195, 3) := by decide +kernel
theorem dX2_giveTo_57 : decode cX2_giveTo 57 = .ok (.iconst 1, 1) := by decide +kernel
theorem dX2_giveTo_58 : decode cX2_giveTo 58 = .ok (.isub, 1) := by decide +kernel
theorem dX2_giveTo_59 : decode cX2_giveTo 59 = .ok (.putfield 195, 3) := by decide +kernel
theorem dX2_giveTo_62 : decode cX2_giveTo 62 = .ok (.aload_n 3, 1) := by decide +kernel
theorem dX2_giveTo_63 : decode cX2_giveTo 63 = .ok (.dup, 1) := by decide +kernel
theorem dX2_giveTo_64 : decode cX2_giveTo 64 = .ok (.getfield 198, 3) := by decide +kernel
theorem dX2_giveTo_67 : decode cX2_giveTo 67 = .ok (.iconst 1, 1) := by decide +kernel
theorem dX2_giveTo_68 : decode cX2_giveTo 68 = .ok (.iadd, 1) := by decide +kernel
theorem dX2_giveTo_69 : decode cX2_giveTo 69 = .ok (.putfield 198, 3) := by decide +kernel
theorem dX2_giveTo_72 : decode cX2_giveTo 72 = .ok (.aload_n 0, 1) := by decide +kernel
theorem dX2_giveTo_73 : decode cX2_giveTo 73 = .ok (.dup, 1) := by decide +kernel
theorem dX2_giveTo_74 : decode cX2_giveTo 74 = .ok (.getfield 99, 3) := by decide +kernel
theorem dX2_giveTo_77 : decode cX2_giveTo 77 = .ok (.iconst 1, 1) := by decide +kernel
theorem dX2_giveTo_78 : decode cX2_giveTo 78 = .ok (.iadd, 1) := by decide +kernel
theorem dX2_giveTo_79 : decode cX2_giveTo 79 = .ok (.putfield 99, 3) := by decide +kernel
theorem dX2_giveTo_82 : decode cX2_giveTo 82 = .ok (.aload_n 1, 1) := by decide +kernel
theorem dX2_giveTo_83 : decode cX2_giveTo 83 = .ok (.dup, 1) := by decide +kernel
theorem dX2_giveTo_84 : decode cX2_giveTo 84 = .ok (.getfield 182, 3) := by decide +kernel
theorem dX2_giveTo_87 : decode cX2_giveTo 87 = .ok (.aload_n 0, 1) := by decide +kernel
theorem dX2_giveTo_88 : decode cX2_giveTo 88 = .ok (.getfield 12, 3) := by decide +kernel
theorem dX2_giveTo_91 : decode cX2_giveTo 91 = .ok (.aload_n 3, 1) := by decide +kernel
theorem dX2_giveTo_92 : decode cX2_giveTo 92 = .ok (.getfield 199, 3) := by decide +kernel
theorem dX2_giveTo_95 : decode cX2_giveTo 95 = .ok (.aload_n 3, 1) := by decide +kernel
theorem dX2_giveTo_96 : decode cX2_giveTo 96 = .ok (.getfield 202, 3) := by decide +kernel
theorem dX2_giveTo_99 : decode cX2_giveTo 99 = .ok (.aload_n 0, 1) := by decide +kernel
theorem dX2_giveTo_100 : decode cX2_giveTo 100 = .ok (.invokevirtual 205, 3) := by decide +kernel
theorem dX2_giveTo_103 : decode cX2_giveTo 103 = .ok (.iadd, 1) := by decide +kernel
theorem dX2_giveTo_104 : decode cX2_giveTo 104 = .ok (.putfield 182, 3) := by decide +kernel
theorem dX2_giveTo_107 : decode cX2_giveTo 107 = .ok (.return_, 1) := by decide +kernel
theorem dX2_giveTo_108 : decode cX2_giveTo 108 = .ok (.iinc 2 1, 3) := by decide +kernel
theorem dX2_giveTo_111 : decode cX2_giveTo 111 = .ok (.goto (-109), 3) := by decide +kernel
theorem dX2_giveTo_114 : decode cX2_giveTo 114 = .ok (.return_, 1) := by decide +kernel
/-! a prize is given -/
section Gift
variable {G : Gp} {S : AMem} {I : Nat → Nat → Int32} {J : Nat → Nat → Int64} {R : Nat → Nat → Option Nat} {c : Nat} {B : BS} {m : MS}
theorem k_X2_giveTo {f : Nat} (hG : okG G) (hct : CT S R c) (hB : AbB I c B) (hm : AbM I c B m) (hf : f < B.nF) : Fn G mX2_giveTo 3 [vR c, vR (c + 22 + f)] (mw S I J R) (fun rr M1 => rr = none ∧ ∃ I1, M1 = mw S I1 J R ∧ AbB I1 c B ∧ AbM I1 c B (givM B m f) ∧ OffC c I I1) := by
  have hct2 := hct
  obtain ⟨kc, rc0, rc1, rc2, rc3, rc4, rc5, rc6, rc7, ⟨kd, rd0, rd1, rd2, kd2, ld2, kd3, ld3, kd4, ld4⟩, ⟨kb, rb, kb6, lb6⟩, ⟨kf, rf, kf8, lf8⟩, ⟨kr, lr, hr⟩, ⟨kfi, lfi, hfi⟩, ⟨kp, lp, hpz⟩, ⟨kt, lt, htu⟩, kw, lw⟩ := id hct2
  have hu := hB
  obtain ⟨_, ⟨_, u4⟩, ⟨u5, u6⟩, _⟩ := hu
  obtain ⟨_, kff⟩ := hfi f (by omega)
  refine am_iconst (q := 1) (v := 0) dX2_giveTo_0 kc_i0 rfl ?_
  refine am_istore_n (q := 2) (ls1 := [_, _, _, _]) dX2_giveTo_1 (Nat.le_of_ble_eq_true rfl) rfl rfl ?_
  refine k_loop (σ := (Nat → Nat → Int32) × Option AV) (n := B.nP) (Inv := fun i s => fpM B m i (B.nP - i) = fpM B m 0 B.nP ∧ AbB s.1 c B ∧ AbM s.1 c B m ∧ OffC c I s.1) (W := fun i s => MW G mX2_giveTo 3 2 [some (vR c), some (vR (c + 22 + f)), some (vI (nI i)), s.2] [] (mw S s.1 J R) _) ?_ ?_ 0 (I, none) (Nat.zero_le _) ⟨rfl, hB, hm, OffC.rf⟩
  · rintro i ⟨I0, x3⟩ hi ⟨hinv, hB0, hm0, hO0⟩ ih
    dsimp only at hinv hB0 hm0 hO0 ih ⊢
    have u7 : I0 c 11 = nI B.nP := hB0.2.2.1.1
    obtain ⟨r1, r2⟩ := hpz i (by omega)
    have hin : vp_in (nI i) (S.ln (c + 11)) := by rw [lp]; exact vp_in_nI (by omega) (by decide)
    have hR : R (c + 11) (nI i).toNatClampNeg = some (c + 30 + i) := by rw [nI_clamp (by omega)]; exact r1
    have e1 : I0 (c + 30 + i) 1 = m.prize i 0 := hm0.2.2.1 i hi 0 (by decide)
    rw [show B.nP - i = (B.nP - (i + 1)) + 1 by omega, fpM] at hinv
    have nxt : ∀ (I1 : Nat → Nat → Int32) (y3 : Option AV), ¬ (0 < m.prize i 0 ∧ B.te i (rdM B m) ≠ 0) → Qt c I0 I1 → MW G mX2_giveTo 3 108 [some (vR c), some (vR (c + 22 + f)), some (vI (nI i)), y3] [] (mw S I1 J R) (fun f_1 M1 => ∃ r, f_1 = .inl r ∧ (r = none ∧ ∃ I1, M1 = mw S I1 J R ∧ AbB I1 c B ∧ AbM I1 c B (givM B m f) ∧ OffC c I I1)) := by
      intro I1 y3 hno hq
      rw [if_neg hno] at hinv
      refine am_iincW (q := 111) (ls1 := [_, _, _, _]) (w := 1) dX2_giveTo_108 rfl (Nat.le_of_ble_eq_true rfl) kc_i1 rfl rfl ?_
      refine am_goto (tgt := 2) dX2_giveTo_111 rfl ?_
      rw [nI_1]
      exact ih (I1, y3) ⟨hinv, hB0.qt hq, AbM.qt hB0 hm0 hq, hO0.tr hq.off⟩
    refine am_iload_n (q := 3) dX2_giveTo_2 rfl rfl ?_
    refine am_aload_n (q := 4) dX2_giveTo_3 rfl rfl ?_
    refine cm_getI (q := 7) dX2_giveTo_4 flX2_78 rfl (by assumption) rfl ?_
    rw [u7]
    refine am_icmp_ge (tgt := 114) (q := 10) dX2_giveTo_7 rfl rfl (fun hz => absurd hz (nI_ge (by omega) (by omega))) (fun _ => ?_)
    refine am_iload_n (q := 11) dX2_giveTo_10 rfl rfl ?_
    refine am_aload_n (q := 12) dX2_giveTo_11 rfl rfl ?_
    refine cm_getR (q := 15) dX2_giveTo_12 flX2_46 rfl (by assumption) (by assumption) rfl ?_
    refine cm_alenK (q := 16) dX2_giveTo_15 (by assumption) (by decide) (by rw [lp] : nI (S.ln (c + 11)) = nI 8) rfl ?_
    refine am_icmp_ge (tgt := 114) (q := 19) dX2_giveTo_16 rfl rfl (fun hz => absurd hz (nI_ge (by omega) (by decide))) (fun _ => ?_)
    refine am_aload_n (q := 20) dX2_giveTo_19 rfl rfl ?_
    refine cm_getR (q := 23) dX2_giveTo_20 flX2_46 rfl (by assumption) (by assumption) rfl ?_
    refine am_iload_n (q := 24) dX2_giveTo_23 rfl rfl ?_
    refine cm_aaloadK (q := 25) dX2_giveTo_24 (by assumption) (by decide) hin hR rfl ?_
    refine am_astore_n (q := 26) (ls1 := [_, _, _, _]) dX2_giveTo_25 (Nat.le_of_ble_eq_true rfl) rfl rfl ?_
    refine am_aload_n (q := 27) dX2_giveTo_26 rfl rfl ?_
    refine cm_getI (q := 30) dX2_giveTo_27 flX2_195 rfl (by assumption) rfl ?_
    rw [e1]
    refine am_if_le (tgt := 108) (q := 33) dX2_giveTo_30 rfl rfl (fun hc1 => ?_) (fun hc1 => ?_)
    · exact nxt I0 _ (fun q => Int32.not_lt.mpr hc1 q.1) Qt.rf
    · obtain ⟨_, _, _, _, _, _, z, hz, hz4, _, hpp⟩ := id hB0
      obtain ⟨p, q, t, w1, w2, w3, w4, w5, w6, w7, w8⟩ := hpp i hi
      refine am_aload_n (q := 34) dX2_giveTo_33 rfl rfl ?_
      refine cm_getR (q := 37) dX2_giveTo_34 flX2_12 rfl (by assumption) (by assumption) rfl ?_
      refine am_aload_n (q := 38) dX2_giveTo_37 rfl rfl ?_
      refine cm_getI (q := 41) dX2_giveTo_38 flX2_202 rfl (by assumption) rfl ?_
      refine am_aload_n (q := 42) dX2_giveTo_41 rfl rfl ?_
      refine cm_getI (q := 45) dX2_giveTo_42 flX2_209 rfl (by assumption) rfl ?_
      refine am_aload_n (q := 46) dX2_giveTo_45 rfl rfl ?_
      rw [w2, w3]
      refine cm_call0 (q := 49) (As := [_, _, _]) hG dX2_giveTo_46 mlX2_205 rfl (by assumption) ⟨_, _, rfl⟩ (Nat.le_of_ble_eq_true rfl) (Nat.le_of_ble_eq_true rfl) (Nat.le_of_ble_eq_true rfl) (Nat.le_of_ble_eq_true rfl) (k_rk hG hct hB0 hm0 w5 hz hz4 w6 w8) rfl ?_
      rintro _ _ ⟨rfl, I1, rfl, hq1⟩
      refine am_if_eq (tgt := 108) (q := 52) dX2_giveTo_49 rfl rfl (fun hc2 => ?_) (fun hc2 => ?_)
      · exact nxt I1 _ (fun q => q.2 hc2) hq1
      · have hB1 := hB0.qt hq1
        have hm1 := AbM.qt hB0 hm0 hq1
        have hO1 := hO0.tr hq1.off
        have hfp : fpM B m 0 B.nP = some i := by
          rw [← hinv]
          exact if_pos ⟨Int32.not_le.mp hc1, hc2⟩
        have d1 : I1 (c + 30 + i) 1 = m.prize i 0 := hm1.2.2.1 i hi 0 (by decide)
        have d2 : I1 (c + 30 + i) 2 = m.prize i 1 := hm1.2.2.1 i hi 1 (by decide)
        have d3 : I1 c 18 = gvnM B m := hm1.2.2.2.2.1
        refine am_aload_n (q := 53) dX2_giveTo_52 rfl rfl ?_
        refine am_dup (q := 54) dX2_giveTo_53 rfl rfl ?_
        refine cm_getI (q := 57) dX2_giveTo_54 flX2_195 rfl (by assumption) rfl ?_
        refine am_iconst (q := 58) (v := 1) dX2_giveTo_57 kc_i1 rfl ?_
        rw [d1]
        refine am_isub (q := 59) dX2_giveTo_58 rfl ?_
        refine cm_putI (q := 62) dX2_giveTo_59 flX2_195 rfl (Or.inl rfl) (Or.inl rfl) (by assumption) rfl ?_
        refine am_aload_n (q := 63) dX2_giveTo_62 rfl rfl ?_
        refine am_dup (q := 64) dX2_giveTo_63 rfl rfl ?_
        refine cm_getI (q := 67) dX2_giveTo_64 flX2_198 rfl (by assumption) rfl ?_
        rw [up2_j (by decide), d2]
        refine am_iconst (q := 68) (v := 1) dX2_giveTo_67 kc_i1 rfl ?_
        refine am_iadd (q := 69) dX2_giveTo_68 rfl ?_
        refine cm_putI (q := 72) dX2_giveTo_69 flX2_198 rfl (Or.inl rfl) (Or.inl rfl) (by assumption) rfl ?_
        refine am_aload_n (q := 73) dX2_giveTo_72 rfl rfl ?_
        refine am_dup (q := 74) dX2_giveTo_73 rfl rfl ?_
        refine cm_getI (q := 77) dX2_giveTo_74 flX2_99 rfl (by assumption) rfl ?_
        rw [up2_a (by omega), up2_a (by omega), d3]
        refine am_iconst (q := 78) (v := 1) dX2_giveTo_77 kc_i1 rfl ?_
        refine am_iadd (q := 79) dX2_giveTo_78 rfl ?_
        refine cm_putI (q := 82) dX2_giveTo_79 flX2_99 rfl (Or.inl rfl) (Or.inl rfl) (by assumption) rfl ?_
        have hB2 := ((hB1.upP (i := i) (j := 1) (v := m.prize i 0 - 1) (by omega) (by decide)).upP (i := i) (j := 2) (v := m.prize i 1 + 1) (by omega) (by decide)).upG (j := 18) (v := gvnM B m + 1) (by decide)
        have hm2 := AbM.setP hB1 hm1 hi
        have hO2 := ((hO1.up (a := c + 30 + i) (j := 1) (v := m.prize i 0 - 1) (by omega)).up (a := c + 30 + i) (j := 2) (v := m.prize i 1 + 1) (by omega)).up (a := c) (j := 18) (v := gvnM B m + 1) (by omega)
        generalize up2 (up2 (up2 I1 (c + 30 + i) 1 (m.prize i 0 - 1)) (c + 30 + i) 2 (m.prize i 1 + 1)) c 18 (gvnM B m + 1) = I2 at hB2 hm2 hO2 ⊢
        generalize hm1e : mkMS m.fist m.rail (up2 (up2 m.prize i 0 (m.prize i 0 - 1)) i 1 (m.prize i 1 + 1)) m.g m.row m.bd m.nb = m1 at hm2
        have hgv : givM B m f = mkMS (up2 m1.fist f 4 (m1.fist f 4 + B.wo i (rdM B m1))) m1.rail m1.prize m1.g m1.row m1.bd m1.nb := by
          unfold givM
          rw [hfp, ← hm1e]
        obtain ⟨_, _, _, _, _, _, z2, hz2, hz42, _, hpp2⟩ := id hB2
        obtain ⟨p2, q2, t2, y1, y2, y3, y4, y5, y6, y7, y8⟩ := hpp2 i hi
        have d4 : I2 (c + 22 + f) 5 = m1.fist f 4 := hm2.1 f hf 4 (by decide)
        refine am_aload_n (q := 83) dX2_giveTo_82 rfl rfl ?_
        refine am_dup (q := 84) dX2_giveTo_83 rfl rfl ?_
        refine cm_getI (q := 87) dX2_giveTo_84 flX2_182 rfl (by assumption) rfl ?_
        refine am_aload_n (q := 88) dX2_giveTo_87 rfl rfl ?_
        refine cm_getR (q := 91) dX2_giveTo_88 flX2_12 rfl (by assumption) (by assumption) rfl ?_
        refine am_aload_n (q := 92) dX2_giveTo_91 rfl rfl ?_
        refine cm_getI (q := 95) dX2_giveTo_92 flX2_199 rfl (by assumption) rfl ?_
        refine am_aload_n (q := 96) dX2_giveTo_95 rfl rfl ?_
        refine cm_getI (q := 99) dX2_giveTo_96 flX2_202 rfl (by assumption) rfl ?_
        refine am_aload_n (q := 100) dX2_giveTo_99 rfl rfl ?_
        rw [d4, y1, y2]
        refine cm_call0 (q := 103) (As := [_, _, _]) hG dX2_giveTo_100 mlX2_205 rfl (by assumption) ⟨_, _, rfl⟩ (Nat.le_of_ble_eq_true rfl) (Nat.le_of_ble_eq_true rfl) (Nat.le_of_ble_eq_true rfl) (Nat.le_of_ble_eq_true rfl) (k_rk hG hct hB2 hm2 y4 hz2 hz42 (by omega) y7) rfl ?_
        rintro _ _ ⟨rfl, I3, rfl, hq3⟩
        refine am_iadd (q := 104) dX2_giveTo_103 rfl ?_
        refine cm_putI (q := 107) dX2_giveTo_104 flX2_182 rfl (Or.inl rfl) (Or.inl rfl) (by assumption) rfl ?_
        exact am_ret dX2_giveTo_107 rfl ⟨_, rfl, rfl, _, rfl, (hB2.qt hq3).upF (by omega), by rw [hgv]; exact AbM.setF (j := 4) (hB2.qt hq3) (AbM.qt hB2 hm2 hq3) hf (by decide) (fun e => absurd e (by decide)), (hO2.tr hq3.off).up (by omega)⟩
  · rintro ⟨I0, x3⟩ ⟨hinv, hB0, hm0, hO0⟩
    dsimp only at hinv hB0 hm0 hO0 ⊢
    have u7 : I0 c 11 = nI B.nP := hB0.2.2.1.1
    rw [Nat.sub_self, fpM] at hinv
    have hgv : givM B m f = m := by
      unfold givM
      rw [← hinv]
    rw [hgv]
    refine am_iload_n (q := 3) dX2_giveTo_2 rfl rfl ?_
    refine am_aload_n (q := 4) dX2_giveTo_3 rfl rfl ?_
    refine cm_getI (q := 7) dX2_giveTo_4 flX2_78 rfl (by assumption) rfl ?_
    rw [u7]
    refine am_icmp_ge (tgt := 114) (q := 10) dX2_giveTo_7 rfl rfl (fun _ => ?_) (fun hz => absurd (Int32.le_refl _) hz)
    exact am_ret dX2_giveTo_114 rfl ⟨_, rfl, rfl, _, rfl, hB0, hm0, hO0⟩
end Gift

