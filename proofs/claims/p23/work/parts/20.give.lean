theorem dX2_allPurses_0 : decode cX2_allPurses 0 = .ok (.iconst 0, 1) := by decide +kernel
theorem dX2_allPurses_1 : decode cX2_allPurses 1 = .ok (.istore_n 1, 1) := by decide +kernel
theorem dX2_allPurses_2 : decode cX2_allPurses 2 = .ok (.iconst 0, 1) := by decide +kernel
theorem dX2_allPurses_3 : decode cX2_allPurses 3 = .ok (.istore_n 2, 1) := by decide +kernel
theorem dX2_allPurses_4 : decode cX2_allPurses 4 = .ok (.iload_n 2, 1) := by decide +kernel
theorem dX2_allPurses_5 : decode cX2_allPurses 5 = .ok (.aload_n 0, 1) := by decide +kernel
theorem dX2_allPurses_6 : decode cX2_allPurses 6 = .ok (.getfield 75, 3) := by decide +kernel
theorem dX2_allPurses_9 : decode cX2_allPurses 9 = .ok (.if_icmp .ge 30, 3) := by decide +kernel
theorem dX2_allPurses_12 : decode cX2_allPurses 12 = .ok (.iload_n 2, 1) := by decide +kernel
theorem dX2_allPurses_13 : decode cX2_allPurses 13 = .ok (.aload_n 0, 1) := by decide +kernel
theorem dX2_allPurses_14 : decode cX2_allPurses 14 = .ok (.getfield 40, 3) := by decide +kernel
theorem dX2_allPurses_17 : decode cX2_allPurses 17 = .ok (.arraylength, 1) := by decide +kernel
theorem dX2_allPurses_18 : decode cX2_allPurses 18 = .ok (.if_icmp .ge 21, 3) := by decide +kernel
theorem dX2_allPurses_21 : decode cX2_allPurses 21 = .ok (.iload_n 1, 1) := by decide +kernel
theorem dX2_allPurses_22 : decode cX2_allPurses 22 = .ok (.aload_n 0, 1) := by decide +kernel
theorem dX2_allPurses_23 : decode cX2_allPurses 23 = .ok (.getfield 40, 3) := by decide +kernel
theorem dX2_allPurses_26 : decode cX2_allPurses 26 = .ok (.iload_n 2, 1) := by decide +kernel
theorem dX2_allPurses_27 : decode cX2_allPurses 27 = .ok (.aaload, 1) := by decide +kernel
theorem dX2_allPurses_28 : decode cX2_allPurses 28 = .ok (.getfield 182, 3) := by decide +kernel
theorem dX2_allPurses_31 : decode cX2_allPurses 31 = .ok (.iadd, 1) := by decide +kernel
theorem dX2_allPurses_32 : decode cX2_allPurses 32 = .ok (.istore_n 1, 1) := by decide +kernel
theorem dX2_allPurses_33 : decode cX2_allPurses 33 = .ok (.iinc 2 1, 3) := by decide +kernel
theorem dX2_allPurses_36 : decode cX2_allPurses 36 = .ok (.goto (-32), 3) := by decide +kernel
theorem dX2_allPurses_39 : decode cX2_allPurses 39 = .ok (.iload_n 1, 1) := by decide +kernel
theorem dX2_allPurses_40 : decode cX2_allPurses 40 = .ok (.ireturn, 1) := by decide +kernel
theorem dX2_isDue_0 : decode cX2_isDue 0 = .ok (.aload_n 1, 1) := by decide +kernel
theorem dX2_isDue_1 : decode cX2_isDue 1 = .ok (.getfield 228, 3) := by decide +kernel
theorem dX2_isDue_4 : decode cX2_isDue 4 = .ok (.aload_n 1, 1) := by decide +kernel
theorem dX2_isDue_5 : decode cX2_isDue 5 = .ok (.getfield 229, 3) := by decide +kernel
theorem dX2_isDue_8 : decode cX2_isDue 8 = .ok (.if_icmp .eq 22, 3) := by decide +kernel
theorem dX2_isDue_11 : decode cX2_isDue 11 = .ok (.aload_n 0, 1) := by decide +kernel
theorem dX2_isDue_12 : decode cX2_isDue 12 = .ok (.getfield 12, 3) := by decide +kernel
theorem dX2_isDue_15 : decode cX2_isDue 15 = .ok (.aload_n 1, 1) := by decide +kernel
theorem dX2_isDue_16 : decode cX2_isDue 16 = .ok (.getfield 228, 3) := by decide +kernel
theorem dX2_isDue_19 : decode cX2_isDue 19 = .ok (.aload_n 1, 1) := by decide +kernel
theorem dX2_isDue_20 : decode cX2_isDue 20 = .ok (.getfield 229, 3) := by decide +kernel
theorem dX2_isDue_23 : decode cX2_isDue 23 = .ok (.aload_n 0, 1) := by decide +kernel
theorem dX2_isDue_24 : decode cX2_isDue 24 = .ok (.invokevirtual 205, 3) := by decide +kernel
theorem dX2_isDue_27 : decode cX2_isDue 27 = .ok (.ifCond .eq 7, 3) := by decide +kernel
theorem dX2_isDue_30 : decode cX2_isDue 30 = .ok (.iconst 1, 1) := by decide +kernel
theorem dX2_isDue_31 : decode cX2_isDue 31 = .ok (.goto 4, 3) := by decide +kernel
theorem dX2_isDue_34 : decode cX2_isDue 34 = .ok (.iconst 0, 1) := by decide +kernel
theorem dX2_isDue_35 : decode cX2_isDue 35 = .ok (.ireturn, 1) := by decide +kernel
theorem dX2_placeInRow_0 : decode cX2_placeInRow 0 = .ok (.iconst 0, 1) := by decide +kernel
theorem dX2_placeInRow_1 : decode cX2_placeInRow 1 = .ok (.istore_n 2, 1) := by decide +kernel
theorem dX2_placeInRow_2 : decode cX2_placeInRow 2 = .ok (.iconst 0, 1) := by decide +kernel
theorem dX2_placeInRow_3 : decode cX2_placeInRow 3 = .ok (.istore_n 3, 1) := by decide +kernel
theorem dX2_placeInRow_4 : decode cX2_placeInRow 4 = .ok (.iload_n 3, 1) := by decide +kernel
theorem dX2_placeInRow_5 : decode cX2_placeInRow 5 = .ok (.aload_n 0, 1) := by decide +kernel
theorem dX2_placeInRow_6 : decode cX2_placeInRow 6 = .ok (.getfield 81, 3) := by decide +kernel
theorem dX2_placeInRow_9 : decode cX2_placeInRow 9 = .ok (.if_icmp .ge 30, 3) := by decide +kernel
theorem dX2_placeInRow_12 : decode cX2_placeInRow 12 = .ok (.iload_n 3, 1) := by decide +kernel
theorem dX2_placeInRow_13 : decode cX2_placeInRow 13 = .ok (.aload_n 0, 1) := by decide +kernel
theorem dX2_placeInRow_14 : decode cX2_placeInRow 14 = .ok (.getfield 56, 3) := by decide +kernel
theorem dX2_placeInRow_17 : decode cX2_placeInRow 17 = .ok (.arraylength, 1) := by decide +kernel
theorem dX2_placeInRow_18 : decode cX2_placeInRow 18 = .ok (.if_icmp .ge 21, 3) := by decide +kernel
theorem dX2_placeInRow_21 : decode cX2_placeInRow 21 = .ok (.aload_n 0, 1) := by decide +kernel
theorem dX2_placeInRow_22 : decode cX2_placeInRow 22 = .ok (.getfield 56, 3) := by decide +kernel
theorem dX2_placeInRow_25 : decode cX2_placeInRow 25 = .ok (.iload_n 3, 1) := by decide +kernel
theorem dX2_placeInRow_26 : decode cX2_placeInRow 26 = .ok (.iaload, 1) := by decide +kernel
theorem dX2_placeInRow_27 : decode cX2_placeInRow 27 = .ok (.iload_n 1, 1) := by decide +kernel
theorem dX2_placeInRow_28 : decode cX2_placeInRow 28 = .ok (.if_icmp .ne 5, 3) := by decide +kernel
theorem dX2_placeInRow_31 : decode cX2_placeInRow 31 = .ok (.iload_n 3, 1) := by decide +kernel
theorem dX2_placeInRow_32 : decode cX2_placeInRow 32 = .ok (.istore_n 2, 1) := by decide +kernel
theorem dX2_placeInRow_33 : decode cX2_placeInRow 33 = .ok (.iinc 3 1, 3) := by decide +kernel
theorem dX2_placeInRow_36 : decode cX2_placeInRow 36 = .ok (.goto (-32), 3) := by decide +kernel
theorem dX2_placeInRow_39 : decode cX2_placeInRow 39 = .ok (.iload_n 2, 1) := by decide +kernel
theorem dX2_placeInRow_40 : decode cX2_placeInRow 40 = .ok (.ireturn, 1) := by decide +kernel
theorem dX2_placeOfPurse_0 : decode cX2_placeOfPurse 0 = .ok (.iconst 1, 1) := by decide +kernel
theorem dX2_placeOfPurse_1 : decode cX2_placeOfPurse 1 = .ok (.istore_n 2, 1) := by decide +kernel
theorem dX2_placeOfPurse_2 : decode cX2_placeOfPurse 2 = .ok (.iconst 0, 1) := by decide +kernel
theorem dX2_placeOfPurse_3 : decode cX2_placeOfPurse 3 = .ok (.istore_n 3, 1) := by decide +kernel
theorem dX2_placeOfPurse_4 : decode cX2_placeOfPurse 4 = .ok (.iload_n 3, 1) := by decide +kernel
theorem dX2_placeOfPurse_5 : decode cX2_placeOfPurse 5 = .ok (.aload_n 0, 1) := by decide +kernel
theorem dX2_placeOfPurse_6 : decode cX2_placeOfPurse 6 = .ok (.getfield 75, 3) := by decide +kernel
theorem dX2_placeOfPurse_9 : decode cX2_placeOfPurse 9 = .ok (.if_icmp .ge 34, 3) := by decide +kernel
theorem dX2_placeOfPurse_12 : decode cX2_placeOfPurse 12 = .ok (.iload_n 3, 1) := by decide +kernel
theorem dX2_placeOfPurse_13 : decode cX2_placeOfPurse 13 = .ok (.aload_n 0, 1) := by decide +kernel
theorem dX2_placeOfPurse_14 : decode cX2_placeOfPurse 14 = .ok (.getfield 40, 3) := by decide +kernel
theorem dX2_placeOfPurse_17 : decode cX2_placeOfPurse 17 = .ok (.arraylength, 1) := by decide +kernel
theorem dX2_placeOfPurse_18 : decode cX2_placeOfPurse 18 = .ok (.if_icmp .ge 25, 3) := by decide +kernel
theorem dX2_placeOfPurse_21 : decode cX2_placeOfPurse 21 = .ok (.aload_n 0, 1) := by decide +kernel
theorem dX2_placeOfPurse_22 : decode cX2_placeOfPurse 22 = .ok (.getfield 40, 3) := by decide +kernel
theorem dX2_placeOfPurse_25 : decode cX2_placeOfPurse 25 = .ok (.iload_n 3, 1) := by decide +kernel
theorem dX2_placeOfPurse_26 : decode cX2_placeOfPurse 26 = .ok (.aaload, 1) := by decide +kernel
theorem dX2_placeOfPurse_27 : decode cX2_placeOfPurse 27 = .ok (.getfield 182, 3) := by decide +kernel
theorem dX2_placeOfPurse_30 : decode cX2_placeOfPurse 30 = .ok (.iload_n 1, 1) := by decide +kernel
theorem dX2_placeOfPurse_31 : decode cX2_placeOfPurse 31 = .ok (.if_icmp .le 6, 3) := by decide +kernel
theorem dX2_placeOfPurse_34 : decode cX2_placeOfPurse 34 = .ok (.iinc 2 1, 3) := by decide +kernel
theorem dX2_placeOfPurse_37 : decode cX2_placeOfPurse 37 = .ok (.iinc 3 1, 3) := by decide +kernel
theorem dX2_placeOfPurse_40 : decode cX2_placeOfPurse 40 = .ok (.goto (-36), 3) := by decide +kernel
theorem dX2_placeOfPurse_43 : decode cX2_placeOfPurse 43 = .ok (.iload_n 2, 1) := by decide +kernel
theorem dX2_placeOfPurse_44 : decode cX2_placeOfPurse 44 = .ok (.ireturn, 1) := by decide +kernel
/-! sums, places, tests, flights and prizes -/
theorem nI_0' : nI 0 = 0 := rfl
theorem k_nIinj {p q : Nat} (hp : p < 2 ^ 31) (hq : q < 2 ^ 31) (h : nI p = nI q) : p = q := by
  have := congrArg Int32.toNatClampNeg h
  rwa [nI_clamp hp, nI_clamp hq] at this
section Give
variable {G : Gp} {S : AMem} {I : Nat → Nat → Int32} {J : Nat → Nat → Int64} {R : Nat → Nat → Option Nat} {c : Nat} {B : BS} {m : MS}
theorem k_X2_allPurses (hct : CT S R c) (hB : AbB I c B) (hm : AbM I c B m) : Fn G mX2_allPurses 0 [vR c] (mw S I J R) (fun rr M1 => rr = some (vI (pursM B m)) ∧ M1 = mw S I J R) := by
  obtain ⟨kc, rc0, rc1, rc2, rc3, rc4, rc5, rc6, rc7, ⟨kd, rd0, rd1, rd2, kd2, ld2, kd3, ld3, kd4, ld4⟩, ⟨kb, rb, kb6, lb6⟩, ⟨kf, rf, kf8, lf8⟩, ⟨kr, lr, hr⟩, ⟨kfi, lfi, hfi⟩, ⟨kp, lp, hpz⟩, ⟨kt, lt, htu⟩, kw, lw⟩ := id hct
  obtain ⟨_, ⟨u3, u4⟩, _⟩ := hB
  obtain ⟨a1, _⟩ := hm
  refine am_iconst (q := 1) (v := 0) dX2_allPurses_0 kc_i0 rfl ?_
  refine am_istore_n (q := 2) (ls1 := [_, _, _]) dX2_allPurses_1 (Nat.le_of_ble_eq_true rfl) rfl rfl ?_
  refine am_iconst (q := 3) (v := 0) dX2_allPurses_2 kc_i0 rfl ?_
  refine am_istore_n (q := 4) (ls1 := [_, _, _]) dX2_allPurses_3 (Nat.le_of_ble_eq_true rfl) rfl rfl ?_
  refine k_loop (σ := Unit) (n := B.nF) (Inv := fun i _ => True) (W := fun i _ => MW G mX2_allPurses 0 4 [some (vR c), some (vI (sumM (fun i => m.fist i 4) i)), some (vI (nI i))] [] (mw S I J R) _) ?_ ?_ 0 () (Nat.zero_le _) trivial
  · rintro i ⟨⟩ hi _ ih
    obtain ⟨r1, r2⟩ := hfi i (by omega)
    have hin : vp_in (nI i) (S.ln (c + 10)) := by rw [lfi]; exact vp_in_nI (by omega) (by decide)
    have hR : R (c + 10) (nI i).toNatClampNeg = some (c + 22 + i) := by rw [nI_clamp (by omega)]; exact r1
    refine am_iload_n (q := 5) dX2_allPurses_4 rfl rfl ?_
    refine am_aload_n (q := 6) dX2_allPurses_5 rfl rfl ?_
    refine cm_getI (q := 9) dX2_allPurses_6 flX2_75 rfl (by assumption) rfl ?_
    rw [u3]
    refine am_icmp_ge (tgt := 39) (q := 12) dX2_allPurses_9 rfl rfl (fun hz => absurd hz (nI_ge (by omega) (by omega))) (fun _ => ?_)
    refine am_iload_n (q := 13) dX2_allPurses_12 rfl rfl ?_
    refine am_aload_n (q := 14) dX2_allPurses_13 rfl rfl ?_
    refine cm_getR (q := 17) dX2_allPurses_14 flX2_40 rfl (by assumption) (by assumption) rfl ?_
    refine cm_alenK (q := 18) dX2_allPurses_17 (by assumption) (by decide) (by rw [lfi] : nI (S.ln (c + 10)) = nI 8) rfl ?_
    refine am_icmp_ge (tgt := 39) (q := 21) dX2_allPurses_18 rfl rfl (fun hz => absurd hz (nI_ge (by omega) (by decide))) (fun _ => ?_)
    refine am_iload_n (q := 22) dX2_allPurses_21 rfl rfl ?_
    refine am_aload_n (q := 23) dX2_allPurses_22 rfl rfl ?_
    refine cm_getR (q := 26) dX2_allPurses_23 flX2_40 rfl (by assumption) (by assumption) rfl ?_
    refine am_iload_n (q := 27) dX2_allPurses_26 rfl rfl ?_
    refine cm_aaloadK (q := 28) dX2_allPurses_27 (by assumption) (by decide) hin hR rfl ?_
    refine cm_getI (q := 31) dX2_allPurses_28 flX2_182 rfl (by assumption) rfl ?_
    rw [a1 i hi 4 (by decide)]
    refine am_iadd (q := 32) dX2_allPurses_31 rfl ?_
    refine am_istore_n (q := 33) (ls1 := [_, _, _]) dX2_allPurses_32 (Nat.le_of_ble_eq_true rfl) rfl rfl ?_
    refine am_iincW (q := 36) (ls1 := [_, _, _]) (w := 1) dX2_allPurses_33 rfl (Nat.le_of_ble_eq_true rfl) kc_i1 rfl rfl ?_
    refine am_goto (tgt := 4) dX2_allPurses_36 rfl ?_
    rw [nI_1]
    exact ih () trivial
  · rintro ⟨⟩ _
    refine am_iload_n (q := 5) dX2_allPurses_4 rfl rfl ?_
    refine am_aload_n (q := 6) dX2_allPurses_5 rfl rfl ?_
    refine cm_getI (q := 9) dX2_allPurses_6 flX2_75 rfl (by assumption) rfl ?_
    rw [u3]
    refine am_icmp_ge (tgt := 39) (q := 12) dX2_allPurses_9 rfl rfl (fun _ => ?_) (fun hz => absurd (Int32.le_refl _) hz)
    refine am_iload_n (q := 40) dX2_allPurses_39 rfl rfl ?_
    exact am_iret dX2_allPurses_40 rfl rfl ⟨_, rfl, rfl, rfl⟩
theorem k_X2_placeOfPurse {p : Int32} (hct : CT S R c) (hB : AbB I c B) (hm : AbM I c B m) : Fn G mX2_placeOfPurse 0 [vR c, vI p] (mw S I J R) (fun rr M1 => rr = some (vI (plcM B m p)) ∧ M1 = mw S I J R) := by
  obtain ⟨kc, rc0, rc1, rc2, rc3, rc4, rc5, rc6, rc7, ⟨kd, rd0, rd1, rd2, kd2, ld2, kd3, ld3, kd4, ld4⟩, ⟨kb, rb, kb6, lb6⟩, ⟨kf, rf, kf8, lf8⟩, ⟨kr, lr, hr⟩, ⟨kfi, lfi, hfi⟩, ⟨kp, lp, hpz⟩, ⟨kt, lt, htu⟩, kw, lw⟩ := id hct
  obtain ⟨_, ⟨u3, u4⟩, _⟩ := hB
  obtain ⟨a1, _⟩ := hm
  refine am_iconst (q := 1) (v := 1) dX2_placeOfPurse_0 kc_i1 rfl ?_
  refine am_istore_n (q := 2) (ls1 := [_, _, _, _]) dX2_placeOfPurse_1 (Nat.le_of_ble_eq_true rfl) rfl rfl ?_
  refine am_iconst (q := 3) (v := 0) dX2_placeOfPurse_2 kc_i0 rfl ?_
  refine am_istore_n (q := 4) (ls1 := [_, _, _, _]) dX2_placeOfPurse_3 (Nat.le_of_ble_eq_true rfl) rfl rfl ?_
  refine k_loop (σ := Unit) (n := B.nF) (Inv := fun i _ => True) (W := fun i _ => MW G mX2_placeOfPurse 0 4 [some (vR c), some (vI p), some (vI (1 + sumM (fun i => bI (p < m.fist i 4)) i)), some (vI (nI i))] [] (mw S I J R) _) ?_ ?_ 0 () (Nat.zero_le _) trivial
  · rintro i ⟨⟩ hi _ ih
    obtain ⟨r1, r2⟩ := hfi i (by omega)
    have hin : vp_in (nI i) (S.ln (c + 10)) := by rw [lfi]; exact vp_in_nI (by omega) (by decide)
    have hR : R (c + 10) (nI i).toNatClampNeg = some (c + 22 + i) := by rw [nI_clamp (by omega)]; exact r1
    have ih := ih () trivial
    dsimp only [sumM] at ih
    refine am_iload_n (q := 5) dX2_placeOfPurse_4 rfl rfl ?_
    refine am_aload_n (q := 6) dX2_placeOfPurse_5 rfl rfl ?_
    refine cm_getI (q := 9) dX2_placeOfPurse_6 flX2_75 rfl (by assumption) rfl ?_
    rw [u3]
    refine am_icmp_ge (tgt := 43) (q := 12) dX2_placeOfPurse_9 rfl rfl (fun hz => absurd hz (nI_ge (by omega) (by omega))) (fun _ => ?_)
    refine am_iload_n (q := 13) dX2_placeOfPurse_12 rfl rfl ?_
    refine am_aload_n (q := 14) dX2_placeOfPurse_13 rfl rfl ?_
    refine cm_getR (q := 17) dX2_placeOfPurse_14 flX2_40 rfl (by assumption) (by assumption) rfl ?_
    refine cm_alenK (q := 18) dX2_placeOfPurse_17 (by assumption) (by decide) (by rw [lfi] : nI (S.ln (c + 10)) = nI 8) rfl ?_
    refine am_icmp_ge (tgt := 43) (q := 21) dX2_placeOfPurse_18 rfl rfl (fun hz => absurd hz (nI_ge (by omega) (by decide))) (fun _ => ?_)
    refine am_aload_n (q := 22) dX2_placeOfPurse_21 rfl rfl ?_
    refine cm_getR (q := 25) dX2_placeOfPurse_22 flX2_40 rfl (by assumption) (by assumption) rfl ?_
    refine am_iload_n (q := 26) dX2_placeOfPurse_25 rfl rfl ?_
    refine cm_aaloadK (q := 27) dX2_placeOfPurse_26 (by assumption) (by decide) hin hR rfl ?_
    refine cm_getI (q := 30) dX2_placeOfPurse_27 flX2_182 rfl (by assumption) rfl ?_
    rw [a1 i hi 4 (by decide)]
    refine am_iload_n (q := 31) dX2_placeOfPurse_30 rfl rfl ?_
    refine am_icmp_le (tgt := 37) (q := 34) dX2_placeOfPurse_31 rfl rfl (fun hc => ?_) (fun hc => ?_)
    · rw [bI_f (Int32.not_lt.mpr hc), Int32.add_zero] at ih
      refine am_iincW (q := 40) (ls1 := [_, _, _, _]) (w := 1) dX2_placeOfPurse_37 rfl (Nat.le_of_ble_eq_true rfl) kc_i1 rfl rfl ?_
      refine am_goto (tgt := 4) dX2_placeOfPurse_40 rfl ?_
      rw [nI_1]
      exact ih
    · rw [bI_t (Int32.not_le.mp hc), ← Int32.add_assoc] at ih
      refine am_iincW (q := 37) (ls1 := [_, _, _, _]) (w := 1) dX2_placeOfPurse_34 rfl (Nat.le_of_ble_eq_true rfl) kc_i1 rfl rfl ?_
      refine am_iincW (q := 40) (ls1 := [_, _, _, _]) (w := 1) dX2_placeOfPurse_37 rfl (Nat.le_of_ble_eq_true rfl) kc_i1 rfl rfl ?_
      refine am_goto (tgt := 4) dX2_placeOfPurse_40 rfl ?_
      rw [nI_1]
      exact ih
  · rintro ⟨⟩ _
    refine am_iload_n (q := 5) dX2_placeOfPurse_4 rfl rfl ?_
    refine am_aload_n (q := 6) dX2_placeOfPurse_5 rfl rfl ?_
    refine cm_getI (q := 9) dX2_placeOfPurse_6 flX2_75 rfl (by assumption) rfl ?_
    rw [u3]
    refine am_icmp_ge (tgt := 43) (q := 12) dX2_placeOfPurse_9 rfl rfl (fun _ => ?_) (fun hz => absurd (Int32.le_refl _) hz)
    refine am_iload_n (q := 44) dX2_placeOfPurse_43 rfl rfl ?_
    exact am_iret dX2_placeOfPurse_44 rfl rfl ⟨_, rfl, rfl, rfl⟩
/-- the last place of a turn in the row -/
def lstM (m : MS) (t : Int32) : Nat → Int32
  | 0 => 0
  | n + 1 => if nI (m.row n) = t then nI n else lstM m t n
theorem k_X2_placeInRow {t : Int32} (hct : CT S R c) (hB : AbB I c B) (hm : AbM I c B m) : Fn G mX2_placeInRow 0 [vR c, vI t] (mw S I J R) (fun rr M1 => rr = some (vI (lstM m t B.nT)) ∧ M1 = mw S I J R) := by
  obtain ⟨kc, rc0, rc1, rc2, rc3, rc4, rc5, rc6, rc7, ⟨kd, rd0, rd1, rd2, kd2, ld2, kd3, ld3, kd4, ld4⟩, ⟨kb, rb, kb6, lb6⟩, ⟨kf, rf, kf8, lf8⟩, ⟨kr, lr, hr⟩, ⟨kfi, lfi, hfi⟩, ⟨kp, lp, hpz⟩, ⟨kt, lt, htu⟩, kw, lw⟩ := id hct
  obtain ⟨_, _, _, ⟨u3, u4⟩, _⟩ := hB
  obtain ⟨_, _, _, _, _, a1, _⟩ := hm
  refine am_iconst (q := 1) (v := 0) dX2_placeInRow_0 kc_i0 rfl ?_
  refine am_istore_n (q := 2) (ls1 := [_, _, _, _]) dX2_placeInRow_1 (Nat.le_of_ble_eq_true rfl) rfl rfl ?_
  refine am_iconst (q := 3) (v := 0) dX2_placeInRow_2 kc_i0 rfl ?_
  refine am_istore_n (q := 4) (ls1 := [_, _, _, _]) dX2_placeInRow_3 (Nat.le_of_ble_eq_true rfl) rfl rfl ?_
  refine k_loop (σ := Unit) (n := B.nT) (Inv := fun i _ => True) (W := fun i _ => MW G mX2_placeInRow 0 4 [some (vR c), some (vI t), some (vI (lstM m t i)), some (vI (nI i))] [] (mw S I J R) _) ?_ ?_ 0 () (Nat.zero_le _) trivial
  · rintro i ⟨⟩ hi _ ih
    have hin : vp_in (nI i) (S.ln (c + 13)) := by rw [lw]; exact vp_in_nI (by omega) (by decide)
    have ih := ih () trivial
    dsimp only [lstM] at ih
    refine am_iload_n (q := 5) dX2_placeInRow_4 rfl rfl ?_
    refine am_aload_n (q := 6) dX2_placeInRow_5 rfl rfl ?_
    refine cm_getI (q := 9) dX2_placeInRow_6 flX2_81 rfl (by assumption) rfl ?_
    rw [u3]
    refine am_icmp_ge (tgt := 39) (q := 12) dX2_placeInRow_9 rfl rfl (fun hz => absurd hz (nI_ge (by omega) (by omega))) (fun _ => ?_)
    refine am_iload_n (q := 13) dX2_placeInRow_12 rfl rfl ?_
    refine am_aload_n (q := 14) dX2_placeInRow_13 rfl rfl ?_
    refine cm_getR (q := 17) dX2_placeInRow_14 flX2_56 rfl (by assumption) (by assumption) rfl ?_
    refine cm_alenI (q := 18) dX2_placeInRow_17 (by assumption) (by rw [lw] : nI (S.ln (c + 13)) = nI 20) rfl ?_
    refine am_icmp_ge (tgt := 39) (q := 21) dX2_placeInRow_18 rfl rfl (fun hz => absurd hz (nI_ge (by omega) (by decide))) (fun _ => ?_)
    refine am_aload_n (q := 22) dX2_placeInRow_21 rfl rfl ?_
    refine cm_getR (q := 25) dX2_placeInRow_22 flX2_56 rfl (by assumption) (by assumption) rfl ?_
    refine am_iload_n (q := 26) dX2_placeInRow_25 rfl rfl ?_
    refine cm_iaload (q := 27) dX2_placeInRow_26 (by assumption) hin rfl ?_
    rw [nI_clamp (by omega), (a1 i hi).1]
    refine am_iload_n (q := 28) dX2_placeInRow_27 rfl rfl ?_
    refine am_icmp_ne (tgt := 33) (q := 31) dX2_placeInRow_28 rfl rfl (fun hc => ?_) (fun hc => ?_)
    · rw [if_neg hc] at ih
      refine am_iincW (q := 36) (ls1 := [_, _, _, _]) (w := 1) dX2_placeInRow_33 rfl (Nat.le_of_ble_eq_true rfl) kc_i1 rfl rfl ?_
      refine am_goto (tgt := 4) dX2_placeInRow_36 rfl ?_
      rw [nI_1]
      exact ih
    · rw [if_pos hc] at ih
      refine am_iload_n (q := 32) dX2_placeInRow_31 rfl rfl ?_
      refine am_istore_n (q := 33) (ls1 := [_, _, _, _]) dX2_placeInRow_32 (Nat.le_of_ble_eq_true rfl) rfl rfl ?_
      refine am_iincW (q := 36) (ls1 := [_, _, _, _]) (w := 1) dX2_placeInRow_33 rfl (Nat.le_of_ble_eq_true rfl) kc_i1 rfl rfl ?_
      refine am_goto (tgt := 4) dX2_placeInRow_36 rfl ?_
      rw [nI_1]
      exact ih
  · rintro ⟨⟩ _
    refine am_iload_n (q := 5) dX2_placeInRow_4 rfl rfl ?_
    refine am_aload_n (q := 6) dX2_placeInRow_5 rfl rfl ?_
    refine cm_getI (q := 9) dX2_placeInRow_6 flX2_81 rfl (by assumption) rfl ?_
    rw [u3]
    refine am_icmp_ge (tgt := 39) (q := 12) dX2_placeInRow_9 rfl rfl (fun _ => ?_) (fun hz => absurd (Int32.le_refl _) hz)
    refine am_iload_n (q := 40) dX2_placeInRow_39 rfl rfl ?_
    exact am_iret dX2_placeInRow_40 rfl rfl ⟨_, rfl, rfl, rfl⟩
/-- a reckoning of what is told -/
theorem k_rk {p q : Nat} {s : Sem} (hG : okG G) (hct : CT S R c) (hB : AbB I c B) (hm : AbM I c B m) (hpq : p ≤ q) {z : Nat} (hz : I (c + 1) 4 = nI z) (hz4 : z ≤ 400) (hqz : q ≤ z) (hs : SegC I c p q s) : Fn G mX1_reckon 2 [vR (c + 1), vI (nI p), vI (nI q), vR c] (mw S I J R) (fun rr M1 => rr = some (vI (s (rdM B m))) ∧ ∃ I1, M1 = mw S I1 J R ∧ Qt c I I1) := by
  have hct2 := hct
  obtain ⟨kc, rc0, rc1, rc2, rc3, rc4, rc5, rc6, rc7, ⟨kd, rd0, rd1, rd2, kd2, ld2, kd3, ld3, kd4, ld4⟩, ⟨kb, rb, kb6, lb6⟩, ⟨kf, rf, kf8, lf8⟩, ⟨kr, lr, hr⟩, ⟨kfi, lfi, hfi⟩, ⟨kp, lp, hpz⟩, ⟨kt, lt, htu⟩, kw, lw⟩ := id hct2
  have h := k_X1_reckon (G := G) (S := S) (I := I) (J := J) (R := R) (rd := rdM B m) (p := p) (n := q - p) (z := z) hG kd rd2 kd4 ld4 rd0 kd2 ld2 rd1 kd3 ld3 (by omega) (by omega) kc hz (by omega) hz4 (fun I1 k g ho e1 e2 => k_X2_reading hG hct (hB.qt ho.qt) (AbM.qt hB hm ho.qt) e1 e2)
  rw [show p + (q - p) = q by omega] at h
  refine MW.weaken h ?_
  rintro f M1 ⟨r, e1, e2, I1, e3, e4⟩
  exact ⟨r, e1, by rw [e2, hs], I1, e3, e4.qt⟩
theorem k_X2_isDue {t : Nat} (hG : okG G) (hct : CT S R c) (hB : AbB I c B) (hm : AbM I c B m) (ht : t < B.nT) : Fn G mX2_isDue 3 [vR c, vR (c + 38 + t)] (mw S I J R) (fun rr M1 => ∃ v, rr = some (vI v) ∧ (v ≠ 0 ↔ dueM B m t) ∧ ∃ I1, M1 = mw S I1 J R ∧ Qt c I I1) := by
  have hct2 := hct
  obtain ⟨kc, rc0, rc1, rc2, rc3, rc4, rc5, rc6, rc7, ⟨kd, rd0, rd1, rd2, kd2, ld2, kd3, ld3, kd4, ld4⟩, ⟨kb, rb, kb6, lb6⟩, ⟨kf, rf, kf8, lf8⟩, ⟨kr, lr, hr⟩, ⟨kfi, lfi, hfi⟩, ⟨kp, lp, hpz⟩, ⟨kt, lt, htu⟩, kw, lw⟩ := id hct2
  obtain ⟨_, _, _, ⟨_, u4⟩, _, _, z, hz, hz4, htt, _⟩ := id hB
  obtain ⟨p, q, e1, e2, e3, e4, e5⟩ := htt t ht
  obtain ⟨r1, r2⟩ := htu t (by omega)
  unfold dueM
  refine am_aload_n (q := 1) dX2_isDue_0 rfl rfl ?_
  refine cm_getI (q := 4) dX2_isDue_1 flX2_228 rfl (by assumption) rfl ?_
  refine am_aload_n (q := 5) dX2_isDue_4 rfl rfl ?_
  refine cm_getI (q := 8) dX2_isDue_5 flX2_229 rfl (by assumption) rfl ?_
  rw [e1, e2]
  cases hh : B.tt t with
  | none =>
    rw [hh] at e5
    refine am_icmp_eq (tgt := 30) (q := 11) dX2_isDue_8 rfl rfl (fun _ => ?_) (fun hz => absurd (show nI p = nI q from congrArg nI e5) hz)
    refine am_iconst (q := 31) (v := 1) dX2_isDue_30 kc_i1 rfl ?_
    refine am_goto (tgt := 35) dX2_isDue_31 rfl ?_
    exact am_iret dX2_isDue_35 rfl rfl ⟨_, rfl, 1, rfl, ⟨fun _ => trivial, fun _ => by decide⟩, I, rfl, Qt.rf⟩
  | some s =>
    rw [hh] at e5
    obtain ⟨e5, e6⟩ := e5
    refine am_icmp_eq (tgt := 30) (q := 11) dX2_isDue_8 rfl rfl (fun hz => absurd hz (show ¬ nI p = nI q from fun e => absurd (k_nIinj (by omega) (by omega) e) (by omega))) (fun _ => ?_)
    refine am_aload_n (q := 12) dX2_isDue_11 rfl rfl ?_
    refine cm_getR (q := 15) dX2_isDue_12 flX2_12 rfl (by assumption) (by assumption) rfl ?_
    refine am_aload_n (q := 16) dX2_isDue_15 rfl rfl ?_
    refine cm_getI (q := 19) dX2_isDue_16 flX2_228 rfl (by assumption) rfl ?_
    refine am_aload_n (q := 20) dX2_isDue_19 rfl rfl ?_
    refine cm_getI (q := 23) dX2_isDue_20 flX2_229 rfl (by assumption) rfl ?_
    rw [e1, e2]
    refine am_aload_n (q := 24) dX2_isDue_23 rfl rfl ?_
    refine cm_call0 (q := 27) (As := [_, _, _]) hG dX2_isDue_24 mlX2_205 rfl (by assumption) ⟨_, _, rfl⟩ (Nat.le_of_ble_eq_true rfl) (Nat.le_of_ble_eq_true rfl) (Nat.le_of_ble_eq_true rfl) (Nat.le_of_ble_eq_true rfl) (k_rk hG hct hB hm e3 hz hz4 e4 e6) rfl ?_
    rintro _ _ ⟨rfl, I1, rfl, hq⟩
    refine am_if_eq (tgt := 34) (q := 30) dX2_isDue_27 rfl rfl (fun hc => ?_) (fun hc => ?_)
    · refine am_iconst (q := 35) (v := 0) dX2_isDue_34 kc_i0 rfl ?_
      exact am_iret dX2_isDue_35 rfl rfl ⟨_, rfl, 0, rfl, ⟨fun h => absurd rfl h, fun h => absurd hc h⟩, I1, rfl, hq⟩
    · refine am_iconst (q := 31) (v := 1) dX2_isDue_30 kc_i1 rfl ?_
      refine am_goto (tgt := 35) dX2_isDue_31 rfl ?_
      exact am_iret dX2_isDue_35 rfl rfl ⟨_, rfl, 1, rfl, ⟨fun _ => hc, fun _ => by decide⟩, I1, rfl, hq⟩
/-- what the last flight is -/
def FlyM (I : Nat → Nat → Int32) (c : Nat) (s : Nat → Int32 × Int32 × Int32 × Int32 × Nat × Int32) : Prop :=
  I (c + 7) 4 = (s 300).1 ∧ I (c + 7) 5 = (s 300).2.1 ∧ I (c + 7) 1 = (s 300).2.2.1 ∧ I (c + 7) 2 = (s 300).2.2.2.1 ∧ I (c + 7) 3 = nI (s 300).2.2.2.2.1 ∧ I (c + 7) 6 = (s 300).2.2.2.2.2 ∧ ∀ t, 1 ≤ t → t ≤ (s 300).2.2.2.2.1 → I (c + 8) t = (s t).1
theorem k_flyM {f r : Nat} {arm : Int32} (hG : okG G) (hct : CT S R c) (hB : AbB I c B) (hm : AbM I c B m) (hr : r < B.nR) : Fn G mX4_fly 2 [vR (c + 7), vR (c + 14 + 2 * r), vI (fcM m f arm)] (mw S I J R) (fun rr M1 => rr = none ∧ ∃ I1, M1 = mw S I1 J R ∧ Qt c I I1 ∧ FlyM I1 c (flM B m f r arm)) := by
  have hct2 := hct
  have hrr := hr
  obtain ⟨kc, rc0, rc1, rc2, rc3, rc4, rc5, rc6, rc7, ⟨kd, rd0, rd1, rd2, kd2, ld2, kd3, ld3, kd4, ld4⟩, ⟨kb, rb, kb6, lb6⟩, ⟨kf, rf, kf8, lf8⟩, ⟨kr, lr, hr⟩, ⟨kfi, lfi, hfi⟩, ⟨kp, lp, hpz⟩, ⟨kt, lt, htu⟩, kw, lw⟩ := id hct2
  obtain ⟨⟨_, u2⟩, _, _, _, hru, _⟩ := hB
  obtain ⟨a1, a2, a3, a4, a5, a6, a7, a8, a9, a10, a11⟩ := hm
  obtain ⟨r1, r2, r3, r4, r5⟩ := hr r (by omega)
  have e0 : I (c + 14 + 2 * r) 2 = m.rail r 0 := a2 r hrr 0 (by decide)
  have e1 : I (c + 14 + 2 * r) 3 = m.rail r 1 := a2 r hrr 1 (by decide)
  have e2 : I (c + 14 + 2 * r) 4 = m.rail r 2 := a2 r hrr 2 (by decide)
  have eu : ruC I (c + 15 + 2 * r) = ruM B r := by
    funext p
    unfold ruC ruM
    by_cases hp : 0 ≤ p ∧ p < 100
    · rw [if_pos hp, if_pos hp]
      obtain ⟨k, hk, rfl⟩ := k_ix (n := 100) (Int32.not_lt.mpr hp.1) hp.2 (by decide)
      rw [nI_clamp (by omega)]
      exact hru r hrr k hk
    · rw [if_neg hp, if_neg hp]
  have h := k_X4_fly (G := G) (S := S) (I := I) (J := J) (R := R) (f := fcM m f arm) hG kf rf kf8 lf8 r2 r3 r4 r5 (by omega) (by rw [e1]; exact a10 r hrr)
  refine MW.weaken h ?_
  rintro g M1 ⟨rr, h1, h2, I1, h3, h4⟩
  unfold FlyC at h4
  rw [e0, e1, e2, eu] at h4
  obtain ⟨h5, h6⟩ := h4
  refine ⟨rr, h1, h2, I1, h3, fun x j _ _ q1 q2 => h5 x j q1 q2, ?_⟩
  unfold FlyM flM
  exact h6
theorem k_fcM {f : Nat} {arm : Int32} (hct : CT S R c) (hB : AbB I c B) (hm : AbM I c B m) (hf : f < B.nF) : Fn G mX3_forceWithArm 0 [vR (c + 22 + f), vI arm] (mw S I J R) (fun rr M1 => rr = some (vI (fcM m f arm)) ∧ M1 = mw S I J R) := by
  have hct2 := hct
  have hff := hf
  obtain ⟨kc, rc0, rc1, rc2, rc3, rc4, rc5, rc6, rc7, ⟨kd, rd0, rd1, rd2, kd2, ld2, kd3, ld3, kd4, ld4⟩, ⟨kb, rb, kb6, lb6⟩, ⟨kf, rf, kf8, lf8⟩, ⟨kr, lr, hr⟩, ⟨kfi, lfi, hfi⟩, ⟨kp, lp, hpz⟩, ⟨kt, lt, htu⟩, kw, lw⟩ := id hct2
  obtain ⟨_, ⟨_, u2⟩, _⟩ := hB
  obtain ⟨a1, _⟩ := hm
  obtain ⟨r1, r2⟩ := hfi f (by omega)
  have h := k_X3_forceWithArm (G := G) (S := S) (I := I) (J := J) (R := R) (p := arm) r2
  have e1 : I (c + 22 + f) 2 = m.fist f 1 := a1 f hff 1 (by decide)
  have e2 : I (c + 22 + f) 4 = m.fist f 3 := a1 f hff 3 (by decide)
  rw [e1, e2] at h
  exact h
end Give

