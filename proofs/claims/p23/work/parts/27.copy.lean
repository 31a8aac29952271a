theorem dX1_add_0 : decode cX1_add 0 = .ok (.aload_n 0, 1) := by decide +kernel
theorem dX1_add_1 : decode cX1_add 1 = .ok (.getfield 23, 3) := by decide +kernel
theorem dX1_add_4 : decode cX1_add 4 = .ok (.ifCond .lt 57, 3) := by decide +kernel
theorem dX1_add_7 : decode cX1_add 7 = .ok (.aload_n 0, 1) := by decide +kernel
theorem dX1_add_8 : decode cX1_add 8 = .ok (.getfield 23, 3) := by decide +kernel
theorem dX1_add_11 : decode cX1_add 11 = .ok (.aload_n 0, 1) := by decide +kernel
theorem dX1_add_12 : decode cX1_add 12 = .ok (.getfield 11, 3) := by decide +kernel
theorem dX1_add_15 : decode cX1_add 15 = .ok (.arraylength, 1) := by decide +kernel
theorem dX1_add_16 : decode cX1_add 16 = .ok (.if_icmp .ge 45, 3) := by decide +kernel
theorem dX1_add_19 : decode cX1_add 19 = .ok (.aload_n 0, 1) := by decide +kernel
theorem dX1_add_20 : decode cX1_add 20 = .ok (.getfield 23, 3) := by decide +kernel
theorem dX1_add_23 : decode cX1_add 23 = .ok (.aload_n 0, 1) := by decide +kernel
theorem dX1_add_24 : decode cX1_add 24 = .ok (.getfield 17, 3) := by decide +kernel
theorem dX1_add_27 : decode cX1_add 27 = .ok (.arraylength, 1) := by decide +kernel
theorem dX1_add_28 : decode cX1_add 28 = .ok (.if_icmp .ge 33, 3) := by decide +kernel
theorem dX1_add_31 : decode cX1_add 31 = .ok (.aload_n 0, 1) := by decide +kernel
theorem dX1_add_32 : decode cX1_add 32 = .ok (.getfield 11, 3) := by decide +kernel
theorem dX1_add_35 : decode cX1_add 35 = .ok (.aload_n 0, 1) := by decide +kernel
theorem dX1_add_36 : decode cX1_add 36 = .ok (.getfield 23, 3) := by decide +kernel
theorem dX1_add_39 : decode cX1_add 39 = .ok (.iload_n 1, 1) := by decide +kernel
theorem dX1_add_40 : decode cX1_add 40 = .ok (.iastore, 1) := by decide +kernel
theorem dX1_add_41 : decode cX1_add 41 = .ok (.aload_n 0, 1) := by decide +kernel
theorem dX1_add_42 : decode cX1_add 42 = .ok (.getfield 17, 3) := by decide +kernel
theorem dX1_add_45 : decode cX1_add 45 = .ok (.aload_n 0, 1) := by decide +kernel
theorem dX1_add_46 : decode cX1_add 46 = .ok (.getfield 23, 3) := by decide +kernel
theorem dX1_add_49 : decode cX1_add 49 = .ok (.iload_n 2, 1) := by decide +kernel
theorem dX1_add_50 : decode cX1_add 50 = .ok (.iastore, 1) := by decide +kernel
theorem dX1_add_51 : decode cX1_add 51 = .ok (.aload_n 0, 1) := by decide +kernel
theorem dX1_add_52 : decode cX1_add 52 = .ok (.dup, 1) := by decide +kernel
theorem dX1_add_53 : decode cX1_add 53 = .ok (.getfield 23, 3) := by decide +kernel
theorem dX1_add_56 : decode cX1_add 56 = .ok (.iconst 1, 1) := by decide +kernel
theorem dX1_add_57 : decode cX1_add 57 = .ok (.iadd, 1) := by decide +kernel
theorem dX1_add_58 : decode cX1_add 58 = .ok (.putfield 23, 3) := by decide +kernel
theorem dX1_add_61 : decode cX1_add 61 = .ok (.return_, 1) := by decide +kernel
theorem dX1_copyFrom_0 : decode cX1_copyFrom 0 = .ok (.aload_n 0, 1) := by decide +kernel
theorem dX1_copyFrom_1 : decode cX1_copyFrom 1 = .ok (.iconst 0, 1) := by decide +kernel
theorem dX1_copyFrom_2 : decode cX1_copyFrom 2 = .ok (.putfield 23, 3) := by decide +kernel
theorem dX1_copyFrom_5 : decode cX1_copyFrom 5 = .ok (.iconst 0, 1) := by decide +kernel
theorem dX1_copyFrom_6 : decode cX1_copyFrom 6 = .ok (.istore_n 2, 1) := by decide +kernel
theorem dX1_copyFrom_7 : decode cX1_copyFrom 7 = .ok (.iload_n 2, 1) := by decide +kernel
theorem dX1_copyFrom_8 : decode cX1_copyFrom 8 = .ok (.aload_n 1, 1) := by decide +kernel
theorem dX1_copyFrom_9 : decode cX1_copyFrom 9 = .ok (.getfield 23, 3) := by decide +kernel
theorem dX1_copyFrom_12 : decode cX1_copyFrom 12 = .ok (.if_icmp .ge 43, 3) := by decide +kernel
theorem dX1_copyFrom_15 : decode cX1_copyFrom 15 = .ok (.iload_n 2, 1) := by decide +kernel
theorem dX1_copyFrom_16 : decode cX1_copyFrom 16 = .ok (.aload_n 1, 1) := by decide +kernel
theorem dX1_copyFrom_17 : decode cX1_copyFrom 17 = .ok (.getfield 11, 3) := by decide +kernel
theorem dX1_copyFrom_20 : decode cX1_copyFrom 20 = .ok (.arraylength, 1) := by decide +kernel
theorem dX1_copyFrom_21 : decode cX1_copyFrom 21 = .ok (.if_icmp .ge 34, 3) := by decide +kernel
theorem dX1_copyFrom_24 : decode cX1_copyFrom 24 = .ok (.iload_n 2, 1) := by decide +kernel
theorem dX1_copyFrom_25 : decode cX1_copyFrom 25 = .ok (.aload_n 1, 1) := by decide +kernel
theorem dX1_copyFrom_26 : decode cX1_copyFrom 26 = .ok (.getfield 17, 3) := by decide +kernel
theorem dX1_copyFrom_29 : decode cX1_copyFrom 29 = .ok (.arraylength, 1) := by decide +kernel
theorem dX1_copyFrom_30 : decode cX1_copyFrom 30 = .ok (.if_icmp .ge 25, 3) := by decide +kernel
theorem dX1_copyFrom_33 : decode cX1_copyFrom 33 = .ok (.aload_n 0, 1) := by decide +kernel
theorem dX1_copyFrom_34 : decode cX1_copyFrom 34 = .ok (.aload_n 1, 1) := by decide +kernel
theorem dX1_copyFrom_35 : decode cX1_copyFrom 35 = .ok (.getfield 11, 3) := by decide +kernel
theorem dX1_copyFrom_38 : decode cX1_copyFrom 38 = .ok (.iload_n 2, 1) := by decide +kernel
theorem dX1_copyFrom_39 : decode cX1_copyFrom 39 = .ok (.iaload, 1) := by decide +kernel
theorem dX1_copyFrom_40 : decode cX1_copyFrom 40 = .ok (.aload_n 1, 1) := by decide +kernel
theorem dX1_copyFrom_41 : decode cX1_copyFrom 41 = .ok (.getfield 17, 3) := by decide +kernel
theorem dX1_copyFrom_44 : decode cX1_copyFrom 44 = .ok (.iload_n 2, 1) := by decide +kernel
theorem dX1_copyFrom_45 : decode cX1_copyFrom 45 = .ok (.iaload, 1) := by decide +kernel
theorem dX1_copyFrom_46 : decode cX1_copyFrom 46 = .ok (.invokevirtual 27, 3) := by decide +kernel
theorem dX1_copyFrom_49 : decode cX1_copyFrom 49 = .ok (.iinc 2 1, 3) := by decide +kernel
theorem dX1_copyFrom_52 : decode cX1_copyFrom 52 = .ok (.goto (-45), 3) := by decide +kernel
theorem dX1_copyFrom_55 : decode cX1_copyFrom 55 = .ok (.return_, 1) := by decide +kernel
/-! code and contests are copied -/
section CopyA
variable {G : Gp} {S : AMem} {I : Nat → Nat → Int32} {J : Nat → Nat → Int64} {R : Nat → Nat → Option Nat} {a kk aa a2 kk2 aa2 : Nat}
theorem k_X1_add {k g : Int32} {z : Nat} (h1 : S.K a = 2) (g1 : R a 0 = some kk) (g2 : S.K kk = 20) (g3 : S.ln kk = 400) (g4 : R a 1 = some aa) (g5 : S.K aa = 20) (g6 : S.ln aa = 400) (hka : kk ≠ aa) (hz : I a 4 = nI z) (hz4 : z < 400) : Fn G mX1_add 0 [vR a, vI k, vI g] (mw S I J R) (fun rr M1 => rr = none ∧ M1 = mw S (fun x j => if x = kk ∧ j = z then k else if x = aa ∧ j = z then g else if x = a ∧ j = 4 then nI (z + 1) else I x j) J R) := by
  have n1 : a ≠ kk := fun e => by rw [e, g2] at h1; exact absurd h1 (by decide)
  have n2 : a ≠ aa := fun e => by rw [e, g5] at h1; exact absurd h1 (by decide)
  have hin : vp_in (nI z) (S.ln kk) := by rw [g3]; exact vp_in_nI (by omega) (by decide)
  have hin2 : vp_in (nI z) (S.ln aa) := by rw [g6]; exact vp_in_nI (by omega) (by decide)
  have hcl : (nI z).toNatClampNeg = z := nI_clamp (by omega)
  refine am_aload_n (q := 1) dX1_add_0 rfl rfl ?_
  refine cm_getI (q := 4) dX1_add_1 flX1_23 rfl (by assumption) rfl ?_
  rw [hz]
  refine am_if_lt (tgt := 61) (q := 7) dX1_add_4 rfl rfl (fun hz => absurd hz (nI_pos (by omega))) (fun _ => ?_)
  refine am_aload_n (q := 8) dX1_add_7 rfl rfl ?_
  refine cm_getI (q := 11) dX1_add_8 flX1_23 rfl (by assumption) rfl ?_
  rw [hz]
  refine am_aload_n (q := 12) dX1_add_11 rfl rfl ?_
  refine cm_getR (q := 15) dX1_add_12 flX1_11 rfl (by assumption) (by assumption) rfl ?_
  refine cm_alenI (q := 16) dX1_add_15 (by assumption) (by rw [g3] : nI (S.ln kk) = nI 400) rfl ?_
  refine am_icmp_ge (tgt := 61) (q := 19) dX1_add_16 rfl rfl (fun hz => absurd hz (nI_ge (by omega) (by decide))) (fun _ => ?_)
  refine am_aload_n (q := 20) dX1_add_19 rfl rfl ?_
  refine cm_getI (q := 23) dX1_add_20 flX1_23 rfl (by assumption) rfl ?_
  rw [hz]
  refine am_aload_n (q := 24) dX1_add_23 rfl rfl ?_
  refine cm_getR (q := 27) dX1_add_24 flX1_17 rfl (by assumption) (by assumption) rfl ?_
  refine cm_alenI (q := 28) dX1_add_27 (by assumption) (by rw [g6] : nI (S.ln aa) = nI 400) rfl ?_
  refine am_icmp_ge (tgt := 61) (q := 31) dX1_add_28 rfl rfl (fun hz => absurd hz (nI_ge (by omega) (by decide))) (fun _ => ?_)
  refine am_aload_n (q := 32) dX1_add_31 rfl rfl ?_
  refine cm_getR (q := 35) dX1_add_32 flX1_11 rfl (by assumption) (by assumption) rfl ?_
  refine am_aload_n (q := 36) dX1_add_35 rfl rfl ?_
  refine cm_getI (q := 39) dX1_add_36 flX1_23 rfl (by assumption) rfl ?_
  rw [hz]
  refine am_iload_n (q := 40) dX1_add_39 rfl rfl ?_
  refine cm_iastore (q := 41) dX1_add_40 (by assumption) hin rfl ?_
  refine am_aload_n (q := 42) dX1_add_41 rfl rfl ?_
  refine cm_getR (q := 45) dX1_add_42 flX1_17 rfl (by assumption) (by assumption) rfl ?_
  refine am_aload_n (q := 46) dX1_add_45 rfl rfl ?_
  refine cm_getI (q := 49) dX1_add_46 flX1_23 rfl (by assumption) rfl ?_
  rw [hcl, up2_a n1, hz]
  refine am_iload_n (q := 50) dX1_add_49 rfl rfl ?_
  refine cm_iastore (q := 51) dX1_add_50 (by assumption) hin2 rfl ?_
  refine am_aload_n (q := 52) dX1_add_51 rfl rfl ?_
  refine am_dup (q := 53) dX1_add_52 rfl rfl ?_
  refine cm_getI (q := 56) dX1_add_53 flX1_23 rfl (by assumption) rfl ?_
  rw [hcl, up2_a n2, up2_a n1, hz]
  refine am_iconst (q := 57) (v := 1) dX1_add_56 kc_i1 rfl ?_
  refine am_iadd (q := 58) dX1_add_57 rfl ?_
  refine cm_putI (q := 61) dX1_add_58 flX1_23 rfl (Or.inl rfl) (Or.inl rfl) (by assumption) rfl ?_
  exact am_ret dX1_add_61 rfl ⟨_, rfl, rfl, by
    congr 1
    funext x j
    rw [nI_1]
    simp only [up2_at]
    grind (splits := 30)⟩
theorem k_X1_addFull {k g : Int32} (h1 : S.K a = 2) (g1 : R a 0 = some kk) (g2 : S.K kk = 20) (g3 : S.ln kk = 400) (hz : I a 4 = nI 400) : Fn G mX1_add 0 [vR a, vI k, vI g] (mw S I J R) (fun rr M1 => rr = none ∧ M1 = mw S I J R) := by
  refine am_aload_n (q := 1) dX1_add_0 rfl rfl ?_
  refine cm_getI (q := 4) dX1_add_1 flX1_23 rfl (by assumption) rfl ?_
  rw [hz]
  refine am_if_lt (tgt := 61) (q := 7) dX1_add_4 rfl rfl (fun hz => absurd hz (by decide)) (fun _ => ?_)
  refine am_aload_n (q := 8) dX1_add_7 rfl rfl ?_
  refine cm_getI (q := 11) dX1_add_8 flX1_23 rfl (by assumption) rfl ?_
  rw [hz]
  refine am_aload_n (q := 12) dX1_add_11 rfl rfl ?_
  refine cm_getR (q := 15) dX1_add_12 flX1_11 rfl (by assumption) (by assumption) rfl ?_
  refine cm_alenI (q := 16) dX1_add_15 (by assumption) (by rw [g3] : nI (S.ln kk) = nI 400) rfl ?_
  refine am_icmp_ge (tgt := 61) (q := 19) dX1_add_16 rfl rfl (fun _ => ?_) (fun hz => absurd (Int32.le_refl _) hz)
  exact am_ret dX1_add_61 rfl ⟨_, rfl, rfl, rfl⟩
theorem k_X1_copyFrom {z : Nat} (hG : okG G) (h1 : S.K a = 2) (g1 : R a 0 = some kk) (g2 : S.K kk = 20) (g3 : S.ln kk = 400) (g4 : R a 1 = some aa) (g5 : S.K aa = 20) (g6 : S.ln aa = 400) (hka : kk ≠ aa) (h2 : S.K a2 = 2) (f1 : R a2 0 = some kk2) (f2 : S.K kk2 = 20) (f3 : S.ln kk2 = 400) (f4 : R a2 1 = some aa2) (f5 : S.K aa2 = 20) (f6 : S.ln aa2 = 400) (n1 : kk2 ≠ kk) (n2 : kk2 ≠ aa) (n3 : aa2 ≠ kk) (n4 : aa2 ≠ aa) (n5 : a2 ≠ a) (hz : I a2 4 = nI z) (hz4 : z ≤ 400) : Fn G mX1_copyFrom 1 [vR a, vR a2] (mw S I J R) (fun rr M1 => rr = none ∧ ∃ I1, M1 = mw S I1 J R ∧ ∀ x j, I1 x j = if x = kk ∧ j < z then I kk2 j else if x = aa ∧ j < z then I aa2 j else if x = a ∧ j = 4 then nI z else I x j) := by
  have o1 : a ≠ kk := fun e => by rw [e, g2] at h1; exact absurd h1 (by decide)
  have o2 : a ≠ aa := fun e => by rw [e, g5] at h1; exact absurd h1 (by decide)
  have o3 : a2 ≠ kk := fun e => by rw [e, g2] at h2; exact absurd h2 (by decide)
  have o4 : a2 ≠ aa := fun e => by rw [e, g5] at h2; exact absurd h2 (by decide)
  have o5 : kk2 ≠ a := fun e => by rw [e, h1] at f2; exact absurd f2 (by decide)
  have o6 : aa2 ≠ a := fun e => by rw [e, h1] at f5; exact absurd f5 (by decide)
  refine am_aload_n (q := 1) dX1_copyFrom_0 rfl rfl ?_
  refine am_iconst (q := 2) (v := 0) dX1_copyFrom_1 kc_i0 rfl ?_
  refine cm_putI (q := 5) dX1_copyFrom_2 flX1_23 rfl (Or.inl rfl) (Or.inl rfl) (by assumption) rfl ?_
  refine am_iconst (q := 6) (v := 0) dX1_copyFrom_5 kc_i0 rfl ?_
  refine am_istore_n (q := 7) (ls1 := [_, _, _]) dX1_copyFrom_6 (Nat.le_of_ble_eq_true rfl) rfl rfl ?_
  refine k_loop (σ := Nat → Nat → Int32) (n := z) (Inv := fun i I1 => ∀ x j, I1 x j = if x = kk ∧ j < i then I kk2 j else if x = aa ∧ j < i then I aa2 j else if x = a ∧ j = 4 then nI i else I x j) (W := fun i I1 => MW G mX1_copyFrom 1 7 [some (vR a), some (vR a2), some (vI (nI i))] [] (mw S I1 J R) _) ?_ ?_ 0 _ (Nat.zero_le _) (fun x j => by
      simp only [up2_at]
      show (if x = a ∧ j = 4 then (0 : Int32) else I x j) = if x = kk ∧ j < 0 then _ else if x = aa ∧ j < 0 then _ else if x = a ∧ j = 4 then (0 : Int32) else _
      rw [if_neg (show ¬ (x = kk ∧ j < 0) from fun q => Nat.not_lt_zero _ q.2), if_neg (show ¬ (x = aa ∧ j < 0) from fun q => Nat.not_lt_zero _ q.2)])
  · intro i I1 hi hI ih
    have hcl : (nI i).toNatClampNeg = i := nI_clamp (by omega)
    have e1 : I1 a2 4 = nI z := by rw [hI, if_neg (fun q => o3 q.1), if_neg (fun q => o4 q.1), if_neg (fun q => n5 q.1), hz]
    have e2 : I1 kk2 i = I kk2 i := by rw [hI, if_neg (fun q => n1 q.1), if_neg (fun q => n2 q.1), if_neg (fun q => o5 q.1)]
    have e3 : I1 aa2 i = I aa2 i := by rw [hI, if_neg (fun q => n3 q.1), if_neg (fun q => n4 q.1), if_neg (fun q => o6 q.1)]
    have e4 : I1 a 4 = nI i := by rw [hI, if_neg (fun q => o1 q.1), if_neg (fun q => o2 q.1), if_pos ⟨rfl, rfl⟩]
    refine am_iload_n (q := 8) dX1_copyFrom_7 rfl rfl ?_
    refine am_aload_n (q := 9) dX1_copyFrom_8 rfl rfl ?_
    refine cm_getI (q := 12) dX1_copyFrom_9 flX1_23 rfl (by assumption) rfl ?_
    rw [e1]
    refine am_icmp_ge (tgt := 55) (q := 15) dX1_copyFrom_12 rfl rfl (fun hz => absurd hz (nI_ge (by omega) (by omega))) (fun _ => ?_)
    refine am_iload_n (q := 16) dX1_copyFrom_15 rfl rfl ?_
    refine am_aload_n (q := 17) dX1_copyFrom_16 rfl rfl ?_
    refine cm_getR (q := 20) dX1_copyFrom_17 flX1_11 rfl (by assumption) (by assumption) rfl ?_
    refine cm_alenI (q := 21) dX1_copyFrom_20 (by assumption) (by rw [f3] : nI (S.ln kk2) = nI 400) rfl ?_
    refine am_icmp_ge (tgt := 55) (q := 24) dX1_copyFrom_21 rfl rfl (fun hz => absurd hz (nI_ge (by omega) (by decide))) (fun _ => ?_)
    refine am_iload_n (q := 25) dX1_copyFrom_24 rfl rfl ?_
    refine am_aload_n (q := 26) dX1_copyFrom_25 rfl rfl ?_
    refine cm_getR (q := 29) dX1_copyFrom_26 flX1_17 rfl (by assumption) (by assumption) rfl ?_
    refine cm_alenI (q := 30) dX1_copyFrom_29 (by assumption) (by rw [f6] : nI (S.ln aa2) = nI 400) rfl ?_
    refine am_icmp_ge (tgt := 55) (q := 33) dX1_copyFrom_30 rfl rfl (fun hz => absurd hz (nI_ge (by omega) (by decide))) (fun _ => ?_)
    refine am_aload_n (q := 34) dX1_copyFrom_33 rfl rfl ?_
    refine am_aload_n (q := 35) dX1_copyFrom_34 rfl rfl ?_
    refine cm_getR (q := 38) dX1_copyFrom_35 flX1_11 rfl (by assumption) (by assumption) rfl ?_
    refine am_iload_n (q := 39) dX1_copyFrom_38 rfl rfl ?_
    refine cm_iaload (q := 40) dX1_copyFrom_39 (by assumption) (by rw [f3]; exact vp_in_nI (by omega) (by decide)) rfl ?_
    rw [hcl, e2]
    refine am_aload_n (q := 41) dX1_copyFrom_40 rfl rfl ?_
    refine cm_getR (q := 44) dX1_copyFrom_41 flX1_17 rfl (by assumption) (by assumption) rfl ?_
    refine am_iload_n (q := 45) dX1_copyFrom_44 rfl rfl ?_
    refine cm_iaload (q := 46) dX1_copyFrom_45 (by assumption) (by rw [f6]; exact vp_in_nI (by omega) (by decide)) rfl ?_
    rw [hcl, e3]
    refine cm_call0 (q := 49) (As := [_, _]) hG dX1_copyFrom_46 mlX1_27 rfl (by assumption) ⟨_, _, rfl⟩ (Nat.le_of_ble_eq_true rfl) (Nat.le_of_ble_eq_true rfl) (Nat.le_of_ble_eq_true rfl) (Nat.le_of_ble_eq_true rfl) (k_X1_add h1 g1 g2 g3 g4 g5 g6 hka e4 (by omega)) rfl ?_
    rintro _ _ ⟨rfl, rfl⟩
    refine am_iincW (q := 52) (ls1 := [_, _, _]) (w := 1) dX1_copyFrom_49 rfl (Nat.le_of_ble_eq_true rfl) kc_i1 rfl rfl ?_
    refine am_goto (tgt := 7) dX1_copyFrom_52 rfl ?_
    rw [nI_1]
    refine ih _ fun x j => ?_
    rw [hI]
    grind (splits := 30)
  · intro I1 hI
    have e1 : I1 a2 4 = nI z := by rw [hI, if_neg (fun q => o3 q.1), if_neg (fun q => o4 q.1), if_neg (fun q => n5 q.1), hz]
    refine am_iload_n (q := 8) dX1_copyFrom_7 rfl rfl ?_
    refine am_aload_n (q := 9) dX1_copyFrom_8 rfl rfl ?_
    refine cm_getI (q := 12) dX1_copyFrom_9 flX1_23 rfl (by assumption) rfl ?_
    rw [e1]
    refine am_icmp_ge (tgt := 55) (q := 15) dX1_copyFrom_12 rfl rfl (fun _ => ?_) (fun hz => absurd (Int32.le_refl _) hz)
    exact am_ret dX1_copyFrom_55 rfl ⟨_, rfl, rfl, I1, rfl, hI⟩
end CopyA
theorem evE_cg {rd : Int32 → Int32 → Int32} {K K2 A A2 : Nat → Int32} : ∀ (n p : Nat) (st : List Int32), (∀ j, p ≤ j → j < p + n → K j = K2 j ∧ A j = A2 j) → evE rd K A p n st = evE rd K2 A2 p n st := by
  intro n
  induction n with
  | zero => intro p st h; rfl
  | succ n ih =>
    intro p st h
    obtain ⟨e1, e2⟩ := h p (Nat.le_refl _) (by omega)
    rw [evE, evE, e1, e2]
    exact ih (p + 1) _ (fun j q1 q2 => h j (by omega) (by omega))

