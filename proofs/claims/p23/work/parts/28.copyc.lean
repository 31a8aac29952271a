theorem dX2_copyFrom_24 : decode cX2_copyFrom 24 = .ok (.iload_n 2, 1) := by decide +kernel
theorem dX2_copyFrom_25 : decode cX2_copyFrom 25 = .ok (.aload_n 0, 1) := by decide +kernel
theorem dX2_copyFrom_26 : decode cX2_copyFrom 26 = .ok (.getfield 34, 3) := by decide +kernel
theorem dX2_copyFrom_29 : decode cX2_copyFrom 29 = .ok (.arraylength, 1) := by decide +kernel
theorem dX2_copyFrom_30 : decode cX2_copyFrom 30 = .ok (.if_icmp .ge 33, 3) := by decide +kernel
theorem dX2_copyFrom_33 : decode cX2_copyFrom 33 = .ok (.iload_n 2, 1) := by decide +kernel
theorem dX2_copyFrom_34 : decode cX2_copyFrom 34 = .ok (.aload_n 1, 1) := by decide +kernel
theorem dX2_copyFrom_35 : decode cX2_copyFrom 35 = .ok (.getfield 34, 3) := by decide +kernel
theorem dX2_copyFrom_38 : decode cX2_copyFrom 38 = .ok (.arraylength, 1) := by decide +kernel
theorem dX2_copyFrom_39 : decode cX2_copyFrom 39 = .ok (.if_icmp .ge 24, 3) := by decide +kernel
theorem dX2_copyFrom_42 : decode cX2_copyFrom 42 = .ok (.aload_n 0, 1) := by decide +kernel
theorem dX2_copyFrom_43 : decode cX2_copyFrom 43 = .ok (.getfield 34, 3) := by decide +kernel
theorem dX2_copyFrom_46 : decode cX2_copyFrom 46 = .ok (.iload_n 2, 1) := by decide +kernel
theorem dX2_copyFrom_47 : decode cX2_copyFrom 47 = .ok (.aaload, 1) := by decide +kernel
theorem dX2_copyFrom_48 : decode cX2_copyFrom 48 = .ok (.aload_n 1, 1) := by decide +kernel
theorem dX2_copyFrom_49 : decode cX2_copyFrom 49 = .ok (.getfield 34, 3) := by decide +kernel
theorem dX2_copyFrom_52 : decode cX2_copyFrom 52 = .ok (.iload_n 2, 1) := by decide +kernel
theorem dX2_copyFrom_53 : decode cX2_copyFrom 53 = .ok (.aaload, 1) := by decide +kernel
theorem dX2_copyFrom_54 : decode cX2_copyFrom 54 = .ok (.invokevirtual 109, 3) := by decide +kernel
theorem dX2_copyFrom_57 : decode cX2_copyFrom 57 = .ok (.iinc 2 1, 3) := by decide +kernel
theorem dX2_copyFrom_60 : decode cX2_copyFrom 60 = .ok (.goto (-36), 3) := by decide +kernel
theorem dX2_copyFrom_65 : decode cX2_copyFrom 65 = .ok (.iload_n 2, 1) := by decide +kernel
theorem dX2_copyFrom_66 : decode cX2_copyFrom 66 = .ok (.aload_n 0, 1) := by decide +kernel
theorem dX2_copyFrom_67 : decode cX2_copyFrom 67 = .ok (.getfield 40, 3) := by decide +kernel
theorem dX2_copyFrom_70 : decode cX2_copyFrom 70 = .ok (.arraylength, 1) := by decide +kernel
theorem dX2_copyFrom_71 : decode cX2_copyFrom 71 = .ok (.if_icmp .ge 33, 3) := by decide +kernel
theorem dX2_copyFrom_74 : decode cX2_copyFrom 74 = .ok (.iload_n 2, 1) := by decide +kernel
theorem dX2_copyFrom_75 : decode cX2_copyFrom 75 = .ok (.aload_n 1, 1) := by decide +kernel
theorem dX2_copyFrom_76 : decode cX2_copyFrom 76 = .ok (.getfield 40, 3) := by decide +kernel
theorem dX2_copyFrom_79 : decode cX2_copyFrom 79 = .ok (.arraylength, 1) := by decide +kernel
theorem dX2_copyFrom_80 : decode cX2_copyFrom 80 = .ok (.if_icmp .ge 24, 3) := by decide +kernel
theorem dX2_copyFrom_83 : decode cX2_copyFrom 83 = .ok (.aload_n 0, 1) := by decide +kernel
theorem dX2_copyFrom_84 : decode cX2_copyFrom 84 = .ok (.getfield 40, 3) := by decide +kernel
theorem dX2_copyFrom_87 : decode cX2_copyFrom 87 = .ok (.iload_n 2, 1) := by decide +kernel
theorem dX2_copyFrom_88 : decode cX2_copyFrom 88 = .ok (.aaload, 1) := by decide +kernel
theorem dX2_copyFrom_89 : decode cX2_copyFrom 89 = .ok (.aload_n 1, 1) := by decide +kernel
theorem dX2_copyFrom_90 : decode cX2_copyFrom 90 = .ok (.getfield 40, 3) := by decide +kernel
theorem dX2_copyFrom_93 : decode cX2_copyFrom 93 = .ok (.iload_n 2, 1) := by decide +kernel
theorem dX2_copyFrom_94 : decode cX2_copyFrom 94 = .ok (.aaload, 1) := by decide +kernel
theorem dX2_copyFrom_95 : decode cX2_copyFrom 95 = .ok (.invokevirtual 112, 3) := by decide +kernel
theorem dX2_copyFrom_98 : decode cX2_copyFrom 98 = .ok (.iinc 2 1, 3) := by decide +kernel
theorem dX2_copyFrom_101 : decode cX2_copyFrom 101 = .ok (.goto (-36), 3) := by decide +kernel
theorem dX2_copyFrom_106 : decode cX2_copyFrom 106 = .ok (.iload_n 2, 1) := by decide +kernel
theorem dX2_copyFrom_107 : decode cX2_copyFrom 107 = .ok (.aload_n 0, 1) := by decide +kernel
theorem dX2_copyFrom_108 : decode cX2_copyFrom 108 = .ok (.getfield 46, 3) := by decide +kernel
theorem dX2_copyFrom_111 : decode cX2_copyFrom 111 = .ok (.arraylength, 1) := by decide +kernel
theorem dX2_copyFrom_112 : decode cX2_copyFrom 112 = .ok (.if_icmp .ge 33, 3) := by decide +kernel
theorem dX2_copyFrom_115 : decode cX2_copyFrom 115 = .ok (.iload_n 2, 1) := by decide +kernel
theorem dX2_copyFrom_116 : decode cX2_copyFrom 116 = .ok (.aload_n 1, 1) := by decide +kernel
theorem dX2_copyFrom_117 : decode cX2_copyFrom 117 = .ok (.getfield 46, 3) := by decide +kernel
theorem dX2_copyFrom_120 : decode cX2_copyFrom 120 = .ok (.arraylength, 1) := by decide +kernel
theorem dX2_copyFrom_121 : decode cX2_copyFrom 121 = .ok (.if_icmp .ge 24, 3) := by decide +kernel
theorem dX2_copyFrom_124 : decode cX2_copyFrom 124 = .ok (.aload_n 0, 1) := by decide +kernel
theorem dX2_copyFrom_125 : decode cX2_copyFrom 125 = .ok (.getfield 46, 3) := by decide +kernel
theorem dX2_copyFrom_128 : decode cX2_copyFrom 128 = .ok (.iload_n 2, 1) := by decide +kernel
theorem dX2_copyFrom_129 : decode cX2_copyFrom 129 = .ok (.aaload, 1) := by decide +kernel
theorem dX2_copyFrom_130 : decode cX2_copyFrom 130 = .ok (.aload_n 1, 1) := by decide +kernel
theorem dX2_copyFrom_131 : decode cX2_copyFrom 131 = .ok (.getfield 46, 3) := by decide +kernel
theorem dX2_copyFrom_134 : decode cX2_copyFrom 134 = .ok (.iload_n 2, 1) := by decide +kernel
theorem dX2_copyFrom_135 : decode cX2_copyFrom 135 = .ok (.aaload, 1) := by decide +kernel
theorem dX2_copyFrom_136 : decode cX2_copyFrom 136 = .ok (.invokevirtual 115, 3) := by decide +kernel
theorem dX2_copyFrom_139 : decode cX2_copyFrom 139 = .ok (.iinc 2 1, 3) := by decide +kernel
theorem dX2_copyFrom_142 : decode cX2_copyFrom 142 = .ok (.goto (-36), 3) := by decide +kernel
/-! a contest is copied -/
section CopyC
variable {G : Gp} {S : AMem} {I : Nat → Nat → Int32} {J : Nat → Nat → Int64} {R : Nat → Nat → Option Nat} {c c2 : Nat} {B : BS} {m : MS} {Q : (Option AV ⊕ Nat) → AMem → Prop}
/-- the names outside have stayed -/
def OffJ (c : Nat) (J J1 : Nat → Nat → Int64) : Prop := ∀ x j, (x < c ∨ c + 58 ≤ x) → J1 x j = J x j
theorem OffJ.rf : OffJ c J J := fun _ _ _ => rfl
theorem OffJ.tr {J1 J2 : Nat → Nat → Int64} (h1 : OffJ c J J1) (h2 : OffJ c J1 J2) : OffJ c J J2 := fun x j q => (h2 x j q).trans (h1 x j q)
theorem OffJ.up {J1 : Nat → Nat → Int64} {a j : Nat} {v : Int64} (h : OffJ c J J1) (h1 : c ≤ a ∧ a < c + 58) : OffJ c J (up2 J1 a j v) := fun x i q => by
  rw [up2_a (by omega)]
  exact h x i q
theorem k_cpRail (hG : okG G) (hct : CT S R c) (hct2 : CT S R c2) (hd : c + 58 ≤ c2 ∨ c2 + 58 ≤ c)
    (hQ : ∀ I1 J1, (∀ x j, (x < c + 14 ∨ c + 22 ≤ x) → I1 x j = I x j) → (∀ k, k < 4 → (∀ j, j < 100 → I1 (c + 15 + 2 * k) j = I (c2 + 15 + 2 * k) j) ∧ ∀ j, 2 ≤ j → j ≤ 6 → I1 (c + 14 + 2 * k) j = I (c2 + 14 + 2 * k) j) → OffJ c J J1 → MW G mX2_copyFrom 3 63 [some (vR c), some (vR c2), some (vI (nI 4))] [] (mw S I1 J1 R) Q) : MW G mX2_copyFrom 3 24 [some (vR c), some (vR c2), some (vI (0))] [] (mw S I J R) Q := by
  obtain ⟨kc, rc0, rc1, rc2, rc3, rc4, rc5, rc6, rc7, _, _, _, ⟨kr, lr, hr⟩, ⟨kfi, lfi, hfi⟩, ⟨kp, lp, hpz⟩, ⟨kt, lt, htu⟩, kw, lw⟩ := hct
  obtain ⟨zc, zc0, zc1, zc2, zc3, zc4, zc5, zc6, zc7, _, _, _, ⟨zr, zlr, zhr⟩, ⟨zfi, zlfi, zhfi⟩, ⟨zp, zlp, zhpz⟩, ⟨zt, zlt, zhtu⟩, zw, zlw⟩ := hct2
  refine k_loop (σ := (Nat → Nat → Int32) × (Nat → Nat → Int64)) (n := 4) (Inv := fun i s => (∀ x j, (x < c + 14 ∨ c + 22 ≤ x) → s.1 x j = I x j) ∧ (∀ k, k < i → (∀ j, j < 100 → s.1 (c + 15 + 2 * k) j = I (c2 + 15 + 2 * k) j) ∧ ∀ j, 2 ≤ j → j ≤ 6 → s.1 (c + 14 + 2 * k) j = I (c2 + 14 + 2 * k) j) ∧ OffJ c J s.2) (W := fun i s => MW G mX2_copyFrom 3 24 [some (vR c), some (vR c2), some (vI (nI i))] [] (mw S s.1 s.2 R) _) ?_ ?_ 0 (I, J) (Nat.zero_le _) ⟨fun _ _ _ => rfl, fun k hk => absurd hk (Nat.not_lt_zero _), OffJ.rf⟩
  · rintro i ⟨I1, J1⟩ hi ⟨hI, hk, hJ⟩ ih
    dsimp only at hI hk hJ ih ⊢
    obtain ⟨r1, r2, r3, r4, r5⟩ := hr i hi
    obtain ⟨z1, z2, z3, z4, z5⟩ := zhr i hi
    have hcl : (nI i).toNatClampNeg = i := nI_clamp (by omega)
    have hin : vp_in (nI i) (S.ln (c + 9)) := by rw [lr]; exact vp_in_nI (by omega) (by decide)
    have hin2 : vp_in (nI i) (S.ln (c2 + 9)) := by rw [zlr]; exact vp_in_nI (by omega) (by decide)
    have hR : R (c + 9) (nI i).toNatClampNeg = some (c + 14 + 2 * i) := by rw [hcl]; exact r1
    have hR2 : R (c2 + 9) (nI i).toNatClampNeg = some (c2 + 14 + 2 * i) := by rw [hcl]; exact z1
    refine am_iload_n (q := 25) dX2_copyFrom_24 rfl rfl ?_
    refine am_aload_n (q := 26) dX2_copyFrom_25 rfl rfl ?_
    refine cm_getR (q := 29) dX2_copyFrom_26 flX2_34 rfl (by assumption) (by assumption) rfl ?_
    refine cm_alenK (q := 30) dX2_copyFrom_29 (by assumption) (by decide) (by rw [lr] : nI (S.ln (c + 9)) = nI 4) rfl ?_
    refine am_icmp_ge (tgt := 63) (q := 33) dX2_copyFrom_30 rfl rfl (fun hz => absurd hz (nI_ge (by omega) (by decide))) (fun _ => ?_)
    refine am_iload_n (q := 34) dX2_copyFrom_33 rfl rfl ?_
    refine am_aload_n (q := 35) dX2_copyFrom_34 rfl rfl ?_
    refine cm_getR (q := 38) dX2_copyFrom_35 flX2_34 rfl (by assumption) (by assumption) rfl ?_
    refine cm_alenK (q := 39) dX2_copyFrom_38 (by assumption) (by decide) (by rw [zlr] : nI (S.ln (c2 + 9)) = nI 4) rfl ?_
    refine am_icmp_ge (tgt := 63) (q := 42) dX2_copyFrom_39 rfl rfl (fun hz => absurd hz (nI_ge (by omega) (by decide))) (fun _ => ?_)
    refine am_aload_n (q := 43) dX2_copyFrom_42 rfl rfl ?_
    refine cm_getR (q := 46) dX2_copyFrom_43 flX2_34 rfl (by assumption) (by assumption) rfl ?_
    refine am_iload_n (q := 47) dX2_copyFrom_46 rfl rfl ?_
    refine cm_aaloadK (q := 48) dX2_copyFrom_47 (by assumption) (by decide) hin hR rfl ?_
    refine am_aload_n (q := 49) dX2_copyFrom_48 rfl rfl ?_
    refine cm_getR (q := 52) dX2_copyFrom_49 flX2_34 rfl (by assumption) (by assumption) rfl ?_
    refine am_iload_n (q := 53) dX2_copyFrom_52 rfl rfl ?_
    refine cm_aaloadK (q := 54) dX2_copyFrom_53 (by assumption) (by decide) hin2 hR2 rfl ?_
    refine cm_call0 (q := 57) (As := [_]) hG dX2_copyFrom_54 mlX2_109 rfl (by assumption) ⟨_, _, rfl⟩ (Nat.le_of_ble_eq_true rfl) (Nat.le_of_ble_eq_true rfl) (Nat.le_of_ble_eq_true rfl) (Nat.le_of_ble_eq_true rfl) (k_X6_copyFrom hG r2 r3 r4 r5 z2 z3 z4 z5 (by omega) (by omega) (by omega) (by omega) (by omega)) rfl ?_
    rintro _ _ ⟨rfl, rfl⟩
    refine am_iincW (q := 60) (ls1 := [_, _, _]) (w := 1) dX2_copyFrom_57 rfl (Nat.le_of_ble_eq_true rfl) kc_i1 rfl rfl ?_
    refine am_goto (tgt := 24) dX2_copyFrom_60 rfl ?_
    rw [nI_1]
    refine ih (_, _) ⟨fun x j q => ?_, fun k hk2 => ?_, hJ.up (by omega)⟩
    · show (if x = c + 15 + 2 * i ∧ j < 100 then _ else if x = c + 14 + 2 * i ∧ 2 ≤ j ∧ j ≤ 6 then _ else I1 x j) = I x j
      rw [if_neg (by omega), if_neg (by omega)]
      exact hI x j q
    · have o : ∀ x j, (x < c + 14 ∨ c + 22 ≤ x) → I1 x j = I x j := hI
      by_cases e : k = i
      · subst e
        refine ⟨fun j hj => ?_, fun j hj hj2 => ?_⟩
        · show (if _ ∧ _ then _ else _) = _
          rw [if_pos ⟨rfl, hj⟩]
          exact o _ _ (by omega)
        · show (if _ ∧ _ then _ else if _ ∧ _ then _ else _) = _
          rw [if_neg (by omega), if_pos ⟨rfl, hj, hj2⟩]
          exact o _ _ (by omega)
      · obtain ⟨q1, q2⟩ := hk k (by omega)
        refine ⟨fun j hj => ?_, fun j hj hj2 => ?_⟩
        · show (if _ ∧ _ then _ else if _ ∧ _ then _ else _) = _
          rw [if_neg (by omega), if_neg (by omega)]
          exact q1 j hj
        · show (if _ ∧ _ then _ else if _ ∧ _ then _ else _) = _
          rw [if_neg (by omega), if_neg (by omega)]
          exact q2 j hj hj2
  · rintro ⟨I1, J1⟩ ⟨hI, hk, hJ⟩
    dsimp only at hI hk hJ ⊢
    refine am_iload_n (q := 25) dX2_copyFrom_24 rfl rfl ?_
    refine am_aload_n (q := 26) dX2_copyFrom_25 rfl rfl ?_
    refine cm_getR (q := 29) dX2_copyFrom_26 flX2_34 rfl (by assumption) (by assumption) rfl ?_
    refine cm_alenK (q := 30) dX2_copyFrom_29 (by assumption) (by decide) (by rw [lr] : nI (S.ln (c + 9)) = nI 4) rfl ?_
    refine am_icmp_ge (tgt := 63) (q := 33) dX2_copyFrom_30 rfl rfl (fun _ => ?_) (fun hz => absurd (Int32.le_refl _) hz)
    exact hQ I1 J1 hI hk hJ
theorem k_cpFist (hG : okG G) (hct : CT S R c) (hct2 : CT S R c2) (hd : c + 58 ≤ c2 ∨ c2 + 58 ≤ c) (h9a : ∀ i, i < 8 → I (c2 + 22 + i) 9 = 0 ∨ I (c2 + 22 + i) 9 = 1)
    (hQ : ∀ I1 J1, (∀ x j, (x < c + 22 ∨ c + 30 ≤ x) → I1 x j = I x j) → (∀ k, k < 8 → ∀ j, 1 ≤ j → j ≤ 9 → I1 (c + 22 + k) j = I (c2 + 22 + k) j) → OffJ c J J1 → MW G mX2_copyFrom 3 104 [some (vR c), some (vR c2), some (vI (nI 8))] [] (mw S I1 J1 R) Q) : MW G mX2_copyFrom 3 65 [some (vR c), some (vR c2), some (vI (0))] [] (mw S I J R) Q := by
  obtain ⟨kc, rc0, rc1, rc2, rc3, rc4, rc5, rc6, rc7, _, _, _, ⟨kr, lr, hr⟩, ⟨kfi, lfi, hfi⟩, ⟨kp, lp, hpz⟩, ⟨kt, lt, htu⟩, kw, lw⟩ := hct
  obtain ⟨zc, zc0, zc1, zc2, zc3, zc4, zc5, zc6, zc7, _, _, _, ⟨zr, zlr, zhr⟩, ⟨zfi, zlfi, zhfi⟩, ⟨zp, zlp, zhpz⟩, ⟨zt, zlt, zhtu⟩, zw, zlw⟩ := hct2
  refine k_loop (σ := (Nat → Nat → Int32) × (Nat → Nat → Int64)) (n := 8) (Inv := fun i s => (∀ x j, (x < c + 22 ∨ c + 30 ≤ x) → s.1 x j = I x j) ∧ (∀ k, k < i → ∀ j, 1 ≤ j → j ≤ 9 → s.1 (c + 22 + k) j = I (c2 + 22 + k) j) ∧ OffJ c J s.2) (W := fun i s => MW G mX2_copyFrom 3 65 [some (vR c), some (vR c2), some (vI (nI i))] [] (mw S s.1 s.2 R) _) ?_ ?_ 0 (I, J) (Nat.zero_le _) ⟨fun _ _ _ => rfl, fun k hk => absurd hk (Nat.not_lt_zero _), OffJ.rf⟩
  · rintro i ⟨I1, J1⟩ hi ⟨hI, hk, hJ⟩ ih
    dsimp only at hI hk hJ ih ⊢
    obtain ⟨r1, r2⟩ := hfi i hi
    obtain ⟨z1, z2⟩ := zhfi i hi
    have hcl : (nI i).toNatClampNeg = i := nI_clamp (by omega)
    have hin : vp_in (nI i) (S.ln (c + 10)) := by rw [lfi]; exact vp_in_nI (by omega) (by decide)
    have hin2 : vp_in (nI i) (S.ln (c2 + 10)) := by rw [zlfi]; exact vp_in_nI (by omega) (by decide)
    have hR : R (c + 10) (nI i).toNatClampNeg = some (c + 22 + i) := by rw [hcl]; exact r1
    have hR2 : R (c2 + 10) (nI i).toNatClampNeg = some (c2 + 22 + i) := by rw [hcl]; exact z1
    have h9 : I1 (c2 + 22 + i) 9 = 0 ∨ I1 (c2 + 22 + i) 9 = 1 := by rw [hI _ _ (by omega)]; exact h9a i hi
    refine am_iload_n (q := 66) dX2_copyFrom_65 rfl rfl ?_
    refine am_aload_n (q := 67) dX2_copyFrom_66 rfl rfl ?_
    refine cm_getR (q := 70) dX2_copyFrom_67 flX2_40 rfl (by assumption) (by assumption) rfl ?_
    refine cm_alenK (q := 71) dX2_copyFrom_70 (by assumption) (by decide) (by rw [lfi] : nI (S.ln (c + 10)) = nI 8) rfl ?_
    refine am_icmp_ge (tgt := 104) (q := 74) dX2_copyFrom_71 rfl rfl (fun hz => absurd hz (nI_ge (by omega) (by decide))) (fun _ => ?_)
    refine am_iload_n (q := 75) dX2_copyFrom_74 rfl rfl ?_
    refine am_aload_n (q := 76) dX2_copyFrom_75 rfl rfl ?_
    refine cm_getR (q := 79) dX2_copyFrom_76 flX2_40 rfl (by assumption) (by assumption) rfl ?_
    refine cm_alenK (q := 80) dX2_copyFrom_79 (by assumption) (by decide) (by rw [zlfi] : nI (S.ln (c2 + 10)) = nI 8) rfl ?_
    refine am_icmp_ge (tgt := 104) (q := 83) dX2_copyFrom_80 rfl rfl (fun hz => absurd hz (nI_ge (by omega) (by decide))) (fun _ => ?_)
    refine am_aload_n (q := 84) dX2_copyFrom_83 rfl rfl ?_
    refine cm_getR (q := 87) dX2_copyFrom_84 flX2_40 rfl (by assumption) (by assumption) rfl ?_
    refine am_iload_n (q := 88) dX2_copyFrom_87 rfl rfl ?_
    refine cm_aaloadK (q := 89) dX2_copyFrom_88 (by assumption) (by decide) hin hR rfl ?_
    refine am_aload_n (q := 90) dX2_copyFrom_89 rfl rfl ?_
    refine cm_getR (q := 93) dX2_copyFrom_90 flX2_40 rfl (by assumption) (by assumption) rfl ?_
    refine am_iload_n (q := 94) dX2_copyFrom_93 rfl rfl ?_
    refine cm_aaloadK (q := 95) dX2_copyFrom_94 (by assumption) (by decide) hin2 hR2 rfl ?_
    refine cm_call0 (q := 98) (As := [_]) hG dX2_copyFrom_95 mlX2_112 rfl (by assumption) ⟨_, _, rfl⟩ (Nat.le_of_ble_eq_true rfl) (Nat.le_of_ble_eq_true rfl) (Nat.le_of_ble_eq_true rfl) (Nat.le_of_ble_eq_true rfl) (k_X3_copyFrom r2 z2 (by omega) h9) rfl ?_
    rintro _ _ ⟨rfl, rfl⟩
    refine am_iincW (q := 101) (ls1 := [_, _, _]) (w := 1) dX2_copyFrom_98 rfl (Nat.le_of_ble_eq_true rfl) kc_i1 rfl rfl ?_
    refine am_goto (tgt := 65) dX2_copyFrom_101 rfl ?_
    rw [nI_1]
    refine ih (_, _) ⟨fun x j q => ?_, fun k hk2 => ?_, hJ.up (by omega)⟩
    · show (if x = c + 22 + i ∧ 1 ≤ j ∧ j ≤ 9 then _ else I1 x j) = I x j
      rw [if_neg (by omega)]
      exact hI x j q
    · refine fun j hj hj2 => ?_
      by_cases e : k = i
      · subst e
        show (if _ ∧ _ then _ else _) = _
        rw [if_pos ⟨rfl, hj, hj2⟩]
        exact hI _ _ (by omega)
      · show (if _ ∧ _ then _ else _) = _
        rw [if_neg (by omega)]
        exact hk k (by omega) j hj hj2
  · rintro ⟨I1, J1⟩ ⟨hI, hk, hJ⟩
    dsimp only at hI hk hJ ⊢
    refine am_iload_n (q := 66) dX2_copyFrom_65 rfl rfl ?_
    refine am_aload_n (q := 67) dX2_copyFrom_66 rfl rfl ?_
    refine cm_getR (q := 70) dX2_copyFrom_67 flX2_40 rfl (by assumption) (by assumption) rfl ?_
    refine cm_alenK (q := 71) dX2_copyFrom_70 (by assumption) (by decide) (by rw [lfi] : nI (S.ln (c + 10)) = nI 8) rfl ?_
    refine am_icmp_ge (tgt := 104) (q := 74) dX2_copyFrom_71 rfl rfl (fun _ => ?_) (fun hz => absurd (Int32.le_refl _) hz)
    exact hQ I1 J1 hI hk hJ
theorem k_cpPrize (hG : okG G) (hct : CT S R c) (hct2 : CT S R c2) (hd : c + 58 ≤ c2 ∨ c2 + 58 ≤ c)
    (hQ : ∀ I1 J1, (∀ x j, (x < c + 30 ∨ c + 38 ≤ x) → I1 x j = I x j) → (∀ k, k < 8 → ∀ j, 1 ≤ j → j ≤ 5 → I1 (c + 30 + k) j = I (c2 + 30 + k) j) → OffJ c J J1 → MW G mX2_copyFrom 3 145 [some (vR c), some (vR c2), some (vI (nI 8))] [] (mw S I1 J1 R) Q) : MW G mX2_copyFrom 3 106 [some (vR c), some (vR c2), some (vI (0))] [] (mw S I J R) Q := by
  obtain ⟨kc, rc0, rc1, rc2, rc3, rc4, rc5, rc6, rc7, _, _, _, ⟨kr, lr, hr⟩, ⟨kfi, lfi, hfi⟩, ⟨kp, lp, hpz⟩, ⟨kt, lt, htu⟩, kw, lw⟩ := hct
  obtain ⟨zc, zc0, zc1, zc2, zc3, zc4, zc5, zc6, zc7, _, _, _, ⟨zr, zlr, zhr⟩, ⟨zfi, zlfi, zhfi⟩, ⟨zp, zlp, zhpz⟩, ⟨zt, zlt, zhtu⟩, zw, zlw⟩ := hct2
  refine k_loop (σ := (Nat → Nat → Int32) × (Nat → Nat → Int64)) (n := 8) (Inv := fun i s => (∀ x j, (x < c + 30 ∨ c + 38 ≤ x) → s.1 x j = I x j) ∧ (∀ k, k < i → ∀ j, 1 ≤ j → j ≤ 5 → s.1 (c + 30 + k) j = I (c2 + 30 + k) j) ∧ OffJ c J s.2) (W := fun i s => MW G mX2_copyFrom 3 106 [some (vR c), some (vR c2), some (vI (nI i))] [] (mw S s.1 s.2 R) _) ?_ ?_ 0 (I, J) (Nat.zero_le _) ⟨fun _ _ _ => rfl, fun k hk => absurd hk (Nat.not_lt_zero _), OffJ.rf⟩
  · rintro i ⟨I1, J1⟩ hi ⟨hI, hk, hJ⟩ ih
    dsimp only at hI hk hJ ih ⊢
    obtain ⟨r1, r2⟩ := hpz i hi
    obtain ⟨z1, z2⟩ := zhpz i hi
    have hcl : (nI i).toNatClampNeg = i := nI_clamp (by omega)
    have hin : vp_in (nI i) (S.ln (c + 11)) := by rw [lp]; exact vp_in_nI (by omega) (by decide)
    have hin2 : vp_in (nI i) (S.ln (c2 + 11)) := by rw [zlp]; exact vp_in_nI (by omega) (by decide)
    have hR : R (c + 11) (nI i).toNatClampNeg = some (c + 30 + i) := by rw [hcl]; exact r1
    have hR2 : R (c2 + 11) (nI i).toNatClampNeg = some (c2 + 30 + i) := by rw [hcl]; exact z1
    refine am_iload_n (q := 107) dX2_copyFrom_106 rfl rfl ?_
    refine am_aload_n (q := 108) dX2_copyFrom_107 rfl rfl ?_
    refine cm_getR (q := 111) dX2_copyFrom_108 flX2_46 rfl (by assumption) (by assumption) rfl ?_
    refine cm_alenK (q := 112) dX2_copyFrom_111 (by assumption) (by decide) (by rw [lp] : nI (S.ln (c + 11)) = nI 8) rfl ?_
    refine am_icmp_ge (tgt := 145) (q := 115) dX2_copyFrom_112 rfl rfl (fun hz => absurd hz (nI_ge (by omega) (by decide))) (fun _ => ?_)
    refine am_iload_n (q := 116) dX2_copyFrom_115 rfl rfl ?_
    refine am_aload_n (q := 117) dX2_copyFrom_116 rfl rfl ?_
    refine cm_getR (q := 120) dX2_copyFrom_117 flX2_46 rfl (by assumption) (by assumption) rfl ?_
    refine cm_alenK (q := 121) dX2_copyFrom_120 (by assumption) (by decide) (by rw [zlp] : nI (S.ln (c2 + 11)) = nI 8) rfl ?_
    refine am_icmp_ge (tgt := 145) (q := 124) dX2_copyFrom_121 rfl rfl (fun hz => absurd hz (nI_ge (by omega) (by decide))) (fun _ => ?_)
    refine am_aload_n (q := 125) dX2_copyFrom_124 rfl rfl ?_
    refine cm_getR (q := 128) dX2_copyFrom_125 flX2_46 rfl (by assumption) (by assumption) rfl ?_
    refine am_iload_n (q := 129) dX2_copyFrom_128 rfl rfl ?_
    refine cm_aaloadK (q := 130) dX2_copyFrom_129 (by assumption) (by decide) hin hR rfl ?_
    refine am_aload_n (q := 131) dX2_copyFrom_130 rfl rfl ?_
    refine cm_getR (q := 134) dX2_copyFrom_131 flX2_46 rfl (by assumption) (by assumption) rfl ?_
    refine am_iload_n (q := 135) dX2_copyFrom_134 rfl rfl ?_
    refine cm_aaloadK (q := 136) dX2_copyFrom_135 (by assumption) (by decide) hin2 hR2 rfl ?_
    refine cm_call0 (q := 139) (As := [_]) hG dX2_copyFrom_136 mlX2_115 rfl (by assumption) ⟨_, _, rfl⟩ (Nat.le_of_ble_eq_true rfl) (Nat.le_of_ble_eq_true rfl) (Nat.le_of_ble_eq_true rfl) (Nat.le_of_ble_eq_true rfl) (k_X5_copyFrom hG r2 z2 (by omega)) rfl ?_
    rintro _ _ ⟨rfl, rfl⟩
    refine am_iincW (q := 142) (ls1 := [_, _, _]) (w := 1) dX2_copyFrom_139 rfl (Nat.le_of_ble_eq_true rfl) kc_i1 rfl rfl ?_
    refine am_goto (tgt := 106) dX2_copyFrom_142 rfl ?_
    rw [nI_1]
    refine ih (_, _) ⟨fun x j q => ?_, fun k hk2 => ?_, hJ.up (by omega)⟩
    · show (if x = c + 30 + i ∧ 1 ≤ j ∧ j ≤ 5 then _ else I1 x j) = I x j
      rw [if_neg (by omega)]
      exact hI x j q
    · refine fun j hj hj2 => ?_
      by_cases e : k = i
      · subst e
        show (if _ ∧ _ then _ else _) = _
        rw [if_pos ⟨rfl, hj, hj2⟩]
        exact hI _ _ (by omega)
      · show (if _ ∧ _ then _ else _) = _
        rw [if_neg (by omega)]
        exact hk k (by omega) j hj hj2
  · rintro ⟨I1, J1⟩ ⟨hI, hk, hJ⟩
    dsimp only at hI hk hJ ⊢
    refine am_iload_n (q := 107) dX2_copyFrom_106 rfl rfl ?_
    refine am_aload_n (q := 108) dX2_copyFrom_107 rfl rfl ?_
    refine cm_getR (q := 111) dX2_copyFrom_108 flX2_46 rfl (by assumption) (by assumption) rfl ?_
    refine cm_alenK (q := 112) dX2_copyFrom_111 (by assumption) (by decide) (by rw [lp] : nI (S.ln (c + 11)) = nI 8) rfl ?_
    refine am_icmp_ge (tgt := 145) (q := 115) dX2_copyFrom_112 rfl rfl (fun _ => ?_) (fun hz => absurd (Int32.le_refl _) hz)
    exact hQ I1 J1 hI hk hJ
end CopyC

