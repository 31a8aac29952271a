theorem dX2_clear_0 : decode cX2_clear 0 = .ok (.aload_n 0, 1) := by decide +kernel
theorem dX2_clear_1 : decode cX2_clear 1 = .ok (.getfield 12, 3) := by decide +kernel
theorem dX2_clear_4 : decode cX2_clear 4 = .ok (.iconst 0, 1) := by decide +kernel
theorem dX2_clear_5 : decode cX2_clear 5 = .ok (.putfield 64, 3) := by decide +kernel
theorem dX2_clear_8 : decode cX2_clear 8 = .ok (.aload_n 0, 1) := by decide +kernel
theorem dX2_clear_9 : decode cX2_clear 9 = .ok (.getfield 21, 3) := by decide +kernel
theorem dX2_clear_12 : decode cX2_clear 12 = .ok (.iconst 0, 1) := by decide +kernel
theorem dX2_clear_13 : decode cX2_clear 13 = .ok (.putfield 68, 3) := by decide +kernel
theorem dX2_clear_16 : decode cX2_clear 16 = .ok (.aload_n 0, 1) := by decide +kernel
theorem dX2_clear_17 : decode cX2_clear 17 = .ok (.iconst 0, 1) := by decide +kernel
theorem dX2_clear_18 : decode cX2_clear 18 = .ok (.putfield 69, 3) := by decide +kernel
theorem dX2_clear_21 : decode cX2_clear 21 = .ok (.aload_n 0, 1) := by decide +kernel
theorem dX2_clear_22 : decode cX2_clear 22 = .ok (.iconst 0, 1) := by decide +kernel
theorem dX2_clear_23 : decode cX2_clear 23 = .ok (.putfield 72, 3) := by decide +kernel
theorem dX2_clear_26 : decode cX2_clear 26 = .ok (.aload_n 0, 1) := by decide +kernel
theorem dX2_clear_27 : decode cX2_clear 27 = .ok (.iconst 0, 1) := by decide +kernel
theorem dX2_clear_28 : decode cX2_clear 28 = .ok (.putfield 75, 3) := by decide +kernel
theorem dX2_clear_31 : decode cX2_clear 31 = .ok (.aload_n 0, 1) := by decide +kernel
theorem dX2_clear_32 : decode cX2_clear 32 = .ok (.iconst 0, 1) := by decide +kernel
theorem dX2_clear_33 : decode cX2_clear 33 = .ok (.putfield 78, 3) := by decide +kernel
theorem dX2_clear_36 : decode cX2_clear 36 = .ok (.aload_n 0, 1) := by decide +kernel
theorem dX2_clear_37 : decode cX2_clear 37 = .ok (.iconst 0, 1) := by decide +kernel
theorem dX2_clear_38 : decode cX2_clear 38 = .ok (.putfield 81, 3) := by decide +kernel
theorem dX2_clear_41 : decode cX2_clear 41 = .ok (.aload_n 0, 1) := by decide +kernel
theorem dX2_clear_42 : decode cX2_clear 42 = .ok (.iconst 0, 1) := by decide +kernel
theorem dX2_clear_43 : decode cX2_clear 43 = .ok (.putfield 84, 3) := by decide +kernel
theorem dX2_clear_46 : decode cX2_clear 46 = .ok (.aload_n 0, 1) := by decide +kernel
theorem dX2_clear_47 : decode cX2_clear 47 = .ok (.iconst 0, 1) := by decide +kernel
theorem dX2_clear_48 : decode cX2_clear 48 = .ok (.putfield 87, 3) := by decide +kernel
theorem dX2_clear_51 : decode cX2_clear 51 = .ok (.aload_n 0, 1) := by decide +kernel
theorem dX2_clear_52 : decode cX2_clear 52 = .ok (.iconst 0, 1) := by decide +kernel
theorem dX2_clear_53 : decode cX2_clear 53 = .ok (.putfield 90, 3) := by decide +kernel
theorem dX2_clear_56 : decode cX2_clear 56 = .ok (.aload_n 0, 1) := by decide +kernel
theorem dX2_clear_57 : decode cX2_clear 57 = .ok (.iconst 0, 1) := by decide +kernel
theorem dX2_clear_58 : decode cX2_clear 58 = .ok (.putfield 93, 3) := by decide +kernel
theorem dX2_clear_61 : decode cX2_clear 61 = .ok (.aload_n 0, 1) := by decide +kernel
theorem dX2_clear_62 : decode cX2_clear 62 = .ok (.iconst 0, 1) := by decide +kernel
theorem dX2_clear_63 : decode cX2_clear 63 = .ok (.putfield 96, 3) := by decide +kernel
theorem dX2_clear_66 : decode cX2_clear 66 = .ok (.aload_n 0, 1) := by decide +kernel
theorem dX2_clear_67 : decode cX2_clear 67 = .ok (.iconst 0, 1) := by decide +kernel
theorem dX2_clear_68 : decode cX2_clear 68 = .ok (.putfield 99, 3) := by decide +kernel
theorem dX2_clear_71 : decode cX2_clear 71 = .ok (.return_, 1) := by decide +kernel
/-! a contest is emptied -/
section Cl
variable {G : Gp} {S : AMem} {I : Nat → Nat → Int32} {J : Nat → Nat → Int64} {R : Nat → Nat → Option Nat} {c : Nat}
theorem k_X2_clear (hct : CT S R c) : Fn G mX2_clear 0 [vR c] (mw S I J R) (fun rr M1 => rr = none ∧ M1 = mw S (fun x j => if (x = c ∧ 8 ≤ j ∧ j ≤ 18) ∨ (x = c + 1 ∧ j = 4) ∨ (x = c + 5 ∧ j = 1) then 0 else I x j) J R) := by
  obtain ⟨kc, rc0, rc1, _, _, _, _, _, _, ⟨kd, _⟩, ⟨kb, _⟩, _⟩ := hct
  refine am_aload_n (q := 1) dX2_clear_0 rfl rfl ?_
  refine cm_getR (q := 4) dX2_clear_1 flX2_12 rfl (by assumption) (by assumption) rfl ?_
  refine am_iconst (q := 5) (v := 0) dX2_clear_4 kc_i0 rfl ?_
  refine cm_putI (q := 8) dX2_clear_5 flX2_64 rfl (Or.inl rfl) (Or.inl rfl) (by assumption) rfl ?_
  refine am_aload_n (q := 9) dX2_clear_8 rfl rfl ?_
  refine cm_getR (q := 12) dX2_clear_9 flX2_21 rfl (by assumption) (by assumption) rfl ?_
  refine am_iconst (q := 13) (v := 0) dX2_clear_12 kc_i0 rfl ?_
  refine cm_putI (q := 16) dX2_clear_13 flX2_68 rfl (Or.inl rfl) (Or.inl rfl) (by assumption) rfl ?_
  refine am_aload_n (q := 17) dX2_clear_16 rfl rfl ?_
  refine am_iconst (q := 18) (v := 0) dX2_clear_17 kc_i0 rfl ?_
  refine cm_putI (q := 21) dX2_clear_18 flX2_69 rfl (Or.inl rfl) (Or.inl rfl) (by assumption) rfl ?_
  refine am_aload_n (q := 22) dX2_clear_21 rfl rfl ?_
  refine am_iconst (q := 23) (v := 0) dX2_clear_22 kc_i0 rfl ?_
  refine cm_putI (q := 26) dX2_clear_23 flX2_72 rfl (Or.inl rfl) (Or.inl rfl) (by assumption) rfl ?_
  refine am_aload_n (q := 27) dX2_clear_26 rfl rfl ?_
  refine am_iconst (q := 28) (v := 0) dX2_clear_27 kc_i0 rfl ?_
  refine cm_putI (q := 31) dX2_clear_28 flX2_75 rfl (Or.inl rfl) (Or.inl rfl) (by assumption) rfl ?_
  refine am_aload_n (q := 32) dX2_clear_31 rfl rfl ?_
  refine am_iconst (q := 33) (v := 0) dX2_clear_32 kc_i0 rfl ?_
  refine cm_putI (q := 36) dX2_clear_33 flX2_78 rfl (Or.inl rfl) (Or.inl rfl) (by assumption) rfl ?_
  refine am_aload_n (q := 37) dX2_clear_36 rfl rfl ?_
  refine am_iconst (q := 38) (v := 0) dX2_clear_37 kc_i0 rfl ?_
  refine cm_putI (q := 41) dX2_clear_38 flX2_81 rfl (Or.inl rfl) (Or.inl rfl) (by assumption) rfl ?_
  refine am_aload_n (q := 42) dX2_clear_41 rfl rfl ?_
  refine am_iconst (q := 43) (v := 0) dX2_clear_42 kc_i0 rfl ?_
  refine cm_putI (q := 46) dX2_clear_43 flX2_84 rfl (Or.inl rfl) (Or.inl rfl) (by assumption) rfl ?_
  refine am_aload_n (q := 47) dX2_clear_46 rfl rfl ?_
  refine am_iconst (q := 48) (v := 0) dX2_clear_47 kc_i0 rfl ?_
  refine cm_putI (q := 51) dX2_clear_48 flX2_87 rfl (Or.inl rfl) (Or.inl rfl) (by assumption) rfl ?_
  refine am_aload_n (q := 52) dX2_clear_51 rfl rfl ?_
  refine am_iconst (q := 53) (v := 0) dX2_clear_52 kc_i0 rfl ?_
  refine cm_putI (q := 56) dX2_clear_53 flX2_90 rfl (Or.inl rfl) (Or.inl rfl) (by assumption) rfl ?_
  refine am_aload_n (q := 57) dX2_clear_56 rfl rfl ?_
  refine am_iconst (q := 58) (v := 0) dX2_clear_57 kc_i0 rfl ?_
  refine cm_putI (q := 61) dX2_clear_58 flX2_93 rfl (Or.inl rfl) (Or.inl rfl) (by assumption) rfl ?_
  refine am_aload_n (q := 62) dX2_clear_61 rfl rfl ?_
  refine am_iconst (q := 63) (v := 0) dX2_clear_62 kc_i0 rfl ?_
  refine cm_putI (q := 66) dX2_clear_63 flX2_96 rfl (Or.inl rfl) (Or.inl rfl) (by assumption) rfl ?_
  refine am_aload_n (q := 67) dX2_clear_66 rfl rfl ?_
  refine am_iconst (q := 68) (v := 0) dX2_clear_67 kc_i0 rfl ?_
  refine cm_putI (q := 71) dX2_clear_68 flX2_99 rfl (Or.inl rfl) (Or.inl rfl) (by assumption) rfl ?_
  exact am_ret dX2_clear_71 rfl ⟨_, rfl, rfl, by
    congr 1
    funext x j
    simp only [up2_at]
    grind (splits := 40)⟩
/-- what an emptied contest tells -/
def BS0 : BS := ((0, 0, 0, 0), (fun _ _ => 0), (fun _ => 0), (fun _ => 0), (fun _ => none), (fun _ _ => 0), (fun _ _ => 0))
def MS0 : MS := mkMS (fun _ _ => 0) (fun _ _ => 0) (fun _ _ => 0) (fun _ => 0) (fun _ => 0) (fun _ => 0) 0
theorem k_clear (hct : CT S R c) (h9 : ∀ i, i < 8 → I (c + 22 + i) 9 = 0 ∨ I (c + 22 + i) 9 = 1) : Fn G mX2_clear 0 [vR c] (mw S I J R) (fun rr M1 => rr = none ∧ ∃ I1, M1 = mw S I1 J R ∧ AbB I1 c BS0 ∧ AbM I1 c BS0 MS0 ∧ I1 c 9 = 0 ∧ I1 (c + 1) 4 = 0 ∧ OffC c I I1) := by
  refine MW.weaken (k_X2_clear hct) ?_
  rintro f M1 ⟨r, e1, e2, rfl⟩
  refine ⟨r, e1, e2, _, rfl, ?_, ?_, ?_, ?_, ?_⟩
  · refine ⟨⟨if_pos (by omega), Nat.zero_le _⟩, ⟨if_pos (by omega), Nat.zero_le _⟩, ⟨if_pos (by omega), Nat.zero_le _⟩, ⟨if_pos (by omega), Nat.zero_le _⟩, fun i hi => absurd hi (Nat.not_lt_zero i), fun i hi => absurd hi (Nat.not_lt_zero i), 0, if_pos (by omega), Nat.zero_le _, fun i hi => absurd hi (Nat.not_lt_zero i), fun i hi => absurd hi (Nat.not_lt_zero i)⟩
  · refine ⟨fun i hi => absurd hi (Nat.not_lt_zero i), fun i hi => absurd hi (Nat.not_lt_zero i), fun i hi => absurd hi (Nat.not_lt_zero i), fun j hj => if_pos (by omega), if_pos (by omega), fun i hi => absurd hi (Nat.not_lt_zero i), fun i hi => absurd hi (Nat.not_lt_zero i), if_pos (by omega), Nat.zero_le _, fun i hi => absurd hi (Nat.not_lt_zero i), fun i hi => ?_⟩
    dsimp only
    rw [if_neg (by omega)]
    exact h9 i hi
  · exact if_pos (by omega)
  · exact if_pos (by omega)
  · intro x j q
    exact if_neg (by omega)
end Cl

