theorem kc_i0 : Int32.ofInt 0 = 0 := by decide +kernel
theorem dX3_forceWithArm_0 : decode cX3_forceWithArm 0 = .ok (.iload_n 1, 1) := by decide +kernel
theorem dX3_forceWithArm_1 : decode cX3_forceWithArm 1 = .ok (.aload_n 0, 1) := by decide +kernel
theorem dX3_forceWithArm_2 : decode cX3_forceWithArm 2 = .ok (.getfield 17, 3) := by decide +kernel
theorem dX3_forceWithArm_5 : decode cX3_forceWithArm 5 = .ok (.iadd, 1) := by decide +kernel
theorem dX3_forceWithArm_6 : decode cX3_forceWithArm 6 = .ok (.aload_n 0, 1) := by decide +kernel
theorem dX3_forceWithArm_7 : decode cX3_forceWithArm 7 = .ok (.getfield 23, 3) := by decide +kernel
theorem dX3_forceWithArm_10 : decode cX3_forceWithArm 10 = .ok (.isub, 1) := by decide +kernel
theorem dX3_forceWithArm_11 : decode cX3_forceWithArm 11 = .ok (.istore_n 2, 1) := by decide +kernel
theorem dX3_forceWithArm_12 : decode cX3_forceWithArm 12 = .ok (.iload_n 2, 1) := by decide +kernel
theorem dX3_forceWithArm_13 : decode cX3_forceWithArm 13 = .ok (.ifCond .le 7, 3) := by decide +kernel
theorem dX3_forceWithArm_16 : decode cX3_forceWithArm 16 = .ok (.iload_n 2, 1) := by decide +kernel
theorem dX3_forceWithArm_17 : decode cX3_forceWithArm 17 = .ok (.goto 4, 3) := by decide +kernel
theorem dX3_forceWithArm_20 : decode cX3_forceWithArm 20 = .ok (.iconst 0, 1) := by decide +kernel
theorem dX3_forceWithArm_21 : decode cX3_forceWithArm 21 = .ok (.ireturn, 1) := by decide +kernel
theorem dX3_tell_0 : decode cX3_tell 0 = .ok (.aload_n 0, 1) := by decide +kernel
theorem dX3_tell_1 : decode cX3_tell 1 = .ok (.lload_n 1, 1) := by decide +kernel
theorem dX3_tell_2 : decode cX3_tell 2 = .ok (.putfield 7, 3) := by decide +kernel
theorem dX3_tell_5 : decode cX3_tell 5 = .ok (.aload_n 0, 1) := by decide +kernel
theorem dX3_tell_6 : decode cX3_tell 6 = .ok (.iload_n 3, 1) := by decide +kernel
theorem dX3_tell_7 : decode cX3_tell 7 = .ok (.putfield 13, 3) := by decide +kernel
theorem dX3_tell_10 : decode cX3_tell 10 = .ok (.aload_n 0, 1) := by decide +kernel
theorem dX3_tell_11 : decode cX3_tell 11 = .ok (.iload 4, 2) := by decide +kernel
theorem dX3_tell_13 : decode cX3_tell 13 = .ok (.putfield 17, 3) := by decide +kernel
theorem dX3_tell_16 : decode cX3_tell 16 = .ok (.aload_n 0, 1) := by decide +kernel
theorem dX3_tell_17 : decode cX3_tell 17 = .ok (.iload 5, 2) := by decide +kernel
theorem dX3_tell_19 : decode cX3_tell 19 = .ok (.putfield 20, 3) := by decide +kernel
theorem dX3_tell_22 : decode cX3_tell 22 = .ok (.aload_n 0, 1) := by decide +kernel
theorem dX3_tell_23 : decode cX3_tell 23 = .ok (.iconst 0, 1) := by decide +kernel
theorem dX3_tell_24 : decode cX3_tell 24 = .ok (.putfield 23, 3) := by decide +kernel
theorem dX3_tell_27 : decode cX3_tell 27 = .ok (.aload_n 0, 1) := by decide +kernel
theorem dX3_tell_28 : decode cX3_tell 28 = .ok (.iconst 0, 1) := by decide +kernel
theorem dX3_tell_29 : decode cX3_tell 29 = .ok (.putfield 26, 3) := by decide +kernel
theorem dX3_tell_32 : decode cX3_tell 32 = .ok (.aload_n 0, 1) := by decide +kernel
theorem dX3_tell_33 : decode cX3_tell 33 = .ok (.iconst 0, 1) := by decide +kernel
theorem dX3_tell_34 : decode cX3_tell 34 = .ok (.putfield 29, 3) := by decide +kernel
theorem dX3_tell_37 : decode cX3_tell 37 = .ok (.aload_n 0, 1) := by decide +kernel
theorem dX3_tell_38 : decode cX3_tell 38 = .ok (.iconst 0, 1) := by decide +kernel
theorem dX3_tell_39 : decode cX3_tell 39 = .ok (.putfield 32, 3) := by decide +kernel
theorem dX3_tell_42 : decode cX3_tell 42 = .ok (.aload_n 0, 1) := by decide +kernel
theorem dX3_tell_43 : decode cX3_tell 43 = .ok (.iconst 0, 1) := by decide +kernel
theorem dX3_tell_44 : decode cX3_tell 44 = .ok (.putfield 35, 3) := by decide +kernel
theorem dX3_tell_47 : decode cX3_tell 47 = .ok (.aload_n 0, 1) := by decide +kernel
theorem dX3_tell_48 : decode cX3_tell 48 = .ok (.iconst 0, 1) := by decide +kernel
theorem dX3_tell_49 : decode cX3_tell 49 = .ok (.putfield 38, 3) := by decide +kernel
theorem dX3_tell_52 : decode cX3_tell 52 = .ok (.return_, 1) := by decide +kernel
/-! trial -/
section
variable {G : Gp} {S : AMem} {I : Nat → Nat → Int32} {J : Nat → Nat → Int64} {R : Nat → Nat → Option Nat}
theorem k_X3_tell {a : Nat} {x : Int64} {p q r : Int32} (h1 : S.K a = 4) : Fn G mX3_tell 0 [vR a, vJ x, vI p, vI q, vI r] (mw S I J R) (fun rr M1 => rr = none ∧ M1 = mw S (up2 (up2 (up2 (up2 (up2 (up2 (up2 (up2 (up2 I a 1 p) a 2 q) a 3 r) a 4 0) a 5 0) a 6 0) a 7 0) a 8 0) a 9 0) (up2 J a 0 x) R) := by
  refine am_aload_n (q := 1) dX3_tell_0 rfl rfl ?_
  refine am_lload_n (q := 2) dX3_tell_1 rfl rfl ?_
  refine cm_putJ (q := 5) dX3_tell_2 flX3_7 rfl (Or.inl rfl) (by assumption) rfl ?_
  refine am_aload_n (q := 6) dX3_tell_5 rfl rfl ?_
  refine am_iload_n (q := 7) dX3_tell_6 rfl rfl ?_
  refine cm_putI (q := 10) dX3_tell_7 flX3_13 rfl (Or.inl rfl) (Or.inl rfl) (by assumption) rfl ?_
  refine am_aload_n (q := 11) dX3_tell_10 rfl rfl ?_
  refine am_iload (q := 13) dX3_tell_11 rfl rfl ?_
  refine cm_putI (q := 16) dX3_tell_13 flX3_17 rfl (Or.inl rfl) (Or.inl rfl) (by assumption) rfl ?_
  refine am_aload_n (q := 17) dX3_tell_16 rfl rfl ?_
  refine am_iload (q := 19) dX3_tell_17 rfl rfl ?_
  refine cm_putI (q := 22) dX3_tell_19 flX3_20 rfl (Or.inl rfl) (Or.inl rfl) (by assumption) rfl ?_
  refine am_aload_n (q := 23) dX3_tell_22 rfl rfl ?_
  refine am_iconst (q := 24) (v := 0) dX3_tell_23 kc_i0 rfl ?_
  refine cm_putI (q := 27) dX3_tell_24 flX3_23 rfl (Or.inl rfl) (Or.inl rfl) (by assumption) rfl ?_
  refine am_aload_n (q := 28) dX3_tell_27 rfl rfl ?_
  refine am_iconst (q := 29) (v := 0) dX3_tell_28 kc_i0 rfl ?_
  refine cm_putI (q := 32) dX3_tell_29 flX3_26 rfl (Or.inl rfl) (Or.inl rfl) (by assumption) rfl ?_
  refine am_aload_n (q := 33) dX3_tell_32 rfl rfl ?_
  refine am_iconst (q := 34) (v := 0) dX3_tell_33 kc_i0 rfl ?_
  refine cm_putI (q := 37) dX3_tell_34 flX3_29 rfl (Or.inl rfl) (Or.inl rfl) (by assumption) rfl ?_
  refine am_aload_n (q := 38) dX3_tell_37 rfl rfl ?_
  refine am_iconst (q := 39) (v := 0) dX3_tell_38 kc_i0 rfl ?_
  refine cm_putI (q := 42) dX3_tell_39 flX3_32 rfl (Or.inl rfl) (Or.inl rfl) (by assumption) rfl ?_
  refine am_aload_n (q := 43) dX3_tell_42 rfl rfl ?_
  refine am_iconst (q := 44) (v := 0) dX3_tell_43 kc_i0 rfl ?_
  refine cm_putI (q := 47) dX3_tell_44 flX3_35 rfl (Or.inl rfl) (Or.inl rfl) (by assumption) rfl ?_
  refine am_aload_n (q := 48) dX3_tell_47 rfl rfl ?_
  refine am_iconst (q := 49) (v := 0) dX3_tell_48 kc_i0 rfl ?_
  refine cm_putI (q := 52) dX3_tell_49 flX3_38 rfl (Or.inr (Or.inl rfl)) (Or.inl rfl) (by assumption) rfl ?_
  exact am_ret dX3_tell_52 rfl ⟨_, rfl, rfl, rfl⟩
theorem k_X3_forceWithArm {a : Nat} {p : Int32} (h1 : S.K a = 4) : Fn G mX3_forceWithArm 0 [vR a, vI p] (mw S I J R) (fun rr M1 => rr = some (vI (if 0 < p + I a 2 - I a 4 then p + I a 2 - I a 4 else 0)) ∧ M1 = mw S I J R) := by
  refine am_iload_n (q := 1) dX3_forceWithArm_0 rfl rfl ?_
  refine am_aload_n (q := 2) dX3_forceWithArm_1 rfl rfl ?_
  refine cm_getI (q := 5) dX3_forceWithArm_2 flX3_17 rfl (by assumption) rfl ?_
  refine am_iadd (q := 6) dX3_forceWithArm_5 rfl ?_
  refine am_aload_n (q := 7) dX3_forceWithArm_6 rfl rfl ?_
  refine cm_getI (q := 10) dX3_forceWithArm_7 flX3_23 rfl (by assumption) rfl ?_
  refine am_isub (q := 11) dX3_forceWithArm_10 rfl ?_
  refine am_istore_n (q := 12) (ls1 := [_, _, _]) dX3_forceWithArm_11 (Nat.le_of_ble_eq_true rfl) rfl rfl ?_
  refine am_iload_n (q := 13) dX3_forceWithArm_12 rfl rfl ?_
  refine am_if_le (tgt := 20) (q := 16) dX3_forceWithArm_13 rfl rfl (fun hc => ?_) (fun hc => ?_)
  · refine am_iconst (q := 21) (v := 0) dX3_forceWithArm_20 kc_i0 rfl ?_
    exact am_iret dX3_forceWithArm_21 rfl rfl ⟨_, rfl, by rw [if_neg (by simpa using hc)], rfl⟩
  · refine am_iload_n (q := 17) dX3_forceWithArm_16 rfl rfl ?_
    refine am_goto (tgt := 21) dX3_forceWithArm_17 rfl ?_
    exact am_iret dX3_forceWithArm_21 rfl rfl ⟨_, rfl, by rw [if_pos (by simpa using hc)], rfl⟩
end

