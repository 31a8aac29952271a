theorem kc_b16 : (Int8.ofInt 16).toInt32 = 16 := by decide +kernel
theorem kc_i20 : Int32.ofInt 20 = 20 := by decide +kernel
theorem dL_below_0 : decode cL_below 0 = .ok (.iload_n 0, 1) := by decide +kernel
theorem dL_below_1 : decode cL_below 1 = .ok (.ldc 7, 2) := by decide +kernel
theorem dL_below_3 : decode cL_below 3 = .ok (.iand, 1) := by decide +kernel
theorem dL_below_4 : decode cL_below 4 = .ok (.iload_n 1, 1) := by decide +kernel
theorem dL_below_5 : decode cL_below 5 = .ok (.irem, 1) := by decide +kernel
theorem dL_below_6 : decode cL_below 6 = .ok (.ireturn, 1) := by decide +kernel
theorem dL_cell_0 : decode cL_cell 0 = .ok (.iload_n 1, 1) := by decide +kernel
theorem dL_cell_1 : decode cL_cell 1 = .ok (.aload_n 0, 1) := by decide +kernel
theorem dL_cell_2 : decode cL_cell 2 = .ok (.arraylength, 1) := by decide +kernel
theorem dL_cell_3 : decode cL_cell 3 = .ok (.if_icmp .ge 9, 3) := by decide +kernel
theorem dL_cell_6 : decode cL_cell 6 = .ok (.aload_n 0, 1) := by decide +kernel
theorem dL_cell_7 : decode cL_cell 7 = .ok (.iload_n 1, 1) := by decide +kernel
theorem dL_cell_8 : decode cL_cell 8 = .ok (.iaload, 1) := by decide +kernel
theorem dL_cell_9 : decode cL_cell 9 = .ok (.goto 9, 3) := by decide +kernel
theorem dL_cell_12 : decode cL_cell 12 = .ok (.ldc 8, 2) := by decide +kernel
theorem dL_cell_14 : decode cL_cell 14 = .ok (.iload_n 1, 1) := by decide +kernel
theorem dL_cell_15 : decode cL_cell 15 = .ok (.iconst 3, 1) := by decide +kernel
theorem dL_cell_16 : decode cL_cell 16 = .ok (.iadd, 1) := by decide +kernel
theorem dL_cell_17 : decode cL_cell 17 = .ok (.imul, 1) := by decide +kernel
theorem dL_cell_18 : decode cL_cell 18 = .ok (.ireturn, 1) := by decide +kernel
theorem dL_four_0 : decode cL_four 0 = .ok (.aload_n 0, 1) := by decide +kernel
theorem dL_four_1 : decode cL_four 1 = .ok (.iload_n 1, 1) := by decide +kernel
theorem dL_four_2 : decode cL_four 2 = .ok (.invokestatic 19, 3) := by decide +kernel
theorem dL_four_5 : decode cL_four 5 = .ok (.bipush 24, 2) := by decide +kernel
theorem dL_four_7 : decode cL_four 7 = .ok (.ishl, 1) := by decide +kernel
theorem dL_four_8 : decode cL_four 8 = .ok (.aload_n 0, 1) := by decide +kernel
theorem dL_four_9 : decode cL_four 9 = .ok (.iload_n 1, 1) := by decide +kernel
theorem dL_four_10 : decode cL_four 10 = .ok (.iconst 1, 1) := by decide +kernel
theorem dL_four_11 : decode cL_four 11 = .ok (.iadd, 1) := by decide +kernel
theorem dL_four_12 : decode cL_four 12 = .ok (.invokestatic 19, 3) := by decide +kernel
theorem dL_four_15 : decode cL_four 15 = .ok (.bipush 16, 2) := by decide +kernel
theorem dL_four_17 : decode cL_four 17 = .ok (.ishl, 1) := by decide +kernel
theorem dL_four_18 : decode cL_four 18 = .ok (.ior, 1) := by decide +kernel
theorem dL_four_19 : decode cL_four 19 = .ok (.aload_n 0, 1) := by decide +kernel
theorem dL_four_20 : decode cL_four 20 = .ok (.iload_n 1, 1) := by decide +kernel
theorem dL_four_21 : decode cL_four 21 = .ok (.iconst 2, 1) := by decide +kernel
theorem dL_four_22 : decode cL_four 22 = .ok (.iadd, 1) := by decide +kernel
theorem dL_four_23 : decode cL_four 23 = .ok (.invokestatic 19, 3) := by decide +kernel
theorem dL_four_26 : decode cL_four 26 = .ok (.bipush 8, 2) := by decide +kernel
theorem dL_four_28 : decode cL_four 28 = .ok (.ishl, 1) := by decide +kernel
theorem dL_four_29 : decode cL_four 29 = .ok (.ior, 1) := by decide +kernel
theorem dL_four_30 : decode cL_four 30 = .ok (.aload_n 0, 1) := by decide +kernel
theorem dL_four_31 : decode cL_four 31 = .ok (.iload_n 1, 1) := by decide +kernel
theorem dL_four_32 : decode cL_four 32 = .ok (.iconst 3, 1) := by decide +kernel
theorem dL_four_33 : decode cL_four 33 = .ok (.iadd, 1) := by decide +kernel
theorem dL_four_34 : decode cL_four 34 = .ok (.invokestatic 19, 3) := by decide +kernel
theorem dL_four_37 : decode cL_four 37 = .ok (.ior, 1) := by decide +kernel
theorem dL_four_38 : decode cL_four 38 = .ok (.ireturn, 1) := by decide +kernel
theorem dL_letter_0 : decode cL_letter 0 = .ok (.iload_n 1, 1) := by decide +kernel
theorem dL_letter_1 : decode cL_letter 1 = .ok (.aload_n 0, 1) := by decide +kernel
theorem dL_letter_2 : decode cL_letter 2 = .ok (.invokevirtual 9, 3) := by decide +kernel
theorem dL_letter_5 : decode cL_letter 5 = .ok (.if_icmp .ge 11, 3) := by decide +kernel
theorem dL_letter_8 : decode cL_letter 8 = .ok (.aload_n 0, 1) := by decide +kernel
theorem dL_letter_9 : decode cL_letter 9 = .ok (.iload_n 1, 1) := by decide +kernel
theorem dL_letter_10 : decode cL_letter 10 = .ok (.invokevirtual 15, 3) := by decide +kernel
theorem dL_letter_13 : decode cL_letter 13 = .ok (.goto 5, 3) := by decide +kernel
theorem dL_letter_16 : decode cL_letter 16 = .ok (.bipush 32, 2) := by decide +kernel
theorem dL_letter_18 : decode cL_letter 18 = .ok (.ireturn, 1) := by decide +kernel
theorem dL_number_0 : decode cL_number 0 = .ok (.aload_n 0, 1) := by decide +kernel
theorem dL_number_1 : decode cL_number 1 = .ok (.ldc 41, 2) := by decide +kernel
theorem dL_number_3 : decode cL_number 3 = .ok (.invokestatic 43, 3) := by decide +kernel
theorem dL_number_6 : decode cL_number 6 = .ok (.aload_n 0, 1) := by decide +kernel
theorem dL_number_7 : decode cL_number 7 = .ok (.bipush 9, 2) := by decide +kernel
theorem dL_number_9 : decode cL_number 9 = .ok (.invokevirtual 25, 3) := by decide +kernel
theorem dL_number_12 : decode cL_number 12 = .ok (.istore_n 2, 1) := by decide +kernel
theorem dL_number_13 : decode cL_number 13 = .ok (.iconst 0, 1) := by decide +kernel
theorem dL_number_14 : decode cL_number 14 = .ok (.istore_n 3, 1) := by decide +kernel
theorem dL_number_15 : decode cL_number 15 = .ok (.iconst 0, 1) := by decide +kernel
theorem dL_number_16 : decode cL_number 16 = .ok (.istore 4, 2) := by decide +kernel
theorem dL_number_18 : decode cL_number 18 = .ok (.iload_n 1, 1) := by decide +kernel
theorem dL_number_19 : decode cL_number 19 = .ok (.istore 5, 2) := by decide +kernel
theorem dL_number_21 : decode cL_number 21 = .ok (.iload 4, 2) := by decide +kernel
theorem dL_number_23 : decode cL_number 23 = .ok (.ifCond .eq 8, 3) := by decide +kernel
theorem dL_number_26 : decode cL_number 26 = .ok (.iload 5, 2) := by decide +kernel
theorem dL_number_28 : decode cL_number 28 = .ok (.ifCond .le 33, 3) := by decide +kernel
theorem dL_number_31 : decode cL_number 31 = .ok (.iload_n 3, 1) := by decide +kernel
theorem dL_number_32 : decode cL_number 32 = .ok (.bipush 8, 2) := by decide +kernel
theorem dL_number_34 : decode cL_number 34 = .ok (.iushr, 1) := by decide +kernel
theorem dL_number_35 : decode cL_number 35 = .ok (.bipush 48, 2) := by decide +kernel
theorem dL_number_37 : decode cL_number 37 = .ok (.iload 5, 2) := by decide +kernel
theorem dL_number_39 : decode cL_number 39 = .ok (.bipush 10, 2) := by decide +kernel
theorem dL_number_41 : decode cL_number 41 = .ok (.irem, 1) := by decide +kernel
theorem dL_number_42 : decode cL_number 42 = .ok (.iadd, 1) := by decide +kernel
theorem dL_number_43 : decode cL_number 43 = .ok (.bipush 24, 2) := by decide +kernel
theorem dL_number_45 : decode cL_number 45 = .ok (.ishl, 1) := by decide +kernel
theorem dL_number_46 : decode cL_number 46 = .ok (.ior, 1) := by decide +kernel
theorem dL_number_47 : decode cL_number 47 = .ok (.istore_n 3, 1) := by decide +kernel
theorem dL_number_48 : decode cL_number 48 = .ok (.iinc 4 1, 3) := by decide +kernel
theorem dL_number_51 : decode cL_number 51 = .ok (.iload 5, 2) := by decide +kernel
theorem dL_number_53 : decode cL_number 53 = .ok (.bipush 10, 2) := by decide +kernel
theorem dL_number_55 : decode cL_number 55 = .ok (.idiv, 1) := by decide +kernel
theorem dL_number_56 : decode cL_number 56 = .ok (.istore 5, 2) := by decide +kernel
theorem dL_number_58 : decode cL_number 58 = .ok (.goto (-37), 3) := by decide +kernel
theorem dL_number_61 : decode cL_number 61 = .ok (.aload_n 0, 1) := by decide +kernel
theorem dL_number_62 : decode cL_number 62 = .ok (.iload_n 3, 1) := by decide +kernel
theorem dL_number_63 : decode cL_number 63 = .ok (.iconst 0, 1) := by decide +kernel
theorem dL_number_64 : decode cL_number 64 = .ok (.iconst 0, 1) := by decide +kernel
theorem dL_number_65 : decode cL_number 65 = .ok (.iconst 0, 1) := by decide +kernel
theorem dL_number_66 : decode cL_number 66 = .ok (.iconst 0, 1) := by decide +kernel
theorem dL_number_67 : decode cL_number 67 = .ok (.invokevirtual 34, 3) := by decide +kernel
theorem dL_number_70 : decode cL_number 70 = .ok (.pop, 1) := by decide +kernel
theorem dL_number_71 : decode cL_number 71 = .ok (.aload_n 0, 1) := by decide +kernel
theorem dL_number_72 : decode cL_number 72 = .ok (.iload_n 2, 1) := by decide +kernel
theorem dL_number_73 : decode cL_number 73 = .ok (.iload 4, 2) := by decide +kernel
theorem dL_number_75 : decode cL_number 75 = .ok (.iadd, 1) := by decide +kernel
theorem dL_number_76 : decode cL_number 76 = .ok (.invokevirtual 38, 3) := by decide +kernel
theorem dL_number_79 : decode cL_number 79 = .ok (.pop, 1) := by decide +kernel
theorem dL_number_80 : decode cL_number 80 = .ok (.return_, 1) := by decide +kernel
theorem dL_say_0 : decode cL_say 0 = .ok (.aload_n 0, 1) := by decide +kernel
theorem dL_say_1 : decode cL_say 1 = .ok (.bipush 9, 2) := by decide +kernel
theorem dL_say_3 : decode cL_say 3 = .ok (.invokevirtual 25, 3) := by decide +kernel
theorem dL_say_6 : decode cL_say 6 = .ok (.istore_n 2, 1) := by decide +kernel
theorem dL_say_7 : decode cL_say 7 = .ok (.iconst 0, 1) := by decide +kernel
theorem dL_say_8 : decode cL_say 8 = .ok (.istore_n 3, 1) := by decide +kernel
theorem dL_say_9 : decode cL_say 9 = .ok (.iload_n 3, 1) := by decide +kernel
theorem dL_say_10 : decode cL_say 10 = .ok (.aload_n 1, 1) := by decide +kernel
theorem dL_say_11 : decode cL_say 11 = .ok (.invokevirtual 9, 3) := by decide +kernel
theorem dL_say_14 : decode cL_say 14 = .ok (.if_icmp .ge 50, 3) := by decide +kernel
theorem dL_say_17 : decode cL_say 17 = .ok (.aload_n 0, 1) := by decide +kernel
theorem dL_say_18 : decode cL_say 18 = .ok (.aload_n 1, 1) := by decide +kernel
theorem dL_say_19 : decode cL_say 19 = .ok (.iload_n 3, 1) := by decide +kernel
theorem dL_say_20 : decode cL_say 20 = .ok (.invokestatic 31, 3) := by decide +kernel
theorem dL_say_23 : decode cL_say 23 = .ok (.aload_n 1, 1) := by decide +kernel
theorem dL_say_24 : decode cL_say 24 = .ok (.iload_n 3, 1) := by decide +kernel
theorem dL_say_25 : decode cL_say 25 = .ok (.iconst 4, 1) := by decide +kernel
theorem dL_say_26 : decode cL_say 26 = .ok (.iadd, 1) := by decide +kernel
theorem dL_say_27 : decode cL_say 27 = .ok (.invokestatic 31, 3) := by decide +kernel
theorem dL_say_30 : decode cL_say 30 = .ok (.aload_n 1, 1) := by decide +kernel
theorem dL_say_31 : decode cL_say 31 = .ok (.iload_n 3, 1) := by decide +kernel
theorem dL_say_32 : decode cL_say 32 = .ok (.bipush 8, 2) := by decide +kernel
theorem dL_say_34 : decode cL_say 34 = .ok (.iadd, 1) := by decide +kernel
theorem dL_say_35 : decode cL_say 35 = .ok (.invokestatic 31, 3) := by decide +kernel
theorem dL_say_38 : decode cL_say 38 = .ok (.aload_n 1, 1) := by decide +kernel
theorem dL_say_39 : decode cL_say 39 = .ok (.iload_n 3, 1) := by decide +kernel
theorem dL_say_40 : decode cL_say 40 = .ok (.bipush 12, 2) := by decide +kernel
theorem dL_say_42 : decode cL_say 42 = .ok (.iadd, 1) := by decide +kernel
theorem dL_say_43 : decode cL_say 43 = .ok (.invokestatic 31, 3) := by decide +kernel
theorem dL_say_46 : decode cL_say 46 = .ok (.aload_n 1, 1) := by decide +kernel
theorem dL_say_47 : decode cL_say 47 = .ok (.iload_n 3, 1) := by decide +kernel
theorem dL_say_48 : decode cL_say 48 = .ok (.bipush 16, 2) := by decide +kernel
theorem dL_say_50 : decode cL_say 50 = .ok (.iadd, 1) := by decide +kernel
theorem dL_say_51 : decode cL_say 51 = .ok (.invokestatic 31, 3) := by decide +kernel
theorem dL_say_54 : decode cL_say 54 = .ok (.invokevirtual 34, 3) := by decide +kernel
theorem dL_say_57 : decode cL_say 57 = .ok (.pop, 1) := by decide +kernel
theorem dL_say_58 : decode cL_say 58 = .ok (.iinc 3 20, 3) := by decide +kernel
theorem dL_say_61 : decode cL_say 61 = .ok (.goto (-52), 3) := by decide +kernel
theorem dL_say_64 : decode cL_say 64 = .ok (.aload_n 0, 1) := by decide +kernel
theorem dL_say_65 : decode cL_say 65 = .ok (.iload_n 2, 1) := by decide +kernel
theorem dL_say_66 : decode cL_say 66 = .ok (.aload_n 1, 1) := by decide +kernel
theorem dL_say_67 : decode cL_say 67 = .ok (.invokevirtual 9, 3) := by decide +kernel
theorem dL_say_70 : decode cL_say 70 = .ok (.iadd, 1) := by decide +kernel
theorem dL_say_71 : decode cL_say 71 = .ok (.invokevirtual 38, 3) := by decide +kernel
theorem dL_say_74 : decode cL_say 74 = .ok (.pop, 1) := by decide +kernel
theorem dL_say_75 : decode cL_say 75 = .ok (.return_, 1) := by decide +kernel
/-! the law's helpers: cells of the script, numbers below others, texts and numbers behind the tape -/
section Hp
variable {G : Gp} {S : AMem} {I : Nat → Nat → Int32} {J : Nat → Nat → Int64} {R : Nat → Nat → Option Nat} {x : Nat} {s : XS} {Z : StA} {i : Nat}
theorem kl_below {v w : Int32} {N : Nat} (hw : w = nI N) (h0 : 0 < N) (hN : N < 2 ^ 31) : Fn G mL_below 0 [vI v, vI w] (mw S I J R) (fun rr M1 => ∃ k, k < N ∧ rr = some (vI (nI k)) ∧ M1 = mw S I J R) := by
  subst hw
  refine am_iload_n (q := 1) dL_below_0 rfl rfl ?_
  refine am_ldcI (q := 3) (v := 2147483647) dL_below_1 (tbc3 180 rfl rfl) rfl ?_
  refine am_iand (q := 4) dL_below_3 rfl ?_
  rw [pk_and v 31 (by decide)]
  refine am_iload_n (q := 5) dL_below_4 rfl rfl ?_
  refine am_irem (q := 6) dL_below_5 (fun q => absurd ((nI_eq hN (by decide)).mp (q.trans nI_0.symm)) (by omega)) rfl ?_
  rw [pk_rem (Nat.lt_of_lt_of_le (Nat.mod_lt _ (by decide)) (Nat.le_refl _)) h0 hN]
  exact am_iret dL_below_6 rfl rfl ⟨_, rfl, _, Nat.mod_lt _ h0, rfl, rfl⟩
theorem kl_cell {b L k : Nat} {w : Int32} {xs : Nat → Int32} (hsc : Sc G b L xs) (hL : L < 2 ^ 31) (hw : w = nI k) (hk : k < 2 ^ 31) : Fn G mL_cell 0 [vR b, vI w] (mw S I J R) (fun rr M1 => ∃ c, rr = some (vI c) ∧ M1 = mw S I J R) := by
  subst hw
  by_cases h : k < L
  · refine am_iload_n (q := 1) dL_cell_0 rfl rfl ?_
    refine am_aload_n (q := 2) dL_cell_1 rfl rfl ?_
    refine am_tlen (q := 3) dL_cell_2 (hsc) (rfl) rfl ?_
    refine am_icmp_ge (tgt := 12) (q := 6) dL_cell_3 rfl rfl (fun hz => absurd hz (nI_ge h hL)) (fun _ => ?_)
    refine am_aload_n (q := 7) dL_cell_6 rfl rfl ?_
    refine am_iload_n (q := 8) dL_cell_7 rfl rfl ?_
    refine am_tint (q := 9) dL_cell_8 (hsc) (vp_in_nI h hL) (rfl) rfl ?_
    refine am_goto (tgt := 18) dL_cell_9 rfl ?_
    exact am_iret dL_cell_18 rfl rfl ⟨_, rfl, _, rfl, rfl⟩
  · refine am_iload_n (q := 1) dL_cell_0 rfl rfl ?_
    refine am_aload_n (q := 2) dL_cell_1 rfl rfl ?_
    refine am_tlen (q := 3) dL_cell_2 (hsc) (rfl) rfl ?_
    refine am_icmp_ge (tgt := 12) (q := 6) dL_cell_3 rfl rfl (fun _ => ?_) (fun hz => absurd (nI_le (Nat.le_of_not_lt h) hk) hz)
    refine am_ldcI (q := 14) (v := 461243603) dL_cell_12 (tbc3 184 rfl rfl) rfl ?_
    refine am_iload_n (q := 15) dL_cell_14 rfl rfl ?_
    refine am_iconst (q := 16) (v := 3) dL_cell_15 kc_i3 rfl ?_
    refine am_iadd (q := 17) dL_cell_16 rfl ?_
    refine am_imul (q := 18) dL_cell_17 rfl ?_
    exact am_iret dL_cell_18 rfl rfl ⟨_, rfl, _, rfl, rfl⟩
/-- the sign j of the text i; behind its end blanks -/
def letN (i j : Nat) : Int32 := (strN i).getD j 32
theorem letN_lt {j : Nat} (h : j < (strN i).length) : letN i j = (strN i).getD j 0 := by
  simp [letN, List.getD_eq_getElem?_getD, List.getElem?_eq_getElem h]
theorem letN_ge {j : Nat} (h : (strN i).length ≤ j) : letN i j = 32 := by
  simp [letN, List.getD_eq_getElem?_getD, List.getElem?_eq_none h]
theorem kl_letter {j : Nat} {w : Int32} (hG : okG G) (hZ : KS G Z) (hi : i < 17) (hw : w = nI j) (hj : j < 2 ^ 31) : Fn G mL_letter 5 [vR (Z.k i), vI w] (mw S I J R) (fun rr M1 => rr = some (vI (letN i j)) ∧ M1 = mw S I J R) := by
  subst hw
  have le := k_length (S := S) (I := I) (J := J) (R := R) hG hZ hi
  have hl := (str_asc i hi).1
  by_cases h : j < (strN i).length
  · have ch := k_charAt (S := S) (I := I) (J := J) (R := R) hG hZ hi h
    refine am_iload_n (q := 1) dL_letter_0 rfl rfl ?_
    refine am_aload_n (q := 2) dL_letter_1 rfl rfl ?_
    refine am_callO (q := 5) (As := []) hG dL_letter_2 mlL_9 rfl (hZ.O hi) (Nat.le_of_ble_eq_true rfl) (Nat.le_of_ble_eq_true rfl) (Nat.le_of_ble_eq_true rfl) le rfl ?_
    rintro _ _ ⟨rfl, rfl⟩
    refine am_icmp_ge (tgt := 16) (q := 8) dL_letter_5 rfl rfl (fun hz => absurd hz (nI_ge h (by omega))) (fun _ => ?_)
    refine am_aload_n (q := 9) dL_letter_8 rfl rfl ?_
    refine am_iload_n (q := 10) dL_letter_9 rfl rfl ?_
    refine am_callO (q := 13) (As := [_]) hG dL_letter_10 mlL_15 rfl (hZ.O hi) (Nat.le_of_ble_eq_true rfl) (Nat.le_of_ble_eq_true rfl) (Nat.le_of_ble_eq_true rfl) ch rfl ?_
    rintro _ _ ⟨rfl, rfl⟩
    refine am_goto (tgt := 18) dL_letter_13 rfl ?_
    exact am_iret dL_letter_18 rfl rfl ⟨_, rfl, by rw [letN_lt h], rfl⟩
  · refine am_iload_n (q := 1) dL_letter_0 rfl rfl ?_
    refine am_aload_n (q := 2) dL_letter_1 rfl rfl ?_
    refine am_callO (q := 5) (As := []) hG dL_letter_2 mlL_9 rfl (hZ.O hi) (Nat.le_of_ble_eq_true rfl) (Nat.le_of_ble_eq_true rfl) (Nat.le_of_ble_eq_true rfl) le rfl ?_
    rintro _ _ ⟨rfl, rfl⟩
    refine am_icmp_ge (tgt := 16) (q := 8) dL_letter_5 rfl rfl (fun _ => ?_) (fun hz => absurd (nI_le (Nat.le_of_not_lt h) hj) hz)
    refine am_bipush (q := 18) (v := 32) dL_letter_16 kc_b32 rfl ?_
    exact am_iret dL_letter_18 rfl rfl ⟨_, rfl, by rw [letN_ge (Nat.le_of_not_lt h)], rfl⟩
def fourN (i k : Nat) : Int32 := ((letN i k <<< ((24 : Int32) &&& 31) ||| letN i (k + 1) <<< ((16 : Int32) &&& 31)) ||| letN i (k + 2) <<< ((8 : Int32) &&& 31)) ||| letN i (k + 3)
theorem kl_four {k : Nat} {w : Int32} (hG : okG G) (hZ : KS G Z) (hi : i < 17) (hw : w = nI k) (hk : k < 10000) : Fn G mL_four 7 [vR (Z.k i), vI w] (mw S I J R) (fun rr M1 => rr = some (vI (fourN i k)) ∧ M1 = mw S I J R) := by
  subst hw
  refine am_aload_n (q := 1) dL_four_0 rfl rfl ?_
  refine am_iload_n (q := 2) dL_four_1 rfl rfl ?_
  refine am_call1 (q := 5) (As := [_, _]) hG dL_four_2 mlL_19 rfl (Nat.le_of_ble_eq_true rfl) (Nat.le_of_ble_eq_true rfl) (Nat.le_of_ble_eq_true rfl) (kl_letter hG hZ hi rfl (by omega)) rfl ?_
  rintro _ _ ⟨rfl, rfl⟩
  refine am_bipush (q := 7) (v := 24) dL_four_5 kc_b24 rfl ?_
  refine am_ishl (q := 8) dL_four_7 rfl ?_
  refine am_aload_n (q := 9) dL_four_8 rfl rfl ?_
  refine am_iload_n (q := 10) dL_four_9 rfl rfl ?_
  refine am_iconst (q := 11) (v := 1) dL_four_10 kc_i1 rfl ?_
  refine am_iadd (q := 12) dL_four_11 rfl ?_
  refine am_call1 (q := 15) (As := [_, _]) hG dL_four_12 mlL_19 rfl (Nat.le_of_ble_eq_true rfl) (Nat.le_of_ble_eq_true rfl) (Nat.le_of_ble_eq_true rfl) (kl_letter hG hZ hi (nI_1 k) (by omega)) rfl ?_
  rintro _ _ ⟨rfl, rfl⟩
  refine am_bipush (q := 17) (v := 16) dL_four_15 kc_b16 rfl ?_
  refine am_ishl (q := 18) dL_four_17 rfl ?_
  refine am_ior (q := 19) dL_four_18 rfl ?_
  refine am_aload_n (q := 20) dL_four_19 rfl rfl ?_
  refine am_iload_n (q := 21) dL_four_20 rfl rfl ?_
  refine am_iconst (q := 22) (v := 2) dL_four_21 kc_i2 rfl ?_
  refine am_iadd (q := 23) dL_four_22 rfl ?_
  refine am_call1 (q := 26) (As := [_, _]) hG dL_four_23 mlL_19 rfl (Nat.le_of_ble_eq_true rfl) (Nat.le_of_ble_eq_true rfl) (Nat.le_of_ble_eq_true rfl) (kl_letter hG hZ hi (nI_add k 2) (by omega)) rfl ?_
  rintro _ _ ⟨rfl, rfl⟩
  refine am_bipush (q := 28) (v := 8) dL_four_26 kc_b8 rfl ?_
  refine am_ishl (q := 29) dL_four_28 rfl ?_
  refine am_ior (q := 30) dL_four_29 rfl ?_
  refine am_aload_n (q := 31) dL_four_30 rfl rfl ?_
  refine am_iload_n (q := 32) dL_four_31 rfl rfl ?_
  refine am_iconst (q := 33) (v := 3) dL_four_32 kc_i3 rfl ?_
  refine am_iadd (q := 34) dL_four_33 rfl ?_
  refine am_call1 (q := 37) (As := [_, _]) hG dL_four_34 mlL_19 rfl (Nat.le_of_ble_eq_true rfl) (Nat.le_of_ble_eq_true rfl) (Nat.le_of_ble_eq_true rfl) (kl_letter hG hZ hi (nI_add k 3) (by omega)) rfl ?_
  rintro _ _ ⟨rfl, rfl⟩
  refine am_ior (q := 38) dL_four_37 rfl ?_
  exact am_iret dL_four_38 rfl rfl ⟨_, rfl, rfl, rfl⟩
/-! bytes behind the tape -/
/-- the byte r of a number -/
def bytN (v : Int32) (r : Nat) : Int32 := (v.toUInt32 >>> ((nI (24 - 8 * r)).toUInt32 &&& Int32.toUInt32 31)).toInt32 &&& 255
theorem num_at {E : Tp} {v : Int32} : ∀ k, (∀ j, j < E.1 → (E.num v k).2 j = E.2 j) ∧ ∀ r, r < k → (E.num v k).2 (E.1 + r) = bytN v r := by
  intro k
  induction k with
  | zero => exact ⟨fun _ _ => rfl, fun r h => absurd h (Nat.not_lt_zero r)⟩
  | succ k ih =>
    have e1 := Tp.num_1 (E := E) (v := v) k
    have e : ∀ j, (E.num v (k + 1)).2 j = if j = (E.num v k).1 then bytN v k else (E.num v k).2 j := fun j => rfl
    refine ⟨fun j hj => ?_, fun r hr => ?_⟩
    · rw [e, if_neg (by omega)]
      exact ih.1 j hj
    · rw [e]
      by_cases c : r = k
      · subst c
        rw [if_pos e1.symm]
      · rw [if_neg (by omega)]
        exact ih.2 r (by omega)
theorem fed_at {E : Tp} {p q r u v : Int32} : (fedE E p q r u v).1 = E.1 + 20 ∧ (∀ j, j < E.1 → (fedE E p q r u v).2 j = E.2 j) ∧ ∀ t, t < 20 → (fedE E p q r u v).2 (E.1 + t) = bytN ([p, q, r, u, v].getD (t / 4) 0) (t % 4) := by
  unfold fedE
  have n0 := Tp.num_1 (E := E) (v := p) 4
  have m0 := num_at (E := E) (v := p) 4
  generalize E.num p 4 = E1 at *
  have n1 := Tp.num_1 (E := E1) (v := q) 4
  have m1 := num_at (E := E1) (v := q) 4
  generalize E1.num q 4 = E2 at *
  have n2 := Tp.num_1 (E := E2) (v := r) 4
  have m2 := num_at (E := E2) (v := r) 4
  generalize E2.num r 4 = E3 at *
  have n3 := Tp.num_1 (E := E3) (v := u) 4
  have m3 := num_at (E := E3) (v := u) 4
  generalize E3.num u 4 = E4 at *
  have n4 := Tp.num_1 (E := E4) (v := v) 4
  have m4 := num_at (E := E4) (v := v) 4
  generalize E4.num v 4 = E5 at *
  refine ⟨by omega, fun j hj => by rw [m4.1 _ (by omega), m3.1 _ (by omega), m2.1 _ (by omega), m1.1 _ (by omega), m0.1 _ hj], fun t ht => ?_⟩
  by_cases c0 : t < 4
  · rw [m4.1 _ (by omega), m3.1 _ (by omega), m2.1 _ (by omega), m1.1 _ (by omega), m0.2 t c0, show t / 4 = 0 by omega, show t % 4 = t by omega]
    rfl
  · by_cases c1 : t < 8
    · rw [m4.1 _ (by omega), m3.1 _ (by omega), m2.1 _ (by omega), show E.1 + t = E1.1 + (t - 4) by omega, m1.2 _ (by omega), show t / 4 = 1 by omega, show t % 4 = t - 4 by omega]
      rfl
    · by_cases c2 : t < 12
      · rw [m4.1 _ (by omega), m3.1 _ (by omega), show E.1 + t = E2.1 + (t - 8) by omega, m2.2 _ (by omega), show t / 4 = 2 by omega, show t % 4 = t - 8 by omega]
        rfl
      · by_cases c3 : t < 16
        · rw [m4.1 _ (by omega), show E.1 + t = E3.1 + (t - 12) by omega, m3.2 _ (by omega), show t / 4 = 3 by omega, show t % 4 = t - 12 by omega]
          rfl
        · rw [show E.1 + t = E4.1 + (t - 16) by omega, m4.2 _ (by omega), show t / 4 = 4 by omega, show t % 4 = t - 16 by omega]
          rfl
theorem four_by : ∀ i, i < 15 → ∀ k, k < 8 → 20 * k < (strN i).length → ∀ t, t < 20 → bytN ([fourN i (20 * k), fourN i (20 * k + 4), fourN i (20 * k + 8), fourN i (20 * k + 12), fourN i (20 * k + 16)].getD (t / 4) 0) (t % 4) = letN i (20 * k + t) := by decide +kernel
theorem str_len : ∀ i, i < 15 → (strN i).length ≤ 160 := by decide +kernel
/-- the tape's bytes -/
def TpL (E : Tp) (l : List Int32) : Prop := E.1 = l.length ∧ ∀ j, j < l.length → E.2 j = l.getD j 0
def XT (S : AMem) (x : Nat) (l : List Int32) (I : Nat → Nat → Int32) (J : Nat → Nat → Int64) (R : Nat → Nat → Option Nat) : Prop := ∃ E, TpL E l ∧ XW kwK S x (E, BS0, MS0, -1) I J R
theorem TpL.app {E E1 : Tp} {l w : List Int32} (h : TpL E l) (h1 : E1.1 = E.1 + w.length) (h2 : ∀ j, j < E.1 → E1.2 j = E.2 j) (h3 : ∀ t, t < w.length → E1.2 (E.1 + t) = w.getD t 0) : TpL E1 (l ++ w) := by
  refine ⟨by rw [List.length_append, h1, h.1], fun j hj => ?_⟩
  rw [List.length_append] at hj
  by_cases c : j < l.length
  · rw [h2 j (by rw [h.1]; exact c), h.2 j c]
    simp [List.getD_eq_getElem?_getD, List.getElem?_append_left c]
  · have e : j = E.1 + (j - l.length) := by rw [h.1]; omega
    have := h3 (j - l.length) (by omega)
    rw [← e] at this
    rw [this]
    simp [List.getD_eq_getElem?_getD, List.getElem?_append_right (Nat.le_of_not_lt c)]
theorem kl_say {l : List Int32} (hG : okG G) (hZ : KS G Z) (hi : i < 15) (hX : XT S x l I J R) (hl : l.length + 180 ≤ 2000) : Fn G mL_say 14 [vR x, vR (Z.k i)] (mw S I J R) (fun rr M1 => rr = none ∧ ∃ I1 J1 R1, M1 = mw S I1 J1 R1 ∧ XT S x (l ++ strN i) I1 J1 R1) := by
  obtain ⟨E, hE, hW⟩ := hX
  have kx := hW.kx
  have hi2 : i < 17 := by omega
  have sl := str_len i hi
  have fb := four_by i hi
  have c9 := kf_count (w := 9) hG hW (by decide)
  rw [show (if (9 : Int32).toNatClampNeg = 9 then nI (XS.E (E, BS0, MS0, -1)).1 else tlC (XS.B (E, BS0, MS0, -1)) (XS.m (E, BS0, MS0, -1)) (9 : Int32).toNatClampNeg) = nI E.1 from if_pos (by decide)] at c9
  refine am_aload_n (q := 1) dL_say_0 rfl rfl ?_
  refine am_bipush (q := 3) (v := 9) dL_say_1 kc_b9 rfl ?_
  refine cm_call0 (q := 6) (As := [_]) hG dL_say_3 mlL_25 rfl (by assumption) ⟨_, _, rfl⟩ (Nat.le_of_ble_eq_true rfl) (Nat.le_of_ble_eq_true rfl) (Nat.le_of_ble_eq_true rfl) (Nat.le_of_ble_eq_true rfl) c9 rfl ?_
  rintro _ _ ⟨rfl, I0, J0, R0, rfl, h0⟩
  refine am_istore_n (q := 7) (ls1 := [_, _, _, _]) dL_say_6 (Nat.le_of_ble_eq_true rfl) rfl rfl ?_
  refine am_iconst (q := 8) (v := 0) dL_say_7 kc_i0 rfl ?_
  refine am_istore_n (q := 9) (ls1 := [_, _, _, _]) dL_say_8 (Nat.le_of_ble_eq_true rfl) rfl rfl ?_
  clear hW c9
  have hE0 : E.1 = l.length := hE.1
  refine k_loop (σ := Tp × (Nat → Nat → Int32) × (Nat → Nat → Int64) × (Nat → Nat → Option Nat)) (n := ((strN i).length + 19) / 20) (Inv := fun n t => t.1.1 = E.1 + 20 * n ∧ (∀ j, j < E.1 → t.1.2 j = E.2 j) ∧ (∀ j, j < 20 * n → t.1.2 (E.1 + j) = letN i j) ∧ XW kwK S x (t.1, BS0, MS0, -1) t.2.1 t.2.2.1 t.2.2.2) (W := fun n t => MW G mL_say 14 9 [some (vR x), some (vR (Z.k i)), some (vI (nI E.1)), some (vI (nI (20 * n)))] [] (mw S t.2.1 t.2.2.1 t.2.2.2) _) ?_ ?_ 0 (E, I0, J0, R0) (Nat.zero_le _) ⟨rfl, fun _ _ => rfl, fun j hj => absurd hj (Nat.not_lt_zero j), h0⟩
  · rintro n ⟨E1, I1, J1, R1⟩ hn ⟨v1, v2, v3, v4⟩ ih
    have v1 : E1.1 = E.1 + 20 * n := v1
    have v4 : XW kwK S x (E1, BS0, MS0, -1) I1 J1 R1 := v4
    have le := k_length (S := S) (I := I1) (J := J1) (R := R1) hG hZ hi2
    have fd := kf_feed (p := fourN i (20 * n)) (q := fourN i (20 * n + 4)) (r := fourN i (20 * n + 8)) (u := fourN i (20 * n + 12)) (v := fourN i (20 * n + 16)) hG v4 (show E1.1 + 20 ≤ 2000 by omega)
    refine am_iload_n (q := 10) dL_say_9 rfl rfl ?_
    refine am_aload_n (q := 11) dL_say_10 rfl rfl ?_
    refine am_callO (q := 14) (As := []) hG dL_say_11 mlL_9 rfl (hZ.O hi2) (Nat.le_of_ble_eq_true rfl) (Nat.le_of_ble_eq_true rfl) (Nat.le_of_ble_eq_true rfl) le rfl ?_
    rintro _ _ ⟨rfl, rfl⟩
    refine am_icmp_ge (tgt := 64) (q := 17) dL_say_14 rfl rfl (fun hz => absurd hz (nI_ge (by omega) (by omega))) (fun _ => ?_)
    refine am_aload_n (q := 18) dL_say_17 rfl rfl ?_
    refine am_aload_n (q := 19) dL_say_18 rfl rfl ?_
    refine am_iload_n (q := 20) dL_say_19 rfl rfl ?_
    refine am_call1 (q := 23) (As := [_, _]) hG dL_say_20 mlL_31 rfl (Nat.le_of_ble_eq_true rfl) (Nat.le_of_ble_eq_true rfl) (Nat.le_of_ble_eq_true rfl) (kl_four hG hZ hi2 rfl (by omega)) rfl ?_
    rintro _ _ ⟨rfl, rfl⟩
    refine am_aload_n (q := 24) dL_say_23 rfl rfl ?_
    refine am_iload_n (q := 25) dL_say_24 rfl rfl ?_
    refine am_iconst (q := 26) (v := 4) dL_say_25 kc_i4 rfl ?_
    refine am_iadd (q := 27) dL_say_26 rfl ?_
    refine am_call1 (q := 30) (As := [_, _]) hG dL_say_27 mlL_31 rfl (Nat.le_of_ble_eq_true rfl) (Nat.le_of_ble_eq_true rfl) (Nat.le_of_ble_eq_true rfl) (kl_four hG hZ hi2 (nI_add (20 * n) 4) (by omega)) rfl ?_
    rintro _ _ ⟨rfl, rfl⟩
    refine am_aload_n (q := 31) dL_say_30 rfl rfl ?_
    refine am_iload_n (q := 32) dL_say_31 rfl rfl ?_
    refine am_bipush (q := 34) (v := 8) dL_say_32 kc_b8 rfl ?_
    refine am_iadd (q := 35) dL_say_34 rfl ?_
    refine am_call1 (q := 38) (As := [_, _]) hG dL_say_35 mlL_31 rfl (Nat.le_of_ble_eq_true rfl) (Nat.le_of_ble_eq_true rfl) (Nat.le_of_ble_eq_true rfl) (kl_four hG hZ hi2 (nI_add (20 * n) 8) (by omega)) rfl ?_
    rintro _ _ ⟨rfl, rfl⟩
    refine am_aload_n (q := 39) dL_say_38 rfl rfl ?_
    refine am_iload_n (q := 40) dL_say_39 rfl rfl ?_
    refine am_bipush (q := 42) (v := 12) dL_say_40 kc_b12 rfl ?_
    refine am_iadd (q := 43) dL_say_42 rfl ?_
    refine am_call1 (q := 46) (As := [_, _]) hG dL_say_43 mlL_31 rfl (Nat.le_of_ble_eq_true rfl) (Nat.le_of_ble_eq_true rfl) (Nat.le_of_ble_eq_true rfl) (kl_four hG hZ hi2 (nI_add (20 * n) 12) (by omega)) rfl ?_
    rintro _ _ ⟨rfl, rfl⟩
    refine am_aload_n (q := 47) dL_say_46 rfl rfl ?_
    refine am_iload_n (q := 48) dL_say_47 rfl rfl ?_
    refine am_bipush (q := 50) (v := 16) dL_say_48 kc_b16 rfl ?_
    refine am_iadd (q := 51) dL_say_50 rfl ?_
    refine am_call1 (q := 54) (As := [_, _]) hG dL_say_51 mlL_31 rfl (Nat.le_of_ble_eq_true rfl) (Nat.le_of_ble_eq_true rfl) (Nat.le_of_ble_eq_true rfl) (kl_four hG hZ hi2 (nI_add (20 * n) 16) (by omega)) rfl ?_
    rintro _ _ ⟨rfl, rfl⟩
    refine cm_call0 (q := 57) (As := [_, _, _, _, _]) hG dL_say_54 mlL_34 rfl (by assumption) ⟨_, _, rfl⟩ (Nat.le_of_ble_eq_true rfl) (Nat.le_of_ble_eq_true rfl) (Nat.le_of_ble_eq_true rfl) (Nat.le_of_ble_eq_true rfl) fd rfl ?_
    rintro _ _ ⟨rfl, I2, J2, R2, rfl, h2⟩
    refine am_pop (q := 58) dL_say_57 rfl rfl ?_
    refine am_iincW (q := 61) (ls1 := [_, _, _, _]) (w := 20) dL_say_58 rfl (Nat.le_of_ble_eq_true rfl) kc_i20 rfl rfl ?_
    refine am_goto (tgt := 9) dL_say_61 rfl ?_
    obtain ⟨f1, f2, f3⟩ := fed_at (E := E1) (p := fourN i (20 * n)) (q := fourN i (20 * n + 4)) (r := fourN i (20 * n + 8)) (u := fourN i (20 * n + 12)) (v := fourN i (20 * n + 16))
    refine (?_ : MW G mL_say 14 9 [some (vR x), some (vR (Z.k i)), some (vI (nI E.1)), some (vI (nI (20 * n) + 20))] [] (mw S I2 J2 R2) _)
    rw [show nI (20 * n) + 20 = nI (20 * (n + 1)) from nI_add (20 * n) 20]
    refine ih (_, I2, J2, R2) ⟨f1.trans (by rw [v1]; omega), fun j hj => (f2 j (by omega)).trans (v2 j hj), fun j hj => ?_, h2⟩
    by_cases c : j < 20 * n
    · exact (f2 _ (by omega)).trans (v3 j c)
    · have := f3 (j - 20 * n) (by omega)
      rw [fb n (by omega) (by omega) _ (by omega), show E1.1 + (j - 20 * n) = E.1 + j by omega, show 20 * n + (j - 20 * n) = j by omega] at this
      exact this
  · rintro ⟨E1, I1, J1, R1⟩ ⟨v1, v2, v3, v4⟩
    have v1 : E1.1 = E.1 + 20 * (((strN i).length + 19) / 20) := v1
    have v4 : XW kwK S x (E1, BS0, MS0, -1) I1 J1 R1 := v4
    have le := k_length (S := S) (I := I1) (J := J1) (R := R1) hG hZ hi2
    have tr := kf_trim (w := nI E.1 + nI (strN i).length) (n := E.1 + (strN i).length) (nI_add _ _) hG v4 (show _ ≤ E1.1 by omega) (show E1.1 ≤ 2000 by omega)
    refine am_iload_n (q := 10) dL_say_9 rfl rfl ?_
    refine am_aload_n (q := 11) dL_say_10 rfl rfl ?_
    refine am_callO (q := 14) (As := []) hG dL_say_11 mlL_9 rfl (hZ.O hi2) (Nat.le_of_ble_eq_true rfl) (Nat.le_of_ble_eq_true rfl) (Nat.le_of_ble_eq_true rfl) le rfl ?_
    rintro _ _ ⟨rfl, rfl⟩
    refine am_icmp_ge (tgt := 64) (q := 17) dL_say_14 rfl rfl (fun _ => ?_) (fun hz => absurd (nI_le (by omega) (by omega)) hz)
    refine am_aload_n (q := 65) dL_say_64 rfl rfl ?_
    refine am_iload_n (q := 66) dL_say_65 rfl rfl ?_
    refine am_aload_n (q := 67) dL_say_66 rfl rfl ?_
    refine am_callO (q := 70) (As := []) hG dL_say_67 mlL_9 rfl (hZ.O hi2) (Nat.le_of_ble_eq_true rfl) (Nat.le_of_ble_eq_true rfl) (Nat.le_of_ble_eq_true rfl) le rfl ?_
    rintro _ _ ⟨rfl, rfl⟩
    refine am_iadd (q := 71) dL_say_70 rfl ?_
    refine cm_call0 (q := 74) (As := [_]) hG dL_say_71 mlL_38 rfl (by assumption) ⟨_, _, rfl⟩ (Nat.le_of_ble_eq_true rfl) (Nat.le_of_ble_eq_true rfl) (Nat.le_of_ble_eq_true rfl) (Nat.le_of_ble_eq_true rfl) tr rfl ?_
    rintro _ _ ⟨rfl, I2, J2, R2, rfl, h2⟩
    refine am_pop (q := 75) dL_say_74 rfl rfl ?_
    exact am_ret dL_say_75 rfl ⟨_, rfl, rfl, I2, J2, R2, rfl, (E.1 + (strN i).length, E1.2), hE.app (E1 := (E.1 + (strN i).length, E1.2)) rfl v2 (fun t ht => (v3 t (by omega)).trans (letN_lt ht)), h2⟩
/-- the digits of a number of one or two -/
def dgt (n : Nat) : List Int32 := if n < 10 then [nI (48 + n)] else [nI (48 + n / 10), nI (48 + n % 10)]
theorem dgt_1 : ∀ n, n < 10 → ∀ t, t < 1 → bytN (((0 : Int32).toUInt32 >>> ((8 : Int32).toUInt32 &&& Int32.toUInt32 31)).toInt32 ||| nI (48 + n) <<< ((24 : Int32) &&& 31)) t = [nI (48 + n)].getD t 0 := by decide +kernel
theorem dgt_2 : ∀ p, p < 10 → ∀ q, q < 10 → ∀ t, t < 2 → bytN (((((0 : Int32).toUInt32 >>> ((8 : Int32).toUInt32 &&& Int32.toUInt32 31)).toInt32 ||| nI (48 + q) <<< ((24 : Int32) &&& 31)).toUInt32 >>> ((8 : Int32).toUInt32 &&& Int32.toUInt32 31)).toInt32 ||| nI (48 + p) <<< ((24 : Int32) &&& 31)) t = [nI (48 + p), nI (48 + q)].getD t 0 := by decide +kernel
theorem kl_number {l : List Int32} {n : Nat} {w : Int32} (hG : okG G) (hZ : KS G Z) (hw : w = nI n) (hn : n < 100) (hX : XT S x l I J R) (hl : l.length + 200 ≤ 2000) : Fn G mL_number 16 [vR x, vI w] (mw S I J R) (fun rr M1 => rr = none ∧ ∃ I1 J1 R1, M1 = mw S I1 J1 R1 ∧ XT S x (l ++ (32 :: dgt n)) I1 J1 R1) := by
  subst hw
  have kx : S.K x = 12 := by
    obtain ⟨E, _, hW⟩ := hX
    exact hW.kx
  have hdg : 32 :: dgt n = strN 2 ++ dgt n := rfl
  rw [hdg, ← List.append_assoc]
  have hl1 : (l ++ strN 2).length = l.length + 1 := by rw [List.length_append]; rfl
  refine am_aload_n (q := 1) dL_number_0 rfl rfl ?_
  refine am_ldcS (q := 3) dL_number_1 rfl (hZ.li (i := 2) (by decide)) rfl ?_
  refine am_call1 (q := 6) (As := [_, _]) hG dL_number_3 mlL_43 rfl (Nat.le_of_ble_eq_true rfl) (Nat.le_of_ble_eq_true rfl) (Nat.le_of_ble_eq_true rfl) (kl_say (i := 2) hG hZ (by decide) hX (by omega)) rfl ?_
  rintro _ _ ⟨rfl, I0, J0, R0, rfl, E, hE, hW⟩
  have hE0 : E.1 = l.length + 1 := hE.1.trans hl1
  have c9 := kf_count (w := 9) hG hW (by decide)
  rw [show (if (9 : Int32).toNatClampNeg = 9 then nI (XS.E (E, BS0, MS0, -1)).1 else tlC (XS.B (E, BS0, MS0, -1)) (XS.m (E, BS0, MS0, -1)) (9 : Int32).toNatClampNeg) = nI E.1 from if_pos (by decide)] at c9
  refine am_aload_n (q := 7) dL_number_6 rfl rfl ?_
  refine am_bipush (q := 9) (v := 9) dL_number_7 kc_b9 rfl ?_
  refine cm_call0 (q := 12) (As := [_]) hG dL_number_9 mlL_25 rfl (by assumption) ⟨_, _, rfl⟩ (Nat.le_of_ble_eq_true rfl) (Nat.le_of_ble_eq_true rfl) (Nat.le_of_ble_eq_true rfl) (Nat.le_of_ble_eq_true rfl) c9 rfl ?_
  rintro _ _ ⟨rfl, I1, J1, R1, rfl, h1⟩
  refine am_istore_n (q := 13) (ls1 := [_, _, _, _, _, _]) dL_number_12 (Nat.le_of_ble_eq_true rfl) rfl rfl ?_
  refine am_iconst (q := 14) (v := 0) dL_number_13 kc_i0 rfl ?_
  refine am_istore_n (q := 15) (ls1 := [_, _, _, _, _, _]) dL_number_14 (Nat.le_of_ble_eq_true rfl) rfl rfl ?_
  refine am_iconst (q := 16) (v := 0) dL_number_15 kc_i0 rfl ?_
  refine am_istore (q := 18) (ls1 := [_, _, _, _, _, _]) dL_number_16 (Nat.le_of_ble_eq_true rfl) rfl rfl ?_
  refine am_iload_n (q := 19) dL_number_18 rfl rfl ?_
  refine am_istore (q := 21) (ls1 := [_, _, _, _, _, _]) dL_number_19 (Nat.le_of_ble_eq_true rfl) rfl rfl ?_
  have fin : ∀ (v : Int32) (k : Nat) (a : Int32), k = (dgt n).length → (∀ t, t < k → bytN v t = (dgt n).getD t 0) → k < 4 → MW G mL_number 16 61 [some (vR x), some (vI (nI n)), some (vI (nI E.1)), some (vI v), some (vI (nI k)), some (vI a)] [] (mw S I1 J1 R1) (fun f M1 => ∃ r, f = .inl r ∧ (r = none ∧ ∃ I1 J1 R1, M1 = mw S I1 J1 R1 ∧ XT S x (l ++ strN 2 ++ dgt n) I1 J1 R1)) := by
    intro v k a hk hv hk4
    have fd := kf_feed (p := v) (q := 0) (r := 0) (u := 0) (v := 0) hG h1 (show E.1 + 20 ≤ 2000 by omega)
    obtain ⟨f1, f2, f3⟩ := fed_at (E := E) (p := v) (q := 0) (r := 0) (u := 0) (v := 0)
    refine am_aload_n (q := 62) dL_number_61 rfl rfl ?_
    refine am_iload_n (q := 63) dL_number_62 rfl rfl ?_
    refine am_iconst (q := 64) (v := 0) dL_number_63 kc_i0 rfl ?_
    refine am_iconst (q := 65) (v := 0) dL_number_64 kc_i0 rfl ?_
    refine am_iconst (q := 66) (v := 0) dL_number_65 kc_i0 rfl ?_
    refine am_iconst (q := 67) (v := 0) dL_number_66 kc_i0 rfl ?_
    refine cm_call0 (q := 70) (As := [_, _, _, _, _]) hG dL_number_67 mlL_34 rfl (by assumption) ⟨_, _, rfl⟩ (Nat.le_of_ble_eq_true rfl) (Nat.le_of_ble_eq_true rfl) (Nat.le_of_ble_eq_true rfl) (Nat.le_of_ble_eq_true rfl) fd rfl ?_
    rintro _ _ ⟨rfl, I2, J2, R2, rfl, h2⟩
    refine am_pop (q := 71) dL_number_70 rfl rfl ?_
    have h2 : XW kwK S x (fedE E v 0 0 0 0, BS0, MS0, -1) I2 J2 R2 := h2
    generalize fedE E v 0 0 0 0 = E2 at f1 f2 f3 h2
    have b3 : ∀ t, t < (dgt n).length → E2.2 (E.1 + t) = (dgt n).getD t 0 := fun t ht => by
      rw [← hk] at ht
      rw [← hv t ht]
      have := f3 t (by omega)
      rw [show t / 4 = 0 by omega, show t % 4 = t by omega] at this
      exact this
    have tr := kf_trim (w := nI E.1 + nI k) (n := E.1 + k) (nI_add _ _) hG h2 (show _ ≤ E2.1 by omega) (show E2.1 ≤ 2000 by omega)
    refine am_aload_n (q := 72) dL_number_71 rfl rfl ?_
    refine am_iload_n (q := 73) dL_number_72 rfl rfl ?_
    refine am_iload (q := 75) dL_number_73 rfl rfl ?_
    refine am_iadd (q := 76) dL_number_75 rfl ?_
    refine cm_call0 (q := 79) (As := [_]) hG dL_number_76 mlL_38 rfl (by assumption) ⟨_, _, rfl⟩ (Nat.le_of_ble_eq_true rfl) (Nat.le_of_ble_eq_true rfl) (Nat.le_of_ble_eq_true rfl) (Nat.le_of_ble_eq_true rfl) tr rfl ?_
    rintro _ _ ⟨rfl, I3, J3, R3, rfl, h3⟩
    refine am_pop (q := 80) dL_number_79 rfl rfl ?_
    exact am_ret dL_number_80 rfl ⟨_, rfl, rfl, I3, J3, R3, rfl, (E.1 + k, E2.2), hE.app (E1 := (E.1 + k, E2.2)) (show E.1 + k = _ by rw [hk]) f2 b3, h3⟩
  refine am_iload (q := 23) dL_number_21 rfl rfl ?_
  refine am_if_eq (tgt := 31) (q := 26) dL_number_23 rfl rfl (fun _ => ?_) (fun hz => absurd rfl hz)
  refine am_iload_n (q := 32) dL_number_31 rfl rfl ?_
  refine am_bipush (q := 34) (v := 8) dL_number_32 kc_b8 rfl ?_
  refine am_iushr (q := 35) dL_number_34 rfl ?_
  refine am_bipush (q := 37) (v := 48) dL_number_35 kc_b48 rfl ?_
  refine am_iload (q := 39) dL_number_37 rfl rfl ?_
  refine am_bipush (q := 41) (v := 10) dL_number_39 kc_b10 rfl ?_
  refine am_irem (q := 42) dL_number_41 (by decide) rfl ?_
  rw [show nI n - nI n / 10 * 10 = nI (n % 10) from pk_rem (d := 10) (by omega) (by decide) (by decide)]
  refine am_iadd (q := 43) dL_number_42 rfl ?_
  rw [show (48 : Int32) + nI (n % 10) = nI (48 + n % 10) from nI_add 48 _]
  refine am_bipush (q := 45) (v := 24) dL_number_43 kc_b24 rfl ?_
  refine am_ishl (q := 46) dL_number_45 rfl ?_
  refine am_ior (q := 47) dL_number_46 rfl ?_
  refine am_istore_n (q := 48) (ls1 := [_, _, _, _, _, _]) dL_number_47 (Nat.le_of_ble_eq_true rfl) rfl rfl ?_
  refine am_iincW (q := 51) (ls1 := [_, _, _, _, _, _]) (w := 1) dL_number_48 rfl (Nat.le_of_ble_eq_true rfl) kc_i1 rfl rfl ?_
  refine am_iload (q := 53) dL_number_51 rfl rfl ?_
  refine am_bipush (q := 55) (v := 10) dL_number_53 kc_b10 rfl ?_
  refine am_idiv (q := 56) dL_number_55 (by decide) rfl ?_
  rw [show nI n / 10 = nI (n / 10) from pk_div (d := 10) (by omega) (by decide) (by decide)]
  refine am_istore (q := 58) (ls1 := [_, _, _, _, _, _]) dL_number_56 (Nat.le_of_ble_eq_true rfl) rfl rfl ?_
  refine am_goto (tgt := 21) dL_number_58 rfl ?_
  rw [show (0 : Int32) + 1 = nI 1 from by decide]
  by_cases h : n < 10
  · have e1 : dgt n = [nI (48 + n)] := if_pos h
    rw [show n % 10 = n by omega, show n / 10 = 0 by omega]
    refine am_iload (q := 23) dL_number_21 rfl rfl ?_
    refine am_if_eq (tgt := 31) (q := 26) dL_number_23 rfl rfl (fun hz => absurd hz (by decide)) (fun _ => ?_)
    refine am_iload (q := 28) dL_number_26 rfl rfl ?_
    refine am_if_le (tgt := 61) (q := 31) dL_number_28 rfl rfl (fun _ => ?_) (fun hz => absurd (by decide) hz)
    exact fin _ 1 _ (by rw [e1]; rfl) (fun t ht => by rw [e1]; exact dgt_1 n h t ht) (by decide)
  · have e1 : dgt n = [nI (48 + n / 10), nI (48 + n % 10)] := if_neg h
    refine am_iload (q := 23) dL_number_21 rfl rfl ?_
    refine am_if_eq (tgt := 31) (q := 26) dL_number_23 rfl rfl (fun hz => absurd hz (by decide)) (fun _ => ?_)
    refine am_iload (q := 28) dL_number_26 rfl rfl ?_
    refine am_if_le (tgt := 61) (q := 31) dL_number_28 rfl rfl (fun hz => absurd hz (nI_nle (by omega) (by omega))) (fun _ => ?_)
    refine am_iload_n (q := 32) dL_number_31 rfl rfl ?_
    refine am_bipush (q := 34) (v := 8) dL_number_32 kc_b8 rfl ?_
    refine am_iushr (q := 35) dL_number_34 rfl ?_
    refine am_bipush (q := 37) (v := 48) dL_number_35 kc_b48 rfl ?_
    refine am_iload (q := 39) dL_number_37 rfl rfl ?_
    refine am_bipush (q := 41) (v := 10) dL_number_39 kc_b10 rfl ?_
    refine am_irem (q := 42) dL_number_41 (by decide) rfl ?_
    rw [show nI (n / 10) - nI (n / 10) / 10 * 10 = nI (n / 10 % 10) from pk_rem (d := 10) (by omega) (by decide) (by decide), show n / 10 % 10 = n / 10 by omega]
    refine am_iadd (q := 43) dL_number_42 rfl ?_
    rw [show (48 : Int32) + nI (n / 10) = nI (48 + n / 10) from nI_add 48 _]
    refine am_bipush (q := 45) (v := 24) dL_number_43 kc_b24 rfl ?_
    refine am_ishl (q := 46) dL_number_45 rfl ?_
    refine am_ior (q := 47) dL_number_46 rfl ?_
    refine am_istore_n (q := 48) (ls1 := [_, _, _, _, _, _]) dL_number_47 (Nat.le_of_ble_eq_true rfl) rfl rfl ?_
    refine am_iincW (q := 51) (ls1 := [_, _, _, _, _, _]) (w := 1) dL_number_48 rfl (Nat.le_of_ble_eq_true rfl) kc_i1 rfl rfl ?_
    refine am_iload (q := 53) dL_number_51 rfl rfl ?_
    refine am_bipush (q := 55) (v := 10) dL_number_53 kc_b10 rfl ?_
    refine am_idiv (q := 56) dL_number_55 (by decide) rfl ?_
    rw [show nI (n / 10) / 10 = nI (n / 10 / 10) from pk_div (d := 10) (by omega) (by decide) (by decide), show n / 10 / 10 = 0 by omega]
    refine am_istore (q := 58) (ls1 := [_, _, _, _, _, _]) dL_number_56 (Nat.le_of_ble_eq_true rfl) rfl rfl ?_
    refine am_goto (tgt := 21) dL_number_58 rfl ?_
    rw [nI_1]
    refine am_iload (q := 23) dL_number_21 rfl rfl ?_
    refine am_if_eq (tgt := 31) (q := 26) dL_number_23 rfl rfl (fun hz => absurd hz (by decide)) (fun _ => ?_)
    refine am_iload (q := 28) dL_number_26 rfl rfl ?_
    refine am_if_le (tgt := 61) (q := 31) dL_number_28 rfl rfl (fun _ => ?_) (fun hz => absurd (by decide) hz)
    exact fin _ 2 _ (by rw [e1]; rfl) (fun t ht => by rw [e1]; exact dgt_2 (n / 10) (by omega) (n % 10) (by omega) t ht) (by decide)
end Hp

