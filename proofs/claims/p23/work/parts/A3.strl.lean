theorem dJ0_charAt_5068e_0 : decode cJ0_charAt_5068e 0 = .ok (.aload_n 0, 1) := by decide +kernel
theorem dJ0_charAt_5068e_1 : decode cJ0_charAt_5068e 1 = .ok (.invokevirtual 492, 3) := by decide +kernel
theorem dJ0_charAt_5068e_4 : decode cJ0_charAt_5068e 4 = .ok (.ifCond .eq 12, 3) := by decide +kernel
theorem dJ0_charAt_5068e_7 : decode cJ0_charAt_5068e 7 = .ok (.aload_n 0, 1) := by decide +kernel
theorem dJ0_charAt_5068e_8 : decode cJ0_charAt_5068e 8 = .ok (.getfield 9, 3) := by decide +kernel
theorem dJ0_charAt_5068e_11 : decode cJ0_charAt_5068e 11 = .ok (.iload_n 1, 1) := by decide +kernel
theorem dJ0_charAt_5068e_12 : decode cJ0_charAt_5068e 12 = .ok (.invokestatic 495, 3) := by decide +kernel
theorem dJ0_charAt_5068e_15 : decode cJ0_charAt_5068e 15 = .ok (.ireturn, 1) := by decide +kernel
theorem dJ0_checkIndex_df160_0 : decode cJ0_checkIndex_df160 0 = .ok (.iload_n 0, 1) := by decide +kernel
theorem dJ0_checkIndex_df160_1 : decode cJ0_checkIndex_df160 1 = .ok (.iload_n 1, 1) := by decide +kernel
theorem dJ0_checkIndex_df160_2 : decode cJ0_checkIndex_df160 2 = .ok (.getstatic 1053, 3) := by decide +kernel
theorem dJ0_checkIndex_df160_5 : decode cJ0_checkIndex_df160 5 = .ok (.invokestatic 1059, 3) := by decide +kernel
theorem dJ0_checkIndex_df160_8 : decode cJ0_checkIndex_df160 8 = .ok (.pop, 1) := by decide +kernel
theorem dJ0_checkIndex_df160_9 : decode cJ0_checkIndex_df160 9 = .ok (.return_, 1) := by decide +kernel
theorem dJ0_coder_7d493_0 : decode cJ0_coder_7d493 0 = .ok (.getstatic 38, 3) := by decide +kernel
theorem dJ0_coder_7d493_3 : decode cJ0_coder_7d493 3 = .ok (.ifCond .eq 10, 3) := by decide +kernel
theorem dJ0_coder_7d493_6 : decode cJ0_coder_7d493 6 = .ok (.aload_n 0, 1) := by decide +kernel
theorem dJ0_coder_7d493_7 : decode cJ0_coder_7d493 7 = .ok (.getfield 15, 3) := by decide +kernel
theorem dJ0_coder_7d493_10 : decode cJ0_coder_7d493 10 = .ok (.goto 4, 3) := by decide +kernel
theorem dJ0_coder_7d493_14 : decode cJ0_coder_7d493 14 = .ok (.ireturn, 1) := by decide +kernel
theorem dJ0_isLatin1_aae02_0 : decode cJ0_isLatin1_aae02 0 = .ok (.getstatic 38, 3) := by decide +kernel
theorem dJ0_isLatin1_aae02_3 : decode cJ0_isLatin1_aae02 3 = .ok (.ifCond .eq 14, 3) := by decide +kernel
theorem dJ0_isLatin1_aae02_6 : decode cJ0_isLatin1_aae02 6 = .ok (.aload_n 0, 1) := by decide +kernel
theorem dJ0_isLatin1_aae02_7 : decode cJ0_isLatin1_aae02 7 = .ok (.getfield 15, 3) := by decide +kernel
theorem dJ0_isLatin1_aae02_10 : decode cJ0_isLatin1_aae02 10 = .ok (.ifCond .ne 7, 3) := by decide +kernel
theorem dJ0_isLatin1_aae02_13 : decode cJ0_isLatin1_aae02 13 = .ok (.iconst 1, 1) := by decide +kernel
theorem dJ0_isLatin1_aae02_14 : decode cJ0_isLatin1_aae02 14 = .ok (.goto 4, 3) := by decide +kernel
theorem dJ0_isLatin1_aae02_18 : decode cJ0_isLatin1_aae02 18 = .ok (.ireturn, 1) := by decide +kernel
theorem dJ0_length_8abf5_0 : decode cJ0_length_8abf5 0 = .ok (.aload_n 0, 1) := by decide +kernel
theorem dJ0_length_8abf5_1 : decode cJ0_length_8abf5 1 = .ok (.getfield 9, 3) := by decide +kernel
theorem dJ0_length_8abf5_4 : decode cJ0_length_8abf5 4 = .ok (.arraylength, 1) := by decide +kernel
theorem dJ0_length_8abf5_5 : decode cJ0_length_8abf5 5 = .ok (.aload_n 0, 1) := by decide +kernel
theorem dJ0_length_8abf5_6 : decode cJ0_length_8abf5 6 = .ok (.invokevirtual 335, 3) := by decide +kernel
theorem dJ0_length_8abf5_9 : decode cJ0_length_8abf5 9 = .ok (.ishr, 1) := by decide +kernel
theorem dJ0_length_8abf5_10 : decode cJ0_length_8abf5 10 = .ok (.ireturn, 1) := by decide +kernel
theorem dJ1_charAt_3b067_0 : decode cJ1_charAt_3b067 0 = .ok (.iload_n 1, 1) := by decide +kernel
theorem dJ1_charAt_3b067_1 : decode cJ1_charAt_3b067 1 = .ok (.aload_n 0, 1) := by decide +kernel
theorem dJ1_charAt_3b067_2 : decode cJ1_charAt_3b067 2 = .ok (.arraylength, 1) := by decide +kernel
theorem dJ1_charAt_3b067_3 : decode cJ1_charAt_3b067 3 = .ok (.invokestatic 9, 3) := by decide +kernel
theorem dJ1_charAt_3b067_6 : decode cJ1_charAt_3b067 6 = .ok (.aload_n 0, 1) := by decide +kernel
theorem dJ1_charAt_3b067_7 : decode cJ1_charAt_3b067 7 = .ok (.iload_n 1, 1) := by decide +kernel
theorem dJ1_charAt_3b067_8 : decode cJ1_charAt_3b067 8 = .ok (.baload, 1) := by decide +kernel
theorem dJ1_charAt_3b067_9 : decode cJ1_charAt_3b067 9 = .ok (.sipush 255, 3) := by decide +kernel
theorem dJ1_charAt_3b067_12 : decode cJ1_charAt_3b067 12 = .ok (.iand, 1) := by decide +kernel
theorem dJ1_charAt_3b067_13 : decode cJ1_charAt_3b067 13 = .ok (.i2c, 1) := by decide +kernel
theorem dJ1_charAt_3b067_14 : decode cJ1_charAt_3b067 14 = .ok (.ireturn, 1) := by decide +kernel
theorem dJ3_checkIndex_8e157_0 : decode cJ3_checkIndex_8e157 0 = .ok (.iload_n 0, 1) := by decide +kernel
theorem dJ3_checkIndex_8e157_1 : decode cJ3_checkIndex_8e157 1 = .ok (.ifCond .lt 8, 3) := by decide +kernel
theorem dJ3_checkIndex_8e157_4 : decode cJ3_checkIndex_8e157 4 = .ok (.iload_n 0, 1) := by decide +kernel
theorem dJ3_checkIndex_8e157_5 : decode cJ3_checkIndex_8e157 5 = .ok (.iload_n 1, 1) := by decide +kernel
theorem dJ3_checkIndex_8e157_6 : decode cJ3_checkIndex_8e157 6 = .ok (.if_icmp .lt 10, 3) := by decide +kernel
theorem dJ3_checkIndex_8e157_16 : decode cJ3_checkIndex_8e157 16 = .ok (.iload_n 0, 1) := by decide +kernel
theorem dJ3_checkIndex_8e157_17 : decode cJ3_checkIndex_8e157 17 = .ok (.ireturn, 1) := by decide +kernel
/-! the strings' length and signs -/
theorem str_asc : ∀ i, i < 17 → (strN i).length < 1000 ∧ ∀ b ∈ strN i, (b &&& 255) = b ∧ (b.toUInt32 % 65536).toInt32 = b ∧ narrow .char (.int b) = .int b := by decide +kernel
theorem str_shr (n : Nat) : nI n >>> ((0 : Int32) &&& 31) = nI n := by
  rw [show ((0 : Int32) &&& 31) = 0 by decide]
  exact Int32.shiftRight_zero
section Sl
variable {G : Gp} {S : AMem} {I : Nat → Nat → Int32} {J : Nat → Nat → Int64} {R : Nat → Nat → Option Nat} {Z : StA} {i j : Nat}
theorem KS.O (h : KS G Z) (hi : i < 17) : ∀ U, G.ST U → va_O RJ0 (Z.k i) (fun q => G.base ≤ q) U U.heap := fun U q => ((h U q).1 i hi).1
theorem KS.co (h : KS G Z) (hi : i < 17) : ∀ U, G.ST U → va_OF "java/lang/String" "coder" "B" (vV (vI 0)) (Z.k i) (fun q => G.base ≤ q) U U.heap := fun U q => ((h U q).1 i hi).2.1
theorem KS.va (h : KS G Z) (hi : i < 17) : ∀ U, G.ST U → va_OF "java/lang/String" "value" "[B" (vV (vR (Z.v i))) (Z.k i) (fun q => G.base ≤ q) U U.heap := fun U q => ((h U q).1 i hi).2.2.1
theorem KS.by (h : KS G Z) (hi : i < 17) : ∀ U, G.ST U → va_T .byte (Z.v i) (strN i).length (fun j => .int ((strN i).getD j 0)) (fun q => G.base ≤ q) U U.heap := fun U q => ((h U q).1 i hi).2.2.2
theorem KS.cs (h : KS G Z) : ∀ U, G.ST U → va_Z "java/lang/String" "COMPACT_STRINGS" "Z" (vV (vI 1)) (fun q => G.base ≤ q) U U.heap := fun U q => (h U q).2.2.1
theorem KS.fm (h : KS G Z) : ∀ U, G.ST U → va_Z "jdk/internal/util/Preconditions" "SIOOBE_FORMATTER" "Ljava/util/function/BiFunction;" (vV (Sum.inr (Sum.inr (Sum.inr Z.f)))) (fun q => G.base ≤ q) U U.heap := fun U q => (h U q).2.2.2.1
theorem KS.ov {C : String} (h : KS G Z) (hC : C ∈ [RX6, RX3, RX5, RX10]) : ∀ U, G.ST U → (Cond.arrayOver (.object C)).before #[] U = true := fun U q => (h U q).2.2.2.2 C hC
theorem KS.li (h : KS G Z) (hi : i < 17) : ∀ U, G.ST U → vk_R (litN.getD i ("", 0, "")).1 (litN.getD i ("", 0, "")).2.1 (litN.getD i ("", 0, "")).2.2 (Z.k i) U := fun U q => (h U q).2.1 i hi
theorem k_coder (hZ : KS G Z) (hi : i < 17) : Fn G mJ0_coder_7d493 0 [vR (Z.k i)] (mw S I J R) (fun rr M1 => rr = some (vI 0) ∧ M1 = mw S I J R) := by
  refine am_gets (q := 3) dJ0_coder_7d493_0 (hZ.cs) fs_cs rfl ?_
  refine am_if_eq (tgt := 13) (q := 6) dJ0_coder_7d493_3 rfl rfl (fun hz => absurd hz (by decide)) (fun _ => ?_)
  refine am_aload_n (q := 7) dJ0_coder_7d493_6 rfl rfl ?_
  refine am_getO (q := 10) dJ0_coder_7d493_7 (hZ.co hi) fs_co rfl ?_
  refine am_goto (tgt := 14) dJ0_coder_7d493_10 rfl ?_
  exact am_iret dJ0_coder_7d493_14 rfl rfl ⟨_, rfl, rfl, rfl⟩
theorem k_isLatin1 (hZ : KS G Z) (hi : i < 17) : Fn G mJ0_isLatin1_aae02 0 [vR (Z.k i)] (mw S I J R) (fun rr M1 => rr = some (vI 1) ∧ M1 = mw S I J R) := by
  refine am_gets (q := 3) dJ0_isLatin1_aae02_0 (hZ.cs) fs_cs rfl ?_
  refine am_if_eq (tgt := 17) (q := 6) dJ0_isLatin1_aae02_3 rfl rfl (fun hz => absurd hz (by decide)) (fun _ => ?_)
  refine am_aload_n (q := 7) dJ0_isLatin1_aae02_6 rfl rfl ?_
  refine am_getO (q := 10) dJ0_isLatin1_aae02_7 (hZ.co hi) fs_co rfl ?_
  refine am_if_ne (tgt := 17) (q := 13) dJ0_isLatin1_aae02_10 rfl rfl (fun hz => absurd rfl hz) (fun _ => ?_)
  refine am_iconst (q := 14) (v := 1) dJ0_isLatin1_aae02_13 kc_i1 rfl ?_
  refine am_goto (tgt := 18) dJ0_isLatin1_aae02_14 rfl ?_
  exact am_iret dJ0_isLatin1_aae02_18 rfl rfl ⟨_, rfl, rfl, rfl⟩
theorem k_length (hG : okG G) (hZ : KS G Z) (hi : i < 17) : Fn G mJ0_length_8abf5 1 [vR (Z.k i)] (mw S I J R) (fun rr M1 => rr = some (vI (nI (strN i).length)) ∧ M1 = mw S I J R) := by
  refine am_aload_n (q := 1) dJ0_length_8abf5_0 rfl rfl ?_
  refine am_getO (q := 4) dJ0_length_8abf5_1 (hZ.va hi) fs_va rfl ?_
  refine am_tlen (q := 5) dJ0_length_8abf5_4 (hZ.by hi) (rfl) rfl ?_
  refine am_aload_n (q := 6) dJ0_length_8abf5_5 rfl rfl ?_
  refine am_callO (q := 9) (As := []) hG dJ0_length_8abf5_6 mlJ0_335 rfl (hZ.O hi) (Nat.le_of_ble_eq_true rfl) (Nat.le_of_ble_eq_true rfl) (Nat.le_of_ble_eq_true rfl) (k_coder hZ hi) rfl ?_
  rintro _ _ ⟨rfl, rfl⟩
  refine am_ishr (q := 10) dJ0_length_8abf5_9 rfl ?_
  rw [show Int32.ofNat (strN i).length >>> ((0 : Int32) &&& 31) = nI (strN i).length from str_shr _]
  exact am_iret dJ0_length_8abf5_10 rfl rfl ⟨_, rfl, rfl, rfl⟩
theorem k_chk3 {a n : Nat} {fm : Option Nat} (h : a < n) (hn : n < 2 ^ 31) : Fn G mJ3_checkIndex_8e157 0 [vI (nI a), vI (nI n), Sum.inr (Sum.inr (Sum.inr fm))] (mw S I J R) (fun rr M1 => rr = some (vI (nI a)) ∧ M1 = mw S I J R) := by
  refine am_iload_n (q := 1) dJ3_checkIndex_8e157_0 rfl rfl ?_
  refine am_if_lt (tgt := 9) (q := 4) dJ3_checkIndex_8e157_1 rfl rfl (fun hz => absurd hz (nI_pos (by omega))) (fun _ => ?_)
  refine am_iload_n (q := 5) dJ3_checkIndex_8e157_4 rfl rfl ?_
  refine am_iload_n (q := 6) dJ3_checkIndex_8e157_5 rfl rfl ?_
  refine am_icmp_lt (tgt := 16) (q := 9) dJ3_checkIndex_8e157_6 rfl rfl (fun _ => ?_) (fun hz => absurd (nI_lt h hn) hz)
  refine am_iload_n (q := 17) dJ3_checkIndex_8e157_16 rfl rfl ?_
  exact am_iret dJ3_checkIndex_8e157_17 rfl rfl ⟨_, rfl, rfl, rfl⟩
theorem k_chk0 {a n : Nat} (hG : okG G) (hZ : KS G Z) (h : a < n) (hn : n < 2 ^ 31) : Fn G mJ0_checkIndex_df160 1 [vI (nI a), vI (nI n)] (mw S I J R) (fun rr M1 => rr = none ∧ M1 = mw S I J R) := by
  refine am_iload_n (q := 1) dJ0_checkIndex_df160_0 rfl rfl ?_
  refine am_iload_n (q := 2) dJ0_checkIndex_df160_1 rfl rfl ?_
  refine am_gets (q := 5) dJ0_checkIndex_df160_2 (hZ.fm) fs_fm rfl ?_
  refine am_call1 (q := 8) (As := [_, _, _]) hG dJ0_checkIndex_df160_5 mlJ0_1059 rfl (Nat.le_of_ble_eq_true rfl) (Nat.le_of_ble_eq_true rfl) (Nat.le_of_ble_eq_true rfl) (k_chk3 h hn) rfl ?_
  rintro _ _ ⟨rfl, rfl⟩
  refine am_pop (q := 9) dJ0_checkIndex_df160_8 rfl rfl ?_
  exact am_ret dJ0_checkIndex_df160_9 rfl ⟨_, rfl, rfl, rfl⟩
theorem k_chL (hG : okG G) (hZ : KS G Z) (hi : i < 17) (hj : j < (strN i).length) : Fn G mJ1_charAt_3b067 2 [vR (Z.v i), vI (nI j)] (mw S I J R) (fun rr M1 => rr = some (vI ((strN i).getD j 0)) ∧ M1 = mw S I J R) := by
  obtain ⟨hl, hb⟩ := str_asc i hi
  have hm : (strN i).getD j 0 ∈ strN i := by
    rw [List.getD_eq_getElem?_getD, List.getElem?_eq_getElem hj]
    exact List.getElem_mem hj
  obtain ⟨b1, b2, b3⟩ := hb _ hm
  refine am_iload_n (q := 1) dJ1_charAt_3b067_0 rfl rfl ?_
  refine am_aload_n (q := 2) dJ1_charAt_3b067_1 rfl rfl ?_
  refine am_tlen (q := 3) dJ1_charAt_3b067_2 (hZ.by hi) (rfl) rfl ?_
  refine (?_ : MW G mJ1_charAt_3b067 2 3 _ [vI (nI (strN i).length), vI (nI j)] (mw S I J R) _)
  refine am_call1 (q := 6) (As := [_, _]) hG dJ1_charAt_3b067_3 mlJ1_9 rfl (Nat.le_of_ble_eq_true rfl) (Nat.le_of_ble_eq_true rfl) (Nat.le_of_ble_eq_true rfl) (k_chk0 hG hZ hj (by omega)) rfl ?_
  rintro _ _ ⟨rfl, rfl⟩
  refine am_aload_n (q := 7) dJ1_charAt_3b067_6 rfl rfl ?_
  refine am_iload_n (q := 8) dJ1_charAt_3b067_7 rfl rfl ?_
  refine am_tby (q := 9) dJ1_charAt_3b067_8 (hZ.by hi) (vp_in_nI hj (by omega)) (show Value.int ((strN i).getD (nI j).toNatClampNeg 0) = Value.int ((strN i).getD j 0) by rw [nI_clamp (by omega)]) rfl ?_
  refine am_sipush (q := 12) (v := 255) dJ1_charAt_3b067_9 kc_s255 rfl ?_
  refine am_iand (q := 13) dJ1_charAt_3b067_12 rfl ?_
  rw [b1]
  refine am_i2c (q := 14) dJ1_charAt_3b067_13 (b2) rfl ?_
  exact am_iret dJ1_charAt_3b067_14 rfl b3 ⟨_, rfl, rfl, rfl⟩
theorem k_charAt (hG : okG G) (hZ : KS G Z) (hi : i < 17) (hj : j < (strN i).length) : Fn G mJ0_charAt_5068e 3 [vR (Z.k i), vI (nI j)] (mw S I J R) (fun rr M1 => rr = some (vI ((strN i).getD j 0)) ∧ M1 = mw S I J R) := by
  obtain ⟨hl, hb⟩ := str_asc i hi
  have hm : (strN i).getD j 0 ∈ strN i := by
    rw [List.getD_eq_getElem?_getD, List.getElem?_eq_getElem hj]
    exact List.getElem_mem hj
  obtain ⟨b1, b2, b3⟩ := hb _ hm
  refine am_aload_n (q := 1) dJ0_charAt_5068e_0 rfl rfl ?_
  refine am_callO (q := 4) (As := []) hG dJ0_charAt_5068e_1 mlJ0_492 rfl (hZ.O hi) (Nat.le_of_ble_eq_true rfl) (Nat.le_of_ble_eq_true rfl) (Nat.le_of_ble_eq_true rfl) (k_isLatin1 hZ hi) rfl ?_
  rintro _ _ ⟨rfl, rfl⟩
  refine am_if_eq (tgt := 16) (q := 7) dJ0_charAt_5068e_4 rfl rfl (fun hz => absurd hz (by decide)) (fun _ => ?_)
  refine am_aload_n (q := 8) dJ0_charAt_5068e_7 rfl rfl ?_
  refine am_getO (q := 11) dJ0_charAt_5068e_8 (hZ.va hi) fs_va rfl ?_
  refine am_iload_n (q := 12) dJ0_charAt_5068e_11 rfl rfl ?_
  refine am_call1 (q := 15) (As := [_, _]) hG dJ0_charAt_5068e_12 mlJ0_495 rfl (Nat.le_of_ble_eq_true rfl) (Nat.le_of_ble_eq_true rfl) (Nat.le_of_ble_eq_true rfl) (k_chL hG hZ hi hj) rfl ?_
  rintro _ _ ⟨rfl, rfl⟩
  exact am_iret dJ0_charAt_5068e_15 rfl b3 ⟨_, rfl, rfl, rfl⟩
end Sl

