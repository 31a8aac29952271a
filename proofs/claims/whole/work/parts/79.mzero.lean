theorem kc_b26 : (Int8.ofInt 26).toInt32 = 26 := by decide +kernel
theorem kc_b103 : (Int8.ofInt 103).toInt32 = 103 := by decide +kernel
theorem kc_b108 : (Int8.ofInt 108).toInt32 = 108 := by decide +kernel
theorem dX14_one_0 : decode cX14_one 0 = .ok (.aload_n 0, 1) := by decide +kernel
theorem dX14_one_1 : decode cX14_one 1 = .ok (.invokevirtual 119, 3) := by decide +kernel
theorem dX14_one_4 : decode cX14_one 4 = .ok (.ifCond .ne 5, 3) := by decide +kernel
theorem dX14_one_7 : decode cX14_one 7 = .ok (.iconst 0, 1) := by decide +kernel
theorem dX14_one_8 : decode cX14_one 8 = .ok (.ireturn, 1) := by decide +kernel
theorem dX14_single_0 : decode cX14_single 0 = .ok (.aload_n 0, 1) := by decide +kernel
theorem dX14_single_1 : decode cX14_single 1 = .ok (.iconst 2, 1) := by decide +kernel
theorem dX14_single_2 : decode cX14_single 2 = .ok (.bipush 27, 2) := by decide +kernel
theorem dX14_single_4 : decode cX14_single 4 = .ok (.invokevirtual 123, 3) := by decide +kernel
theorem dX14_single_7 : decode cX14_single 7 = .ok (.ifCond .eq 44, 3) := by decide +kernel
theorem dX14_single_51 : decode cX14_single 51 = .ok (.aload_n 0, 1) := by decide +kernel
theorem dX14_single_52 : decode cX14_single 52 = .ok (.iconst 4, 1) := by decide +kernel
theorem dX14_single_53 : decode cX14_single 53 = .ok (.bipush 91, 2) := by decide +kernel
theorem dX14_single_55 : decode cX14_single 55 = .ok (.invokevirtual 123, 3) := by decide +kernel
theorem dX14_single_58 : decode cX14_single 58 = .ok (.ifCond .eq 41, 3) := by decide +kernel
theorem dX14_single_99 : decode cX14_single 99 = .ok (.aload_n 0, 1) := by decide +kernel
theorem dX14_single_100 : decode cX14_single 100 = .ok (.iconst 2, 1) := by decide +kernel
theorem dX14_single_101 : decode cX14_single 101 = .ok (.bipush 26, 2) := by decide +kernel
theorem dX14_single_103 : decode cX14_single 103 = .ok (.invokevirtual 123, 3) := by decide +kernel
theorem dX14_single_106 : decode cX14_single 106 = .ok (.ifCond .eq 25, 3) := by decide +kernel
theorem dX14_single_131 : decode cX14_single 131 = .ok (.aload_n 0, 1) := by decide +kernel
theorem dX14_single_132 : decode cX14_single 132 = .ok (.invokevirtual 195, 3) := by decide +kernel
theorem dX14_single_135 : decode cX14_single 135 = .ok (.istore_n 1, 1) := by decide +kernel
theorem dX14_single_136 : decode cX14_single 136 = .ok (.aload_n 0, 1) := by decide +kernel
theorem dX14_single_137 : decode cX14_single 137 = .ok (.iconst 4, 1) := by decide +kernel
theorem dX14_single_138 : decode cX14_single 138 = .ok (.bipush 60, 2) := by decide +kernel
theorem dX14_single_140 : decode cX14_single 140 = .ok (.invokevirtual 123, 3) := by decide +kernel
theorem dX14_single_143 : decode cX14_single 143 = .ok (.ifCond .ne 49, 3) := by decide +kernel
theorem dX14_single_146 : decode cX14_single 146 = .ok (.aload_n 0, 1) := by decide +kernel
theorem dX14_single_147 : decode cX14_single 147 = .ok (.iconst 4, 1) := by decide +kernel
theorem dX14_single_148 : decode cX14_single 148 = .ok (.bipush 62, 2) := by decide +kernel
theorem dX14_single_150 : decode cX14_single 150 = .ok (.invokevirtual 123, 3) := by decide +kernel
theorem dX14_single_153 : decode cX14_single 153 = .ok (.ifCond .ne 39, 3) := by decide +kernel
theorem dX14_single_156 : decode cX14_single 156 = .ok (.aload_n 0, 1) := by decide +kernel
theorem dX14_single_157 : decode cX14_single 157 = .ok (.iconst 4, 1) := by decide +kernel
theorem dX14_single_158 : decode cX14_single 158 = .ok (.bipush 61, 2) := by decide +kernel
theorem dX14_single_160 : decode cX14_single 160 = .ok (.invokevirtual 123, 3) := by decide +kernel
theorem dX14_single_163 : decode cX14_single 163 = .ok (.ifCond .ne 29, 3) := by decide +kernel
theorem dX14_single_166 : decode cX14_single 166 = .ok (.aload_n 0, 1) := by decide +kernel
theorem dX14_single_167 : decode cX14_single 167 = .ok (.iconst 4, 1) := by decide +kernel
theorem dX14_single_168 : decode cX14_single 168 = .ok (.bipush 108, 2) := by decide +kernel
theorem dX14_single_170 : decode cX14_single 170 = .ok (.invokevirtual 123, 3) := by decide +kernel
theorem dX14_single_173 : decode cX14_single 173 = .ok (.ifCond .ne 19, 3) := by decide +kernel
theorem dX14_single_176 : decode cX14_single 176 = .ok (.aload_n 0, 1) := by decide +kernel
theorem dX14_single_177 : decode cX14_single 177 = .ok (.iconst 4, 1) := by decide +kernel
theorem dX14_single_178 : decode cX14_single 178 = .ok (.bipush 103, 2) := by decide +kernel
theorem dX14_single_180 : decode cX14_single 180 = .ok (.invokevirtual 123, 3) := by decide +kernel
theorem dX14_single_183 : decode cX14_single 183 = .ok (.ifCond .ne 9, 3) := by decide +kernel
theorem dX14_single_186 : decode cX14_single 186 = .ok (.aload_n 0, 1) := by decide +kernel
theorem dX14_single_187 : decode cX14_single 187 = .ok (.invokevirtual 127, 3) := by decide +kernel
theorem dX14_single_190 : decode cX14_single 190 = .ok (.iconst 0, 1) := by decide +kernel
theorem dX14_single_191 : decode cX14_single 191 = .ok (.ireturn, 1) := by decide +kernel
/-! the reference's reader once it has failed; names in sums; sums in brackets -/
def QM (S : AMem) (J : Nat → Nat → Int64) (R : Nat → Nat → Option Nat) (y nx : Nat) (T : Toks) (ix : Int32 → Int64 → Int32) (N : Nat × Nat × Nat) (D : NdK) (dep : Nat) (I : Nat → Nat → Int32) (a k : Nat) (s s1 : PS × Cd) (rr : Option AV) (M1 : AMem) : Prop := ∃ n I1 a1 k1, rr = some (vI (nI n)) ∧ M1 = mw S I1 J R ∧ PC I1 y nx T ix N s1 dep a1 k1 ∧ (k1 + a ≤ k + a1 ∧ a ≤ a1 ∧ k ≤ k1) ∧ OffM y nx k I I1 ∧ (s1.1.2.1 = 0 → NRx D I1 nx N s.2 s1.2 n)
section Zr
variable {G : Gp} {S : AMem} {I I1 : Nat → Nat → Int32} {J : Nat → Nat → Int64} {R : Nat → Nat → Option Nat} {y bl nx : Nat} {T : Toks} {ix : Int32 → Int64 → Int32} {N : Nat × Nat × Nat} {s s1 : PS × Cd} {dep a k : Nat}
theorem PC.len (h : PC I y nx T ix N s dep a k) (h0 : s.1.2.1 = 0) : k = s.2.length ∧ a < T.n ∧ a = s.1.1 ∧ s.1.2.1 ≠ 1 := by
  have hg : s.1.2.1 ≠ 1 := by rw [h0]; decide
  obtain ⟨_, _, z | z⟩ := h
  · exact absurd z.1 hg
  · exact ⟨(z.2.2.2.2.2.2.1 h0).2, z.2.2.2.1, z.2.2.1, hg⟩
theorem kz_one (hC : MCc S R y bl nx) (hG : okG G) : KZ G S J R y nx T ix N mX14_one 1 := by
  intro I s dep a k h h1
  have ky := hC.1.1
  refine am_aload_n (q := 1) dX14_one_0 rfl rfl ?_
  refine cm_call0 (q := 4) (As := []) hG dX14_one_1 mlX14_119 rfl (by assumption) ⟨_, _, rfl⟩ (Nat.le_of_ble_eq_true rfl) (Nat.le_of_ble_eq_true rfl) (by omega) (Nat.le_of_ble_eq_true rfl) (k_X14_isOk hC h) rfl ?_
  rintro _ _ ⟨rfl, rfl⟩
  rw [bI_f (fun q => q h1)]
  have hz : s.1.2.1 = 1 ∧ True := ⟨h1, trivial⟩
  clear h1
  refine am_if_ne (tgt := 9) (q := 7) dX14_one_4 rfl rfl (fun hz => absurd rfl hz) (fun _ => ?_)
  refine am_iconst (q := 8) (v := 0) dX14_one_7 kc_i0 rfl ?_
  exact am_iret dX14_one_8 rfl rfl ⟨_, rfl, 0, I, rfl, rfl, h, OffM.rf⟩
theorem kz_product (hC : MCc S R y bl nx) (hG : okG G) : KZ G S J R y nx T ix N mX14_product 2 := by
  intro I s dep a k h h1
  have ky := hC.1.1
  have pk := pK_f1 (T := T) h1
  have hz := kz_one (G := G) (J := J) (T := T) (ix := ix) (N := N) hC hG I s dep a k h h1
  clear h1
  refine am_aload_n (q := 1) dX14_product_0 rfl rfl ?_
  refine cm_call0 (q := 4) (As := []) hG dX14_product_1 mlX14_166 rfl (by assumption) ⟨_, _, rfl⟩ (Nat.le_of_ble_eq_true rfl) (Nat.le_of_ble_eq_true rfl) (by omega) (Nat.le_of_ble_eq_true rfl) hz rfl ?_
  rintro _ _ ⟨n, I1, rfl, rfl, g1, g2⟩
  refine am_istore_n (q := 5) (ls1 := [_, _, _]) dX14_product_4 (Nat.le_of_ble_eq_true rfl) rfl rfl ?_
  refine am_aload_n (q := 6) dX14_product_5 rfl rfl ?_
  refine am_iconst (q := 7) (v := 4) dX14_product_6 kc_i4 rfl ?_
  refine am_bipush (q := 9) (v := 42) dX14_product_7 kc_b42 rfl ?_
  refine cm_call0 (q := 12) (As := [_, _]) hG dX14_product_9 mlX14_123 rfl (by assumption) ⟨_, _, rfl⟩ (Nat.le_of_ble_eq_true rfl) (Nat.le_of_ble_eq_true rfl) (by omega) (Nat.le_of_ble_eq_true rfl) (k_X14_is (kk := nI 42) hG hC g1 (by decide) (sg_all (c := 42) (by decide))) rfl ?_
  rintro _ _ ⟨rfl, rfl⟩
  rw [pk, bI_f (by decide)]
  refine am_if_ne (tgt := 25) (q := 15) dX14_product_12 rfl rfl (fun hz => absurd rfl hz) (fun _ => ?_)
  refine am_aload_n (q := 16) dX14_product_15 rfl rfl ?_
  refine am_iconst (q := 17) (v := 4) dX14_product_16 kc_i4 rfl ?_
  refine am_bipush (q := 19) (v := 47) dX14_product_17 kc_b47 rfl ?_
  refine cm_call0 (q := 22) (As := [_, _]) hG dX14_product_19 mlX14_123 rfl (by assumption) ⟨_, _, rfl⟩ (Nat.le_of_ble_eq_true rfl) (Nat.le_of_ble_eq_true rfl) (by omega) (Nat.le_of_ble_eq_true rfl) (k_X14_is (kk := nI 47) hG hC g1 (by decide) (sg_all (c := 47) (by decide))) rfl ?_
  rintro _ _ ⟨rfl, rfl⟩
  rw [pk, bI_f (by decide)]
  refine am_if_eq (tgt := 62) (q := 25) dX14_product_22 rfl rfl (fun _ => ?_) (fun hz => absurd rfl hz)
  refine am_iload_n (q := 63) dX14_product_62 rfl rfl ?_
  exact am_iret dX14_product_63 rfl rfl ⟨_, rfl, n, I1, rfl, rfl, g1, g2⟩
theorem kz_sum (hC : MCc S R y bl nx) (hG : okG G) : KZ G S J R y nx T ix N mX14_sum 3 := by
  intro I s dep a k h h1
  have ky := hC.1.1
  have pk := pK_f1 (T := T) h1
  have hz := kz_product (G := G) (J := J) (T := T) (ix := ix) (N := N) hC hG I s dep a k h h1
  clear h1
  refine am_aload_n (q := 1) dX14_sum_0 rfl rfl ?_
  refine cm_call0 (q := 4) (As := []) hG dX14_sum_1 mlX14_159 rfl (by assumption) ⟨_, _, rfl⟩ (Nat.le_of_ble_eq_true rfl) (Nat.le_of_ble_eq_true rfl) (by omega) (Nat.le_of_ble_eq_true rfl) hz rfl ?_
  rintro _ _ ⟨n, I1, rfl, rfl, g1, g2⟩
  refine am_istore_n (q := 5) (ls1 := [_, _, _]) dX14_sum_4 (Nat.le_of_ble_eq_true rfl) rfl rfl ?_
  refine am_aload_n (q := 6) dX14_sum_5 rfl rfl ?_
  refine am_iconst (q := 7) (v := 4) dX14_sum_6 kc_i4 rfl ?_
  refine am_bipush (q := 9) (v := 43) dX14_sum_7 kc_b43 rfl ?_
  refine cm_call0 (q := 12) (As := [_, _]) hG dX14_sum_9 mlX14_123 rfl (by assumption) ⟨_, _, rfl⟩ (Nat.le_of_ble_eq_true rfl) (Nat.le_of_ble_eq_true rfl) (by omega) (Nat.le_of_ble_eq_true rfl) (k_X14_is (kk := nI 43) hG hC g1 (by decide) (sg_all (c := 43) (by decide))) rfl ?_
  rintro _ _ ⟨rfl, rfl⟩
  rw [pk, bI_f (by decide)]
  refine am_if_ne (tgt := 25) (q := 15) dX14_sum_12 rfl rfl (fun hz => absurd rfl hz) (fun _ => ?_)
  refine am_aload_n (q := 16) dX14_sum_15 rfl rfl ?_
  refine am_iconst (q := 17) (v := 4) dX14_sum_16 kc_i4 rfl ?_
  refine am_bipush (q := 19) (v := 45) dX14_sum_17 kc_b45 rfl ?_
  refine cm_call0 (q := 22) (As := [_, _]) hG dX14_sum_19 mlX14_123 rfl (by assumption) ⟨_, _, rfl⟩ (Nat.le_of_ble_eq_true rfl) (Nat.le_of_ble_eq_true rfl) (by omega) (Nat.le_of_ble_eq_true rfl) (k_X14_is (kk := nI 45) hG hC g1 (by decide) (sg_all (c := 45) (by decide))) rfl ?_
  rintro _ _ ⟨rfl, rfl⟩
  rw [pk, bI_f (by decide)]
  refine am_if_eq (tgt := 62) (q := 25) dX14_sum_22 rfl rfl (fun _ => ?_) (fun hz => absurd rfl hz)
  refine am_iload_n (q := 63) dX14_sum_62 rfl rfl ?_
  exact am_iret dX14_sum_63 rfl rfl ⟨_, rfl, n, I1, rfl, rfl, g1, g2⟩
theorem kz_single (hC : MCc S R y bl nx) (hG : okG G) : KZ G S J R y nx T ix N mX14_single 4 := by
  intro I s dep a k h h1
  have ky := hC.1.1
  have pk := pK_f1 (T := T) h1
  have hz := kz_sum (G := G) (J := J) (T := T) (ix := ix) (N := N) hC hG I s dep a k h h1
  have hr : (eRef T s).1 = s.1 ∧ s.1.2.1 = 1 := ⟨eRef_f1 s h1, h1⟩
  clear h1
  refine am_aload_n (q := 1) dX14_single_0 rfl rfl ?_
  refine am_iconst (q := 2) (v := 2) dX14_single_1 kc_i2 rfl ?_
  refine am_bipush (q := 4) (v := 27) dX14_single_2 kc_b27 rfl ?_
  refine cm_call0 (q := 7) (As := [_, _]) hG dX14_single_4 mlX14_123 rfl (by assumption) ⟨_, _, rfl⟩ (Nat.le_of_ble_eq_true rfl) (Nat.le_of_ble_eq_true rfl) (by omega) (Nat.le_of_ble_eq_true rfl) (k_X14_is (kk := nI 327) hG hC h (by decide) (ky_all (j := 27) (by decide))) rfl ?_
  rintro _ _ ⟨rfl, rfl⟩
  rw [pk, bI_f (by decide)]
  refine am_if_eq (tgt := 51) (q := 10) dX14_single_7 rfl rfl (fun _ => ?_) (fun hz => absurd rfl hz)
  refine am_aload_n (q := 52) dX14_single_51 rfl rfl ?_
  refine am_iconst (q := 53) (v := 4) dX14_single_52 kc_i4 rfl ?_
  refine am_bipush (q := 55) (v := 91) dX14_single_53 kc_b91 rfl ?_
  refine cm_call0 (q := 58) (As := [_, _]) hG dX14_single_55 mlX14_123 rfl (by assumption) ⟨_, _, rfl⟩ (Nat.le_of_ble_eq_true rfl) (Nat.le_of_ble_eq_true rfl) (by omega) (Nat.le_of_ble_eq_true rfl) (k_X14_is (kk := nI 91) hG hC h (by decide) (sg_all (c := 91) (by decide))) rfl ?_
  rintro _ _ ⟨rfl, rfl⟩
  rw [pk, bI_f (by decide)]
  refine am_if_eq (tgt := 99) (q := 61) dX14_single_58 rfl rfl (fun _ => ?_) (fun hz => absurd rfl hz)
  refine am_aload_n (q := 100) dX14_single_99 rfl rfl ?_
  refine am_iconst (q := 101) (v := 2) dX14_single_100 kc_i2 rfl ?_
  refine am_bipush (q := 103) (v := 26) dX14_single_101 kc_b26 rfl ?_
  refine cm_call0 (q := 106) (As := [_, _]) hG dX14_single_103 mlX14_123 rfl (by assumption) ⟨_, _, rfl⟩ (Nat.le_of_ble_eq_true rfl) (Nat.le_of_ble_eq_true rfl) (by omega) (Nat.le_of_ble_eq_true rfl) (k_X14_is (kk := nI 326) hG hC h (by decide) (ky_all (j := 26) (by decide))) rfl ?_
  rintro _ _ ⟨rfl, rfl⟩
  rw [pk, bI_f (by decide)]
  refine am_if_eq (tgt := 131) (q := 109) dX14_single_106 rfl rfl (fun _ => ?_) (fun hz => absurd rfl hz)
  refine am_aload_n (q := 132) dX14_single_131 rfl rfl ?_
  refine cm_call0 (q := 135) (As := []) hG dX14_single_132 mlX14_195 rfl (by assumption) ⟨_, _, rfl⟩ (Nat.le_of_ble_eq_true rfl) (Nat.le_of_ble_eq_true rfl) (by omega) (Nat.le_of_ble_eq_true rfl) hz rfl ?_
  rintro _ _ ⟨n, I1, rfl, rfl, g1, g2⟩
  refine am_istore_n (q := 136) (ls1 := [_, _, _]) dX14_single_135 (Nat.le_of_ble_eq_true rfl) rfl rfl ?_
  refine am_aload_n (q := 137) dX14_single_136 rfl rfl ?_
  refine am_iconst (q := 138) (v := 4) dX14_single_137 kc_i4 rfl ?_
  refine am_bipush (q := 140) (v := 60) dX14_single_138 kc_b60 rfl ?_
  refine cm_call0 (q := 143) (As := [_, _]) hG dX14_single_140 mlX14_123 rfl (by assumption) ⟨_, _, rfl⟩ (Nat.le_of_ble_eq_true rfl) (Nat.le_of_ble_eq_true rfl) (by omega) (Nat.le_of_ble_eq_true rfl) (k_X14_is (kk := nI 60) hG hC g1 (by decide) (sg_all (c := 60) (by decide))) rfl ?_
  rintro _ _ ⟨rfl, rfl⟩
  rw [pk, bI_f (by decide)]
  refine am_if_ne (tgt := 192) (q := 146) dX14_single_143 rfl rfl (fun hz => absurd rfl hz) (fun _ => ?_)
  refine am_aload_n (q := 147) dX14_single_146 rfl rfl ?_
  refine am_iconst (q := 148) (v := 4) dX14_single_147 kc_i4 rfl ?_
  refine am_bipush (q := 150) (v := 62) dX14_single_148 kc_b62 rfl ?_
  refine cm_call0 (q := 153) (As := [_, _]) hG dX14_single_150 mlX14_123 rfl (by assumption) ⟨_, _, rfl⟩ (Nat.le_of_ble_eq_true rfl) (Nat.le_of_ble_eq_true rfl) (by omega) (Nat.le_of_ble_eq_true rfl) (k_X14_is (kk := nI 62) hG hC g1 (by decide) (sg_all (c := 62) (by decide))) rfl ?_
  rintro _ _ ⟨rfl, rfl⟩
  rw [pk, bI_f (by decide)]
  refine am_if_ne (tgt := 192) (q := 156) dX14_single_153 rfl rfl (fun hz => absurd rfl hz) (fun _ => ?_)
  refine am_aload_n (q := 157) dX14_single_156 rfl rfl ?_
  refine am_iconst (q := 158) (v := 4) dX14_single_157 kc_i4 rfl ?_
  refine am_bipush (q := 160) (v := 61) dX14_single_158 kc_b61 rfl ?_
  refine cm_call0 (q := 163) (As := [_, _]) hG dX14_single_160 mlX14_123 rfl (by assumption) ⟨_, _, rfl⟩ (Nat.le_of_ble_eq_true rfl) (Nat.le_of_ble_eq_true rfl) (by omega) (Nat.le_of_ble_eq_true rfl) (k_X14_is (kk := nI 61) hG hC g1 (by decide) (sg_all (c := 61) (by decide))) rfl ?_
  rintro _ _ ⟨rfl, rfl⟩
  rw [pk, bI_f (by decide)]
  refine am_if_ne (tgt := 192) (q := 166) dX14_single_163 rfl rfl (fun hz => absurd rfl hz) (fun _ => ?_)
  refine am_aload_n (q := 167) dX14_single_166 rfl rfl ?_
  refine am_iconst (q := 168) (v := 4) dX14_single_167 kc_i4 rfl ?_
  refine am_bipush (q := 170) (v := 108) dX14_single_168 kc_b108 rfl ?_
  refine cm_call0 (q := 173) (As := [_, _]) hG dX14_single_170 mlX14_123 rfl (by assumption) ⟨_, _, rfl⟩ (Nat.le_of_ble_eq_true rfl) (Nat.le_of_ble_eq_true rfl) (by omega) (Nat.le_of_ble_eq_true rfl) (k_X14_is (kk := nI 260) hG hC g1 (by decide) (lg_all (c := 108) (by decide))) rfl ?_
  rintro _ _ ⟨rfl, rfl⟩
  rw [pk, bI_f (by decide)]
  refine am_if_ne (tgt := 192) (q := 176) dX14_single_173 rfl rfl (fun hz => absurd rfl hz) (fun _ => ?_)
  refine am_aload_n (q := 177) dX14_single_176 rfl rfl ?_
  refine am_iconst (q := 178) (v := 4) dX14_single_177 kc_i4 rfl ?_
  refine am_bipush (q := 180) (v := 103) dX14_single_178 kc_b103 rfl ?_
  refine cm_call0 (q := 183) (As := [_, _]) hG dX14_single_180 mlX14_123 rfl (by assumption) ⟨_, _, rfl⟩ (Nat.le_of_ble_eq_true rfl) (Nat.le_of_ble_eq_true rfl) (by omega) (Nat.le_of_ble_eq_true rfl) (k_X14_is (kk := nI 261) hG hC g1 (by decide) (lg_all (c := 103) (by decide))) rfl ?_
  rintro _ _ ⟨rfl, rfl⟩
  rw [pk, bI_f (by decide)]
  refine am_if_ne (tgt := 192) (q := 186) dX14_single_183 rfl rfl (fun hz => absurd rfl hz) (fun _ => ?_)
  refine am_aload_n (q := 187) dX14_single_186 rfl rfl ?_
  refine cm_call0 (q := 190) (As := []) hG dX14_single_187 mlX14_127 rfl (by assumption) ⟨_, _, rfl⟩ (Nat.le_of_ble_eq_true rfl) (Nat.le_of_ble_eq_true rfl) (by omega) (Nat.le_of_ble_eq_true rfl) (k_X14_fail hC g1) rfl ?_
  rintro _ _ ⟨rfl, I2, rfl, g3, g4⟩
  refine am_iconst (q := 191) (v := 0) dX14_single_190 kc_i0 rfl ?_
  exact am_iret dX14_single_191 rfl rfl ⟨_, rfl, 0, I2, rfl, rfl, g3.fl (pRef_1) hr.1.symm, g2.tr g4 (Nat.le_refl _)⟩
theorem kz_pair (hC : MCc S R y bl nx) (hG : okG G) : KZ G S J R y nx T ix N mX14_pair 5 := by
  intro I s dep a k h h1
  have ky := hC.1.1
  have pk := pK_f1 (T := T) h1
  have hz := kz_single (G := G) (J := J) (T := T) (ix := ix) (N := N) hC hG I s dep a k h h1
  clear h1
  refine am_aload_n (q := 1) dX14_pair_0 rfl rfl ?_
  refine cm_call0 (q := 4) (As := []) hG dX14_pair_1 mlX14_201 rfl (by assumption) ⟨_, _, rfl⟩ (Nat.le_of_ble_eq_true rfl) (Nat.le_of_ble_eq_true rfl) (by omega) (Nat.le_of_ble_eq_true rfl) hz rfl ?_
  rintro _ _ ⟨n, I1, rfl, rfl, g1, g2⟩
  refine am_istore_n (q := 5) (ls1 := [_, _]) dX14_pair_4 (Nat.le_of_ble_eq_true rfl) rfl rfl ?_
  refine am_aload_n (q := 6) dX14_pair_5 rfl rfl ?_
  refine am_iconst (q := 7) (v := 2) dX14_pair_6 kc_i2 rfl ?_
  refine am_bipush (q := 9) (v := 28) dX14_pair_7 kc_b28 rfl ?_
  refine cm_call0 (q := 12) (As := [_, _]) hG dX14_pair_9 mlX14_123 rfl (by assumption) ⟨_, _, rfl⟩ (Nat.le_of_ble_eq_true rfl) (Nat.le_of_ble_eq_true rfl) (by omega) (Nat.le_of_ble_eq_true rfl) (k_X14_is (kk := nI 328) hG hC g1 (by decide) (ky_all (j := 28) (by decide))) rfl ?_
  rintro _ _ ⟨rfl, rfl⟩
  rw [pk, bI_f (by decide)]
  refine am_if_eq (tgt := 43) (q := 15) dX14_pair_12 rfl rfl (fun _ => ?_) (fun hz => absurd rfl hz)
  refine am_iload_n (q := 44) dX14_pair_43 rfl rfl ?_
  exact am_iret dX14_pair_44 rfl rfl ⟨_, rfl, n, I1, rfl, rfl, g1, g2⟩
theorem kz_test (hC : MCc S R y bl nx) (hG : okG G) : KZ G S J R y nx T ix N mX14_test 6 := by
  intro I s dep a k h h1
  have ky := hC.1.1
  have pk := pK_f1 (T := T) h1
  have hz := kz_pair (G := G) (J := J) (T := T) (ix := ix) (N := N) hC hG I s dep a k h h1
  clear h1
  refine am_aload_n (q := 1) dX14_test_0 rfl rfl ?_
  refine cm_call0 (q := 4) (As := []) hG dX14_test_1 mlX14_198 rfl (by assumption) ⟨_, _, rfl⟩ (Nat.le_of_ble_eq_true rfl) (Nat.le_of_ble_eq_true rfl) (by omega) (Nat.le_of_ble_eq_true rfl) hz rfl ?_
  rintro _ _ ⟨n, I1, rfl, rfl, g1, g2⟩
  refine am_istore_n (q := 5) (ls1 := [_, _]) dX14_test_4 (Nat.le_of_ble_eq_true rfl) rfl rfl ?_
  refine am_aload_n (q := 6) dX14_test_5 rfl rfl ?_
  refine am_iconst (q := 7) (v := 2) dX14_test_6 kc_i2 rfl ?_
  refine am_bipush (q := 9) (v := 29) dX14_test_7 kc_b29 rfl ?_
  refine cm_call0 (q := 12) (As := [_, _]) hG dX14_test_9 mlX14_123 rfl (by assumption) ⟨_, _, rfl⟩ (Nat.le_of_ble_eq_true rfl) (Nat.le_of_ble_eq_true rfl) (by omega) (Nat.le_of_ble_eq_true rfl) (k_X14_is (kk := nI 329) hG hC g1 (by decide) (ky_all (j := 29) (by decide))) rfl ?_
  rintro _ _ ⟨rfl, rfl⟩
  rw [pk, bI_f (by decide)]
  refine am_if_eq (tgt := 43) (q := 15) dX14_test_12 rfl rfl (fun _ => ?_) (fun hz => absurd rfl hz)
  refine am_iload_n (q := 44) dX14_test_43 rfl rfl ?_
  exact am_iret dX14_test_44 rfl rfl ⟨_, rfl, n, I1, rfl, rfl, g1, g2⟩
end Zr

