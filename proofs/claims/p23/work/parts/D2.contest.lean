theorem kc_b21 : (Int8.ofInt 21).toInt32 = 21 := by decide +kernel
theorem dL_contest_0 : decode cL_contest 0 = .ok (.new 26, 3) := by decide +kernel
theorem dL_contest_3 : decode cL_contest 3 = .ok (.dup, 1) := by decide +kernel
theorem dL_contest_4 : decode cL_contest 4 = .ok (.invokespecial 47, 3) := by decide +kernel
theorem dL_contest_7 : decode cL_contest 7 = .ok (.astore_n 1, 1) := by decide +kernel
theorem dL_contest_8 : decode cL_contest 8 = .ok (.iconst 0, 1) := by decide +kernel
theorem dL_contest_9 : decode cL_contest 9 = .ok (.istore_n 2, 1) := by decide +kernel
theorem dL_contest_10 : decode cL_contest 10 = .ok (.iload_n 2, 1) := by decide +kernel
theorem dL_contest_11 : decode cL_contest 11 = .ok (.iconst 2, 1) := by decide +kernel
theorem dL_contest_12 : decode cL_contest 12 = .ok (.if_icmp .ge 83, 3) := by decide +kernel
theorem dL_contest_15 : decode cL_contest 15 = .ok (.aload_n 0, 1) := by decide +kernel
theorem dL_contest_16 : decode cL_contest 16 = .ok (.iload_n 2, 1) := by decide +kernel
theorem dL_contest_17 : decode cL_contest 17 = .ok (.invokestatic 48, 3) := by decide +kernel
theorem dL_contest_20 : decode cL_contest 20 = .ok (.istore_n 3, 1) := by decide +kernel
theorem dL_contest_21 : decode cL_contest 21 = .ok (.aload_n 1, 1) := by decide +kernel
theorem dL_contest_22 : decode cL_contest 22 = .ok (.iload_n 2, 1) := by decide +kernel
theorem dL_contest_23 : decode cL_contest 23 = .ok (.ifCond .ne 8, 3) := by decide +kernel
theorem dL_contest_26 : decode cL_contest 26 = .ok (.ldc 52, 2) := by decide +kernel
theorem dL_contest_28 : decode cL_contest 28 = .ok (.goto 5, 3) := by decide +kernel
theorem dL_contest_31 : decode cL_contest 31 = .ok (.ldc 54, 2) := by decide +kernel
theorem dL_contest_33 : decode cL_contest 33 = .ok (.invokestatic 43, 3) := by decide +kernel
theorem dL_contest_36 : decode cL_contest 36 = .ok (.aload_n 1, 1) := by decide +kernel
theorem dL_contest_37 : decode cL_contest 37 = .ok (.bipush 20, 2) := by decide +kernel
theorem dL_contest_39 : decode cL_contest 39 = .ok (.iload_n 3, 1) := by decide +kernel
theorem dL_contest_40 : decode cL_contest 40 = .ok (.bipush 60, 2) := by decide +kernel
theorem dL_contest_42 : decode cL_contest 42 = .ok (.invokestatic 56, 3) := by decide +kernel
theorem dL_contest_45 : decode cL_contest 45 = .ok (.iadd, 1) := by decide +kernel
theorem dL_contest_46 : decode cL_contest 46 = .ok (.invokestatic 60, 3) := by decide +kernel
theorem dL_contest_49 : decode cL_contest 49 = .ok (.aload_n 1, 1) := by decide +kernel
theorem dL_contest_50 : decode cL_contest 50 = .ok (.ldc 64, 2) := by decide +kernel
theorem dL_contest_52 : decode cL_contest 52 = .ok (.invokestatic 43, 3) := by decide +kernel
theorem dL_contest_55 : decode cL_contest 55 = .ok (.aload_n 1, 1) := by decide +kernel
theorem dL_contest_56 : decode cL_contest 56 = .ok (.iconst 1, 1) := by decide +kernel
theorem dL_contest_57 : decode cL_contest 57 = .ok (.iload_n 3, 1) := by decide +kernel
theorem dL_contest_58 : decode cL_contest 58 = .ok (.bipush 6, 2) := by decide +kernel
theorem dL_contest_60 : decode cL_contest 60 = .ok (.ishr, 1) := by decide +kernel
theorem dL_contest_61 : decode cL_contest 61 = .ok (.bipush 9, 2) := by decide +kernel
theorem dL_contest_63 : decode cL_contest 63 = .ok (.invokestatic 56, 3) := by decide +kernel
theorem dL_contest_66 : decode cL_contest 66 = .ok (.iadd, 1) := by decide +kernel
theorem dL_contest_67 : decode cL_contest 67 = .ok (.invokestatic 60, 3) := by decide +kernel
theorem dL_contest_70 : decode cL_contest 70 = .ok (.aload_n 1, 1) := by decide +kernel
theorem dL_contest_71 : decode cL_contest 71 = .ok (.ldc 66, 2) := by decide +kernel
theorem dL_contest_73 : decode cL_contest 73 = .ok (.invokestatic 43, 3) := by decide +kernel
theorem dL_contest_76 : decode cL_contest 76 = .ok (.aload_n 1, 1) := by decide +kernel
theorem dL_contest_77 : decode cL_contest 77 = .ok (.iload_n 3, 1) := by decide +kernel
theorem dL_contest_78 : decode cL_contest 78 = .ok (.bipush 9, 2) := by decide +kernel
theorem dL_contest_80 : decode cL_contest 80 = .ok (.ishr, 1) := by decide +kernel
theorem dL_contest_81 : decode cL_contest 81 = .ok (.bipush 21, 2) := by decide +kernel
theorem dL_contest_83 : decode cL_contest 83 = .ok (.invokestatic 56, 3) := by decide +kernel
theorem dL_contest_86 : decode cL_contest 86 = .ok (.invokestatic 60, 3) := by decide +kernel
theorem dL_contest_89 : decode cL_contest 89 = .ok (.iinc 2 1, 3) := by decide +kernel
theorem dL_contest_92 : decode cL_contest 92 = .ok (.goto (-82), 3) := by decide +kernel
theorem dL_contest_95 : decode cL_contest 95 = .ok (.iconst 0, 1) := by decide +kernel
theorem dL_contest_96 : decode cL_contest 96 = .ok (.istore_n 2, 1) := by decide +kernel
theorem dL_contest_97 : decode cL_contest 97 = .ok (.iload_n 2, 1) := by decide +kernel
theorem dL_contest_98 : decode cL_contest 98 = .ok (.iconst 3, 1) := by decide +kernel
theorem dL_contest_99 : decode cL_contest 99 = .ok (.if_icmp .ge 88, 3) := by decide +kernel
theorem dL_contest_102 : decode cL_contest 102 = .ok (.aload_n 0, 1) := by decide +kernel
theorem dL_contest_103 : decode cL_contest 103 = .ok (.iconst 2, 1) := by decide +kernel
theorem dL_contest_104 : decode cL_contest 104 = .ok (.iload_n 2, 1) := by decide +kernel
theorem dL_contest_105 : decode cL_contest 105 = .ok (.iadd, 1) := by decide +kernel
theorem dL_contest_106 : decode cL_contest 106 = .ok (.invokestatic 48, 3) := by decide +kernel
theorem dL_contest_109 : decode cL_contest 109 = .ok (.istore_n 3, 1) := by decide +kernel
theorem dL_contest_110 : decode cL_contest 110 = .ok (.iload_n 3, 1) := by decide +kernel
theorem dL_contest_111 : decode cL_contest 111 = .ok (.bipush 40, 2) := by decide +kernel
theorem dL_contest_113 : decode cL_contest 113 = .ok (.invokestatic 56, 3) := by decide +kernel
theorem dL_contest_116 : decode cL_contest 116 = .ok (.istore 4, 2) := by decide +kernel
theorem dL_contest_118 : decode cL_contest 118 = .ok (.aload_n 1, 1) := by decide +kernel
theorem dL_contest_119 : decode cL_contest 119 = .ok (.iload_n 3, 1) := by decide +kernel
theorem dL_contest_120 : decode cL_contest 120 = .ok (.iconst 2, 1) := by decide +kernel
theorem dL_contest_121 : decode cL_contest 121 = .ok (.irem, 1) := by decide +kernel
theorem dL_contest_122 : decode cL_contest 122 = .ok (.ifCond .ne 8, 3) := by decide +kernel
theorem dL_contest_125 : decode cL_contest 125 = .ok (.ldc 68, 2) := by decide +kernel
theorem dL_contest_127 : decode cL_contest 127 = .ok (.goto 5, 3) := by decide +kernel
theorem dL_contest_130 : decode cL_contest 130 = .ok (.ldc 70, 2) := by decide +kernel
theorem dL_contest_132 : decode cL_contest 132 = .ok (.invokestatic 43, 3) := by decide +kernel
theorem dL_contest_135 : decode cL_contest 135 = .ok (.aload_n 1, 1) := by decide +kernel
theorem dL_contest_136 : decode cL_contest 136 = .ok (.iload 4, 2) := by decide +kernel
theorem dL_contest_138 : decode cL_contest 138 = .ok (.invokestatic 60, 3) := by decide +kernel
theorem dL_contest_141 : decode cL_contest 141 = .ok (.aload_n 1, 1) := by decide +kernel
theorem dL_contest_142 : decode cL_contest 142 = .ok (.ldc 72, 2) := by decide +kernel
theorem dL_contest_144 : decode cL_contest 144 = .ok (.invokestatic 43, 3) := by decide +kernel
theorem dL_contest_147 : decode cL_contest 147 = .ok (.aload_n 1, 1) := by decide +kernel
theorem dL_contest_148 : decode cL_contest 148 = .ok (.iload 4, 2) := by decide +kernel
theorem dL_contest_150 : decode cL_contest 150 = .ok (.iload_n 3, 1) := by decide +kernel
theorem dL_contest_151 : decode cL_contest 151 = .ok (.iconst 5, 1) := by decide +kernel
theorem dL_contest_152 : decode cL_contest 152 = .ok (.ishr, 1) := by decide +kernel
theorem dL_contest_153 : decode cL_contest 153 = .ok (.bipush 30, 2) := by decide +kernel
theorem dL_contest_155 : decode cL_contest 155 = .ok (.invokestatic 56, 3) := by decide +kernel
theorem dL_contest_158 : decode cL_contest 158 = .ok (.iadd, 1) := by decide +kernel
theorem dL_contest_159 : decode cL_contest 159 = .ok (.invokestatic 60, 3) := by decide +kernel
theorem dL_contest_162 : decode cL_contest 162 = .ok (.aload_n 1, 1) := by decide +kernel
theorem dL_contest_163 : decode cL_contest 163 = .ok (.ldc 74, 2) := by decide +kernel
theorem dL_contest_165 : decode cL_contest 165 = .ok (.invokestatic 43, 3) := by decide +kernel
theorem dL_contest_168 : decode cL_contest 168 = .ok (.aload_n 1, 1) := by decide +kernel
theorem dL_contest_169 : decode cL_contest 169 = .ok (.iload_n 3, 1) := by decide +kernel
theorem dL_contest_170 : decode cL_contest 170 = .ok (.bipush 8, 2) := by decide +kernel
theorem dL_contest_172 : decode cL_contest 172 = .ok (.ishr, 1) := by decide +kernel
theorem dL_contest_173 : decode cL_contest 173 = .ok (.bipush 10, 2) := by decide +kernel
theorem dL_contest_175 : decode cL_contest 175 = .ok (.invokestatic 56, 3) := by decide +kernel
theorem dL_contest_178 : decode cL_contest 178 = .ok (.invokestatic 60, 3) := by decide +kernel
theorem dL_contest_181 : decode cL_contest 181 = .ok (.iinc 2 1, 3) := by decide +kernel
theorem dL_contest_184 : decode cL_contest 184 = .ok (.goto (-87), 3) := by decide +kernel
theorem dL_contest_187 : decode cL_contest 187 = .ok (.iconst 0, 1) := by decide +kernel
theorem dL_contest_188 : decode cL_contest 188 = .ok (.istore_n 2, 1) := by decide +kernel
theorem dL_contest_189 : decode cL_contest 189 = .ok (.iload_n 2, 1) := by decide +kernel
theorem dL_contest_190 : decode cL_contest 190 = .ok (.iconst 2, 1) := by decide +kernel
theorem dL_contest_191 : decode cL_contest 191 = .ok (.if_icmp .ge 82, 3) := by decide +kernel
theorem dL_contest_194 : decode cL_contest 194 = .ok (.aload_n 0, 1) := by decide +kernel
theorem dL_contest_195 : decode cL_contest 195 = .ok (.iconst 5, 1) := by decide +kernel
theorem dL_contest_196 : decode cL_contest 196 = .ok (.iload_n 2, 1) := by decide +kernel
theorem dL_contest_197 : decode cL_contest 197 = .ok (.iadd, 1) := by decide +kernel
theorem dL_contest_198 : decode cL_contest 198 = .ok (.invokestatic 48, 3) := by decide +kernel
theorem dL_contest_201 : decode cL_contest 201 = .ok (.istore_n 3, 1) := by decide +kernel
theorem dL_contest_202 : decode cL_contest 202 = .ok (.aload_n 1, 1) := by decide +kernel
theorem dL_contest_203 : decode cL_contest 203 = .ok (.iload_n 2, 1) := by decide +kernel
theorem dL_contest_204 : decode cL_contest 204 = .ok (.ifCond .ne 8, 3) := by decide +kernel
theorem dL_contest_207 : decode cL_contest 207 = .ok (.ldc 76, 2) := by decide +kernel
theorem dL_contest_209 : decode cL_contest 209 = .ok (.goto 5, 3) := by decide +kernel
theorem dL_contest_212 : decode cL_contest 212 = .ok (.ldc 78, 2) := by decide +kernel
theorem dL_contest_214 : decode cL_contest 214 = .ok (.invokestatic 43, 3) := by decide +kernel
theorem dL_contest_217 : decode cL_contest 217 = .ok (.aload_n 1, 1) := by decide +kernel
theorem dL_contest_218 : decode cL_contest 218 = .ok (.iconst 1, 1) := by decide +kernel
theorem dL_contest_219 : decode cL_contest 219 = .ok (.iload_n 3, 1) := by decide +kernel
theorem dL_contest_220 : decode cL_contest 220 = .ok (.bipush 60, 2) := by decide +kernel
theorem dL_contest_222 : decode cL_contest 222 = .ok (.invokestatic 56, 3) := by decide +kernel
theorem dL_contest_225 : decode cL_contest 225 = .ok (.iadd, 1) := by decide +kernel
theorem dL_contest_226 : decode cL_contest 226 = .ok (.invokestatic 60, 3) := by decide +kernel
theorem dL_contest_229 : decode cL_contest 229 = .ok (.aload_n 1, 1) := by decide +kernel
theorem dL_contest_230 : decode cL_contest 230 = .ok (.ldc 80, 2) := by decide +kernel
theorem dL_contest_232 : decode cL_contest 232 = .ok (.invokestatic 43, 3) := by decide +kernel
theorem dL_contest_235 : decode cL_contest 235 = .ok (.aload_n 1, 1) := by decide +kernel
theorem dL_contest_236 : decode cL_contest 236 = .ok (.iload_n 3, 1) := by decide +kernel
theorem dL_contest_237 : decode cL_contest 237 = .ok (.bipush 6, 2) := by decide +kernel
theorem dL_contest_239 : decode cL_contest 239 = .ok (.ishr, 1) := by decide +kernel
theorem dL_contest_240 : decode cL_contest 240 = .ok (.bipush 21, 2) := by decide +kernel
theorem dL_contest_242 : decode cL_contest 242 = .ok (.invokestatic 56, 3) := by decide +kernel
theorem dL_contest_245 : decode cL_contest 245 = .ok (.invokestatic 60, 3) := by decide +kernel
theorem dL_contest_248 : decode cL_contest 248 = .ok (.aload_n 1, 1) := by decide +kernel
theorem dL_contest_249 : decode cL_contest 249 = .ok (.ldc 82, 2) := by decide +kernel
theorem dL_contest_251 : decode cL_contest 251 = .ok (.invokestatic 43, 3) := by decide +kernel
theorem dL_contest_254 : decode cL_contest 254 = .ok (.aload_n 1, 1) := by decide +kernel
theorem dL_contest_255 : decode cL_contest 255 = .ok (.iload_n 3, 1) := by decide +kernel
theorem dL_contest_256 : decode cL_contest 256 = .ok (.bipush 9, 2) := by decide +kernel
theorem dL_contest_258 : decode cL_contest 258 = .ok (.ishr, 1) := by decide +kernel
theorem dL_contest_259 : decode cL_contest 259 = .ok (.bipush 10, 2) := by decide +kernel
theorem dL_contest_261 : decode cL_contest 261 = .ok (.invokestatic 56, 3) := by decide +kernel
theorem dL_contest_264 : decode cL_contest 264 = .ok (.invokestatic 60, 3) := by decide +kernel
theorem dL_contest_267 : decode cL_contest 267 = .ok (.iinc 2 1, 3) := by decide +kernel
theorem dL_contest_270 : decode cL_contest 270 = .ok (.goto (-81), 3) := by decide +kernel
theorem dL_contest_273 : decode cL_contest 273 = .ok (.aload_n 1, 1) := by decide +kernel
theorem dL_contest_274 : decode cL_contest 274 = .ok (.ldc 84, 2) := by decide +kernel
theorem dL_contest_276 : decode cL_contest 276 = .ok (.invokestatic 43, 3) := by decide +kernel
theorem dL_contest_279 : decode cL_contest 279 = .ok (.aload_n 1, 1) := by decide +kernel
theorem dL_contest_280 : decode cL_contest 280 = .ok (.areturn, 1) := by decide +kernel
/-! the law's contest: two rails, three rusts, two fists on the tape -/
abbrev H3 : Type := Nat × Nat × Nat
abbrev H4 : Type := Nat × Nat × Nat × Nat
def railT (k : Nat) (h : H3) : List Int32 := strN k ++ ((32 :: dgt h.1) ++ (strN 3 ++ ((32 :: dgt h.2.1) ++ (strN 4 ++ (32 :: dgt h.2.2)))))
def rustT (h : H4) : List Int32 := strN h.1 ++ ((32 :: dgt h.2.1) ++ (strN 7 ++ ((32 :: dgt h.2.2.1) ++ (strN 8 ++ (32 :: dgt h.2.2.2)))))
def fistT (k : Nat) (h : H3) : List Int32 := strN (9 + k) ++ ((32 :: dgt h.1) ++ (strN 11 ++ ((32 :: dgt h.2.1) ++ (strN 12 ++ (32 :: dgt h.2.2)))))
def okR (h : H3) : Prop := 20 ≤ h.1 ∧ h.1 ≤ 99 ∧ 1 ≤ h.2.1 ∧ h.2.1 ≤ 9 ∧ h.2.2 ≤ 20
def okU (h : H4) : Prop := (h.1 = 5 ∨ h.1 = 6) ∧ h.2.1 ≤ h.2.2.1 ∧ h.2.2.1 ≤ 99 ∧ h.2.2.2 ≤ 9
def okF (h : H3) : Prop := 1 ≤ h.1 ∧ h.1 ≤ 60 ∧ h.2.1 ≤ 20 ∧ h.2.2 ≤ 9
theorem dgt_len (n : Nat) : (32 :: dgt n).length ≤ 3 := by
  unfold dgt
  split
  · exact Nat.le_of_ble_eq_true rfl
  · exact Nat.le_of_ble_eq_true rfl
theorem six_len {a b c d e f : List Int32} (h1 : a.length ≤ 16) (h2 : b.length ≤ 3) (h3 : c.length ≤ 16) (h4 : d.length ≤ 3) (h5 : e.length ≤ 16) (h6 : f.length ≤ 3) : (a ++ (b ++ (c ++ (d ++ (e ++ f))))).length ≤ 57 := by
  simp only [List.length_append]
  omega
theorem str_16 : ∀ i, i < 14 → (strN i).length ≤ 16 := by decide +kernel
theorem railT_len {k : Nat} {h : H3} (hk : k < 2) : (railT k h).length ≤ 57 := six_len (str_16 k (by omega)) (dgt_len _) (str_16 3 (by decide)) (dgt_len _) (str_16 4 (by decide)) (dgt_len _)
theorem rustT_len {h : H4} (hk : h.1 < 14) : (rustT h).length ≤ 57 := six_len (str_16 _ hk) (dgt_len _) (str_16 7 (by decide)) (dgt_len _) (str_16 8 (by decide)) (dgt_len _)
theorem fistT_len {k : Nat} {h : H3} (hk : k < 2) : (fistT k h).length ≤ 57 := six_len (str_16 _ (by omega)) (dgt_len _) (str_16 11 (by decide)) (dgt_len _) (str_16 12 (by decide)) (dgt_len _)
theorem ks11_sl : (ks11.map Prod.snd).sum ≤ 100000 := by decide +kernel
section Co
variable {G : Gp} {S : AMem} {I : Nat → Nat → Int32} {J : Nat → Nat → Int64} {R : Nat → Nat → Option Nat} {x b L : Nat} {xs : Nat → Int32} {Z : StA} {l : List Int32} {o3 o4 : Option AV} {Q : (Option AV ⊕ Nat) → AMem → Prop}
theorem XT.kx (h : XT S x l I J R) : S.K x = 12 := by
  obtain ⟨E, _, hW⟩ := h
  exact hW.kx
theorem ap_len {l w : List Int32} {n k : Nat} (h : l.length ≤ n) (hw : w.length ≤ k) : (l ++ w).length ≤ n + k := by
  rw [List.length_append]
  omega
/-- number, text, number, text, number behind the tape -/
theorem kl_rail {k : Nat} (hG : okG G) (hZ : KS G Z) (hsc : Sc G b L xs) (hL : L < 2 ^ 31) (hk : k < 2) (hX : XT S x l I J R) (hl : l.length ≤ 1000) (K : ∀ (h : H3) I1 J1 R1 o, okR h → XT S x (l ++ railT k h) I1 J1 R1 → MW G mL_contest 20 10 [some (vR b), some (vR x), some (vI (nI (k + 1))), o, o4] [] (mw S I1 J1 R1) Q) : MW G mL_contest 20 10 [some (vR b), some (vR x), some (vI (nI k)), o3, o4] [] (mw S I J R) Q := by
  have kx := hX.kx
  refine am_iload_n (q := 11) dL_contest_10 rfl rfl ?_
  refine am_iconst (q := 12) (v := 2) dL_contest_11 kc_i2 rfl ?_
  refine am_icmp_ge (tgt := 95) (q := 15) dL_contest_12 rfl rfl (fun hz => absurd hz (nI_ge hk (by decide))) (fun _ => ?_)
  refine am_aload_n (q := 16) dL_contest_15 rfl rfl ?_
  refine am_iload_n (q := 17) dL_contest_16 rfl rfl ?_
  refine am_call1 (q := 20) (As := [_, _]) hG dL_contest_17 mlL_48 rfl (Nat.le_of_ble_eq_true rfl) (Nat.le_of_ble_eq_true rfl) (Nat.le_of_ble_eq_true rfl) (kl_cell hsc hL rfl (by omega)) rfl ?_
  rintro _ _ ⟨c, rfl, rfl⟩
  have mid : MW G mL_contest 20 33 [some (vR b), some (vR x), some (vI (nI k)), some (vI c), o4] [vR (Z.k k), vR x] (mw S I J R) Q := by
    refine am_call1 (q := 36) (As := [_, _]) hG dL_contest_33 mlL_43 rfl (Nat.le_of_ble_eq_true rfl) (Nat.le_of_ble_eq_true rfl) (Nat.le_of_ble_eq_true rfl) (kl_say (i := k) hG hZ (by omega) hX (by omega)) rfl ?_
    rintro _ _ ⟨rfl, I1, J1, R1, rfl, h1⟩
    refine am_aload_n (q := 37) dL_contest_36 rfl rfl ?_
    refine am_bipush (q := 39) (v := 20) dL_contest_37 kc_b20 rfl ?_
    refine am_iload_n (q := 40) dL_contest_39 rfl rfl ?_
    refine am_bipush (q := 42) (v := 60) dL_contest_40 kc_b60 rfl ?_
    refine am_call1 (q := 45) (As := [_, _]) hG dL_contest_42 mlL_56 rfl (Nat.le_of_ble_eq_true rfl) (Nat.le_of_ble_eq_true rfl) (Nat.le_of_ble_eq_true rfl) (kl_below (N := 60) rfl (by decide) (by decide)) rfl ?_
    rintro _ _ ⟨n1, hn1, rfl, rfl⟩
    have l1 := ap_len hl (str_16 k (by omega))
    refine am_iadd (q := 46) dL_contest_45 rfl ?_
    refine am_call1 (q := 49) (As := [_, _]) hG dL_contest_46 mlL_60 rfl (Nat.le_of_ble_eq_true rfl) (Nat.le_of_ble_eq_true rfl) (Nat.le_of_ble_eq_true rfl) (kl_number (n := 20 + n1) hG hZ (nI_add 20 n1) (by omega) h1 (by omega)) rfl ?_
    rintro _ _ ⟨rfl, I2, J2, R2, rfl, h2⟩
    refine am_aload_n (q := 50) dL_contest_49 rfl rfl ?_
    refine am_ldcS (q := 52) dL_contest_50 rfl (hZ.li (i := 3) (by decide)) rfl ?_
    have l2 := ap_len l1 (dgt_len (20 + n1))
    refine am_call1 (q := 55) (As := [_, _]) hG dL_contest_52 mlL_43 rfl (Nat.le_of_ble_eq_true rfl) (Nat.le_of_ble_eq_true rfl) (Nat.le_of_ble_eq_true rfl) (kl_say (i := 3) hG hZ (by decide) h2 (by omega)) rfl ?_
    rintro _ _ ⟨rfl, I3, J3, R3, rfl, h3⟩
    refine am_aload_n (q := 56) dL_contest_55 rfl rfl ?_
    refine am_iconst (q := 57) (v := 1) dL_contest_56 kc_i1 rfl ?_
    refine am_iload_n (q := 58) dL_contest_57 rfl rfl ?_
    refine am_bipush (q := 60) (v := 6) dL_contest_58 kc_b6 rfl ?_
    refine am_ishr (q := 61) dL_contest_60 rfl ?_
    refine am_bipush (q := 63) (v := 9) dL_contest_61 kc_b9 rfl ?_
    refine am_call1 (q := 66) (As := [_, _]) hG dL_contest_63 mlL_56 rfl (Nat.le_of_ble_eq_true rfl) (Nat.le_of_ble_eq_true rfl) (Nat.le_of_ble_eq_true rfl) (kl_below (N := 9) rfl (by decide) (by decide)) rfl ?_
    rintro _ _ ⟨n2, hn2, rfl, rfl⟩
    have l3 := ap_len l2 (str_16 3 (by decide))
    refine am_iadd (q := 67) dL_contest_66 rfl ?_
    refine am_call1 (q := 70) (As := [_, _]) hG dL_contest_67 mlL_60 rfl (Nat.le_of_ble_eq_true rfl) (Nat.le_of_ble_eq_true rfl) (Nat.le_of_ble_eq_true rfl) (kl_number (n := 1 + n2) hG hZ (nI_add 1 n2) (by omega) h3 (by omega)) rfl ?_
    rintro _ _ ⟨rfl, I4, J4, R4, rfl, h4⟩
    refine am_aload_n (q := 71) dL_contest_70 rfl rfl ?_
    refine am_ldcS (q := 73) dL_contest_71 rfl (hZ.li (i := 4) (by decide)) rfl ?_
    have l4 := ap_len l3 (dgt_len (1 + n2))
    refine am_call1 (q := 76) (As := [_, _]) hG dL_contest_73 mlL_43 rfl (Nat.le_of_ble_eq_true rfl) (Nat.le_of_ble_eq_true rfl) (Nat.le_of_ble_eq_true rfl) (kl_say (i := 4) hG hZ (by decide) h4 (by omega)) rfl ?_
    rintro _ _ ⟨rfl, I5, J5, R5, rfl, h5⟩
    refine am_aload_n (q := 77) dL_contest_76 rfl rfl ?_
    refine am_iload_n (q := 78) dL_contest_77 rfl rfl ?_
    refine am_bipush (q := 80) (v := 9) dL_contest_78 kc_b9 rfl ?_
    refine am_ishr (q := 81) dL_contest_80 rfl ?_
    refine am_bipush (q := 83) (v := 21) dL_contest_81 kc_b21 rfl ?_
    refine am_call1 (q := 86) (As := [_, _]) hG dL_contest_83 mlL_56 rfl (Nat.le_of_ble_eq_true rfl) (Nat.le_of_ble_eq_true rfl) (Nat.le_of_ble_eq_true rfl) (kl_below (N := 21) rfl (by decide) (by decide)) rfl ?_
    rintro _ _ ⟨n3, hn3, rfl, rfl⟩
    have l5 := ap_len l4 (str_16 4 (by decide))
    refine am_call1 (q := 89) (As := [_, _]) hG dL_contest_86 mlL_60 rfl (Nat.le_of_ble_eq_true rfl) (Nat.le_of_ble_eq_true rfl) (Nat.le_of_ble_eq_true rfl) (kl_number (n := n3) hG hZ rfl (by omega) h5 (by omega)) rfl ?_
    rintro _ _ ⟨rfl, I6, J6, R6, rfl, h6⟩
    refine am_iincW (q := 92) (ls1 := [_, _, _, _, _]) (w := 1) dL_contest_89 rfl (Nat.le_of_ble_eq_true rfl) kc_i1 rfl rfl ?_
    refine am_goto (tgt := 10) dL_contest_92 rfl ?_
    rw [nI_1]
    refine K (20 + n1, 1 + n2, n3) I6 J6 R6 _ ⟨by show 20 ≤ 20 + n1; omega, by show 20 + n1 ≤ 99; omega, by show 1 ≤ 1 + n2; omega, by show 1 + n2 ≤ 9; omega, by show n3 ≤ 20; omega⟩ ?_
    simp only [List.append_assoc] at h6
    exact h6
  rcases (show k = 0 ∨ k = 1 by omega) with e | e
  · subst e
    refine am_istore_n (q := 21) (ls1 := [_, _, _, _, _]) dL_contest_20 (Nat.le_of_ble_eq_true rfl) rfl rfl ?_
    refine am_aload_n (q := 22) dL_contest_21 rfl rfl ?_
    refine am_iload_n (q := 23) dL_contest_22 rfl rfl ?_
    refine am_if_ne (tgt := 31) (q := 26) dL_contest_23 rfl rfl (fun hz => absurd nI_0 hz) (fun _ => ?_)
    refine am_ldcS (q := 28) dL_contest_26 rfl (hZ.li (i := 0) (by decide)) rfl ?_
    refine am_goto (tgt := 33) dL_contest_28 rfl ?_
    exact mid
  · subst e
    refine am_istore_n (q := 21) (ls1 := [_, _, _, _, _]) dL_contest_20 (Nat.le_of_ble_eq_true rfl) rfl rfl ?_
    refine am_aload_n (q := 22) dL_contest_21 rfl rfl ?_
    refine am_iload_n (q := 23) dL_contest_22 rfl rfl ?_
    refine am_if_ne (tgt := 31) (q := 26) dL_contest_23 rfl rfl (fun _ => ?_) (fun hz => absurd hz (by decide))
    refine am_ldcS (q := 33) dL_contest_31 rfl (hZ.li (i := 1) (by decide)) rfl ?_
    exact mid
theorem kl_rust {k : Nat} (hG : okG G) (hZ : KS G Z) (hsc : Sc G b L xs) (hL : L < 2 ^ 31) (hk : k < 3) (hX : XT S x l I J R) (hl : l.length ≤ 1000) (K : ∀ (h : H4) I1 J1 R1 o p, okU h → XT S x (l ++ rustT h) I1 J1 R1 → MW G mL_contest 20 97 [some (vR b), some (vR x), some (vI (nI (k + 1))), o, p] [] (mw S I1 J1 R1) Q) : MW G mL_contest 20 97 [some (vR b), some (vR x), some (vI (nI k)), o3, o4] [] (mw S I J R) Q := by
  have kx := hX.kx
  refine am_iload_n (q := 98) dL_contest_97 rfl rfl ?_
  refine am_iconst (q := 99) (v := 3) dL_contest_98 kc_i3 rfl ?_
  refine am_icmp_ge (tgt := 187) (q := 102) dL_contest_99 rfl rfl (fun hz => absurd hz (nI_ge hk (by decide))) (fun _ => ?_)
  refine am_aload_n (q := 103) dL_contest_102 rfl rfl ?_
  refine am_iconst (q := 104) (v := 2) dL_contest_103 kc_i2 rfl ?_
  refine am_iload_n (q := 105) dL_contest_104 rfl rfl ?_
  refine am_iadd (q := 106) dL_contest_105 rfl ?_
  refine am_call1 (q := 109) (As := [_, _]) hG dL_contest_106 mlL_48 rfl (Nat.le_of_ble_eq_true rfl) (Nat.le_of_ble_eq_true rfl) (Nat.le_of_ble_eq_true rfl) (kl_cell hsc hL (nI_add 2 k) (by omega)) rfl ?_
  rintro _ _ ⟨c, rfl, rfl⟩
  refine am_istore_n (q := 110) (ls1 := [_, _, _, _, _]) dL_contest_109 (Nat.le_of_ble_eq_true rfl) rfl rfl ?_
  refine am_iload_n (q := 111) dL_contest_110 rfl rfl ?_
  refine am_bipush (q := 113) (v := 40) dL_contest_111 kc_b40 rfl ?_
  refine am_call1 (q := 116) (As := [_, _]) hG dL_contest_113 mlL_56 rfl (Nat.le_of_ble_eq_true rfl) (Nat.le_of_ble_eq_true rfl) (Nat.le_of_ble_eq_true rfl) (kl_below (N := 40) rfl (by decide) (by decide)) rfl ?_
  rintro _ _ ⟨n0, hn0, rfl, rfl⟩
  refine am_istore (q := 118) (ls1 := [_, _, _, _, _]) dL_contest_116 (Nat.le_of_ble_eq_true rfl) rfl rfl ?_
  refine am_aload_n (q := 119) dL_contest_118 rfl rfl ?_
  refine am_iload_n (q := 120) dL_contest_119 rfl rfl ?_
  refine am_iconst (q := 121) (v := 2) dL_contest_120 kc_i2 rfl ?_
  refine am_irem (q := 122) dL_contest_121 (by decide) rfl ?_
  have mid : ∀ a, (a = 5 ∨ a = 6) → MW G mL_contest 20 132 [some (vR b), some (vR x), some (vI (nI k)), some (vI c), some (vI (nI n0))] [vR (Z.k a), vR x] (mw S I J R) Q := by
    intro a ha
    refine am_call1 (q := 135) (As := [_, _]) hG dL_contest_132 mlL_43 rfl (Nat.le_of_ble_eq_true rfl) (Nat.le_of_ble_eq_true rfl) (Nat.le_of_ble_eq_true rfl) (kl_say (i := a) hG hZ (by omega) hX (by omega)) rfl ?_
    rintro _ _ ⟨rfl, I1, J1, R1, rfl, h1⟩
    refine am_aload_n (q := 136) dL_contest_135 rfl rfl ?_
    refine am_iload (q := 138) dL_contest_136 rfl rfl ?_
    refine am_call1 (q := 141) (As := [_, _]) hG dL_contest_138 mlL_60 rfl (Nat.le_of_ble_eq_true rfl) (Nat.le_of_ble_eq_true rfl) (Nat.le_of_ble_eq_true rfl) (kl_number (n := n0) hG hZ rfl (by omega) h1 (by have l1 := ap_len hl (str_16 a (by omega)); omega)) rfl ?_
    rintro _ _ ⟨rfl, I2, J2, R2, rfl, h2⟩
    refine am_aload_n (q := 142) dL_contest_141 rfl rfl ?_
    refine am_ldcS (q := 144) dL_contest_142 rfl (hZ.li (i := 7) (by decide)) rfl ?_
    have l1 := ap_len hl (str_16 a (by omega))
    have l2 := ap_len l1 (dgt_len n0)
    refine am_call1 (q := 147) (As := [_, _]) hG dL_contest_144 mlL_43 rfl (Nat.le_of_ble_eq_true rfl) (Nat.le_of_ble_eq_true rfl) (Nat.le_of_ble_eq_true rfl) (kl_say (i := 7) hG hZ (by decide) h2 (by omega)) rfl ?_
    rintro _ _ ⟨rfl, I3, J3, R3, rfl, h3⟩
    refine am_aload_n (q := 148) dL_contest_147 rfl rfl ?_
    refine am_iload (q := 150) dL_contest_148 rfl rfl ?_
    refine am_iload_n (q := 151) dL_contest_150 rfl rfl ?_
    refine am_iconst (q := 152) (v := 5) dL_contest_151 kc_i5 rfl ?_
    refine am_ishr (q := 153) dL_contest_152 rfl ?_
    refine am_bipush (q := 155) (v := 30) dL_contest_153 kc_b30 rfl ?_
    refine am_call1 (q := 158) (As := [_, _]) hG dL_contest_155 mlL_56 rfl (Nat.le_of_ble_eq_true rfl) (Nat.le_of_ble_eq_true rfl) (Nat.le_of_ble_eq_true rfl) (kl_below (N := 30) rfl (by decide) (by decide)) rfl ?_
    rintro _ _ ⟨n2, hn2, rfl, rfl⟩
    have l3 := ap_len l2 (str_16 7 (by decide))
    refine am_iadd (q := 159) dL_contest_158 rfl ?_
    refine am_call1 (q := 162) (As := [_, _]) hG dL_contest_159 mlL_60 rfl (Nat.le_of_ble_eq_true rfl) (Nat.le_of_ble_eq_true rfl) (Nat.le_of_ble_eq_true rfl) (kl_number (n := n0 + n2) hG hZ (nI_add n0 n2) (by omega) h3 (by omega)) rfl ?_
    rintro _ _ ⟨rfl, I4, J4, R4, rfl, h4⟩
    refine am_aload_n (q := 163) dL_contest_162 rfl rfl ?_
    refine am_ldcS (q := 165) dL_contest_163 rfl (hZ.li (i := 8) (by decide)) rfl ?_
    have l4 := ap_len l3 (dgt_len (n0 + n2))
    refine am_call1 (q := 168) (As := [_, _]) hG dL_contest_165 mlL_43 rfl (Nat.le_of_ble_eq_true rfl) (Nat.le_of_ble_eq_true rfl) (Nat.le_of_ble_eq_true rfl) (kl_say (i := 8) hG hZ (by decide) h4 (by omega)) rfl ?_
    rintro _ _ ⟨rfl, I5, J5, R5, rfl, h5⟩
    refine am_aload_n (q := 169) dL_contest_168 rfl rfl ?_
    refine am_iload_n (q := 170) dL_contest_169 rfl rfl ?_
    refine am_bipush (q := 172) (v := 8) dL_contest_170 kc_b8 rfl ?_
    refine am_ishr (q := 173) dL_contest_172 rfl ?_
    refine am_bipush (q := 175) (v := 10) dL_contest_173 kc_b10 rfl ?_
    refine am_call1 (q := 178) (As := [_, _]) hG dL_contest_175 mlL_56 rfl (Nat.le_of_ble_eq_true rfl) (Nat.le_of_ble_eq_true rfl) (Nat.le_of_ble_eq_true rfl) (kl_below (N := 10) rfl (by decide) (by decide)) rfl ?_
    rintro _ _ ⟨n3, hn3, rfl, rfl⟩
    have l5 := ap_len l4 (str_16 8 (by decide))
    refine am_call1 (q := 181) (As := [_, _]) hG dL_contest_178 mlL_60 rfl (Nat.le_of_ble_eq_true rfl) (Nat.le_of_ble_eq_true rfl) (Nat.le_of_ble_eq_true rfl) (kl_number (n := n3) hG hZ rfl (by omega) h5 (by omega)) rfl ?_
    rintro _ _ ⟨rfl, I6, J6, R6, rfl, h6⟩
    refine am_iincW (q := 184) (ls1 := [_, _, _, _, _]) (w := 1) dL_contest_181 rfl (Nat.le_of_ble_eq_true rfl) kc_i1 rfl rfl ?_
    refine am_goto (tgt := 97) dL_contest_184 rfl ?_
    rw [nI_1]
    refine K (a, n0, n0 + n2, n3) I6 J6 R6 _ _ ⟨ha, by show n0 ≤ n0 + n2; omega, by show n0 + n2 ≤ 99; omega, by show n3 ≤ 9; omega⟩ ?_
    simp only [List.append_assoc] at h6
    exact h6
  refine am_if_ne (tgt := 130) (q := 125) dL_contest_122 rfl rfl (fun hc => ?_) (fun hc => ?_)
  · refine am_ldcS (q := 132) dL_contest_130 rfl (hZ.li (i := 6) (by decide)) rfl ?_
    exact mid 6 (Or.inr rfl)
  · refine am_ldcS (q := 127) dL_contest_125 rfl (hZ.li (i := 5) (by decide)) rfl ?_
    refine am_goto (tgt := 132) dL_contest_127 rfl ?_
    exact mid 5 (Or.inl rfl)
theorem kl_fist {k : Nat} (hG : okG G) (hZ : KS G Z) (hsc : Sc G b L xs) (hL : L < 2 ^ 31) (hk : k < 2) (hX : XT S x l I J R) (hl : l.length ≤ 1000) (K : ∀ (h : H3) I1 J1 R1 o, okF h → XT S x (l ++ fistT k h) I1 J1 R1 → MW G mL_contest 20 189 [some (vR b), some (vR x), some (vI (nI (k + 1))), o, o4] [] (mw S I1 J1 R1) Q) : MW G mL_contest 20 189 [some (vR b), some (vR x), some (vI (nI k)), o3, o4] [] (mw S I J R) Q := by
  have kx := hX.kx
  refine am_iload_n (q := 190) dL_contest_189 rfl rfl ?_
  refine am_iconst (q := 191) (v := 2) dL_contest_190 kc_i2 rfl ?_
  refine am_icmp_ge (tgt := 273) (q := 194) dL_contest_191 rfl rfl (fun hz => absurd hz (nI_ge hk (by decide))) (fun _ => ?_)
  refine am_aload_n (q := 195) dL_contest_194 rfl rfl ?_
  refine am_iconst (q := 196) (v := 5) dL_contest_195 kc_i5 rfl ?_
  refine am_iload_n (q := 197) dL_contest_196 rfl rfl ?_
  refine am_iadd (q := 198) dL_contest_197 rfl ?_
  refine am_call1 (q := 201) (As := [_, _]) hG dL_contest_198 mlL_48 rfl (Nat.le_of_ble_eq_true rfl) (Nat.le_of_ble_eq_true rfl) (Nat.le_of_ble_eq_true rfl) (kl_cell hsc hL (nI_add 5 k) (by omega)) rfl ?_
  rintro _ _ ⟨c, rfl, rfl⟩
  refine am_istore_n (q := 202) (ls1 := [_, _, _, _, _]) dL_contest_201 (Nat.le_of_ble_eq_true rfl) rfl rfl ?_
  have mid : MW G mL_contest 20 214 [some (vR b), some (vR x), some (vI (nI k)), some (vI c), o4] [vR (Z.k (9 + k)), vR x] (mw S I J R) Q := by
    refine am_call1 (q := 217) (As := [_, _]) hG dL_contest_214 mlL_43 rfl (Nat.le_of_ble_eq_true rfl) (Nat.le_of_ble_eq_true rfl) (Nat.le_of_ble_eq_true rfl) (kl_say (i := 9 + k) hG hZ (by omega) hX (by omega)) rfl ?_
    rintro _ _ ⟨rfl, I1, J1, R1, rfl, h1⟩
    refine am_aload_n (q := 218) dL_contest_217 rfl rfl ?_
    refine am_iconst (q := 219) (v := 1) dL_contest_218 kc_i1 rfl ?_
    refine am_iload_n (q := 220) dL_contest_219 rfl rfl ?_
    refine am_bipush (q := 222) (v := 60) dL_contest_220 kc_b60 rfl ?_
    refine am_call1 (q := 225) (As := [_, _]) hG dL_contest_222 mlL_56 rfl (Nat.le_of_ble_eq_true rfl) (Nat.le_of_ble_eq_true rfl) (Nat.le_of_ble_eq_true rfl) (kl_below (N := 60) rfl (by decide) (by decide)) rfl ?_
    rintro _ _ ⟨n1, hn1, rfl, rfl⟩
    have l1 := ap_len hl (str_16 (9 + k) (by omega))
    refine am_iadd (q := 226) dL_contest_225 rfl ?_
    refine am_call1 (q := 229) (As := [_, _]) hG dL_contest_226 mlL_60 rfl (Nat.le_of_ble_eq_true rfl) (Nat.le_of_ble_eq_true rfl) (Nat.le_of_ble_eq_true rfl) (kl_number (n := 1 + n1) hG hZ (nI_add 1 n1) (by omega) h1 (by omega)) rfl ?_
    rintro _ _ ⟨rfl, I2, J2, R2, rfl, h2⟩
    refine am_aload_n (q := 230) dL_contest_229 rfl rfl ?_
    refine am_ldcS (q := 232) dL_contest_230 rfl (hZ.li (i := 11) (by decide)) rfl ?_
    have l2 := ap_len l1 (dgt_len (1 + n1))
    refine am_call1 (q := 235) (As := [_, _]) hG dL_contest_232 mlL_43 rfl (Nat.le_of_ble_eq_true rfl) (Nat.le_of_ble_eq_true rfl) (Nat.le_of_ble_eq_true rfl) (kl_say (i := 11) hG hZ (by decide) h2 (by omega)) rfl ?_
    rintro _ _ ⟨rfl, I3, J3, R3, rfl, h3⟩
    refine am_aload_n (q := 236) dL_contest_235 rfl rfl ?_
    refine am_iload_n (q := 237) dL_contest_236 rfl rfl ?_
    refine am_bipush (q := 239) (v := 6) dL_contest_237 kc_b6 rfl ?_
    refine am_ishr (q := 240) dL_contest_239 rfl ?_
    refine am_bipush (q := 242) (v := 21) dL_contest_240 kc_b21 rfl ?_
    refine am_call1 (q := 245) (As := [_, _]) hG dL_contest_242 mlL_56 rfl (Nat.le_of_ble_eq_true rfl) (Nat.le_of_ble_eq_true rfl) (Nat.le_of_ble_eq_true rfl) (kl_below (N := 21) rfl (by decide) (by decide)) rfl ?_
    rintro _ _ ⟨n2, hn2, rfl, rfl⟩
    have l3 := ap_len l2 (str_16 11 (by decide))
    refine am_call1 (q := 248) (As := [_, _]) hG dL_contest_245 mlL_60 rfl (Nat.le_of_ble_eq_true rfl) (Nat.le_of_ble_eq_true rfl) (Nat.le_of_ble_eq_true rfl) (kl_number (n := n2) hG hZ rfl (by omega) h3 (by omega)) rfl ?_
    rintro _ _ ⟨rfl, I4, J4, R4, rfl, h4⟩
    refine am_aload_n (q := 249) dL_contest_248 rfl rfl ?_
    refine am_ldcS (q := 251) dL_contest_249 rfl (hZ.li (i := 12) (by decide)) rfl ?_
    have l4 := ap_len l3 (dgt_len n2)
    refine am_call1 (q := 254) (As := [_, _]) hG dL_contest_251 mlL_43 rfl (Nat.le_of_ble_eq_true rfl) (Nat.le_of_ble_eq_true rfl) (Nat.le_of_ble_eq_true rfl) (kl_say (i := 12) hG hZ (by decide) h4 (by omega)) rfl ?_
    rintro _ _ ⟨rfl, I5, J5, R5, rfl, h5⟩
    refine am_aload_n (q := 255) dL_contest_254 rfl rfl ?_
    refine am_iload_n (q := 256) dL_contest_255 rfl rfl ?_
    refine am_bipush (q := 258) (v := 9) dL_contest_256 kc_b9 rfl ?_
    refine am_ishr (q := 259) dL_contest_258 rfl ?_
    refine am_bipush (q := 261) (v := 10) dL_contest_259 kc_b10 rfl ?_
    refine am_call1 (q := 264) (As := [_, _]) hG dL_contest_261 mlL_56 rfl (Nat.le_of_ble_eq_true rfl) (Nat.le_of_ble_eq_true rfl) (Nat.le_of_ble_eq_true rfl) (kl_below (N := 10) rfl (by decide) (by decide)) rfl ?_
    rintro _ _ ⟨n3, hn3, rfl, rfl⟩
    have l5 := ap_len l4 (str_16 12 (by decide))
    refine am_call1 (q := 267) (As := [_, _]) hG dL_contest_264 mlL_60 rfl (Nat.le_of_ble_eq_true rfl) (Nat.le_of_ble_eq_true rfl) (Nat.le_of_ble_eq_true rfl) (kl_number (n := n3) hG hZ rfl (by omega) h5 (by omega)) rfl ?_
    rintro _ _ ⟨rfl, I6, J6, R6, rfl, h6⟩
    refine am_iincW (q := 270) (ls1 := [_, _, _, _, _]) (w := 1) dL_contest_267 rfl (Nat.le_of_ble_eq_true rfl) kc_i1 rfl rfl ?_
    refine am_goto (tgt := 189) dL_contest_270 rfl ?_
    rw [nI_1]
    refine K (1 + n1, n2, n3) I6 J6 R6 _ ⟨by show 1 ≤ 1 + n1; omega, by show 1 + n1 ≤ 60; omega, by show n2 ≤ 20; omega, by show n3 ≤ 9; omega⟩ ?_
    simp only [List.append_assoc] at h6
    exact h6
  rcases (show k = 0 ∨ k = 1 by omega) with e | e
  · subst e
    refine am_aload_n (q := 203) dL_contest_202 rfl rfl ?_
    refine am_iload_n (q := 204) dL_contest_203 rfl rfl ?_
    refine am_if_ne (tgt := 212) (q := 207) dL_contest_204 rfl rfl (fun hz => absurd nI_0 hz) (fun _ => ?_)
    refine am_ldcS (q := 209) dL_contest_207 rfl (hZ.li (i := 9) (by decide)) rfl ?_
    refine am_goto (tgt := 214) dL_contest_209 rfl ?_
    exact mid
  · subst e
    refine am_aload_n (q := 203) dL_contest_202 rfl rfl ?_
    refine am_iload_n (q := 204) dL_contest_203 rfl rfl ?_
    refine am_if_ne (tgt := 212) (q := 207) dL_contest_204 rfl rfl (fun _ => ?_) (fun hz => absurd hz (by decide))
    refine am_ldcS (q := 214) dL_contest_212 rfl (hZ.li (i := 10) (by decide)) rfl ?_
    exact mid
def billT (r0 r1 : H3) (u0 u1 u2 : H4) (f0 f1 : H3) : List Int32 := railT 0 r0 ++ (railT 1 r1 ++ (rustT u0 ++ (rustT u1 ++ (rustT u2 ++ (fistT 0 f0 ++ (fistT 1 f1 ++ strN 13))))))
theorem kl_contest (hG : okG G) (hZ : KS G Z) (hsc : Sc G b L xs) (hL : L < 2 ^ 31) (hF : Fr S I J R) : Fn G mL_contest 20 [vR b] (mw S I J R) (fun rr M1 => rr = some (vR S.hs) ∧ ∃ (P : AMem) (I1 : Nat → Nat → Int32) (J1 : Nat → Nat → Int64) (R1 : Nat → Nat → Option Nat) (r0 r1 : H3) (u0 u1 u2 : H4) (f0 f1 : H3), M1 = mw P I1 J1 R1 ∧ P.hs = S.hs + 125 ∧ P.sl ≤ S.sl + 100006 ∧ (okR r0 ∧ okR r1) ∧ (okU u0 ∧ okU u1 ∧ okU u2) ∧ (okF f0 ∧ okF f1) ∧ (billT r0 r1 u0 u1 u2 f0 f1).length ≤ 415 ∧ XT P S.hs (billT r0 r1 u0 u1 u2 f0 f1) I1 J1 R1) := by
  refine cm_mkO (q := 3) hF dL_contest_0 cnL_26 rfl ?_
  have i1 := k_X11_init (S := S.nw 12 6) (x := S.hs) hG hZ hF.nw nw_Kn (by rw [nw_hs])
  have zP : (gS (S.nw 12 6) ks11).hs = S.hs + 125 := by rw [gS_hs, nw_hs, ks11_len]
  have zS : (gS (S.nw 12 6) ks11).sl ≤ S.sl + 100006 := by
    rw [gS_sl, nw_sl]
    have := ks11_sl
    omega
  generalize gS (S.nw 12 6) ks11 = P at i1 zP zS
  refine am_dup (q := 4) dL_contest_3 rfl rfl ?_
  refine am_call2 (q := 7) (As := []) hG dL_contest_4 mlL_47 rfl (Nat.le_of_ble_eq_true rfl) (Nat.le_of_ble_eq_true rfl) (Nat.le_of_ble_eq_true rfl) i1 rfl ?_
  rintro _ _ ⟨rfl, J1, R1, rfl, xc, ⟨hj1, hj2⟩, hr⟩
  have hX : XT P S.hs [] (up2 I S.hs 5 (-1)) J1 R1 := ⟨(0, fun _ => 0), ⟨rfl, fun j hj => absurd hj (Nat.not_lt_zero j)⟩, st_X xc (fun a j u v => by
    rw [up2_a (by omega)]
    exact (hF a (by omega) j).1) up2_s hj1⟩
  clear hj1 hj2 hr xc
  generalize up2 I S.hs 5 (-1) = I1 at hX ⊢
  have l0 : ([] : List Int32).length ≤ 0 := Nat.le_refl _
  refine am_astore_n (q := 8) (ls1 := [_, _, _, _, _]) dL_contest_7 (Nat.le_of_ble_eq_true rfl) rfl rfl ?_
  refine am_iconst (q := 9) (v := 0) dL_contest_8 kc_i0 rfl ?_
  refine am_istore_n (q := 10) (ls1 := [_, _, _, _, _]) dL_contest_9 (Nat.le_of_ble_eq_true rfl) rfl rfl ?_
  refine kl_rail (k := 0) hG hZ hsc hL (by decide) hX (by omega) (fun r0 I2 J2 R2 o2 q0 h2 => ?_)
  have l1 := ap_len l0 (railT_len (k := 0) (h := r0) (by decide))
  refine kl_rail (k := 1) hG hZ hsc hL (by decide) h2 (by omega) (fun r1 I3 J3 R3 o3 q1 h3 => ?_)
  have l2 := ap_len l1 (railT_len (k := 1) (h := r1) (by decide))
  refine am_iload_n (q := 11) dL_contest_10 rfl rfl ?_
  refine am_iconst (q := 12) (v := 2) dL_contest_11 kc_i2 rfl ?_
  refine am_icmp_ge (tgt := 95) (q := 15) dL_contest_12 rfl rfl (fun _ => ?_) (fun hz => absurd (Int32.le_refl _) hz)
  refine am_iconst (q := 96) (v := 0) dL_contest_95 kc_i0 rfl ?_
  refine am_istore_n (q := 97) (ls1 := [_, _, _, _, _]) dL_contest_96 (Nat.le_of_ble_eq_true rfl) rfl rfl ?_
  refine kl_rust (k := 0) hG hZ hsc hL (by decide) h3 (by omega) (fun u0 I4 J4 R4 o4 p4 q2 h4 => ?_)
  have l3 := ap_len l2 (rustT_len (h := u0) (by have := q2.1; omega))
  refine kl_rust (k := 1) hG hZ hsc hL (by decide) h4 (by omega) (fun u1 I5 J5 R5 o5 p5 q3 h5 => ?_)
  have l4 := ap_len l3 (rustT_len (h := u1) (by have := q3.1; omega))
  refine kl_rust (k := 2) hG hZ hsc hL (by decide) h5 (by omega) (fun u2 I6 J6 R6 o6 p6 q4 h6 => ?_)
  have l5 := ap_len l4 (rustT_len (h := u2) (by have := q4.1; omega))
  refine am_iload_n (q := 98) dL_contest_97 rfl rfl ?_
  refine am_iconst (q := 99) (v := 3) dL_contest_98 kc_i3 rfl ?_
  refine am_icmp_ge (tgt := 187) (q := 102) dL_contest_99 rfl rfl (fun _ => ?_) (fun hz => absurd (Int32.le_refl _) hz)
  refine am_iconst (q := 188) (v := 0) dL_contest_187 kc_i0 rfl ?_
  refine am_istore_n (q := 189) (ls1 := [_, _, _, _, _]) dL_contest_188 (Nat.le_of_ble_eq_true rfl) rfl rfl ?_
  refine kl_fist (k := 0) hG hZ hsc hL (by decide) h6 (by omega) (fun f0 I7 J7 R7 o7 q5 h7 => ?_)
  have l6 := ap_len l5 (fistT_len (k := 0) (h := f0) (by decide))
  refine kl_fist (k := 1) hG hZ hsc hL (by decide) h7 (by omega) (fun f1 I8 J8 R8 o8 q6 h8 => ?_)
  have l7 := ap_len l6 (fistT_len (k := 1) (h := f1) (by decide))
  refine am_iload_n (q := 190) dL_contest_189 rfl rfl ?_
  refine am_iconst (q := 191) (v := 2) dL_contest_190 kc_i2 rfl ?_
  refine am_icmp_ge (tgt := 273) (q := 194) dL_contest_191 rfl rfl (fun _ => ?_) (fun hz => absurd (Int32.le_refl _) hz)
  refine am_aload_n (q := 274) dL_contest_273 rfl rfl ?_
  refine am_ldcS (q := 276) dL_contest_274 rfl (hZ.li (i := 13) (by decide)) rfl ?_
  have l8 := ap_len l7 (str_16 13 (by decide))
  refine am_call1 (q := 279) (As := [_, _]) hG dL_contest_276 mlL_43 rfl (Nat.le_of_ble_eq_true rfl) (Nat.le_of_ble_eq_true rfl) (Nat.le_of_ble_eq_true rfl) (kl_say (i := 13) hG hZ (by decide) h8 (by omega)) rfl ?_
  rintro _ _ ⟨rfl, I9, J9, R9, rfl, h9⟩
  simp only [List.append_assoc, List.nil_append] at h9 l8
  refine am_aload_n (q := 280) dL_contest_279 rfl rfl ?_
  exact am_aret dL_contest_280 rfl (Or.inl ⟨_, rfl⟩) ⟨_, rfl, rfl, P, I9, J9, R9, r0, r1, u0, u1, u2, f0, f1, rfl, zP, zS, ⟨q0, q1⟩, ⟨q2, q3, q4⟩, ⟨q5, q6⟩, l8, h9⟩
end Co

