theorem kc_b19 : (Int8.ofInt 19).toInt32 = 19 := by decide +kernel
theorem kc_b21 : (Int8.ofInt 21).toInt32 = 21 := by decide +kernel
theorem kc_b22 : (Int8.ofInt 22).toInt32 = 22 := by decide +kernel
theorem kc_b23 : (Int8.ofInt 23).toInt32 = 23 := by decide +kernel
theorem kc_b25 : (Int8.ofInt 25).toInt32 = 25 := by decide +kernel
theorem kc_b31 : (Int8.ofInt 31).toInt32 = 31 := by decide +kernel
theorem kc_b110 : (Int8.ofInt 110).toInt32 = 110 := by decide +kernel
theorem dX14_one_9 : decode cX14_one 9 = .ok (.aload_n 0, 1) := by decide +kernel
theorem dX14_one_10 : decode cX14_one 10 = .ok (.getfield 17, 3) := by decide +kernel
theorem dX14_one_13 : decode cX14_one 13 = .ok (.aload_n 0, 1) := by decide +kernel
theorem dX14_one_14 : decode cX14_one 14 = .ok (.getfield 116, 3) := by decide +kernel
theorem dX14_one_17 : decode cX14_one 17 = .ok (.iaload, 1) := by decide +kernel
theorem dX14_one_18 : decode cX14_one 18 = .ok (.iconst 3, 1) := by decide +kernel
theorem dX14_one_19 : decode cX14_one 19 = .ok (.if_icmp .ne 21, 3) := by decide +kernel
theorem dX14_one_22 : decode cX14_one 22 = .ok (.aload_n 0, 1) := by decide +kernel
theorem dX14_one_23 : decode cX14_one 23 = .ok (.getfield 36, 3) := by decide +kernel
theorem dX14_one_26 : decode cX14_one 26 = .ok (.bipush 40, 2) := by decide +kernel
theorem dX14_one_28 : decode cX14_one 28 = .ok (.aload_n 0, 1) := by decide +kernel
theorem dX14_one_29 : decode cX14_one 29 = .ok (.iconst 0, 1) := by decide +kernel
theorem dX14_one_30 : decode cX14_one 30 = .ok (.ldc 169, 2) := by decide +kernel
theorem dX14_one_32 : decode cX14_one 32 = .ok (.invokevirtual 155, 3) := by decide +kernel
theorem dX14_one_35 : decode cX14_one 35 = .ok (.iconst 0, 1) := by decide +kernel
theorem dX14_one_36 : decode cX14_one 36 = .ok (.invokevirtual 162, 3) := by decide +kernel
theorem dX14_one_39 : decode cX14_one 39 = .ok (.ireturn, 1) := by decide +kernel
theorem dX14_one_40 : decode cX14_one 40 = .ok (.aload_n 0, 1) := by decide +kernel
theorem dX14_one_41 : decode cX14_one 41 = .ok (.iconst 2, 1) := by decide +kernel
theorem dX14_one_42 : decode cX14_one 42 = .ok (.bipush 19, 2) := by decide +kernel
theorem dX14_one_44 : decode cX14_one 44 = .ok (.invokevirtual 123, 3) := by decide +kernel
theorem dX14_one_47 : decode cX14_one 47 = .ok (.ifCond .ne 23, 3) := by decide +kernel
theorem dX14_one_50 : decode cX14_one 50 = .ok (.aload_n 0, 1) := by decide +kernel
theorem dX14_one_51 : decode cX14_one 51 = .ok (.iconst 2, 1) := by decide +kernel
theorem dX14_one_52 : decode cX14_one 52 = .ok (.bipush 20, 2) := by decide +kernel
theorem dX14_one_54 : decode cX14_one 54 = .ok (.invokevirtual 123, 3) := by decide +kernel
theorem dX14_one_57 : decode cX14_one 57 = .ok (.ifCond .ne 13, 3) := by decide +kernel
theorem dX14_one_60 : decode cX14_one 60 = .ok (.aload_n 0, 1) := by decide +kernel
theorem dX14_one_61 : decode cX14_one 61 = .ok (.iconst 2, 1) := by decide +kernel
theorem dX14_one_62 : decode cX14_one 62 = .ok (.bipush 21, 2) := by decide +kernel
theorem dX14_one_64 : decode cX14_one 64 = .ok (.invokevirtual 123, 3) := by decide +kernel
theorem dX14_one_67 : decode cX14_one 67 = .ok (.ifCond .eq 34, 3) := by decide +kernel
theorem dX14_one_70 : decode cX14_one 70 = .ok (.aload_n 0, 1) := by decide +kernel
theorem dX14_one_71 : decode cX14_one 71 = .ok (.dup, 1) := by decide +kernel
theorem dX14_one_72 : decode cX14_one 72 = .ok (.getfield 116, 3) := by decide +kernel
theorem dX14_one_75 : decode cX14_one 75 = .ok (.iconst 1, 1) := by decide +kernel
theorem dX14_one_76 : decode cX14_one 76 = .ok (.iadd, 1) := by decide +kernel
theorem dX14_one_77 : decode cX14_one 77 = .ok (.putfield 116, 3) := by decide +kernel
theorem dX14_one_80 : decode cX14_one 80 = .ok (.aload_n 0, 1) := by decide +kernel
theorem dX14_one_81 : decode cX14_one 81 = .ok (.getfield 36, 3) := by decide +kernel
theorem dX14_one_84 : decode cX14_one 84 = .ok (.aload_n 0, 1) := by decide +kernel
theorem dX14_one_85 : decode cX14_one 85 = .ok (.getfield 20, 3) := by decide +kernel
theorem dX14_one_88 : decode cX14_one 88 = .ok (.aload_n 0, 1) := by decide +kernel
theorem dX14_one_89 : decode cX14_one 89 = .ok (.getfield 116, 3) := by decide +kernel
theorem dX14_one_92 : decode cX14_one 92 = .ok (.iconst 1, 1) := by decide +kernel
theorem dX14_one_93 : decode cX14_one 93 = .ok (.isub, 1) := by decide +kernel
theorem dX14_one_94 : decode cX14_one 94 = .ok (.iaload, 1) := by decide +kernel
theorem dX14_one_95 : decode cX14_one 95 = .ok (.iconst 0, 1) := by decide +kernel
theorem dX14_one_96 : decode cX14_one 96 = .ok (.iconst 0, 1) := by decide +kernel
theorem dX14_one_97 : decode cX14_one 97 = .ok (.invokevirtual 162, 3) := by decide +kernel
theorem dX14_one_100 : decode cX14_one 100 = .ok (.ireturn, 1) := by decide +kernel
theorem dX14_one_101 : decode cX14_one 101 = .ok (.aload_n 0, 1) := by decide +kernel
theorem dX14_one_102 : decode cX14_one 102 = .ok (.iconst 2, 1) := by decide +kernel
theorem dX14_one_103 : decode cX14_one 103 = .ok (.bipush 22, 2) := by decide +kernel
theorem dX14_one_105 : decode cX14_one 105 = .ok (.invokevirtual 123, 3) := by decide +kernel
theorem dX14_one_108 : decode cX14_one 108 = .ok (.ifCond .ne 13, 3) := by decide +kernel
theorem dX14_one_111 : decode cX14_one 111 = .ok (.aload_n 0, 1) := by decide +kernel
theorem dX14_one_112 : decode cX14_one 112 = .ok (.iconst 2, 1) := by decide +kernel
theorem dX14_one_113 : decode cX14_one 113 = .ok (.bipush 23, 2) := by decide +kernel
theorem dX14_one_115 : decode cX14_one 115 = .ok (.invokevirtual 123, 3) := by decide +kernel
theorem dX14_one_118 : decode cX14_one 118 = .ok (.ifCond .eq 19, 3) := by decide +kernel
theorem dX14_one_121 : decode cX14_one 121 = .ok (.aload_n 0, 1) := by decide +kernel
theorem dX14_one_122 : decode cX14_one 122 = .ok (.aload_n 0, 1) := by decide +kernel
theorem dX14_one_123 : decode cX14_one 123 = .ok (.getfield 42, 3) := by decide +kernel
theorem dX14_one_126 : decode cX14_one 126 = .ok (.aload_n 0, 1) := by decide +kernel
theorem dX14_one_127 : decode cX14_one 127 = .ok (.getfield 36, 3) := by decide +kernel
theorem dX14_one_130 : decode cX14_one 130 = .ok (.getfield 170, 3) := by decide +kernel
theorem dX14_one_133 : decode cX14_one 133 = .ok (.invokevirtual 173, 3) := by decide +kernel
theorem dX14_one_136 : decode cX14_one 136 = .ok (.ireturn, 1) := by decide +kernel
theorem dX14_one_137 : decode cX14_one 137 = .ok (.aload_n 0, 1) := by decide +kernel
theorem dX14_one_138 : decode cX14_one 138 = .ok (.iconst 2, 1) := by decide +kernel
theorem dX14_one_139 : decode cX14_one 139 = .ok (.bipush 24, 2) := by decide +kernel
theorem dX14_one_141 : decode cX14_one 141 = .ok (.invokevirtual 123, 3) := by decide +kernel
theorem dX14_one_144 : decode cX14_one 144 = .ok (.ifCond .eq 19, 3) := by decide +kernel
theorem dX14_one_147 : decode cX14_one 147 = .ok (.aload_n 0, 1) := by decide +kernel
theorem dX14_one_148 : decode cX14_one 148 = .ok (.aload_n 0, 1) := by decide +kernel
theorem dX14_one_149 : decode cX14_one 149 = .ok (.getfield 39, 3) := by decide +kernel
theorem dX14_one_152 : decode cX14_one 152 = .ok (.aload_n 0, 1) := by decide +kernel
theorem dX14_one_153 : decode cX14_one 153 = .ok (.getfield 36, 3) := by decide +kernel
theorem dX14_one_156 : decode cX14_one 156 = .ok (.getfield 177, 3) := by decide +kernel
theorem dX14_one_159 : decode cX14_one 159 = .ok (.invokevirtual 173, 3) := by decide +kernel
theorem dX14_one_162 : decode cX14_one 162 = .ok (.ireturn, 1) := by decide +kernel
theorem dX14_one_163 : decode cX14_one 163 = .ok (.aload_n 0, 1) := by decide +kernel
theorem dX14_one_164 : decode cX14_one 164 = .ok (.iconst 2, 1) := by decide +kernel
theorem dX14_one_165 : decode cX14_one 165 = .ok (.bipush 25, 2) := by decide +kernel
theorem dX14_one_167 : decode cX14_one 167 = .ok (.invokevirtual 123, 3) := by decide +kernel
theorem dX14_one_170 : decode cX14_one 170 = .ok (.ifCond .eq 19, 3) := by decide +kernel
theorem dX14_one_173 : decode cX14_one 173 = .ok (.aload_n 0, 1) := by decide +kernel
theorem dX14_one_174 : decode cX14_one 174 = .ok (.aload_n 0, 1) := by decide +kernel
theorem dX14_one_175 : decode cX14_one 175 = .ok (.getfield 45, 3) := by decide +kernel
theorem dX14_one_178 : decode cX14_one 178 = .ok (.aload_n 0, 1) := by decide +kernel
theorem dX14_one_179 : decode cX14_one 179 = .ok (.getfield 36, 3) := by decide +kernel
theorem dX14_one_182 : decode cX14_one 182 = .ok (.getfield 180, 3) := by decide +kernel
theorem dX14_one_185 : decode cX14_one 185 = .ok (.invokevirtual 173, 3) := by decide +kernel
theorem dX14_one_188 : decode cX14_one 188 = .ok (.ireturn, 1) := by decide +kernel
theorem dX14_one_189 : decode cX14_one 189 = .ok (.aload_n 0, 1) := by decide +kernel
theorem dX14_one_190 : decode cX14_one 190 = .ok (.iconst 4, 1) := by decide +kernel
theorem dX14_one_191 : decode cX14_one 191 = .ok (.bipush 45, 2) := by decide +kernel
theorem dX14_one_193 : decode cX14_one 193 = .ok (.invokevirtual 123, 3) := by decide +kernel
theorem dX14_one_196 : decode cX14_one 196 = .ok (.ifCond .eq 44, 3) := by decide +kernel
theorem dX14_one_199 : decode cX14_one 199 = .ok (.aload_n 0, 1) := by decide +kernel
theorem dX14_one_200 : decode cX14_one 200 = .ok (.invokevirtual 183, 3) := by decide +kernel
theorem dX14_one_203 : decode cX14_one 203 = .ok (.aload_n 0, 1) := by decide +kernel
theorem dX14_one_204 : decode cX14_one 204 = .ok (.dup, 1) := by decide +kernel
theorem dX14_one_205 : decode cX14_one 205 = .ok (.getfield 116, 3) := by decide +kernel
theorem dX14_one_208 : decode cX14_one 208 = .ok (.iconst 1, 1) := by decide +kernel
theorem dX14_one_209 : decode cX14_one 209 = .ok (.iadd, 1) := by decide +kernel
theorem dX14_one_210 : decode cX14_one 210 = .ok (.putfield 116, 3) := by decide +kernel
theorem dX14_one_213 : decode cX14_one 213 = .ok (.aload_n 0, 1) := by decide +kernel
theorem dX14_one_214 : decode cX14_one 214 = .ok (.getfield 36, 3) := by decide +kernel
theorem dX14_one_217 : decode cX14_one 217 = .ok (.bipush 110, 2) := by decide +kernel
theorem dX14_one_219 : decode cX14_one 219 = .ok (.aload_n 0, 1) := by decide +kernel
theorem dX14_one_220 : decode cX14_one 220 = .ok (.invokevirtual 166, 3) := by decide +kernel
theorem dX14_one_223 : decode cX14_one 223 = .ok (.iconst 0, 1) := by decide +kernel
theorem dX14_one_224 : decode cX14_one 224 = .ok (.invokevirtual 162, 3) := by decide +kernel
theorem dX14_one_227 : decode cX14_one 227 = .ok (.istore_n 1, 1) := by decide +kernel
theorem dX14_one_228 : decode cX14_one 228 = .ok (.aload_n 0, 1) := by decide +kernel
theorem dX14_one_229 : decode cX14_one 229 = .ok (.dup, 1) := by decide +kernel
theorem dX14_one_230 : decode cX14_one 230 = .ok (.getfield 136, 3) := by decide +kernel
theorem dX14_one_233 : decode cX14_one 233 = .ok (.iconst 1, 1) := by decide +kernel
theorem dX14_one_234 : decode cX14_one 234 = .ok (.isub, 1) := by decide +kernel
theorem dX14_one_235 : decode cX14_one 235 = .ok (.putfield 136, 3) := by decide +kernel
theorem dX14_one_238 : decode cX14_one 238 = .ok (.iload_n 1, 1) := by decide +kernel
theorem dX14_one_239 : decode cX14_one 239 = .ok (.ireturn, 1) := by decide +kernel
theorem dX14_one_240 : decode cX14_one 240 = .ok (.aload_n 0, 1) := by decide +kernel
theorem dX14_one_241 : decode cX14_one 241 = .ok (.iconst 4, 1) := by decide +kernel
theorem dX14_one_242 : decode cX14_one 242 = .ok (.bipush 40, 2) := by decide +kernel
theorem dX14_one_244 : decode cX14_one 244 = .ok (.invokevirtual 123, 3) := by decide +kernel
theorem dX14_one_247 : decode cX14_one 247 = .ok (.ifCond .eq 8, 3) := by decide +kernel
theorem dX14_one_250 : decode cX14_one 250 = .ok (.aload_n 0, 1) := by decide +kernel
theorem dX14_one_251 : decode cX14_one 251 = .ok (.invokevirtual 186, 3) := by decide +kernel
theorem dX14_one_254 : decode cX14_one 254 = .ok (.ireturn, 1) := by decide +kernel
theorem dX14_one_255 : decode cX14_one 255 = .ok (.aload_n 0, 1) := by decide +kernel
theorem dX14_one_256 : decode cX14_one 256 = .ok (.iconst 2, 1) := by decide +kernel
theorem dX14_one_257 : decode cX14_one 257 = .ok (.bipush 30, 2) := by decide +kernel
theorem dX14_one_259 : decode cX14_one 259 = .ok (.invokevirtual 123, 3) := by decide +kernel
theorem dX14_one_262 : decode cX14_one 262 = .ok (.ifCond .ne 13, 3) := by decide +kernel
theorem dX14_one_265 : decode cX14_one 265 = .ok (.aload_n 0, 1) := by decide +kernel
theorem dX14_one_266 : decode cX14_one 266 = .ok (.iconst 2, 1) := by decide +kernel
theorem dX14_one_267 : decode cX14_one 267 = .ok (.bipush 31, 2) := by decide +kernel
theorem dX14_one_269 : decode cX14_one 269 = .ok (.invokevirtual 123, 3) := by decide +kernel
theorem dX14_one_272 : decode cX14_one 272 = .ok (.ifCond .eq 17, 3) := by decide +kernel
theorem dX14_one_275 : decode cX14_one 275 = .ok (.aload_n 0, 1) := by decide +kernel
theorem dX14_one_276 : decode cX14_one 276 = .ok (.aload_n 0, 1) := by decide +kernel
theorem dX14_one_277 : decode cX14_one 277 = .ok (.getfield 20, 3) := by decide +kernel
theorem dX14_one_280 : decode cX14_one 280 = .ok (.aload_n 0, 1) := by decide +kernel
theorem dX14_one_281 : decode cX14_one 281 = .ok (.getfield 116, 3) := by decide +kernel
theorem dX14_one_284 : decode cX14_one 284 = .ok (.iaload, 1) := by decide +kernel
theorem dX14_one_285 : decode cX14_one 285 = .ok (.invokevirtual 189, 3) := by decide +kernel
theorem dX14_one_288 : decode cX14_one 288 = .ok (.ireturn, 1) := by decide +kernel
theorem dX14_one_289 : decode cX14_one 289 = .ok (.aload_n 0, 1) := by decide +kernel
theorem dX14_one_290 : decode cX14_one 290 = .ok (.invokevirtual 127, 3) := by decide +kernel
theorem dX14_one_293 : decode cX14_one 293 = .ok (.iconst 0, 1) := by decide +kernel
theorem dX14_one_294 : decode cX14_one 294 = .ok (.ireturn, 1) := by decide +kernel
/-! the reference: one value -/
section On
variable {G : Gp} {S : AMem} {J : Nat → Nat → Int64} {R : Nat → Nat → Option Nat} {y bl nx : Nat} {T : Toks} {ix : Int32 → Int64 → Int32} {N : Nat × Nat × Nat} {d dv : Nat} {V : PS × Cd → PS × Cd}
theorem stE_neg {rd : Int32 → Int32 → Int32} {g p : Int32} {st : List Int32} : stE rd 262 g (p :: st) = (-p) :: st := by
  unfold stE
  rw [if_neg (by decide), if_pos rfl]
  rfl
theorem stE_val {rd : Int32 → Int32 → Int32} {g : Int32} {st : List Int32} : stE rd 259 g st = g :: st := by
  unfold stE
  rw [if_pos rfl]
theorem k_X14_one (hG : okG G) (hC : MCc S R y bl nx) (hdv : 2 ≤ dv) (hd : d < 9) (v0 : KE0 V) (hV : d < 8 → KM G S J R y nx T ix N NdN mX14_one dv (d + 1) V) : KM G S J R y nx T ix N NdN mX14_one (dv + 4) d (eValF T ix V d) := by
  intro I s a k h ha
  show Fn G mX14_one (dv + 4) [vR y] (mw S I J R) (fun rr M1 => QM S J R y nx T ix N NdN d I a k s (eValF T ix V d s) rr M1)
  have ky := hC.1.1
  have kb := hC.2.2.2.2.2.2.2.2.1.1
  have rn := hC.2.2.2.2.2.2.1
  obtain ⟨q4, q5, _, _, ⟨k2, l2⟩, ⟨k3, l3⟩, _, _, q10, q11, q12, ⟨k24, l24⟩, ⟨k25, l25⟩, k26, l26⟩ := id hC.2.2.2.2.2.2.2.2.2
  have h13 := h.2.1.1
  have hka := h.2.1.2.2.2.1
  have hT := h.1.2.1
  refine am_aload_n (q := 1) dX14_one_0 rfl rfl ?_
  refine cm_call0 (q := 4) (As := []) hG dX14_one_1 mlX14_119 rfl (by assumption) ⟨_, _, rfl⟩ (Nat.le_of_ble_eq_true rfl) (Nat.le_of_ble_eq_true rfl) (by omega) (Nat.le_of_ble_eq_true rfl) (k_X14_isOk hC h) rfl ?_
  rintro _ _ ⟨rfl, rfl⟩
  by_cases hg : s.1.2.1 = 1
  · rw [bI_f (fun q => q hg)]
    have g1 : PC I y nx T ix N (eValF T ix V d s) d a k := h.fl hg (eValF_f1 s hg)
    have nz : (eValF T ix V d s).1.2.1 = 0 → ∀ P : Prop, P := fun z => absurd ((eValF_f1.er hg).symm.trans z) (by decide)
    clear hg
    generalize eValF T ix V d s = s2 at g1 nz ⊢
    refine am_if_ne (tgt := 9) (q := 7) dX14_one_4 rfl rfl (fun hz => absurd rfl hz) (fun _ => ?_)
    refine am_iconst (q := 8) (v := 0) dX14_one_7 kc_i0 rfl ?_
    exact am_iret dX14_one_8 rfl rfl ⟨_, rfl, 0, I, a, k, rfl, rfl, g1, ⟨by omega, by omega, by omega⟩, OffM.rf, fun z => nz z _⟩
  have hgz : s.1.2.1 ≠ 1 ∧ True := ⟨hg, trivial⟩
  obtain ⟨e1, e2, e3⟩ := h.kind hg
  obtain ⟨i2, i3, sr, ca⟩ := h.sort hC e2
  obtain ⟨b1, b2, b3, mr, mf, mp, ⟨⟨nm1, nm2⟩, ⟨nm3, nm4⟩, ⟨nm5, nm6⟩, nm7, nm8, nm9⟩, nmA⟩ : ∃ b1 b2 b3 mr mf mp, NmM I y nx T b1 b2 b3 mr mf mp ∧ (s.1.2.1 = 0 → NmA ix N b1 b2 b3 mr mf mp) := by
    obtain ⟨_, _, z | z⟩ := h
    · exact absurd z.1 hg
    · exact z.2.2.2.2.2.2.2
  rw [bI_t hg]
  clear hg
  have I2h : ∀ x j, up2 I y 13 (nI (a + 1)) x j = if x = y ∧ j = 13 then nI (a + 1) else I x j := fun x j => up2_at _ _
  have leaf : ∀ j, (j = 19 ∨ j = 20 ∨ j = 21) → pK T s.1 = nI (300 + j) → MW G mX14_one (dv + 4) 70 [some (vR y), none] [] (mw S I J R) (fun f M1 => ∃ rr, f = .inl rr ∧ QM S J R y nx T ix N NdN d I a k s (eValF T ix V d s) rr M1) := by
    intro j hj hk
    have ev : eValF T ix V d s = eAd (nI (300 + j)) (pV T s.1).toInt32 (eEx T (nI (300 + j)) s) := by
      unfold eValF
      rw [hk]
      rcases hj with r | r | r <;> subst r <;> rw [if_neg (by decide), if_neg (by decide), if_pos (by decide)] <;> rfl
    rw [ev]
    have k7 : nI (300 + j) ≠ 257 := k_ne (b := 257) (by omega) (by decide) (by omega)
    have k6 : nI (300 + j) ≠ 256 := k_ne (b := 256) (by omega) (by decide) (by omega)
    have hva : I (y + 3) a = nI j := ((srt_key (j0 := j) sr (by omega)).mpr (e1.symm.trans hk)).2
    obtain ⟨d1, d2⟩ := h.eat hC hgz.1 hk k6 k7 I2h
    have hz : (eEx T (nI (300 + j)) s).2 = s.2 ∧ True := ⟨rfl, trivial⟩
    clear hk k6 k7 e1 ev
    generalize eEx T (nI (300 + j)) s = s1 at d1 hz ⊢
    generalize (pV T s.1).toInt32 = g
    refine am_aload_n (q := 71) dX14_one_70 rfl rfl ?_
    refine am_dup (q := 72) dX14_one_71 rfl rfl ?_
    refine cm_getI (q := 75) dX14_one_72 flX14_116 rfl (by assumption) rfl ?_
    rw [h13]
    refine am_iconst (q := 76) (v := 1) dX14_one_75 kc_i1 rfl ?_
    refine am_iadd (q := 77) dX14_one_76 rfl ?_
    refine cm_putI (q := 80) dX14_one_77 flX14_116 rfl (Or.inl rfl) (Or.inl rfl) (by assumption) rfl ?_
    rw [nI_1]
    have a13 : up2 I y 13 (nI (a + 1)) y 13 = nI (a + 1) := up2_s
    have a3 : up2 I y 13 (nI (a + 1)) (y + 3) a = nI j := by rw [up2_a (by omega)]; exact hva
    generalize up2 I y 13 (nI (a + 1)) = I2 at I2h d1 d2 a13 a3 ⊢
    refine am_aload_n (q := 81) dX14_one_80 rfl rfl ?_
    refine cm_getR (q := 84) dX14_one_81 flX14_36 rfl (by assumption) (by assumption) rfl ?_
    refine am_aload_n (q := 85) dX14_one_84 rfl rfl ?_
    refine cm_getR (q := 88) dX14_one_85 flX14_20 rfl (by assumption) (by assumption) rfl ?_
    refine am_aload_n (q := 89) dX14_one_88 rfl rfl ?_
    refine cm_getI (q := 92) dX14_one_89 flX14_116 rfl (by assumption) rfl ?_
    rw [a13]
    refine am_iconst (q := 93) (v := 1) dX14_one_92 kc_i1 rfl ?_
    refine am_isub (q := 94) dX14_one_93 rfl ?_
    rw [nI_pred]
    refine cm_iaload (q := 95) dX14_one_94 (by assumption) i3 rfl ?_
    rw [ca, a3]
    obtain ⟨x1, x2, x3⟩ := d1.nd (w := nI j) (u := 0) (v := 0) (kk := nI (300 + j)) (g := g) hC (by omega)
    have h10 := d1.2.1.2.2.1
    have ndc := k_X12_node (G := G) (J := J) (I := I2) (w := nI j) (u := 0) (v := 0) hC h10 x3
    have res : (eAd (nI (300 + j)) g s1).1.2.1 = 0 → NRx NdN (ndI I2 nx k (nI j) 0 0) nx N s.2 (eAd (nI (300 + j)) g s1).2 k := by
      intro z
      obtain ⟨l1, l2, _⟩ := d1.len z
      show NRx NdN (ndI I2 nx k (nI j) 0 0) nx N s.2 (adC s1.2 (nI (300 + j), g)) k
      rw [hz.1] at l1 ⊢
      refine NRx.one (τ := fun rd => rd (nI j + 300) g) l1 (by omega) (fun O A E o1 o2 => ?_) (fun rd st => ?_)
      · refine Or.inr (Or.inl ⟨g, ?_, by rw [o1]⟩)
        rw [o1]
        rcases hj with r | r | r <;> rw [r] <;> decide
      · rcases hj with r | r | r <;> rw [r] <;> exact stE_rd (by decide)
    generalize eAd (nI (300 + j)) g s1 = s2 at x1 res ⊢
    refine am_iconst (q := 96) (v := 0) dX14_one_95 kc_i0 rfl ?_
    refine am_iconst (q := 97) (v := 0) dX14_one_96 kc_i0 rfl ?_
    refine cm_call0 (q := 100) (As := [_, _, _]) hG dX14_one_97 mlX14_162 rfl (by assumption) ⟨_, _, rfl⟩ (Nat.le_of_ble_eq_true rfl) (Nat.le_of_ble_eq_true rfl) (by omega) (Nat.le_of_ble_eq_true rfl) ndc rfl ?_
    rintro _ _ ⟨rfl, rfl⟩
    exact am_iret dX14_one_100 rfl rfl ⟨_, rfl, k, _, a + 1, k + 1, rfl, rfl, x1, ⟨by omega, by omega, by omega⟩, d2.tr x2 (Nat.le_refl _), res⟩
  have nmq : ∀ j, (j = 22 ∨ j = 23 ∨ j = 24 ∨ j = 25) → pK T s.1 = nI (300 + j) → eValF T ix V d s = eNm T ix (nI (300 + j)) s := by
    intro j hj hk
    unfold eValF
    rw [hk]
    rcases hj with r | r | r | r <;> subst r <;> rw [if_neg (by decide), if_neg (by decide), if_neg (by decide), if_pos (by decide)]
  have named1 : ∀ j, (j = 22 ∨ j = 23) → pK T s.1 = nI (300 + j) → MW G mX14_one (dv + 4) 121 [some (vR y), none] [] (mw S I J R) (fun f M1 => ∃ rr, f = .inl rr ∧ QM S J R y nx T ix N NdN d I a k s (eValF T ix V d s) rr M1) := by
    intro j hj hk
    rw [nmq j (by omega) hk]
    have hnm := k_X14_named (G := G) (J := J) (q := y + 25) (n := b2) (f := mf) hG hC h (by omega) hk k25 (by omega) (by omega) (by omega) (by omega) nm8 (fun z => by
      obtain ⟨z1, z2⟩ := nmA z
      refine ⟨fun v => ?_, Or.inl ⟨by rw [z2], hj⟩⟩
      rcases hj with r | r <;> rw [r]
      · exact (z1 v).2.1
      · exact (z1 v).2.2.1)
    clear hk e1 leaf nmq nmA
    generalize eNm T ix (nI (300 + j)) s = s2 at hnm ⊢
    refine am_aload_n (q := 122) dX14_one_121 rfl rfl ?_
    refine am_aload_n (q := 123) dX14_one_122 rfl rfl ?_
    refine cm_getR (q := 126) dX14_one_123 flX14_42 rfl (by assumption) (by assumption) rfl ?_
    refine am_aload_n (q := 127) dX14_one_126 rfl rfl ?_
    refine cm_getR (q := 130) dX14_one_127 flX14_36 rfl (by assumption) (by assumption) rfl ?_
    refine cm_getI (q := 133) dX14_one_130 flX14_170 rfl (by assumption) rfl ?_
    rw [nm3]
    refine cm_call0 (q := 136) (As := [_, _]) hG dX14_one_133 mlX14_173 rfl (by assumption) ⟨_, _, rfl⟩ (Nat.le_of_ble_eq_true rfl) (Nat.le_of_ble_eq_true rfl) (by omega) (Nat.le_of_ble_eq_true rfl) hnm rfl ?_
    rintro _ _ ⟨n, I1, a1, k1, rfl, rfl, t1, t2, t3, t4⟩
    exact am_iret dX14_one_136 rfl rfl ⟨_, rfl, n, I1, a1, k1, rfl, rfl, t1, t2, t3, t4⟩
  have named2 : pK T s.1 = nI (300 + 24) → MW G mX14_one (dv + 4) 147 [some (vR y), none] [] (mw S I J R) (fun f M1 => ∃ rr, f = .inl rr ∧ QM S J R y nx T ix N NdN d I a k s (eValF T ix V d s) rr M1) := by
    intro hk
    rw [nmq 24 (by omega) hk]
    have hnm := k_X14_named (G := G) (J := J) (q := y + 24) (n := b1) (f := mr) hG hC h (by omega) hk k24 (by omega) (by omega) (by omega) (by omega) nm7 (fun z => by
      obtain ⟨z1, z2⟩ := nmA z
      exact ⟨fun v => (z1 v).1, Or.inr (Or.inl ⟨by rw [z2], rfl⟩)⟩)
    clear hk e1 leaf nmq nmA named1
    generalize eNm T ix (nI (300 + 24)) s = s2 at hnm ⊢
    refine am_aload_n (q := 148) dX14_one_147 rfl rfl ?_
    refine am_aload_n (q := 149) dX14_one_148 rfl rfl ?_
    refine cm_getR (q := 152) dX14_one_149 flX14_39 rfl (by assumption) (by assumption) rfl ?_
    refine am_aload_n (q := 153) dX14_one_152 rfl rfl ?_
    refine cm_getR (q := 156) dX14_one_153 flX14_36 rfl (by assumption) (by assumption) rfl ?_
    refine cm_getI (q := 159) dX14_one_156 flX14_177 rfl (by assumption) rfl ?_
    rw [nm1]
    refine cm_call0 (q := 162) (As := [_, _]) hG dX14_one_159 mlX14_173 rfl (by assumption) ⟨_, _, rfl⟩ (Nat.le_of_ble_eq_true rfl) (Nat.le_of_ble_eq_true rfl) (by omega) (Nat.le_of_ble_eq_true rfl) hnm rfl ?_
    rintro _ _ ⟨n, I1, a1, k1, rfl, rfl, t1, t2, t3, t4⟩
    exact am_iret dX14_one_162 rfl rfl ⟨_, rfl, n, I1, a1, k1, rfl, rfl, t1, t2, t3, t4⟩
  have named3 : pK T s.1 = nI (300 + 25) → MW G mX14_one (dv + 4) 173 [some (vR y), none] [] (mw S I J R) (fun f M1 => ∃ rr, f = .inl rr ∧ QM S J R y nx T ix N NdN d I a k s (eValF T ix V d s) rr M1) := by
    intro hk
    rw [nmq 25 (by omega) hk]
    have hnm := k_X14_named (G := G) (J := J) (q := y + 26) (n := b3) (f := mp) hG hC h (by omega) hk k26 (by omega) (by omega) (by omega) (by omega) nm9 (fun z => by
      obtain ⟨z1, z2⟩ := nmA z
      exact ⟨fun v => (z1 v).2.2.2, Or.inr (Or.inr ⟨by rw [z2], rfl⟩)⟩)
    clear hk e1 leaf nmq nmA named1 named2
    generalize eNm T ix (nI (300 + 25)) s = s2 at hnm ⊢
    refine am_aload_n (q := 174) dX14_one_173 rfl rfl ?_
    refine am_aload_n (q := 175) dX14_one_174 rfl rfl ?_
    refine cm_getR (q := 178) dX14_one_175 flX14_45 rfl (by assumption) (by assumption) rfl ?_
    refine am_aload_n (q := 179) dX14_one_178 rfl rfl ?_
    refine cm_getR (q := 182) dX14_one_179 flX14_36 rfl (by assumption) (by assumption) rfl ?_
    refine cm_getI (q := 185) dX14_one_182 flX14_180 rfl (by assumption) rfl ?_
    rw [nm5]
    refine cm_call0 (q := 188) (As := [_, _]) hG dX14_one_185 mlX14_173 rfl (by assumption) ⟨_, _, rfl⟩ (Nat.le_of_ble_eq_true rfl) (Nat.le_of_ble_eq_true rfl) (by omega) (Nat.le_of_ble_eq_true rfl) hnm rfl ?_
    rintro _ _ ⟨n, I1, a1, k1, rfl, rfl, t1, t2, t3, t4⟩
    exact am_iret dX14_one_188 rfl rfl ⟨_, rfl, n, I1, a1, k1, rfl, rfl, t1, t2, t3, t4⟩
  clear nmq
  have pair : ∀ j, (j = 30 ∨ j = 31) → pK T s.1 = nI (300 + j) → MW G mX14_one (dv + 4) 275 [some (vR y), none] [] (mw S I J R) (fun f M1 => ∃ rr, f = .inl rr ∧ QM S J R y nx T ix N NdN d I a k s (eValF T ix V d s) rr M1) := by
    intro j hj hk
    have ev : eValF T ix V d s = ePair T V d (nI (300 + j)) (eEx T (nI (300 + j)) s) := by
      unfold eValF
      rw [hk]
      rcases hj with r | r <;> subst r <;> rw [if_neg (by decide), if_neg (by decide), if_neg (by decide), if_neg (by decide), if_pos (by decide)]
    rw [ev]
    have hva : I (y + 3) a = nI j := ((srt_key (j0 := j) sr (by omega)).mpr (e1.symm.trans hk)).2
    have hbt := k_X14_both (G := G) (J := J) hG hC hdv hd v0 hV h hj hk
    clear hk e1 leaf named1 named2 named3 nmA ev
    generalize ePair T V d (nI (300 + j)) (eEx T (nI (300 + j)) s) = s2 at hbt ⊢
    refine am_aload_n (q := 276) dX14_one_275 rfl rfl ?_
    refine am_aload_n (q := 277) dX14_one_276 rfl rfl ?_
    refine cm_getR (q := 280) dX14_one_277 flX14_20 rfl (by assumption) (by assumption) rfl ?_
    refine am_aload_n (q := 281) dX14_one_280 rfl rfl ?_
    refine cm_getI (q := 284) dX14_one_281 flX14_116 rfl (by assumption) rfl ?_
    rw [h13]
    refine cm_iaload (q := 285) dX14_one_284 (by assumption) i3 rfl ?_
    rw [ca, hva]
    refine cm_call0 (q := 288) (As := [_]) hG dX14_one_285 mlX14_189 rfl (by assumption) ⟨_, _, rfl⟩ (Nat.le_of_ble_eq_true rfl) (Nat.le_of_ble_eq_true rfl) (by omega) (Nat.le_of_ble_eq_true rfl) hbt rfl ?_
    rintro _ _ ⟨n, I1, a1, k1, rfl, rfl, t1, t2, t3, t4⟩
    exact am_iret dX14_one_288 rfl rfl ⟨_, rfl, n, I1, a1, k1, rfl, rfl, t1, t2, t3, t4⟩
  have brack : pK T s.1 = 40 → MW G mX14_one (dv + 4) 250 [some (vR y), none] [] (mw S I J R) (fun f M1 => ∃ rr, f = .inl rr ∧ QM S J R y nx T ix N NdN d I a k s (eValF T ix V d s) rr M1) := by
    intro hk
    have ev : eValF T ix V d s = if (eDp T 40 d s).1.2.1 = 1 then eDp T 40 d s else eEx T 41 (eSu T V (eDp T 40 d s)) := by
      unfold eValF
      rw [hk, if_pos rfl]
    rw [ev]
    have hin := k_X14_inner (G := G) (J := J) hG hC hdv hd v0 hV h hk
    clear hk e1 leaf named1 named2 named3 nmA ev pair
    generalize (if (eDp T 40 d s).1.2.1 = 1 then eDp T 40 d s else eEx T 41 (eSu T V (eDp T 40 d s))) = s2 at hin ⊢
    refine am_aload_n (q := 251) dX14_one_250 rfl rfl ?_
    refine cm_call0 (q := 254) (As := []) hG dX14_one_251 mlX14_186 rfl (by assumption) ⟨_, _, rfl⟩ (Nat.le_of_ble_eq_true rfl) (Nat.le_of_ble_eq_true rfl) (by omega) (Nat.le_of_ble_eq_true rfl) hin rfl ?_
    rintro _ _ ⟨n, I1, a1, k1, rfl, rfl, t1, t2, t3, t4⟩
    exact am_iret dX14_one_254 rfl rfl ⟨_, rfl, n, I1, a1, k1, rfl, rfl, t1, t2, t3, t4⟩
  have minus : pK T s.1 = 45 → MW G mX14_one (dv + 4) 199 [some (vR y), none] [] (mw S I J R) (fun f M1 => ∃ rr, f = .inl rr ∧ QM S J R y nx T ix N NdN d I a k s (eValF T ix V d s) rr M1) := by
    intro hk
    have ev : eValF T ix V d s = if (eDp T 45 d s).1.2.1 = 1 then eDp T 45 d s else eAd 262 0 (V (eDp T 45 d s)) := by
      unfold eValF
      rw [hk, if_neg (by decide), if_pos rfl]
    rw [ev]
    have hdp := k_X14_deeper (G := G) (J := J) hG hC h (by omega)
    clear e1 leaf named1 named2 named3 nmA ev pair brack
    by_cases c : d < 8
    · rw [eDp_lt c, if_neg (eEx_ok hk hgz.1).1]
      rw [if_neg (show ¬ d = 8 by omega)] at hdp
      have hz : (pK T s.1 = 45) ∧ True := ⟨hk, trivial⟩
      clear hk
      have hS := hV c
      refine am_aload_n (q := 200) dX14_one_199 rfl rfl ?_
      refine cm_call0 (q := 203) (As := []) hG dX14_one_200 mlX14_183 rfl (by assumption) ⟨_, _, rfl⟩ (Nat.le_of_ble_eq_true rfl) (Nat.le_of_ble_eq_true rfl) (by omega) (Nat.le_of_ble_eq_true rfl) hdp rfl ?_
      rintro _ _ ⟨rfl, I1, rfl, g1, g2⟩
      have g13 := g1.2.1.1
      have I3h : ∀ x j, up2 I1 y 13 (nI (a + 1)) x j = if x = y ∧ j = 13 then nI (a + 1) else I1 x j := fun x j => up2_at _ _
      obtain ⟨d1, d2⟩ := g1.eat hC hgz.1 hz.1 (by decide) (by decide) I3h
      refine am_aload_n (q := 204) dX14_one_203 rfl rfl ?_
      refine am_dup (q := 205) dX14_one_204 rfl rfl ?_
      refine cm_getI (q := 208) dX14_one_205 flX14_116 rfl (by assumption) rfl ?_
      rw [g13]
      refine am_iconst (q := 209) (v := 1) dX14_one_208 kc_i1 rfl ?_
      refine am_iadd (q := 210) dX14_one_209 rfl ?_
      refine cm_putI (q := 213) dX14_one_210 flX14_116 rfl (Or.inl rfl) (Or.inl rfl) (by assumption) rfl ?_
      rw [nI_1]
      generalize up2 I1 y 13 (nI (a + 1)) = I3 at I3h d1 d2 ⊢
      have e23 : (eEx T 45 s).2 = s.2 := rfl
      generalize eEx T 45 s = s1 at d1 e23 ⊢
      have hS1 := hS I3 s1 (a + 1) k d1 (by omega)
      generalize V s1 = s2 at hS1 ⊢
      refine am_aload_n (q := 214) dX14_one_213 rfl rfl ?_
      refine cm_getR (q := 217) dX14_one_214 flX14_36 rfl (by assumption) (by assumption) rfl ?_
      refine am_bipush (q := 219) (v := 110) dX14_one_217 kc_b110 rfl ?_
      refine am_aload_n (q := 220) dX14_one_219 rfl rfl ?_
      refine cm_call0 (q := 223) (As := []) hG dX14_one_220 mlX14_166 rfl (by assumption) ⟨_, _, rfl⟩ (Nat.le_of_ble_eq_true rfl) (Nat.le_of_ble_eq_true rfl) (by omega) (Nat.le_of_ble_eq_true rfl) hS1 rfl ?_
      rintro _ _ ⟨n, I4, a4, k4, rfl, rfl, t1, t2, t3, t4⟩
      obtain ⟨x1, x2, x3⟩ := t1.nd (w := 110) (u := nI n) (v := 0) (kk := 262) (g := 0) hC (by omega)
      have h10 := t1.2.1.2.2.1
      have ndc := k_X12_node (G := G) (J := J) (I := I4) (w := 110) (u := nI n) (v := 0) hC h10 x3
      have res : (eAd 262 0 s2).1.2.1 = 0 → NRx NdN (ndI I4 nx k4 110 (nI n) 0) nx N s.2 (eAd 262 0 s2).2 k4 := by
        intro z
        have n1 := t4 z
        rw [e23] at n1
        have l1 := t1.len z
        exact NRx.un (F := fun p => -p) NdN_w n1 l1.1 (by omega) (fun O A E u o1 o2 o3 o4 => Or.inr (Or.inr (Or.inr (Or.inl ⟨n, u, o1, o2, o3, o4, rfl⟩)))) (fun rd p st => stE_neg)
      clear t4
      generalize eAd 262 0 s2 = s3 at x1 res ⊢
      refine am_iconst (q := 224) (v := 0) dX14_one_223 kc_i0 rfl ?_
      refine cm_call0 (q := 227) (As := [_, _, _]) hG dX14_one_224 mlX14_162 rfl (by assumption) ⟨_, _, rfl⟩ (Nat.le_of_ble_eq_true rfl) (Nat.le_of_ble_eq_true rfl) (by omega) (Nat.le_of_ble_eq_true rfl) ndc rfl ?_
      rintro _ _ ⟨rfl, rfl⟩
      refine am_istore_n (q := 228) (ls1 := [_, _]) dX14_one_227 (Nat.le_of_ble_eq_true rfl) rfl rfl ?_
      generalize ndI I4 nx k4 110 (nI n) 0 = I5 at x1 x2 res ⊢
      have h14 := x1.2.1.2.2.2.2
      have I6h : ∀ x j, up2 I5 y 14 (nI d) x j = if x = y ∧ j = 14 then nI d else I5 x j := fun x j => up2_at _ _
      obtain ⟨w1, w2⟩ := k_up hC x1 I6h
      have res2 : s3.1.2.1 = 0 → NRx NdN (up2 I5 y 14 (nI d)) nx N s.2 s3.2 k4 := fun z => (res z).off NdN_w hC w2 (by have := (x1.len z).1; omega)
      clear res
      refine am_aload_n (q := 229) dX14_one_228 rfl rfl ?_
      refine am_dup (q := 230) dX14_one_229 rfl rfl ?_
      refine cm_getI (q := 233) dX14_one_230 flX14_136 rfl (by assumption) rfl ?_
      rw [h14]
      refine am_iconst (q := 234) (v := 1) dX14_one_233 kc_i1 rfl ?_
      refine am_isub (q := 235) dX14_one_234 rfl ?_
      rw [nI_pred]
      refine cm_putI (q := 238) dX14_one_235 flX14_136 rfl (Or.inl rfl) (Or.inl rfl) (by assumption) rfl ?_
      refine am_iload_n (q := 239) dX14_one_238 rfl rfl ?_
      exact am_iret dX14_one_239 rfl rfl ⟨_, rfl, k4, _, a4, k4 + 1, rfl, rfl, w1, ⟨by omega, by omega, by omega⟩, ((((g2.tr d2 (Nat.le_refl _)).tr t3 (Nat.le_refl _)).tr x2 t2.2.2).tr w2 (by omega)), res2⟩
    · have d8 : d = 8 := by omega
      subst d8
      rw [eDp_ge c, if_pos eRef_e]
      rw [if_pos rfl] at hdp
      have er : (eRef T s).1.2.1 = 1 := eRef_e
      have hS := kz_one (G := G) (J := J) (T := T) (ix := ix) (N := N) hC hG
      have nz : (eRef T s).1.2.1 = 0 → ∀ P : Prop, P := fun z => absurd (er.symm.trans z) (by decide)
      clear hk c
      generalize eRef T s = s2 at hdp er nz ⊢
      refine am_aload_n (q := 200) dX14_one_199 rfl rfl ?_
      refine cm_call0 (q := 203) (As := []) hG dX14_one_200 mlX14_183 rfl (by assumption) ⟨_, _, rfl⟩ (Nat.le_of_ble_eq_true rfl) (Nat.le_of_ble_eq_true rfl) (by omega) (Nat.le_of_ble_eq_true rfl) hdp rfl ?_
      rintro _ _ ⟨rfl, I1, rfl, g1, g2⟩
      have g13 := g1.2.1.1
      have I3h : ∀ x j, up2 I1 y 13 (nI (a + 1)) x j = if x = y ∧ j = 13 then nI (a + 1) else I1 x j := fun x j => up2_at _ _
      obtain ⟨d1, d2⟩ := g1.skip hC er e2 I3h
      refine am_aload_n (q := 204) dX14_one_203 rfl rfl ?_
      refine am_dup (q := 205) dX14_one_204 rfl rfl ?_
      refine cm_getI (q := 208) dX14_one_205 flX14_116 rfl (by assumption) rfl ?_
      rw [g13]
      refine am_iconst (q := 209) (v := 1) dX14_one_208 kc_i1 rfl ?_
      refine am_iadd (q := 210) dX14_one_209 rfl ?_
      refine cm_putI (q := 213) dX14_one_210 flX14_116 rfl (Or.inl rfl) (Or.inl rfl) (by assumption) rfl ?_
      rw [nI_1]
      generalize up2 I1 y 13 (nI (a + 1)) = I3 at I3h d1 d2 ⊢
      have hS1 := hS I3 s2 _ _ _ d1 er
      have hz : s2.1.2.1 = 1 ∧ True := ⟨er, trivial⟩
      clear er
      refine am_aload_n (q := 214) dX14_one_213 rfl rfl ?_
      refine cm_getR (q := 217) dX14_one_214 flX14_36 rfl (by assumption) (by assumption) rfl ?_
      refine am_bipush (q := 219) (v := 110) dX14_one_217 kc_b110 rfl ?_
      refine am_aload_n (q := 220) dX14_one_219 rfl rfl ?_
      refine cm_call0 (q := 223) (As := []) hG dX14_one_220 mlX14_166 rfl (by assumption) ⟨_, _, rfl⟩ (Nat.le_of_ble_eq_true rfl) (Nat.le_of_ble_eq_true rfl) (by omega) (Nat.le_of_ble_eq_true rfl) hS1 rfl ?_
      rintro _ _ ⟨n, I4, rfl, rfl, t1, t3⟩
      obtain ⟨x1, x2, x3⟩ := t1.nd (w := 110) (u := nI n) (v := 0) (kk := 262) (g := 0) hC (by omega)
      have h10 := t1.2.1.2.2.1
      have ndc := k_X12_node (G := G) (J := J) (I := I4) (w := 110) (u := nI n) (v := 0) hC h10 x3
      have x4 : PC (ndI I4 nx k 110 (nI n) 0) y nx T ix N s2 9 (a + 1) (k + 1) := x1.fl hz.1 rfl
      refine am_iconst (q := 224) (v := 0) dX14_one_223 kc_i0 rfl ?_
      refine cm_call0 (q := 227) (As := [_, _, _]) hG dX14_one_224 mlX14_162 rfl (by assumption) ⟨_, _, rfl⟩ (Nat.le_of_ble_eq_true rfl) (Nat.le_of_ble_eq_true rfl) (by omega) (Nat.le_of_ble_eq_true rfl) ndc rfl ?_
      rintro _ _ ⟨rfl, rfl⟩
      refine am_istore_n (q := 228) (ls1 := [_, _]) dX14_one_227 (Nat.le_of_ble_eq_true rfl) rfl rfl ?_
      generalize ndI I4 nx k 110 (nI n) 0 = I5 at x4 x2 ⊢
      have h14 := x4.2.1.2.2.2.2
      have I6h : ∀ x j, up2 I5 y 14 (nI 8) x j = if x = y ∧ j = 14 then nI 8 else I5 x j := fun x j => up2_at _ _
      obtain ⟨w1, w2⟩ := k_up hC x4 I6h
      refine am_aload_n (q := 229) dX14_one_228 rfl rfl ?_
      refine am_dup (q := 230) dX14_one_229 rfl rfl ?_
      refine cm_getI (q := 233) dX14_one_230 flX14_136 rfl (by assumption) rfl ?_
      rw [h14]
      refine am_iconst (q := 234) (v := 1) dX14_one_233 kc_i1 rfl ?_
      refine am_isub (q := 235) dX14_one_234 rfl ?_
      rw [nI_pred]
      refine cm_putI (q := 238) dX14_one_235 flX14_136 rfl (Or.inl rfl) (Or.inl rfl) (by assumption) rfl ?_
      refine am_iload_n (q := 239) dX14_one_238 rfl rfl ?_
      exact am_iret dX14_one_239 rfl rfl ⟨_, rfl, k, _, a + 1, k + 1, rfl, rfl, w1, ⟨by omega, by omega, by omega⟩, ((((g2.tr d2 (Nat.le_refl _)).tr t3 (Nat.le_refl _)).tr x2 (Nat.le_refl _)).tr w2 (Nat.le_succ _)), fun z => nz z _⟩
  refine am_if_ne (tgt := 9) (q := 7) dX14_one_4 rfl rfl (fun _ => ?_) (fun hz => absurd hz (by decide))
  refine am_aload_n (q := 10) dX14_one_9 rfl rfl ?_
  refine cm_getR (q := 13) dX14_one_10 flX14_17 rfl (by assumption) (by assumption) rfl ?_
  refine am_aload_n (q := 14) dX14_one_13 rfl rfl ?_
  refine cm_getI (q := 17) dX14_one_14 flX14_116 rfl (by assumption) rfl ?_
  rw [h13]
  refine cm_iaload (q := 18) dX14_one_17 (by assumption) i2 rfl ?_
  rw [ca]
  have iff3 := srt_one (w := 3) (q0 := 259) sr (Or.inr (Or.inl ⟨rfl, rfl⟩))
  by_cases c3 : I (y + 2) a = 3
  · have hk : pK T s.1 = 259 := e1.trans (iff3.mp c3)
    obtain ⟨m, hm, m1, m2⟩ := srt_num sr (iff3.mp c3)
    have ev : eValF T ix V d s = eAd 259 (pV T s.1).toInt32 (pEx T 259 s.1, s.2) := by
      unfold eValF
      rw [hk, if_neg (by decide), if_neg (by decide), if_pos (by decide)]
      rfl
    rw [ev]
    have e4 : pV T s.1 = T.v a := by
      unfold pV
      rw [if_neg hgz.1, ← e3]
    have hnum := k_X14_number (G := G) (J := J) (lo := 0) (hi := 999999) hG hC h
    rw [pNu_in (by
      rw [e4, m2, Int32.toInt64_lt, Int32.toInt64_lt]
      rintro (q | q)
      · exact absurd q (Int32.not_lt.mpr (nI_pos' (by omega)))
      · exact absurd q (Int32.not_lt.mpr (nI_le (a := m) (b := 999999) (by omega) (by omega))))] at hnum
    have ok : (pEx T 259 s.1).2.1 ≠ 1 := (eEx_ok hk hgz.1).1
    clear hk e1 leaf named1 named2 named3 nmA ev pair brack minus
    generalize (pV T s.1).toInt32 = g at hnum ⊢
    generalize pEx T 259 s.1 = P at hnum ok ⊢
    have okz : P.2.1 ≠ 1 ∧ True := ⟨ok, trivial⟩
    clear ok
    refine am_iconst (q := 19) (v := 3) dX14_one_18 kc_i3 rfl ?_
    refine am_icmp_ne (tgt := 40) (q := 22) dX14_one_19 rfl rfl (fun hz => absurd c3 hz) (fun _ => ?_)
    refine am_aload_n (q := 23) dX14_one_22 rfl rfl ?_
    refine cm_getR (q := 26) dX14_one_23 flX14_36 rfl (by assumption) (by assumption) rfl ?_
    refine am_bipush (q := 28) (v := 40) dX14_one_26 kc_b40 rfl ?_
    refine am_aload_n (q := 29) dX14_one_28 rfl rfl ?_
    refine am_iconst (q := 30) (v := 0) dX14_one_29 kc_i0 rfl ?_
    refine am_ldcI (q := 32) (v := 999999) dX14_one_30 (tbc7 74 rfl rfl) rfl ?_
    refine cm_call0 (q := 35) (As := [_, _]) hG dX14_one_32 mlX14_155 rfl (by assumption) ⟨_, _, rfl⟩ (Nat.le_of_ble_eq_true rfl) (Nat.le_of_ble_eq_true rfl) (by omega) (Nat.le_of_ble_eq_true rfl) hnum rfl ?_
    rintro _ _ ⟨w, I2, a2, rfl, rfl, t1, t2, t3, t4⟩
    obtain ⟨rfl, rfl⟩ := t4 okz.1
    clear t4
    obtain ⟨x1, x2, x3⟩ := t1.nd (w := 40) (u := w) (v := 0) (kk := 259) (g := w) hC (by omega)
    have h10 := t1.2.1.2.2.1
    have ndc := k_X12_node (G := G) (J := J) (I := I2) (w := 40) (u := w) (v := 0) hC h10 x3
    have res : (eAd 259 w (P, s.2)).1.2.1 = 0 → NRx NdN (ndI I2 nx k 40 w 0) nx N s.2 (eAd 259 w (P, s.2)).2 k := by
      intro z
      obtain ⟨l1, l2, _⟩ := t1.len z
      have l1b : k = s.2.length := l1
      exact NRx.one (τ := fun _ => w) l1b (by omega) (fun O A E o1 o2 => Or.inl ⟨o1, by rw [o2]⟩) (fun rd st => stE_val)
    generalize eAd 259 w (P, s.2) = s2 at x1 res ⊢
    refine am_iconst (q := 36) (v := 0) dX14_one_35 kc_i0 rfl ?_
    refine cm_call0 (q := 39) (As := [_, _, _]) hG dX14_one_36 mlX14_162 rfl (by assumption) ⟨_, _, rfl⟩ (Nat.le_of_ble_eq_true rfl) (Nat.le_of_ble_eq_true rfl) (by omega) (Nat.le_of_ble_eq_true rfl) ndc rfl ?_
    rintro _ _ ⟨rfl, rfl⟩
    exact am_iret dX14_one_39 rfl rfl ⟨_, rfl, k, _, a + 1, k + 1, rfl, rfl, x1, ⟨by omega, by omega, by omega⟩, t3.tr x2 (Nat.le_refl _), res⟩
  have c3z : pK T s.1 ≠ 259 := fun q => c3 (iff3.mpr (e1.symm.trans q))
  clear iff3 e1
  have isk : ∀ j, j < 32 → Fn G mX14_is 1 [vR y, vI 2, vI (nI j)] (mw S I J R) (fun rr M1 => rr = some (vI (bI (pK T s.1 = nI (300 + j)))) ∧ M1 = mw S I J R) := fun j hj => k_X14_is (kk := nI (300 + j)) hG hC h (k_ne (b := 257) (by omega) (by decide) (by omega)) (ky_all hj)
  have iss : ∀ c, c ∈ symN → Fn G mX14_is 1 [vR y, vI 4, vI (nI c)] (mw S I J R) (fun rr M1 => rr = some (vI (bI (pK T s.1 = nI c))) ∧ M1 = mw S I J R) := fun c hc => k_X14_is (kk := nI c) hG hC h (k_ne (b := 257) (by have := symN_b c hc; omega) (by decide) (by have := symN_b c hc; omega)) (sg_all hc)
  refine am_iconst (q := 19) (v := 3) dX14_one_18 kc_i3 rfl ?_
  refine am_icmp_ne (tgt := 40) (q := 22) dX14_one_19 rfl rfl (fun _ => ?_) (fun hz => absurd hz c3)
  refine am_aload_n (q := 41) dX14_one_40 rfl rfl ?_
  refine am_iconst (q := 42) (v := 2) dX14_one_41 kc_i2 rfl ?_
  refine am_bipush (q := 44) (v := 19) dX14_one_42 kc_b19 rfl ?_
  refine cm_call0 (q := 47) (As := [_, _]) hG dX14_one_44 mlX14_123 rfl (by assumption) ⟨_, _, rfl⟩ (Nat.le_of_ble_eq_true rfl) (Nat.le_of_ble_eq_true rfl) (by omega) (Nat.le_of_ble_eq_true rfl) (isk 19 (by decide)) rfl ?_
  rintro _ _ ⟨rfl, rfl⟩
  by_cases c19 : pK T s.1 = nI (300 + 19)
  · rw [bI_t c19]
    have b := leaf 19 (by omega) c19
    clear c19 c3z
    refine am_if_ne (tgt := 70) (q := 50) dX14_one_47 rfl rfl (fun _ => ?_) (fun hz => absurd hz (by decide))
    exact b
  rw [bI_f c19]
  refine am_if_ne (tgt := 70) (q := 50) dX14_one_47 rfl rfl (fun hz => absurd rfl hz) (fun _ => ?_)
  refine am_aload_n (q := 51) dX14_one_50 rfl rfl ?_
  refine am_iconst (q := 52) (v := 2) dX14_one_51 kc_i2 rfl ?_
  refine am_bipush (q := 54) (v := 20) dX14_one_52 kc_b20 rfl ?_
  refine cm_call0 (q := 57) (As := [_, _]) hG dX14_one_54 mlX14_123 rfl (by assumption) ⟨_, _, rfl⟩ (Nat.le_of_ble_eq_true rfl) (Nat.le_of_ble_eq_true rfl) (by omega) (Nat.le_of_ble_eq_true rfl) (isk 20 (by decide)) rfl ?_
  rintro _ _ ⟨rfl, rfl⟩
  by_cases c20 : pK T s.1 = nI (300 + 20)
  · rw [bI_t c20]
    have b := leaf 20 (by omega) c20
    clear c20 c19 c3z
    refine am_if_ne (tgt := 70) (q := 60) dX14_one_57 rfl rfl (fun _ => ?_) (fun hz => absurd hz (by decide))
    exact b
  rw [bI_f c20]
  refine am_if_ne (tgt := 70) (q := 60) dX14_one_57 rfl rfl (fun hz => absurd rfl hz) (fun _ => ?_)
  refine am_aload_n (q := 61) dX14_one_60 rfl rfl ?_
  refine am_iconst (q := 62) (v := 2) dX14_one_61 kc_i2 rfl ?_
  refine am_bipush (q := 64) (v := 21) dX14_one_62 kc_b21 rfl ?_
  refine cm_call0 (q := 67) (As := [_, _]) hG dX14_one_64 mlX14_123 rfl (by assumption) ⟨_, _, rfl⟩ (Nat.le_of_ble_eq_true rfl) (Nat.le_of_ble_eq_true rfl) (by omega) (Nat.le_of_ble_eq_true rfl) (isk 21 (by decide)) rfl ?_
  rintro _ _ ⟨rfl, rfl⟩
  by_cases c21 : pK T s.1 = nI (300 + 21)
  · rw [bI_t c21]
    have b := leaf 21 (by omega) c21
    clear c21 c20 c19 c3z
    refine am_if_eq (tgt := 101) (q := 70) dX14_one_67 rfl rfl (fun hz => absurd hz (by decide)) (fun _ => ?_)
    exact b
  rw [bI_f c21]
  refine am_if_eq (tgt := 101) (q := 70) dX14_one_67 rfl rfl (fun _ => ?_) (fun hz => absurd rfl hz)
  refine am_aload_n (q := 102) dX14_one_101 rfl rfl ?_
  refine am_iconst (q := 103) (v := 2) dX14_one_102 kc_i2 rfl ?_
  refine am_bipush (q := 105) (v := 22) dX14_one_103 kc_b22 rfl ?_
  refine cm_call0 (q := 108) (As := [_, _]) hG dX14_one_105 mlX14_123 rfl (by assumption) ⟨_, _, rfl⟩ (Nat.le_of_ble_eq_true rfl) (Nat.le_of_ble_eq_true rfl) (by omega) (Nat.le_of_ble_eq_true rfl) (isk 22 (by decide)) rfl ?_
  rintro _ _ ⟨rfl, rfl⟩
  by_cases c22 : pK T s.1 = nI (300 + 22)
  · rw [bI_t c22]
    have b := named1 22 (by omega) c22
    clear c22 c21 c20 c19 c3z
    refine am_if_ne (tgt := 121) (q := 111) dX14_one_108 rfl rfl (fun _ => ?_) (fun hz => absurd hz (by decide))
    exact b
  rw [bI_f c22]
  refine am_if_ne (tgt := 121) (q := 111) dX14_one_108 rfl rfl (fun hz => absurd rfl hz) (fun _ => ?_)
  refine am_aload_n (q := 112) dX14_one_111 rfl rfl ?_
  refine am_iconst (q := 113) (v := 2) dX14_one_112 kc_i2 rfl ?_
  refine am_bipush (q := 115) (v := 23) dX14_one_113 kc_b23 rfl ?_
  refine cm_call0 (q := 118) (As := [_, _]) hG dX14_one_115 mlX14_123 rfl (by assumption) ⟨_, _, rfl⟩ (Nat.le_of_ble_eq_true rfl) (Nat.le_of_ble_eq_true rfl) (by omega) (Nat.le_of_ble_eq_true rfl) (isk 23 (by decide)) rfl ?_
  rintro _ _ ⟨rfl, rfl⟩
  by_cases c23 : pK T s.1 = nI (300 + 23)
  · rw [bI_t c23]
    have b := named1 23 (by omega) c23
    clear c23 c22 c21 c20 c19 c3z
    refine am_if_eq (tgt := 137) (q := 121) dX14_one_118 rfl rfl (fun hz => absurd hz (by decide)) (fun _ => ?_)
    exact b
  rw [bI_f c23]
  refine am_if_eq (tgt := 137) (q := 121) dX14_one_118 rfl rfl (fun _ => ?_) (fun hz => absurd rfl hz)
  refine am_aload_n (q := 138) dX14_one_137 rfl rfl ?_
  refine am_iconst (q := 139) (v := 2) dX14_one_138 kc_i2 rfl ?_
  refine am_bipush (q := 141) (v := 24) dX14_one_139 kc_b24 rfl ?_
  refine cm_call0 (q := 144) (As := [_, _]) hG dX14_one_141 mlX14_123 rfl (by assumption) ⟨_, _, rfl⟩ (Nat.le_of_ble_eq_true rfl) (Nat.le_of_ble_eq_true rfl) (by omega) (Nat.le_of_ble_eq_true rfl) (isk 24 (by decide)) rfl ?_
  rintro _ _ ⟨rfl, rfl⟩
  by_cases c24 : pK T s.1 = nI (300 + 24)
  · rw [bI_t c24]
    have b := named2 c24
    clear c24 c23 c22 c21 c20 c19 c3z
    refine am_if_eq (tgt := 163) (q := 147) dX14_one_144 rfl rfl (fun hz => absurd hz (by decide)) (fun _ => ?_)
    exact b
  rw [bI_f c24]
  refine am_if_eq (tgt := 163) (q := 147) dX14_one_144 rfl rfl (fun _ => ?_) (fun hz => absurd rfl hz)
  refine am_aload_n (q := 164) dX14_one_163 rfl rfl ?_
  refine am_iconst (q := 165) (v := 2) dX14_one_164 kc_i2 rfl ?_
  refine am_bipush (q := 167) (v := 25) dX14_one_165 kc_b25 rfl ?_
  refine cm_call0 (q := 170) (As := [_, _]) hG dX14_one_167 mlX14_123 rfl (by assumption) ⟨_, _, rfl⟩ (Nat.le_of_ble_eq_true rfl) (Nat.le_of_ble_eq_true rfl) (by omega) (Nat.le_of_ble_eq_true rfl) (isk 25 (by decide)) rfl ?_
  rintro _ _ ⟨rfl, rfl⟩
  by_cases c25 : pK T s.1 = nI (300 + 25)
  · rw [bI_t c25]
    have b := named3 c25
    clear c25 c24 c23 c22 c21 c20 c19 c3z
    refine am_if_eq (tgt := 189) (q := 173) dX14_one_170 rfl rfl (fun hz => absurd hz (by decide)) (fun _ => ?_)
    exact b
  rw [bI_f c25]
  refine am_if_eq (tgt := 189) (q := 173) dX14_one_170 rfl rfl (fun _ => ?_) (fun hz => absurd rfl hz)
  refine am_aload_n (q := 190) dX14_one_189 rfl rfl ?_
  refine am_iconst (q := 191) (v := 4) dX14_one_190 kc_i4 rfl ?_
  refine am_bipush (q := 193) (v := 45) dX14_one_191 kc_b45 rfl ?_
  refine cm_call0 (q := 196) (As := [_, _]) hG dX14_one_193 mlX14_123 rfl (by assumption) ⟨_, _, rfl⟩ (Nat.le_of_ble_eq_true rfl) (Nat.le_of_ble_eq_true rfl) (by omega) (Nat.le_of_ble_eq_true rfl) (iss 45 (by decide)) rfl ?_
  rintro _ _ ⟨rfl, rfl⟩
  by_cases c45 : pK T s.1 = nI 45
  · rw [bI_t c45]
    have b := minus c45
    clear c45 c25 c24 c23 c22 c21 c20 c19 c3z
    refine am_if_eq (tgt := 240) (q := 199) dX14_one_196 rfl rfl (fun hz => absurd hz (by decide)) (fun _ => ?_)
    exact b
  rw [bI_f c45]
  refine am_if_eq (tgt := 240) (q := 199) dX14_one_196 rfl rfl (fun _ => ?_) (fun hz => absurd rfl hz)
  refine am_aload_n (q := 241) dX14_one_240 rfl rfl ?_
  refine am_iconst (q := 242) (v := 4) dX14_one_241 kc_i4 rfl ?_
  refine am_bipush (q := 244) (v := 40) dX14_one_242 kc_b40 rfl ?_
  refine cm_call0 (q := 247) (As := [_, _]) hG dX14_one_244 mlX14_123 rfl (by assumption) ⟨_, _, rfl⟩ (Nat.le_of_ble_eq_true rfl) (Nat.le_of_ble_eq_true rfl) (by omega) (Nat.le_of_ble_eq_true rfl) (iss 40 (by decide)) rfl ?_
  rintro _ _ ⟨rfl, rfl⟩
  by_cases c40 : pK T s.1 = nI 40
  · rw [bI_t c40]
    have b := brack c40
    clear c40 c45 c25 c24 c23 c22 c21 c20 c19 c3z
    refine am_if_eq (tgt := 255) (q := 250) dX14_one_247 rfl rfl (fun hz => absurd hz (by decide)) (fun _ => ?_)
    exact b
  rw [bI_f c40]
  refine am_if_eq (tgt := 255) (q := 250) dX14_one_247 rfl rfl (fun _ => ?_) (fun hz => absurd rfl hz)
  refine am_aload_n (q := 256) dX14_one_255 rfl rfl ?_
  refine am_iconst (q := 257) (v := 2) dX14_one_256 kc_i2 rfl ?_
  refine am_bipush (q := 259) (v := 30) dX14_one_257 kc_b30 rfl ?_
  refine cm_call0 (q := 262) (As := [_, _]) hG dX14_one_259 mlX14_123 rfl (by assumption) ⟨_, _, rfl⟩ (Nat.le_of_ble_eq_true rfl) (Nat.le_of_ble_eq_true rfl) (by omega) (Nat.le_of_ble_eq_true rfl) (isk 30 (by decide)) rfl ?_
  rintro _ _ ⟨rfl, rfl⟩
  by_cases c30 : pK T s.1 = nI (300 + 30)
  · rw [bI_t c30]
    have b := pair 30 (by omega) c30
    clear c30 c40 c45 c25 c24 c23 c22 c21 c20 c19 c3z
    refine am_if_ne (tgt := 275) (q := 265) dX14_one_262 rfl rfl (fun _ => ?_) (fun hz => absurd hz (by decide))
    exact b
  rw [bI_f c30]
  refine am_if_ne (tgt := 275) (q := 265) dX14_one_262 rfl rfl (fun hz => absurd rfl hz) (fun _ => ?_)
  refine am_aload_n (q := 266) dX14_one_265 rfl rfl ?_
  refine am_iconst (q := 267) (v := 2) dX14_one_266 kc_i2 rfl ?_
  refine am_bipush (q := 269) (v := 31) dX14_one_267 kc_b31 rfl ?_
  refine cm_call0 (q := 272) (As := [_, _]) hG dX14_one_269 mlX14_123 rfl (by assumption) ⟨_, _, rfl⟩ (Nat.le_of_ble_eq_true rfl) (Nat.le_of_ble_eq_true rfl) (by omega) (Nat.le_of_ble_eq_true rfl) (isk 31 (by decide)) rfl ?_
  rintro _ _ ⟨rfl, rfl⟩
  by_cases c31 : pK T s.1 = nI (300 + 31)
  · rw [bI_t c31]
    have b := pair 31 (by omega) c31
    clear c31 c30 c40 c45 c25 c24 c23 c22 c21 c20 c19 c3z
    refine am_if_eq (tgt := 289) (q := 275) dX14_one_272 rfl rfl (fun hz => absurd hz (by decide)) (fun _ => ?_)
    exact b
  rw [bI_f c31]
  have ev : eValF T ix V d s = eRef T s := by
    unfold eValF
    rw [if_neg (c := pK T s.1 = 40) c40, if_neg (c := pK T s.1 = 45) c45, if_neg, if_neg, if_neg]
    · rintro (q | q)
      · exact c30 q
      · exact c31 q
    · rintro (q | q | q | q)
      · exact c22 q
      · exact c23 q
      · exact c24 q
      · exact c25 q
    · rintro (q | q | q | q)
      · exact c3z q
      · exact c19 q
      · exact c20 q
      · exact c21 q
  rw [ev]
  have nz : (eRef T s).1.2.1 = 0 → ∀ P : Prop, P := fun z => absurd ((pRef_1 (T := T) (s := s.1)).symm.trans z) (by decide)
  have hfl := k_X14_fail (G := G) (J := J) hC h
  clear c31 c30 c40 c45 c25 c24 c23 c22 c21 c20 c19 c3z ev leaf named1 named2 named3 nmA pair brack minus
  generalize eRef T s = s2 at hfl nz ⊢
  refine am_if_eq (tgt := 289) (q := 275) dX14_one_272 rfl rfl (fun _ => ?_) (fun hz => absurd rfl hz)
  refine am_aload_n (q := 290) dX14_one_289 rfl rfl ?_
  refine cm_call0 (q := 293) (As := []) hG dX14_one_290 mlX14_127 rfl (by assumption) ⟨_, _, rfl⟩ (Nat.le_of_ble_eq_true rfl) (Nat.le_of_ble_eq_true rfl) (by omega) (Nat.le_of_ble_eq_true rfl) hfl rfl ?_
  rintro _ _ ⟨rfl, I3, rfl, g1, g2⟩
  refine am_iconst (q := 294) (v := 0) dX14_one_293 kc_i0 rfl ?_
  exact am_iret dX14_one_294 rfl rfl ⟨_, rfl, 0, I3, a, k, rfl, rfl, g1, ⟨by omega, by omega, by omega⟩, g2, fun z => nz z _⟩
end On

