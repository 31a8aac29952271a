theorem kc_b7 : (Int8.ofInt 7).toInt32 = 7 := by decide +kernel
theorem dX14_reckon_0 : decode cX14_reckon 0 = .ok (.aload_n 0, 1) := by decide +kernel
theorem dX14_reckon_1 : decode cX14_reckon 1 = .ok (.getfield 32, 3) := by decide +kernel
theorem dX14_reckon_4 : decode cX14_reckon 4 = .ok (.getfield 266, 3) := by decide +kernel
theorem dX14_reckon_7 : decode cX14_reckon 7 = .ok (.iload_n 2, 1) := by decide +kernel
theorem dX14_reckon_8 : decode cX14_reckon 8 = .ok (.iaload, 1) := by decide +kernel
theorem dX14_reckon_9 : decode cX14_reckon 9 = .ok (.istore_n 3, 1) := by decide +kernel
theorem dX14_reckon_10 : decode cX14_reckon 10 = .ok (.aload_n 0, 1) := by decide +kernel
theorem dX14_reckon_11 : decode cX14_reckon 11 = .ok (.getfield 32, 3) := by decide +kernel
theorem dX14_reckon_14 : decode cX14_reckon 14 = .ok (.getfield 268, 3) := by decide +kernel
theorem dX14_reckon_17 : decode cX14_reckon 17 = .ok (.iload_n 2, 1) := by decide +kernel
theorem dX14_reckon_18 : decode cX14_reckon 18 = .ok (.iaload, 1) := by decide +kernel
theorem dX14_reckon_19 : decode cX14_reckon 19 = .ok (.istore 4, 2) := by decide +kernel
theorem dX14_reckon_21 : decode cX14_reckon 21 = .ok (.aload_n 0, 1) := by decide +kernel
theorem dX14_reckon_22 : decode cX14_reckon 22 = .ok (.getfield 32, 3) := by decide +kernel
theorem dX14_reckon_25 : decode cX14_reckon 25 = .ok (.getfield 271, 3) := by decide +kernel
theorem dX14_reckon_28 : decode cX14_reckon 28 = .ok (.iload_n 2, 1) := by decide +kernel
theorem dX14_reckon_29 : decode cX14_reckon 29 = .ok (.iaload, 1) := by decide +kernel
theorem dX14_reckon_30 : decode cX14_reckon 30 = .ok (.lookupswitch 272 #[(19, 124), (20, 129), (21, 134), (22, 139), (23, 151), (24, 163), (25, 174), (30, 191), (31, 208), (40, 122), (42, 225), (45, 257), (47, 240), (110, 183)], 122) := by decide +kernel
theorem dX14_reckon_152 : decode cX14_reckon 152 = .ok (.iload_n 3, 1) := by decide +kernel
theorem dX14_reckon_153 : decode cX14_reckon 153 = .ok (.ireturn, 1) := by decide +kernel
theorem dX14_reckon_154 : decode cX14_reckon 154 = .ok (.aload_n 1, 1) := by decide +kernel
theorem dX14_reckon_155 : decode cX14_reckon 155 = .ok (.getfield 274, 3) := by decide +kernel
theorem dX14_reckon_158 : decode cX14_reckon 158 = .ok (.ireturn, 1) := by decide +kernel
theorem dX14_reckon_159 : decode cX14_reckon 159 = .ok (.aload_n 1, 1) := by decide +kernel
theorem dX14_reckon_160 : decode cX14_reckon 160 = .ok (.getfield 277, 3) := by decide +kernel
theorem dX14_reckon_163 : decode cX14_reckon 163 = .ok (.ireturn, 1) := by decide +kernel
theorem dX14_reckon_164 : decode cX14_reckon 164 = .ok (.aload_n 1, 1) := by decide +kernel
theorem dX14_reckon_165 : decode cX14_reckon 165 = .ok (.getfield 280, 3) := by decide +kernel
theorem dX14_reckon_168 : decode cX14_reckon 168 = .ok (.ireturn, 1) := by decide +kernel
theorem dX14_reckon_169 : decode cX14_reckon 169 = .ok (.aload_n 1, 1) := by decide +kernel
theorem dX14_reckon_170 : decode cX14_reckon 170 = .ok (.getfield 283, 3) := by decide +kernel
theorem dX14_reckon_173 : decode cX14_reckon 173 = .ok (.bipush 7, 2) := by decide +kernel
theorem dX14_reckon_175 : decode cX14_reckon 175 = .ok (.iload_n 3, 1) := by decide +kernel
theorem dX14_reckon_176 : decode cX14_reckon 176 = .ok (.imul, 1) := by decide +kernel
theorem dX14_reckon_177 : decode cX14_reckon 177 = .ok (.iconst 2, 1) := by decide +kernel
theorem dX14_reckon_178 : decode cX14_reckon 178 = .ok (.iadd, 1) := by decide +kernel
theorem dX14_reckon_179 : decode cX14_reckon 179 = .ok (.iaload, 1) := by decide +kernel
theorem dX14_reckon_180 : decode cX14_reckon 180 = .ok (.ireturn, 1) := by decide +kernel
theorem dX14_reckon_181 : decode cX14_reckon 181 = .ok (.aload_n 1, 1) := by decide +kernel
theorem dX14_reckon_182 : decode cX14_reckon 182 = .ok (.getfield 283, 3) := by decide +kernel
theorem dX14_reckon_185 : decode cX14_reckon 185 = .ok (.bipush 7, 2) := by decide +kernel
theorem dX14_reckon_187 : decode cX14_reckon 187 = .ok (.iload_n 3, 1) := by decide +kernel
theorem dX14_reckon_188 : decode cX14_reckon 188 = .ok (.imul, 1) := by decide +kernel
theorem dX14_reckon_189 : decode cX14_reckon 189 = .ok (.iconst 1, 1) := by decide +kernel
theorem dX14_reckon_190 : decode cX14_reckon 190 = .ok (.iadd, 1) := by decide +kernel
theorem dX14_reckon_191 : decode cX14_reckon 191 = .ok (.iaload, 1) := by decide +kernel
theorem dX14_reckon_192 : decode cX14_reckon 192 = .ok (.ireturn, 1) := by decide +kernel
theorem dX14_reckon_193 : decode cX14_reckon 193 = .ok (.aload_n 1, 1) := by decide +kernel
theorem dX14_reckon_194 : decode cX14_reckon 194 = .ok (.getfield 284, 3) := by decide +kernel
theorem dX14_reckon_197 : decode cX14_reckon 197 = .ok (.iconst 3, 1) := by decide +kernel
theorem dX14_reckon_198 : decode cX14_reckon 198 = .ok (.iload_n 3, 1) := by decide +kernel
theorem dX14_reckon_199 : decode cX14_reckon 199 = .ok (.imul, 1) := by decide +kernel
theorem dX14_reckon_200 : decode cX14_reckon 200 = .ok (.iconst 1, 1) := by decide +kernel
theorem dX14_reckon_201 : decode cX14_reckon 201 = .ok (.iadd, 1) := by decide +kernel
theorem dX14_reckon_202 : decode cX14_reckon 202 = .ok (.iaload, 1) := by decide +kernel
theorem dX14_reckon_203 : decode cX14_reckon 203 = .ok (.ireturn, 1) := by decide +kernel
theorem dX14_reckon_204 : decode cX14_reckon 204 = .ok (.aload_n 1, 1) := by decide +kernel
theorem dX14_reckon_205 : decode cX14_reckon 205 = .ok (.getfield 285, 3) := by decide +kernel
theorem dX14_reckon_208 : decode cX14_reckon 208 = .ok (.iconst 2, 1) := by decide +kernel
theorem dX14_reckon_209 : decode cX14_reckon 209 = .ok (.iload_n 3, 1) := by decide +kernel
theorem dX14_reckon_210 : decode cX14_reckon 210 = .ok (.imul, 1) := by decide +kernel
theorem dX14_reckon_211 : decode cX14_reckon 211 = .ok (.iaload, 1) := by decide +kernel
theorem dX14_reckon_212 : decode cX14_reckon 212 = .ok (.ireturn, 1) := by decide +kernel
theorem dX14_reckon_213 : decode cX14_reckon 213 = .ok (.aload_n 0, 1) := by decide +kernel
theorem dX14_reckon_214 : decode cX14_reckon 214 = .ok (.aload_n 1, 1) := by decide +kernel
theorem dX14_reckon_215 : decode cX14_reckon 215 = .ok (.iload_n 3, 1) := by decide +kernel
theorem dX14_reckon_216 : decode cX14_reckon 216 = .ok (.invokevirtual 286, 3) := by decide +kernel
theorem dX14_reckon_219 : decode cX14_reckon 219 = .ok (.ineg, 1) := by decide +kernel
theorem dX14_reckon_220 : decode cX14_reckon 220 = .ok (.ireturn, 1) := by decide +kernel
theorem dX14_reckon_221 : decode cX14_reckon 221 = .ok (.aload_n 0, 1) := by decide +kernel
theorem dX14_reckon_222 : decode cX14_reckon 222 = .ok (.aload_n 1, 1) := by decide +kernel
theorem dX14_reckon_223 : decode cX14_reckon 223 = .ok (.iload_n 3, 1) := by decide +kernel
theorem dX14_reckon_224 : decode cX14_reckon 224 = .ok (.invokevirtual 286, 3) := by decide +kernel
theorem dX14_reckon_227 : decode cX14_reckon 227 = .ok (.aload_n 0, 1) := by decide +kernel
theorem dX14_reckon_228 : decode cX14_reckon 228 = .ok (.aload_n 1, 1) := by decide +kernel
theorem dX14_reckon_229 : decode cX14_reckon 229 = .ok (.iload 4, 2) := by decide +kernel
theorem dX14_reckon_231 : decode cX14_reckon 231 = .ok (.invokevirtual 286, 3) := by decide +kernel
theorem dX14_reckon_234 : decode cX14_reckon 234 = .ok (.invokestatic 290, 3) := by decide +kernel
theorem dX14_reckon_237 : decode cX14_reckon 237 = .ok (.ireturn, 1) := by decide +kernel
theorem dX14_reckon_238 : decode cX14_reckon 238 = .ok (.aload_n 0, 1) := by decide +kernel
theorem dX14_reckon_239 : decode cX14_reckon 239 = .ok (.aload_n 1, 1) := by decide +kernel
theorem dX14_reckon_240 : decode cX14_reckon 240 = .ok (.iload_n 3, 1) := by decide +kernel
theorem dX14_reckon_241 : decode cX14_reckon 241 = .ok (.invokevirtual 286, 3) := by decide +kernel
theorem dX14_reckon_244 : decode cX14_reckon 244 = .ok (.aload_n 0, 1) := by decide +kernel
theorem dX14_reckon_245 : decode cX14_reckon 245 = .ok (.aload_n 1, 1) := by decide +kernel
theorem dX14_reckon_246 : decode cX14_reckon 246 = .ok (.iload 4, 2) := by decide +kernel
theorem dX14_reckon_248 : decode cX14_reckon 248 = .ok (.invokevirtual 286, 3) := by decide +kernel
theorem dX14_reckon_251 : decode cX14_reckon 251 = .ok (.invokestatic 295, 3) := by decide +kernel
theorem dX14_reckon_254 : decode cX14_reckon 254 = .ok (.ireturn, 1) := by decide +kernel
theorem dX14_reckon_255 : decode cX14_reckon 255 = .ok (.aload_n 0, 1) := by decide +kernel
theorem dX14_reckon_256 : decode cX14_reckon 256 = .ok (.aload_n 1, 1) := by decide +kernel
theorem dX14_reckon_257 : decode cX14_reckon 257 = .ok (.iload_n 3, 1) := by decide +kernel
theorem dX14_reckon_258 : decode cX14_reckon 258 = .ok (.invokevirtual 286, 3) := by decide +kernel
theorem dX14_reckon_261 : decode cX14_reckon 261 = .ok (.aload_n 0, 1) := by decide +kernel
theorem dX14_reckon_262 : decode cX14_reckon 262 = .ok (.aload_n 1, 1) := by decide +kernel
theorem dX14_reckon_263 : decode cX14_reckon 263 = .ok (.iload 4, 2) := by decide +kernel
theorem dX14_reckon_265 : decode cX14_reckon 265 = .ok (.invokevirtual 286, 3) := by decide +kernel
theorem dX14_reckon_268 : decode cX14_reckon 268 = .ok (.imul, 1) := by decide +kernel
theorem dX14_reckon_269 : decode cX14_reckon 269 = .ok (.ireturn, 1) := by decide +kernel
theorem dX14_reckon_270 : decode cX14_reckon 270 = .ok (.aload_n 0, 1) := by decide +kernel
theorem dX14_reckon_271 : decode cX14_reckon 271 = .ok (.aload_n 1, 1) := by decide +kernel
theorem dX14_reckon_272 : decode cX14_reckon 272 = .ok (.iload_n 3, 1) := by decide +kernel
theorem dX14_reckon_273 : decode cX14_reckon 273 = .ok (.invokevirtual 286, 3) := by decide +kernel
theorem dX14_reckon_276 : decode cX14_reckon 276 = .ok (.aload_n 0, 1) := by decide +kernel
theorem dX14_reckon_277 : decode cX14_reckon 277 = .ok (.aload_n 1, 1) := by decide +kernel
theorem dX14_reckon_278 : decode cX14_reckon 278 = .ok (.iload 4, 2) := by decide +kernel
theorem dX14_reckon_280 : decode cX14_reckon 280 = .ok (.invokevirtual 286, 3) := by decide +kernel
theorem dX14_reckon_283 : decode cX14_reckon 283 = .ok (.invokestatic 298, 3) := by decide +kernel
theorem dX14_reckon_286 : decode cX14_reckon 286 = .ok (.ireturn, 1) := by decide +kernel
theorem dX14_reckon_287 : decode cX14_reckon 287 = .ok (.aload_n 0, 1) := by decide +kernel
theorem dX14_reckon_288 : decode cX14_reckon 288 = .ok (.aload_n 1, 1) := by decide +kernel
theorem dX14_reckon_289 : decode cX14_reckon 289 = .ok (.iload_n 3, 1) := by decide +kernel
theorem dX14_reckon_290 : decode cX14_reckon 290 = .ok (.invokevirtual 286, 3) := by decide +kernel
theorem dX14_reckon_293 : decode cX14_reckon 293 = .ok (.aload_n 0, 1) := by decide +kernel
theorem dX14_reckon_294 : decode cX14_reckon 294 = .ok (.aload_n 1, 1) := by decide +kernel
theorem dX14_reckon_295 : decode cX14_reckon 295 = .ok (.iload 4, 2) := by decide +kernel
theorem dX14_reckon_297 : decode cX14_reckon 297 = .ok (.invokevirtual 286, 3) := by decide +kernel
theorem dX14_reckon_300 : decode cX14_reckon 300 = .ok (.isub, 1) := by decide +kernel
theorem dX14_reckon_301 : decode cX14_reckon 301 = .ok (.ireturn, 1) := by decide +kernel
theorem dX14_reckon_302 : decode cX14_reckon 302 = .ok (.aload_n 0, 1) := by decide +kernel
theorem dX14_reckon_303 : decode cX14_reckon 303 = .ok (.aload_n 1, 1) := by decide +kernel
theorem dX14_reckon_304 : decode cX14_reckon 304 = .ok (.iload_n 3, 1) := by decide +kernel
theorem dX14_reckon_305 : decode cX14_reckon 305 = .ok (.invokevirtual 286, 3) := by decide +kernel
theorem dX14_reckon_308 : decode cX14_reckon 308 = .ok (.aload_n 0, 1) := by decide +kernel
theorem dX14_reckon_309 : decode cX14_reckon 309 = .ok (.aload_n 1, 1) := by decide +kernel
theorem dX14_reckon_310 : decode cX14_reckon 310 = .ok (.iload 4, 2) := by decide +kernel
theorem dX14_reckon_312 : decode cX14_reckon 312 = .ok (.invokevirtual 286, 3) := by decide +kernel
theorem dX14_reckon_315 : decode cX14_reckon 315 = .ok (.iadd, 1) := by decide +kernel
theorem dX14_reckon_316 : decode cX14_reckon 316 = .ok (.ireturn, 1) := by decide +kernel
/-! the reference reckons -/
section Rk
variable {G : Gp} {S : AMem} {I : Nat → Nat → Int32} {J : Nat → Nat → Int64} {R : Nat → Nat → Option Nat} {y bl z : Nat} {B : BS} {m : MS}
theorem k_lin (a b c : Nat) : nI a * nI b + nI c = nI (a * b + c) := by rw [k_mul, nI_add]
theorem rdM_319 {g : Int32} : rdM B m 319 g = m.g 1 := if_pos rfl
theorem rdM_320 {g : Int32} : rdM B m 320 g = m.g 2 := by
  unfold rdM
  rw [if_neg (by decide), if_pos rfl]
theorem rdM_321 {g : Int32} : rdM B m 321 g = m.g 0 := by
  unfold rdM
  rw [if_neg (by decide), if_neg (by decide), if_pos rfl]
theorem rdM_326 {g : Int32} : rdM B m 326 g = bI (0 < m.g 2) := by
  unfold rdM
  rw [if_neg (by decide), if_neg (by decide), if_neg (by decide), if_pos rfl]
theorem k_jmin {p q : Int32} : jnE 330 p q = (if q < p then q else p) := by
  unfold jnE
  rw [if_neg (by decide), if_neg (by decide), if_neg (by decide), if_neg (by decide), if_pos rfl]
  by_cases h : p < q
  · rw [if_pos h, if_neg (Int32.not_lt.mpr (Int32.le_of_lt h))]
  · rw [if_neg h]
    by_cases h2 : q < p
    · rw [if_pos h2]
    · rw [if_neg h2]
      exact Int32.le_antisymm (Int32.not_lt.mp h) (Int32.not_lt.mp h2)
theorem k_jmax {p q : Int32} : jnE 331 p q = (if p < q then q else p) := by
  unfold jnE
  rw [if_neg (by decide), if_neg (by decide), if_neg (by decide), if_neg (by decide), if_neg (by decide), if_pos rfl]
  by_cases h : q < p
  · rw [if_pos h, if_neg (Int32.not_lt.mpr (Int32.le_of_lt h))]
  · rw [if_neg h]
    by_cases h2 : p < q
    · rw [if_pos h2]
    · rw [if_neg h2]
      exact Int32.le_antisymm (Int32.not_lt.mp h2) (Int32.not_lt.mp h)
theorem k_X14_reckon (hG : okG G) (hM : MCb S R y bl) (hS : SCc S R z) (hF : B.nF ≤ 8) (hR : B.nR ≤ 4) (hP : B.nP ≤ 8) (hs : RS I z B m) : ∀ f n s, NdN (I (bl + 6)) (I (bl + 7)) (I (bl + 8)) B.nR B.nF B.nP f n s → n < 401 → Fn G mX14_reckon f [vR y, vR z, vI (nI n)] (mw S I J R) (fun rr M1 => rr = some (vI (s (rdM B m))) ∧ M1 = mw S I J R) := by
  obtain ⟨ky, ry, kb, b5, b6, b7, b8, b9, b11, b12, b13, _, _, _, _, _, ⟨ko, lo⟩, ⟨ka, la⟩, kd, ld⟩ := hM
  obtain ⟨kz, z6, z7, z8, z9, z10, ⟨kz1, lz1⟩, ⟨kz2, lz2⟩, ⟨kz3, lz3⟩, ⟨kz4, lz4⟩, kz5, lz5⟩ := hS
  obtain ⟨⟨g0, g1, g2, g3, g4, g5, g6⟩, hbd, hra, hfi, hpr, hp0, hro⟩ := hs
  intro f
  induction f with
  | zero => intro n s h; exact False.elim h
  | succ f ih =>
    intro n s h hn
    have ina : vp_in (nI n) (S.ln (bl + 7)) := by rw [la]; exact vp_in_nI hn (by decide)
    have ind : vp_in (nI n) (S.ln (bl + 8)) := by rw [ld]; exact vp_in_nI hn (by decide)
    have ino : vp_in (nI n) (S.ln (bl + 6)) := by rw [lo]; exact vp_in_nI hn (by decide)
    refine am_aload_n (q := 1) dX14_reckon_0 rfl rfl ?_
    refine cm_getR (q := 4) dX14_reckon_1 flX14_32 rfl (by assumption) (by assumption) rfl ?_
    refine cm_getR (q := 7) dX14_reckon_4 flX14_266 rfl (by assumption) (by assumption) rfl ?_
    refine am_iload_n (q := 8) dX14_reckon_7 rfl rfl ?_
    refine cm_iaload (q := 9) dX14_reckon_8 (by assumption) ina rfl ?_
    rw [nI_clamp (show n < 2 ^ 31 by omega)]
    refine am_istore_n (q := 10) (ls1 := [_, _, _, _, _]) dX14_reckon_9 (Nat.le_of_ble_eq_true rfl) rfl rfl ?_
    refine am_aload_n (q := 11) dX14_reckon_10 rfl rfl ?_
    refine cm_getR (q := 14) dX14_reckon_11 flX14_32 rfl (by assumption) (by assumption) rfl ?_
    refine cm_getR (q := 17) dX14_reckon_14 flX14_268 rfl (by assumption) (by assumption) rfl ?_
    refine am_iload_n (q := 18) dX14_reckon_17 rfl rfl ?_
    refine cm_iaload (q := 19) dX14_reckon_18 (by assumption) ind rfl ?_
    rw [nI_clamp (show n < 2 ^ 31 by omega)]
    refine am_istore (q := 21) (ls1 := [_, _, _, _, _]) dX14_reckon_19 (Nat.le_of_ble_eq_true rfl) rfl rfl ?_
    refine am_aload_n (q := 22) dX14_reckon_21 rfl rfl ?_
    refine cm_getR (q := 25) dX14_reckon_22 flX14_32 rfl (by assumption) (by assumption) rfl ?_
    refine cm_getR (q := 28) dX14_reckon_25 flX14_271 rfl (by assumption) (by assumption) rfl ?_
    refine am_iload_n (q := 29) dX14_reckon_28 rfl rfl ?_
    refine cm_iaload (q := 30) dX14_reckon_29 (by assumption) ino rfl ?_
    rw [nI_clamp (show n < 2 ^ 31 by omega)]
    rcases h with ⟨h1, rfl⟩ | ⟨g, h1, rfl⟩ | ⟨j, hj, h1, rfl⟩ | ⟨a, u, h1, ha, han, hu, rfl⟩ | ⟨a, b, u, v, ha, hb, han, hbn, h1, hu, hv, rfl⟩
    · rw [h1]
      refine am_lookup (tgt := 152) dX14_reckon_30 (by decide) rfl rfl ?_
      refine am_iload_n (q := 153) dX14_reckon_152 rfl rfl ?_
      exact am_iret dX14_reckon_153 rfl rfl ⟨_, rfl, rfl, rfl⟩
    · rcases h1 with h1 | h1 | h1
      · dsimp only
        rw [h1, show (19 + 300 : Int32) = 319 from rfl, rdM_319, ← g3]
        refine am_lookup (tgt := 154) dX14_reckon_30 (by decide) rfl rfl ?_
        refine am_aload_n (q := 155) dX14_reckon_154 rfl rfl ?_
        refine cm_getI (q := 158) dX14_reckon_155 flX14_274 rfl (by assumption) rfl ?_
        exact am_iret dX14_reckon_158 rfl rfl ⟨_, rfl, rfl, rfl⟩
      · dsimp only
        rw [h1, show (20 + 300 : Int32) = 320 from rfl, rdM_320, ← g4]
        refine am_lookup (tgt := 159) dX14_reckon_30 (by decide) rfl rfl ?_
        refine am_aload_n (q := 160) dX14_reckon_159 rfl rfl ?_
        refine cm_getI (q := 163) dX14_reckon_160 flX14_277 rfl (by assumption) rfl ?_
        exact am_iret dX14_reckon_163 rfl rfl ⟨_, rfl, rfl, rfl⟩
      · dsimp only
        rw [h1, show (21 + 300 : Int32) = 321 from rfl, rdM_321, ← g0]
        refine am_lookup (tgt := 164) dX14_reckon_30 (by decide) rfl rfl ?_
        refine am_aload_n (q := 165) dX14_reckon_164 rfl rfl ?_
        refine cm_getI (q := 168) dX14_reckon_165 flX14_280 rfl (by assumption) rfl ?_
        exact am_iret dX14_reckon_168 rfl rfl ⟨_, rfl, rfl, rfl⟩
    · dsimp only
      rw [hj]
      rcases h1 with ⟨hlt, h1 | h1⟩ | ⟨hlt, h1⟩ | ⟨hlt, h1⟩
      · rw [h1, show (22 + 300 : Int32) = 322 from rfl, (rdM_fist hlt hF).1, ← hfi j hlt 2 (by decide)]
        refine am_lookup (tgt := 169) dX14_reckon_30 (by decide) rfl rfl ?_
        refine am_aload_n (q := 170) dX14_reckon_169 rfl rfl ?_
        refine cm_getR (q := 173) dX14_reckon_170 flX14_283 rfl (by assumption) (by assumption) rfl ?_
        refine am_bipush (q := 175) (v := 7) dX14_reckon_173 kc_b7 rfl ?_
        refine am_iload_n (q := 176) dX14_reckon_175 rfl rfl ?_
        refine am_imul (q := 177) dX14_reckon_176 rfl ?_
        refine am_iconst (q := 178) (v := 2) dX14_reckon_177 kc_i2 rfl ?_
        refine am_iadd (q := 179) dX14_reckon_178 rfl ?_
        rw [show (7 * nI j + 2 : Int32) = nI (7 * j + 2) from k_lin 7 j 2]
        refine cm_iaload (q := 180) dX14_reckon_179 (by assumption) (by rw [lz3]; exact vp_in_nI (by omega) (by decide)) rfl ?_
        rw [nI_clamp (show 7 * j + 2 < 2 ^ 31 by omega)]
        exact am_iret dX14_reckon_180 rfl rfl ⟨_, rfl, rfl, rfl⟩
      · rw [h1, show (23 + 300 : Int32) = 323 from rfl, (rdM_fist hlt hF).2, ← hfi j hlt 1 (by decide)]
        refine am_lookup (tgt := 181) dX14_reckon_30 (by decide) rfl rfl ?_
        refine am_aload_n (q := 182) dX14_reckon_181 rfl rfl ?_
        refine cm_getR (q := 185) dX14_reckon_182 flX14_283 rfl (by assumption) (by assumption) rfl ?_
        refine am_bipush (q := 187) (v := 7) dX14_reckon_185 kc_b7 rfl ?_
        refine am_iload_n (q := 188) dX14_reckon_187 rfl rfl ?_
        refine am_imul (q := 189) dX14_reckon_188 rfl ?_
        refine am_iconst (q := 190) (v := 1) dX14_reckon_189 kc_i1 rfl ?_
        refine am_iadd (q := 191) dX14_reckon_190 rfl ?_
        rw [show (7 * nI j + 1 : Int32) = nI (7 * j + 1) from k_lin 7 j 1]
        refine cm_iaload (q := 192) dX14_reckon_191 (by assumption) (by rw [lz3]; exact vp_in_nI (by omega) (by decide)) rfl ?_
        rw [nI_clamp (show 7 * j + 1 < 2 ^ 31 by omega)]
        exact am_iret dX14_reckon_192 rfl rfl ⟨_, rfl, rfl, rfl⟩
      · rw [h1, show (24 + 300 : Int32) = 324 from rfl, rdM_rail hlt hR, ← hra j hlt 1 (by decide)]
        refine am_lookup (tgt := 193) dX14_reckon_30 (by decide) rfl rfl ?_
        refine am_aload_n (q := 194) dX14_reckon_193 rfl rfl ?_
        refine cm_getR (q := 197) dX14_reckon_194 flX14_284 rfl (by assumption) (by assumption) rfl ?_
        refine am_iconst (q := 198) (v := 3) dX14_reckon_197 kc_i3 rfl ?_
        refine am_iload_n (q := 199) dX14_reckon_198 rfl rfl ?_
        refine am_imul (q := 200) dX14_reckon_199 rfl ?_
        refine am_iconst (q := 201) (v := 1) dX14_reckon_200 kc_i1 rfl ?_
        refine am_iadd (q := 202) dX14_reckon_201 rfl ?_
        rw [show (3 * nI j + 1 : Int32) = nI (3 * j + 1) from k_lin 3 j 1]
        refine cm_iaload (q := 203) dX14_reckon_202 (by assumption) (by rw [lz2]; exact vp_in_nI (by omega) (by decide)) rfl ?_
        rw [nI_clamp (show 3 * j + 1 < 2 ^ 31 by omega)]
        exact am_iret dX14_reckon_203 rfl rfl ⟨_, rfl, rfl, rfl⟩
      · rw [h1, show (25 + 300 : Int32) = 325 from rfl, rdM_prize hlt hP, ← hpr j hlt 0 (by decide)]
        refine am_lookup (tgt := 204) dX14_reckon_30 (by decide) rfl rfl ?_
        refine am_aload_n (q := 205) dX14_reckon_204 rfl rfl ?_
        refine cm_getR (q := 208) dX14_reckon_205 flX14_285 rfl (by assumption) (by assumption) rfl ?_
        refine am_iconst (q := 209) (v := 2) dX14_reckon_208 kc_i2 rfl ?_
        refine am_iload_n (q := 210) dX14_reckon_209 rfl rfl ?_
        refine am_imul (q := 211) dX14_reckon_210 rfl ?_
        rw [show (2 * nI j : Int32) = nI (2 * j + 0) from k_mul 2 j]
        refine cm_iaload (q := 212) dX14_reckon_211 (by assumption) (by rw [lz4]; exact vp_in_nI (by omega) (by decide)) rfl ?_
        rw [nI_clamp (show 2 * j + 0 < 2 ^ 31 by omega)]
        exact am_iret dX14_reckon_212 rfl rfl ⟨_, rfl, rfl, rfl⟩
    · rw [h1, ha]
      refine am_lookup (tgt := 213) dX14_reckon_30 (by decide) rfl rfl ?_
      refine am_aload_n (q := 214) dX14_reckon_213 rfl rfl ?_
      refine am_aload_n (q := 215) dX14_reckon_214 rfl rfl ?_
      refine am_iload_n (q := 216) dX14_reckon_215 rfl rfl ?_
      refine cm_call0 (q := 219) (As := [_, _]) hG dX14_reckon_216 mlX14_286 rfl (by assumption) ⟨_, _, rfl⟩ (Nat.le_of_ble_eq_true rfl) (Nat.le_of_ble_eq_true rfl) (by omega) (Nat.le_of_ble_eq_true rfl) (ih a u hu (by omega)) rfl ?_
      rintro _ _ ⟨rfl, rfl⟩
      refine am_ineg (q := 220) dX14_reckon_219 rfl ?_
      exact am_iret dX14_reckon_220 rfl rfl ⟨_, rfl, rfl, rfl⟩
    · dsimp only
      rw [ha, hb]
      rcases h1 with h1 | h1 | h1 | h1 | h1 | h1
      · rw [h1, if_pos rfl]
        refine am_lookup (tgt := 221) dX14_reckon_30 (by decide) rfl rfl ?_
        refine am_aload_n (q := 222) dX14_reckon_221 rfl rfl ?_
        refine am_aload_n (q := 223) dX14_reckon_222 rfl rfl ?_
        refine am_iload_n (q := 224) dX14_reckon_223 rfl rfl ?_
        refine cm_call0 (q := 227) (As := [_, _]) hG dX14_reckon_224 mlX14_286 rfl (by assumption) ⟨_, _, rfl⟩ (Nat.le_of_ble_eq_true rfl) (Nat.le_of_ble_eq_true rfl) (by omega) (Nat.le_of_ble_eq_true rfl) (ih a u hu (by omega)) rfl ?_
        rintro _ _ ⟨rfl, rfl⟩
        refine am_aload_n (q := 228) dX14_reckon_227 rfl rfl ?_
        refine am_aload_n (q := 229) dX14_reckon_228 rfl rfl ?_
        refine am_iload (q := 231) dX14_reckon_229 rfl rfl ?_
        refine cm_call0 (q := 234) (As := [_, _]) hG dX14_reckon_231 mlX14_286 rfl (by assumption) ⟨_, _, rfl⟩ (Nat.le_of_ble_eq_true rfl) (Nat.le_of_ble_eq_true rfl) (by omega) (Nat.le_of_ble_eq_true rfl) (ih b v hv (by omega)) rfl ?_
        rintro _ _ ⟨rfl, rfl⟩
        refine am_mmin (q := 237) dX14_reckon_234 (tbc7 175 rfl rfl) tb_min1 tb_math tb_min2 (Nat.le_of_ble_eq_true rfl) rfl ?_
        exact am_iret dX14_reckon_237 rfl rfl ⟨_, rfl, by rw [k_jmin], rfl⟩
      · rw [h1, if_neg (by decide), if_pos rfl]
        refine am_lookup (tgt := 238) dX14_reckon_30 (by decide) rfl rfl ?_
        refine am_aload_n (q := 239) dX14_reckon_238 rfl rfl ?_
        refine am_aload_n (q := 240) dX14_reckon_239 rfl rfl ?_
        refine am_iload_n (q := 241) dX14_reckon_240 rfl rfl ?_
        refine cm_call0 (q := 244) (As := [_, _]) hG dX14_reckon_241 mlX14_286 rfl (by assumption) ⟨_, _, rfl⟩ (Nat.le_of_ble_eq_true rfl) (Nat.le_of_ble_eq_true rfl) (by omega) (Nat.le_of_ble_eq_true rfl) (ih a u hu (by omega)) rfl ?_
        rintro _ _ ⟨rfl, rfl⟩
        refine am_aload_n (q := 245) dX14_reckon_244 rfl rfl ?_
        refine am_aload_n (q := 246) dX14_reckon_245 rfl rfl ?_
        refine am_iload (q := 248) dX14_reckon_246 rfl rfl ?_
        refine cm_call0 (q := 251) (As := [_, _]) hG dX14_reckon_248 mlX14_286 rfl (by assumption) ⟨_, _, rfl⟩ (Nat.le_of_ble_eq_true rfl) (Nat.le_of_ble_eq_true rfl) (by omega) (Nat.le_of_ble_eq_true rfl) (ih b v hv (by omega)) rfl ?_
        rintro _ _ ⟨rfl, rfl⟩
        refine am_mmax (q := 254) dX14_reckon_251 (tbc7 178 rfl rfl) tb_max1 tb_math tb_max2 (Nat.le_of_ble_eq_true rfl) rfl ?_
        exact am_iret dX14_reckon_254 rfl rfl ⟨_, rfl, by rw [k_jmax], rfl⟩
      · rw [h1, if_neg (by decide), if_neg (by decide)]
        refine am_lookup (tgt := 255) dX14_reckon_30 (by decide) rfl rfl ?_
        refine am_aload_n (q := 256) dX14_reckon_255 rfl rfl ?_
        refine am_aload_n (q := 257) dX14_reckon_256 rfl rfl ?_
        refine am_iload_n (q := 258) dX14_reckon_257 rfl rfl ?_
        refine cm_call0 (q := 261) (As := [_, _]) hG dX14_reckon_258 mlX14_286 rfl (by assumption) ⟨_, _, rfl⟩ (Nat.le_of_ble_eq_true rfl) (Nat.le_of_ble_eq_true rfl) (by omega) (Nat.le_of_ble_eq_true rfl) (ih a u hu (by omega)) rfl ?_
        rintro _ _ ⟨rfl, rfl⟩
        refine am_aload_n (q := 262) dX14_reckon_261 rfl rfl ?_
        refine am_aload_n (q := 263) dX14_reckon_262 rfl rfl ?_
        refine am_iload (q := 265) dX14_reckon_263 rfl rfl ?_
        refine cm_call0 (q := 268) (As := [_, _]) hG dX14_reckon_265 mlX14_286 rfl (by assumption) ⟨_, _, rfl⟩ (Nat.le_of_ble_eq_true rfl) (Nat.le_of_ble_eq_true rfl) (by omega) (Nat.le_of_ble_eq_true rfl) (ih b v hv (by omega)) rfl ?_
        rintro _ _ ⟨rfl, rfl⟩
        refine am_imul (q := 269) dX14_reckon_268 rfl ?_
        exact am_iret dX14_reckon_269 rfl rfl ⟨_, rfl, rfl, rfl⟩
      · rw [h1, if_neg (by decide), if_neg (by decide)]
        have f1 : 1 ≤ f := by
          cases f with
          | zero => exact False.elim hu
          | succ f => omega
        refine am_lookup (tgt := 270) dX14_reckon_30 (by decide) rfl rfl ?_
        refine am_aload_n (q := 271) dX14_reckon_270 rfl rfl ?_
        refine am_aload_n (q := 272) dX14_reckon_271 rfl rfl ?_
        refine am_iload_n (q := 273) dX14_reckon_272 rfl rfl ?_
        refine cm_call0 (q := 276) (As := [_, _]) hG dX14_reckon_273 mlX14_286 rfl (by assumption) ⟨_, _, rfl⟩ (Nat.le_of_ble_eq_true rfl) (Nat.le_of_ble_eq_true rfl) (by omega) (Nat.le_of_ble_eq_true rfl) (ih a u hu (by omega)) rfl ?_
        rintro _ _ ⟨rfl, rfl⟩
        refine am_aload_n (q := 277) dX14_reckon_276 rfl rfl ?_
        refine am_aload_n (q := 278) dX14_reckon_277 rfl rfl ?_
        refine am_iload (q := 280) dX14_reckon_278 rfl rfl ?_
        refine cm_call0 (q := 283) (As := [_, _]) hG dX14_reckon_280 mlX14_286 rfl (by assumption) ⟨_, _, rfl⟩ (Nat.le_of_ble_eq_true rfl) (Nat.le_of_ble_eq_true rfl) (by omega) (Nat.le_of_ble_eq_true rfl) (ih b v hv (by omega)) rfl ?_
        rintro _ _ ⟨rfl, rfl⟩
        refine am_call1 (q := 286) (As := [_, _]) hG dX14_reckon_283 mlX14_298 rfl (Nat.le_of_ble_eq_true rfl) (by omega) (Nat.le_of_ble_eq_true rfl) k_X14_parts rfl ?_
        rintro _ _ ⟨rfl, rfl⟩
        exact am_iret dX14_reckon_286 rfl rfl ⟨_, rfl, rfl, rfl⟩
      · rw [h1, if_neg (by decide), if_neg (by decide)]
        refine am_lookup (tgt := 287) dX14_reckon_30 (by decide) rfl rfl ?_
        refine am_aload_n (q := 288) dX14_reckon_287 rfl rfl ?_
        refine am_aload_n (q := 289) dX14_reckon_288 rfl rfl ?_
        refine am_iload_n (q := 290) dX14_reckon_289 rfl rfl ?_
        refine cm_call0 (q := 293) (As := [_, _]) hG dX14_reckon_290 mlX14_286 rfl (by assumption) ⟨_, _, rfl⟩ (Nat.le_of_ble_eq_true rfl) (Nat.le_of_ble_eq_true rfl) (by omega) (Nat.le_of_ble_eq_true rfl) (ih a u hu (by omega)) rfl ?_
        rintro _ _ ⟨rfl, rfl⟩
        refine am_aload_n (q := 294) dX14_reckon_293 rfl rfl ?_
        refine am_aload_n (q := 295) dX14_reckon_294 rfl rfl ?_
        refine am_iload (q := 297) dX14_reckon_295 rfl rfl ?_
        refine cm_call0 (q := 300) (As := [_, _]) hG dX14_reckon_297 mlX14_286 rfl (by assumption) ⟨_, _, rfl⟩ (Nat.le_of_ble_eq_true rfl) (Nat.le_of_ble_eq_true rfl) (by omega) (Nat.le_of_ble_eq_true rfl) (ih b v hv (by omega)) rfl ?_
        rintro _ _ ⟨rfl, rfl⟩
        refine am_isub (q := 301) dX14_reckon_300 rfl ?_
        exact am_iret dX14_reckon_301 rfl rfl ⟨_, rfl, rfl, rfl⟩
      · rw [h1, if_neg (by decide), if_neg (by decide)]
        refine am_lookup (tgt := 302) dX14_reckon_30 (by decide) rfl rfl ?_
        refine am_aload_n (q := 303) dX14_reckon_302 rfl rfl ?_
        refine am_aload_n (q := 304) dX14_reckon_303 rfl rfl ?_
        refine am_iload_n (q := 305) dX14_reckon_304 rfl rfl ?_
        refine cm_call0 (q := 308) (As := [_, _]) hG dX14_reckon_305 mlX14_286 rfl (by assumption) ⟨_, _, rfl⟩ (Nat.le_of_ble_eq_true rfl) (Nat.le_of_ble_eq_true rfl) (by omega) (Nat.le_of_ble_eq_true rfl) (ih a u hu (by omega)) rfl ?_
        rintro _ _ ⟨rfl, rfl⟩
        refine am_aload_n (q := 309) dX14_reckon_308 rfl rfl ?_
        refine am_aload_n (q := 310) dX14_reckon_309 rfl rfl ?_
        refine am_iload (q := 312) dX14_reckon_310 rfl rfl ?_
        refine cm_call0 (q := 315) (As := [_, _]) hG dX14_reckon_312 mlX14_286 rfl (by assumption) ⟨_, _, rfl⟩ (Nat.le_of_ble_eq_true rfl) (Nat.le_of_ble_eq_true rfl) (by omega) (Nat.le_of_ble_eq_true rfl) (ih b v hv (by omega)) rfl ?_
        rintro _ _ ⟨rfl, rfl⟩
        refine am_iadd (q := 316) dX14_reckon_315 rfl ?_
        exact am_iret dX14_reckon_316 rfl rfl ⟨_, rfl, rfl, rfl⟩
end Rk

