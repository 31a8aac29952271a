theorem dX14_holds_0 : decode cX14_holds 0 = .ok (.aload_n 0, 1) := by decide +kernel
theorem dX14_holds_1 : decode cX14_holds 1 = .ok (.getfield 32, 3) := by decide +kernel
theorem dX14_holds_4 : decode cX14_holds 4 = .ok (.getfield 266, 3) := by decide +kernel
theorem dX14_holds_7 : decode cX14_holds 7 = .ok (.iload_n 2, 1) := by decide +kernel
theorem dX14_holds_8 : decode cX14_holds 8 = .ok (.iaload, 1) := by decide +kernel
theorem dX14_holds_9 : decode cX14_holds 9 = .ok (.istore_n 3, 1) := by decide +kernel
theorem dX14_holds_10 : decode cX14_holds 10 = .ok (.aload_n 0, 1) := by decide +kernel
theorem dX14_holds_11 : decode cX14_holds 11 = .ok (.getfield 32, 3) := by decide +kernel
theorem dX14_holds_14 : decode cX14_holds 14 = .ok (.getfield 268, 3) := by decide +kernel
theorem dX14_holds_17 : decode cX14_holds 17 = .ok (.iload_n 2, 1) := by decide +kernel
theorem dX14_holds_18 : decode cX14_holds 18 = .ok (.iaload, 1) := by decide +kernel
theorem dX14_holds_19 : decode cX14_holds 19 = .ok (.istore 4, 2) := by decide +kernel
theorem dX14_holds_21 : decode cX14_holds 21 = .ok (.aload_n 0, 1) := by decide +kernel
theorem dX14_holds_22 : decode cX14_holds 22 = .ok (.getfield 32, 3) := by decide +kernel
theorem dX14_holds_25 : decode cX14_holds 25 = .ok (.getfield 271, 3) := by decide +kernel
theorem dX14_holds_28 : decode cX14_holds 28 = .ok (.iload_n 2, 1) := by decide +kernel
theorem dX14_holds_29 : decode cX14_holds 29 = .ok (.iaload, 1) := by decide +kernel
theorem dX14_holds_30 : decode cX14_holds 30 = .ok (.lookupswitch 220 #[(26, 74), (27, 87), (28, 102), (29, 117), (60, 132), (62, 154), (103, 198), (108, 176)], 74) := by decide +kernel
theorem dX14_holds_104 : decode cX14_holds 104 = .ok (.aload_n 1, 1) := by decide +kernel
theorem dX14_holds_105 : decode cX14_holds 105 = .ok (.getfield 277, 3) := by decide +kernel
theorem dX14_holds_108 : decode cX14_holds 108 = .ok (.ifCond .le 7, 3) := by decide +kernel
theorem dX14_holds_111 : decode cX14_holds 111 = .ok (.iconst 1, 1) := by decide +kernel
theorem dX14_holds_112 : decode cX14_holds 112 = .ok (.goto 4, 3) := by decide +kernel
theorem dX14_holds_115 : decode cX14_holds 115 = .ok (.iconst 0, 1) := by decide +kernel
theorem dX14_holds_116 : decode cX14_holds 116 = .ok (.ireturn, 1) := by decide +kernel
theorem dX14_holds_117 : decode cX14_holds 117 = .ok (.aload_n 0, 1) := by decide +kernel
theorem dX14_holds_118 : decode cX14_holds 118 = .ok (.aload_n 1, 1) := by decide +kernel
theorem dX14_holds_119 : decode cX14_holds 119 = .ok (.iload_n 3, 1) := by decide +kernel
theorem dX14_holds_120 : decode cX14_holds 120 = .ok (.invokevirtual 301, 3) := by decide +kernel
theorem dX14_holds_123 : decode cX14_holds 123 = .ok (.ifCond .ne 7, 3) := by decide +kernel
theorem dX14_holds_126 : decode cX14_holds 126 = .ok (.iconst 1, 1) := by decide +kernel
theorem dX14_holds_127 : decode cX14_holds 127 = .ok (.goto 4, 3) := by decide +kernel
theorem dX14_holds_130 : decode cX14_holds 130 = .ok (.iconst 0, 1) := by decide +kernel
theorem dX14_holds_131 : decode cX14_holds 131 = .ok (.ireturn, 1) := by decide +kernel
theorem dX14_holds_132 : decode cX14_holds 132 = .ok (.aload_n 0, 1) := by decide +kernel
theorem dX14_holds_133 : decode cX14_holds 133 = .ok (.aload_n 1, 1) := by decide +kernel
theorem dX14_holds_134 : decode cX14_holds 134 = .ok (.iload_n 3, 1) := by decide +kernel
theorem dX14_holds_135 : decode cX14_holds 135 = .ok (.invokevirtual 301, 3) := by decide +kernel
theorem dX14_holds_138 : decode cX14_holds 138 = .ok (.aload_n 0, 1) := by decide +kernel
theorem dX14_holds_139 : decode cX14_holds 139 = .ok (.aload_n 1, 1) := by decide +kernel
theorem dX14_holds_140 : decode cX14_holds 140 = .ok (.iload 4, 2) := by decide +kernel
theorem dX14_holds_142 : decode cX14_holds 142 = .ok (.invokevirtual 301, 3) := by decide +kernel
theorem dX14_holds_145 : decode cX14_holds 145 = .ok (.iand, 1) := by decide +kernel
theorem dX14_holds_146 : decode cX14_holds 146 = .ok (.ireturn, 1) := by decide +kernel
theorem dX14_holds_147 : decode cX14_holds 147 = .ok (.aload_n 0, 1) := by decide +kernel
theorem dX14_holds_148 : decode cX14_holds 148 = .ok (.aload_n 1, 1) := by decide +kernel
theorem dX14_holds_149 : decode cX14_holds 149 = .ok (.iload_n 3, 1) := by decide +kernel
theorem dX14_holds_150 : decode cX14_holds 150 = .ok (.invokevirtual 301, 3) := by decide +kernel
theorem dX14_holds_153 : decode cX14_holds 153 = .ok (.aload_n 0, 1) := by decide +kernel
theorem dX14_holds_154 : decode cX14_holds 154 = .ok (.aload_n 1, 1) := by decide +kernel
theorem dX14_holds_155 : decode cX14_holds 155 = .ok (.iload 4, 2) := by decide +kernel
theorem dX14_holds_157 : decode cX14_holds 157 = .ok (.invokevirtual 301, 3) := by decide +kernel
theorem dX14_holds_160 : decode cX14_holds 160 = .ok (.ior, 1) := by decide +kernel
theorem dX14_holds_161 : decode cX14_holds 161 = .ok (.ireturn, 1) := by decide +kernel
theorem dX14_holds_162 : decode cX14_holds 162 = .ok (.aload_n 0, 1) := by decide +kernel
theorem dX14_holds_163 : decode cX14_holds 163 = .ok (.aload_n 1, 1) := by decide +kernel
theorem dX14_holds_164 : decode cX14_holds 164 = .ok (.iload_n 3, 1) := by decide +kernel
theorem dX14_holds_165 : decode cX14_holds 165 = .ok (.invokevirtual 286, 3) := by decide +kernel
theorem dX14_holds_168 : decode cX14_holds 168 = .ok (.aload_n 0, 1) := by decide +kernel
theorem dX14_holds_169 : decode cX14_holds 169 = .ok (.aload_n 1, 1) := by decide +kernel
theorem dX14_holds_170 : decode cX14_holds 170 = .ok (.iload 4, 2) := by decide +kernel
theorem dX14_holds_172 : decode cX14_holds 172 = .ok (.invokevirtual 286, 3) := by decide +kernel
theorem dX14_holds_175 : decode cX14_holds 175 = .ok (.if_icmp .ge 7, 3) := by decide +kernel
theorem dX14_holds_178 : decode cX14_holds 178 = .ok (.iconst 1, 1) := by decide +kernel
theorem dX14_holds_179 : decode cX14_holds 179 = .ok (.goto 4, 3) := by decide +kernel
theorem dX14_holds_182 : decode cX14_holds 182 = .ok (.iconst 0, 1) := by decide +kernel
theorem dX14_holds_183 : decode cX14_holds 183 = .ok (.ireturn, 1) := by decide +kernel
theorem dX14_holds_184 : decode cX14_holds 184 = .ok (.aload_n 0, 1) := by decide +kernel
theorem dX14_holds_185 : decode cX14_holds 185 = .ok (.aload_n 1, 1) := by decide +kernel
theorem dX14_holds_186 : decode cX14_holds 186 = .ok (.iload_n 3, 1) := by decide +kernel
theorem dX14_holds_187 : decode cX14_holds 187 = .ok (.invokevirtual 286, 3) := by decide +kernel
theorem dX14_holds_190 : decode cX14_holds 190 = .ok (.aload_n 0, 1) := by decide +kernel
theorem dX14_holds_191 : decode cX14_holds 191 = .ok (.aload_n 1, 1) := by decide +kernel
theorem dX14_holds_192 : decode cX14_holds 192 = .ok (.iload 4, 2) := by decide +kernel
theorem dX14_holds_194 : decode cX14_holds 194 = .ok (.invokevirtual 286, 3) := by decide +kernel
theorem dX14_holds_197 : decode cX14_holds 197 = .ok (.if_icmp .le 7, 3) := by decide +kernel
theorem dX14_holds_200 : decode cX14_holds 200 = .ok (.iconst 1, 1) := by decide +kernel
theorem dX14_holds_201 : decode cX14_holds 201 = .ok (.goto 4, 3) := by decide +kernel
theorem dX14_holds_204 : decode cX14_holds 204 = .ok (.iconst 0, 1) := by decide +kernel
theorem dX14_holds_205 : decode cX14_holds 205 = .ok (.ireturn, 1) := by decide +kernel
theorem dX14_holds_206 : decode cX14_holds 206 = .ok (.aload_n 0, 1) := by decide +kernel
theorem dX14_holds_207 : decode cX14_holds 207 = .ok (.aload_n 1, 1) := by decide +kernel
theorem dX14_holds_208 : decode cX14_holds 208 = .ok (.iload_n 3, 1) := by decide +kernel
theorem dX14_holds_209 : decode cX14_holds 209 = .ok (.invokevirtual 286, 3) := by decide +kernel
theorem dX14_holds_212 : decode cX14_holds 212 = .ok (.aload_n 0, 1) := by decide +kernel
theorem dX14_holds_213 : decode cX14_holds 213 = .ok (.aload_n 1, 1) := by decide +kernel
theorem dX14_holds_214 : decode cX14_holds 214 = .ok (.iload 4, 2) := by decide +kernel
theorem dX14_holds_216 : decode cX14_holds 216 = .ok (.invokevirtual 286, 3) := by decide +kernel
theorem dX14_holds_219 : decode cX14_holds 219 = .ok (.if_icmp .gt 7, 3) := by decide +kernel
theorem dX14_holds_222 : decode cX14_holds 222 = .ok (.iconst 1, 1) := by decide +kernel
theorem dX14_holds_223 : decode cX14_holds 223 = .ok (.goto 4, 3) := by decide +kernel
theorem dX14_holds_226 : decode cX14_holds 226 = .ok (.iconst 0, 1) := by decide +kernel
theorem dX14_holds_227 : decode cX14_holds 227 = .ok (.ireturn, 1) := by decide +kernel
theorem dX14_holds_228 : decode cX14_holds 228 = .ok (.aload_n 0, 1) := by decide +kernel
theorem dX14_holds_229 : decode cX14_holds 229 = .ok (.aload_n 1, 1) := by decide +kernel
theorem dX14_holds_230 : decode cX14_holds 230 = .ok (.iload_n 3, 1) := by decide +kernel
theorem dX14_holds_231 : decode cX14_holds 231 = .ok (.invokevirtual 286, 3) := by decide +kernel
theorem dX14_holds_234 : decode cX14_holds 234 = .ok (.aload_n 0, 1) := by decide +kernel
theorem dX14_holds_235 : decode cX14_holds 235 = .ok (.aload_n 1, 1) := by decide +kernel
theorem dX14_holds_236 : decode cX14_holds 236 = .ok (.iload 4, 2) := by decide +kernel
theorem dX14_holds_238 : decode cX14_holds 238 = .ok (.invokevirtual 286, 3) := by decide +kernel
theorem dX14_holds_241 : decode cX14_holds 241 = .ok (.if_icmp .lt 7, 3) := by decide +kernel
theorem dX14_holds_244 : decode cX14_holds 244 = .ok (.iconst 1, 1) := by decide +kernel
theorem dX14_holds_245 : decode cX14_holds 245 = .ok (.goto 4, 3) := by decide +kernel
theorem dX14_holds_248 : decode cX14_holds 248 = .ok (.iconst 0, 1) := by decide +kernel
theorem dX14_holds_249 : decode cX14_holds 249 = .ok (.ireturn, 1) := by decide +kernel
theorem dX14_holds_250 : decode cX14_holds 250 = .ok (.aload_n 0, 1) := by decide +kernel
theorem dX14_holds_251 : decode cX14_holds 251 = .ok (.aload_n 1, 1) := by decide +kernel
theorem dX14_holds_252 : decode cX14_holds 252 = .ok (.iload_n 3, 1) := by decide +kernel
theorem dX14_holds_253 : decode cX14_holds 253 = .ok (.invokevirtual 286, 3) := by decide +kernel
theorem dX14_holds_256 : decode cX14_holds 256 = .ok (.aload_n 0, 1) := by decide +kernel
theorem dX14_holds_257 : decode cX14_holds 257 = .ok (.aload_n 1, 1) := by decide +kernel
theorem dX14_holds_258 : decode cX14_holds 258 = .ok (.iload 4, 2) := by decide +kernel
theorem dX14_holds_260 : decode cX14_holds 260 = .ok (.invokevirtual 286, 3) := by decide +kernel
theorem dX14_holds_263 : decode cX14_holds 263 = .ok (.if_icmp .ne 7, 3) := by decide +kernel
theorem dX14_holds_266 : decode cX14_holds 266 = .ok (.iconst 1, 1) := by decide +kernel
theorem dX14_holds_267 : decode cX14_holds 267 = .ok (.goto 4, 3) := by decide +kernel
theorem dX14_holds_270 : decode cX14_holds 270 = .ok (.iconst 0, 1) := by decide +kernel
theorem dX14_holds_271 : decode cX14_holds 271 = .ok (.ireturn, 1) := by decide +kernel
/-! the reference holds a test -/
section Ho
variable {G : Gp} {S : AMem} {I : Nat → Nat → Int32} {J : Nat → Nat → Int64} {R : Nat → Nat → Option Nat} {y bl z : Nat} {B : BS} {m : MS}
theorem bI_01 {c : Prop} [Decidable c] : bI c = 0 ∨ bI c = 1 := by
  by_cases h : c
  · exact Or.inr (bI_t h)
  · exact Or.inl (bI_f h)
theorem cmE_01 {k l r : Int32} : cmE k l r = 0 ∨ cmE k l r = 1 := by
  unfold cmE
  repeat' split
  all_goals exact bI_01
theorem NdB_01 {O A D : Nat → Int32} {nR nF nP : Nat} {rd : Int32 → Int32 → Int32} (h26 : ∀ g, rd 326 g = 0 ∨ rd 326 g = 1) : ∀ f n s, NdB O A D nR nF nP f n s → s rd = 0 ∨ s rd = 1 := by
  intro f
  induction f with
  | zero => intro n s h; exact False.elim h
  | succ f ih =>
    intro n s h
    rcases h with ⟨g, h1, rfl⟩ | ⟨a, u, h1, ha, han, hu, rfl⟩ | ⟨a, b, u, v, ha, hb, han, hbn, h1, hu, hv, rfl⟩ | ⟨a, b, u, v, ha, hb, han, hbn, h1, hu, hv, rfl⟩
    · exact h26 g
    · dsimp only
      rcases ih a u hu with e | e <;> rw [e]
      · exact Or.inr rfl
      · exact Or.inl rfl
    · dsimp only
      rcases h1 with h1 | h1 <;> rw [h1] <;> rcases ih a u hu with e | e <;> rw [e] <;> rcases ih b v hv with e2 | e2 <;> rw [e2] <;> decide
    · exact cmE_01
theorem k_cm60 {p q : Int32} : cmE 60 p q = bI (p < q) := if_pos rfl
theorem k_cm62 {p q : Int32} : cmE 62 p q = bI (q < p) := by
  unfold cmE
  rw [if_neg (by decide), if_pos rfl]
theorem k_cm61 {p q : Int32} : cmE 61 p q = bI (p = q) := by
  unfold cmE
  rw [if_neg (by decide), if_neg (by decide), if_pos rfl]
theorem k_cm260 {p q : Int32} : cmE 260 p q = bI (p ≤ q) := by
  unfold cmE
  rw [if_neg (by decide), if_neg (by decide), if_neg (by decide), if_pos rfl]
theorem k_cm261 {p q : Int32} : cmE 261 p q = bI (q ≤ p) := by
  unfold cmE
  rw [if_neg (by decide), if_neg (by decide), if_neg (by decide), if_neg (by decide)]
theorem k_X14_holds (hG : okG G) (hM : MCb S R y bl) (hS : SCc S R z) (hF : B.nF ≤ 8) (hR : B.nR ≤ 4) (hP : B.nP ≤ 8) (hs : RS I z B m) : ∀ f n s, NdB (I (bl + 6)) (I (bl + 7)) (I (bl + 8)) B.nR B.nF B.nP f n s → n < 401 → Fn G mX14_holds f [vR y, vR z, vI (nI n)] (mw S I J R) (fun rr M1 => rr = some (vI (s (rdM B m))) ∧ M1 = mw S I J R) := by
  have hrk := k_X14_reckon (J := J) hG hM hS hF hR hP hs
  have h01 := NdB_01 (O := I (bl + 6)) (A := I (bl + 7)) (D := I (bl + 8)) (nR := B.nR) (nF := B.nF) (nP := B.nP) (rd := rdM B m) (fun g => by rw [rdM_326]; exact bI_01)
  obtain ⟨ky, ry, kb, b5, b6, b7, b8, b9, b11, b12, b13, _, _, _, _, _, ⟨ko, lo⟩, ⟨ka, la⟩, kd, ld⟩ := hM
  obtain ⟨kz, z6, z7, z8, z9, z10, ⟨kz1, lz1⟩, ⟨kz2, lz2⟩, ⟨kz3, lz3⟩, ⟨kz4, lz4⟩, kz5, lz5⟩ := hS
  obtain ⟨⟨g0, g1, g2, g3, g4, g5, g6⟩, hbd, hra, hfi, hpr, hp0, hro⟩ := hs
  intro f
  induction f with
  | zero => intro n s h; exact False.elim h
  | succ f ih =>
    intro n s h hn
    have ina : vp_in (nI n) (S.ln (bl + 7)) := by rw [la]; exact vp_in_nI hn (by decide)
    have ind : vp_in (nI n) (S.ln (bl + 8)) := by rw [ld]; exact vp_in_nI hn (by decide)
    have ino : vp_in (nI n) (S.ln (bl + 6)) := by rw [lo]; exact vp_in_nI hn (by decide)
    refine am_aload_n (q := 1) dX14_holds_0 rfl rfl ?_
    refine cm_getR (q := 4) dX14_holds_1 flX14_32 rfl (by assumption) (by assumption) rfl ?_
    refine cm_getR (q := 7) dX14_holds_4 flX14_266 rfl (by assumption) (by assumption) rfl ?_
    refine am_iload_n (q := 8) dX14_holds_7 rfl rfl ?_
    refine cm_iaload (q := 9) dX14_holds_8 (by assumption) ina rfl ?_
    rw [nI_clamp (show n < 2 ^ 31 by omega)]
    refine am_istore_n (q := 10) (ls1 := [_, _, _, _, _]) dX14_holds_9 (Nat.le_of_ble_eq_true rfl) rfl rfl ?_
    refine am_aload_n (q := 11) dX14_holds_10 rfl rfl ?_
    refine cm_getR (q := 14) dX14_holds_11 flX14_32 rfl (by assumption) (by assumption) rfl ?_
    refine cm_getR (q := 17) dX14_holds_14 flX14_268 rfl (by assumption) (by assumption) rfl ?_
    refine am_iload_n (q := 18) dX14_holds_17 rfl rfl ?_
    refine cm_iaload (q := 19) dX14_holds_18 (by assumption) ind rfl ?_
    rw [nI_clamp (show n < 2 ^ 31 by omega)]
    refine am_istore (q := 21) (ls1 := [_, _, _, _, _]) dX14_holds_19 (Nat.le_of_ble_eq_true rfl) rfl rfl ?_
    refine am_aload_n (q := 22) dX14_holds_21 rfl rfl ?_
    refine cm_getR (q := 25) dX14_holds_22 flX14_32 rfl (by assumption) (by assumption) rfl ?_
    refine cm_getR (q := 28) dX14_holds_25 flX14_271 rfl (by assumption) (by assumption) rfl ?_
    refine am_iload_n (q := 29) dX14_holds_28 rfl rfl ?_
    refine cm_iaload (q := 30) dX14_holds_29 (by assumption) ino rfl ?_
    rw [nI_clamp (show n < 2 ^ 31 by omega)]
    rcases h with ⟨g, h1, rfl⟩ | ⟨a, u, h1, ha, han, hu, rfl⟩ | ⟨a, b, u, v, ha, hb, han, hbn, h1, hu, hv, rfl⟩ | ⟨a, b, u, v, ha, hb, han, hbn, h1, hu, hv, rfl⟩
    · dsimp only
      rw [h1, rdM_326]
      refine am_lookup (tgt := 104) dX14_holds_30 (by decide) rfl rfl ?_
      refine am_aload_n (q := 105) dX14_holds_104 rfl rfl ?_
      refine cm_getI (q := 108) dX14_holds_105 flX14_277 rfl (by assumption) rfl ?_
      rw [g4]
      refine am_if_le (tgt := 115) (q := 111) dX14_holds_108 rfl rfl (fun hc => ?_) (fun hc => ?_)
      · rw [bI_f (Int32.not_lt.mpr hc)]
        refine am_iconst (q := 116) (v := 0) dX14_holds_115 kc_i0 rfl ?_
        exact am_iret dX14_holds_116 rfl rfl ⟨_, rfl, rfl, rfl⟩
      · rw [bI_t (Int32.not_le.mp hc)]
        refine am_iconst (q := 112) (v := 1) dX14_holds_111 kc_i1 rfl ?_
        refine am_goto (tgt := 116) dX14_holds_112 rfl ?_
        exact am_iret dX14_holds_116 rfl rfl ⟨_, rfl, rfl, rfl⟩
    · dsimp only
      rw [h1, ha]
      refine am_lookup (tgt := 117) dX14_holds_30 (by decide) rfl rfl ?_
      refine am_aload_n (q := 118) dX14_holds_117 rfl rfl ?_
      refine am_aload_n (q := 119) dX14_holds_118 rfl rfl ?_
      refine am_iload_n (q := 120) dX14_holds_119 rfl rfl ?_
      refine cm_call0 (q := 123) (As := [_, _]) hG dX14_holds_120 mlX14_301 rfl (by assumption) ⟨_, _, rfl⟩ (Nat.le_of_ble_eq_true rfl) (Nat.le_of_ble_eq_true rfl) (by omega) (Nat.le_of_ble_eq_true rfl) (ih a u hu (by omega)) rfl ?_
      rintro _ _ ⟨rfl, rfl⟩
      rcases h01 f a u hu with e | e
      · rw [e]
        refine am_if_ne (tgt := 130) (q := 126) dX14_holds_123 rfl rfl (fun hz => absurd rfl hz) (fun _ => ?_)
        refine am_iconst (q := 127) (v := 1) dX14_holds_126 kc_i1 rfl ?_
        refine am_goto (tgt := 131) dX14_holds_127 rfl ?_
        exact am_iret dX14_holds_131 rfl rfl ⟨_, rfl, rfl, rfl⟩
      · rw [e]
        refine am_if_ne (tgt := 130) (q := 126) dX14_holds_123 rfl rfl (fun _ => ?_) (fun hz => absurd hz (by decide))
        refine am_iconst (q := 131) (v := 0) dX14_holds_130 kc_i0 rfl ?_
        exact am_iret dX14_holds_131 rfl rfl ⟨_, rfl, rfl, rfl⟩
    · dsimp only
      rw [ha, hb]
      rcases h1 with h1 | h1
      · rw [h1]
        refine am_lookup (tgt := 132) dX14_holds_30 (by decide) rfl rfl ?_
        refine am_aload_n (q := 133) dX14_holds_132 rfl rfl ?_
        refine am_aload_n (q := 134) dX14_holds_133 rfl rfl ?_
        refine am_iload_n (q := 135) dX14_holds_134 rfl rfl ?_
        refine cm_call0 (q := 138) (As := [_, _]) hG dX14_holds_135 mlX14_301 rfl (by assumption) ⟨_, _, rfl⟩ (Nat.le_of_ble_eq_true rfl) (Nat.le_of_ble_eq_true rfl) (by omega) (Nat.le_of_ble_eq_true rfl) (ih a u hu (by omega)) rfl ?_
        rintro _ _ ⟨rfl, rfl⟩
        refine am_aload_n (q := 139) dX14_holds_138 rfl rfl ?_
        refine am_aload_n (q := 140) dX14_holds_139 rfl rfl ?_
        refine am_iload (q := 142) dX14_holds_140 rfl rfl ?_
        refine cm_call0 (q := 145) (As := [_, _]) hG dX14_holds_142 mlX14_301 rfl (by assumption) ⟨_, _, rfl⟩ (Nat.le_of_ble_eq_true rfl) (Nat.le_of_ble_eq_true rfl) (by omega) (Nat.le_of_ble_eq_true rfl) (ih b v hv (by omega)) rfl ?_
        rintro _ _ ⟨rfl, rfl⟩
        rcases h01 f a u hu with e | e
        · rw [e]
          rcases h01 f b v hv with e2 | e2
          · rw [e2]
            refine am_iand (q := 146) dX14_holds_145 rfl ?_
            exact am_iret dX14_holds_146 rfl rfl ⟨_, rfl, rfl, rfl⟩
          · rw [e2]
            refine am_iand (q := 146) dX14_holds_145 rfl ?_
            exact am_iret dX14_holds_146 rfl rfl ⟨_, rfl, rfl, rfl⟩
        · rw [e]
          rcases h01 f b v hv with e2 | e2
          · rw [e2]
            refine am_iand (q := 146) dX14_holds_145 rfl ?_
            exact am_iret dX14_holds_146 rfl rfl ⟨_, rfl, rfl, rfl⟩
          · rw [e2]
            refine am_iand (q := 146) dX14_holds_145 rfl ?_
            exact am_iret dX14_holds_146 rfl rfl ⟨_, rfl, rfl, rfl⟩
      · rw [h1]
        refine am_lookup (tgt := 147) dX14_holds_30 (by decide) rfl rfl ?_
        refine am_aload_n (q := 148) dX14_holds_147 rfl rfl ?_
        refine am_aload_n (q := 149) dX14_holds_148 rfl rfl ?_
        refine am_iload_n (q := 150) dX14_holds_149 rfl rfl ?_
        refine cm_call0 (q := 153) (As := [_, _]) hG dX14_holds_150 mlX14_301 rfl (by assumption) ⟨_, _, rfl⟩ (Nat.le_of_ble_eq_true rfl) (Nat.le_of_ble_eq_true rfl) (by omega) (Nat.le_of_ble_eq_true rfl) (ih a u hu (by omega)) rfl ?_
        rintro _ _ ⟨rfl, rfl⟩
        refine am_aload_n (q := 154) dX14_holds_153 rfl rfl ?_
        refine am_aload_n (q := 155) dX14_holds_154 rfl rfl ?_
        refine am_iload (q := 157) dX14_holds_155 rfl rfl ?_
        refine cm_call0 (q := 160) (As := [_, _]) hG dX14_holds_157 mlX14_301 rfl (by assumption) ⟨_, _, rfl⟩ (Nat.le_of_ble_eq_true rfl) (Nat.le_of_ble_eq_true rfl) (by omega) (Nat.le_of_ble_eq_true rfl) (ih b v hv (by omega)) rfl ?_
        rintro _ _ ⟨rfl, rfl⟩
        rcases h01 f a u hu with e | e
        · rw [e]
          rcases h01 f b v hv with e2 | e2
          · rw [e2]
            refine am_ior (q := 161) dX14_holds_160 rfl ?_
            exact am_iret dX14_holds_161 rfl rfl ⟨_, rfl, rfl, rfl⟩
          · rw [e2]
            refine am_ior (q := 161) dX14_holds_160 rfl ?_
            exact am_iret dX14_holds_161 rfl rfl ⟨_, rfl, rfl, rfl⟩
        · rw [e]
          rcases h01 f b v hv with e2 | e2
          · rw [e2]
            refine am_ior (q := 161) dX14_holds_160 rfl ?_
            exact am_iret dX14_holds_161 rfl rfl ⟨_, rfl, rfl, rfl⟩
          · rw [e2]
            refine am_ior (q := 161) dX14_holds_160 rfl ?_
            exact am_iret dX14_holds_161 rfl rfl ⟨_, rfl, rfl, rfl⟩
    · dsimp only
      rw [ha, hb]
      rcases h1 with h1 | h1 | h1 | h1 | h1
      · rw [h1, show (if (60 : Int32) = 108 then (260 : Int32) else if (60 : Int32) = 103 then 261 else 60) = 60 from rfl, k_cm60]
        refine am_lookup (tgt := 162) dX14_holds_30 (by decide) rfl rfl ?_
        refine am_aload_n (q := 163) dX14_holds_162 rfl rfl ?_
        refine am_aload_n (q := 164) dX14_holds_163 rfl rfl ?_
        refine am_iload_n (q := 165) dX14_holds_164 rfl rfl ?_
        refine cm_call0 (q := 168) (As := [_, _]) hG dX14_holds_165 mlX14_286 rfl (by assumption) ⟨_, _, rfl⟩ (Nat.le_of_ble_eq_true rfl) (Nat.le_of_ble_eq_true rfl) (by omega) (Nat.le_of_ble_eq_true rfl) (hrk f a u hu (by omega)) rfl ?_
        rintro _ _ ⟨rfl, rfl⟩
        refine am_aload_n (q := 169) dX14_holds_168 rfl rfl ?_
        refine am_aload_n (q := 170) dX14_holds_169 rfl rfl ?_
        refine am_iload (q := 172) dX14_holds_170 rfl rfl ?_
        refine cm_call0 (q := 175) (As := [_, _]) hG dX14_holds_172 mlX14_286 rfl (by assumption) ⟨_, _, rfl⟩ (Nat.le_of_ble_eq_true rfl) (Nat.le_of_ble_eq_true rfl) (by omega) (Nat.le_of_ble_eq_true rfl) (hrk f b v hv (by omega)) rfl ?_
        rintro _ _ ⟨rfl, rfl⟩
        refine am_icmp_ge (tgt := 182) (q := 178) dX14_holds_175 rfl rfl (fun hc => ?_) (fun hc => ?_)
        · rw [bI_f (Int32.not_lt.mpr hc)]
          refine am_iconst (q := 183) (v := 0) dX14_holds_182 kc_i0 rfl ?_
          exact am_iret dX14_holds_183 rfl rfl ⟨_, rfl, rfl, rfl⟩
        · rw [bI_t (Int32.not_le.mp hc)]
          refine am_iconst (q := 179) (v := 1) dX14_holds_178 kc_i1 rfl ?_
          refine am_goto (tgt := 183) dX14_holds_179 rfl ?_
          exact am_iret dX14_holds_183 rfl rfl ⟨_, rfl, rfl, rfl⟩
      · rw [h1, show (if (62 : Int32) = 108 then (260 : Int32) else if (62 : Int32) = 103 then 261 else 62) = 62 from rfl, k_cm62]
        refine am_lookup (tgt := 184) dX14_holds_30 (by decide) rfl rfl ?_
        refine am_aload_n (q := 185) dX14_holds_184 rfl rfl ?_
        refine am_aload_n (q := 186) dX14_holds_185 rfl rfl ?_
        refine am_iload_n (q := 187) dX14_holds_186 rfl rfl ?_
        refine cm_call0 (q := 190) (As := [_, _]) hG dX14_holds_187 mlX14_286 rfl (by assumption) ⟨_, _, rfl⟩ (Nat.le_of_ble_eq_true rfl) (Nat.le_of_ble_eq_true rfl) (by omega) (Nat.le_of_ble_eq_true rfl) (hrk f a u hu (by omega)) rfl ?_
        rintro _ _ ⟨rfl, rfl⟩
        refine am_aload_n (q := 191) dX14_holds_190 rfl rfl ?_
        refine am_aload_n (q := 192) dX14_holds_191 rfl rfl ?_
        refine am_iload (q := 194) dX14_holds_192 rfl rfl ?_
        refine cm_call0 (q := 197) (As := [_, _]) hG dX14_holds_194 mlX14_286 rfl (by assumption) ⟨_, _, rfl⟩ (Nat.le_of_ble_eq_true rfl) (Nat.le_of_ble_eq_true rfl) (by omega) (Nat.le_of_ble_eq_true rfl) (hrk f b v hv (by omega)) rfl ?_
        rintro _ _ ⟨rfl, rfl⟩
        refine am_icmp_le (tgt := 204) (q := 200) dX14_holds_197 rfl rfl (fun hc => ?_) (fun hc => ?_)
        · rw [bI_f (Int32.not_lt.mpr hc)]
          refine am_iconst (q := 205) (v := 0) dX14_holds_204 kc_i0 rfl ?_
          exact am_iret dX14_holds_205 rfl rfl ⟨_, rfl, rfl, rfl⟩
        · rw [bI_t (Int32.not_le.mp hc)]
          refine am_iconst (q := 201) (v := 1) dX14_holds_200 kc_i1 rfl ?_
          refine am_goto (tgt := 205) dX14_holds_201 rfl ?_
          exact am_iret dX14_holds_205 rfl rfl ⟨_, rfl, rfl, rfl⟩
      · rw [h1, show (if (61 : Int32) = 108 then (260 : Int32) else if (61 : Int32) = 103 then 261 else 61) = 61 from rfl, k_cm61]
        refine am_lookup (tgt := 250) dX14_holds_30 (by decide) rfl rfl ?_
        refine am_aload_n (q := 251) dX14_holds_250 rfl rfl ?_
        refine am_aload_n (q := 252) dX14_holds_251 rfl rfl ?_
        refine am_iload_n (q := 253) dX14_holds_252 rfl rfl ?_
        refine cm_call0 (q := 256) (As := [_, _]) hG dX14_holds_253 mlX14_286 rfl (by assumption) ⟨_, _, rfl⟩ (Nat.le_of_ble_eq_true rfl) (Nat.le_of_ble_eq_true rfl) (by omega) (Nat.le_of_ble_eq_true rfl) (hrk f a u hu (by omega)) rfl ?_
        rintro _ _ ⟨rfl, rfl⟩
        refine am_aload_n (q := 257) dX14_holds_256 rfl rfl ?_
        refine am_aload_n (q := 258) dX14_holds_257 rfl rfl ?_
        refine am_iload (q := 260) dX14_holds_258 rfl rfl ?_
        refine cm_call0 (q := 263) (As := [_, _]) hG dX14_holds_260 mlX14_286 rfl (by assumption) ⟨_, _, rfl⟩ (Nat.le_of_ble_eq_true rfl) (Nat.le_of_ble_eq_true rfl) (by omega) (Nat.le_of_ble_eq_true rfl) (hrk f b v hv (by omega)) rfl ?_
        rintro _ _ ⟨rfl, rfl⟩
        refine am_icmp_ne (tgt := 270) (q := 266) dX14_holds_263 rfl rfl (fun hc => ?_) (fun hc => ?_)
        · rw [bI_f (hc)]
          refine am_iconst (q := 271) (v := 0) dX14_holds_270 kc_i0 rfl ?_
          exact am_iret dX14_holds_271 rfl rfl ⟨_, rfl, rfl, rfl⟩
        · rw [bI_t (hc)]
          refine am_iconst (q := 267) (v := 1) dX14_holds_266 kc_i1 rfl ?_
          refine am_goto (tgt := 271) dX14_holds_267 rfl ?_
          exact am_iret dX14_holds_271 rfl rfl ⟨_, rfl, rfl, rfl⟩
      · rw [h1, show (if (108 : Int32) = 108 then (260 : Int32) else if (108 : Int32) = 103 then 261 else 108) = 260 from rfl, k_cm260]
        refine am_lookup (tgt := 206) dX14_holds_30 (by decide) rfl rfl ?_
        refine am_aload_n (q := 207) dX14_holds_206 rfl rfl ?_
        refine am_aload_n (q := 208) dX14_holds_207 rfl rfl ?_
        refine am_iload_n (q := 209) dX14_holds_208 rfl rfl ?_
        refine cm_call0 (q := 212) (As := [_, _]) hG dX14_holds_209 mlX14_286 rfl (by assumption) ⟨_, _, rfl⟩ (Nat.le_of_ble_eq_true rfl) (Nat.le_of_ble_eq_true rfl) (by omega) (Nat.le_of_ble_eq_true rfl) (hrk f a u hu (by omega)) rfl ?_
        rintro _ _ ⟨rfl, rfl⟩
        refine am_aload_n (q := 213) dX14_holds_212 rfl rfl ?_
        refine am_aload_n (q := 214) dX14_holds_213 rfl rfl ?_
        refine am_iload (q := 216) dX14_holds_214 rfl rfl ?_
        refine cm_call0 (q := 219) (As := [_, _]) hG dX14_holds_216 mlX14_286 rfl (by assumption) ⟨_, _, rfl⟩ (Nat.le_of_ble_eq_true rfl) (Nat.le_of_ble_eq_true rfl) (by omega) (Nat.le_of_ble_eq_true rfl) (hrk f b v hv (by omega)) rfl ?_
        rintro _ _ ⟨rfl, rfl⟩
        refine am_icmp_gt (tgt := 226) (q := 222) dX14_holds_219 rfl rfl (fun hc => ?_) (fun hc => ?_)
        · rw [bI_f (Int32.not_le.mpr hc)]
          refine am_iconst (q := 227) (v := 0) dX14_holds_226 kc_i0 rfl ?_
          exact am_iret dX14_holds_227 rfl rfl ⟨_, rfl, rfl, rfl⟩
        · rw [bI_t (Int32.not_lt.mp hc)]
          refine am_iconst (q := 223) (v := 1) dX14_holds_222 kc_i1 rfl ?_
          refine am_goto (tgt := 227) dX14_holds_223 rfl ?_
          exact am_iret dX14_holds_227 rfl rfl ⟨_, rfl, rfl, rfl⟩
      · rw [h1, show (if (103 : Int32) = 108 then (260 : Int32) else if (103 : Int32) = 103 then 261 else 103) = 261 from rfl, k_cm261]
        refine am_lookup (tgt := 228) dX14_holds_30 (by decide) rfl rfl ?_
        refine am_aload_n (q := 229) dX14_holds_228 rfl rfl ?_
        refine am_aload_n (q := 230) dX14_holds_229 rfl rfl ?_
        refine am_iload_n (q := 231) dX14_holds_230 rfl rfl ?_
        refine cm_call0 (q := 234) (As := [_, _]) hG dX14_holds_231 mlX14_286 rfl (by assumption) ⟨_, _, rfl⟩ (Nat.le_of_ble_eq_true rfl) (Nat.le_of_ble_eq_true rfl) (by omega) (Nat.le_of_ble_eq_true rfl) (hrk f a u hu (by omega)) rfl ?_
        rintro _ _ ⟨rfl, rfl⟩
        refine am_aload_n (q := 235) dX14_holds_234 rfl rfl ?_
        refine am_aload_n (q := 236) dX14_holds_235 rfl rfl ?_
        refine am_iload (q := 238) dX14_holds_236 rfl rfl ?_
        refine cm_call0 (q := 241) (As := [_, _]) hG dX14_holds_238 mlX14_286 rfl (by assumption) ⟨_, _, rfl⟩ (Nat.le_of_ble_eq_true rfl) (Nat.le_of_ble_eq_true rfl) (by omega) (Nat.le_of_ble_eq_true rfl) (hrk f b v hv (by omega)) rfl ?_
        rintro _ _ ⟨rfl, rfl⟩
        refine am_icmp_lt (tgt := 248) (q := 244) dX14_holds_241 rfl rfl (fun hc => ?_) (fun hc => ?_)
        · rw [bI_f (Int32.not_le.mpr hc)]
          refine am_iconst (q := 249) (v := 0) dX14_holds_248 kc_i0 rfl ?_
          exact am_iret dX14_holds_249 rfl rfl ⟨_, rfl, rfl, rfl⟩
        · rw [bI_t (Int32.not_lt.mp hc)]
          refine am_iconst (q := 245) (v := 1) dX14_holds_244 kc_i1 rfl ?_
          refine am_goto (tgt := 249) dX14_holds_245 rfl ?_
          exact am_iret dX14_holds_249 rfl rfl ⟨_, rfl, rfl, rfl⟩
end Ho

