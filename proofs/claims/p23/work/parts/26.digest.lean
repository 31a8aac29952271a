theorem kc_b8 : (Int8.ofInt 8).toInt32 = 8 := by decide +kernel
theorem dX2_digestBehind_0 : decode cX2_digestBehind 0 = .ok (.lload_n 1, 1) := by decide +kernel
theorem dX2_digestBehind_1 : decode cX2_digestBehind 1 = .ok (.lstore_n 3, 1) := by decide +kernel
theorem dX2_digestBehind_2 : decode cX2_digestBehind 2 = .ok (.iconst 0, 1) := by decide +kernel
theorem dX2_digestBehind_3 : decode cX2_digestBehind 3 = .ok (.istore 5, 2) := by decide +kernel
theorem dX2_digestBehind_5 : decode cX2_digestBehind 5 = .ok (.iload 5, 2) := by decide +kernel
theorem dX2_digestBehind_7 : decode cX2_digestBehind 7 = .ok (.aload_n 0, 1) := by decide +kernel
theorem dX2_digestBehind_8 : decode cX2_digestBehind 8 = .ok (.getfield 69, 3) := by decide +kernel
theorem dX2_digestBehind_11 : decode cX2_digestBehind 11 = .ok (.if_icmp .ge 50, 3) := by decide +kernel
theorem dX2_digestBehind_14 : decode cX2_digestBehind 14 = .ok (.iload 5, 2) := by decide +kernel
theorem dX2_digestBehind_16 : decode cX2_digestBehind 16 = .ok (.aload_n 0, 1) := by decide +kernel
theorem dX2_digestBehind_17 : decode cX2_digestBehind 17 = .ok (.getfield 34, 3) := by decide +kernel
theorem dX2_digestBehind_20 : decode cX2_digestBehind 20 = .ok (.arraylength, 1) := by decide +kernel
theorem dX2_digestBehind_21 : decode cX2_digestBehind 21 = .ok (.if_icmp .ge 40, 3) := by decide +kernel
theorem dX2_digestBehind_24 : decode cX2_digestBehind 24 = .ok (.iconst 0, 1) := by decide +kernel
theorem dX2_digestBehind_25 : decode cX2_digestBehind 25 = .ok (.istore 6, 2) := by decide +kernel
theorem dX2_digestBehind_27 : decode cX2_digestBehind 27 = .ok (.iload 6, 2) := by decide +kernel
theorem dX2_digestBehind_29 : decode cX2_digestBehind 29 = .ok (.iconst 4, 1) := by decide +kernel
theorem dX2_digestBehind_30 : decode cX2_digestBehind 30 = .ok (.if_icmp .gt 25, 3) := by decide +kernel
theorem dX2_digestBehind_33 : decode cX2_digestBehind 33 = .ok (.lload_n 3, 1) := by decide +kernel
theorem dX2_digestBehind_34 : decode cX2_digestBehind 34 = .ok (.ldc2_w 270, 3) := by decide +kernel
theorem dX2_digestBehind_37 : decode cX2_digestBehind 37 = .ok (.lmul, 1) := by decide +kernel
theorem dX2_digestBehind_38 : decode cX2_digestBehind 38 = .ok (.aload_n 0, 1) := by decide +kernel
theorem dX2_digestBehind_39 : decode cX2_digestBehind 39 = .ok (.iload 5, 2) := by decide +kernel
theorem dX2_digestBehind_41 : decode cX2_digestBehind 41 = .ok (.iload 6, 2) := by decide +kernel
theorem dX2_digestBehind_43 : decode cX2_digestBehind 43 = .ok (.invokevirtual 272, 3) := by decide +kernel
theorem dX2_digestBehind_46 : decode cX2_digestBehind 46 = .ok (.i2l, 1) := by decide +kernel
theorem dX2_digestBehind_47 : decode cX2_digestBehind 47 = .ok (.ladd, 1) := by decide +kernel
theorem dX2_digestBehind_48 : decode cX2_digestBehind 48 = .ok (.lstore_n 3, 1) := by decide +kernel
theorem dX2_digestBehind_49 : decode cX2_digestBehind 49 = .ok (.iinc 6 1, 3) := by decide +kernel
theorem dX2_digestBehind_52 : decode cX2_digestBehind 52 = .ok (.goto (-25), 3) := by decide +kernel
theorem dX2_digestBehind_55 : decode cX2_digestBehind 55 = .ok (.iinc 5 1, 3) := by decide +kernel
theorem dX2_digestBehind_58 : decode cX2_digestBehind 58 = .ok (.goto (-53), 3) := by decide +kernel
theorem dX2_digestBehind_61 : decode cX2_digestBehind 61 = .ok (.iconst 0, 1) := by decide +kernel
theorem dX2_digestBehind_62 : decode cX2_digestBehind 62 = .ok (.istore 5, 2) := by decide +kernel
theorem dX2_digestBehind_64 : decode cX2_digestBehind 64 = .ok (.iload 5, 2) := by decide +kernel
theorem dX2_digestBehind_66 : decode cX2_digestBehind 66 = .ok (.aload_n 0, 1) := by decide +kernel
theorem dX2_digestBehind_67 : decode cX2_digestBehind 67 = .ok (.getfield 75, 3) := by decide +kernel
theorem dX2_digestBehind_70 : decode cX2_digestBehind 70 = .ok (.if_icmp .ge 51, 3) := by decide +kernel
theorem dX2_digestBehind_73 : decode cX2_digestBehind 73 = .ok (.iload 5, 2) := by decide +kernel
theorem dX2_digestBehind_75 : decode cX2_digestBehind 75 = .ok (.aload_n 0, 1) := by decide +kernel
theorem dX2_digestBehind_76 : decode cX2_digestBehind 76 = .ok (.getfield 40, 3) := by decide +kernel
theorem dX2_digestBehind_79 : decode cX2_digestBehind 79 = .ok (.arraylength, 1) := by decide +kernel
theorem dX2_digestBehind_80 : decode cX2_digestBehind 80 = .ok (.if_icmp .ge 41, 3) := by decide +kernel
theorem dX2_digestBehind_83 : decode cX2_digestBehind 83 = .ok (.iconst 0, 1) := by decide +kernel
theorem dX2_digestBehind_84 : decode cX2_digestBehind 84 = .ok (.istore 6, 2) := by decide +kernel
theorem dX2_digestBehind_86 : decode cX2_digestBehind 86 = .ok (.iload 6, 2) := by decide +kernel
theorem dX2_digestBehind_88 : decode cX2_digestBehind 88 = .ok (.bipush 8, 2) := by decide +kernel
theorem dX2_digestBehind_90 : decode cX2_digestBehind 90 = .ok (.if_icmp .gt 25, 3) := by decide +kernel
theorem dX2_digestBehind_93 : decode cX2_digestBehind 93 = .ok (.lload_n 3, 1) := by decide +kernel
theorem dX2_digestBehind_94 : decode cX2_digestBehind 94 = .ok (.ldc2_w 270, 3) := by decide +kernel
theorem dX2_digestBehind_97 : decode cX2_digestBehind 97 = .ok (.lmul, 1) := by decide +kernel
theorem dX2_digestBehind_98 : decode cX2_digestBehind 98 = .ok (.aload_n 0, 1) := by decide +kernel
theorem dX2_digestBehind_99 : decode cX2_digestBehind 99 = .ok (.iload 5, 2) := by decide +kernel
theorem dX2_digestBehind_101 : decode cX2_digestBehind 101 = .ok (.iload 6, 2) := by decide +kernel
theorem dX2_digestBehind_103 : decode cX2_digestBehind 103 = .ok (.invokevirtual 276, 3) := by decide +kernel
theorem dX2_digestBehind_106 : decode cX2_digestBehind 106 = .ok (.i2l, 1) := by decide +kernel
theorem dX2_digestBehind_107 : decode cX2_digestBehind 107 = .ok (.ladd, 1) := by decide +kernel
theorem dX2_digestBehind_108 : decode cX2_digestBehind 108 = .ok (.lstore_n 3, 1) := by decide +kernel
theorem dX2_digestBehind_109 : decode cX2_digestBehind 109 = .ok (.iinc 6 1, 3) := by decide +kernel
theorem dX2_digestBehind_112 : decode cX2_digestBehind 112 = .ok (.goto (-26), 3) := by decide +kernel
theorem dX2_digestBehind_115 : decode cX2_digestBehind 115 = .ok (.iinc 5 1, 3) := by decide +kernel
theorem dX2_digestBehind_118 : decode cX2_digestBehind 118 = .ok (.goto (-54), 3) := by decide +kernel
theorem dX2_digestBehind_121 : decode cX2_digestBehind 121 = .ok (.iconst 0, 1) := by decide +kernel
theorem dX2_digestBehind_122 : decode cX2_digestBehind 122 = .ok (.istore 5, 2) := by decide +kernel
theorem dX2_digestBehind_124 : decode cX2_digestBehind 124 = .ok (.iload 5, 2) := by decide +kernel
theorem dX2_digestBehind_126 : decode cX2_digestBehind 126 = .ok (.aload_n 0, 1) := by decide +kernel
theorem dX2_digestBehind_127 : decode cX2_digestBehind 127 = .ok (.getfield 78, 3) := by decide +kernel
theorem dX2_digestBehind_130 : decode cX2_digestBehind 130 = .ok (.if_icmp .ge 50, 3) := by decide +kernel
theorem dX2_digestBehind_133 : decode cX2_digestBehind 133 = .ok (.iload 5, 2) := by decide +kernel
theorem dX2_digestBehind_135 : decode cX2_digestBehind 135 = .ok (.aload_n 0, 1) := by decide +kernel
theorem dX2_digestBehind_136 : decode cX2_digestBehind 136 = .ok (.getfield 46, 3) := by decide +kernel
theorem dX2_digestBehind_139 : decode cX2_digestBehind 139 = .ok (.arraylength, 1) := by decide +kernel
theorem dX2_digestBehind_140 : decode cX2_digestBehind 140 = .ok (.if_icmp .ge 40, 3) := by decide +kernel
theorem dX2_digestBehind_143 : decode cX2_digestBehind 143 = .ok (.iconst 0, 1) := by decide +kernel
theorem dX2_digestBehind_144 : decode cX2_digestBehind 144 = .ok (.istore 6, 2) := by decide +kernel
theorem dX2_digestBehind_146 : decode cX2_digestBehind 146 = .ok (.iload 6, 2) := by decide +kernel
theorem dX2_digestBehind_148 : decode cX2_digestBehind 148 = .ok (.iconst 3, 1) := by decide +kernel
theorem dX2_digestBehind_149 : decode cX2_digestBehind 149 = .ok (.if_icmp .gt 25, 3) := by decide +kernel
theorem dX2_digestBehind_152 : decode cX2_digestBehind 152 = .ok (.lload_n 3, 1) := by decide +kernel
theorem dX2_digestBehind_153 : decode cX2_digestBehind 153 = .ok (.ldc2_w 270, 3) := by decide +kernel
theorem dX2_digestBehind_156 : decode cX2_digestBehind 156 = .ok (.lmul, 1) := by decide +kernel
theorem dX2_digestBehind_157 : decode cX2_digestBehind 157 = .ok (.aload_n 0, 1) := by decide +kernel
theorem dX2_digestBehind_158 : decode cX2_digestBehind 158 = .ok (.iload 5, 2) := by decide +kernel
theorem dX2_digestBehind_160 : decode cX2_digestBehind 160 = .ok (.iload 6, 2) := by decide +kernel
theorem dX2_digestBehind_162 : decode cX2_digestBehind 162 = .ok (.invokevirtual 279, 3) := by decide +kernel
theorem dX2_digestBehind_165 : decode cX2_digestBehind 165 = .ok (.i2l, 1) := by decide +kernel
theorem dX2_digestBehind_166 : decode cX2_digestBehind 166 = .ok (.ladd, 1) := by decide +kernel
theorem dX2_digestBehind_167 : decode cX2_digestBehind 167 = .ok (.lstore_n 3, 1) := by decide +kernel
theorem dX2_digestBehind_168 : decode cX2_digestBehind 168 = .ok (.iinc 6 1, 3) := by decide +kernel
theorem dX2_digestBehind_171 : decode cX2_digestBehind 171 = .ok (.goto (-25), 3) := by decide +kernel
theorem dX2_digestBehind_174 : decode cX2_digestBehind 174 = .ok (.iinc 5 1, 3) := by decide +kernel
theorem dX2_digestBehind_177 : decode cX2_digestBehind 177 = .ok (.goto (-53), 3) := by decide +kernel
theorem dX2_digestBehind_180 : decode cX2_digestBehind 180 = .ok (.iconst 0, 1) := by decide +kernel
theorem dX2_digestBehind_181 : decode cX2_digestBehind 181 = .ok (.istore 5, 2) := by decide +kernel
theorem dX2_digestBehind_183 : decode cX2_digestBehind 183 = .ok (.iload 5, 2) := by decide +kernel
theorem dX2_digestBehind_185 : decode cX2_digestBehind 185 = .ok (.aload_n 0, 1) := by decide +kernel
theorem dX2_digestBehind_186 : decode cX2_digestBehind 186 = .ok (.getfield 81, 3) := by decide +kernel
theorem dX2_digestBehind_189 : decode cX2_digestBehind 189 = .ok (.if_icmp .ge 50, 3) := by decide +kernel
theorem dX2_digestBehind_192 : decode cX2_digestBehind 192 = .ok (.iload 5, 2) := by decide +kernel
theorem dX2_digestBehind_194 : decode cX2_digestBehind 194 = .ok (.aload_n 0, 1) := by decide +kernel
theorem dX2_digestBehind_195 : decode cX2_digestBehind 195 = .ok (.getfield 52, 3) := by decide +kernel
theorem dX2_digestBehind_198 : decode cX2_digestBehind 198 = .ok (.arraylength, 1) := by decide +kernel
theorem dX2_digestBehind_199 : decode cX2_digestBehind 199 = .ok (.if_icmp .ge 40, 3) := by decide +kernel
theorem dX2_digestBehind_202 : decode cX2_digestBehind 202 = .ok (.iconst 0, 1) := by decide +kernel
theorem dX2_digestBehind_203 : decode cX2_digestBehind 203 = .ok (.istore 6, 2) := by decide +kernel
theorem dX2_digestBehind_205 : decode cX2_digestBehind 205 = .ok (.iload 6, 2) := by decide +kernel
theorem dX2_digestBehind_207 : decode cX2_digestBehind 207 = .ok (.iconst 3, 1) := by decide +kernel
theorem dX2_digestBehind_208 : decode cX2_digestBehind 208 = .ok (.if_icmp .gt 25, 3) := by decide +kernel
theorem dX2_digestBehind_211 : decode cX2_digestBehind 211 = .ok (.lload_n 3, 1) := by decide +kernel
theorem dX2_digestBehind_212 : decode cX2_digestBehind 212 = .ok (.ldc2_w 270, 3) := by decide +kernel
theorem dX2_digestBehind_215 : decode cX2_digestBehind 215 = .ok (.lmul, 1) := by decide +kernel
theorem dX2_digestBehind_216 : decode cX2_digestBehind 216 = .ok (.aload_n 0, 1) := by decide +kernel
theorem dX2_digestBehind_217 : decode cX2_digestBehind 217 = .ok (.iload 5, 2) := by decide +kernel
theorem dX2_digestBehind_219 : decode cX2_digestBehind 219 = .ok (.iload 6, 2) := by decide +kernel
theorem dX2_digestBehind_221 : decode cX2_digestBehind 221 = .ok (.invokevirtual 282, 3) := by decide +kernel
theorem dX2_digestBehind_224 : decode cX2_digestBehind 224 = .ok (.i2l, 1) := by decide +kernel
theorem dX2_digestBehind_225 : decode cX2_digestBehind 225 = .ok (.ladd, 1) := by decide +kernel
theorem dX2_digestBehind_226 : decode cX2_digestBehind 226 = .ok (.lstore_n 3, 1) := by decide +kernel
theorem dX2_digestBehind_227 : decode cX2_digestBehind 227 = .ok (.iinc 6 1, 3) := by decide +kernel
theorem dX2_digestBehind_230 : decode cX2_digestBehind 230 = .ok (.goto (-25), 3) := by decide +kernel
theorem dX2_digestBehind_233 : decode cX2_digestBehind 233 = .ok (.iinc 5 1, 3) := by decide +kernel
theorem dX2_digestBehind_236 : decode cX2_digestBehind 236 = .ok (.goto (-53), 3) := by decide +kernel
theorem dX2_digestBehind_239 : decode cX2_digestBehind 239 = .ok (.iconst 0, 1) := by decide +kernel
theorem dX2_digestBehind_240 : decode cX2_digestBehind 240 = .ok (.istore 5, 2) := by decide +kernel
theorem dX2_digestBehind_242 : decode cX2_digestBehind 242 = .ok (.iload 5, 2) := by decide +kernel
theorem dX2_digestBehind_244 : decode cX2_digestBehind 244 = .ok (.aload_n 0, 1) := by decide +kernel
theorem dX2_digestBehind_245 : decode cX2_digestBehind 245 = .ok (.getfield 21, 3) := by decide +kernel
theorem dX2_digestBehind_248 : decode cX2_digestBehind 248 = .ok (.getfield 68, 3) := by decide +kernel
theorem dX2_digestBehind_251 : decode cX2_digestBehind 251 = .ok (.if_icmp .ge 26, 3) := by decide +kernel
theorem dX2_digestBehind_254 : decode cX2_digestBehind 254 = .ok (.lload_n 3, 1) := by decide +kernel
theorem dX2_digestBehind_255 : decode cX2_digestBehind 255 = .ok (.ldc2_w 270, 3) := by decide +kernel
theorem dX2_digestBehind_258 : decode cX2_digestBehind 258 = .ok (.lmul, 1) := by decide +kernel
theorem dX2_digestBehind_259 : decode cX2_digestBehind 259 = .ok (.aload_n 0, 1) := by decide +kernel
theorem dX2_digestBehind_260 : decode cX2_digestBehind 260 = .ok (.getfield 21, 3) := by decide +kernel
theorem dX2_digestBehind_263 : decode cX2_digestBehind 263 = .ok (.iload 5, 2) := by decide +kernel
theorem dX2_digestBehind_265 : decode cX2_digestBehind 265 = .ok (.invokevirtual 285, 3) := by decide +kernel
theorem dX2_digestBehind_268 : decode cX2_digestBehind 268 = .ok (.i2l, 1) := by decide +kernel
theorem dX2_digestBehind_269 : decode cX2_digestBehind 269 = .ok (.ladd, 1) := by decide +kernel
theorem dX2_digestBehind_270 : decode cX2_digestBehind 270 = .ok (.lstore_n 3, 1) := by decide +kernel
theorem dX2_digestBehind_271 : decode cX2_digestBehind 271 = .ok (.iinc 5 1, 3) := by decide +kernel
theorem dX2_digestBehind_274 : decode cX2_digestBehind 274 = .ok (.goto (-32), 3) := by decide +kernel
theorem dX2_digestBehind_277 : decode cX2_digestBehind 277 = .ok (.lload_n 3, 1) := by decide +kernel
theorem dX2_digestBehind_278 : decode cX2_digestBehind 278 = .ok (.lreturn, 1) := by decide +kernel
/-! the digest -/
def dgI (f : Nat → Int32) : Nat → Int64 → Int64
  | 0, d => d
  | n + 1, d => dgI f n d * 31 + (f n).toInt64
def dgO (F : Nat → Int64 → Int64) : Nat → Int64 → Int64
  | 0, d => d
  | n + 1, d => F n (dgO F n d)
noncomputable def digM (B : BS) (m : MS) (d : Int64) : Int64 := dgI m.bd m.nb (dgO (fun i => dgI (tlT B m i) 4) B.nT (dgO (fun i => dgI (tlP B m i) 4) B.nP (dgO (fun i => dgI (tlF B m i) 9) B.nF (dgO (fun i => dgI (m.rail i) 5) B.nR d))))
section Dig
variable {G : Gp} {S : AMem} {I : Nat → Nat → Int32} {J : Nat → Nat → Int64} {R : Nat → Nat → Option Nat} {c : Nat} {B : BS} {m : MS} {Q : (Option AV ⊕ Nat) → AMem → Prop}
theorem k_dgRail {d0 cur : Int64} {x6 : Option AV} (hG : okG G) (hct : CT S R c) (hB : AbB I c B) (hm : AbM I c B m) (hQ : ∀ I1 x6, Qt c I I1 → MW G mX2_digestBehind 5 61 [some (vR c), some (vJ d0), none, some (vJ (dgO (fun i => dgI (m.rail i) 5) B.nR cur)), none, some (vI (nI B.nR)), x6] [] (mw S I1 J R) Q) : MW G mX2_digestBehind 5 5 [some (vR c), some (vJ d0), none, some (vJ (cur)), none, some (vI (0)), x6] [] (mw S I J R) Q := by
  have hct2 := hct
  obtain ⟨kc, rc0, rc1, rc2, rc3, rc4, rc5, rc6, rc7, ⟨kd, rd0, rd1, rd2, kd2, ld2, kd3, ld3, kd4, ld4⟩, ⟨kb, rb, kb6, lb6⟩, ⟨kf, rf, kf8, lf8⟩, ⟨kr, lr, hr⟩, ⟨kfi, lfi, hfi⟩, ⟨kp, lp, hpz⟩, ⟨kt, lt, htu⟩, kw, lw⟩ := id hct2
  have u4 : B.nR ≤ 4 := hB.1.2
  refine k_loop (σ := (Nat → Nat → Int32) × Option AV) (n := B.nR) (Inv := fun i s => Qt c I s.1) (W := fun i s => MW G mX2_digestBehind 5 5 [some (vR c), some (vJ d0), none, some (vJ (dgO (fun i => dgI (m.rail i) 5) i cur)), none, some (vI (nI i)), s.2] [] (mw S s.1 J R) _) ?_ ?_ 0 (I, x6) (Nat.zero_le _) Qt.rf
  · rintro i ⟨I0, y6⟩ hi hq0 ih
    dsimp only at hq0 ih ⊢
    have hB0 := hB.qt hq0
    have hm0 := AbM.qt hB hm hq0
    have u3 : I0 c 8 = nI B.nR := hB0.1.1
    refine am_iload (q := 7) dX2_digestBehind_5 rfl rfl ?_
    refine am_aload_n (q := 8) dX2_digestBehind_7 rfl rfl ?_
    refine cm_getI (q := 11) dX2_digestBehind_8 flX2_69 rfl (by assumption) rfl ?_
    rw [u3]
    refine am_icmp_ge (tgt := 61) (q := 14) dX2_digestBehind_11 rfl rfl (fun hz => absurd hz (nI_ge (by omega) (by omega))) (fun _ => ?_)
    refine am_iload (q := 16) dX2_digestBehind_14 rfl rfl ?_
    refine am_aload_n (q := 17) dX2_digestBehind_16 rfl rfl ?_
    refine cm_getR (q := 20) dX2_digestBehind_17 flX2_34 rfl (by assumption) (by assumption) rfl ?_
    refine cm_alenK (q := 21) dX2_digestBehind_20 (by assumption) (by decide) (by rw [lr] : nI (S.ln (c + 9)) = nI 4) rfl ?_
    refine am_icmp_ge (tgt := 61) (q := 24) dX2_digestBehind_21 rfl rfl (fun hz => absurd hz (nI_ge (by omega) (by decide))) (fun _ => ?_)
    refine am_iconst (q := 25) (v := 0) dX2_digestBehind_24 kc_i0 rfl ?_
    refine am_istore (q := 27) (ls1 := [_, _, _, _, _, _, _]) dX2_digestBehind_25 (Nat.le_of_ble_eq_true rfl) rfl rfl ?_
    generalize hcu : dgO (fun i => dgI (m.rail i) 5) i cur = cu at ih ⊢
    refine k_loop (σ := Nat → Nat → Int32) (n := 5) (Inv := fun w I1 => Qt c I I1) (W := fun w I1 => MW G mX2_digestBehind 5 27 [some (vR c), some (vJ d0), none, some (vJ (dgI (m.rail i) w cu)), none, some (vI (nI i)), some (vI (nI w))] [] (mw S I1 J R) _) ?_ ?_ 0 I0 (Nat.zero_le _) hq0
    · intro w I1 hw hq1 ih2
      refine am_iload (q := 29) dX2_digestBehind_27 rfl rfl ?_
      refine am_iconst (q := 30) (v := 4) dX2_digestBehind_29 kc_i4 rfl ?_
      refine am_icmp_gt (tgt := 55) (q := 33) dX2_digestBehind_30 rfl rfl (fun hz => absurd hz (fun q => absurd ((nI_ltI (a := 4) (b := w) (by decide) (by omega)).mp q) (by omega))) (fun _ => ?_)
      refine am_lload_n (q := 34) dX2_digestBehind_33 rfl rfl ?_
      refine am_ldcJ (q := 37) (v := 31) dX2_digestBehind_34 (tbc3 164 rfl rfl) rfl ?_
      refine am_lmul (q := 38) dX2_digestBehind_37 rfl ?_
      refine am_aload_n (q := 39) dX2_digestBehind_38 rfl rfl ?_
      refine am_iload (q := 41) dX2_digestBehind_39 rfl rfl ?_
      refine am_iload (q := 43) dX2_digestBehind_41 rfl rfl ?_
      refine cm_call0 (q := 46) (As := [_, _]) hG dX2_digestBehind_43 mlX2_272 rfl (by assumption) ⟨_, _, rfl⟩ (Nat.le_of_ble_eq_true rfl) (Nat.le_of_ble_eq_true rfl) (Nat.le_of_ble_eq_true rfl) (Nat.le_of_ble_eq_true rfl) (k_X2_tellRail hG hct (hB.qt hq1) (AbM.qt hB hm hq1) hi hw) rfl ?_
      rintro _ _ ⟨rfl, rfl⟩
      refine am_i2l (q := 47) dX2_digestBehind_46 rfl ?_
      refine am_ladd (q := 48) dX2_digestBehind_47 rfl ?_
      refine am_lstore_n (q := 49) (ls1 := [_, _, _, _, _, _, _]) dX2_digestBehind_48 (Nat.le_of_ble_eq_true rfl) rfl rfl ?_
      refine am_iincW (q := 52) (ls1 := [_, _, _, _, _, _, _]) (w := 1) dX2_digestBehind_49 rfl (Nat.le_of_ble_eq_true rfl) kc_i1 rfl rfl ?_
      refine am_goto (tgt := 27) dX2_digestBehind_52 rfl ?_
      rw [nI_1]
      exact ih2 I1 hq1
    · intro I1 hq1
      refine am_iload (q := 29) dX2_digestBehind_27 rfl rfl ?_
      refine am_iconst (q := 30) (v := 4) dX2_digestBehind_29 kc_i4 rfl ?_
      refine am_icmp_gt (tgt := 55) (q := 33) dX2_digestBehind_30 rfl rfl (fun _ => ?_) (fun hz => absurd ((nI_ltI (a := 4) (b := 5) (by decide) (by decide)).mpr (by decide)) hz)
      refine am_iincW (q := 58) (ls1 := [_, _, _, _, _, _, _]) (w := 1) dX2_digestBehind_55 rfl (Nat.le_of_ble_eq_true rfl) kc_i1 rfl rfl ?_
      refine am_goto (tgt := 5) dX2_digestBehind_58 rfl ?_
      rw [nI_1]
      have ih3 := ih (I1, some (vI (nI 5))) hq1
      rw [dgO, hcu] at ih3
      exact ih3
  · rintro ⟨I0, y6⟩ hq0
    dsimp only at hq0 ⊢
    refine am_iload (q := 7) dX2_digestBehind_5 rfl rfl ?_
    refine am_aload_n (q := 8) dX2_digestBehind_7 rfl rfl ?_
    refine cm_getI (q := 11) dX2_digestBehind_8 flX2_69 rfl (by assumption) rfl ?_
    rw [show I0 c 8 = nI B.nR from (hB.qt hq0).1.1]
    refine am_icmp_ge (tgt := 61) (q := 14) dX2_digestBehind_11 rfl rfl (fun _ => ?_) (fun hz => absurd (Int32.le_refl _) hz)
    exact hQ I0 y6 hq0
theorem k_dgFist {d0 cur : Int64} {x6 : Option AV} (hG : okG G) (hct : CT S R c) (hB : AbB I c B) (hm : AbM I c B m) (hQ : ∀ I1 x6, Qt c I I1 → MW G mX2_digestBehind 5 121 [some (vR c), some (vJ d0), none, some (vJ (dgO (fun i => dgI (tlF B m i) 9) B.nF cur)), none, some (vI (nI B.nF)), x6] [] (mw S I1 J R) Q) : MW G mX2_digestBehind 5 64 [some (vR c), some (vJ d0), none, some (vJ (cur)), none, some (vI (0)), x6] [] (mw S I J R) Q := by
  have hct2 := hct
  obtain ⟨kc, rc0, rc1, rc2, rc3, rc4, rc5, rc6, rc7, ⟨kd, rd0, rd1, rd2, kd2, ld2, kd3, ld3, kd4, ld4⟩, ⟨kb, rb, kb6, lb6⟩, ⟨kf, rf, kf8, lf8⟩, ⟨kr, lr, hr⟩, ⟨kfi, lfi, hfi⟩, ⟨kp, lp, hpz⟩, ⟨kt, lt, htu⟩, kw, lw⟩ := id hct2
  have u4 : B.nF ≤ 8 := hB.2.1.2
  refine k_loop (σ := (Nat → Nat → Int32) × Option AV) (n := B.nF) (Inv := fun i s => Qt c I s.1) (W := fun i s => MW G mX2_digestBehind 5 64 [some (vR c), some (vJ d0), none, some (vJ (dgO (fun i => dgI (tlF B m i) 9) i cur)), none, some (vI (nI i)), s.2] [] (mw S s.1 J R) _) ?_ ?_ 0 (I, x6) (Nat.zero_le _) Qt.rf
  · rintro i ⟨I0, y6⟩ hi hq0 ih
    dsimp only at hq0 ih ⊢
    have hB0 := hB.qt hq0
    have hm0 := AbM.qt hB hm hq0
    have u3 : I0 c 10 = nI B.nF := hB0.2.1.1
    refine am_iload (q := 66) dX2_digestBehind_64 rfl rfl ?_
    refine am_aload_n (q := 67) dX2_digestBehind_66 rfl rfl ?_
    refine cm_getI (q := 70) dX2_digestBehind_67 flX2_75 rfl (by assumption) rfl ?_
    rw [u3]
    refine am_icmp_ge (tgt := 121) (q := 73) dX2_digestBehind_70 rfl rfl (fun hz => absurd hz (nI_ge (by omega) (by omega))) (fun _ => ?_)
    refine am_iload (q := 75) dX2_digestBehind_73 rfl rfl ?_
    refine am_aload_n (q := 76) dX2_digestBehind_75 rfl rfl ?_
    refine cm_getR (q := 79) dX2_digestBehind_76 flX2_40 rfl (by assumption) (by assumption) rfl ?_
    refine cm_alenK (q := 80) dX2_digestBehind_79 (by assumption) (by decide) (by rw [lfi] : nI (S.ln (c + 10)) = nI 8) rfl ?_
    refine am_icmp_ge (tgt := 121) (q := 83) dX2_digestBehind_80 rfl rfl (fun hz => absurd hz (nI_ge (by omega) (by decide))) (fun _ => ?_)
    refine am_iconst (q := 84) (v := 0) dX2_digestBehind_83 kc_i0 rfl ?_
    refine am_istore (q := 86) (ls1 := [_, _, _, _, _, _, _]) dX2_digestBehind_84 (Nat.le_of_ble_eq_true rfl) rfl rfl ?_
    generalize hcu : dgO (fun i => dgI (tlF B m i) 9) i cur = cu at ih ⊢
    refine k_loop (σ := Nat → Nat → Int32) (n := 9) (Inv := fun w I1 => Qt c I I1) (W := fun w I1 => MW G mX2_digestBehind 5 86 [some (vR c), some (vJ d0), none, some (vJ (dgI (tlF B m i) w cu)), none, some (vI (nI i)), some (vI (nI w))] [] (mw S I1 J R) _) ?_ ?_ 0 I0 (Nat.zero_le _) hq0
    · intro w I1 hw hq1 ih2
      refine am_iload (q := 88) dX2_digestBehind_86 rfl rfl ?_
      refine am_bipush (q := 90) (v := 8) dX2_digestBehind_88 kc_b8 rfl ?_
      refine am_icmp_gt (tgt := 115) (q := 93) dX2_digestBehind_90 rfl rfl (fun hz => absurd hz (fun q => absurd ((nI_ltI (a := 8) (b := w) (by decide) (by omega)).mp q) (by omega))) (fun _ => ?_)
      refine am_lload_n (q := 94) dX2_digestBehind_93 rfl rfl ?_
      refine am_ldcJ (q := 97) (v := 31) dX2_digestBehind_94 (tbc3 164 rfl rfl) rfl ?_
      refine am_lmul (q := 98) dX2_digestBehind_97 rfl ?_
      refine am_aload_n (q := 99) dX2_digestBehind_98 rfl rfl ?_
      refine am_iload (q := 101) dX2_digestBehind_99 rfl rfl ?_
      refine am_iload (q := 103) dX2_digestBehind_101 rfl rfl ?_
      refine cm_call0 (q := 106) (As := [_, _]) hG dX2_digestBehind_103 mlX2_276 rfl (by assumption) ⟨_, _, rfl⟩ (Nat.le_of_ble_eq_true rfl) (Nat.le_of_ble_eq_true rfl) (Nat.le_of_ble_eq_true rfl) (Nat.le_of_ble_eq_true rfl) (k_X2_tellFist hG hct (hB.qt hq1) (AbM.qt hB hm hq1) hi hw) rfl ?_
      rintro _ _ ⟨rfl, rfl⟩
      refine am_i2l (q := 107) dX2_digestBehind_106 rfl ?_
      refine am_ladd (q := 108) dX2_digestBehind_107 rfl ?_
      refine am_lstore_n (q := 109) (ls1 := [_, _, _, _, _, _, _]) dX2_digestBehind_108 (Nat.le_of_ble_eq_true rfl) rfl rfl ?_
      refine am_iincW (q := 112) (ls1 := [_, _, _, _, _, _, _]) (w := 1) dX2_digestBehind_109 rfl (Nat.le_of_ble_eq_true rfl) kc_i1 rfl rfl ?_
      refine am_goto (tgt := 86) dX2_digestBehind_112 rfl ?_
      rw [nI_1]
      exact ih2 I1 hq1
    · intro I1 hq1
      refine am_iload (q := 88) dX2_digestBehind_86 rfl rfl ?_
      refine am_bipush (q := 90) (v := 8) dX2_digestBehind_88 kc_b8 rfl ?_
      refine am_icmp_gt (tgt := 115) (q := 93) dX2_digestBehind_90 rfl rfl (fun _ => ?_) (fun hz => absurd ((nI_ltI (a := 8) (b := 9) (by decide) (by decide)).mpr (by decide)) hz)
      refine am_iincW (q := 118) (ls1 := [_, _, _, _, _, _, _]) (w := 1) dX2_digestBehind_115 rfl (Nat.le_of_ble_eq_true rfl) kc_i1 rfl rfl ?_
      refine am_goto (tgt := 64) dX2_digestBehind_118 rfl ?_
      rw [nI_1]
      have ih3 := ih (I1, some (vI (nI 9))) hq1
      rw [dgO, hcu] at ih3
      exact ih3
  · rintro ⟨I0, y6⟩ hq0
    dsimp only at hq0 ⊢
    refine am_iload (q := 66) dX2_digestBehind_64 rfl rfl ?_
    refine am_aload_n (q := 67) dX2_digestBehind_66 rfl rfl ?_
    refine cm_getI (q := 70) dX2_digestBehind_67 flX2_75 rfl (by assumption) rfl ?_
    rw [show I0 c 10 = nI B.nF from (hB.qt hq0).2.1.1]
    refine am_icmp_ge (tgt := 121) (q := 73) dX2_digestBehind_70 rfl rfl (fun _ => ?_) (fun hz => absurd (Int32.le_refl _) hz)
    exact hQ I0 y6 hq0
theorem k_dgPrize {d0 cur : Int64} {x6 : Option AV} (hG : okG G) (hct : CT S R c) (hB : AbB I c B) (hm : AbM I c B m) (hQ : ∀ I1 x6, Qt c I I1 → MW G mX2_digestBehind 5 180 [some (vR c), some (vJ d0), none, some (vJ (dgO (fun i => dgI (tlP B m i) 4) B.nP cur)), none, some (vI (nI B.nP)), x6] [] (mw S I1 J R) Q) : MW G mX2_digestBehind 5 124 [some (vR c), some (vJ d0), none, some (vJ (cur)), none, some (vI (0)), x6] [] (mw S I J R) Q := by
  have hct2 := hct
  obtain ⟨kc, rc0, rc1, rc2, rc3, rc4, rc5, rc6, rc7, ⟨kd, rd0, rd1, rd2, kd2, ld2, kd3, ld3, kd4, ld4⟩, ⟨kb, rb, kb6, lb6⟩, ⟨kf, rf, kf8, lf8⟩, ⟨kr, lr, hr⟩, ⟨kfi, lfi, hfi⟩, ⟨kp, lp, hpz⟩, ⟨kt, lt, htu⟩, kw, lw⟩ := id hct2
  have u4 : B.nP ≤ 8 := hB.2.2.1.2
  refine k_loop (σ := (Nat → Nat → Int32) × Option AV) (n := B.nP) (Inv := fun i s => Qt c I s.1) (W := fun i s => MW G mX2_digestBehind 5 124 [some (vR c), some (vJ d0), none, some (vJ (dgO (fun i => dgI (tlP B m i) 4) i cur)), none, some (vI (nI i)), s.2] [] (mw S s.1 J R) _) ?_ ?_ 0 (I, x6) (Nat.zero_le _) Qt.rf
  · rintro i ⟨I0, y6⟩ hi hq0 ih
    dsimp only at hq0 ih ⊢
    have hB0 := hB.qt hq0
    have hm0 := AbM.qt hB hm hq0
    have u3 : I0 c 11 = nI B.nP := hB0.2.2.1.1
    refine am_iload (q := 126) dX2_digestBehind_124 rfl rfl ?_
    refine am_aload_n (q := 127) dX2_digestBehind_126 rfl rfl ?_
    refine cm_getI (q := 130) dX2_digestBehind_127 flX2_78 rfl (by assumption) rfl ?_
    rw [u3]
    refine am_icmp_ge (tgt := 180) (q := 133) dX2_digestBehind_130 rfl rfl (fun hz => absurd hz (nI_ge (by omega) (by omega))) (fun _ => ?_)
    refine am_iload (q := 135) dX2_digestBehind_133 rfl rfl ?_
    refine am_aload_n (q := 136) dX2_digestBehind_135 rfl rfl ?_
    refine cm_getR (q := 139) dX2_digestBehind_136 flX2_46 rfl (by assumption) (by assumption) rfl ?_
    refine cm_alenK (q := 140) dX2_digestBehind_139 (by assumption) (by decide) (by rw [lp] : nI (S.ln (c + 11)) = nI 8) rfl ?_
    refine am_icmp_ge (tgt := 180) (q := 143) dX2_digestBehind_140 rfl rfl (fun hz => absurd hz (nI_ge (by omega) (by decide))) (fun _ => ?_)
    refine am_iconst (q := 144) (v := 0) dX2_digestBehind_143 kc_i0 rfl ?_
    refine am_istore (q := 146) (ls1 := [_, _, _, _, _, _, _]) dX2_digestBehind_144 (Nat.le_of_ble_eq_true rfl) rfl rfl ?_
    generalize hcu : dgO (fun i => dgI (tlP B m i) 4) i cur = cu at ih ⊢
    refine k_loop (σ := Nat → Nat → Int32) (n := 4) (Inv := fun w I1 => Qt c I I1) (W := fun w I1 => MW G mX2_digestBehind 5 146 [some (vR c), some (vJ d0), none, some (vJ (dgI (tlP B m i) w cu)), none, some (vI (nI i)), some (vI (nI w))] [] (mw S I1 J R) _) ?_ ?_ 0 I0 (Nat.zero_le _) hq0
    · intro w I1 hw hq1 ih2
      refine am_iload (q := 148) dX2_digestBehind_146 rfl rfl ?_
      refine am_iconst (q := 149) (v := 3) dX2_digestBehind_148 kc_i3 rfl ?_
      refine am_icmp_gt (tgt := 174) (q := 152) dX2_digestBehind_149 rfl rfl (fun hz => absurd hz (fun q => absurd ((nI_ltI (a := 3) (b := w) (by decide) (by omega)).mp q) (by omega))) (fun _ => ?_)
      refine am_lload_n (q := 153) dX2_digestBehind_152 rfl rfl ?_
      refine am_ldcJ (q := 156) (v := 31) dX2_digestBehind_153 (tbc3 164 rfl rfl) rfl ?_
      refine am_lmul (q := 157) dX2_digestBehind_156 rfl ?_
      refine am_aload_n (q := 158) dX2_digestBehind_157 rfl rfl ?_
      refine am_iload (q := 160) dX2_digestBehind_158 rfl rfl ?_
      refine am_iload (q := 162) dX2_digestBehind_160 rfl rfl ?_
      refine cm_call0 (q := 165) (As := [_, _]) hG dX2_digestBehind_162 mlX2_279 rfl (by assumption) ⟨_, _, rfl⟩ (Nat.le_of_ble_eq_true rfl) (Nat.le_of_ble_eq_true rfl) (Nat.le_of_ble_eq_true rfl) (Nat.le_of_ble_eq_true rfl) (k_X2_tellPrize hG hct (hB.qt hq1) (AbM.qt hB hm hq1) hi hw) rfl ?_
      rintro _ _ ⟨rfl, I2, rfl, hq2⟩
      refine am_i2l (q := 166) dX2_digestBehind_165 rfl ?_
      refine am_ladd (q := 167) dX2_digestBehind_166 rfl ?_
      refine am_lstore_n (q := 168) (ls1 := [_, _, _, _, _, _, _]) dX2_digestBehind_167 (Nat.le_of_ble_eq_true rfl) rfl rfl ?_
      refine am_iincW (q := 171) (ls1 := [_, _, _, _, _, _, _]) (w := 1) dX2_digestBehind_168 rfl (Nat.le_of_ble_eq_true rfl) kc_i1 rfl rfl ?_
      refine am_goto (tgt := 146) dX2_digestBehind_171 rfl ?_
      rw [nI_1]
      exact ih2 I2 (hq1.tr hq2)
    · intro I1 hq1
      refine am_iload (q := 148) dX2_digestBehind_146 rfl rfl ?_
      refine am_iconst (q := 149) (v := 3) dX2_digestBehind_148 kc_i3 rfl ?_
      refine am_icmp_gt (tgt := 174) (q := 152) dX2_digestBehind_149 rfl rfl (fun _ => ?_) (fun hz => absurd ((nI_ltI (a := 3) (b := 4) (by decide) (by decide)).mpr (by decide)) hz)
      refine am_iincW (q := 177) (ls1 := [_, _, _, _, _, _, _]) (w := 1) dX2_digestBehind_174 rfl (Nat.le_of_ble_eq_true rfl) kc_i1 rfl rfl ?_
      refine am_goto (tgt := 124) dX2_digestBehind_177 rfl ?_
      rw [nI_1]
      have ih3 := ih (I1, some (vI (nI 4))) hq1
      rw [dgO, hcu] at ih3
      exact ih3
  · rintro ⟨I0, y6⟩ hq0
    dsimp only at hq0 ⊢
    refine am_iload (q := 126) dX2_digestBehind_124 rfl rfl ?_
    refine am_aload_n (q := 127) dX2_digestBehind_126 rfl rfl ?_
    refine cm_getI (q := 130) dX2_digestBehind_127 flX2_78 rfl (by assumption) rfl ?_
    rw [show I0 c 11 = nI B.nP from (hB.qt hq0).2.2.1.1]
    refine am_icmp_ge (tgt := 180) (q := 133) dX2_digestBehind_130 rfl rfl (fun _ => ?_) (fun hz => absurd (Int32.le_refl _) hz)
    exact hQ I0 y6 hq0
theorem k_dgTurn {d0 cur : Int64} {x6 : Option AV} (hG : okG G) (hct : CT S R c) (hB : AbB I c B) (hm : AbM I c B m) (hQ : ∀ I1 x6, Qt c I I1 → MW G mX2_digestBehind 5 239 [some (vR c), some (vJ d0), none, some (vJ (dgO (fun i => dgI (tlT B m i) 4) B.nT cur)), none, some (vI (nI B.nT)), x6] [] (mw S I1 J R) Q) : MW G mX2_digestBehind 5 183 [some (vR c), some (vJ d0), none, some (vJ (cur)), none, some (vI (0)), x6] [] (mw S I J R) Q := by
  have hct2 := hct
  obtain ⟨kc, rc0, rc1, rc2, rc3, rc4, rc5, rc6, rc7, ⟨kd, rd0, rd1, rd2, kd2, ld2, kd3, ld3, kd4, ld4⟩, ⟨kb, rb, kb6, lb6⟩, ⟨kf, rf, kf8, lf8⟩, ⟨kr, lr, hr⟩, ⟨kfi, lfi, hfi⟩, ⟨kp, lp, hpz⟩, ⟨kt, lt, htu⟩, kw, lw⟩ := id hct2
  have u4 : B.nT ≤ 20 := hB.2.2.2.1.2
  refine k_loop (σ := (Nat → Nat → Int32) × Option AV) (n := B.nT) (Inv := fun i s => Qt c I s.1) (W := fun i s => MW G mX2_digestBehind 5 183 [some (vR c), some (vJ d0), none, some (vJ (dgO (fun i => dgI (tlT B m i) 4) i cur)), none, some (vI (nI i)), s.2] [] (mw S s.1 J R) _) ?_ ?_ 0 (I, x6) (Nat.zero_le _) Qt.rf
  · rintro i ⟨I0, y6⟩ hi hq0 ih
    dsimp only at hq0 ih ⊢
    have hB0 := hB.qt hq0
    have hm0 := AbM.qt hB hm hq0
    have u3 : I0 c 12 = nI B.nT := hB0.2.2.2.1.1
    refine am_iload (q := 185) dX2_digestBehind_183 rfl rfl ?_
    refine am_aload_n (q := 186) dX2_digestBehind_185 rfl rfl ?_
    refine cm_getI (q := 189) dX2_digestBehind_186 flX2_81 rfl (by assumption) rfl ?_
    rw [u3]
    refine am_icmp_ge (tgt := 239) (q := 192) dX2_digestBehind_189 rfl rfl (fun hz => absurd hz (nI_ge (by omega) (by omega))) (fun _ => ?_)
    refine am_iload (q := 194) dX2_digestBehind_192 rfl rfl ?_
    refine am_aload_n (q := 195) dX2_digestBehind_194 rfl rfl ?_
    refine cm_getR (q := 198) dX2_digestBehind_195 flX2_52 rfl (by assumption) (by assumption) rfl ?_
    refine cm_alenK (q := 199) dX2_digestBehind_198 (by assumption) (by decide) (by rw [lt] : nI (S.ln (c + 12)) = nI 20) rfl ?_
    refine am_icmp_ge (tgt := 239) (q := 202) dX2_digestBehind_199 rfl rfl (fun hz => absurd hz (nI_ge (by omega) (by decide))) (fun _ => ?_)
    refine am_iconst (q := 203) (v := 0) dX2_digestBehind_202 kc_i0 rfl ?_
    refine am_istore (q := 205) (ls1 := [_, _, _, _, _, _, _]) dX2_digestBehind_203 (Nat.le_of_ble_eq_true rfl) rfl rfl ?_
    generalize hcu : dgO (fun i => dgI (tlT B m i) 4) i cur = cu at ih ⊢
    refine k_loop (σ := Nat → Nat → Int32) (n := 4) (Inv := fun w I1 => Qt c I I1) (W := fun w I1 => MW G mX2_digestBehind 5 205 [some (vR c), some (vJ d0), none, some (vJ (dgI (tlT B m i) w cu)), none, some (vI (nI i)), some (vI (nI w))] [] (mw S I1 J R) _) ?_ ?_ 0 I0 (Nat.zero_le _) hq0
    · intro w I1 hw hq1 ih2
      refine am_iload (q := 207) dX2_digestBehind_205 rfl rfl ?_
      refine am_iconst (q := 208) (v := 3) dX2_digestBehind_207 kc_i3 rfl ?_
      refine am_icmp_gt (tgt := 233) (q := 211) dX2_digestBehind_208 rfl rfl (fun hz => absurd hz (fun q => absurd ((nI_ltI (a := 3) (b := w) (by decide) (by omega)).mp q) (by omega))) (fun _ => ?_)
      refine am_lload_n (q := 212) dX2_digestBehind_211 rfl rfl ?_
      refine am_ldcJ (q := 215) (v := 31) dX2_digestBehind_212 (tbc3 164 rfl rfl) rfl ?_
      refine am_lmul (q := 216) dX2_digestBehind_215 rfl ?_
      refine am_aload_n (q := 217) dX2_digestBehind_216 rfl rfl ?_
      refine am_iload (q := 219) dX2_digestBehind_217 rfl rfl ?_
      refine am_iload (q := 221) dX2_digestBehind_219 rfl rfl ?_
      refine cm_call0 (q := 224) (As := [_, _]) hG dX2_digestBehind_221 mlX2_282 rfl (by assumption) ⟨_, _, rfl⟩ (Nat.le_of_ble_eq_true rfl) (Nat.le_of_ble_eq_true rfl) (Nat.le_of_ble_eq_true rfl) (Nat.le_of_ble_eq_true rfl) (k_X2_tellTurn hG hct (hB.qt hq1) (AbM.qt hB hm hq1) hi hw) rfl ?_
      rintro _ _ ⟨rfl, I2, rfl, hq2⟩
      refine am_i2l (q := 225) dX2_digestBehind_224 rfl ?_
      refine am_ladd (q := 226) dX2_digestBehind_225 rfl ?_
      refine am_lstore_n (q := 227) (ls1 := [_, _, _, _, _, _, _]) dX2_digestBehind_226 (Nat.le_of_ble_eq_true rfl) rfl rfl ?_
      refine am_iincW (q := 230) (ls1 := [_, _, _, _, _, _, _]) (w := 1) dX2_digestBehind_227 rfl (Nat.le_of_ble_eq_true rfl) kc_i1 rfl rfl ?_
      refine am_goto (tgt := 205) dX2_digestBehind_230 rfl ?_
      rw [nI_1]
      exact ih2 I2 (hq1.tr hq2)
    · intro I1 hq1
      refine am_iload (q := 207) dX2_digestBehind_205 rfl rfl ?_
      refine am_iconst (q := 208) (v := 3) dX2_digestBehind_207 kc_i3 rfl ?_
      refine am_icmp_gt (tgt := 233) (q := 211) dX2_digestBehind_208 rfl rfl (fun _ => ?_) (fun hz => absurd ((nI_ltI (a := 3) (b := 4) (by decide) (by decide)).mpr (by decide)) hz)
      refine am_iincW (q := 236) (ls1 := [_, _, _, _, _, _, _]) (w := 1) dX2_digestBehind_233 rfl (Nat.le_of_ble_eq_true rfl) kc_i1 rfl rfl ?_
      refine am_goto (tgt := 183) dX2_digestBehind_236 rfl ?_
      rw [nI_1]
      have ih3 := ih (I1, some (vI (nI 4))) hq1
      rw [dgO, hcu] at ih3
      exact ih3
  · rintro ⟨I0, y6⟩ hq0
    dsimp only at hq0 ⊢
    refine am_iload (q := 185) dX2_digestBehind_183 rfl rfl ?_
    refine am_aload_n (q := 186) dX2_digestBehind_185 rfl rfl ?_
    refine cm_getI (q := 189) dX2_digestBehind_186 flX2_81 rfl (by assumption) rfl ?_
    rw [show I0 c 12 = nI B.nT from (hB.qt hq0).2.2.2.1.1]
    refine am_icmp_ge (tgt := 239) (q := 192) dX2_digestBehind_189 rfl rfl (fun _ => ?_) (fun hz => absurd (Int32.le_refl _) hz)
    exact hQ I0 y6 hq0
theorem k_X2_digestBehind {d0 : Int64} (hG : okG G) (hct : CT S R c) (hB : AbB I c B) (hm : AbM I c B m) : Fn G mX2_digestBehind 5 [vR c, vJ d0] (mw S I J R) (fun rr M1 => rr = some (vJ (digM B m d0)) ∧ ∃ I1, M1 = mw S I1 J R ∧ Qt c I I1) := by
  have hct2 := hct
  obtain ⟨kc, rc0, rc1, rc2, rc3, rc4, rc5, rc6, rc7, ⟨kd, rd0, rd1, rd2, kd2, ld2, kd3, ld3, kd4, ld4⟩, ⟨kb, rb, kb6, lb6⟩, ⟨kf, rf, kf8, lf8⟩, ⟨kr, lr, hr⟩, ⟨kfi, lfi, hfi⟩, ⟨kp, lp, hpz⟩, ⟨kt, lt, htu⟩, kw, lw⟩ := id hct2
  unfold digM
  refine am_lload_n (q := 1) dX2_digestBehind_0 rfl rfl ?_
  refine am_lstore_n (q := 2) (ls1 := [_, _, _, _, _, _, _]) dX2_digestBehind_1 (Nat.le_of_ble_eq_true rfl) rfl rfl ?_
  refine am_iconst (q := 3) (v := 0) dX2_digestBehind_2 kc_i0 rfl ?_
  refine am_istore (q := 5) (ls1 := [_, _, _, _, _, _, _]) dX2_digestBehind_3 (Nat.le_of_ble_eq_true rfl) rfl rfl ?_
  refine k_dgRail hG hct hB hm ?_
  intro I1 x6 hq1
  refine am_iconst (q := 62) (v := 0) dX2_digestBehind_61 kc_i0 rfl ?_
  refine am_istore (q := 64) (ls1 := [_, _, _, _, _, _, _]) dX2_digestBehind_62 (Nat.le_of_ble_eq_true rfl) rfl rfl ?_
  have hB1 := hB.qt hq1
  have hm1 := AbM.qt hB hm hq1
  refine k_dgFist hG hct hB1 hm1 ?_
  intro I2 y6 hq2
  refine am_iconst (q := 122) (v := 0) dX2_digestBehind_121 kc_i0 rfl ?_
  refine am_istore (q := 124) (ls1 := [_, _, _, _, _, _, _]) dX2_digestBehind_122 (Nat.le_of_ble_eq_true rfl) rfl rfl ?_
  have hB2 := hB1.qt hq2
  have hm2 := AbM.qt hB1 hm1 hq2
  refine k_dgPrize hG hct hB2 hm2 ?_
  intro I3 z6 hq3
  refine am_iconst (q := 181) (v := 0) dX2_digestBehind_180 kc_i0 rfl ?_
  refine am_istore (q := 183) (ls1 := [_, _, _, _, _, _, _]) dX2_digestBehind_181 (Nat.le_of_ble_eq_true rfl) rfl rfl ?_
  have hB3 := hB2.qt hq3
  have hm3 := AbM.qt hB2 hm2 hq3
  refine k_dgTurn hG hct hB3 hm3 ?_
  intro I4 w6 hq4
  refine am_iconst (q := 240) (v := 0) dX2_digestBehind_239 kc_i0 rfl ?_
  refine am_istore (q := 242) (ls1 := [_, _, _, _, _, _, _]) dX2_digestBehind_240 (Nat.le_of_ble_eq_true rfl) rfl rfl ?_
  have hB4 := hB3.qt hq4
  have hm4 := AbM.qt hB3 hm3 hq4
  generalize dgO (fun i => dgI (tlT B m i) 4) B.nT _ = cu
  have hb : I4 (c + 5) 1 = nI m.nb := hm4.2.2.2.2.2.2.2.1
  have hb10 : m.nb ≤ 10 := hm4.2.2.2.2.2.2.2.2.1
  refine k_loop (σ := Unit) (n := m.nb) (Inv := fun _ _ => True) (W := fun i _ => MW G mX2_digestBehind 5 242 [some (vR c), some (vJ d0), none, some (vJ (dgI m.bd i cu)), none, some (vI (nI i)), w6] [] (mw S I4 J R) _) ?_ ?_ 0 () (Nat.zero_le _) trivial
  · rintro i ⟨⟩ hi _ ih
    have hv : (if 0 ≤ nI i ∧ nI i < I4 (c + 5) 1 ∧ nI i < 10 then I4 (c + 6) (nI i).toNatClampNeg else 0) = m.bd i := by
      have q := k_inr hi (by omega)
      rw [hb, if_pos ⟨q.1, q.2, (nI_ltI (b := 10) (by omega) (by decide)).mpr (by omega)⟩, nI_clamp (by omega)]
      exact hm4.2.2.2.2.2.2.1 i hi
    refine am_iload (q := 244) dX2_digestBehind_242 rfl rfl ?_
    refine am_aload_n (q := 245) dX2_digestBehind_244 rfl rfl ?_
    refine cm_getR (q := 248) dX2_digestBehind_245 flX2_21 rfl (by assumption) (by assumption) rfl ?_
    refine cm_getI (q := 251) dX2_digestBehind_248 flX2_68 rfl (by assumption) rfl ?_
    rw [hb]
    refine am_icmp_ge (tgt := 277) (q := 254) dX2_digestBehind_251 rfl rfl (fun hz => absurd hz (nI_ge (by omega) (by omega))) (fun _ => ?_)
    refine am_lload_n (q := 255) dX2_digestBehind_254 rfl rfl ?_
    refine am_ldcJ (q := 258) (v := 31) dX2_digestBehind_255 (tbc3 164 rfl rfl) rfl ?_
    refine am_lmul (q := 259) dX2_digestBehind_258 rfl ?_
    refine am_aload_n (q := 260) dX2_digestBehind_259 rfl rfl ?_
    refine cm_getR (q := 263) dX2_digestBehind_260 flX2_21 rfl (by assumption) (by assumption) rfl ?_
    refine am_iload (q := 265) dX2_digestBehind_263 rfl rfl ?_
    refine cm_call0 (q := 268) (As := [_]) hG dX2_digestBehind_265 mlX2_285 rfl (by assumption) ⟨_, _, rfl⟩ (Nat.le_of_ble_eq_true rfl) (Nat.le_of_ble_eq_true rfl) (Nat.le_of_ble_eq_true rfl) (Nat.le_of_ble_eq_true rfl) (k_X0_heightAt hG kb rb kb6 lb6) rfl ?_
    rintro _ _ ⟨rfl, rfl⟩
    rw [hv]
    refine am_i2l (q := 269) dX2_digestBehind_268 rfl ?_
    refine am_ladd (q := 270) dX2_digestBehind_269 rfl ?_
    refine am_lstore_n (q := 271) (ls1 := [_, _, _, _, _, _, _]) dX2_digestBehind_270 (Nat.le_of_ble_eq_true rfl) rfl rfl ?_
    refine am_iincW (q := 274) (ls1 := [_, _, _, _, _, _, _]) (w := 1) dX2_digestBehind_271 rfl (Nat.le_of_ble_eq_true rfl) kc_i1 rfl rfl ?_
    refine am_goto (tgt := 242) dX2_digestBehind_274 rfl ?_
    rw [nI_1]
    exact ih () trivial
  · rintro ⟨⟩ _
    refine am_iload (q := 244) dX2_digestBehind_242 rfl rfl ?_
    refine am_aload_n (q := 245) dX2_digestBehind_244 rfl rfl ?_
    refine cm_getR (q := 248) dX2_digestBehind_245 flX2_21 rfl (by assumption) (by assumption) rfl ?_
    refine cm_getI (q := 251) dX2_digestBehind_248 flX2_68 rfl (by assumption) rfl ?_
    rw [hb]
    refine am_icmp_ge (tgt := 277) (q := 254) dX2_digestBehind_251 rfl rfl (fun _ => ?_) (fun hz => absurd (Int32.le_refl _) hz)
    refine am_lload_n (q := 278) dX2_digestBehind_277 rfl rfl ?_
    exact am_lret dX2_digestBehind_278 rfl ⟨_, rfl, rfl, I4, rfl, ((hq1.tr hq2).tr hq3).tr hq4⟩
end Dig

