theorem dX14_strike_0 : decode cX14_strike 0 = .ok (.aload_n 0, 1) := by decide +kernel
theorem dX14_strike_1 : decode cX14_strike 1 = .ok (.aload_n 1, 1) := by decide +kernel
theorem dX14_strike_2 : decode cX14_strike 2 = .ok (.iload_n 2, 1) := by decide +kernel
theorem dX14_strike_3 : decode cX14_strike 3 = .ok (.iload_n 3, 1) := by decide +kernel
theorem dX14_strike_4 : decode cX14_strike 4 = .ok (.aload_n 0, 1) := by decide +kernel
theorem dX14_strike_5 : decode cX14_strike 5 = .ok (.getfield 32, 3) := by decide +kernel
theorem dX14_strike_8 : decode cX14_strike 8 = .ok (.getfield 240, 3) := by decide +kernel
theorem dX14_strike_11 : decode cX14_strike 11 = .ok (.iconst 3, 1) := by decide +kernel
theorem dX14_strike_12 : decode cX14_strike 12 = .ok (.iload_n 2, 1) := by decide +kernel
theorem dX14_strike_13 : decode cX14_strike 13 = .ok (.imul, 1) := by decide +kernel
theorem dX14_strike_14 : decode cX14_strike 14 = .ok (.iaload, 1) := by decide +kernel
theorem dX14_strike_15 : decode cX14_strike 15 = .ok (.invokevirtual 323, 3) := by decide +kernel
theorem dX14_strike_18 : decode cX14_strike 18 = .ok (.aload_n 1, 1) := by decide +kernel
theorem dX14_strike_19 : decode cX14_strike 19 = .ok (.aload_n 0, 1) := by decide +kernel
theorem dX14_strike_20 : decode cX14_strike 20 = .ok (.getfield 305, 3) := by decide +kernel
theorem dX14_strike_23 : decode cX14_strike 23 = .ok (.putfield 274, 3) := by decide +kernel
theorem dX14_strike_26 : decode cX14_strike 26 = .ok (.aload_n 1, 1) := by decide +kernel
theorem dX14_strike_27 : decode cX14_strike 27 = .ok (.aload_n 0, 1) := by decide +kernel
theorem dX14_strike_28 : decode cX14_strike 28 = .ok (.getfield 308, 3) := by decide +kernel
theorem dX14_strike_31 : decode cX14_strike 31 = .ok (.putfield 277, 3) := by decide +kernel
theorem dX14_strike_34 : decode cX14_strike 34 = .ok (.aload_n 1, 1) := by decide +kernel
theorem dX14_strike_35 : decode cX14_strike 35 = .ok (.dup, 1) := by decide +kernel
theorem dX14_strike_36 : decode cX14_strike 36 = .ok (.getfield 327, 3) := by decide +kernel
theorem dX14_strike_39 : decode cX14_strike 39 = .ok (.iconst 1, 1) := by decide +kernel
theorem dX14_strike_40 : decode cX14_strike 40 = .ok (.iadd, 1) := by decide +kernel
theorem dX14_strike_41 : decode cX14_strike 41 = .ok (.putfield 327, 3) := by decide +kernel
theorem dX14_strike_44 : decode cX14_strike 44 = .ok (.aload_n 1, 1) := by decide +kernel
theorem dX14_strike_45 : decode cX14_strike 45 = .ok (.dup, 1) := by decide +kernel
theorem dX14_strike_46 : decode cX14_strike 46 = .ok (.getfield 330, 3) := by decide +kernel
theorem dX14_strike_49 : decode cX14_strike 49 = .ok (.aload_n 0, 1) := by decide +kernel
theorem dX14_strike_50 : decode cX14_strike 50 = .ok (.getfield 308, 3) := by decide +kernel
theorem dX14_strike_53 : decode cX14_strike 53 = .ok (.iadd, 1) := by decide +kernel
theorem dX14_strike_54 : decode cX14_strike 54 = .ok (.putfield 330, 3) := by decide +kernel
theorem dX14_strike_57 : decode cX14_strike 57 = .ok (.aload_n 1, 1) := by decide +kernel
theorem dX14_strike_58 : decode cX14_strike 58 = .ok (.getfield 284, 3) := by decide +kernel
theorem dX14_strike_61 : decode cX14_strike 61 = .ok (.iconst 3, 1) := by decide +kernel
theorem dX14_strike_62 : decode cX14_strike 62 = .ok (.iload_n 3, 1) := by decide +kernel
theorem dX14_strike_63 : decode cX14_strike 63 = .ok (.imul, 1) := by decide +kernel
theorem dX14_strike_64 : decode cX14_strike 64 = .ok (.iconst 1, 1) := by decide +kernel
theorem dX14_strike_65 : decode cX14_strike 65 = .ok (.iadd, 1) := by decide +kernel
theorem dX14_strike_66 : decode cX14_strike 66 = .ok (.aload_n 1, 1) := by decide +kernel
theorem dX14_strike_67 : decode cX14_strike 67 = .ok (.getfield 284, 3) := by decide +kernel
theorem dX14_strike_70 : decode cX14_strike 70 = .ok (.iconst 3, 1) := by decide +kernel
theorem dX14_strike_71 : decode cX14_strike 71 = .ok (.iload_n 3, 1) := by decide +kernel
theorem dX14_strike_72 : decode cX14_strike 72 = .ok (.imul, 1) := by decide +kernel
theorem dX14_strike_73 : decode cX14_strike 73 = .ok (.iconst 1, 1) := by decide +kernel
theorem dX14_strike_74 : decode cX14_strike 74 = .ok (.iadd, 1) := by decide +kernel
theorem dX14_strike_75 : decode cX14_strike 75 = .ok (.iaload, 1) := by decide +kernel
theorem dX14_strike_76 : decode cX14_strike 76 = .ok (.aload_n 0, 1) := by decide +kernel
theorem dX14_strike_77 : decode cX14_strike 77 = .ok (.getfield 305, 3) := by decide +kernel
theorem dX14_strike_80 : decode cX14_strike 80 = .ok (.invokestatic 295, 3) := by decide +kernel
theorem dX14_strike_83 : decode cX14_strike 83 = .ok (.iastore, 1) := by decide +kernel
theorem dX14_strike_84 : decode cX14_strike 84 = .ok (.aload_n 1, 1) := by decide +kernel
theorem dX14_strike_85 : decode cX14_strike 85 = .ok (.getfield 284, 3) := by decide +kernel
theorem dX14_strike_88 : decode cX14_strike 88 = .ok (.iconst 3, 1) := by decide +kernel
theorem dX14_strike_89 : decode cX14_strike 89 = .ok (.iload_n 3, 1) := by decide +kernel
theorem dX14_strike_90 : decode cX14_strike 90 = .ok (.imul, 1) := by decide +kernel
theorem dX14_strike_91 : decode cX14_strike 91 = .ok (.iconst 2, 1) := by decide +kernel
theorem dX14_strike_92 : decode cX14_strike 92 = .ok (.iadd, 1) := by decide +kernel
theorem dX14_strike_93 : decode cX14_strike 93 = .ok (.dup2, 1) := by decide +kernel
theorem dX14_strike_94 : decode cX14_strike 94 = .ok (.iaload, 1) := by decide +kernel
theorem dX14_strike_95 : decode cX14_strike 95 = .ok (.iconst 1, 1) := by decide +kernel
theorem dX14_strike_96 : decode cX14_strike 96 = .ok (.iadd, 1) := by decide +kernel
theorem dX14_strike_97 : decode cX14_strike 97 = .ok (.iastore, 1) := by decide +kernel
theorem dX14_strike_98 : decode cX14_strike 98 = .ok (.bipush 7, 2) := by decide +kernel
theorem dX14_strike_100 : decode cX14_strike 100 = .ok (.iload_n 2, 1) := by decide +kernel
theorem dX14_strike_101 : decode cX14_strike 101 = .ok (.imul, 1) := by decide +kernel
theorem dX14_strike_102 : decode cX14_strike 102 = .ok (.istore 4, 2) := by decide +kernel
theorem dX14_strike_104 : decode cX14_strike 104 = .ok (.aload_n 1, 1) := by decide +kernel
theorem dX14_strike_105 : decode cX14_strike 105 = .ok (.getfield 283, 3) := by decide +kernel
theorem dX14_strike_108 : decode cX14_strike 108 = .ok (.iload 4, 2) := by decide +kernel
theorem dX14_strike_110 : decode cX14_strike 110 = .ok (.iconst 1, 1) := by decide +kernel
theorem dX14_strike_111 : decode cX14_strike 111 = .ok (.iadd, 1) := by decide +kernel
theorem dX14_strike_112 : decode cX14_strike 112 = .ok (.bipush 60, 2) := by decide +kernel
theorem dX14_strike_114 : decode cX14_strike 114 = .ok (.aload_n 1, 1) := by decide +kernel
theorem dX14_strike_115 : decode cX14_strike 115 = .ok (.getfield 283, 3) := by decide +kernel
theorem dX14_strike_118 : decode cX14_strike 118 = .ok (.iload 4, 2) := by decide +kernel
theorem dX14_strike_120 : decode cX14_strike 120 = .ok (.iconst 1, 1) := by decide +kernel
theorem dX14_strike_121 : decode cX14_strike 121 = .ok (.iadd, 1) := by decide +kernel
theorem dX14_strike_122 : decode cX14_strike 122 = .ok (.iaload, 1) := by decide +kernel
theorem dX14_strike_123 : decode cX14_strike 123 = .ok (.aload_n 0, 1) := by decide +kernel
theorem dX14_strike_124 : decode cX14_strike 124 = .ok (.getfield 32, 3) := by decide +kernel
theorem dX14_strike_127 : decode cX14_strike 127 = .ok (.getfield 227, 3) := by decide +kernel
theorem dX14_strike_130 : decode cX14_strike 130 = .ok (.iconst 3, 1) := by decide +kernel
theorem dX14_strike_131 : decode cX14_strike 131 = .ok (.iload_n 3, 1) := by decide +kernel
theorem dX14_strike_132 : decode cX14_strike 132 = .ok (.imul, 1) := by decide +kernel
theorem dX14_strike_133 : decode cX14_strike 133 = .ok (.iconst 1, 1) := by decide +kernel
theorem dX14_strike_134 : decode cX14_strike 134 = .ok (.iadd, 1) := by decide +kernel
theorem dX14_strike_135 : decode cX14_strike 135 = .ok (.iaload, 1) := by decide +kernel
theorem dX14_strike_136 : decode cX14_strike 136 = .ok (.iadd, 1) := by decide +kernel
theorem dX14_strike_137 : decode cX14_strike 137 = .ok (.invokestatic 290, 3) := by decide +kernel
theorem dX14_strike_140 : decode cX14_strike 140 = .ok (.iastore, 1) := by decide +kernel
theorem dX14_strike_141 : decode cX14_strike 141 = .ok (.aload_n 1, 1) := by decide +kernel
theorem dX14_strike_142 : decode cX14_strike 142 = .ok (.getfield 283, 3) := by decide +kernel
theorem dX14_strike_145 : decode cX14_strike 145 = .ok (.iload 4, 2) := by decide +kernel
theorem dX14_strike_147 : decode cX14_strike 147 = .ok (.iconst 3, 1) := by decide +kernel
theorem dX14_strike_148 : decode cX14_strike 148 = .ok (.iadd, 1) := by decide +kernel
theorem dX14_strike_149 : decode cX14_strike 149 = .ok (.dup2, 1) := by decide +kernel
theorem dX14_strike_150 : decode cX14_strike 150 = .ok (.iaload, 1) := by decide +kernel
theorem dX14_strike_151 : decode cX14_strike 151 = .ok (.iconst 1, 1) := by decide +kernel
theorem dX14_strike_152 : decode cX14_strike 152 = .ok (.iadd, 1) := by decide +kernel
theorem dX14_strike_153 : decode cX14_strike 153 = .ok (.iastore, 1) := by decide +kernel
theorem dX14_strike_154 : decode cX14_strike 154 = .ok (.aload_n 1, 1) := by decide +kernel
theorem dX14_strike_155 : decode cX14_strike 155 = .ok (.getfield 283, 3) := by decide +kernel
theorem dX14_strike_158 : decode cX14_strike 158 = .ok (.iload 4, 2) := by decide +kernel
theorem dX14_strike_160 : decode cX14_strike 160 = .ok (.iconst 4, 1) := by decide +kernel
theorem dX14_strike_161 : decode cX14_strike 161 = .ok (.iadd, 1) := by decide +kernel
theorem dX14_strike_162 : decode cX14_strike 162 = .ok (.aload_n 1, 1) := by decide +kernel
theorem dX14_strike_163 : decode cX14_strike 163 = .ok (.getfield 283, 3) := by decide +kernel
theorem dX14_strike_166 : decode cX14_strike 166 = .ok (.iload 4, 2) := by decide +kernel
theorem dX14_strike_168 : decode cX14_strike 168 = .ok (.iconst 4, 1) := by decide +kernel
theorem dX14_strike_169 : decode cX14_strike 169 = .ok (.iadd, 1) := by decide +kernel
theorem dX14_strike_170 : decode cX14_strike 170 = .ok (.iaload, 1) := by decide +kernel
theorem dX14_strike_171 : decode cX14_strike 171 = .ok (.aload_n 0, 1) := by decide +kernel
theorem dX14_strike_172 : decode cX14_strike 172 = .ok (.getfield 305, 3) := by decide +kernel
theorem dX14_strike_175 : decode cX14_strike 175 = .ok (.invokestatic 295, 3) := by decide +kernel
theorem dX14_strike_178 : decode cX14_strike 178 = .ok (.iastore, 1) := by decide +kernel
theorem dX14_strike_179 : decode cX14_strike 179 = .ok (.aload_n 1, 1) := by decide +kernel
theorem dX14_strike_180 : decode cX14_strike 180 = .ok (.getfield 283, 3) := by decide +kernel
theorem dX14_strike_183 : decode cX14_strike 183 = .ok (.iload 4, 2) := by decide +kernel
theorem dX14_strike_185 : decode cX14_strike 185 = .ok (.iconst 5, 1) := by decide +kernel
theorem dX14_strike_186 : decode cX14_strike 186 = .ok (.iadd, 1) := by decide +kernel
theorem dX14_strike_187 : decode cX14_strike 187 = .ok (.dup2, 1) := by decide +kernel
theorem dX14_strike_188 : decode cX14_strike 188 = .ok (.iaload, 1) := by decide +kernel
theorem dX14_strike_189 : decode cX14_strike 189 = .ok (.aload_n 0, 1) := by decide +kernel
theorem dX14_strike_190 : decode cX14_strike 190 = .ok (.getfield 308, 3) := by decide +kernel
theorem dX14_strike_193 : decode cX14_strike 193 = .ok (.iadd, 1) := by decide +kernel
theorem dX14_strike_194 : decode cX14_strike 194 = .ok (.iastore, 1) := by decide +kernel
theorem dX14_strike_195 : decode cX14_strike 195 = .ok (.aload_n 1, 1) := by decide +kernel
theorem dX14_strike_196 : decode cX14_strike 196 = .ok (.getfield 283, 3) := by decide +kernel
theorem dX14_strike_199 : decode cX14_strike 199 = .ok (.iload 4, 2) := by decide +kernel
theorem dX14_strike_201 : decode cX14_strike 201 = .ok (.bipush 6, 2) := by decide +kernel
theorem dX14_strike_203 : decode cX14_strike 203 = .ok (.iadd, 1) := by decide +kernel
theorem dX14_strike_204 : decode cX14_strike 204 = .ok (.iconst 1, 1) := by decide +kernel
theorem dX14_strike_205 : decode cX14_strike 205 = .ok (.iastore, 1) := by decide +kernel
theorem dX14_strike_206 : decode cX14_strike 206 = .ok (.bipush 9, 2) := by decide +kernel
theorem dX14_strike_208 : decode cX14_strike 208 = .ok (.istore 5, 2) := by decide +kernel
theorem dX14_strike_210 : decode cX14_strike 210 = .ok (.iload 5, 2) := by decide +kernel
theorem dX14_strike_212 : decode cX14_strike 212 = .ok (.ifCond .le 25, 3) := by decide +kernel
theorem dX14_strike_215 : decode cX14_strike 215 = .ok (.aload_n 1, 1) := by decide +kernel
theorem dX14_strike_216 : decode cX14_strike 216 = .ok (.getfield 333, 3) := by decide +kernel
theorem dX14_strike_219 : decode cX14_strike 219 = .ok (.iload 5, 2) := by decide +kernel
theorem dX14_strike_221 : decode cX14_strike 221 = .ok (.aload_n 1, 1) := by decide +kernel
theorem dX14_strike_222 : decode cX14_strike 222 = .ok (.getfield 333, 3) := by decide +kernel
theorem dX14_strike_225 : decode cX14_strike 225 = .ok (.iload 5, 2) := by decide +kernel
theorem dX14_strike_227 : decode cX14_strike 227 = .ok (.iconst 1, 1) := by decide +kernel
theorem dX14_strike_228 : decode cX14_strike 228 = .ok (.isub, 1) := by decide +kernel
theorem dX14_strike_229 : decode cX14_strike 229 = .ok (.iaload, 1) := by decide +kernel
theorem dX14_strike_230 : decode cX14_strike 230 = .ok (.iastore, 1) := by decide +kernel
theorem dX14_strike_231 : decode cX14_strike 231 = .ok (.iinc 5 (-1), 3) := by decide +kernel
theorem dX14_strike_234 : decode cX14_strike 234 = .ok (.goto (-24), 3) := by decide +kernel
theorem dX14_strike_237 : decode cX14_strike 237 = .ok (.aload_n 1, 1) := by decide +kernel
theorem dX14_strike_238 : decode cX14_strike 238 = .ok (.getfield 333, 3) := by decide +kernel
theorem dX14_strike_241 : decode cX14_strike 241 = .ok (.iconst 0, 1) := by decide +kernel
theorem dX14_strike_242 : decode cX14_strike 242 = .ok (.aload_n 0, 1) := by decide +kernel
theorem dX14_strike_243 : decode cX14_strike 243 = .ok (.getfield 305, 3) := by decide +kernel
theorem dX14_strike_246 : decode cX14_strike 246 = .ok (.iastore, 1) := by decide +kernel
theorem dX14_strike_247 : decode cX14_strike 247 = .ok (.aload_n 1, 1) := by decide +kernel
theorem dX14_strike_248 : decode cX14_strike 248 = .ok (.bipush 10, 2) := by decide +kernel
theorem dX14_strike_250 : decode cX14_strike 250 = .ok (.aload_n 1, 1) := by decide +kernel
theorem dX14_strike_251 : decode cX14_strike 251 = .ok (.getfield 336, 3) := by decide +kernel
theorem dX14_strike_254 : decode cX14_strike 254 = .ok (.iconst 1, 1) := by decide +kernel
theorem dX14_strike_255 : decode cX14_strike 255 = .ok (.iadd, 1) := by decide +kernel
theorem dX14_strike_256 : decode cX14_strike 256 = .ok (.invokestatic 290, 3) := by decide +kernel
theorem dX14_strike_259 : decode cX14_strike 259 = .ok (.putfield 336, 3) := by decide +kernel
theorem dX14_strike_262 : decode cX14_strike 262 = .ok (.aload_n 0, 1) := by decide +kernel
theorem dX14_strike_263 : decode cX14_strike 263 = .ok (.aload_n 1, 1) := by decide +kernel
theorem dX14_strike_264 : decode cX14_strike 264 = .ok (.iload 4, 2) := by decide +kernel
theorem dX14_strike_266 : decode cX14_strike 266 = .ok (.invokevirtual 339, 3) := by decide +kernel
theorem dX14_strike_269 : decode cX14_strike 269 = .ok (.return_, 1) := by decide +kernel
/-! the reference strikes -/
section Ms
variable {G : Gp} {S : AMem} {I : Nat → Nat → Int32} {J : Nat → Nat → Int64} {R : Nat → Nat → Option Nat} {y bl z : Nat} {B : BS} {m : MS}
theorem k_sore {s p : Int32} (h1 : 0 ≤ s) (h2 : s ≤ 60) (h3 : 0 < p) (h4 : p ≤ 9) : 0 ≤ (if s + p < 60 then s + p else 60) ∧ (if s + p < 60 then s + p else 60) ≤ 60 := by
  rw [Int32.le_iff_toInt_le] at h1 h2 h4
  rw [Int32.lt_iff_toInt_lt] at h3
  have e0 : (0 : Int32).toInt = 0 := rfl
  have e1 : (60 : Int32).toInt = 60 := rfl
  have e2 : (9 : Int32).toInt = 9 := rfl
  rw [e0] at h1 h3
  rw [e1] at h2
  rw [e2] at h4
  have es : (s + p).toInt = s.toInt + p.toInt := by
    rw [Int32.toInt_add, Int.bmod_eq_of_le (by omega) (by omega)]
  by_cases c : s + p < 60
  · rw [if_pos c]
    exact ⟨Int32.le_iff_toInt_le.mpr (by rw [e0, es]; omega), Int32.le_of_lt c⟩
  · rw [if_neg c]
    exact ⟨by decide, Int32.le_refl _⟩
theorem k_str2 {I0 : Nat → Nat → Int32} {f r : Nat} (hG : okG G) (hM : MCb S R y bl) (hS : SCc S R z) (hB : RB I bl B m) (hs : RS I z B m) (hyz : y < bl ∧ bl + 9 ≤ z) (hf : f < B.nF) (u6 : MFr y z I0 I) : MW G mX14_strike 403 262 [some (vR y), some (vR z), some (vI (nI f)), some (vI (nI r)), some (vI (nI (7 * f))), some (vI (nI (9 - 9)))] [] (mw S I J R) (fun f_1 M1 => ∃ r, f_1 = .inl r ∧ (r = none ∧ ∃ I1, M1 = mw S I1 J R ∧ RS I1 z B (givM B m f) ∧ MFr y z I0 I1)) := by
  have ky := hM.1
  refine am_aload_n (q := 263) dX14_strike_262 rfl rfl ?_
  refine am_aload_n (q := 264) dX14_strike_263 rfl rfl ?_
  refine am_iload (q := 266) dX14_strike_264 rfl rfl ?_
  refine cm_call0 (q := 269) (As := [_, _]) hG dX14_strike_266 mlX14_339 rfl (by assumption) ⟨_, _, rfl⟩ (Nat.le_of_ble_eq_true rfl) (Nat.le_of_ble_eq_true rfl) (Nat.le_of_ble_eq_true rfl) (Nat.le_of_ble_eq_true rfl) (k_X14_reward hG hM hS hB hs hyz hf) rfl ?_
  rintro _ _ ⟨rfl, I1, rfl, h1, h2⟩
  exact am_ret dX14_strike_269 rfl ⟨_, rfl, rfl, I1, rfl, h1, u6.tr h2⟩
theorem k_X14_strike {f r : Nat} (hG : okG G) (hM : MCb S R y bl) (hS : SCc S R z) (hB : RB I bl B m) (hs : RS I z B m) (hyz : y < bl ∧ bl + 9 ≤ z) (hf : f < B.nF) (hr : r < B.nR) : Fn G mX14_strike 403 [vR y, vR z, vI (nI f), vI (nI r)] (mw S I J R) (fun rr M1 => rr = none ∧ ∃ I1, M1 = mw S I1 J R ∧ RS I1 z B (hitM B m f r) ∧ MFr y z I I1) := by
  have hM0 := hM
  have hS0 := hS
  have hs0 := hs
  obtain ⟨ky, ry, kb, b5, b6, b7, b8, b9, b11, b12, b13, ⟨k1, l1⟩, ⟨k2, l2⟩, ⟨k3, l3⟩, ⟨k4, l4⟩, _⟩ := hM
  obtain ⟨kz, z6, z7, z8, z9, z10, ⟨kz1, lz1⟩, ⟨kz2, lz2⟩, ⟨kz3, lz3⟩, ⟨kz4, lz4⟩, kz5, lz5⟩ := hS
  obtain ⟨⟨⟨a1, a2⟩, ⟨a3, a4⟩, _⟩, _, hra, hfi, _⟩ := id hB
  obtain ⟨⟨g0, g1, g2, g3, g4, g5, g6⟩, hbd, sra, sfi, spr, sp0, sro⟩ := hs
  obtain ⟨ra, rb, rc, _, _, rd⟩ := hra r hr
  have e0 : (3 * nI f : Int32) = nI (3 * f) := k_mul 3 f
  have e1 : (3 * nI r + 1 : Int32) = nI (3 * r + 1) := k_lin 3 r 1
  have e2 : (3 * nI r + 2 : Int32) = nI (3 * r + 2) := k_lin 3 r 2
  have r1 := sra r hr 1 (by decide)
  have r2 := sra r hr 2 (by decide)
  have f1 := sfi f hf 1 (by decide)
  have f3 := sfi f hf 3 (by decide)
  have f4 := sfi f hf 4 (by decide)
  have f5 := sfi f hf 5 (by decide)
  have i1 : vp_in (nI (3 * r + 1)) (S.ln (z + 2)) := by rw [lz2]; exact vp_in_nI (by omega) (by decide)
  have i2 : vp_in (nI (3 * r + 2)) (S.ln (z + 2)) := by rw [lz2]; exact vp_in_nI (by omega) (by decide)
  have j1 : vp_in (nI (7 * f + 1)) (S.ln (z + 3)) := by rw [lz3]; exact vp_in_nI (by omega) (by decide)
  have j3 : vp_in (nI (7 * f + 3)) (S.ln (z + 3)) := by rw [lz3]; exact vp_in_nI (by omega) (by decide)
  have j4 : vp_in (nI (7 * f + 4)) (S.ln (z + 3)) := by rw [lz3]; exact vp_in_nI (by omega) (by decide)
  have j5 : vp_in (nI (7 * f + 5)) (S.ln (z + 3)) := by rw [lz3]; exact vp_in_nI (by omega) (by decide)
  have j6 : vp_in (nI (7 * f + 6)) (S.ln (z + 3)) := by rw [lz3]; exact vp_in_nI (by omega) (by decide)
  refine am_aload_n (q := 1) dX14_strike_0 rfl rfl ?_
  refine am_aload_n (q := 2) dX14_strike_1 rfl rfl ?_
  refine am_iload_n (q := 3) dX14_strike_2 rfl rfl ?_
  refine am_iload_n (q := 4) dX14_strike_3 rfl rfl ?_
  refine am_aload_n (q := 5) dX14_strike_4 rfl rfl ?_
  refine cm_getR (q := 8) dX14_strike_5 flX14_32 rfl (by assumption) (by assumption) rfl ?_
  refine cm_getR (q := 11) dX14_strike_8 flX14_240 rfl (by assumption) (by assumption) rfl ?_
  refine am_iconst (q := 12) (v := 3) dX14_strike_11 kc_i3 rfl ?_
  refine am_iload_n (q := 13) dX14_strike_12 rfl rfl ?_
  refine am_imul (q := 14) dX14_strike_13 rfl ?_
  rw [e0]
  refine cm_iaload (q := 15) dX14_strike_14 (by assumption) (by rw [l3]; exact vp_in_nI (by omega) (by decide)) rfl ?_
  rw [nI_clamp (show 3 * f < 2 ^ 31 by omega), (hfi f hf).1]
  refine cm_call0 (q := 18) (As := [_, _, _, _]) hG dX14_strike_15 mlX14_323 rfl (by assumption) ⟨_, _, rfl⟩ (Nat.le_of_ble_eq_true rfl) (Nat.le_of_ble_eq_true rfl) (Nat.le_of_ble_eq_true rfl) (Nat.le_of_ble_eq_true rfl) (k_X14_fly hG hM0 hS0 hB hs0 hyz hf hr) rfl ?_
  rintro _ _ ⟨rfl, I1, rfl, t1, t2, t3, t4, t5⟩
  have hstk : stkM B m f r = mkMS (fun i j => if i = f then (if j = 3 then (if m.fist f 3 + m.rail r 1 < 60 then m.fist f 3 + m.rail r 1 else 60) else if j = 5 then m.fist f 5 + 1 else if j = 6 then (if m.fist f 6 < (flM B m f r (m.fist f 0) 300).2.2.1 then (flM B m f r (m.fist f 0) 300).2.2.1 else m.fist f 6) else if j = 7 then m.fist f 7 + (flM B m f r (m.fist f 0) 300).2.2.2.1 else if j = 8 then 1 else m.fist i j) else m.fist i j)
    (fun i j => if i = r then (if j = 3 then (if m.rail r 3 < (flM B m f r (m.fist f 0) 300).2.2.1 then (flM B m f r (m.fist f 0) 300).2.2.1 else m.rail r 3) else if j = 4 then m.rail r 4 + 1 else m.rail i j) else m.rail i j)
    m.prize (fun j => if j = 1 then (flM B m f r (m.fist f 0) 300).2.2.1 else if j = 2 then (flM B m f r (m.fist f 0) 300).2.2.2.1 else if j = 3 then m.g 3 + 1 else if j = 4 then m.g 4 + (flM B m f r (m.fist f 0) 300).2.2.2.1 else m.g j) m.row (fun k => if k = 0 then (flM B m f r (m.fist f 0) 300).2.2.1 else m.bd (k - 1)) (if m.nb < 10 then m.nb + 1 else m.nb) := rfl
  have hh : hitM B m f r = givM B (stkM B m f r) f := rfl
  rw [hh, hstk]
  clear hh hstk t3 t4
  generalize (flM B m f r (m.fist f 0) 300).2.2.1 = tp at t1 ⊢
  generalize (flM B m f r (m.fist f 0) 300).2.2.2.1 = ri at t2 ⊢
  have w1 : ∀ x j, x ≠ y → I1 x j = I x j := fun x j q => t5 x j (Or.inl q)
  have w2 : MFr y z I I1 := fun x j p q => t5 x j (by omega)
  clear t5
  -- the numbers
  refine am_aload_n (q := 19) dX14_strike_18 rfl rfl ?_
  refine am_aload_n (q := 20) dX14_strike_19 rfl rfl ?_
  refine cm_getI (q := 23) dX14_strike_20 flX14_305 rfl (by assumption) rfl ?_
  rw [t1]
  refine cm_putI (q := 26) dX14_strike_23 flX14_274 rfl (Or.inl rfl) (Or.inl rfl) (by assumption) rfl ?_
  refine am_aload_n (q := 27) dX14_strike_26 rfl rfl ?_
  refine am_aload_n (q := 28) dX14_strike_27 rfl rfl ?_
  refine cm_getI (q := 31) dX14_strike_28 flX14_308 rfl (by assumption) rfl ?_
  rw [up2_a (show y ≠ z by omega), t2]
  refine cm_putI (q := 34) dX14_strike_31 flX14_277 rfl (Or.inl rfl) (Or.inl rfl) (by assumption) rfl ?_
  refine am_aload_n (q := 35) dX14_strike_34 rfl rfl ?_
  refine am_dup (q := 36) dX14_strike_35 rfl rfl ?_
  refine cm_getI (q := 39) dX14_strike_36 flX14_327 rfl (by assumption) rfl ?_
  rw [up2_j (by decide), up2_j (by decide), w1 z 1 (by omega), g1]
  refine am_iconst (q := 40) (v := 1) dX14_strike_39 kc_i1 rfl ?_
  refine am_iadd (q := 41) dX14_strike_40 rfl ?_
  refine cm_putI (q := 44) dX14_strike_41 flX14_327 rfl (Or.inl rfl) (Or.inl rfl) (by assumption) rfl ?_
  refine am_aload_n (q := 45) dX14_strike_44 rfl rfl ?_
  refine am_dup (q := 46) dX14_strike_45 rfl rfl ?_
  refine cm_getI (q := 49) dX14_strike_46 flX14_330 rfl (by assumption) rfl ?_
  rw [up2_j (by decide), up2_j (by decide), up2_j (by decide), w1 z 2 (by omega), g2]
  refine am_aload_n (q := 50) dX14_strike_49 rfl rfl ?_
  refine cm_getI (q := 53) dX14_strike_50 flX14_308 rfl (by assumption) rfl ?_
  rw [up2_a (show y ≠ z by omega), up2_a (show y ≠ z by omega), up2_a (show y ≠ z by omega), t2]
  refine am_iadd (q := 54) dX14_strike_53 rfl ?_
  refine cm_putI (q := 57) dX14_strike_54 flX14_330 rfl (Or.inl rfl) (Or.inl rfl) (by assumption) rfl ?_
  refine k_nm (P := fun I2 => MW G mX14_strike 403 57 _ _ (mw S I2 J R) _) _ ?_
  intro I2 hI2
  have q2 : ∀ x j, I2 x j = if x = z ∧ j = 2 then m.g 4 + ri else if x = z ∧ j = 1 then m.g 3 + 1 else if x = z ∧ j = 4 then ri else if x = z ∧ j = 3 then tp else I1 x j := fun x j => by rw [hI2, up2_at, up2_at, up2_at, up2_at]
  clear hI2
  have v2 : ∀ x j, x ≠ z → x ≠ y → I2 x j = I x j := fun x j p q => by rw [q2, if_neg (by omega), if_neg (by omega), if_neg (by omega), if_neg (by omega)]; exact w1 x j q
  have y2 : I2 y 20 = tp := by rw [q2, if_neg (by omega), if_neg (by omega), if_neg (by omega), if_neg (by omega)]; exact t1
  have y2' : I2 y 21 = ri := by rw [q2, if_neg (by omega), if_neg (by omega), if_neg (by omega), if_neg (by omega)]; exact t2
  -- the rail
  refine am_aload_n (q := 58) dX14_strike_57 rfl rfl ?_
  refine cm_getR (q := 61) dX14_strike_58 flX14_284 rfl (by assumption) (by assumption) rfl ?_
  refine am_iconst (q := 62) (v := 3) dX14_strike_61 kc_i3 rfl ?_
  refine am_iload_n (q := 63) dX14_strike_62 rfl rfl ?_
  refine am_imul (q := 64) dX14_strike_63 rfl ?_
  refine am_iconst (q := 65) (v := 1) dX14_strike_64 kc_i1 rfl ?_
  refine am_iadd (q := 66) dX14_strike_65 rfl ?_
  rw [e1]
  refine am_aload_n (q := 67) dX14_strike_66 rfl rfl ?_
  refine cm_getR (q := 70) dX14_strike_67 flX14_284 rfl (by assumption) (by assumption) rfl ?_
  refine am_iconst (q := 71) (v := 3) dX14_strike_70 kc_i3 rfl ?_
  refine am_iload_n (q := 72) dX14_strike_71 rfl rfl ?_
  refine am_imul (q := 73) dX14_strike_72 rfl ?_
  refine am_iconst (q := 74) (v := 1) dX14_strike_73 kc_i1 rfl ?_
  refine am_iadd (q := 75) dX14_strike_74 rfl ?_
  rw [e1]
  refine cm_iaload (q := 76) dX14_strike_75 (by assumption) i1 rfl ?_
  refine am_aload_n (q := 77) dX14_strike_76 rfl rfl ?_
  refine cm_getI (q := 80) dX14_strike_77 flX14_305 rfl (by assumption) rfl ?_
  rw [nI_clamp (show 3 * r + 1 < 2 ^ 31 by omega), v2 (z + 2) (3 * r + 1) (by omega) (by omega), r1, y2]
  refine am_mmax (q := 83) dX14_strike_80 (tbc7 178 rfl rfl) tb_max1 tb_math tb_max2 (Nat.le_of_ble_eq_true rfl) rfl ?_
  refine cm_iastore (q := 84) dX14_strike_83 (by assumption) i1 rfl ?_
  refine am_aload_n (q := 85) dX14_strike_84 rfl rfl ?_
  refine cm_getR (q := 88) dX14_strike_85 flX14_284 rfl (by assumption) (by assumption) rfl ?_
  refine am_iconst (q := 89) (v := 3) dX14_strike_88 kc_i3 rfl ?_
  refine am_iload_n (q := 90) dX14_strike_89 rfl rfl ?_
  refine am_imul (q := 91) dX14_strike_90 rfl ?_
  refine am_iconst (q := 92) (v := 2) dX14_strike_91 kc_i2 rfl ?_
  refine am_iadd (q := 93) dX14_strike_92 rfl ?_
  rw [nI_clamp (show 3 * r + 1 < 2 ^ 31 by omega), e2]
  refine am_dup2_11 (q := 94) dX14_strike_93 rfl rfl rfl ?_
  refine cm_iaload (q := 95) dX14_strike_94 (by assumption) i2 rfl ?_
  rw [nI_clamp (show 3 * r + 2 < 2 ^ 31 by omega), up2_j (by omega), v2 _ _ (by omega) (by omega), r2]
  refine am_iconst (q := 96) (v := 1) dX14_strike_95 kc_i1 rfl ?_
  refine am_iadd (q := 97) dX14_strike_96 rfl ?_
  refine cm_iastore (q := 98) dX14_strike_97 (by assumption) i2 rfl ?_
  rw [nI_clamp (show 3 * r + 2 < 2 ^ 31 by omega)]
  refine k_nm (P := fun I3 => MW G mX14_strike 403 98 _ _ (mw S I3 J R) _) _ ?_
  intro I3 hI3
  have q3 : ∀ x j, I3 x j = if x = z + 2 ∧ j = 3 * r + 2 then m.rail r 4 + 1 else if x = z + 2 ∧ j = 3 * r + 1 then (if m.rail r 3 < tp then tp else m.rail r 3) else I2 x j := fun x j => by rw [hI3, up2_at, up2_at]
  clear hI3
  have v3 : ∀ x j, x ≠ z + 2 → I3 x j = I2 x j := fun x j p => by rw [q3, if_neg (by omega), if_neg (by omega)]
  have y3 : I3 y 20 = tp := (v3 _ _ (by omega)).trans y2
  have y3' : I3 y 21 = ri := (v3 _ _ (by omega)).trans y2'
  -- the fist
  have s1 : (nI (7 * f) + 1 : Int32) = nI (7 * f + 1) := nI_add (7 * f) 1
  have s3 : (nI (7 * f) + 3 : Int32) = nI (7 * f + 3) := nI_add (7 * f) 3
  have s4 : (nI (7 * f) + 4 : Int32) = nI (7 * f + 4) := nI_add (7 * f) 4
  have s5 : (nI (7 * f) + 5 : Int32) = nI (7 * f + 5) := nI_add (7 * f) 5
  have s6 : (nI (7 * f) + 6 : Int32) = nI (7 * f + 6) := nI_add (7 * f) 6
  refine am_bipush (q := 100) (v := 7) dX14_strike_98 kc_b7 rfl ?_
  refine am_iload_n (q := 101) dX14_strike_100 rfl rfl ?_
  refine am_imul (q := 102) dX14_strike_101 rfl ?_
  rw [show (7 * nI f : Int32) = nI (7 * f) from k_mul 7 f]
  refine am_istore (q := 104) (ls1 := [_, _, _, _, _, _]) dX14_strike_102 (Nat.le_of_ble_eq_true rfl) rfl rfl ?_
  refine am_aload_n (q := 105) dX14_strike_104 rfl rfl ?_
  refine cm_getR (q := 108) dX14_strike_105 flX14_283 rfl (by assumption) (by assumption) rfl ?_
  refine am_iload (q := 110) dX14_strike_108 rfl rfl ?_
  refine am_iconst (q := 111) (v := 1) dX14_strike_110 kc_i1 rfl ?_
  refine am_iadd (q := 112) dX14_strike_111 rfl ?_
  rw [s1]
  refine am_bipush (q := 114) (v := 60) dX14_strike_112 kc_b60 rfl ?_
  refine am_aload_n (q := 115) dX14_strike_114 rfl rfl ?_
  refine cm_getR (q := 118) dX14_strike_115 flX14_283 rfl (by assumption) (by assumption) rfl ?_
  refine am_iload (q := 120) dX14_strike_118 rfl rfl ?_
  refine am_iconst (q := 121) (v := 1) dX14_strike_120 kc_i1 rfl ?_
  refine am_iadd (q := 122) dX14_strike_121 rfl ?_
  rw [s1]
  refine cm_iaload (q := 123) dX14_strike_122 (by assumption) j1 rfl ?_
  refine am_aload_n (q := 124) dX14_strike_123 rfl rfl ?_
  refine cm_getR (q := 127) dX14_strike_124 flX14_32 rfl (by assumption) (by assumption) rfl ?_
  refine cm_getR (q := 130) dX14_strike_127 flX14_227 rfl (by assumption) (by assumption) rfl ?_
  refine am_iconst (q := 131) (v := 3) dX14_strike_130 kc_i3 rfl ?_
  refine am_iload_n (q := 132) dX14_strike_131 rfl rfl ?_
  refine am_imul (q := 133) dX14_strike_132 rfl ?_
  refine am_iconst (q := 134) (v := 1) dX14_strike_133 kc_i1 rfl ?_
  rw [nI_clamp (show 7 * f + 1 < 2 ^ 31 by omega), v3 _ _ (by omega), v2 _ _ (by omega) (by omega), f1]
  refine am_iadd (q := 135) dX14_strike_134 rfl ?_
  rw [e1]
  refine cm_iaload (q := 136) dX14_strike_135 (by assumption) (by rw [l1]; exact vp_in_nI (by omega) (by decide)) rfl ?_
  rw [nI_clamp (show 3 * r + 1 < 2 ^ 31 by omega), v3 _ _ (by omega), v2 _ _ (by omega) (by omega), rb]
  refine am_iadd (q := 137) dX14_strike_136 rfl ?_
  refine am_mmin (q := 140) dX14_strike_137 (tbc7 175 rfl rfl) tb_min1 tb_math tb_min2 (Nat.le_of_ble_eq_true rfl) rfl ?_
  refine cm_iastore (q := 141) dX14_strike_140 (by assumption) j1 rfl ?_
  refine am_aload_n (q := 142) dX14_strike_141 rfl rfl ?_
  refine cm_getR (q := 145) dX14_strike_142 flX14_283 rfl (by assumption) (by assumption) rfl ?_
  refine am_iload (q := 147) dX14_strike_145 rfl rfl ?_
  refine am_iconst (q := 148) (v := 3) dX14_strike_147 kc_i3 rfl ?_
  refine am_iadd (q := 149) dX14_strike_148 rfl ?_
  rw [nI_clamp (show 7 * f + 1 < 2 ^ 31 by omega), s3]
  refine am_dup2_11 (q := 150) dX14_strike_149 rfl rfl rfl ?_
  refine cm_iaload (q := 151) dX14_strike_150 (by assumption) j3 rfl ?_
  rw [nI_clamp (show 7 * f + 3 < 2 ^ 31 by omega), up2_j (by omega), v3 _ _ (by omega), v2 _ _ (by omega) (by omega), f3]
  refine am_iconst (q := 152) (v := 1) dX14_strike_151 kc_i1 rfl ?_
  refine am_iadd (q := 153) dX14_strike_152 rfl ?_
  refine cm_iastore (q := 154) dX14_strike_153 (by assumption) j3 rfl ?_
  refine am_aload_n (q := 155) dX14_strike_154 rfl rfl ?_
  refine cm_getR (q := 158) dX14_strike_155 flX14_283 rfl (by assumption) (by assumption) rfl ?_
  refine am_iload (q := 160) dX14_strike_158 rfl rfl ?_
  refine am_iconst (q := 161) (v := 4) dX14_strike_160 kc_i4 rfl ?_
  refine am_iadd (q := 162) dX14_strike_161 rfl ?_
  rw [nI_clamp (show 7 * f + 3 < 2 ^ 31 by omega), s4]
  refine am_aload_n (q := 163) dX14_strike_162 rfl rfl ?_
  refine cm_getR (q := 166) dX14_strike_163 flX14_283 rfl (by assumption) (by assumption) rfl ?_
  refine am_iload (q := 168) dX14_strike_166 rfl rfl ?_
  refine am_iconst (q := 169) (v := 4) dX14_strike_168 kc_i4 rfl ?_
  refine am_iadd (q := 170) dX14_strike_169 rfl ?_
  rw [s4]
  refine cm_iaload (q := 171) dX14_strike_170 (by assumption) j4 rfl ?_
  rw [nI_clamp (show 7 * f + 4 < 2 ^ 31 by omega), up2_j (by omega), up2_j (by omega), v3 _ _ (by omega), v2 _ _ (by omega) (by omega), f4]
  refine am_aload_n (q := 172) dX14_strike_171 rfl rfl ?_
  refine cm_getI (q := 175) dX14_strike_172 flX14_305 rfl (by assumption) rfl ?_
  rw [up2_a (by omega), up2_a (by omega), y3]
  refine am_mmax (q := 178) dX14_strike_175 (tbc7 178 rfl rfl) tb_max1 tb_math tb_max2 (Nat.le_of_ble_eq_true rfl) rfl ?_
  refine cm_iastore (q := 179) dX14_strike_178 (by assumption) j4 rfl ?_
  refine am_aload_n (q := 180) dX14_strike_179 rfl rfl ?_
  refine cm_getR (q := 183) dX14_strike_180 flX14_283 rfl (by assumption) (by assumption) rfl ?_
  refine am_iload (q := 185) dX14_strike_183 rfl rfl ?_
  refine am_iconst (q := 186) (v := 5) dX14_strike_185 kc_i5 rfl ?_
  refine am_iadd (q := 187) dX14_strike_186 rfl ?_
  rw [nI_clamp (show 7 * f + 4 < 2 ^ 31 by omega), s5]
  refine am_dup2_11 (q := 188) dX14_strike_187 rfl rfl rfl ?_
  refine cm_iaload (q := 189) dX14_strike_188 (by assumption) j5 rfl ?_
  rw [nI_clamp (show 7 * f + 5 < 2 ^ 31 by omega), up2_j (by omega), up2_j (by omega), up2_j (by omega), v3 _ _ (by omega), v2 _ _ (by omega) (by omega), f5]
  refine am_aload_n (q := 190) dX14_strike_189 rfl rfl ?_
  refine cm_getI (q := 193) dX14_strike_190 flX14_308 rfl (by assumption) rfl ?_
  rw [up2_a (by omega), up2_a (by omega), up2_a (by omega), y3']
  refine am_iadd (q := 194) dX14_strike_193 rfl ?_
  refine cm_iastore (q := 195) dX14_strike_194 (by assumption) j5 rfl ?_
  refine am_aload_n (q := 196) dX14_strike_195 rfl rfl ?_
  refine cm_getR (q := 199) dX14_strike_196 flX14_283 rfl (by assumption) (by assumption) rfl ?_
  refine am_iload (q := 201) dX14_strike_199 rfl rfl ?_
  refine am_bipush (q := 203) (v := 6) dX14_strike_201 kc_b6 rfl ?_
  refine am_iadd (q := 204) dX14_strike_203 rfl ?_
  rw [nI_clamp (show 7 * f + 5 < 2 ^ 31 by omega), s6]
  refine am_iconst (q := 205) (v := 1) dX14_strike_204 kc_i1 rfl ?_
  refine cm_iastore (q := 206) dX14_strike_205 (by assumption) j6 rfl ?_
  rw [nI_clamp (show 7 * f + 6 < 2 ^ 31 by omega)]
  refine k_nm (P := fun I4 => MW G mX14_strike 403 206 _ _ (mw S I4 J R) _) _ ?_
  intro I4 hI4
  have q4 : ∀ x j, I4 x j = if x = z + 3 ∧ j = 7 * f + 6 then 1 else if x = z + 3 ∧ j = 7 * f + 5 then m.fist f 7 + ri else if x = z + 3 ∧ j = 7 * f + 4 then (if m.fist f 6 < tp then tp else m.fist f 6) else if x = z + 3 ∧ j = 7 * f + 3 then m.fist f 5 + 1 else if x = z + 3 ∧ j = 7 * f + 1 then (if m.fist f 3 + m.rail r 1 < 60 then m.fist f 3 + m.rail r 1 else 60) else I3 x j := fun x j => by rw [hI4, up2_at, up2_at, up2_at, up2_at, up2_at]
  clear hI4
  have v4 : ∀ x j, x ≠ z + 3 → I4 x j = I3 x j := fun x j p => by rw [q4, if_neg (by omega), if_neg (by omega), if_neg (by omega), if_neg (by omega), if_neg (by omega)]
  -- the board
  refine am_bipush (q := 208) (v := 9) dX14_strike_206 kc_b9 rfl ?_
  refine am_istore (q := 210) (ls1 := [_, _, _, _, _, _]) dX14_strike_208 (Nat.le_of_ble_eq_true rfl) rfl rfl ?_
  refine k_loop (σ := Nat → Nat → Int32) (n := 9) (Inv := fun i I5 => ∀ x j, I5 x j = if x = z + 1 ∧ 9 - i < j ∧ j ≤ 9 then I4 (z + 1) (j - 1) else I4 x j) (W := fun i I5 => MW G mX14_strike 403 210 [some (vR y), some (vR z), some (vI (nI f)), some (vI (nI r)), some (vI (nI (7 * f))), some (vI (nI (9 - i)))] [] (mw S I5 J R) _) ?_ ?_ 0 I4 (Nat.zero_le _) (fun x j => by rw [if_neg (by omega)])
  · intro i I5 hi hinv ih
    have ep : nI (9 - i) - 1 = nI (9 - (i + 1)) := by
      rw [show 9 - i = (9 - (i + 1)) + 1 by omega]
      exact nI_pred _
    refine am_iload (q := 212) dX14_strike_210 rfl rfl ?_
    refine am_if_le (tgt := 237) (q := 215) dX14_strike_212 rfl rfl (fun hz => absurd hz (nI_nle (by omega) (by omega))) (fun _ => ?_)
    refine am_aload_n (q := 216) dX14_strike_215 rfl rfl ?_
    refine cm_getR (q := 219) dX14_strike_216 flX14_333 rfl (by assumption) (by assumption) rfl ?_
    refine am_iload (q := 221) dX14_strike_219 rfl rfl ?_
    refine am_aload_n (q := 222) dX14_strike_221 rfl rfl ?_
    refine cm_getR (q := 225) dX14_strike_222 flX14_333 rfl (by assumption) (by assumption) rfl ?_
    refine am_iload (q := 227) dX14_strike_225 rfl rfl ?_
    refine am_iconst (q := 228) (v := 1) dX14_strike_227 kc_i1 rfl ?_
    refine am_isub (q := 229) dX14_strike_228 rfl ?_
    rw [ep]
    refine cm_iaload (q := 230) dX14_strike_229 (by assumption) (by rw [lz1]; exact vp_in_nI (by omega) (by decide)) rfl ?_
    rw [nI_clamp (show 9 - (i + 1) < 2 ^ 31 by omega), hinv (z + 1) (9 - (i + 1)), if_neg (by omega)]
    refine cm_iastore (q := 231) dX14_strike_230 (by assumption) (by rw [lz1]; exact vp_in_nI (by omega) (by decide)) rfl ?_
    rw [nI_clamp (show 9 - i < 2 ^ 31 by omega)]
    refine am_iincW (q := 234) (ls1 := [_, _, _, _, _, _]) (w := (-1)) dX14_strike_231 rfl (Nat.le_of_ble_eq_true rfl) kc_im1 rfl rfl ?_
    refine am_goto (tgt := 210) dX14_strike_234 rfl ?_
    rw [show (nI (9 - i) + -1 : Int32) = nI (9 - (i + 1)) by rw [← ep]; exact (Int32.sub_eq_add_neg _ _).symm]
    refine ih _ (fun x j => ?_)
    rw [up2_at, hinv]
    by_cases c1 : x = z + 1 ∧ j = 9 - i
    · rw [if_pos c1, if_pos (by omega), c1.2, show 9 - i - 1 = 9 - (i + 1) by omega]
    · rw [if_neg c1]
      by_cases c2 : x = z + 1 ∧ 9 - i < j ∧ j ≤ 9
      · rw [if_pos c2, if_pos (by omega)]
      · rw [if_neg c2, if_neg (by omega)]
  · intro I5 hinv
    have q5 : ∀ x j, x ≠ z + 1 → I5 x j = I4 x j := fun x j p => by rw [hinv, if_neg (by omega)]
    refine am_iload (q := 212) dX14_strike_210 rfl rfl ?_
    refine am_if_le (tgt := 237) (q := 215) dX14_strike_212 rfl rfl (fun _ => ?_) (fun hz => absurd (Int32.le_refl _) hz)
    refine am_aload_n (q := 238) dX14_strike_237 rfl rfl ?_
    refine cm_getR (q := 241) dX14_strike_238 flX14_333 rfl (by assumption) (by assumption) rfl ?_
    refine am_iconst (q := 242) (v := 0) dX14_strike_241 kc_i0 rfl ?_
    refine am_aload_n (q := 243) dX14_strike_242 rfl rfl ?_
    refine cm_getI (q := 246) dX14_strike_243 flX14_305 rfl (by assumption) rfl ?_
    rw [q5 _ _ (by omega), v4 _ _ (by omega), y3]
    refine cm_iastore (q := 247) dX14_strike_246 (by assumption) (by rw [lz1]; exact (vp_in_nI (by omega) (by decide) : vp_in (nI 0) 10)) rfl ?_
    refine am_aload_n (q := 248) dX14_strike_247 rfl rfl ?_
    refine am_bipush (q := 250) (v := 10) dX14_strike_248 kc_b10 rfl ?_
    refine am_aload_n (q := 251) dX14_strike_250 rfl rfl ?_
    refine cm_getI (q := 254) dX14_strike_251 flX14_336 rfl (by assumption) rfl ?_
    rw [show (0 : Int32).toNatClampNeg = 0 from rfl, up2_a (by omega), q5 _ _ (by omega), v4 _ _ (by omega), v3 _ _ (by omega), q2, if_neg (by omega), if_neg (by omega), if_neg (by omega), if_neg (by omega), w1 _ _ (by omega), g5]
    refine am_iconst (q := 255) (v := 1) dX14_strike_254 kc_i1 rfl ?_
    refine am_iadd (q := 256) dX14_strike_255 rfl ?_
    rw [nI_1]
    have e10 : (if nI (m.nb + 1) < 10 then nI (m.nb + 1) else 10) = nI (if m.nb < 10 then m.nb + 1 else m.nb) := by
      by_cases c : m.nb < 9
      · rw [if_pos (show nI (m.nb + 1) < 10 from nI_lt (b := 10) (by omega) (by decide)), if_pos (by omega)]
      · rw [if_neg (fun z => by have := (nI_ltI (b := 10) (by omega) (by decide)).mp z; omega)]
        by_cases c2 : m.nb < 10
        · rw [if_pos c2, show m.nb + 1 = 10 by omega]
          rfl
        · rw [if_neg c2, show m.nb = 10 by omega]
          rfl
    refine am_mmin (q := 259) dX14_strike_256 (tbc7 175 rfl rfl) tb_min1 tb_math tb_min2 (Nat.le_of_ble_eq_true rfl) rfl ?_
    rw [e10]
    clear e10
    have q6 : ∀ x j, up2 (up2 I5 (z + 1) 0 tp) z 5 (nI (if m.nb < 10 then m.nb + 1 else m.nb)) x j = if x = z ∧ j = 5 then nI (if m.nb < 10 then m.nb + 1 else m.nb) else if x = z + 1 ∧ j = 0 then tp else I5 x j := fun x j => by rw [up2_at, up2_at]
    refine cm_putI (q := 262) dX14_strike_259 flX14_336 rfl (Or.inl rfl) (Or.inl rfl) (by assumption) rfl ?_
    generalize up2 (up2 I5 (z + 1) 0 tp) z 5 (nI (if m.nb < 10 then m.nb + 1 else m.nb)) = I6 at q6 ⊢
    have u6 : MFr y z I I6 := fun x j p q => by
      rw [q6, if_neg (by omega), if_neg (by omega), q5 _ _ (by omega), v4 _ _ (by omega), v3 _ _ (by omega), q2, if_neg (by omega), if_neg (by omega), if_neg (by omega), if_neg (by omega)]
      exact w2 x j p q
    have zz : ∀ j, j ≠ 5 → I6 z j = I2 z j := fun j p => by rw [q6, if_neg (by omega), if_neg (by omega), q5 _ _ (by omega), v4 _ _ (by omega), v3 _ _ (by omega)]
    have x2 : ∀ j, I6 (z + 2) j = I3 (z + 2) j := fun j => by rw [q6, if_neg (by omega), if_neg (by omega), q5 _ _ (by omega), v4 _ _ (by omega)]
    have x3 : ∀ j, I6 (z + 3) j = I4 (z + 3) j := fun j => by rw [q6, if_neg (by omega), if_neg (by omega), q5 _ _ (by omega)]
    have x4 : ∀ j, I6 (z + 4) j = I (z + 4) j := fun j => by rw [q6, if_neg (by omega), if_neg (by omega), q5 _ _ (by omega), v4 _ _ (by omega), v3 _ _ (by omega), v2 _ _ (by omega) (by omega)]
    have x5 : ∀ j, I6 (z + 5) j = I (z + 5) j := fun j => by rw [q6, if_neg (by omega), if_neg (by omega), q5 _ _ (by omega), v4 _ _ (by omega), v3 _ _ (by omega), v2 _ _ (by omega) (by omega)]
    have x1 : ∀ j, j < 10 → I6 (z + 1) j = if j = 0 then tp else I (z + 1) (j - 1) := fun j hj => by
      rw [q6, if_neg (by omega)]
      by_cases c : j = 0
      · rw [if_pos ⟨rfl, c⟩, if_pos c]
      · rw [if_neg (fun q => c q.2), if_neg c, hinv, if_pos (by omega), v4 _ _ (by omega), v3 _ _ (by omega), v2 _ _ (by omega) (by omega)]
    refine k_str2 (m := mkMS (fun i j => if i = f then (if j = 3 then (if m.fist f 3 + m.rail r 1 < 60 then m.fist f 3 + m.rail r 1 else 60) else if j = 5 then m.fist f 5 + 1 else if j = 6 then (if m.fist f 6 < tp then tp else m.fist f 6) else if j = 7 then m.fist f 7 + ri else if j = 8 then 1 else m.fist i j) else m.fist i j) (fun i j => if i = r then (if j = 3 then (if m.rail r 3 < tp then tp else m.rail r 3) else if j = 4 then m.rail r 4 + 1 else m.rail i j) else m.rail i j) m.prize (fun j => if j = 1 then tp else if j = 2 then ri else if j = 3 then m.g 3 + 1 else if j = 4 then m.g 4 + ri else m.g j) m.row (fun k => if k = 0 then tp else m.bd (k - 1)) (if m.nb < 10 then m.nb + 1 else m.nb)) hG hM0 hS0 ?_ ?_ hyz hf u6
    · refine hB.mv (fun x j p q => u6 x j (by omega) (by omega)) (fun i hi => ⟨?_, ?_⟩) (fun i hi => ⟨?_, ?_⟩)
      · show (if i = f then m.fist i 0 else m.fist i 0) = _
        exact ite_self _
      · show (if i = f then m.fist i 1 else m.fist i 1) = _
        exact ite_self _
      · show (if i = r then m.rail i 0 else m.rail i 0) = _
        exact ite_self _
      · show (if i = r then m.rail i 1 else m.rail i 1) = _
        exact ite_self _
    · refine ⟨⟨?_, ?_, ?_, ?_, ?_, ?_, ?_⟩, fun k hk => ?_, fun i hi j hj => ?_, fun i hi j hj => ?_, fun i hi j hj => ?_, ⟨sp0.1, fun i hi => ?_⟩, fun k hk => ?_⟩
      · rw [zz _ (by decide), q2, if_neg (by omega), if_neg (by omega), if_neg (by omega), if_neg (by omega), w1 _ _ (by omega)]; exact g0
      · rw [zz _ (by decide), q2, if_neg (by omega), if_pos ⟨rfl, rfl⟩]; rfl
      · rw [zz _ (by decide), q2, if_pos ⟨rfl, rfl⟩]; rfl
      · rw [zz _ (by decide), q2, if_neg (by omega), if_neg (by omega), if_neg (by omega), if_pos ⟨rfl, rfl⟩]; rfl
      · rw [zz _ (by decide), q2, if_neg (by omega), if_neg (by omega), if_pos ⟨rfl, rfl⟩]; rfl
      · rw [q6, if_pos ⟨rfl, rfl⟩]; rfl
      · show (if m.nb < 10 then m.nb + 1 else m.nb) ≤ 10
        split <;> omega
      · have hk2 : k < (if m.nb < 10 then m.nb + 1 else m.nb) := hk
        have hk3 : k ≤ m.nb ∧ k < 10 := by split at hk2 <;> omega
        show _ = if k = 0 then tp else m.bd (k - 1)
        rw [x1 k hk3.2]
        by_cases c : k = 0
        · rw [if_pos c, if_pos c]
        · rw [if_neg c, if_neg c]
          exact hbd (k - 1) (by omega)
      · show _ = if i = r then (if j + 2 = 3 then (if m.rail r 3 < tp then tp else m.rail r 3) else if j + 2 = 4 then m.rail r 4 + 1 else m.rail i (j + 2)) else m.rail i (j + 2)
        rw [x2, q3]
        by_cases c : i = r
        · rw [if_pos c]
          have hj2 : j = 0 ∨ j = 1 ∨ j = 2 := by omega
          rcases hj2 with h | h | h <;> subst h
          · rw [if_neg (by omega), if_neg (by omega), v2 _ _ (by omega) (by omega)]
            exact sra i hi 0 hj
          · rw [if_neg (by omega), if_pos (by omega)]
            rfl
          · rw [if_pos (by omega)]
            rfl
        · rw [if_neg c, if_neg (by omega), if_neg (by omega), v2 _ _ (by omega) (by omega)]
          exact sra i hi j hj
      · show _ = if i = f then (if j + 2 = 3 then (if m.fist f 3 + m.rail r 1 < 60 then m.fist f 3 + m.rail r 1 else 60) else if j + 2 = 5 then m.fist f 5 + 1 else if j + 2 = 6 then (if m.fist f 6 < tp then tp else m.fist f 6) else if j + 2 = 7 then m.fist f 7 + ri else if j + 2 = 8 then 1 else m.fist i (j + 2)) else m.fist i (j + 2)
        rw [x3, q4]
        by_cases c : i = f
        · rw [if_pos c]
          have hj2 : j = 0 ∨ j = 1 ∨ j = 2 ∨ j = 3 ∨ j = 4 ∨ j = 5 ∨ j = 6 := by omega
          rcases hj2 with h | h | h | h | h | h | h <;> subst h
          · rw [if_neg (by omega), if_neg (by omega), if_neg (by omega), if_neg (by omega), if_neg (by omega), v3 _ _ (by omega), v2 _ _ (by omega) (by omega)]
            exact sfi i hi 0 hj
          · rw [if_neg (by omega), if_neg (by omega), if_neg (by omega), if_neg (by omega), if_pos (by omega)]
            rfl
          · rw [if_neg (by omega), if_neg (by omega), if_neg (by omega), if_neg (by omega), if_neg (by omega), v3 _ _ (by omega), v2 _ _ (by omega) (by omega)]
            exact sfi i hi 2 hj
          · rw [if_neg (by omega), if_neg (by omega), if_neg (by omega), if_pos (by omega)]
            rfl
          · rw [if_neg (by omega), if_neg (by omega), if_pos (by omega)]
            rfl
          · rw [if_neg (by omega), if_pos (by omega)]
            rfl
          · rw [if_pos (by omega)]
            rfl
        · rw [if_neg c, if_neg (by omega), if_neg (by omega), if_neg (by omega), if_neg (by omega), if_neg (by omega), v3 _ _ (by omega), v2 _ _ (by omega) (by omega)]
          exact sfi i hi j hj
      · rw [x4]
        exact spr i hi j hj
      · show 0 ≤ (if i = f then (if m.fist f 3 + m.rail r 1 < 60 then m.fist f 3 + m.rail r 1 else 60) else m.fist i 3) ∧ (if i = f then (if m.fist f 3 + m.rail r 1 < 60 then m.fist f 3 + m.rail r 1 else 60) else m.fist i 3) ≤ 60
        by_cases c : i = f
        · rw [if_pos c]
          exact k_sore (sp0.2 f hf).1 (sp0.2 f hf).2 rc rd
        · rw [if_neg c]
          exact sp0.2 i hi
      · rw [x5]
        exact sro k hk
end Ms

