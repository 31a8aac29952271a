theorem dX14_count_0 : decode cX14_count 0 = .ok (.aload_n 0, 1) := by decide +kernel
theorem dX14_count_1 : decode cX14_count 1 = .ok (.iconst 0, 1) := by decide +kernel
theorem dX14_count_2 : decode cX14_count 2 = .ok (.putfield 58, 3) := by decide +kernel
theorem dX14_count_5 : decode cX14_count 5 = .ok (.iload_n 1, 1) := by decide +kernel
theorem dX14_count_6 : decode cX14_count 6 = .ok (.iconst 0, 1) := by decide +kernel
theorem dX14_count_7 : decode cX14_count 7 = .ok (.bipush 9, 2) := by decide +kernel
theorem dX14_count_9 : decode cX14_count 9 = .ok (.invokestatic 72, 3) := by decide +kernel
theorem dX14_count_12 : decode cX14_count 12 = .ok (.ifCond .eq 11, 3) := by decide +kernel
theorem dX14_count_15 : decode cX14_count 15 = .ok (.aload_n 0, 1) := by decide +kernel
theorem dX14_count_16 : decode cX14_count 16 = .ok (.iload_n 1, 1) := by decide +kernel
theorem dX14_count_17 : decode cX14_count 17 = .ok (.invokevirtual 366, 3) := by decide +kernel
theorem dX14_count_20 : decode cX14_count 20 = .ok (.goto 8, 3) := by decide +kernel
theorem dX14_count_23 : decode cX14_count 23 = .ok (.aload_n 0, 1) := by decide +kernel
theorem dX14_count_24 : decode cX14_count 24 = .ok (.iconst 1, 1) := by decide +kernel
theorem dX14_count_25 : decode cX14_count 25 = .ok (.invokevirtual 64, 3) := by decide +kernel
theorem dX14_count_28 : decode cX14_count 28 = .ok (.ireturn, 1) := by decide +kernel
theorem dX14_digest_0 : decode cX14_digest 0 = .ok (.aload_n 0, 1) := by decide +kernel
theorem dX14_digest_1 : decode cX14_digest 1 = .ok (.iconst 0, 1) := by decide +kernel
theorem dX14_digest_2 : decode cX14_digest 2 = .ok (.putfield 58, 3) := by decide +kernel
theorem dX14_digest_5 : decode cX14_digest 5 = .ok (.ldc2_w 402, 3) := by decide +kernel
theorem dX14_digest_8 : decode cX14_digest 8 = .ok (.lstore_n 1, 1) := by decide +kernel
theorem dX14_digest_9 : decode cX14_digest 9 = .ok (.iconst 0, 1) := by decide +kernel
theorem dX14_digest_10 : decode cX14_digest 10 = .ok (.istore_n 3, 1) := by decide +kernel
theorem dX14_digest_11 : decode cX14_digest 11 = .ok (.iload_n 3, 1) := by decide +kernel
theorem dX14_digest_12 : decode cX14_digest 12 = .ok (.bipush 10, 2) := by decide +kernel
theorem dX14_digest_14 : decode cX14_digest 14 = .ok (.if_icmp .ge 22, 3) := by decide +kernel
theorem dX14_digest_17 : decode cX14_digest 17 = .ok (.lload_n 1, 1) := by decide +kernel
theorem dX14_digest_18 : decode cX14_digest 18 = .ok (.ldc2_w 404, 3) := by decide +kernel
theorem dX14_digest_21 : decode cX14_digest 21 = .ok (.lmul, 1) := by decide +kernel
theorem dX14_digest_22 : decode cX14_digest 22 = .ok (.aload_n 0, 1) := by decide +kernel
theorem dX14_digest_23 : decode cX14_digest 23 = .ok (.iload_n 3, 1) := by decide +kernel
theorem dX14_digest_24 : decode cX14_digest 24 = .ok (.invokevirtual 366, 3) := by decide +kernel
theorem dX14_digest_27 : decode cX14_digest 27 = .ok (.i2l, 1) := by decide +kernel
theorem dX14_digest_28 : decode cX14_digest 28 = .ok (.ladd, 1) := by decide +kernel
theorem dX14_digest_29 : decode cX14_digest 29 = .ok (.lstore_n 1, 1) := by decide +kernel
theorem dX14_digest_30 : decode cX14_digest 30 = .ok (.iinc 3 1, 3) := by decide +kernel
theorem dX14_digest_33 : decode cX14_digest 33 = .ok (.goto (-22), 3) := by decide +kernel
theorem dX14_digest_36 : decode cX14_digest 36 = .ok (.iconst 0, 1) := by decide +kernel
theorem dX14_digest_37 : decode cX14_digest 37 = .ok (.istore_n 3, 1) := by decide +kernel
theorem dX14_digest_38 : decode cX14_digest 38 = .ok (.iload_n 3, 1) := by decide +kernel
theorem dX14_digest_39 : decode cX14_digest 39 = .ok (.iconst 5, 1) := by decide +kernel
theorem dX14_digest_40 : decode cX14_digest 40 = .ok (.aload_n 0, 1) := by decide +kernel
theorem dX14_digest_41 : decode cX14_digest 41 = .ok (.getfield 32, 3) := by decide +kernel
theorem dX14_digest_44 : decode cX14_digest 44 = .ok (.getfield 177, 3) := by decide +kernel
theorem dX14_digest_47 : decode cX14_digest 47 = .ok (.imul, 1) := by decide +kernel
theorem dX14_digest_48 : decode cX14_digest 48 = .ok (.if_icmp .ge 27, 3) := by decide +kernel
theorem dX14_digest_51 : decode cX14_digest 51 = .ok (.lload_n 1, 1) := by decide +kernel
theorem dX14_digest_52 : decode cX14_digest 52 = .ok (.ldc2_w 404, 3) := by decide +kernel
theorem dX14_digest_55 : decode cX14_digest 55 = .ok (.lmul, 1) := by decide +kernel
theorem dX14_digest_56 : decode cX14_digest 56 = .ok (.aload_n 0, 1) := by decide +kernel
theorem dX14_digest_57 : decode cX14_digest 57 = .ok (.iload_n 3, 1) := by decide +kernel
theorem dX14_digest_58 : decode cX14_digest 58 = .ok (.iconst 5, 1) := by decide +kernel
theorem dX14_digest_59 : decode cX14_digest 59 = .ok (.idiv, 1) := by decide +kernel
theorem dX14_digest_60 : decode cX14_digest 60 = .ok (.iload_n 3, 1) := by decide +kernel
theorem dX14_digest_61 : decode cX14_digest 61 = .ok (.iconst 5, 1) := by decide +kernel
theorem dX14_digest_62 : decode cX14_digest 62 = .ok (.irem, 1) := by decide +kernel
theorem dX14_digest_63 : decode cX14_digest 63 = .ok (.invokevirtual 372, 3) := by decide +kernel
theorem dX14_digest_66 : decode cX14_digest 66 = .ok (.i2l, 1) := by decide +kernel
theorem dX14_digest_67 : decode cX14_digest 67 = .ok (.ladd, 1) := by decide +kernel
theorem dX14_digest_68 : decode cX14_digest 68 = .ok (.lstore_n 1, 1) := by decide +kernel
theorem dX14_digest_69 : decode cX14_digest 69 = .ok (.iinc 3 1, 3) := by decide +kernel
theorem dX14_digest_72 : decode cX14_digest 72 = .ok (.goto (-34), 3) := by decide +kernel
theorem dX14_digest_75 : decode cX14_digest 75 = .ok (.iconst 0, 1) := by decide +kernel
theorem dX14_digest_76 : decode cX14_digest 76 = .ok (.istore_n 3, 1) := by decide +kernel
theorem dX14_digest_77 : decode cX14_digest 77 = .ok (.iload_n 3, 1) := by decide +kernel
theorem dX14_digest_78 : decode cX14_digest 78 = .ok (.bipush 9, 2) := by decide +kernel
theorem dX14_digest_80 : decode cX14_digest 80 = .ok (.aload_n 0, 1) := by decide +kernel
theorem dX14_digest_81 : decode cX14_digest 81 = .ok (.getfield 32, 3) := by decide +kernel
theorem dX14_digest_84 : decode cX14_digest 84 = .ok (.getfield 170, 3) := by decide +kernel
theorem dX14_digest_87 : decode cX14_digest 87 = .ok (.imul, 1) := by decide +kernel
theorem dX14_digest_88 : decode cX14_digest 88 = .ok (.if_icmp .ge 29, 3) := by decide +kernel
theorem dX14_digest_91 : decode cX14_digest 91 = .ok (.lload_n 1, 1) := by decide +kernel
theorem dX14_digest_92 : decode cX14_digest 92 = .ok (.ldc2_w 404, 3) := by decide +kernel
theorem dX14_digest_95 : decode cX14_digest 95 = .ok (.lmul, 1) := by decide +kernel
theorem dX14_digest_96 : decode cX14_digest 96 = .ok (.aload_n 0, 1) := by decide +kernel
theorem dX14_digest_97 : decode cX14_digest 97 = .ok (.iload_n 3, 1) := by decide +kernel
theorem dX14_digest_98 : decode cX14_digest 98 = .ok (.bipush 9, 2) := by decide +kernel
theorem dX14_digest_100 : decode cX14_digest 100 = .ok (.idiv, 1) := by decide +kernel
theorem dX14_digest_101 : decode cX14_digest 101 = .ok (.iload_n 3, 1) := by decide +kernel
theorem dX14_digest_102 : decode cX14_digest 102 = .ok (.bipush 9, 2) := by decide +kernel
theorem dX14_digest_104 : decode cX14_digest 104 = .ok (.irem, 1) := by decide +kernel
theorem dX14_digest_105 : decode cX14_digest 105 = .ok (.invokevirtual 381, 3) := by decide +kernel
theorem dX14_digest_108 : decode cX14_digest 108 = .ok (.i2l, 1) := by decide +kernel
theorem dX14_digest_109 : decode cX14_digest 109 = .ok (.ladd, 1) := by decide +kernel
theorem dX14_digest_110 : decode cX14_digest 110 = .ok (.lstore_n 1, 1) := by decide +kernel
theorem dX14_digest_111 : decode cX14_digest 111 = .ok (.iinc 3 1, 3) := by decide +kernel
theorem dX14_digest_114 : decode cX14_digest 114 = .ok (.goto (-37), 3) := by decide +kernel
theorem dX14_digest_117 : decode cX14_digest 117 = .ok (.iconst 0, 1) := by decide +kernel
theorem dX14_digest_118 : decode cX14_digest 118 = .ok (.istore_n 3, 1) := by decide +kernel
theorem dX14_digest_119 : decode cX14_digest 119 = .ok (.iload_n 3, 1) := by decide +kernel
theorem dX14_digest_120 : decode cX14_digest 120 = .ok (.iconst 4, 1) := by decide +kernel
theorem dX14_digest_121 : decode cX14_digest 121 = .ok (.aload_n 0, 1) := by decide +kernel
theorem dX14_digest_122 : decode cX14_digest 122 = .ok (.getfield 32, 3) := by decide +kernel
theorem dX14_digest_125 : decode cX14_digest 125 = .ok (.getfield 180, 3) := by decide +kernel
theorem dX14_digest_128 : decode cX14_digest 128 = .ok (.imul, 1) := by decide +kernel
theorem dX14_digest_129 : decode cX14_digest 129 = .ok (.if_icmp .ge 27, 3) := by decide +kernel
theorem dX14_digest_132 : decode cX14_digest 132 = .ok (.lload_n 1, 1) := by decide +kernel
theorem dX14_digest_133 : decode cX14_digest 133 = .ok (.ldc2_w 404, 3) := by decide +kernel
theorem dX14_digest_136 : decode cX14_digest 136 = .ok (.lmul, 1) := by decide +kernel
theorem dX14_digest_137 : decode cX14_digest 137 = .ok (.aload_n 0, 1) := by decide +kernel
theorem dX14_digest_138 : decode cX14_digest 138 = .ok (.iload_n 3, 1) := by decide +kernel
theorem dX14_digest_139 : decode cX14_digest 139 = .ok (.iconst 4, 1) := by decide +kernel
theorem dX14_digest_140 : decode cX14_digest 140 = .ok (.idiv, 1) := by decide +kernel
theorem dX14_digest_141 : decode cX14_digest 141 = .ok (.iload_n 3, 1) := by decide +kernel
theorem dX14_digest_142 : decode cX14_digest 142 = .ok (.iconst 4, 1) := by decide +kernel
theorem dX14_digest_143 : decode cX14_digest 143 = .ok (.irem, 1) := by decide +kernel
theorem dX14_digest_144 : decode cX14_digest 144 = .ok (.invokevirtual 384, 3) := by decide +kernel
theorem dX14_digest_147 : decode cX14_digest 147 = .ok (.i2l, 1) := by decide +kernel
theorem dX14_digest_148 : decode cX14_digest 148 = .ok (.ladd, 1) := by decide +kernel
theorem dX14_digest_149 : decode cX14_digest 149 = .ok (.lstore_n 1, 1) := by decide +kernel
theorem dX14_digest_150 : decode cX14_digest 150 = .ok (.iinc 3 1, 3) := by decide +kernel
theorem dX14_digest_153 : decode cX14_digest 153 = .ok (.goto (-34), 3) := by decide +kernel
theorem dX14_digest_156 : decode cX14_digest 156 = .ok (.iconst 0, 1) := by decide +kernel
theorem dX14_digest_157 : decode cX14_digest 157 = .ok (.istore_n 3, 1) := by decide +kernel
theorem dX14_digest_158 : decode cX14_digest 158 = .ok (.iload_n 3, 1) := by decide +kernel
theorem dX14_digest_159 : decode cX14_digest 159 = .ok (.iconst 4, 1) := by decide +kernel
theorem dX14_digest_160 : decode cX14_digest 160 = .ok (.aload_n 0, 1) := by decide +kernel
theorem dX14_digest_161 : decode cX14_digest 161 = .ok (.getfield 32, 3) := by decide +kernel
theorem dX14_digest_164 : decode cX14_digest 164 = .ok (.getfield 246, 3) := by decide +kernel
theorem dX14_digest_167 : decode cX14_digest 167 = .ok (.imul, 1) := by decide +kernel
theorem dX14_digest_168 : decode cX14_digest 168 = .ok (.if_icmp .ge 27, 3) := by decide +kernel
theorem dX14_digest_171 : decode cX14_digest 171 = .ok (.lload_n 1, 1) := by decide +kernel
theorem dX14_digest_172 : decode cX14_digest 172 = .ok (.ldc2_w 404, 3) := by decide +kernel
theorem dX14_digest_175 : decode cX14_digest 175 = .ok (.lmul, 1) := by decide +kernel
theorem dX14_digest_176 : decode cX14_digest 176 = .ok (.aload_n 0, 1) := by decide +kernel
theorem dX14_digest_177 : decode cX14_digest 177 = .ok (.iload_n 3, 1) := by decide +kernel
theorem dX14_digest_178 : decode cX14_digest 178 = .ok (.iconst 4, 1) := by decide +kernel
theorem dX14_digest_179 : decode cX14_digest 179 = .ok (.idiv, 1) := by decide +kernel
theorem dX14_digest_180 : decode cX14_digest 180 = .ok (.iload_n 3, 1) := by decide +kernel
theorem dX14_digest_181 : decode cX14_digest 181 = .ok (.iconst 4, 1) := by decide +kernel
theorem dX14_digest_182 : decode cX14_digest 182 = .ok (.irem, 1) := by decide +kernel
theorem dX14_digest_183 : decode cX14_digest 183 = .ok (.invokevirtual 387, 3) := by decide +kernel
theorem dX14_digest_186 : decode cX14_digest 186 = .ok (.i2l, 1) := by decide +kernel
theorem dX14_digest_187 : decode cX14_digest 187 = .ok (.ladd, 1) := by decide +kernel
theorem dX14_digest_188 : decode cX14_digest 188 = .ok (.lstore_n 1, 1) := by decide +kernel
theorem dX14_digest_189 : decode cX14_digest 189 = .ok (.iinc 3 1, 3) := by decide +kernel
theorem dX14_digest_192 : decode cX14_digest 192 = .ok (.goto (-34), 3) := by decide +kernel
theorem dX14_digest_195 : decode cX14_digest 195 = .ok (.iconst 0, 1) := by decide +kernel
theorem dX14_digest_196 : decode cX14_digest 196 = .ok (.istore_n 3, 1) := by decide +kernel
theorem dX14_digest_197 : decode cX14_digest 197 = .ok (.iload_n 3, 1) := by decide +kernel
theorem dX14_digest_198 : decode cX14_digest 198 = .ok (.aload_n 0, 1) := by decide +kernel
theorem dX14_digest_199 : decode cX14_digest 199 = .ok (.getfield 51, 3) := by decide +kernel
theorem dX14_digest_202 : decode cX14_digest 202 = .ok (.getfield 336, 3) := by decide +kernel
theorem dX14_digest_205 : decode cX14_digest 205 = .ok (.if_icmp .ge 26, 3) := by decide +kernel
theorem dX14_digest_208 : decode cX14_digest 208 = .ok (.lload_n 1, 1) := by decide +kernel
theorem dX14_digest_209 : decode cX14_digest 209 = .ok (.ldc2_w 404, 3) := by decide +kernel
theorem dX14_digest_212 : decode cX14_digest 212 = .ok (.lmul, 1) := by decide +kernel
theorem dX14_digest_213 : decode cX14_digest 213 = .ok (.aload_n 0, 1) := by decide +kernel
theorem dX14_digest_214 : decode cX14_digest 214 = .ok (.getfield 51, 3) := by decide +kernel
theorem dX14_digest_217 : decode cX14_digest 217 = .ok (.getfield 333, 3) := by decide +kernel
theorem dX14_digest_220 : decode cX14_digest 220 = .ok (.iload_n 3, 1) := by decide +kernel
theorem dX14_digest_221 : decode cX14_digest 221 = .ok (.iaload, 1) := by decide +kernel
theorem dX14_digest_222 : decode cX14_digest 222 = .ok (.i2l, 1) := by decide +kernel
theorem dX14_digest_223 : decode cX14_digest 223 = .ok (.ladd, 1) := by decide +kernel
theorem dX14_digest_224 : decode cX14_digest 224 = .ok (.lstore_n 1, 1) := by decide +kernel
theorem dX14_digest_225 : decode cX14_digest 225 = .ok (.iinc 3 1, 3) := by decide +kernel
theorem dX14_digest_228 : decode cX14_digest 228 = .ok (.goto (-31), 3) := by decide +kernel
theorem dX14_digest_231 : decode cX14_digest 231 = .ok (.lload_n 1, 1) := by decide +kernel
theorem dX14_digest_232 : decode cX14_digest 232 = .ok (.lreturn, 1) := by decide +kernel
/-! the reference: count and digest -/
def Grw (y : Nat) (S : AMem) (I : Nat → Nat → Int32) (J : Nat → Nat → Int64) (R : Nat → Nat → Option Nat) (S1 : AMem) (I1 : Nat → Nat → Int32) (J1 : Nat → Nat → Int64) (R1 : Nat → Nat → Option Nat) : Prop := S.hs ≤ S1.hs ∧ ∀ a, a < S.hs → S1.K a = S.K a ∧ S1.ln a = S.ln a ∧ J1 a = J a ∧ R1 a = R a ∧ ∀ j, (a ≠ y ∨ j ≠ 0) → I1 a j = I a j
theorem Grw.tr {y : Nat} {S S1 S2 : AMem} {I I1 I2 : Nat → Nat → Int32} {J J1 J2 : Nat → Nat → Int64} {R R1 R2 : Nat → Nat → Option Nat} (h1 : Grw y S I J R S1 I1 J1 R1) (h2 : Grw y S1 I1 J1 R1 S2 I2 J2 R2) : Grw y S I J R S2 I2 J2 R2 := by
  refine ⟨Nat.le_trans h1.1 h2.1, fun a ha => ?_⟩
  obtain ⟨a1, a2, a3, a4, a5⟩ := h1.2 a ha
  obtain ⟨b1, b2, b3, b4, b5⟩ := h2.2 a (Nat.lt_of_lt_of_le ha h1.1)
  exact ⟨b1.trans a1, b2.trans a2, b3.trans a3, b4.trans a4, fun j q => (b5 j q).trans (a5 j q)⟩
/-- what a call gives that makes rows -/
def YE (S : AMem) (y : Nat) (I : Nat → Nat → Int32) (J : Nat → Nat → Int64) (R : Nat → Nat → Option Nat) (res : AV × Int32) (rr : Option AV) (M1 : AMem) : Prop := rr = some res.1 ∧ ∃ S1 I1 J1 R1, M1 = mw S1 I1 J1 R1 ∧ Grw y S I J R S1 I1 J1 R1 ∧ I1 y 0 = res.2 ∧ S1.hs ≤ S.hs + 10 ∧ S1.sl ≤ S.sl + 100
def dgF (f : Nat → Nat → Int32) (q : Nat) : Nat → Int64 → Int64
  | 0, d => d
  | k + 1, d => dgF f q k d * 31 + (f (k / q) (k % q)).toInt64
theorem dgF_in {f : Nat → Nat → Int32} {q n : Nat} {d : Int64} : ∀ j, j ≤ q → dgF f q (q * n + j) d = dgI (f n) j (dgF f q (q * n) d) := by
  intro j
  induction j with
  | zero => intro _; rfl
  | succ j ih =>
    intro hj
    show dgF f q (q * n + j) d * 31 + (f ((q * n + j) / q) ((q * n + j) % q)).toInt64 = dgI (f n) j (dgF f q (q * n) d) * 31 + (f n j).toInt64
    have e1 : (q * n + j) / q = n := by
      rw [Nat.mul_add_div (by omega), Nat.div_eq_of_lt (by omega), Nat.add_zero]
    have e2 : (q * n + j) % q = j := by
      rw [Nat.mul_add_mod, Nat.mod_eq_of_lt (by omega)]
    rw [ih (by omega), e1, e2]
theorem dgF_o {f : Nat → Nat → Int32} {q : Nat} {d : Int64} : ∀ n, dgF f q (q * n) d = dgO (fun i => dgI (f i) q) n d := by
  intro n
  induction n with
  | zero => rfl
  | succ n ih =>
    show dgF f q (q * n + q) d = dgI (f n) q (dgO (fun i => dgI (f i) q) n d)
    rw [dgF_in q (Nat.le_refl _), ih]
theorem k_div {a b : Nat} (ha : a < 2 ^ 31) (hb : b < 2 ^ 31) (h0 : 0 < b) : nI a / nI b = nI (a / b) := by
  have hle : a / b ≤ a := Nat.div_le_self a b
  apply Int32.toInt_inj.mp
  rw [Int32.toInt_div, nI_toInt ha, nI_toInt hb, nI_toInt (Nat.lt_of_le_of_lt hle ha), ← Int.ofNat_tdiv]
  generalize a / b = c at hle ⊢
  rw [Int.bmod_eq_of_le (by omega) (by omega)]
theorem k_rem {a b : Nat} (ha : a < 2 ^ 31) (hb : b < 2 ^ 31) (h0 : 0 < b) : nI a - nI a / nI b * nI b = nI (a % b) := by
  have e := Nat.div_add_mod a b
  rw [k_div ha hb h0, k_mul, k_nsub (Nat.div_mul_le_self a b), Nat.mul_comm (a / b) b]
  congr 1
  omega
section Md
variable {G : Gp} {S : AMem} {I I1 : Nat → Nat → Int32} {J : Nat → Nat → Int64} {R : Nat → Nat → Option Nat} {y bl nx : Nat} {s : XS}
theorem k_grw {I1 : Nat → Nat → Int32} (h : ∀ a j, a ≠ S.hs → I1 a j = I a j) : Grw y S I J R (S.nw 20 10) I1 (xJ S J) (xR S R) := ⟨Nat.le_succ _, fun a ha => ⟨if_neg (show ¬ a = S.hs by omega), if_neg (show ¬ a = S.hs by omega), funext fun j => if_neg (show ¬ a = S.hs by omega), funext fun j => if_neg (show ¬ a = S.hs by omega), fun j _ => h a j (by omega)⟩⟩
theorem Grw.own {S1 : AMem} {I1 : Nat → Nat → Int32} {J1 : Nat → Nat → Int64} {R1 : Nat → Nat → Option Nat} (hC : MCc S R y bl nx) (hA : AbY I y bl s) (hy : y + 39 ≤ S.hs) (h : Grw y S I J R S1 I1 J1 R1) : MCc S1 R1 y bl nx ∧ AbY I1 y bl s := ⟨hC.ext fun a p q => ⟨(h.2 a (by omega)).1, (h.2 a (by omega)).2.1, fun j => congrFun (h.2 a (by omega)).2.2.2.1 j⟩, hA.loc hC fun x j p q r => (h.2 x (by omega)).2.2.2.2 j (by omega)⟩
theorem Grw.clr {v : Int32} : Grw y S I J R S (up2 I y 0 v) J R := ⟨Nat.le_refl _, fun a _ => ⟨rfl, rfl, rfl, rfl, fun j q => by rw [up2_at, if_neg (by omega)]⟩⟩
theorem k_X14_count {w : Int32} (hG : okG G) (hC : MCc S R y bl nx) (hA : AbY I y bl s) (hy : y + 39 ≤ S.hs) : Fn G mX14_count 407 [vR y, vI w] (mw S I J R) (YE S y I J R (if 0 ≤ w ∧ w ≤ 9 then (vI (cntM s.E s.B s.m w.toNatClampNeg), 0) else (vI 0, 1))) := by
  have ky := hC.1.1
  have hA0 : AbY (up2 I y 0 0) y bl s := hA.clr hC
  refine am_aload_n (q := 1) dX14_count_0 rfl rfl ?_
  refine am_iconst (q := 2) (v := 0) dX14_count_1 kc_i0 rfl ?_
  refine cm_putI (q := 5) dX14_count_2 flX14_58 rfl (Or.inl rfl) (Or.inl rfl) (by assumption) rfl ?_
  refine am_iload_n (q := 6) dX14_count_5 rfl rfl ?_
  refine am_iconst (q := 7) (v := 0) dX14_count_6 kc_i0 rfl ?_
  refine am_bipush (q := 9) (v := 9) dX14_count_7 kc_b9 rfl ?_
  refine am_call1 (q := 12) (As := [_, _, _]) hG dX14_count_9 mlX14_72 rfl (Nat.le_of_ble_eq_true rfl) (Nat.le_of_ble_eq_true rfl) (Nat.le_of_ble_eq_true rfl) k_X14_isIn rfl ?_
  rintro _ _ ⟨rfl, rfl⟩
  refine am_if_eq (tgt := 23) (q := 15) dX14_count_12 rfl rfl (fun h1 => ?_) (fun h1 => ?_)
  · rw [if_neg (bI_e0.mp h1)]
    refine am_aload_n (q := 24) dX14_count_23 rfl rfl ?_
    refine am_iconst (q := 25) (v := 1) dX14_count_24 kc_i1 rfl ?_
    refine cm_call0 (q := 28) (As := [_]) hG dX14_count_25 mlX14_64 rfl (by assumption) ⟨_, _, rfl⟩ (Nat.le_of_ble_eq_true rfl) (Nat.le_of_ble_eq_true rfl) (Nat.le_of_ble_eq_true rfl) (Nat.le_of_ble_eq_true rfl) (k_X14_no ky) rfl ?_
    rintro _ _ ⟨rfl, rfl⟩
    exact am_iret dX14_count_28 rfl rfl ⟨_, rfl, rfl, S, _, J, R, rfl, Grw.clr.tr Grw.clr, up2_s, by omega, by omega⟩
  · have h3 := bI_n0.mp h1
    rw [if_pos h3]
    obtain ⟨j, hj, rfl⟩ := k_idx2 (v := 9) (n := 9) rfl (by decide) (Int32.not_lt.mpr h3.1) h3.2
    rw [nI_clamp (show j < 2 ^ 31 by omega)]
    refine am_aload_n (q := 16) dX14_count_15 rfl rfl ?_
    refine am_iload_n (q := 17) dX14_count_16 rfl rfl ?_
    refine cm_call0 (q := 20) (As := [_]) hG dX14_count_17 mlX14_366 rfl (by assumption) ⟨_, _, rfl⟩ (Nat.le_of_ble_eq_true rfl) (Nat.le_of_ble_eq_true rfl) (Nat.le_of_ble_eq_true rfl) (Nat.le_of_ble_eq_true rfl) (k_X14_counted hG hC hA0 hy hj) rfl ?_
    rintro _ _ ⟨rfl, I1, rfl, o1⟩
    refine am_goto (tgt := 28) dX14_count_20 rfl ?_
    exact am_iret dX14_count_28 rfl rfl ⟨_, rfl, rfl, _, I1, _, _, rfl, Grw.clr.tr (k_grw o1), (by rw [o1 y 0 (by omega)]; exact up2_s), Nat.add_le_add_left (by decide) _, Nat.add_le_add_left (by decide) _⟩
theorem k_X14_digest (hG : okG G) (hC : MCc S R y bl nx) (hA : AbY I y bl s) (hy : y + 39 ≤ S.hs) : Fn G mX14_digest 407 [vR y] (mw S I J R) (YE S y I J R (vJ (digM s.B s.m (dgC s.E s.B s.m 10 761)), 0)) := by
  have ky := hC.1.1
  refine am_aload_n (q := 1) dX14_digest_0 rfl rfl ?_
  refine am_iconst (q := 2) (v := 0) dX14_digest_1 kc_i0 rfl ?_
  refine cm_putI (q := 5) dX14_digest_2 flX14_58 rfl (Or.inl rfl) (Or.inl rfl) (by assumption) rfl ?_
  refine am_ldcJ (q := 8) (v := 761) dX14_digest_5 (tbc8 54 rfl rfl) rfl ?_
  refine am_lstore_n (q := 9) (ls1 := [_, _, _, _]) dX14_digest_8 (Nat.le_of_ble_eq_true rfl) rfl rfl ?_
  refine am_iconst (q := 10) (v := 0) dX14_digest_9 kc_i0 rfl ?_
  refine am_istore_n (q := 11) (ls1 := [_, _, _, _]) dX14_digest_10 (Nat.le_of_ble_eq_true rfl) rfl rfl ?_
  refine k_loop (σ := AMem × (Nat → Nat → Int32) × (Nat → Nat → Int64) × (Nat → Nat → Option Nat) × Int64) (n := 10) (Inv := fun i q => Grw y S I J R q.1 q.2.1 q.2.2.1 q.2.2.2.1 ∧ q.2.2.2.2 = dgC s.E s.B s.m i 761 ∧ q.2.1 y 0 = 0 ∧ q.1.hs = S.hs + i ∧ q.1.sl = S.sl + 10 * i) (W := fun i q => MW G mX14_digest 407 11 [some (vR y), some (vJ q.2.2.2.2), none, some (vI (nI i))] [] (mw q.1 q.2.1 q.2.2.1 q.2.2.2.1) _) ?_ ?_ 0 (S, up2 I y 0 0, J, R, 761) (Nat.zero_le _) ⟨Grw.clr, rfl, up2_s, rfl, rfl⟩
  · rintro i ⟨S1, I1, J1, R1, d⟩ hi ⟨hg, rfl, h0, h1, h2⟩ ih
    dsimp only at hg h0 h1 h2 ih ⊢
    obtain ⟨hC1, hA1⟩ := hg.own hC hA hy
    have ky := hC1.1.1
    refine am_iload_n (q := 12) dX14_digest_11 rfl rfl ?_
    refine am_bipush (q := 14) (v := 10) dX14_digest_12 kc_b10 rfl ?_
    refine am_icmp_ge (tgt := 36) (q := 17) dX14_digest_14 rfl rfl (fun hz => absurd hz (nI_ge (b := 10) hi (by decide))) (fun _ => ?_)
    refine am_lload_n (q := 18) dX14_digest_17 rfl rfl ?_
    refine am_ldcJ (q := 21) (v := 31) dX14_digest_18 (tbc8 55 rfl rfl) rfl ?_
    refine am_lmul (q := 22) dX14_digest_21 rfl ?_
    refine am_aload_n (q := 23) dX14_digest_22 rfl rfl ?_
    refine am_iload_n (q := 24) dX14_digest_23 rfl rfl ?_
    refine cm_call0 (q := 27) (As := [_]) hG dX14_digest_24 mlX14_366 rfl (by assumption) ⟨_, _, rfl⟩ (Nat.le_of_ble_eq_true rfl) (Nat.le_of_ble_eq_true rfl) (Nat.le_of_ble_eq_true rfl) (Nat.le_of_ble_eq_true rfl) (k_X14_counted hG hC1 hA1 (by omega) hi) rfl ?_
    rintro _ _ ⟨rfl, I2, rfl, o2⟩
    refine am_i2l (q := 28) dX14_digest_27 rfl ?_
    refine am_ladd (q := 29) dX14_digest_28 rfl ?_
    refine am_lstore_n (q := 30) (ls1 := [_, _, _, _]) dX14_digest_29 (Nat.le_of_ble_eq_true rfl) rfl rfl ?_
    refine am_iincW (q := 33) (ls1 := [_, _, _, _]) (w := 1) dX14_digest_30 rfl (Nat.le_of_ble_eq_true rfl) kc_i1 rfl rfl ?_
    refine am_goto (tgt := 11) dX14_digest_33 rfl ?_
    rw [nI_1]
    refine ih (_, I2, _, _, _) ⟨hg.tr (k_grw o2), rfl, ?_, ?_, ?_⟩
    · rw [← h0]
      exact o2 y 0 (by omega)
    · show S1.hs + 1 = _
      omega
    · show S1.sl + 10 = _
      omega
  · rintro ⟨S1, I1, J1, R1, d⟩ ⟨hg, rfl, h0, h1, h2⟩
    dsimp only at hg h0 h1 h2 ⊢
    obtain ⟨hC1, hA1⟩ := hg.own hC hA hy
    unfold digM
    generalize dgC s.E s.B s.m 10 761 = d0
    have ky := hC1.1.1
    have ry := hC1.1.2.1
    have kb := hC1.1.2.2.1
    have rs := hC1.2.2.1
    obtain ⟨kz, z6, z7, z8, z9, z10, ⟨kz1, lz1⟩, _⟩ := id hC1.2.2.2.2.1
    have cR := hA1.2.2.1.1.1
    have cF := hA1.2.2.1.1.2.1
    have cP := hA1.2.2.1.1.2.2.1
    have cT := hA1.2.2.1.1.2.2.2
    obtain ⟨⟨g0, g1, g2, g3, g4, g5, g6⟩, hbd, _⟩ := id hA1.2.2.2.1
    refine am_iload_n (q := 12) dX14_digest_11 rfl rfl ?_
    refine am_bipush (q := 14) (v := 10) dX14_digest_12 kc_b10 rfl ?_
    refine am_icmp_ge (tgt := 36) (q := 17) dX14_digest_14 rfl rfl (fun _ => ?_) (fun hz => absurd (Int32.le_refl _) hz)
    refine am_iconst (q := 37) (v := 0) dX14_digest_36 kc_i0 rfl ?_
    refine am_istore_n (q := 38) (ls1 := [_, _, _, _]) dX14_digest_37 (Nat.le_of_ble_eq_true rfl) rfl rfl ?_
    refine k_loop (σ := Int64) (n := 5 * s.B.nR) (Inv := fun k d => d = dgF (s.m.rail) 5 k d0) (W := fun k d => MW G mX14_digest 407 38 [some (vR y), some (vJ d), none, some (vI (nI k))] [] (mw S1 I1 J1 R1) _) ?_ ?_ 0 d0 (Nat.zero_le _) rfl
    · rintro k d hk rfl ih
      have hd : k / 5 < s.B.nR := Nat.div_lt_of_lt_mul hk
      have hm : k % 5 < 5 := Nat.mod_lt k (by decide)
      have ub := cR.2
      refine am_iload_n (q := 39) dX14_digest_38 rfl rfl ?_
      refine am_iconst (q := 40) (v := 5) dX14_digest_39 kc_i5 rfl ?_
      refine am_aload_n (q := 41) dX14_digest_40 rfl rfl ?_
      refine cm_getR (q := 44) dX14_digest_41 flX14_32 rfl (by assumption) (by assumption) rfl ?_
      refine cm_getI (q := 47) dX14_digest_44 flX14_177 rfl (by assumption) rfl ?_
      rw [cR.1]
      refine am_imul (q := 48) dX14_digest_47 rfl ?_
      rw [show (5 * nI s.B.nR : Int32) = nI (5 * s.B.nR) from k_mul 5 _]
      refine am_icmp_ge (tgt := 75) (q := 51) dX14_digest_48 rfl rfl (fun hz => absurd hz (nI_ge hk (by omega))) (fun _ => ?_)
      refine am_lload_n (q := 52) dX14_digest_51 rfl rfl ?_
      refine am_ldcJ (q := 55) (v := 31) dX14_digest_52 (tbc8 55 rfl rfl) rfl ?_
      refine am_lmul (q := 56) dX14_digest_55 rfl ?_
      refine am_aload_n (q := 57) dX14_digest_56 rfl rfl ?_
      refine am_iload_n (q := 58) dX14_digest_57 rfl rfl ?_
      refine am_iconst (q := 59) (v := 5) dX14_digest_58 kc_i5 rfl ?_
      refine am_idiv (q := 60) dX14_digest_59 (by decide) rfl ?_
      rw [show (nI k / 5 : Int32) = nI (k / 5) from k_div (by omega) (by decide) (by decide)]
      refine am_iload_n (q := 61) dX14_digest_60 rfl rfl ?_
      refine am_iconst (q := 62) (v := 5) dX14_digest_61 kc_i5 rfl ?_
      refine am_irem (q := 63) dX14_digest_62 (by decide) rfl ?_
      rw [show (nI k - nI k / 5 * 5 : Int32) = nI (k % 5) from k_rem (by omega) (by decide) (by decide)]
      refine cm_call0 (q := 66) (As := [_, _]) hG dX14_digest_63 mlX14_372 rfl (by assumption) ⟨_, _, rfl⟩ (Nat.le_of_ble_eq_true rfl) (Nat.le_of_ble_eq_true rfl) (Nat.le_of_ble_eq_true rfl) (Nat.le_of_ble_eq_true rfl) (k_X14_railTold hG hC1 hA1 hd hm) rfl ?_
      rintro _ _ ⟨rfl, rfl⟩
      refine am_i2l (q := 67) dX14_digest_66 rfl ?_
      refine am_ladd (q := 68) dX14_digest_67 rfl ?_
      refine am_lstore_n (q := 69) (ls1 := [_, _, _, _]) dX14_digest_68 (Nat.le_of_ble_eq_true rfl) rfl rfl ?_
      refine am_iincW (q := 72) (ls1 := [_, _, _, _]) (w := 1) dX14_digest_69 rfl (Nat.le_of_ble_eq_true rfl) kc_i1 rfl rfl ?_
      refine am_goto (tgt := 38) dX14_digest_72 rfl ?_
      rw [nI_1]
      exact ih _ rfl
    rintro d rfl
    rw [dgF_o]
    generalize dgO (fun i => dgI (s.m.rail i) 5) s.B.nR d0 = d1
    clear d0
    refine am_iload_n (q := 39) dX14_digest_38 rfl rfl ?_
    refine am_iconst (q := 40) (v := 5) dX14_digest_39 kc_i5 rfl ?_
    refine am_aload_n (q := 41) dX14_digest_40 rfl rfl ?_
    refine cm_getR (q := 44) dX14_digest_41 flX14_32 rfl (by assumption) (by assumption) rfl ?_
    refine cm_getI (q := 47) dX14_digest_44 flX14_177 rfl (by assumption) rfl ?_
    rw [cR.1]
    refine am_imul (q := 48) dX14_digest_47 rfl ?_
    rw [show (5 * nI s.B.nR : Int32) = nI (5 * s.B.nR) from k_mul 5 _]
    refine am_icmp_ge (tgt := 75) (q := 51) dX14_digest_48 rfl rfl (fun _ => ?_) (fun hz => absurd (Int32.le_refl _) hz)
    refine am_iconst (q := 76) (v := 0) dX14_digest_75 kc_i0 rfl ?_
    refine am_istore_n (q := 77) (ls1 := [_, _, _, _]) dX14_digest_76 (Nat.le_of_ble_eq_true rfl) rfl rfl ?_
    refine k_loop (σ := Int64) (n := 9 * s.B.nF) (Inv := fun k d => d = dgF (tlF s.B s.m) 9 k d1) (W := fun k d => MW G mX14_digest 407 77 [some (vR y), some (vJ d), none, some (vI (nI k))] [] (mw S1 I1 J1 R1) _) ?_ ?_ 0 d1 (Nat.zero_le _) rfl
    · rintro k d hk rfl ih
      have hd : k / 9 < s.B.nF := Nat.div_lt_of_lt_mul hk
      have hm : k % 9 < 9 := Nat.mod_lt k (by decide)
      have ub := cF.2
      refine am_iload_n (q := 78) dX14_digest_77 rfl rfl ?_
      refine am_bipush (q := 80) (v := 9) dX14_digest_78 kc_b9 rfl ?_
      refine am_aload_n (q := 81) dX14_digest_80 rfl rfl ?_
      refine cm_getR (q := 84) dX14_digest_81 flX14_32 rfl (by assumption) (by assumption) rfl ?_
      refine cm_getI (q := 87) dX14_digest_84 flX14_170 rfl (by assumption) rfl ?_
      rw [cF.1]
      refine am_imul (q := 88) dX14_digest_87 rfl ?_
      rw [show (9 * nI s.B.nF : Int32) = nI (9 * s.B.nF) from k_mul 9 _]
      refine am_icmp_ge (tgt := 117) (q := 91) dX14_digest_88 rfl rfl (fun hz => absurd hz (nI_ge hk (by omega))) (fun _ => ?_)
      refine am_lload_n (q := 92) dX14_digest_91 rfl rfl ?_
      refine am_ldcJ (q := 95) (v := 31) dX14_digest_92 (tbc8 55 rfl rfl) rfl ?_
      refine am_lmul (q := 96) dX14_digest_95 rfl ?_
      refine am_aload_n (q := 97) dX14_digest_96 rfl rfl ?_
      refine am_iload_n (q := 98) dX14_digest_97 rfl rfl ?_
      refine am_bipush (q := 100) (v := 9) dX14_digest_98 kc_b9 rfl ?_
      refine am_idiv (q := 101) dX14_digest_100 (by decide) rfl ?_
      rw [show (nI k / 9 : Int32) = nI (k / 9) from k_div (by omega) (by decide) (by decide)]
      refine am_iload_n (q := 102) dX14_digest_101 rfl rfl ?_
      refine am_bipush (q := 104) (v := 9) dX14_digest_102 kc_b9 rfl ?_
      refine am_irem (q := 105) dX14_digest_104 (by decide) rfl ?_
      rw [show (nI k - nI k / 9 * 9 : Int32) = nI (k % 9) from k_rem (by omega) (by decide) (by decide)]
      refine cm_call0 (q := 108) (As := [_, _]) hG dX14_digest_105 mlX14_381 rfl (by assumption) ⟨_, _, rfl⟩ (Nat.le_of_ble_eq_true rfl) (Nat.le_of_ble_eq_true rfl) (Nat.le_of_ble_eq_true rfl) (Nat.le_of_ble_eq_true rfl) (k_X14_fistTold hG hC1 hA1 hd hm) rfl ?_
      rintro _ _ ⟨rfl, rfl⟩
      refine am_i2l (q := 109) dX14_digest_108 rfl ?_
      refine am_ladd (q := 110) dX14_digest_109 rfl ?_
      refine am_lstore_n (q := 111) (ls1 := [_, _, _, _]) dX14_digest_110 (Nat.le_of_ble_eq_true rfl) rfl rfl ?_
      refine am_iincW (q := 114) (ls1 := [_, _, _, _]) (w := 1) dX14_digest_111 rfl (Nat.le_of_ble_eq_true rfl) kc_i1 rfl rfl ?_
      refine am_goto (tgt := 77) dX14_digest_114 rfl ?_
      rw [nI_1]
      exact ih _ rfl
    rintro d rfl
    rw [dgF_o]
    generalize dgO (fun i => dgI (tlF s.B s.m i) 9) s.B.nF d1 = d2
    clear d1
    refine am_iload_n (q := 78) dX14_digest_77 rfl rfl ?_
    refine am_bipush (q := 80) (v := 9) dX14_digest_78 kc_b9 rfl ?_
    refine am_aload_n (q := 81) dX14_digest_80 rfl rfl ?_
    refine cm_getR (q := 84) dX14_digest_81 flX14_32 rfl (by assumption) (by assumption) rfl ?_
    refine cm_getI (q := 87) dX14_digest_84 flX14_170 rfl (by assumption) rfl ?_
    rw [cF.1]
    refine am_imul (q := 88) dX14_digest_87 rfl ?_
    rw [show (9 * nI s.B.nF : Int32) = nI (9 * s.B.nF) from k_mul 9 _]
    refine am_icmp_ge (tgt := 117) (q := 91) dX14_digest_88 rfl rfl (fun _ => ?_) (fun hz => absurd (Int32.le_refl _) hz)
    refine am_iconst (q := 118) (v := 0) dX14_digest_117 kc_i0 rfl ?_
    refine am_istore_n (q := 119) (ls1 := [_, _, _, _]) dX14_digest_118 (Nat.le_of_ble_eq_true rfl) rfl rfl ?_
    refine k_loop (σ := Int64) (n := 4 * s.B.nP) (Inv := fun k d => d = dgF (tlP s.B s.m) 4 k d2) (W := fun k d => MW G mX14_digest 407 119 [some (vR y), some (vJ d), none, some (vI (nI k))] [] (mw S1 I1 J1 R1) _) ?_ ?_ 0 d2 (Nat.zero_le _) rfl
    · rintro k d hk rfl ih
      have hd : k / 4 < s.B.nP := Nat.div_lt_of_lt_mul hk
      have hm : k % 4 < 4 := Nat.mod_lt k (by decide)
      have ub := cP.2
      refine am_iload_n (q := 120) dX14_digest_119 rfl rfl ?_
      refine am_iconst (q := 121) (v := 4) dX14_digest_120 kc_i4 rfl ?_
      refine am_aload_n (q := 122) dX14_digest_121 rfl rfl ?_
      refine cm_getR (q := 125) dX14_digest_122 flX14_32 rfl (by assumption) (by assumption) rfl ?_
      refine cm_getI (q := 128) dX14_digest_125 flX14_180 rfl (by assumption) rfl ?_
      rw [cP.1]
      refine am_imul (q := 129) dX14_digest_128 rfl ?_
      rw [show (4 * nI s.B.nP : Int32) = nI (4 * s.B.nP) from k_mul 4 _]
      refine am_icmp_ge (tgt := 156) (q := 132) dX14_digest_129 rfl rfl (fun hz => absurd hz (nI_ge hk (by omega))) (fun _ => ?_)
      refine am_lload_n (q := 133) dX14_digest_132 rfl rfl ?_
      refine am_ldcJ (q := 136) (v := 31) dX14_digest_133 (tbc8 55 rfl rfl) rfl ?_
      refine am_lmul (q := 137) dX14_digest_136 rfl ?_
      refine am_aload_n (q := 138) dX14_digest_137 rfl rfl ?_
      refine am_iload_n (q := 139) dX14_digest_138 rfl rfl ?_
      refine am_iconst (q := 140) (v := 4) dX14_digest_139 kc_i4 rfl ?_
      refine am_idiv (q := 141) dX14_digest_140 (by decide) rfl ?_
      rw [show (nI k / 4 : Int32) = nI (k / 4) from k_div (by omega) (by decide) (by decide)]
      refine am_iload_n (q := 142) dX14_digest_141 rfl rfl ?_
      refine am_iconst (q := 143) (v := 4) dX14_digest_142 kc_i4 rfl ?_
      refine am_irem (q := 144) dX14_digest_143 (by decide) rfl ?_
      rw [show (nI k - nI k / 4 * 4 : Int32) = nI (k % 4) from k_rem (by omega) (by decide) (by decide)]
      refine cm_call0 (q := 147) (As := [_, _]) hG dX14_digest_144 mlX14_384 rfl (by assumption) ⟨_, _, rfl⟩ (Nat.le_of_ble_eq_true rfl) (Nat.le_of_ble_eq_true rfl) (Nat.le_of_ble_eq_true rfl) (Nat.le_of_ble_eq_true rfl) (k_X14_prizeTold hG hC1 hA1 hd hm) rfl ?_
      rintro _ _ ⟨rfl, rfl⟩
      refine am_i2l (q := 148) dX14_digest_147 rfl ?_
      refine am_ladd (q := 149) dX14_digest_148 rfl ?_
      refine am_lstore_n (q := 150) (ls1 := [_, _, _, _]) dX14_digest_149 (Nat.le_of_ble_eq_true rfl) rfl rfl ?_
      refine am_iincW (q := 153) (ls1 := [_, _, _, _]) (w := 1) dX14_digest_150 rfl (Nat.le_of_ble_eq_true rfl) kc_i1 rfl rfl ?_
      refine am_goto (tgt := 119) dX14_digest_153 rfl ?_
      rw [nI_1]
      exact ih _ rfl
    rintro d rfl
    rw [dgF_o]
    generalize dgO (fun i => dgI (tlP s.B s.m i) 4) s.B.nP d2 = d3
    clear d2
    refine am_iload_n (q := 120) dX14_digest_119 rfl rfl ?_
    refine am_iconst (q := 121) (v := 4) dX14_digest_120 kc_i4 rfl ?_
    refine am_aload_n (q := 122) dX14_digest_121 rfl rfl ?_
    refine cm_getR (q := 125) dX14_digest_122 flX14_32 rfl (by assumption) (by assumption) rfl ?_
    refine cm_getI (q := 128) dX14_digest_125 flX14_180 rfl (by assumption) rfl ?_
    rw [cP.1]
    refine am_imul (q := 129) dX14_digest_128 rfl ?_
    rw [show (4 * nI s.B.nP : Int32) = nI (4 * s.B.nP) from k_mul 4 _]
    refine am_icmp_ge (tgt := 156) (q := 132) dX14_digest_129 rfl rfl (fun _ => ?_) (fun hz => absurd (Int32.le_refl _) hz)
    refine am_iconst (q := 157) (v := 0) dX14_digest_156 kc_i0 rfl ?_
    refine am_istore_n (q := 158) (ls1 := [_, _, _, _]) dX14_digest_157 (Nat.le_of_ble_eq_true rfl) rfl rfl ?_
    refine k_loop (σ := Int64) (n := 4 * s.B.nT) (Inv := fun k d => d = dgF (tlT s.B s.m) 4 k d3) (W := fun k d => MW G mX14_digest 407 158 [some (vR y), some (vJ d), none, some (vI (nI k))] [] (mw S1 I1 J1 R1) _) ?_ ?_ 0 d3 (Nat.zero_le _) rfl
    · rintro k d hk rfl ih
      have hd : k / 4 < s.B.nT := Nat.div_lt_of_lt_mul hk
      have hm : k % 4 < 4 := Nat.mod_lt k (by decide)
      have ub := cT.2
      refine am_iload_n (q := 159) dX14_digest_158 rfl rfl ?_
      refine am_iconst (q := 160) (v := 4) dX14_digest_159 kc_i4 rfl ?_
      refine am_aload_n (q := 161) dX14_digest_160 rfl rfl ?_
      refine cm_getR (q := 164) dX14_digest_161 flX14_32 rfl (by assumption) (by assumption) rfl ?_
      refine cm_getI (q := 167) dX14_digest_164 flX14_246 rfl (by assumption) rfl ?_
      rw [cT.1]
      refine am_imul (q := 168) dX14_digest_167 rfl ?_
      rw [show (4 * nI s.B.nT : Int32) = nI (4 * s.B.nT) from k_mul 4 _]
      refine am_icmp_ge (tgt := 195) (q := 171) dX14_digest_168 rfl rfl (fun hz => absurd hz (nI_ge hk (by omega))) (fun _ => ?_)
      refine am_lload_n (q := 172) dX14_digest_171 rfl rfl ?_
      refine am_ldcJ (q := 175) (v := 31) dX14_digest_172 (tbc8 55 rfl rfl) rfl ?_
      refine am_lmul (q := 176) dX14_digest_175 rfl ?_
      refine am_aload_n (q := 177) dX14_digest_176 rfl rfl ?_
      refine am_iload_n (q := 178) dX14_digest_177 rfl rfl ?_
      refine am_iconst (q := 179) (v := 4) dX14_digest_178 kc_i4 rfl ?_
      refine am_idiv (q := 180) dX14_digest_179 (by decide) rfl ?_
      rw [show (nI k / 4 : Int32) = nI (k / 4) from k_div (by omega) (by decide) (by decide)]
      refine am_iload_n (q := 181) dX14_digest_180 rfl rfl ?_
      refine am_iconst (q := 182) (v := 4) dX14_digest_181 kc_i4 rfl ?_
      refine am_irem (q := 183) dX14_digest_182 (by decide) rfl ?_
      rw [show (nI k - nI k / 4 * 4 : Int32) = nI (k % 4) from k_rem (by omega) (by decide) (by decide)]
      refine cm_call0 (q := 186) (As := [_, _]) hG dX14_digest_183 mlX14_387 rfl (by assumption) ⟨_, _, rfl⟩ (Nat.le_of_ble_eq_true rfl) (Nat.le_of_ble_eq_true rfl) (Nat.le_of_ble_eq_true rfl) (Nat.le_of_ble_eq_true rfl) (k_X14_turnTold hG hC1 hA1 hd hm) rfl ?_
      rintro _ _ ⟨rfl, rfl⟩
      refine am_i2l (q := 187) dX14_digest_186 rfl ?_
      refine am_ladd (q := 188) dX14_digest_187 rfl ?_
      refine am_lstore_n (q := 189) (ls1 := [_, _, _, _]) dX14_digest_188 (Nat.le_of_ble_eq_true rfl) rfl rfl ?_
      refine am_iincW (q := 192) (ls1 := [_, _, _, _]) (w := 1) dX14_digest_189 rfl (Nat.le_of_ble_eq_true rfl) kc_i1 rfl rfl ?_
      refine am_goto (tgt := 158) dX14_digest_192 rfl ?_
      rw [nI_1]
      exact ih _ rfl
    rintro d rfl
    rw [dgF_o]
    generalize dgO (fun i => dgI (tlT s.B s.m i) 4) s.B.nT d3 = d4
    clear d3
    refine am_iload_n (q := 159) dX14_digest_158 rfl rfl ?_
    refine am_iconst (q := 160) (v := 4) dX14_digest_159 kc_i4 rfl ?_
    refine am_aload_n (q := 161) dX14_digest_160 rfl rfl ?_
    refine cm_getR (q := 164) dX14_digest_161 flX14_32 rfl (by assumption) (by assumption) rfl ?_
    refine cm_getI (q := 167) dX14_digest_164 flX14_246 rfl (by assumption) rfl ?_
    rw [cT.1]
    refine am_imul (q := 168) dX14_digest_167 rfl ?_
    rw [show (4 * nI s.B.nT : Int32) = nI (4 * s.B.nT) from k_mul 4 _]
    refine am_icmp_ge (tgt := 195) (q := 171) dX14_digest_168 rfl rfl (fun _ => ?_) (fun hz => absurd (Int32.le_refl _) hz)
    refine am_iconst (q := 196) (v := 0) dX14_digest_195 kc_i0 rfl ?_
    refine am_istore_n (q := 197) (ls1 := [_, _, _, _]) dX14_digest_196 (Nat.le_of_ble_eq_true rfl) rfl rfl ?_
    refine k_loop (σ := Int64) (n := s.m.nb) (Inv := fun k d => d = dgI s.m.bd k d4) (W := fun k d => MW G mX14_digest 407 197 [some (vR y), some (vJ d), none, some (vI (nI k))] [] (mw S1 I1 J1 R1) _) ?_ ?_ 0 d4 (Nat.zero_le _) rfl
    · rintro k d hk rfl ih
      refine am_iload_n (q := 198) dX14_digest_197 rfl rfl ?_
      refine am_aload_n (q := 199) dX14_digest_198 rfl rfl ?_
      refine cm_getR (q := 202) dX14_digest_199 flX14_51 rfl (by assumption) (by assumption) rfl ?_
      refine cm_getI (q := 205) dX14_digest_202 flX14_336 rfl (by assumption) rfl ?_
      rw [g5]
      refine am_icmp_ge (tgt := 231) (q := 208) dX14_digest_205 rfl rfl (fun hz => absurd hz (nI_ge hk (by omega))) (fun _ => ?_)
      refine am_lload_n (q := 209) dX14_digest_208 rfl rfl ?_
      refine am_ldcJ (q := 212) (v := 31) dX14_digest_209 (tbc8 55 rfl rfl) rfl ?_
      refine am_lmul (q := 213) dX14_digest_212 rfl ?_
      refine am_aload_n (q := 214) dX14_digest_213 rfl rfl ?_
      refine cm_getR (q := 217) dX14_digest_214 flX14_51 rfl (by assumption) (by assumption) rfl ?_
      refine cm_getR (q := 220) dX14_digest_217 flX14_333 rfl (by assumption) (by assumption) rfl ?_
      refine am_iload_n (q := 221) dX14_digest_220 rfl rfl ?_
      refine cm_iaload (q := 222) dX14_digest_221 (by assumption) (by rw [lz1]; exact vp_in_nI (by omega) (by decide)) rfl ?_
      rw [nI_clamp (show k < 2 ^ 31 by omega), hbd k hk]
      refine am_i2l (q := 223) dX14_digest_222 rfl ?_
      refine am_ladd (q := 224) dX14_digest_223 rfl ?_
      refine am_lstore_n (q := 225) (ls1 := [_, _, _, _]) dX14_digest_224 (Nat.le_of_ble_eq_true rfl) rfl rfl ?_
      refine am_iincW (q := 228) (ls1 := [_, _, _, _]) (w := 1) dX14_digest_225 rfl (Nat.le_of_ble_eq_true rfl) kc_i1 rfl rfl ?_
      refine am_goto (tgt := 197) dX14_digest_228 rfl ?_
      rw [nI_1]
      exact ih _ rfl
    · rintro d rfl
      refine am_iload_n (q := 198) dX14_digest_197 rfl rfl ?_
      refine am_aload_n (q := 199) dX14_digest_198 rfl rfl ?_
      refine cm_getR (q := 202) dX14_digest_199 flX14_51 rfl (by assumption) (by assumption) rfl ?_
      refine cm_getI (q := 205) dX14_digest_202 flX14_336 rfl (by assumption) rfl ?_
      rw [g5]
      refine am_icmp_ge (tgt := 231) (q := 208) dX14_digest_205 rfl rfl (fun _ => ?_) (fun hz => absurd (Int32.le_refl _) hz)
      refine am_lload_n (q := 232) dX14_digest_231 rfl rfl ?_
      exact am_lret dX14_digest_232 rfl ⟨_, rfl, rfl, S1, I1, J1, R1, rfl, hg, h0, by omega, by omega⟩
end Md

