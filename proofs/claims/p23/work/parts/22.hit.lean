theorem kc_b60 : (Int8.ofInt 60).toInt32 = 60 := by decide +kernel
theorem dX2_hit_0 : decode cX2_hit 0 = .ok (.aload_n 0, 1) := by decide +kernel
theorem dX2_hit_1 : decode cX2_hit 1 = .ok (.iload_n 1, 1) := by decide +kernel
theorem dX2_hit_2 : decode cX2_hit 2 = .ok (.invokevirtual 167, 3) := by decide +kernel
theorem dX2_hit_5 : decode cX2_hit 5 = .ok (.ifCond .eq 11, 3) := by decide +kernel
theorem dX2_hit_8 : decode cX2_hit 8 = .ok (.aload_n 0, 1) := by decide +kernel
theorem dX2_hit_9 : decode cX2_hit 9 = .ok (.iload_n 2, 1) := by decide +kernel
theorem dX2_hit_10 : decode cX2_hit 10 = .ok (.invokevirtual 135, 3) := by decide +kernel
theorem dX2_hit_13 : decode cX2_hit 13 = .ok (.ifCond .ne 4, 3) := by decide +kernel
theorem dX2_hit_17 : decode cX2_hit 17 = .ok (.aload_n 0, 1) := by decide +kernel
theorem dX2_hit_18 : decode cX2_hit 18 = .ok (.getfield 40, 3) := by decide +kernel
theorem dX2_hit_21 : decode cX2_hit 21 = .ok (.iload_n 1, 1) := by decide +kernel
theorem dX2_hit_22 : decode cX2_hit 22 = .ok (.aaload, 1) := by decide +kernel
theorem dX2_hit_23 : decode cX2_hit 23 = .ok (.astore_n 3, 1) := by decide +kernel
theorem dX2_hit_24 : decode cX2_hit 24 = .ok (.aload_n 0, 1) := by decide +kernel
theorem dX2_hit_25 : decode cX2_hit 25 = .ok (.getfield 34, 3) := by decide +kernel
theorem dX2_hit_28 : decode cX2_hit 28 = .ok (.iload_n 2, 1) := by decide +kernel
theorem dX2_hit_29 : decode cX2_hit 29 = .ok (.aaload, 1) := by decide +kernel
theorem dX2_hit_30 : decode cX2_hit 30 = .ok (.astore 4, 2) := by decide +kernel
theorem dX2_hit_32 : decode cX2_hit 32 = .ok (.aload_n 0, 1) := by decide +kernel
theorem dX2_hit_33 : decode cX2_hit 33 = .ok (.getfield 28, 3) := by decide +kernel
theorem dX2_hit_36 : decode cX2_hit 36 = .ok (.aload 4, 2) := by decide +kernel
theorem dX2_hit_38 : decode cX2_hit 38 = .ok (.aload_n 3, 1) := by decide +kernel
theorem dX2_hit_39 : decode cX2_hit 39 = .ok (.aload_n 3, 1) := by decide +kernel
theorem dX2_hit_40 : decode cX2_hit 40 = .ok (.getfield 170, 3) := by decide +kernel
theorem dX2_hit_43 : decode cX2_hit 43 = .ok (.invokevirtual 234, 3) := by decide +kernel
theorem dX2_hit_46 : decode cX2_hit 46 = .ok (.invokevirtual 237, 3) := by decide +kernel
theorem dX2_hit_49 : decode cX2_hit 49 = .ok (.aload_n 0, 1) := by decide +kernel
theorem dX2_hit_50 : decode cX2_hit 50 = .ok (.aload_n 0, 1) := by decide +kernel
theorem dX2_hit_51 : decode cX2_hit 51 = .ok (.getfield 28, 3) := by decide +kernel
theorem dX2_hit_54 : decode cX2_hit 54 = .ok (.getfield 241, 3) := by decide +kernel
theorem dX2_hit_57 : decode cX2_hit 57 = .ok (.putfield 87, 3) := by decide +kernel
theorem dX2_hit_60 : decode cX2_hit 60 = .ok (.aload_n 0, 1) := by decide +kernel
theorem dX2_hit_61 : decode cX2_hit 61 = .ok (.aload_n 0, 1) := by decide +kernel
theorem dX2_hit_62 : decode cX2_hit 62 = .ok (.getfield 28, 3) := by decide +kernel
theorem dX2_hit_65 : decode cX2_hit 65 = .ok (.getfield 242, 3) := by decide +kernel
theorem dX2_hit_68 : decode cX2_hit 68 = .ok (.putfield 90, 3) := by decide +kernel
theorem dX2_hit_71 : decode cX2_hit 71 = .ok (.aload_n 0, 1) := by decide +kernel
theorem dX2_hit_72 : decode cX2_hit 72 = .ok (.dup, 1) := by decide +kernel
theorem dX2_hit_73 : decode cX2_hit 73 = .ok (.getfield 93, 3) := by decide +kernel
theorem dX2_hit_76 : decode cX2_hit 76 = .ok (.iconst 1, 1) := by decide +kernel
theorem dX2_hit_77 : decode cX2_hit 77 = .ok (.iadd, 1) := by decide +kernel
theorem dX2_hit_78 : decode cX2_hit 78 = .ok (.putfield 93, 3) := by decide +kernel
theorem dX2_hit_81 : decode cX2_hit 81 = .ok (.aload_n 0, 1) := by decide +kernel
theorem dX2_hit_82 : decode cX2_hit 82 = .ok (.dup, 1) := by decide +kernel
theorem dX2_hit_83 : decode cX2_hit 83 = .ok (.getfield 96, 3) := by decide +kernel
theorem dX2_hit_86 : decode cX2_hit 86 = .ok (.aload_n 0, 1) := by decide +kernel
theorem dX2_hit_87 : decode cX2_hit 87 = .ok (.getfield 90, 3) := by decide +kernel
theorem dX2_hit_90 : decode cX2_hit 90 = .ok (.iadd, 1) := by decide +kernel
theorem dX2_hit_91 : decode cX2_hit 91 = .ok (.putfield 96, 3) := by decide +kernel
theorem dX2_hit_94 : decode cX2_hit 94 = .ok (.aload_n 0, 1) := by decide +kernel
theorem dX2_hit_95 : decode cX2_hit 95 = .ok (.getfield 21, 3) := by decide +kernel
theorem dX2_hit_98 : decode cX2_hit 98 = .ok (.aload_n 0, 1) := by decide +kernel
theorem dX2_hit_99 : decode cX2_hit 99 = .ok (.getfield 87, 3) := by decide +kernel
theorem dX2_hit_102 : decode cX2_hit 102 = .ok (.invokevirtual 243, 3) := by decide +kernel
theorem dX2_hit_105 : decode cX2_hit 105 = .ok (.aload 4, 2) := by decide +kernel
theorem dX2_hit_107 : decode cX2_hit 107 = .ok (.dup, 1) := by decide +kernel
theorem dX2_hit_108 : decode cX2_hit 108 = .ok (.getfield 166, 3) := by decide +kernel
theorem dX2_hit_111 : decode cX2_hit 111 = .ok (.iconst 1, 1) := by decide +kernel
theorem dX2_hit_112 : decode cX2_hit 112 = .ok (.iadd, 1) := by decide +kernel
theorem dX2_hit_113 : decode cX2_hit 113 = .ok (.putfield 166, 3) := by decide +kernel
theorem dX2_hit_116 : decode cX2_hit 116 = .ok (.aload 4, 2) := by decide +kernel
theorem dX2_hit_118 : decode cX2_hit 118 = .ok (.aload_n 0, 1) := by decide +kernel
theorem dX2_hit_119 : decode cX2_hit 119 = .ok (.getfield 87, 3) := by decide +kernel
theorem dX2_hit_122 : decode cX2_hit 122 = .ok (.aload 4, 2) := by decide +kernel
theorem dX2_hit_124 : decode cX2_hit 124 = .ok (.getfield 163, 3) := by decide +kernel
theorem dX2_hit_127 : decode cX2_hit 127 = .ok (.if_icmp .le 10, 3) := by decide +kernel
theorem dX2_hit_130 : decode cX2_hit 130 = .ok (.aload_n 0, 1) := by decide +kernel
theorem dX2_hit_131 : decode cX2_hit 131 = .ok (.getfield 87, 3) := by decide +kernel
theorem dX2_hit_134 : decode cX2_hit 134 = .ok (.goto 8, 3) := by decide +kernel
theorem dX2_hit_137 : decode cX2_hit 137 = .ok (.aload 4, 2) := by decide +kernel
theorem dX2_hit_139 : decode cX2_hit 139 = .ok (.getfield 163, 3) := by decide +kernel
theorem dX2_hit_142 : decode cX2_hit 142 = .ok (.putfield 163, 3) := by decide +kernel
theorem dX2_hit_145 : decode cX2_hit 145 = .ok (.aload_n 3, 1) := by decide +kernel
theorem dX2_hit_146 : decode cX2_hit 146 = .ok (.dup, 1) := by decide +kernel
theorem dX2_hit_147 : decode cX2_hit 147 = .ok (.getfield 185, 3) := by decide +kernel
theorem dX2_hit_150 : decode cX2_hit 150 = .ok (.iconst 1, 1) := by decide +kernel
theorem dX2_hit_151 : decode cX2_hit 151 = .ok (.iadd, 1) := by decide +kernel
theorem dX2_hit_152 : decode cX2_hit 152 = .ok (.putfield 185, 3) := by decide +kernel
theorem dX2_hit_155 : decode cX2_hit 155 = .ok (.aload_n 3, 1) := by decide +kernel
theorem dX2_hit_156 : decode cX2_hit 156 = .ok (.aload_n 0, 1) := by decide +kernel
theorem dX2_hit_157 : decode cX2_hit 157 = .ok (.getfield 87, 3) := by decide +kernel
theorem dX2_hit_160 : decode cX2_hit 160 = .ok (.aload_n 3, 1) := by decide +kernel
theorem dX2_hit_161 : decode cX2_hit 161 = .ok (.getfield 186, 3) := by decide +kernel
theorem dX2_hit_164 : decode cX2_hit 164 = .ok (.if_icmp .le 10, 3) := by decide +kernel
theorem dX2_hit_167 : decode cX2_hit 167 = .ok (.aload_n 0, 1) := by decide +kernel
theorem dX2_hit_168 : decode cX2_hit 168 = .ok (.getfield 87, 3) := by decide +kernel
theorem dX2_hit_171 : decode cX2_hit 171 = .ok (.goto 7, 3) := by decide +kernel
theorem dX2_hit_174 : decode cX2_hit 174 = .ok (.aload_n 3, 1) := by decide +kernel
theorem dX2_hit_175 : decode cX2_hit 175 = .ok (.getfield 186, 3) := by decide +kernel
theorem dX2_hit_178 : decode cX2_hit 178 = .ok (.putfield 186, 3) := by decide +kernel
theorem dX2_hit_181 : decode cX2_hit 181 = .ok (.aload_n 3, 1) := by decide +kernel
theorem dX2_hit_182 : decode cX2_hit 182 = .ok (.dup, 1) := by decide +kernel
theorem dX2_hit_183 : decode cX2_hit 183 = .ok (.getfield 187, 3) := by decide +kernel
theorem dX2_hit_186 : decode cX2_hit 186 = .ok (.aload_n 0, 1) := by decide +kernel
theorem dX2_hit_187 : decode cX2_hit 187 = .ok (.getfield 90, 3) := by decide +kernel
theorem dX2_hit_190 : decode cX2_hit 190 = .ok (.iadd, 1) := by decide +kernel
theorem dX2_hit_191 : decode cX2_hit 191 = .ok (.putfield 187, 3) := by decide +kernel
theorem dX2_hit_194 : decode cX2_hit 194 = .ok (.aload_n 3, 1) := by decide +kernel
theorem dX2_hit_195 : decode cX2_hit 195 = .ok (.iconst 1, 1) := by decide +kernel
theorem dX2_hit_196 : decode cX2_hit 196 = .ok (.putfield 247, 3) := by decide +kernel
theorem dX2_hit_199 : decode cX2_hit 199 = .ok (.aload_n 3, 1) := by decide +kernel
theorem dX2_hit_200 : decode cX2_hit 200 = .ok (.getfield 179, 3) := by decide +kernel
theorem dX2_hit_203 : decode cX2_hit 203 = .ok (.aload 4, 2) := by decide +kernel
theorem dX2_hit_205 : decode cX2_hit 205 = .ok (.getfield 157, 3) := by decide +kernel
theorem dX2_hit_208 : decode cX2_hit 208 = .ok (.iadd, 1) := by decide +kernel
theorem dX2_hit_209 : decode cX2_hit 209 = .ok (.istore 5, 2) := by decide +kernel
theorem dX2_hit_211 : decode cX2_hit 211 = .ok (.aload_n 3, 1) := by decide +kernel
theorem dX2_hit_212 : decode cX2_hit 212 = .ok (.iload 5, 2) := by decide +kernel
theorem dX2_hit_214 : decode cX2_hit 214 = .ok (.bipush 60, 2) := by decide +kernel
theorem dX2_hit_216 : decode cX2_hit 216 = .ok (.if_icmp .ge 8, 3) := by decide +kernel
theorem dX2_hit_219 : decode cX2_hit 219 = .ok (.iload 5, 2) := by decide +kernel
theorem dX2_hit_221 : decode cX2_hit 221 = .ok (.goto 5, 3) := by decide +kernel
theorem dX2_hit_224 : decode cX2_hit 224 = .ok (.bipush 60, 2) := by decide +kernel
theorem dX2_hit_226 : decode cX2_hit 226 = .ok (.putfield 179, 3) := by decide +kernel
theorem dX2_hit_229 : decode cX2_hit 229 = .ok (.aload_n 0, 1) := by decide +kernel
theorem dX2_hit_230 : decode cX2_hit 230 = .ok (.aload_n 3, 1) := by decide +kernel
theorem dX2_hit_231 : decode cX2_hit 231 = .ok (.invokevirtual 251, 3) := by decide +kernel
theorem dX2_hit_234 : decode cX2_hit 234 = .ok (.return_, 1) := by decide +kernel
/-! a strike -/
theorem k_inr {f n : Nat} (h : f < n) (hn : n < 2 ^ 31) : 0 ≤ nI f ∧ nI f < nI n := ⟨Int32.not_lt.mp (nI_pos (by omega)), (nI_ltI (by omega) hn).mpr h⟩
theorem AbM.setB {c : Nat} {I I1 : Nat → Nat → Int32} {B : BS} {m : MS} {v : Int32} (hB : AbB I c B) (h : AbM I c B m) (hI : ∀ x j, I1 x j = if x = c + 6 ∧ j = 0 then v else if x = c + 6 ∧ j < 10 then I (c + 6) (j - 1) else if x = c + 5 ∧ j = 1 then (if I (c + 5) 1 < 10 then I (c + 5) 1 + 1 else I (c + 5) 1) else I x j) : AbM I1 c B (mkMS m.fist m.rail m.prize m.g m.row (fun k => if k = 0 then v else m.bd (k - 1)) (if m.nb < 10 then m.nb + 1 else m.nb)) := by
  have o : ∀ x j, x ≠ c + 6 → x ≠ c + 5 → I1 x j = I x j := fun x j q1 q2 => by rw [hI, if_neg (fun q => q1 q.1), if_neg (fun q => q1 q.1), if_neg (fun q => q2 q.1)]
  obtain ⟨a1, a2, a3, a4, a5, a6, a7, a8, a9, a10, a11⟩ := h
  obtain ⟨⟨_, u1⟩, ⟨_, u2⟩, ⟨_, u3⟩, ⟨_, u4⟩, _⟩ := hB
  refine ⟨?_, ?_, ?_, ?_, ?_, ?_, ?_, ?_, ?_, a10, ?_⟩
  · intro x hx y hy
    rw [o _ _ (by omega) (by omega)]; exact a1 x hx y hy
  · intro x hx y hy
    rw [o _ _ (by omega) (by omega)]; exact a2 x hx y hy
  · intro x hx y hy
    rw [o _ _ (by omega) (by omega)]; exact a3 x hx y hy
  · intro y hy
    rw [o _ _ (by omega) (by omega)]; exact a4 y hy
  · rw [o _ _ (by omega) (by omega)]; exact a5
  · intro k hk
    rw [o _ _ (by omega) (by omega)]; exact a6 k hk
  · intro k hk
    have hk2 : k < (if m.nb < 10 then m.nb + 1 else m.nb) := hk
    show I1 (c + 6) k = if k = 0 then v else m.bd (k - 1)
    rw [hI]
    by_cases e : k = 0
    · rw [if_pos ⟨rfl, e⟩, if_pos e]
    · have h3 : k - 1 < m.nb ∧ k < 10 := by
        split at hk2 <;> omega
      rw [if_neg (fun q => e q.2), if_pos ⟨rfl, h3.2⟩, if_neg e]
      exact a7 _ h3.1
  · show I1 (c + 5) 1 = nI (if m.nb < 10 then m.nb + 1 else m.nb)
    rw [hI, if_neg (by omega), if_neg (by omega), if_pos ⟨rfl, rfl⟩, a8]
    have e10 : nI m.nb < 10 ↔ m.nb < 10 := nI_ltI (b := 10) (by omega) (by decide)
    by_cases e : m.nb < 10
    · rw [if_pos (e10.mpr e), if_pos e]
      exact nI_1 _
    · rw [if_neg (fun q => e (e10.mp q)), if_neg e]
  · show (if m.nb < 10 then m.nb + 1 else m.nb) ≤ 10
    split <;> omega
  · intro x hx
    rw [o _ _ (by omega) (by omega)]; exact a11 x hx
theorem stkM_e {B : BS} {m : MS} {f r : Nat} {h b : Int32} (l1 : h = (flM B m f r (m.fist f 0) 300).2.2.1) (l2 : b = (flM B m f r (m.fist f 0) 300).2.2.2.1) : stkM B m f r = mkMS
    (up2 (up2 (up2 (up2 (up2 m.fist f 5 (m.fist f 5 + 1)) f 6 (if m.fist f 6 < h then h else m.fist f 6)) f 7 (m.fist f 7 + b)) f 8 1) f 3 (if m.fist f 3 + m.rail r 1 < 60 then m.fist f 3 + m.rail r 1 else 60))
    (up2 (up2 m.rail r 4 (m.rail r 4 + 1)) r 3 (if m.rail r 3 < h then h else m.rail r 3)) m.prize (up1 (up1 (up1 (up1 m.g 1 h) 2 b) 3 (m.g 3 + 1)) 4 (m.g 4 + b)) m.row (fun k => if k = 0 then h else m.bd (k - 1)) (if m.nb < 10 then m.nb + 1 else m.nb) := by
  unfold stkM mkMS
  generalize flM B m f r (m.fist f 0) 300 = fl at l1 l2 ⊢
  subst l1 l2
  dsimp only
  have e1 : ∀ (F1 F2 R1 R2 : Nat → Nat → Int32) (g1 g2 : Nat → Int32) (p : Nat → Nat → Int32) (w : Nat → Nat) (bd : Nat → Int32) (n : Nat), (∀ x j, F1 x j = F2 x j) → (∀ x j, R1 x j = R2 x j) → (∀ j, g1 j = g2 j) → ((F1, R1, p, g1, w, bd, n) : MS) = (F2, R2, p, g2, w, bd, n) := by
    intro F1 F2 R1 R2 g1 g2 p w bd n q1 q2 q3
    have z1 : F1 = F2 := funext fun x => funext fun j => q1 x j
    have z2 : R1 = R2 := funext fun x => funext fun j => q2 x j
    have z3 : g1 = g2 := funext q3
    rw [z1, z2, z3]
  refine e1 _ _ _ _ _ _ _ _ _ _ ?_ ?_ ?_
  · intro x j
    simp only [up2_at]
    grind (splits := 30)
  · intro x j
    simp only [up2_at]
    grind (splits := 30)
  · intro j
    simp only [up1_at]
    grind (splits := 30)
section Hit
variable {G : Gp} {S : AMem} {I : Nat → Nat → Int32} {J : Nat → Nat → Int64} {R : Nat → Nat → Option Nat} {c : Nat} {B : BS} {m : MS} {Q : (Option AV ⊕ Nat) → AMem → Prop}
theorem k_hit3 {f r : Nat} {s p : Int32} {x5 : Option AV} (hG : okG G) (hct : CT S R c) (hB : AbB I c B) (hm : AbM I c B m) (hf : f < B.nF) (hr0 : r < B.nR) (hs : m.fist f 3 = s) (hp : m.rail r 1 = p)
    (hQ : ∀ I1, AbB I1 c B → AbM I1 c B (givM B (mkMS (up2 (up2 m.fist f 8 1) f 3 (if s + p < 60 then s + p else 60)) m.rail m.prize m.g m.row m.bd m.nb) f) → OffC c I I1 → Q (.inl none) (mw S I1 J R)) : MW G mX2_hit 4 194 [some (vR c), some (vI (nI f)), some (vI (nI r)), some (vR (c + 22 + f)), some (vR (c + 14 + 2 * r)), x5] [] (mw S I J R) Q := by
  have hct2 := hct
  obtain ⟨kc, rc0, rc1, rc2, rc3, rc4, rc5, rc6, rc7, ⟨kd, rd0, rd1, rd2, kd2, ld2, kd3, ld3, kd4, ld4⟩, ⟨kb, rb, kb6, lb6⟩, ⟨kf, rf, kf8, lf8⟩, ⟨kr, lr, hr⟩, ⟨kfi, lfi, hfi⟩, ⟨kp, lp, hpz⟩, ⟨kt, lt, htu⟩, kw, lw⟩ := id hct2
  obtain ⟨⟨u1, u2⟩, ⟨u3, u4⟩, _⟩ := id hB
  obtain ⟨f1, f2⟩ := hfi f (by omega)
  obtain ⟨r1, r2, r3, r4, r5⟩ := hr r (by omega)
  have hB12 := hB.upF (i := f) (j := 9) (v := 1) (by omega)
  have hm12 := AbM.setF (i := f) (j := 8) (v := 1) hB hm hf (by decide) (fun _ => Or.inr rfl)
  have hO12 := (OffC.rf (c := c) (I := I)).up (a := c + 22 + f) (j := 9) (v := 1) (by omega)
  refine am_aload_n (q := 195) dX2_hit_194 rfl rfl ?_
  refine am_iconst (q := 196) (v := 1) dX2_hit_195 kc_i1 rfl ?_
  refine cm_putI (q := 199) dX2_hit_196 flX2_247 rfl (Or.inr (Or.inr rfl)) (Or.inl rfl) (by assumption) rfl ?_
  refine am_aload_n (q := 200) dX2_hit_199 rfl rfl ?_
  refine cm_getI (q := 203) dX2_hit_200 flX2_179 rfl (by assumption) rfl ?_
  generalize up2 I (c + 22 + f) 9 1 = I12 at hB12 hm12 hO12 ⊢
  rw [show I12 (c + 22 + f) 4 = s from ((hm12.1 f hf 3 (by decide)).trans (up2_j (by decide))).trans hs]
  refine am_aload (q := 205) dX2_hit_203 rfl rfl ?_
  refine cm_getI (q := 208) dX2_hit_205 flX2_157 rfl (by assumption) rfl ?_
  rw [show I12 (c + 14 + 2 * r) 3 = p from (hm12.2.1 r hr0 1 (by decide)).trans hp]
  have s3 : ∀ v : Int32, v = (if s + p < 60 then s + p else 60) → MW G mX2_hit 4 226 [some (vR c), some (vI (nI f)), some (vI (nI r)), some (vR (c + 22 + f)), some (vR (c + 14 + 2 * r)), some (vI (s + p))] [vI v, vR (c + 22 + f)] (mw S I12 J R) Q := by
    intro v hv
    rw [← hv] at hQ
    have hB13 := hB12.upF (i := f) (j := 4) (v := v) (by omega)
    have hm13 := AbM.setF (i := f) (j := 3) (v := v) hB12 hm12 hf (by decide) (fun e => absurd e (by decide))
    have hO13 := hO12.up (a := c + 22 + f) (j := 4) (v := v) (by omega)
    refine cm_putI (q := 229) dX2_hit_226 flX2_179 rfl (Or.inl rfl) (Or.inl rfl) (by assumption) rfl ?_
    refine am_aload_n (q := 230) dX2_hit_229 rfl rfl ?_
    refine am_aload_n (q := 231) dX2_hit_230 rfl rfl ?_
    refine cm_call0 (q := 234) (As := [_]) hG dX2_hit_231 mlX2_251 rfl (by assumption) ⟨_, _, rfl⟩ (Nat.le_of_ble_eq_true rfl) (Nat.le_of_ble_eq_true rfl) (Nat.le_of_ble_eq_true rfl) (Nat.le_of_ble_eq_true rfl) (k_X2_giveTo hG hct hB13 hm13 hf) rfl ?_
    rintro _ _ ⟨rfl, I14, rfl, hB14, hm14, hO14⟩
    exact am_ret dX2_hit_234 rfl (hQ _ hB14 hm14 (hO13.tr hO14))
  refine am_iadd (q := 209) dX2_hit_208 rfl ?_
  refine am_istore (q := 211) (ls1 := [_, _, _, _, _, _]) dX2_hit_209 (Nat.le_of_ble_eq_true rfl) rfl rfl ?_
  refine am_aload_n (q := 212) dX2_hit_211 rfl rfl ?_
  refine am_iload (q := 214) dX2_hit_212 rfl rfl ?_
  refine am_bipush (q := 216) (v := 60) dX2_hit_214 kc_b60 rfl ?_
  refine am_icmp_ge (tgt := 224) (q := 219) dX2_hit_216 rfl rfl (fun hc => ?_) (fun hc => ?_)
  · refine am_bipush (q := 226) (v := 60) dX2_hit_224 kc_b60 rfl ?_
    exact s3 _ (if_neg (Int32.not_lt.mpr hc)).symm
  · refine am_iload (q := 221) dX2_hit_219 rfl rfl ?_
    refine am_goto (tgt := 226) dX2_hit_221 rfl ?_
    exact s3 _ (if_pos (Int32.not_le.mp hc)).symm
theorem k_hit2 {f r : Nat} {h b p : Int32} (hG : okG G) (hct : CT S R c) (hB : AbB I c B) (hm : AbM I c B m) (hf : f < B.nF) (hr0 : r < B.nR) (hh : m.g 1 = h) (hb : m.g 2 = b) (hp : m.rail r 1 = p)
    (hQ : ∀ I1, AbB I1 c B → AbM I1 c B (givM B (mkMS (up2 (up2 (up2 (up2 (up2 m.fist f 5 (m.fist f 5 + 1)) f 6 (if m.fist f 6 < h then h else m.fist f 6)) f 7 (m.fist f 7 + b)) f 8 1) f 3 (if m.fist f 3 + p < 60 then m.fist f 3 + p else 60)) m.rail m.prize m.g m.row m.bd m.nb) f) → OffC c I I1 → Q (.inl none) (mw S I1 J R)) : MW G mX2_hit 4 145 [some (vR c), some (vI (nI f)), some (vI (nI r)), some (vR (c + 22 + f)), some (vR (c + 14 + 2 * r)), none] [] (mw S I J R) Q := by
  have hct2 := hct
  obtain ⟨kc, rc0, rc1, rc2, rc3, rc4, rc5, rc6, rc7, ⟨kd, rd0, rd1, rd2, kd2, ld2, kd3, ld3, kd4, ld4⟩, ⟨kb, rb, kb6, lb6⟩, ⟨kf, rf, kf8, lf8⟩, ⟨kr, lr, hr⟩, ⟨kfi, lfi, hfi⟩, ⟨kp, lp, hpz⟩, ⟨kt, lt, htu⟩, kw, lw⟩ := id hct2
  obtain ⟨⟨u1, u2⟩, ⟨u3, u4⟩, _⟩ := id hB
  obtain ⟨f1, f2⟩ := hfi f (by omega)
  obtain ⟨r1, r2, r3, r4, r5⟩ := hr r (by omega)
  refine am_aload_n (q := 146) dX2_hit_145 rfl rfl ?_
  refine am_dup (q := 147) dX2_hit_146 rfl rfl ?_
  refine cm_getI (q := 150) dX2_hit_147 flX2_185 rfl (by assumption) rfl ?_
  rw [show I (c + 22 + f) 6 = m.fist f 5 from hm.1 f hf 5 (by decide)]
  refine am_iconst (q := 151) (v := 1) dX2_hit_150 kc_i1 rfl ?_
  refine am_iadd (q := 152) dX2_hit_151 rfl ?_
  refine cm_putI (q := 155) dX2_hit_152 flX2_185 rfl (Or.inl rfl) (Or.inl rfl) (by assumption) rfl ?_
  have hB9 := hB.upF (i := f) (j := 6) (v := m.fist f 5 + 1) (by omega)
  have hm9 := AbM.setF (i := f) (j := 5) (v := m.fist f 5 + 1) hB hm hf (by decide) (fun e => absurd e (by decide))
  have hO9 := (OffC.rf (c := c) (I := I)).up (a := c + 22 + f) (j := 6) (v := m.fist f 5 + 1) (by omega)
  generalize up2 I (c + 22 + f) 6 (m.fist f 5 + 1) = I9 at hB9 hm9 hO9 ⊢
  have k3 : I9 c 14 = h := (hm9.2.2.2.1 1 (by decide)).trans hh
  have k4 : I9 (c + 22 + f) 7 = m.fist f 6 := (hm9.1 f hf 6 (by decide)).trans (up2_j (by decide))
  have s2 : ∀ v : Int32, v = (if m.fist f 6 < h then h else m.fist f 6) → MW G mX2_hit 4 178 [some (vR c), some (vI (nI f)), some (vI (nI r)), some (vR (c + 22 + f)), some (vR (c + 14 + 2 * r)), none] [vI v, vR (c + 22 + f)] (mw S I9 J R) Q := by
    intro v hv
    rw [← hv] at hQ
    have hB10 := hB9.upF (i := f) (j := 7) (v := v) (by omega)
    have hm10 := AbM.setF (i := f) (j := 6) (v := v) hB9 hm9 hf (by decide) (fun e => absurd e (by decide))
    have hO10 := hO9.up (a := c + 22 + f) (j := 7) (v := v) (by omega)
    refine cm_putI (q := 181) dX2_hit_178 flX2_186 rfl (Or.inl rfl) (Or.inl rfl) (by assumption) rfl ?_
    refine am_aload_n (q := 182) dX2_hit_181 rfl rfl ?_
    refine am_dup (q := 183) dX2_hit_182 rfl rfl ?_
    refine cm_getI (q := 186) dX2_hit_183 flX2_187 rfl (by assumption) rfl ?_
    refine am_aload_n (q := 187) dX2_hit_186 rfl rfl ?_
    refine cm_getI (q := 190) dX2_hit_187 flX2_90 rfl (by assumption) rfl ?_
    generalize up2 I9 (c + 22 + f) 7 v = I10 at hB10 hm10 hO10 ⊢
    rw [show I10 (c + 22 + f) 8 = m.fist f 7 from ((hm10.1 f hf 7 (by decide)).trans (up2_j (by decide))).trans (up2_j (by decide)), show I10 c 15 = b from (hm10.2.2.2.1 2 (by decide)).trans hb]
    refine am_iadd (q := 191) dX2_hit_190 rfl ?_
    refine cm_putI (q := 194) dX2_hit_191 flX2_187 rfl (Or.inl rfl) (Or.inl rfl) (by assumption) rfl ?_
    refine k_hit3 hG hct (hB10.upF (i := f) (j := 8) (v := m.fist f 7 + b) (by omega)) (AbM.setF (i := f) (j := 7) (v := m.fist f 7 + b) hB10 hm10 hf (by decide) (fun e => absurd e (by decide))) hf hr0 (s := m.fist f 3) (p := p) (((up2_j (by decide)).trans (up2_j (by decide))).trans (up2_j (by decide))) hp ?_
    intro I1 q1 q2 q3
    exact hQ I1 q1 q2 ((hO10.up (a := c + 22 + f) (j := 8) (v := m.fist f 7 + b) (by omega)).tr q3)
  refine am_aload_n (q := 156) dX2_hit_155 rfl rfl ?_
  refine am_aload_n (q := 157) dX2_hit_156 rfl rfl ?_
  refine cm_getI (q := 160) dX2_hit_157 flX2_87 rfl (by assumption) rfl ?_
  refine am_aload_n (q := 161) dX2_hit_160 rfl rfl ?_
  refine cm_getI (q := 164) dX2_hit_161 flX2_186 rfl (by assumption) rfl ?_
  rw [k3, k4]
  refine am_icmp_le (tgt := 174) (q := 167) dX2_hit_164 rfl rfl (fun hc => ?_) (fun hc => ?_)
  · refine am_aload_n (q := 175) dX2_hit_174 rfl rfl ?_
    refine cm_getI (q := 178) dX2_hit_175 flX2_186 rfl (by assumption) rfl ?_
    rw [k4]
    exact s2 _ (if_neg (Int32.not_lt.mpr hc)).symm
  · refine am_aload_n (q := 168) dX2_hit_167 rfl rfl ?_
    refine cm_getI (q := 171) dX2_hit_168 flX2_87 rfl (by assumption) rfl ?_
    refine am_goto (tgt := 178) dX2_hit_171 rfl ?_
    rw [k3]
    exact s2 _ (if_pos (Int32.not_le.mp hc)).symm
theorem k_hit1 {f r : Nat} {h b : Int32} (hG : okG G) (hct : CT S R c) (hB : AbB I c B) (hm : AbM I c B m) (hf : f < B.nF) (hr0 : r < B.nR) (hh : m.g 1 = h) (hb : m.g 2 = b)
    (hQ : ∀ I1, AbB I1 c B → AbM I1 c B (givM B (mkMS (up2 (up2 (up2 (up2 (up2 m.fist f 5 (m.fist f 5 + 1)) f 6 (if m.fist f 6 < h then h else m.fist f 6)) f 7 (m.fist f 7 + b)) f 8 1) f 3 (if m.fist f 3 + m.rail r 1 < 60 then m.fist f 3 + m.rail r 1 else 60)) (up2 (up2 m.rail r 4 (m.rail r 4 + 1)) r 3 (if m.rail r 3 < h then h else m.rail r 3)) m.prize m.g m.row m.bd m.nb) f) → OffC c I I1 → Q (.inl none) (mw S I1 J R)) : MW G mX2_hit 4 105 [some (vR c), some (vI (nI f)), some (vI (nI r)), some (vR (c + 22 + f)), some (vR (c + 14 + 2 * r)), none] [] (mw S I J R) Q := by
  have hct2 := hct
  obtain ⟨kc, rc0, rc1, rc2, rc3, rc4, rc5, rc6, rc7, ⟨kd, rd0, rd1, rd2, kd2, ld2, kd3, ld3, kd4, ld4⟩, ⟨kb, rb, kb6, lb6⟩, ⟨kf, rf, kf8, lf8⟩, ⟨kr, lr, hr⟩, ⟨kfi, lfi, hfi⟩, ⟨kp, lp, hpz⟩, ⟨kt, lt, htu⟩, kw, lw⟩ := id hct2
  obtain ⟨⟨u1, u2⟩, ⟨u3, u4⟩, _⟩ := id hB
  obtain ⟨f1, f2⟩ := hfi f (by omega)
  obtain ⟨r1, r2, r3, r4, r5⟩ := hr r (by omega)
  refine am_aload (q := 107) dX2_hit_105 rfl rfl ?_
  refine am_dup (q := 108) dX2_hit_107 rfl rfl ?_
  refine cm_getI (q := 111) dX2_hit_108 flX2_166 rfl (by assumption) rfl ?_
  rw [show I (c + 14 + 2 * r) 6 = m.rail r 4 from hm.2.1 r hr0 4 (by decide)]
  refine am_iconst (q := 112) (v := 1) dX2_hit_111 kc_i1 rfl ?_
  refine am_iadd (q := 113) dX2_hit_112 rfl ?_
  refine cm_putI (q := 116) dX2_hit_113 flX2_166 rfl (Or.inl rfl) (Or.inl rfl) (by assumption) rfl ?_
  have hB7 := hB.upR (i := r) (j := 6) (v := m.rail r 4 + 1) (by omega)
  have hm7 := AbM.setR (i := r) (j := 4) (v := m.rail r 4 + 1) hB hm hr0 (by decide) (by decide)
  have hO7 := (OffC.rf (c := c) (I := I)).up (a := c + 14 + 2 * r) (j := 6) (v := m.rail r 4 + 1) (by omega)
  generalize up2 I (c + 14 + 2 * r) 6 (m.rail r 4 + 1) = I7 at hB7 hm7 hO7 ⊢
  have k1 : I7 c 14 = h := (hm7.2.2.2.1 1 (by decide)).trans hh
  have k2 : I7 (c + 14 + 2 * r) 5 = m.rail r 3 := (hm7.2.1 r hr0 3 (by decide)).trans (up2_j (by decide))
  have s1 : ∀ v : Int32, v = (if m.rail r 3 < h then h else m.rail r 3) → MW G mX2_hit 4 142 [some (vR c), some (vI (nI f)), some (vI (nI r)), some (vR (c + 22 + f)), some (vR (c + 14 + 2 * r)), none] [vI v, vR (c + 14 + 2 * r)] (mw S I7 J R) Q := by
    intro v hv
    rw [← hv] at hQ
    refine cm_putI (q := 145) dX2_hit_142 flX2_163 rfl (Or.inl rfl) (Or.inl rfl) (by assumption) rfl ?_
    refine k_hit2 hG hct (hB7.upR (i := r) (j := 5) (v := v) (by omega)) (AbM.setR (i := r) (j := 3) (v := v) hB7 hm7 hr0 (by decide) (by decide)) hf hr0 (h := h) (b := b) (p := m.rail r 1) hh hb ((up2_j (by decide)).trans (up2_j (by decide))) ?_
    intro I1 q1 q2 q3
    exact hQ I1 q1 q2 ((hO7.up (a := c + 14 + 2 * r) (j := 5) (v := v) (by omega)).tr q3)
  refine am_aload (q := 118) dX2_hit_116 rfl rfl ?_
  refine am_aload_n (q := 119) dX2_hit_118 rfl rfl ?_
  refine cm_getI (q := 122) dX2_hit_119 flX2_87 rfl (by assumption) rfl ?_
  refine am_aload (q := 124) dX2_hit_122 rfl rfl ?_
  refine cm_getI (q := 127) dX2_hit_124 flX2_163 rfl (by assumption) rfl ?_
  rw [k1, k2]
  refine am_icmp_le (tgt := 137) (q := 130) dX2_hit_127 rfl rfl (fun hc => ?_) (fun hc => ?_)
  · refine am_aload (q := 139) dX2_hit_137 rfl rfl ?_
    refine cm_getI (q := 142) dX2_hit_139 flX2_163 rfl (by assumption) rfl ?_
    rw [k2]
    exact s1 _ (if_neg (Int32.not_lt.mpr hc)).symm
  · refine am_aload_n (q := 131) dX2_hit_130 rfl rfl ?_
    refine cm_getI (q := 134) dX2_hit_131 flX2_87 rfl (by assumption) rfl ?_
    refine am_goto (tgt := 142) dX2_hit_134 rfl ?_
    rw [k1]
    exact s1 _ (if_pos (Int32.not_le.mp hc)).symm
theorem k_X2_hit {f r : Nat} (hG : okG G) (hct : CT S R c) (hB : AbB I c B) (hm : AbM I c B m) (hf : f < B.nF) (hr0 : r < B.nR) : Fn G mX2_hit 4 [vR c, vI (nI f), vI (nI r)] (mw S I J R) (fun rr M1 => rr = none ∧ ∃ I1, M1 = mw S I1 J R ∧ AbB I1 c B ∧ AbM I1 c B (hitM B m f r) ∧ OffC c I I1) := by
  have hct2 := hct
  obtain ⟨kc, rc0, rc1, rc2, rc3, rc4, rc5, rc6, rc7, ⟨kd, rd0, rd1, rd2, kd2, ld2, kd3, ld3, kd4, ld4⟩, ⟨kb, rb, kb6, lb6⟩, ⟨kf, rf, kf8, lf8⟩, ⟨kr, lr, hr⟩, ⟨kfi, lfi, hfi⟩, ⟨kp, lp, hpz⟩, ⟨kt, lt, htu⟩, kw, lw⟩ := id hct2
  obtain ⟨⟨u1, u2⟩, ⟨u3, u4⟩, _⟩ := id hB
  obtain ⟨f1, f2⟩ := hfi f (by omega)
  obtain ⟨r1, r2, r3, r4, r5⟩ := hr r (by omega)
  have hinF : vp_in (nI f) (S.ln (c + 10)) := by rw [lfi]; exact vp_in_nI (by omega) (by decide)
  have hRF : R (c + 10) (nI f).toNatClampNeg = some (c + 22 + f) := by rw [nI_clamp (by omega)]; exact f1
  have hinR : vp_in (nI r) (S.ln (c + 9)) := by rw [lr]; exact vp_in_nI (by omega) (by decide)
  have hRR : R (c + 9) (nI r).toNatClampNeg = some (c + 14 + 2 * r) := by rw [nI_clamp (by omega)]; exact r1
  refine am_aload_n (q := 1) dX2_hit_0 rfl rfl ?_
  refine am_iload_n (q := 2) dX2_hit_1 rfl rfl ?_
  refine cm_call0 (q := 5) (As := [_]) hG dX2_hit_2 mlX2_167 rfl (by assumption) ⟨_, _, rfl⟩ (Nat.le_of_ble_eq_true rfl) (Nat.le_of_ble_eq_true rfl) (Nat.le_of_ble_eq_true rfl) (Nat.le_of_ble_eq_true rfl) (k_X2_hasFist hct u3 u4) rfl ?_
  rintro _ _ ⟨rfl, rfl⟩
  refine am_if_eq (tgt := 16) (q := 8) dX2_hit_5 rfl rfl (fun hz => absurd hz (bI_n0.mpr (k_inr hf (by omega)))) (fun _ => ?_)
  refine am_aload_n (q := 9) dX2_hit_8 rfl rfl ?_
  refine am_iload_n (q := 10) dX2_hit_9 rfl rfl ?_
  refine cm_call0 (q := 13) (As := [_]) hG dX2_hit_10 mlX2_135 rfl (by assumption) ⟨_, _, rfl⟩ (Nat.le_of_ble_eq_true rfl) (Nat.le_of_ble_eq_true rfl) (Nat.le_of_ble_eq_true rfl) (Nat.le_of_ble_eq_true rfl) (k_X2_hasRail hct u1 u2) rfl ?_
  rintro _ _ ⟨rfl, rfl⟩
  refine am_if_ne (tgt := 17) (q := 16) dX2_hit_13 rfl rfl (fun _ => ?_) (fun hz => absurd hz (bI_n0.mpr (k_inr hr0 (by omega))))
  refine am_aload_n (q := 18) dX2_hit_17 rfl rfl ?_
  refine cm_getR (q := 21) dX2_hit_18 flX2_40 rfl (by assumption) (by assumption) rfl ?_
  refine am_iload_n (q := 22) dX2_hit_21 rfl rfl ?_
  refine cm_aaloadK (q := 23) dX2_hit_22 (by assumption) (by decide) hinF hRF rfl ?_
  refine am_astore_n (q := 24) (ls1 := [_, _, _, _, _, _]) dX2_hit_23 (Nat.le_of_ble_eq_true rfl) rfl rfl ?_
  refine am_aload_n (q := 25) dX2_hit_24 rfl rfl ?_
  refine cm_getR (q := 28) dX2_hit_25 flX2_34 rfl (by assumption) (by assumption) rfl ?_
  refine am_iload_n (q := 29) dX2_hit_28 rfl rfl ?_
  refine cm_aaloadK (q := 30) dX2_hit_29 (by assumption) (by decide) hinR hRR rfl ?_
  refine am_astore (q := 32) (ls1 := [_, _, _, _, _, _]) dX2_hit_30 (Nat.le_of_ble_eq_true rfl) rfl rfl ?_
  refine am_aload_n (q := 33) dX2_hit_32 rfl rfl ?_
  refine cm_getR (q := 36) dX2_hit_33 flX2_28 rfl (by assumption) (by assumption) rfl ?_
  refine am_aload (q := 38) dX2_hit_36 rfl rfl ?_
  refine am_aload_n (q := 39) dX2_hit_38 rfl rfl ?_
  refine am_aload_n (q := 40) dX2_hit_39 rfl rfl ?_
  refine cm_getI (q := 43) dX2_hit_40 flX2_170 rfl (by assumption) rfl ?_
  rw [show I (c + 22 + f) 1 = m.fist f 0 from hm.1 f hf 0 (by decide)]
  refine cm_call0 (q := 46) (As := [_]) hG dX2_hit_43 mlX2_234 rfl (by assumption) ⟨_, _, rfl⟩ (Nat.le_of_ble_eq_true rfl) (Nat.le_of_ble_eq_true rfl) (Nat.le_of_ble_eq_true rfl) (Nat.le_of_ble_eq_true rfl) (k_fcM hct hB hm hf) rfl ?_
  rintro _ _ ⟨rfl, rfl⟩
  refine cm_call0 (q := 49) (As := [_, _]) hG dX2_hit_46 mlX2_237 rfl (by assumption) ⟨_, _, rfl⟩ (Nat.le_of_ble_eq_true rfl) (Nat.le_of_ble_eq_true rfl) (Nat.le_of_ble_eq_true rfl) (Nat.le_of_ble_eq_true rfl) (k_flyM hG hct hB hm hr0) rfl ?_
  rintro _ _ ⟨rfl, I1, rfl, hq, hfl⟩
  have hB1 := hB.qt hq
  have hm1 := AbM.qt hB hm hq
  have hO1 := hq.off
  obtain ⟨_, _, l1, l2, _⟩ := hfl
  have hst := stkM_e l1 l2
  have n1 : c + 5 ≠ c + 6 := by omega
  refine am_aload_n (q := 50) dX2_hit_49 rfl rfl ?_
  refine am_aload_n (q := 51) dX2_hit_50 rfl rfl ?_
  refine cm_getR (q := 54) dX2_hit_51 flX2_28 rfl (by assumption) (by assumption) rfl ?_
  refine cm_getI (q := 57) dX2_hit_54 flX2_241 rfl (by assumption) rfl ?_
  refine cm_putI (q := 60) dX2_hit_57 flX2_87 rfl (Or.inl rfl) (Or.inl rfl) (by assumption) rfl ?_
  refine am_aload_n (q := 61) dX2_hit_60 rfl rfl ?_
  refine am_aload_n (q := 62) dX2_hit_61 rfl rfl ?_
  refine cm_getR (q := 65) dX2_hit_62 flX2_28 rfl (by assumption) (by assumption) rfl ?_
  refine cm_getI (q := 68) dX2_hit_65 flX2_242 rfl (by assumption) rfl ?_
  -- the height
  rw [up2_a (by omega)]
  generalize I1 (c + 7) 1 = h at hst ⊢
  generalize I1 (c + 7) 2 = b at hst ⊢
  have hB2 := hB1.upG (j := 14) (v := h) (by decide)
  have hm2 := AbM.setG (j := 1) (v := h) hB1 hm1 (by decide)
  have hO2 := hO1.up (a := c) (j := 14) (v := h) (by omega)
  generalize up2 I1 c 14 h = I2 at hB2 hm2 hO2 ⊢
  refine cm_putI (q := 71) dX2_hit_68 flX2_90 rfl (Or.inl rfl) (Or.inl rfl) (by assumption) rfl ?_
  refine am_aload_n (q := 72) dX2_hit_71 rfl rfl ?_
  refine am_dup (q := 73) dX2_hit_72 rfl rfl ?_
  refine cm_getI (q := 76) dX2_hit_73 flX2_93 rfl (by assumption) rfl ?_
  have hB3 := hB2.upG (j := 15) (v := b) (by decide)
  have hm3 := AbM.setG (j := 2) (v := b) hB2 hm2 (by decide)
  have hO3 := hO2.up (a := c) (j := 15) (v := b) (by omega)
  generalize up2 I2 c 15 b = I3 at hB3 hm3 hO3 ⊢
  rw [show I3 c 16 = m.g 3 from hm3.2.2.2.1 3 (by decide)]
  refine am_iconst (q := 77) (v := 1) dX2_hit_76 kc_i1 rfl ?_
  refine am_iadd (q := 78) dX2_hit_77 rfl ?_
  refine cm_putI (q := 81) dX2_hit_78 flX2_93 rfl (Or.inl rfl) (Or.inl rfl) (by assumption) rfl ?_
  refine am_aload_n (q := 82) dX2_hit_81 rfl rfl ?_
  refine am_dup (q := 83) dX2_hit_82 rfl rfl ?_
  refine cm_getI (q := 86) dX2_hit_83 flX2_96 rfl (by assumption) rfl ?_
  refine am_aload_n (q := 87) dX2_hit_86 rfl rfl ?_
  refine cm_getI (q := 90) dX2_hit_87 flX2_90 rfl (by assumption) rfl ?_
  have hB4 := hB3.upG (j := 16) (v := m.g 3 + 1) (by decide)
  have hm4 := AbM.setG (j := 3) (v := m.g 3 + 1) hB3 hm3 (by decide)
  have hO4 := hO3.up (a := c) (j := 16) (v := m.g 3 + 1) (by omega)
  generalize up2 I3 c 16 (m.g 3 + 1) = I4 at hB4 hm4 hO4 ⊢
  rw [show I4 c 17 = m.g 4 from hm4.2.2.2.1 4 (by decide), show I4 c 15 = b from hm4.2.2.2.1 2 (by decide)]
  refine am_iadd (q := 91) dX2_hit_90 rfl ?_
  refine cm_putI (q := 94) dX2_hit_91 flX2_96 rfl (Or.inl rfl) (Or.inl rfl) (by assumption) rfl ?_
  refine am_aload_n (q := 95) dX2_hit_94 rfl rfl ?_
  refine cm_getR (q := 98) dX2_hit_95 flX2_21 rfl (by assumption) (by assumption) rfl ?_
  refine am_aload_n (q := 99) dX2_hit_98 rfl rfl ?_
  refine cm_getI (q := 102) dX2_hit_99 flX2_87 rfl (by assumption) rfl ?_
  have hB5 := hB4.upG (j := 17) (v := m.g 4 + b) (by decide)
  have hm5 := AbM.setG (j := 4) (v := m.g 4 + b) hB4 hm4 (by decide)
  have hO5 := hO4.up (a := c) (j := 17) (v := m.g 4 + b) (by omega)
  generalize up2 I4 c 17 (m.g 4 + b) = I5 at hB5 hm5 hO5 ⊢
  rw [show I5 c 14 = h from hm5.2.2.2.1 1 (by decide)]
  refine cm_call0 (q := 105) (As := [_]) hG dX2_hit_102 mlX2_243 rfl (by assumption) ⟨_, _, rfl⟩ (Nat.le_of_ble_eq_true rfl) (Nat.le_of_ble_eq_true rfl) (Nat.le_of_ble_eq_true rfl) (Nat.le_of_ble_eq_true rfl) (k_X0_add kb rb kb6 lb6 n1) rfl ?_
  rintro _ _ ⟨rfl, rfl⟩
  refine k_nm (P := fun I6 => MW G mX2_hit 4 105 _ _ (mw S I6 J R) _) _ ?_
  intro I6 hI6
  have hm6 := AbM.setB hB5 hm5 hI6
  have hB6 : AbB I6 c B := hB5.cg fun x j q => by
    rw [hI6, if_neg, if_neg, if_neg]
    · rintro ⟨rfl, rfl⟩
      rcases q with q | q | q | q | ⟨k, hk, q⟩ | q | q <;> omega
    · rintro ⟨rfl, _⟩
      rcases q with q | q | q | q | ⟨k, hk, q⟩ | q | q <;> omega
    · rintro ⟨rfl, rfl⟩
      rcases q with q | q | q | q | ⟨k, hk, q⟩ | q | q <;> omega
  have hO6 : OffC c I I6 := fun x j q => by
    rw [hI6, if_neg (by omega), if_neg (by omega), if_neg (by omega)]
    exact hO5 x j q
  refine k_hit1 hG hct hB6 hm6 hf hr0 (h := h) (b := b) rfl rfl ?_
  intro I7 q1 q2 q3
  refine ⟨_, rfl, rfl, I7, rfl, q1, ?_, hO6.tr q3⟩
  unfold hitM
  rw [hst]
  exact q2
end Hit

