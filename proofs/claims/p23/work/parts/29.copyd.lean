theorem dX2_copyFrom_0 : decode cX2_copyFrom 0 = .ok (.aload_n 0, 1) := by decide +kernel
theorem dX2_copyFrom_1 : decode cX2_copyFrom 1 = .ok (.getfield 12, 3) := by decide +kernel
theorem dX2_copyFrom_4 : decode cX2_copyFrom 4 = .ok (.aload_n 1, 1) := by decide +kernel
theorem dX2_copyFrom_5 : decode cX2_copyFrom 5 = .ok (.getfield 12, 3) := by decide +kernel
theorem dX2_copyFrom_8 : decode cX2_copyFrom 8 = .ok (.invokevirtual 102, 3) := by decide +kernel
theorem dX2_copyFrom_11 : decode cX2_copyFrom 11 = .ok (.aload_n 0, 1) := by decide +kernel
theorem dX2_copyFrom_12 : decode cX2_copyFrom 12 = .ok (.getfield 21, 3) := by decide +kernel
theorem dX2_copyFrom_15 : decode cX2_copyFrom 15 = .ok (.aload_n 1, 1) := by decide +kernel
theorem dX2_copyFrom_16 : decode cX2_copyFrom 16 = .ok (.getfield 21, 3) := by decide +kernel
theorem dX2_copyFrom_19 : decode cX2_copyFrom 19 = .ok (.invokevirtual 106, 3) := by decide +kernel
theorem dX2_copyFrom_22 : decode cX2_copyFrom 22 = .ok (.iconst 0, 1) := by decide +kernel
theorem dX2_copyFrom_23 : decode cX2_copyFrom 23 = .ok (.istore_n 2, 1) := by decide +kernel
theorem dX2_copyFrom_63 : decode cX2_copyFrom 63 = .ok (.iconst 0, 1) := by decide +kernel
theorem dX2_copyFrom_64 : decode cX2_copyFrom 64 = .ok (.istore_n 2, 1) := by decide +kernel
theorem dX2_copyFrom_104 : decode cX2_copyFrom 104 = .ok (.iconst 0, 1) := by decide +kernel
theorem dX2_copyFrom_105 : decode cX2_copyFrom 105 = .ok (.istore_n 2, 1) := by decide +kernel
theorem dX2_copyFrom_145 : decode cX2_copyFrom 145 = .ok (.iconst 0, 1) := by decide +kernel
theorem dX2_copyFrom_146 : decode cX2_copyFrom 146 = .ok (.istore_n 2, 1) := by decide +kernel
theorem dX2_copyFrom_147 : decode cX2_copyFrom 147 = .ok (.iload_n 2, 1) := by decide +kernel
theorem dX2_copyFrom_148 : decode cX2_copyFrom 148 = .ok (.aload_n 0, 1) := by decide +kernel
theorem dX2_copyFrom_149 : decode cX2_copyFrom 149 = .ok (.getfield 52, 3) := by decide +kernel
theorem dX2_copyFrom_152 : decode cX2_copyFrom 152 = .ok (.arraylength, 1) := by decide +kernel
theorem dX2_copyFrom_153 : decode cX2_copyFrom 153 = .ok (.if_icmp .ge 45, 3) := by decide +kernel
theorem dX2_copyFrom_156 : decode cX2_copyFrom 156 = .ok (.iload_n 2, 1) := by decide +kernel
theorem dX2_copyFrom_157 : decode cX2_copyFrom 157 = .ok (.aload_n 1, 1) := by decide +kernel
theorem dX2_copyFrom_158 : decode cX2_copyFrom 158 = .ok (.getfield 52, 3) := by decide +kernel
theorem dX2_copyFrom_161 : decode cX2_copyFrom 161 = .ok (.arraylength, 1) := by decide +kernel
theorem dX2_copyFrom_162 : decode cX2_copyFrom 162 = .ok (.if_icmp .ge 36, 3) := by decide +kernel
theorem dX2_copyFrom_165 : decode cX2_copyFrom 165 = .ok (.aload_n 0, 1) := by decide +kernel
theorem dX2_copyFrom_166 : decode cX2_copyFrom 166 = .ok (.getfield 52, 3) := by decide +kernel
theorem dX2_copyFrom_169 : decode cX2_copyFrom 169 = .ok (.iload_n 2, 1) := by decide +kernel
theorem dX2_copyFrom_170 : decode cX2_copyFrom 170 = .ok (.aaload, 1) := by decide +kernel
theorem dX2_copyFrom_171 : decode cX2_copyFrom 171 = .ok (.aload_n 1, 1) := by decide +kernel
theorem dX2_copyFrom_172 : decode cX2_copyFrom 172 = .ok (.getfield 52, 3) := by decide +kernel
theorem dX2_copyFrom_175 : decode cX2_copyFrom 175 = .ok (.iload_n 2, 1) := by decide +kernel
theorem dX2_copyFrom_176 : decode cX2_copyFrom 176 = .ok (.aaload, 1) := by decide +kernel
theorem dX2_copyFrom_177 : decode cX2_copyFrom 177 = .ok (.invokevirtual 118, 3) := by decide +kernel
theorem dX2_copyFrom_180 : decode cX2_copyFrom 180 = .ok (.aload_n 0, 1) := by decide +kernel
theorem dX2_copyFrom_181 : decode cX2_copyFrom 181 = .ok (.getfield 56, 3) := by decide +kernel
theorem dX2_copyFrom_184 : decode cX2_copyFrom 184 = .ok (.iload_n 2, 1) := by decide +kernel
theorem dX2_copyFrom_185 : decode cX2_copyFrom 185 = .ok (.aload_n 1, 1) := by decide +kernel
theorem dX2_copyFrom_186 : decode cX2_copyFrom 186 = .ok (.getfield 56, 3) := by decide +kernel
theorem dX2_copyFrom_189 : decode cX2_copyFrom 189 = .ok (.iload_n 2, 1) := by decide +kernel
theorem dX2_copyFrom_190 : decode cX2_copyFrom 190 = .ok (.iaload, 1) := by decide +kernel
theorem dX2_copyFrom_191 : decode cX2_copyFrom 191 = .ok (.iastore, 1) := by decide +kernel
theorem dX2_copyFrom_192 : decode cX2_copyFrom 192 = .ok (.iinc 2 1, 3) := by decide +kernel
theorem dX2_copyFrom_195 : decode cX2_copyFrom 195 = .ok (.goto (-48), 3) := by decide +kernel
theorem dX2_copyFrom_198 : decode cX2_copyFrom 198 = .ok (.aload_n 0, 1) := by decide +kernel
theorem dX2_copyFrom_199 : decode cX2_copyFrom 199 = .ok (.aload_n 1, 1) := by decide +kernel
theorem dX2_copyFrom_200 : decode cX2_copyFrom 200 = .ok (.invokevirtual 121, 3) := by decide +kernel
theorem dX2_copyFrom_203 : decode cX2_copyFrom 203 = .ok (.return_, 1) := by decide +kernel
theorem dX2_copyNumbers_0 : decode cX2_copyNumbers 0 = .ok (.aload_n 0, 1) := by decide +kernel
theorem dX2_copyNumbers_1 : decode cX2_copyNumbers 1 = .ok (.aload_n 1, 1) := by decide +kernel
theorem dX2_copyNumbers_2 : decode cX2_copyNumbers 2 = .ok (.getfield 69, 3) := by decide +kernel
theorem dX2_copyNumbers_5 : decode cX2_copyNumbers 5 = .ok (.putfield 69, 3) := by decide +kernel
theorem dX2_copyNumbers_8 : decode cX2_copyNumbers 8 = .ok (.aload_n 0, 1) := by decide +kernel
theorem dX2_copyNumbers_9 : decode cX2_copyNumbers 9 = .ok (.aload_n 1, 1) := by decide +kernel
theorem dX2_copyNumbers_10 : decode cX2_copyNumbers 10 = .ok (.getfield 72, 3) := by decide +kernel
theorem dX2_copyNumbers_13 : decode cX2_copyNumbers 13 = .ok (.putfield 72, 3) := by decide +kernel
theorem dX2_copyNumbers_16 : decode cX2_copyNumbers 16 = .ok (.aload_n 0, 1) := by decide +kernel
theorem dX2_copyNumbers_17 : decode cX2_copyNumbers 17 = .ok (.aload_n 1, 1) := by decide +kernel
theorem dX2_copyNumbers_18 : decode cX2_copyNumbers 18 = .ok (.getfield 75, 3) := by decide +kernel
theorem dX2_copyNumbers_21 : decode cX2_copyNumbers 21 = .ok (.putfield 75, 3) := by decide +kernel
theorem dX2_copyNumbers_24 : decode cX2_copyNumbers 24 = .ok (.aload_n 0, 1) := by decide +kernel
theorem dX2_copyNumbers_25 : decode cX2_copyNumbers 25 = .ok (.aload_n 1, 1) := by decide +kernel
theorem dX2_copyNumbers_26 : decode cX2_copyNumbers 26 = .ok (.getfield 78, 3) := by decide +kernel
theorem dX2_copyNumbers_29 : decode cX2_copyNumbers 29 = .ok (.putfield 78, 3) := by decide +kernel
theorem dX2_copyNumbers_32 : decode cX2_copyNumbers 32 = .ok (.aload_n 0, 1) := by decide +kernel
theorem dX2_copyNumbers_33 : decode cX2_copyNumbers 33 = .ok (.aload_n 1, 1) := by decide +kernel
theorem dX2_copyNumbers_34 : decode cX2_copyNumbers 34 = .ok (.getfield 81, 3) := by decide +kernel
theorem dX2_copyNumbers_37 : decode cX2_copyNumbers 37 = .ok (.putfield 81, 3) := by decide +kernel
theorem dX2_copyNumbers_40 : decode cX2_copyNumbers 40 = .ok (.aload_n 0, 1) := by decide +kernel
theorem dX2_copyNumbers_41 : decode cX2_copyNumbers 41 = .ok (.aload_n 1, 1) := by decide +kernel
theorem dX2_copyNumbers_42 : decode cX2_copyNumbers 42 = .ok (.getfield 84, 3) := by decide +kernel
theorem dX2_copyNumbers_45 : decode cX2_copyNumbers 45 = .ok (.putfield 84, 3) := by decide +kernel
theorem dX2_copyNumbers_48 : decode cX2_copyNumbers 48 = .ok (.aload_n 0, 1) := by decide +kernel
theorem dX2_copyNumbers_49 : decode cX2_copyNumbers 49 = .ok (.aload_n 1, 1) := by decide +kernel
theorem dX2_copyNumbers_50 : decode cX2_copyNumbers 50 = .ok (.getfield 87, 3) := by decide +kernel
theorem dX2_copyNumbers_53 : decode cX2_copyNumbers 53 = .ok (.putfield 87, 3) := by decide +kernel
theorem dX2_copyNumbers_56 : decode cX2_copyNumbers 56 = .ok (.aload_n 0, 1) := by decide +kernel
theorem dX2_copyNumbers_57 : decode cX2_copyNumbers 57 = .ok (.aload_n 1, 1) := by decide +kernel
theorem dX2_copyNumbers_58 : decode cX2_copyNumbers 58 = .ok (.getfield 90, 3) := by decide +kernel
theorem dX2_copyNumbers_61 : decode cX2_copyNumbers 61 = .ok (.putfield 90, 3) := by decide +kernel
theorem dX2_copyNumbers_64 : decode cX2_copyNumbers 64 = .ok (.aload_n 0, 1) := by decide +kernel
theorem dX2_copyNumbers_65 : decode cX2_copyNumbers 65 = .ok (.aload_n 1, 1) := by decide +kernel
theorem dX2_copyNumbers_66 : decode cX2_copyNumbers 66 = .ok (.getfield 93, 3) := by decide +kernel
theorem dX2_copyNumbers_69 : decode cX2_copyNumbers 69 = .ok (.putfield 93, 3) := by decide +kernel
theorem dX2_copyNumbers_72 : decode cX2_copyNumbers 72 = .ok (.aload_n 0, 1) := by decide +kernel
theorem dX2_copyNumbers_73 : decode cX2_copyNumbers 73 = .ok (.aload_n 1, 1) := by decide +kernel
theorem dX2_copyNumbers_74 : decode cX2_copyNumbers 74 = .ok (.getfield 96, 3) := by decide +kernel
theorem dX2_copyNumbers_77 : decode cX2_copyNumbers 77 = .ok (.putfield 96, 3) := by decide +kernel
theorem dX2_copyNumbers_80 : decode cX2_copyNumbers 80 = .ok (.aload_n 0, 1) := by decide +kernel
theorem dX2_copyNumbers_81 : decode cX2_copyNumbers 81 = .ok (.aload_n 1, 1) := by decide +kernel
theorem dX2_copyNumbers_82 : decode cX2_copyNumbers 82 = .ok (.getfield 99, 3) := by decide +kernel
theorem dX2_copyNumbers_85 : decode cX2_copyNumbers 85 = .ok (.putfield 99, 3) := by decide +kernel
theorem dX2_copyNumbers_88 : decode cX2_copyNumbers 88 = .ok (.return_, 1) := by decide +kernel
/-! numbers, turns, a whole contest is copied -/
section CopyD
variable {G : Gp} {S : AMem} {I : Nat → Nat → Int32} {J : Nat → Nat → Int64} {R : Nat → Nat → Option Nat} {c c2 : Nat} {B : BS} {m : MS} {Q : (Option AV ⊕ Nat) → AMem → Prop}
theorem k_X2_copyNumbers (h1 : S.K c = 3) (h2 : S.K c2 = 3) (hne : c2 ≠ c) : Fn G mX2_copyNumbers 0 [vR c, vR c2] (mw S I J R) (fun rr M1 => rr = none ∧ M1 = mw S (fun x j => if x = c ∧ 8 ≤ j ∧ j ≤ 18 then I c2 j else I x j) J R) := by
  refine am_aload_n (q := 1) dX2_copyNumbers_0 rfl rfl ?_
  refine am_aload_n (q := 2) dX2_copyNumbers_1 rfl rfl ?_
  refine cm_getI (q := 5) dX2_copyNumbers_2 flX2_69 rfl (by assumption) rfl ?_
  refine cm_putI (q := 8) dX2_copyNumbers_5 flX2_69 rfl (Or.inl rfl) (Or.inl rfl) (by assumption) rfl ?_
  refine am_aload_n (q := 9) dX2_copyNumbers_8 rfl rfl ?_
  refine am_aload_n (q := 10) dX2_copyNumbers_9 rfl rfl ?_
  refine cm_getI (q := 13) dX2_copyNumbers_10 flX2_72 rfl (by assumption) rfl ?_
  rw [up2_a hne]
  refine cm_putI (q := 16) dX2_copyNumbers_13 flX2_72 rfl (Or.inl rfl) (Or.inl rfl) (by assumption) rfl ?_
  refine am_aload_n (q := 17) dX2_copyNumbers_16 rfl rfl ?_
  refine am_aload_n (q := 18) dX2_copyNumbers_17 rfl rfl ?_
  refine cm_getI (q := 21) dX2_copyNumbers_18 flX2_75 rfl (by assumption) rfl ?_
  rw [up2_a hne, up2_a hne]
  refine cm_putI (q := 24) dX2_copyNumbers_21 flX2_75 rfl (Or.inl rfl) (Or.inl rfl) (by assumption) rfl ?_
  refine am_aload_n (q := 25) dX2_copyNumbers_24 rfl rfl ?_
  refine am_aload_n (q := 26) dX2_copyNumbers_25 rfl rfl ?_
  refine cm_getI (q := 29) dX2_copyNumbers_26 flX2_78 rfl (by assumption) rfl ?_
  rw [up2_a hne, up2_a hne, up2_a hne]
  refine cm_putI (q := 32) dX2_copyNumbers_29 flX2_78 rfl (Or.inl rfl) (Or.inl rfl) (by assumption) rfl ?_
  refine am_aload_n (q := 33) dX2_copyNumbers_32 rfl rfl ?_
  refine am_aload_n (q := 34) dX2_copyNumbers_33 rfl rfl ?_
  refine cm_getI (q := 37) dX2_copyNumbers_34 flX2_81 rfl (by assumption) rfl ?_
  rw [up2_a hne, up2_a hne, up2_a hne, up2_a hne]
  refine cm_putI (q := 40) dX2_copyNumbers_37 flX2_81 rfl (Or.inl rfl) (Or.inl rfl) (by assumption) rfl ?_
  refine am_aload_n (q := 41) dX2_copyNumbers_40 rfl rfl ?_
  refine am_aload_n (q := 42) dX2_copyNumbers_41 rfl rfl ?_
  refine cm_getI (q := 45) dX2_copyNumbers_42 flX2_84 rfl (by assumption) rfl ?_
  rw [up2_a hne, up2_a hne, up2_a hne, up2_a hne, up2_a hne]
  refine cm_putI (q := 48) dX2_copyNumbers_45 flX2_84 rfl (Or.inl rfl) (Or.inl rfl) (by assumption) rfl ?_
  refine am_aload_n (q := 49) dX2_copyNumbers_48 rfl rfl ?_
  refine am_aload_n (q := 50) dX2_copyNumbers_49 rfl rfl ?_
  refine cm_getI (q := 53) dX2_copyNumbers_50 flX2_87 rfl (by assumption) rfl ?_
  rw [up2_a hne, up2_a hne, up2_a hne, up2_a hne, up2_a hne, up2_a hne]
  refine cm_putI (q := 56) dX2_copyNumbers_53 flX2_87 rfl (Or.inl rfl) (Or.inl rfl) (by assumption) rfl ?_
  refine am_aload_n (q := 57) dX2_copyNumbers_56 rfl rfl ?_
  refine am_aload_n (q := 58) dX2_copyNumbers_57 rfl rfl ?_
  refine cm_getI (q := 61) dX2_copyNumbers_58 flX2_90 rfl (by assumption) rfl ?_
  rw [up2_a hne, up2_a hne, up2_a hne, up2_a hne, up2_a hne, up2_a hne, up2_a hne]
  refine cm_putI (q := 64) dX2_copyNumbers_61 flX2_90 rfl (Or.inl rfl) (Or.inl rfl) (by assumption) rfl ?_
  refine am_aload_n (q := 65) dX2_copyNumbers_64 rfl rfl ?_
  refine am_aload_n (q := 66) dX2_copyNumbers_65 rfl rfl ?_
  refine cm_getI (q := 69) dX2_copyNumbers_66 flX2_93 rfl (by assumption) rfl ?_
  rw [up2_a hne, up2_a hne, up2_a hne, up2_a hne, up2_a hne, up2_a hne, up2_a hne, up2_a hne]
  refine cm_putI (q := 72) dX2_copyNumbers_69 flX2_93 rfl (Or.inl rfl) (Or.inl rfl) (by assumption) rfl ?_
  refine am_aload_n (q := 73) dX2_copyNumbers_72 rfl rfl ?_
  refine am_aload_n (q := 74) dX2_copyNumbers_73 rfl rfl ?_
  refine cm_getI (q := 77) dX2_copyNumbers_74 flX2_96 rfl (by assumption) rfl ?_
  rw [up2_a hne, up2_a hne, up2_a hne, up2_a hne, up2_a hne, up2_a hne, up2_a hne, up2_a hne, up2_a hne]
  refine cm_putI (q := 80) dX2_copyNumbers_77 flX2_96 rfl (Or.inl rfl) (Or.inl rfl) (by assumption) rfl ?_
  refine am_aload_n (q := 81) dX2_copyNumbers_80 rfl rfl ?_
  refine am_aload_n (q := 82) dX2_copyNumbers_81 rfl rfl ?_
  refine cm_getI (q := 85) dX2_copyNumbers_82 flX2_99 rfl (by assumption) rfl ?_
  rw [up2_a hne, up2_a hne, up2_a hne, up2_a hne, up2_a hne, up2_a hne, up2_a hne, up2_a hne, up2_a hne, up2_a hne]
  refine cm_putI (q := 88) dX2_copyNumbers_85 flX2_99 rfl (Or.inl rfl) (Or.inl rfl) (by assumption) rfl ?_
  exact am_ret dX2_copyNumbers_88 rfl ⟨_, rfl, rfl, by
    congr 1
    funext x j
    by_cases e : x = c ∧ 8 ≤ j ∧ j ≤ 18
    · rw [if_pos e]
      obtain ⟨rfl, e1, e2⟩ := e
      have e3 : j = 8 ∨ j = 9 ∨ j = 10 ∨ j = 11 ∨ j = 12 ∨ j = 13 ∨ j = 14 ∨ j = 15 ∨ j = 16 ∨ j = 17 ∨ j = 18 := by omega
      simp only [up2_at]
      rcases e3 with rfl | rfl | rfl | rfl | rfl | rfl | rfl | rfl | rfl | rfl | rfl <;> simp
    · rw [if_neg e]
      simp only [up2_at]
      grind (splits := 30)⟩
theorem k_cpTurn (hG : okG G) (hct : CT S R c) (hct2 : CT S R c2) (hd : c + 58 ≤ c2 ∨ c2 + 58 ≤ c)
    (hQ : ∀ I1, (∀ x j, (x < c + 38 ∨ c + 58 ≤ x) → x ≠ c + 13 → I1 x j = I x j) → (∀ k, k < 20 → (∀ j, j ≤ 3 → I1 (c + 38 + k) j = I (c2 + 38 + k) j) ∧ I1 (c + 13) k = I (c2 + 13) k) → MW G mX2_copyFrom 3 198 [some (vR c), some (vR c2), some (vI (nI 20))] [] (mw S I1 J R) Q) : MW G mX2_copyFrom 3 147 [some (vR c), some (vR c2), some (vI (0))] [] (mw S I J R) Q := by
  obtain ⟨kc, rc0, rc1, rc2, rc3, rc4, rc5, rc6, rc7, _, _, _, ⟨kr, lr, hr⟩, ⟨kfi, lfi, hfi⟩, ⟨kp, lp, hpz⟩, ⟨kt, lt, htu⟩, kw, lw⟩ := hct
  obtain ⟨zc, zc0, zc1, zc2, zc3, zc4, zc5, zc6, zc7, _, _, _, ⟨zr, zlr, zhr⟩, ⟨zfi, zlfi, zhfi⟩, ⟨zp, zlp, zhpz⟩, ⟨zt, zlt, zhtu⟩, zw, zlw⟩ := hct2
  refine k_loop (σ := Nat → Nat → Int32) (n := 20) (Inv := fun i I1 => (∀ x j, (x < c + 38 ∨ c + 58 ≤ x) → x ≠ c + 13 → I1 x j = I x j) ∧ (∀ k, k < i → (∀ j, j ≤ 3 → I1 (c + 38 + k) j = I (c2 + 38 + k) j) ∧ I1 (c + 13) k = I (c2 + 13) k)) (W := fun i I1 => MW G mX2_copyFrom 3 147 [some (vR c), some (vR c2), some (vI (nI i))] [] (mw S I1 J R) _) ?_ ?_ 0 I (Nat.zero_le _) ⟨fun _ _ _ _ => rfl, fun k hk => absurd hk (Nat.not_lt_zero _)⟩
  · rintro i I1 hi ⟨hI, hk⟩ ih
    obtain ⟨r1, r2⟩ := htu i hi
    obtain ⟨z1, z2⟩ := zhtu i hi
    have hcl : (nI i).toNatClampNeg = i := nI_clamp (by omega)
    have hin : vp_in (nI i) (S.ln (c + 12)) := by rw [lt]; exact vp_in_nI (by omega) (by decide)
    have hin2 : vp_in (nI i) (S.ln (c2 + 12)) := by rw [zlt]; exact vp_in_nI (by omega) (by decide)
    have hin3 : vp_in (nI i) (S.ln (c + 13)) := by rw [lw]; exact vp_in_nI (by omega) (by decide)
    have hin4 : vp_in (nI i) (S.ln (c2 + 13)) := by rw [zlw]; exact vp_in_nI (by omega) (by decide)
    have hR : R (c + 12) (nI i).toNatClampNeg = some (c + 38 + i) := by rw [hcl]; exact r1
    have hR2 : R (c2 + 12) (nI i).toNatClampNeg = some (c2 + 38 + i) := by rw [hcl]; exact z1
    refine am_iload_n (q := 148) dX2_copyFrom_147 rfl rfl ?_
    refine am_aload_n (q := 149) dX2_copyFrom_148 rfl rfl ?_
    refine cm_getR (q := 152) dX2_copyFrom_149 flX2_52 rfl (by assumption) (by assumption) rfl ?_
    refine cm_alenK (q := 153) dX2_copyFrom_152 (by assumption) (by decide) (by rw [lt] : nI (S.ln (c + 12)) = nI 20) rfl ?_
    refine am_icmp_ge (tgt := 198) (q := 156) dX2_copyFrom_153 rfl rfl (fun hz => absurd hz (nI_ge (by omega) (by decide))) (fun _ => ?_)
    refine am_iload_n (q := 157) dX2_copyFrom_156 rfl rfl ?_
    refine am_aload_n (q := 158) dX2_copyFrom_157 rfl rfl ?_
    refine cm_getR (q := 161) dX2_copyFrom_158 flX2_52 rfl (by assumption) (by assumption) rfl ?_
    refine cm_alenK (q := 162) dX2_copyFrom_161 (by assumption) (by decide) (by rw [zlt] : nI (S.ln (c2 + 12)) = nI 20) rfl ?_
    refine am_icmp_ge (tgt := 198) (q := 165) dX2_copyFrom_162 rfl rfl (fun hz => absurd hz (nI_ge (by omega) (by decide))) (fun _ => ?_)
    refine am_aload_n (q := 166) dX2_copyFrom_165 rfl rfl ?_
    refine cm_getR (q := 169) dX2_copyFrom_166 flX2_52 rfl (by assumption) (by assumption) rfl ?_
    refine am_iload_n (q := 170) dX2_copyFrom_169 rfl rfl ?_
    refine cm_aaloadK (q := 171) dX2_copyFrom_170 (by assumption) (by decide) hin hR rfl ?_
    refine am_aload_n (q := 172) dX2_copyFrom_171 rfl rfl ?_
    refine cm_getR (q := 175) dX2_copyFrom_172 flX2_52 rfl (by assumption) (by assumption) rfl ?_
    refine am_iload_n (q := 176) dX2_copyFrom_175 rfl rfl ?_
    refine cm_aaloadK (q := 177) dX2_copyFrom_176 (by assumption) (by decide) hin2 hR2 rfl ?_
    refine cm_call0 (q := 180) (As := [_]) hG dX2_copyFrom_177 mlX2_118 rfl (by assumption) ⟨_, _, rfl⟩ (Nat.le_of_ble_eq_true rfl) (Nat.le_of_ble_eq_true rfl) (Nat.le_of_ble_eq_true rfl) (Nat.le_of_ble_eq_true rfl) (k_X10_copyFrom hG r2 z2) rfl ?_
    rintro _ _ ⟨rfl, rfl⟩
    refine k_nm (P := fun I6 => MW G mX2_copyFrom 3 180 _ _ (mw S I6 J R) _) _ ?_
    intro I6 hI6
    refine am_aload_n (q := 181) dX2_copyFrom_180 rfl rfl ?_
    refine cm_getR (q := 184) dX2_copyFrom_181 flX2_56 rfl (by assumption) (by assumption) rfl ?_
    refine am_iload_n (q := 185) dX2_copyFrom_184 rfl rfl ?_
    refine am_aload_n (q := 186) dX2_copyFrom_185 rfl rfl ?_
    refine cm_getR (q := 189) dX2_copyFrom_186 flX2_56 rfl (by assumption) (by assumption) rfl ?_
    refine am_iload_n (q := 190) dX2_copyFrom_189 rfl rfl ?_
    refine cm_iaload (q := 191) dX2_copyFrom_190 (by assumption) hin4 rfl ?_
    rw [hcl]
    refine cm_iastore (q := 192) dX2_copyFrom_191 (by assumption) hin3 rfl ?_
    refine am_iincW (q := 195) (ls1 := [_, _, _]) (w := 1) dX2_copyFrom_192 rfl (Nat.le_of_ble_eq_true rfl) kc_i1 rfl rfl ?_
    refine am_goto (tgt := 147) dX2_copyFrom_195 rfl ?_
    rw [nI_1, hcl]
    have e0 : I6 (c2 + 13) i = I (c2 + 13) i := by rw [hI6, if_neg (by omega)]; exact hI _ _ (by omega) (by omega)
    rw [e0]
    refine ih _ ⟨fun x j q q2 => ?_, fun k hk2 => ⟨fun j hj => ?_, ?_⟩⟩
    · rw [up2_a q2, hI6, if_neg (by omega)]
      exact hI x j q q2
    · rw [up2_a (by omega), hI6]
      by_cases e : k = i
      · subst e
        rw [if_pos ⟨rfl, hj⟩]
        exact hI _ _ (by omega) (by omega)
      · rw [if_neg (by omega)]
        exact (hk k (by omega)).1 j hj
    · rw [up2_at]
      by_cases e : k = i
      · rw [if_pos ⟨rfl, e⟩, e]
      · rw [if_neg (fun q => e q.2), hI6, if_neg (by omega)]
        exact (hk k (by omega)).2
  · rintro I1 ⟨hI, hk⟩
    refine am_iload_n (q := 148) dX2_copyFrom_147 rfl rfl ?_
    refine am_aload_n (q := 149) dX2_copyFrom_148 rfl rfl ?_
    refine cm_getR (q := 152) dX2_copyFrom_149 flX2_52 rfl (by assumption) (by assumption) rfl ?_
    refine cm_alenK (q := 153) dX2_copyFrom_152 (by assumption) (by decide) (by rw [lt] : nI (S.ln (c + 12)) = nI 20) rfl ?_
    refine am_icmp_ge (tgt := 198) (q := 156) dX2_copyFrom_153 rfl rfl (fun _ => ?_) (fun hz => absurd (Int32.le_refl _) hz)
    exact hQ I1 hI hk
theorem k_X2_copyFrom (hG : okG G) (hct : CT S R c) (hct2 : CT S R c2) (hd : c + 58 ≤ c2 ∨ c2 + 58 ≤ c) (hB : AbB I c2 B) (hm : AbM I c2 B m) : Fn G mX2_copyFrom 3 [vR c, vR c2] (mw S I J R) (fun rr M1 => rr = none ∧ ∃ I1 J1, M1 = mw S I1 J1 R ∧ AbB I1 c B ∧ AbM I1 c B m ∧ OffC c I I1 ∧ OffJ c J J1) := by
  obtain ⟨⟨a1, a2⟩, ⟨a3, a4⟩, ⟨a5, a6⟩, ⟨a7, a8⟩, b1, b2, z, b3, b4, b5, b6⟩ := hB
  obtain ⟨m1, m2, m3, m4, m5, m6, m7, m8, m9, m10, m11⟩ := hm
  have hct3 := hct
  have hct4 := hct2
  obtain ⟨kc, rc0, rc1, rc2, rc3, rc4, rc5, rc6, rc7, ⟨kd, rd0, rd1, rd2, kd2, ld2, kd3, ld3, kd4, ld4⟩, ⟨kb, rb, kb6, lb6⟩, _⟩ := hct3
  obtain ⟨zc, zc0, zc1, zc2, zc3, zc4, zc5, zc6, zc7, ⟨zd, zd0, zd1, zd2, zd2k, zd2l, zd3k, zd3l, zd4k, zd4l⟩, ⟨zb, zrb, zb6, zlb6⟩, _⟩ := hct4
  have n1 : c ≠ c + 1 ∧ c + 2 ≠ c + 3 := by omega
  refine am_aload_n (q := 1) dX2_copyFrom_0 rfl rfl ?_
  refine cm_getR (q := 4) dX2_copyFrom_1 flX2_12 rfl (by assumption) (by assumption) rfl ?_
  refine am_aload_n (q := 5) dX2_copyFrom_4 rfl rfl ?_
  refine cm_getR (q := 8) dX2_copyFrom_5 flX2_12 rfl (by assumption) (by assumption) rfl ?_
  refine cm_call0 (q := 11) (As := [_]) hG dX2_copyFrom_8 mlX2_102 rfl (by assumption) ⟨_, _, rfl⟩ (Nat.le_of_ble_eq_true rfl) (Nat.le_of_ble_eq_true rfl) (Nat.le_of_ble_eq_true rfl) (Nat.le_of_ble_eq_true rfl) (k_X1_copyFrom hG kd rd0 kd2 ld2 rd1 kd3 ld3 (by omega) zd zd0 zd2k zd2l zd1 zd3k zd3l (by omega) (by omega) (by omega) (by omega) (by omega) b3 b4) rfl ?_
  rintro _ _ ⟨rfl, I1, rfl, hI1⟩
  refine am_aload_n (q := 12) dX2_copyFrom_11 rfl rfl ?_
  refine cm_getR (q := 15) dX2_copyFrom_12 flX2_21 rfl (by assumption) (by assumption) rfl ?_
  refine am_aload_n (q := 16) dX2_copyFrom_15 rfl rfl ?_
  refine cm_getR (q := 19) dX2_copyFrom_16 flX2_21 rfl (by assumption) (by assumption) rfl ?_
  refine cm_call0 (q := 22) (As := [_]) hG dX2_copyFrom_19 mlX2_106 rfl (by assumption) ⟨_, _, rfl⟩ (Nat.le_of_ble_eq_true rfl) (Nat.le_of_ble_eq_true rfl) (Nat.le_of_ble_eq_true rfl) (Nat.le_of_ble_eq_true rfl) (k_X0_copyFrom hG kb rb kb6 lb6 zb zrb zb6 zlb6 (by omega) (by omega) (by omega) (by omega) (by omega)) rfl ?_
  rintro _ _ ⟨rfl, rfl⟩
  refine am_iconst (q := 23) (v := 0) dX2_copyFrom_22 kc_i0 rfl ?_
  refine am_istore_n (q := 24) (ls1 := [_, _, _]) dX2_copyFrom_23 (Nat.le_of_ble_eq_true rfl) rfl rfl ?_
  refine k_nm (P := fun I2 => MW G mX2_copyFrom 3 24 _ _ (mw S I2 J R) _) _ ?_
  intro I2 hI2
  have o1 : ∀ x j, (x < c + 1 ∨ c + 4 ≤ x) → I1 x j = I x j := fun x j q => by rw [hI1, if_neg (by omega), if_neg (by omega), if_neg (by omega)]
  have o2 : ∀ x j, (x < c + 5 ∨ c + 7 ≤ x) → I2 x j = I1 x j := fun x j q => by rw [hI2, if_neg (by omega), if_neg (by omega)]
  refine k_cpRail hG hct hct2 hd ?_
  intro I3 J3 o3 f3 j3
  refine am_iconst (q := 64) (v := 0) dX2_copyFrom_63 kc_i0 rfl ?_
  refine am_istore_n (q := 65) (ls1 := [_, _, _]) dX2_copyFrom_64 (Nat.le_of_ble_eq_true rfl) rfl rfl ?_
  have h9a : ∀ i, i < 8 → I3 (c2 + 22 + i) 9 = 0 ∨ I3 (c2 + 22 + i) 9 = 1 := fun i hi => by
    rw [o3 _ _ (by omega), o2 _ _ (by omega), o1 _ _ (by omega)]
    exact m11 i hi
  refine k_cpFist hG hct hct2 hd h9a ?_
  intro I4 J4 o4 f4 j4
  refine am_iconst (q := 105) (v := 0) dX2_copyFrom_104 kc_i0 rfl ?_
  refine am_istore_n (q := 106) (ls1 := [_, _, _]) dX2_copyFrom_105 (Nat.le_of_ble_eq_true rfl) rfl rfl ?_
  refine k_cpPrize hG hct hct2 hd ?_
  intro I5 J5 o5 f5 j5
  refine am_iconst (q := 146) (v := 0) dX2_copyFrom_145 kc_i0 rfl ?_
  refine am_istore_n (q := 147) (ls1 := [_, _, _]) dX2_copyFrom_146 (Nat.le_of_ble_eq_true rfl) rfl rfl ?_
  refine k_cpTurn hG hct hct2 hd ?_
  intro I6 o6 f6
  refine am_aload_n (q := 199) dX2_copyFrom_198 rfl rfl ?_
  refine am_aload_n (q := 200) dX2_copyFrom_199 rfl rfl ?_
  refine cm_call0 (q := 203) (As := [_]) hG dX2_copyFrom_200 mlX2_121 rfl (by assumption) ⟨_, _, rfl⟩ (Nat.le_of_ble_eq_true rfl) (Nat.le_of_ble_eq_true rfl) (Nat.le_of_ble_eq_true rfl) (Nat.le_of_ble_eq_true rfl) (k_X2_copyNumbers kc zc (by omega)) rfl ?_
  rintro _ _ ⟨rfl, rfl⟩
  refine k_nm (P := fun I7 => MW G mX2_copyFrom 3 203 _ _ (mw S I7 J5 R) _) _ ?_
  intro I7 hI7
  have o7 : ∀ x j, x ≠ c → I7 x j = I6 x j := fun x j q => by rw [hI7, if_neg (fun z => q z.1)]
  -- each of the cells
  have gn : ∀ j, 8 ≤ j → j ≤ 18 → I7 c j = I c2 j := fun j q1 q2 => by
    rw [hI7, if_pos ⟨rfl, q1, q2⟩, o6 _ _ (by omega) (by omega), o5 _ _ (by omega), o4 _ _ (by omega), o3 _ _ (by omega), o2 _ _ (by omega), o1 _ _ (by omega)]
  have gk : ∀ j, j < z → I7 (c + 2) j = I (c2 + 2) j := fun j q => by
    rw [o7 _ _ (by omega), o6 _ _ (by omega) (by omega), o5 _ _ (by omega), o4 _ _ (by omega), o3 _ _ (by omega), o2 _ _ (by omega), hI1, if_pos ⟨rfl, q⟩]
  have ga : ∀ j, j < z → I7 (c + 3) j = I (c2 + 3) j := fun j q => by
    rw [o7 _ _ (by omega), o6 _ _ (by omega) (by omega), o5 _ _ (by omega), o4 _ _ (by omega), o3 _ _ (by omega), o2 _ _ (by omega), hI1, if_neg (by omega), if_pos ⟨rfl, q⟩]
  have gz : I7 (c + 1) 4 = nI z := by
    rw [o7 _ _ (by omega), o6 _ _ (by omega) (by omega), o5 _ _ (by omega), o4 _ _ (by omega), o3 _ _ (by omega), o2 _ _ (by omega), hI1, if_neg (by omega), if_neg (by omega), if_pos ⟨rfl, rfl⟩]
  have gb1 : I7 (c + 5) 1 = nI m.nb := by
    rw [o7 _ _ (by omega), o6 _ _ (by omega) (by omega), o5 _ _ (by omega), o4 _ _ (by omega), o3 _ _ (by omega), hI2, if_neg (by omega), if_pos ⟨rfl, rfl⟩, o1 _ _ (by omega)]
    exact m8
  have gb : ∀ k, k < m.nb → I7 (c + 6) k = m.bd k := fun k q => by
    rw [o7 _ _ (by omega), o6 _ _ (by omega) (by omega), o5 _ _ (by omega), o4 _ _ (by omega), o3 _ _ (by omega), hI2, if_pos ⟨rfl, by omega⟩, o1 (c2 + 5) _ (by omega), o1 (c2 + 6) _ (by omega), m8, if_pos (k_inr q (by omega)).2]
    exact m7 k q
  have gru : ∀ i, i < 4 → ∀ j, j < 100 → I7 (c + 15 + 2 * i) j = I (c2 + 15 + 2 * i) j := fun i hi j hj => by
    rw [o7 _ _ (by omega), o6 _ _ (by omega) (by omega), o5 _ _ (by omega), o4 _ _ (by omega), (f3 i hi).1 j hj, o2 _ _ (by omega), o1 _ _ (by omega)]
  have gra : ∀ i, i < 4 → ∀ j, 2 ≤ j → j ≤ 6 → I7 (c + 14 + 2 * i) j = I (c2 + 14 + 2 * i) j := fun i hi j hj hj2 => by
    rw [o7 _ _ (by omega), o6 _ _ (by omega) (by omega), o5 _ _ (by omega), o4 _ _ (by omega), (f3 i hi).2 j hj hj2, o2 _ _ (by omega), o1 _ _ (by omega)]
  have gfi : ∀ i, i < 8 → ∀ j, 1 ≤ j → j ≤ 9 → I7 (c + 22 + i) j = I (c2 + 22 + i) j := fun i hi j hj hj2 => by
    rw [o7 _ _ (by omega), o6 _ _ (by omega) (by omega), o5 _ _ (by omega), f4 i hi j hj hj2, o3 _ _ (by omega), o2 _ _ (by omega), o1 _ _ (by omega)]
  have gpr : ∀ i, i < 8 → ∀ j, 1 ≤ j → j ≤ 5 → I7 (c + 30 + i) j = I (c2 + 30 + i) j := fun i hi j hj hj2 => by
    rw [o7 _ _ (by omega), o6 _ _ (by omega) (by omega), f5 i hi j hj hj2, o4 _ _ (by omega), o3 _ _ (by omega), o2 _ _ (by omega), o1 _ _ (by omega)]
  have gtu : ∀ i, i < 20 → ∀ j, j ≤ 3 → I7 (c + 38 + i) j = I (c2 + 38 + i) j := fun i hi j hj => by
    rw [o7 _ _ (by omega), (f6 i hi).1 j hj, o5 _ _ (by omega), o4 _ _ (by omega), o3 _ _ (by omega), o2 _ _ (by omega), o1 _ _ (by omega)]
  have gw : ∀ i, i < 20 → I7 (c + 13) i = I (c2 + 13) i := fun i hi => by
    rw [o7 _ _ (by omega), (f6 i hi).2, o5 _ _ (by omega), o4 _ _ (by omega), o3 _ _ (by omega), o2 _ _ (by omega), o1 _ _ (by omega)]
  have hseg : ∀ p q s, q ≤ z → SegC I c2 p q s → SegC I7 c p q s := by
    intro p q s hq hs rd
    rw [← hs rd, evE_cg (q - p) p [] (fun j h1 h2 => ⟨gk j (by omega), ga j (by omega)⟩)]
  have hB7 : AbB I7 c B := by
    refine ⟨⟨(gn _ (by decide) (by decide)).trans a1, a2⟩, ⟨(gn _ (by decide) (by decide)).trans a3, a4⟩, ⟨(gn _ (by decide) (by decide)).trans a5, a6⟩, ⟨(gn _ (by decide) (by decide)).trans a7, a8⟩, ?_, ?_, z, gz, b4, ?_, ?_⟩
    · intro i hi p hp
      rw [gru i (by omega) p hp]
      exact b1 i hi p hp
    · intro i hi
      rw [gtu i (by omega) 0 (by decide), gtu i (by omega) 1 (by decide)]
      exact b2 i hi
    · intro i hi
      obtain ⟨p, r, e1, e2, e3, e4, e5⟩ := b5 i hi
      refine ⟨p, r, (gtu i (by omega) 2 (by decide)).trans e1, (gtu i (by omega) 3 (by decide)).trans e2, e3, e4, ?_⟩
      cases hh : B.tt i with
      | none => rw [hh] at e5; exact e5
      | some s => rw [hh] at e5; exact ⟨e5.1, hseg _ _ _ e4 e5.2⟩
    · intro i hi
      obtain ⟨p, r, t, e1, e2, e3, e4, e5, e6, e7, e8⟩ := b6 i hi
      exact ⟨p, r, t, (gpr i (by omega) 3 (by decide) (by decide)).trans e1, (gpr i (by omega) 4 (by decide) (by decide)).trans e2, (gpr i (by omega) 5 (by decide) (by decide)).trans e3, e4, e5, e6, hseg _ _ _ (by omega) e7, hseg _ _ _ (by omega) e8⟩
  have hm7 : AbM I7 c B m := by
    refine ⟨?_, ?_, ?_, ?_, (gn 18 (by decide) (by decide)).trans m5, ?_, gb, gb1, m9, m10, ?_⟩
    · intro i hi j hj
      rw [gfi i (by omega) (j + 1) (by omega) (by omega)]
      exact m1 i hi j hj
    · intro i hi j hj
      rw [gra i (by omega) (j + 2) (by omega) (by omega)]
      exact m2 i hi j hj
    · intro i hi j hj
      rw [gpr i (by omega) (j + 1) (by omega) (by omega)]
      exact m3 i hi j hj
    · intro j hj
      rw [gn (13 + j) (by omega) (by omega)]
      exact m4 j hj
    · intro k hk
      rw [gw k (by omega)]
      exact m6 k hk
    · intro i hi
      rw [gfi i hi 9 (by decide) (by decide)]
      exact m11 i hi
  have hO7 : OffC c I I7 := fun x j q => by
    rw [o7 _ _ (by omega), o6 _ _ (by omega) (by omega), o5 _ _ (by omega), o4 _ _ (by omega), o3 _ _ (by omega), o2 _ _ (by omega), o1 _ _ (by omega)]
  exact am_ret dX2_copyFrom_203 rfl ⟨_, rfl, rfl, I7, J5, rfl, hB7, hm7, hO7, (j3.tr j4).tr j5⟩
end CopyD

