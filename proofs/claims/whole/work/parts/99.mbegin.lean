theorem dX13_begin_0 : decode cX13_begin 0 = .ok (.aload_n 0, 1) := by decide +kernel
theorem dX13_begin_1 : decode cX13_begin 1 = .ok (.iconst 0, 1) := by decide +kernel
theorem dX13_begin_2 : decode cX13_begin 2 = .ok (.putfield 35, 3) := by decide +kernel
theorem dX13_begin_5 : decode cX13_begin 5 = .ok (.aload_n 0, 1) := by decide +kernel
theorem dX13_begin_6 : decode cX13_begin 6 = .ok (.iconst 0, 1) := by decide +kernel
theorem dX13_begin_7 : decode cX13_begin 7 = .ok (.putfield 38, 3) := by decide +kernel
theorem dX13_begin_10 : decode cX13_begin 10 = .ok (.aload_n 0, 1) := by decide +kernel
theorem dX13_begin_11 : decode cX13_begin 11 = .ok (.iconst 0, 1) := by decide +kernel
theorem dX13_begin_12 : decode cX13_begin 12 = .ok (.putfield 41, 3) := by decide +kernel
theorem dX13_begin_15 : decode cX13_begin 15 = .ok (.aload_n 0, 1) := by decide +kernel
theorem dX13_begin_16 : decode cX13_begin 16 = .ok (.iconst 0, 1) := by decide +kernel
theorem dX13_begin_17 : decode cX13_begin 17 = .ok (.putfield 44, 3) := by decide +kernel
theorem dX13_begin_20 : decode cX13_begin 20 = .ok (.aload_n 0, 1) := by decide +kernel
theorem dX13_begin_21 : decode cX13_begin 21 = .ok (.iconst 0, 1) := by decide +kernel
theorem dX13_begin_22 : decode cX13_begin 22 = .ok (.putfield 47, 3) := by decide +kernel
theorem dX13_begin_25 : decode cX13_begin 25 = .ok (.iconst 0, 1) := by decide +kernel
theorem dX13_begin_26 : decode cX13_begin 26 = .ok (.istore_n 2, 1) := by decide +kernel
theorem dX13_begin_27 : decode cX13_begin 27 = .ok (.iload_n 2, 1) := by decide +kernel
theorem dX13_begin_28 : decode cX13_begin 28 = .ok (.aload_n 0, 1) := by decide +kernel
theorem dX13_begin_29 : decode cX13_begin 29 = .ok (.getfield 13, 3) := by decide +kernel
theorem dX13_begin_32 : decode cX13_begin 32 = .ok (.arraylength, 1) := by decide +kernel
theorem dX13_begin_33 : decode cX13_begin 33 = .ok (.if_icmp .ge 33, 3) := by decide +kernel
theorem dX13_begin_36 : decode cX13_begin 36 = .ok (.aload_n 0, 1) := by decide +kernel
theorem dX13_begin_37 : decode cX13_begin 37 = .ok (.getfield 13, 3) := by decide +kernel
theorem dX13_begin_40 : decode cX13_begin 40 = .ok (.iload_n 2, 1) := by decide +kernel
theorem dX13_begin_41 : decode cX13_begin 41 = .ok (.iload_n 2, 1) := by decide +kernel
theorem dX13_begin_42 : decode cX13_begin 42 = .ok (.iconst 3, 1) := by decide +kernel
theorem dX13_begin_43 : decode cX13_begin 43 = .ok (.irem, 1) := by decide +kernel
theorem dX13_begin_44 : decode cX13_begin 44 = .ok (.ifCond .ne 14, 3) := by decide +kernel
theorem dX13_begin_47 : decode cX13_begin 47 = .ok (.aload_n 1, 1) := by decide +kernel
theorem dX13_begin_48 : decode cX13_begin 48 = .ok (.getfield 54, 3) := by decide +kernel
theorem dX13_begin_51 : decode cX13_begin 51 = .ok (.iload_n 2, 1) := by decide +kernel
theorem dX13_begin_52 : decode cX13_begin 52 = .ok (.iconst 2, 1) := by decide +kernel
theorem dX13_begin_53 : decode cX13_begin 53 = .ok (.iadd, 1) := by decide +kernel
theorem dX13_begin_54 : decode cX13_begin 54 = .ok (.iaload, 1) := by decide +kernel
theorem dX13_begin_55 : decode cX13_begin 55 = .ok (.goto 4, 3) := by decide +kernel
theorem dX13_begin_58 : decode cX13_begin 58 = .ok (.iconst 0, 1) := by decide +kernel
theorem dX13_begin_59 : decode cX13_begin 59 = .ok (.iastore, 1) := by decide +kernel
theorem dX13_begin_60 : decode cX13_begin 60 = .ok (.iinc 2 1, 3) := by decide +kernel
theorem dX13_begin_63 : decode cX13_begin 63 = .ok (.goto (-36), 3) := by decide +kernel
theorem dX13_begin_66 : decode cX13_begin 66 = .ok (.iconst 0, 1) := by decide +kernel
theorem dX13_begin_67 : decode cX13_begin 67 = .ok (.istore_n 2, 1) := by decide +kernel
theorem dX13_begin_68 : decode cX13_begin 68 = .ok (.iload_n 2, 1) := by decide +kernel
theorem dX13_begin_69 : decode cX13_begin 69 = .ok (.aload_n 0, 1) := by decide +kernel
theorem dX13_begin_70 : decode cX13_begin 70 = .ok (.getfield 16, 3) := by decide +kernel
theorem dX13_begin_73 : decode cX13_begin 73 = .ok (.arraylength, 1) := by decide +kernel
theorem dX13_begin_74 : decode cX13_begin 74 = .ok (.if_icmp .ge 39, 3) := by decide +kernel
theorem dX13_begin_77 : decode cX13_begin 77 = .ok (.aload_n 0, 1) := by decide +kernel
theorem dX13_begin_78 : decode cX13_begin 78 = .ok (.getfield 16, 3) := by decide +kernel
theorem dX13_begin_81 : decode cX13_begin 81 = .ok (.iload_n 2, 1) := by decide +kernel
theorem dX13_begin_82 : decode cX13_begin 82 = .ok (.iload_n 2, 1) := by decide +kernel
theorem dX13_begin_83 : decode cX13_begin 83 = .ok (.bipush 7, 2) := by decide +kernel
theorem dX13_begin_85 : decode cX13_begin 85 = .ok (.irem, 1) := by decide +kernel
theorem dX13_begin_86 : decode cX13_begin 86 = .ok (.ifCond .ne 19, 3) := by decide +kernel
theorem dX13_begin_89 : decode cX13_begin 89 = .ok (.aload_n 1, 1) := by decide +kernel
theorem dX13_begin_90 : decode cX13_begin 90 = .ok (.getfield 57, 3) := by decide +kernel
theorem dX13_begin_93 : decode cX13_begin 93 = .ok (.iload_n 2, 1) := by decide +kernel
theorem dX13_begin_94 : decode cX13_begin 94 = .ok (.bipush 7, 2) := by decide +kernel
theorem dX13_begin_96 : decode cX13_begin 96 = .ok (.idiv, 1) := by decide +kernel
theorem dX13_begin_97 : decode cX13_begin 97 = .ok (.iconst 3, 1) := by decide +kernel
theorem dX13_begin_98 : decode cX13_begin 98 = .ok (.imul, 1) := by decide +kernel
theorem dX13_begin_99 : decode cX13_begin 99 = .ok (.iconst 2, 1) := by decide +kernel
theorem dX13_begin_100 : decode cX13_begin 100 = .ok (.iadd, 1) := by decide +kernel
theorem dX13_begin_101 : decode cX13_begin 101 = .ok (.iaload, 1) := by decide +kernel
theorem dX13_begin_102 : decode cX13_begin 102 = .ok (.goto 4, 3) := by decide +kernel
theorem dX13_begin_105 : decode cX13_begin 105 = .ok (.iconst 0, 1) := by decide +kernel
theorem dX13_begin_106 : decode cX13_begin 106 = .ok (.iastore, 1) := by decide +kernel
theorem dX13_begin_107 : decode cX13_begin 107 = .ok (.iinc 2 1, 3) := by decide +kernel
theorem dX13_begin_110 : decode cX13_begin 110 = .ok (.goto (-42), 3) := by decide +kernel
theorem dX13_begin_113 : decode cX13_begin 113 = .ok (.iconst 0, 1) := by decide +kernel
theorem dX13_begin_114 : decode cX13_begin 114 = .ok (.istore_n 2, 1) := by decide +kernel
theorem dX13_begin_115 : decode cX13_begin 115 = .ok (.iload_n 2, 1) := by decide +kernel
theorem dX13_begin_116 : decode cX13_begin 116 = .ok (.aload_n 0, 1) := by decide +kernel
theorem dX13_begin_117 : decode cX13_begin 117 = .ok (.getfield 19, 3) := by decide +kernel
theorem dX13_begin_120 : decode cX13_begin 120 = .ok (.arraylength, 1) := by decide +kernel
theorem dX13_begin_121 : decode cX13_begin 121 = .ok (.if_icmp .ge 37, 3) := by decide +kernel
theorem dX13_begin_124 : decode cX13_begin 124 = .ok (.aload_n 0, 1) := by decide +kernel
theorem dX13_begin_125 : decode cX13_begin 125 = .ok (.getfield 19, 3) := by decide +kernel
theorem dX13_begin_128 : decode cX13_begin 128 = .ok (.iload_n 2, 1) := by decide +kernel
theorem dX13_begin_129 : decode cX13_begin 129 = .ok (.iload_n 2, 1) := by decide +kernel
theorem dX13_begin_130 : decode cX13_begin 130 = .ok (.iconst 2, 1) := by decide +kernel
theorem dX13_begin_131 : decode cX13_begin 131 = .ok (.irem, 1) := by decide +kernel
theorem dX13_begin_132 : decode cX13_begin 132 = .ok (.ifCond .ne 18, 3) := by decide +kernel
theorem dX13_begin_135 : decode cX13_begin 135 = .ok (.aload_n 1, 1) := by decide +kernel
theorem dX13_begin_136 : decode cX13_begin 136 = .ok (.getfield 58, 3) := by decide +kernel
theorem dX13_begin_139 : decode cX13_begin 139 = .ok (.iload_n 2, 1) := by decide +kernel
theorem dX13_begin_140 : decode cX13_begin 140 = .ok (.iconst 2, 1) := by decide +kernel
theorem dX13_begin_141 : decode cX13_begin 141 = .ok (.idiv, 1) := by decide +kernel
theorem dX13_begin_142 : decode cX13_begin 142 = .ok (.iconst 3, 1) := by decide +kernel
theorem dX13_begin_143 : decode cX13_begin 143 = .ok (.imul, 1) := by decide +kernel
theorem dX13_begin_144 : decode cX13_begin 144 = .ok (.iconst 1, 1) := by decide +kernel
theorem dX13_begin_145 : decode cX13_begin 145 = .ok (.iadd, 1) := by decide +kernel
theorem dX13_begin_146 : decode cX13_begin 146 = .ok (.iaload, 1) := by decide +kernel
theorem dX13_begin_147 : decode cX13_begin 147 = .ok (.goto 4, 3) := by decide +kernel
theorem dX13_begin_150 : decode cX13_begin 150 = .ok (.iconst 0, 1) := by decide +kernel
theorem dX13_begin_151 : decode cX13_begin 151 = .ok (.iastore, 1) := by decide +kernel
theorem dX13_begin_152 : decode cX13_begin 152 = .ok (.iinc 2 1, 3) := by decide +kernel
theorem dX13_begin_155 : decode cX13_begin 155 = .ok (.goto (-40), 3) := by decide +kernel
theorem dX13_begin_158 : decode cX13_begin 158 = .ok (.iconst 0, 1) := by decide +kernel
theorem dX13_begin_159 : decode cX13_begin 159 = .ok (.istore_n 2, 1) := by decide +kernel
theorem dX13_begin_160 : decode cX13_begin 160 = .ok (.iload_n 2, 1) := by decide +kernel
theorem dX13_begin_161 : decode cX13_begin 161 = .ok (.aload_n 0, 1) := by decide +kernel
theorem dX13_begin_162 : decode cX13_begin 162 = .ok (.getfield 22, 3) := by decide +kernel
theorem dX13_begin_165 : decode cX13_begin 165 = .ok (.arraylength, 1) := by decide +kernel
theorem dX13_begin_166 : decode cX13_begin 166 = .ok (.if_icmp .ge 16, 3) := by decide +kernel
theorem dX13_begin_169 : decode cX13_begin 169 = .ok (.aload_n 0, 1) := by decide +kernel
theorem dX13_begin_170 : decode cX13_begin 170 = .ok (.getfield 22, 3) := by decide +kernel
theorem dX13_begin_173 : decode cX13_begin 173 = .ok (.iload_n 2, 1) := by decide +kernel
theorem dX13_begin_174 : decode cX13_begin 174 = .ok (.iload_n 2, 1) := by decide +kernel
theorem dX13_begin_175 : decode cX13_begin 175 = .ok (.iastore, 1) := by decide +kernel
theorem dX13_begin_176 : decode cX13_begin 176 = .ok (.iinc 2 1, 3) := by decide +kernel
theorem dX13_begin_179 : decode cX13_begin 179 = .ok (.goto (-19), 3) := by decide +kernel
theorem dX13_begin_182 : decode cX13_begin 182 = .ok (.return_, 1) := by decide +kernel
/-! the reference's state begins with a bill -/
section Bg
variable {G : Gp} {S : AMem} {I I1 : Nat → Nat → Int32} {J : Nat → Nat → Int64} {R : Nat → Nat → Option Nat} {z nx u : Nat} {B : BS} {m : MS} {Q : (Option AV ⊕ Nat) → AMem → Prop}
theorem k_bgn1 (hz : SCc S R z) (hb : BCc S R nx) (hd : z + 6 ≤ nx ∨ nx + 9 ≤ z) (K : ∀ I1, (∀ k, k < 12 → I1 (z + 2) k = if k % 3 = 0 then I (nx + 1) (k + 2) else 0) → (∀ x j, x ≠ z + 2 → I1 x j = I x j) → MW G mX13_begin 0 66 [some (vR z), some (vR nx), some (vI (nI 12))] [] (mw S I1 J R) Q) : MW G mX13_begin 0 27 [some (vR z), some (vR nx), some (vI (nI 0))] [] (mw S I J R) Q := by
  obtain ⟨kz, z6, z7, z8, z9, z10, ⟨kz1, lz1⟩, ⟨kz2, lz2⟩, ⟨kz3, lz3⟩, ⟨kz4, lz4⟩, kz5, lz5⟩ := hz
  obtain ⟨kb, b5, b6, b7, b8, b9, b11, b12, b13, ⟨kb1, lb1⟩, ⟨kb2, lb2⟩, ⟨kb3, lb3⟩, ⟨kb4, lb4⟩, _⟩ := hb
  refine k_loop (σ := Nat → Nat → Int32) (n := 12) (Inv := fun i I1 => (∀ k, k < i → I1 (z + 2) k = if k % 3 = 0 then I (nx + 1) (k + 2) else 0) ∧ ∀ x j, x ≠ z + 2 → I1 x j = I x j) (W := fun i I1 => MW G mX13_begin 0 27 [some (vR z), some (vR nx), some (vI (nI i))] [] (mw S I1 J R) Q) ?_ ?_ 0 I (Nat.zero_le _) ⟨fun k hk => absurd hk (Nat.not_lt_zero k), fun _ _ _ => rfl⟩
  · rintro i I1 hi ⟨g1, g2⟩ ih
    have cl : (nI i).toNatClampNeg = i := nI_clamp (by omega)
    have ip : vp_in (nI i) (S.ln (z + 2)) := by rw [lz2]; exact vp_in_nI (by omega) (by decide)
    have rm : (nI i - nI i / 3 * 3 : Int32) = nI (i % 3) := k_rem (by omega) (by decide) (by decide)
    have nxt : ∀ v : Int32, v = (if i % 3 = 0 then I (nx + 1) (i + 2) else 0) → MW G mX13_begin 0 27 [some (vR z), some (vR nx), some (vI (nI (i + 1)))] [] (mw S (up2 I1 (z + 2) i v) J R) Q := fun v hv => ih _ ⟨fun k hk => by
      rw [up2_at]
      by_cases c : k = i
      · rw [if_pos ⟨rfl, c⟩, c, hv]
      · rw [if_neg (fun q => c q.2)]
        exact g1 k (by omega), fun x j q => by rw [up2_a q]; exact g2 x j q⟩
    clear ih K
    refine am_iload_n (q := 28) dX13_begin_27 rfl rfl ?_
    refine am_aload_n (q := 29) dX13_begin_28 rfl rfl ?_
    refine cm_getR (q := 32) dX13_begin_29 flX13_13 rfl (by assumption) (by assumption) rfl ?_
    refine cm_alenI (q := 33) dX13_begin_32 (by assumption) (by rw [lz2] : nI (S.ln (z + 2)) = nI 12) rfl ?_
    refine am_icmp_ge (tgt := 66) (q := 36) dX13_begin_33 rfl rfl (fun hz => absurd hz (nI_ge hi (by decide))) (fun _ => ?_)
    refine am_aload_n (q := 37) dX13_begin_36 rfl rfl ?_
    refine cm_getR (q := 40) dX13_begin_37 flX13_13 rfl (by assumption) (by assumption) rfl ?_
    refine am_iload_n (q := 41) dX13_begin_40 rfl rfl ?_
    refine am_iload_n (q := 42) dX13_begin_41 rfl rfl ?_
    refine am_iconst (q := 43) (v := 3) dX13_begin_42 kc_i3 rfl ?_
    refine am_irem (q := 44) dX13_begin_43 (by decide) rfl ?_
    rw [rm]
    by_cases c : i % 3 = 0
    · have n1 := nxt (I (nx + 1) (i + 2)) (by rw [if_pos c])
      have sr : I1 (nx + 1) (i + 2) = I (nx + 1) (i + 2) := g2 _ _ (by omega)
      rw [c]
      refine am_if_ne (tgt := 58) (q := 47) dX13_begin_44 rfl rfl (fun hz => absurd rfl hz) (fun _ => ?_)
      refine am_aload_n (q := 48) dX13_begin_47 rfl rfl ?_
      refine cm_getR (q := 51) dX13_begin_48 flX13_54 rfl (by assumption) (by assumption) rfl ?_
      refine am_iload_n (q := 52) dX13_begin_51 rfl rfl ?_
      refine am_iconst (q := 53) (v := 2) dX13_begin_52 kc_i2 rfl ?_
      refine am_iadd (q := 54) dX13_begin_53 rfl ?_
      rw [show nI i + 2 = nI (i + 2) from nI_add i 2]
      refine cm_iaload (q := 55) dX13_begin_54 (by assumption) (by rw [lb1]; exact vp_in_nI (by omega) (by decide)) rfl ?_
      refine am_goto (tgt := 59) dX13_begin_55 rfl ?_
      rw [nI_clamp (show i + 2 < 2 ^ 31 by omega), sr]
      refine cm_iastore (q := 60) dX13_begin_59 (by assumption) ip rfl ?_
      refine am_iincW (q := 63) (ls1 := [_, _, _]) (w := 1) dX13_begin_60 rfl (Nat.le_of_ble_eq_true rfl) kc_i1 rfl rfl ?_
      refine am_goto (tgt := 27) dX13_begin_63 rfl ?_
      rw [cl, nI_1]
      exact n1
    · have n1 := nxt 0 (by rw [if_neg c])
      refine am_if_ne (tgt := 58) (q := 47) dX13_begin_44 rfl rfl (fun _ => ?_) (fun hz => absurd hz (k_ne (b := 0) (by omega) (by decide) c))
      refine am_iconst (q := 59) (v := 0) dX13_begin_58 kc_i0 rfl ?_
      refine cm_iastore (q := 60) dX13_begin_59 (by assumption) ip rfl ?_
      refine am_iincW (q := 63) (ls1 := [_, _, _]) (w := 1) dX13_begin_60 rfl (Nat.le_of_ble_eq_true rfl) kc_i1 rfl rfl ?_
      refine am_goto (tgt := 27) dX13_begin_63 rfl ?_
      rw [cl, nI_1]
      exact n1
  · rintro I1 ⟨g1, g2⟩
    have k1 := K I1 g1 g2
    clear K
    refine am_iload_n (q := 28) dX13_begin_27 rfl rfl ?_
    refine am_aload_n (q := 29) dX13_begin_28 rfl rfl ?_
    refine cm_getR (q := 32) dX13_begin_29 flX13_13 rfl (by assumption) (by assumption) rfl ?_
    refine cm_alenI (q := 33) dX13_begin_32 (by assumption) (by rw [lz2] : nI (S.ln (z + 2)) = nI 12) rfl ?_
    refine am_icmp_ge (tgt := 66) (q := 36) dX13_begin_33 rfl rfl (fun _ => ?_) (fun hz => absurd (Int32.le_refl _) hz)
    exact k1
theorem k_bgn2 (hz : SCc S R z) (hb : BCc S R nx) (hd : z + 6 ≤ nx ∨ nx + 9 ≤ z) (K : ∀ I1, (∀ k, k < 56 → I1 (z + 3) k = if k % 7 = 0 then I (nx + 3) (k / 7 * 3 + 2) else 0) → (∀ x j, x ≠ z + 3 → I1 x j = I x j) → MW G mX13_begin 0 113 [some (vR z), some (vR nx), some (vI (nI 56))] [] (mw S I1 J R) Q) : MW G mX13_begin 0 68 [some (vR z), some (vR nx), some (vI (nI 0))] [] (mw S I J R) Q := by
  obtain ⟨kz, z6, z7, z8, z9, z10, ⟨kz1, lz1⟩, ⟨kz2, lz2⟩, ⟨kz3, lz3⟩, ⟨kz4, lz4⟩, kz5, lz5⟩ := hz
  obtain ⟨kb, b5, b6, b7, b8, b9, b11, b12, b13, ⟨kb1, lb1⟩, ⟨kb2, lb2⟩, ⟨kb3, lb3⟩, ⟨kb4, lb4⟩, _⟩ := hb
  refine k_loop (σ := Nat → Nat → Int32) (n := 56) (Inv := fun i I1 => (∀ k, k < i → I1 (z + 3) k = if k % 7 = 0 then I (nx + 3) (k / 7 * 3 + 2) else 0) ∧ ∀ x j, x ≠ z + 3 → I1 x j = I x j) (W := fun i I1 => MW G mX13_begin 0 68 [some (vR z), some (vR nx), some (vI (nI i))] [] (mw S I1 J R) Q) ?_ ?_ 0 I (Nat.zero_le _) ⟨fun k hk => absurd hk (Nat.not_lt_zero k), fun _ _ _ => rfl⟩
  · rintro i I1 hi ⟨g1, g2⟩ ih
    have cl : (nI i).toNatClampNeg = i := nI_clamp (by omega)
    have ip : vp_in (nI i) (S.ln (z + 3)) := by rw [lz3]; exact vp_in_nI (by omega) (by decide)
    have rm : (nI i - nI i / 7 * 7 : Int32) = nI (i % 7) := k_rem (by omega) (by decide) (by decide)
    have nxt : ∀ v : Int32, v = (if i % 7 = 0 then I (nx + 3) (i / 7 * 3 + 2) else 0) → MW G mX13_begin 0 68 [some (vR z), some (vR nx), some (vI (nI (i + 1)))] [] (mw S (up2 I1 (z + 3) i v) J R) Q := fun v hv => ih _ ⟨fun k hk => by
      rw [up2_at]
      by_cases c : k = i
      · rw [if_pos ⟨rfl, c⟩, c, hv]
      · rw [if_neg (fun q => c q.2)]
        exact g1 k (by omega), fun x j q => by rw [up2_a q]; exact g2 x j q⟩
    clear ih K
    refine am_iload_n (q := 69) dX13_begin_68 rfl rfl ?_
    refine am_aload_n (q := 70) dX13_begin_69 rfl rfl ?_
    refine cm_getR (q := 73) dX13_begin_70 flX13_16 rfl (by assumption) (by assumption) rfl ?_
    refine cm_alenI (q := 74) dX13_begin_73 (by assumption) (by rw [lz3] : nI (S.ln (z + 3)) = nI 56) rfl ?_
    refine am_icmp_ge (tgt := 113) (q := 77) dX13_begin_74 rfl rfl (fun hz => absurd hz (nI_ge hi (by decide))) (fun _ => ?_)
    refine am_aload_n (q := 78) dX13_begin_77 rfl rfl ?_
    refine cm_getR (q := 81) dX13_begin_78 flX13_16 rfl (by assumption) (by assumption) rfl ?_
    refine am_iload_n (q := 82) dX13_begin_81 rfl rfl ?_
    refine am_iload_n (q := 83) dX13_begin_82 rfl rfl ?_
    refine am_bipush (q := 85) (v := 7) dX13_begin_83 kc_b7 rfl ?_
    refine am_irem (q := 86) dX13_begin_85 (by decide) rfl ?_
    rw [rm]
    by_cases c : i % 7 = 0
    · have n1 := nxt (I (nx + 3) (i / 7 * 3 + 2)) (by rw [if_pos c])
      have sr : I1 (nx + 3) (i / 7 * 3 + 2) = I (nx + 3) (i / 7 * 3 + 2) := g2 _ _ (by omega)
      rw [c]
      refine am_if_ne (tgt := 105) (q := 89) dX13_begin_86 rfl rfl (fun hz => absurd rfl hz) (fun _ => ?_)
      refine am_aload_n (q := 90) dX13_begin_89 rfl rfl ?_
      refine cm_getR (q := 93) dX13_begin_90 flX13_57 rfl (by assumption) (by assumption) rfl ?_
      refine am_iload_n (q := 94) dX13_begin_93 rfl rfl ?_
      refine am_bipush (q := 96) (v := 7) dX13_begin_94 kc_b7 rfl ?_
      refine am_idiv (q := 97) dX13_begin_96 (by decide) rfl ?_
      rw [show (nI i / 7 : Int32) = nI (i / 7) from k_div (by omega) (by decide) (by decide)]
      refine am_iconst (q := 98) (v := 3) dX13_begin_97 kc_i3 rfl ?_
      refine am_imul (q := 99) dX13_begin_98 rfl ?_
      rw [show nI (i / 7) * 3 = nI (i / 7 * 3) from k_mul (i / 7) 3]
      refine am_iconst (q := 100) (v := 2) dX13_begin_99 kc_i2 rfl ?_
      refine am_iadd (q := 101) dX13_begin_100 rfl ?_
      rw [show nI (i / 7 * 3) + 2 = nI (i / 7 * 3 + 2) from nI_add (i / 7 * 3) 2]
      refine cm_iaload (q := 102) dX13_begin_101 (by assumption) (by rw [lb3]; exact vp_in_nI (by omega) (by decide)) rfl ?_
      refine am_goto (tgt := 106) dX13_begin_102 rfl ?_
      rw [nI_clamp (show i / 7 * 3 + 2 < 2 ^ 31 by omega), sr]
      refine cm_iastore (q := 107) dX13_begin_106 (by assumption) ip rfl ?_
      refine am_iincW (q := 110) (ls1 := [_, _, _]) (w := 1) dX13_begin_107 rfl (Nat.le_of_ble_eq_true rfl) kc_i1 rfl rfl ?_
      refine am_goto (tgt := 68) dX13_begin_110 rfl ?_
      rw [cl, nI_1]
      exact n1
    · have n1 := nxt 0 (by rw [if_neg c])
      refine am_if_ne (tgt := 105) (q := 89) dX13_begin_86 rfl rfl (fun _ => ?_) (fun hz => absurd hz (k_ne (b := 0) (by omega) (by decide) c))
      refine am_iconst (q := 106) (v := 0) dX13_begin_105 kc_i0 rfl ?_
      refine cm_iastore (q := 107) dX13_begin_106 (by assumption) ip rfl ?_
      refine am_iincW (q := 110) (ls1 := [_, _, _]) (w := 1) dX13_begin_107 rfl (Nat.le_of_ble_eq_true rfl) kc_i1 rfl rfl ?_
      refine am_goto (tgt := 68) dX13_begin_110 rfl ?_
      rw [cl, nI_1]
      exact n1
  · rintro I1 ⟨g1, g2⟩
    have k1 := K I1 g1 g2
    clear K
    refine am_iload_n (q := 69) dX13_begin_68 rfl rfl ?_
    refine am_aload_n (q := 70) dX13_begin_69 rfl rfl ?_
    refine cm_getR (q := 73) dX13_begin_70 flX13_16 rfl (by assumption) (by assumption) rfl ?_
    refine cm_alenI (q := 74) dX13_begin_73 (by assumption) (by rw [lz3] : nI (S.ln (z + 3)) = nI 56) rfl ?_
    refine am_icmp_ge (tgt := 113) (q := 77) dX13_begin_74 rfl rfl (fun _ => ?_) (fun hz => absurd (Int32.le_refl _) hz)
    exact k1
theorem k_bgn3 (hz : SCc S R z) (hb : BCc S R nx) (hd : z + 6 ≤ nx ∨ nx + 9 ≤ z) (K : ∀ I1, (∀ k, k < 16 → I1 (z + 4) k = if k % 2 = 0 then I (nx + 4) (k / 2 * 3 + 1) else 0) → (∀ x j, x ≠ z + 4 → I1 x j = I x j) → MW G mX13_begin 0 158 [some (vR z), some (vR nx), some (vI (nI 16))] [] (mw S I1 J R) Q) : MW G mX13_begin 0 115 [some (vR z), some (vR nx), some (vI (nI 0))] [] (mw S I J R) Q := by
  obtain ⟨kz, z6, z7, z8, z9, z10, ⟨kz1, lz1⟩, ⟨kz2, lz2⟩, ⟨kz3, lz3⟩, ⟨kz4, lz4⟩, kz5, lz5⟩ := hz
  obtain ⟨kb, b5, b6, b7, b8, b9, b11, b12, b13, ⟨kb1, lb1⟩, ⟨kb2, lb2⟩, ⟨kb3, lb3⟩, ⟨kb4, lb4⟩, _⟩ := hb
  refine k_loop (σ := Nat → Nat → Int32) (n := 16) (Inv := fun i I1 => (∀ k, k < i → I1 (z + 4) k = if k % 2 = 0 then I (nx + 4) (k / 2 * 3 + 1) else 0) ∧ ∀ x j, x ≠ z + 4 → I1 x j = I x j) (W := fun i I1 => MW G mX13_begin 0 115 [some (vR z), some (vR nx), some (vI (nI i))] [] (mw S I1 J R) Q) ?_ ?_ 0 I (Nat.zero_le _) ⟨fun k hk => absurd hk (Nat.not_lt_zero k), fun _ _ _ => rfl⟩
  · rintro i I1 hi ⟨g1, g2⟩ ih
    have cl : (nI i).toNatClampNeg = i := nI_clamp (by omega)
    have ip : vp_in (nI i) (S.ln (z + 4)) := by rw [lz4]; exact vp_in_nI (by omega) (by decide)
    have rm : (nI i - nI i / 2 * 2 : Int32) = nI (i % 2) := k_rem (by omega) (by decide) (by decide)
    have nxt : ∀ v : Int32, v = (if i % 2 = 0 then I (nx + 4) (i / 2 * 3 + 1) else 0) → MW G mX13_begin 0 115 [some (vR z), some (vR nx), some (vI (nI (i + 1)))] [] (mw S (up2 I1 (z + 4) i v) J R) Q := fun v hv => ih _ ⟨fun k hk => by
      rw [up2_at]
      by_cases c : k = i
      · rw [if_pos ⟨rfl, c⟩, c, hv]
      · rw [if_neg (fun q => c q.2)]
        exact g1 k (by omega), fun x j q => by rw [up2_a q]; exact g2 x j q⟩
    clear ih K
    refine am_iload_n (q := 116) dX13_begin_115 rfl rfl ?_
    refine am_aload_n (q := 117) dX13_begin_116 rfl rfl ?_
    refine cm_getR (q := 120) dX13_begin_117 flX13_19 rfl (by assumption) (by assumption) rfl ?_
    refine cm_alenI (q := 121) dX13_begin_120 (by assumption) (by rw [lz4] : nI (S.ln (z + 4)) = nI 16) rfl ?_
    refine am_icmp_ge (tgt := 158) (q := 124) dX13_begin_121 rfl rfl (fun hz => absurd hz (nI_ge hi (by decide))) (fun _ => ?_)
    refine am_aload_n (q := 125) dX13_begin_124 rfl rfl ?_
    refine cm_getR (q := 128) dX13_begin_125 flX13_19 rfl (by assumption) (by assumption) rfl ?_
    refine am_iload_n (q := 129) dX13_begin_128 rfl rfl ?_
    refine am_iload_n (q := 130) dX13_begin_129 rfl rfl ?_
    refine am_iconst (q := 131) (v := 2) dX13_begin_130 kc_i2 rfl ?_
    refine am_irem (q := 132) dX13_begin_131 (by decide) rfl ?_
    rw [rm]
    by_cases c : i % 2 = 0
    · have n1 := nxt (I (nx + 4) (i / 2 * 3 + 1)) (by rw [if_pos c])
      have sr : I1 (nx + 4) (i / 2 * 3 + 1) = I (nx + 4) (i / 2 * 3 + 1) := g2 _ _ (by omega)
      rw [c]
      refine am_if_ne (tgt := 150) (q := 135) dX13_begin_132 rfl rfl (fun hz => absurd rfl hz) (fun _ => ?_)
      refine am_aload_n (q := 136) dX13_begin_135 rfl rfl ?_
      refine cm_getR (q := 139) dX13_begin_136 flX13_58 rfl (by assumption) (by assumption) rfl ?_
      refine am_iload_n (q := 140) dX13_begin_139 rfl rfl ?_
      refine am_iconst (q := 141) (v := 2) dX13_begin_140 kc_i2 rfl ?_
      refine am_idiv (q := 142) dX13_begin_141 (by decide) rfl ?_
      rw [show (nI i / 2 : Int32) = nI (i / 2) from k_div (by omega) (by decide) (by decide)]
      refine am_iconst (q := 143) (v := 3) dX13_begin_142 kc_i3 rfl ?_
      refine am_imul (q := 144) dX13_begin_143 rfl ?_
      rw [show nI (i / 2) * 3 = nI (i / 2 * 3) from k_mul (i / 2) 3]
      refine am_iconst (q := 145) (v := 1) dX13_begin_144 kc_i1 rfl ?_
      refine am_iadd (q := 146) dX13_begin_145 rfl ?_
      rw [show nI (i / 2 * 3) + 1 = nI (i / 2 * 3 + 1) from nI_add (i / 2 * 3) 1]
      refine cm_iaload (q := 147) dX13_begin_146 (by assumption) (by rw [lb4]; exact vp_in_nI (by omega) (by decide)) rfl ?_
      refine am_goto (tgt := 151) dX13_begin_147 rfl ?_
      rw [nI_clamp (show i / 2 * 3 + 1 < 2 ^ 31 by omega), sr]
      refine cm_iastore (q := 152) dX13_begin_151 (by assumption) ip rfl ?_
      refine am_iincW (q := 155) (ls1 := [_, _, _]) (w := 1) dX13_begin_152 rfl (Nat.le_of_ble_eq_true rfl) kc_i1 rfl rfl ?_
      refine am_goto (tgt := 115) dX13_begin_155 rfl ?_
      rw [cl, nI_1]
      exact n1
    · have n1 := nxt 0 (by rw [if_neg c])
      refine am_if_ne (tgt := 150) (q := 135) dX13_begin_132 rfl rfl (fun _ => ?_) (fun hz => absurd hz (k_ne (b := 0) (by omega) (by decide) c))
      refine am_iconst (q := 151) (v := 0) dX13_begin_150 kc_i0 rfl ?_
      refine cm_iastore (q := 152) dX13_begin_151 (by assumption) ip rfl ?_
      refine am_iincW (q := 155) (ls1 := [_, _, _]) (w := 1) dX13_begin_152 rfl (Nat.le_of_ble_eq_true rfl) kc_i1 rfl rfl ?_
      refine am_goto (tgt := 115) dX13_begin_155 rfl ?_
      rw [cl, nI_1]
      exact n1
  · rintro I1 ⟨g1, g2⟩
    have k1 := K I1 g1 g2
    clear K
    refine am_iload_n (q := 116) dX13_begin_115 rfl rfl ?_
    refine am_aload_n (q := 117) dX13_begin_116 rfl rfl ?_
    refine cm_getR (q := 120) dX13_begin_117 flX13_19 rfl (by assumption) (by assumption) rfl ?_
    refine cm_alenI (q := 121) dX13_begin_120 (by assumption) (by rw [lz4] : nI (S.ln (z + 4)) = nI 16) rfl ?_
    refine am_icmp_ge (tgt := 158) (q := 124) dX13_begin_121 rfl rfl (fun _ => ?_) (fun hz => absurd (Int32.le_refl _) hz)
    exact k1
theorem k_bgn4 (hz : SCc S R z) (K : ∀ I1, (∀ k, k < 20 → I1 (z + 5) k = nI k) → (∀ x j, x ≠ z + 5 → I1 x j = I x j) → MW G mX13_begin 0 182 [some (vR z), some (vR nx), some (vI (nI 20))] [] (mw S I1 J R) Q) : MW G mX13_begin 0 160 [some (vR z), some (vR nx), some (vI (nI 0))] [] (mw S I J R) Q := by
  obtain ⟨kz, z6, z7, z8, z9, z10, ⟨kz1, lz1⟩, ⟨kz2, lz2⟩, ⟨kz3, lz3⟩, ⟨kz4, lz4⟩, kz5, lz5⟩ := hz
  refine k_loop (σ := Nat → Nat → Int32) (n := 20) (Inv := fun i I1 => (∀ k, k < i → I1 (z + 5) k = nI k) ∧ ∀ x j, x ≠ z + 5 → I1 x j = I x j) (W := fun i I1 => MW G mX13_begin 0 160 [some (vR z), some (vR nx), some (vI (nI i))] [] (mw S I1 J R) Q) ?_ ?_ 0 I (Nat.zero_le _) ⟨fun k hk => absurd hk (Nat.not_lt_zero k), fun _ _ _ => rfl⟩
  · rintro i I1 hi ⟨g1, g2⟩ ih
    have cl : (nI i).toNatClampNeg = i := nI_clamp (by omega)
    have ip : vp_in (nI i) (S.ln (z + 5)) := by rw [lz5]; exact vp_in_nI (by omega) (by decide)
    have n1 : MW G mX13_begin 0 160 [some (vR z), some (vR nx), some (vI (nI (i + 1)))] [] (mw S (up2 I1 (z + 5) i (nI i)) J R) Q := ih _ ⟨fun k hk => by
      rw [up2_at]
      by_cases c : k = i
      · rw [if_pos ⟨rfl, c⟩, c]
      · rw [if_neg (fun q => c q.2)]
        exact g1 k (by omega), fun x j q => by rw [up2_a q]; exact g2 x j q⟩
    clear ih K
    refine am_iload_n (q := 161) dX13_begin_160 rfl rfl ?_
    refine am_aload_n (q := 162) dX13_begin_161 rfl rfl ?_
    refine cm_getR (q := 165) dX13_begin_162 flX13_22 rfl (by assumption) (by assumption) rfl ?_
    refine cm_alenI (q := 166) dX13_begin_165 (by assumption) (by rw [lz5] : nI (S.ln (z + 5)) = nI 20) rfl ?_
    refine am_icmp_ge (tgt := 182) (q := 169) dX13_begin_166 rfl rfl (fun hz => absurd hz (nI_ge hi (by decide))) (fun _ => ?_)
    refine am_aload_n (q := 170) dX13_begin_169 rfl rfl ?_
    refine cm_getR (q := 173) dX13_begin_170 flX13_22 rfl (by assumption) (by assumption) rfl ?_
    refine am_iload_n (q := 174) dX13_begin_173 rfl rfl ?_
    refine am_iload_n (q := 175) dX13_begin_174 rfl rfl ?_
    refine cm_iastore (q := 176) dX13_begin_175 (by assumption) ip rfl ?_
    refine am_iincW (q := 179) (ls1 := [_, _, _]) (w := 1) dX13_begin_176 rfl (Nat.le_of_ble_eq_true rfl) kc_i1 rfl rfl ?_
    refine am_goto (tgt := 160) dX13_begin_179 rfl ?_
    rw [cl, nI_1]
    exact n1
  · rintro I1 ⟨g1, g2⟩
    have k1 := K I1 g1 g2
    clear K
    refine am_iload_n (q := 161) dX13_begin_160 rfl rfl ?_
    refine am_aload_n (q := 162) dX13_begin_161 rfl rfl ?_
    refine cm_getR (q := 165) dX13_begin_162 flX13_22 rfl (by assumption) (by assumption) rfl ?_
    refine cm_alenI (q := 166) dX13_begin_165 (by assumption) (by rw [lz5] : nI (S.ln (z + 5)) = nI 20) rfl ?_
    refine am_icmp_ge (tgt := 182) (q := 169) dX13_begin_166 rfl rfl (fun _ => ?_) (fun hz => absurd (Int32.le_refl _) hz)
    exact k1
theorem k_X13_begin (hz : SCc S R z) (hb : BCc S R nx) (hd : z + 6 ≤ nx ∨ nx + 9 ≤ z) (h : RBx I nx B m u) : Fn G mX13_begin 0 [vR z, vR nx] (mw S I J R) (fun rr M1 => rr = none ∧ ∃ I1, M1 = mw S I1 J R ∧ RS I1 z B (mkMS m.fist m.rail m.prize (up1 m.g 0 (I z 0)) m.row m.bd m.nb) ∧ ∀ x j, (x < z ∨ z + 6 ≤ x) → I1 x j = I x j) := by
  have hz0 := hz
  obtain ⟨kz, _⟩ := hz0
  refine am_aload_n (q := 1) dX13_begin_0 rfl rfl ?_
  refine am_iconst (q := 2) (v := 0) dX13_begin_1 kc_i0 rfl ?_
  refine cm_putI (q := 5) dX13_begin_2 flX13_35 rfl (Or.inl rfl) (Or.inl rfl) (by assumption) rfl ?_
  refine am_aload_n (q := 6) dX13_begin_5 rfl rfl ?_
  refine am_iconst (q := 7) (v := 0) dX13_begin_6 kc_i0 rfl ?_
  refine cm_putI (q := 10) dX13_begin_7 flX13_38 rfl (Or.inl rfl) (Or.inl rfl) (by assumption) rfl ?_
  refine am_aload_n (q := 11) dX13_begin_10 rfl rfl ?_
  refine am_iconst (q := 12) (v := 0) dX13_begin_11 kc_i0 rfl ?_
  refine cm_putI (q := 15) dX13_begin_12 flX13_41 rfl (Or.inl rfl) (Or.inl rfl) (by assumption) rfl ?_
  refine am_aload_n (q := 16) dX13_begin_15 rfl rfl ?_
  refine am_iconst (q := 17) (v := 0) dX13_begin_16 kc_i0 rfl ?_
  refine cm_putI (q := 20) dX13_begin_17 flX13_44 rfl (Or.inl rfl) (Or.inl rfl) (by assumption) rfl ?_
  refine am_aload_n (q := 21) dX13_begin_20 rfl rfl ?_
  refine am_iconst (q := 22) (v := 0) dX13_begin_21 kc_i0 rfl ?_
  refine cm_putI (q := 25) dX13_begin_22 flX13_47 rfl (Or.inl rfl) (Or.inl rfl) (by assumption) rfl ?_
  refine am_iconst (q := 26) (v := 0) dX13_begin_25 kc_i0 rfl ?_
  refine am_istore_n (q := 27) (ls1 := [_, _, _]) dX13_begin_26 (Nat.le_of_ble_eq_true rfl) rfl rfl ?_
  refine k_nm (P := fun I2 => MW G mX13_begin 0 27 _ _ (mw S I2 J R) _) _ ?_
  intro I2 q2
  have e2 : ∀ x j, I2 x j = if x = z ∧ 1 ≤ j ∧ j ≤ 5 then 0 else I x j := fun x j => by
    rw [q2, up2_at, up2_at, up2_at, up2_at, up2_at]
    by_cases c : x = z ∧ 1 ≤ j ∧ j ≤ 5
    · rw [if_pos c]
      by_cases c5 : j = 5
      · rw [if_pos ⟨c.1, c5⟩]
      · rw [if_neg (by omega)]
        by_cases c4 : j = 4
        · rw [if_pos ⟨c.1, c4⟩]
        · rw [if_neg (by omega)]
          by_cases c3 : j = 3
          · rw [if_pos ⟨c.1, c3⟩]
          · rw [if_neg (by omega)]
            by_cases c2 : j = 2
            · rw [if_pos ⟨c.1, c2⟩]
            · rw [if_neg (by omega), if_pos (by omega)]
    · rw [if_neg c, if_neg (by omega), if_neg (by omega), if_neg (by omega), if_neg (by omega), if_neg (by omega)]
  clear q2
  refine k_bgn1 (nx := nx) hz hb hd (fun I3 a3 b3 => ?_)
  refine am_iconst (q := 67) (v := 0) dX13_begin_66 kc_i0 rfl ?_
  refine am_istore_n (q := 68) (ls1 := [_, _, _]) dX13_begin_67 (Nat.le_of_ble_eq_true rfl) rfl rfl ?_
  refine k_bgn2 (nx := nx) hz hb hd (fun I4 a4 b4 => ?_)
  refine am_iconst (q := 114) (v := 0) dX13_begin_113 kc_i0 rfl ?_
  refine am_istore_n (q := 115) (ls1 := [_, _, _]) dX13_begin_114 (Nat.le_of_ble_eq_true rfl) rfl rfl ?_
  refine k_bgn3 (nx := nx) hz hb hd (fun I5 a5 b5 => ?_)
  refine am_iconst (q := 159) (v := 0) dX13_begin_158 kc_i0 rfl ?_
  refine am_istore_n (q := 160) (ls1 := [_, _, _]) dX13_begin_159 (Nat.le_of_ble_eq_true rfl) rfl rfl ?_
  refine k_bgn4 (nx := nx) hz (fun I6 a6 b6 => ?_)
  have o : ∀ x j, x ≠ z + 2 → x ≠ z + 3 → x ≠ z + 4 → x ≠ z + 5 → I6 x j = if x = z ∧ 1 ≤ j ∧ j ≤ 5 then 0 else I x j := fun x j q1 q2 q3 q4 => by rw [b6 _ _ q4, b5 _ _ q3, b4 _ _ q2, b3 _ _ q1, e2]
  have rs : RS I6 z B (mkMS m.fist m.rail m.prize (up1 m.g 0 (I z 0)) m.row m.bd m.nb) := by
    obtain ⟨⟨⟨⟨c1, d1⟩, ⟨c2, d2⟩, ⟨c3, d3⟩, c4, d4⟩, _⟩, ⟨u1, u2, u3⟩, f2, f3, f4, ⟨f5, f5b⟩, f6⟩ := h
    refine ⟨⟨?_, ?_, ?_, ?_, ?_, ?_, by show m.nb ≤ 10; omega⟩, fun k hk => absurd (show k < m.nb from hk) (by omega), fun i hi j hj => ?_, fun i hi j hj => ?_, fun i hi j hj => ?_, ⟨fun i hi => (f4 i hi).2.1, fun i hi => ?_⟩, fun k hk => ?_⟩
    · rw [o _ _ (by omega) (by omega) (by omega) (by omega), if_neg (by omega)]
      rfl
    · rw [o _ _ (by omega) (by omega) (by omega) (by omega), if_pos (by omega)]
      exact (f5 3).symm
    · rw [o _ _ (by omega) (by omega) (by omega) (by omega), if_pos (by omega)]
      exact (f5 4).symm
    · rw [o _ _ (by omega) (by omega) (by omega) (by omega), if_pos (by omega)]
      exact (f5 1).symm
    · rw [o _ _ (by omega) (by omega) (by omega) (by omega), if_pos (by omega)]
      exact (f5 2).symm
    · rw [o _ _ (by omega) (by omega) (by omega) (by omega), if_pos (by omega)]
      show 0 = nI m.nb
      rw [f5b]
      rfl
    · show I6 (z + 2) (3 * i + j) = m.rail i (j + 2)
      rw [b6 _ _ (by omega), b5 _ _ (by omega), b4 _ _ (by omega), a3 _ (by omega)]
      obtain ⟨g1, g2, g3⟩ := f2 i hi
      by_cases cj : j = 0
      · subst cj
        rw [if_pos (by omega), e2, if_neg (by omega), show 3 * i + 0 + 2 = 3 * i + 2 by omega]
        exact g1
      · rw [if_neg (by omega)]
        by_cases c1 : j = 1
        · subst c1
          exact g2.symm
        · have c2 : j = 2 := by omega
          subst c2
          exact g3.symm
    · show I6 (z + 3) (7 * i + j) = m.fist i (j + 2)
      rw [b6 _ _ (by omega), b5 _ _ (by omega), a4 _ (by omega)]
      obtain ⟨g1, g2⟩ := f3 i hi
      by_cases cj : j = 0
      · subst cj
        rw [if_pos (by omega), b3 _ _ (by omega), e2, if_neg (by omega), show (7 * i + 0) / 7 * 3 + 2 = 3 * i + 2 by omega]
        exact g1
      · rw [if_neg (by omega)]
        exact (g2 _ (by omega) (by omega)).symm
    · show I6 (z + 4) (2 * i + j) = m.prize i j
      rw [b6 _ _ (by omega), a5 _ (by omega)]
      obtain ⟨g1, g2, g3⟩ := f4 i hi
      by_cases cj : j = 0
      · subst cj
        rw [if_pos (by omega), b4 _ _ (by omega), b3 _ _ (by omega), e2, if_neg (by omega), show (2 * i + 0) / 2 * 3 + 1 = 3 * i + 1 by omega]
        exact g1
      · rw [if_neg (by omega)]
        have c1 : j = 1 := by omega
        subst c1
        exact g3.symm
    · show 0 ≤ m.fist i 3 ∧ m.fist i 3 ≤ 60
      rw [(f3 i hi).2 3 (by decide) (by decide)]
      decide
    · show I6 (z + 5) k = nI (m.row k) ∧ m.row k < B.nT
      rw [f6 k hk, a6 k (by omega)]
      exact ⟨rfl, hk⟩
  exact am_ret dX13_begin_182 rfl ⟨_, rfl, rfl, I6, rfl, rs, fun x j q => by rw [o _ _ (by omega) (by omega) (by omega) (by omega), if_neg (by omega)]⟩
end Bg

