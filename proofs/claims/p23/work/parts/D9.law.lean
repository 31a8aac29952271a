theorem dL_law_0 : decode cL_law 0 = .ok (.aload_n 0, 1) := by decide +kernel
theorem dL_law_1 : decode cL_law 1 = .ok (.invokestatic 86, 3) := by decide +kernel
theorem dL_law_4 : decode cL_law 4 = .ok (.astore_n 1, 1) := by decide +kernel
theorem dL_law_5 : decode cL_law 5 = .ok (.aload_n 1, 1) := by decide +kernel
theorem dL_law_6 : decode cL_law 6 = .ok (.ldc 90, 2) := by decide +kernel
theorem dL_law_8 : decode cL_law 8 = .ok (.invokestatic 43, 3) := by decide +kernel
theorem dL_law_11 : decode cL_law 11 = .ok (.aload_n 1, 1) := by decide +kernel
theorem dL_law_12 : decode cL_law 12 = .ok (.invokevirtual 92, 3) := by decide +kernel
theorem dL_law_15 : decode cL_law 15 = .ok (.ifCond .eq 5, 3) := by decide +kernel
theorem dL_law_20 : decode cL_law 20 = .ok (.iconst 0, 1) := by decide +kernel
theorem dL_law_21 : decode cL_law 21 = .ok (.istore_n 2, 1) := by decide +kernel
theorem dL_law_22 : decode cL_law 22 = .ok (.iconst 0, 1) := by decide +kernel
theorem dL_law_23 : decode cL_law 23 = .ok (.istore_n 3, 1) := by decide +kernel
theorem dL_law_24 : decode cL_law 24 = .ok (.iload_n 3, 1) := by decide +kernel
theorem dL_law_25 : decode cL_law 25 = .ok (.bipush 12, 2) := by decide +kernel
theorem dL_law_27 : decode cL_law 27 = .ok (.if_icmp .ge 444, 3) := by decide +kernel
theorem dL_law_30 : decode cL_law 30 = .ok (.aload_n 0, 1) := by decide +kernel
theorem dL_law_31 : decode cL_law 31 = .ok (.bipush 9, 2) := by decide +kernel
theorem dL_law_33 : decode cL_law 33 = .ok (.iload_n 3, 1) := by decide +kernel
theorem dL_law_34 : decode cL_law 34 = .ok (.iadd, 1) := by decide +kernel
theorem dL_law_35 : decode cL_law 35 = .ok (.invokestatic 48, 3) := by decide +kernel
theorem dL_law_38 : decode cL_law 38 = .ok (.iconst 2, 1) := by decide +kernel
theorem dL_law_39 : decode cL_law 39 = .ok (.ishr, 1) := by decide +kernel
theorem dL_law_40 : decode cL_law 40 = .ok (.istore 4, 2) := by decide +kernel
theorem dL_law_42 : decode cL_law 42 = .ok (.aload_n 1, 1) := by decide +kernel
theorem dL_law_43 : decode cL_law 43 = .ok (.invokevirtual 95, 3) := by decide +kernel
theorem dL_law_46 : decode cL_law 46 = .ok (.lstore 5, 2) := by decide +kernel
theorem dL_law_48 : decode cL_law 48 = .ok (.aload_n 1, 1) := by decide +kernel
theorem dL_law_49 : decode cL_law 49 = .ok (.iconst 2, 1) := by decide +kernel
theorem dL_law_50 : decode cL_law 50 = .ok (.iconst 1, 1) := by decide +kernel
theorem dL_law_51 : decode cL_law 51 = .ok (.invokevirtual 99, 3) := by decide +kernel
theorem dL_law_54 : decode cL_law 54 = .ok (.istore 7, 2) := by decide +kernel
theorem dL_law_56 : decode cL_law 56 = .ok (.aload_n 1, 1) := by decide +kernel
theorem dL_law_57 : decode cL_law 57 = .ok (.iload 4, 2) := by decide +kernel
theorem dL_law_59 : decode cL_law 59 = .ok (.iconst 2, 1) := by decide +kernel
theorem dL_law_60 : decode cL_law 60 = .ok (.invokestatic 56, 3) := by decide +kernel
theorem dL_law_63 : decode cL_law 63 = .ok (.iload 4, 2) := by decide +kernel
theorem dL_law_65 : decode cL_law 65 = .ok (.iconst 1, 1) := by decide +kernel
theorem dL_law_66 : decode cL_law 66 = .ok (.ishr, 1) := by decide +kernel
theorem dL_law_67 : decode cL_law 67 = .ok (.iconst 2, 1) := by decide +kernel
theorem dL_law_68 : decode cL_law 68 = .ok (.invokestatic 56, 3) := by decide +kernel
theorem dL_law_71 : decode cL_law 71 = .ok (.invokevirtual 102, 3) := by decide +kernel
theorem dL_law_74 : decode cL_law 74 = .ok (.istore 8, 2) := by decide +kernel
theorem dL_law_76 : decode cL_law 76 = .ok (.aload_n 1, 1) := by decide +kernel
theorem dL_law_77 : decode cL_law 77 = .ok (.invokevirtual 95, 3) := by decide +kernel
theorem dL_law_80 : decode cL_law 80 = .ok (.lload 5, 2) := by decide +kernel
theorem dL_law_82 : decode cL_law 82 = .ok (.lcmp, 1) := by decide +kernel
theorem dL_law_83 : decode cL_law 83 = .ok (.ifCond .ne 15, 3) := by decide +kernel
theorem dL_law_86 : decode cL_law 86 = .ok (.iload 8, 2) := by decide +kernel
theorem dL_law_88 : decode cL_law 88 = .ok (.ifCond .eq 10, 3) := by decide +kernel
theorem dL_law_91 : decode cL_law 91 = .ok (.iload 8, 2) := by decide +kernel
theorem dL_law_93 : decode cL_law 93 = .ok (.bipush 99, 2) := by decide +kernel
theorem dL_law_95 : decode cL_law 95 = .ok (.if_icmp .le 5, 3) := by decide +kernel
theorem dL_law_100 : decode cL_law 100 = .ok (.iload 4, 2) := by decide +kernel
theorem dL_law_102 : decode cL_law 102 = .ok (.iconst 4, 1) := by decide +kernel
theorem dL_law_103 : decode cL_law 103 = .ok (.invokestatic 56, 3) := by decide +kernel
theorem dL_law_106 : decode cL_law 106 = .ok (.ifCond .ne 27, 3) := by decide +kernel
theorem dL_law_109 : decode cL_law 109 = .ok (.aload_n 1, 1) := by decide +kernel
theorem dL_law_110 : decode cL_law 110 = .ok (.iload 4, 2) := by decide +kernel
theorem dL_law_112 : decode cL_law 112 = .ok (.iconst 2, 1) := by decide +kernel
theorem dL_law_113 : decode cL_law 113 = .ok (.ishr, 1) := by decide +kernel
theorem dL_law_114 : decode cL_law 114 = .ok (.iconst 2, 1) := by decide +kernel
theorem dL_law_115 : decode cL_law 115 = .ok (.invokestatic 56, 3) := by decide +kernel
theorem dL_law_118 : decode cL_law 118 = .ok (.iload 4, 2) := by decide +kernel
theorem dL_law_120 : decode cL_law 120 = .ok (.iconst 3, 1) := by decide +kernel
theorem dL_law_121 : decode cL_law 121 = .ok (.ishr, 1) := by decide +kernel
theorem dL_law_122 : decode cL_law 122 = .ok (.iconst 2, 1) := by decide +kernel
theorem dL_law_123 : decode cL_law 123 = .ok (.invokestatic 56, 3) := by decide +kernel
theorem dL_law_126 : decode cL_law 126 = .ok (.invokevirtual 105, 3) := by decide +kernel
theorem dL_law_129 : decode cL_law 129 = .ok (.pop, 1) := by decide +kernel
theorem dL_law_130 : decode cL_law 130 = .ok (.goto 59, 3) := by decide +kernel
theorem dL_law_133 : decode cL_law 133 = .ok (.iload 4, 2) := by decide +kernel
theorem dL_law_135 : decode cL_law 135 = .ok (.iconst 4, 1) := by decide +kernel
theorem dL_law_136 : decode cL_law 136 = .ok (.invokestatic 56, 3) := by decide +kernel
theorem dL_law_139 : decode cL_law 139 = .ok (.iconst 1, 1) := by decide +kernel
theorem dL_law_140 : decode cL_law 140 = .ok (.if_icmp .ne 28, 3) := by decide +kernel
theorem dL_law_143 : decode cL_law 143 = .ok (.aload_n 1, 1) := by decide +kernel
theorem dL_law_144 : decode cL_law 144 = .ok (.iload 4, 2) := by decide +kernel
theorem dL_law_146 : decode cL_law 146 = .ok (.iconst 2, 1) := by decide +kernel
theorem dL_law_147 : decode cL_law 147 = .ok (.ishr, 1) := by decide +kernel
theorem dL_law_148 : decode cL_law 148 = .ok (.iconst 2, 1) := by decide +kernel
theorem dL_law_149 : decode cL_law 149 = .ok (.invokestatic 56, 3) := by decide +kernel
theorem dL_law_152 : decode cL_law 152 = .ok (.iload 4, 2) := by decide +kernel
theorem dL_law_154 : decode cL_law 154 = .ok (.iconst 4, 1) := by decide +kernel
theorem dL_law_155 : decode cL_law 155 = .ok (.ishr, 1) := by decide +kernel
theorem dL_law_156 : decode cL_law 156 = .ok (.bipush 21, 2) := by decide +kernel
theorem dL_law_158 : decode cL_law 158 = .ok (.invokestatic 56, 3) := by decide +kernel
theorem dL_law_161 : decode cL_law 161 = .ok (.invokevirtual 108, 3) := by decide +kernel
theorem dL_law_164 : decode cL_law 164 = .ok (.pop, 1) := by decide +kernel
theorem dL_law_165 : decode cL_law 165 = .ok (.goto 24, 3) := by decide +kernel
theorem dL_law_168 : decode cL_law 168 = .ok (.aload_n 1, 1) := by decide +kernel
theorem dL_law_169 : decode cL_law 169 = .ok (.iconst 2, 1) := by decide +kernel
theorem dL_law_170 : decode cL_law 170 = .ok (.invokevirtual 111, 3) := by decide +kernel
theorem dL_law_173 : decode cL_law 173 = .ok (.ifCond .lt 14, 3) := by decide +kernel
theorem dL_law_176 : decode cL_law 176 = .ok (.aload_n 1, 1) := by decide +kernel
theorem dL_law_177 : decode cL_law 177 = .ok (.bipush 7, 2) := by decide +kernel
theorem dL_law_179 : decode cL_law 179 = .ok (.invokevirtual 25, 3) := by decide +kernel
theorem dL_law_182 : decode cL_law 182 = .ok (.iload 7, 2) := by decide +kernel
theorem dL_law_184 : decode cL_law 184 = .ok (.if_icmp .eq 5, 3) := by decide +kernel
theorem dL_law_471 : decode cL_law 471 = .ok (.iconst 1, 1) := by decide +kernel
theorem dL_law_472 : decode cL_law 472 = .ok (.ireturn, 1) := by decide +kernel
/-! the law: a step, the loop, and the whole of it from its entry -/
section Lp
variable {G : Gp} {S : AMem} {I : Nat → Nat → Int32} {J : Nat → Nat → Int64} {R : Nat → Nat → Option Nat} {x : Nat} {E : Tp} {B : BS} {m : MS} {er : Int32} {n a b0 L : Nat} {b : Nat} {xs : Nat → Int32} {Z : StA} {Q : (Option AV ⊕ Nat) → AMem → Prop}
abbrev L11 (b0 x h t : Nat) : List (Option AV) := [some (vR b0), some (vR x), some (vI (nI h)), some (vI (nI t)), none, none, none, none, none, none, none]
theorem kl_step {t : Nat} (hG : okG G) (hsc : Sc G b0 L xs) (hL : L < 2 ^ 31) (ht : t < 12) (hB : BF B) (hI : Iv m n a b) (hn : n ≤ 6 * t) (h : XW kwK S x (E, B, m, er) I J R) (K : ∀ I1 J1 R1 m1 n1 a1 b1, XW kwK S x (E, B, m1, er) I1 J1 R1 → Iv m1 n1 a1 b1 → n1 ≤ 6 * (t + 1) → MW G mL_law 2046 24 (L11 b0 x (5 * a1 + 2 * b1) (t + 1)) [] (mw S I1 J1 R1) Q) : MW G mL_law 2046 24 (L11 b0 x (5 * a + 2 * b) t) [] (mw S I J R) Q := by
  have kx := h.kx
  have nF : B.nF = 2 := hB.1.2.1
  have nR : B.nR = 2 := hB.1.1
  have go : ∀ {I1 J1 R1} (m1 : MS) (n1 a1 b1 : Nat) {o4 o5 o6 o7 o9 o10 : Option AV} {nv : Int32}, XW kwK S x (E, B, m1, er) I1 J1 R1 → Iv m1 n1 a1 b1 → n1 ≤ n + 6 → a ≤ a1 → b ≤ b1 → MW G mL_law 2046 189 [some (vR b0), some (vR x), some (vI (nI (5 * a + 2 * b))), some (vI (nI t)), o4, o5, o6, o7, some (vI nv), o9, o10] [] (mw S I1 J1 R1) Q := fun m1 n1 a1 b1 _ _ _ _ _ _ _ h1 i1 l1 l2 l3 => kt_all hG hB i1 (by omega) h1 (by omega) (fun I2 J2 R2 h2 => K I2 J2 R2 m1 n1 a1 b1 h2 i1 (by omega))
  clear K
  refine am_iload_n (q := 25) dL_law_24 rfl rfl ?_
  refine am_bipush (q := 27) (v := 12) dL_law_25 kc_b12 rfl ?_
  refine am_icmp_ge (tgt := 471) (q := 30) dL_law_27 rfl rfl (fun hz => absurd hz (nI_ge ht (by decide))) (fun _ => ?_)
  refine am_aload_n (q := 31) dL_law_30 rfl rfl ?_
  refine am_bipush (q := 33) (v := 9) dL_law_31 kc_b9 rfl ?_
  refine am_iload_n (q := 34) dL_law_33 rfl rfl ?_
  refine am_iadd (q := 35) dL_law_34 rfl ?_
  refine am_call1 (q := 38) (As := [_, _]) hG dL_law_35 mlL_48 rfl (Nat.le_of_ble_eq_true rfl) (Nat.le_of_ble_eq_true rfl) (Nat.le_of_ble_eq_true rfl) (kl_cell hsc hL (nI_add 9 t) (by omega)) rfl ?_
  rintro _ _ ⟨c, rfl, rfl⟩
  refine am_iconst (q := 39) (v := 2) dL_law_38 kc_i2 rfl ?_
  refine am_ishr (q := 40) dL_law_39 rfl ?_
  generalize c >>> ((2 : Int32) &&& 31) = y
  have dg := fun I1 J1 R1 (h1 : XW kwK S x (E, B, m, er) I1 J1 R1) => kf_digest hG h1
  generalize digM (XS.B (E, B, m, er)) (XS.m (E, B, m, er)) (dgC (XS.E (E, B, m, er)) (XS.B (E, B, m, er)) (XS.m (E, B, m, er)) 10 761) = dv at dg
  refine am_istore (q := 42) (ls1 := [_, _, _, _, _, _, _, _, _, _, _]) dL_law_40 (Nat.le_of_ble_eq_true rfl) rfl rfl ?_
  refine am_aload_n (q := 43) dL_law_42 rfl rfl ?_
  refine cm_call0 (q := 46) (As := []) hG dL_law_43 mlL_95 rfl (by assumption) ⟨_, _, rfl⟩ (Nat.le_of_ble_eq_true rfl) (Nat.le_of_ble_eq_true rfl) (Nat.le_of_ble_eq_true rfl) (Nat.le_of_ble_eq_true rfl) (dg _ _ _ h) rfl ?_
  rintro _ _ ⟨rfl, I1, J1, R1, rfl, h1⟩
  refine am_lstore (q := 48) (ls1 := [_, _, _, _, _, _, _, _, _, _, _]) dL_law_46 (Nat.le_of_ble_eq_true rfl) rfl rfl ?_
  refine am_aload_n (q := 49) dL_law_48 rfl rfl ?_
  refine am_iconst (q := 50) (v := 2) dL_law_49 kc_i2 rfl ?_
  refine am_iconst (q := 51) (v := 1) dL_law_50 kc_i1 rfl ?_
  refine cm_call0 (q := 54) (As := [_, _]) hG dL_law_51 mlL_99 rfl (by assumption) ⟨_, _, rfl⟩ (Nat.le_of_ble_eq_true rfl) (Nat.le_of_ble_eq_true rfl) (Nat.le_of_ble_eq_true rfl) (Nat.le_of_ble_eq_true rfl) (kf_foresee hG h1) rfl ?_
  rintro _ _ ⟨rfl, I2, J2, R2, rfl, h2⟩
  refine am_istore (q := 56) (ls1 := [_, _, _, _, _, _, _, _, _, _, _]) dL_law_54 (Nat.le_of_ble_eq_true rfl) rfl rfl ?_
  refine am_aload_n (q := 57) dL_law_56 rfl rfl ?_
  refine am_iload (q := 59) dL_law_57 rfl rfl ?_
  refine am_iconst (q := 60) (v := 2) dL_law_59 kc_i2 rfl ?_
  refine am_call1 (q := 63) (As := [_, _]) hG dL_law_60 mlL_56 rfl (Nat.le_of_ble_eq_true rfl) (Nat.le_of_ble_eq_true rfl) (Nat.le_of_ble_eq_true rfl) (kl_below (N := 2) rfl (by decide) (by decide)) rfl ?_
  rintro _ _ ⟨k1, hk1, rfl, rfl⟩
  refine am_iload (q := 65) dL_law_63 rfl rfl ?_
  refine am_iconst (q := 66) (v := 1) dL_law_65 kc_i1 rfl ?_
  refine am_ishr (q := 67) dL_law_66 rfl ?_
  refine am_iconst (q := 68) (v := 2) dL_law_67 kc_i2 rfl ?_
  refine am_call1 (q := 71) (As := [_, _]) hG dL_law_68 mlL_56 rfl (Nat.le_of_ble_eq_true rfl) (Nat.le_of_ble_eq_true rfl) (Nat.le_of_ble_eq_true rfl) (kl_below (N := 2) rfl (by decide) (by decide)) rfl ?_
  rintro _ _ ⟨k2, hk2, rfl, rfl⟩
  have nd := kf_needs (i := nI k1) (k := nI k2) hG h2 (two_in k1 rfl hk1 nF) (two_in k2 rfl hk2 nR)
  obtain ⟨v, ev, v0, v9⟩ := nds_ok (B := B) (m := m) (f := (nI k1).toNatClampNeg) (r := (nI k2).toNatClampNeg) 99 1 (by decide) (by decide)
  rw [show ndsM (XS.B (E, B, m, er)) (XS.m (E, B, m, er)) (nI k1).toNatClampNeg (nI k2).toNatClampNeg 1 99 = v from ev] at nd
  clear ev
  refine cm_call0 (q := 74) (As := [_, _]) hG dL_law_71 mlL_102 rfl (by assumption) ⟨_, _, rfl⟩ (Nat.le_of_ble_eq_true rfl) (Nat.le_of_ble_eq_true rfl) (Nat.le_of_ble_eq_true rfl) (Nat.le_of_ble_eq_true rfl) nd rfl ?_
  rintro _ _ ⟨rfl, I3, J3, R3, rfl, h3⟩
  refine am_istore (q := 76) (ls1 := [_, _, _, _, _, _, _, _, _, _, _]) dL_law_74 (Nat.le_of_ble_eq_true rfl) rfl rfl ?_
  refine am_aload_n (q := 77) dL_law_76 rfl rfl ?_
  refine cm_call0 (q := 80) (As := []) hG dL_law_77 mlL_95 rfl (by assumption) ⟨_, _, rfl⟩ (Nat.le_of_ble_eq_true rfl) (Nat.le_of_ble_eq_true rfl) (Nat.le_of_ble_eq_true rfl) (Nat.le_of_ble_eq_true rfl) (dg _ _ _ h3) rfl ?_
  rintro _ _ ⟨rfl, I4, J4, R4, rfl, h4⟩
  refine am_lload (q := 82) dL_law_80 rfl rfl ?_
  clear dg nd
  refine am_lcmp (q := 83) dL_law_82 rfl ?_
  refine am_if_ne (tgt := 98) (q := 86) dL_law_83 rfl rfl (fun hz => absurd ((lg_cmp_eq dv dv).mpr rfl) hz) (fun _ => ?_)
  refine am_iload (q := 88) dL_law_86 rfl rfl ?_
  refine am_if_eq (tgt := 98) (q := 91) dL_law_88 rfl rfl (fun hz => absurd hz v0) (fun _ => ?_)
  refine am_iload (q := 93) dL_law_91 rfl rfl ?_
  refine am_bipush (q := 95) (v := 99) dL_law_93 kc_b99 rfl ?_
  refine am_icmp_le (tgt := 100) (q := 98) dL_law_95 rfl rfl (fun _ => ?_) (fun hz => absurd v9 hz)
  generalize hpl : pursM (XS.B (E, B, m, er)) (plyM (XS.B (E, B, m, er)) 2 (XS.m (E, B, m, er))) = sn
  have hpl : pursM B (plyM B 2 m) = sn := hpl
  refine am_iload (q := 102) dL_law_100 rfl rfl ?_
  refine am_iconst (q := 103) (v := 4) dL_law_102 kc_i4 rfl ?_
  refine am_call1 (q := 106) (As := [_, _]) hG dL_law_103 mlL_56 rfl (Nat.le_of_ble_eq_true rfl) (Nat.le_of_ble_eq_true rfl) (Nat.le_of_ble_eq_true rfl) (kl_below (N := 4) rfl (by decide) (by decide)) rfl ?_
  rintro _ _ ⟨k3, hk3, rfl, rfl⟩
  refine am_if_ne (tgt := 133) (q := 109) dL_law_106 rfl rfl (fun hc3 => ?_) (fun hc3 => ?_)
  · refine am_iload (q := 135) dL_law_133 rfl rfl ?_
    refine am_iconst (q := 136) (v := 4) dL_law_135 kc_i4 rfl ?_
    refine am_call1 (q := 139) (As := [_, _]) hG dL_law_136 mlL_56 rfl (Nat.le_of_ble_eq_true rfl) (Nat.le_of_ble_eq_true rfl) (Nat.le_of_ble_eq_true rfl) (kl_below (N := 4) rfl (by decide) (by decide)) rfl ?_
    rintro _ _ ⟨k4, hk4, rfl, rfl⟩
    refine am_iconst (q := 140) (v := 1) dL_law_139 kc_i1 rfl ?_
    refine am_icmp_ne (tgt := 168) (q := 143) dL_law_140 rfl rfl (fun hc4 => ?_) (fun hc4 => ?_)
    · obtain ⟨n1, a1, b1, i1, l1, l2, l3⟩ := ply_iv hB 2 m n a b hI
      have ps := kf_pass hG h4
      have gv : gvnM B (plyM B 2 m) - gvnM B m = nI (a1 + b1 - (a + b)) := by
        rw [iv_gvn hB i1, iv_gvn hB hI]
        exact k_nsub (by omega)
      have q1 := i1.2.1.1
      have q2 := i1.2.2.1.1
      rw [show gvnM (XS.B (E, B, m, er)) (plyM (XS.B (E, B, m, er)) 2 (XS.m (E, B, m, er))) - gvnM (XS.B (E, B, m, er)) (XS.m (E, B, m, er)) = _ from gv] at ps
      refine am_aload_n (q := 169) dL_law_168 rfl rfl ?_
      refine am_iconst (q := 170) (v := 2) dL_law_169 kc_i2 rfl ?_
      refine cm_call0 (q := 173) (As := [_]) hG dL_law_170 mlL_111 rfl (by assumption) ⟨_, _, rfl⟩ (Nat.le_of_ble_eq_true rfl) (Nat.le_of_ble_eq_true rfl) (Nat.le_of_ble_eq_true rfl) (Nat.le_of_ble_eq_true rfl) ps rfl ?_
      rintro _ _ ⟨rfl, I5, J5, R5, rfl, h5⟩
      refine am_if_lt (tgt := 187) (q := 176) dL_law_173 rfl rfl (fun hz => absurd hz (nI_pos (by omega))) (fun _ => ?_)
      have h5 : XW kwK S x (E, B, plyM B 2 m, er) I5 J5 R5 := h5
      have c7 := kr_c7 hG h5
      rw [hpl] at c7
      refine am_aload_n (q := 177) dL_law_176 rfl rfl ?_
      refine am_bipush (q := 179) (v := 7) dL_law_177 kc_b7 rfl ?_
      refine cm_call0 (q := 182) (As := [_]) hG dL_law_179 mlL_25 rfl (by assumption) ⟨_, _, rfl⟩ (Nat.le_of_ble_eq_true rfl) (Nat.le_of_ble_eq_true rfl) (Nat.le_of_ble_eq_true rfl) (Nat.le_of_ble_eq_true rfl) c7 rfl ?_
      rintro _ _ ⟨rfl, I6, J6, R6, rfl, h6⟩
      refine am_iload (q := 184) dL_law_182 rfl rfl ?_
      refine am_icmp_eq (tgt := 189) (q := 187) dL_law_184 rfl rfl (fun _ => ?_) (fun hz => absurd rfl hz)
      exact go _ n1 a1 b1 h6 i1 (by omega) l2 l3
    · refine am_aload_n (q := 144) dL_law_143 rfl rfl ?_
      refine am_iload (q := 146) dL_law_144 rfl rfl ?_
      refine am_iconst (q := 147) (v := 2) dL_law_146 kc_i2 rfl ?_
      refine am_ishr (q := 148) dL_law_147 rfl ?_
      refine am_iconst (q := 149) (v := 2) dL_law_148 kc_i2 rfl ?_
      refine am_call1 (q := 152) (As := [_, _]) hG dL_law_149 mlL_56 rfl (Nat.le_of_ble_eq_true rfl) (Nat.le_of_ble_eq_true rfl) (Nat.le_of_ble_eq_true rfl) (kl_below (N := 2) rfl (by decide) (by decide)) rfl ?_
      rintro _ _ ⟨k5, hk5, rfl, rfl⟩
      refine am_iload (q := 154) dL_law_152 rfl rfl ?_
      refine am_iconst (q := 155) (v := 4) dL_law_154 kc_i4 rfl ?_
      refine am_ishr (q := 156) dL_law_155 rfl ?_
      refine am_bipush (q := 158) (v := 21) dL_law_156 kc_b21 rfl ?_
      refine am_call1 (q := 161) (As := [_, _]) hG dL_law_158 mlL_56 rfl (Nat.le_of_ble_eq_true rfl) (Nat.le_of_ble_eq_true rfl) (Nat.le_of_ble_eq_true rfl) (kl_below (N := 21) rfl (by decide) (by decide)) rfl ?_
      rintro _ _ ⟨k6, hk6, rfl, rfl⟩
      have wd := kf_wind (k := nI k5) (v := nI k6) hG h4 (two_in k5 rfl hk5 nR) ⟨nI_pos' (by omega), nI_le (b := 20) (by omega) (by decide)⟩
      refine cm_call0 (q := 164) (As := [_, _]) hG dL_law_161 mlL_108 rfl (by assumption) ⟨_, _, rfl⟩ (Nat.le_of_ble_eq_true rfl) (Nat.le_of_ble_eq_true rfl) (Nat.le_of_ble_eq_true rfl) (Nat.le_of_ble_eq_true rfl) wd rfl ?_
      rintro _ _ ⟨rfl, I5, J5, R5, rfl, h5⟩
      refine am_pop (q := 165) dL_law_164 rfl rfl ?_
      refine am_goto (tgt := 189) dL_law_165 rfl ?_
      exact go _ n a b h5 (wnd_iv hI) (by omega) (Nat.le_refl _) (Nat.le_refl _)
  · refine am_aload_n (q := 110) dL_law_109 rfl rfl ?_
    refine am_iload (q := 112) dL_law_110 rfl rfl ?_
    refine am_iconst (q := 113) (v := 2) dL_law_112 kc_i2 rfl ?_
    refine am_ishr (q := 114) dL_law_113 rfl ?_
    refine am_iconst (q := 115) (v := 2) dL_law_114 kc_i2 rfl ?_
    refine am_call1 (q := 118) (As := [_, _]) hG dL_law_115 mlL_56 rfl (Nat.le_of_ble_eq_true rfl) (Nat.le_of_ble_eq_true rfl) (Nat.le_of_ble_eq_true rfl) (kl_below (N := 2) rfl (by decide) (by decide)) rfl ?_
    rintro _ _ ⟨k5, hk5, rfl, rfl⟩
    refine am_iload (q := 120) dL_law_118 rfl rfl ?_
    refine am_iconst (q := 121) (v := 3) dL_law_120 kc_i3 rfl ?_
    refine am_ishr (q := 122) dL_law_121 rfl ?_
    refine am_iconst (q := 123) (v := 2) dL_law_122 kc_i2 rfl ?_
    refine am_call1 (q := 126) (As := [_, _]) hG dL_law_123 mlL_56 rfl (Nat.le_of_ble_eq_true rfl) (Nat.le_of_ble_eq_true rfl) (Nat.le_of_ble_eq_true rfl) (kl_below (N := 2) rfl (by decide) (by decide)) rfl ?_
    rintro _ _ ⟨k6, hk6, rfl, rfl⟩
    have sk := kf_strike (i := nI k5) (k := nI k6) hG h4 (two_in k5 rfl hk5 nF) (two_in k6 rfl hk6 nR)
    obtain ⟨a1, b1, i1, l2, l3⟩ := hit_iv hB hk5 hk6 hI
    rw [nI_clamp (by omega), nI_clamp (by omega)] at sk
    refine cm_call0 (q := 129) (As := [_, _]) hG dL_law_126 mlL_105 rfl (by assumption) ⟨_, _, rfl⟩ (Nat.le_of_ble_eq_true rfl) (Nat.le_of_ble_eq_true rfl) (Nat.le_of_ble_eq_true rfl) (Nat.le_of_ble_eq_true rfl) sk rfl ?_
    rintro _ _ ⟨rfl, I5, J5, R5, rfl, h5⟩
    refine am_pop (q := 130) dL_law_129 rfl rfl ?_
    refine am_goto (tgt := 189) dL_law_130 rfl ?_
    exact go _ (n + 1) a1 b1 h5 i1 (by omega) l2 l3
theorem kl_loop (hG : okG G) (hsc : Sc G b0 L xs) (hL : L < 2 ^ 31) (hB : BF B) (hI : Iv m 0 0 0) (h : XW kwK S x (E, B, m, er) I J R) (K : ∀ I1 J1 R1, Q (.inl (some (vI 1))) (mw S I1 J1 R1)) : MW G mL_law 2046 24 (L11 b0 x 0 0) [] (mw S I J R) Q := by
  refine k_loop (σ := (Nat → Nat → Int32) × (Nat → Nat → Int64) × (Nat → Nat → Option Nat) × MS × Nat × Nat × Nat) (n := 12) (Inv := fun t s => XW kwK S x (E, B, s.2.2.2.1, er) s.1 s.2.1 s.2.2.1 ∧ Iv s.2.2.2.1 s.2.2.2.2.1 s.2.2.2.2.2.1 s.2.2.2.2.2.2 ∧ s.2.2.2.2.1 ≤ 6 * t) (W := fun t s => MW G mL_law 2046 24 (L11 b0 x (5 * s.2.2.2.2.2.1 + 2 * s.2.2.2.2.2.2) t) [] (mw S s.1 s.2.1 s.2.2.1) Q) ?_ ?_ 0 (I, J, R, m, 0, 0, 0) (Nat.zero_le _) ⟨h, hI, Nat.zero_le _⟩
  · rintro t ⟨I0, J0, R0, m0, n0, a0, c0⟩ ht ⟨h0, i0, l0⟩ ih
    exact kl_step hG hsc hL ht hB i0 l0 h0 (fun I1 J1 R1 m1 n1 a1 b1 h1 i1 l1 => ih (I1, J1, R1, m1, n1, a1, b1) ⟨h1, i1, l1⟩)
  · rintro ⟨I0, J0, R0, m0, n0, a0, c0⟩ ⟨h0, i0, l0⟩
    refine am_iload_n (q := 25) dL_law_24 rfl rfl ?_
    refine am_bipush (q := 27) (v := 12) dL_law_25 kc_b12 rfl ?_
    refine am_icmp_ge (tgt := 471) (q := 30) dL_law_27 rfl rfl (fun _ => ?_) (fun hz => absurd (Int32.le_refl _) hz)
    refine am_iconst (q := 472) (v := 1) dL_law_471 kc_i1 rfl ?_
    exact am_iret dL_law_472 rfl rfl (K _ _ _)
theorem bil_bf (r0 r1 : H3) (u0 u1 u2 : H4) (f0 f1 : H3) : BF (bilB r0 r1 u0 u1 u2 f0 f1) := by
  refine ⟨⟨rfl, rfl, rfl, rfl⟩, fun i hi => ?_, fun rd => ?_, fun rd => ?_⟩
  · rcases (show i = 0 ∨ i = 1 ∨ i = 2 by omega) with e | e | e
    · subst e
      exact ⟨Nat.le_of_ble_eq_true rfl, Nat.le_of_ble_eq_true rfl⟩
    · subst e
      exact ⟨Nat.le_of_ble_eq_true rfl, Nat.le_of_ble_eq_true rfl⟩
    · subst e
      exact ⟨Nat.le_of_ble_eq_true rfl, Nat.le_of_ble_eq_true rfl⟩
  · show (stE rd 259 5 []).headD 0 = nI 5
    unfold stE
    rw [if_pos rfl]
    rfl
  · show (stE rd 259 2 []).headD 0 = nI 2
    unfold stE
    rw [if_pos rfl]
    rfl
theorem bil_iv {r0 r1 : H3} {u0 u1 u2 : H4} {f0 f1 : H3} (hr : okR r0 ∧ okR r1) {g : Nat → Int32} (g3 : g 3 = 0) (g4 : g 4 = 0) : Iv (mkMS (bilM r0 r1 u0 u1 u2 f0 f1).fist (bilM r0 r1 u0 u1 u2 f0 f1).rail (bilM r0 r1 u0 u1 u2 f0 f1).prize g (bilM r0 r1 u0 u1 u2 f0 f1).row (bilM r0 r1 u0 u1 u2 f0 f1).bd (bilM r0 r1 u0 u1 u2 f0 f1).nb) 0 0 0 := by
  have two : ∀ {P : Nat → Prop}, P 0 → P 1 → ∀ k, k < 2 → P k := fun {P} h0 h1 k hk => by
    rcases (show k = 0 ∨ k = 1 by omega) with e | e
    · subst e; exact h0
    · subst e; exact h1
  refine ⟨⟨0, 0, rfl, rfl, rfl⟩, ⟨Nat.zero_le _, rfl, rfl⟩, ⟨Nat.zero_le _, rfl, rfl⟩, ⟨0, 0, rfl, rfl, rfl⟩, ⟨0, 0, rfl, rfl, rfl⟩, ⟨g3, ?_, rfl⟩, two ⟨0, Nat.zero_le _, rfl⟩ ⟨0, Nat.zero_le _, rfl⟩, two ?_ ?_, two (Or.inl ?_) (Or.inl ?_), two ⟨_, hr.1.2.2.2.1, rfl⟩ ⟨_, hr.2.2.2.2.1, rfl⟩, fun k hk => ?_⟩
  · show (0 : Int32) + 0 = g 4
    rw [g4]
    rfl
  · have q := nI_pos' (n := r0.1) (by have := hr.1.2.1; omega)
    exact ⟨q, q⟩
  · have q := nI_pos' (n := r1.1) (by have := hr.2.2.1; omega)
    exact ⟨q, q⟩
  · exact Int32.le_refl _
  · exact Int32.le_refl _
  · rcases (show k = 0 ∨ k = 1 ∨ k = 2 by omega) with e | e | e
    · subst e
      exact Nat.le_of_ble_eq_true rfl
    · subst e
      exact Nat.le_of_ble_eq_true rfl
    · subst e
      exact Nat.le_of_ble_eq_true rfl
theorem kl_law {HB SB : Nat} (hG : okG G) (hZ : KS G Z) (hsc : Sc G b0 L xs) (hL : L < 2 ^ 31) (hF : Fr S I J R) (hH : S.hs + 11000 ≤ HB) (hS : S.sl + 400000 ≤ SB) : MW G mL_law 2046 0 (ent 11 [vR b0]) [] (mw S I J R) (fun f M1 => f = .inl (some (vI 1)) ∧ M1.hs ≤ HB ∧ M1.sl ≤ SB) := by
  refine am_aload_n (q := 1) dL_law_0 rfl rfl ?_
  refine am_call1 (q := 4) (As := [_]) hG dL_law_1 mlL_86 rfl (Nat.le_of_ble_eq_true rfl) (Nat.le_of_ble_eq_true rfl) (Nat.le_of_ble_eq_true rfl) (kl_contest hG hZ hsc hL hF) rfl ?_
  rintro _ _ ⟨rfl, P, I1, J1, R1, r0, r1, u0, u1, u2, f0, f1, rfl, z1, z2, hr, hu, hf, l1, hX⟩
  have kx := hX.kx
  refine am_astore_n (q := 5) (ls1 := [_, _, _, _, _, _, _, _, _, _, _]) dL_law_4 (Nat.le_of_ble_eq_true rfl) rfl rfl ?_
  refine am_aload_n (q := 6) dL_law_5 rfl rfl ?_
  refine am_ldcS (q := 8) dL_law_6 rfl (hZ.li (i := 14) (by decide)) rfl ?_
  refine am_call1 (q := 11) (As := [_, _]) hG dL_law_8 mlL_43 rfl (Nat.le_of_ble_eq_true rfl) (Nat.le_of_ble_eq_true rfl) (Nat.le_of_ble_eq_true rfl) (kl_say (i := 14) hG hZ (by decide) hX (by omega)) rfl ?_
  rintro _ _ ⟨rfl, I2, J2, R2, rfl, E, hE, hW⟩
  rw [allI_ren hu] at hE
  obtain ⟨c1, c2, c3⟩ := cut_toks (d := (0, 0)) (allI_ok hr hu hf) (Suf.of hE) (Nat.le_of_ble_eq_true rfl)
  have rd : rdB kwK E = _ := bil_rd hr hu hf ⟨c2, c3⟩
  have tc := kf_teach hG hZ hW
  have es : tchS kwK (E, BS0, MS0, -1) = ((0, E.2), bilB r0 r1 u0 u1 u2 f0 f1, mkMS (bilM r0 r1 u0 u1 u2 f0 f1).fist (bilM r0 r1 u0 u1 u2 f0 f1).rail (bilM r0 r1 u0 u1 u2 f0 f1).prize (up1 (bilM r0 r1 u0 u1 u2 f0 f1).g 0 (MS0.g 0)) (bilM r0 r1 u0 u1 u2 f0 f1).row (bilM r0 r1 u0 u1 u2 f0 f1).bd (bilM r0 r1 u0 u1 u2 f0 f1).nb, -1) := by
    unfold tchS
    rw [show XS.E (E, BS0, MS0, -1) = E from rfl, rd]
    rfl
  have ev : (rdB kwK (XS.E (E, BS0, MS0, -1))).P.2.1 = 0 := by
    rw [show XS.E (E, BS0, MS0, -1) = E from rfl, rd]
    rfl
  rw [es, ev] at tc
  clear es ev rd
  refine am_aload_n (q := 12) dL_law_11 rfl rfl ?_
  refine cm_call0 (q := 15) (As := []) hG dL_law_12 mlL_92 rfl (by assumption) ⟨_, _, rfl⟩ (Nat.le_of_ble_eq_true rfl) (Nat.le_of_ble_eq_true rfl) (Nat.le_of_ble_eq_true rfl) (Nat.le_of_ble_eq_true rfl) tc rfl ?_
  rintro _ _ ⟨rfl, I3, J3, R3, rfl, h3⟩
  refine am_if_eq (tgt := 20) (q := 18) dL_law_15 rfl rfl (fun _ => ?_) (fun hz => absurd rfl hz)
  refine am_iconst (q := 21) (v := 0) dL_law_20 kc_i0 rfl ?_
  refine am_istore_n (q := 22) (ls1 := [_, _, _, _, _, _, _, _, _, _, _]) dL_law_21 (Nat.le_of_ble_eq_true rfl) rfl rfl ?_
  refine am_iconst (q := 23) (v := 0) dL_law_22 kc_i0 rfl ?_
  refine am_istore_n (q := 24) (ls1 := [_, _, _, _, _, _, _, _, _, _, _]) dL_law_23 (Nat.le_of_ble_eq_true rfl) rfl rfl ?_
  refine kl_loop hG hsc hL (bil_bf r0 r1 u0 u1 u2 f0 f1) (bil_iv hr rfl rfl) h3 (fun I4 J4 R4 => ⟨rfl, ?_, ?_⟩)
  · show P.hs ≤ HB
    omega
  · show P.sl ≤ SB
    omega
end Lp

