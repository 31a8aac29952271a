theorem dX14_read_0 : decode cX14_read 0 = .ok (.aload_n 0, 1) := by decide +kernel
theorem dX14_read_1 : decode cX14_read 1 = .ok (.iload_n 2, 1) := by decide +kernel
theorem dX14_read_2 : decode cX14_read 2 = .ok (.invokevirtual 76, 3) := by decide +kernel
theorem dX14_read_5 : decode cX14_read 5 = .ok (.istore_n 3, 1) := by decide +kernel
theorem dX14_read_6 : decode cX14_read 6 = .ok (.aload_n 0, 1) := by decide +kernel
theorem dX14_read_7 : decode cX14_read 7 = .ok (.getfield 26, 3) := by decide +kernel
theorem dX14_read_10 : decode cX14_read 10 = .ok (.iload_n 1, 1) := by decide +kernel
theorem dX14_read_11 : decode cX14_read 11 = .ok (.iconst 1, 1) := by decide +kernel
theorem dX14_read_12 : decode cX14_read 12 = .ok (.iastore, 1) := by decide +kernel
theorem dX14_read_13 : decode cX14_read 13 = .ok (.aload_n 0, 1) := by decide +kernel
theorem dX14_read_14 : decode cX14_read 14 = .ok (.getfield 20, 3) := by decide +kernel
theorem dX14_read_17 : decode cX14_read 17 = .ok (.iload_n 1, 1) := by decide +kernel
theorem dX14_read_18 : decode cX14_read 18 = .ok (.iload_n 3, 1) := by decide +kernel
theorem dX14_read_19 : decode cX14_read 19 = .ok (.iastore, 1) := by decide +kernel
theorem dX14_read_20 : decode cX14_read 20 = .ok (.aload_n 0, 1) := by decide +kernel
theorem dX14_read_21 : decode cX14_read 21 = .ok (.getfield 17, 3) := by decide +kernel
theorem dX14_read_24 : decode cX14_read 24 = .ok (.iload_n 1, 1) := by decide +kernel
theorem dX14_read_25 : decode cX14_read 25 = .ok (.iload_n 2, 1) := by decide +kernel
theorem dX14_read_26 : decode cX14_read 26 = .ok (.aload_n 0, 1) := by decide +kernel
theorem dX14_read_27 : decode cX14_read 27 = .ok (.getfield 61, 3) := by decide +kernel
theorem dX14_read_30 : decode cX14_read 30 = .ok (.if_icmp .lt 7, 3) := by decide +kernel
theorem dX14_read_33 : decode cX14_read 33 = .ok (.iconst 0, 1) := by decide +kernel
theorem dX14_read_34 : decode cX14_read 34 = .ok (.goto 4, 3) := by decide +kernel
theorem dX14_read_37 : decode cX14_read 37 = .ok (.iconst 5, 1) := by decide +kernel
theorem dX14_read_38 : decode cX14_read 38 = .ok (.iastore, 1) := by decide +kernel
theorem dX14_read_39 : decode cX14_read 39 = .ok (.iload_n 3, 1) := by decide +kernel
theorem dX14_read_40 : decode cX14_read 40 = .ok (.invokestatic 83, 3) := by decide +kernel
theorem dX14_read_43 : decode cX14_read 43 = .ok (.ifCond .eq 9, 3) := by decide +kernel
theorem dX14_read_46 : decode cX14_read 46 = .ok (.aload_n 0, 1) := by decide +kernel
theorem dX14_read_47 : decode cX14_read 47 = .ok (.iload_n 1, 1) := by decide +kernel
theorem dX14_read_48 : decode cX14_read 48 = .ok (.iload_n 2, 1) := by decide +kernel
theorem dX14_read_49 : decode cX14_read 49 = .ok (.invokevirtual 87, 3) := by decide +kernel
theorem dX14_read_52 : decode cX14_read 52 = .ok (.iload_n 3, 1) := by decide +kernel
theorem dX14_read_53 : decode cX14_read 53 = .ok (.invokestatic 90, 3) := by decide +kernel
theorem dX14_read_56 : decode cX14_read 56 = .ok (.ifCond .eq 9, 3) := by decide +kernel
theorem dX14_read_59 : decode cX14_read 59 = .ok (.aload_n 0, 1) := by decide +kernel
theorem dX14_read_60 : decode cX14_read 60 = .ok (.iload_n 1, 1) := by decide +kernel
theorem dX14_read_61 : decode cX14_read 61 = .ok (.iload_n 2, 1) := by decide +kernel
theorem dX14_read_62 : decode cX14_read 62 = .ok (.invokevirtual 93, 3) := by decide +kernel
theorem dX14_read_65 : decode cX14_read 65 = .ok (.iload_n 3, 1) := by decide +kernel
theorem dX14_read_66 : decode cX14_read 66 = .ok (.bipush 40, 2) := by decide +kernel
theorem dX14_read_68 : decode cX14_read 68 = .ok (.if_icmp .eq 75, 3) := by decide +kernel
theorem dX14_read_71 : decode cX14_read 71 = .ok (.iload_n 3, 1) := by decide +kernel
theorem dX14_read_72 : decode cX14_read 72 = .ok (.bipush 41, 2) := by decide +kernel
theorem dX14_read_74 : decode cX14_read 74 = .ok (.if_icmp .eq 69, 3) := by decide +kernel
theorem dX14_read_77 : decode cX14_read 77 = .ok (.iload_n 3, 1) := by decide +kernel
theorem dX14_read_78 : decode cX14_read 78 = .ok (.bipush 91, 2) := by decide +kernel
theorem dX14_read_80 : decode cX14_read 80 = .ok (.if_icmp .eq 63, 3) := by decide +kernel
theorem dX14_read_83 : decode cX14_read 83 = .ok (.iload_n 3, 1) := by decide +kernel
theorem dX14_read_84 : decode cX14_read 84 = .ok (.bipush 93, 2) := by decide +kernel
theorem dX14_read_86 : decode cX14_read 86 = .ok (.if_icmp .eq 57, 3) := by decide +kernel
theorem dX14_read_89 : decode cX14_read 89 = .ok (.iload_n 3, 1) := by decide +kernel
theorem dX14_read_90 : decode cX14_read 90 = .ok (.bipush 59, 2) := by decide +kernel
theorem dX14_read_92 : decode cX14_read 92 = .ok (.if_icmp .eq 51, 3) := by decide +kernel
theorem dX14_read_95 : decode cX14_read 95 = .ok (.iload_n 3, 1) := by decide +kernel
theorem dX14_read_96 : decode cX14_read 96 = .ok (.bipush 44, 2) := by decide +kernel
theorem dX14_read_98 : decode cX14_read 98 = .ok (.if_icmp .eq 45, 3) := by decide +kernel
theorem dX14_read_101 : decode cX14_read 101 = .ok (.iload_n 3, 1) := by decide +kernel
theorem dX14_read_102 : decode cX14_read 102 = .ok (.bipush 43, 2) := by decide +kernel
theorem dX14_read_104 : decode cX14_read 104 = .ok (.if_icmp .eq 39, 3) := by decide +kernel
theorem dX14_read_107 : decode cX14_read 107 = .ok (.iload_n 3, 1) := by decide +kernel
theorem dX14_read_108 : decode cX14_read 108 = .ok (.bipush 45, 2) := by decide +kernel
theorem dX14_read_110 : decode cX14_read 110 = .ok (.if_icmp .eq 33, 3) := by decide +kernel
theorem dX14_read_113 : decode cX14_read 113 = .ok (.iload_n 3, 1) := by decide +kernel
theorem dX14_read_114 : decode cX14_read 114 = .ok (.bipush 42, 2) := by decide +kernel
theorem dX14_read_116 : decode cX14_read 116 = .ok (.if_icmp .eq 27, 3) := by decide +kernel
theorem dX14_read_119 : decode cX14_read 119 = .ok (.iload_n 3, 1) := by decide +kernel
theorem dX14_read_120 : decode cX14_read 120 = .ok (.bipush 47, 2) := by decide +kernel
theorem dX14_read_122 : decode cX14_read 122 = .ok (.if_icmp .eq 21, 3) := by decide +kernel
theorem dX14_read_125 : decode cX14_read 125 = .ok (.iload_n 3, 1) := by decide +kernel
theorem dX14_read_126 : decode cX14_read 126 = .ok (.bipush 60, 2) := by decide +kernel
theorem dX14_read_128 : decode cX14_read 128 = .ok (.if_icmp .eq 15, 3) := by decide +kernel
theorem dX14_read_131 : decode cX14_read 131 = .ok (.iload_n 3, 1) := by decide +kernel
theorem dX14_read_132 : decode cX14_read 132 = .ok (.bipush 62, 2) := by decide +kernel
theorem dX14_read_134 : decode cX14_read 134 = .ok (.if_icmp .eq 9, 3) := by decide +kernel
theorem dX14_read_137 : decode cX14_read 137 = .ok (.iload_n 3, 1) := by decide +kernel
theorem dX14_read_138 : decode cX14_read 138 = .ok (.bipush 61, 2) := by decide +kernel
theorem dX14_read_140 : decode cX14_read 140 = .ok (.if_icmp .ne 10, 3) := by decide +kernel
theorem dX14_read_143 : decode cX14_read 143 = .ok (.aload_n 0, 1) := by decide +kernel
theorem dX14_read_144 : decode cX14_read 144 = .ok (.getfield 17, 3) := by decide +kernel
theorem dX14_read_147 : decode cX14_read 147 = .ok (.iload_n 1, 1) := by decide +kernel
theorem dX14_read_148 : decode cX14_read 148 = .ok (.iconst 4, 1) := by decide +kernel
theorem dX14_read_149 : decode cX14_read 149 = .ok (.iastore, 1) := by decide +kernel
theorem dX14_read_150 : decode cX14_read 150 = .ok (.iload_n 3, 1) := by decide +kernel
theorem dX14_read_151 : decode cX14_read 151 = .ok (.bipush 60, 2) := by decide +kernel
theorem dX14_read_153 : decode cX14_read 153 = .ok (.if_icmp .eq 9, 3) := by decide +kernel
theorem dX14_read_156 : decode cX14_read 156 = .ok (.iload_n 3, 1) := by decide +kernel
theorem dX14_read_157 : decode cX14_read 157 = .ok (.bipush 62, 2) := by decide +kernel
theorem dX14_read_159 : decode cX14_read 159 = .ok (.if_icmp .ne 41, 3) := by decide +kernel
theorem dX14_read_162 : decode cX14_read 162 = .ok (.aload_n 0, 1) := by decide +kernel
theorem dX14_read_163 : decode cX14_read 163 = .ok (.iload_n 2, 1) := by decide +kernel
theorem dX14_read_164 : decode cX14_read 164 = .ok (.iconst 1, 1) := by decide +kernel
theorem dX14_read_165 : decode cX14_read 165 = .ok (.iadd, 1) := by decide +kernel
theorem dX14_read_166 : decode cX14_read 166 = .ok (.invokevirtual 76, 3) := by decide +kernel
theorem dX14_read_169 : decode cX14_read 169 = .ok (.bipush 61, 2) := by decide +kernel
theorem dX14_read_171 : decode cX14_read 171 = .ok (.if_icmp .ne 29, 3) := by decide +kernel
theorem dX14_read_174 : decode cX14_read 174 = .ok (.aload_n 0, 1) := by decide +kernel
theorem dX14_read_175 : decode cX14_read 175 = .ok (.getfield 26, 3) := by decide +kernel
theorem dX14_read_178 : decode cX14_read 178 = .ok (.iload_n 1, 1) := by decide +kernel
theorem dX14_read_179 : decode cX14_read 179 = .ok (.iconst 2, 1) := by decide +kernel
theorem dX14_read_180 : decode cX14_read 180 = .ok (.iastore, 1) := by decide +kernel
theorem dX14_read_181 : decode cX14_read 181 = .ok (.aload_n 0, 1) := by decide +kernel
theorem dX14_read_182 : decode cX14_read 182 = .ok (.getfield 20, 3) := by decide +kernel
theorem dX14_read_185 : decode cX14_read 185 = .ok (.iload_n 1, 1) := by decide +kernel
theorem dX14_read_186 : decode cX14_read 186 = .ok (.iload_n 3, 1) := by decide +kernel
theorem dX14_read_187 : decode cX14_read 187 = .ok (.bipush 60, 2) := by decide +kernel
theorem dX14_read_189 : decode cX14_read 189 = .ok (.if_icmp .ne 8, 3) := by decide +kernel
theorem dX14_read_192 : decode cX14_read 192 = .ok (.bipush 108, 2) := by decide +kernel
theorem dX14_read_194 : decode cX14_read 194 = .ok (.goto 5, 3) := by decide +kernel
theorem dX14_read_197 : decode cX14_read 197 = .ok (.bipush 103, 2) := by decide +kernel
theorem dX14_read_199 : decode cX14_read 199 = .ok (.iastore, 1) := by decide +kernel
theorem dX14_read_200 : decode cX14_read 200 = .ok (.return_, 1) := by decide +kernel
theorem dX14_readNumber_0 : decode cX14_readNumber 0 = .ok (.iload_n 2, 1) := by decide +kernel
theorem dX14_readNumber_1 : decode cX14_readNumber 1 = .ok (.istore_n 3, 1) := by decide +kernel
theorem dX14_readNumber_2 : decode cX14_readNumber 2 = .ok (.iconst 0, 1) := by decide +kernel
theorem dX14_readNumber_3 : decode cX14_readNumber 3 = .ok (.istore 4, 2) := by decide +kernel
theorem dX14_readNumber_5 : decode cX14_readNumber 5 = .ok (.aload_n 0, 1) := by decide +kernel
theorem dX14_readNumber_6 : decode cX14_readNumber 6 = .ok (.iload_n 3, 1) := by decide +kernel
theorem dX14_readNumber_7 : decode cX14_readNumber 7 = .ok (.invokevirtual 76, 3) := by decide +kernel
theorem dX14_readNumber_10 : decode cX14_readNumber 10 = .ok (.invokestatic 90, 3) := by decide +kernel
theorem dX14_readNumber_13 : decode cX14_readNumber 13 = .ok (.ifCond .eq 34, 3) := by decide +kernel
theorem dX14_readNumber_16 : decode cX14_readNumber 16 = .ok (.iload_n 3, 1) := by decide +kernel
theorem dX14_readNumber_17 : decode cX14_readNumber 17 = .ok (.iload_n 2, 1) := by decide +kernel
theorem dX14_readNumber_18 : decode cX14_readNumber 18 = .ok (.isub, 1) := by decide +kernel
theorem dX14_readNumber_19 : decode cX14_readNumber 19 = .ok (.bipush 6, 2) := by decide +kernel
theorem dX14_readNumber_21 : decode cX14_readNumber 21 = .ok (.if_icmp .ge 20, 3) := by decide +kernel
theorem dX14_readNumber_24 : decode cX14_readNumber 24 = .ok (.bipush 10, 2) := by decide +kernel
theorem dX14_readNumber_26 : decode cX14_readNumber 26 = .ok (.iload 4, 2) := by decide +kernel
theorem dX14_readNumber_28 : decode cX14_readNumber 28 = .ok (.imul, 1) := by decide +kernel
theorem dX14_readNumber_29 : decode cX14_readNumber 29 = .ok (.aload_n 0, 1) := by decide +kernel
theorem dX14_readNumber_30 : decode cX14_readNumber 30 = .ok (.getfield 9, 3) := by decide +kernel
theorem dX14_readNumber_33 : decode cX14_readNumber 33 = .ok (.iload_n 3, 1) := by decide +kernel
theorem dX14_readNumber_34 : decode cX14_readNumber 34 = .ok (.iaload, 1) := by decide +kernel
theorem dX14_readNumber_35 : decode cX14_readNumber 35 = .ok (.iadd, 1) := by decide +kernel
theorem dX14_readNumber_36 : decode cX14_readNumber 36 = .ok (.bipush 48, 2) := by decide +kernel
theorem dX14_readNumber_38 : decode cX14_readNumber 38 = .ok (.isub, 1) := by decide +kernel
theorem dX14_readNumber_39 : decode cX14_readNumber 39 = .ok (.istore 4, 2) := by decide +kernel
theorem dX14_readNumber_41 : decode cX14_readNumber 41 = .ok (.iinc 3 1, 3) := by decide +kernel
theorem dX14_readNumber_44 : decode cX14_readNumber 44 = .ok (.goto (-39), 3) := by decide +kernel
theorem dX14_readNumber_47 : decode cX14_readNumber 47 = .ok (.aload_n 0, 1) := by decide +kernel
theorem dX14_readNumber_48 : decode cX14_readNumber 48 = .ok (.getfield 26, 3) := by decide +kernel
theorem dX14_readNumber_51 : decode cX14_readNumber 51 = .ok (.iload_n 1, 1) := by decide +kernel
theorem dX14_readNumber_52 : decode cX14_readNumber 52 = .ok (.iload_n 3, 1) := by decide +kernel
theorem dX14_readNumber_53 : decode cX14_readNumber 53 = .ok (.iload_n 2, 1) := by decide +kernel
theorem dX14_readNumber_54 : decode cX14_readNumber 54 = .ok (.isub, 1) := by decide +kernel
theorem dX14_readNumber_55 : decode cX14_readNumber 55 = .ok (.iastore, 1) := by decide +kernel
theorem dX14_readNumber_56 : decode cX14_readNumber 56 = .ok (.aload_n 0, 1) := by decide +kernel
theorem dX14_readNumber_57 : decode cX14_readNumber 57 = .ok (.getfield 20, 3) := by decide +kernel
theorem dX14_readNumber_60 : decode cX14_readNumber 60 = .ok (.iload_n 1, 1) := by decide +kernel
theorem dX14_readNumber_61 : decode cX14_readNumber 61 = .ok (.iload 4, 2) := by decide +kernel
theorem dX14_readNumber_63 : decode cX14_readNumber 63 = .ok (.iastore, 1) := by decide +kernel
theorem dX14_readNumber_64 : decode cX14_readNumber 64 = .ok (.aload_n 0, 1) := by decide +kernel
theorem dX14_readNumber_65 : decode cX14_readNumber 65 = .ok (.getfield 17, 3) := by decide +kernel
theorem dX14_readNumber_68 : decode cX14_readNumber 68 = .ok (.iload_n 1, 1) := by decide +kernel
theorem dX14_readNumber_69 : decode cX14_readNumber 69 = .ok (.iload_n 3, 1) := by decide +kernel
theorem dX14_readNumber_70 : decode cX14_readNumber 70 = .ok (.iload_n 2, 1) := by decide +kernel
theorem dX14_readNumber_71 : decode cX14_readNumber 71 = .ok (.isub, 1) := by decide +kernel
theorem dX14_readNumber_72 : decode cX14_readNumber 72 = .ok (.bipush 6, 2) := by decide +kernel
theorem dX14_readNumber_74 : decode cX14_readNumber 74 = .ok (.if_icmp .le 7, 3) := by decide +kernel
theorem dX14_readNumber_77 : decode cX14_readNumber 77 = .ok (.iconst 5, 1) := by decide +kernel
theorem dX14_readNumber_78 : decode cX14_readNumber 78 = .ok (.goto 4, 3) := by decide +kernel
theorem dX14_readNumber_81 : decode cX14_readNumber 81 = .ok (.iconst 3, 1) := by decide +kernel
theorem dX14_readNumber_82 : decode cX14_readNumber 82 = .ok (.iastore, 1) := by decide +kernel
theorem dX14_readNumber_83 : decode cX14_readNumber 83 = .ok (.return_, 1) := by decide +kernel
/-! the reference reads numbers and symbols, and a token -/
section Ru0
variable {G : Gp} {S : AMem} {I I1 : Nat → Nat → Int32} {J : Nat → Nat → Int64} {R : Nat → Nat → Option Nat} {Z : StA} {y n p : Nat} {E : Tp} {Q : (Option AV ⊕ Nat) → AMem → Prop}
def NuR (I : Nat → Nat → Int32) (y n p e : Nat) (E : Tp) : Prop := I (y + 5) n = nI (e - p) ∧ (6 < e - p → I (y + 2) n = 5) ∧ (e - p ≤ 6 → I (y + 2) n = 3 ∧ ∃ m, m < 1000000 ∧ I (y + 3) n = nI m ∧ nuN E (e - p) p 0 = (nI m).toInt64)
theorem k_X14_readNumber (hG : okG G) (hC : RDc S R y) (hT : TPm I y E) (hn : n < 402) (hp : p ≤ E.1) : Fn G mX14_readNumber 2 [vR y, vI (nI n), vI (nI p)] (mw S I J R) (fun rr M1 => rr = none ∧ ∃ I1, M1 = mw S I1 J R ∧ NuR I1 y n p (spnE isDiB E p) E ∧ OffN y n I I1) := by
  obtain ⟨ky, ⟨r1, k1, l1⟩, m4, m5, m6, m7, ⟨k2, l2⟩, ⟨k3, l3⟩, ⟨k4, l4⟩, ⟨k5, l5⟩, _⟩ := id hC
  obtain ⟨t1, t2, t3⟩ := id hT
  have i2 : vp_in (nI n) (S.ln (y + 2)) := by rw [l2]; exact vp_in_nI hn (by decide)
  have i3 : vp_in (nI n) (S.ln (y + 3)) := by rw [l3]; exact vp_in_nI hn (by decide)
  have i5 : vp_in (nI n) (S.ln (y + 5)) := by rw [l5]; exact vp_in_nI hn (by decide)
  have cn : (nI n).toNatClampNeg = n := nI_clamp (by omega)
  refine am_iload_n (q := 1) dX14_readNumber_0 rfl rfl ?_
  refine am_istore_n (q := 2) (ls1 := [_, _, _, _, _]) dX14_readNumber_1 (Nat.le_of_ble_eq_true rfl) rfl rfl ?_
  refine am_iconst (q := 3) (v := 0) dX14_readNumber_2 kc_i0 rfl ?_
  refine am_istore (q := 5) (ls1 := [_, _, _, _, _]) dX14_readNumber_3 (Nat.le_of_ble_eq_true rfl) rfl rfl ?_
  refine k_spn (P := isDiB) (E := E) (σ := Int32) (Inv := fun q w => (p ≤ q ∧ spnE isDiB E q = spnE isDiB E p) ∧ w = nI (numW (fun l => E.2 (p + l)) (if q - p < 6 then q - p else 6))) (W := fun q w => MW G mX14_readNumber 2 5 [some (vR y), some (vI (nI n)), some (vI (nI p)), some (vI (nI q)), some (vI w)] [] (mw S I J R) _) ?_ ?_ p 0 hp ⟨⟨Nat.le_refl _, rfl⟩, by rw [Nat.sub_self]; rfl⟩
  · intro q w h1 h2 ⟨⟨v1, v2⟩, v3⟩ ih
    have ba := k_X14_byteAt (G := G) (J := J) (p := q) hC hT (by omega)
    rw [Tp.atm_lt h1] at ba
    have e2 : spnE isDiB E (q + 1) = spnE isDiB E p := by rw [← v2, spnE_t h1 h2]
    refine am_aload_n (q := 6) dX14_readNumber_5 rfl rfl ?_
    refine am_iload_n (q := 7) dX14_readNumber_6 rfl rfl ?_
    refine cm_call0 (q := 10) (As := [_]) hG dX14_readNumber_7 mlX14_76 rfl (by assumption) ⟨_, _, rfl⟩ (Nat.le_of_ble_eq_true rfl) (Nat.le_of_ble_eq_true rfl) (Nat.le_of_ble_eq_true rfl) (Nat.le_of_ble_eq_true rfl) ba rfl ?_
    rintro _ _ ⟨rfl, rfl⟩
    refine am_call1 (q := 13) (As := [_]) hG dX14_readNumber_10 mlX14_90 rfl (Nat.le_of_ble_eq_true rfl) (Nat.le_of_ble_eq_true rfl) (Nat.le_of_ble_eq_true rfl) k_X14_isDigit rfl ?_
    rintro _ _ ⟨rfl, rfl⟩
    refine am_if_eq (tgt := 47) (q := 16) dX14_readNumber_13 rfl rfl (fun hz => absurd hz (bI_n0.mpr h2)) (fun _ => ?_)
    refine am_iload_n (q := 17) dX14_readNumber_16 rfl rfl ?_
    refine am_iload_n (q := 18) dX14_readNumber_17 rfl rfl ?_
    refine am_isub (q := 19) dX14_readNumber_18 rfl ?_
    rw [k_nsub v1]
    obtain ⟨b, hb, b1, b2⟩ := di_of h2
    by_cases c : q - p < 6
    · rw [if_pos c] at v3
      have n1 := ih (nI (numW (fun l => E.2 (p + l)) (q - p) * 10 + (b - 48))) ⟨⟨by omega, e2⟩, by
        have e : (if q + 1 - p < 6 then q + 1 - p else 6) = q - p + 1 := by
          by_cases z : q + 1 - p < 6
          · rw [if_pos z]
            omega
          · rw [if_neg z]
            omega
        rw [e, numW]
        show nI (numW (fun l => E.2 (p + l)) (q - p) * 10 + (b - 48)) = nI (numW (fun l => E.2 (p + l)) (q - p) * 10 + ((E.2 (p + (q - p))).toNatClampNeg - 48))
        rw [show p + (q - p) = q by omega, hb, nI_clamp (by omega)]⟩
      have a1 : (10 : Int32) * nI (numW (fun l => E.2 (p + l)) (q - p)) = nI (10 * numW (fun l => E.2 (p + l)) (q - p)) := k_mul 10 _
      rw [v3]
      generalize numW (fun l => E.2 (p + l)) (q - p) = N at n1 a1 ⊢
      have a2 : nI (10 * N) + nI b = nI (10 * N + b) := nI_add _ _
      have a3 : nI (10 * N + b) - 48 = nI (N * 10 + (b - 48)) := by
        rw [show nI (10 * N + b) - 48 = nI (10 * N + b - 48) from k_nsub (q := 48) (by omega), show 10 * N + b - 48 = N * 10 + (b - 48) by omega]
      clear ih ba v3 hT
      refine am_bipush (q := 21) (v := 6) dX14_readNumber_19 kc_b6 rfl ?_
      refine am_icmp_ge (tgt := 41) (q := 24) dX14_readNumber_21 rfl rfl (fun hz => absurd hz (nI_ge (b := 6) c (by decide))) (fun _ => ?_)
      refine am_bipush (q := 26) (v := 10) dX14_readNumber_24 kc_b10 rfl ?_
      refine am_iload (q := 28) dX14_readNumber_26 rfl rfl ?_
      refine am_imul (q := 29) dX14_readNumber_28 rfl ?_
      rw [a1]
      refine am_aload_n (q := 30) dX14_readNumber_29 rfl rfl ?_
      refine cm_getR (q := 33) dX14_readNumber_30 flX14_9 rfl (by assumption) (by assumption) rfl ?_
      refine am_iload_n (q := 34) dX14_readNumber_33 rfl rfl ?_
      refine cm_iaload (q := 35) dX14_readNumber_34 (by assumption) (by rw [l1]; exact vp_in_nI (by omega) (by decide)) rfl ?_
      rw [nI_clamp (show q < 2 ^ 31 by omega), t3 q h1, hb]
      refine am_iadd (q := 36) dX14_readNumber_35 rfl ?_
      rw [a2]
      refine am_bipush (q := 38) (v := 48) dX14_readNumber_36 kc_b48 rfl ?_
      refine am_isub (q := 39) dX14_readNumber_38 rfl ?_
      rw [a3]
      refine am_istore (q := 41) (ls1 := [_, _, _, _, _]) dX14_readNumber_39 (Nat.le_of_ble_eq_true rfl) rfl rfl ?_
      refine am_iincW (q := 44) (ls1 := [_, _, _, _, _]) (w := 1) dX14_readNumber_41 rfl (Nat.le_of_ble_eq_true rfl) kc_i1 rfl rfl ?_
      refine am_goto (tgt := 5) dX14_readNumber_44 rfl ?_
      rw [nI_1]
      exact n1
    · rw [if_neg c] at v3
      have n1 := ih w ⟨⟨by omega, e2⟩, by rw [if_neg (by omega)]; exact v3⟩
      clear ih v3
      refine am_bipush (q := 21) (v := 6) dX14_readNumber_19 kc_b6 rfl ?_
      refine am_icmp_ge (tgt := 41) (q := 24) dX14_readNumber_21 rfl rfl (fun _ => ?_) (fun hz => absurd (nI_le (a := 6) (by omega) (by omega)) hz)
      refine am_iincW (q := 44) (ls1 := [_, _, _, _, _]) (w := 1) dX14_readNumber_41 rfl (Nat.le_of_ble_eq_true rfl) kc_i1 rfl rfl ?_
      refine am_goto (tgt := 5) dX14_readNumber_44 rfl ?_
      rw [nI_1]
      exact n1
  · intro q w h1 h2 ⟨⟨v1, v2⟩, v3⟩
    rw [spnE_f h2] at v2
    have ba := k_X14_byteAt (G := G) (J := J) (p := q) hC hT (by omega)
    have c2 : ¬ isDiB (E.atm q) = true := fun z => h2 ((atm_P (P := isDiB) (by decide)).mp z)
    have ld : ∀ l, l < q - p → isDiB (E.2 (p + l)) = true := fun l hl => spnE_P hp l (by rw [← v2]; exact hl)
    refine am_aload_n (q := 6) dX14_readNumber_5 rfl rfl ?_
    refine am_iload_n (q := 7) dX14_readNumber_6 rfl rfl ?_
    refine cm_call0 (q := 10) (As := [_]) hG dX14_readNumber_7 mlX14_76 rfl (by assumption) ⟨_, _, rfl⟩ (Nat.le_of_ble_eq_true rfl) (Nat.le_of_ble_eq_true rfl) (Nat.le_of_ble_eq_true rfl) (Nat.le_of_ble_eq_true rfl) ba rfl ?_
    rintro _ _ ⟨rfl, rfl⟩
    refine am_call1 (q := 13) (As := [_]) hG dX14_readNumber_10 mlX14_90 rfl (Nat.le_of_ble_eq_true rfl) (Nat.le_of_ble_eq_true rfl) (Nat.le_of_ble_eq_true rfl) k_X14_isDigit rfl ?_
    rintro _ _ ⟨rfl, rfl⟩
    refine am_if_eq (tgt := 47) (q := 16) dX14_readNumber_13 rfl rfl (fun _ => ?_) (fun hz => absurd (bI_e0.mpr c2) hz)
    rw [← v2]
    have nu : q - p ≤ 6 → ∃ m, m < 1000000 ∧ w = nI m ∧ nuN E (q - p) p 0 = (nI m).toInt64 := fun h6 => by
      have e : (if q - p < 6 then q - p else 6) = q - p := by
        by_cases z : q - p < 6
        · rw [if_pos z]
        · rw [if_neg z]
          omega
      rw [e] at v3
      have lt := numW_lt (f := fun l => E.2 (p + l)) (q - p) ld
      have le : 10 ^ (q - p) ≤ 10 ^ 6 := Nat.pow_le_pow_right (by decide) h6
      refine ⟨_, Nat.lt_of_lt_of_le lt le, v3, ?_⟩
      rw [nuN_n (q - p) ld, to64 (by omega)]
    clear c2 ba h2 v3
    refine am_aload_n (q := 48) dX14_readNumber_47 rfl rfl ?_
    refine cm_getR (q := 51) dX14_readNumber_48 flX14_26 rfl (by assumption) (by assumption) rfl ?_
    refine am_iload_n (q := 52) dX14_readNumber_51 rfl rfl ?_
    refine am_iload_n (q := 53) dX14_readNumber_52 rfl rfl ?_
    refine am_iload_n (q := 54) dX14_readNumber_53 rfl rfl ?_
    refine am_isub (q := 55) dX14_readNumber_54 rfl ?_
    rw [k_nsub v1]
    refine cm_iastore (q := 56) dX14_readNumber_55 (by assumption) i5 rfl ?_
    refine am_aload_n (q := 57) dX14_readNumber_56 rfl rfl ?_
    refine cm_getR (q := 60) dX14_readNumber_57 flX14_20 rfl (by assumption) (by assumption) rfl ?_
    refine am_iload_n (q := 61) dX14_readNumber_60 rfl rfl ?_
    refine am_iload (q := 63) dX14_readNumber_61 rfl rfl ?_
    refine cm_iastore (q := 64) dX14_readNumber_63 (by assumption) i3 rfl ?_
    rw [cn]
    refine am_aload_n (q := 65) dX14_readNumber_64 rfl rfl ?_
    refine cm_getR (q := 68) dX14_readNumber_65 flX14_17 rfl (by assumption) (by assumption) rfl ?_
    refine am_iload_n (q := 69) dX14_readNumber_68 rfl rfl ?_
    refine am_iload_n (q := 70) dX14_readNumber_69 rfl rfl ?_
    refine am_iload_n (q := 71) dX14_readNumber_70 rfl rfl ?_
    refine am_isub (q := 72) dX14_readNumber_71 rfl ?_
    rw [k_nsub v1]
    by_cases h6 : q - p ≤ 6
    · obtain ⟨m, m1, rfl, m3⟩ := nu h6
      refine am_bipush (q := 74) (v := 6) dX14_readNumber_72 kc_b6 rfl ?_
      refine am_icmp_le (tgt := 81) (q := 77) dX14_readNumber_74 rfl rfl (fun _ => ?_) (fun hz => absurd (nI_le (b := 6) h6 (by decide)) hz)
      refine am_iconst (q := 82) (v := 3) dX14_readNumber_81 kc_i3 rfl ?_
      refine cm_iastore (q := 83) dX14_readNumber_82 (by assumption) i2 rfl ?_
      rw [cn]
      exact am_ret dX14_readNumber_83 rfl ⟨_, rfl, rfl, _, rfl, ⟨by rw [up2_a (by omega), up2_a (by omega), up2_s], fun z => absurd h6 (by omega), fun _ => ⟨up2_s, m, m1, by rw [up2_a (by omega), up2_s], m3⟩⟩, fun x j h => by rw [up2_at, if_neg (by omega), up2_at, if_neg (by omega), up2_at, if_neg (by omega)]⟩
    · refine am_bipush (q := 74) (v := 6) dX14_readNumber_72 kc_b6 rfl ?_
      refine am_icmp_le (tgt := 81) (q := 77) dX14_readNumber_74 rfl rfl (fun hz => absurd hz (fun z => h6 ((nI_leI (b := 6) (by omega) (by decide)).mp z))) (fun _ => ?_)
      refine am_iconst (q := 78) (v := 5) dX14_readNumber_77 kc_i5 rfl ?_
      refine am_goto (tgt := 82) dX14_readNumber_78 rfl ?_
      refine cm_iastore (q := 83) dX14_readNumber_82 (by assumption) i2 rfl ?_
      rw [cn]
      exact am_ret dX14_readNumber_83 rfl ⟨_, rfl, rfl, _, rfl, ⟨by rw [up2_a (by omega), up2_a (by omega), up2_s], fun _ => up2_s, fun z => absurd z h6⟩, fun x j h => by rw [up2_at, if_neg (by omega), up2_at, if_neg (by omega), up2_at, if_neg (by omega)]⟩
/-- is it a symbol? -/
theorem k_sym {c : Int32} {n' p' : Int32} (hS : c ∈ syms → MW G mX14_read 7 143 [some (vR y), some (vI n'), some (vI p'), some (vI c)] [] (mw S I J R) Q) (hN : c ∉ syms → MW G mX14_read 7 150 [some (vR y), some (vI n'), some (vI p'), some (vI c)] [] (mw S I J R) Q) : MW G mX14_read 7 65 [some (vR y), some (vI n'), some (vI p'), some (vI c)] [] (mw S I J R) Q := by
  refine am_iload_n (q := 66) dX14_read_65 rfl rfl ?_
  refine am_bipush (q := 68) (v := 40) dX14_read_66 kc_b40 rfl ?_
  refine am_icmp_eq (tgt := 143) (q := 71) dX14_read_68 rfl rfl (fun c1 => ?_) (fun c1 => ?_)
  · exact hS (by rw [c1]; decide)
  · refine am_iload_n (q := 72) dX14_read_71 rfl rfl ?_
    refine am_bipush (q := 74) (v := 41) dX14_read_72 kc_b41 rfl ?_
    refine am_icmp_eq (tgt := 143) (q := 77) dX14_read_74 rfl rfl (fun c2 => ?_) (fun c2 => ?_)
    · exact hS (by rw [c2]; decide)
    · refine am_iload_n (q := 78) dX14_read_77 rfl rfl ?_
      refine am_bipush (q := 80) (v := 91) dX14_read_78 kc_b91 rfl ?_
      refine am_icmp_eq (tgt := 143) (q := 83) dX14_read_80 rfl rfl (fun c3 => ?_) (fun c3 => ?_)
      · exact hS (by rw [c3]; decide)
      · refine am_iload_n (q := 84) dX14_read_83 rfl rfl ?_
        refine am_bipush (q := 86) (v := 93) dX14_read_84 kc_b93 rfl ?_
        refine am_icmp_eq (tgt := 143) (q := 89) dX14_read_86 rfl rfl (fun c4 => ?_) (fun c4 => ?_)
        · exact hS (by rw [c4]; decide)
        · refine am_iload_n (q := 90) dX14_read_89 rfl rfl ?_
          refine am_bipush (q := 92) (v := 59) dX14_read_90 kc_b59 rfl ?_
          refine am_icmp_eq (tgt := 143) (q := 95) dX14_read_92 rfl rfl (fun c5 => ?_) (fun c5 => ?_)
          · exact hS (by rw [c5]; decide)
          · refine am_iload_n (q := 96) dX14_read_95 rfl rfl ?_
            refine am_bipush (q := 98) (v := 44) dX14_read_96 kc_b44 rfl ?_
            refine am_icmp_eq (tgt := 143) (q := 101) dX14_read_98 rfl rfl (fun c6 => ?_) (fun c6 => ?_)
            · exact hS (by rw [c6]; decide)
            · refine am_iload_n (q := 102) dX14_read_101 rfl rfl ?_
              refine am_bipush (q := 104) (v := 43) dX14_read_102 kc_b43 rfl ?_
              refine am_icmp_eq (tgt := 143) (q := 107) dX14_read_104 rfl rfl (fun c7 => ?_) (fun c7 => ?_)
              · exact hS (by rw [c7]; decide)
              · refine am_iload_n (q := 108) dX14_read_107 rfl rfl ?_
                refine am_bipush (q := 110) (v := 45) dX14_read_108 kc_b45 rfl ?_
                refine am_icmp_eq (tgt := 143) (q := 113) dX14_read_110 rfl rfl (fun c8 => ?_) (fun c8 => ?_)
                · exact hS (by rw [c8]; decide)
                · refine am_iload_n (q := 114) dX14_read_113 rfl rfl ?_
                  refine am_bipush (q := 116) (v := 42) dX14_read_114 kc_b42 rfl ?_
                  refine am_icmp_eq (tgt := 143) (q := 119) dX14_read_116 rfl rfl (fun c9 => ?_) (fun c9 => ?_)
                  · exact hS (by rw [c9]; decide)
                  · refine am_iload_n (q := 120) dX14_read_119 rfl rfl ?_
                    refine am_bipush (q := 122) (v := 47) dX14_read_120 kc_b47 rfl ?_
                    refine am_icmp_eq (tgt := 143) (q := 125) dX14_read_122 rfl rfl (fun c10 => ?_) (fun c10 => ?_)
                    · exact hS (by rw [c10]; decide)
                    · refine am_iload_n (q := 126) dX14_read_125 rfl rfl ?_
                      refine am_bipush (q := 128) (v := 60) dX14_read_126 kc_b60 rfl ?_
                      refine am_icmp_eq (tgt := 143) (q := 131) dX14_read_128 rfl rfl (fun c11 => ?_) (fun c11 => ?_)
                      · exact hS (by rw [c11]; decide)
                      · refine am_iload_n (q := 132) dX14_read_131 rfl rfl ?_
                        refine am_bipush (q := 134) (v := 62) dX14_read_132 kc_b62 rfl ?_
                        refine am_icmp_eq (tgt := 143) (q := 137) dX14_read_134 rfl rfl (fun c12 => ?_) (fun c12 => ?_)
                        · exact hS (by rw [c12]; decide)
                        · refine am_iload_n (q := 138) dX14_read_137 rfl rfl ?_
                          refine am_bipush (q := 140) (v := 61) dX14_read_138 kc_b61 rfl ?_
                          refine am_icmp_ne (tgt := 150) (q := 143) dX14_read_140 rfl rfl (fun c13 => ?_) (fun c13 => ?_)
                          · refine hN ?_
                            unfold syms
                            simp only [List.mem_cons, List.not_mem_nil, or_false]
                            rintro (q | q | q | q | q | q | q | q | q | q | q | q | q)
                            · exact c1 q
                            · exact c2 q
                            · exact c3 q
                            · exact c4 q
                            · exact c5 q
                            · exact c6 q
                            · exact c7 q
                            · exact c8 q
                            · exact c9 q
                            · exact c10 q
                            · exact c11 q
                            · exact c12 q
                            · exact c13 q
                          · exact hS (by rw [c13]; decide)
/-- what is known of a token that was read -/
def TkR (I : Nat → Nat → Int32) (y n p : Nat) (E : Tp) : Prop := (∃ k v q, tokR E kwK p = ([(k, p, v)], q) ∧ p < q ∧ q ≤ E.1 ∧ I (y + 5) n = nI (q - p) ∧ srt k (I (y + 2) n) (I (y + 3) n) v ∧ (k ≠ 256 ∧ k ≠ 257) ∧ (k = 258 → q - p ≤ 10 ∧ (∀ l, l < q - p → isLDB (E.2 (p + l)) = true) ∧ v = codN E (q - p) p 0)) ∨ (tokR E kwK p = ([], p) ∧ I (y + 2) n = (if p < E.1 then 5 else 0) ∧ ∃ sz, I (y + 5) n = nI sz ∧ sz ≤ 2000)
theorem syms_N : ∀ c ∈ syms, ∃ j, j ∈ symN ∧ c = nI j := by decide
theorem syms_no : ∀ c ∈ syms, isLeB c = false ∧ isDiB c = false ∧ c ≠ 256 ∧ c ≠ 257 ∧ c ≠ 258 := by decide
theorem k_X14_read (hG : okG G) (hZ : KS G Z) (hC : RDc S R y) (hT : TPm I y E) (hn : n < 402) (hp : p ≤ E.1) : Fn G mX14_read 7 [vR y, vI (nI n), vI (nI p)] (mw S I J R) (fun rr M1 => rr = none ∧ ∃ I1, M1 = mw S I1 J R ∧ TkR I1 y n p E ∧ OffN y n I I1) := by
  obtain ⟨ky, ⟨r1, k1, l1⟩, m4, m5, m6, m7, ⟨k2, l2⟩, ⟨k3, l3⟩, ⟨k4, l4⟩, ⟨k5, l5⟩, _⟩ := id hC
  obtain ⟨t1, t2, t3⟩ := id hT
  have i2 : vp_in (nI n) (S.ln (y + 2)) := by rw [l2]; exact vp_in_nI hn (by decide)
  have i3 : vp_in (nI n) (S.ln (y + 3)) := by rw [l3]; exact vp_in_nI hn (by decide)
  have i5 : vp_in (nI n) (S.ln (y + 5)) := by rw [l5]; exact vp_in_nI hn (by decide)
  have cn : (nI n).toNatClampNeg = n := nI_clamp (by omega)
  have ba := k_X14_byteAt (G := G) (J := J) (p := p) hC hT (by omega)
  refine am_aload_n (q := 1) dX14_read_0 rfl rfl ?_
  refine am_iload_n (q := 2) dX14_read_1 rfl rfl ?_
  refine cm_call0 (q := 5) (As := [_]) hG dX14_read_2 mlX14_76 rfl (by assumption) ⟨_, _, rfl⟩ (Nat.le_of_ble_eq_true rfl) (Nat.le_of_ble_eq_true rfl) (Nat.le_of_ble_eq_true rfl) (Nat.le_of_ble_eq_true rfl) ba rfl ?_
  rintro _ _ ⟨rfl, rfl⟩
  refine am_istore_n (q := 6) (ls1 := [_, _, _, _]) dX14_read_5 (Nat.le_of_ble_eq_true rfl) rfl rfl ?_
  refine am_aload_n (q := 7) dX14_read_6 rfl rfl ?_
  refine cm_getR (q := 10) dX14_read_7 flX14_26 rfl (by assumption) (by assumption) rfl ?_
  refine am_iload_n (q := 11) dX14_read_10 rfl rfl ?_
  refine am_iconst (q := 12) (v := 1) dX14_read_11 kc_i1 rfl ?_
  refine cm_iastore (q := 13) dX14_read_12 (by assumption) i5 rfl ?_
  rw [cn]
  refine am_aload_n (q := 14) dX14_read_13 rfl rfl ?_
  refine cm_getR (q := 17) dX14_read_14 flX14_20 rfl (by assumption) (by assumption) rfl ?_
  refine am_iload_n (q := 18) dX14_read_17 rfl rfl ?_
  refine am_iload_n (q := 19) dX14_read_18 rfl rfl ?_
  refine cm_iastore (q := 20) dX14_read_19 (by assumption) i3 rfl ?_
  rw [cn]
  refine am_aload_n (q := 21) dX14_read_20 rfl rfl ?_
  refine cm_getR (q := 24) dX14_read_21 flX14_17 rfl (by assumption) (by assumption) rfl ?_
  refine am_iload_n (q := 25) dX14_read_24 rfl rfl ?_
  refine am_iload_n (q := 26) dX14_read_25 rfl rfl ?_
  refine am_aload_n (q := 27) dX14_read_26 rfl rfl ?_
  refine cm_getI (q := 30) dX14_read_27 flX14_61 rfl (by assumption) rfl ?_
  rw [show up2 (up2 I (y + 5) n 1) (y + 3) n (E.atm p) y 2 = nI E.1 from (by rw [up2_a (by omega), up2_a (by omega)]; exact t1)]
  have rest : ∀ (I2 : Nat → Nat → Int32), OffN y n I I2 → I2 (y + 5) n = 1 → I2 (y + 3) n = E.atm p → I2 (y + 2) n = (if p < E.1 then 5 else 0) → MW G mX14_read 7 39 [some (vR y), some (vI (nI n)), some (vI (nI p)), some (vI (E.atm p))] [] (mw S I2 J R) (fun f M1 => ∃ r, f = .inl r ∧ (r = none ∧ ∃ I1, M1 = mw S I1 J R ∧ TkR I1 y n p E ∧ OffN y n I I1)) := by
    intro I2 o2 f5 f3 f2
    have nosym : ∀ (I3 : Nat → Nat → Int32), E.atm p ∉ syms → TkR I3 y n p E → OffN y n I I3 → MW G mX14_read 7 65 [some (vR y), some (vI (nI n)), some (vI (nI p)), some (vI (E.atm p))] [] (mw S I3 J R) (fun f M1 => ∃ r, f = .inl r ∧ (r = none ∧ ∃ I1, M1 = mw S I1 J R ∧ TkR I1 y n p E ∧ OffN y n I I1)) := by
      intro I3 hns g1 g2
      refine k_sym (fun q => absurd q hns) (fun _ => ?_)
      have h60 : ¬ E.atm p = 60 := fun q => hns (by rw [q]; decide)
      have h62 : ¬ E.atm p = 62 := fun q => hns (by rw [q]; decide)
      clear hns f3
      refine am_iload_n (q := 151) dX14_read_150 rfl rfl ?_
      refine am_bipush (q := 153) (v := 60) dX14_read_151 kc_b60 rfl ?_
      refine am_icmp_eq (tgt := 162) (q := 156) dX14_read_153 rfl rfl (fun hz => absurd hz h60) (fun _ => ?_)
      refine am_iload_n (q := 157) dX14_read_156 rfl rfl ?_
      refine am_bipush (q := 159) (v := 62) dX14_read_157 kc_b62 rfl ?_
      refine am_icmp_ne (tgt := 200) (q := 162) dX14_read_159 rfl rfl (fun _ => ?_) (fun hz => absurd hz h62)
      exact am_ret dX14_read_200 rfl ⟨_, rfl, rfl, I3, rfl, g1, g2⟩
    have lt : ∀ {P : Int32 → Bool}, P 0 = false → P (E.atm p) = true → p < E.1 ∧ E.at p = E.2 p ∧ P (E.2 p) = true := fun {P} z q => by
      obtain ⟨q1, q2⟩ := (atm_P z).mp q
      exact ⟨q1, Tp.at_lt q1, q2⟩
    by_cases cl : isLeB (E.atm p) = true
    · obtain ⟨hl, ea, hl2⟩ := lt (by decide) cl
      have em : E.atm p = E.2 p := Tp.atm_lt hl
      have wd := k_X14_readWord (J := J) (I := I2) hG hZ hC (hT.off o2) hn hp
      have nd : ¬ isDiB (E.atm p) = true := fun q => by
        obtain ⟨q1, _⟩ := isLeB_i.mp cl
        obtain ⟨_, q2⟩ := isDiB_i.mp q
        exact absurd (Int32.le_trans q1 q2) (by decide)
      have ns : E.atm p ∉ syms := fun q => by rw [(syms_no _ q).1] at cl; cases cl
      have tk : ∀ I3, WdR I3 y n p (spnE isLDB E p) E → TkR I3 y n p E := fun I3 ⟨w1, w2, w3⟩ => by
        obtain ⟨g1, g2⟩ := spnE_gt (P := isLDB) hl (isLDB_i.mpr (Or.inl hl2))
        have er : tokR E kwK p = tokW E kwK p := by
          unfold tokR
          rw [if_pos (by rw [ea]; exact hl2)]
        by_cases h10 : 10 < spnE isLDB E p - p
        · refine Or.inr ⟨?_, by rw [w2 h10, if_pos hl], _, w1, by omega⟩
          rw [er]
          unfold tokW
          rw [if_pos h10]
        · have ew : tokW E kwK p = ([(kowN kwK (codN E (spnE isLDB E p - p) p 0) 0 32, p, if kowN kwK (codN E (spnE isLDB E p - p) p 0) 0 32 = 258 then codN E (spnE isLDB E p - p) p 0 else 0)], spnE isLDB E p) := by
            unfold tokW
            rw [if_neg h10]
          refine Or.inl ⟨_, _, _, er.trans ew, g1, g2, w1, ?_⟩
          rcases w3 (by omega) with ⟨x1, x2⟩ | ⟨j, x0, x1, x2, x3⟩
          · rw [x1, if_pos rfl]
            exact ⟨Or.inr (Or.inl ⟨rfl, x2⟩), ⟨by decide, by decide⟩, fun _ => ⟨by omega, spnE_P hp, rfl⟩⟩
          · have ne8 : ¬ nI (300 + j) = 258 := k_ne (b := 258) (by omega) (by decide) (by omega)
            rw [x1, if_neg ne8]
            exact ⟨Or.inl ⟨j, x0, rfl, x2, x3⟩, ⟨k_ne (b := 256) (by omega) (by decide) (by omega), k_ne (b := 257) (by omega) (by decide) (by omega)⟩, fun q => absurd q (k_ne (b := 258) (by omega) (by decide) (by omega))⟩
      refine am_iload_n (q := 40) dX14_read_39 rfl rfl ?_
      refine am_call1 (q := 43) (As := [_]) hG dX14_read_40 mlX14_83 rfl (Nat.le_of_ble_eq_true rfl) (Nat.le_of_ble_eq_true rfl) (Nat.le_of_ble_eq_true rfl) k_X14_isLetter rfl ?_
      rintro _ _ ⟨rfl, rfl⟩
      refine am_if_eq (tgt := 52) (q := 46) dX14_read_43 rfl rfl (fun hz => absurd hz (bI_n0.mpr cl)) (fun _ => ?_)
      refine am_aload_n (q := 47) dX14_read_46 rfl rfl ?_
      refine am_iload_n (q := 48) dX14_read_47 rfl rfl ?_
      refine am_iload_n (q := 49) dX14_read_48 rfl rfl ?_
      refine cm_call0 (q := 52) (As := [_, _]) hG dX14_read_49 mlX14_87 rfl (by assumption) ⟨_, _, rfl⟩ (Nat.le_of_ble_eq_true rfl) (Nat.le_of_ble_eq_true rfl) (Nat.le_of_ble_eq_true rfl) (Nat.le_of_ble_eq_true rfl) wd rfl ?_
      rintro _ _ ⟨rfl, I3, rfl, w1, w2⟩
      refine am_iload_n (q := 53) dX14_read_52 rfl rfl ?_
      refine am_call1 (q := 56) (As := [_]) hG dX14_read_53 mlX14_90 rfl (Nat.le_of_ble_eq_true rfl) (Nat.le_of_ble_eq_true rfl) (Nat.le_of_ble_eq_true rfl) k_X14_isDigit rfl ?_
      rintro _ _ ⟨rfl, rfl⟩
      refine am_if_eq (tgt := 65) (q := 59) dX14_read_56 rfl rfl (fun _ => ?_) (fun hz => absurd (bI_e0.mpr nd) hz)
      exact nosym I3 ns (tk I3 w1) (o2.tr w2)
    · by_cases cd : isDiB (E.atm p) = true
      · obtain ⟨hl, ea, hl2⟩ := lt (by decide) cd
        have nl : ¬ isLeB (E.at p) = true := by
          rw [ea, ← Tp.atm_lt hl]
          exact cl
        have nm := k_X14_readNumber (J := J) (I := I2) hG hC (hT.off o2) hn hp
        have ns : E.atm p ∉ syms := fun q => by rw [(syms_no _ q).2.1] at cd; cases cd
        have tk : ∀ I3, NuR I3 y n p (spnE isDiB E p) E → TkR I3 y n p E := fun I3 ⟨w1, w2, w3⟩ => by
          obtain ⟨g1, g2⟩ := spnE_gt (P := isDiB) hl hl2
          have er : tokR E kwK p = tokN E p := by
            unfold tokR
            rw [if_neg nl, if_pos (by rw [ea]; exact hl2)]
          by_cases h6 : 6 < spnE isDiB E p - p
          · refine Or.inr ⟨?_, by rw [w2 h6, if_pos hl], _, w1, by omega⟩
            rw [er]
            unfold tokN
            rw [if_pos h6]
          · have ew : tokN E p = ([(259, p, nuN E (spnE isDiB E p - p) p 0)], spnE isDiB E p) := by
              unfold tokN
              rw [if_neg h6]
            obtain ⟨x1, m, x2, x3, x4⟩ := w3 (by omega)
            exact Or.inl ⟨_, _, _, er.trans ew, g1, g2, w1, Or.inr (Or.inr (Or.inl ⟨m, x2, rfl, x1, x3, x4⟩)), ⟨by decide, by decide⟩, fun q => absurd q (by decide)⟩
        refine am_iload_n (q := 40) dX14_read_39 rfl rfl ?_
        refine am_call1 (q := 43) (As := [_]) hG dX14_read_40 mlX14_83 rfl (Nat.le_of_ble_eq_true rfl) (Nat.le_of_ble_eq_true rfl) (Nat.le_of_ble_eq_true rfl) k_X14_isLetter rfl ?_
        rintro _ _ ⟨rfl, rfl⟩
        refine am_if_eq (tgt := 52) (q := 46) dX14_read_43 rfl rfl (fun _ => ?_) (fun hz => absurd (bI_e0.mpr cl) hz)
        refine am_iload_n (q := 53) dX14_read_52 rfl rfl ?_
        refine am_call1 (q := 56) (As := [_]) hG dX14_read_53 mlX14_90 rfl (Nat.le_of_ble_eq_true rfl) (Nat.le_of_ble_eq_true rfl) (Nat.le_of_ble_eq_true rfl) k_X14_isDigit rfl ?_
        rintro _ _ ⟨rfl, rfl⟩
        refine am_if_eq (tgt := 65) (q := 59) dX14_read_56 rfl rfl (fun hz => absurd hz (bI_n0.mpr cd)) (fun _ => ?_)
        refine am_aload_n (q := 60) dX14_read_59 rfl rfl ?_
        refine am_iload_n (q := 61) dX14_read_60 rfl rfl ?_
        refine am_iload_n (q := 62) dX14_read_61 rfl rfl ?_
        refine cm_call0 (q := 65) (As := [_, _]) hG dX14_read_62 mlX14_93 rfl (by assumption) ⟨_, _, rfl⟩ (Nat.le_of_ble_eq_true rfl) (Nat.le_of_ble_eq_true rfl) (Nat.le_of_ble_eq_true rfl) (Nat.le_of_ble_eq_true rfl) nm rfl ?_
        rintro _ _ ⟨rfl, I3, rfl, w1, w2⟩
        exact nosym I3 ns (tk I3 w1) (o2.tr w2)
      · refine am_iload_n (q := 40) dX14_read_39 rfl rfl ?_
        refine am_call1 (q := 43) (As := [_]) hG dX14_read_40 mlX14_83 rfl (Nat.le_of_ble_eq_true rfl) (Nat.le_of_ble_eq_true rfl) (Nat.le_of_ble_eq_true rfl) k_X14_isLetter rfl ?_
        rintro _ _ ⟨rfl, rfl⟩
        refine am_if_eq (tgt := 52) (q := 46) dX14_read_43 rfl rfl (fun _ => ?_) (fun hz => absurd (bI_e0.mpr cl) hz)
        refine am_iload_n (q := 53) dX14_read_52 rfl rfl ?_
        refine am_call1 (q := 56) (As := [_]) hG dX14_read_53 mlX14_90 rfl (Nat.le_of_ble_eq_true rfl) (Nat.le_of_ble_eq_true rfl) (Nat.le_of_ble_eq_true rfl) k_X14_isDigit rfl ?_
        rintro _ _ ⟨rfl, rfl⟩
        refine am_if_eq (tgt := 65) (q := 59) dX14_read_56 rfl rfl (fun _ => ?_) (fun hz => absurd (bI_e0.mpr cd) hz)
        by_cases cs : E.atm p ∈ syms
        · have hl : p < E.1 := Classical.byContradiction fun q => by
            rw [Tp.atm_0 q] at cs
            exact absurd cs (by decide)
          have ea : E.at p = E.atm p := by rw [Tp.at_lt hl, Tp.atm_lt hl]
          have er : tokR E kwK p = tokS E p := by
            unfold tokR
            rw [ea, if_neg cl, if_neg cd]
          have eq1 : E.atm (p + 1) = 61 ↔ E.at (p + 1) = 61 := by
            by_cases z : p + 1 < E.1
            · rw [Tp.at_lt z, Tp.atm_lt z]
            · rw [Tp.at_256 z, Tp.atm_0 z]
              exact ⟨fun q => absurd q (by decide), fun q => absurd q (by decide)⟩
          obtain ⟨j, hj, ej⟩ := syms_N _ cs
          obtain ⟨_, _, n6, n7, n8⟩ := syms_no _ cs
          have one : ¬ ((E.atm p = 60 ∨ E.atm p = 62) ∧ E.atm (p + 1) = 61) → ∀ I3, OffN y n I I3 → I3 (y + 5) n = 1 → I3 (y + 3) n = E.atm p → I3 (y + 2) n = 4 → TkR I3 y n p E := fun hno I3 _ w5 w3 w2 => by
            refine Or.inl ⟨E.atm p, 0, p + 1, ?_, Nat.lt_succ_self _, hl, by rw [w5, show p + 1 - p = 1 by omega]; rfl, Or.inr (Or.inr (Or.inr (Or.inr (Or.inr (Or.inl ⟨j, hj, ej, w2, by rw [w3, ej]⟩))))), ⟨n6, n7⟩, fun q => absurd q n8⟩
            rw [er]
            unfold tokS
            rw [ea, if_pos cs, if_neg (fun q => hno ⟨q.1, eq1.mpr q.2⟩)]
          have two : (E.atm p = 60 ∨ E.atm p = 62) → E.atm (p + 1) = 61 → ∀ I3, I3 (y + 5) n = 2 → I3 (y + 3) n = (if E.atm p = 60 then 108 else 103) → I3 (y + 2) n = 4 → TkR I3 y n p E := fun h60 h61 I3 w5 w3 w2 => by
            have hl2 : p + 1 < E.1 := Classical.byContradiction fun q => by
              rw [Tp.atm_0 q] at h61
              exact absurd h61 (by decide)
            refine Or.inl ⟨if E.atm p = 60 then 260 else 261, 0, p + 2, ?_, by omega, hl2, by rw [w5, show p + 2 - p = 2 by omega]; rfl, ?_, ?_, ?_⟩
            · rw [er]
              unfold tokS
              rw [ea, if_pos cs, if_pos ⟨h60, eq1.mp h61⟩]
            · by_cases z : E.atm p = 60
              · rw [if_pos z] at w3 ⊢
                exact Or.inr (Or.inr (Or.inr (Or.inl ⟨rfl, w2, w3⟩)))
              · rw [if_neg z] at w3 ⊢
                exact Or.inr (Or.inr (Or.inr (Or.inr (Or.inl ⟨rfl, w2, w3⟩))))
            · split <;> decide
            · split <;> exact fun q => absurd q (by decide)
          refine k_sym (fun _ => ?_) (fun q => absurd cs q)
          have bb := fun I3 (h : TPm I3 y E) => k_X14_byteAt (G := G) (I := I3) (J := J) (p := p + 1) hC h (by omega)
          have o4 : OffN y n I (up2 I2 (y + 2) n 4) := fun x j h => by rw [up2_at, if_neg (by omega)]; exact o2 x j h
          have bb4 := bb _ (hT.off o4)
          have on1 := fun hno => one hno (up2 I2 (y + 2) n 4) o4 (by rw [up2_a (by omega)]; exact f5) (by rw [up2_a (by omega)]; exact f3) up2_s
          have tw1 := fun h60 h61 => two h60 h61 (up2 (up2 (up2 I2 (y + 2) n 4) (y + 5) n 2) (y + 3) n (if E.atm p = 60 then 108 else 103)) (by rw [up2_a (by omega), up2_s]) up2_s (by rw [up2_a (by omega), up2_a (by omega), up2_s])
          have o6 : ∀ v, OffN y n I (up2 (up2 (up2 I2 (y + 2) n 4) (y + 5) n 2) (y + 3) n v) := fun v x j h => by rw [up2_at, if_neg (by omega), up2_at, if_neg (by omega)]; exact o4 x j h
          clear one two bb nosym lt cl cd cs ea er eq1 hj ej n6 n7 n8 f5 f3 f2
          generalize E.atm p = c at on1 tw1 ⊢
          generalize E.atm (p + 1) = c' at bb4 on1 tw1 ⊢
          have eqs : (c = 60 ∨ c = 62) → MW G mX14_read 7 162 [some (vR y), some (vI (nI n)), some (vI (nI p)), some (vI c)] [] (mw S (up2 I2 (y + 2) n 4) J R) (fun f M1 => ∃ r, f = .inl r ∧ (r = none ∧ ∃ I1, M1 = mw S I1 J R ∧ TkR I1 y n p E ∧ OffN y n I I1)) := by
            intro h60
            refine am_aload_n (q := 163) dX14_read_162 rfl rfl ?_
            refine am_iload_n (q := 164) dX14_read_163 rfl rfl ?_
            refine am_iconst (q := 165) (v := 1) dX14_read_164 kc_i1 rfl ?_
            refine am_iadd (q := 166) dX14_read_165 rfl ?_
            rw [nI_1]
            by_cases c61 : c' = 61
            · have tw2 := tw1 h60 c61
              by_cases z : c = 60
              · rw [if_pos z] at tw2
                clear on1 tw1 h60
                refine cm_call0 (q := 169) (As := [_]) hG dX14_read_166 mlX14_76 rfl (by assumption) ⟨_, _, rfl⟩ (Nat.le_of_ble_eq_true rfl) (Nat.le_of_ble_eq_true rfl) (Nat.le_of_ble_eq_true rfl) (Nat.le_of_ble_eq_true rfl) bb4 rfl ?_
                rintro _ _ ⟨rfl, rfl⟩
                refine am_bipush (q := 171) (v := 61) dX14_read_169 kc_b61 rfl ?_
                refine am_icmp_ne (tgt := 200) (q := 174) dX14_read_171 rfl rfl (fun hz => absurd c61 hz) (fun _ => ?_)
                refine am_aload_n (q := 175) dX14_read_174 rfl rfl ?_
                refine cm_getR (q := 178) dX14_read_175 flX14_26 rfl (by assumption) (by assumption) rfl ?_
                refine am_iload_n (q := 179) dX14_read_178 rfl rfl ?_
                refine am_iconst (q := 180) (v := 2) dX14_read_179 kc_i2 rfl ?_
                refine cm_iastore (q := 181) dX14_read_180 (by assumption) i5 rfl ?_
                rw [cn]
                refine am_aload_n (q := 182) dX14_read_181 rfl rfl ?_
                refine cm_getR (q := 185) dX14_read_182 flX14_20 rfl (by assumption) (by assumption) rfl ?_
                refine am_iload_n (q := 186) dX14_read_185 rfl rfl ?_
                refine am_iload_n (q := 187) dX14_read_186 rfl rfl ?_
                refine am_bipush (q := 189) (v := 60) dX14_read_187 kc_b60 rfl ?_
                refine am_icmp_ne (tgt := 197) (q := 192) dX14_read_189 rfl rfl (fun hz => absurd z hz) (fun _ => ?_)
                refine am_bipush (q := 194) (v := 108) dX14_read_192 kc_b108 rfl ?_
                refine am_goto (tgt := 199) dX14_read_194 rfl ?_
                refine cm_iastore (q := 200) dX14_read_199 (by assumption) i3 rfl ?_
                rw [cn]
                exact am_ret dX14_read_200 rfl ⟨_, rfl, rfl, _, rfl, tw2, o6 _⟩
              · rw [if_neg z] at tw2
                clear on1 tw1 h60
                refine cm_call0 (q := 169) (As := [_]) hG dX14_read_166 mlX14_76 rfl (by assumption) ⟨_, _, rfl⟩ (Nat.le_of_ble_eq_true rfl) (Nat.le_of_ble_eq_true rfl) (Nat.le_of_ble_eq_true rfl) (Nat.le_of_ble_eq_true rfl) bb4 rfl ?_
                rintro _ _ ⟨rfl, rfl⟩
                refine am_bipush (q := 171) (v := 61) dX14_read_169 kc_b61 rfl ?_
                refine am_icmp_ne (tgt := 200) (q := 174) dX14_read_171 rfl rfl (fun hz => absurd c61 hz) (fun _ => ?_)
                refine am_aload_n (q := 175) dX14_read_174 rfl rfl ?_
                refine cm_getR (q := 178) dX14_read_175 flX14_26 rfl (by assumption) (by assumption) rfl ?_
                refine am_iload_n (q := 179) dX14_read_178 rfl rfl ?_
                refine am_iconst (q := 180) (v := 2) dX14_read_179 kc_i2 rfl ?_
                refine cm_iastore (q := 181) dX14_read_180 (by assumption) i5 rfl ?_
                rw [cn]
                refine am_aload_n (q := 182) dX14_read_181 rfl rfl ?_
                refine cm_getR (q := 185) dX14_read_182 flX14_20 rfl (by assumption) (by assumption) rfl ?_
                refine am_iload_n (q := 186) dX14_read_185 rfl rfl ?_
                refine am_iload_n (q := 187) dX14_read_186 rfl rfl ?_
                refine am_bipush (q := 189) (v := 60) dX14_read_187 kc_b60 rfl ?_
                refine am_icmp_ne (tgt := 197) (q := 192) dX14_read_189 rfl rfl (fun _ => ?_) (fun hz => absurd hz z)
                refine am_bipush (q := 199) (v := 103) dX14_read_197 kc_b103 rfl ?_
                refine cm_iastore (q := 200) dX14_read_199 (by assumption) i3 rfl ?_
                rw [cn]
                exact am_ret dX14_read_200 rfl ⟨_, rfl, rfl, _, rfl, tw2, o6 _⟩
            · have t4 := on1 (fun q => c61 q.2)
              clear on1 tw1 h60
              refine cm_call0 (q := 169) (As := [_]) hG dX14_read_166 mlX14_76 rfl (by assumption) ⟨_, _, rfl⟩ (Nat.le_of_ble_eq_true rfl) (Nat.le_of_ble_eq_true rfl) (Nat.le_of_ble_eq_true rfl) (Nat.le_of_ble_eq_true rfl) bb4 rfl ?_
              rintro _ _ ⟨rfl, rfl⟩
              refine am_bipush (q := 171) (v := 61) dX14_read_169 kc_b61 rfl ?_
              refine am_icmp_ne (tgt := 200) (q := 174) dX14_read_171 rfl rfl (fun _ => ?_) (fun hz => absurd hz c61)
              exact am_ret dX14_read_200 rfl ⟨_, rfl, rfl, _, rfl, t4, o4⟩
          refine am_aload_n (q := 144) dX14_read_143 rfl rfl ?_
          refine cm_getR (q := 147) dX14_read_144 flX14_17 rfl (by assumption) (by assumption) rfl ?_
          refine am_iload_n (q := 148) dX14_read_147 rfl rfl ?_
          refine am_iconst (q := 149) (v := 4) dX14_read_148 kc_i4 rfl ?_
          refine cm_iastore (q := 150) dX14_read_149 (by assumption) i2 rfl ?_
          rw [cn]
          by_cases z60 : c = 60
          · have e1 := eqs (Or.inl z60)
            clear eqs on1 tw1
            refine am_iload_n (q := 151) dX14_read_150 rfl rfl ?_
            refine am_bipush (q := 153) (v := 60) dX14_read_151 kc_b60 rfl ?_
            refine am_icmp_eq (tgt := 162) (q := 156) dX14_read_153 rfl rfl (fun _ => ?_) (fun hz => absurd z60 hz)
            exact e1
          · by_cases z62 : c = 62
            · have e1 := eqs (Or.inr z62)
              clear eqs on1 tw1
              refine am_iload_n (q := 151) dX14_read_150 rfl rfl ?_
              refine am_bipush (q := 153) (v := 60) dX14_read_151 kc_b60 rfl ?_
              refine am_icmp_eq (tgt := 162) (q := 156) dX14_read_153 rfl rfl (fun hz => absurd hz z60) (fun _ => ?_)
              refine am_iload_n (q := 157) dX14_read_156 rfl rfl ?_
              refine am_bipush (q := 159) (v := 62) dX14_read_157 kc_b62 rfl ?_
              refine am_icmp_ne (tgt := 200) (q := 162) dX14_read_159 rfl rfl (fun hz => absurd z62 hz) (fun _ => ?_)
              exact e1
            · have t4 := on1 (fun q => q.1.elim z60 z62)
              clear eqs on1 tw1
              refine am_iload_n (q := 151) dX14_read_150 rfl rfl ?_
              refine am_bipush (q := 153) (v := 60) dX14_read_151 kc_b60 rfl ?_
              refine am_icmp_eq (tgt := 162) (q := 156) dX14_read_153 rfl rfl (fun hz => absurd hz z60) (fun _ => ?_)
              refine am_iload_n (q := 157) dX14_read_156 rfl rfl ?_
              refine am_bipush (q := 159) (v := 62) dX14_read_157 kc_b62 rfl ?_
              refine am_icmp_ne (tgt := 200) (q := 162) dX14_read_159 rfl rfl (fun _ => ?_) (fun hz => absurd hz z62)
              exact am_ret dX14_read_200 rfl ⟨_, rfl, rfl, _, rfl, t4, o4⟩
        · refine nosym I2 cs (Or.inr ⟨?_, f2, 1, f5, by decide⟩) o2
          have nl : ¬ isLeB (E.at p) = true ∧ ¬ isDiB (E.at p) = true ∧ E.at p ∉ syms := by
            by_cases z : p < E.1
            · rw [Tp.at_lt z, ← Tp.atm_lt z]
              exact ⟨cl, cd, cs⟩
            · rw [Tp.at_256 z]
              decide
          unfold tokR tokS
          rw [if_neg nl.1, if_neg nl.2.1, if_neg nl.2.2]
  by_cases hl : p < E.1
  · refine am_icmp_lt (tgt := 37) (q := 33) dX14_read_30 rfl rfl (fun _ => ?_) (fun hz => absurd (nI_lt hl (by omega)) hz)
    refine am_iconst (q := 38) (v := 5) dX14_read_37 kc_i5 rfl ?_
    refine cm_iastore (q := 39) dX14_read_38 (by assumption) i2 rfl ?_
    rw [cn]
    exact rest _ (fun x j h => by rw [up2_at, if_neg (by omega), up2_at, if_neg (by omega), up2_at, if_neg (by omega)]) (by rw [up2_a (by omega), up2_a (by omega), up2_s]) (by rw [up2_a (by omega), up2_s]) (by rw [up2_s, if_pos hl])
  · refine am_icmp_lt (tgt := 37) (q := 33) dX14_read_30 rfl rfl (fun hz => absurd hz (nI_nlt (by omega) (by omega))) (fun _ => ?_)
    refine am_iconst (q := 34) (v := 0) dX14_read_33 kc_i0 rfl ?_
    refine am_goto (tgt := 38) dX14_read_34 rfl ?_
    refine cm_iastore (q := 39) dX14_read_38 (by assumption) i2 rfl ?_
    rw [cn]
    exact rest _ (fun x j h => by rw [up2_at, if_neg (by omega), up2_at, if_neg (by omega), up2_at, if_neg (by omega)]) (by rw [up2_a (by omega), up2_a (by omega), up2_s]) (by rw [up2_a (by omega), up2_s]) (by rw [up2_s, if_neg hl])
end Ru0

