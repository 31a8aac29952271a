theorem dX2_init_0 : decode cX2_init 0 = .ok (.aload_n 0, 1) := by decide +kernel
theorem dX2_init_1 : decode cX2_init 1 = .ok (.invokespecial 3, 3) := by decide +kernel
theorem dX2_init_4 : decode cX2_init 4 = .ok (.aload_n 0, 1) := by decide +kernel
theorem dX2_init_5 : decode cX2_init 5 = .ok (.new 9, 3) := by decide +kernel
theorem dX2_init_8 : decode cX2_init 8 = .ok (.dup, 1) := by decide +kernel
theorem dX2_init_9 : decode cX2_init 9 = .ok (.invokespecial 11, 3) := by decide +kernel
theorem dX2_init_12 : decode cX2_init 12 = .ok (.putfield 12, 3) := by decide +kernel
theorem dX2_init_15 : decode cX2_init 15 = .ok (.aload_n 0, 1) := by decide +kernel
theorem dX2_init_16 : decode cX2_init 16 = .ok (.new 18, 3) := by decide +kernel
theorem dX2_init_19 : decode cX2_init 19 = .ok (.dup, 1) := by decide +kernel
theorem dX2_init_20 : decode cX2_init 20 = .ok (.invokespecial 20, 3) := by decide +kernel
theorem dX2_init_23 : decode cX2_init 23 = .ok (.putfield 21, 3) := by decide +kernel
theorem dX2_init_26 : decode cX2_init 26 = .ok (.aload_n 0, 1) := by decide +kernel
theorem dX2_init_27 : decode cX2_init 27 = .ok (.new 25, 3) := by decide +kernel
theorem dX2_init_30 : decode cX2_init 30 = .ok (.dup, 1) := by decide +kernel
theorem dX2_init_31 : decode cX2_init 31 = .ok (.invokespecial 27, 3) := by decide +kernel
theorem dX2_init_34 : decode cX2_init 34 = .ok (.putfield 28, 3) := by decide +kernel
theorem dX2_init_37 : decode cX2_init 37 = .ok (.aload_n 0, 1) := by decide +kernel
theorem dX2_init_38 : decode cX2_init 38 = .ok (.iconst 4, 1) := by decide +kernel
theorem dX2_init_39 : decode cX2_init 39 = .ok (.anewarray 32, 3) := by decide +kernel
theorem dX2_init_42 : decode cX2_init 42 = .ok (.putfield 34, 3) := by decide +kernel
theorem dX2_init_45 : decode cX2_init 45 = .ok (.aload_n 0, 1) := by decide +kernel
theorem dX2_init_46 : decode cX2_init 46 = .ok (.bipush 8, 2) := by decide +kernel
theorem dX2_init_48 : decode cX2_init 48 = .ok (.anewarray 38, 3) := by decide +kernel
theorem dX2_init_51 : decode cX2_init 51 = .ok (.putfield 40, 3) := by decide +kernel
theorem dX2_init_54 : decode cX2_init 54 = .ok (.aload_n 0, 1) := by decide +kernel
theorem dX2_init_55 : decode cX2_init 55 = .ok (.bipush 8, 2) := by decide +kernel
theorem dX2_init_57 : decode cX2_init 57 = .ok (.anewarray 44, 3) := by decide +kernel
theorem dX2_init_60 : decode cX2_init 60 = .ok (.putfield 46, 3) := by decide +kernel
theorem dX2_init_63 : decode cX2_init 63 = .ok (.aload_n 0, 1) := by decide +kernel
theorem dX2_init_64 : decode cX2_init 64 = .ok (.bipush 20, 2) := by decide +kernel
theorem dX2_init_66 : decode cX2_init 66 = .ok (.anewarray 50, 3) := by decide +kernel
theorem dX2_init_69 : decode cX2_init 69 = .ok (.putfield 52, 3) := by decide +kernel
theorem dX2_init_72 : decode cX2_init 72 = .ok (.aload_n 0, 1) := by decide +kernel
theorem dX2_init_73 : decode cX2_init 73 = .ok (.bipush 20, 2) := by decide +kernel
theorem dX2_init_75 : decode cX2_init 75 = .ok (.newarray .int, 2) := by decide +kernel
theorem dX2_init_77 : decode cX2_init 77 = .ok (.putfield 56, 3) := by decide +kernel
theorem dX2_init_80 : decode cX2_init 80 = .ok (.iconst 0, 1) := by decide +kernel
theorem dX2_init_81 : decode cX2_init 81 = .ok (.istore_n 1, 1) := by decide +kernel
theorem dX2_init_110 : decode cX2_init 110 = .ok (.iconst 0, 1) := by decide +kernel
theorem dX2_init_111 : decode cX2_init 111 = .ok (.istore_n 1, 1) := by decide +kernel
theorem dX2_init_140 : decode cX2_init 140 = .ok (.iconst 0, 1) := by decide +kernel
theorem dX2_init_141 : decode cX2_init 141 = .ok (.istore_n 1, 1) := by decide +kernel
theorem dX2_init_170 : decode cX2_init 170 = .ok (.iconst 0, 1) := by decide +kernel
theorem dX2_init_171 : decode cX2_init 171 = .ok (.istore_n 1, 1) := by decide +kernel
theorem dX2_init_200 : decode cX2_init 200 = .ok (.return_, 1) := by decide +kernel
/-! the constructors of the class: a contest, from its first row to its last -/
theorem al_0 : Cond.classLink RX2 32 RX6 ∈ TB := tbc4 111 rfl rfl
theorem al_1 : Cond.classLink RX2 38 RX3 ∈ TB := tbc4 113 rfl rfl
theorem al_2 : Cond.classLink RX2 44 RX5 ∈ TB := tbc4 115 rfl rfl
theorem al_3 : Cond.classLink RX2 50 RX10 ∈ TB := tbc4 117 rfl rfl
def ks13 : List (Nat × Nat) := [(2, 5), (20, 400), (20, 400), (20, 400), (1, 2), (20, 10), (5, 7), (20, 301), (22, 4), (23, 8), (24, 8), (25, 20), (20, 20)]
def ksC : List (Nat × Nat) := ks13 ++ (elR 4 ++ (elO 4 10 8 ++ (elO 6 6 8 ++ elO 11 4 20)))
theorem ksC_len : ksC.length = 57 := by decide +kernel
theorem ksC_a : ∀ i, i < 13 → ksC.getD i (0, 0) = ks13.getD i (0, 0) := by decide +kernel
theorem ksC_r : ∀ i, i < 4 → ksC.getD (13 + 2 * i) (0, 0) = (7, 7) ∧ ksC.getD (14 + 2 * i) (0, 0) = (20, 100) := by decide +kernel
theorem ksC_f : ∀ i, i < 8 → ksC.getD (21 + i) (0, 0) = (4, 10) ∧ ksC.getD (29 + i) (0, 0) = (6, 6) := by decide +kernel
theorem ksC_t : ∀ i, i < 20 → ksC.getD (37 + i) (0, 0) = (11, 4) := by decide +kernel
section Cn2
variable {G : Gp} {P S : AMem} {I : Nat → Nat → Int32} {J : Nat → Nat → Int64} {R : Nat → Nat → Option Nat} {c : Nat} {Z : StA} {Q : (Option AV ⊕ Nat) → AMem → Prop}
/-- code, board and flight -/
theorem k_cn1 (hG : okG G) (hF : Fr S I J R) (kc : S.K c = 3) (hs : S.hs = c + 1) (K : ∀ P R1, P = gS S [(2, 5), (20, 400), (20, 400), (20, 400), (1, 2), (20, 10), (5, 7), (20, 301)] → Fr P I J R1 → (R1 c 0 = some (c + 1) ∧ R1 c 1 = some (c + 5) ∧ R1 c 2 = some (c + 7)) → (R1 (c + 1) 0 = some (c + 2) ∧ R1 (c + 1) 1 = some (c + 3) ∧ R1 (c + 1) 2 = some (c + 4)) → (R1 (c + 5) 0 = some (c + 6) ∧ R1 (c + 7) 0 = some (c + 8)) → (∀ x, (x < c ∨ c + 9 ≤ x) → R1 x = R x) → MW G mX2_init 2 37 [some (vR c), none] [] (mw P I J R1) Q) : MW G mX2_init 2 0 [some (vR c), none] [] (mw S I J R) Q := by
  refine am_aload_n (q := 1) dX2_init_0 rfl rfl ?_
  refine am_objInit (q := 4) dX2_init_1 (tbc4 43 rfl rfl) tb_oi1 tb_oi2 (Nat.le_of_ble_eq_true rfl) rfl ?_
  refine am_aload_n (q := 5) dX2_init_4 rfl rfl ?_
  refine cm_mkO (q := 8) hF dX2_init_5 cnX2_9 rfl ?_
  have i1 := k_X1_init (G := G) (S := S.nw 2 5) (a := S.hs) hF.nw nw_Kn (by rw [nw_hs]; omega)
  refine am_dup (q := 9) dX2_init_8 rfl rfl ?_
  refine am_call2 (q := 12) (As := []) hG dX2_init_9 mlX2_11 rfl (Nat.le_of_ble_eq_true rfl) (Nat.le_of_ble_eq_true rfl) (Nat.le_of_ble_eq_true rfl) i1 rfl ?_
  rintro _ _ ⟨rfl, R1, rfl, ⟨g1, g2, g3⟩, o1⟩
  have e1 : gS (S.nw 2 5) [(20, 400), (20, 400), (20, 400)] = gS S [(2, 5), (20, 400), (20, 400), (20, 400)] := rfl
  rw [e1, hs]
  rw [nw_hs, hs] at g1 g2 g3
  rw [hs] at o1
  have kc1 : (gS S [(2, 5), (20, 400), (20, 400), (20, 400)]).K c = 3 := (gS_o (by omega)).1.trans kc
  have hs1 : (gS S [(2, 5), (20, 400), (20, 400), (20, 400)]).hs = c + 5 := by rw [gS_hs, hs]; rfl
  refine cm_putR (q := 15) dX2_init_12 flX2_12 rfl fpX2_12 (by assumption) rfl ?_
  refine am_aload_n (q := 16) dX2_init_15 rfl rfl ?_
  have f1 : Fr (gS S [(2, 5), (20, 400), (20, 400), (20, 400)]) I J (up2 R1 c 0 (some (c + 1))) := (hF.gS.oR (fun x q => o1 x (by omega))).pR (by omega)
  refine cm_mkO (q := 19) f1 dX2_init_16 cnX2_18 rfl ?_
  have i2 := k_X0_init (G := G) (a := (gS S [(2, 5), (20, 400), (20, 400), (20, 400)]).hs) f1.nw (nw_Kn (k := 1) (n := 2)) (by rw [nw_hs]; omega)
  refine am_dup (q := 20) dX2_init_19 rfl rfl ?_
  refine am_call2 (q := 23) (As := []) hG dX2_init_20 mlX2_20 rfl (Nat.le_of_ble_eq_true rfl) (Nat.le_of_ble_eq_true rfl) (Nat.le_of_ble_eq_true rfl) i2 rfl ?_
  rintro _ _ ⟨rfl, R2, rfl, g4, o2⟩
  have e2 : gS ((gS S [(2, 5), (20, 400), (20, 400), (20, 400)]).nw 1 2) [(20, 10)] = gS S [(2, 5), (20, 400), (20, 400), (20, 400), (1, 2), (20, 10)] := rfl
  rw [e2, hs1]
  rw [nw_hs, hs1] at g4
  rw [hs1] at o2
  have kc2 : (gS S [(2, 5), (20, 400), (20, 400), (20, 400), (1, 2), (20, 10)]).K c = 3 := (gS_o (by omega)).1.trans kc
  have hs2 : (gS S [(2, 5), (20, 400), (20, 400), (20, 400), (1, 2), (20, 10)]).hs = c + 7 := by rw [gS_hs, hs]; rfl
  refine cm_putR (q := 26) dX2_init_23 flX2_21 rfl fpX2_21 (by assumption) rfl ?_
  refine am_aload_n (q := 27) dX2_init_26 rfl rfl ?_
  have f2 : Fr (gS S [(2, 5), (20, 400), (20, 400), (20, 400), (1, 2), (20, 10)]) I J (up2 R2 c 1 (some (c + 5))) := by
    refine Fr.pR (Fr.oR (R := R) hF.gS (fun x q => ?_)) (by omega)
    rw [o2 x (by omega)]
    funext j
    rw [up2_a (by omega), o1 x (by omega)]
  refine cm_mkO (q := 30) f2 dX2_init_27 cnX2_25 rfl ?_
  have i3 := k_X4_init (G := G) (a := (gS S [(2, 5), (20, 400), (20, 400), (20, 400), (1, 2), (20, 10)]).hs) f2.nw (nw_Kn (k := 5) (n := 7)) (by rw [nw_hs]; omega)
  refine am_dup (q := 31) dX2_init_30 rfl rfl ?_
  refine am_call2 (q := 34) (As := []) hG dX2_init_31 mlX2_27 rfl (Nat.le_of_ble_eq_true rfl) (Nat.le_of_ble_eq_true rfl) (Nat.le_of_ble_eq_true rfl) i3 rfl ?_
  rintro _ _ ⟨rfl, R3, rfl, g5, o3⟩
  have e3 : gS ((gS S [(2, 5), (20, 400), (20, 400), (20, 400), (1, 2), (20, 10)]).nw 5 7) [(20, 301)] = gS S [(2, 5), (20, 400), (20, 400), (20, 400), (1, 2), (20, 10), (5, 7), (20, 301)] := rfl
  rw [e3, hs2]
  rw [nw_hs, hs2] at g5
  rw [hs2] at o3
  have kc3 : (gS S [(2, 5), (20, 400), (20, 400), (20, 400), (1, 2), (20, 10), (5, 7), (20, 301)]).K c = 3 := (gS_o (by omega)).1.trans kc
  have hs3 : (gS S [(2, 5), (20, 400), (20, 400), (20, 400), (1, 2), (20, 10), (5, 7), (20, 301)]).hs = c + 9 := by rw [gS_hs, hs]; rfl
  refine cm_putR (q := 37) dX2_init_34 flX2_28 rfl fpX2_28 (by assumption) rfl ?_
  have oo : ∀ x, (x < c ∨ c + 9 ≤ x) → up2 R3 c 2 (some (c + 7)) x = R x := fun x q => by
    funext j
    rw [up2_a (by omega), o3 x (by omega), up2_a (by omega), o2 x (by omega), up2_a (by omega), o1 x (by omega)]
  refine K _ _ rfl (Fr.oR hF.gS (fun x q => oo x (by omega))) ⟨?_, ?_, up2_s⟩ ⟨?_, ?_, ?_⟩ ⟨?_, ?_⟩ oo
  · rw [up2_j (by decide), o3 c (by omega), up2_j (by decide), o2 c (by omega), up2_s]
  · rw [up2_j (by decide), o3 c (by omega), up2_s]
  · rw [up2_a (by omega), o3 _ (by omega), up2_a (by omega), o2 _ (by omega), up2_a (by omega)]
    exact g1
  · rw [up2_a (by omega), o3 _ (by omega), up2_a (by omega), o2 _ (by omega), up2_a (by omega)]
    exact g2
  · rw [up2_a (by omega), o3 _ (by omega), up2_a (by omega), o2 _ (by omega), up2_a (by omega)]
    exact g3
  · rw [up2_a (by omega), o3 _ (by omega), up2_a (by omega)]
    exact g4
  · rw [up2_a (by omega)]
    exact g5
/-- the five rows -/
theorem k_cn2 (hG : okG G) (hZ : KS G Z) (hF : Fr P I J R) (kc : P.K c = 3) (hs : P.hs = c + 9) (K : ∀ R1, Fr (gS P [(22, 4), (23, 8), (24, 8), (25, 20), (20, 20)]) I J R1 → (R1 c 3 = some (c + 9) ∧ R1 c 4 = some (c + 10) ∧ R1 c 5 = some (c + 11) ∧ R1 c 6 = some (c + 12) ∧ R1 c 7 = some (c + 13)) → (∀ x j, (x ≠ c ∨ j < 3) → R1 x j = R x j) → MW G mX2_init 2 80 [some (vR c), none] [] (mw (gS P [(22, 4), (23, 8), (24, 8), (25, 20), (20, 20)]) I J R1) Q) : MW G mX2_init 2 37 [some (vR c), none] [] (mw P I J R) Q := by
  refine am_aload_n (q := 38) dX2_init_37 rfl rfl ?_
  refine am_iconst (q := 39) (v := 4) dX2_init_38 kc_i4 rfl ?_
  refine cm_mkR (t := 0) (n := 4) (q := 42) hF dX2_init_39 al_0 (hZ.ov (by decide)) rfl (by decide) rfl (Nat.le_of_ble_eq_true rfl) rfl ?_
  rw [hs]
  have k1 : (P.nw (22 + 0) 4).K c = 3 := (nw_Ko (by omega)).trans kc
  refine cm_putR (q := 45) dX2_init_42 flX2_34 rfl fpX2_34 (by assumption) rfl ?_
  refine am_aload_n (q := 46) dX2_init_45 rfl rfl ?_
  refine am_bipush (q := 48) (v := 8) dX2_init_46 kc_b8 rfl ?_
  have f1 : Fr (P.nw (22 + 0) 4) I J (up2 R c 3 (some (c + 9))) := hF.nw.pR (by rw [nw_hs]; omega)
  refine cm_mkR (t := 1) (n := 8) (q := 51) f1 dX2_init_48 al_1 (hZ.ov (by decide)) rfl (by decide) rfl (Nat.le_of_ble_eq_true rfl) rfl ?_
  rw [nw_hs, hs]
  have k2 : ((P.nw (22 + 0) 4).nw (22 + 1) 8).K c = 3 := (nw_Ko (by rw [nw_hs]; omega)).trans k1
  refine cm_putR (q := 54) dX2_init_51 flX2_40 rfl fpX2_40 (by assumption) rfl ?_
  refine am_aload_n (q := 55) dX2_init_54 rfl rfl ?_
  refine am_bipush (q := 57) (v := 8) dX2_init_55 kc_b8 rfl ?_
  have f2 : Fr ((P.nw (22 + 0) 4).nw (22 + 1) 8) I J (up2 (up2 R c 3 (some (c + 9))) c 4 (some (c + 9 + 1))) := f1.nw.pR (by rw [nw_hs, nw_hs]; omega)
  refine cm_mkR (t := 2) (n := 8) (q := 60) f2 dX2_init_57 al_2 (hZ.ov (by decide)) rfl (by decide) rfl (Nat.le_of_ble_eq_true rfl) rfl ?_
  rw [nw_hs, nw_hs, hs]
  have k3 : (((P.nw (22 + 0) 4).nw (22 + 1) 8).nw (22 + 2) 8).K c = 3 := (nw_Ko (by rw [nw_hs, nw_hs]; omega)).trans k2
  refine cm_putR (q := 63) dX2_init_60 flX2_46 rfl fpX2_46 (by assumption) rfl ?_
  refine am_aload_n (q := 64) dX2_init_63 rfl rfl ?_
  refine am_bipush (q := 66) (v := 20) dX2_init_64 kc_b20 rfl ?_
  have f3 : Fr (((P.nw (22 + 0) 4).nw (22 + 1) 8).nw (22 + 2) 8) I J (up2 (up2 (up2 R c 3 (some (c + 9))) c 4 (some (c + 9 + 1))) c 5 (some (c + 9 + 1 + 1))) := f2.nw.pR (by rw [nw_hs, nw_hs, nw_hs]; omega)
  refine cm_mkR (t := 3) (n := 20) (q := 69) f3 dX2_init_66 al_3 (hZ.ov (by decide)) rfl (by decide) rfl (Nat.le_of_ble_eq_true rfl) rfl ?_
  rw [nw_hs, nw_hs, nw_hs, hs]
  have k4 : ((((P.nw (22 + 0) 4).nw (22 + 1) 8).nw (22 + 2) 8).nw (22 + 3) 20).K c = 3 := (nw_Ko (by rw [nw_hs, nw_hs, nw_hs]; omega)).trans k3
  refine cm_putR (q := 72) dX2_init_69 flX2_52 rfl fpX2_52 (by assumption) rfl ?_
  refine am_aload_n (q := 73) dX2_init_72 rfl rfl ?_
  refine am_bipush (q := 75) (v := 20) dX2_init_73 kc_b20 rfl ?_
  have f4 : Fr ((((P.nw (22 + 0) 4).nw (22 + 1) 8).nw (22 + 2) 8).nw (22 + 3) 20) I J (up2 (up2 (up2 (up2 R c 3 (some (c + 9))) c 4 (some (c + 9 + 1))) c 5 (some (c + 9 + 1 + 1))) c 6 (some (c + 9 + 1 + 1 + 1))) := f3.nw.pR (by rw [nw_hs, nw_hs, nw_hs, nw_hs]; omega)
  refine cm_mkI (n := 20) (q := 77) f4 dX2_init_75 (by decide) rfl (Nat.le_of_ble_eq_true rfl) rfl ?_
  rw [nw_hs, nw_hs, nw_hs, nw_hs, hs]
  have k5 : (((((P.nw (22 + 0) 4).nw (22 + 1) 8).nw (22 + 2) 8).nw (22 + 3) 20).nw 20 20).K c = 3 := (nw_Ko (by rw [nw_hs, nw_hs, nw_hs, nw_hs]; omega)).trans k4
  refine cm_putR (q := 80) dX2_init_77 flX2_56 rfl fpX2_56 (by assumption) rfl ?_
  have f5 : Fr (((((P.nw (22 + 0) 4).nw (22 + 1) 8).nw (22 + 2) 8).nw (22 + 3) 20).nw 20 20) I J (up2 (up2 (up2 (up2 (up2 R c 3 (some (c + 9))) c 4 (some (c + 9 + 1))) c 5 (some (c + 9 + 1 + 1))) c 6 (some (c + 9 + 1 + 1 + 1))) c 7 (some (c + 9 + 1 + 1 + 1 + 1))) := f4.nw.pR (by rw [nw_hs, nw_hs, nw_hs, nw_hs, nw_hs]; omega)
  refine K _ f5 ⟨?_, ?_, ?_, ?_, up2_s⟩ (fun x j q => ?_)
  · rw [up2_j (by decide), up2_j (by decide), up2_j (by decide), up2_j (by decide), up2_s]
  · rw [up2_j (by decide), up2_j (by decide), up2_j (by decide), up2_s]
  · rw [up2_j (by decide), up2_j (by decide), up2_s]
  · rw [up2_j (by decide), up2_s]
  · rw [up2_at, if_neg (by omega), up2_at, if_neg (by omega), up2_at, if_neg (by omega), up2_at, if_neg (by omega), up2_at, if_neg (by omega)]
theorem k_X2_init (hG : okG G) (hZ : KS G Z) (hF : Fr S I J R) (kc : S.K c = 3) (hs : S.hs = c + 1) : Fn G mX2_init 2 [vR c] (mw S I J R) (fun rr M1 => rr = none ∧ ∃ R1, M1 = mw (gS S ksC) I J R1 ∧ CT (gS S ksC) R1 c ∧ ∀ x, (x < c ∨ c + 58 ≤ x) → R1 x = R x) := by
  refine k_cn1 hG hF kc hs (fun P R1 hP f1 ⟨r0, r1, r2⟩ ⟨a0, a1, a2⟩ ⟨b0, b1⟩ o1 => ?_)
  have hs1 : P.hs = c + 9 := by rw [hP, gS_hs, hs]; rfl
  have kc1 : P.K c = 3 := by rw [hP]; exact (gS_o (by omega)).1.trans kc
  refine k_cn2 hG hZ f1 kc1 hs1 (fun R2 f2 ⟨r3, r4, r5, r6, r7⟩ o2 => ?_)
  have eA : gS P [(22, 4), (23, 8), (24, 8), (25, 20), (20, 20)] = gS S ks13 := by
    rw [hP, gS_app]
    rfl
  rw [eA] at f2 ⊢
  clear eA hP kc1 hs1 f1
  have hs2 : (gS S ks13).hs = c + 14 := by rw [gS_hs, hs]; rfl
  have k13 : ∀ i, i < 13 → (gS S ks13).K (c + 1 + i) = (ks13.getD i (0, 0)).1 ∧ (gS S ks13).ln (c + 1 + i) = (ks13.getD i (0, 0)).2 := fun i hi => gS_at hs (by exact hi) rfl
  have kc2 : (gS S ks13).K c = 3 := (gS_o (by omega)).1.trans kc
  have e3 := gS_app (S := S) (l := ks13) (l' := elR 4)
  have e4 := gS_app (S := gS S ks13) (l := elR 4) (l' := elO 4 10 8)
  refine am_iconst (q := 81) (v := 0) dX2_init_80 kc_i0 rfl ?_
  refine am_istore_n (q := 82) (ls1 := [_, _]) dX2_init_81 (Nat.le_of_ble_eq_true rfl) rfl rfl ?_
  refine k_cl1 hG f2 hs2 kc2 r3 (k13 8 (by decide)).1 (k13 8 (by decide)).2 (fun R3 f3 q3 o3 => ?_)
  have hs3 : (gS (gS S ks13) (elR 4)).hs = c + 22 := by rw [gS_hs, hs2]; rfl
  have kx : ∀ {l : List (Nat × Nat)} {x : Nat}, x < c + 14 → (gS (gS S ks13) l).K x = (gS S ks13).K x ∧ (gS (gS S ks13) l).ln x = (gS S ks13).ln x := fun {l x} h => gS_o (by omega)
  refine am_iconst (q := 111) (v := 0) dX2_init_110 kc_i0 rfl ?_
  refine am_istore_n (q := 112) (ls1 := [_, _]) dX2_init_111 (Nat.le_of_ble_eq_true rfl) rfl rfl ?_
  refine k_cl2 hG f3 hs3 ((kx (by omega)).1.trans kc2) (by rw [o3 c (by omega) (by omega)]; exact r4) ((kx (by omega)).1.trans (k13 9 (by decide)).1) ((kx (by omega)).2.trans (k13 9 (by decide)).2) (fun R4 f4 q4 o4 => ?_)
  rw [gS_app] at f4 ⊢
  have hs4 : (gS (gS S ks13) (elR 4 ++ elO 4 10 8)).hs = c + 30 := by rw [gS_hs, hs2]; rfl
  refine am_iconst (q := 141) (v := 0) dX2_init_140 kc_i0 rfl ?_
  refine am_istore_n (q := 142) (ls1 := [_, _]) dX2_init_141 (Nat.le_of_ble_eq_true rfl) rfl rfl ?_
  refine k_cl3 hG f4 hs4 ((kx (by omega)).1.trans kc2) (by rw [o4 c (by omega) (by omega), o3 c (by omega) (by omega)]; exact r5) ((kx (by omega)).1.trans (k13 10 (by decide)).1) ((kx (by omega)).2.trans (k13 10 (by decide)).2) (fun R5 f5 q5 o5 => ?_)
  rw [gS_app] at f5 ⊢
  have hs5 : (gS (gS S ks13) (elR 4 ++ elO 4 10 8 ++ elO 6 6 8)).hs = c + 38 := by rw [gS_hs, hs2]; rfl
  refine am_iconst (q := 171) (v := 0) dX2_init_170 kc_i0 rfl ?_
  refine am_istore_n (q := 172) (ls1 := [_, _]) dX2_init_171 (Nat.le_of_ble_eq_true rfl) rfl rfl ?_
  refine k_cl4 hG f5 hs5 ((kx (by omega)).1.trans kc2) (by rw [o5 c (by omega) (by omega), o4 c (by omega) (by omega), o3 c (by omega) (by omega)]; exact r6) ((kx (by omega)).1.trans (k13 11 (by decide)).1) ((kx (by omega)).2.trans (k13 11 (by decide)).2) (fun R6 f6 q6 o6 => ?_)
  have eZ : gS (gS (gS S ks13) (elR 4 ++ elO 4 10 8 ++ elO 6 6 8)) (elO 11 4 20) = gS S ksC := by
    rw [gS_app, gS_app, List.append_assoc, List.append_assoc]
    rfl
  rw [eZ]
  have kk : ∀ i k n, i < 57 → ksC.getD i (0, 0) = (k, n) → (gS S ksC).K (c + 1 + i) = k ∧ (gS S ksC).ln (c + 1 + i) = n := fun i k n hi h => gS_at hs (by rw [ksC_len]; exact hi) h
  have kd : ∀ i, i < 13 → (gS S ksC).K (c + 1 + i) = (ks13.getD i (0, 0)).1 ∧ (gS S ksC).ln (c + 1 + i) = (ks13.getD i (0, 0)).2 := fun i hi => kk i _ _ (by omega) (by rw [ksC_a i hi])
  have kcZ : (gS S ksC).K c = 3 := (gS_o (by omega)).1.trans kc
  have cc : ∀ j, R6 c j = R2 c j := fun j => by rw [o6 c (by omega) (by omega), o5 c (by omega) (by omega), o4 c (by omega) (by omega), o3 c (by omega) (by omega)]
  have cx : ∀ x j, x ≠ c → x < c + 9 → R6 x j = R1 x j := fun x j q1 q2 => by rw [o6 x (by omega) (by omega), o5 x (by omega) (by omega), o4 x (by omega) (by omega), o3 x (by omega) (by omega)]; exact o2 x j (Or.inl q1)
  have ct : CT (gS S ksC) R6 c := by
    refine ⟨kcZ, ?_, ?_, ?_, ?_, ?_, ?_, ?_, ?_, ⟨(kd 0 (by decide)).1, ?_, ?_, ?_, (kd 1 (by decide)).1, (kd 1 (by decide)).2, (kd 2 (by decide)).1, (kd 2 (by decide)).2, (kd 3 (by decide)).1, (kd 3 (by decide)).2⟩, ⟨(kd 4 (by decide)).1, ?_, (kd 5 (by decide)).1, (kd 5 (by decide)).2⟩, ⟨(kd 6 (by decide)).1, ?_, (kd 7 (by decide)).1, (kd 7 (by decide)).2⟩, ⟨(kd 8 (by decide)).1, (kd 8 (by decide)).2, fun i hi => ?_⟩, ⟨(kd 9 (by decide)).1, (kd 9 (by decide)).2, fun i hi => ?_⟩, ⟨(kd 10 (by decide)).1, (kd 10 (by decide)).2, fun i hi => ?_⟩, ⟨(kd 11 (by decide)).1, (kd 11 (by decide)).2, fun i hi => ?_⟩, (kd 12 (by decide)).1, (kd 12 (by decide)).2⟩
    · rw [cc, o2 c 0 (by omega)]; exact r0
    · rw [cc, o2 c 1 (by omega)]; exact r1
    · rw [cc, o2 c 2 (by omega)]; exact r2
    · rw [cc]; exact r3
    · rw [cc]; exact r4
    · rw [cc]; exact r5
    · rw [cc]; exact r6
    · rw [cc]; exact r7
    · rw [cx _ _ (by omega) (by omega)]; exact a0
    · rw [cx _ _ (by omega) (by omega)]; exact a1
    · rw [cx _ _ (by omega) (by omega)]; exact a2
    · rw [cx _ _ (by omega) (by omega)]; exact b0
    · rw [cx _ _ (by omega) (by omega)]; exact b1
    · obtain ⟨w1, w2⟩ := q3 i hi
      obtain ⟨z1, z2⟩ := ksC_r i hi
      have y1 := kk _ _ _ (by omega) z1
      have y2 := kk _ _ _ (by omega) z2
      rw [show c + 1 + (13 + 2 * i) = c + 14 + 2 * i by omega] at y1
      rw [show c + 1 + (14 + 2 * i) = c + 15 + 2 * i by omega] at y2
      refine ⟨?_, y1.1, ?_, y2.1, y2.2⟩
      · rw [o6 _ (by omega) (by omega), o5 _ (by omega) (by omega), o4 _ (by omega) (by omega)]
        exact w1
      · rw [o6 _ (by omega) (by omega), o5 _ (by omega) (by omega), o4 _ (by omega) (by omega)]
        exact w2
    · have y1 := kk _ _ _ (by omega) (ksC_f i hi).1
      rw [show c + 1 + (21 + i) = c + 22 + i by omega] at y1
      refine ⟨?_, y1.1⟩
      rw [o6 _ (by omega) (by omega), o5 _ (by omega) (by omega)]
      exact q4 i hi
    · have y1 := kk _ _ _ (by omega) (ksC_f i hi).2
      rw [show c + 1 + (29 + i) = c + 30 + i by omega] at y1
      refine ⟨?_, y1.1⟩
      rw [o6 _ (by omega) (by omega)]
      exact q5 i hi
    · have y1 := kk _ _ _ (by omega) (ksC_t i hi)
      rw [show c + 1 + (37 + i) = c + 38 + i by omega] at y1
      exact ⟨q6 i hi, y1.1⟩
  have oo : ∀ x, (x < c ∨ c + 58 ≤ x) → R6 x = R x := fun x q => by
    rw [o6 x (by omega) (by omega), o5 x (by omega) (by omega), o4 x (by omega) (by omega), o3 x (by omega) (by omega), ← o1 x (by omega)]
    exact funext fun j => o2 x j (by omega)
  exact am_ret dX2_init_200 rfl ⟨_, rfl, rfl, R6, rfl, ct, oo⟩
end Cn2

