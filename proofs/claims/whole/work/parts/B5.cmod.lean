theorem kc_s402 : (Int16.ofInt 402).toInt32 = 402 := by decide +kernel
theorem dX14_init_0 : decode cX14_init 0 = .ok (.aload_n 0, 1) := by decide +kernel
theorem dX14_init_1 : decode cX14_init 1 = .ok (.invokespecial 1, 3) := by decide +kernel
theorem dX14_init_4 : decode cX14_init 4 = .ok (.aload_n 0, 1) := by decide +kernel
theorem dX14_init_5 : decode cX14_init 5 = .ok (.sipush 2000, 3) := by decide +kernel
theorem dX14_init_8 : decode cX14_init 8 = .ok (.newarray .int, 2) := by decide +kernel
theorem dX14_init_10 : decode cX14_init 10 = .ok (.putfield 9, 3) := by decide +kernel
theorem dX14_init_13 : decode cX14_init 13 = .ok (.aload_n 0, 1) := by decide +kernel
theorem dX14_init_14 : decode cX14_init 14 = .ok (.iconst (-1), 1) := by decide +kernel
theorem dX14_init_15 : decode cX14_init 15 = .ok (.putfield 13, 3) := by decide +kernel
theorem dX14_init_18 : decode cX14_init 18 = .ok (.aload_n 0, 1) := by decide +kernel
theorem dX14_init_19 : decode cX14_init 19 = .ok (.sipush 402, 3) := by decide +kernel
theorem dX14_init_22 : decode cX14_init 22 = .ok (.newarray .int, 2) := by decide +kernel
theorem dX14_init_24 : decode cX14_init 24 = .ok (.putfield 17, 3) := by decide +kernel
theorem dX14_init_27 : decode cX14_init 27 = .ok (.aload_n 0, 1) := by decide +kernel
theorem dX14_init_28 : decode cX14_init 28 = .ok (.sipush 402, 3) := by decide +kernel
theorem dX14_init_31 : decode cX14_init 31 = .ok (.newarray .int, 2) := by decide +kernel
theorem dX14_init_33 : decode cX14_init 33 = .ok (.putfield 20, 3) := by decide +kernel
theorem dX14_init_36 : decode cX14_init 36 = .ok (.aload_n 0, 1) := by decide +kernel
theorem dX14_init_37 : decode cX14_init 37 = .ok (.sipush 402, 3) := by decide +kernel
theorem dX14_init_40 : decode cX14_init 40 = .ok (.newarray .int, 2) := by decide +kernel
theorem dX14_init_42 : decode cX14_init 42 = .ok (.putfield 23, 3) := by decide +kernel
theorem dX14_init_45 : decode cX14_init 45 = .ok (.aload_n 0, 1) := by decide +kernel
theorem dX14_init_46 : decode cX14_init 46 = .ok (.sipush 402, 3) := by decide +kernel
theorem dX14_init_49 : decode cX14_init 49 = .ok (.newarray .int, 2) := by decide +kernel
theorem dX14_init_51 : decode cX14_init 51 = .ok (.putfield 26, 3) := by decide +kernel
theorem dX14_init_54 : decode cX14_init 54 = .ok (.aload_n 0, 1) := by decide +kernel
theorem dX14_init_55 : decode cX14_init 55 = .ok (.new 29, 3) := by decide +kernel
theorem dX14_init_58 : decode cX14_init 58 = .ok (.dup, 1) := by decide +kernel
theorem dX14_init_59 : decode cX14_init 59 = .ok (.invokespecial 31, 3) := by decide +kernel
theorem dX14_init_62 : decode cX14_init 62 = .ok (.putfield 32, 3) := by decide +kernel
theorem dX14_init_65 : decode cX14_init 65 = .ok (.aload_n 0, 1) := by decide +kernel
theorem dX14_init_66 : decode cX14_init 66 = .ok (.new 29, 3) := by decide +kernel
theorem dX14_init_69 : decode cX14_init 69 = .ok (.dup, 1) := by decide +kernel
theorem dX14_init_70 : decode cX14_init 70 = .ok (.invokespecial 31, 3) := by decide +kernel
theorem dX14_init_73 : decode cX14_init 73 = .ok (.putfield 36, 3) := by decide +kernel
theorem dX14_init_76 : decode cX14_init 76 = .ok (.aload_n 0, 1) := by decide +kernel
theorem dX14_init_77 : decode cX14_init 77 = .ok (.iconst 4, 1) := by decide +kernel
theorem dX14_init_78 : decode cX14_init 78 = .ok (.newarray .int, 2) := by decide +kernel
theorem dX14_init_80 : decode cX14_init 80 = .ok (.putfield 39, 3) := by decide +kernel
theorem dX14_init_83 : decode cX14_init 83 = .ok (.aload_n 0, 1) := by decide +kernel
theorem dX14_init_84 : decode cX14_init 84 = .ok (.bipush 8, 2) := by decide +kernel
theorem dX14_init_86 : decode cX14_init 86 = .ok (.newarray .int, 2) := by decide +kernel
theorem dX14_init_88 : decode cX14_init 88 = .ok (.putfield 42, 3) := by decide +kernel
theorem dX14_init_91 : decode cX14_init 91 = .ok (.aload_n 0, 1) := by decide +kernel
theorem dX14_init_92 : decode cX14_init 92 = .ok (.bipush 8, 2) := by decide +kernel
theorem dX14_init_94 : decode cX14_init 94 = .ok (.newarray .int, 2) := by decide +kernel
theorem dX14_init_96 : decode cX14_init 96 = .ok (.putfield 45, 3) := by decide +kernel
theorem dX14_init_99 : decode cX14_init 99 = .ok (.aload_n 0, 1) := by decide +kernel
theorem dX14_init_100 : decode cX14_init 100 = .ok (.new 48, 3) := by decide +kernel
theorem dX14_init_103 : decode cX14_init 103 = .ok (.dup, 1) := by decide +kernel
theorem dX14_init_104 : decode cX14_init 104 = .ok (.invokespecial 50, 3) := by decide +kernel
theorem dX14_init_107 : decode cX14_init 107 = .ok (.putfield 51, 3) := by decide +kernel
theorem dX14_init_110 : decode cX14_init 110 = .ok (.aload_n 0, 1) := by decide +kernel
theorem dX14_init_111 : decode cX14_init 111 = .ok (.new 48, 3) := by decide +kernel
theorem dX14_init_114 : decode cX14_init 114 = .ok (.dup, 1) := by decide +kernel
theorem dX14_init_115 : decode cX14_init 115 = .ok (.invokespecial 50, 3) := by decide +kernel
theorem dX14_init_118 : decode cX14_init 118 = .ok (.putfield 55, 3) := by decide +kernel
theorem dX14_init_121 : decode cX14_init 121 = .ok (.return_, 1) := by decide +kernel
/-! the constructors of the class: the reference -/
def kBl : List (Nat × Nat) := [(20, 12), (20, 48), (20, 24), (20, 24), (20, 60), (20, 401), (20, 401), (20, 401)]
def kSt : List (Nat × Nat) := [(20, 10), (20, 12), (20, 56), (20, 16), (20, 20)]
def kA1 : List (Nat × Nat) := [(20, 2000), (20, 402), (20, 402), (20, 402), (20, 402)]
def kA2 : List (Nat × Nat) := [(20, 4), (20, 8), (20, 8)]
def ks14 : List (Nat × Nat) := kA1 ++ ((13, 14) :: kBl) ++ ((13, 14) :: kBl) ++ kA2 ++ ((14, 11) :: kSt) ++ ((14, 11) :: kSt)
theorem ks14_len : ks14.length = 38 := by decide +kernel
def BCr (R : Nat → Nat → Option Nat) (b : Nat) : Prop := R b 5 = some (b + 1) ∧ R b 6 = some (b + 2) ∧ R b 7 = some (b + 3) ∧ R b 8 = some (b + 4) ∧ R b 9 = some (b + 5) ∧ R b 11 = some (b + 6) ∧ R b 12 = some (b + 7) ∧ R b 13 = some (b + 8)
def SCr (R : Nat → Nat → Option Nat) (z : Nat) : Prop := R z 6 = some (z + 1) ∧ R z 7 = some (z + 2) ∧ R z 8 = some (z + 3) ∧ R z 9 = some (z + 4) ∧ R z 10 = some (z + 5)
theorem BCr.cg {R R1 : Nat → Nat → Option Nat} {b : Nat} (h : BCr R b) (q : ∀ j, R1 b j = R b j) : BCr R1 b := by
  unfold BCr at h ⊢
  simp only [q]
  exact h
theorem SCr.cg {R R1 : Nat → Nat → Option Nat} {b : Nat} (h : SCr R b) (q : ∀ j, R1 b j = R b j) : SCr R1 b := by
  unfold SCr at h ⊢
  simp only [q]
  exact h
section Yi
variable {G : Gp} {P S : AMem} {I : Nat → Nat → Int32} {J : Nat → Nat → Int64} {R : Nat → Nat → Option Nat} {a y : Nat} {Q : (Option AV ⊕ Nat) → AMem → Prop}
theorem k_yi1 (hF : Fr S I J R) (ka : S.K a = 15) (ha : a < S.hs) (K : ∀ R1, Fr (gS S kA1) (up2 I a 3 (-1)) J R1 → (R1 a 1 = some (S.hs + 0) ∧ R1 a 4 = some (S.hs + 1) ∧ R1 a 5 = some (S.hs + 2) ∧ R1 a 6 = some (S.hs + 3) ∧ R1 a 7 = some (S.hs + 4)) → (∀ x j, (x ≠ a ∨ (j ≠ 1 ∧ j ≠ 4 ∧ j ≠ 5 ∧ j ≠ 6 ∧ j ≠ 7)) → R1 x j = R x j) → MW G mX14_init 2 54 [some (vR a)] [] (mw (gS S kA1) (up2 I a 3 (-1)) J R1) Q) : MW G mX14_init 2 0 [some (vR a)] [] (mw S I J R) Q := by
  refine am_aload_n (q := 1) dX14_init_0 rfl rfl ?_
  refine am_objInit (q := 4) dX14_init_1 (tbc5 213 rfl rfl) tb_oi1 tb_oi2 (Nat.le_of_ble_eq_true rfl) rfl ?_
  refine am_aload_n (q := 5) dX14_init_4 rfl rfl ?_
  refine am_sipush (q := 8) (v := 2000) dX14_init_5 kc_s2000 rfl ?_
  refine cm_mkI (n := 2000) (q := 10) hF dX14_init_8 (by decide) rfl (Nat.le_of_ble_eq_true rfl) rfl ?_
  have k1 : (S.nw 20 2000).K a = 15 := (nw_Ko (show a ≠ S.hs + 0 by omega)).trans ka
  refine cm_putR (q := 13) dX14_init_10 flX14_9 rfl fpX14_9 (by assumption) rfl ?_
  have f1 : Fr (S.nw 20 2000) I J (up2 R a 1 (some (S.hs + 0))) := (hF.nw).pR (show a < S.hs + 1 by omega)
  refine am_aload_n (q := 14) dX14_init_13 rfl rfl ?_
  refine am_iconst (q := 15) (v := (-1)) dX14_init_14 kc_im1 rfl ?_
  refine cm_putI (q := 18) dX14_init_15 flX14_13 rfl (Or.inl rfl) (Or.inl rfl) (by assumption) rfl ?_
  have f1 : Fr (S.nw 20 2000) (up2 I a 3 (-1)) J (up2 R a 1 (some (S.hs + 0))) := f1.pI (show a < S.hs + 1 by omega)
  refine am_aload_n (q := 19) dX14_init_18 rfl rfl ?_
  refine am_sipush (q := 22) (v := 402) dX14_init_19 kc_s402 rfl ?_
  refine cm_mkI (n := 402) (q := 24) f1 dX14_init_22 (by decide) rfl (Nat.le_of_ble_eq_true rfl) rfl ?_
  have k2 : ((S.nw 20 2000).nw 20 402).K a = 15 := (nw_Ko (show a ≠ S.hs + 1 by omega)).trans k1
  refine cm_putR (q := 27) dX14_init_24 flX14_17 rfl fpX14_17 (by assumption) rfl ?_
  have f2 : Fr ((S.nw 20 2000).nw 20 402) (up2 I a 3 (-1)) J (up2 (up2 R a 1 (some (S.hs + 0))) a 4 (some (S.hs + 1))) := (f1.nw).pR (show a < S.hs + 2 by omega)
  refine am_aload_n (q := 28) dX14_init_27 rfl rfl ?_
  refine am_sipush (q := 31) (v := 402) dX14_init_28 kc_s402 rfl ?_
  refine cm_mkI (n := 402) (q := 33) f2 dX14_init_31 (by decide) rfl (Nat.le_of_ble_eq_true rfl) rfl ?_
  have k3 : (((S.nw 20 2000).nw 20 402).nw 20 402).K a = 15 := (nw_Ko (show a ≠ S.hs + 2 by omega)).trans k2
  refine cm_putR (q := 36) dX14_init_33 flX14_20 rfl fpX14_20 (by assumption) rfl ?_
  have f3 : Fr (((S.nw 20 2000).nw 20 402).nw 20 402) (up2 I a 3 (-1)) J (up2 (up2 (up2 R a 1 (some (S.hs + 0))) a 4 (some (S.hs + 1))) a 5 (some (S.hs + 2))) := (f2.nw).pR (show a < S.hs + 3 by omega)
  refine am_aload_n (q := 37) dX14_init_36 rfl rfl ?_
  refine am_sipush (q := 40) (v := 402) dX14_init_37 kc_s402 rfl ?_
  refine cm_mkI (n := 402) (q := 42) f3 dX14_init_40 (by decide) rfl (Nat.le_of_ble_eq_true rfl) rfl ?_
  have k4 : ((((S.nw 20 2000).nw 20 402).nw 20 402).nw 20 402).K a = 15 := (nw_Ko (show a ≠ S.hs + 3 by omega)).trans k3
  refine cm_putR (q := 45) dX14_init_42 flX14_23 rfl fpX14_23 (by assumption) rfl ?_
  have f4 : Fr ((((S.nw 20 2000).nw 20 402).nw 20 402).nw 20 402) (up2 I a 3 (-1)) J (up2 (up2 (up2 (up2 R a 1 (some (S.hs + 0))) a 4 (some (S.hs + 1))) a 5 (some (S.hs + 2))) a 6 (some (S.hs + 3))) := (f3.nw).pR (show a < S.hs + 4 by omega)
  refine am_aload_n (q := 46) dX14_init_45 rfl rfl ?_
  refine am_sipush (q := 49) (v := 402) dX14_init_46 kc_s402 rfl ?_
  refine cm_mkI (n := 402) (q := 51) f4 dX14_init_49 (by decide) rfl (Nat.le_of_ble_eq_true rfl) rfl ?_
  have k5 : (((((S.nw 20 2000).nw 20 402).nw 20 402).nw 20 402).nw 20 402).K a = 15 := (nw_Ko (show a ≠ S.hs + 4 by omega)).trans k4
  refine cm_putR (q := 54) dX14_init_51 flX14_26 rfl fpX14_26 (by assumption) rfl ?_
  have f5 : Fr (((((S.nw 20 2000).nw 20 402).nw 20 402).nw 20 402).nw 20 402) (up2 I a 3 (-1)) J (up2 (up2 (up2 (up2 (up2 R a 1 (some (S.hs + 0))) a 4 (some (S.hs + 1))) a 5 (some (S.hs + 2))) a 6 (some (S.hs + 3))) a 7 (some (S.hs + 4))) := (f4.nw).pR (show a < S.hs + 5 by omega)
  exact K _ f5 ⟨(by rw [up2_j (by decide), up2_j (by decide), up2_j (by decide), up2_j (by decide), up2_s]; rfl), (by rw [up2_j (by decide), up2_j (by decide), up2_j (by decide), up2_s]; rfl), (by rw [up2_j (by decide), up2_j (by decide), up2_s]; rfl), (by rw [up2_j (by decide), up2_s]; rfl), (by rw [up2_s]; rfl)⟩ (fun x j q => by rw [up2_at, if_neg (by omega), up2_at, if_neg (by omega), up2_at, if_neg (by omega), up2_at, if_neg (by omega), up2_at, if_neg (by omega)])
theorem k_yi2 (hG : okG G) (hF : Fr P I J R) (ka : P.K a = 15) (ha : a < P.hs) (K : ∀ R1, Fr (gS P ((13, 14) :: kBl)) I J R1 → (R1 a 8 = some P.hs ∧ BCr R1 P.hs) → (∀ x j, ((x ≠ a ∧ x ≠ P.hs) ∨ (x = a ∧ j ≠ 8)) → R1 x j = R x j) → MW G mX14_init 2 65 [some (vR a)] [] (mw (gS P ((13, 14) :: kBl)) I J R1) Q) : MW G mX14_init 2 54 [some (vR a)] [] (mw P I J R) Q := by
  refine am_aload_n (q := 55) dX14_init_54 rfl rfl ?_
  refine cm_mkO (q := 58) hF dX14_init_55 cnX14_29 rfl ?_
  have i1 := k_X12_init (G := G) (S := P.nw 13 14) (a := P.hs) hF.nw nw_Kn (by rw [nw_hs]; omega)
  refine am_dup (q := 59) dX14_init_58 rfl rfl ?_
  refine am_call2 (q := 62) (As := []) hG dX14_init_59 mlX14_31 rfl (Nat.le_of_ble_eq_true rfl) (Nat.le_of_ble_eq_true rfl) (Nat.le_of_ble_eq_true rfl) i1 rfl ?_
  rintro _ _ ⟨rfl, R1, rfl, g1, o1⟩
  have e1 : gS (P.nw 13 14) kBl = gS P ((13, 14) :: kBl) := rfl
  have g2 : BCr R1 P.hs := g1
  refine (?_ : MW G mX14_init 2 62 _ _ (mw (gS P ((13, 14) :: kBl)) I J R1) _)
  have ka1 : (gS P ((13, 14) :: kBl)).K a = 15 := (gS_o ha).1.trans ka
  have hs1 : (gS P ((13, 14) :: kBl)).hs = P.hs + (((13, 14) :: kBl) : List (Nat × Nat)).length := gS_hs
  clear i1 e1 g1
  refine cm_putR (q := 65) dX14_init_62 flX14_32 rfl (Or.inl rfl) (by assumption) rfl ?_
  have oo : ∀ x j, ((x ≠ a ∧ x ≠ P.hs) ∨ (x = a ∧ j ≠ 8)) → up2 R1 a 8 (some P.hs) x j = R x j := fun x j q => by rw [up2_at, if_neg (by omega), o1 x (by omega)]
  refine K _ ?_ ⟨up2_s, g2.cg (fun j => up2_a (by omega))⟩ oo
  intro x q i
  rw [hs1, List.length_cons] at q
  rw [oo x i (Or.inl (by omega))]
  exact hF x (by omega) i
theorem k_yi3 (hG : okG G) (hF : Fr P I J R) (ka : P.K a = 15) (ha : a < P.hs) (K : ∀ R1, Fr (gS P ((13, 14) :: kBl)) I J R1 → (R1 a 9 = some P.hs ∧ BCr R1 P.hs) → (∀ x j, ((x ≠ a ∧ x ≠ P.hs) ∨ (x = a ∧ j ≠ 9)) → R1 x j = R x j) → MW G mX14_init 2 76 [some (vR a)] [] (mw (gS P ((13, 14) :: kBl)) I J R1) Q) : MW G mX14_init 2 65 [some (vR a)] [] (mw P I J R) Q := by
  refine am_aload_n (q := 66) dX14_init_65 rfl rfl ?_
  refine cm_mkO (q := 69) hF dX14_init_66 cnX14_29 rfl ?_
  have i1 := k_X12_init (G := G) (S := P.nw 13 14) (a := P.hs) hF.nw nw_Kn (by rw [nw_hs]; omega)
  refine am_dup (q := 70) dX14_init_69 rfl rfl ?_
  refine am_call2 (q := 73) (As := []) hG dX14_init_70 mlX14_31 rfl (Nat.le_of_ble_eq_true rfl) (Nat.le_of_ble_eq_true rfl) (Nat.le_of_ble_eq_true rfl) i1 rfl ?_
  rintro _ _ ⟨rfl, R1, rfl, g1, o1⟩
  have e1 : gS (P.nw 13 14) kBl = gS P ((13, 14) :: kBl) := rfl
  have g2 : BCr R1 P.hs := g1
  refine (?_ : MW G mX14_init 2 73 _ _ (mw (gS P ((13, 14) :: kBl)) I J R1) _)
  have ka1 : (gS P ((13, 14) :: kBl)).K a = 15 := (gS_o ha).1.trans ka
  have hs1 : (gS P ((13, 14) :: kBl)).hs = P.hs + (((13, 14) :: kBl) : List (Nat × Nat)).length := gS_hs
  clear i1 e1 g1
  refine cm_putR (q := 76) dX14_init_73 flX14_36 rfl (Or.inl rfl) (by assumption) rfl ?_
  have oo : ∀ x j, ((x ≠ a ∧ x ≠ P.hs) ∨ (x = a ∧ j ≠ 9)) → up2 R1 a 9 (some P.hs) x j = R x j := fun x j q => by rw [up2_at, if_neg (by omega), o1 x (by omega)]
  refine K _ ?_ ⟨up2_s, g2.cg (fun j => up2_a (by omega))⟩ oo
  intro x q i
  rw [hs1, List.length_cons] at q
  rw [oo x i (Or.inl (by omega))]
  exact hF x (by omega) i
theorem k_yi4 (hF : Fr S I J R) (ka : S.K a = 15) (ha : a < S.hs) (K : ∀ R1, Fr (gS S kA2) I J R1 → (R1 a 10 = some (S.hs + 0) ∧ R1 a 11 = some (S.hs + 1) ∧ R1 a 12 = some (S.hs + 2)) → (∀ x j, (x ≠ a ∨ (j ≠ 10 ∧ j ≠ 11 ∧ j ≠ 12)) → R1 x j = R x j) → MW G mX14_init 2 99 [some (vR a)] [] (mw (gS S kA2) I J R1) Q) : MW G mX14_init 2 76 [some (vR a)] [] (mw S I J R) Q := by
  refine am_aload_n (q := 77) dX14_init_76 rfl rfl ?_
  refine am_iconst (q := 78) (v := 4) dX14_init_77 kc_i4 rfl ?_
  refine cm_mkI (n := 4) (q := 80) hF dX14_init_78 (by decide) rfl (Nat.le_of_ble_eq_true rfl) rfl ?_
  have k1 : (S.nw 20 4).K a = 15 := (nw_Ko (show a ≠ S.hs + 0 by omega)).trans ka
  refine cm_putR (q := 83) dX14_init_80 flX14_39 rfl fpX14_39 (by assumption) rfl ?_
  have f1 : Fr (S.nw 20 4) I J (up2 R a 10 (some (S.hs + 0))) := (hF.nw).pR (show a < S.hs + 1 by omega)
  refine am_aload_n (q := 84) dX14_init_83 rfl rfl ?_
  refine am_bipush (q := 86) (v := 8) dX14_init_84 kc_b8 rfl ?_
  refine cm_mkI (n := 8) (q := 88) f1 dX14_init_86 (by decide) rfl (Nat.le_of_ble_eq_true rfl) rfl ?_
  have k2 : ((S.nw 20 4).nw 20 8).K a = 15 := (nw_Ko (show a ≠ S.hs + 1 by omega)).trans k1
  refine cm_putR (q := 91) dX14_init_88 flX14_42 rfl fpX14_42 (by assumption) rfl ?_
  have f2 : Fr ((S.nw 20 4).nw 20 8) I J (up2 (up2 R a 10 (some (S.hs + 0))) a 11 (some (S.hs + 1))) := (f1.nw).pR (show a < S.hs + 2 by omega)
  refine am_aload_n (q := 92) dX14_init_91 rfl rfl ?_
  refine am_bipush (q := 94) (v := 8) dX14_init_92 kc_b8 rfl ?_
  refine cm_mkI (n := 8) (q := 96) f2 dX14_init_94 (by decide) rfl (Nat.le_of_ble_eq_true rfl) rfl ?_
  have k3 : (((S.nw 20 4).nw 20 8).nw 20 8).K a = 15 := (nw_Ko (show a ≠ S.hs + 2 by omega)).trans k2
  refine cm_putR (q := 99) dX14_init_96 flX14_45 rfl fpX14_45 (by assumption) rfl ?_
  have f3 : Fr (((S.nw 20 4).nw 20 8).nw 20 8) I J (up2 (up2 (up2 R a 10 (some (S.hs + 0))) a 11 (some (S.hs + 1))) a 12 (some (S.hs + 2))) := (f2.nw).pR (show a < S.hs + 3 by omega)
  exact K _ f3 ⟨(by rw [up2_j (by decide), up2_j (by decide), up2_s]; rfl), (by rw [up2_j (by decide), up2_s]; rfl), (by rw [up2_s]; rfl)⟩ (fun x j q => by rw [up2_at, if_neg (by omega), up2_at, if_neg (by omega), up2_at, if_neg (by omega)])
theorem k_yi5 (hG : okG G) (hF : Fr P I J R) (ka : P.K a = 15) (ha : a < P.hs) (K : ∀ R1, Fr (gS P ((14, 11) :: kSt)) I J R1 → (R1 a 18 = some P.hs ∧ SCr R1 P.hs) → (∀ x j, ((x ≠ a ∧ x ≠ P.hs) ∨ (x = a ∧ j ≠ 18)) → R1 x j = R x j) → MW G mX14_init 2 110 [some (vR a)] [] (mw (gS P ((14, 11) :: kSt)) I J R1) Q) : MW G mX14_init 2 99 [some (vR a)] [] (mw P I J R) Q := by
  refine am_aload_n (q := 100) dX14_init_99 rfl rfl ?_
  refine cm_mkO (q := 103) hF dX14_init_100 cnX14_48 rfl ?_
  have i1 := k_X13_init (G := G) (S := P.nw 14 11) (a := P.hs) hF.nw nw_Kn (by rw [nw_hs]; omega)
  refine am_dup (q := 104) dX14_init_103 rfl rfl ?_
  refine am_call2 (q := 107) (As := []) hG dX14_init_104 mlX14_50 rfl (Nat.le_of_ble_eq_true rfl) (Nat.le_of_ble_eq_true rfl) (Nat.le_of_ble_eq_true rfl) i1 rfl ?_
  rintro _ _ ⟨rfl, R1, rfl, g1, o1⟩
  have e1 : gS (P.nw 14 11) kSt = gS P ((14, 11) :: kSt) := rfl
  have g2 : SCr R1 P.hs := g1
  refine (?_ : MW G mX14_init 2 107 _ _ (mw (gS P ((14, 11) :: kSt)) I J R1) _)
  have ka1 : (gS P ((14, 11) :: kSt)).K a = 15 := (gS_o ha).1.trans ka
  have hs1 : (gS P ((14, 11) :: kSt)).hs = P.hs + (((14, 11) :: kSt) : List (Nat × Nat)).length := gS_hs
  clear i1 e1 g1
  refine cm_putR (q := 110) dX14_init_107 flX14_51 rfl fpX14_51 (by assumption) rfl ?_
  have oo : ∀ x j, ((x ≠ a ∧ x ≠ P.hs) ∨ (x = a ∧ j ≠ 18)) → up2 R1 a 18 (some P.hs) x j = R x j := fun x j q => by rw [up2_at, if_neg (by omega), o1 x (by omega)]
  refine K _ ?_ ⟨up2_s, g2.cg (fun j => up2_a (by omega))⟩ oo
  intro x q i
  rw [hs1, List.length_cons] at q
  rw [oo x i (Or.inl (by omega))]
  exact hF x (by omega) i
theorem k_yi6 (hG : okG G) (hF : Fr P I J R) (ka : P.K a = 15) (ha : a < P.hs) (K : ∀ R1, Fr (gS P ((14, 11) :: kSt)) I J R1 → (R1 a 19 = some P.hs ∧ SCr R1 P.hs) → (∀ x j, ((x ≠ a ∧ x ≠ P.hs) ∨ (x = a ∧ j ≠ 19)) → R1 x j = R x j) → MW G mX14_init 2 121 [some (vR a)] [] (mw (gS P ((14, 11) :: kSt)) I J R1) Q) : MW G mX14_init 2 110 [some (vR a)] [] (mw P I J R) Q := by
  refine am_aload_n (q := 111) dX14_init_110 rfl rfl ?_
  refine cm_mkO (q := 114) hF dX14_init_111 cnX14_48 rfl ?_
  have i1 := k_X13_init (G := G) (S := P.nw 14 11) (a := P.hs) hF.nw nw_Kn (by rw [nw_hs]; omega)
  refine am_dup (q := 115) dX14_init_114 rfl rfl ?_
  refine am_call2 (q := 118) (As := []) hG dX14_init_115 mlX14_50 rfl (Nat.le_of_ble_eq_true rfl) (Nat.le_of_ble_eq_true rfl) (Nat.le_of_ble_eq_true rfl) i1 rfl ?_
  rintro _ _ ⟨rfl, R1, rfl, g1, o1⟩
  have e1 : gS (P.nw 14 11) kSt = gS P ((14, 11) :: kSt) := rfl
  have g2 : SCr R1 P.hs := g1
  refine (?_ : MW G mX14_init 2 118 _ _ (mw (gS P ((14, 11) :: kSt)) I J R1) _)
  have ka1 : (gS P ((14, 11) :: kSt)).K a = 15 := (gS_o ha).1.trans ka
  have hs1 : (gS P ((14, 11) :: kSt)).hs = P.hs + (((14, 11) :: kSt) : List (Nat × Nat)).length := gS_hs
  clear i1 e1 g1
  refine cm_putR (q := 121) dX14_init_118 flX14_55 rfl fpX14_55 (by assumption) rfl ?_
  have oo : ∀ x j, ((x ≠ a ∧ x ≠ P.hs) ∨ (x = a ∧ j ≠ 19)) → up2 R1 a 19 (some P.hs) x j = R x j := fun x j q => by rw [up2_at, if_neg (by omega), o1 x (by omega)]
  refine K _ ?_ ⟨up2_s, g2.cg (fun j => up2_a (by omega))⟩ oo
  intro x q i
  rw [hs1, List.length_cons] at q
  rw [oo x i (Or.inl (by omega))]
  exact hF x (by omega) i
theorem k_X14_init (hG : okG G) (hF : Fr S I J R) (ka : S.K y = 15) (hs : S.hs = y + 1) : Fn G mX14_init 2 [vR y] (mw S I J R) (fun rr M1 => rr = none ∧ ∃ R1, M1 = mw (gS S ks14) (up2 I y 3 (-1)) J R1 ∧ MCc (gS S ks14) R1 y (y + 6) (y + 15) ∧ ∀ x, (x < y ∨ y + 39 ≤ x) → R1 x = R x) := by
  refine k_yi1 hF ka (by omega) (fun R1 f1 ⟨a1, a2, a3, a4, a5⟩ o1 => ?_)
  have h1 : (gS S kA1).hs = y + 6 := by rw [gS_hs, hs]; rfl
  refine k_yi2 hG f1 ((gS_o (by omega)).1.trans ka) (by omega) (fun R2 f2 ⟨b1, b2⟩ o2 => ?_)
  rw [gS_app] at f2 ⊢
  rw [h1] at b1 b2 o2
  have h2 : (gS S (kA1 ++ ((13, 14) :: kBl))).hs = y + 15 := by rw [gS_hs, hs]; rfl
  refine k_yi3 hG f2 ((gS_o (by omega)).1.trans ka) (by omega) (fun R3 f3 ⟨c1, c2⟩ o3 => ?_)
  rw [gS_app] at f3 ⊢
  rw [h2] at c1 c2 o3
  have h3 : (gS S (kA1 ++ ((13, 14) :: kBl) ++ ((13, 14) :: kBl))).hs = y + 24 := by rw [gS_hs, hs]; rfl
  refine k_yi4 f3 ((gS_o (by omega)).1.trans ka) (by omega) (fun R4 f4 ⟨d1, d2, d3⟩ o4 => ?_)
  rw [gS_app] at f4 ⊢
  rw [h3] at d1 d2 d3
  have h4 : (gS S (kA1 ++ ((13, 14) :: kBl) ++ ((13, 14) :: kBl) ++ kA2)).hs = y + 27 := by rw [gS_hs, hs]; rfl
  refine k_yi5 hG f4 ((gS_o (by omega)).1.trans ka) (by omega) (fun R5 f5 ⟨e1, e2⟩ o5 => ?_)
  rw [gS_app] at f5 ⊢
  rw [h4] at e1 e2 o5
  have h5 : (gS S (kA1 ++ ((13, 14) :: kBl) ++ ((13, 14) :: kBl) ++ kA2 ++ ((14, 11) :: kSt))).hs = y + 33 := by rw [gS_hs, hs]; rfl
  refine k_yi6 hG f5 ((gS_o (by omega)).1.trans ka) (by omega) (fun R6 f6 ⟨g1, g2⟩ o6 => ?_)
  rw [gS_app] at f6 ⊢
  rw [h5] at g1 g2 o6
  have kk : ∀ i k n, i < 38 → ks14.getD i (0, 0) = (k, n) → (gS S ks14).K (y + 1 + i) = k ∧ (gS S ks14).ln (y + 1 + i) = n := fun i k n hi h => gS_at hs (by rw [ks14_len]; exact hi) h
  have kz : (gS S ks14).K y = 15 := (gS_o (by omega)).1.trans ka
  refine (?_ : MW G mX14_init 2 121 [some (vR y)] [] (mw (gS S ks14) (up2 I y 3 (-1)) J R6) _)
  clear f1 f2 f3 f4 f5 f6 h1 h2 h3 h4 h5
  have z0 := kk 0 20 2000 (by decide) (by decide +kernel)
  have z1 := kk 1 20 402 (by decide) (by decide +kernel)
  have z2 := kk 2 20 402 (by decide) (by decide +kernel)
  have z3 := kk 3 20 402 (by decide) (by decide +kernel)
  have z4 := kk 4 20 402 (by decide) (by decide +kernel)
  have z5 := kk 5 13 14 (by decide) (by decide +kernel)
  have z6 := kk 6 20 12 (by decide) (by decide +kernel)
  have z7 := kk 7 20 48 (by decide) (by decide +kernel)
  have z8 := kk 8 20 24 (by decide) (by decide +kernel)
  have z9 := kk 9 20 24 (by decide) (by decide +kernel)
  have z10 := kk 10 20 60 (by decide) (by decide +kernel)
  have z11 := kk 11 20 401 (by decide) (by decide +kernel)
  have z12 := kk 12 20 401 (by decide) (by decide +kernel)
  have z13 := kk 13 20 401 (by decide) (by decide +kernel)
  have z14 := kk 14 13 14 (by decide) (by decide +kernel)
  have z15 := kk 15 20 12 (by decide) (by decide +kernel)
  have z16 := kk 16 20 48 (by decide) (by decide +kernel)
  have z17 := kk 17 20 24 (by decide) (by decide +kernel)
  have z18 := kk 18 20 24 (by decide) (by decide +kernel)
  have z19 := kk 19 20 60 (by decide) (by decide +kernel)
  have z20 := kk 20 20 401 (by decide) (by decide +kernel)
  have z21 := kk 21 20 401 (by decide) (by decide +kernel)
  have z22 := kk 22 20 401 (by decide) (by decide +kernel)
  have z23 := kk 23 20 4 (by decide) (by decide +kernel)
  have z24 := kk 24 20 8 (by decide) (by decide +kernel)
  have z25 := kk 25 20 8 (by decide) (by decide +kernel)
  have z26 := kk 26 14 11 (by decide) (by decide +kernel)
  have z27 := kk 27 20 10 (by decide) (by decide +kernel)
  have z28 := kk 28 20 12 (by decide) (by decide +kernel)
  have z29 := kk 29 20 56 (by decide) (by decide +kernel)
  have z30 := kk 30 20 16 (by decide) (by decide +kernel)
  have z31 := kk 31 20 20 (by decide) (by decide +kernel)
  have z32 := kk 32 14 11 (by decide) (by decide +kernel)
  have z33 := kk 33 20 10 (by decide) (by decide +kernel)
  have z34 := kk 34 20 12 (by decide) (by decide +kernel)
  have z35 := kk 35 20 56 (by decide) (by decide +kernel)
  have z36 := kk 36 20 16 (by decide) (by decide +kernel)
  have z37 := kk 37 20 20 (by decide) (by decide +kernel)
  generalize gS S ks14 = Z at *
  have q2 : BCr R6 (y + 6) := b2.cg fun j => by rw [o6 _ _ (by omega), o5 _ _ (by omega), o4 _ _ (by omega), o3 _ _ (by omega)]
  have q3 : BCr R6 (y + 15) := c2.cg fun j => by rw [o6 _ _ (by omega), o5 _ _ (by omega), o4 _ _ (by omega)]
  have q5 : SCr R6 (y + 27) := e2.cg fun j => by rw [o6 _ _ (by omega)]
  obtain ⟨u1, u2, u3, u4, u5, u6, u7, u8⟩ := q2
  obtain ⟨v1, v2, v3, v4, v5, v6, v7, v8⟩ := q3
  obtain ⟨w1, w2, w3, w4, w5⟩ := q5
  obtain ⟨g3, g4, g5, g6, g7⟩ := g2
  have p6 : ∀ j, (j ≠ 9 ∧ j ≠ 10 ∧ j ≠ 11 ∧ j ≠ 12 ∧ j ≠ 18 ∧ j ≠ 19) → R6 y j = R2 y j := fun j q => by rw [o6 _ _ (by omega), o5 _ _ (by omega), o4 _ _ (by omega), o3 _ _ (by omega)]
  have p5 : ∀ j, (j ≠ 8 ∧ j ≠ 9 ∧ j ≠ 10 ∧ j ≠ 11 ∧ j ≠ 12 ∧ j ≠ 18 ∧ j ≠ 19) → R6 y j = R1 y j := fun j q => by rw [p6 j (by omega), o2 _ _ (by omega)]
  have p3 : ∀ j, (j ≠ 18 ∧ j ≠ 19) → R6 y j = R4 y j := fun j q => by rw [o6 _ _ (by omega), o5 _ _ (by omega)]
  have b3 : R6 y 8 = some (y + 6) := (p6 8 (by decide)).trans b1
  have c3 : R6 y 9 = some (y + 15) := by rw [p3 _ (by decide), o4 _ _ (by omega)]; exact c1
  have e3 : R6 y 18 = some (y + 27) := (o6 _ _ (by omega)).trans e1
  rw [hs] at a1 a2 a3 a4 a5
  have mc : MCc Z R6 y (y + 6) (y + 15) := ⟨⟨kz, b3, ⟨z5.1, u1, u2, u3, u4, u5, u6, u7, u8, z6, z7, z8, z9, z10, z11, z12, z13.1, z13.2⟩⟩, ⟨(p5 1 (by decide)).trans a1, z0.1, z0.2⟩, e3, g1, ⟨z26.1, w1, w2, w3, w4, w5, z27, z28, z29, z30, z31.1, z31.2⟩, ⟨z32.1, g3, g4, g5, g6, g7, z33, z34, z35, z36, z37.1, z37.2⟩, c3, Or.inl ⟨rfl, rfl⟩, ⟨z14.1, v1, v2, v3, v4, v5, v6, v7, v8, z15, z16, z17, z18, z19, z20, z21, z22.1, z22.2⟩, (p5 4 (by decide)).trans a2, (p5 5 (by decide)).trans a3, (p5 6 (by decide)).trans a4, (p5 7 (by decide)).trans a5, z1, z2, z3, z4, (p3 10 (by decide)).trans d1, (p3 11 (by decide)).trans d2, (p3 12 (by decide)).trans d3, z23, z24, z25.1, z25.2⟩
  have oo : ∀ x, (x < y ∨ y + 39 ≤ x) → R6 x = R x := fun x q => funext fun j => by rw [o6 _ _ (by omega), o5 _ _ (by omega), o4 _ _ (by omega), o3 _ _ (by omega), o2 _ _ (by omega), o1 _ _ (by omega)]
  exact am_ret dX14_init_121 rfl ⟨_, rfl, rfl, R6, rfl, mc, oo⟩
end Yi

