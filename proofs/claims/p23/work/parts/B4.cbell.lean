theorem dX11_init_0 : decode cX11_init 0 = .ok (.aload_n 0, 1) := by decide +kernel
theorem dX11_init_1 : decode cX11_init 1 = .ok (.invokespecial 1, 3) := by decide +kernel
theorem dX11_init_4 : decode cX11_init 4 = .ok (.aload_n 0, 1) := by decide +kernel
theorem dX11_init_5 : decode cX11_init 5 = .ok (.new 7, 3) := by decide +kernel
theorem dX11_init_8 : decode cX11_init 8 = .ok (.dup, 1) := by decide +kernel
theorem dX11_init_9 : decode cX11_init 9 = .ok (.invokespecial 9, 3) := by decide +kernel
theorem dX11_init_12 : decode cX11_init 12 = .ok (.putfield 10, 3) := by decide +kernel
theorem dX11_init_15 : decode cX11_init 15 = .ok (.aload_n 0, 1) := by decide +kernel
theorem dX11_init_16 : decode cX11_init 16 = .ok (.new 16, 3) := by decide +kernel
theorem dX11_init_19 : decode cX11_init 19 = .ok (.dup, 1) := by decide +kernel
theorem dX11_init_20 : decode cX11_init 20 = .ok (.invokespecial 18, 3) := by decide +kernel
theorem dX11_init_23 : decode cX11_init 23 = .ok (.putfield 19, 3) := by decide +kernel
theorem dX11_init_26 : decode cX11_init 26 = .ok (.aload_n 0, 1) := by decide +kernel
theorem dX11_init_27 : decode cX11_init 27 = .ok (.new 23, 3) := by decide +kernel
theorem dX11_init_30 : decode cX11_init 30 = .ok (.dup, 1) := by decide +kernel
theorem dX11_init_31 : decode cX11_init 31 = .ok (.invokespecial 25, 3) := by decide +kernel
theorem dX11_init_34 : decode cX11_init 34 = .ok (.putfield 26, 3) := by decide +kernel
theorem dX11_init_37 : decode cX11_init 37 = .ok (.aload_n 0, 1) := by decide +kernel
theorem dX11_init_38 : decode cX11_init 38 = .ok (.new 23, 3) := by decide +kernel
theorem dX11_init_41 : decode cX11_init 41 = .ok (.dup, 1) := by decide +kernel
theorem dX11_init_42 : decode cX11_init 42 = .ok (.invokespecial 25, 3) := by decide +kernel
theorem dX11_init_45 : decode cX11_init 45 = .ok (.putfield 30, 3) := by decide +kernel
theorem dX11_init_48 : decode cX11_init 48 = .ok (.aload_n 0, 1) := by decide +kernel
theorem dX11_init_49 : decode cX11_init 49 = .ok (.new 33, 3) := by decide +kernel
theorem dX11_init_52 : decode cX11_init 52 = .ok (.dup, 1) := by decide +kernel
theorem dX11_init_53 : decode cX11_init 53 = .ok (.aload_n 0, 1) := by decide +kernel
theorem dX11_init_54 : decode cX11_init 54 = .ok (.getfield 19, 3) := by decide +kernel
theorem dX11_init_57 : decode cX11_init 57 = .ok (.aload_n 0, 1) := by decide +kernel
theorem dX11_init_58 : decode cX11_init 58 = .ok (.getfield 30, 3) := by decide +kernel
theorem dX11_init_61 : decode cX11_init 61 = .ok (.invokespecial 35, 3) := by decide +kernel
theorem dX11_init_64 : decode cX11_init 64 = .ok (.putfield 38, 3) := by decide +kernel
theorem dX11_init_67 : decode cX11_init 67 = .ok (.aload_n 0, 1) := by decide +kernel
theorem dX11_init_68 : decode cX11_init 68 = .ok (.iconst (-1), 1) := by decide +kernel
theorem dX11_init_69 : decode cX11_init 69 = .ok (.putfield 42, 3) := by decide +kernel
theorem dX11_init_72 : decode cX11_init 72 = .ok (.return_, 1) := by decide +kernel
theorem dX7_init_0 : decode cX7_init 0 = .ok (.aload_n 0, 1) := by decide +kernel
theorem dX7_init_1 : decode cX7_init 1 = .ok (.invokespecial 3, 3) := by decide +kernel
theorem dX7_init_4 : decode cX7_init 4 = .ok (.aload_n 0, 1) := by decide +kernel
theorem dX7_init_5 : decode cX7_init 5 = .ok (.aload_n 1, 1) := by decide +kernel
theorem dX7_init_6 : decode cX7_init 6 = .ok (.putfield 9, 3) := by decide +kernel
theorem dX7_init_9 : decode cX7_init 9 = .ok (.aload_n 0, 1) := by decide +kernel
theorem dX7_init_10 : decode cX7_init 10 = .ok (.aload_n 2, 1) := by decide +kernel
theorem dX7_init_11 : decode cX7_init 11 = .ok (.putfield 15, 3) := by decide +kernel
theorem dX7_init_14 : decode cX7_init 14 = .ok (.return_, 1) := by decide +kernel
/-! the constructors of the class: the whole object -/
theorem CT.ex {S S1 : AMem} {R R1 : Nat → Nat → Option Nat} {c : Nat} (h : CT S R c) (q : ∀ y, c ≤ y → y < c + 58 → (S1.K y = S.K y ∧ S1.ln y = S.ln y) ∧ R1 y = R y) : CT S1 R1 c := by
  have k : ∀ y, c ≤ y → y < c + 58 → S1.K y = S.K y := fun y a b => (q y a b).1.1
  have l : ∀ y, c ≤ y → y < c + 58 → S1.ln y = S.ln y := fun y a b => (q y a b).1.2
  have r : ∀ y j, c ≤ y → y < c + 58 → R1 y j = R y j := fun y j a b => by rw [(q y a b).2]
  obtain ⟨kc, rc0, rc1, rc2, rc3, rc4, rc5, rc6, rc7, ⟨kd, rd0, rd1, rd2, kd2, ld2, kd3, ld3, kd4, ld4⟩, ⟨kb, rb, kb6, lb6⟩, ⟨kf, rf, kf8, lf8⟩, ⟨kr, lr, hr⟩, ⟨kfi, lfi, hfi⟩, ⟨kp, lp, hpz⟩, ⟨kt, lt, htu⟩, kw, lw⟩ := h
  refine ⟨(k _ (by omega) (by omega)).trans kc, (r _ _ (by omega) (by omega)).trans rc0, (r _ _ (by omega) (by omega)).trans rc1, (r _ _ (by omega) (by omega)).trans rc2, (r _ _ (by omega) (by omega)).trans rc3, (r _ _ (by omega) (by omega)).trans rc4, (r _ _ (by omega) (by omega)).trans rc5, (r _ _ (by omega) (by omega)).trans rc6, (r _ _ (by omega) (by omega)).trans rc7, ⟨(k _ (by omega) (by omega)).trans kd, (r _ _ (by omega) (by omega)).trans rd0, (r _ _ (by omega) (by omega)).trans rd1, (r _ _ (by omega) (by omega)).trans rd2, (k _ (by omega) (by omega)).trans kd2, (l _ (by omega) (by omega)).trans ld2, (k _ (by omega) (by omega)).trans kd3, (l _ (by omega) (by omega)).trans ld3, (k _ (by omega) (by omega)).trans kd4, (l _ (by omega) (by omega)).trans ld4⟩, ⟨(k _ (by omega) (by omega)).trans kb, (r _ _ (by omega) (by omega)).trans rb, (k _ (by omega) (by omega)).trans kb6, (l _ (by omega) (by omega)).trans lb6⟩, ⟨(k _ (by omega) (by omega)).trans kf, (r _ _ (by omega) (by omega)).trans rf, (k _ (by omega) (by omega)).trans kf8, (l _ (by omega) (by omega)).trans lf8⟩, ⟨(k _ (by omega) (by omega)).trans kr, (l _ (by omega) (by omega)).trans lr, fun i hi => ?_⟩, ⟨(k _ (by omega) (by omega)).trans kfi, (l _ (by omega) (by omega)).trans lfi, fun i hi => ?_⟩, ⟨(k _ (by omega) (by omega)).trans kp, (l _ (by omega) (by omega)).trans lp, fun i hi => ?_⟩, ⟨(k _ (by omega) (by omega)).trans kt, (l _ (by omega) (by omega)).trans lt, fun i hi => ?_⟩, (k _ (by omega) (by omega)).trans kw, (l _ (by omega) (by omega)).trans lw⟩
  · obtain ⟨x1, x2, x3, x4, x5⟩ := hr i hi
    exact ⟨(r _ _ (by omega) (by omega)).trans x1, (k _ (by omega) (by omega)).trans x2, (r _ _ (by omega) (by omega)).trans x3, (k _ (by omega) (by omega)).trans x4, (l _ (by omega) (by omega)).trans x5⟩
  · obtain ⟨x1, x2⟩ := hfi i hi
    exact ⟨(r _ _ (by omega) (by omega)).trans x1, (k _ (by omega) (by omega)).trans x2⟩
  · obtain ⟨x1, x2⟩ := hpz i hi
    exact ⟨(r _ _ (by omega) (by omega)).trans x1, (k _ (by omega) (by omega)).trans x2⟩
  · obtain ⟨x1, x2⟩ := htu i hi
    exact ⟨(r _ _ (by omega) (by omega)).trans x1, (k _ (by omega) (by omega)).trans x2⟩
def ks11 : List (Nat × Nat) := [(9, 2), (20, 2000)] ++ ([(10, 5), (20, 401), (20, 401), (21, 401), (21, 32)] ++ ((3, 19) :: ksC ++ ((3, 19) :: ksC ++ [(8, 5)])))
theorem ks11_len : ks11.length = 124 := by decide +kernel
section Bh
variable {G : Gp} {P S : AMem} {I : Nat → Nat → Int32} {J : Nat → Nat → Int64} {R : Nat → Nat → Option Nat} {Z : StA} {x a t c : Nat} {Q : (Option AV ⊕ Nat) → AMem → Prop}
theorem k_X7_init (ka : S.K a = 8) : Fn G mX7_init 0 [vR a, vR t, vR c] (mw S I J R) (fun rr M1 => rr = none ∧ M1 = mw S I J (up2 (up2 R a 0 (some t)) a 1 (some c))) := by
  refine am_aload_n (q := 1) dX7_init_0 rfl rfl ?_
  refine am_objInit (q := 4) dX7_init_1 (tbc5 86 rfl rfl) tb_oi1 tb_oi2 (Nat.le_of_ble_eq_true rfl) rfl ?_
  refine am_aload_n (q := 5) dX7_init_4 rfl rfl ?_
  refine am_aload_n (q := 6) dX7_init_5 rfl rfl ?_
  refine cm_putR (q := 9) dX7_init_6 flX7_9 rfl fpX7_9 (by assumption) rfl ?_
  refine am_aload_n (q := 10) dX7_init_9 rfl rfl ?_
  refine am_aload_n (q := 11) dX7_init_10 rfl rfl ?_
  refine cm_putR (q := 14) dX7_init_11 flX7_15 rfl (Or.inl rfl) (by assumption) rfl ?_
  exact am_ret dX7_init_14 rfl ⟨_, rfl, rfl, rfl⟩
/-- tape and tokens -/
theorem k_bh1 (hG : okG G) (hZ : KS G Z) (hF : Fr S I J R) (kx : S.K x = 12) (hs : S.hs = x + 1) (K : ∀ R1, Fr (gS S [(9, 2), (20, 2000)]) I J R1 → (R1 x 0 = some (x + 1) ∧ R1 (x + 1) 0 = some (x + 2)) → (∀ y, (y ≠ x ∧ y ≠ x + 1) → R1 y = R y) → MW G mX11_init 6 16 [some (vR x)] [vR x] (mw (gS S [(9, 2), (20, 2000)]) I J R1) Q) : MW G mX11_init 6 0 [some (vR x)] [] (mw S I J R) Q := by
  refine am_aload_n (q := 1) dX11_init_0 rfl rfl ?_
  refine am_objInit (q := 4) dX11_init_1 (tbc3 236 rfl rfl) tb_oi1 tb_oi2 (Nat.le_of_ble_eq_true rfl) rfl ?_
  refine am_aload_n (q := 5) dX11_init_4 rfl rfl ?_
  refine cm_mkO (q := 8) hF dX11_init_5 cnX11_7 rfl ?_
  have i1 := k_X8_init (G := G) (S := S.nw 9 2) (a := S.hs) hF.nw nw_Kn (by rw [nw_hs]; omega)
  refine am_dup (q := 9) dX11_init_8 rfl rfl ?_
  refine am_call2 (q := 12) (As := []) hG dX11_init_9 mlX11_9 rfl (Nat.le_of_ble_eq_true rfl) (Nat.le_of_ble_eq_true rfl) (Nat.le_of_ble_eq_true rfl) i1 rfl ?_
  rintro _ _ ⟨rfl, R1, rfl, g1, o1⟩
  have e1 : gS (S.nw 9 2) [(20, 2000)] = gS S [(9, 2), (20, 2000)] := rfl
  rw [e1, hs]
  rw [nw_hs, hs] at g1
  rw [hs] at o1
  have kc1 : (gS S [(9, 2), (20, 2000)]).K x = 12 := (gS_o (by omega)).1.trans kx
  have hs1 : (gS S [(9, 2), (20, 2000)]).hs = x + 3 := by rw [gS_hs, hs]; rfl
  refine cm_putR (q := 15) dX11_init_12 flX11_10 rfl fpX11_10 (by assumption) rfl ?_
  refine am_aload_n (q := 16) dX11_init_15 rfl rfl ?_
  have oo : ∀ y, (y ≠ x ∧ y ≠ x + 1) → up2 R1 x 0 (some (x + 1)) y = R y := fun y q => by
    funext j
    rw [up2_a q.1, o1 y q.2]
  refine K _ (Fr.oR hF.gS (fun y q => oo y (by omega))) ⟨up2_s, ?_⟩ oo
  rw [up2_a (by omega)]
  exact g1
theorem k_bh2 (hG : okG G) (hZ : KS G Z) (hF : Fr P I J R) (kx : P.K x = 12) (hs : P.hs = x + 3) (K : ∀ J1 R1, Fr (gS P [(10, 5), (20, 401), (20, 401), (21, 401), (21, 32)]) I J1 R1 → (R1 x 1 = some (x + 3) ∧ (R1 (x + 3) 0 = some (x + 4) ∧ R1 (x + 3) 1 = some (x + 5) ∧ R1 (x + 3) 2 = some (x + 6) ∧ R1 (x + 3) 3 = some (x + 7))) → ((∀ w, w < 32 → J1 (x + 7) w = kwK w) ∧ ∀ y j, y ≠ x + 7 → J1 y j = J y j) → (∀ y j, ((y ≠ x ∧ y ≠ x + 3) ∨ (y = x ∧ j ≠ 1)) → R1 y j = R y j) → MW G mX11_init 6 27 [some (vR x)] [vR x] (mw (gS P [(10, 5), (20, 401), (20, 401), (21, 401), (21, 32)]) I J1 R1) Q) : MW G mX11_init 6 16 [some (vR x)] [vR x] (mw P I J R) Q := by
  refine cm_mkO (q := 19) hF dX11_init_16 cnX11_16 rfl ?_
  have i1 := k_X9_init (S := P.nw 10 5) (a := P.hs) hG hZ hF.nw nw_Kn (by rw [nw_hs]; omega)
  refine am_dup (q := 20) dX11_init_19 rfl rfl ?_
  refine am_call2 (q := 23) (As := []) hG dX11_init_20 mlX11_18 rfl (Nat.le_of_ble_eq_true rfl) (Nat.le_of_ble_eq_true rfl) (Nat.le_of_ble_eq_true rfl) i1 rfl ?_
  rintro _ _ ⟨rfl, J1, R1, rfl, ⟨g1, g2, g3, g4⟩, ⟨j1, j2⟩, o1⟩
  have e1 : gS (P.nw 10 5) [(20, 401), (20, 401), (21, 401), (21, 32)] = gS P [(10, 5), (20, 401), (20, 401), (21, 401), (21, 32)] := rfl
  rw [e1, hs]
  rw [nw_hs, hs] at g1 g2 g3 g4 j1 j2
  rw [hs] at o1
  have kc1 : (gS P [(10, 5), (20, 401), (20, 401), (21, 401), (21, 32)]).K x = 12 := (gS_o (by omega)).1.trans kx
  have hs1 : (gS P [(10, 5), (20, 401), (20, 401), (21, 401), (21, 32)]).hs = x + 8 := by rw [gS_hs, hs]; rfl
  refine cm_putR (q := 26) dX11_init_23 flX11_19 rfl fpX11_19 (by assumption) rfl ?_
  refine am_aload_n (q := 27) dX11_init_26 rfl rfl ?_
  have oo : ∀ y j, ((y ≠ x ∧ y ≠ x + 3) ∨ (y = x ∧ j ≠ 1)) → up2 R1 x 1 (some (x + 3)) y j = R y j := fun y j q => by rw [up2_at, if_neg (by omega), o1 y (by omega)]
  have jo : ∀ y j, y ≠ x + 7 → J1 y j = J y j := j2
  refine K J1 _ ?_ ⟨up2_s, ?_, ?_, ?_, ?_⟩ ⟨j1, jo⟩ oo
  · intro y q i
    rw [hs1] at q
    have := hF y (by omega) i
    rw [oo y i (Or.inl (by omega)), jo y i (by omega)]
    exact this
  · rw [up2_a (by omega)]; exact g1
  · rw [up2_a (by omega)]; exact g2
  · rw [up2_a (by omega)]; exact g3
  · rw [up2_a (by omega)]; exact g4
theorem k_bh3 (hG : okG G) (hZ : KS G Z) (hF : Fr P I J R) (kx : P.K x = 12) (hs : P.hs = x + 8) (K : ∀ R1, Fr (gS P ((3, 19) :: ksC)) I J R1 → (R1 x 3 = some (x + 8) ∧ CT (gS P ((3, 19) :: ksC)) R1 (x + 8)) → (∀ y j, ((y ≠ x ∧ (y < x + 8 ∨ x + 66 ≤ y)) ∨ (y = x ∧ j ≠ 3)) → R1 y j = R y j) → MW G mX11_init 6 38 [some (vR x)] [vR x] (mw (gS P ((3, 19) :: ksC)) I J R1) Q) : MW G mX11_init 6 27 [some (vR x)] [vR x] (mw P I J R) Q := by
  refine cm_mkO (q := 30) hF dX11_init_27 cnX11_23 rfl ?_
  have i1 := k_X2_init (S := P.nw 3 19) (c := P.hs) hG hZ hF.nw nw_Kn (by rw [nw_hs])
  have kl : ksC.length = 57 := ksC_len
  generalize ksC = l at i1 K kl
  rw [hs] at i1 ⊢
  refine am_dup (q := 31) dX11_init_30 rfl rfl ?_
  refine am_call2 (q := 34) (As := []) hG dX11_init_31 mlX11_25 rfl (Nat.le_of_ble_eq_true rfl) (Nat.le_of_ble_eq_true rfl) (Nat.le_of_ble_eq_true rfl) i1 rfl ?_
  rintro _ _ ⟨rfl, R1, rfl, g1, o1⟩
  have e1 : gS (P.nw 3 19) l = gS P ((3, 19) :: l) := rfl
  rw [e1] at g1 ⊢
  have kc1 : (gS P ((3, 19) :: l)).K x = 12 := (gS_o (by omega)).1.trans kx
  have hs1 : (gS P ((3, 19) :: l)).hs = x + 66 := by rw [gS_hs, hs, List.length_cons, kl]
  refine cm_putR (q := 37) dX11_init_34 flX11_26 rfl (Or.inl rfl) (by assumption) rfl ?_
  refine am_aload_n (q := 38) dX11_init_37 rfl rfl ?_
  have oo : ∀ y j, ((y ≠ x ∧ (y < x + 8 ∨ x + 66 ≤ y)) ∨ (y = x ∧ j ≠ 3)) → up2 R1 x 3 (some (x + 8)) y j = R y j := fun y j q => by rw [up2_at, if_neg (by omega), o1 y (by omega)]
  refine K _ ?_ ⟨up2_s, g1.cg (fun y j q1 q2 => up2_a (by omega))⟩ oo
  intro y q i
  rw [hs1] at q
  rw [oo y i (Or.inl (by omega))]
  exact hF y (by omega) i
theorem k_bh4 (hG : okG G) (hZ : KS G Z) (hF : Fr P I J R) (kx : P.K x = 12) (hs : P.hs = x + 66) (K : ∀ R1, Fr (gS P ((3, 19) :: ksC)) I J R1 → (R1 x 4 = some (x + 66) ∧ CT (gS P ((3, 19) :: ksC)) R1 (x + 66)) → (∀ y j, ((y ≠ x ∧ (y < x + 66 ∨ x + 124 ≤ y)) ∨ (y = x ∧ j ≠ 4)) → R1 y j = R y j) → MW G mX11_init 6 49 [some (vR x)] [vR x] (mw (gS P ((3, 19) :: ksC)) I J R1) Q) : MW G mX11_init 6 38 [some (vR x)] [vR x] (mw P I J R) Q := by
  refine cm_mkO (q := 41) hF dX11_init_38 cnX11_23 rfl ?_
  have i1 := k_X2_init (S := P.nw 3 19) (c := P.hs) hG hZ hF.nw nw_Kn (by rw [nw_hs])
  have kl : ksC.length = 57 := ksC_len
  generalize ksC = l at i1 K kl
  rw [hs] at i1 ⊢
  refine am_dup (q := 42) dX11_init_41 rfl rfl ?_
  refine am_call2 (q := 45) (As := []) hG dX11_init_42 mlX11_25 rfl (Nat.le_of_ble_eq_true rfl) (Nat.le_of_ble_eq_true rfl) (Nat.le_of_ble_eq_true rfl) i1 rfl ?_
  rintro _ _ ⟨rfl, R1, rfl, g1, o1⟩
  have e1 : gS (P.nw 3 19) l = gS P ((3, 19) :: l) := rfl
  rw [e1] at g1 ⊢
  have kc1 : (gS P ((3, 19) :: l)).K x = 12 := (gS_o (by omega)).1.trans kx
  have hs1 : (gS P ((3, 19) :: l)).hs = x + 124 := by rw [gS_hs, hs, List.length_cons, kl]
  refine cm_putR (q := 48) dX11_init_45 flX11_30 rfl (Or.inl rfl) (by assumption) rfl ?_
  refine am_aload_n (q := 49) dX11_init_48 rfl rfl ?_
  have oo : ∀ y j, ((y ≠ x ∧ (y < x + 66 ∨ x + 124 ≤ y)) ∨ (y = x ∧ j ≠ 4)) → up2 R1 x 4 (some (x + 66)) y j = R y j := fun y j q => by rw [up2_at, if_neg (by omega), o1 y (by omega)]
  refine K _ ?_ ⟨up2_s, g1.cg (fun y j q1 q2 => up2_a (by omega))⟩ oo
  intro y q i
  rw [hs1] at q
  rw [oo y i (Or.inl (by omega))]
  exact hF y (by omega) i
theorem k_X11_init (hG : okG G) (hZ : KS G Z) (hF : Fr S I J R) (kx : S.K x = 12) (hs : S.hs = x + 1) : Fn G mX11_init 6 [vR x] (mw S I J R) (fun rr M1 => rr = none ∧ ∃ J1 R1, M1 = mw (gS S ks11) (up2 I x 5 (-1)) J1 R1 ∧ XC (gS S ks11) R1 x (x + 8) (x + 66) ∧ ((∀ w, w < 32 → J1 (x + 7) w = kwK w) ∧ ∀ y j, y ≠ x + 7 → J1 y j = J y j) ∧ ∀ y, (y < x ∨ x + 125 ≤ y) → R1 y = R y) := by
  refine k_bh1 hG hZ hF kx hs (fun R1 f1 ⟨a0, a1⟩ o1 => ?_)
  have hs1 : (gS S [(9, 2), (20, 2000)]).hs = x + 3 := by rw [gS_hs, hs]; rfl
  refine k_bh2 hG hZ f1 ((gS_o (by omega)).1.trans kx) hs1 (fun J1 R2 f2 ⟨b0, b1, b2, b3, b4⟩ hj o2 => ?_)
  rw [gS_app] at f2 ⊢
  have hs2 : (gS S ([(9, 2), (20, 2000)] ++ [(10, 5), (20, 401), (20, 401), (21, 401), (21, 32)])).hs = x + 8 := by rw [gS_hs, hs]; rfl
  refine k_bh3 hG hZ f2 ((gS_o (by omega)).1.trans kx) hs2 (fun R3 f3 ⟨c0, c1⟩ o3 => ?_)
  rw [gS_app] at f3 c1 ⊢
  have hs3 : (gS S ([(9, 2), (20, 2000)] ++ [(10, 5), (20, 401), (20, 401), (21, 401), (21, 32)] ++ (3, 19) :: ksC)).hs = x + 66 := by rw [gS_hs, hs, List.length_append, List.length_cons, ksC_len]; rfl
  refine k_bh4 hG hZ f3 ((gS_o (by omega)).1.trans kx) hs3 (fun R4 f4 ⟨d0, d1⟩ o4 => ?_)
  rw [gS_app] at f4 d1 ⊢
  have hs4 : (gS S ([(9, 2), (20, 2000)] ++ [(10, 5), (20, 401), (20, 401), (21, 401), (21, 32)] ++ (3, 19) :: ksC ++ (3, 19) :: ksC)).hs = x + 124 := by rw [gS_hs, hs, List.length_append, List.length_append, List.length_cons, ksC_len]; rfl
  have eZ : gS (gS S ([(9, 2), (20, 2000)] ++ [(10, 5), (20, 401), (20, 401), (21, 401), (21, 32)] ++ (3, 19) :: ksC ++ (3, 19) :: ksC)) [(8, 5)] = gS S ks11 := by
    rw [gS_app, List.append_assoc, List.append_assoc, List.append_assoc]
    rfl
  have eN : (gS S ([(9, 2), (20, 2000)] ++ [(10, 5), (20, 401), (20, 401), (21, 401), (21, 32)] ++ (3, 19) :: ksC ++ (3, 19) :: ksC)).nw 8 5 = gS S ks11 := eZ
  have c2 : CT (gS S ks11) R4 (x + 8) := c1.ex (fun y q1 q2 => ⟨by
    rw [← eZ, gS_app]
    have e3 : gS S ([(9, 2), (20, 2000)] ++ [(10, 5), (20, 401), (20, 401), (21, 401), (21, 32)] ++ (3, 19) :: ksC ++ (3, 19) :: ksC ++ [(8, 5)]) = gS (gS S ([(9, 2), (20, 2000)] ++ [(10, 5), (20, 401), (20, 401), (21, 401), (21, 32)] ++ (3, 19) :: ksC)) ((3, 19) :: ksC ++ [(8, 5)]) := by rw [gS_app, List.append_assoc]
    rw [e3]
    exact gS_o (by omega), funext fun j => o4 y j (Or.inl (by omega))⟩)
  have d2 : CT (gS S ks11) R4 (x + 66) := d1.ex (fun y q1 q2 => ⟨by
    rw [← eZ]
    exact gS_o (by omega), rfl⟩)
  generalize gS S ([(9, 2), (20, 2000)] ++ [(10, 5), (20, 401), (20, 401), (21, 401), (21, 32)] ++ (3, 19) :: ksC ++ (3, 19) :: ksC) = P4 at f4 hs4 eN ⊢
  have kk : ∀ i k n, i < 124 → ks11.getD i (0, 0) = (k, n) → (gS S ks11).K (x + 1 + i) = k ∧ (gS S ks11).ln (x + 1 + i) = n := fun i k n hi h => gS_at hs (by rw [ks11_len]; exact hi) h
  have kxZ : (gS S ks11).K x = 12 := (gS_o (by omega)).1.trans kx
  have k124 : (gS S ks11).K (x + 124) = 8 := by
    have := (kk 123 8 5 (by decide) (by decide +kernel)).1
    rw [show x + 1 + 123 = x + 124 by omega] at this
    exact this
  have r1 : R4 x 1 = some (x + 3) := by rw [o4 x 1 (Or.inr ⟨rfl, by decide⟩), o3 x 1 (Or.inr ⟨rfl, by decide⟩)]; exact b0
  have i7 := k_X7_init (G := G) (S := gS S ks11) (I := I) (J := J1) (R := R4) (a := x + 124) (t := x + 3) (c := x + 66) k124
  refine cm_mkO (q := 52) f4 dX11_init_49 cnX11_33 rfl ?_
  rw [hs4]
  refine (?_ : MW G mX11_init 6 52 _ _ (mw (P4.nw 8 5) I J1 R4) _)
  rw [eN]
  refine am_dup (q := 53) dX11_init_52 rfl rfl ?_
  refine am_aload_n (q := 54) dX11_init_53 rfl rfl ?_
  refine cm_getR (q := 57) dX11_init_54 flX11_19 rfl (by assumption) (by assumption) rfl ?_
  refine am_aload_n (q := 58) dX11_init_57 rfl rfl ?_
  refine cm_getR (q := 61) dX11_init_58 flX11_30 rfl (by assumption) (by assumption) rfl ?_
  refine am_call2 (q := 64) (As := [_, _]) hG dX11_init_61 mlX11_35 rfl (Nat.le_of_ble_eq_true rfl) (Nat.le_of_ble_eq_true rfl) (Nat.le_of_ble_eq_true rfl) i7 rfl ?_
  rintro _ _ ⟨rfl, rfl⟩
  have o5 : ∀ y j, (y ≠ x + 124 ∧ (y ≠ x ∨ j ≠ 2)) → up2 (up2 (up2 R4 (x + 124) 0 (some (x + 3))) (x + 124) 1 (some (x + 66))) x 2 (some (x + 124)) y j = R4 y j := fun y j q => by rw [up2_at, if_neg (by omega), up2_a q.1, up2_a q.1]
  have q124 : up2 (up2 (up2 R4 (x + 124) 0 (some (x + 3))) (x + 124) 1 (some (x + 66))) x 2 (some (x + 124)) (x + 124) 0 = some (x + 3) := by rw [up2_a (by omega), up2_j (by decide), up2_s]
  have q2 : up2 (up2 (up2 R4 (x + 124) 0 (some (x + 3))) (x + 124) 1 (some (x + 66))) x 2 (some (x + 124)) x 2 = some (x + 124) := up2_s
  refine cm_putR (q := 67) dX11_init_64 flX11_38 rfl fpX11_38 (by assumption) rfl ?_
  generalize up2 (up2 (up2 R4 (x + 124) 0 (some (x + 3))) (x + 124) 1 (some (x + 66))) x 2 (some (x + 124)) = R5 at o5 q124 q2 ⊢
  have xc : XC (gS S ks11) R5 x (x + 8) (x + 66) := by
    have y1 := kk 0 9 2 (by decide) (by decide +kernel)
    have y2 := kk 1 20 2000 (by decide) (by decide +kernel)
    have y3 := kk 2 10 5 (by decide) (by decide +kernel)
    have y4 := kk 3 20 401 (by decide) (by decide +kernel)
    have y5 := kk 4 20 401 (by decide) (by decide +kernel)
    have y6 := kk 5 21 401 (by decide) (by decide +kernel)
    have y7 := kk 6 21 32 (by decide) (by decide +kernel)
    refine ⟨kxZ, ?_, ?_, q2, ?_, ?_, Or.inl ⟨rfl, rfl⟩, ⟨y1.1, ?_, y2.1, y2.2⟩, ⟨y3.1, ?_, ?_, ?_, ?_, y4.1, y4.2, y5.1, y5.2, y6.1, y6.2, y7.1, y7.2⟩, c2.cg (fun y j q1 q2 => o5 y j (by omega)), d2.cg (fun y j q1 q2 => o5 y j (by omega)), k124, q124⟩
    · rw [o5 _ _ (by omega), o4 _ _ (by omega), o3 _ _ (by omega), o2 _ _ (by omega)]; exact a0
    · rw [o5 _ _ (by omega)]; exact r1
    · rw [o5 _ _ (by omega), o4 _ _ (by omega)]; exact c0
    · rw [o5 _ _ (by omega)]; exact d0
    · rw [o5 _ _ (by omega), o4 _ _ (by omega), o3 _ _ (by omega), o2 _ _ (by omega)]; exact a1
    · rw [o5 _ _ (by omega), o4 _ _ (by omega), o3 _ _ (by omega)]; exact b1
    · rw [o5 _ _ (by omega), o4 _ _ (by omega), o3 _ _ (by omega)]; exact b2
    · rw [o5 _ _ (by omega), o4 _ _ (by omega), o3 _ _ (by omega)]; exact b3
    · rw [o5 _ _ (by omega), o4 _ _ (by omega), o3 _ _ (by omega)]; exact b4
  refine am_aload_n (q := 68) dX11_init_67 rfl rfl ?_
  refine am_iconst (q := 69) (v := (-1)) dX11_init_68 kc_im1 rfl ?_
  refine cm_putI (q := 72) dX11_init_69 flX11_42 rfl (Or.inl rfl) (Or.inl rfl) (by assumption) rfl ?_
  exact am_ret dX11_init_72 rfl ⟨_, rfl, rfl, J1, R5, rfl, xc, hj, fun y q => funext fun j => by rw [o5 _ _ (by omega), o4 _ _ (by omega), o3 _ _ (by omega), o2 _ _ (by omega), o1 _ (by omega)]⟩
end Bh

