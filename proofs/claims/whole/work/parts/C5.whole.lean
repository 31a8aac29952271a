theorem dL_law_0 : decode cL_law 0 = .ok (.new 8, 3) := by decide +kernel
theorem dL_law_3 : decode cL_law 3 = .ok (.dup, 1) := by decide +kernel
theorem dL_law_4 : decode cL_law 4 = .ok (.invokespecial 67, 3) := by decide +kernel
theorem dL_law_7 : decode cL_law 7 = .ok (.astore_n 1, 1) := by decide +kernel
theorem dL_law_8 : decode cL_law 8 = .ok (.new 68, 3) := by decide +kernel
theorem dL_law_11 : decode cL_law 11 = .ok (.dup, 1) := by decide +kernel
theorem dL_law_12 : decode cL_law 12 = .ok (.invokespecial 70, 3) := by decide +kernel
theorem dL_law_15 : decode cL_law 15 = .ok (.astore_n 2, 1) := by decide +kernel
theorem dL_law_16 : decode cL_law 16 = .ok (.iconst 1, 1) := by decide +kernel
theorem dL_law_17 : decode cL_law 17 = .ok (.newarray .long, 2) := by decide +kernel
theorem dL_law_19 : decode cL_law 19 = .ok (.astore_n 3, 1) := by decide +kernel
theorem dL_law_20 : decode cL_law 20 = .ok (.iconst 0, 1) := by decide +kernel
theorem dL_law_21 : decode cL_law 21 = .ok (.istore 4, 2) := by decide +kernel
/-! the law from its entry -/
section Wl
variable {G : Gp} {S : AMem} {I : Nat → Nat → Int32} {J : Nat → Nat → Int64} {R : Nat → Nat → Option Nat} {b L : Nat} {xs : Nat → Int32} {Z : StA}
theorem kl_i1 (hG : okG G) (hZ : KS G Z) (hF : Fr S I J R) (kx : S.K S.hs = 0) {P : AMem} (hP : P = gS (S.nw 12 6) ks11) {y : Nat} (hy : y = S.hs + 125) {Q : (Option AV ⊕ Nat) → AMem → Prop} (K : ∀ J1 R1, Fr P (up2 I S.hs 5 (-1)) J1 R1 → XW kwK P S.hs XS0 (up2 I S.hs 5 (-1)) J1 R1 → P.hs = y → P.sl ≤ S.sl + 100006 → MW G mL_law 2046 8 [some (vR b), some (vR S.hs), none, none, none, none, none, none, none] [] (mw P (up2 I S.hs 5 (-1)) J1 R1) Q) : MW G mL_law 2046 0 (ent 9 [vR b]) [] (mw S I J R) Q := by
  refine cm_mkO (q := 3) hF dL_law_0 cnL_8 rfl ?_
  have i1 := k_X11_init (S := S.nw 12 6) (x := S.hs) hG hZ hF.nw nw_Kn (by rw [nw_hs])
  rw [← hP] at i1
  have zP : P.hs = y := by rw [hP, gS_hs, nw_hs, ks11_len, hy]
  have zS : P.sl ≤ S.sl + 100006 := by
    rw [hP, gS_sl, nw_sl]
    have := ks11_sl
    omega
  clear hP
  refine am_dup (q := 4) dL_law_3 rfl rfl ?_
  refine am_call2 (q := 7) (As := []) hG dL_law_4 mlL_67 rfl (Nat.le_of_ble_eq_true rfl) (Nat.le_of_ble_eq_true rfl) (Nat.le_of_ble_eq_true rfl) i1 rfl ?_
  rintro _ _ ⟨rfl, J1, R1, rfl, xc, ⟨hj1, hj2⟩, hr⟩
  have hF1 : Fr P (up2 I S.hs 5 (-1)) J1 R1 := fun a q j => by
    have := hF a (by omega) j
    rw [up2_a (by omega), hj2 a j (by omega), hr a (by omega)]
    exact this
  have hX : XW kwK P S.hs XS0 (up2 I S.hs 5 (-1)) J1 R1 := st_X xc (fun a j u v => by
    rw [up2_a (by omega)]
    exact (hF a (by omega) j).1) up2_s hj1
  refine am_astore_n (q := 8) (ls1 := [_, _, _, _, _, _, _, _, _]) dL_law_7 (Nat.le_of_ble_eq_true rfl) rfl rfl ?_
  exact K J1 R1 hF1 hX zP zS
theorem kl_i2 {P : AMem} {x y : Nat} {Q : (Option AV ⊕ Nat) → AMem → Prop} (hG : okG G) (hF : Fr P I J R) (hX : XW kwK P x XS0 I J R) (hy : P.hs = y) (hxy : y = x + 125) {V : AMem} (hV : V = gS (P.nw 15 25) ks14) (K : ∀ R1, Fr V (up2 I y 3 (-1)) J R1 → XW kwK V x XS0 (up2 I y 3 (-1)) J R1 → YW V y XS0 (up2 I y 3 (-1)) R1 → V.hs = x + 164 → V.sl ≤ P.sl + 100025 → MW G mL_law 2046 16 [some (vR b), some (vR x), some (vR y), none, none, none, none, none, none] [] (mw V (up2 I y 3 (-1)) J R1) Q) : MW G mL_law 2046 8 [some (vR b), some (vR x), none, none, none, none, none, none, none] [] (mw P I J R) Q := by
  refine cm_mkO (q := 11) hF dL_law_8 cnL_68 rfl ?_
  have i1 := k_X14_init (S := P.nw 15 25) (y := P.hs) hG hF.nw nw_Kn (by rw [nw_hs])
  rw [← hV, hy] at i1
  have zP : V.hs = x + 164 := by rw [hV, gS_hs, nw_hs, ks14_len, hy, hxy]
  have zS : V.sl ≤ P.sl + 100025 := by
    rw [hV, gS_sl, nw_sl]
    have := ks14_sl
    omega
  have old : ∀ a, a < y → V.K a = P.K a ∧ V.ln a = P.ln a := fun a q => by
    rw [hV]
    obtain ⟨g1, g2⟩ := gS_o (S := P.nw 15 25) (l := ks14) (x := a) (by rw [nw_hs]; omega)
    rw [g1, g2]
    exact ⟨nw_Ko (by omega), nw_lo (by omega)⟩
  clear hV
  rw [hy]
  refine am_dup (q := 12) dL_law_11 rfl rfl ?_
  refine am_call2 (q := 15) (As := []) hG dL_law_12 mlL_70 rfl (Nat.le_of_ble_eq_true rfl) (Nat.le_of_ble_eq_true rfl) (Nat.le_of_ble_eq_true rfl) i1 rfl ?_
  rintro _ _ ⟨rfl, R1, rfl, mc, hr⟩
  have hF1 : Fr V (up2 I y 3 (-1)) J R1 := fun a q j => by
    have := hF a (by omega) j
    rw [up2_a (by omega), hr a (by omega)]
    exact this
  have hY : YW V y XS0 (up2 I y 3 (-1)) R1 := st_Y mc (fun a j u v => by
    rw [up2_a (by omega)]
    exact (hF a (by omega) j).1) (by rw [up2_j (by decide)]; exact (hF y (by omega) 2).1) up2_s
  have hX1 : XW kwK V x XS0 (up2 I y 3 (-1)) J R1 := hX.ex fun a u v => ⟨(old a (by omega)).1, (old a (by omega)).2, fun j => up2_a (by omega), rfl, hr a (by omega)⟩
  refine am_astore_n (q := 16) (ls1 := [_, _, _, _, _, _, _, _, _]) dL_law_15 (Nat.le_of_ble_eq_true rfl) rfl rfl ?_
  exact K R1 hF1 hX1 hY zP zS
theorem kl_law {HB SB : Nat} (hG : okG G) (hZ : KS G Z) (hX : KX G) (hst : G.l.stackTraces = false) (hsc : Sc G b L xs) (hL : L ≤ 3072) (hF : Fr S I J R) (kx : S.K S.hs = 0) (hH : S.hs + 11000 ≤ HB) (hS : S.sl + 400000 ≤ SB) : MW G mL_law 2046 0 (ent 9 [vR b]) [] (mw S I J R) (fun f M1 => f = .inl (some (vI 1)) ∧ M1.hs ≤ HB ∧ M1.sl ≤ SB) := by
  refine kl_i1 (P := gS (S.nw 12 6) ks11) hG hZ hF kx rfl (y := S.hs + 125) rfl (fun J1 R1 f1 x1 z1 l1 => ?_)
  generalize gS (S.nw 12 6) ks11 = P at f1 x1 z1 l1 ⊢
  generalize up2 I S.hs 5 (-1) = I1 at f1 x1 ⊢
  refine kl_i2 (V := gS (P.nw 15 25) ks14) hG f1 x1 z1 rfl rfl (fun R2 f2 x2 y2 z2 l2 => ?_)
  generalize gS (P.nw 15 25) ks14 = V at f2 x2 y2 z2 l2 ⊢
  generalize up2 I1 (S.hs + 125) 3 (-1) = I2 at f2 x2 y2 ⊢
  generalize S.hs = x at *
  refine am_iconst (q := 17) (v := 1) dL_law_16 kc_i1 rfl ?_
  refine cm_mkJ (n := 1) (q := 19) f2 dL_law_17 (by decide) rfl (Nat.le_of_ble_eq_true rfl) rfl ?_
  have hV : (mw (V.nw 21 1) I2 J1 R2) = mw (V.nw 21 1) I2 J1 R2 := rfl
  rw [z2]
  refine am_astore_n (q := 20) (ls1 := [_, _, _, _, _, _, _, _, _]) dL_law_19 (Nat.le_of_ble_eq_true rfl) rfl rfl ?_
  refine am_iconst (q := 21) (v := 0) dL_law_20 kc_i0 rfl ?_
  refine am_istore (q := 23) (ls1 := [_, _, _, _, _, _, _, _, _]) dL_law_21 (Nat.le_of_ble_eq_true rfl) rfl rfl ?_
  have hI : Inv (V.nw 21 1) I2 J1 R2 x (x + 125) (x + 164) XS0 := by
    refine ⟨x2.ex fun a u v => ⟨nw_Ko (by omega), nw_lo (by omega), fun _ => rfl, rfl, rfl⟩, y2.ex fun a u v => ⟨nw_Ko (by omega), nw_lo (by omega), fun _ _ => rfl, rfl⟩, ?_, ?_, rfl, rfl, ?_⟩
    · rw [← z2]
      exact nw_Kn
    · rw [← z2]
      exact nw_ln'
    · rw [nw_hs, z2]
      omega
  exact kl_loop (y := x + 125) (o := x + 164) hG hZ hX hst hsc hL 513 0 _ _ _ _ _ (Nat.zero_le _) (by omega) hI (by rw [nw_hs, z2]; omega) (by rw [nw_sl]; omega)
end Wl

