theorem kc_i6 : Int32.ofInt 6 = 6 := by decide +kernel
theorem dL_law_23 : decode cL_law 23 = .ok (.iload 4, 2) := by decide +kernel
theorem dL_law_25 : decode cL_law 25 = .ok (.aload_n 0, 1) := by decide +kernel
theorem dL_law_26 : decode cL_law 26 = .ok (.arraylength, 1) := by decide +kernel
theorem dL_law_27 : decode cL_law 27 = .ok (.bipush 6, 2) := by decide +kernel
theorem dL_law_29 : decode cL_law 29 = .ok (.isub, 1) := by decide +kernel
theorem dL_law_30 : decode cL_law 30 = .ok (.if_icmp .gt 1293, 3) := by decide +kernel
theorem dL_law_33 : decode cL_law 33 = .ok (.aload_n 0, 1) := by decide +kernel
theorem dL_law_34 : decode cL_law 34 = .ok (.iload 4, 2) := by decide +kernel
theorem dL_law_36 : decode cL_law 36 = .ok (.iaload, 1) := by decide +kernel
theorem dL_law_37 : decode cL_law 37 = .ok (.bipush 31, 2) := by decide +kernel
theorem dL_law_39 : decode cL_law 39 = .ok (.iand, 1) := by decide +kernel
theorem dL_law_40 : decode cL_law 40 = .ok (.tableswitch 1277 0 19 #[96, 200, 256, 269, 282, 338, 406, 474, 542, 610, 666, 734, 802, 858, 938, 1018, 1086, 1154, 1222, 1263], 96) := by decide +kernel
theorem dL_law_1317 : decode cL_law 1317 = .ok (.iinc 4 6, 3) := by decide +kernel
theorem dL_law_1320 : decode cL_law 1320 = .ok (.goto (-1297), 3) := by decide +kernel
theorem dL_law_1323 : decode cL_law 1323 = .ok (.iconst 1, 1) := by decide +kernel
theorem dL_law_1324 : decode cL_law 1324 = .ok (.ireturn, 1) := by decide +kernel
/-! the law's loop, and the whole of it -/
section Lp
variable {G : Gp} {S : AMem} {I : Nat → Nat → Int32} {J : Nat → Nat → Int64} {R : Nat → Nat → Option Nat} {x y o b i L : Nat} {xs : Nat → Int32} {s : XS} {Z : StA} {Q : (Option AV ⊕ Nat) → AMem → Prop}
/-- one call of the script -/
theorem kl_step {z : Int32} (hG : okG G) (hZ : KS G Z) (hX : KX G) (hst : G.l.stackTraces = false) (hsc : Sc G b L xs) (hi : i + 6 ≤ L) (hL : L ≤ 3072) (h : Inv S I J R x y o s) (K : ∀ S1 I1 J1 R1 s1, Inv S1 I1 J1 R1 x y o s1 → S1.hs ≤ S.hs + 20 → S1.sl ≤ S.sl + 200 → MW G mL_law 2046 1317 (LL b x y o (nI i)) [] (mw S1 I1 J1 R1) Q) : MW G mL_law 2046 40 (LL b x y o (nI i)) [vI z] (mw S I J R) Q := by
  by_cases ho : z.toInt < 0 ∨ 19 < z.toInt
  · refine am_tableOut (tgt := 1317) dL_law_40 ho rfl ?_
    exact K _ _ _ _ _ h (Nat.le_add_right _ _) (Nat.le_add_right _ _)
  have h1 : ¬ z.toInt < 0 := fun q => ho (Or.inl q)
  have h2 : ¬ 19 < z.toInt := fun q => ho (Or.inr q)
  have hn : z.toInt = 0 ∨ z.toInt = 1 ∨ z.toInt = 2 ∨ z.toInt = 3 ∨ z.toInt = 4 ∨ z.toInt = 5 ∨ z.toInt = 6 ∨ z.toInt = 7 ∨ z.toInt = 8 ∨ z.toInt = 9 ∨ z.toInt = 10 ∨ z.toInt = 11 ∨ z.toInt = 12 ∨ z.toInt = 13 ∨ z.toInt = 14 ∨ z.toInt = 15 ∨ z.toInt = 16 ∨ z.toInt = 17 ∨ z.toInt = 18 ∨ z.toInt = 19 := by omega
  rcases hn with e | e | e | e | e | e | e | e | e | e | e | e | e | e | e | e | e | e | e | e
  · exact am_tableIn (tgt := 136) dL_law_40 h1 h2 (by rw [e]; rfl) rfl (kl_feed hG hZ hX hst hsc hi hL h K)
  · exact am_tableIn (tgt := 240) dL_law_40 h1 h2 (by rw [e]; rfl) rfl (kl_trim hG hZ hX hst hsc hi hL h K)
  · exact am_tableIn (tgt := 296) dL_law_40 h1 h2 (by rw [e]; rfl) rfl (kl_teach hG hZ h K)
  · exact am_tableIn (tgt := 309) dL_law_40 h1 h2 (by rw [e]; rfl) rfl (kl_errorAt hG h K)
  · exact am_tableIn (tgt := 322) dL_law_40 h1 h2 (by rw [e]; rfl) rfl (kl_count hG hZ hX hst hsc hi hL h K)
  · exact am_tableIn (tgt := 378) dL_law_40 h1 h2 (by rw [e]; rfl) rfl (kl_rail hG hZ hX hst hsc hi hL h K)
  · exact am_tableIn (tgt := 446) dL_law_40 h1 h2 (by rw [e]; rfl) rfl (kl_fist hG hZ hX hst hsc hi hL h K)
  · exact am_tableIn (tgt := 514) dL_law_40 h1 h2 (by rw [e]; rfl) rfl (kl_prize hG hZ hX hst hsc hi hL h K)
  · exact am_tableIn (tgt := 582) dL_law_40 h1 h2 (by rw [e]; rfl) rfl (kl_turn hG hZ hX hst hsc hi hL h K)
  · exact am_tableIn (tgt := 650) dL_law_40 h1 h2 (by rw [e]; rfl) rfl (kl_board hG hZ hX hst hsc hi hL h K)
  · exact am_tableIn (tgt := 706) dL_law_40 h1 h2 (by rw [e]; rfl) rfl (kl_strike hG hZ hX hst hsc hi hL h K)
  · exact am_tableIn (tgt := 774) dL_law_40 h1 h2 (by rw [e]; rfl) rfl (kl_wind hG hZ hX hst hsc hi hL h K)
  · exact am_tableIn (tgt := 842) dL_law_40 h1 h2 (by rw [e]; rfl) rfl (kl_pass hG hZ hX hst hsc hi hL h K)
  · exact am_tableIn (tgt := 898) dL_law_40 h1 h2 (by rw [e]; rfl) rfl (kl_would hG hZ hX hst hsc hi hL h K)
  · exact am_tableIn (tgt := 978) dL_law_40 h1 h2 (by rw [e]; rfl) rfl (kl_path hG hZ hX hst hsc hi hL h K)
  · exact am_tableIn (tgt := 1058) dL_law_40 h1 h2 (by rw [e]; rfl) rfl (kl_needs hG hZ hX hst hsc hi hL h K)
  · exact am_tableIn (tgt := 1126) dL_law_40 h1 h2 (by rw [e]; rfl) rfl (kl_foresee hG hZ hX hst hsc hi hL h K)
  · exact am_tableIn (tgt := 1194) dL_law_40 h1 h2 (by rw [e]; rfl) rfl (kl_advise hG hZ hX hst hsc hi hL h K)
  · exact am_tableIn (tgt := 1262) dL_law_40 h1 h2 (by rw [e]; rfl) rfl (kl_mean hG h K)
  · exact am_tableIn (tgt := 1303) dL_law_40 h1 h2 (by rw [e]; rfl) rfl (kl_digest hG h K)
/-- the loop, with room for n calls more -/
theorem kl_loop {HB SB : Nat} (hG : okG G) (hZ : KS G Z) (hX : KX G) (hst : G.l.stackTraces = false) (hsc : Sc G b L xs) (hL : L ≤ 3072) : ∀ (n i : Nat) (S : AMem) (I : Nat → Nat → Int32) (J : Nat → Nat → Int64) (R : Nat → Nat → Option Nat) (s : XS), i ≤ L → L < i + 6 * n → Inv S I J R x y o s → S.hs + 20 * n ≤ HB → S.sl + 200 * n ≤ SB → MW G mL_law 2046 23 (LL b x y o (nI i)) [] (mw S I J R) (fun f M1 => f = .inl (some (vI 1)) ∧ M1.hs ≤ HB ∧ M1.sl ≤ SB) := by
  intro n
  induction n with
  | zero => intro i S I J R s h1 h2; exact absurd h2 (by omega)
  | succ n ih =>
    intro i S I J R s h1 h2 h hh hl
    refine am_iload (q := 25) dL_law_23 rfl rfl ?_
    refine am_aload_n (q := 26) dL_law_25 rfl rfl ?_
    refine am_tlen (q := 27) dL_law_26 (hsc) (rfl) rfl ?_
    refine am_bipush (q := 29) (v := 6) dL_law_27 kc_b6 rfl ?_
    refine am_isub (q := 30) dL_law_29 rfl ?_
    refine am_icmp_gt (tgt := 1323) (q := 33) dL_law_30 rfl rfl (fun hq => ?_) (fun hq => ?_)
    · have hlt := (lp_lt hL h1).mp hq
      have f1 : S.hs ≤ HB := by omega
      have f2 : S.sl ≤ SB := by omega
      refine am_iconst (q := 1324) (v := 1) dL_law_1323 kc_i1 rfl ?_
      exact am_iret dL_law_1324 rfl rfl ⟨rfl, f1, f2⟩
    · have hge : i + 6 ≤ L := Nat.le_of_not_lt fun q => hq ((lp_lt hL h1).mpr q)
      have p0 : vp_in (nI i) L := vp_in_nI (by omega) (by omega)
      have v0 : (fun j => Value.int (xs j)) (nI i).toNatClampNeg = .int (xs i) := by
        show Value.int (xs _) = _
        rw [nI_clamp (by omega)]
      refine am_aload_n (q := 34) dL_law_33 rfl rfl ?_
      refine am_iload (q := 36) dL_law_34 rfl rfl ?_
      refine am_tint (q := 37) dL_law_36 (hsc) p0 (v0) rfl ?_
      refine am_bipush (q := 39) (v := 31) dL_law_37 kc_b31 rfl ?_
      refine am_iand (q := 40) dL_law_39 rfl ?_
      refine kl_step hG hZ hX hst hsc hge hL h (fun S1 I1 J1 R1 s1 h1' hh1 hl1 => ?_)
      have e6 : nI i + 6 = nI (i + 6) := by
        rw [show (6 : Int32) = nI 6 from rfl, nI_add]
      refine am_iincW (q := 1320) (ls1 := [_, _, _, _, _, _, _, _, _]) (w := 6) dL_law_1317 rfl (Nat.le_of_ble_eq_true rfl) kc_i6 rfl rfl ?_
      refine am_goto (tgt := 23) dL_law_1320 rfl ?_
      rw [e6]
      exact ih (i + 6) S1 I1 J1 R1 s1 hge (by omega) h1' (by omega) (by omega)
end Lp

