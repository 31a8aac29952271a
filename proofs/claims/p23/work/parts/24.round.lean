theorem dX2_play_0 : decode cX2_play 0 = .ok (.iconst 0, 1) := by decide +kernel
theorem dX2_play_1 : decode cX2_play 1 = .ok (.istore_n 2, 1) := by decide +kernel
theorem dX2_play_2 : decode cX2_play 2 = .ok (.iload_n 2, 1) := by decide +kernel
theorem dX2_play_3 : decode cX2_play 3 = .ok (.iload_n 1, 1) := by decide +kernel
theorem dX2_play_4 : decode cX2_play 4 = .ok (.if_icmp .ge 61, 3) := by decide +kernel
theorem dX2_play_7 : decode cX2_play 7 = .ok (.aload_n 0, 1) := by decide +kernel
theorem dX2_play_8 : decode cX2_play 8 = .ok (.invokevirtual 254, 3) := by decide +kernel
theorem dX2_play_11 : decode cX2_play 11 = .ok (.aload_n 0, 1) := by decide +kernel
theorem dX2_play_12 : decode cX2_play 12 = .ok (.invokevirtual 257, 3) := by decide +kernel
theorem dX2_play_15 : decode cX2_play 15 = .ok (.iconst 0, 1) := by decide +kernel
theorem dX2_play_16 : decode cX2_play 16 = .ok (.istore_n 3, 1) := by decide +kernel
theorem dX2_play_17 : decode cX2_play 17 = .ok (.iload_n 3, 1) := by decide +kernel
theorem dX2_play_18 : decode cX2_play 18 = .ok (.aload_n 0, 1) := by decide +kernel
theorem dX2_play_19 : decode cX2_play 19 = .ok (.getfield 75, 3) := by decide +kernel
theorem dX2_play_22 : decode cX2_play 22 = .ok (.if_icmp .ge 27, 3) := by decide +kernel
theorem dX2_play_25 : decode cX2_play 25 = .ok (.iload_n 3, 1) := by decide +kernel
theorem dX2_play_26 : decode cX2_play 26 = .ok (.aload_n 0, 1) := by decide +kernel
theorem dX2_play_27 : decode cX2_play 27 = .ok (.getfield 40, 3) := by decide +kernel
theorem dX2_play_30 : decode cX2_play 30 = .ok (.arraylength, 1) := by decide +kernel
theorem dX2_play_31 : decode cX2_play 31 = .ok (.if_icmp .ge 18, 3) := by decide +kernel
theorem dX2_play_34 : decode cX2_play 34 = .ok (.aload_n 0, 1) := by decide +kernel
theorem dX2_play_35 : decode cX2_play 35 = .ok (.getfield 40, 3) := by decide +kernel
theorem dX2_play_38 : decode cX2_play 38 = .ok (.iload_n 3, 1) := by decide +kernel
theorem dX2_play_39 : decode cX2_play 39 = .ok (.aaload, 1) := by decide +kernel
theorem dX2_play_40 : decode cX2_play 40 = .ok (.invokevirtual 260, 3) := by decide +kernel
theorem dX2_play_43 : decode cX2_play 43 = .ok (.iinc 3 1, 3) := by decide +kernel
theorem dX2_play_46 : decode cX2_play 46 = .ok (.goto (-29), 3) := by decide +kernel
theorem dX2_play_49 : decode cX2_play 49 = .ok (.aload_n 0, 1) := by decide +kernel
theorem dX2_play_50 : decode cX2_play 50 = .ok (.dup, 1) := by decide +kernel
theorem dX2_play_51 : decode cX2_play 51 = .ok (.getfield 84, 3) := by decide +kernel
theorem dX2_play_54 : decode cX2_play 54 = .ok (.iconst 1, 1) := by decide +kernel
theorem dX2_play_55 : decode cX2_play 55 = .ok (.iadd, 1) := by decide +kernel
theorem dX2_play_56 : decode cX2_play 56 = .ok (.putfield 84, 3) := by decide +kernel
theorem dX2_play_59 : decode cX2_play 59 = .ok (.iinc 2 1, 3) := by decide +kernel
theorem dX2_play_62 : decode cX2_play 62 = .ok (.goto (-60), 3) := by decide +kernel
theorem dX2_play_65 : decode cX2_play 65 = .ok (.return_, 1) := by decide +kernel
/-! the round's end, play, flights, springs -/
theorem mk_cg {F1 F2 R1 R2 P1 P2 : Nat → Nat → Int32} {g1 g2 : Nat → Int32} {w : Nat → Nat} {bd : Nat → Int32} {n : Nat} (h1 : ∀ x j, F1 x j = F2 x j) (h2 : ∀ x j, R1 x j = R2 x j) (h3 : ∀ x j, P1 x j = P2 x j) (h4 : ∀ j, g1 j = g2 j) : mkMS F1 R1 P1 g1 w bd n = mkMS F2 R2 P2 g2 w bd n := by
  have z1 : F1 = F2 := funext fun x => funext fun j => h1 x j
  have z2 : R1 = R2 := funext fun x => funext fun j => h2 x j
  have z3 : P1 = P2 := funext fun x => funext fun j => h3 x j
  have z4 : g1 = g2 := funext h4
  rw [z1, z2, z3, z4]
theorem rstM_f {m : MS} {n x j : Nat} : (rstM m n).fist x j = if x < n then (if j = 8 then 0 else if j = 3 then (if m.fist x 8 = 0 then (if 3 < m.fist x 3 then m.fist x 3 - 3 else 0) else m.fist x 3) else m.fist x j) else m.fist x j := rfl
theorem rstM_s {m : MS} {n : Nat} : rstM m (n + 1) = (if m.fist n 8 = 0 then mkMS (up2 (up2 (rstM m n).fist n 3 (if 3 < m.fist n 3 then m.fist n 3 - 3 else 0)) n 8 0) (rstM m n).rail (rstM m n).prize (rstM m n).g (rstM m n).row (rstM m n).bd (rstM m n).nb else mkMS (up2 (rstM m n).fist n 8 0) (rstM m n).rail (rstM m n).prize (rstM m n).g (rstM m n).row (rstM m n).bd (rstM m n).nb) := by
  by_cases h : m.fist n 8 = 0
  · rw [if_pos h]
    refine mk_cg ?_ (fun _ _ => rfl) (fun _ _ => rfl) (fun _ => rfl)
    intro x j
    simp only [up2_at, rstM_f]
    grind (splits := 30)
  · rw [if_neg h]
    refine mk_cg ?_ (fun _ _ => rfl) (fun _ _ => rfl) (fun _ => rfl)
    intro x j
    simp only [up2_at, rstM_f]
    grind (splits := 30)
theorem rstM_0 {m : MS} : rstM m 0 = m := by
  obtain ⟨a, b, c, d, e, f, g⟩ := m
  refine mk_cg (fun x j => ?_) (fun _ _ => rfl) (fun _ _ => rfl) (fun _ => rfl)
  rw [if_neg (Nat.not_lt_zero x)]
  rfl
section Round
variable {G : Gp} {S : AMem} {I : Nat → Nat → Int32} {J : Nat → Nat → Int64} {R : Nat → Nat → Option Nat} {c : Nat} {B : BS} {m : MS}
theorem k_play1 {x x3 : Option AV} {y : Int32} (hG : okG G) (hct : CT S R c) (hB : AbB I c B) (hm : AbM I c B m) {Q : (Option AV ⊕ Nat) → AMem → Prop}
    (hQ : ∀ I1, AbB I1 c B → AbM I1 c B (rndM B m) → OffC c I I1 → ∀ x3, MW G mX2_play 6 59 [some (vR c), x, some (vI y), x3] [] (mw S I1 J R) Q) : MW G mX2_play 6 7 [some (vR c), x, some (vI y), x3] [] (mw S I J R) Q := by
  have hct2 := hct
  obtain ⟨kc, rc0, rc1, rc2, rc3, rc4, rc5, rc6, rc7, ⟨kd, rd0, rd1, rd2, kd2, ld2, kd3, ld3, kd4, ld4⟩, ⟨kb, rb, kb6, lb6⟩, ⟨kf, rf, kf8, lf8⟩, ⟨kr, lr, hr⟩, ⟨kfi, lfi, hfi⟩, ⟨kp, lp, hpz⟩, ⟨kt, lt, htu⟩, kw, lw⟩ := id hct2
  have u4 : B.nF ≤ 8 := hB.2.1.2
  refine am_aload_n (q := 8) dX2_play_7 rfl rfl ?_
  refine cm_call0 (q := 11) (As := []) hG dX2_play_8 mlX2_254 rfl (by assumption) ⟨_, _, rfl⟩ (Nat.le_of_ble_eq_true rfl) (Nat.le_of_ble_eq_true rfl) (Nat.le_of_ble_eq_true rfl) (Nat.le_of_ble_eq_true rfl) (k_X2_useElbows hG hct hB hm) rfl ?_
  rintro _ _ ⟨rfl, I1, rfl, hB1, hm1, hO1⟩
  refine am_aload_n (q := 12) dX2_play_11 rfl rfl ?_
  refine cm_call0 (q := 15) (As := []) hG dX2_play_12 mlX2_257 rfl (by assumption) ⟨_, _, rfl⟩ (Nat.le_of_ble_eq_true rfl) (Nat.le_of_ble_eq_true rfl) (Nat.le_of_ble_eq_true rfl) (Nat.le_of_ble_eq_true rfl) (k_X2_takeTurns hG hct hB1 hm1) rfl ?_
  rintro _ _ ⟨rfl, I2, rfl, hB2, hm2, hO2⟩
  refine am_iconst (q := 16) (v := 0) dX2_play_15 kc_i0 rfl ?_
  refine am_istore_n (q := 17) (ls1 := [_, _, _, _]) dX2_play_16 (Nat.le_of_ble_eq_true rfl) rfl rfl ?_
  have hO := hO1.tr hO2
  unfold rndM at hQ
  generalize trnM B 0 B.nT (elbM B 1 (B.nT - 1) m) = m2 at hm2 hQ
  refine k_loop (σ := Nat → Nat → Int32) (n := B.nF) (Inv := fun i I3 => AbB I3 c B ∧ AbM I3 c B (rstM m2 i) ∧ OffC c I I3) (W := fun i I3 => MW G mX2_play 6 17 [some (vR c), x, some (vI y), some (vI (nI i))] [] (mw S I3 J R) _) ?_ ?_ 0 I2 (Nat.zero_le _) ⟨hB2, by rw [rstM_0]; exact hm2, hO⟩
  · rintro i I3 hi ⟨hB3, hm3, hO3⟩ ih
    obtain ⟨f1, f2⟩ := hfi i (by omega)
    have hin : vp_in (nI i) (S.ln (c + 10)) := by rw [lfi]; exact vp_in_nI (by omega) (by decide)
    have hR : R (c + 10) (nI i).toNatClampNeg = some (c + 22 + i) := by rw [nI_clamp (by omega)]; exact f1
    have e1 : I3 (c + 22 + i) 9 = m2.fist i 8 := (hm3.1 i hi 8 (by decide)).trans (by rw [rstM_f, if_neg (Nat.lt_irrefl _)])
    have e2 : I3 (c + 22 + i) 4 = m2.fist i 3 := (hm3.1 i hi 3 (by decide)).trans (by rw [rstM_f, if_neg (Nat.lt_irrefl _)])
    refine am_iload_n (q := 18) dX2_play_17 rfl rfl ?_
    refine am_aload_n (q := 19) dX2_play_18 rfl rfl ?_
    refine cm_getI (q := 22) dX2_play_19 flX2_75 rfl (by assumption) rfl ?_
    rw [show I3 c 10 = nI B.nF from hB3.2.1.1]
    refine am_icmp_ge (tgt := 49) (q := 25) dX2_play_22 rfl rfl (fun hz => absurd hz (nI_ge (by omega) (by omega))) (fun _ => ?_)
    refine am_iload_n (q := 26) dX2_play_25 rfl rfl ?_
    refine am_aload_n (q := 27) dX2_play_26 rfl rfl ?_
    refine cm_getR (q := 30) dX2_play_27 flX2_40 rfl (by assumption) (by assumption) rfl ?_
    refine cm_alenK (q := 31) dX2_play_30 (by assumption) (by decide) (by rw [lfi] : nI (S.ln (c + 10)) = nI 8) rfl ?_
    refine am_icmp_ge (tgt := 49) (q := 34) dX2_play_31 rfl rfl (fun hz => absurd hz (nI_ge (by omega) (by decide))) (fun _ => ?_)
    refine am_aload_n (q := 35) dX2_play_34 rfl rfl ?_
    refine cm_getR (q := 38) dX2_play_35 flX2_40 rfl (by assumption) (by assumption) rfl ?_
    refine am_iload_n (q := 39) dX2_play_38 rfl rfl ?_
    refine cm_aaloadK (q := 40) dX2_play_39 (by assumption) (by decide) hin hR rfl ?_
    refine cm_call0 (q := 43) (As := []) hG dX2_play_40 mlX2_260 rfl (by assumption) ⟨_, _, rfl⟩ (Nat.le_of_ble_eq_true rfl) (Nat.le_of_ble_eq_true rfl) (Nat.le_of_ble_eq_true rfl) (Nat.le_of_ble_eq_true rfl) (k_X3_endRound f2) rfl ?_
    rintro _ _ ⟨rfl, rfl⟩
    rw [e1, e2]
    refine am_iincW (q := 46) (ls1 := [_, _, _, _]) (w := 1) dX2_play_43 rfl (Nat.le_of_ble_eq_true rfl) kc_i1 rfl rfl ?_
    refine am_goto (tgt := 17) dX2_play_46 rfl ?_
    rw [nI_1]
    refine ih _ ?_
    rw [rstM_s]
    by_cases h : m2.fist i 8 = 0
    · rw [if_pos h, if_pos h]
      exact ⟨(hB3.upF (by omega)).upF (by omega), AbM.setF (j := 8) (hB3.upF (j := 4) (by omega)) (AbM.setF (j := 3) hB3 hm3 hi (by decide) (fun e => absurd e (by decide))) hi (by decide) (fun _ => Or.inl rfl), (hO3.up (by omega)).up (by omega)⟩
    · rw [if_neg h, if_neg h]
      exact ⟨hB3.upF (by omega), AbM.setF (j := 8) hB3 hm3 hi (by decide) (fun _ => Or.inl rfl), hO3.up (by omega)⟩
  · rintro I3 ⟨hB3, hm3, hO3⟩
    refine am_iload_n (q := 18) dX2_play_17 rfl rfl ?_
    refine am_aload_n (q := 19) dX2_play_18 rfl rfl ?_
    refine cm_getI (q := 22) dX2_play_19 flX2_75 rfl (by assumption) rfl ?_
    rw [show I3 c 10 = nI B.nF from hB3.2.1.1]
    refine am_icmp_ge (tgt := 49) (q := 25) dX2_play_22 rfl rfl (fun _ => ?_) (fun hz => absurd (Int32.le_refl _) hz)
    refine am_aload_n (q := 50) dX2_play_49 rfl rfl ?_
    refine am_dup (q := 51) dX2_play_50 rfl rfl ?_
    refine cm_getI (q := 54) dX2_play_51 flX2_84 rfl (by assumption) rfl ?_
    rw [show I3 c 13 = (rstM m2 B.nF).g 0 from hm3.2.2.2.1 0 (by decide)]
    refine am_iconst (q := 55) (v := 1) dX2_play_54 kc_i1 rfl ?_
    refine am_iadd (q := 56) dX2_play_55 rfl ?_
    refine cm_putI (q := 59) dX2_play_56 flX2_84 rfl (Or.inl rfl) (Or.inl rfl) (by assumption) rfl ?_
    exact hQ _ (hB3.upG (j := 13) (by decide)) (AbM.setG (j := 0) hB3 hm3 (by decide)) (hO3.up (by omega)) _
theorem k_X2_play {n : Nat} (hG : okG G) (hct : CT S R c) (hB : AbB I c B) (hm : AbM I c B m) (hn : n < 2 ^ 31) : Fn G mX2_play 6 [vR c, vI (nI n)] (mw S I J R) (fun rr M1 => rr = none ∧ ∃ I1, M1 = mw S I1 J R ∧ AbB I1 c B ∧ AbM I1 c B (plyM B n m) ∧ OffC c I I1) := by
  refine am_iconst (q := 1) (v := 0) dX2_play_0 kc_i0 rfl ?_
  refine am_istore_n (q := 2) (ls1 := [_, _, _, _]) dX2_play_1 (Nat.le_of_ble_eq_true rfl) rfl rfl ?_
  refine k_loop (σ := (Nat → Nat → Int32) × MS × Option AV) (n := n) (Inv := fun i s => plyM B (n - i) s.2.1 = plyM B n m ∧ AbB s.1 c B ∧ AbM s.1 c B s.2.1 ∧ OffC c I s.1) (W := fun i s => MW G mX2_play 6 2 [some (vR c), some (vI (nI n)), some (vI (nI i)), s.2.2] [] (mw S s.1 J R) _) ?_ ?_ 0 (I, m, none) (Nat.zero_le _) ⟨rfl, hB, hm, OffC.rf⟩
  · rintro i ⟨I0, m0, x3⟩ hi ⟨hinv, hB0, hm0, hO0⟩ ih
    dsimp only at hinv hB0 hm0 hO0 ih ⊢
    rw [show n - i = (n - (i + 1)) + 1 by omega, plyM] at hinv
    refine am_iload_n (q := 3) dX2_play_2 rfl rfl ?_
    refine am_iload_n (q := 4) dX2_play_3 rfl rfl ?_
    refine am_icmp_ge (tgt := 65) (q := 7) dX2_play_4 rfl rfl (fun hz => absurd hz (nI_ge (by omega) (by omega))) (fun _ => ?_)
    refine k_play1 hG hct hB0 hm0 ?_
    intro I1 hB1 hm1 hO1 y3
    refine am_iincW (q := 62) (ls1 := [_, _, _, _]) (w := 1) dX2_play_59 rfl (Nat.le_of_ble_eq_true rfl) kc_i1 rfl rfl ?_
    refine am_goto (tgt := 2) dX2_play_62 rfl ?_
    rw [nI_1]
    exact ih (I1, _, y3) ⟨hinv, hB1, hm1, hO0.tr hO1⟩
  · rintro ⟨I0, m0, x3⟩ ⟨hinv, hB0, hm0, hO0⟩
    dsimp only at hinv hB0 hm0 hO0 ⊢
    rw [Nat.sub_self, plyM] at hinv
    rw [← hinv]
    refine am_iload_n (q := 3) dX2_play_2 rfl rfl ?_
    refine am_iload_n (q := 4) dX2_play_3 rfl rfl ?_
    refine am_icmp_ge (tgt := 65) (q := 7) dX2_play_4 rfl rfl (fun _ => ?_) (fun hz => absurd (Int32.le_refl _) hz)
    exact am_ret dX2_play_65 rfl ⟨_, rfl, rfl, _, rfl, hB0, hm0, hO0⟩
end Round

