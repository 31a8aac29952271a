theorem dX11_teach_0 : decode cX11_teach 0 = .ok (.aload_n 0, 1) := by decide +kernel
theorem dX11_teach_1 : decode cX11_teach 1 = .ok (.getfield 19, 3) := by decide +kernel
theorem dX11_teach_4 : decode cX11_teach 4 = .ok (.aload_n 0, 1) := by decide +kernel
theorem dX11_teach_5 : decode cX11_teach 5 = .ok (.getfield 10, 3) := by decide +kernel
theorem dX11_teach_8 : decode cX11_teach 8 = .ok (.invokevirtual 72, 3) := by decide +kernel
theorem dX11_teach_11 : decode cX11_teach 11 = .ok (.aload_n 0, 1) := by decide +kernel
theorem dX11_teach_12 : decode cX11_teach 12 = .ok (.getfield 10, 3) := by decide +kernel
theorem dX11_teach_15 : decode cX11_teach 15 = .ok (.iconst 0, 1) := by decide +kernel
theorem dX11_teach_16 : decode cX11_teach 16 = .ok (.invokevirtual 69, 3) := by decide +kernel
theorem dX11_teach_19 : decode cX11_teach 19 = .ok (.aload_n 0, 1) := by decide +kernel
theorem dX11_teach_20 : decode cX11_teach 20 = .ok (.getfield 30, 3) := by decide +kernel
theorem dX11_teach_23 : decode cX11_teach 23 = .ok (.invokevirtual 76, 3) := by decide +kernel
theorem dX11_teach_26 : decode cX11_teach 26 = .ok (.aload_n 0, 1) := by decide +kernel
theorem dX11_teach_27 : decode cX11_teach 27 = .ok (.getfield 38, 3) := by decide +kernel
theorem dX11_teach_30 : decode cX11_teach 30 = .ok (.aload_n 0, 1) := by decide +kernel
theorem dX11_teach_31 : decode cX11_teach 31 = .ok (.getfield 30, 3) := by decide +kernel
theorem dX11_teach_34 : decode cX11_teach 34 = .ok (.invokevirtual 79, 3) := by decide +kernel
theorem dX11_teach_37 : decode cX11_teach 37 = .ok (.istore_n 1, 1) := by decide +kernel
theorem dX11_teach_38 : decode cX11_teach 38 = .ok (.aload_n 0, 1) := by decide +kernel
theorem dX11_teach_39 : decode cX11_teach 39 = .ok (.aload_n 0, 1) := by decide +kernel
theorem dX11_teach_40 : decode cX11_teach 40 = .ok (.getfield 38, 3) := by decide +kernel
theorem dX11_teach_43 : decode cX11_teach 43 = .ok (.invokevirtual 83, 3) := by decide +kernel
theorem dX11_teach_46 : decode cX11_teach 46 = .ok (.putfield 42, 3) := by decide +kernel
theorem dX11_teach_49 : decode cX11_teach 49 = .ok (.iload_n 1, 1) := by decide +kernel
theorem dX11_teach_50 : decode cX11_teach 50 = .ok (.ifCond .ne 35, 3) := by decide +kernel
theorem dX11_teach_53 : decode cX11_teach 53 = .ok (.aload_n 0, 1) := by decide +kernel
theorem dX11_teach_54 : decode cX11_teach 54 = .ok (.getfield 30, 3) := by decide +kernel
theorem dX11_teach_57 : decode cX11_teach 57 = .ok (.aload_n 0, 1) := by decide +kernel
theorem dX11_teach_58 : decode cX11_teach 58 = .ok (.getfield 26, 3) := by decide +kernel
theorem dX11_teach_61 : decode cX11_teach 61 = .ok (.getfield 87, 3) := by decide +kernel
theorem dX11_teach_64 : decode cX11_teach 64 = .ok (.putfield 87, 3) := by decide +kernel
theorem dX11_teach_67 : decode cX11_teach 67 = .ok (.aload_n 0, 1) := by decide +kernel
theorem dX11_teach_68 : decode cX11_teach 68 = .ok (.getfield 26, 3) := by decide +kernel
theorem dX11_teach_71 : decode cX11_teach 71 = .ok (.astore_n 2, 1) := by decide +kernel
theorem dX11_teach_72 : decode cX11_teach 72 = .ok (.aload_n 0, 1) := by decide +kernel
theorem dX11_teach_73 : decode cX11_teach 73 = .ok (.aload_n 0, 1) := by decide +kernel
theorem dX11_teach_74 : decode cX11_teach 74 = .ok (.getfield 30, 3) := by decide +kernel
theorem dX11_teach_77 : decode cX11_teach 77 = .ok (.putfield 26, 3) := by decide +kernel
theorem dX11_teach_80 : decode cX11_teach 80 = .ok (.aload_n 0, 1) := by decide +kernel
theorem dX11_teach_81 : decode cX11_teach 81 = .ok (.aload_n 2, 1) := by decide +kernel
theorem dX11_teach_82 : decode cX11_teach 82 = .ok (.putfield 30, 3) := by decide +kernel
theorem dX11_teach_85 : decode cX11_teach 85 = .ok (.iload_n 1, 1) := by decide +kernel
theorem dX11_teach_86 : decode cX11_teach 86 = .ok (.ireturn, 1) := by decide +kernel
theorem dX7_errorAtByte_0 : decode cX7_errorAtByte 0 = .ok (.aload_n 0, 1) := by decide +kernel
theorem dX7_errorAtByte_1 : decode cX7_errorAtByte 1 = .ok (.getfield 19, 3) := by decide +kernel
theorem dX7_errorAtByte_4 : decode cX7_errorAtByte 4 = .ok (.ireturn, 1) := by decide +kernel
theorem dX7_readBill_0 : decode cX7_readBill 0 = .ok (.aload_n 0, 1) := by decide +kernel
theorem dX7_readBill_1 : decode cX7_readBill 1 = .ok (.aload_n 1, 1) := by decide +kernel
theorem dX7_readBill_2 : decode cX7_readBill 2 = .ok (.putfield 15, 3) := by decide +kernel
theorem dX7_readBill_5 : decode cX7_readBill 5 = .ok (.aload_n 0, 1) := by decide +kernel
theorem dX7_readBill_6 : decode cX7_readBill 6 = .ok (.iconst 0, 1) := by decide +kernel
theorem dX7_readBill_7 : decode cX7_readBill 7 = .ok (.putfield 23, 3) := by decide +kernel
theorem dX7_readBill_10 : decode cX7_readBill 10 = .ok (.aload_n 0, 1) := by decide +kernel
theorem dX7_readBill_11 : decode cX7_readBill 11 = .ok (.iconst 0, 1) := by decide +kernel
theorem dX7_readBill_12 : decode cX7_readBill 12 = .ok (.putfield 26, 3) := by decide +kernel
theorem dX7_readBill_15 : decode cX7_readBill 15 = .ok (.aload_n 0, 1) := by decide +kernel
theorem dX7_readBill_16 : decode cX7_readBill 16 = .ok (.iconst (-1), 1) := by decide +kernel
theorem dX7_readBill_17 : decode cX7_readBill 17 = .ok (.putfield 19, 3) := by decide +kernel
theorem dX7_readBill_20 : decode cX7_readBill 20 = .ok (.iconst 0, 1) := by decide +kernel
theorem dX7_readBill_21 : decode cX7_readBill 21 = .ok (.istore_n 2, 1) := by decide +kernel
/-! the whole object: a bill is taught -/
section Te
variable {G : Gp} {K : Nat → Int64} {S : AMem} {I I1 : Nat → Nat → Int32} {J J1 : Nat → Nat → Int64} {R R1 : Nat → Nat → Option Nat} {x t c o : Nat} {s : XS} {T : Toks}
theorem CT.cg (h : CT S R c) (q : ∀ y j, c ≤ y → y < c + 58 → R1 y j = R y j) : CT S R1 c := by
  obtain ⟨kc, rc0, rc1, rc2, rc3, rc4, rc5, rc6, rc7, ⟨kd, rd0, rd1, rd2, kd2, ld2, kd3, ld3, kd4, ld4⟩, ⟨kb, rb, kb6, lb6⟩, ⟨kf, rf, kf8, lf8⟩, ⟨kr, lr, hr⟩, ⟨kfi, lfi, hfi⟩, ⟨kp, lp, hpz⟩, ⟨kt, lt, htu⟩, kw, lw⟩ := h
  exact ⟨kc, (q _ _ (by omega) (by omega)).trans rc0, (q _ _ (by omega) (by omega)).trans rc1, (q _ _ (by omega) (by omega)).trans rc2, (q _ _ (by omega) (by omega)).trans rc3, (q _ _ (by omega) (by omega)).trans rc4, (q _ _ (by omega) (by omega)).trans rc5, (q _ _ (by omega) (by omega)).trans rc6, (q _ _ (by omega) (by omega)).trans rc7, ⟨kd, (q _ _ (by omega) (by omega)).trans rd0, (q _ _ (by omega) (by omega)).trans rd1, (q _ _ (by omega) (by omega)).trans rd2, kd2, ld2, kd3, ld3, kd4, ld4⟩, ⟨kb, (q _ _ (by omega) (by omega)).trans rb, kb6, lb6⟩, ⟨kf, (q _ _ (by omega) (by omega)).trans rf, kf8, lf8⟩,
    ⟨kr, lr, fun i hi => ⟨(q _ _ (by omega) (by omega)).trans (hr i hi).1, (hr i hi).2.1, (q _ _ (by omega) (by omega)).trans (hr i hi).2.2.1, (hr i hi).2.2.2⟩⟩, ⟨kfi, lfi, fun i hi => ⟨(q _ _ (by omega) (by omega)).trans (hfi i hi).1, (hfi i hi).2⟩⟩, ⟨kp, lp, fun i hi => ⟨(q _ _ (by omega) (by omega)).trans (hpz i hi).1, (hpz i hi).2⟩⟩, ⟨kt, lt, fun i hi => ⟨(q _ _ (by omega) (by omega)).trans (htu i hi).1, (htu i hi).2⟩⟩, kw, lw⟩
theorem TC.cg (h : TC S R t) (q : ∀ j, R1 t j = R t j) : TC S R1 t := by
  obtain ⟨t0, t1, t2, t3, t4, t5⟩ := h
  exact ⟨t0, (q _).trans t1, (q _).trans t2, (q _).trans t3, (q _).trans t4, t5⟩
theorem TPc.cg {a : Nat} (h : TPc S R a) (q : ∀ j, R1 a j = R a j) : TPc S R1 a := ⟨h.1, (q _).trans h.2.1, h.2.2⟩
theorem AbT.out (h : AbT I J t T) (q : ∀ y j, t ≤ y → y ≤ t + 2 → I1 y j = I y j) (qj : ∀ j, J1 (t + 3) j = J (t + 3) j) : AbT I1 J1 t T := by
  obtain ⟨a1, a2, a3, a4, a5⟩ := h
  exact ⟨(q _ _ (by omega) (by omega)).trans a1, a2, fun i hi => (q _ _ (by omega) (by omega)).trans (a3 i hi), fun i hi => (q _ _ (by omega) (by omega)).trans (a4 i hi), fun i hi => (qj _).trans (a5 i hi)⟩
theorem k_X7_errorAtByte (hx : S.K x = 8) : Fn G mX7_errorAtByte 0 [vR x] (mw S I J R) (fun rr M1 => rr = some (vI (I x 4)) ∧ M1 = mw S I J R) := by
  refine am_aload_n (q := 1) dX7_errorAtByte_0 rfl rfl ?_
  refine cm_getI (q := 4) dX7_errorAtByte_1 flX7_19 rfl (by assumption) rfl ?_
  exact am_iret dX7_errorAtByte_4 rfl rfl ⟨_, rfl, rfl, rfl⟩
theorem k_X7_readBill {b : BL} (hG : okG G) (hX : RX S (up2 R x 1 (some c)) x t c) (h : AbL (up2 (up2 (up2 I x 2 0) x 3 0) x 4 (-1)) J x t c T b) : Fn G mX7_readBill 49 [vR x, vR c] (mw S I J R) (fun rr M1 => rr = some (vI (rdLoop T 401 b).P.2.1) ∧ ∃ I1 J1, M1 = mw S I1 J1 (up2 R x 1 (some c)) ∧ AbL I1 J1 x t c T (rdLoop T 401 b) ∧ OffX x c I I1 ∧ OffJc c J J1) := by
  have hx := hX.1.2.1
  refine am_aload_n (q := 1) dX7_readBill_0 rfl rfl ?_
  refine am_aload_n (q := 2) dX7_readBill_1 rfl rfl ?_
  refine cm_putR (q := 5) dX7_readBill_2 flX7_15 rfl (Or.inl rfl) (by assumption) rfl ?_
  refine am_aload_n (q := 6) dX7_readBill_5 rfl rfl ?_
  refine am_iconst (q := 7) (v := 0) dX7_readBill_6 kc_i0 rfl ?_
  refine cm_putI (q := 10) dX7_readBill_7 flX7_23 rfl (Or.inl rfl) (Or.inl rfl) (by assumption) rfl ?_
  refine am_aload_n (q := 11) dX7_readBill_10 rfl rfl ?_
  refine am_iconst (q := 12) (v := 0) dX7_readBill_11 kc_i0 rfl ?_
  refine cm_putI (q := 15) dX7_readBill_12 flX7_26 rfl (Or.inl rfl) (Or.inl rfl) (by assumption) rfl ?_
  refine am_aload_n (q := 16) dX7_readBill_15 rfl rfl ?_
  refine am_iconst (q := 17) (v := (-1)) dX7_readBill_16 kc_im1 rfl ?_
  refine cm_putI (q := 20) dX7_readBill_17 flX7_19 rfl (Or.inl rfl) (Or.inl rfl) (by assumption) rfl ?_
  refine am_iconst (q := 21) (v := 0) dX7_readBill_20 kc_i0 rfl ?_
  refine am_istore_n (q := 22) (ls1 := [_, _, _]) dX7_readBill_21 (Nat.le_of_ble_eq_true rfl) rfl rfl ?_
  refine MW.weaken (k_X7_bill hG hX h) ?_
  rintro f M1 ⟨r, e1, e2, I1, J1, e3, e4, e5, e6⟩
  refine ⟨r, e1, e2, I1, J1, e3, e4, fun y j p q => ?_, e6⟩
  rw [e5 y j p q, up2_a p, up2_a p, up2_a p]
/-- the state that a bill is read from -/
def bl0 : BL := ((0, 0, -1), [], BS0, MS0, 0, fun _ => 0, fun _ => 0, fun _ => 0)
/-- how a bill is read that lies on the tape -/
def rdB (K : Nat → Int64) (E : Tp) : BL := rdLoop (tkAll E K).toks 401 bl0
def tchS (K : Nat → Int64) (s : XS) : XS := if (rdB K s.E).P.2.1 = 0 then ((0, s.E.2), (rdB K s.E).B, mkMS (rdB K s.E).m.fist (rdB K s.E).m.rail (rdB K s.E).m.prize (up1 (rdB K s.E).m.g 0 (s.m.g 0)) (rdB K s.E).m.row (rdB K s.E).m.bd (rdB K s.E).m.nb, (rdB K s.E).P.2.2) else ((0, s.E.2), s.B, s.m, (rdB K s.E).P.2.2)
theorem k_X11_teach (hG : okG G) (hsy : ∀ (R : Nat → Nat → Option Nat) (I : Nat → Nat → Int32) (J : Nat → Nat → Int64) (c : Int32), Fn G mX9_isSymbol 4 [vI c] (mw S I J R) (fun rr M1 => rr = some (vI (bI (c ∈ syms))) ∧ M1 = mw S I J R)) (h : XW K S x s I J R) : MW G mX11_teach 50 0 (ent 3 [vR x]) [] (mw S I J R) (XQ K S x I J R (.inr (vI (rdB K s.E).P.2.1, tchS K s))) := by
  obtain ⟨c, o, hC, hA⟩ := id h
  obtain ⟨kx, r0, r1, r2, r3, r4, hco, htp, htc, hct, hot, kr, rr⟩ := id hC
  obtain ⟨hE, hB, hM, ho, he, hk⟩ := id hA
  obtain ⟨p1, p2, p3, p4, p5⟩ := hC.lo
  have kt := htp.1
  have kk := htc.1
  have kc := hct.1
  have ko := hot.1
  refine am_aload_n (q := 1) dX11_teach_0 rfl rfl ?_
  refine cm_getR (q := 4) dX11_teach_1 flX11_19 rfl (by assumption) (by assumption) rfl ?_
  refine am_aload_n (q := 5) dX11_teach_4 rfl rfl ?_
  refine cm_getR (q := 8) dX11_teach_5 flX11_10 rfl (by assumption) (by assumption) rfl ?_
  refine cm_call0 (q := 11) (As := [_]) hG dX11_teach_8 mlX11_72 rfl (by assumption) ⟨_, _, rfl⟩ (Nat.le_of_ble_eq_true rfl) (Nat.le_of_ble_eq_true rfl) (Nat.le_of_ble_eq_true rfl) (Nat.le_of_ble_eq_true rfl) (k_X9_readAll hG (hsy R) htc htp hE hk (by omega)) rfl ?_
  rintro _ _ ⟨rfl, I1, J1, rfl, hT1, o1, j1⟩
  refine am_aload_n (q := 12) dX11_teach_11 rfl rfl ?_
  refine cm_getR (q := 15) dX11_teach_12 flX11_10 rfl (by assumption) (by assumption) rfl ?_
  refine am_iconst (q := 16) (v := 0) dX11_teach_15 kc_i0 rfl ?_
  refine cm_call0 (q := 19) (As := [_]) hG dX11_teach_16 mlX11_69 rfl (by assumption) ⟨_, _, rfl⟩ (Nat.le_of_ble_eq_true rfl) (Nat.le_of_ble_eq_true rfl) (Nat.le_of_ble_eq_true rfl) (Nat.le_of_ble_eq_true rfl) (k_X8_shortenTo kt) rfl ?_
  rintro _ _ ⟨rfl, rfl⟩
  refine k_nm (P := fun I2 => MW G mX11_teach 50 19 _ _ (mw S I2 J1 R) _) _ ?_
  intro I2 hI2
  have q2 : ∀ y j, ¬ (y = x + 1 ∧ j = 1) → I2 y j = I1 y j := fun y j q => by rw [hI2, up2_at, if_neg q]
  have q2t : I2 (x + 1) 1 = 0 := by rw [hI2]; exact up2_s
  clear hI2
  refine am_aload_n (q := 20) dX11_teach_19 rfl rfl ?_
  refine cm_getR (q := 23) dX11_teach_20 flX11_30 rfl (by assumption) (by assumption) rfl ?_
  refine cm_call0 (q := 26) (As := []) hG dX11_teach_23 mlX11_76 rfl (by assumption) ⟨_, _, rfl⟩ (Nat.le_of_ble_eq_true rfl) (Nat.le_of_ble_eq_true rfl) (Nat.le_of_ble_eq_true rfl) (Nat.le_of_ble_eq_true rfl) (k_clear hot (fun i hi => by rw [q2 _ _ (by omega), o1 _ _ (by omega)]; exact ho i hi)) rfl ?_
  rintro _ _ ⟨rfl, I3, rfl, hB3, hM3, z9, zc, o3⟩
  have hX : RX S (up2 R (x + 124) 1 (some o)) (x + 124) (x + 3) o := ⟨⟨htc.cg fun j => up2_a (by omega), kr, (up2_j (by decide)).trans rr, Or.inr (by omega)⟩, hot.cg fun y j a b => up2_a (by omega), up2_s, Or.inr (by omega), Or.inl (by omega)⟩
  have h0 : AbL (up2 (up2 (up2 I3 (x + 124) 2 0) (x + 124) 3 0) (x + 124) 4 (-1)) J1 (x + 124) (x + 3) o (tkAll s.E K).toks bl0 := by
    have w : ∀ y j, y ≠ x + 124 → up2 (up2 (up2 I3 (x + 124) 2 0) (x + 124) 3 0) (x + 124) 4 (-1) y j = I3 y j := fun y j q => by rw [up2_a q, up2_a q, up2_a q]
    refine ⟨⟨hT1.out (fun y j a b => ?_) (fun j => rfl), ⟨?_, ?_, up2_s, Nat.zero_le _⟩, ⟨?_, Nat.zero_le _, fun i hi => absurd hi (Nat.not_lt_zero i)⟩, ?_, Nat.zero_le _, ?_, Nat.zero_le _, ?_, Nat.zero_le _⟩, hB3.out (fun y j a b => w y j (by omega)), AbM.out hB3 hM3 (fun y j a b => w y j (by omega)), ?_, Nat.zero_le _, fun i hi => absurd hi (Nat.not_lt_zero i), fun i hi => absurd hi (Nat.not_lt_zero i), fun i hi => absurd hi (Nat.not_lt_zero i)⟩
    · rw [w _ _ (by omega), o3 _ _ (by omega), q2 _ _ (by omega)]
    · rw [up2_j (by decide), up2_j (by decide), up2_s]
      rfl
    · rw [up2_j (by decide), up2_s]
      rfl
    · rw [w _ _ (by omega), zc]
      rfl
    · rw [w _ _ (by omega)]
      exact hB3.1.1
    · rw [w _ _ (by omega)]
      exact hB3.2.1.1
    · rw [w _ _ (by omega)]
      exact hB3.2.2.1.1
    · rw [w _ _ (by omega), z9]
      rfl
  refine am_aload_n (q := 27) dX11_teach_26 rfl rfl ?_
  refine cm_getR (q := 30) dX11_teach_27 flX11_38 rfl (by assumption) (by assumption) rfl ?_
  refine am_aload_n (q := 31) dX11_teach_30 rfl rfl ?_
  refine cm_getR (q := 34) dX11_teach_31 flX11_30 rfl (by assumption) (by assumption) rfl ?_
  refine cm_call0 (q := 37) (As := [_]) hG dX11_teach_34 mlX11_79 rfl (by assumption) ⟨_, _, rfl⟩ (Nat.le_of_ble_eq_true rfl) (Nat.le_of_ble_eq_true rfl) (Nat.le_of_ble_eq_true rfl) (Nat.le_of_ble_eq_true rfl) (k_X7_readBill hG hX h0) rfl ?_
  rintro _ _ ⟨rfl, I4, J4, rfl, (h4 : AbL I4 J4 (x + 124) (x + 3) o (tkAll s.E K).toks (rdB K s.E)), o4, j4⟩
  have e4 : (rdLoop (tkAll s.E K).toks 401 bl0).P.2.1 = (rdB K s.E).P.2.1 := rfl
  rw [e4]
  clear e4
  have eT : tchS K s = tchS K s ∧ True := ⟨rfl, trivial⟩
  have g1 : I4 (x + 124) 4 = (rdB K s.E).P.2.2 := h4.1.2.1.2.2.1
  have g2 : AbB I4 o (rdB K s.E).B := h4.2.1
  have g3 : AbM I4 o (rdB K s.E).B (rdB K s.E).m := h4.2.2.1
  unfold tchS
  generalize rdB K s.E = b at g1 g2 g3 ⊢
  obtain ⟨⟨b1, b2, b3⟩, b4, bB, bm, b5⟩ := b
  have g1 : I4 (x + 124) 4 = b3 := g1
  have g2 : AbB I4 o bB := g2
  have g3 : AbM I4 o bB bm := g3
  have w4 : ∀ y j, y ≠ x + 124 → (y < o ∨ o + 58 ≤ y) → ¬ (y = x + 1 ∧ j = 1) → I4 y j = I1 y j := fun y j a b d => by rw [o4 y j a b, o3 y j b, q2 y j d]
  have w5 : ∀ y j, y ≠ x + 124 → (y < o ∨ o + 58 ≤ y) → (y < x + 1 ∨ x + 6 ≤ y) → I4 y j = I y j := fun y j a b d => by rw [w4 y j a b (by omega), o1 _ _ (by omega)]
  have cE : AbTp I4 (x + 1) ((0, s.E.2) : Tp) := ⟨by rw [o4 _ _ (by omega) (by omega), o3 _ _ (by omega), q2t]; rfl, Nat.zero_le _, fun i hi => absurd hi (Nat.not_lt_zero i)⟩
  have cB : AbB I4 c s.B := hB.out (fun y j a b => w5 y j (by omega) (by omega) (by omega))
  have cM : AbM I4 c s.B s.m := AbM.out hB hM (fun y j a b => w5 y j (by omega) (by omega) (by omega))
  have cJ : ∀ i, i < 32 → J4 (x + 7) i = K i := fun i hi => ((j4 _ _ (by omega)).trans (j1 _ _ (by omega))).trans (hk i hi)
  have r0' : up2 R (x + 124) 1 (some o) x 0 = some (x + 1) := (up2_a (by omega)).trans r0
  have r1' : up2 R (x + 124) 1 (some o) x 1 = some (x + 3) := (up2_a (by omega)).trans r1
  have r2' : up2 R (x + 124) 1 (some o) x 2 = some (x + 124) := (up2_a (by omega)).trans r2
  have r3' : up2 R (x + 124) 1 (some o) x 3 = some c := (up2_a (by omega)).trans r3
  have r4' : up2 R (x + 124) 1 (some o) x 4 = some o := (up2_a (by omega)).trans r4
  have rr' : up2 R (x + 124) 1 (some o) (x + 124) 0 = some (x + 3) := (up2_j (by decide)).trans rr
  have oR : ∀ y, y ≠ x + 124 → up2 R (x + 124) 1 (some o) y = R y := fun y q => funext fun j => up2_a q
  have hC1 : XC S (up2 R (x + 124) 1 (some o)) x c o := ⟨kx, r0', r1', r2', r3', r4', hco, htp.cg fun j => up2_a (by omega), htc.cg fun j => up2_a (by omega), hct.cg fun y j a b => up2_a (by omega), hot.cg fun y j a b => up2_a (by omega), kr, rr'⟩
  clear hX h0 h4 eT
  generalize up2 R (x + 124) 1 (some o) = R1 at r0' r1' r2' r3' r4' rr' oR hC1 ⊢
  refine am_istore_n (q := 38) (ls1 := [_, _, _]) dX11_teach_37 (Nat.le_of_ble_eq_true rfl) rfl rfl ?_
  refine am_aload_n (q := 39) dX11_teach_38 rfl rfl ?_
  refine am_aload_n (q := 40) dX11_teach_39 rfl rfl ?_
  refine cm_getR (q := 43) dX11_teach_40 flX11_38 rfl (by assumption) (by assumption) rfl ?_
  refine cm_call0 (q := 46) (As := []) hG dX11_teach_43 mlX11_83 rfl (by assumption) ⟨_, _, rfl⟩ (Nat.le_of_ble_eq_true rfl) (Nat.le_of_ble_eq_true rfl) (Nat.le_of_ble_eq_true rfl) (Nat.le_of_ble_eq_true rfl) (k_X7_errorAtByte kr) rfl ?_
  rintro _ _ ⟨rfl, rfl⟩
  rw [g1]
  have w6 : ∀ y j, y ≠ x → up2 I4 x 5 b3 y j = I4 y j := fun y j q => up2_a q
  have w7 : up2 I4 x 5 b3 x 5 = b3 := up2_s
  refine cm_putI (q := 49) dX11_teach_46 flX11_42 rfl (Or.inl rfl) (Or.inl rfl) (by assumption) rfl ?_
  refine am_iload_n (q := 50) dX11_teach_49 rfl rfl ?_
  generalize up2 I4 x 5 b3 = I5 at w6 w7 ⊢
  have wI : ∀ y j, (y < x ∨ x + 125 ≤ y) → I5 y j = I y j := fun y j q => by rw [w6 y j (by omega), w5 y j (by omega) (by omega) (by omega)]
  have wJ : ∀ y j, (y < x ∨ x + 125 ≤ y) → J4 y j = J y j := fun y j q => (j4 _ _ (by omega)).trans (j1 _ _ (by omega))
  refine am_if_ne (tgt := 85) (q := 53) dX11_teach_50 rfl rfl (fun hc => ?_) (fun hc => ?_)
  · rw [if_neg hc]
    refine am_iload_n (q := 86) dX11_teach_85 rfl rfl ?_
    exact am_iret dX11_teach_86 rfl rfl ⟨rfl, I5, J4, R1, rfl, ⟨c, o, hC1, cE.off (w6 _ _ (by omega)) (fun i _ => w6 _ _ (by omega)), cB.out (fun y j a b => w6 _ _ (by omega)), AbM.out cB cM (fun y j a b => w6 _ _ (by omega)), fun i hi => by rw [w6 _ _ (by omega)]; exact g3.2.2.2.2.2.2.2.2.2.2 i hi, w7, cJ⟩, fun y q => ⟨funext fun j => wI y j q, funext fun j => wJ y j q, oR y (by omega)⟩⟩
  · have hz : b1 = b1 ∧ b2 = 0 := ⟨rfl, hc⟩
    rw [if_pos hc]
    clear hc
    have f1 : I5 c 13 = s.m.g 0 := (w6 _ _ (by omega)).trans (cM.2.2.2.1 0 (by decide))
    refine am_aload_n (q := 54) dX11_teach_53 rfl rfl ?_
    refine cm_getR (q := 57) dX11_teach_54 flX11_30 rfl (by assumption) (by assumption) rfl ?_
    refine am_aload_n (q := 58) dX11_teach_57 rfl rfl ?_
    refine cm_getR (q := 61) dX11_teach_58 flX11_26 rfl (by assumption) (by assumption) rfl ?_
    refine cm_getI (q := 64) dX11_teach_61 flX11_87 rfl (by assumption) rfl ?_
    rw [f1]
    have g4 : AbB I5 o bB := g2.out (fun y j a b => w6 _ _ (by omega))
    have g5 : AbM I5 o bB bm := AbM.out g2 g3 (fun y j a b => w6 _ _ (by omega))
    have g6 : AbB (up2 I5 o 13 (s.m.g 0)) o bB := g4.upG (by decide)
    have g7 : AbM (up2 I5 o 13 (s.m.g 0)) o bB (mkMS bm.fist bm.rail bm.prize (up1 bm.g 0 (s.m.g 0)) bm.row bm.bd bm.nb) := AbM.setG g4 g5 (j := 0) (by decide)
    have w8 : ∀ y j, y ≠ o → up2 I5 o 13 (s.m.g 0) y j = I5 y j := fun y j q => up2_a q
    refine cm_putI (q := 67) dX11_teach_64 flX11_87 rfl (Or.inl rfl) (Or.inl rfl) (by assumption) rfl ?_
    generalize up2 I5 o 13 (s.m.g 0) = I6 at g6 g7 w8 ⊢
    refine am_aload_n (q := 68) dX11_teach_67 rfl rfl ?_
    refine cm_getR (q := 71) dX11_teach_68 flX11_26 rfl (by assumption) (by assumption) rfl ?_
    refine am_astore_n (q := 72) (ls1 := [_, _, _]) dX11_teach_71 (Nat.le_of_ble_eq_true rfl) rfl rfl ?_
    refine am_aload_n (q := 73) dX11_teach_72 rfl rfl ?_
    refine am_aload_n (q := 74) dX11_teach_73 rfl rfl ?_
    refine cm_getR (q := 77) dX11_teach_74 flX11_30 rfl (by assumption) (by assumption) rfl ?_
    refine cm_putR (q := 80) dX11_teach_77 flX11_26 rfl (Or.inl rfl) (by assumption) rfl ?_
    have v3 : up2 R1 x 3 (some o) x 3 = some o := up2_s
    have v4 : ∀ y j, (y ≠ x ∨ j ≠ 3) → up2 R1 x 3 (some o) y j = R1 y j := fun y j q => by rw [up2_at, if_neg (by omega)]
    generalize up2 R1 x 3 (some o) = R2 at v3 v4 ⊢
    refine am_aload_n (q := 81) dX11_teach_80 rfl rfl ?_
    refine am_aload_n (q := 82) dX11_teach_81 rfl rfl ?_
    refine cm_putR (q := 85) dX11_teach_82 flX11_30 rfl (Or.inl rfl) (by assumption) rfl ?_
    have u3 : ∀ y j, (y ≠ x ∨ (j ≠ 3 ∧ j ≠ 4)) → up2 R2 x 4 (some c) y j = R1 y j := fun y j q => by rw [up2_at, if_neg (by omega), v4 y j (by omega)]
    have u4 : up2 R2 x 4 (some c) x 3 = some o := by rw [up2_j (by decide)]; exact v3
    have u5 : up2 R2 x 4 (some c) x 4 = some c := up2_s
    generalize up2 R2 x 4 (some c) = R3 at u3 u4 u5 ⊢
    have hC3 : XC S R3 x o c := by
      obtain ⟨_, _, _, _, _, _, _, m8, m9, m10, m11, _, _⟩ := hC1
      exact ⟨kx, (u3 _ _ (by omega)).trans r0', (u3 _ _ (by omega)).trans r1', (u3 _ _ (by omega)).trans r2', u4, u5, by omega, m8.cg fun j => u3 _ _ (by omega), m9.cg fun j => u3 _ _ (by omega), m11.cg fun y j a b => u3 _ _ (by omega), m10.cg fun y j a b => u3 _ _ (by omega), kr, (u3 _ _ (by omega)).trans rr'⟩
    refine am_iload_n (q := 86) dX11_teach_85 rfl rfl ?_
    exact am_iret dX11_teach_86 rfl rfl ⟨rfl, I6, J4, R3, rfl, ⟨o, c, hC3, cE.off ((w8 _ _ (by omega)).trans (w6 _ _ (by omega))) (fun i _ => (w8 _ _ (by omega)).trans (w6 _ _ (by omega))), g6, g7, fun i hi => by rw [w8 _ _ (by omega), w6 _ _ (by omega)]; exact cM.2.2.2.2.2.2.2.2.2.2 i hi, (w8 _ _ (by omega)).trans w7, cJ⟩, fun y q => ⟨funext fun j => (w8 _ _ (by omega)).trans (wI y j q), funext fun j => wJ y j q, funext fun j => by rw [u3 y j (by omega), oR y (by omega)]⟩⟩
end Te

