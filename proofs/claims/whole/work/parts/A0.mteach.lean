theorem dX14_begin_0 : decode cX14_begin 0 = .ok (.aload_n 0, 1) := by decide +kernel
theorem dX14_begin_1 : decode cX14_begin 1 = .ok (.getfield 32, 3) := by decide +kernel
theorem dX14_begin_4 : decode cX14_begin 4 = .ok (.astore_n 1, 1) := by decide +kernel
theorem dX14_begin_5 : decode cX14_begin 5 = .ok (.aload_n 0, 1) := by decide +kernel
theorem dX14_begin_6 : decode cX14_begin 6 = .ok (.aload_n 0, 1) := by decide +kernel
theorem dX14_begin_7 : decode cX14_begin 7 = .ok (.getfield 36, 3) := by decide +kernel
theorem dX14_begin_10 : decode cX14_begin 10 = .ok (.putfield 32, 3) := by decide +kernel
theorem dX14_begin_13 : decode cX14_begin 13 = .ok (.aload_n 0, 1) := by decide +kernel
theorem dX14_begin_14 : decode cX14_begin 14 = .ok (.aload_n 1, 1) := by decide +kernel
theorem dX14_begin_15 : decode cX14_begin 15 = .ok (.putfield 36, 3) := by decide +kernel
theorem dX14_begin_18 : decode cX14_begin 18 = .ok (.aload_n 0, 1) := by decide +kernel
theorem dX14_begin_19 : decode cX14_begin 19 = .ok (.getfield 51, 3) := by decide +kernel
theorem dX14_begin_22 : decode cX14_begin 22 = .ok (.aload_n 0, 1) := by decide +kernel
theorem dX14_begin_23 : decode cX14_begin 23 = .ok (.getfield 32, 3) := by decide +kernel
theorem dX14_begin_26 : decode cX14_begin 26 = .ok (.invokevirtual 263, 3) := by decide +kernel
theorem dX14_begin_29 : decode cX14_begin 29 = .ok (.return_, 1) := by decide +kernel
theorem dX14_teach_36 : decode cX14_teach 36 = .ok (.aload_n 0, 1) := by decide +kernel
theorem dX14_teach_37 : decode cX14_teach 37 = .ok (.invokevirtual 119, 3) := by decide +kernel
theorem dX14_teach_40 : decode cX14_teach 40 = .ok (.ifCond .eq 22, 3) := by decide +kernel
theorem dX14_teach_43 : decode cX14_teach 43 = .ok (.aload_n 0, 1) := by decide +kernel
theorem dX14_teach_44 : decode cX14_teach 44 = .ok (.getfield 17, 3) := by decide +kernel
theorem dX14_teach_47 : decode cX14_teach 47 = .ok (.aload_n 0, 1) := by decide +kernel
theorem dX14_teach_48 : decode cX14_teach 48 = .ok (.getfield 116, 3) := by decide +kernel
theorem dX14_teach_51 : decode cX14_teach 51 = .ok (.iaload, 1) := by decide +kernel
theorem dX14_teach_52 : decode cX14_teach 52 = .ok (.ifCond .eq 10, 3) := by decide +kernel
theorem dX14_teach_55 : decode cX14_teach 55 = .ok (.aload_n 0, 1) := by decide +kernel
theorem dX14_teach_56 : decode cX14_teach 56 = .ok (.invokevirtual 258, 3) := by decide +kernel
theorem dX14_teach_59 : decode cX14_teach 59 = .ok (.goto (-23), 3) := by decide +kernel
/-! the reference is taught -/
section Tc
variable {G : Gp} {S : AMem} {I I1 : Nat → Nat → Int32} {J : Nat → Nat → Int64} {R R1 : Nat → Nat → Option Nat} {y bl nx : Nat} {T : Toks} {b : BL} {a k : Nat} {s : XS} {Q : (Option AV ⊕ Nat) → AMem → Prop}
theorem OffP.rf : OffP y nx I I := fun _ _ _ _ _ => rfl
theorem k_tloop (hG : okG G) (hC : MCc S R y bl nx) : ∀ (n : Nat) (b : BL) (I : Nat → Nat → Int32) (a k : Nat), PL I y nx T b a k → (b.P.2.1 ≠ 1 → T.n ≤ a + n) → (∀ I1 a1 k1, PL I1 y nx T (rdLoop T n b) a1 k1 → OffP y nx I I1 → MW G mX14_teach 406 62 [some (vR y), none, none] [] (mw S I1 J R) Q) → MW G mX14_teach 406 36 [some (vR y), none, none] [] (mw S I J R) Q := by
  have ky := hC.1.1
  obtain ⟨q4, q5, _, _, ⟨k2, l2⟩, ⟨k3, l3⟩, _⟩ := id hC.2.2.2.2.2.2.2.2.2
  have out : ∀ (b : BL) (I : Nat → Nat → Int32) (a k : Nat), PL I y nx T b a k → (b.P.2.1 = 1 ∨ pK T b.P = 256) → MW G mX14_teach 406 62 [some (vR y), none, none] [] (mw S I J R) Q → MW G mX14_teach 406 36 [some (vR y), none, none] [] (mw S I J R) Q := by
    intro b I a k h hc K
    have h13 := h.1.2.1.1
    have ok := k_X14_isOk (G := G) (J := J) hC h.1
    by_cases c : b.P.2.1 = 1
    · rw [show bI (((b.P, b.L) : PS × Cd).1.2.1 ≠ 1) = 0 from bI_f (fun q => q c)] at ok
      clear c hc
      refine am_aload_n (q := 37) dX14_teach_36 rfl rfl ?_
      refine cm_call0 (q := 40) (As := []) hG dX14_teach_37 mlX14_119 rfl (by assumption) ⟨_, _, rfl⟩ (Nat.le_of_ble_eq_true rfl) (Nat.le_of_ble_eq_true rfl) (Nat.le_of_ble_eq_true rfl) (Nat.le_of_ble_eq_true rfl) ok rfl ?_
      rintro _ _ ⟨rfl, rfl⟩
      refine am_if_eq (tgt := 62) (q := 43) dX14_teach_40 rfl rfl (fun _ => ?_) (fun hz => absurd rfl hz)
      exact K
    · rw [show bI (((b.P, b.L) : PS × Cd).1.2.1 ≠ 1) = 1 from bI_t c] at ok
      have c2 := hc.resolve_left c
      obtain ⟨e1, e2, e3⟩ := h.1.kind c
      obtain ⟨i2, i3, sr, ca⟩ := h.1.sort hC e2
      have iff := srt_one (w := 0) (q0 := 256) sr (Or.inr (Or.inr (Or.inl ⟨rfl, rfl⟩)))
      have z : I (y + 2) a = 0 := iff.mpr (e1.symm.trans c2)
      clear c hc c2 e1 e3 sr iff
      refine am_aload_n (q := 37) dX14_teach_36 rfl rfl ?_
      refine cm_call0 (q := 40) (As := []) hG dX14_teach_37 mlX14_119 rfl (by assumption) ⟨_, _, rfl⟩ (Nat.le_of_ble_eq_true rfl) (Nat.le_of_ble_eq_true rfl) (Nat.le_of_ble_eq_true rfl) (Nat.le_of_ble_eq_true rfl) ok rfl ?_
      rintro _ _ ⟨rfl, rfl⟩
      refine am_if_eq (tgt := 62) (q := 43) dX14_teach_40 rfl rfl (fun hz => absurd hz (by decide)) (fun _ => ?_)
      refine am_aload_n (q := 44) dX14_teach_43 rfl rfl ?_
      refine cm_getR (q := 47) dX14_teach_44 flX14_17 rfl (by assumption) (by assumption) rfl ?_
      refine am_aload_n (q := 48) dX14_teach_47 rfl rfl ?_
      refine cm_getI (q := 51) dX14_teach_48 flX14_116 rfl (by assumption) rfl ?_
      rw [h13]
      refine cm_iaload (q := 52) dX14_teach_51 (by assumption) i2 rfl ?_
      rw [ca, z]
      refine am_if_eq (tgt := 62) (q := 55) dX14_teach_52 rfl rfl (fun _ => ?_) (fun hz => absurd rfl hz)
      exact K
  intro n
  induction n with
  | zero =>
    intro b I a k h hn K
    have c : b.P.2.1 = 1 := Classical.byContradiction fun q => by
      obtain ⟨_, e2, _⟩ := h.1.kind q
      have := hn q
      omega
    exact out b I a k h (Or.inl c) (K I a k h OffP.rf)
  | succ n ih =>
    intro b I a k h hn K
    by_cases c : b.P.2.1 = 1 ∨ pK T b.P = 256
    · refine out b I a k h c (K I a k ?_ OffP.rf)
      unfold rdLoop
      rw [if_pos c]
      exact h
    · have c1 : b.P.2.1 ≠ 1 := fun q => c (Or.inl q)
      have h13 := h.1.2.1.1
      have ok := k_X14_isOk (G := G) (J := J) hC h.1
      rw [show bI (((b.P, b.L) : PS × Cd).1.2.1 ≠ 1) = 1 from bI_t c1] at ok
      obtain ⟨e1, e2, e3⟩ := h.1.kind c1
      obtain ⟨i2, i3, sr, ca⟩ := h.1.sort hC e2
      have iff := srt_one (w := 0) (q0 := 256) sr (Or.inr (Or.inr (Or.inl ⟨rfl, rfl⟩)))
      have z : ¬ I (y + 2) a = 0 := fun q => c (Or.inr (e1.trans (iff.mp q)))
      have ln := k_X14_line (J := J) hG hC h c1
      have en : rdLoop T (n + 1) b = rdLoop T n (rdNext T b) := by
        rw [rdLoop, if_neg c]
      rw [en] at K
      have hn1 := hn c1
      clear c c1 e1 e3 sr iff en out hn h
      generalize rdNext T b = b1 at ln K
      refine am_aload_n (q := 37) dX14_teach_36 rfl rfl ?_
      refine cm_call0 (q := 40) (As := []) hG dX14_teach_37 mlX14_119 rfl (by assumption) ⟨_, _, rfl⟩ (Nat.le_of_ble_eq_true rfl) (Nat.le_of_ble_eq_true rfl) (Nat.le_of_ble_eq_true rfl) (Nat.le_of_ble_eq_true rfl) ok rfl ?_
      rintro _ _ ⟨rfl, rfl⟩
      refine am_if_eq (tgt := 62) (q := 43) dX14_teach_40 rfl rfl (fun hz => absurd hz (by decide)) (fun _ => ?_)
      refine am_aload_n (q := 44) dX14_teach_43 rfl rfl ?_
      refine cm_getR (q := 47) dX14_teach_44 flX14_17 rfl (by assumption) (by assumption) rfl ?_
      refine am_aload_n (q := 48) dX14_teach_47 rfl rfl ?_
      refine cm_getI (q := 51) dX14_teach_48 flX14_116 rfl (by assumption) rfl ?_
      rw [h13]
      refine cm_iaload (q := 52) dX14_teach_51 (by assumption) i2 rfl ?_
      rw [ca]
      refine am_if_eq (tgt := 62) (q := 55) dX14_teach_52 rfl rfl (fun hz => absurd hz z) (fun _ => ?_)
      refine am_aload_n (q := 56) dX14_teach_55 rfl rfl ?_
      refine cm_call0 (q := 59) (As := []) hG dX14_teach_56 mlX14_258 rfl (by assumption) ⟨_, _, rfl⟩ (Nat.le_of_ble_eq_true rfl) (Nat.le_of_ble_eq_true rfl) (Nat.le_of_ble_eq_true rfl) (Nat.le_of_ble_eq_true rfl) ln rfl ?_
      rintro _ _ ⟨rfl, I2, a2, k2, rfl, g1, g2, g3⟩
      refine am_goto (tgt := 36) dX14_teach_59 rfl ?_
      exact ih b1 I2 a2 k2 g1 (fun q => by have := g2 q; omega) (fun I3 a3 k3 x1 x2 => K I3 a3 k3 x1 (g3.tr x2))
/-- the bill that was read counts from now on -/
def swR (R : Nat → Nat → Option Nat) (y bl nx : Nat) : Nat → Nat → Option Nat := up2 (up2 R y 8 (some nx)) y 9 (some bl)
theorem swR_o {x j : Nat} (h : x ≠ y ∨ (j ≠ 8 ∧ j ≠ 9)) : swR R y bl nx x j = R x j := by
  unfold swR
  rw [up2_at, if_neg (by omega), up2_at, if_neg (by omega)]
theorem BCc.cg {q : Nat} (h : BCc S R q) (e : R1 q = R q) : BCc S R1 q := by
  unfold BCc
  rw [e]
  exact h
theorem SCc.cg {q : Nat} (h : SCc S R q) (e : R1 q = R q) : SCc S R1 q := by
  unfold SCc
  rw [e]
  exact h
theorem MCc.sw (hC : MCc S R y bl nx) : MCc S (swR R y bl nx) y nx bl := by
  obtain ⟨p1, p2, p3, p4, p5⟩ := hC.lo
  obtain ⟨⟨m1, m2, m3⟩, ⟨t1, t2, t3⟩, e18, e19, s1, s2, e9, hc, b1, mp⟩ := hC
  obtain ⟨x1, x2, x3, x4, x5, x6, x7, x8, x9, x10, x11, x12⟩ := mp
  have o : ∀ x, x ≠ y → swR R y bl nx x = R x := fun x h => funext fun j => swR_o (Or.inl h)
  refine ⟨⟨m1, ?_, b1.cg (o _ (by omega))⟩, ⟨(swR_o (Or.inr (by omega))).trans t1, t2, t3⟩, (swR_o (Or.inr (by omega))).trans e18, (swR_o (Or.inr (by omega))).trans e19, s1.cg (o _ (by omega)), s2.cg (o _ (by omega)), ?_, by omega, m3.cg (o _ (by omega)), (swR_o (Or.inr (by omega))).trans x1, (swR_o (Or.inr (by omega))).trans x2, (swR_o (Or.inr (by omega))).trans x3, (swR_o (Or.inr (by omega))).trans x4, x5, x6, x7, x8, (swR_o (Or.inr (by omega))).trans x9, (swR_o (Or.inr (by omega))).trans x10, (swR_o (Or.inr (by omega))).trans x11, x12⟩
  · unfold swR
    rw [up2_j (by decide), up2_s]
  · unfold swR
    rw [up2_s]
theorem k_X14_begin {B : BS} {m : MS} {u : Nat} (hG : okG G) (hC : MCc S R y bl nx) (h : RBx I nx B m u) : Fn G mX14_begin 1 [vR y] (mw S I J R) (fun rr M1 => rr = none ∧ ∃ I1, M1 = mw S I1 J (swR R y bl nx) ∧ RS I1 (y + 27) B (mkMS m.fist m.rail m.prize (up1 m.g 0 (I (y + 27) 0)) m.row m.bd m.nb) ∧ ∀ x j, (x < y + 27 ∨ y + 33 ≤ x) → I1 x j = I x j) := by
  have ky := hC.1.1
  have r8 := hC.1.2.1
  have r9 := hC.2.2.2.2.2.2.1
  obtain ⟨p1, p2, p3, p4, p5⟩ := hC.lo
  have hC2 := hC.sw
  have r18 : swR R y bl nx y 18 = some (y + 27) := hC2.2.2.1
  have r8' : swR R y bl nx y 8 = some nx := hC2.1.2.1
  have kz := hC2.2.2.2.2.1.1
  have bg := k_X13_begin (G := G) (J := J) (z := y + 27) (nx := nx) hC2.2.2.2.2.1 hC2.1.2.2 (by omega) h
  have r8b : up2 R y 8 (some nx) y 18 = some (y + 27) := (up2_j (by decide)).trans hC.2.2.1
  refine am_aload_n (q := 1) dX14_begin_0 rfl rfl ?_
  refine cm_getR (q := 4) dX14_begin_1 flX14_32 rfl (by assumption) (by assumption) rfl ?_
  refine am_astore_n (q := 5) (ls1 := [_, _]) dX14_begin_4 (Nat.le_of_ble_eq_true rfl) rfl rfl ?_
  refine am_aload_n (q := 6) dX14_begin_5 rfl rfl ?_
  refine am_aload_n (q := 7) dX14_begin_6 rfl rfl ?_
  refine cm_getR (q := 10) dX14_begin_7 flX14_36 rfl (by assumption) (by assumption) rfl ?_
  refine cm_putR (q := 13) dX14_begin_10 flX14_32 rfl (Or.inl rfl) (by assumption) rfl ?_
  refine am_aload_n (q := 14) dX14_begin_13 rfl rfl ?_
  refine am_aload_n (q := 15) dX14_begin_14 rfl rfl ?_
  refine cm_putR (q := 18) dX14_begin_15 flX14_36 rfl (Or.inl rfl) (by assumption) rfl ?_
  refine MW.weaken (Q := fun f M1 => ∃ r, f = .inl r ∧ (r = none ∧ ∃ I1, M1 = mw S I1 J (swR R y bl nx) ∧ RS I1 (y + 27) B (mkMS m.fist m.rail m.prize (up1 m.g 0 (I (y + 27) 0)) m.row m.bd m.nb) ∧ ∀ x j, (x < y + 27 ∨ y + 33 ≤ x) → I1 x j = I x j)) (?_ : MW G mX14_begin 1 18 _ [] (mw S I J (swR R y bl nx)) _) (fun f M1 q => q)
  refine am_aload_n (q := 19) dX14_begin_18 rfl rfl ?_
  refine cm_getR (q := 22) dX14_begin_19 flX14_51 rfl (by assumption) (by assumption) rfl ?_
  refine am_aload_n (q := 23) dX14_begin_22 rfl rfl ?_
  refine cm_getR (q := 26) dX14_begin_23 flX14_32 rfl (by assumption) (by assumption) rfl ?_
  refine cm_call0 (q := 29) (As := [_]) hG dX14_begin_26 mlX14_263 rfl (by assumption) ⟨_, _, rfl⟩ (Nat.le_of_ble_eq_true rfl) (Nat.le_of_ble_eq_true rfl) (Nat.le_of_ble_eq_true rfl) (Nat.le_of_ble_eq_true rfl) bg rfl ?_
  rintro _ _ ⟨rfl, I1, rfl, g1, g2⟩
  exact am_ret dX14_begin_29 rfl ⟨_, rfl, rfl, I1, rfl, g1, g2⟩
end Tc

