theorem dX14_elbowsAt_0 : decode cX14_elbowsAt 0 = .ok (.aload_n 1, 1) := by decide +kernel
theorem dX14_elbowsAt_1 : decode cX14_elbowsAt 1 = .ok (.getfield 283, 3) := by decide +kernel
theorem dX14_elbowsAt_4 : decode cX14_elbowsAt 4 = .ok (.bipush 7, 2) := by decide +kernel
theorem dX14_elbowsAt_6 : decode cX14_elbowsAt 6 = .ok (.aload_n 0, 1) := by decide +kernel
theorem dX14_elbowsAt_7 : decode cX14_elbowsAt 7 = .ok (.getfield 32, 3) := by decide +kernel
theorem dX14_elbowsAt_10 : decode cX14_elbowsAt 10 = .ok (.getfield 249, 3) := by decide +kernel
theorem dX14_elbowsAt_13 : decode cX14_elbowsAt 13 = .ok (.iconst 3, 1) := by decide +kernel
theorem dX14_elbowsAt_14 : decode cX14_elbowsAt 14 = .ok (.aload_n 1, 1) := by decide +kernel
theorem dX14_elbowsAt_15 : decode cX14_elbowsAt 15 = .ok (.getfield 343, 3) := by decide +kernel
theorem dX14_elbowsAt_18 : decode cX14_elbowsAt 18 = .ok (.iload_n 2, 1) := by decide +kernel
theorem dX14_elbowsAt_19 : decode cX14_elbowsAt 19 = .ok (.iaload, 1) := by decide +kernel
theorem dX14_elbowsAt_20 : decode cX14_elbowsAt 20 = .ok (.imul, 1) := by decide +kernel
theorem dX14_elbowsAt_21 : decode cX14_elbowsAt 21 = .ok (.iaload, 1) := by decide +kernel
theorem dX14_elbowsAt_22 : decode cX14_elbowsAt 22 = .ok (.imul, 1) := by decide +kernel
theorem dX14_elbowsAt_23 : decode cX14_elbowsAt 23 = .ok (.iaload, 1) := by decide +kernel
theorem dX14_elbowsAt_24 : decode cX14_elbowsAt 24 = .ok (.ireturn, 1) := by decide +kernel
theorem dX14_given_0 : decode cX14_given 0 = .ok (.iconst 0, 1) := by decide +kernel
theorem dX14_given_1 : decode cX14_given 1 = .ok (.istore_n 2, 1) := by decide +kernel
theorem dX14_given_2 : decode cX14_given 2 = .ok (.iconst 0, 1) := by decide +kernel
theorem dX14_given_3 : decode cX14_given 3 = .ok (.istore_n 3, 1) := by decide +kernel
theorem dX14_given_4 : decode cX14_given 4 = .ok (.iload_n 3, 1) := by decide +kernel
theorem dX14_given_5 : decode cX14_given 5 = .ok (.aload_n 0, 1) := by decide +kernel
theorem dX14_given_6 : decode cX14_given 6 = .ok (.getfield 32, 3) := by decide +kernel
theorem dX14_given_9 : decode cX14_given 9 = .ok (.getfield 180, 3) := by decide +kernel
theorem dX14_given_12 : decode cX14_given 12 = .ok (.if_icmp .ge 22, 3) := by decide +kernel
theorem dX14_given_15 : decode cX14_given 15 = .ok (.iload_n 2, 1) := by decide +kernel
theorem dX14_given_16 : decode cX14_given 16 = .ok (.aload_n 1, 1) := by decide +kernel
theorem dX14_given_17 : decode cX14_given 17 = .ok (.getfield 285, 3) := by decide +kernel
theorem dX14_given_20 : decode cX14_given 20 = .ok (.iconst 2, 1) := by decide +kernel
theorem dX14_given_21 : decode cX14_given 21 = .ok (.iload_n 3, 1) := by decide +kernel
theorem dX14_given_22 : decode cX14_given 22 = .ok (.imul, 1) := by decide +kernel
theorem dX14_given_23 : decode cX14_given 23 = .ok (.iconst 1, 1) := by decide +kernel
theorem dX14_given_24 : decode cX14_given 24 = .ok (.iadd, 1) := by decide +kernel
theorem dX14_given_25 : decode cX14_given 25 = .ok (.iaload, 1) := by decide +kernel
theorem dX14_given_26 : decode cX14_given 26 = .ok (.iadd, 1) := by decide +kernel
theorem dX14_given_27 : decode cX14_given 27 = .ok (.istore_n 2, 1) := by decide +kernel
theorem dX14_given_28 : decode cX14_given 28 = .ok (.iinc 3 1, 3) := by decide +kernel
theorem dX14_given_31 : decode cX14_given 31 = .ok (.goto (-27), 3) := by decide +kernel
theorem dX14_given_34 : decode cX14_given 34 = .ok (.iload_n 2, 1) := by decide +kernel
theorem dX14_given_35 : decode cX14_given 35 = .ok (.ireturn, 1) := by decide +kernel
theorem dX14_isOn_0 : decode cX14_isOn 0 = .ok (.aload_n 0, 1) := by decide +kernel
theorem dX14_isOn_1 : decode cX14_isOn 1 = .ok (.getfield 32, 3) := by decide +kernel
theorem dX14_isOn_4 : decode cX14_isOn 4 = .ok (.getfield 249, 3) := by decide +kernel
theorem dX14_isOn_7 : decode cX14_isOn 7 = .ok (.iconst 3, 1) := by decide +kernel
theorem dX14_isOn_8 : decode cX14_isOn 8 = .ok (.iload_n 2, 1) := by decide +kernel
theorem dX14_isOn_9 : decode cX14_isOn 9 = .ok (.imul, 1) := by decide +kernel
theorem dX14_isOn_10 : decode cX14_isOn 10 = .ok (.iconst 2, 1) := by decide +kernel
theorem dX14_isOn_11 : decode cX14_isOn 11 = .ok (.iadd, 1) := by decide +kernel
theorem dX14_isOn_12 : decode cX14_isOn 12 = .ok (.iaload, 1) := by decide +kernel
theorem dX14_isOn_13 : decode cX14_isOn 13 = .ok (.iconst (-1), 1) := by decide +kernel
theorem dX14_isOn_14 : decode cX14_isOn 14 = .ok (.if_icmp .eq 24, 3) := by decide +kernel
theorem dX14_isOn_17 : decode cX14_isOn 17 = .ok (.aload_n 0, 1) := by decide +kernel
theorem dX14_isOn_18 : decode cX14_isOn 18 = .ok (.aload_n 1, 1) := by decide +kernel
theorem dX14_isOn_19 : decode cX14_isOn 19 = .ok (.aload_n 0, 1) := by decide +kernel
theorem dX14_isOn_20 : decode cX14_isOn 20 = .ok (.getfield 32, 3) := by decide +kernel
theorem dX14_isOn_23 : decode cX14_isOn 23 = .ok (.getfield 249, 3) := by decide +kernel
theorem dX14_isOn_26 : decode cX14_isOn 26 = .ok (.iconst 3, 1) := by decide +kernel
theorem dX14_isOn_27 : decode cX14_isOn 27 = .ok (.iload_n 2, 1) := by decide +kernel
theorem dX14_isOn_28 : decode cX14_isOn 28 = .ok (.imul, 1) := by decide +kernel
theorem dX14_isOn_29 : decode cX14_isOn 29 = .ok (.iconst 2, 1) := by decide +kernel
theorem dX14_isOn_30 : decode cX14_isOn 30 = .ok (.iadd, 1) := by decide +kernel
theorem dX14_isOn_31 : decode cX14_isOn 31 = .ok (.iaload, 1) := by decide +kernel
theorem dX14_isOn_32 : decode cX14_isOn 32 = .ok (.invokevirtual 301, 3) := by decide +kernel
theorem dX14_isOn_35 : decode cX14_isOn 35 = .ok (.ifCond .eq 7, 3) := by decide +kernel
theorem dX14_isOn_38 : decode cX14_isOn 38 = .ok (.iconst 1, 1) := by decide +kernel
theorem dX14_isOn_39 : decode cX14_isOn 39 = .ok (.goto 4, 3) := by decide +kernel
theorem dX14_isOn_42 : decode cX14_isOn 42 = .ok (.iconst 0, 1) := by decide +kernel
theorem dX14_isOn_43 : decode cX14_isOn 43 = .ok (.ireturn, 1) := by decide +kernel
theorem dX14_purses_0 : decode cX14_purses 0 = .ok (.iconst 0, 1) := by decide +kernel
theorem dX14_purses_1 : decode cX14_purses 1 = .ok (.istore_n 2, 1) := by decide +kernel
theorem dX14_purses_2 : decode cX14_purses 2 = .ok (.iconst 0, 1) := by decide +kernel
theorem dX14_purses_3 : decode cX14_purses 3 = .ok (.istore_n 3, 1) := by decide +kernel
theorem dX14_purses_4 : decode cX14_purses 4 = .ok (.iload_n 3, 1) := by decide +kernel
theorem dX14_purses_5 : decode cX14_purses 5 = .ok (.aload_n 0, 1) := by decide +kernel
theorem dX14_purses_6 : decode cX14_purses 6 = .ok (.getfield 32, 3) := by decide +kernel
theorem dX14_purses_9 : decode cX14_purses 9 = .ok (.getfield 170, 3) := by decide +kernel
theorem dX14_purses_12 : decode cX14_purses 12 = .ok (.if_icmp .ge 23, 3) := by decide +kernel
theorem dX14_purses_15 : decode cX14_purses 15 = .ok (.iload_n 2, 1) := by decide +kernel
theorem dX14_purses_16 : decode cX14_purses 16 = .ok (.aload_n 1, 1) := by decide +kernel
theorem dX14_purses_17 : decode cX14_purses 17 = .ok (.getfield 283, 3) := by decide +kernel
theorem dX14_purses_20 : decode cX14_purses 20 = .ok (.bipush 7, 2) := by decide +kernel
theorem dX14_purses_22 : decode cX14_purses 22 = .ok (.iload_n 3, 1) := by decide +kernel
theorem dX14_purses_23 : decode cX14_purses 23 = .ok (.imul, 1) := by decide +kernel
theorem dX14_purses_24 : decode cX14_purses 24 = .ok (.iconst 2, 1) := by decide +kernel
theorem dX14_purses_25 : decode cX14_purses 25 = .ok (.iadd, 1) := by decide +kernel
theorem dX14_purses_26 : decode cX14_purses 26 = .ok (.iaload, 1) := by decide +kernel
theorem dX14_purses_27 : decode cX14_purses 27 = .ok (.iadd, 1) := by decide +kernel
theorem dX14_purses_28 : decode cX14_purses 28 = .ok (.istore_n 2, 1) := by decide +kernel
theorem dX14_purses_29 : decode cX14_purses 29 = .ok (.iinc 3 1, 3) := by decide +kernel
theorem dX14_purses_32 : decode cX14_purses 32 = .ok (.goto (-28), 3) := by decide +kernel
theorem dX14_purses_35 : decode cX14_purses 35 = .ok (.iload_n 2, 1) := by decide +kernel
theorem dX14_purses_36 : decode cX14_purses 36 = .ok (.ireturn, 1) := by decide +kernel
/-! the reference's rounds -/
def Sst (m m1 : MS) : Prop := (∀ i, m1.fist i 0 = m.fist i 0 ∧ m1.fist i 1 = m.fist i 1) ∧ ∀ i, m1.rail i 0 = m.rail i 0 ∧ m1.rail i 1 = m.rail i 1
theorem Sst.rf {m : MS} : Sst m m := ⟨fun _ => ⟨rfl, rfl⟩, fun _ => ⟨rfl, rfl⟩⟩
theorem Sst.tr {m m1 m2 : MS} (h1 : Sst m m1) (h2 : Sst m1 m2) : Sst m m2 := ⟨fun i => ⟨(h2.1 i).1.trans (h1.1 i).1, (h2.1 i).2.trans (h1.1 i).2⟩, fun i => ⟨(h2.2 i).1.trans (h1.2 i).1, (h2.2 i).2.trans (h1.2 i).2⟩⟩
theorem RB.st {I I1 : Nat → Nat → Int32} {bl : Nat} {B : BS} {m m1 : MS} (h : RB I bl B m) (fr : ∀ x j, bl ≤ x → x < bl + 9 → I1 x j = I x j) (s : Sst m m1) : RB I1 bl B m1 := h.mv fr (fun i _ => s.1 i) (fun i _ => s.2 i)
theorem hitM_st {B : BS} {m : MS} {f r : Nat} : Sst m (hitM B m f r) := by
  have h1 : Sst m (stkM B m f r) := ⟨fun i => ⟨ite_self _, ite_self _⟩, fun i => ⟨ite_self _, ite_self _⟩⟩
  refine h1.tr ?_
  have hh : hitM B m f r = givM B (stkM B m f r) f := rfl
  rw [hh]
  generalize stkM B m f r = m1
  cases h : fpM B m1 0 B.nP with
  | none => rw [givM_none h]; exact Sst.rf
  | some k =>
    rw [givM_some h]
    refine ⟨fun i => ⟨?_, ?_⟩, fun i => ⟨rfl, rfl⟩⟩
    · show up2 m1.fist f 4 _ i 0 = _
      rw [up2_at, if_neg (by omega)]
    · show up2 m1.fist f 4 _ i 1 = _
      rw [up2_at, if_neg (by omega)]
theorem rstM_st {m : MS} {n : Nat} : Sst m (rstM m n) := ⟨fun i => ⟨ite_self _, ite_self _⟩, fun i => ⟨rfl, rfl⟩⟩
section Mo
variable {G : Gp} {S : AMem} {I : Nat → Nat → Int32} {J : Nat → Nat → Int64} {R : Nat → Nat → Option Nat} {y bl z : Nat} {B : BS} {m : MS}
theorem k_X14_isOn {t : Nat} (hG : okG G) (hM : MCb S R y bl) (hS : SCc S R z) (hB : RB I bl B m) (hs : RS I z B m) (ht : t < B.nT) : Fn G mX14_isOn 402 [vR y, vR z, vI (nI t)] (mw S I J R) (fun rr M1 => rr = some (vI (dueI B m t)) ∧ M1 = mw S I J R) := by
  have hM0 := hM
  obtain ⟨ky, ry, kb, b5, b6, b7, b8, b9, b11, b12, b13, _, _, _, _, ⟨k5, l5⟩, _⟩ := hM
  obtain ⟨⟨⟨a1, a2⟩, ⟨a3, a4⟩, ⟨a5, a6⟩, a7, a8⟩, _, _, _, _, htt⟩ := id hB
  obtain ⟨_, _, _, _, h5⟩ := htt t ht
  have e : (3 * nI t + 2 : Int32) = nI (3 * t + 2) := k_lin 3 t 2
  have i0 : vp_in (nI (3 * t + 2)) (S.ln (bl + 5)) := by rw [l5]; exact vp_in_nI (by omega) (by decide)
  refine am_aload_n (q := 1) dX14_isOn_0 rfl rfl ?_
  refine cm_getR (q := 4) dX14_isOn_1 flX14_32 rfl (by assumption) (by assumption) rfl ?_
  refine cm_getR (q := 7) dX14_isOn_4 flX14_249 rfl (by assumption) (by assumption) rfl ?_
  refine am_iconst (q := 8) (v := 3) dX14_isOn_7 kc_i3 rfl ?_
  refine am_iload_n (q := 9) dX14_isOn_8 rfl rfl ?_
  refine am_imul (q := 10) dX14_isOn_9 rfl ?_
  refine am_iconst (q := 11) (v := 2) dX14_isOn_10 kc_i2 rfl ?_
  refine am_iadd (q := 12) dX14_isOn_11 rfl ?_
  rw [e]
  refine cm_iaload (q := 13) dX14_isOn_12 (by assumption) i0 rfl ?_
  rw [nI_clamp (show 3 * t + 2 < 2 ^ 31 by omega)]
  have ed : ∀ s, B.tt t = s → (dueM B m t ↔ (match s with | none => True | some s => s (rdM B m) ≠ 0)) := fun s hs => by
    unfold dueM
    rw [hs]
    cases s <;> exact Iff.rfl
  cases hh : B.tt t with
  | none =>
    rw [hh] at h5
    have hd : dueI B m t = 1 := if_pos ((ed _ hh).mpr trivial)
    rw [h5, hd]
    refine am_iconst (q := 14) (v := (-1)) dX14_isOn_13 kc_im1 rfl ?_
    refine am_icmp_eq (tgt := 38) (q := 17) dX14_isOn_14 rfl rfl (fun _ => ?_) (fun hz => absurd rfl hz)
    refine am_iconst (q := 39) (v := 1) dX14_isOn_38 kc_i1 rfl ?_
    refine am_goto (tgt := 43) dX14_isOn_39 rfl ?_
    exact am_iret dX14_isOn_43 rfl rfl ⟨_, rfl, rfl, rfl⟩
  | some s =>
    rw [hh] at h5
    obtain ⟨n, n1, n2, n3⟩ := h5
    rw [n1]
    refine am_iconst (q := 14) (v := (-1)) dX14_isOn_13 kc_im1 rfl ?_
    refine am_icmp_eq (tgt := 38) (q := 17) dX14_isOn_14 rfl rfl (fun hz => absurd hz (fun q => by have := nI_pos (n := n) (by omega); rw [q] at this; exact this (by decide))) (fun _ => ?_)
    refine am_aload_n (q := 18) dX14_isOn_17 rfl rfl ?_
    refine am_aload_n (q := 19) dX14_isOn_18 rfl rfl ?_
    refine am_aload_n (q := 20) dX14_isOn_19 rfl rfl ?_
    refine cm_getR (q := 23) dX14_isOn_20 flX14_32 rfl (by assumption) (by assumption) rfl ?_
    refine cm_getR (q := 26) dX14_isOn_23 flX14_249 rfl (by assumption) (by assumption) rfl ?_
    refine am_iconst (q := 27) (v := 3) dX14_isOn_26 kc_i3 rfl ?_
    refine am_iload_n (q := 28) dX14_isOn_27 rfl rfl ?_
    refine am_imul (q := 29) dX14_isOn_28 rfl ?_
    refine am_iconst (q := 30) (v := 2) dX14_isOn_29 kc_i2 rfl ?_
    refine am_iadd (q := 31) dX14_isOn_30 rfl ?_
    rw [e]
    refine cm_iaload (q := 32) dX14_isOn_31 (by assumption) i0 rfl ?_
    rw [nI_clamp (show 3 * t + 2 < 2 ^ 31 by omega), n1]
    refine cm_call0 (q := 35) (As := [_, _]) hG dX14_isOn_32 mlX14_301 rfl (by assumption) ⟨_, _, rfl⟩ (Nat.le_of_ble_eq_true rfl) (Nat.le_of_ble_eq_true rfl) (Nat.le_of_ble_eq_true rfl) (Nat.le_of_ble_eq_true rfl) (MW.deep (d := n + 1) (by omega) (k_X14_holds hG hM0 hS a4 a2 a6 hs (n + 1) n s n3 n2) : Fn G mX14_holds 401 _ _ _) rfl ?_
    rintro _ _ ⟨rfl, rfl⟩
    by_cases hv : s (rdM B m) = 0
    · have hd : dueI B m t = 0 := if_neg (fun q => (ed _ hh).mp q hv)
      rw [hd]
      refine am_if_eq (tgt := 42) (q := 38) dX14_isOn_35 rfl rfl (fun _ => ?_) (fun hz => absurd hv hz)
      refine am_iconst (q := 43) (v := 0) dX14_isOn_42 kc_i0 rfl ?_
      exact am_iret dX14_isOn_43 rfl rfl ⟨_, rfl, rfl, rfl⟩
    · have hd : dueI B m t = 1 := if_pos ((ed _ hh).mpr hv)
      rw [hd]
      refine am_if_eq (tgt := 42) (q := 38) dX14_isOn_35 rfl rfl (fun hz => absurd hz hv) (fun _ => ?_)
      refine am_iconst (q := 39) (v := 1) dX14_isOn_38 kc_i1 rfl ?_
      refine am_goto (tgt := 43) dX14_isOn_39 rfl ?_
      exact am_iret dX14_isOn_43 rfl rfl ⟨_, rfl, rfl, rfl⟩
theorem k_X14_elbowsAt {k : Nat} (hM : MCb S R y bl) (hS : SCc S R z) (hB : RB I bl B m) {m1 : MS} (hs : RS I z B m1) (hk : k < B.nT) : Fn G mX14_elbowsAt 1 [vR y, vR z, vI (nI k)] (mw S I J R) (fun rr M1 => rr = some (vI (m1.fist (B.tF (m1.row k)) 2)) ∧ M1 = mw S I J R) := by
  obtain ⟨ky, ry, kb, b5, b6, b7, b8, b9, b11, b12, b13, _, _, _, _, ⟨k5, l5⟩, _⟩ := hM
  obtain ⟨kz, z6, z7, z8, z9, z10, ⟨kz1, lz1⟩, ⟨kz2, lz2⟩, ⟨kz3, lz3⟩, ⟨kz4, lz4⟩, kz5, lz5⟩ := hS
  obtain ⟨⟨⟨a1, a2⟩, ⟨a3, a4⟩, ⟨a5, a6⟩, a7, a8⟩, _, _, _, _, htt⟩ := id hB
  obtain ⟨_, _, _, hfi, _, _, hro⟩ := hs
  obtain ⟨r1, r2⟩ := hro k hk
  obtain ⟨t1, t2, _⟩ := htt _ r2
  refine am_aload_n (q := 1) dX14_elbowsAt_0 rfl rfl ?_
  refine cm_getR (q := 4) dX14_elbowsAt_1 flX14_283 rfl (by assumption) (by assumption) rfl ?_
  refine am_bipush (q := 6) (v := 7) dX14_elbowsAt_4 kc_b7 rfl ?_
  refine am_aload_n (q := 7) dX14_elbowsAt_6 rfl rfl ?_
  refine cm_getR (q := 10) dX14_elbowsAt_7 flX14_32 rfl (by assumption) (by assumption) rfl ?_
  refine cm_getR (q := 13) dX14_elbowsAt_10 flX14_249 rfl (by assumption) (by assumption) rfl ?_
  refine am_iconst (q := 14) (v := 3) dX14_elbowsAt_13 kc_i3 rfl ?_
  refine am_aload_n (q := 15) dX14_elbowsAt_14 rfl rfl ?_
  refine cm_getR (q := 18) dX14_elbowsAt_15 flX14_343 rfl (by assumption) (by assumption) rfl ?_
  refine am_iload_n (q := 19) dX14_elbowsAt_18 rfl rfl ?_
  refine cm_iaload (q := 20) dX14_elbowsAt_19 (by assumption) (by rw [lz5]; exact vp_in_nI (by omega) (by decide)) rfl ?_
  rw [nI_clamp (show k < 2 ^ 31 by omega), r1]
  refine am_imul (q := 21) dX14_elbowsAt_20 rfl ?_
  rw [show (3 * nI (m1.row k) : Int32) = nI (3 * m1.row k) from k_mul 3 _]
  refine cm_iaload (q := 22) dX14_elbowsAt_21 (by assumption) (by rw [l5]; exact vp_in_nI (by omega) (by decide)) rfl ?_
  rw [nI_clamp (show 3 * m1.row k < 2 ^ 31 by omega), t1]
  refine am_imul (q := 23) dX14_elbowsAt_22 rfl ?_
  rw [show (7 * nI (B.tF (m1.row k)) : Int32) = nI (7 * B.tF (m1.row k) + 0) from k_mul 7 _]
  refine cm_iaload (q := 24) dX14_elbowsAt_23 (by assumption) (by rw [lz3]; exact vp_in_nI (by omega) (by decide)) rfl ?_
  rw [nI_clamp (show 7 * B.tF (m1.row k) + 0 < 2 ^ 31 by omega), hfi _ t2 0 (by decide)]
  exact am_iret dX14_elbowsAt_24 rfl rfl ⟨_, rfl, rfl, rfl⟩
theorem k_X14_given (hM : MCb S R y bl) (hS : SCc S R z) (hB : RB I bl B m) {m1 : MS} (hs : RS I z B m1) : Fn G mX14_given 0 [vR y, vR z] (mw S I J R) (fun rr M1 => rr = some (vI (gvnM B m1)) ∧ M1 = mw S I J R) := by
  obtain ⟨ky, ry, kb, _⟩ := hM
  obtain ⟨kz, z6, z7, z8, z9, z10, ⟨kz1, lz1⟩, ⟨kz2, lz2⟩, ⟨kz3, lz3⟩, ⟨kz4, lz4⟩, kz5, lz5⟩ := hS
  obtain ⟨⟨⟨a1, a2⟩, ⟨a3, a4⟩, ⟨a5, a6⟩, a7, a8⟩, _⟩ := id hB
  obtain ⟨_, _, _, _, hpr, _⟩ := hs
  refine am_iconst (q := 1) (v := 0) dX14_given_0 kc_i0 rfl ?_
  refine am_istore_n (q := 2) (ls1 := [_, _, _, _]) dX14_given_1 (Nat.le_of_ble_eq_true rfl) rfl rfl ?_
  refine am_iconst (q := 3) (v := 0) dX14_given_2 kc_i0 rfl ?_
  refine am_istore_n (q := 4) (ls1 := [_, _, _, _]) dX14_given_3 (Nat.le_of_ble_eq_true rfl) rfl rfl ?_
  refine k_loop (σ := Int32) (n := B.nP) (Inv := fun k v => v = sumM (fun i => m1.prize i 1) k) (W := fun k v => MW G mX14_given 0 4 [some (vR y), some (vR z), some (vI v), some (vI (nI k))] [] (mw S I J R) _) ?_ ?_ 0 0 (Nat.zero_le _) rfl
  · rintro k v hk rfl ih
    refine am_iload_n (q := 5) dX14_given_4 rfl rfl ?_
    refine am_aload_n (q := 6) dX14_given_5 rfl rfl ?_
    refine cm_getR (q := 9) dX14_given_6 flX14_32 rfl (by assumption) (by assumption) rfl ?_
    refine cm_getI (q := 12) dX14_given_9 flX14_180 rfl (by assumption) rfl ?_
    rw [a5]
    refine am_icmp_ge (tgt := 34) (q := 15) dX14_given_12 rfl rfl (fun hz => absurd hz (nI_ge hk (by omega))) (fun _ => ?_)
    refine am_iload_n (q := 16) dX14_given_15 rfl rfl ?_
    refine am_aload_n (q := 17) dX14_given_16 rfl rfl ?_
    refine cm_getR (q := 20) dX14_given_17 flX14_285 rfl (by assumption) (by assumption) rfl ?_
    refine am_iconst (q := 21) (v := 2) dX14_given_20 kc_i2 rfl ?_
    refine am_iload_n (q := 22) dX14_given_21 rfl rfl ?_
    refine am_imul (q := 23) dX14_given_22 rfl ?_
    refine am_iconst (q := 24) (v := 1) dX14_given_23 kc_i1 rfl ?_
    refine am_iadd (q := 25) dX14_given_24 rfl ?_
    rw [show (2 * nI k + 1 : Int32) = nI (2 * k + 1) from k_lin 2 k 1]
    refine cm_iaload (q := 26) dX14_given_25 (by assumption) (by rw [lz4]; exact vp_in_nI (by omega) (by decide)) rfl ?_
    rw [nI_clamp (show 2 * k + 1 < 2 ^ 31 by omega), hpr k hk 1 (by decide)]
    refine am_iadd (q := 27) dX14_given_26 rfl ?_
    refine am_istore_n (q := 28) (ls1 := [_, _, _, _]) dX14_given_27 (Nat.le_of_ble_eq_true rfl) rfl rfl ?_
    refine am_iincW (q := 31) (ls1 := [_, _, _, _]) (w := 1) dX14_given_28 rfl (Nat.le_of_ble_eq_true rfl) kc_i1 rfl rfl ?_
    refine am_goto (tgt := 4) dX14_given_31 rfl ?_
    rw [nI_1]
    exact ih _ rfl
  · rintro v rfl
    refine am_iload_n (q := 5) dX14_given_4 rfl rfl ?_
    refine am_aload_n (q := 6) dX14_given_5 rfl rfl ?_
    refine cm_getR (q := 9) dX14_given_6 flX14_32 rfl (by assumption) (by assumption) rfl ?_
    refine cm_getI (q := 12) dX14_given_9 flX14_180 rfl (by assumption) rfl ?_
    rw [a5]
    refine am_icmp_ge (tgt := 34) (q := 15) dX14_given_12 rfl rfl (fun _ => ?_) (fun hz => absurd (Int32.le_refl _) hz)
    refine am_iload_n (q := 35) dX14_given_34 rfl rfl ?_
    exact am_iret dX14_given_35 rfl rfl ⟨_, rfl, rfl, rfl⟩
theorem k_X14_purses (hM : MCb S R y bl) (hS : SCc S R z) (hB : RB I bl B m) {m1 : MS} (hs : RS I z B m1) : Fn G mX14_purses 0 [vR y, vR z] (mw S I J R) (fun rr M1 => rr = some (vI (pursM B m1)) ∧ M1 = mw S I J R) := by
  obtain ⟨ky, ry, kb, _⟩ := hM
  obtain ⟨kz, z6, z7, z8, z9, z10, ⟨kz1, lz1⟩, ⟨kz2, lz2⟩, ⟨kz3, lz3⟩, ⟨kz4, lz4⟩, kz5, lz5⟩ := hS
  obtain ⟨⟨⟨a1, a2⟩, ⟨a3, a4⟩, ⟨a5, a6⟩, a7, a8⟩, _⟩ := id hB
  obtain ⟨_, _, _, hfi, _⟩ := hs
  refine am_iconst (q := 1) (v := 0) dX14_purses_0 kc_i0 rfl ?_
  refine am_istore_n (q := 2) (ls1 := [_, _, _, _]) dX14_purses_1 (Nat.le_of_ble_eq_true rfl) rfl rfl ?_
  refine am_iconst (q := 3) (v := 0) dX14_purses_2 kc_i0 rfl ?_
  refine am_istore_n (q := 4) (ls1 := [_, _, _, _]) dX14_purses_3 (Nat.le_of_ble_eq_true rfl) rfl rfl ?_
  refine k_loop (σ := Int32) (n := B.nF) (Inv := fun k v => v = sumM (fun i => m1.fist i 4) k) (W := fun k v => MW G mX14_purses 0 4 [some (vR y), some (vR z), some (vI v), some (vI (nI k))] [] (mw S I J R) _) ?_ ?_ 0 0 (Nat.zero_le _) rfl
  · rintro k v hk rfl ih
    refine am_iload_n (q := 5) dX14_purses_4 rfl rfl ?_
    refine am_aload_n (q := 6) dX14_purses_5 rfl rfl ?_
    refine cm_getR (q := 9) dX14_purses_6 flX14_32 rfl (by assumption) (by assumption) rfl ?_
    refine cm_getI (q := 12) dX14_purses_9 flX14_170 rfl (by assumption) rfl ?_
    rw [a3]
    refine am_icmp_ge (tgt := 35) (q := 15) dX14_purses_12 rfl rfl (fun hz => absurd hz (nI_ge hk (by omega))) (fun _ => ?_)
    refine am_iload_n (q := 16) dX14_purses_15 rfl rfl ?_
    refine am_aload_n (q := 17) dX14_purses_16 rfl rfl ?_
    refine cm_getR (q := 20) dX14_purses_17 flX14_283 rfl (by assumption) (by assumption) rfl ?_
    refine am_bipush (q := 22) (v := 7) dX14_purses_20 kc_b7 rfl ?_
    refine am_iload_n (q := 23) dX14_purses_22 rfl rfl ?_
    refine am_imul (q := 24) dX14_purses_23 rfl ?_
    refine am_iconst (q := 25) (v := 2) dX14_purses_24 kc_i2 rfl ?_
    refine am_iadd (q := 26) dX14_purses_25 rfl ?_
    rw [show (7 * nI k + 2 : Int32) = nI (7 * k + 2) from k_lin 7 k 2]
    refine cm_iaload (q := 27) dX14_purses_26 (by assumption) (by rw [lz3]; exact vp_in_nI (by omega) (by decide)) rfl ?_
    rw [nI_clamp (show 7 * k + 2 < 2 ^ 31 by omega), hfi k hk 2 (by decide)]
    refine am_iadd (q := 28) dX14_purses_27 rfl ?_
    refine am_istore_n (q := 29) (ls1 := [_, _, _, _]) dX14_purses_28 (Nat.le_of_ble_eq_true rfl) rfl rfl ?_
    refine am_iincW (q := 32) (ls1 := [_, _, _, _]) (w := 1) dX14_purses_29 rfl (Nat.le_of_ble_eq_true rfl) kc_i1 rfl rfl ?_
    refine am_goto (tgt := 4) dX14_purses_32 rfl ?_
    rw [nI_1]
    exact ih _ rfl
  · rintro v rfl
    refine am_iload_n (q := 5) dX14_purses_4 rfl rfl ?_
    refine am_aload_n (q := 6) dX14_purses_5 rfl rfl ?_
    refine cm_getR (q := 9) dX14_purses_6 flX14_32 rfl (by assumption) (by assumption) rfl ?_
    refine cm_getI (q := 12) dX14_purses_9 flX14_170 rfl (by assumption) rfl ?_
    rw [a3]
    refine am_icmp_ge (tgt := 35) (q := 15) dX14_purses_12 rfl rfl (fun _ => ?_) (fun hz => absurd (Int32.le_refl _) hz)
    refine am_iload_n (q := 36) dX14_purses_35 rfl rfl ?_
    exact am_iret dX14_purses_36 rfl rfl ⟨_, rfl, rfl, rfl⟩
end Mo

