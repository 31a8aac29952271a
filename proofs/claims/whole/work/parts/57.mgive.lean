theorem dX14_reward_0 : decode cX14_reward 0 = .ok (.iconst 0, 1) := by decide +kernel
theorem dX14_reward_1 : decode cX14_reward 1 = .ok (.istore_n 3, 1) := by decide +kernel
theorem dX14_reward_2 : decode cX14_reward 2 = .ok (.iload_n 3, 1) := by decide +kernel
theorem dX14_reward_3 : decode cX14_reward 3 = .ok (.aload_n 0, 1) := by decide +kernel
theorem dX14_reward_4 : decode cX14_reward 4 = .ok (.getfield 32, 3) := by decide +kernel
theorem dX14_reward_7 : decode cX14_reward 7 = .ok (.getfield 180, 3) := by decide +kernel
theorem dX14_reward_10 : decode cX14_reward 10 = .ok (.if_icmp .ge 98, 3) := by decide +kernel
theorem dX14_reward_13 : decode cX14_reward 13 = .ok (.aload_n 1, 1) := by decide +kernel
theorem dX14_reward_14 : decode cX14_reward 14 = .ok (.getfield 285, 3) := by decide +kernel
theorem dX14_reward_17 : decode cX14_reward 17 = .ok (.iconst 2, 1) := by decide +kernel
theorem dX14_reward_18 : decode cX14_reward 18 = .ok (.iload_n 3, 1) := by decide +kernel
theorem dX14_reward_19 : decode cX14_reward 19 = .ok (.imul, 1) := by decide +kernel
theorem dX14_reward_20 : decode cX14_reward 20 = .ok (.iaload, 1) := by decide +kernel
theorem dX14_reward_21 : decode cX14_reward 21 = .ok (.ifCond .eq 81, 3) := by decide +kernel
theorem dX14_reward_24 : decode cX14_reward 24 = .ok (.aload_n 0, 1) := by decide +kernel
theorem dX14_reward_25 : decode cX14_reward 25 = .ok (.aload_n 1, 1) := by decide +kernel
theorem dX14_reward_26 : decode cX14_reward 26 = .ok (.aload_n 0, 1) := by decide +kernel
theorem dX14_reward_27 : decode cX14_reward 27 = .ok (.getfield 32, 3) := by decide +kernel
theorem dX14_reward_30 : decode cX14_reward 30 = .ok (.getfield 243, 3) := by decide +kernel
theorem dX14_reward_33 : decode cX14_reward 33 = .ok (.iconst 3, 1) := by decide +kernel
theorem dX14_reward_34 : decode cX14_reward 34 = .ok (.iload_n 3, 1) := by decide +kernel
theorem dX14_reward_35 : decode cX14_reward 35 = .ok (.imul, 1) := by decide +kernel
theorem dX14_reward_36 : decode cX14_reward 36 = .ok (.iconst 2, 1) := by decide +kernel
theorem dX14_reward_37 : decode cX14_reward 37 = .ok (.iadd, 1) := by decide +kernel
theorem dX14_reward_38 : decode cX14_reward 38 = .ok (.iaload, 1) := by decide +kernel
theorem dX14_reward_39 : decode cX14_reward 39 = .ok (.invokevirtual 301, 3) := by decide +kernel
theorem dX14_reward_42 : decode cX14_reward 42 = .ok (.ifCond .ne 6, 3) := by decide +kernel
theorem dX14_reward_45 : decode cX14_reward 45 = .ok (.goto 57, 3) := by decide +kernel
theorem dX14_reward_48 : decode cX14_reward 48 = .ok (.aload_n 1, 1) := by decide +kernel
theorem dX14_reward_49 : decode cX14_reward 49 = .ok (.getfield 285, 3) := by decide +kernel
theorem dX14_reward_52 : decode cX14_reward 52 = .ok (.iconst 2, 1) := by decide +kernel
theorem dX14_reward_53 : decode cX14_reward 53 = .ok (.iload_n 3, 1) := by decide +kernel
theorem dX14_reward_54 : decode cX14_reward 54 = .ok (.imul, 1) := by decide +kernel
theorem dX14_reward_55 : decode cX14_reward 55 = .ok (.dup2, 1) := by decide +kernel
theorem dX14_reward_56 : decode cX14_reward 56 = .ok (.iaload, 1) := by decide +kernel
theorem dX14_reward_57 : decode cX14_reward 57 = .ok (.iconst 1, 1) := by decide +kernel
theorem dX14_reward_58 : decode cX14_reward 58 = .ok (.isub, 1) := by decide +kernel
theorem dX14_reward_59 : decode cX14_reward 59 = .ok (.iastore, 1) := by decide +kernel
theorem dX14_reward_60 : decode cX14_reward 60 = .ok (.aload_n 1, 1) := by decide +kernel
theorem dX14_reward_61 : decode cX14_reward 61 = .ok (.getfield 285, 3) := by decide +kernel
theorem dX14_reward_64 : decode cX14_reward 64 = .ok (.iconst 2, 1) := by decide +kernel
theorem dX14_reward_65 : decode cX14_reward 65 = .ok (.iload_n 3, 1) := by decide +kernel
theorem dX14_reward_66 : decode cX14_reward 66 = .ok (.imul, 1) := by decide +kernel
theorem dX14_reward_67 : decode cX14_reward 67 = .ok (.iconst 1, 1) := by decide +kernel
theorem dX14_reward_68 : decode cX14_reward 68 = .ok (.iadd, 1) := by decide +kernel
theorem dX14_reward_69 : decode cX14_reward 69 = .ok (.dup2, 1) := by decide +kernel
theorem dX14_reward_70 : decode cX14_reward 70 = .ok (.iaload, 1) := by decide +kernel
theorem dX14_reward_71 : decode cX14_reward 71 = .ok (.iconst 1, 1) := by decide +kernel
theorem dX14_reward_72 : decode cX14_reward 72 = .ok (.iadd, 1) := by decide +kernel
theorem dX14_reward_73 : decode cX14_reward 73 = .ok (.iastore, 1) := by decide +kernel
theorem dX14_reward_74 : decode cX14_reward 74 = .ok (.aload_n 1, 1) := by decide +kernel
theorem dX14_reward_75 : decode cX14_reward 75 = .ok (.getfield 283, 3) := by decide +kernel
theorem dX14_reward_78 : decode cX14_reward 78 = .ok (.iload_n 2, 1) := by decide +kernel
theorem dX14_reward_79 : decode cX14_reward 79 = .ok (.iconst 2, 1) := by decide +kernel
theorem dX14_reward_80 : decode cX14_reward 80 = .ok (.iadd, 1) := by decide +kernel
theorem dX14_reward_81 : decode cX14_reward 81 = .ok (.dup2, 1) := by decide +kernel
theorem dX14_reward_82 : decode cX14_reward 82 = .ok (.iaload, 1) := by decide +kernel
theorem dX14_reward_83 : decode cX14_reward 83 = .ok (.aload_n 0, 1) := by decide +kernel
theorem dX14_reward_84 : decode cX14_reward 84 = .ok (.aload_n 1, 1) := by decide +kernel
theorem dX14_reward_85 : decode cX14_reward 85 = .ok (.aload_n 0, 1) := by decide +kernel
theorem dX14_reward_86 : decode cX14_reward 86 = .ok (.getfield 32, 3) := by decide +kernel
theorem dX14_reward_89 : decode cX14_reward 89 = .ok (.getfield 243, 3) := by decide +kernel
theorem dX14_reward_92 : decode cX14_reward 92 = .ok (.iconst 3, 1) := by decide +kernel
theorem dX14_reward_93 : decode cX14_reward 93 = .ok (.iload_n 3, 1) := by decide +kernel
theorem dX14_reward_94 : decode cX14_reward 94 = .ok (.imul, 1) := by decide +kernel
theorem dX14_reward_95 : decode cX14_reward 95 = .ok (.iaload, 1) := by decide +kernel
theorem dX14_reward_96 : decode cX14_reward 96 = .ok (.invokevirtual 286, 3) := by decide +kernel
theorem dX14_reward_99 : decode cX14_reward 99 = .ok (.iadd, 1) := by decide +kernel
theorem dX14_reward_100 : decode cX14_reward 100 = .ok (.iastore, 1) := by decide +kernel
theorem dX14_reward_101 : decode cX14_reward 101 = .ok (.return_, 1) := by decide +kernel
theorem dX14_reward_102 : decode cX14_reward 102 = .ok (.iinc 3 1, 3) := by decide +kernel
theorem dX14_reward_105 : decode cX14_reward 105 = .ok (.goto (-103), 3) := by decide +kernel
theorem dX14_reward_108 : decode cX14_reward 108 = .ok (.return_, 1) := by decide +kernel
/-! the reference gives prizes -/
/-- nothing but the state at z and what a flight tells has changed -/
def MFr (y z : Nat) (I I1 : Nat → Nat → Int32) : Prop := ∀ x j, (x < z ∨ z + 6 ≤ x) → (x ≠ y ∨ j < 20 ∨ j = 23) → I1 x j = I x j
theorem MFr.rf {y z : Nat} {I : Nat → Nat → Int32} : MFr y z I I := fun _ _ _ _ => rfl
theorem MFr.tr {y z : Nat} {I I1 I2 : Nat → Nat → Int32} (h1 : MFr y z I I1) (h2 : MFr y z I1 I2) : MFr y z I I2 := fun x j p q => (h2 x j p q).trans (h1 x j p q)
theorem RB.mv {I I1 : Nat → Nat → Int32} {bl : Nat} {B : BS} {m m1 : MS} (h : RB I bl B m) (fr : ∀ x j, bl ≤ x → x < bl + 9 → I1 x j = I x j) (hf : ∀ i, i < B.nF → m1.fist i 0 = m.fist i 0 ∧ m1.fist i 1 = m.fist i 1) (hr : ∀ i, i < B.nR → m1.rail i 0 = m.rail i 0 ∧ m1.rail i 1 = m.rail i 1) : RB I1 bl B m1 := by
  obtain ⟨⟨⟨a1, a2⟩, ⟨a3, a4⟩, ⟨a5, a6⟩, a7, a8⟩, ⟨u, u1, u2, u3⟩, b1, b2, b3, b4⟩ := h
  have e2 : I1 (bl + 2) = I (bl + 2) := funext fun j => fr _ _ (by omega) (by omega)
  have e4 : I1 (bl + 4) = I (bl + 4) := funext fun j => fr _ _ (by omega) (by omega)
  have e6 : I1 (bl + 6) = I (bl + 6) := funext fun j => fr _ _ (by omega) (by omega)
  have e7 : I1 (bl + 7) = I (bl + 7) := funext fun j => fr _ _ (by omega) (by omega)
  have e8 : I1 (bl + 8) = I (bl + 8) := funext fun j => fr _ _ (by omega) (by omega)
  refine ⟨⟨⟨(fr _ _ (by omega) (by omega)).trans a1, a2⟩, ⟨(fr _ _ (by omega) (by omega)).trans a3, a4⟩, ⟨(fr _ _ (by omega) (by omega)).trans a5, a6⟩, (fr _ _ (by omega) (by omega)).trans a7, a8⟩, ⟨u, u1, (fr _ _ (by omega) (by omega)).trans u2, ?_⟩, fun i hi => ?_, fun i hi => ?_, fun i hi => ?_, fun i hi => ?_⟩
  · rw [e2]
    exact u3
  · rw [(hr i hi).1, (hr i hi).2, fr _ _ (by omega) (by omega), fr _ _ (by omega) (by omega)]
    exact b1 i hi
  · rw [(hf i hi).1, (hf i hi).2, fr _ _ (by omega) (by omega), fr _ _ (by omega) (by omega)]
    exact b2 i hi
  · rw [e6, e7, e8, e4]
    obtain ⟨w, t, q⟩ := b3 i hi
    exact ⟨w, t, q⟩
  · rw [e6, e7, e8, fr _ _ (by omega) (by omega), fr _ _ (by omega) (by omega), fr _ _ (by omega) (by omega)]
    exact b4 i hi
theorem RB.fr {I I1 : Nat → Nat → Int32} {y bl z : Nat} {B : BS} {m : MS} (h : RB I bl B m) (hyz : y < bl ∧ bl + 9 ≤ z) (fr : MFr y z I I1) : RB I1 bl B m := h.mv (fun x j p q => fr x j (by omega) (by omega)) (fun _ _ => ⟨rfl, rfl⟩) (fun _ _ => ⟨rfl, rfl⟩)
theorem RS.fr {I I1 : Nat → Nat → Int32} {z : Nat} {B : BS} {m : MS} (h : RS I z B m) (fr : ∀ x j, z ≤ x → x < z + 6 → I1 x j = I x j) : RS I1 z B m := by
  obtain ⟨⟨g0, g1, g2, g3, g4, g5, g6⟩, hbd, hra, hfi, hpr, hp0, hro⟩ := h
  exact ⟨⟨(fr _ _ (by omega) (by omega)).trans g0, (fr _ _ (by omega) (by omega)).trans g1, (fr _ _ (by omega) (by omega)).trans g2, (fr _ _ (by omega) (by omega)).trans g3, (fr _ _ (by omega) (by omega)).trans g4, (fr _ _ (by omega) (by omega)).trans g5, g6⟩, fun k hk => (fr _ _ (by omega) (by omega)).trans (hbd k hk), fun i hi j hj => (fr _ _ (by omega) (by omega)).trans (hra i hi j hj), fun i hi j hj => (fr _ _ (by omega) (by omega)).trans (hfi i hi j hj), fun i hi j hj => (fr _ _ (by omega) (by omega)).trans (hpr i hi j hj), hp0, fun k hk => by rw [fr _ _ (by omega) (by omega)]; exact hro k hk⟩
section Mg
variable {G : Gp} {S : AMem} {I : Nat → Nat → Int32} {J : Nat → Nat → Int64} {R : Nat → Nat → Option Nat} {y bl z : Nat} {B : BS} {m : MS}
/-- a prize is given: its counts -/
def gv1 (m : MS) (k : Nat) : MS := mkMS m.fist m.rail (up2 (up2 m.prize k 0 (m.prize k 0 - 1)) k 1 (m.prize k 1 + 1)) m.g m.row m.bd m.nb
def gv2 (B : BS) (m : MS) (f k : Nat) : MS := mkMS (up2 m.fist f 4 (m.fist f 4 + B.wo k (rdM B (gv1 m k)))) m.rail (gv1 m k).prize m.g m.row m.bd m.nb
theorem givM_none {f : Nat} (h : fpM B m 0 B.nP = none) : givM B m f = m := by
  unfold givM
  rw [h]
theorem givM_some {f k : Nat} (h : fpM B m 0 B.nP = some k) : givM B m f = gv2 B m f k := by
  unfold givM
  rw [h]
  rfl
theorem k_le1 {v : Int32} (h : 0 < v) : 0 ≤ v - 1 := by
  have h1 := Int32.lt_iff_toInt_lt.mp h
  have h2 := v.toInt_lt
  refine Int32.le_iff_toInt_le.mpr ?_
  rw [Int32.toInt_sub]
  have e0 : (0 : Int32).toInt = 0 := rfl
  have e1 : (1 : Int32).toInt = 1 := rfl
  rw [e0] at h1
  rw [e0, e1, Int.bmod_eq_of_le (by omega) (by omega)]
  omega
theorem k_X14_reward {f : Nat} (hG : okG G) (hM : MCb S R y bl) (hS : SCc S R z) (hB : RB I bl B m) (hs : RS I z B m) (hyz : y < bl ∧ bl + 9 ≤ z) (hf : f < B.nF) : Fn G mX14_reward 402 [vR y, vR z, vI (nI (7 * f))] (mw S I J R) (fun rr M1 => rr = none ∧ ∃ I1, M1 = mw S I1 J R ∧ RS I1 z B (givM B m f) ∧ MFr y z I I1) := by
  have hM0 := hM
  have hS0 := hS
  have hs0 := hs
  obtain ⟨ky, ry, kb, b5, b6, b7, b8, b9, b11, b12, b13, ⟨k1, l1⟩, ⟨k2, l2⟩, ⟨k3, l3⟩, ⟨k4, l4⟩, _⟩ := hM
  obtain ⟨kz, z6, z7, z8, z9, z10, ⟨kz1, lz1⟩, ⟨kz2, lz2⟩, ⟨kz3, lz3⟩, ⟨kz4, lz4⟩, kz5, lz5⟩ := hS
  obtain ⟨⟨⟨a1, a2⟩, ⟨a3, a4⟩, ⟨a5, a6⟩, a7, a8⟩, _, _, _, hpz, _⟩ := id hB
  obtain ⟨⟨g0, g1, g2, g3, g4, g5, g6⟩, hbd, hra, hfi, hpr, hp0, hro⟩ := hs
  refine am_iconst (q := 1) (v := 0) dX14_reward_0 kc_i0 rfl ?_
  refine am_istore_n (q := 2) (ls1 := [_, _, _, _]) dX14_reward_1 (Nat.le_of_ble_eq_true rfl) rfl rfl ?_
  refine k_loop (σ := Unit) (n := B.nP) (Inv := fun k _ => fpM B m k (B.nP - k) = fpM B m 0 B.nP) (W := fun k _ => MW G mX14_reward 402 2 [some (vR y), some (vR z), some (vI (nI (7 * f))), some (vI (nI k))] [] (mw S I J R) _) ?_ ?_ 0 () (Nat.zero_le _) rfl
  · intro k _ hk hinv ih
    rw [show B.nP - k = (B.nP - (k + 1)) + 1 by omega, fpM] at hinv
    obtain ⟨w, t, w1, w2, w3, t1, t2, t3⟩ := hpz k hk
    have pos := hp0.1 k hk
    have v0 := hpr k hk 0 (by decide)
    have v1 := hpr k hk 1 (by decide)
    have on : fpM B m (k + 1) (B.nP - (k + 1)) = fpM B m 0 B.nP → MW G mX14_reward 402 102 [some (vR y), some (vR z), some (vI (nI (7 * f))), some (vI (nI k))] [] (mw S I J R) (fun f_1 M1 => ∃ r, f_1 = .inl r ∧ (r = none ∧ ∃ I1, M1 = mw S I1 J R ∧ RS I1 z B (givM B m f) ∧ MFr y z I I1)) := by
      intro q
      refine am_iincW (q := 105) (ls1 := [_, _, _, _]) (w := 1) dX14_reward_102 rfl (Nat.le_of_ble_eq_true rfl) kc_i1 rfl rfl ?_
      refine am_goto (tgt := 2) dX14_reward_105 rfl ?_
      rw [nI_1]
      exact ih () q
    refine am_iload_n (q := 3) dX14_reward_2 rfl rfl ?_
    refine am_aload_n (q := 4) dX14_reward_3 rfl rfl ?_
    refine cm_getR (q := 7) dX14_reward_4 flX14_32 rfl (by assumption) (by assumption) rfl ?_
    refine cm_getI (q := 10) dX14_reward_7 flX14_180 rfl (by assumption) rfl ?_
    rw [a5]
    have e0 : (2 * nI k : Int32) = nI (2 * k + 0) := k_mul 2 k
    have i0 : vp_in (nI (2 * k + 0)) (S.ln (z + 4)) := by rw [lz4]; exact vp_in_nI (by omega) (by decide)
    have i1 : vp_in (nI (2 * k + 1)) (S.ln (z + 4)) := by rw [lz4]; exact vp_in_nI (by omega) (by decide)
    have i2 : vp_in (nI (7 * f + 2)) (S.ln (z + 3)) := by rw [lz3]; exact vp_in_nI (by omega) (by decide)
    have i3 : vp_in (nI (3 * k + 2)) (S.ln (bl + 4)) := by rw [l4]; exact vp_in_nI (by omega) (by decide)
    have i4 : vp_in (nI (3 * k)) (S.ln (bl + 4)) := by rw [l4]; exact vp_in_nI (by omega) (by decide)
    refine am_icmp_ge (tgt := 108) (q := 13) dX14_reward_10 rfl rfl (fun hz => absurd hz (nI_ge hk (by omega))) (fun _ => ?_)
    refine am_aload_n (q := 14) dX14_reward_13 rfl rfl ?_
    refine cm_getR (q := 17) dX14_reward_14 flX14_285 rfl (by assumption) (by assumption) rfl ?_
    refine am_iconst (q := 18) (v := 2) dX14_reward_17 kc_i2 rfl ?_
    refine am_iload_n (q := 19) dX14_reward_18 rfl rfl ?_
    refine am_imul (q := 20) dX14_reward_19 rfl ?_
    rw [e0]
    refine cm_iaload (q := 21) dX14_reward_20 (by assumption) i0 rfl ?_
    rw [nI_clamp (show 2 * k + 0 < 2 ^ 31 by omega), v0]
    by_cases hzz : m.prize k 0 = 0
    · rw [if_neg (fun q => by rw [hzz] at q; exact absurd q.1 (by decide))] at hinv
      refine am_if_eq (tgt := 102) (q := 24) dX14_reward_21 rfl rfl (fun _ => ?_) (fun hz => absurd hzz hz)
      exact on hinv
    · have hpos : 0 < m.prize k 0 := Int32.lt_of_le_of_ne pos (fun q => hzz q.symm)
      refine am_if_eq (tgt := 102) (q := 24) dX14_reward_21 rfl rfl (fun hz => absurd hz hzz) (fun _ => ?_)
      refine am_aload_n (q := 25) dX14_reward_24 rfl rfl ?_
      refine am_aload_n (q := 26) dX14_reward_25 rfl rfl ?_
      refine am_aload_n (q := 27) dX14_reward_26 rfl rfl ?_
      refine cm_getR (q := 30) dX14_reward_27 flX14_32 rfl (by assumption) (by assumption) rfl ?_
      refine cm_getR (q := 33) dX14_reward_30 flX14_243 rfl (by assumption) (by assumption) rfl ?_
      refine am_iconst (q := 34) (v := 3) dX14_reward_33 kc_i3 rfl ?_
      refine am_iload_n (q := 35) dX14_reward_34 rfl rfl ?_
      refine am_imul (q := 36) dX14_reward_35 rfl ?_
      refine am_iconst (q := 37) (v := 2) dX14_reward_36 kc_i2 rfl ?_
      refine am_iadd (q := 38) dX14_reward_37 rfl ?_
      rw [show (3 * nI k + 2 : Int32) = nI (3 * k + 2) from k_lin 3 k 2]
      refine cm_iaload (q := 39) dX14_reward_38 (by assumption) i3 rfl ?_
      rw [nI_clamp (show 3 * k + 2 < 2 ^ 31 by omega), t1]
      refine cm_call0 (q := 42) (As := [_, _]) hG dX14_reward_39 mlX14_301 rfl (by assumption) ⟨_, _, rfl⟩ (Nat.le_of_ble_eq_true rfl) (Nat.le_of_ble_eq_true rfl) (Nat.le_of_ble_eq_true rfl) (Nat.le_of_ble_eq_true rfl) (MW.deep (d := t + 1) (by omega) (k_X14_holds hG hM0 hS0 a4 a2 a6 hs0 (t + 1) t (B.te k) t3 t2) : Fn G mX14_holds 401 _ _ _) rfl ?_
      rintro _ _ ⟨rfl, rfl⟩
      by_cases ht : B.te k (rdM B m) = 0
      · rw [if_neg (fun q => q.2 ht)] at hinv
        refine am_if_ne (tgt := 48) (q := 45) dX14_reward_42 rfl rfl (fun hz => absurd ht hz) (fun _ => ?_)
        refine am_goto (tgt := 102) dX14_reward_45 rfl ?_
        exact on hinv
      · rw [if_pos ⟨hpos, ht⟩] at hinv
        refine am_if_ne (tgt := 48) (q := 45) dX14_reward_42 rfl rfl (fun _ => ?_) (fun hz => absurd hz ht)
        refine am_aload_n (q := 49) dX14_reward_48 rfl rfl ?_
        refine cm_getR (q := 52) dX14_reward_49 flX14_285 rfl (by assumption) (by assumption) rfl ?_
        refine am_iconst (q := 53) (v := 2) dX14_reward_52 kc_i2 rfl ?_
        refine am_iload_n (q := 54) dX14_reward_53 rfl rfl ?_
        refine am_imul (q := 55) dX14_reward_54 rfl ?_
        rw [e0]
        refine am_dup2_11 (q := 56) dX14_reward_55 rfl rfl rfl ?_
        refine cm_iaload (q := 57) dX14_reward_56 (by assumption) i0 rfl ?_
        rw [nI_clamp (show 2 * k + 0 < 2 ^ 31 by omega), v0]
        refine am_iconst (q := 58) (v := 1) dX14_reward_57 kc_i1 rfl ?_
        refine am_isub (q := 59) dX14_reward_58 rfl ?_
        refine cm_iastore (q := 60) dX14_reward_59 (by assumption) i0 rfl ?_
        rw [nI_clamp (show 2 * k + 0 < 2 ^ 31 by omega)]
        refine am_aload_n (q := 61) dX14_reward_60 rfl rfl ?_
        refine cm_getR (q := 64) dX14_reward_61 flX14_285 rfl (by assumption) (by assumption) rfl ?_
        refine am_iconst (q := 65) (v := 2) dX14_reward_64 kc_i2 rfl ?_
        refine am_iload_n (q := 66) dX14_reward_65 rfl rfl ?_
        refine am_imul (q := 67) dX14_reward_66 rfl ?_
        refine am_iconst (q := 68) (v := 1) dX14_reward_67 kc_i1 rfl ?_
        refine am_iadd (q := 69) dX14_reward_68 rfl ?_
        rw [show (2 * nI k + 1 : Int32) = nI (2 * k + 1) from k_lin 2 k 1]
        refine am_dup2_11 (q := 70) dX14_reward_69 rfl rfl rfl ?_
        refine cm_iaload (q := 71) dX14_reward_70 (by assumption) i1 rfl ?_
        rw [nI_clamp (show 2 * k + 1 < 2 ^ 31 by omega), up2_j (by omega), v1]
        refine am_iconst (q := 72) (v := 1) dX14_reward_71 kc_i1 rfl ?_
        refine am_iadd (q := 73) dX14_reward_72 rfl ?_
        refine cm_iastore (q := 74) dX14_reward_73 (by assumption) i1 rfl ?_
        rw [nI_clamp (show 2 * k + 1 < 2 ^ 31 by omega)]
        refine k_nm (P := fun I2 => MW G mX14_reward 402 74 _ _ (mw S I2 J R) _) _ ?_
        intro I2 hI2
        have q2 : ∀ x j, I2 x j = if x = z + 4 ∧ j = 2 * k + 1 then m.prize k 1 + 1 else if x = z + 4 ∧ j = 2 * k then m.prize k 0 - 1 else I x j := fun x j => by rw [hI2, up2_at, up2_at]; rfl
        clear hI2
        have s2 : RS I2 z B (gv1 m k) := by
          refine ⟨⟨?_, ?_, ?_, ?_, ?_, ?_, g6⟩, fun i hi => ?_, fun i hi j hj => ?_, fun i hi j hj => ?_, fun i hi j hj => ?_, ⟨fun i hi => ?_, hp0.2⟩, fun i hi => ?_⟩
          · rw [q2, if_neg (by omega), if_neg (by omega)]; exact g0
          · rw [q2, if_neg (by omega), if_neg (by omega)]; exact g1
          · rw [q2, if_neg (by omega), if_neg (by omega)]; exact g2
          · rw [q2, if_neg (by omega), if_neg (by omega)]; exact g3
          · rw [q2, if_neg (by omega), if_neg (by omega)]; exact g4
          · rw [q2, if_neg (by omega), if_neg (by omega)]; exact g5
          · rw [q2, if_neg (by omega), if_neg (by omega)]; exact hbd i hi
          · rw [q2, if_neg (by omega), if_neg (by omega)]; exact hra i hi j hj
          · rw [q2, if_neg (by omega), if_neg (by omega)]; exact hfi i hi j hj
          · rw [q2]
            show _ = up2 (up2 m.prize k 0 (m.prize k 0 - 1)) k 1 (m.prize k 1 + 1) i j
            rw [up2_at, up2_at]
            by_cases c1 : i = k ∧ j = 1
            · rw [if_pos (by omega), if_pos c1]
            · rw [if_neg (by omega), if_neg c1]
              by_cases c2 : i = k ∧ j = 0
              · rw [if_pos (by omega), if_pos c2]
              · rw [if_neg (by omega), if_neg c2]
                exact hpr i hi j hj
          · show 0 ≤ up2 (up2 m.prize k 0 (m.prize k 0 - 1)) k 1 (m.prize k 1 + 1) i 0
            rw [up2_at, if_neg (by omega), up2_at]
            by_cases c2 : i = k ∧ 0 = 0
            · rw [if_pos c2]
              exact k_le1 hpos
            · rw [if_neg c2]
              exact hp0.1 i hi
          · rw [q2, if_neg (by omega), if_neg (by omega)]; exact hro i hi
        have f2 : I2 (z + 3) (7 * f + 2) = m.fist f 4 := s2.2.2.2.1 f hf 2 (by decide)
        have w0 : I2 (bl + 4) (3 * k) = nI w := by rw [q2, if_neg (by omega), if_neg (by omega)]; exact w1
        have n6 : I2 (bl + 6) = I (bl + 6) := funext fun j => by rw [q2, if_neg (by omega), if_neg (by omega)]
        have n7 : I2 (bl + 7) = I (bl + 7) := funext fun j => by rw [q2, if_neg (by omega), if_neg (by omega)]
        have n8 : I2 (bl + 8) = I (bl + 8) := funext fun j => by rw [q2, if_neg (by omega), if_neg (by omega)]
        refine am_aload_n (q := 75) dX14_reward_74 rfl rfl ?_
        refine cm_getR (q := 78) dX14_reward_75 flX14_283 rfl (by assumption) (by assumption) rfl ?_
        refine am_iload_n (q := 79) dX14_reward_78 rfl rfl ?_
        refine am_iconst (q := 80) (v := 2) dX14_reward_79 kc_i2 rfl ?_
        refine am_iadd (q := 81) dX14_reward_80 rfl ?_
        rw [show (nI (7 * f) + 2 : Int32) = nI (7 * f + 2) from nI_add (7 * f) 2]
        refine am_dup2_11 (q := 82) dX14_reward_81 rfl rfl rfl ?_
        refine cm_iaload (q := 83) dX14_reward_82 (by assumption) i2 rfl ?_
        rw [nI_clamp (show 7 * f + 2 < 2 ^ 31 by omega), f2]
        refine am_aload_n (q := 84) dX14_reward_83 rfl rfl ?_
        refine am_aload_n (q := 85) dX14_reward_84 rfl rfl ?_
        refine am_aload_n (q := 86) dX14_reward_85 rfl rfl ?_
        refine cm_getR (q := 89) dX14_reward_86 flX14_32 rfl (by assumption) (by assumption) rfl ?_
        refine cm_getR (q := 92) dX14_reward_89 flX14_243 rfl (by assumption) (by assumption) rfl ?_
        refine am_iconst (q := 93) (v := 3) dX14_reward_92 kc_i3 rfl ?_
        refine am_iload_n (q := 94) dX14_reward_93 rfl rfl ?_
        refine am_imul (q := 95) dX14_reward_94 rfl ?_
        rw [show (3 * nI k : Int32) = nI (3 * k) from k_mul 3 k]
        refine cm_iaload (q := 96) dX14_reward_95 (by assumption) i4 rfl ?_
        rw [nI_clamp (show 3 * k < 2 ^ 31 by omega), w0]
        refine cm_call0 (q := 99) (As := [_, _]) hG dX14_reward_96 mlX14_286 rfl (by assumption) ⟨_, _, rfl⟩ (Nat.le_of_ble_eq_true rfl) (Nat.le_of_ble_eq_true rfl) (Nat.le_of_ble_eq_true rfl) (Nat.le_of_ble_eq_true rfl) (MW.deep (d := w + 1) (by omega) (k_X14_reckon hG hM0 hS0 a4 a2 a6 s2 (w + 1) w (B.wo k) (by rw [n6, n7, n8]; exact w3) w2) : Fn G mX14_reckon 401 _ _ _) rfl ?_
        rintro _ _ ⟨rfl, rfl⟩
        refine am_iadd (q := 100) dX14_reward_99 rfl ?_
        refine cm_iastore (q := 101) dX14_reward_100 (by assumption) i2 rfl ?_
        rw [nI_clamp (show 7 * f + 2 < 2 ^ 31 by omega)]
        have q3 : ∀ x j, up2 I2 (z + 3) (7 * f + 2) (m.fist f 4 + B.wo k (rdM B (gv1 m k))) x j = if x = z + 3 ∧ j = 7 * f + 2 then m.fist f 4 + B.wo k (rdM B (gv1 m k)) else I2 x j := fun x j => up2_at _ _
        generalize up2 I2 (z + 3) (7 * f + 2) (m.fist f 4 + B.wo k (rdM B (gv1 m k))) = I3 at q3 ⊢
        have s3 : RS I3 z B (gv2 B m f k) := by
          obtain ⟨⟨g0, g1, g2, g3, g4, g5, g6⟩, hbd, hra, hfi, hpr, hp0, hro⟩ := s2
          refine ⟨⟨?_, ?_, ?_, ?_, ?_, ?_, g6⟩, fun i hi => ?_, fun i hi j hj => ?_, fun i hi j hj => ?_, fun i hi j hj => ?_, ⟨hp0.1, fun i hi => by
            show 0 ≤ up2 m.fist f 4 (m.fist f 4 + B.wo k (rdM B (gv1 m k))) i 3 ∧ up2 m.fist f 4 (m.fist f 4 + B.wo k (rdM B (gv1 m k))) i 3 ≤ 60
            rw [up2_at, if_neg (by omega)]
            exact hp0.2 i hi⟩, fun i hi => ?_⟩
          · rw [q3, if_neg (by omega)]; exact g0
          · rw [q3, if_neg (by omega)]; exact g1
          · rw [q3, if_neg (by omega)]; exact g2
          · rw [q3, if_neg (by omega)]; exact g3
          · rw [q3, if_neg (by omega)]; exact g4
          · rw [q3, if_neg (by omega)]; exact g5
          · rw [q3, if_neg (by omega)]; exact hbd i hi
          · rw [q3, if_neg (by omega)]; exact hra i hi j hj
          · rw [q3]
            show _ = up2 m.fist f 4 (m.fist f 4 + B.wo k (rdM B (gv1 m k))) i (j + 2)
            rw [up2_at]
            by_cases c1 : i = f ∧ j = 2
            · rw [if_pos (by omega), if_pos (by omega)]
            · rw [if_neg (by omega), if_neg (by omega)]
              exact hfi i hi j hj
          · rw [q3, if_neg (by omega)]; exact hpr i hi j hj
          · rw [q3, if_neg (by omega)]; exact hro i hi
        exact am_ret dX14_reward_101 rfl ⟨_, rfl, rfl, I3, rfl, by rw [givM_some hinv.symm]; exact s3, fun x j p q => by rw [q3, if_neg (by omega), q2, if_neg (by omega), if_neg (by omega)]⟩
  · intro _ hinv
    rw [Nat.sub_self, fpM] at hinv
    refine am_iload_n (q := 3) dX14_reward_2 rfl rfl ?_
    refine am_aload_n (q := 4) dX14_reward_3 rfl rfl ?_
    refine cm_getR (q := 7) dX14_reward_4 flX14_32 rfl (by assumption) (by assumption) rfl ?_
    refine cm_getI (q := 10) dX14_reward_7 flX14_180 rfl (by assumption) rfl ?_
    rw [a5]
    refine am_icmp_ge (tgt := 108) (q := 13) dX14_reward_10 rfl rfl (fun _ => ?_) (fun hz => absurd (Int32.le_refl _) hz)
    exact am_ret dX14_reward_108 rfl ⟨_, rfl, rfl, I, rfl, by rw [givM_none hinv.symm]; exact hs0, MFr.rf⟩
end Mg

