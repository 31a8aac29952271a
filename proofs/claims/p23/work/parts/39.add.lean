theorem dX2_addFist_0 : decode cX2_addFist 0 = .ok (.aload_n 0, 1) := by decide +kernel
theorem dX2_addFist_1 : decode cX2_addFist 1 = .ok (.getfield 75, 3) := by decide +kernel
theorem dX2_addFist_4 : decode cX2_addFist 4 = .ok (.aload_n 0, 1) := by decide +kernel
theorem dX2_addFist_5 : decode cX2_addFist 5 = .ok (.getfield 40, 3) := by decide +kernel
theorem dX2_addFist_8 : decode cX2_addFist 8 = .ok (.arraylength, 1) := by decide +kernel
theorem dX2_addFist_9 : decode cX2_addFist 9 = .ok (.if_icmp .ge 31, 3) := by decide +kernel
theorem dX2_addFist_12 : decode cX2_addFist 12 = .ok (.aload_n 0, 1) := by decide +kernel
theorem dX2_addFist_13 : decode cX2_addFist 13 = .ok (.getfield 40, 3) := by decide +kernel
theorem dX2_addFist_16 : decode cX2_addFist 16 = .ok (.aload_n 0, 1) := by decide +kernel
theorem dX2_addFist_17 : decode cX2_addFist 17 = .ok (.getfield 75, 3) := by decide +kernel
theorem dX2_addFist_20 : decode cX2_addFist 20 = .ok (.aaload, 1) := by decide +kernel
theorem dX2_addFist_21 : decode cX2_addFist 21 = .ok (.lload_n 1, 1) := by decide +kernel
theorem dX2_addFist_22 : decode cX2_addFist 22 = .ok (.iload_n 3, 1) := by decide +kernel
theorem dX2_addFist_23 : decode cX2_addFist 23 = .ok (.iload 4, 2) := by decide +kernel
theorem dX2_addFist_25 : decode cX2_addFist 25 = .ok (.iload 5, 2) := by decide +kernel
theorem dX2_addFist_27 : decode cX2_addFist 27 = .ok (.invokevirtual 143, 3) := by decide +kernel
theorem dX2_addFist_30 : decode cX2_addFist 30 = .ok (.aload_n 0, 1) := by decide +kernel
theorem dX2_addFist_31 : decode cX2_addFist 31 = .ok (.dup, 1) := by decide +kernel
theorem dX2_addFist_32 : decode cX2_addFist 32 = .ok (.getfield 75, 3) := by decide +kernel
theorem dX2_addFist_35 : decode cX2_addFist 35 = .ok (.iconst 1, 1) := by decide +kernel
theorem dX2_addFist_36 : decode cX2_addFist 36 = .ok (.iadd, 1) := by decide +kernel
theorem dX2_addFist_37 : decode cX2_addFist 37 = .ok (.putfield 75, 3) := by decide +kernel
theorem dX2_addFist_40 : decode cX2_addFist 40 = .ok (.return_, 1) := by decide +kernel
theorem dX2_addRail_0 : decode cX2_addRail 0 = .ok (.aload_n 0, 1) := by decide +kernel
theorem dX2_addRail_1 : decode cX2_addRail 1 = .ok (.getfield 69, 3) := by decide +kernel
theorem dX2_addRail_4 : decode cX2_addRail 4 = .ok (.aload_n 0, 1) := by decide +kernel
theorem dX2_addRail_5 : decode cX2_addRail 5 = .ok (.getfield 34, 3) := by decide +kernel
theorem dX2_addRail_8 : decode cX2_addRail 8 = .ok (.arraylength, 1) := by decide +kernel
theorem dX2_addRail_9 : decode cX2_addRail 9 = .ok (.if_icmp .ge 31, 3) := by decide +kernel
theorem dX2_addRail_12 : decode cX2_addRail 12 = .ok (.aload_n 0, 1) := by decide +kernel
theorem dX2_addRail_13 : decode cX2_addRail 13 = .ok (.getfield 34, 3) := by decide +kernel
theorem dX2_addRail_16 : decode cX2_addRail 16 = .ok (.aload_n 0, 1) := by decide +kernel
theorem dX2_addRail_17 : decode cX2_addRail 17 = .ok (.getfield 69, 3) := by decide +kernel
theorem dX2_addRail_20 : decode cX2_addRail 20 = .ok (.aaload, 1) := by decide +kernel
theorem dX2_addRail_21 : decode cX2_addRail 21 = .ok (.lload_n 1, 1) := by decide +kernel
theorem dX2_addRail_22 : decode cX2_addRail 22 = .ok (.iload_n 3, 1) := by decide +kernel
theorem dX2_addRail_23 : decode cX2_addRail 23 = .ok (.iload 4, 2) := by decide +kernel
theorem dX2_addRail_25 : decode cX2_addRail 25 = .ok (.iload 5, 2) := by decide +kernel
theorem dX2_addRail_27 : decode cX2_addRail 27 = .ok (.invokevirtual 131, 3) := by decide +kernel
theorem dX2_addRail_30 : decode cX2_addRail 30 = .ok (.aload_n 0, 1) := by decide +kernel
theorem dX2_addRail_31 : decode cX2_addRail 31 = .ok (.dup, 1) := by decide +kernel
theorem dX2_addRail_32 : decode cX2_addRail 32 = .ok (.getfield 69, 3) := by decide +kernel
theorem dX2_addRail_35 : decode cX2_addRail 35 = .ok (.iconst 1, 1) := by decide +kernel
theorem dX2_addRail_36 : decode cX2_addRail 36 = .ok (.iadd, 1) := by decide +kernel
theorem dX2_addRail_37 : decode cX2_addRail 37 = .ok (.putfield 69, 3) := by decide +kernel
theorem dX2_addRail_40 : decode cX2_addRail 40 = .ok (.return_, 1) := by decide +kernel
theorem dX2_addRust_0 : decode cX2_addRust 0 = .ok (.aload_n 0, 1) := by decide +kernel
theorem dX2_addRust_1 : decode cX2_addRust 1 = .ok (.iload_n 1, 1) := by decide +kernel
theorem dX2_addRust_2 : decode cX2_addRust 2 = .ok (.invokevirtual 135, 3) := by decide +kernel
theorem dX2_addRust_5 : decode cX2_addRust 5 = .ok (.ifCond .eq 26, 3) := by decide +kernel
theorem dX2_addRust_8 : decode cX2_addRust 8 = .ok (.aload_n 0, 1) := by decide +kernel
theorem dX2_addRust_9 : decode cX2_addRust 9 = .ok (.getfield 34, 3) := by decide +kernel
theorem dX2_addRust_12 : decode cX2_addRust 12 = .ok (.iload_n 1, 1) := by decide +kernel
theorem dX2_addRust_13 : decode cX2_addRust 13 = .ok (.aaload, 1) := by decide +kernel
theorem dX2_addRust_14 : decode cX2_addRust 14 = .ok (.iload_n 2, 1) := by decide +kernel
theorem dX2_addRust_15 : decode cX2_addRust 15 = .ok (.iload_n 3, 1) := by decide +kernel
theorem dX2_addRust_16 : decode cX2_addRust 16 = .ok (.iload 4, 2) := by decide +kernel
theorem dX2_addRust_18 : decode cX2_addRust 18 = .ok (.invokevirtual 139, 3) := by decide +kernel
theorem dX2_addRust_21 : decode cX2_addRust 21 = .ok (.aload_n 0, 1) := by decide +kernel
theorem dX2_addRust_22 : decode cX2_addRust 22 = .ok (.dup, 1) := by decide +kernel
theorem dX2_addRust_23 : decode cX2_addRust 23 = .ok (.getfield 72, 3) := by decide +kernel
theorem dX2_addRust_26 : decode cX2_addRust 26 = .ok (.iconst 1, 1) := by decide +kernel
theorem dX2_addRust_27 : decode cX2_addRust 27 = .ok (.iadd, 1) := by decide +kernel
theorem dX2_addRust_28 : decode cX2_addRust 28 = .ok (.putfield 72, 3) := by decide +kernel
theorem dX2_addRust_31 : decode cX2_addRust 31 = .ok (.return_, 1) := by decide +kernel
/-! one more is told -/
section Ad
variable {G : Gp} {S : AMem} {I : Nat → Nat → Int32} {J : Nat → Nat → Int64} {R : Nat → Nat → Option Nat} {c : Nat} {B : BS} {m : MS}
def BSrust (B : BS) (r : Nat) (p q b : Int32) : BS := (B.1, (fun i j => if i = r ∧ p ≤ nI j ∧ nI j ≤ q then B.rust i j + b else B.rust i j), B.2.2)
theorem k_X2_addRust {r : Nat} {p q b : Int32} (hG : okG G) (hct : CT S R c) (hB : AbB I c B) (hm : AbM I c B m) (hr0 : r < B.nR) : Fn G mX2_addRust 1 [vR c, vI (nI r), vI p, vI q, vI b] (mw S I J R) (fun rr M1 => rr = none ∧ ∃ I1, M1 = mw S I1 J R ∧ AbB I1 c (BSrust B r p q b) ∧ AbM I1 c (BSrust B r p q b) m ∧ I1 c 9 = I c 9 + 1 ∧ OffC c I I1 ∧ (∀ j, I1 (c + 1) j = I (c + 1) j) ∧ I1 (c + 2) = I (c + 2) ∧ I1 (c + 3) = I (c + 3)) := by
  have hct2 := hct
  obtain ⟨kc, rc0, rc1, rc2, rc3, rc4, rc5, rc6, rc7, ⟨kd, rd0, rd1, rd2, kd2, ld2, kd3, ld3, kd4, ld4⟩, ⟨kb, rb, kb6, lb6⟩, ⟨kf, rf, kf8, lf8⟩, ⟨kr, lr, hr⟩, ⟨kfi, lfi, hfi⟩, ⟨kp, lp, hpz⟩, ⟨kt, lt, htu⟩, kw, lw⟩ := id hct2
  obtain ⟨⟨u1, u2⟩, _⟩ := id hB
  obtain ⟨r1, r2, r3, r4, r5⟩ := hr r (by omega)
  have hinR : vp_in (nI r) (S.ln (c + 9)) := by rw [lr]; exact vp_in_nI (by omega) (by decide)
  have hRR : R (c + 9) (nI r).toNatClampNeg = some (c + 14 + 2 * r) := by rw [nI_clamp (by omega)]; exact r1
  refine am_aload_n (q := 1) dX2_addRust_0 rfl rfl ?_
  refine am_iload_n (q := 2) dX2_addRust_1 rfl rfl ?_
  refine cm_call0 (q := 5) (As := [_]) hG dX2_addRust_2 mlX2_135 rfl (by assumption) ⟨_, _, rfl⟩ (Nat.le_of_ble_eq_true rfl) (Nat.le_of_ble_eq_true rfl) (Nat.le_of_ble_eq_true rfl) (Nat.le_of_ble_eq_true rfl) (k_X2_hasRail hct u1 u2) rfl ?_
  rintro _ _ ⟨rfl, rfl⟩
  refine am_if_eq (tgt := 31) (q := 8) dX2_addRust_5 rfl rfl (fun hz => absurd hz (bI_n0.mpr (k_inr hr0 (by omega)))) (fun _ => ?_)
  refine am_aload_n (q := 9) dX2_addRust_8 rfl rfl ?_
  refine cm_getR (q := 12) dX2_addRust_9 flX2_34 rfl (by assumption) (by assumption) rfl ?_
  refine am_iload_n (q := 13) dX2_addRust_12 rfl rfl ?_
  refine cm_aaloadK (q := 14) dX2_addRust_13 (by assumption) (by decide) hinR hRR rfl ?_
  refine am_iload_n (q := 15) dX2_addRust_14 rfl rfl ?_
  refine am_iload_n (q := 16) dX2_addRust_15 rfl rfl ?_
  refine am_iload (q := 18) dX2_addRust_16 rfl rfl ?_
  refine cm_call0 (q := 21) (As := [_, _, _]) hG dX2_addRust_18 mlX2_139 rfl (by assumption) ⟨_, _, rfl⟩ (Nat.le_of_ble_eq_true rfl) (Nat.le_of_ble_eq_true rfl) (Nat.le_of_ble_eq_true rfl) (Nat.le_of_ble_eq_true rfl) (k_X6_addRust r2 r3 r4 r5) rfl ?_
  rintro _ _ ⟨rfl, rfl⟩
  refine k_nm (P := fun I2 => MW G mX2_addRust 1 21 _ _ (mw S I2 J R) _) _ ?_
  intro I2 hI2
  refine am_aload_n (q := 22) dX2_addRust_21 rfl rfl ?_
  refine am_dup (q := 23) dX2_addRust_22 rfl rfl ?_
  refine cm_getI (q := 26) dX2_addRust_23 flX2_72 rfl (by assumption) rfl ?_
  have e9 : I2 c 9 = I c 9 := by rw [hI2, if_neg (by omega)]
  rw [e9]
  have key : ∀ x j, up2 I2 c 9 (I c 9 + 1) x j = if x = c ∧ j = 9 then I c 9 + 1 else if x = c + 15 + 2 * r ∧ j < 100 ∧ p ≤ nI j ∧ nI j ≤ q then I x j + b else I x j := fun x j => by rw [up2_at, hI2]
  refine am_iconst (q := 27) (v := 1) dX2_addRust_26 kc_i1 rfl ?_
  refine am_iadd (q := 28) dX2_addRust_27 rfl ?_
  refine cm_putI (q := 31) dX2_addRust_28 flX2_72 rfl (Or.inl rfl) (Or.inl rfl) (by assumption) rfl ?_
  generalize up2 I2 c 9 (I c 9 + 1) = I3 at key ⊢
  have o : ∀ x j, ¬ (x = c ∧ j = 9) → x ≠ c + 15 + 2 * r → I3 x j = I x j := fun x j q1 q2 => by rw [key, if_neg q1, if_neg (fun z => q2 z.1)]
  have hB3 : AbB I3 c (BSrust B r p q b) := by
    obtain ⟨⟨a1, a2⟩, ⟨a3, a4⟩, ⟨a5, a6⟩, ⟨a7, a8⟩, b1, b2, z, b3, b4, b5, b6⟩ := hB
    have q2 : I3 (c + 2) = I (c + 2) := funext fun j => o _ _ (by omega) (by omega)
    have q3 : I3 (c + 3) = I (c + 3) := funext fun j => o _ _ (by omega) (by omega)
    have qs : ∀ p r s, SegC I c p r s → SegC I3 c p r s := by
      intro p r s hs rd
      rw [q2, q3]
      exact hs rd
    refine ⟨⟨(o _ _ (by omega) (by omega)).trans a1, a2⟩, ⟨(o _ _ (by omega) (by omega)).trans a3, a4⟩, ⟨(o _ _ (by omega) (by omega)).trans a5, a6⟩, ⟨(o _ _ (by omega) (by omega)).trans a7, a8⟩, ?_, ?_, z, (o _ _ (by omega) (by omega)).trans b3, b4, ?_, ?_⟩
    · intro i hi j hj
      have hi2 : i < B.nR := hi
      show I3 _ _ = if i = r ∧ p ≤ nI j ∧ nI j ≤ q then B.rust i j + b else B.rust i j
      rw [key, if_neg (by omega), b1 i hi2 j hj]
      by_cases e : i = r ∧ p ≤ nI j ∧ nI j ≤ q
      · rw [if_pos e, if_pos ⟨by omega, hj, e.2⟩]
      · rw [if_neg e, if_neg (fun w => e ⟨by omega, w.2.2⟩)]
    · intro i hi
      have hi2 : i < B.nT := hi
      rw [o _ _ (by omega) (by omega), o _ _ (by omega) (by omega)]
      exact b2 i hi
    · intro i hi
      have hi2 : i < B.nT := hi
      obtain ⟨p1, r1, e1, e2, e3, e4, e5⟩ := b5 i hi
      refine ⟨p1, r1, (o _ _ (by omega) (by omega)).trans e1, (o _ _ (by omega) (by omega)).trans e2, e3, e4, ?_⟩
      show match B.tt i with | none => p1 = r1 | some s => p1 < r1 ∧ SegC I3 c p1 r1 s
      cases hh : B.tt i with
      | none => rw [hh] at e5; exact e5
      | some s => rw [hh] at e5; exact ⟨e5.1, qs _ _ _ e5.2⟩
    · intro i hi
      obtain ⟨p1, r1, t1, e1, e2, e3, e4, e5, e6, e7, e8⟩ := b6 i hi
      exact ⟨p1, r1, t1, (o _ _ (by omega) (by omega)).trans e1, (o _ _ (by omega) (by omega)).trans e2, (o _ _ (by omega) (by omega)).trans e3, e4, e5, e6, qs _ _ _ e7, qs _ _ _ e8⟩
  have hm3 : AbM I3 c (BSrust B r p q b) m := by
    have u5 : B.nF ≤ 8 := hB.2.1.2
    have u6 : B.nP ≤ 8 := hB.2.2.1.2
    obtain ⟨a1, a2, a3, a4, a5, a6, a7, a8, a9, a10, a11⟩ := hm
    exact ⟨fun i hi j hj => (o _ _ (by omega) (by omega)).trans (a1 i hi j hj), fun i hi j hj => (o _ _ (by omega) (by omega)).trans (a2 i hi j hj), fun i hi j hj => (o _ _ (by omega) (by omega)).trans (a3 i hi j hj), fun j hj => (o _ _ (by omega) (by omega)).trans (a4 j hj), (o _ _ (by omega) (by omega)).trans a5, fun k hk => by rw [o _ _ (by omega) (by omega)]; exact a6 k hk, fun k hk => (o _ _ (by omega) (by omega)).trans (a7 k hk), (o _ _ (by omega) (by omega)).trans a8, a9, a10, fun i hi => by rw [o _ _ (by omega) (by omega)]; exact a11 i hi⟩
  exact am_ret dX2_addRust_31 rfl ⟨_, rfl, rfl, I3, rfl, hB3, hm3, by rw [key, if_pos ⟨rfl, rfl⟩], fun x j w => o _ _ (by omega) (by omega), fun j => o _ _ (by omega) (by omega), funext fun j => o _ _ (by omega) (by omega), funext fun j => o _ _ (by omega) (by omega)⟩
def BSfist (B : BS) : BS := ((B.nR, B.nF + 1, B.nP, B.nT), B.2)
def MSfist (m : MS) (f : Nat) (p q r : Int32) : MS := mkMS (fun i j => if i = f then (if j = 0 then p else if j = 1 then q else if j = 2 then r else 0) else m.fist i j) m.rail m.prize m.g m.row m.bd m.nb
theorem k_X2_addFist {v : Int64} {p q r : Int32} (hG : okG G) (hct : CT S R c) (hB : AbB I c B) (hm : AbM I c B m) (hf : B.nF < 8) : Fn G mX2_addFist 1 [vR c, vJ v, vI p, vI q, vI r] (mw S I J R) (fun rr M1 => rr = none ∧ ∃ I1, M1 = mw S I1 (up2 J (c + 22 + B.nF) 0 v) R ∧ AbB I1 c (BSfist B) ∧ AbM I1 c (BSfist B) (MSfist m B.nF p q r) ∧ I1 c 9 = I c 9 ∧ OffC c I I1 ∧ (∀ j, I1 (c + 1) j = I (c + 1) j) ∧ I1 (c + 2) = I (c + 2) ∧ I1 (c + 3) = I (c + 3)) := by
  have hct2 := hct
  obtain ⟨kc, rc0, rc1, rc2, rc3, rc4, rc5, rc6, rc7, ⟨kd, rd0, rd1, rd2, kd2, ld2, kd3, ld3, kd4, ld4⟩, ⟨kb, rb, kb6, lb6⟩, ⟨kf, rf, kf8, lf8⟩, ⟨kr, lr, hr⟩, ⟨kfi, lfi, hfi⟩, ⟨kp, lp, hpz⟩, ⟨kt, lt, htu⟩, kw, lw⟩ := id hct2
  have v3 : I c 10 = nI B.nF := hB.2.1.1
  obtain ⟨f1, f2⟩ := hfi B.nF hf
  have hin : vp_in (nI B.nF) (S.ln (c + 10)) := by rw [lfi]; exact vp_in_nI (by omega) (by decide)
  have hR : R (c + 10) (nI B.nF).toNatClampNeg = some (c + 22 + B.nF) := by rw [nI_clamp (by omega)]; exact f1
  refine am_aload_n (q := 1) dX2_addFist_0 rfl rfl ?_
  refine cm_getI (q := 4) dX2_addFist_1 flX2_75 rfl (by assumption) rfl ?_
  rw [v3]
  refine am_aload_n (q := 5) dX2_addFist_4 rfl rfl ?_
  refine cm_getR (q := 8) dX2_addFist_5 flX2_40 rfl (by assumption) (by assumption) rfl ?_
  refine cm_alenK (q := 9) dX2_addFist_8 (by assumption) (by decide) (by rw [lfi] : nI (S.ln (c + 10)) = nI 8) rfl ?_
  refine am_icmp_ge (tgt := 40) (q := 12) dX2_addFist_9 rfl rfl (fun hz => absurd hz (nI_ge (by omega) (by decide))) (fun _ => ?_)
  refine am_aload_n (q := 13) dX2_addFist_12 rfl rfl ?_
  refine cm_getR (q := 16) dX2_addFist_13 flX2_40 rfl (by assumption) (by assumption) rfl ?_
  refine am_aload_n (q := 17) dX2_addFist_16 rfl rfl ?_
  refine cm_getI (q := 20) dX2_addFist_17 flX2_75 rfl (by assumption) rfl ?_
  rw [v3]
  refine cm_aaloadK (q := 21) dX2_addFist_20 (by assumption) (by decide) hin hR rfl ?_
  refine am_lload_n (q := 22) dX2_addFist_21 rfl rfl ?_
  refine am_iload_n (q := 23) dX2_addFist_22 rfl rfl ?_
  refine am_iload (q := 25) dX2_addFist_23 rfl rfl ?_
  refine am_iload (q := 27) dX2_addFist_25 rfl rfl ?_
  refine cm_call0 (q := 30) (As := [_, _, _, _]) hG dX2_addFist_27 mlX2_143 rfl (by assumption) ⟨_, _, rfl⟩ (Nat.le_of_ble_eq_true rfl) (Nat.le_of_ble_eq_true rfl) (Nat.le_of_ble_eq_true rfl) (Nat.le_of_ble_eq_true rfl) (k_X3_tell f2) rfl ?_
  rintro _ _ ⟨rfl, rfl⟩
  refine k_nm (P := fun I2 => MW G mX2_addFist 1 30 _ _ (mw S I2 _ R) _) _ ?_
  intro I2 hI2
  have k2 : ∀ x j, I2 x j = if x = c + 22 + B.nF ∧ 1 ≤ j ∧ j ≤ 9 then (if j = 1 then p else if j = 2 then q else if j = 3 then r else 0) else I x j := fun x j => by
    rw [hI2]
    simp only [up2_at]
    grind (splits := 40)
  refine am_aload_n (q := 31) dX2_addFist_30 rfl rfl ?_
  refine am_dup (q := 32) dX2_addFist_31 rfl rfl ?_
  refine cm_getI (q := 35) dX2_addFist_32 flX2_75 rfl (by assumption) rfl ?_
  have e10 : I2 c 10 = nI B.nF := by rw [k2, if_neg (by omega)]; exact v3
  rw [e10]
  have key : ∀ x j, up2 I2 c 10 (nI B.nF + 1) x j = if x = c ∧ j = 10 then nI (B.nF + 1) else if x = c + 22 + B.nF ∧ 1 ≤ j ∧ j ≤ 9 then (if j = 1 then p else if j = 2 then q else if j = 3 then r else 0) else I x j := fun x j => by rw [up2_at, k2, nI_1]
  refine am_iconst (q := 36) (v := 1) dX2_addFist_35 kc_i1 rfl ?_
  refine am_iadd (q := 37) dX2_addFist_36 rfl ?_
  refine cm_putI (q := 40) dX2_addFist_37 flX2_75 rfl (Or.inl rfl) (Or.inl rfl) (by assumption) rfl ?_
  generalize up2 I2 c 10 (nI B.nF + 1) = I3 at key ⊢
  have o : ∀ x j, ¬ (x = c ∧ j = 10) → ¬ (x = c + 22 + B.nF ∧ 1 ≤ j ∧ j ≤ 9) → I3 x j = I x j := fun x j q1 q2 => by rw [key, if_neg q1, if_neg q2]
  have hB3 : AbB I3 c (BSfist B) := by
    obtain ⟨⟨a1, a2⟩, ⟨a3, a4⟩, ⟨a5, a6⟩, ⟨a7, a8⟩, b1, b2, z, b3, b4, b5, b6⟩ := hB
    have q2 : I3 (c + 2) = I (c + 2) := funext fun j => o _ _ (by omega) (by omega)
    have q3 : I3 (c + 3) = I (c + 3) := funext fun j => o _ _ (by omega) (by omega)
    have qs : ∀ p r s, SegC I c p r s → SegC I3 c p r s := by
      intro p r s hs rd
      rw [q2, q3]
      exact hs rd
    refine ⟨⟨(o _ _ (by omega) (by omega)).trans a1, a2⟩, ⟨by rw [key, if_pos ⟨rfl, rfl⟩]; rfl, hf⟩, ⟨(o _ _ (by omega) (by omega)).trans a5, a6⟩, ⟨(o _ _ (by omega) (by omega)).trans a7, a8⟩, ?_, ?_, z, (o _ _ (by omega) (by omega)).trans b3, b4, ?_, ?_⟩
    · intro i hi j hj
      have hi2 : i < B.nR := hi
      rw [o _ _ (by omega) (by omega)]
      exact b1 i hi2 j hj
    · intro i hi
      have hi2 : i < B.nT := hi
      rw [o _ _ (by omega) (by omega), o _ _ (by omega) (by omega)]
      obtain ⟨c1, c2, c3, c4⟩ := b2 i hi2
      exact ⟨c1, Nat.lt_succ_of_lt c2, c3, c4⟩
    · intro i hi
      have hi2 : i < B.nT := hi
      obtain ⟨p1, r1, e1, e2, e3, e4, e5⟩ := b5 i hi2
      refine ⟨p1, r1, (o _ _ (by omega) (by omega)).trans e1, (o _ _ (by omega) (by omega)).trans e2, e3, e4, ?_⟩
      show match B.tt i with | none => p1 = r1 | some s => p1 < r1 ∧ SegC I3 c p1 r1 s
      cases hh : B.tt i with
      | none => rw [hh] at e5; exact e5
      | some s => rw [hh] at e5; exact ⟨e5.1, qs _ _ _ e5.2⟩
    · intro i hi
      have hi2 : i < B.nP := hi
      obtain ⟨p1, r1, t1, e1, e2, e3, e4, e5, e6, e7, e8⟩ := b6 i hi2
      exact ⟨p1, r1, t1, (o _ _ (by omega) (by omega)).trans e1, (o _ _ (by omega) (by omega)).trans e2, (o _ _ (by omega) (by omega)).trans e3, e4, e5, e6, qs _ _ _ e7, qs _ _ _ e8⟩
  have hm3 : AbM I3 c (BSfist B) (MSfist m B.nF p q r) := by
    have u5 : B.nR ≤ 4 := hB.1.2
    have u6 : B.nP ≤ 8 := hB.2.2.1.2
    obtain ⟨a1, a2, a3, a4, a5, a6, a7, a8, a9, a10, a11⟩ := hm
    refine ⟨fun i hi j hj => ?_, fun i hi j hj => ?_, fun i hi j hj => ?_, fun j hj => (o _ _ (by omega) (by omega)).trans (a4 j hj), (o _ _ (by omega) (by omega)).trans a5, fun k hk => by rw [o _ _ (by omega) (by omega)]; exact a6 k hk, fun k hk => (o _ _ (by omega) (by omega)).trans (a7 k hk), (o _ _ (by omega) (by omega)).trans a8, a9, a10, fun i hi => ?_⟩
    · have hi2 : i < B.nF + 1 := hi
      show I3 _ _ = if i = B.nF then (if j = 0 then p else if j = 1 then q else if j = 2 then r else 0) else m.fist i j
      by_cases e : i = B.nF
      · rw [if_pos e, key, if_neg (by omega), if_pos ⟨by omega, by omega, by omega⟩]
        grind
      · rw [if_neg e, o _ _ (by omega) (by omega)]
        exact a1 i (by omega) j hj
    · have hi2 : i < B.nR := hi
      exact (o _ _ (by omega) (by omega)).trans (a2 i hi2 j hj)
    · have hi2 : i < B.nP := hi
      exact (o _ _ (by omega) (by omega)).trans (a3 i hi2 j hj)
    · rw [key, if_neg (by omega)]
      by_cases e : c + 22 + i = c + 22 + B.nF ∧ 1 ≤ 9 ∧ 9 ≤ 9
      · rw [if_pos e]
        exact Or.inl rfl
      · rw [if_neg e]
        exact a11 i hi
  exact am_ret dX2_addFist_40 rfl ⟨_, rfl, rfl, I3, rfl, hB3, hm3, o _ _ (by omega) (by omega), fun x j w => o _ _ (by omega) (by omega), fun j => o _ _ (by omega) (by omega), funext fun j => o _ _ (by omega) (by omega), funext fun j => o _ _ (by omega) (by omega)⟩
def BSrail (B : BS) : BS := ((B.nR + 1, B.nF, B.nP, B.nT), (fun i j => if i = B.nR then 0 else B.rust i j), B.2.2)
def MSrail (m : MS) (n : Nat) (p q r : Int32) : MS := mkMS m.fist (fun i j => if i = n then (if j = 0 then p else if j = 1 then q else if j = 2 then r else 0) else m.rail i j) m.prize m.g m.row m.bd m.nb
theorem k_X2_addRail {v : Int64} {p q r : Int32} (hG : okG G) (hct : CT S R c) (hB : AbB I c B) (hm : AbM I c B m) (hf : B.nR < 4) (hq : 0 < q) : Fn G mX2_addRail 1 [vR c, vJ v, vI p, vI q, vI r] (mw S I J R) (fun rr M1 => rr = none ∧ ∃ I1, M1 = mw S I1 (up2 J (c + 14 + 2 * B.nR) 1 v) R ∧ AbB I1 c (BSrail B) ∧ AbM I1 c (BSrail B) (MSrail m B.nR p q r) ∧ I1 c 9 = I c 9 ∧ OffC c I I1 ∧ (∀ j, I1 (c + 1) j = I (c + 1) j) ∧ I1 (c + 2) = I (c + 2) ∧ I1 (c + 3) = I (c + 3)) := by
  have hct2 := hct
  obtain ⟨kc, rc0, rc1, rc2, rc3, rc4, rc5, rc6, rc7, ⟨kd, rd0, rd1, rd2, kd2, ld2, kd3, ld3, kd4, ld4⟩, ⟨kb, rb, kb6, lb6⟩, ⟨kf, rf, kf8, lf8⟩, ⟨kr, lr, hr⟩, ⟨kfi, lfi, hfi⟩, ⟨kp, lp, hpz⟩, ⟨kt, lt, htu⟩, kw, lw⟩ := id hct2
  have v3 : I c 8 = nI B.nR := hB.1.1
  obtain ⟨f1, f2, f3, f4, f5⟩ := hr B.nR hf
  have hin : vp_in (nI B.nR) (S.ln (c + 9)) := by rw [lr]; exact vp_in_nI (by omega) (by decide)
  have hR : R (c + 9) (nI B.nR).toNatClampNeg = some (c + 14 + 2 * B.nR) := by rw [nI_clamp (by omega)]; exact f1
  have hne : c + 14 + 2 * B.nR ≠ c + 15 + 2 * B.nR := by omega
  refine am_aload_n (q := 1) dX2_addRail_0 rfl rfl ?_
  refine cm_getI (q := 4) dX2_addRail_1 flX2_69 rfl (by assumption) rfl ?_
  rw [v3]
  refine am_aload_n (q := 5) dX2_addRail_4 rfl rfl ?_
  refine cm_getR (q := 8) dX2_addRail_5 flX2_34 rfl (by assumption) (by assumption) rfl ?_
  refine cm_alenK (q := 9) dX2_addRail_8 (by assumption) (by decide) (by rw [lr] : nI (S.ln (c + 9)) = nI 4) rfl ?_
  refine am_icmp_ge (tgt := 40) (q := 12) dX2_addRail_9 rfl rfl (fun hz => absurd hz (nI_ge (by omega) (by decide))) (fun _ => ?_)
  refine am_aload_n (q := 13) dX2_addRail_12 rfl rfl ?_
  refine cm_getR (q := 16) dX2_addRail_13 flX2_34 rfl (by assumption) (by assumption) rfl ?_
  refine am_aload_n (q := 17) dX2_addRail_16 rfl rfl ?_
  refine cm_getI (q := 20) dX2_addRail_17 flX2_69 rfl (by assumption) rfl ?_
  rw [v3]
  refine cm_aaloadK (q := 21) dX2_addRail_20 (by assumption) (by decide) hin hR rfl ?_
  refine am_lload_n (q := 22) dX2_addRail_21 rfl rfl ?_
  refine am_iload_n (q := 23) dX2_addRail_22 rfl rfl ?_
  refine am_iload (q := 25) dX2_addRail_23 rfl rfl ?_
  refine am_iload (q := 27) dX2_addRail_25 rfl rfl ?_
  refine cm_call0 (q := 30) (As := [_, _, _, _]) hG dX2_addRail_27 mlX2_131 rfl (by assumption) ⟨_, _, rfl⟩ (Nat.le_of_ble_eq_true rfl) (Nat.le_of_ble_eq_true rfl) (Nat.le_of_ble_eq_true rfl) (Nat.le_of_ble_eq_true rfl) (k_X6_tell f2 f3 f4 f5 hne) rfl ?_
  rintro _ _ ⟨rfl, rfl⟩
  refine k_nm (P := fun I2 => MW G mX2_addRail 1 30 _ _ (mw S I2 _ R) _) _ ?_
  intro I2 hI2
  have k2 : ∀ x j, I2 x j = if x = c + 15 + 2 * B.nR ∧ j < 100 then 0 else if x = c + 14 + 2 * B.nR ∧ 2 ≤ j ∧ j ≤ 6 then (if j = 2 then p else if j = 3 then q else if j = 4 then r else 0) else I x j := fun x j => by
    rw [hI2]
    simp only [up2_at]
    grind (splits := 40)
  refine am_aload_n (q := 31) dX2_addRail_30 rfl rfl ?_
  refine am_dup (q := 32) dX2_addRail_31 rfl rfl ?_
  refine cm_getI (q := 35) dX2_addRail_32 flX2_69 rfl (by assumption) rfl ?_
  have e10 : I2 c 8 = nI B.nR := by rw [k2, if_neg (by omega), if_neg (by omega)]; exact v3
  rw [e10]
  have key : ∀ x j, up2 I2 c 8 (nI B.nR + 1) x j = if x = c ∧ j = 8 then nI (B.nR + 1) else if x = c + 15 + 2 * B.nR ∧ j < 100 then 0 else if x = c + 14 + 2 * B.nR ∧ 2 ≤ j ∧ j ≤ 6 then (if j = 2 then p else if j = 3 then q else if j = 4 then r else 0) else I x j := fun x j => by rw [up2_at, k2, nI_1]
  refine am_iconst (q := 36) (v := 1) dX2_addRail_35 kc_i1 rfl ?_
  refine am_iadd (q := 37) dX2_addRail_36 rfl ?_
  refine cm_putI (q := 40) dX2_addRail_37 flX2_69 rfl (Or.inl rfl) (Or.inl rfl) (by assumption) rfl ?_
  generalize up2 I2 c 8 (nI B.nR + 1) = I3 at key ⊢
  have o : ∀ x j, ¬ (x = c ∧ j = 8) → x ≠ c + 15 + 2 * B.nR → x ≠ c + 14 + 2 * B.nR → I3 x j = I x j := fun x j q1 q2 q3 => by rw [key, if_neg q1, if_neg (fun w => q2 w.1), if_neg (fun w => q3 w.1)]
  have hB3 : AbB I3 c (BSrail B) := by
    obtain ⟨⟨a1, a2⟩, ⟨a3, a4⟩, ⟨a5, a6⟩, ⟨a7, a8⟩, b1, b2, z, b3, b4, b5, b6⟩ := hB
    have q2 : I3 (c + 2) = I (c + 2) := funext fun j => o _ _ (by omega) (by omega) (by omega)
    have q3 : I3 (c + 3) = I (c + 3) := funext fun j => o _ _ (by omega) (by omega) (by omega)
    have qs : ∀ p r s, SegC I c p r s → SegC I3 c p r s := by
      intro p r s hs rd
      rw [q2, q3]
      exact hs rd
    refine ⟨⟨by rw [key, if_pos ⟨rfl, rfl⟩]; rfl, hf⟩, ⟨(o _ _ (by omega) (by omega) (by omega)).trans a3, a4⟩, ⟨(o _ _ (by omega) (by omega) (by omega)).trans a5, a6⟩, ⟨(o _ _ (by omega) (by omega) (by omega)).trans a7, a8⟩, ?_, ?_, z, (o _ _ (by omega) (by omega) (by omega)).trans b3, b4, ?_, ?_⟩
    · intro i hi j hj
      have hi2 : i < B.nR + 1 := hi
      show I3 _ _ = if i = B.nR then 0 else B.rust i j
      by_cases e : i = B.nR
      · rw [if_pos e, key, if_neg (by omega), if_pos ⟨by omega, hj⟩]
      · rw [if_neg e, o _ _ (by omega) (by omega) (by omega)]
        exact b1 i (by omega) j hj
    · intro i hi
      have hi2 : i < B.nT := hi
      rw [o _ _ (by omega) (by omega) (by omega), o _ _ (by omega) (by omega) (by omega)]
      obtain ⟨c1, c2, c3, c4⟩ := b2 i hi2
      exact ⟨c1, c2, c3, Nat.lt_succ_of_lt c4⟩
    · intro i hi
      have hi2 : i < B.nT := hi
      obtain ⟨p1, r1, e1, e2, e3, e4, e5⟩ := b5 i hi2
      refine ⟨p1, r1, (o _ _ (by omega) (by omega) (by omega)).trans e1, (o _ _ (by omega) (by omega) (by omega)).trans e2, e3, e4, ?_⟩
      show match B.tt i with | none => p1 = r1 | some s => p1 < r1 ∧ SegC I3 c p1 r1 s
      cases hh : B.tt i with
      | none => rw [hh] at e5; exact e5
      | some s => rw [hh] at e5; exact ⟨e5.1, qs _ _ _ e5.2⟩
    · intro i hi
      have hi2 : i < B.nP := hi
      obtain ⟨p1, r1, t1, e1, e2, e3, e4, e5, e6, e7, e8⟩ := b6 i hi2
      exact ⟨p1, r1, t1, (o _ _ (by omega) (by omega) (by omega)).trans e1, (o _ _ (by omega) (by omega) (by omega)).trans e2, (o _ _ (by omega) (by omega) (by omega)).trans e3, e4, e5, e6, qs _ _ _ e7, qs _ _ _ e8⟩
  have hm3 : AbM I3 c (BSrail B) (MSrail m B.nR p q r) := by
    have u5 : B.nF ≤ 8 := hB.2.1.2
    have u6 : B.nP ≤ 8 := hB.2.2.1.2
    obtain ⟨a1, a2, a3, a4, a5, a6, a7, a8, a9, a10, a11⟩ := hm
    refine ⟨fun i hi j hj => ?_, fun i hi j hj => ?_, fun i hi j hj => ?_, fun j hj => (o _ _ (by omega) (by omega) (by omega)).trans (a4 j hj), (o _ _ (by omega) (by omega) (by omega)).trans a5, fun k hk => by rw [o _ _ (by omega) (by omega) (by omega)]; exact a6 k hk, fun k hk => (o _ _ (by omega) (by omega) (by omega)).trans (a7 k hk), (o _ _ (by omega) (by omega) (by omega)).trans a8, a9, fun i hi => ?_, fun i hi => by rw [o _ _ (by omega) (by omega) (by omega)]; exact a11 i hi⟩
    · have hi2 : i < B.nF := hi
      exact (o _ _ (by omega) (by omega) (by omega)).trans (a1 i hi2 j hj)
    · have hi2 : i < B.nR + 1 := hi
      show I3 _ _ = if i = B.nR then (if j = 0 then p else if j = 1 then q else if j = 2 then r else 0) else m.rail i j
      by_cases e : i = B.nR
      · rw [if_pos e, key, if_neg (by omega), if_neg (by omega), if_pos ⟨by omega, by omega, by omega⟩]
        grind
      · rw [if_neg e, o _ _ (by omega) (by omega) (by omega)]
        exact a2 i (by omega) j hj
    · have hi2 : i < B.nP := hi
      exact (o _ _ (by omega) (by omega) (by omega)).trans (a3 i hi2 j hj)
    · have hi2 : i < B.nR + 1 := hi
      show 0 < if i = B.nR then (if 1 = 0 then p else if 1 = 1 then q else if 1 = 2 then r else 0) else m.rail i 1
      by_cases e : i = B.nR
      · rw [if_pos e]
        exact hq
      · rw [if_neg e]
        exact a10 i (by omega)
  exact am_ret dX2_addRail_40 rfl ⟨_, rfl, rfl, I3, rfl, hB3, hm3, o _ _ (by omega) (by omega) (by omega), fun x j w => o _ _ (by omega) (by omega) (by omega), fun j => o _ _ (by omega) (by omega) (by omega), funext fun j => o _ _ (by omega) (by omega) (by omega), funext fun j => o _ _ (by omega) (by omega) (by omega)⟩
end Ad

