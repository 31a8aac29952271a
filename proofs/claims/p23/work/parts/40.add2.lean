theorem dX2_addPrize_0 : decode cX2_addPrize 0 = .ok (.aload_n 0, 1) := by decide +kernel
theorem dX2_addPrize_1 : decode cX2_addPrize 1 = .ok (.getfield 78, 3) := by decide +kernel
theorem dX2_addPrize_4 : decode cX2_addPrize 4 = .ok (.aload_n 0, 1) := by decide +kernel
theorem dX2_addPrize_5 : decode cX2_addPrize 5 = .ok (.getfield 46, 3) := by decide +kernel
theorem dX2_addPrize_8 : decode cX2_addPrize 8 = .ok (.arraylength, 1) := by decide +kernel
theorem dX2_addPrize_9 : decode cX2_addPrize 9 = .ok (.if_icmp .ge 33, 3) := by decide +kernel
theorem dX2_addPrize_12 : decode cX2_addPrize 12 = .ok (.aload_n 0, 1) := by decide +kernel
theorem dX2_addPrize_13 : decode cX2_addPrize 13 = .ok (.getfield 46, 3) := by decide +kernel
theorem dX2_addPrize_16 : decode cX2_addPrize 16 = .ok (.aload_n 0, 1) := by decide +kernel
theorem dX2_addPrize_17 : decode cX2_addPrize 17 = .ok (.getfield 78, 3) := by decide +kernel
theorem dX2_addPrize_20 : decode cX2_addPrize 20 = .ok (.aaload, 1) := by decide +kernel
theorem dX2_addPrize_21 : decode cX2_addPrize 21 = .ok (.lload_n 1, 1) := by decide +kernel
theorem dX2_addPrize_22 : decode cX2_addPrize 22 = .ok (.iload_n 3, 1) := by decide +kernel
theorem dX2_addPrize_23 : decode cX2_addPrize 23 = .ok (.iload 4, 2) := by decide +kernel
theorem dX2_addPrize_25 : decode cX2_addPrize 25 = .ok (.iload 5, 2) := by decide +kernel
theorem dX2_addPrize_27 : decode cX2_addPrize 27 = .ok (.iload 6, 2) := by decide +kernel
theorem dX2_addPrize_29 : decode cX2_addPrize 29 = .ok (.invokevirtual 144, 3) := by decide +kernel
theorem dX2_addPrize_32 : decode cX2_addPrize 32 = .ok (.aload_n 0, 1) := by decide +kernel
theorem dX2_addPrize_33 : decode cX2_addPrize 33 = .ok (.dup, 1) := by decide +kernel
theorem dX2_addPrize_34 : decode cX2_addPrize 34 = .ok (.getfield 78, 3) := by decide +kernel
theorem dX2_addPrize_37 : decode cX2_addPrize 37 = .ok (.iconst 1, 1) := by decide +kernel
theorem dX2_addPrize_38 : decode cX2_addPrize 38 = .ok (.iadd, 1) := by decide +kernel
theorem dX2_addPrize_39 : decode cX2_addPrize 39 = .ok (.putfield 78, 3) := by decide +kernel
theorem dX2_addPrize_42 : decode cX2_addPrize 42 = .ok (.return_, 1) := by decide +kernel
theorem dX2_addTurn_0 : decode cX2_addTurn 0 = .ok (.aload_n 0, 1) := by decide +kernel
theorem dX2_addTurn_1 : decode cX2_addTurn 1 = .ok (.getfield 81, 3) := by decide +kernel
theorem dX2_addTurn_4 : decode cX2_addTurn 4 = .ok (.aload_n 0, 1) := by decide +kernel
theorem dX2_addTurn_5 : decode cX2_addTurn 5 = .ok (.getfield 52, 3) := by decide +kernel
theorem dX2_addTurn_8 : decode cX2_addTurn 8 = .ok (.arraylength, 1) := by decide +kernel
theorem dX2_addTurn_9 : decode cX2_addTurn 9 = .ok (.if_icmp .ge 55, 3) := by decide +kernel
theorem dX2_addTurn_12 : decode cX2_addTurn 12 = .ok (.aload_n 0, 1) := by decide +kernel
theorem dX2_addTurn_13 : decode cX2_addTurn 13 = .ok (.getfield 81, 3) := by decide +kernel
theorem dX2_addTurn_16 : decode cX2_addTurn 16 = .ok (.aload_n 0, 1) := by decide +kernel
theorem dX2_addTurn_17 : decode cX2_addTurn 17 = .ok (.getfield 56, 3) := by decide +kernel
theorem dX2_addTurn_20 : decode cX2_addTurn 20 = .ok (.arraylength, 1) := by decide +kernel
theorem dX2_addTurn_21 : decode cX2_addTurn 21 = .ok (.if_icmp .ge 43, 3) := by decide +kernel
theorem dX2_addTurn_24 : decode cX2_addTurn 24 = .ok (.aload_n 0, 1) := by decide +kernel
theorem dX2_addTurn_25 : decode cX2_addTurn 25 = .ok (.getfield 52, 3) := by decide +kernel
theorem dX2_addTurn_28 : decode cX2_addTurn 28 = .ok (.aload_n 0, 1) := by decide +kernel
theorem dX2_addTurn_29 : decode cX2_addTurn 29 = .ok (.getfield 81, 3) := by decide +kernel
theorem dX2_addTurn_32 : decode cX2_addTurn 32 = .ok (.aaload, 1) := by decide +kernel
theorem dX2_addTurn_33 : decode cX2_addTurn 33 = .ok (.iload_n 1, 1) := by decide +kernel
theorem dX2_addTurn_34 : decode cX2_addTurn 34 = .ok (.iload_n 2, 1) := by decide +kernel
theorem dX2_addTurn_35 : decode cX2_addTurn 35 = .ok (.iload_n 3, 1) := by decide +kernel
theorem dX2_addTurn_36 : decode cX2_addTurn 36 = .ok (.iload 4, 2) := by decide +kernel
theorem dX2_addTurn_38 : decode cX2_addTurn 38 = .ok (.invokevirtual 147, 3) := by decide +kernel
theorem dX2_addTurn_41 : decode cX2_addTurn 41 = .ok (.aload_n 0, 1) := by decide +kernel
theorem dX2_addTurn_42 : decode cX2_addTurn 42 = .ok (.getfield 56, 3) := by decide +kernel
theorem dX2_addTurn_45 : decode cX2_addTurn 45 = .ok (.aload_n 0, 1) := by decide +kernel
theorem dX2_addTurn_46 : decode cX2_addTurn 46 = .ok (.getfield 81, 3) := by decide +kernel
theorem dX2_addTurn_49 : decode cX2_addTurn 49 = .ok (.aload_n 0, 1) := by decide +kernel
theorem dX2_addTurn_50 : decode cX2_addTurn 50 = .ok (.getfield 81, 3) := by decide +kernel
theorem dX2_addTurn_53 : decode cX2_addTurn 53 = .ok (.iastore, 1) := by decide +kernel
theorem dX2_addTurn_54 : decode cX2_addTurn 54 = .ok (.aload_n 0, 1) := by decide +kernel
theorem dX2_addTurn_55 : decode cX2_addTurn 55 = .ok (.dup, 1) := by decide +kernel
theorem dX2_addTurn_56 : decode cX2_addTurn 56 = .ok (.getfield 81, 3) := by decide +kernel
theorem dX2_addTurn_59 : decode cX2_addTurn 59 = .ok (.iconst 1, 1) := by decide +kernel
theorem dX2_addTurn_60 : decode cX2_addTurn 60 = .ok (.iadd, 1) := by decide +kernel
theorem dX2_addTurn_61 : decode cX2_addTurn 61 = .ok (.putfield 81, 3) := by decide +kernel
theorem dX2_addTurn_64 : decode cX2_addTurn 64 = .ok (.return_, 1) := by decide +kernel
/-! a prize and a turn more are told -/
section Ap
variable {G : Gp} {S : AMem} {I : Nat → Nat → Int32} {J : Nat → Nat → Int64} {R : Nat → Nat → Option Nat} {c : Nat} {B : BS} {m : MS} {L : Cd}
/-- what the steps p to q of a code mean -/
def semC (L : Cd) (p q : Nat) : Sem := fun rd => (evE rd (fun i => (L.getD i (0, 0)).1) (fun i => (L.getD i (0, 0)).2) p (q - p) []).headD 0
theorem SegC.ofC {p q : Nat} (hL : AbC I c L) (h : q ≤ L.length) : SegC I c p q (semC L p q) := by
  intro rd
  unfold semC
  rw [evE_cg (K := I (c + 2)) (A := I (c + 3)) (K2 := fun i => (L.getD i (0, 0)).1) (A2 := fun i => (L.getD i (0, 0)).2)]
  intro j h1 h2
  exact hL.2.2 j (by omega)
def BSprize (B : BS) (w t : Sem) : BS := ((B.nR, B.nF, B.nP + 1, B.nT), B.rust, B.tF, B.tR, B.tt, (fun i => if i = B.nP then w else B.wo i), (fun i => if i = B.nP then t else B.te i))
def MSprize (m : MS) (n : Nat) (v : Int32) : MS := mkMS m.fist m.rail (fun i j => if i = n then (if j = 0 then v else 0) else m.prize i j) m.g m.row m.bd m.nb
theorem k_X2_addPrize {v : Int64} {lf : Int32} {p q t : Nat} (hG : okG G) (hct : CT S R c) (hB : AbB I c B) (hm : AbM I c B m) (hL : AbC I c L) (hf : B.nP < 8) (hpq : p ≤ q) (hqt : q ≤ t) (htL : t ≤ L.length) : Fn G mX2_addPrize 1 [vR c, vJ v, vI lf, vI (nI p), vI (nI q), vI (nI t)] (mw S I J R) (fun rr M1 => rr = none ∧ ∃ I1, M1 = mw S I1 (up2 J (c + 30 + B.nP) 0 v) R ∧ AbB I1 c (BSprize B (semC L p q) (semC L q t)) ∧ AbM I1 c (BSprize B (semC L p q) (semC L q t)) (MSprize m B.nP lf) ∧ I1 c 9 = I c 9 ∧ OffC c I I1 ∧ (∀ j, I1 (c + 1) j = I (c + 1) j) ∧ I1 (c + 2) = I (c + 2) ∧ I1 (c + 3) = I (c + 3)) := by
  have hct2 := hct
  obtain ⟨kc, rc0, rc1, rc2, rc3, rc4, rc5, rc6, rc7, ⟨kd, rd0, rd1, rd2, kd2, ld2, kd3, ld3, kd4, ld4⟩, ⟨kb, rb, kb6, lb6⟩, ⟨kf, rf, kf8, lf8⟩, ⟨kr, lr, hr⟩, ⟨kfi, lfi, hfi⟩, ⟨kp, lp, hpz⟩, ⟨kt, lt, htu⟩, kw, lw⟩ := id hct2
  have v3 : I c 11 = nI B.nP := hB.2.2.1.1
  obtain ⟨f1, f2⟩ := hpz B.nP hf
  have hin : vp_in (nI B.nP) (S.ln (c + 11)) := by rw [lp]; exact vp_in_nI (by omega) (by decide)
  have hR : R (c + 11) (nI B.nP).toNatClampNeg = some (c + 30 + B.nP) := by rw [nI_clamp (by omega)]; exact f1
  refine am_aload_n (q := 1) dX2_addPrize_0 rfl rfl ?_
  refine cm_getI (q := 4) dX2_addPrize_1 flX2_78 rfl (by assumption) rfl ?_
  rw [v3]
  refine am_aload_n (q := 5) dX2_addPrize_4 rfl rfl ?_
  refine cm_getR (q := 8) dX2_addPrize_5 flX2_46 rfl (by assumption) (by assumption) rfl ?_
  refine cm_alenK (q := 9) dX2_addPrize_8 (by assumption) (by decide) (by rw [lp] : nI (S.ln (c + 11)) = nI 8) rfl ?_
  refine am_icmp_ge (tgt := 42) (q := 12) dX2_addPrize_9 rfl rfl (fun hz => absurd hz (nI_ge (by omega) (by decide))) (fun _ => ?_)
  refine am_aload_n (q := 13) dX2_addPrize_12 rfl rfl ?_
  refine cm_getR (q := 16) dX2_addPrize_13 flX2_46 rfl (by assumption) (by assumption) rfl ?_
  refine am_aload_n (q := 17) dX2_addPrize_16 rfl rfl ?_
  refine cm_getI (q := 20) dX2_addPrize_17 flX2_78 rfl (by assumption) rfl ?_
  rw [v3]
  refine cm_aaloadK (q := 21) dX2_addPrize_20 (by assumption) (by decide) hin hR rfl ?_
  refine am_lload_n (q := 22) dX2_addPrize_21 rfl rfl ?_
  refine am_iload_n (q := 23) dX2_addPrize_22 rfl rfl ?_
  refine am_iload (q := 25) dX2_addPrize_23 rfl rfl ?_
  refine am_iload (q := 27) dX2_addPrize_25 rfl rfl ?_
  refine am_iload (q := 29) dX2_addPrize_27 rfl rfl ?_
  refine cm_call0 (q := 32) (As := [_, _, _, _, _]) hG dX2_addPrize_29 mlX2_144 rfl (by assumption) ⟨_, _, rfl⟩ (Nat.le_of_ble_eq_true rfl) (Nat.le_of_ble_eq_true rfl) (Nat.le_of_ble_eq_true rfl) (Nat.le_of_ble_eq_true rfl) (k_X5_tell f2) rfl ?_
  rintro _ _ ⟨rfl, rfl⟩
  refine k_nm (P := fun I2 => MW G mX2_addPrize 1 32 _ _ (mw S I2 _ R) _) _ ?_
  intro I2 hI2
  have k2 : ∀ x j, I2 x j = if x = c + 30 + B.nP ∧ 1 ≤ j ∧ j ≤ 5 then (if j = 1 then lf else if j = 2 then 0 else if j = 3 then nI p else if j = 4 then nI q else nI t) else I x j := fun x j => by
    rw [hI2]
    simp only [up2_at]
    grind (splits := 40)
  refine am_aload_n (q := 33) dX2_addPrize_32 rfl rfl ?_
  refine am_dup (q := 34) dX2_addPrize_33 rfl rfl ?_
  refine cm_getI (q := 37) dX2_addPrize_34 flX2_78 rfl (by assumption) rfl ?_
  have e10 : I2 c 11 = nI B.nP := by rw [k2, if_neg (by omega)]; exact v3
  rw [e10]
  have key : ∀ x j, up2 I2 c 11 (nI B.nP + 1) x j = if x = c ∧ j = 11 then nI (B.nP + 1) else if x = c + 30 + B.nP ∧ 1 ≤ j ∧ j ≤ 5 then (if j = 1 then lf else if j = 2 then 0 else if j = 3 then nI p else if j = 4 then nI q else nI t) else I x j := fun x j => by rw [up2_at, k2, nI_1]
  refine am_iconst (q := 38) (v := 1) dX2_addPrize_37 kc_i1 rfl ?_
  refine am_iadd (q := 39) dX2_addPrize_38 rfl ?_
  refine cm_putI (q := 42) dX2_addPrize_39 flX2_78 rfl (Or.inl rfl) (Or.inl rfl) (by assumption) rfl ?_
  generalize up2 I2 c 11 (nI B.nP + 1) = I3 at key ⊢
  have o : ∀ x j, ¬ (x = c ∧ j = 11) → ¬ (x = c + 30 + B.nP ∧ 1 ≤ j ∧ j ≤ 5) → I3 x j = I x j := fun x j q1 q2 => by rw [key, if_neg q1, if_neg q2]
  have q2 : I3 (c + 2) = I (c + 2) := funext fun j => o _ _ (by omega) (by omega)
  have q3 : I3 (c + 3) = I (c + 3) := funext fun j => o _ _ (by omega) (by omega)
  have qs : ∀ p r s, SegC I c p r s → SegC I3 c p r s := by
    intro p r s hs rd
    rw [q2, q3]
    exact hs rd
  have hB3 : AbB I3 c (BSprize B (semC L p q) (semC L q t)) := by
    obtain ⟨⟨a1, a2⟩, ⟨a3, a4⟩, ⟨a5, a6⟩, ⟨a7, a8⟩, b1, b2, z, b3, b4, b5, b6⟩ := hB
    have hz : z = L.length := (nI_eq (by omega) (by have := hL.2.1; omega)).mp (b3.symm.trans hL.1)
    refine ⟨⟨(o _ _ (by omega) (by omega)).trans a1, a2⟩, ⟨(o _ _ (by omega) (by omega)).trans a3, a4⟩, ⟨by rw [key, if_pos ⟨rfl, rfl⟩]; rfl, hf⟩, ⟨(o _ _ (by omega) (by omega)).trans a7, a8⟩, ?_, ?_, z, (o _ _ (by omega) (by omega)).trans b3, b4, ?_, ?_⟩
    · intro i hi j hj
      have hi2 : i < B.nR := hi
      rw [o _ _ (by omega) (by omega)]
      exact b1 i hi2 j hj
    · intro i hi
      have hi2 : i < B.nT := hi
      rw [o _ _ (by omega) (by omega), o _ _ (by omega) (by omega)]
      exact b2 i hi2
    · intro i hi
      have hi2 : i < B.nT := hi
      obtain ⟨p1, r1, e1, e2, e3, e4, e5⟩ := b5 i hi2
      refine ⟨p1, r1, (o _ _ (by omega) (by omega)).trans e1, (o _ _ (by omega) (by omega)).trans e2, e3, e4, ?_⟩
      show match B.tt i with | none => p1 = r1 | some s => p1 < r1 ∧ SegC I3 c p1 r1 s
      cases hh : B.tt i with
      | none => rw [hh] at e5; exact e5
      | some s => rw [hh] at e5; exact ⟨e5.1, qs _ _ _ e5.2⟩
    · intro i hi
      have hi2 : i < B.nP + 1 := hi
      by_cases e : i = B.nP
      · subst e
        refine ⟨p, q, t, by rw [key, if_neg (by omega), if_pos ⟨rfl, by omega, by omega⟩]; rfl, by rw [key, if_neg (by omega), if_pos ⟨rfl, by omega, by omega⟩]; rfl, by rw [key, if_neg (by omega), if_pos ⟨rfl, by omega, by omega⟩]; rfl, hpq, hqt, by omega, ?_, ?_⟩
        · show SegC I3 c p q (if B.nP = B.nP then semC L p q else B.wo B.nP)
          rw [if_pos rfl]
          exact qs _ _ _ (SegC.ofC hL (by omega))
        · show SegC I3 c q t (if B.nP = B.nP then semC L q t else B.te B.nP)
          rw [if_pos rfl]
          exact qs _ _ _ (SegC.ofC hL (by omega))
      · obtain ⟨p1, r1, t1, e1, e2, e3, e4, e5, e6, e7, e8⟩ := b6 i (by omega)
        refine ⟨p1, r1, t1, (o _ _ (by omega) (by omega)).trans e1, (o _ _ (by omega) (by omega)).trans e2, (o _ _ (by omega) (by omega)).trans e3, e4, e5, e6, ?_, ?_⟩
        · show SegC I3 c p1 r1 (if i = B.nP then semC L p q else B.wo i)
          rw [if_neg e]
          exact qs _ _ _ e7
        · show SegC I3 c r1 t1 (if i = B.nP then semC L q t else B.te i)
          rw [if_neg e]
          exact qs _ _ _ e8
  have hm3 : AbM I3 c (BSprize B (semC L p q) (semC L q t)) (MSprize m B.nP lf) := by
    have u5 : B.nR ≤ 4 := hB.1.2
    have u6 : B.nF ≤ 8 := hB.2.1.2
    obtain ⟨a1, a2, a3, a4, a5, a6, a7, a8, a9, a10, a11⟩ := hm
    refine ⟨fun i hi j hj => ?_, fun i hi j hj => ?_, fun i hi j hj => ?_, fun j hj => (o _ _ (by omega) (by omega)).trans (a4 j hj), ?_, fun k hk => by rw [o _ _ (by omega) (by omega)]; exact a6 k hk, fun k hk => (o _ _ (by omega) (by omega)).trans (a7 k hk), (o _ _ (by omega) (by omega)).trans a8, a9, a10, fun i hi => ?_⟩
    · have hi2 : i < B.nF := hi
      exact (o _ _ (by omega) (by omega)).trans (a1 i hi2 j hj)
    · have hi2 : i < B.nR := hi
      exact (o _ _ (by omega) (by omega)).trans (a2 i hi2 j hj)
    · have hi2 : i < B.nP + 1 := hi
      show I3 _ _ = if i = B.nP then (if j = 0 then lf else 0) else m.prize i j
      by_cases e : i = B.nP
      · rw [if_pos e, key, if_neg (by omega), if_pos ⟨by omega, by omega, by omega⟩]
        grind
      · rw [if_neg e, o _ _ (by omega) (by omega)]
        exact a3 i (by omega) j hj
    · rw [o _ _ (by omega) (by omega), a5]
      show sumM (fun i => m.prize i 1) B.nP = sumM (fun i => if i = B.nP then (if 1 = 0 then lf else 0) else m.prize i 1) B.nP + (if B.nP = B.nP then (if 1 = 0 then lf else 0) else m.prize B.nP 1)
      rw [if_pos rfl, if_neg (by decide), Int32.add_zero]
      exact sumM_cg fun i hi => by rw [if_neg (by omega)]
    · rw [o _ _ (by omega) (by omega)]
      exact a11 i hi
  exact am_ret dX2_addPrize_42 rfl ⟨_, rfl, rfl, I3, rfl, hB3, hm3, o _ _ (by omega) (by omega), fun x j w => o _ _ (by omega) (by omega), fun j => o _ _ (by omega) (by omega), q2, q3⟩
def BSturn (B : BS) (f r : Nat) (s : Option Sem) : BS := ((B.nR, B.nF, B.nP, B.nT + 1), B.rust, (fun i => if i = B.nT then f else B.tF i), (fun i => if i = B.nT then r else B.tR i), (fun i => if i = B.nT then s else B.tt i), B.wo, B.te)
def MSturn (m : MS) (n : Nat) : MS := mkMS m.fist m.rail m.prize m.g (fun k => if k = n then n else m.row k) m.bd m.nb
def semT (L : Cd) (p q : Nat) : Option Sem := if p = q then none else some (semC L p q)
theorem k_X2_addTurn {f r p q : Nat} (hG : okG G) (hct : CT S R c) (hB : AbB I c B) (hm : AbM I c B m) (hL : AbC I c L) (hf : B.nT < 20) (hff : f < B.nF) (hrr : r < B.nR) (hpq : p ≤ q) (htL : q ≤ L.length) : Fn G mX2_addTurn 1 [vR c, vI (nI f), vI (nI r), vI (nI p), vI (nI q)] (mw S I J R) (fun rr M1 => rr = none ∧ ∃ I1, M1 = mw S I1 J R ∧ AbB I1 c (BSturn B f r (semT L p q)) ∧ AbM I1 c (BSturn B f r (semT L p q)) (MSturn m B.nT) ∧ I1 c 9 = I c 9 ∧ OffC c I I1 ∧ (∀ j, I1 (c + 1) j = I (c + 1) j) ∧ I1 (c + 2) = I (c + 2) ∧ I1 (c + 3) = I (c + 3)) := by
  have hct2 := hct
  obtain ⟨kc, rc0, rc1, rc2, rc3, rc4, rc5, rc6, rc7, ⟨kd, rd0, rd1, rd2, kd2, ld2, kd3, ld3, kd4, ld4⟩, ⟨kb, rb, kb6, lb6⟩, ⟨kf, rf, kf8, lf8⟩, ⟨kr, lr, hr⟩, ⟨kfi, lfi, hfi⟩, ⟨kp, lp, hpz⟩, ⟨kt, lt, htu⟩, kw, lw⟩ := id hct2
  have v3 : I c 12 = nI B.nT := hB.2.2.2.1.1
  obtain ⟨f1, f2⟩ := htu B.nT hf
  have hin : vp_in (nI B.nT) (S.ln (c + 12)) := by rw [lt]; exact vp_in_nI (by omega) (by decide)
  have hin2 : vp_in (nI B.nT) (S.ln (c + 13)) := by rw [lw]; exact vp_in_nI (by omega) (by decide)
  have hR : R (c + 12) (nI B.nT).toNatClampNeg = some (c + 38 + B.nT) := by rw [nI_clamp (by omega)]; exact f1
  refine am_aload_n (q := 1) dX2_addTurn_0 rfl rfl ?_
  refine cm_getI (q := 4) dX2_addTurn_1 flX2_81 rfl (by assumption) rfl ?_
  rw [v3]
  refine am_aload_n (q := 5) dX2_addTurn_4 rfl rfl ?_
  refine cm_getR (q := 8) dX2_addTurn_5 flX2_52 rfl (by assumption) (by assumption) rfl ?_
  refine cm_alenK (q := 9) dX2_addTurn_8 (by assumption) (by decide) (by rw [lt] : nI (S.ln (c + 12)) = nI 20) rfl ?_
  refine am_icmp_ge (tgt := 64) (q := 12) dX2_addTurn_9 rfl rfl (fun hz => absurd hz (nI_ge (by omega) (by decide))) (fun _ => ?_)
  refine am_aload_n (q := 13) dX2_addTurn_12 rfl rfl ?_
  refine cm_getI (q := 16) dX2_addTurn_13 flX2_81 rfl (by assumption) rfl ?_
  rw [v3]
  refine am_aload_n (q := 17) dX2_addTurn_16 rfl rfl ?_
  refine cm_getR (q := 20) dX2_addTurn_17 flX2_56 rfl (by assumption) (by assumption) rfl ?_
  refine cm_alenI (q := 21) dX2_addTurn_20 (by assumption) (by rw [lw] : nI (S.ln (c + 13)) = nI 20) rfl ?_
  refine am_icmp_ge (tgt := 64) (q := 24) dX2_addTurn_21 rfl rfl (fun hz => absurd hz (nI_ge (by omega) (by decide))) (fun _ => ?_)
  refine am_aload_n (q := 25) dX2_addTurn_24 rfl rfl ?_
  refine cm_getR (q := 28) dX2_addTurn_25 flX2_52 rfl (by assumption) (by assumption) rfl ?_
  refine am_aload_n (q := 29) dX2_addTurn_28 rfl rfl ?_
  refine cm_getI (q := 32) dX2_addTurn_29 flX2_81 rfl (by assumption) rfl ?_
  rw [v3]
  refine cm_aaloadK (q := 33) dX2_addTurn_32 (by assumption) (by decide) hin hR rfl ?_
  refine am_iload_n (q := 34) dX2_addTurn_33 rfl rfl ?_
  refine am_iload_n (q := 35) dX2_addTurn_34 rfl rfl ?_
  refine am_iload_n (q := 36) dX2_addTurn_35 rfl rfl ?_
  refine am_iload (q := 38) dX2_addTurn_36 rfl rfl ?_
  refine cm_call0 (q := 41) (As := [_, _, _, _]) hG dX2_addTurn_38 mlX2_147 rfl (by assumption) ⟨_, _, rfl⟩ (Nat.le_of_ble_eq_true rfl) (Nat.le_of_ble_eq_true rfl) (Nat.le_of_ble_eq_true rfl) (Nat.le_of_ble_eq_true rfl) (k_X10_tell f2) rfl ?_
  rintro _ _ ⟨rfl, rfl⟩
  refine k_nm (P := fun I2 => MW G mX2_addTurn 1 41 _ _ (mw S I2 _ R) _) _ ?_
  intro I2 hI2
  have k2 : ∀ x j, I2 x j = if x = c + 38 + B.nT ∧ j ≤ 3 then (if j = 0 then nI f else if j = 1 then nI r else if j = 2 then nI p else nI q) else I x j := fun x j => by
    rw [hI2]
    simp only [up2_at]
    grind (splits := 40)
  have e10 : I2 c 12 = nI B.nT := by rw [k2, if_neg (by omega)]; exact v3
  refine am_aload_n (q := 42) dX2_addTurn_41 rfl rfl ?_
  refine cm_getR (q := 45) dX2_addTurn_42 flX2_56 rfl (by assumption) (by assumption) rfl ?_
  refine am_aload_n (q := 46) dX2_addTurn_45 rfl rfl ?_
  refine cm_getI (q := 49) dX2_addTurn_46 flX2_81 rfl (by assumption) rfl ?_
  refine am_aload_n (q := 50) dX2_addTurn_49 rfl rfl ?_
  refine cm_getI (q := 53) dX2_addTurn_50 flX2_81 rfl (by assumption) rfl ?_
  rw [e10]
  refine cm_iastore (q := 54) dX2_addTurn_53 (by assumption) hin2 rfl ?_
  rw [nI_clamp (show B.nT < 2147483648 by omega)]
  have k4 : ∀ x j, up2 I2 (c + 13) B.nT (nI B.nT) x j = if x = c + 13 ∧ j = B.nT then nI B.nT else if x = c + 38 + B.nT ∧ j ≤ 3 then (if j = 0 then nI f else if j = 1 then nI r else if j = 2 then nI p else nI q) else I x j := fun x j => by rw [up2_at, k2]
  generalize up2 I2 (c + 13) B.nT (nI B.nT) = I4 at k4 ⊢
  have e11 : I4 c 12 = nI B.nT := by rw [k4, if_neg (by omega), if_neg (by omega)]; exact v3
  refine am_aload_n (q := 55) dX2_addTurn_54 rfl rfl ?_
  refine am_dup (q := 56) dX2_addTurn_55 rfl rfl ?_
  refine cm_getI (q := 59) dX2_addTurn_56 flX2_81 rfl (by assumption) rfl ?_
  rw [e11]
  have key : ∀ x j, up2 I4 c 12 (nI B.nT + 1) x j = if x = c ∧ j = 12 then nI (B.nT + 1) else if x = c + 13 ∧ j = B.nT then nI B.nT else if x = c + 38 + B.nT ∧ j ≤ 3 then (if j = 0 then nI f else if j = 1 then nI r else if j = 2 then nI p else nI q) else I x j := fun x j => by rw [up2_at, k4, nI_1]
  refine am_iconst (q := 60) (v := 1) dX2_addTurn_59 kc_i1 rfl ?_
  refine am_iadd (q := 61) dX2_addTurn_60 rfl ?_
  refine cm_putI (q := 64) dX2_addTurn_61 flX2_81 rfl (Or.inl rfl) (Or.inl rfl) (by assumption) rfl ?_
  generalize up2 I4 c 12 (nI B.nT + 1) = I3 at key ⊢
  have o : ∀ x j, ¬ (x = c ∧ j = 12) → ¬ (x = c + 13 ∧ j = B.nT) → ¬ (x = c + 38 + B.nT ∧ j ≤ 3) → I3 x j = I x j := fun x j q1 q2 q3 => by rw [key, if_neg q1, if_neg q2, if_neg q3]
  have q2 : I3 (c + 2) = I (c + 2) := funext fun j => o _ _ (by omega) (by omega) (by omega)
  have q3 : I3 (c + 3) = I (c + 3) := funext fun j => o _ _ (by omega) (by omega) (by omega)
  have qs : ∀ p r s, SegC I c p r s → SegC I3 c p r s := by
    intro p r s hs rd
    rw [q2, q3]
    exact hs rd
  have hB3 : AbB I3 c (BSturn B f r (semT L p q)) := by
    obtain ⟨⟨a1, a2⟩, ⟨a3, a4⟩, ⟨a5, a6⟩, ⟨a7, a8⟩, b1, b2, z, b3, b4, b5, b6⟩ := hB
    have hz : z = L.length := (nI_eq (by omega) (by have := hL.2.1; omega)).mp (b3.symm.trans hL.1)
    refine ⟨⟨(o _ _ (by omega) (by omega) (by omega)).trans a1, a2⟩, ⟨(o _ _ (by omega) (by omega) (by omega)).trans a3, a4⟩, ⟨(o _ _ (by omega) (by omega) (by omega)).trans a5, a6⟩, ⟨by rw [key, if_pos ⟨rfl, rfl⟩]; rfl, hf⟩, ?_, ?_, z, (o _ _ (by omega) (by omega) (by omega)).trans b3, b4, ?_, ?_⟩
    · intro i hi j hj
      have hi2 : i < B.nR := hi
      rw [o _ _ (by omega) (by omega) (by omega)]
      exact b1 i hi2 j hj
    · intro i hi
      have hi2 : i < B.nT + 1 := hi
      show I3 _ _ = nI (if i = B.nT then f else B.tF i) ∧ (if i = B.nT then f else B.tF i) < B.nF ∧ I3 _ _ = nI (if i = B.nT then r else B.tR i) ∧ (if i = B.nT then r else B.tR i) < B.nR
      by_cases e : i = B.nT
      · subst e
        have w0 : I3 (c + 38 + B.nT) 0 = nI f := by rw [key, if_neg (by omega), if_neg (by omega), if_pos ⟨rfl, by omega⟩]; rfl
        have w1 : I3 (c + 38 + B.nT) 1 = nI r := by rw [key, if_neg (by omega), if_neg (by omega), if_pos ⟨rfl, by omega⟩]; rfl
        rw [if_pos rfl, if_pos rfl, w0, w1]
        exact ⟨rfl, hff, rfl, hrr⟩
      · rw [if_neg e, if_neg e, o _ _ (by omega) (by omega) (by omega), o _ _ (by omega) (by omega) (by omega)]
        exact b2 i (by omega)
    · intro i hi
      have hi2 : i < B.nT + 1 := hi
      show ∃ p1 r1, _ ∧ _ ∧ p1 ≤ r1 ∧ r1 ≤ z ∧ (match (if i = B.nT then semT L p q else B.tt i) with | none => p1 = r1 | some s => p1 < r1 ∧ SegC I3 c p1 r1 s)
      by_cases e : i = B.nT
      · subst e
        refine ⟨p, q, by rw [key, if_neg (by omega), if_neg (by omega), if_pos ⟨rfl, by omega⟩]; rfl, by rw [key, if_neg (by omega), if_neg (by omega), if_pos ⟨rfl, by omega⟩]; rfl, hpq, by omega, ?_⟩
        rw [if_pos rfl]
        unfold semT
        by_cases e2 : p = q
        · rw [if_pos e2]
          exact e2
        · rw [if_neg e2]
          exact ⟨by omega, qs _ _ _ (SegC.ofC hL (by omega))⟩
      · obtain ⟨p1, r1, e1, e2, e3, e4, e5⟩ := b5 i (by omega)
        refine ⟨p1, r1, (o _ _ (by omega) (by omega) (by omega)).trans e1, (o _ _ (by omega) (by omega) (by omega)).trans e2, e3, e4, ?_⟩
        rw [if_neg e]
        cases hh : B.tt i with
        | none => rw [hh] at e5; exact e5
        | some s => rw [hh] at e5; exact ⟨e5.1, qs _ _ _ e5.2⟩
    · intro i hi
      have hi2 : i < B.nP := hi
      obtain ⟨p1, r1, t1, e1, e2, e3, e4, e5, e6, e7, e8⟩ := b6 i hi2
      exact ⟨p1, r1, t1, (o _ _ (by omega) (by omega) (by omega)).trans e1, (o _ _ (by omega) (by omega) (by omega)).trans e2, (o _ _ (by omega) (by omega) (by omega)).trans e3, e4, e5, e6, qs _ _ _ e7, qs _ _ _ e8⟩
  have hm3 : AbM I3 c (BSturn B f r (semT L p q)) (MSturn m B.nT) := by
    have u5 : B.nR ≤ 4 := hB.1.2
    have u6 : B.nF ≤ 8 := hB.2.1.2
    have u7 : B.nP ≤ 8 := hB.2.2.1.2
    obtain ⟨a1, a2, a3, a4, a5, a6, a7, a8, a9, a10, a11⟩ := hm
    refine ⟨fun i hi j hj => ?_, fun i hi j hj => ?_, fun i hi j hj => ?_, fun j hj => (o _ _ (by omega) (by omega) (by omega)).trans (a4 j hj), (o _ _ (by omega) (by omega) (by omega)).trans a5, fun k hk => ?_, fun k hk => (o _ _ (by omega) (by omega) (by omega)).trans (a7 k hk), (o _ _ (by omega) (by omega) (by omega)).trans a8, a9, a10, fun i hi => ?_⟩
    · have hi2 : i < B.nF := hi
      exact (o _ _ (by omega) (by omega) (by omega)).trans (a1 i hi2 j hj)
    · have hi2 : i < B.nR := hi
      exact (o _ _ (by omega) (by omega) (by omega)).trans (a2 i hi2 j hj)
    · have hi2 : i < B.nP := hi
      exact (o _ _ (by omega) (by omega) (by omega)).trans (a3 i hi2 j hj)
    · have hi2 : k < B.nT + 1 := hk
      show I3 _ _ = nI (if k = B.nT then B.nT else m.row k) ∧ (if k = B.nT then B.nT else m.row k) < B.nT + 1
      by_cases e : k = B.nT
      · rw [if_pos e, key, if_neg (by omega), if_pos ⟨rfl, e⟩]
        exact ⟨rfl, Nat.lt_succ_self _⟩
      · obtain ⟨g1, g2⟩ := a6 k (by omega)
        rw [if_neg e, o _ _ (by omega) (by omega) (by omega)]
        exact ⟨g1, by omega⟩
    · rw [o _ _ (by omega) (by omega) (by omega)]
      exact a11 i hi
  exact am_ret dX2_addTurn_64 rfl ⟨_, rfl, rfl, I3, rfl, hB3, hm3, o _ _ (by omega) (by omega) (by omega), fun x j w => o _ _ (by omega) (by omega) (by omega), fun j => o _ _ (by omega) (by omega) (by omega), q2, q3⟩
end Ap

