theorem dX11_count_0 : decode cX11_count 0 = .ok (.iload_n 1, 1) := by decide +kernel
theorem dX11_count_1 : decode cX11_count 1 = .ok (.ifCond .lt 9, 3) := by decide +kernel
theorem dX11_count_4 : decode cX11_count 4 = .ok (.iload_n 1, 1) := by decide +kernel
theorem dX11_count_5 : decode cX11_count 5 = .ok (.bipush 9, 2) := by decide +kernel
theorem dX11_count_7 : decode cX11_count 7 = .ok (.if_icmp .le 13, 3) := by decide +kernel
theorem dX11_count_20 : decode cX11_count 20 = .ok (.aload_n 0, 1) := by decide +kernel
theorem dX11_count_21 : decode cX11_count 21 = .ok (.iload_n 1, 1) := by decide +kernel
theorem dX11_count_22 : decode cX11_count 22 = .ok (.invokevirtual 95, 3) := by decide +kernel
theorem dX11_count_25 : decode cX11_count 25 = .ok (.ireturn, 1) := by decide +kernel
theorem dX11_fist_0 : decode cX11_fist 0 = .ok (.aload_n 0, 1) := by decide +kernel
theorem dX11_fist_1 : decode cX11_fist 1 = .ok (.getfield 26, 3) := by decide +kernel
theorem dX11_fist_4 : decode cX11_fist 4 = .ok (.iload_n 1, 1) := by decide +kernel
theorem dX11_fist_5 : decode cX11_fist 5 = .ok (.invokevirtual 108, 3) := by decide +kernel
theorem dX11_fist_8 : decode cX11_fist 8 = .ok (.ifCond .eq 13, 3) := by decide +kernel
theorem dX11_fist_11 : decode cX11_fist 11 = .ok (.iload_n 2, 1) := by decide +kernel
theorem dX11_fist_12 : decode cX11_fist 12 = .ok (.ifCond .lt 9, 3) := by decide +kernel
theorem dX11_fist_15 : decode cX11_fist 15 = .ok (.iload_n 2, 1) := by decide +kernel
theorem dX11_fist_16 : decode cX11_fist 16 = .ok (.bipush 8, 2) := by decide +kernel
theorem dX11_fist_18 : decode cX11_fist 18 = .ok (.if_icmp .le 13, 3) := by decide +kernel
theorem dX11_fist_31 : decode cX11_fist 31 = .ok (.aload_n 0, 1) := by decide +kernel
theorem dX11_fist_32 : decode cX11_fist 32 = .ok (.getfield 26, 3) := by decide +kernel
theorem dX11_fist_35 : decode cX11_fist 35 = .ok (.iload_n 1, 1) := by decide +kernel
theorem dX11_fist_36 : decode cX11_fist 36 = .ok (.iload_n 2, 1) := by decide +kernel
theorem dX11_fist_37 : decode cX11_fist 37 = .ok (.invokevirtual 113, 3) := by decide +kernel
theorem dX11_fist_40 : decode cX11_fist 40 = .ok (.ireturn, 1) := by decide +kernel
theorem dX11_prize_0 : decode cX11_prize 0 = .ok (.aload_n 0, 1) := by decide +kernel
theorem dX11_prize_1 : decode cX11_prize 1 = .ok (.getfield 26, 3) := by decide +kernel
theorem dX11_prize_4 : decode cX11_prize 4 = .ok (.iload_n 1, 1) := by decide +kernel
theorem dX11_prize_5 : decode cX11_prize 5 = .ok (.invokevirtual 116, 3) := by decide +kernel
theorem dX11_prize_8 : decode cX11_prize 8 = .ok (.ifCond .eq 12, 3) := by decide +kernel
theorem dX11_prize_11 : decode cX11_prize 11 = .ok (.iload_n 2, 1) := by decide +kernel
theorem dX11_prize_12 : decode cX11_prize 12 = .ok (.ifCond .lt 8, 3) := by decide +kernel
theorem dX11_prize_15 : decode cX11_prize 15 = .ok (.iload_n 2, 1) := by decide +kernel
theorem dX11_prize_16 : decode cX11_prize 16 = .ok (.iconst 3, 1) := by decide +kernel
theorem dX11_prize_17 : decode cX11_prize 17 = .ok (.if_icmp .le 13, 3) := by decide +kernel
theorem dX11_prize_30 : decode cX11_prize 30 = .ok (.aload_n 0, 1) := by decide +kernel
theorem dX11_prize_31 : decode cX11_prize 31 = .ok (.getfield 26, 3) := by decide +kernel
theorem dX11_prize_34 : decode cX11_prize 34 = .ok (.iload_n 1, 1) := by decide +kernel
theorem dX11_prize_35 : decode cX11_prize 35 = .ok (.iload_n 2, 1) := by decide +kernel
theorem dX11_prize_36 : decode cX11_prize 36 = .ok (.invokevirtual 121, 3) := by decide +kernel
theorem dX11_prize_39 : decode cX11_prize 39 = .ok (.ireturn, 1) := by decide +kernel
theorem dX11_rail_0 : decode cX11_rail 0 = .ok (.aload_n 0, 1) := by decide +kernel
theorem dX11_rail_1 : decode cX11_rail 1 = .ok (.getfield 26, 3) := by decide +kernel
theorem dX11_rail_4 : decode cX11_rail 4 = .ok (.iload_n 1, 1) := by decide +kernel
theorem dX11_rail_5 : decode cX11_rail 5 = .ok (.invokevirtual 99, 3) := by decide +kernel
theorem dX11_rail_8 : decode cX11_rail 8 = .ok (.ifCond .eq 12, 3) := by decide +kernel
theorem dX11_rail_11 : decode cX11_rail 11 = .ok (.iload_n 2, 1) := by decide +kernel
theorem dX11_rail_12 : decode cX11_rail 12 = .ok (.ifCond .lt 8, 3) := by decide +kernel
theorem dX11_rail_15 : decode cX11_rail 15 = .ok (.iload_n 2, 1) := by decide +kernel
theorem dX11_rail_16 : decode cX11_rail 16 = .ok (.iconst 4, 1) := by decide +kernel
theorem dX11_rail_17 : decode cX11_rail 17 = .ok (.if_icmp .le 13, 3) := by decide +kernel
theorem dX11_rail_30 : decode cX11_rail 30 = .ok (.aload_n 0, 1) := by decide +kernel
theorem dX11_rail_31 : decode cX11_rail 31 = .ok (.getfield 26, 3) := by decide +kernel
theorem dX11_rail_34 : decode cX11_rail 34 = .ok (.iload_n 1, 1) := by decide +kernel
theorem dX11_rail_35 : decode cX11_rail 35 = .ok (.iload_n 2, 1) := by decide +kernel
theorem dX11_rail_36 : decode cX11_rail 36 = .ok (.invokevirtual 104, 3) := by decide +kernel
theorem dX11_rail_39 : decode cX11_rail 39 = .ok (.ireturn, 1) := by decide +kernel
theorem dX11_tellCount_0 : decode cX11_tellCount 0 = .ok (.iload_n 1, 1) := by decide +kernel
theorem dX11_tellCount_1 : decode cX11_tellCount 1 = .ok (.bipush 9, 2) := by decide +kernel
theorem dX11_tellCount_3 : decode cX11_tellCount 3 = .ok (.if_icmp .ne 13, 3) := by decide +kernel
theorem dX11_tellCount_6 : decode cX11_tellCount 6 = .ok (.aload_n 0, 1) := by decide +kernel
theorem dX11_tellCount_7 : decode cX11_tellCount 7 = .ok (.getfield 10, 3) := by decide +kernel
theorem dX11_tellCount_10 : decode cX11_tellCount 10 = .ok (.getfield 61, 3) := by decide +kernel
theorem dX11_tellCount_13 : decode cX11_tellCount 13 = .ok (.goto 11, 3) := by decide +kernel
theorem dX11_tellCount_16 : decode cX11_tellCount 16 = .ok (.aload_n 0, 1) := by decide +kernel
theorem dX11_tellCount_17 : decode cX11_tellCount 17 = .ok (.getfield 26, 3) := by decide +kernel
theorem dX11_tellCount_20 : decode cX11_tellCount 20 = .ok (.iload_n 1, 1) := by decide +kernel
theorem dX11_tellCount_21 : decode cX11_tellCount 21 = .ok (.invokevirtual 225, 3) := by decide +kernel
theorem dX11_tellCount_24 : decode cX11_tellCount 24 = .ok (.ireturn, 1) := by decide +kernel
/-! the whole object: its cells, how it stands -/
/-- a BellHammer at x, whose contests stand at c (now) and o (other) -/
def XC (S : AMem) (R : Nat → Nat → Option Nat) (x c o : Nat) : Prop := S.K x = 12 ∧ R x 0 = some (x + 1) ∧ R x 1 = some (x + 3) ∧ R x 2 = some (x + 124) ∧ R x 3 = some c ∧ R x 4 = some o ∧ ((c = x + 8 ∧ o = x + 66) ∨ (c = x + 66 ∧ o = x + 8)) ∧ TPc S R (x + 1) ∧ TC S R (x + 3) ∧ CT S R c ∧ CT S R o ∧ S.K (x + 124) = 8 ∧ R (x + 124) 0 = some (x + 3)
/-- tape, what is told, how it stands, the last error's byte -/
abbrev XS : Type := Tp × BS × MS × Int32
def XS.E (s : XS) : Tp := s.1
def XS.B (s : XS) : BS := s.2.1
def XS.m (s : XS) : MS := s.2.2.1
def XS.er (s : XS) : Int32 := s.2.2.2
def AbX (K : Nat → Int64) (I : Nat → Nat → Int32) (J : Nat → Nat → Int64) (x c o : Nat) (s : XS) : Prop := AbTp I (x + 1) s.E ∧ AbB I c s.B ∧ AbM I c s.B s.m ∧ (∀ i, i < 8 → I (o + 22 + i) 9 = 0 ∨ I (o + 22 + i) 9 = 1) ∧ I x 5 = s.er ∧ ∀ i, i < 32 → J (x + 7) i = K i
def XW (K : Nat → Int64) (S : AMem) (x : Nat) (s : XS) (I : Nat → Nat → Int32) (J : Nat → Nat → Int64) (R : Nat → Nat → Option Nat) : Prop := ∃ c o, XC S R x c o ∧ AbX K I J x c o s
/-- nothing but the object at x has changed -/
def OffW (x : Nat) (I : Nat → Nat → Int32) (J : Nat → Nat → Int64) (R : Nat → Nat → Option Nat) (I1 : Nat → Nat → Int32) (J1 : Nat → Nat → Int64) (R1 : Nat → Nat → Option Nat) : Prop := ∀ y, (y < x ∨ x + 125 ≤ y) → I1 y = I y ∧ J1 y = J y ∧ R1 y = R y
theorem OffW.rf {x : Nat} {I : Nat → Nat → Int32} {J : Nat → Nat → Int64} {R : Nat → Nat → Option Nat} : OffW x I J R I J R := fun _ _ => ⟨rfl, rfl, rfl⟩
theorem OffW.tr {x : Nat} {I I1 I2 : Nat → Nat → Int32} {J J1 J2 : Nat → Nat → Int64} {R R1 R2 : Nat → Nat → Option Nat} (h1 : OffW x I J R I1 J1 R1) (h2 : OffW x I1 J1 R1 I2 J2 R2) : OffW x I J R I2 J2 R2 := fun y q => ⟨(h2 y q).1.trans (h1 y q).1, (h2 y q).2.1.trans (h1 y q).2.1, (h2 y q).2.2.trans (h1 y q).2.2⟩
/-- what a call gives: a stop ahead of a throw, or an answer and how it stands then -/
def XQ (K : Nat → Int64) (S : AMem) (x : Nat) (I : Nat → Nat → Int32) (J : Nat → Nat → Int64) (R : Nat → Nat → Option Nat) (res : Nat ⊕ (AV × XS)) (f : Option AV ⊕ Nat) (M1 : AMem) : Prop := match res with
  | .inl pc => f = .inr pc ∧ M1 = mw S I J R
  | .inr (v, s1) => f = .inl (some v) ∧ ∃ I1 J1 R1, M1 = mw S I1 J1 R1 ∧ XW K S x s1 I1 J1 R1 ∧ OffW x I J R I1 J1 R1
section Fc
variable {K : Nat → Int64} {S : AMem} {I I1 : Nat → Nat → Int32} {J : Nat → Nat → Int64} {R : Nat → Nat → Option Nat} {x c o : Nat} {s : XS}
theorem XC.lo (h : XC S R x c o) : x + 8 ≤ c ∧ c + 58 ≤ x + 124 ∧ x + 8 ≤ o ∧ o + 58 ≤ x + 124 ∧ (c + 58 ≤ o ∨ o + 58 ≤ c) := by
  obtain ⟨_, _, _, _, _, _, hco, _⟩ := h
  omega
/-- the contest that counts has changed -/
theorem AbX.now {B : BS} {m : MS} (hc : XC S R x c o) (h : AbX K I J x c o s) (hB : AbB I1 c B) (hm : AbM I1 c B m) (ho : OffC c I I1) : AbX K I1 J x c o (s.E, B, m, s.er) := by
  obtain ⟨p1, p2, p3, p4, p5⟩ := hc.lo
  obtain ⟨h1, h2, h3, h4, h5, h6⟩ := h
  exact ⟨h1.off (ho _ _ (by omega)) (fun i _ => ho _ _ (by omega)), hB, hm, fun i hi => by rw [ho _ _ (by omega)]; exact h4 i hi, (ho _ _ (by omega)).trans h5, h6⟩
theorem AbX.qt (hc : XC S R x c o) (h : AbX K I J x c o s) (q : Qt c I I1) : AbX K I1 J x c o s := h.now hc (h.2.1.qt q) (AbM.qt h.2.1 h.2.2.1 q) q.off
theorem OffC.w (hc : XC S R x c o) (h : OffC c I I1) : OffW x I J R I1 J R := fun y q => by
  obtain ⟨p1, p2, p3, p4, p5⟩ := hc.lo
  exact ⟨funext fun j => h y j (by omega), rfl, rfl⟩
theorem XQ.same {v : AV} (h : XW K S x s I J R) : XQ K S x I J R (.inr (v, s)) (.inl (some v)) (mw S I J R) := ⟨rfl, I, J, R, rfl, h, OffW.rf⟩
theorem XQ.qt {v : AV} (hc : XC S R x c o) (h : AbX K I J x c o s) (q : Qt c I I1) : XQ K S x I J R (.inr (v, s)) (.inl (some v)) (mw S I1 J R) := ⟨rfl, I1, J, R, rfl, ⟨c, o, hc, h.qt hc q⟩, q.off.w hc⟩
end Fc
section Fm
variable {G : Gp} {K : Nat → Int64} {S : AMem} {I : Nat → Nat → Int32} {J : Nat → Nat → Int64} {R : Nat → Nat → Option Nat} {x : Nat} {s : XS}
theorem k_idx {i : Int32} {n : Nat} (hn : n < 2 ^ 31) (h : 0 ≤ i ∧ i < nI n) : ∃ j, j < n ∧ i = nI j := by
  obtain ⟨j, hj, e⟩ := nI_of (Int32.not_lt.mpr h.1)
  subst e
  exact ⟨j, (nI_ltI hj hn).mp h.2, rfl⟩
theorem k_idx2 {i v : Int32} {n : Nat} (hv : v = nI n) (hn : n < 2 ^ 31) (h1 : ¬ i < 0) (h2 : i ≤ v) : ∃ j, j < n + 1 ∧ i = nI j := by
  subst hv
  obtain ⟨j, hj, e⟩ := nI_of h1
  subst e
  exact ⟨j, Nat.lt_succ_of_le ((nI_leI hj hn).mp h2), rfl⟩
theorem k_X11_tellCount {w : Nat} (hG : okG G) (h : XW K S x s I J R) (hw : w < 10) : Fn G mX11_tellCount 2 [vR x, vI (nI w)] (mw S I J R) (fun rr M1 => rr = some (vI (if w = 9 then nI s.E.1 else tlC s.B s.m w)) ∧ M1 = mw S I J R) := by
  obtain ⟨c, o, hC, hA⟩ := id h
  obtain ⟨kx, r0, r1, r2, r3, r4, hco, htp, htc, hct, hot, kr, rr⟩ := id hC
  obtain ⟨hE, hB, hM, ho, he, hk⟩ := id hA
  have kc := hct.1
  have kt := htp.1
  refine am_iload_n (q := 1) dX11_tellCount_0 rfl rfl ?_
  refine am_bipush (q := 3) (v := 9) dX11_tellCount_1 kc_b9 rfl ?_
  by_cases e : w = 9
  · rw [if_pos e, e]
    refine am_icmp_ne (tgt := 16) (q := 6) dX11_tellCount_3 rfl rfl (fun hz => absurd rfl hz) (fun _ => ?_)
    refine am_aload_n (q := 7) dX11_tellCount_6 rfl rfl ?_
    refine cm_getR (q := 10) dX11_tellCount_7 flX11_10 rfl (by assumption) (by assumption) rfl ?_
    refine cm_getI (q := 13) dX11_tellCount_10 flX11_61 rfl (by assumption) rfl ?_
    rw [hE.1]
    refine am_goto (tgt := 24) dX11_tellCount_13 rfl ?_
    exact am_iret dX11_tellCount_24 rfl rfl ⟨_, rfl, rfl, rfl⟩
  · rw [if_neg e]
    refine am_icmp_ne (tgt := 16) (q := 6) dX11_tellCount_3 rfl rfl (fun _ => ?_) (fun hz => absurd hz (fun q => e ((nI_eq (b := 9) (by omega) (by decide)).mp q)))
    refine am_aload_n (q := 17) dX11_tellCount_16 rfl rfl ?_
    refine cm_getR (q := 20) dX11_tellCount_17 flX11_26 rfl (by assumption) (by assumption) rfl ?_
    refine am_iload_n (q := 21) dX11_tellCount_20 rfl rfl ?_
    refine cm_call0 (q := 24) (As := [_]) hG dX11_tellCount_21 mlX11_225 rfl (by assumption) ⟨_, _, rfl⟩ (Nat.le_of_ble_eq_true rfl) (Nat.le_of_ble_eq_true rfl) (Nat.le_of_ble_eq_true rfl) (Nat.le_of_ble_eq_true rfl) (k_X2_tellCountOf hG hct hB hM (by omega)) rfl ?_
    rintro _ _ ⟨rfl, rfl⟩
    exact am_iret dX11_tellCount_24 rfl rfl ⟨_, rfl, rfl, rfl⟩
theorem k_X11_count {w : Int32} (hG : okG G) (h : XW K S x s I J R) : MW G mX11_count 6 0 (ent 2 [vR x, vI w]) [] (mw S I J R) (XQ K S x I J R (if 0 ≤ w ∧ w ≤ 9 then .inr (vI (if w.toNatClampNeg = 9 then nI s.E.1 else tlC s.B s.m w.toNatClampNeg), s) else .inl 10)) := by
  obtain ⟨c, o, hC, hA⟩ := id h
  have kx := hC.1
  refine am_iload_n (q := 1) dX11_count_0 rfl rfl ?_
  refine am_if_lt (tgt := 10) (q := 4) dX11_count_1 rfl rfl (fun hc => ?_) (fun hc => ?_)
  · rw [if_neg (fun q => Int32.not_le.mpr hc q.1)]
    exact am_stop ⟨rfl, rfl⟩
  · refine am_iload_n (q := 5) dX11_count_4 rfl rfl ?_
    refine am_bipush (q := 7) (v := 9) dX11_count_5 kc_b9 rfl ?_
    refine am_icmp_le (tgt := 20) (q := 10) dX11_count_7 rfl rfl (fun h2 => ?_) (fun h2 => ?_)
    · rw [if_pos ⟨Int32.not_lt.mp hc, h2⟩]
      obtain ⟨j, hj, rfl⟩ := k_idx2 (v := 9) (n := 9) rfl (by decide) hc h2
      rw [nI_clamp (by omega)]
      refine am_aload_n (q := 21) dX11_count_20 rfl rfl ?_
      refine am_iload_n (q := 22) dX11_count_21 rfl rfl ?_
      refine cm_call0 (q := 25) (As := [_]) hG dX11_count_22 mlX11_95 rfl (by assumption) ⟨_, _, rfl⟩ (Nat.le_of_ble_eq_true rfl) (Nat.le_of_ble_eq_true rfl) (Nat.le_of_ble_eq_true rfl) (Nat.le_of_ble_eq_true rfl) (k_X11_tellCount hG h hj) rfl ?_
      rintro _ _ ⟨rfl, rfl⟩
      exact am_iret dX11_count_25 rfl rfl (XQ.same h)
    · rw [if_neg (fun q => h2 q.2)]
      exact am_stop ⟨rfl, rfl⟩
theorem k_X11_rail {i w : Int32} (hG : okG G) (h : XW K S x s I J R) : MW G mX11_rail 6 0 (ent 3 [vR x, vI i, vI w]) [] (mw S I J R) (XQ K S x I J R (if (0 ≤ i ∧ i < nI s.B.nR) ∧ 0 ≤ w ∧ w ≤ 4 then .inr (vI (s.m.rail i.toNatClampNeg w.toNatClampNeg), s) else .inl 20)) := by
  obtain ⟨c, o, hC, hA⟩ := id h
  obtain ⟨kx, r0, r1, r2, r3, r4, hco, htp, htc, hct, hot, kr, rr⟩ := id hC
  obtain ⟨hE, hB, hM, ho, he, hk⟩ := id hA
  have kc := hct.1
  have un := hB.1.2
  refine am_aload_n (q := 1) dX11_rail_0 rfl rfl ?_
  refine cm_getR (q := 4) dX11_rail_1 flX11_26 rfl (by assumption) (by assumption) rfl ?_
  refine am_iload_n (q := 5) dX11_rail_4 rfl rfl ?_
  refine cm_call0 (q := 8) (As := [_]) hG dX11_rail_5 mlX11_99 rfl (by assumption) ⟨_, _, rfl⟩ (Nat.le_of_ble_eq_true rfl) (Nat.le_of_ble_eq_true rfl) (Nat.le_of_ble_eq_true rfl) (Nat.le_of_ble_eq_true rfl) (k_X2_hasRail hct hB.1.1 hB.1.2) rfl ?_
  rintro _ _ ⟨rfl, rfl⟩
  refine am_if_eq (tgt := 20) (q := 11) dX11_rail_8 rfl rfl (fun h1 => ?_) (fun h1 => ?_)
  · rw [if_neg (fun q => bI_e0.mp h1 q.1)]
    exact am_stop ⟨rfl, rfl⟩
  · refine am_iload_n (q := 12) dX11_rail_11 rfl rfl ?_
    refine am_if_lt (tgt := 20) (q := 15) dX11_rail_12 rfl rfl (fun h2 => ?_) (fun h2 => ?_)
    · rw [if_neg (fun q => Int32.not_le.mpr h2 q.2.1)]
      exact am_stop ⟨rfl, rfl⟩
    · refine am_iload_n (q := 16) dX11_rail_15 rfl rfl ?_
      refine am_iconst (q := 17) (v := 4) dX11_rail_16 kc_i4 rfl ?_
      refine am_icmp_le (tgt := 30) (q := 20) dX11_rail_17 rfl rfl (fun h3 => ?_) (fun h3 => ?_)
      · rw [if_pos ⟨bI_n0.mp h1, Int32.not_lt.mp h2, h3⟩]
        obtain ⟨j, hj, rfl⟩ := k_idx (by omega) (bI_n0.mp h1)
        obtain ⟨v, hv, rfl⟩ := k_idx2 (v := 4) (n := 4) rfl (by decide) h2 h3
        rw [nI_clamp (show j < 2 ^ 31 by omega), nI_clamp (show v < 2 ^ 31 by omega)]
        refine am_aload_n (q := 31) dX11_rail_30 rfl rfl ?_
        refine cm_getR (q := 34) dX11_rail_31 flX11_26 rfl (by assumption) (by assumption) rfl ?_
        refine am_iload_n (q := 35) dX11_rail_34 rfl rfl ?_
        refine am_iload_n (q := 36) dX11_rail_35 rfl rfl ?_
        refine cm_call0 (q := 39) (As := [_, _]) hG dX11_rail_36 mlX11_104 rfl (by assumption) ⟨_, _, rfl⟩ (Nat.le_of_ble_eq_true rfl) (Nat.le_of_ble_eq_true rfl) (Nat.le_of_ble_eq_true rfl) (Nat.le_of_ble_eq_true rfl) (k_X2_tellRail hG hct hB hM hj hv) rfl ?_
        rintro _ _ ⟨rfl, rfl⟩
        exact am_iret dX11_rail_39 rfl rfl (XQ.same h)
      · rw [if_neg (fun q => h3 q.2.2)]
        exact am_stop ⟨rfl, rfl⟩
theorem k_X11_fist {i w : Int32} (hG : okG G) (h : XW K S x s I J R) : MW G mX11_fist 6 0 (ent 3 [vR x, vI i, vI w]) [] (mw S I J R) (XQ K S x I J R (if (0 ≤ i ∧ i < nI s.B.nF) ∧ 0 ≤ w ∧ w ≤ 8 then .inr (vI (tlF s.B s.m i.toNatClampNeg w.toNatClampNeg), s) else .inl 21)) := by
  obtain ⟨c, o, hC, hA⟩ := id h
  obtain ⟨kx, r0, r1, r2, r3, r4, hco, htp, htc, hct, hot, kr, rr⟩ := id hC
  obtain ⟨hE, hB, hM, ho, he, hk⟩ := id hA
  have kc := hct.1
  have un := hB.2.1.2
  refine am_aload_n (q := 1) dX11_fist_0 rfl rfl ?_
  refine cm_getR (q := 4) dX11_fist_1 flX11_26 rfl (by assumption) (by assumption) rfl ?_
  refine am_iload_n (q := 5) dX11_fist_4 rfl rfl ?_
  refine cm_call0 (q := 8) (As := [_]) hG dX11_fist_5 mlX11_108 rfl (by assumption) ⟨_, _, rfl⟩ (Nat.le_of_ble_eq_true rfl) (Nat.le_of_ble_eq_true rfl) (Nat.le_of_ble_eq_true rfl) (Nat.le_of_ble_eq_true rfl) (k_X2_hasFist hct hB.2.1.1 hB.2.1.2) rfl ?_
  rintro _ _ ⟨rfl, rfl⟩
  refine am_if_eq (tgt := 21) (q := 11) dX11_fist_8 rfl rfl (fun h1 => ?_) (fun h1 => ?_)
  · rw [if_neg (fun q => bI_e0.mp h1 q.1)]
    exact am_stop ⟨rfl, rfl⟩
  · refine am_iload_n (q := 12) dX11_fist_11 rfl rfl ?_
    refine am_if_lt (tgt := 21) (q := 15) dX11_fist_12 rfl rfl (fun h2 => ?_) (fun h2 => ?_)
    · rw [if_neg (fun q => Int32.not_le.mpr h2 q.2.1)]
      exact am_stop ⟨rfl, rfl⟩
    · refine am_iload_n (q := 16) dX11_fist_15 rfl rfl ?_
      refine am_bipush (q := 18) (v := 8) dX11_fist_16 kc_b8 rfl ?_
      refine am_icmp_le (tgt := 31) (q := 21) dX11_fist_18 rfl rfl (fun h3 => ?_) (fun h3 => ?_)
      · rw [if_pos ⟨bI_n0.mp h1, Int32.not_lt.mp h2, h3⟩]
        obtain ⟨j, hj, rfl⟩ := k_idx (by omega) (bI_n0.mp h1)
        obtain ⟨v, hv, rfl⟩ := k_idx2 (v := 8) (n := 8) rfl (by decide) h2 h3
        rw [nI_clamp (show j < 2 ^ 31 by omega), nI_clamp (show v < 2 ^ 31 by omega)]
        refine am_aload_n (q := 32) dX11_fist_31 rfl rfl ?_
        refine cm_getR (q := 35) dX11_fist_32 flX11_26 rfl (by assumption) (by assumption) rfl ?_
        refine am_iload_n (q := 36) dX11_fist_35 rfl rfl ?_
        refine am_iload_n (q := 37) dX11_fist_36 rfl rfl ?_
        refine cm_call0 (q := 40) (As := [_, _]) hG dX11_fist_37 mlX11_113 rfl (by assumption) ⟨_, _, rfl⟩ (Nat.le_of_ble_eq_true rfl) (Nat.le_of_ble_eq_true rfl) (Nat.le_of_ble_eq_true rfl) (Nat.le_of_ble_eq_true rfl) (k_X2_tellFist hG hct hB hM hj hv) rfl ?_
        rintro _ _ ⟨rfl, rfl⟩
        exact am_iret dX11_fist_40 rfl rfl (XQ.same h)
      · rw [if_neg (fun q => h3 q.2.2)]
        exact am_stop ⟨rfl, rfl⟩
theorem k_X11_prize {i w : Int32} (hG : okG G) (h : XW K S x s I J R) : MW G mX11_prize 6 0 (ent 3 [vR x, vI i, vI w]) [] (mw S I J R) (XQ K S x I J R (if (0 ≤ i ∧ i < nI s.B.nP) ∧ 0 ≤ w ∧ w ≤ 3 then .inr (vI (tlP s.B s.m i.toNatClampNeg w.toNatClampNeg), s) else .inl 20)) := by
  obtain ⟨c, o, hC, hA⟩ := id h
  obtain ⟨kx, r0, r1, r2, r3, r4, hco, htp, htc, hct, hot, kr, rr⟩ := id hC
  obtain ⟨hE, hB, hM, ho, he, hk⟩ := id hA
  have kc := hct.1
  have un := hB.2.2.1.2
  refine am_aload_n (q := 1) dX11_prize_0 rfl rfl ?_
  refine cm_getR (q := 4) dX11_prize_1 flX11_26 rfl (by assumption) (by assumption) rfl ?_
  refine am_iload_n (q := 5) dX11_prize_4 rfl rfl ?_
  refine cm_call0 (q := 8) (As := [_]) hG dX11_prize_5 mlX11_116 rfl (by assumption) ⟨_, _, rfl⟩ (Nat.le_of_ble_eq_true rfl) (Nat.le_of_ble_eq_true rfl) (Nat.le_of_ble_eq_true rfl) (Nat.le_of_ble_eq_true rfl) (k_X2_hasPrize hct hB.2.2.1.1 hB.2.2.1.2) rfl ?_
  rintro _ _ ⟨rfl, rfl⟩
  refine am_if_eq (tgt := 20) (q := 11) dX11_prize_8 rfl rfl (fun h1 => ?_) (fun h1 => ?_)
  · rw [if_neg (fun q => bI_e0.mp h1 q.1)]
    exact am_stop ⟨rfl, rfl⟩
  · refine am_iload_n (q := 12) dX11_prize_11 rfl rfl ?_
    refine am_if_lt (tgt := 20) (q := 15) dX11_prize_12 rfl rfl (fun h2 => ?_) (fun h2 => ?_)
    · rw [if_neg (fun q => Int32.not_le.mpr h2 q.2.1)]
      exact am_stop ⟨rfl, rfl⟩
    · refine am_iload_n (q := 16) dX11_prize_15 rfl rfl ?_
      refine am_iconst (q := 17) (v := 3) dX11_prize_16 kc_i3 rfl ?_
      refine am_icmp_le (tgt := 30) (q := 20) dX11_prize_17 rfl rfl (fun h3 => ?_) (fun h3 => ?_)
      · rw [if_pos ⟨bI_n0.mp h1, Int32.not_lt.mp h2, h3⟩]
        obtain ⟨j, hj, rfl⟩ := k_idx (by omega) (bI_n0.mp h1)
        obtain ⟨v, hv, rfl⟩ := k_idx2 (v := 3) (n := 3) rfl (by decide) h2 h3
        rw [nI_clamp (show j < 2 ^ 31 by omega), nI_clamp (show v < 2 ^ 31 by omega)]
        refine am_aload_n (q := 31) dX11_prize_30 rfl rfl ?_
        refine cm_getR (q := 34) dX11_prize_31 flX11_26 rfl (by assumption) (by assumption) rfl ?_
        refine am_iload_n (q := 35) dX11_prize_34 rfl rfl ?_
        refine am_iload_n (q := 36) dX11_prize_35 rfl rfl ?_
        refine cm_call0 (q := 39) (As := [_, _]) hG dX11_prize_36 mlX11_121 rfl (by assumption) ⟨_, _, rfl⟩ (Nat.le_of_ble_eq_true rfl) (Nat.le_of_ble_eq_true rfl) (Nat.le_of_ble_eq_true rfl) (Nat.le_of_ble_eq_true rfl) (k_X2_tellPrize hG hct hB hM hj hv) rfl ?_
        rintro _ _ ⟨rfl, I1, rfl, q⟩
        exact am_iret dX11_prize_39 rfl rfl (XQ.qt hC hA q)
      · rw [if_neg (fun q => h3 q.2.2)]
        exact am_stop ⟨rfl, rfl⟩
end Fm

