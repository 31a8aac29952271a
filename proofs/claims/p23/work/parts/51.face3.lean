theorem dX11_feed_0 : decode cX11_feed 0 = .ok (.aload_n 0, 1) := by decide +kernel
theorem dX11_feed_1 : decode cX11_feed 1 = .ok (.getfield 10, 3) := by decide +kernel
theorem dX11_feed_4 : decode cX11_feed 4 = .ok (.bipush 20, 2) := by decide +kernel
theorem dX11_feed_6 : decode cX11_feed 6 = .ok (.invokevirtual 46, 3) := by decide +kernel
theorem dX11_feed_9 : decode cX11_feed 9 = .ok (.ifCond .ne 13, 3) := by decide +kernel
theorem dX11_feed_22 : decode cX11_feed 22 = .ok (.aload_n 0, 1) := by decide +kernel
theorem dX11_feed_23 : decode cX11_feed 23 = .ok (.getfield 10, 3) := by decide +kernel
theorem dX11_feed_26 : decode cX11_feed 26 = .ok (.iload_n 1, 1) := by decide +kernel
theorem dX11_feed_27 : decode cX11_feed 27 = .ok (.invokevirtual 57, 3) := by decide +kernel
theorem dX11_feed_30 : decode cX11_feed 30 = .ok (.aload_n 0, 1) := by decide +kernel
theorem dX11_feed_31 : decode cX11_feed 31 = .ok (.getfield 10, 3) := by decide +kernel
theorem dX11_feed_34 : decode cX11_feed 34 = .ok (.iload_n 2, 1) := by decide +kernel
theorem dX11_feed_35 : decode cX11_feed 35 = .ok (.invokevirtual 57, 3) := by decide +kernel
theorem dX11_feed_38 : decode cX11_feed 38 = .ok (.aload_n 0, 1) := by decide +kernel
theorem dX11_feed_39 : decode cX11_feed 39 = .ok (.getfield 10, 3) := by decide +kernel
theorem dX11_feed_42 : decode cX11_feed 42 = .ok (.iload_n 3, 1) := by decide +kernel
theorem dX11_feed_43 : decode cX11_feed 43 = .ok (.invokevirtual 57, 3) := by decide +kernel
theorem dX11_feed_46 : decode cX11_feed 46 = .ok (.aload_n 0, 1) := by decide +kernel
theorem dX11_feed_47 : decode cX11_feed 47 = .ok (.getfield 10, 3) := by decide +kernel
theorem dX11_feed_50 : decode cX11_feed 50 = .ok (.iload 4, 2) := by decide +kernel
theorem dX11_feed_52 : decode cX11_feed 52 = .ok (.invokevirtual 57, 3) := by decide +kernel
theorem dX11_feed_55 : decode cX11_feed 55 = .ok (.aload_n 0, 1) := by decide +kernel
theorem dX11_feed_56 : decode cX11_feed 56 = .ok (.getfield 10, 3) := by decide +kernel
theorem dX11_feed_59 : decode cX11_feed 59 = .ok (.iload 5, 2) := by decide +kernel
theorem dX11_feed_61 : decode cX11_feed 61 = .ok (.invokevirtual 57, 3) := by decide +kernel
theorem dX11_feed_64 : decode cX11_feed 64 = .ok (.aload_n 0, 1) := by decide +kernel
theorem dX11_feed_65 : decode cX11_feed 65 = .ok (.getfield 10, 3) := by decide +kernel
theorem dX11_feed_68 : decode cX11_feed 68 = .ok (.getfield 61, 3) := by decide +kernel
theorem dX11_feed_71 : decode cX11_feed 71 = .ok (.ireturn, 1) := by decide +kernel
theorem dX11_foresee_0 : decode cX11_foresee 0 = .ok (.iload_n 1, 1) := by decide +kernel
theorem dX11_foresee_1 : decode cX11_foresee 1 = .ok (.iconst 1, 1) := by decide +kernel
theorem dX11_foresee_2 : decode cX11_foresee 2 = .ok (.if_icmp .lt 9, 3) := by decide +kernel
theorem dX11_foresee_5 : decode cX11_foresee 5 = .ok (.iload_n 1, 1) := by decide +kernel
theorem dX11_foresee_6 : decode cX11_foresee 6 = .ok (.bipush 30, 2) := by decide +kernel
theorem dX11_foresee_8 : decode cX11_foresee 8 = .ok (.if_icmp .le 13, 3) := by decide +kernel
theorem dX11_foresee_21 : decode cX11_foresee 21 = .ok (.iload_n 2, 1) := by decide +kernel
theorem dX11_foresee_22 : decode cX11_foresee 22 = .ok (.ifCond .lt 8, 3) := by decide +kernel
theorem dX11_foresee_25 : decode cX11_foresee 25 = .ok (.iload_n 2, 1) := by decide +kernel
theorem dX11_foresee_26 : decode cX11_foresee 26 = .ok (.iconst 3, 1) := by decide +kernel
theorem dX11_foresee_27 : decode cX11_foresee 27 = .ok (.if_icmp .le 13, 3) := by decide +kernel
theorem dX11_foresee_40 : decode cX11_foresee 40 = .ok (.aload_n 0, 1) := by decide +kernel
theorem dX11_foresee_41 : decode cX11_foresee 41 = .ok (.getfield 30, 3) := by decide +kernel
theorem dX11_foresee_44 : decode cX11_foresee 44 = .ok (.aload_n 0, 1) := by decide +kernel
theorem dX11_foresee_45 : decode cX11_foresee 45 = .ok (.getfield 26, 3) := by decide +kernel
theorem dX11_foresee_48 : decode cX11_foresee 48 = .ok (.invokevirtual 198, 3) := by decide +kernel
theorem dX11_foresee_51 : decode cX11_foresee 51 = .ok (.aload_n 0, 1) := by decide +kernel
theorem dX11_foresee_52 : decode cX11_foresee 52 = .ok (.getfield 30, 3) := by decide +kernel
theorem dX11_foresee_55 : decode cX11_foresee 55 = .ok (.iload_n 1, 1) := by decide +kernel
theorem dX11_foresee_56 : decode cX11_foresee 56 = .ok (.invokevirtual 169, 3) := by decide +kernel
theorem dX11_foresee_59 : decode cX11_foresee 59 = .ok (.iload_n 2, 1) := by decide +kernel
theorem dX11_foresee_60 : decode cX11_foresee 60 = .ok (.tableswitch 68 0 2 #[28, 44, 52], 28) := by decide +kernel
theorem dX11_foresee_88 : decode cX11_foresee 88 = .ok (.aload_n 0, 1) := by decide +kernel
theorem dX11_foresee_89 : decode cX11_foresee 89 = .ok (.getfield 30, 3) := by decide +kernel
theorem dX11_foresee_92 : decode cX11_foresee 92 = .ok (.getfield 166, 3) := by decide +kernel
theorem dX11_foresee_95 : decode cX11_foresee 95 = .ok (.aload_n 0, 1) := by decide +kernel
theorem dX11_foresee_96 : decode cX11_foresee 96 = .ok (.getfield 26, 3) := by decide +kernel
theorem dX11_foresee_99 : decode cX11_foresee 99 = .ok (.getfield 166, 3) := by decide +kernel
theorem dX11_foresee_102 : decode cX11_foresee 102 = .ok (.isub, 1) := by decide +kernel
theorem dX11_foresee_103 : decode cX11_foresee 103 = .ok (.ireturn, 1) := by decide +kernel
theorem dX11_foresee_104 : decode cX11_foresee 104 = .ok (.aload_n 0, 1) := by decide +kernel
theorem dX11_foresee_105 : decode cX11_foresee 105 = .ok (.getfield 30, 3) := by decide +kernel
theorem dX11_foresee_108 : decode cX11_foresee 108 = .ok (.invokevirtual 202, 3) := by decide +kernel
theorem dX11_foresee_111 : decode cX11_foresee 111 = .ok (.ireturn, 1) := by decide +kernel
theorem dX11_foresee_112 : decode cX11_foresee 112 = .ok (.aload_n 0, 1) := by decide +kernel
theorem dX11_foresee_113 : decode cX11_foresee 113 = .ok (.getfield 30, 3) := by decide +kernel
theorem dX11_foresee_116 : decode cX11_foresee 116 = .ok (.getfield 205, 3) := by decide +kernel
theorem dX11_foresee_119 : decode cX11_foresee 119 = .ok (.aload_n 0, 1) := by decide +kernel
theorem dX11_foresee_120 : decode cX11_foresee 120 = .ok (.getfield 26, 3) := by decide +kernel
theorem dX11_foresee_123 : decode cX11_foresee 123 = .ok (.getfield 205, 3) := by decide +kernel
theorem dX11_foresee_126 : decode cX11_foresee 126 = .ok (.isub, 1) := by decide +kernel
theorem dX11_foresee_127 : decode cX11_foresee 127 = .ok (.ireturn, 1) := by decide +kernel
theorem dX11_foresee_128 : decode cX11_foresee 128 = .ok (.aload_n 0, 1) := by decide +kernel
theorem dX11_foresee_129 : decode cX11_foresee 129 = .ok (.getfield 30, 3) := by decide +kernel
theorem dX11_foresee_132 : decode cX11_foresee 132 = .ok (.getfield 208, 3) := by decide +kernel
theorem dX11_foresee_135 : decode cX11_foresee 135 = .ok (.aload_n 0, 1) := by decide +kernel
theorem dX11_foresee_136 : decode cX11_foresee 136 = .ok (.getfield 26, 3) := by decide +kernel
theorem dX11_foresee_139 : decode cX11_foresee 139 = .ok (.getfield 208, 3) := by decide +kernel
theorem dX11_foresee_142 : decode cX11_foresee 142 = .ok (.isub, 1) := by decide +kernel
theorem dX11_foresee_143 : decode cX11_foresee 143 = .ok (.ireturn, 1) := by decide +kernel
/-! the whole object: feeding, foreseeing, advising -/
/-- five numbers fed -/
def fedE (E : Tp) (p q r u v : Int32) : Tp := ((((E.num p 4).num q 4).num r 4).num u 4).num v 4
/-- what is foreseen -/
def fseM (B : BS) (m m1 : MS) (w : Int32) : Int32 := if w = 0 then gvnM B m1 - gvnM B m else if w = 1 then pursM B m1 else if w = 2 then m1.g 4 - m.g 4 else m1.g 3 - m.g 3
/-- the advice behind the springs below k: the best one and its purses -/
noncomputable def advM (B : BS) (m : MS) (r n : Nat) : Nat → Int32 × Int32
  | 0 => (0, 0)
  | k + 1 => if k = 0 ∨ pursM B (plyM B n (wndM m r (nI k))) < (advM B m r n k).2 then (nI k, pursM B (plyM B n (wndM m r (nI k)))) else advM B m r n k
section Ff
variable {G : Gp} {K : Nat → Int64} {S : AMem} {I I1 : Nat → Nat → Int32} {J J1 : Nat → Nat → Int64} {R : Nat → Nat → Option Nat} {x c o : Nat} {s : XS}
/-- only the tape has changed -/
theorem AbX.tape {E : Tp} (hC : XC S R x c o) (h : AbX K I J x c o s) (hE : AbTp I1 (x + 1) E) (ho : ∀ y j, y ≠ x + 1 → y ≠ x + 2 → I1 y j = I y j) : AbX K I1 J x c o (E, s.B, s.m, s.er) := by
  obtain ⟨p1, p2, p3, p4, p5⟩ := hC.lo
  obtain ⟨h1, h2, h3, h4, h5, h6⟩ := h
  exact ⟨hE, h2.out (fun y j q1 q2 => ho _ _ (by omega) (by omega)), AbM.out h2 h3 (fun y j q1 q2 => ho _ _ (by omega) (by omega)), fun i hi => by rw [ho _ _ (by omega) (by omega)]; exact h4 i hi, (ho _ _ (by omega) (by omega)).trans h5, h6⟩
/-- the other contest has changed -/
theorem AbX.oth (hC : XC S R x c o) (h : AbX K I J x c o s) (ho : OffC o I I1) (hj : OffJ o J J1) (h9 : ∀ i, i < 8 → I1 (o + 22 + i) 9 = 0 ∨ I1 (o + 22 + i) 9 = 1) : AbX K I1 J1 x c o s := by
  obtain ⟨p1, p2, p3, p4, p5⟩ := hC.lo
  obtain ⟨h1, h2, h3, h4, h5, h6⟩ := h
  exact ⟨h1.off (ho _ _ (by omega)) (fun i _ => ho _ _ (by omega)), h2.out (fun y j q1 q2 => ho _ _ (by omega)), AbM.out h2 h3 (fun y j q1 q2 => ho _ _ (by omega)), h9, (ho _ _ (by omega)).trans h5, fun i hi => (hj _ _ (by omega)).trans (h6 i hi)⟩
theorem OffC.wJ (hC : XC S R x c o) (ho : OffC o I I1) (hj : OffJ o J J1) : OffW x I J R I1 J1 R := fun y q => by
  obtain ⟨p1, p2, p3, p4, p5⟩ := hC.lo
  exact ⟨funext fun j => ho y j (by omega), funext fun j => hj y j (by omega), rfl⟩
theorem k_X11_feed {p q r u v : Int32} (hG : okG G) (h : XW K S x s I J R) : MW G mX11_feed 6 0 (ent 6 [vR x, vI p, vI q, vI r, vI u, vI v]) [] (mw S I J R) (XQ K S x I J R (if s.E.1 + 20 ≤ 2000 then .inr (vI (nI (s.E.1 + 20)), (fedE s.E p q r u v, s.B, s.m, s.er)) else .inl 12)) := by
  obtain ⟨c, o, hC, hA⟩ := id h
  obtain ⟨kx, r0, r1, r2, r3, r4, hco, htp, htc, hct, hot, kr, rr⟩ := id hC
  obtain ⟨hE, hB, hM, ho, he, hk⟩ := id hA
  have kt := htp.1
  have ul := hE.2.1
  have e0 : (I (x + 1) 1 + 20 ≤ 2000) ↔ s.E.1 + 20 ≤ 2000 := by
    rw [hE.1, show (nI s.E.1 + 20 : Int32) = nI (s.E.1 + 20) from nI_add s.E.1 20]
    exact nI_leI (b := 2000) (by omega) (by decide)
  refine am_aload_n (q := 1) dX11_feed_0 rfl rfl ?_
  refine cm_getR (q := 4) dX11_feed_1 flX11_10 rfl (by assumption) (by assumption) rfl ?_
  refine am_bipush (q := 6) (v := 20) dX11_feed_4 kc_b20 rfl ?_
  refine cm_call0 (q := 9) (As := [_]) hG dX11_feed_6 mlX11_46 rfl (by assumption) ⟨_, _, rfl⟩ (Nat.le_of_ble_eq_true rfl) (Nat.le_of_ble_eq_true rfl) (Nat.le_of_ble_eq_true rfl) (Nat.le_of_ble_eq_true rfl) (k_X8_hasRoomFor kt) rfl ?_
  rintro _ _ ⟨rfl, rfl⟩
  refine am_if_ne (tgt := 22) (q := 12) dX11_feed_9 rfl rfl (fun h1 => ?_) (fun h1 => ?_)
  · have h2 : s.E.1 + 20 ≤ 2000 := e0.mp (bI_n0.mp h1)
    rw [if_pos h2]
    have n1 : (s.E.num p 4).1 = s.E.1 + 4 := Tp.num_1 4
    have n2 : ((s.E.num p 4).num q 4).1 = s.E.1 + 8 := by rw [Tp.num_1, n1]
    have n3 : (((s.E.num p 4).num q 4).num r 4).1 = s.E.1 + 12 := by rw [Tp.num_1, n2]
    have n4 : ((((s.E.num p 4).num q 4).num r 4).num u 4).1 = s.E.1 + 16 := by rw [Tp.num_1, n3]
    have n5 : (fedE s.E p q r u v).1 = s.E.1 + 20 := by unfold fedE; rw [Tp.num_1, n4]
    refine am_aload_n (q := 23) dX11_feed_22 rfl rfl ?_
    refine cm_getR (q := 26) dX11_feed_23 flX11_10 rfl (by assumption) (by assumption) rfl ?_
    refine am_iload_n (q := 27) dX11_feed_26 rfl rfl ?_
    refine cm_call0 (q := 30) (As := [_]) hG dX11_feed_27 mlX11_57 rfl (by assumption) ⟨_, _, rfl⟩ (Nat.le_of_ble_eq_true rfl) (Nat.le_of_ble_eq_true rfl) (Nat.le_of_ble_eq_true rfl) (Nat.le_of_ble_eq_true rfl) (k_X8_addNumber htp hE (by omega)) rfl ?_
    rintro _ _ ⟨rfl, I1, rfl, g1, o1⟩
    refine am_aload_n (q := 31) dX11_feed_30 rfl rfl ?_
    refine cm_getR (q := 34) dX11_feed_31 flX11_10 rfl (by assumption) (by assumption) rfl ?_
    refine am_iload_n (q := 35) dX11_feed_34 rfl rfl ?_
    refine cm_call0 (q := 38) (As := [_]) hG dX11_feed_35 mlX11_57 rfl (by assumption) ⟨_, _, rfl⟩ (Nat.le_of_ble_eq_true rfl) (Nat.le_of_ble_eq_true rfl) (Nat.le_of_ble_eq_true rfl) (Nat.le_of_ble_eq_true rfl) (k_X8_addNumber htp g1 (by omega)) rfl ?_
    rintro _ _ ⟨rfl, I2, rfl, g2, o2⟩
    refine am_aload_n (q := 39) dX11_feed_38 rfl rfl ?_
    refine cm_getR (q := 42) dX11_feed_39 flX11_10 rfl (by assumption) (by assumption) rfl ?_
    refine am_iload_n (q := 43) dX11_feed_42 rfl rfl ?_
    refine cm_call0 (q := 46) (As := [_]) hG dX11_feed_43 mlX11_57 rfl (by assumption) ⟨_, _, rfl⟩ (Nat.le_of_ble_eq_true rfl) (Nat.le_of_ble_eq_true rfl) (Nat.le_of_ble_eq_true rfl) (Nat.le_of_ble_eq_true rfl) (k_X8_addNumber htp g2 (by omega)) rfl ?_
    rintro _ _ ⟨rfl, I3, rfl, g3, o3⟩
    refine am_aload_n (q := 47) dX11_feed_46 rfl rfl ?_
    refine cm_getR (q := 50) dX11_feed_47 flX11_10 rfl (by assumption) (by assumption) rfl ?_
    refine am_iload (q := 52) dX11_feed_50 rfl rfl ?_
    refine cm_call0 (q := 55) (As := [_]) hG dX11_feed_52 mlX11_57 rfl (by assumption) ⟨_, _, rfl⟩ (Nat.le_of_ble_eq_true rfl) (Nat.le_of_ble_eq_true rfl) (Nat.le_of_ble_eq_true rfl) (Nat.le_of_ble_eq_true rfl) (k_X8_addNumber htp g3 (by omega)) rfl ?_
    rintro _ _ ⟨rfl, I4, rfl, g4, o4⟩
    refine am_aload_n (q := 56) dX11_feed_55 rfl rfl ?_
    refine cm_getR (q := 59) dX11_feed_56 flX11_10 rfl (by assumption) (by assumption) rfl ?_
    refine am_iload (q := 61) dX11_feed_59 rfl rfl ?_
    refine cm_call0 (q := 64) (As := [_]) hG dX11_feed_61 mlX11_57 rfl (by assumption) ⟨_, _, rfl⟩ (Nat.le_of_ble_eq_true rfl) (Nat.le_of_ble_eq_true rfl) (Nat.le_of_ble_eq_true rfl) (Nat.le_of_ble_eq_true rfl) (k_X8_addNumber htp g4 (by omega)) rfl ?_
    rintro _ _ ⟨rfl, I5, rfl, g5, o5⟩
    have e5 : I5 (x + 1) 1 = nI (s.E.1 + 20) := by rw [← n5]; exact g5.1
    have oo : ∀ y j, y ≠ x + 1 → y ≠ x + 2 → I5 y j = I y j := fun y j q1 q2 => ((((o5 y j q1 q2).trans (o4 y j q1 q2)).trans (o3 y j q1 q2)).trans (o2 y j q1 q2)).trans (o1 y j q1 q2)
    refine am_aload_n (q := 65) dX11_feed_64 rfl rfl ?_
    refine cm_getR (q := 68) dX11_feed_65 flX11_10 rfl (by assumption) (by assumption) rfl ?_
    refine cm_getI (q := 71) dX11_feed_68 flX11_61 rfl (by assumption) rfl ?_
    rw [e5]
    exact am_iret dX11_feed_71 rfl rfl ⟨rfl, I5, J, R, rfl, ⟨c, o, hC, hA.tape hC g5 oo⟩, fun y q => ⟨funext fun j => oo y j (by omega) (by omega), rfl, rfl⟩⟩
  · rw [if_neg (fun z => bI_e0.mp h1 (e0.mpr z))]
    exact am_stop ⟨rfl, rfl⟩
theorem k_X11_foresee {n w : Int32} (hG : okG G) (h : XW K S x s I J R) : MW G mX11_foresee 7 0 (ent 3 [vR x, vI n, vI w]) [] (mw S I J R) (XQ K S x I J R (if 1 ≤ n ∧ n ≤ 30 then (if 0 ≤ w ∧ w ≤ 3 then .inr (vI (fseM s.B s.m (plyM s.B n.toNatClampNeg s.m) w), s) else .inl 30) else .inl 11)) := by
  obtain ⟨c, o, hC, hA⟩ := id h
  obtain ⟨kx, r0, r1, r2, r3, r4, hco, htp, htc, hct, hot, kr, rr⟩ := id hC
  obtain ⟨hE, hB, hM, ho, he, hk⟩ := id hA
  have kc := hct.1
  have ko := hot.1
  refine am_iload_n (q := 1) dX11_foresee_0 rfl rfl ?_
  refine am_iconst (q := 2) (v := 1) dX11_foresee_1 kc_i1 rfl ?_
  refine am_icmp_lt (tgt := 11) (q := 5) dX11_foresee_2 rfl rfl (fun h1 => ?_) (fun h1 => ?_)
  · rw [if_neg (fun q => Int32.not_le.mpr h1 q.1)]
    exact am_stop ⟨rfl, rfl⟩
  · refine am_iload_n (q := 6) dX11_foresee_5 rfl rfl ?_
    refine am_bipush (q := 8) (v := 30) dX11_foresee_6 kc_b30 rfl ?_
    refine am_icmp_le (tgt := 21) (q := 11) dX11_foresee_8 rfl rfl (fun h2 => ?_) (fun h2 => ?_)
    · rw [if_pos ⟨Int32.not_lt.mp h1, h2⟩]
      refine am_iload_n (q := 22) dX11_foresee_21 rfl rfl ?_
      refine am_if_lt (tgt := 30) (q := 25) dX11_foresee_22 rfl rfl (fun h3 => ?_) (fun h3 => ?_)
      · rw [if_neg (fun q => Int32.not_le.mpr h3 q.1)]
        exact am_stop ⟨rfl, rfl⟩
      · refine am_iload_n (q := 26) dX11_foresee_25 rfl rfl ?_
        refine am_iconst (q := 27) (v := 3) dX11_foresee_26 kc_i3 rfl ?_
        refine am_icmp_le (tgt := 40) (q := 30) dX11_foresee_27 rfl rfl (fun h4 => ?_) (fun h4 => ?_)
        · rw [if_pos ⟨Int32.not_lt.mp h3, h4⟩]
          obtain ⟨j, hj, rfl⟩ := k_idx2 (v := 30) (n := 30) rfl (by decide) (fun q => h1 (Int32.lt_trans q (by decide))) h2
          obtain ⟨v, hv, rfl⟩ := k_idx2 (v := 3) (n := 3) rfl (by decide) h3 h4
          rw [nI_clamp (show j < 2 ^ 31 by omega)]
          refine am_aload_n (q := 41) dX11_foresee_40 rfl rfl ?_
          refine cm_getR (q := 44) dX11_foresee_41 flX11_30 rfl (by assumption) (by assumption) rfl ?_
          refine am_aload_n (q := 45) dX11_foresee_44 rfl rfl ?_
          refine cm_getR (q := 48) dX11_foresee_45 flX11_26 rfl (by assumption) (by assumption) rfl ?_
          refine cm_call0 (q := 51) (As := [_]) hG dX11_foresee_48 mlX11_198 rfl (by assumption) ⟨_, _, rfl⟩ (Nat.le_of_ble_eq_true rfl) (Nat.le_of_ble_eq_true rfl) (Nat.le_of_ble_eq_true rfl) (Nat.le_of_ble_eq_true rfl) (k_X2_copyFrom hG hot hct (by have := hC.lo; omega) hB hM) rfl ?_
          rintro _ _ ⟨rfl, I1, J1, rfl, b1, m1, o1, j1⟩
          refine am_aload_n (q := 52) dX11_foresee_51 rfl rfl ?_
          refine cm_getR (q := 55) dX11_foresee_52 flX11_30 rfl (by assumption) (by assumption) rfl ?_
          refine am_iload_n (q := 56) dX11_foresee_55 rfl rfl ?_
          refine cm_call0 (q := 59) (As := [_]) hG dX11_foresee_56 mlX11_169 rfl (by assumption) ⟨_, _, rfl⟩ (Nat.le_of_ble_eq_true rfl) (Nat.le_of_ble_eq_true rfl) (Nat.le_of_ble_eq_true rfl) (Nat.le_of_ble_eq_true rfl) (k_X2_play hG hot b1 m1 (by omega)) rfl ?_
          rintro _ _ ⟨rfl, I2, rfl, b2, m2, o2⟩
          have hA2 := hA.oth hC (o1.tr o2) j1 m2.2.2.2.2.2.2.2.2.2.2
          have hW := (o1.tr o2).wJ (J := J) (J1 := J1) hC j1
          have fin : ∀ z : Int32, XQ K S x I J R (.inr (vI z, s)) (.inl (some (vI z))) (mw S I2 J1 R) := fun z => ⟨rfl, I2, J1, R, rfl, ⟨c, o, hC, hA2⟩, hW⟩
          have f1 : I2 o 18 = gvnM s.B (plyM s.B j s.m) := m2.2.2.2.2.1
          have f2 : I2 c 18 = gvnM s.B s.m := hA2.2.2.1.2.2.2.2.1
          have f3 : I2 o 17 = (plyM s.B j s.m).g 4 := m2.2.2.2.1 4 (by decide)
          have f4 : I2 c 17 = s.m.g 4 := hA2.2.2.1.2.2.2.1 4 (by decide)
          have f5 : I2 o 16 = (plyM s.B j s.m).g 3 := m2.2.2.2.1 3 (by decide)
          have f6 : I2 c 16 = s.m.g 3 := hA2.2.2.1.2.2.2.1 3 (by decide)
          rcases k_c4 hv with rfl | rfl | rfl | rfl
          · refine am_iload_n (q := 60) dX11_foresee_59 rfl rfl ?_
            refine am_tableIn (tgt := 88) dX11_foresee_60 (by decide) (by decide) rfl rfl ?_
            refine am_aload_n (q := 89) dX11_foresee_88 rfl rfl ?_
            refine cm_getR (q := 92) dX11_foresee_89 flX11_30 rfl (by assumption) (by assumption) rfl ?_
            refine cm_getI (q := 95) dX11_foresee_92 flX11_166 rfl (by assumption) rfl ?_
            rw [f1]
            refine am_aload_n (q := 96) dX11_foresee_95 rfl rfl ?_
            refine cm_getR (q := 99) dX11_foresee_96 flX11_26 rfl (by assumption) (by assumption) rfl ?_
            refine cm_getI (q := 102) dX11_foresee_99 flX11_166 rfl (by assumption) rfl ?_
            rw [f2]
            refine am_isub (q := 103) dX11_foresee_102 rfl ?_
            exact am_iret dX11_foresee_103 rfl rfl (fin _)
          · refine am_iload_n (q := 60) dX11_foresee_59 rfl rfl ?_
            refine am_tableIn (tgt := 104) dX11_foresee_60 (by decide) (by decide) rfl rfl ?_
            refine am_aload_n (q := 105) dX11_foresee_104 rfl rfl ?_
            refine cm_getR (q := 108) dX11_foresee_105 flX11_30 rfl (by assumption) (by assumption) rfl ?_
            refine cm_call0 (q := 111) (As := []) hG dX11_foresee_108 mlX11_202 rfl (by assumption) ⟨_, _, rfl⟩ (Nat.le_of_ble_eq_true rfl) (Nat.le_of_ble_eq_true rfl) (Nat.le_of_ble_eq_true rfl) (Nat.le_of_ble_eq_true rfl) (k_X2_allPurses hot b2 m2) rfl ?_
            rintro _ _ ⟨rfl, rfl⟩
            exact am_iret dX11_foresee_111 rfl rfl (fin _)
          · refine am_iload_n (q := 60) dX11_foresee_59 rfl rfl ?_
            refine am_tableIn (tgt := 112) dX11_foresee_60 (by decide) (by decide) rfl rfl ?_
            refine am_aload_n (q := 113) dX11_foresee_112 rfl rfl ?_
            refine cm_getR (q := 116) dX11_foresee_113 flX11_30 rfl (by assumption) (by assumption) rfl ?_
            refine cm_getI (q := 119) dX11_foresee_116 flX11_205 rfl (by assumption) rfl ?_
            rw [f3]
            refine am_aload_n (q := 120) dX11_foresee_119 rfl rfl ?_
            refine cm_getR (q := 123) dX11_foresee_120 flX11_26 rfl (by assumption) (by assumption) rfl ?_
            refine cm_getI (q := 126) dX11_foresee_123 flX11_205 rfl (by assumption) rfl ?_
            rw [f4]
            refine am_isub (q := 127) dX11_foresee_126 rfl ?_
            exact am_iret dX11_foresee_127 rfl rfl (fin _)
          · refine am_iload_n (q := 60) dX11_foresee_59 rfl rfl ?_
            refine am_tableOut (tgt := 128) dX11_foresee_60 (by decide) rfl ?_
            refine am_aload_n (q := 129) dX11_foresee_128 rfl rfl ?_
            refine cm_getR (q := 132) dX11_foresee_129 flX11_30 rfl (by assumption) (by assumption) rfl ?_
            refine cm_getI (q := 135) dX11_foresee_132 flX11_208 rfl (by assumption) rfl ?_
            rw [f5]
            refine am_aload_n (q := 136) dX11_foresee_135 rfl rfl ?_
            refine cm_getR (q := 139) dX11_foresee_136 flX11_26 rfl (by assumption) (by assumption) rfl ?_
            refine cm_getI (q := 142) dX11_foresee_139 flX11_208 rfl (by assumption) rfl ?_
            rw [f6]
            refine am_isub (q := 143) dX11_foresee_142 rfl ?_
            exact am_iret dX11_foresee_143 rfl rfl (fin _)
        · rw [if_neg (fun q => h4 q.2)]
          exact am_stop ⟨rfl, rfl⟩
    · rw [if_neg (fun q => h2 q.2)]
      exact am_stop ⟨rfl, rfl⟩
end Ff

