theorem dX11_advise_0 : decode cX11_advise 0 = .ok (.aload_n 0, 1) := by decide +kernel
theorem dX11_advise_1 : decode cX11_advise 1 = .ok (.getfield 26, 3) := by decide +kernel
theorem dX11_advise_4 : decode cX11_advise 4 = .ok (.iload_n 1, 1) := by decide +kernel
theorem dX11_advise_5 : decode cX11_advise 5 = .ok (.invokevirtual 99, 3) := by decide +kernel
theorem dX11_advise_8 : decode cX11_advise 8 = .ok (.ifCond .ne 13, 3) := by decide +kernel
theorem dX11_advise_21 : decode cX11_advise 21 = .ok (.iload_n 2, 1) := by decide +kernel
theorem dX11_advise_22 : decode cX11_advise 22 = .ok (.iconst 1, 1) := by decide +kernel
theorem dX11_advise_23 : decode cX11_advise 23 = .ok (.if_icmp .lt 8, 3) := by decide +kernel
theorem dX11_advise_26 : decode cX11_advise 26 = .ok (.iload_n 2, 1) := by decide +kernel
theorem dX11_advise_27 : decode cX11_advise 27 = .ok (.iconst 4, 1) := by decide +kernel
theorem dX11_advise_28 : decode cX11_advise 28 = .ok (.if_icmp .le 13, 3) := by decide +kernel
theorem dX11_advise_41 : decode cX11_advise 41 = .ok (.iconst 0, 1) := by decide +kernel
theorem dX11_advise_42 : decode cX11_advise 42 = .ok (.istore_n 3, 1) := by decide +kernel
theorem dX11_advise_43 : decode cX11_advise 43 = .ok (.iconst 0, 1) := by decide +kernel
theorem dX11_advise_44 : decode cX11_advise 44 = .ok (.istore 4, 2) := by decide +kernel
theorem dX11_advise_46 : decode cX11_advise 46 = .ok (.iconst 0, 1) := by decide +kernel
theorem dX11_advise_47 : decode cX11_advise 47 = .ok (.istore 5, 2) := by decide +kernel
theorem dX11_advise_49 : decode cX11_advise 49 = .ok (.iload 5, 2) := by decide +kernel
theorem dX11_advise_51 : decode cX11_advise 51 = .ok (.bipush 20, 2) := by decide +kernel
theorem dX11_advise_53 : decode cX11_advise 53 = .ok (.if_icmp .gt 67, 3) := by decide +kernel
theorem dX11_advise_56 : decode cX11_advise 56 = .ok (.aload_n 0, 1) := by decide +kernel
theorem dX11_advise_57 : decode cX11_advise 57 = .ok (.getfield 30, 3) := by decide +kernel
theorem dX11_advise_60 : decode cX11_advise 60 = .ok (.aload_n 0, 1) := by decide +kernel
theorem dX11_advise_61 : decode cX11_advise 61 = .ok (.getfield 26, 3) := by decide +kernel
theorem dX11_advise_64 : decode cX11_advise 64 = .ok (.invokevirtual 198, 3) := by decide +kernel
theorem dX11_advise_67 : decode cX11_advise 67 = .ok (.aload_n 0, 1) := by decide +kernel
theorem dX11_advise_68 : decode cX11_advise 68 = .ok (.getfield 30, 3) := by decide +kernel
theorem dX11_advise_71 : decode cX11_advise 71 = .ok (.iload_n 1, 1) := by decide +kernel
theorem dX11_advise_72 : decode cX11_advise 72 = .ok (.iload 5, 2) := by decide +kernel
theorem dX11_advise_74 : decode cX11_advise 74 = .ok (.invokevirtual 161, 3) := by decide +kernel
theorem dX11_advise_77 : decode cX11_advise 77 = .ok (.pop, 1) := by decide +kernel
theorem dX11_advise_78 : decode cX11_advise 78 = .ok (.aload_n 0, 1) := by decide +kernel
theorem dX11_advise_79 : decode cX11_advise 79 = .ok (.getfield 30, 3) := by decide +kernel
theorem dX11_advise_82 : decode cX11_advise 82 = .ok (.iload_n 2, 1) := by decide +kernel
theorem dX11_advise_83 : decode cX11_advise 83 = .ok (.invokevirtual 169, 3) := by decide +kernel
theorem dX11_advise_86 : decode cX11_advise 86 = .ok (.aload_n 0, 1) := by decide +kernel
theorem dX11_advise_87 : decode cX11_advise 87 = .ok (.getfield 30, 3) := by decide +kernel
theorem dX11_advise_90 : decode cX11_advise 90 = .ok (.invokevirtual 202, 3) := by decide +kernel
theorem dX11_advise_93 : decode cX11_advise 93 = .ok (.istore 6, 2) := by decide +kernel
theorem dX11_advise_95 : decode cX11_advise 95 = .ok (.iload 5, 2) := by decide +kernel
theorem dX11_advise_97 : decode cX11_advise 97 = .ok (.ifCond .eq 10, 3) := by decide +kernel
theorem dX11_advise_100 : decode cX11_advise 100 = .ok (.iload 6, 2) := by decide +kernel
theorem dX11_advise_102 : decode cX11_advise 102 = .ok (.iload 4, 2) := by decide +kernel
theorem dX11_advise_104 : decode cX11_advise 104 = .ok (.if_icmp .ge 10, 3) := by decide +kernel
theorem dX11_advise_107 : decode cX11_advise 107 = .ok (.iload 5, 2) := by decide +kernel
theorem dX11_advise_109 : decode cX11_advise 109 = .ok (.istore_n 3, 1) := by decide +kernel
theorem dX11_advise_110 : decode cX11_advise 110 = .ok (.iload 6, 2) := by decide +kernel
theorem dX11_advise_112 : decode cX11_advise 112 = .ok (.istore 4, 2) := by decide +kernel
theorem dX11_advise_114 : decode cX11_advise 114 = .ok (.iinc 5 1, 3) := by decide +kernel
theorem dX11_advise_117 : decode cX11_advise 117 = .ok (.goto (-68), 3) := by decide +kernel
theorem dX11_advise_120 : decode cX11_advise 120 = .ok (.iload_n 3, 1) := by decide +kernel
theorem dX11_advise_121 : decode cX11_advise 121 = .ok (.ireturn, 1) := by decide +kernel
theorem dX11_feed_0 : decode cX11_feed 0 = .ok (.aload_n 0, 1) := by decide +kernel
theorem dX11_feed_1 : decode cX11_feed 1 = .ok (.getfield 10, 3) := by decide +kernel
theorem dX11_feed_4 : decode cX11_feed 4 = .ok (.bipush 20, 2) := by decide +kernel
theorem dX11_feed_6 : decode cX11_feed 6 = .ok (.invokevirtual 46, 3) := by decide +kernel
theorem dX11_feed_9 : decode cX11_feed 9 = .ok (.ifCond .ne 13, 3) := by decide +kernel
theorem dX11_feed_22 : decode cX11_feed 22 = .ok (.aload_n 0, 1) := by decide +kernel
theorem dX11_feed_23 : decode cX11_feed 23 = .ok (.getfield 10, 3) := by decide +kernel
theorem dX11_feed_26 : decode cX11_feed 26 = .ok (.iload_n 1, 1) := by decide +kernel
theorem dX11_feed_27 : decode cX11_feed 27 = .ok (.invokevirtual 57, 3) := by decide +kernel
theorem dX11_feed_30 : decode cX11_feed 30 = .ok (.aload_n 0, 1) := by decide +kernel
theorem dX11_feed_31 : decode cX11_feed 31 = .ok (.getfield 10, 3) := by decide +kernel
theorem dX11_feed_34 : decode cX11_feed 34 = .ok (.iload_n 2, 1) := by decide +kernel
theorem dX11_feed_35 : decode cX11_feed 35 = .ok (.invokevirtual 57, 3) := by decide +kernel
theorem dX11_feed_38 : decode cX11_feed 38 = .ok (.aload_n 0, 1) := by decide +kernel
theorem dX11_feed_39 : decode cX11_feed 39 = .ok (.getfield 10, 3) := by decide +kernel
theorem dX11_feed_42 : decode cX11_feed 42 = .ok (.iload_n 3, 1) := by decide +kernel
theorem dX11_feed_43 : decode cX11_feed 43 = .ok (.invokevirtual 57, 3) := by decide +kernel
theorem dX11_feed_46 : decode cX11_feed 46 = .ok (.aload_n 0, 1) := by decide +kernel
theorem dX11_feed_47 : decode cX11_feed 47 = .ok (.getfield 10, 3) := by decide +kernel
theorem dX11_feed_50 : decode cX11_feed 50 = .ok (.iload 4, 2) := by decide +kernel
theorem dX11_feed_52 : decode cX11_feed 52 = .ok (.invokevirtual 57, 3) := by decide +kernel
theorem dX11_feed_55 : decode cX11_feed 55 = .ok (.aload_n 0, 1) := by decide +kernel
theorem dX11_feed_56 : decode cX11_feed 56 = .ok (.getfield 10, 3) := by decide +kernel
theorem dX11_feed_59 : decode cX11_feed 59 = .ok (.iload 5, 2) := by decide +kernel
theorem dX11_feed_61 : decode cX11_feed 61 = .ok (.invokevirtual 57, 3) := by decide +kernel
theorem dX11_feed_64 : decode cX11_feed 64 = .ok (.aload_n 0, 1) := by decide +kernel
theorem dX11_feed_65 : decode cX11_feed 65 = .ok (.getfield 10, 3) := by decide +kernel
theorem dX11_feed_68 : decode cX11_feed 68 = .ok (.getfield 61, 3) := by decide +kernel
theorem dX11_feed_71 : decode cX11_feed 71 = .ok (.ireturn, 1) := by decide +kernel
theorem dX11_foresee_0 : decode cX11_foresee 0 = .ok (.iload_n 1, 1) := by decide +kernel
theorem dX11_foresee_1 : decode cX11_foresee 1 = .ok (.iconst 1, 1) := by decide +kernel
theorem dX11_foresee_2 : decode cX11_foresee 2 = .ok (.if_icmp .lt 9, 3) := by decide +kernel
theorem dX11_foresee_5 : decode cX11_foresee 5 = .ok (.iload_n 1, 1) := by decide +kernel
theorem dX11_foresee_6 : decode cX11_foresee 6 = .ok (.bipush 30, 2) := by decide +kernel
theorem dX11_foresee_8 : decode cX11_foresee 8 = .ok (.if_icmp .le 13, 3) := by decide +kernel
theorem dX11_foresee_21 : decode cX11_foresee 21 = .ok (.iload_n 2, 1) := by decide +kernel
theorem dX11_foresee_22 : decode cX11_foresee 22 = .ok (.ifCond .lt 8, 3) := by decide +kernel
theorem dX11_foresee_25 : decode cX11_foresee 25 = .ok (.iload_n 2, 1) := by decide +kernel
theorem dX11_foresee_26 : decode cX11_foresee 26 = .ok (.iconst 3, 1) := by decide +kernel
theorem dX11_foresee_27 : decode cX11_foresee 27 = .ok (.if_icmp .le 13, 3) := by decide +kernel
theorem dX11_foresee_40 : decode cX11_foresee 40 = .ok (.aload_n 0, 1) := by decide +kernel
theorem dX11_foresee_41 : decode cX11_foresee 41 = .ok (.getfield 30, 3) := by decide +kernel
theorem dX11_foresee_44 : decode cX11_foresee 44 = .ok (.aload_n 0, 1) := by decide +kernel
theorem dX11_foresee_45 : decode cX11_foresee 45 = .ok (.getfield 26, 3) := by decide +kernel
theorem dX11_foresee_48 : decode cX11_foresee 48 = .ok (.invokevirtual 198, 3) := by decide +kernel
theorem dX11_foresee_51 : decode cX11_foresee 51 = .ok (.aload_n 0, 1) := by decide +kernel
theorem dX11_foresee_52 : decode cX11_foresee 52 = .ok (.getfield 30, 3) := by decide +kernel
theorem dX11_foresee_55 : decode cX11_foresee 55 = .ok (.iload_n 1, 1) := by decide +kernel
theorem dX11_foresee_56 : decode cX11_foresee 56 = .ok (.invokevirtual 169, 3) := by decide +kernel
theorem dX11_foresee_59 : decode cX11_foresee 59 = .ok (.iload_n 2, 1) := by decide +kernel
theorem dX11_foresee_60 : decode cX11_foresee 60 = .ok (.tableswitch 68 0 2 #[28, 44, 52], 28) := by decide +kernel
theorem dX11_foresee_88 : decode cX11_foresee 88 = .ok (.aload_n 0, 1) := by decide +kernel
theorem dX11_foresee_89 : decode cX11_foresee 89 = .ok (.getfield 30, 3) := by decide +kernel
theorem dX11_foresee_92 : decode cX11_foresee 92 = .ok (.getfield 166, 3) := by decide +kernel
theorem dX11_foresee_95 : decode cX11_foresee 95 = .ok (.aload_n 0, 1) := by decide +kernel
theorem dX11_foresee_96 : decode cX11_foresee 96 = .ok (.getfield 26, 3) := by decide +kernel
theorem dX11_foresee_99 : decode cX11_foresee 99 = .ok (.getfield 166, 3) := by decide +kernel
theorem dX11_foresee_102 : decode cX11_foresee 102 = .ok (.isub, 1) := by decide +kernel
theorem dX11_foresee_103 : decode cX11_foresee 103 = .ok (.ireturn, 1) := by decide +kernel
theorem dX11_foresee_104 : decode cX11_foresee 104 = .ok (.aload_n 0, 1) := by decide +kernel
theorem dX11_foresee_105 : decode cX11_foresee 105 = .ok (.getfield 30, 3) := by decide +kernel
theorem dX11_foresee_108 : decode cX11_foresee 108 = .ok (.invokevirtual 202, 3) := by decide +kernel
theorem dX11_foresee_111 : decode cX11_foresee 111 = .ok (.ireturn, 1) := by decide +kernel
theorem dX11_foresee_112 : decode cX11_foresee 112 = .ok (.aload_n 0, 1) := by decide +kernel
theorem dX11_foresee_113 : decode cX11_foresee 113 = .ok (.getfield 30, 3) := by decide +kernel
theorem dX11_foresee_116 : decode cX11_foresee 116 = .ok (.getfield 205, 3) := by decide +kernel
theorem dX11_foresee_119 : decode cX11_foresee 119 = .ok (.aload_n 0, 1) := by decide +kernel
theorem dX11_foresee_120 : decode cX11_foresee 120 = .ok (.getfield 26, 3) := by decide +kernel
theorem dX11_foresee_123 : decode cX11_foresee 123 = .ok (.getfield 205, 3) := by decide +kernel
theorem dX11_foresee_126 : decode cX11_foresee 126 = .ok (.isub, 1) := by decide +kernel
theorem dX11_foresee_127 : decode cX11_foresee 127 = .ok (.ireturn, 1) := by decide +kernel
theorem dX11_foresee_128 : decode cX11_foresee 128 = .ok (.aload_n 0, 1) := by decide +kernel
theorem dX11_foresee_129 : decode cX11_foresee 129 = .ok (.getfield 30, 3) := by decide +kernel
theorem dX11_foresee_132 : decode cX11_foresee 132 = .ok (.getfield 208, 3) := by decide +kernel
theorem dX11_foresee_135 : decode cX11_foresee 135 = .ok (.aload_n 0, 1) := by decide +kernel
theorem dX11_foresee_136 : decode cX11_foresee 136 = .ok (.getfield 26, 3) := by decide +kernel
theorem dX11_foresee_139 : decode cX11_foresee 139 = .ok (.getfield 208, 3) := by decide +kernel
theorem dX11_foresee_142 : decode cX11_foresee 142 = .ok (.isub, 1) := by decide +kernel
theorem dX11_foresee_143 : decode cX11_foresee 143 = .ok (.ireturn, 1) := by decide +kernel
/-! the whole object: feeding, foreseeing, advising -/
/-- five numbers fed -/
def fedE (E : Tp) (p q r u v : Int32) : Tp := ((((E.num p 4).num q 4).num r 4).num u 4).num v 4
/-- what is foreseen -/
def fseM (B : BS) (m m1 : MS) (w : Int32) : Int32 := if w = 0 then gvnM B m1 - gvnM B m else if w = 1 then pursM B m1 else if w = 2 then m1.g 4 - m.g 4 else m1.g 3 - m.g 3
/-- the advice behind the springs below k: the best one and its purses -/
noncomputable def advM (B : BS) (m : MS) (r n : Nat) : Nat → Int32 × Int32
  | 0 => (0, 0)
  | k + 1 => if k = 0 ∨ pursM B (plyM B n (wndM m r (nI k))) < (advM B m r n k).2 then (nI k, pursM B (plyM B n (wndM m r (nI k)))) else advM B m r n k
section Ff
variable {G : Gp} {K : Nat → Int64} {S : AMem} {I I1 : Nat → Nat → Int32} {J J1 : Nat → Nat → Int64} {R : Nat → Nat → Option Nat} {x c o : Nat} {s : XS}
/-- only the tape has changed -/
theorem AbX.tape {E : Tp} (hC : XC S R x c o) (h : AbX K I J x c o s) (hE : AbTp I1 (x + 1) E) (ho : ∀ y j, y ≠ x + 1 → y ≠ x + 2 → I1 y j = I y j) : AbX K I1 J x c o (E, s.B, s.m, s.er) := by
  obtain ⟨p1, p2, p3, p4, p5⟩ := hC.lo
  obtain ⟨h1, h2, h3, h4, h5, h6⟩ := h
  exact ⟨hE, h2.out (fun y j q1 q2 => ho _ _ (by omega) (by omega)), AbM.out h2 h3 (fun y j q1 q2 => ho _ _ (by omega) (by omega)), fun i hi => by rw [ho _ _ (by omega) (by omega)]; exact h4 i hi, (ho _ _ (by omega) (by omega)).trans h5, h6⟩
/-- the other contest has changed -/
theorem AbX.oth (hC : XC S R x c o) (h : AbX K I J x c o s) (ho : OffC o I I1) (hj : OffJ o J J1) (h9 : ∀ i, i < 8 → I1 (o + 22 + i) 9 = 0 ∨ I1 (o + 22 + i) 9 = 1) : AbX K I1 J1 x c o s := by
  obtain ⟨p1, p2, p3, p4, p5⟩ := hC.lo
  obtain ⟨h1, h2, h3, h4, h5, h6⟩ := h
  exact ⟨h1.off (ho _ _ (by omega)) (fun i _ => ho _ _ (by omega)), h2.out (fun y j q1 q2 => ho _ _ (by omega)), AbM.out h2 h3 (fun y j q1 q2 => ho _ _ (by omega)), h9, (ho _ _ (by omega)).trans h5, fun i hi => (hj _ _ (by omega)).trans (h6 i hi)⟩
theorem OffC.wJ (hC : XC S R x c o) (ho : OffC o I I1) (hj : OffJ o J J1) : OffW x I J R I1 J1 R := fun y q => by
  obtain ⟨p1, p2, p3, p4, p5⟩ := hC.lo
  exact ⟨funext fun j => ho y j (by omega), funext fun j => hj y j (by omega), rfl⟩
theorem k_X11_feed {p q r u v : Int32} (hG : okG G) (h : XW K S x s I J R) : MW G mX11_feed 6 0 (ent 6 [vR x, vI p, vI q, vI r, vI u, vI v]) [] (mw S I J R) (XQ K S x I J R (if s.E.1 + 20 ≤ 2000 then .inr (vI (nI (s.E.1 + 20)), (fedE s.E p q r u v, s.B, s.m, s.er)) else .inl 12)) := by
  obtain ⟨c, o, hC, hA⟩ := id h
  obtain ⟨kx, r0, r1, r2, r3, r4, hco, htp, htc, hct, hot, kr, rr⟩ := id hC
  obtain ⟨hE, hB, hM, ho, he, hk⟩ := id hA
  have kt := htp.1
  have ul := hE.2.1
  have e0 : (I (x + 1) 1 + 20 ≤ 2000) ↔ s.E.1 + 20 ≤ 2000 := by
    rw [hE.1, show (nI s.E.1 + 20 : Int32) = nI (s.E.1 + 20) from nI_add s.E.1 20]
    exact nI_leI (b := 2000) (by omega) (by decide)
  refine am_aload_n (q := 1) dX11_feed_0 rfl rfl ?_
  refine cm_getR (q := 4) dX11_feed_1 flX11_10 rfl (by assumption) (by assumption) rfl ?_
  refine am_bipush (q := 6) (v := 20) dX11_feed_4 kc_b20 rfl ?_
  refine cm_call0 (q := 9) (As := [_]) hG dX11_feed_6 mlX11_46 rfl (by assumption) ⟨_, _, rfl⟩ (Nat.le_of_ble_eq_true rfl) (Nat.le_of_ble_eq_true rfl) (Nat.le_of_ble_eq_true rfl) (Nat.le_of_ble_eq_true rfl) (k_X8_hasRoomFor kt) rfl ?_
  rintro _ _ ⟨rfl, rfl⟩
  refine am_if_ne (tgt := 22) (q := 12) dX11_feed_9 rfl rfl (fun h1 => ?_) (fun h1 => ?_)
  · have h2 : s.E.1 + 20 ≤ 2000 := e0.mp (bI_n0.mp h1)
    rw [if_pos h2]
    have n1 : (s.E.num p 4).1 = s.E.1 + 4 := Tp.num_1 4
    have n2 : ((s.E.num p 4).num q 4).1 = s.E.1 + 8 := by rw [Tp.num_1, n1]
    have n3 : (((s.E.num p 4).num q 4).num r 4).1 = s.E.1 + 12 := by rw [Tp.num_1, n2]
    have n4 : ((((s.E.num p 4).num q 4).num r 4).num u 4).1 = s.E.1 + 16 := by rw [Tp.num_1, n3]
    have n5 : (fedE s.E p q r u v).1 = s.E.1 + 20 := by unfold fedE; rw [Tp.num_1, n4]
    refine am_aload_n (q := 23) dX11_feed_22 rfl rfl ?_
    refine cm_getR (q := 26) dX11_feed_23 flX11_10 rfl (by assumption) (by assumption) rfl ?_
    refine am_iload_n (q := 27) dX11_feed_26 rfl rfl ?_
    refine cm_call0 (q := 30) (As := [_]) hG dX11_feed_27 mlX11_57 rfl (by assumption) ⟨_, _, rfl⟩ (Nat.le_of_ble_eq_true rfl) (Nat.le_of_ble_eq_true rfl) (Nat.le_of_ble_eq_true rfl) (Nat.le_of_ble_eq_true rfl) (k_X8_addNumber htp hE (by omega)) rfl ?_
    rintro _ _ ⟨rfl, I1, rfl, g1, o1⟩
    refine am_aload_n (q := 31) dX11_feed_30 rfl rfl ?_
    refine cm_getR (q := 34) dX11_feed_31 flX11_10 rfl (by assumption) (by assumption) rfl ?_
    refine am_iload_n (q := 35) dX11_feed_34 rfl rfl ?_
    refine cm_call0 (q := 38) (As := [_]) hG dX11_feed_35 mlX11_57 rfl (by assumption) ⟨_, _, rfl⟩ (Nat.le_of_ble_eq_true rfl) (Nat.le_of_ble_eq_true rfl) (Nat.le_of_ble_eq_true rfl) (Nat.le_of_ble_eq_true rfl) (k_X8_addNumber htp g1 (by omega)) rfl ?_
    rintro _ _ ⟨rfl, I2, rfl, g2, o2⟩
    refine am_aload_n (q := 39) dX11_feed_38 rfl rfl ?_
    refine cm_getR (q := 42) dX11_feed_39 flX11_10 rfl (by assumption) (by assumption) rfl ?_
    refine am_iload_n (q := 43) dX11_feed_42 rfl rfl ?_
    refine cm_call0 (q := 46) (As := [_]) hG dX11_feed_43 mlX11_57 rfl (by assumption) ⟨_, _, rfl⟩ (Nat.le_of_ble_eq_true rfl) (Nat.le_of_ble_eq_true rfl) (Nat.le_of_ble_eq_true rfl) (Nat.le_of_ble_eq_true rfl) (k_X8_addNumber htp g2 (by omega)) rfl ?_
    rintro _ _ ⟨rfl, I3, rfl, g3, o3⟩
    refine am_aload_n (q := 47) dX11_feed_46 rfl rfl ?_
    refine cm_getR (q := 50) dX11_feed_47 flX11_10 rfl (by assumption) (by assumption) rfl ?_
    refine am_iload (q := 52) dX11_feed_50 rfl rfl ?_
    refine cm_call0 (q := 55) (As := [_]) hG dX11_feed_52 mlX11_57 rfl (by assumption) ⟨_, _, rfl⟩ (Nat.le_of_ble_eq_true rfl) (Nat.le_of_ble_eq_true rfl) (Nat.le_of_ble_eq_true rfl) (Nat.le_of_ble_eq_true rfl) (k_X8_addNumber htp g3 (by omega)) rfl ?_
    rintro _ _ ⟨rfl, I4, rfl, g4, o4⟩
    refine am_aload_n (q := 56) dX11_feed_55 rfl rfl ?_
    refine cm_getR (q := 59) dX11_feed_56 flX11_10 rfl (by assumption) (by assumption) rfl ?_
    refine am_iload (q := 61) dX11_feed_59 rfl rfl ?_
    refine cm_call0 (q := 64) (As := [_]) hG dX11_feed_61 mlX11_57 rfl (by assumption) ⟨_, _, rfl⟩ (Nat.le_of_ble_eq_true rfl) (Nat.le_of_ble_eq_true rfl) (Nat.le_of_ble_eq_true rfl) (Nat.le_of_ble_eq_true rfl) (k_X8_addNumber htp g4 (by omega)) rfl ?_
    rintro _ _ ⟨rfl, I5, rfl, g5, o5⟩
    have e5 : I5 (x + 1) 1 = nI (s.E.1 + 20) := by rw [← n5]; exact g5.1
    have oo : ∀ y j, y ≠ x + 1 → y ≠ x + 2 → I5 y j = I y j := fun y j q1 q2 => ((((o5 y j q1 q2).trans (o4 y j q1 q2)).trans (o3 y j q1 q2)).trans (o2 y j q1 q2)).trans (o1 y j q1 q2)
    refine am_aload_n (q := 65) dX11_feed_64 rfl rfl ?_
    refine cm_getR (q := 68) dX11_feed_65 flX11_10 rfl (by assumption) (by assumption) rfl ?_
    refine cm_getI (q := 71) dX11_feed_68 flX11_61 rfl (by assumption) rfl ?_
    rw [e5]
    exact am_iret dX11_feed_71 rfl rfl ⟨rfl, I5, J, R, rfl, ⟨c, o, hC, hA.tape hC g5 oo⟩, fun y q => ⟨funext fun j => oo y j (by omega) (by omega), rfl, rfl⟩⟩
  · rw [if_neg (fun z => bI_e0.mp h1 (e0.mpr z))]
    exact am_stop ⟨rfl, rfl⟩
theorem k_X11_foresee {n w : Int32} (hG : okG G) (h : XW K S x s I J R) : MW G mX11_foresee 7 0 (ent 3 [vR x, vI n, vI w]) [] (mw S I J R) (XQ K S x I J R (if 1 ≤ n ∧ n ≤ 30 then (if 0 ≤ w ∧ w ≤ 3 then .inr (vI (fseM s.B s.m (plyM s.B n.toNatClampNeg s.m) w), s) else .inl 30) else .inl 11)) := by
  obtain ⟨c, o, hC, hA⟩ := id h
  obtain ⟨kx, r0, r1, r2, r3, r4, hco, htp, htc, hct, hot, kr, rr⟩ := id hC
  obtain ⟨hE, hB, hM, ho, he, hk⟩ := id hA
  have kc := hct.1
  have ko := hot.1
  refine am_iload_n (q := 1) dX11_foresee_0 rfl rfl ?_
  refine am_iconst (q := 2) (v := 1) dX11_foresee_1 kc_i1 rfl ?_
  refine am_icmp_lt (tgt := 11) (q := 5) dX11_foresee_2 rfl rfl (fun h1 => ?_) (fun h1 => ?_)
  · rw [if_neg (fun q => Int32.not_le.mpr h1 q.1)]
    exact am_stop ⟨rfl, rfl⟩
  · refine am_iload_n (q := 6) dX11_foresee_5 rfl rfl ?_
    refine am_bipush (q := 8) (v := 30) dX11_foresee_6 kc_b30 rfl ?_
    refine am_icmp_le (tgt := 21) (q := 11) dX11_foresee_8 rfl rfl (fun h2 => ?_) (fun h2 => ?_)
    · rw [if_pos ⟨Int32.not_lt.mp h1, h2⟩]
      refine am_iload_n (q := 22) dX11_foresee_21 rfl rfl ?_
      refine am_if_lt (tgt := 30) (q := 25) dX11_foresee_22 rfl rfl (fun h3 => ?_) (fun h3 => ?_)
      · rw [if_neg (fun q => Int32.not_le.mpr h3 q.1)]
        exact am_stop ⟨rfl, rfl⟩
      · refine am_iload_n (q := 26) dX11_foresee_25 rfl rfl ?_
        refine am_iconst (q := 27) (v := 3) dX11_foresee_26 kc_i3 rfl ?_
        refine am_icmp_le (tgt := 40) (q := 30) dX11_foresee_27 rfl rfl (fun h4 => ?_) (fun h4 => ?_)
        · rw [if_pos ⟨Int32.not_lt.mp h3, h4⟩]
          obtain ⟨j, hj, rfl⟩ := k_idx2 (v := 30) (n := 30) rfl (by decide) (fun q => h1 (Int32.lt_trans q (by decide))) h2
          obtain ⟨v, hv, rfl⟩ := k_idx2 (v := 3) (n := 3) rfl (by decide) h3 h4
          rw [nI_clamp (show j < 2 ^ 31 by omega)]
          refine am_aload_n (q := 41) dX11_foresee_40 rfl rfl ?_
          refine cm_getR (q := 44) dX11_foresee_41 flX11_30 rfl (by assumption) (by assumption) rfl ?_
          refine am_aload_n (q := 45) dX11_foresee_44 rfl rfl ?_
          refine cm_getR (q := 48) dX11_foresee_45 flX11_26 rfl (by assumption) (by assumption) rfl ?_
          refine cm_call0 (q := 51) (As := [_]) hG dX11_foresee_48 mlX11_198 rfl (by assumption) ⟨_, _, rfl⟩ (Nat.le_of_ble_eq_true rfl) (Nat.le_of_ble_eq_true rfl) (Nat.le_of_ble_eq_true rfl) (Nat.le_of_ble_eq_true rfl) (k_X2_copyFrom hG hot hct (by have := hC.lo; omega) hB hM) rfl ?_
          rintro _ _ ⟨rfl, I1, J1, rfl, b1, m1, o1, j1⟩
          refine am_aload_n (q := 52) dX11_foresee_51 rfl rfl ?_
          refine cm_getR (q := 55) dX11_foresee_52 flX11_30 rfl (by assumption) (by assumption) rfl ?_
          refine am_iload_n (q := 56) dX11_foresee_55 rfl rfl ?_
          refine cm_call0 (q := 59) (As := [_]) hG dX11_foresee_56 mlX11_169 rfl (by assumption) ⟨_, _, rfl⟩ (Nat.le_of_ble_eq_true rfl) (Nat.le_of_ble_eq_true rfl) (Nat.le_of_ble_eq_true rfl) (Nat.le_of_ble_eq_true rfl) (k_X2_play hG hot b1 m1 (by omega)) rfl ?_
          rintro _ _ ⟨rfl, I2, rfl, b2, m2, o2⟩
          have hA2 := hA.oth hC (o1.tr o2) j1 m2.2.2.2.2.2.2.2.2.2.2
          have hW := (o1.tr o2).wJ (J := J) (J1 := J1) hC j1
          have fin : ∀ z : Int32, XQ K S x I J R (.inr (vI z, s)) (.inl (some (vI z))) (mw S I2 J1 R) := fun z => ⟨rfl, I2, J1, R, rfl, ⟨c, o, hC, hA2⟩, hW⟩
          have f1 : I2 o 18 = gvnM s.B (plyM s.B j s.m) := m2.2.2.2.2.1
          have f2 : I2 c 18 = gvnM s.B s.m := hA2.2.2.1.2.2.2.2.1
          have f3 : I2 o 17 = (plyM s.B j s.m).g 4 := m2.2.2.2.1 4 (by decide)
          have f4 : I2 c 17 = s.m.g 4 := hA2.2.2.1.2.2.2.1 4 (by decide)
          have f5 : I2 o 16 = (plyM s.B j s.m).g 3 := m2.2.2.2.1 3 (by decide)
          have f6 : I2 c 16 = s.m.g 3 := hA2.2.2.1.2.2.2.1 3 (by decide)
          rcases k_c4 hv with rfl | rfl | rfl | rfl
          · refine am_iload_n (q := 60) dX11_foresee_59 rfl rfl ?_
            refine am_tableIn (tgt := 88) dX11_foresee_60 (by decide) (by decide) rfl rfl ?_
            refine am_aload_n (q := 89) dX11_foresee_88 rfl rfl ?_
            refine cm_getR (q := 92) dX11_foresee_89 flX11_30 rfl (by assumption) (by assumption) rfl ?_
            refine cm_getI (q := 95) dX11_foresee_92 flX11_166 rfl (by assumption) rfl ?_
            rw [f1]
            refine am_aload_n (q := 96) dX11_foresee_95 rfl rfl ?_
            refine cm_getR (q := 99) dX11_foresee_96 flX11_26 rfl (by assumption) (by assumption) rfl ?_
            refine cm_getI (q := 102) dX11_foresee_99 flX11_166 rfl (by assumption) rfl ?_
            rw [f2]
            refine am_isub (q := 103) dX11_foresee_102 rfl ?_
            exact am_iret dX11_foresee_103 rfl rfl (fin _)
          · refine am_iload_n (q := 60) dX11_foresee_59 rfl rfl ?_
            refine am_tableIn (tgt := 104) dX11_foresee_60 (by decide) (by decide) rfl rfl ?_
            refine am_aload_n (q := 105) dX11_foresee_104 rfl rfl ?_
            refine cm_getR (q := 108) dX11_foresee_105 flX11_30 rfl (by assumption) (by assumption) rfl ?_
            refine cm_call0 (q := 111) (As := []) hG dX11_foresee_108 mlX11_202 rfl (by assumption) ⟨_, _, rfl⟩ (Nat.le_of_ble_eq_true rfl) (Nat.le_of_ble_eq_true rfl) (Nat.le_of_ble_eq_true rfl) (Nat.le_of_ble_eq_true rfl) (k_X2_allPurses hot b2 m2) rfl ?_
            rintro _ _ ⟨rfl, rfl⟩
            exact am_iret dX11_foresee_111 rfl rfl (fin _)
          · refine am_iload_n (q := 60) dX11_foresee_59 rfl rfl ?_
            refine am_tableIn (tgt := 112) dX11_foresee_60 (by decide) (by decide) rfl rfl ?_
            refine am_aload_n (q := 113) dX11_foresee_112 rfl rfl ?_
            refine cm_getR (q := 116) dX11_foresee_113 flX11_30 rfl (by assumption) (by assumption) rfl ?_
            refine cm_getI (q := 119) dX11_foresee_116 flX11_205 rfl (by assumption) rfl ?_
            rw [f3]
            refine am_aload_n (q := 120) dX11_foresee_119 rfl rfl ?_
            refine cm_getR (q := 123) dX11_foresee_120 flX11_26 rfl (by assumption) (by assumption) rfl ?_
            refine cm_getI (q := 126) dX11_foresee_123 flX11_205 rfl (by assumption) rfl ?_
            rw [f4]
            refine am_isub (q := 127) dX11_foresee_126 rfl ?_
            exact am_iret dX11_foresee_127 rfl rfl (fin _)
          · refine am_iload_n (q := 60) dX11_foresee_59 rfl rfl ?_
            refine am_tableOut (tgt := 128) dX11_foresee_60 (by decide) rfl ?_
            refine am_aload_n (q := 129) dX11_foresee_128 rfl rfl ?_
            refine cm_getR (q := 132) dX11_foresee_129 flX11_30 rfl (by assumption) (by assumption) rfl ?_
            refine cm_getI (q := 135) dX11_foresee_132 flX11_208 rfl (by assumption) rfl ?_
            rw [f5]
            refine am_aload_n (q := 136) dX11_foresee_135 rfl rfl ?_
            refine cm_getR (q := 139) dX11_foresee_136 flX11_26 rfl (by assumption) (by assumption) rfl ?_
            refine cm_getI (q := 142) dX11_foresee_139 flX11_208 rfl (by assumption) rfl ?_
            rw [f6]
            refine am_isub (q := 143) dX11_foresee_142 rfl ?_
            exact am_iret dX11_foresee_143 rfl rfl (fin _)
        · rw [if_neg (fun q => h4 q.2)]
          exact am_stop ⟨rfl, rfl⟩
    · rw [if_neg (fun q => h2 q.2)]
      exact am_stop ⟨rfl, rfl⟩
theorem k_X11_advise {k n : Int32} (hG : okG G) (h : XW K S x s I J R) : MW G mX11_advise 7 0 (ent 7 [vR x, vI k, vI n]) [] (mw S I J R) (XQ K S x I J R (if 0 ≤ k ∧ k < nI s.B.nR then (if 1 ≤ n ∧ n ≤ 4 then .inr (vI (advM s.B s.m k.toNatClampNeg n.toNatClampNeg 21).1, s) else .inl 31) else .inl 11)) := by
  obtain ⟨c, o, hC, hA⟩ := id h
  obtain ⟨kx, r0, r1, r2, r3, r4, hco, htp, htc, hct, hot, kr, rr⟩ := id hC
  have kc := hct.1
  have ko := hot.1
  have um := hA.2.1.1.2
  refine am_aload_n (q := 1) dX11_advise_0 rfl rfl ?_
  refine cm_getR (q := 4) dX11_advise_1 flX11_26 rfl (by assumption) (by assumption) rfl ?_
  refine am_iload_n (q := 5) dX11_advise_4 rfl rfl ?_
  refine cm_call0 (q := 8) (As := [_]) hG dX11_advise_5 mlX11_99 rfl (by assumption) ⟨_, _, rfl⟩ (Nat.le_of_ble_eq_true rfl) (Nat.le_of_ble_eq_true rfl) (Nat.le_of_ble_eq_true rfl) (Nat.le_of_ble_eq_true rfl) (k_X2_hasRail hct hA.2.1.1.1 hA.2.1.1.2) rfl ?_
  rintro _ _ ⟨rfl, rfl⟩
  refine am_if_ne (tgt := 21) (q := 11) dX11_advise_8 rfl rfl (fun h1 => ?_) (fun h1 => ?_)
  · rw [if_pos (bI_n0.mp h1)]
    refine am_iload_n (q := 22) dX11_advise_21 rfl rfl ?_
    refine am_iconst (q := 23) (v := 1) dX11_advise_22 kc_i1 rfl ?_
    refine am_icmp_lt (tgt := 31) (q := 26) dX11_advise_23 rfl rfl (fun h2 => ?_) (fun h2 => ?_)
    · rw [if_neg (fun q => Int32.not_le.mpr h2 q.1)]
      exact am_stop ⟨rfl, rfl⟩
    · refine am_iload_n (q := 27) dX11_advise_26 rfl rfl ?_
      refine am_iconst (q := 28) (v := 4) dX11_advise_27 kc_i4 rfl ?_
      refine am_icmp_le (tgt := 41) (q := 31) dX11_advise_28 rfl rfl (fun h3 => ?_) (fun h3 => ?_)
      · rw [if_pos ⟨Int32.not_lt.mp h2, h3⟩]
        obtain ⟨r, hr, rfl⟩ := k_idx (by omega) (bI_n0.mp h1)
        obtain ⟨j, hj, rfl⟩ := k_idx2 (v := 4) (n := 4) rfl (by decide) (fun q => h2 (Int32.lt_trans q (by decide))) h3
        rw [nI_clamp (show r < 2 ^ 31 by omega), nI_clamp (show j < 2 ^ 31 by omega)]
        refine am_iconst (q := 42) (v := 0) dX11_advise_41 kc_i0 rfl ?_
        refine am_istore_n (q := 43) (ls1 := [_, _, _, _, _, _, _]) dX11_advise_42 (Nat.le_of_ble_eq_true rfl) rfl rfl ?_
        refine am_iconst (q := 44) (v := 0) dX11_advise_43 kc_i0 rfl ?_
        refine am_istore (q := 46) (ls1 := [_, _, _, _, _, _, _]) dX11_advise_44 (Nat.le_of_ble_eq_true rfl) rfl rfl ?_
        refine am_iconst (q := 47) (v := 0) dX11_advise_46 kc_i0 rfl ?_
        refine am_istore (q := 49) (ls1 := [_, _, _, _, _, _, _]) dX11_advise_47 (Nat.le_of_ble_eq_true rfl) rfl rfl ?_
        refine k_loop (σ := (Nat → Nat → Int32) × (Nat → Nat → Int64) × (Int32 × Int32) × Option AV) (n := 21) (Inv := fun i q => q.2.2.1 = advM s.B s.m r j i ∧ AbX K q.1 q.2.1 x c o s ∧ OffW x I J R q.1 q.2.1 R) (W := fun i q => MW G mX11_advise 7 49 [some (vR x), some (vI (nI r)), some (vI (nI j)), some (vI q.2.2.1.1), some (vI q.2.2.1.2), some (vI (nI i)), q.2.2.2] [] (mw S q.1 q.2.1 R) _) ?_ ?_ 0 (I, J, (0, 0), none) (Nat.zero_le _) ⟨rfl, hA, OffW.rf⟩
        · rintro i ⟨I1, J1, ⟨a1, a2⟩, x6⟩ hi ⟨hinv, hA1, hW1⟩ ih
          dsimp only at hinv hA1 hW1 ih ⊢
          refine am_iload (q := 51) dX11_advise_49 rfl rfl ?_
          refine am_bipush (q := 53) (v := 20) dX11_advise_51 kc_b20 rfl ?_
          refine am_icmp_gt (tgt := 120) (q := 56) dX11_advise_53 rfl rfl (fun hz => absurd hz (Int32.not_lt.mpr (nI_le (b := 20) (by omega) (by decide)))) (fun _ => ?_)
          refine am_aload_n (q := 57) dX11_advise_56 rfl rfl ?_
          refine cm_getR (q := 60) dX11_advise_57 flX11_30 rfl (by assumption) (by assumption) rfl ?_
          refine am_aload_n (q := 61) dX11_advise_60 rfl rfl ?_
          refine cm_getR (q := 64) dX11_advise_61 flX11_26 rfl (by assumption) (by assumption) rfl ?_
          refine cm_call0 (q := 67) (As := [_]) hG dX11_advise_64 mlX11_198 rfl (by assumption) ⟨_, _, rfl⟩ (Nat.le_of_ble_eq_true rfl) (Nat.le_of_ble_eq_true rfl) (Nat.le_of_ble_eq_true rfl) (Nat.le_of_ble_eq_true rfl) (k_X2_copyFrom hG hot hct (by have := hC.lo; omega) hA1.2.1 hA1.2.2.1) rfl ?_
          rintro _ _ ⟨rfl, I2, J2, rfl, b2, m2, o2, j2⟩
          refine am_aload_n (q := 68) dX11_advise_67 rfl rfl ?_
          refine cm_getR (q := 71) dX11_advise_68 flX11_30 rfl (by assumption) (by assumption) rfl ?_
          refine am_iload_n (q := 72) dX11_advise_71 rfl rfl ?_
          refine am_iload (q := 74) dX11_advise_72 rfl rfl ?_
          refine cm_call0 (q := 77) (As := [_, _]) hG dX11_advise_74 mlX11_161 rfl (by assumption) ⟨_, _, rfl⟩ (Nat.le_of_ble_eq_true rfl) (Nat.le_of_ble_eq_true rfl) (Nat.le_of_ble_eq_true rfl) (Nat.le_of_ble_eq_true rfl) (k_X2_changeSpring hG hot b2 m2 hr) rfl ?_
          rintro _ _ ⟨rfl, I3, rfl, b3, m3, o3⟩
          refine am_pop (q := 78) dX11_advise_77 rfl rfl ?_
          refine am_aload_n (q := 79) dX11_advise_78 rfl rfl ?_
          refine cm_getR (q := 82) dX11_advise_79 flX11_30 rfl (by assumption) (by assumption) rfl ?_
          refine am_iload_n (q := 83) dX11_advise_82 rfl rfl ?_
          refine cm_call0 (q := 86) (As := [_]) hG dX11_advise_83 mlX11_169 rfl (by assumption) ⟨_, _, rfl⟩ (Nat.le_of_ble_eq_true rfl) (Nat.le_of_ble_eq_true rfl) (Nat.le_of_ble_eq_true rfl) (Nat.le_of_ble_eq_true rfl) (k_X2_play hG hot b3 m3 (by omega)) rfl ?_
          rintro _ _ ⟨rfl, I4, rfl, b4, m4, o4⟩
          have hA4 := hA1.oth hC ((o2.tr o3).tr o4) j2 m4.2.2.2.2.2.2.2.2.2.2
          have hW4 := hW1.tr (((o2.tr o3).tr o4).wJ (J := J1) (J1 := J2) hC j2)
          refine am_aload_n (q := 87) dX11_advise_86 rfl rfl ?_
          refine cm_getR (q := 90) dX11_advise_87 flX11_30 rfl (by assumption) (by assumption) rfl ?_
          refine cm_call0 (q := 93) (As := []) hG dX11_advise_90 mlX11_202 rfl (by assumption) ⟨_, _, rfl⟩ (Nat.le_of_ble_eq_true rfl) (Nat.le_of_ble_eq_true rfl) (Nat.le_of_ble_eq_true rfl) (Nat.le_of_ble_eq_true rfl) (k_X2_allPurses hot b4 m4) rfl ?_
          rintro _ _ ⟨rfl, rfl⟩
          refine am_istore (q := 95) (ls1 := [_, _, _, _, _, _, _]) dX11_advise_93 (Nat.le_of_ble_eq_true rfl) rfl rfl ?_
          have ek : advM s.B s.m r j (i + 1) = if i = 0 ∨ pursM s.B (plyM s.B j (wndM s.m r (nI i))) < (advM s.B s.m r j i).2 then (nI i, pursM s.B (plyM s.B j (wndM s.m r (nI i)))) else advM s.B s.m r j i := rfl
          rw [← hinv] at ek
          dsimp only at ek
          have ep : pursM s.B (plyM s.B j (wndM s.m r (nI i))) = pursM s.B (plyM s.B j (mkMS s.m.fist (up2 s.m.rail r 2 (nI i)) s.m.prize s.m.g s.m.row s.m.bd s.m.nb)) := rfl
          rw [ep] at ek
          clear ep
          generalize pursM s.B (plyM s.B j (mkMS s.m.fist (up2 s.m.rail r 2 (nI i)) s.m.prize s.m.g s.m.row s.m.bd s.m.nb)) = pu at ek ⊢
          have take : (i = 0 ∨ pu < a2) → MW G mX11_advise 7 107 [some (vR x), some (vI (nI r)), some (vI (nI j)), some (vI a1), some (vI a2), some (vI (nI i)), some (vI pu)] [] (mw S I4 J2 R) (XQ K S x I J R (.inr (vI (advM s.B s.m r j 21).1, s))) := by
            intro hq
            rw [if_pos hq] at ek
            refine am_iload (q := 109) dX11_advise_107 rfl rfl ?_
            refine am_istore_n (q := 110) (ls1 := [_, _, _, _, _, _, _]) dX11_advise_109 (Nat.le_of_ble_eq_true rfl) rfl rfl ?_
            refine am_iload (q := 112) dX11_advise_110 rfl rfl ?_
            refine am_istore (q := 114) (ls1 := [_, _, _, _, _, _, _]) dX11_advise_112 (Nat.le_of_ble_eq_true rfl) rfl rfl ?_
            refine am_iincW (q := 117) (ls1 := [_, _, _, _, _, _, _]) (w := 1) dX11_advise_114 rfl (Nat.le_of_ble_eq_true rfl) kc_i1 rfl rfl ?_
            refine am_goto (tgt := 49) dX11_advise_117 rfl ?_
            rw [nI_1]
            exact ih (I4, J2, (nI i, pu), some (vI pu)) ⟨ek.symm, hA4, hW4⟩
          refine am_iload (q := 97) dX11_advise_95 rfl rfl ?_
          refine am_if_eq (tgt := 107) (q := 100) dX11_advise_97 rfl rfl (fun hc => ?_) (fun hc => ?_)
          · exact take (Or.inl ((nI_eq (b := 0) (by omega) (by decide)).mp hc))
          · refine am_iload (q := 102) dX11_advise_100 rfl rfl ?_
            refine am_iload (q := 104) dX11_advise_102 rfl rfl ?_
            refine am_icmp_ge (tgt := 114) (q := 107) dX11_advise_104 rfl rfl (fun hc2 => ?_) (fun hc2 => ?_)
            · rw [if_neg (fun q => q.elim (fun z => hc (by rw [z]; rfl)) (fun z => Int32.not_lt.mpr hc2 z))] at ek
              refine am_iincW (q := 117) (ls1 := [_, _, _, _, _, _, _]) (w := 1) dX11_advise_114 rfl (Nat.le_of_ble_eq_true rfl) kc_i1 rfl rfl ?_
              refine am_goto (tgt := 49) dX11_advise_117 rfl ?_
              rw [nI_1]
              exact ih (I4, J2, (a1, a2), some (vI pu)) ⟨ek.symm, hA4, hW4⟩
            · exact take (Or.inr (Int32.not_le.mp hc2))
        · rintro ⟨I1, J1, ⟨a1, a2⟩, x6⟩ ⟨hinv, hA1, hW1⟩
          dsimp only at hinv hA1 hW1 ⊢
          rw [← hinv]
          refine am_iload (q := 51) dX11_advise_49 rfl rfl ?_
          refine am_bipush (q := 53) (v := 20) dX11_advise_51 kc_b20 rfl ?_
          refine am_icmp_gt (tgt := 120) (q := 56) dX11_advise_53 rfl rfl (fun _ => ?_) (fun hz => absurd (nI_lt (a := 20) (b := 21) (by omega) (by decide)) hz)
          refine am_iload_n (q := 121) dX11_advise_120 rfl rfl ?_
          exact am_iret dX11_advise_121 rfl rfl ⟨rfl, I1, J1, R, rfl, ⟨c, o, hC, hA1⟩, hW1⟩
      · rw [if_neg (fun q => h3 q.2)]
        exact am_stop ⟨rfl, rfl⟩
  · rw [if_neg (bI_e0.mp h1)]
    exact am_stop ⟨rfl, rfl⟩
end Ff

