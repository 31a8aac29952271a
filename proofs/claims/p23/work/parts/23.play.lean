theorem kc_i2 : Int32.ofInt 2 = 2 := by decide +kernel
theorem dX2_fistInRow_0 : decode cX2_fistInRow 0 = .ok (.iload_n 1, 1) := by decide +kernel
theorem dX2_fistInRow_1 : decode cX2_fistInRow 1 = .ok (.ifCond .lt 42, 3) := by decide +kernel
theorem dX2_fistInRow_4 : decode cX2_fistInRow 4 = .ok (.iload_n 1, 1) := by decide +kernel
theorem dX2_fistInRow_5 : decode cX2_fistInRow 5 = .ok (.aload_n 0, 1) := by decide +kernel
theorem dX2_fistInRow_6 : decode cX2_fistInRow 6 = .ok (.getfield 56, 3) := by decide +kernel
theorem dX2_fistInRow_9 : decode cX2_fistInRow 9 = .ok (.arraylength, 1) := by decide +kernel
theorem dX2_fistInRow_10 : decode cX2_fistInRow 10 = .ok (.if_icmp .ge 33, 3) := by decide +kernel
theorem dX2_fistInRow_13 : decode cX2_fistInRow 13 = .ok (.aload_n 0, 1) := by decide +kernel
theorem dX2_fistInRow_14 : decode cX2_fistInRow 14 = .ok (.aload_n 0, 1) := by decide +kernel
theorem dX2_fistInRow_15 : decode cX2_fistInRow 15 = .ok (.getfield 56, 3) := by decide +kernel
theorem dX2_fistInRow_18 : decode cX2_fistInRow 18 = .ok (.iload_n 1, 1) := by decide +kernel
theorem dX2_fistInRow_19 : decode cX2_fistInRow 19 = .ok (.iaload, 1) := by decide +kernel
theorem dX2_fistInRow_20 : decode cX2_fistInRow 20 = .ok (.invokevirtual 212, 3) := by decide +kernel
theorem dX2_fistInRow_23 : decode cX2_fistInRow 23 = .ok (.ifCond .eq 20, 3) := by decide +kernel
theorem dX2_fistInRow_26 : decode cX2_fistInRow 26 = .ok (.aload_n 0, 1) := by decide +kernel
theorem dX2_fistInRow_27 : decode cX2_fistInRow 27 = .ok (.getfield 52, 3) := by decide +kernel
theorem dX2_fistInRow_30 : decode cX2_fistInRow 30 = .ok (.aload_n 0, 1) := by decide +kernel
theorem dX2_fistInRow_31 : decode cX2_fistInRow 31 = .ok (.getfield 56, 3) := by decide +kernel
theorem dX2_fistInRow_34 : decode cX2_fistInRow 34 = .ok (.iload_n 1, 1) := by decide +kernel
theorem dX2_fistInRow_35 : decode cX2_fistInRow 35 = .ok (.iaload, 1) := by decide +kernel
theorem dX2_fistInRow_36 : decode cX2_fistInRow 36 = .ok (.aaload, 1) := by decide +kernel
theorem dX2_fistInRow_37 : decode cX2_fistInRow 37 = .ok (.getfield 215, 3) := by decide +kernel
theorem dX2_fistInRow_40 : decode cX2_fistInRow 40 = .ok (.goto 4, 3) := by decide +kernel
theorem dX2_fistInRow_44 : decode cX2_fistInRow 44 = .ok (.ireturn, 1) := by decide +kernel
theorem dX2_takeTurns_0 : decode cX2_takeTurns 0 = .ok (.iconst 0, 1) := by decide +kernel
theorem dX2_takeTurns_1 : decode cX2_takeTurns 1 = .ok (.istore_n 1, 1) := by decide +kernel
theorem dX2_takeTurns_2 : decode cX2_takeTurns 2 = .ok (.iload_n 1, 1) := by decide +kernel
theorem dX2_takeTurns_3 : decode cX2_takeTurns 3 = .ok (.aload_n 0, 1) := by decide +kernel
theorem dX2_takeTurns_4 : decode cX2_takeTurns 4 = .ok (.getfield 81, 3) := by decide +kernel
theorem dX2_takeTurns_7 : decode cX2_takeTurns 7 = .ok (.if_icmp .ge 68, 3) := by decide +kernel
theorem dX2_takeTurns_10 : decode cX2_takeTurns 10 = .ok (.iload_n 1, 1) := by decide +kernel
theorem dX2_takeTurns_11 : decode cX2_takeTurns 11 = .ok (.aload_n 0, 1) := by decide +kernel
theorem dX2_takeTurns_12 : decode cX2_takeTurns 12 = .ok (.getfield 56, 3) := by decide +kernel
theorem dX2_takeTurns_15 : decode cX2_takeTurns 15 = .ok (.arraylength, 1) := by decide +kernel
theorem dX2_takeTurns_16 : decode cX2_takeTurns 16 = .ok (.if_icmp .ge 59, 3) := by decide +kernel
theorem dX2_takeTurns_19 : decode cX2_takeTurns 19 = .ok (.aload_n 0, 1) := by decide +kernel
theorem dX2_takeTurns_20 : decode cX2_takeTurns 20 = .ok (.getfield 56, 3) := by decide +kernel
theorem dX2_takeTurns_23 : decode cX2_takeTurns 23 = .ok (.iload_n 1, 1) := by decide +kernel
theorem dX2_takeTurns_24 : decode cX2_takeTurns 24 = .ok (.iaload, 1) := by decide +kernel
theorem dX2_takeTurns_25 : decode cX2_takeTurns 25 = .ok (.istore_n 2, 1) := by decide +kernel
theorem dX2_takeTurns_26 : decode cX2_takeTurns 26 = .ok (.aload_n 0, 1) := by decide +kernel
theorem dX2_takeTurns_27 : decode cX2_takeTurns 27 = .ok (.iload_n 2, 1) := by decide +kernel
theorem dX2_takeTurns_28 : decode cX2_takeTurns 28 = .ok (.invokevirtual 212, 3) := by decide +kernel
theorem dX2_takeTurns_31 : decode cX2_takeTurns 31 = .ok (.ifCond .eq 38, 3) := by decide +kernel
theorem dX2_takeTurns_34 : decode cX2_takeTurns 34 = .ok (.aload_n 0, 1) := by decide +kernel
theorem dX2_takeTurns_35 : decode cX2_takeTurns 35 = .ok (.aload_n 0, 1) := by decide +kernel
theorem dX2_takeTurns_36 : decode cX2_takeTurns 36 = .ok (.getfield 52, 3) := by decide +kernel
theorem dX2_takeTurns_39 : decode cX2_takeTurns 39 = .ok (.iload_n 2, 1) := by decide +kernel
theorem dX2_takeTurns_40 : decode cX2_takeTurns 40 = .ok (.aaload, 1) := by decide +kernel
theorem dX2_takeTurns_41 : decode cX2_takeTurns 41 = .ok (.invokevirtual 224, 3) := by decide +kernel
theorem dX2_takeTurns_44 : decode cX2_takeTurns 44 = .ok (.ifCond .eq 25, 3) := by decide +kernel
theorem dX2_takeTurns_47 : decode cX2_takeTurns 47 = .ok (.aload_n 0, 1) := by decide +kernel
theorem dX2_takeTurns_48 : decode cX2_takeTurns 48 = .ok (.aload_n 0, 1) := by decide +kernel
theorem dX2_takeTurns_49 : decode cX2_takeTurns 49 = .ok (.getfield 52, 3) := by decide +kernel
theorem dX2_takeTurns_52 : decode cX2_takeTurns 52 = .ok (.iload_n 2, 1) := by decide +kernel
theorem dX2_takeTurns_53 : decode cX2_takeTurns 53 = .ok (.aaload, 1) := by decide +kernel
theorem dX2_takeTurns_54 : decode cX2_takeTurns 54 = .ok (.getfield 215, 3) := by decide +kernel
theorem dX2_takeTurns_57 : decode cX2_takeTurns 57 = .ok (.aload_n 0, 1) := by decide +kernel
theorem dX2_takeTurns_58 : decode cX2_takeTurns 58 = .ok (.getfield 52, 3) := by decide +kernel
theorem dX2_takeTurns_61 : decode cX2_takeTurns 61 = .ok (.iload_n 2, 1) := by decide +kernel
theorem dX2_takeTurns_62 : decode cX2_takeTurns 62 = .ok (.aaload, 1) := by decide +kernel
theorem dX2_takeTurns_63 : decode cX2_takeTurns 63 = .ok (.getfield 218, 3) := by decide +kernel
theorem dX2_takeTurns_66 : decode cX2_takeTurns 66 = .ok (.invokevirtual 266, 3) := by decide +kernel
theorem dX2_takeTurns_69 : decode cX2_takeTurns 69 = .ok (.iinc 1 1, 3) := by decide +kernel
theorem dX2_takeTurns_72 : decode cX2_takeTurns 72 = .ok (.goto (-70), 3) := by decide +kernel
theorem dX2_takeTurns_75 : decode cX2_takeTurns 75 = .ok (.return_, 1) := by decide +kernel
theorem dX2_useElbows_0 : decode cX2_useElbows 0 = .ok (.iconst 1, 1) := by decide +kernel
theorem dX2_useElbows_1 : decode cX2_useElbows 1 = .ok (.istore_n 1, 1) := by decide +kernel
theorem dX2_useElbows_2 : decode cX2_useElbows 2 = .ok (.iload_n 1, 1) := by decide +kernel
theorem dX2_useElbows_3 : decode cX2_useElbows 3 = .ok (.aload_n 0, 1) := by decide +kernel
theorem dX2_useElbows_4 : decode cX2_useElbows 4 = .ok (.getfield 81, 3) := by decide +kernel
theorem dX2_useElbows_7 : decode cX2_useElbows 7 = .ok (.if_icmp .ge 130, 3) := by decide +kernel
theorem dX2_useElbows_10 : decode cX2_useElbows 10 = .ok (.iload_n 1, 1) := by decide +kernel
theorem dX2_useElbows_11 : decode cX2_useElbows 11 = .ok (.aload_n 0, 1) := by decide +kernel
theorem dX2_useElbows_12 : decode cX2_useElbows 12 = .ok (.getfield 56, 3) := by decide +kernel
theorem dX2_useElbows_15 : decode cX2_useElbows 15 = .ok (.arraylength, 1) := by decide +kernel
theorem dX2_useElbows_16 : decode cX2_useElbows 16 = .ok (.if_icmp .ge 121, 3) := by decide +kernel
theorem dX2_useElbows_19 : decode cX2_useElbows 19 = .ok (.aload_n 0, 1) := by decide +kernel
theorem dX2_useElbows_20 : decode cX2_useElbows 20 = .ok (.iload_n 1, 1) := by decide +kernel
theorem dX2_useElbows_21 : decode cX2_useElbows 21 = .ok (.invokevirtual 263, 3) := by decide +kernel
theorem dX2_useElbows_24 : decode cX2_useElbows 24 = .ok (.istore_n 2, 1) := by decide +kernel
theorem dX2_useElbows_25 : decode cX2_useElbows 25 = .ok (.aload_n 0, 1) := by decide +kernel
theorem dX2_useElbows_26 : decode cX2_useElbows 26 = .ok (.iload_n 1, 1) := by decide +kernel
theorem dX2_useElbows_27 : decode cX2_useElbows 27 = .ok (.iconst 1, 1) := by decide +kernel
theorem dX2_useElbows_28 : decode cX2_useElbows 28 = .ok (.isub, 1) := by decide +kernel
theorem dX2_useElbows_29 : decode cX2_useElbows 29 = .ok (.invokevirtual 263, 3) := by decide +kernel
theorem dX2_useElbows_32 : decode cX2_useElbows 32 = .ok (.istore_n 3, 1) := by decide +kernel
theorem dX2_useElbows_33 : decode cX2_useElbows 33 = .ok (.aload_n 0, 1) := by decide +kernel
theorem dX2_useElbows_34 : decode cX2_useElbows 34 = .ok (.iload_n 2, 1) := by decide +kernel
theorem dX2_useElbows_35 : decode cX2_useElbows 35 = .ok (.invokevirtual 167, 3) := by decide +kernel
theorem dX2_useElbows_38 : decode cX2_useElbows 38 = .ok (.ifCond .eq 15, 3) := by decide +kernel
theorem dX2_useElbows_41 : decode cX2_useElbows 41 = .ok (.aload_n 0, 1) := by decide +kernel
theorem dX2_useElbows_42 : decode cX2_useElbows 42 = .ok (.iload_n 3, 1) := by decide +kernel
theorem dX2_useElbows_43 : decode cX2_useElbows 43 = .ok (.invokevirtual 167, 3) := by decide +kernel
theorem dX2_useElbows_46 : decode cX2_useElbows 46 = .ok (.ifCond .eq 7, 3) := by decide +kernel
theorem dX2_useElbows_49 : decode cX2_useElbows 49 = .ok (.iconst 1, 1) := by decide +kernel
theorem dX2_useElbows_50 : decode cX2_useElbows 50 = .ok (.goto 4, 3) := by decide +kernel
theorem dX2_useElbows_54 : decode cX2_useElbows 54 = .ok (.istore 4, 2) := by decide +kernel
theorem dX2_useElbows_56 : decode cX2_useElbows 56 = .ok (.iload 4, 2) := by decide +kernel
theorem dX2_useElbows_58 : decode cX2_useElbows 58 = .ok (.ifCond .eq 73, 3) := by decide +kernel
theorem dX2_useElbows_61 : decode cX2_useElbows 61 = .ok (.aload_n 0, 1) := by decide +kernel
theorem dX2_useElbows_62 : decode cX2_useElbows 62 = .ok (.getfield 40, 3) := by decide +kernel
theorem dX2_useElbows_65 : decode cX2_useElbows 65 = .ok (.iload_n 2, 1) := by decide +kernel
theorem dX2_useElbows_66 : decode cX2_useElbows 66 = .ok (.aaload, 1) := by decide +kernel
theorem dX2_useElbows_67 : decode cX2_useElbows 67 = .ok (.getfield 176, 3) := by decide +kernel
theorem dX2_useElbows_70 : decode cX2_useElbows 70 = .ok (.aload_n 0, 1) := by decide +kernel
theorem dX2_useElbows_71 : decode cX2_useElbows 71 = .ok (.getfield 40, 3) := by decide +kernel
theorem dX2_useElbows_74 : decode cX2_useElbows 74 = .ok (.iload_n 3, 1) := by decide +kernel
theorem dX2_useElbows_75 : decode cX2_useElbows 75 = .ok (.aaload, 1) := by decide +kernel
theorem dX2_useElbows_76 : decode cX2_useElbows 76 = .ok (.getfield 176, 3) := by decide +kernel
theorem dX2_useElbows_79 : decode cX2_useElbows 79 = .ok (.iconst 2, 1) := by decide +kernel
theorem dX2_useElbows_80 : decode cX2_useElbows 80 = .ok (.iadd, 1) := by decide +kernel
theorem dX2_useElbows_81 : decode cX2_useElbows 81 = .ok (.if_icmp .le 50, 3) := by decide +kernel
theorem dX2_useElbows_84 : decode cX2_useElbows 84 = .ok (.aload_n 0, 1) := by decide +kernel
theorem dX2_useElbows_85 : decode cX2_useElbows 85 = .ok (.getfield 56, 3) := by decide +kernel
theorem dX2_useElbows_88 : decode cX2_useElbows 88 = .ok (.iload_n 1, 1) := by decide +kernel
theorem dX2_useElbows_89 : decode cX2_useElbows 89 = .ok (.iaload, 1) := by decide +kernel
theorem dX2_useElbows_90 : decode cX2_useElbows 90 = .ok (.istore 5, 2) := by decide +kernel
theorem dX2_useElbows_92 : decode cX2_useElbows 92 = .ok (.aload_n 0, 1) := by decide +kernel
theorem dX2_useElbows_93 : decode cX2_useElbows 93 = .ok (.getfield 56, 3) := by decide +kernel
theorem dX2_useElbows_96 : decode cX2_useElbows 96 = .ok (.iload_n 1, 1) := by decide +kernel
theorem dX2_useElbows_97 : decode cX2_useElbows 97 = .ok (.aload_n 0, 1) := by decide +kernel
theorem dX2_useElbows_98 : decode cX2_useElbows 98 = .ok (.getfield 56, 3) := by decide +kernel
theorem dX2_useElbows_101 : decode cX2_useElbows 101 = .ok (.iload_n 1, 1) := by decide +kernel
theorem dX2_useElbows_102 : decode cX2_useElbows 102 = .ok (.iconst 1, 1) := by decide +kernel
theorem dX2_useElbows_103 : decode cX2_useElbows 103 = .ok (.isub, 1) := by decide +kernel
theorem dX2_useElbows_104 : decode cX2_useElbows 104 = .ok (.iaload, 1) := by decide +kernel
theorem dX2_useElbows_105 : decode cX2_useElbows 105 = .ok (.iastore, 1) := by decide +kernel
theorem dX2_useElbows_106 : decode cX2_useElbows 106 = .ok (.aload_n 0, 1) := by decide +kernel
theorem dX2_useElbows_107 : decode cX2_useElbows 107 = .ok (.getfield 56, 3) := by decide +kernel
theorem dX2_useElbows_110 : decode cX2_useElbows 110 = .ok (.iload_n 1, 1) := by decide +kernel
theorem dX2_useElbows_111 : decode cX2_useElbows 111 = .ok (.iconst 1, 1) := by decide +kernel
theorem dX2_useElbows_112 : decode cX2_useElbows 112 = .ok (.isub, 1) := by decide +kernel
theorem dX2_useElbows_113 : decode cX2_useElbows 113 = .ok (.iload 5, 2) := by decide +kernel
theorem dX2_useElbows_115 : decode cX2_useElbows 115 = .ok (.iastore, 1) := by decide +kernel
theorem dX2_useElbows_116 : decode cX2_useElbows 116 = .ok (.aload_n 0, 1) := by decide +kernel
theorem dX2_useElbows_117 : decode cX2_useElbows 117 = .ok (.getfield 40, 3) := by decide +kernel
theorem dX2_useElbows_120 : decode cX2_useElbows 120 = .ok (.iload_n 2, 1) := by decide +kernel
theorem dX2_useElbows_121 : decode cX2_useElbows 121 = .ok (.aaload, 1) := by decide +kernel
theorem dX2_useElbows_122 : decode cX2_useElbows 122 = .ok (.dup, 1) := by decide +kernel
theorem dX2_useElbows_123 : decode cX2_useElbows 123 = .ok (.getfield 176, 3) := by decide +kernel
theorem dX2_useElbows_126 : decode cX2_useElbows 126 = .ok (.iconst 1, 1) := by decide +kernel
theorem dX2_useElbows_127 : decode cX2_useElbows 127 = .ok (.isub, 1) := by decide +kernel
theorem dX2_useElbows_128 : decode cX2_useElbows 128 = .ok (.putfield 176, 3) := by decide +kernel
theorem dX2_useElbows_131 : decode cX2_useElbows 131 = .ok (.iinc 1 1, 3) := by decide +kernel
theorem dX2_useElbows_134 : decode cX2_useElbows 134 = .ok (.goto (-132), 3) := by decide +kernel
theorem dX2_useElbows_137 : decode cX2_useElbows 137 = .ok (.return_, 1) := by decide +kernel
/-! elbows, turns, rounds -/
theorem k_nIs (i : Nat) : nI (i + 1) - 1 = nI i := by
  rw [← nI_1, Int32.add_sub_cancel]
theorem AbM.setW {c : Nat} {I : Nat → Nat → Int32} {B : BS} {m : MS} {k t : Nat} (h : AbM I c B m) (ht : t < B.nT) (hk : k < 2 ^ 31) : AbM (up2 I (c + 13) k (nI t)) c B (mkMS m.fist m.rail m.prize m.g (up1 m.row k t) m.bd m.nb) := by
  obtain ⟨a1, a2, a3, a4, a5, a6, a7, a8, a9, a10, a11⟩ := h
  refine ⟨?_, ?_, ?_, ?_, ?_, ?_, ?_, ?_, a9, a10, ?_⟩
  · intro x hx y hy
    rw [up2_a (by omega)]; exact a1 x hx y hy
  · intro x hx y hy
    rw [up2_a (by omega)]; exact a2 x hx y hy
  · intro x hx y hy
    rw [up2_a (by omega)]; exact a3 x hx y hy
  · intro y hy
    rw [up2_a (by omega)]; exact a4 y hy
  · rw [up2_a (by omega)]; exact a5
  · intro y hy
    show up2 I _ _ _ _ _ = nI (up1 _ _ _ _) ∧ up1 _ _ _ _ < _
    rw [up2_at, up1_at]
    by_cases e : y = k
    · rw [if_pos e, if_pos ⟨rfl, e⟩]
      exact ⟨rfl, ht⟩
    · rw [if_neg e, if_neg (fun q => e q.2)]
      exact a6 y hy
  · intro k hk
    rw [up2_a (by omega)]; exact a7 k hk
  · rw [up2_a (by omega)]; exact a8
  · intro x hx
    rw [up2_a (by omega)]; exact a11 x hx
section Play
variable {G : Gp} {S : AMem} {I : Nat → Nat → Int32} {J : Nat → Nat → Int64} {R : Nat → Nat → Option Nat} {c : Nat} {B : BS} {m : MS}
theorem k_X2_fistInRow {k : Nat} (hG : okG G) (hct : CT S R c) (hB : AbB I c B) (hm : AbM I c B m) (hk : k < B.nT) : Fn G mX2_fistInRow 1 [vR c, vI (nI k)] (mw S I J R) (fun rr M1 => rr = some (vI (nI (B.tF (m.row k)))) ∧ M1 = mw S I J R) := by
  have hct2 := hct
  obtain ⟨kc, rc0, rc1, rc2, rc3, rc4, rc5, rc6, rc7, ⟨kd, rd0, rd1, rd2, kd2, ld2, kd3, ld3, kd4, ld4⟩, ⟨kb, rb, kb6, lb6⟩, ⟨kf, rf, kf8, lf8⟩, ⟨kr, lr, hr⟩, ⟨kfi, lfi, hfi⟩, ⟨kp, lp, hpz⟩, ⟨kt, lt, htu⟩, kw, lw⟩ := id hct2
  obtain ⟨_, _, _, ⟨u3, u4⟩, _, htr, _⟩ := hB
  obtain ⟨_, _, _, _, _, a1, _⟩ := hm
  have hin : vp_in (nI k) (S.ln (c + 13)) := by rw [lw]; exact vp_in_nI (by omega) (by decide)
  obtain ⟨e1, e2⟩ := a1 k hk
  obtain ⟨t1, t2⟩ := htu (m.row k) (by omega)
  have hin2 : vp_in (nI (m.row k)) (S.ln (c + 12)) := by rw [lt]; exact vp_in_nI (by omega) (by decide)
  have hR : R (c + 12) (nI (m.row k)).toNatClampNeg = some (c + 38 + m.row k) := by rw [nI_clamp (by omega)]; exact t1
  refine am_iload_n (q := 1) dX2_fistInRow_0 rfl rfl ?_
  refine am_if_lt (tgt := 43) (q := 4) dX2_fistInRow_1 rfl rfl (fun hz => absurd hz (nI_pos (by omega))) (fun _ => ?_)
  refine am_iload_n (q := 5) dX2_fistInRow_4 rfl rfl ?_
  refine am_aload_n (q := 6) dX2_fistInRow_5 rfl rfl ?_
  refine cm_getR (q := 9) dX2_fistInRow_6 flX2_56 rfl (by assumption) (by assumption) rfl ?_
  refine cm_alenI (q := 10) dX2_fistInRow_9 (by assumption) (by rw [lw] : nI (S.ln (c + 13)) = nI 20) rfl ?_
  refine am_icmp_ge (tgt := 43) (q := 13) dX2_fistInRow_10 rfl rfl (fun hz => absurd hz (nI_ge (by omega) (by decide))) (fun _ => ?_)
  refine am_aload_n (q := 14) dX2_fistInRow_13 rfl rfl ?_
  refine am_aload_n (q := 15) dX2_fistInRow_14 rfl rfl ?_
  refine cm_getR (q := 18) dX2_fistInRow_15 flX2_56 rfl (by assumption) (by assumption) rfl ?_
  refine am_iload_n (q := 19) dX2_fistInRow_18 rfl rfl ?_
  refine cm_iaload (q := 20) dX2_fistInRow_19 (by assumption) hin rfl ?_
  rw [nI_clamp (by omega), e1]
  refine cm_call0 (q := 23) (As := [_]) hG dX2_fistInRow_20 mlX2_212 rfl (by assumption) ⟨_, _, rfl⟩ (Nat.le_of_ble_eq_true rfl) (Nat.le_of_ble_eq_true rfl) (Nat.le_of_ble_eq_true rfl) (Nat.le_of_ble_eq_true rfl) (k_X2_hasTurn hct u3 u4) rfl ?_
  rintro _ _ ⟨rfl, rfl⟩
  refine am_if_eq (tgt := 43) (q := 26) dX2_fistInRow_23 rfl rfl (fun hz => absurd hz (bI_n0.mpr (k_inr e2 (by omega)))) (fun _ => ?_)
  refine am_aload_n (q := 27) dX2_fistInRow_26 rfl rfl ?_
  refine cm_getR (q := 30) dX2_fistInRow_27 flX2_52 rfl (by assumption) (by assumption) rfl ?_
  refine am_aload_n (q := 31) dX2_fistInRow_30 rfl rfl ?_
  refine cm_getR (q := 34) dX2_fistInRow_31 flX2_56 rfl (by assumption) (by assumption) rfl ?_
  refine am_iload_n (q := 35) dX2_fistInRow_34 rfl rfl ?_
  refine cm_iaload (q := 36) dX2_fistInRow_35 (by assumption) hin rfl ?_
  rw [nI_clamp (by omega), e1]
  refine cm_aaloadK (q := 37) dX2_fistInRow_36 (by assumption) (by decide) hin2 hR rfl ?_
  refine cm_getI (q := 40) dX2_fistInRow_37 flX2_215 rfl (by assumption) rfl ?_
  rw [(htr _ e2).1]
  refine am_goto (tgt := 44) dX2_fistInRow_40 rfl ?_
  exact am_iret dX2_fistInRow_44 rfl rfl ⟨_, rfl, rfl, rfl⟩
set_option maxHeartbeats 4000000 in
theorem k_X2_takeTurns (hG : okG G) (hct : CT S R c) (hB : AbB I c B) (hm : AbM I c B m) : Fn G mX2_takeTurns 5 [vR c] (mw S I J R) (fun rr M1 => rr = none ∧ ∃ I1, M1 = mw S I1 J R ∧ AbB I1 c B ∧ AbM I1 c B (trnM B 0 B.nT m) ∧ OffC c I I1) := by
  have hct2 := hct
  obtain ⟨kc, rc0, rc1, rc2, rc3, rc4, rc5, rc6, rc7, ⟨kd, rd0, rd1, rd2, kd2, ld2, kd3, ld3, kd4, ld4⟩, ⟨kb, rb, kb6, lb6⟩, ⟨kf, rf, kf8, lf8⟩, ⟨kr, lr, hr⟩, ⟨kfi, lfi, hfi⟩, ⟨kp, lp, hpz⟩, ⟨kt, lt, htu⟩, kw, lw⟩ := id hct2
  have u4 : B.nT ≤ 20 := hB.2.2.2.1.2
  refine am_iconst (q := 1) (v := 0) dX2_takeTurns_0 kc_i0 rfl ?_
  refine am_istore_n (q := 2) (ls1 := [_, _, _]) dX2_takeTurns_1 (Nat.le_of_ble_eq_true rfl) rfl rfl ?_
  refine k_loop (σ := (Nat → Nat → Int32) × MS × Option AV) (n := B.nT) (Inv := fun i s => trnM B i (B.nT - i) s.2.1 = trnM B 0 B.nT m ∧ AbB s.1 c B ∧ AbM s.1 c B s.2.1 ∧ OffC c I s.1) (W := fun i s => MW G mX2_takeTurns 5 2 [some (vR c), some (vI (nI i)), s.2.2] [] (mw S s.1 J R) _) ?_ ?_ 0 (I, m, none) (Nat.zero_le _) ⟨rfl, hB, hm, OffC.rf⟩
  · rintro i ⟨I0, m0, x2⟩ hi ⟨hinv, hB0, hm0, hO0⟩ ih
    dsimp only at hinv hB0 hm0 hO0 ih ⊢
    have u3 : I0 c 12 = nI B.nT := hB0.2.2.2.1.1
    have hin : vp_in (nI i) (S.ln (c + 13)) := by rw [lw]; exact vp_in_nI (by omega) (by decide)
    obtain ⟨e1, e2⟩ := hm0.2.2.2.2.2.1 i hi
    obtain ⟨t1, t2⟩ := htu (m0.row i) (by omega)
    have hin2 : vp_in (nI (m0.row i)) (S.ln (c + 12)) := by rw [lt]; exact vp_in_nI (by omega) (by decide)
    have hR : R (c + 12) (nI (m0.row i)).toNatClampNeg = some (c + 38 + m0.row i) := by rw [nI_clamp (by omega)]; exact t1
    rw [show B.nT - i = (B.nT - (i + 1)) + 1 by omega, trnM] at hinv
    refine am_iload_n (q := 3) dX2_takeTurns_2 rfl rfl ?_
    refine am_aload_n (q := 4) dX2_takeTurns_3 rfl rfl ?_
    refine cm_getI (q := 7) dX2_takeTurns_4 flX2_81 rfl (by assumption) rfl ?_
    rw [u3]
    refine am_icmp_ge (tgt := 75) (q := 10) dX2_takeTurns_7 rfl rfl (fun hz => absurd hz (nI_ge (by omega) (by omega))) (fun _ => ?_)
    refine am_iload_n (q := 11) dX2_takeTurns_10 rfl rfl ?_
    refine am_aload_n (q := 12) dX2_takeTurns_11 rfl rfl ?_
    refine cm_getR (q := 15) dX2_takeTurns_12 flX2_56 rfl (by assumption) (by assumption) rfl ?_
    refine cm_alenI (q := 16) dX2_takeTurns_15 (by assumption) (by rw [lw] : nI (S.ln (c + 13)) = nI 20) rfl ?_
    refine am_icmp_ge (tgt := 75) (q := 19) dX2_takeTurns_16 rfl rfl (fun hz => absurd hz (nI_ge (by omega) (by decide))) (fun _ => ?_)
    refine am_aload_n (q := 20) dX2_takeTurns_19 rfl rfl ?_
    refine cm_getR (q := 23) dX2_takeTurns_20 flX2_56 rfl (by assumption) (by assumption) rfl ?_
    refine am_iload_n (q := 24) dX2_takeTurns_23 rfl rfl ?_
    refine cm_iaload (q := 25) dX2_takeTurns_24 (by assumption) hin rfl ?_
    rw [nI_clamp (by omega), e1]
    refine am_istore_n (q := 26) (ls1 := [_, _, _]) dX2_takeTurns_25 (Nat.le_of_ble_eq_true rfl) rfl rfl ?_
    refine am_aload_n (q := 27) dX2_takeTurns_26 rfl rfl ?_
    refine am_iload_n (q := 28) dX2_takeTurns_27 rfl rfl ?_
    refine cm_call0 (q := 31) (As := [_]) hG dX2_takeTurns_28 mlX2_212 rfl (by assumption) ⟨_, _, rfl⟩ (Nat.le_of_ble_eq_true rfl) (Nat.le_of_ble_eq_true rfl) (Nat.le_of_ble_eq_true rfl) (Nat.le_of_ble_eq_true rfl) (k_X2_hasTurn hct u3 u4) rfl ?_
    rintro _ _ ⟨rfl, rfl⟩
    refine am_if_eq (tgt := 69) (q := 34) dX2_takeTurns_31 rfl rfl (fun hz => absurd hz (bI_n0.mpr (k_inr e2 (by omega)))) (fun _ => ?_)
    refine am_aload_n (q := 35) dX2_takeTurns_34 rfl rfl ?_
    refine am_aload_n (q := 36) dX2_takeTurns_35 rfl rfl ?_
    refine cm_getR (q := 39) dX2_takeTurns_36 flX2_52 rfl (by assumption) (by assumption) rfl ?_
    refine am_iload_n (q := 40) dX2_takeTurns_39 rfl rfl ?_
    refine cm_aaloadK (q := 41) dX2_takeTurns_40 (by assumption) (by decide) hin2 hR rfl ?_
    refine cm_call0 (q := 44) (As := [_]) hG dX2_takeTurns_41 mlX2_224 rfl (by assumption) ⟨_, _, rfl⟩ (Nat.le_of_ble_eq_true rfl) (Nat.le_of_ble_eq_true rfl) (Nat.le_of_ble_eq_true rfl) (Nat.le_of_ble_eq_true rfl) (k_X2_isDue hG hct hB0 hm0 e2) rfl ?_
    rintro _ _ ⟨v, rfl, hv, I1, rfl, hq⟩
    have hB1 := hB0.qt hq
    have hm1 := AbM.qt hB0 hm0 hq
    have hO1 := hO0.tr hq.off
    obtain ⟨w1, w2, w3, w4⟩ := hB1.2.2.2.2.2.1 (m0.row i) e2
    refine am_if_eq (tgt := 69) (q := 47) dX2_takeTurns_44 rfl rfl (fun hc => ?_) (fun hc => ?_)
    · rw [if_neg (fun q => hv.mpr q hc)] at hinv
      refine am_iincW (q := 72) (ls1 := [_, _, _]) (w := 1) dX2_takeTurns_69 rfl (Nat.le_of_ble_eq_true rfl) kc_i1 rfl rfl ?_
      refine am_goto (tgt := 2) dX2_takeTurns_72 rfl ?_
      rw [nI_1]
      exact ih (I1, m0, _) ⟨hinv, hB1, hm1, hO1⟩
    · rw [if_pos (hv.mp hc)] at hinv
      refine am_aload_n (q := 48) dX2_takeTurns_47 rfl rfl ?_
      refine am_aload_n (q := 49) dX2_takeTurns_48 rfl rfl ?_
      refine cm_getR (q := 52) dX2_takeTurns_49 flX2_52 rfl (by assumption) (by assumption) rfl ?_
      refine am_iload_n (q := 53) dX2_takeTurns_52 rfl rfl ?_
      refine cm_aaloadK (q := 54) dX2_takeTurns_53 (by assumption) (by decide) hin2 hR rfl ?_
      refine cm_getI (q := 57) dX2_takeTurns_54 flX2_215 rfl (by assumption) rfl ?_
      rw [w1]
      refine am_aload_n (q := 58) dX2_takeTurns_57 rfl rfl ?_
      refine cm_getR (q := 61) dX2_takeTurns_58 flX2_52 rfl (by assumption) (by assumption) rfl ?_
      refine am_iload_n (q := 62) dX2_takeTurns_61 rfl rfl ?_
      refine cm_aaloadK (q := 63) dX2_takeTurns_62 (by assumption) (by decide) hin2 hR rfl ?_
      refine cm_getI (q := 66) dX2_takeTurns_63 flX2_218 rfl (by assumption) rfl ?_
      rw [w3]
      refine cm_call0 (q := 69) (As := [_, _]) hG dX2_takeTurns_66 mlX2_266 rfl (by assumption) ⟨_, _, rfl⟩ (Nat.le_of_ble_eq_true rfl) (Nat.le_of_ble_eq_true rfl) (Nat.le_of_ble_eq_true rfl) (Nat.le_of_ble_eq_true rfl) (k_X2_hit hG hct hB1 hm1 w2 w4) rfl ?_
      rintro _ _ ⟨rfl, I2, rfl, hB2, hm2, hO2⟩
      refine am_iincW (q := 72) (ls1 := [_, _, _]) (w := 1) dX2_takeTurns_69 rfl (Nat.le_of_ble_eq_true rfl) kc_i1 rfl rfl ?_
      refine am_goto (tgt := 2) dX2_takeTurns_72 rfl ?_
      rw [nI_1]
      exact ih (I2, _, _) ⟨hinv, hB2, hm2, hO1.tr hO2⟩
  · rintro ⟨I0, m0, x2⟩ ⟨hinv, hB0, hm0, hO0⟩
    dsimp only at hinv hB0 hm0 hO0 ⊢
    rw [Nat.sub_self, trnM] at hinv
    rw [← hinv]
    refine am_iload_n (q := 3) dX2_takeTurns_2 rfl rfl ?_
    refine am_aload_n (q := 4) dX2_takeTurns_3 rfl rfl ?_
    refine cm_getI (q := 7) dX2_takeTurns_4 flX2_81 rfl (by assumption) rfl ?_
    rw [show I0 c 12 = nI B.nT from hB0.2.2.2.1.1]
    refine am_icmp_ge (tgt := 75) (q := 10) dX2_takeTurns_7 rfl rfl (fun _ => ?_) (fun hz => absurd (Int32.le_refl _) hz)
    exact am_ret dX2_takeTurns_75 rfl ⟨_, rfl, rfl, _, rfl, hB0, hm0, hO0⟩
set_option maxHeartbeats 4000000 in
theorem k_X2_useElbows (hG : okG G) (hct : CT S R c) (hB : AbB I c B) (hm : AbM I c B m) : Fn G mX2_useElbows 2 [vR c] (mw S I J R) (fun rr M1 => rr = none ∧ ∃ I1, M1 = mw S I1 J R ∧ AbB I1 c B ∧ AbM I1 c B (elbM B 1 (B.nT - 1) m) ∧ OffC c I I1) := by
  have hct2 := hct
  obtain ⟨kc, rc0, rc1, rc2, rc3, rc4, rc5, rc6, rc7, ⟨kd, rd0, rd1, rd2, kd2, ld2, kd3, ld3, kd4, ld4⟩, ⟨kb, rb, kb6, lb6⟩, ⟨kf, rf, kf8, lf8⟩, ⟨kr, lr, hr⟩, ⟨kfi, lfi, hfi⟩, ⟨kp, lp, hpz⟩, ⟨kt, lt, htu⟩, kw, lw⟩ := id hct2
  have u4 : B.nT ≤ 20 := hB.2.2.2.1.2
  have u5 : B.nF ≤ 8 := hB.2.1.2
  refine am_iconst (q := 1) (v := 1) dX2_useElbows_0 kc_i1 rfl ?_
  refine am_istore_n (q := 2) (ls1 := [_, _, _, _, _, _]) dX2_useElbows_1 (Nat.le_of_ble_eq_true rfl) rfl rfl ?_
  refine k_loop (σ := (Nat → Nat → Int32) × MS × Option AV × Option AV × Option AV × Option AV) (n := B.nT - 1) (Inv := fun i s => elbM B (i + 1) (B.nT - 1 - i) s.2.1 = elbM B 1 (B.nT - 1) m ∧ AbB s.1 c B ∧ AbM s.1 c B s.2.1 ∧ OffC c I s.1) (W := fun i s => MW G mX2_useElbows 2 2 [some (vR c), some (vI (nI (i + 1))), s.2.2.1, s.2.2.2.1, s.2.2.2.2.1, s.2.2.2.2.2] [] (mw S s.1 J R) _) ?_ ?_ 0 (I, m, none, none, none, none) (Nat.zero_le _) ⟨rfl, hB, hm, OffC.rf⟩
  · rintro i ⟨I0, m0, x2, x3, x4, x5⟩ hi ⟨hinv, hB0, hm0, hO0⟩ ih
    dsimp only at hinv hB0 hm0 hO0 ih ⊢
    have u3 : I0 c 12 = nI B.nT := hB0.2.2.2.1.1
    have v3 : I0 c 10 = nI B.nF := hB0.2.1.1
    have hin : vp_in (nI (i + 1)) (S.ln (c + 13)) := by rw [lw]; exact vp_in_nI (by omega) (by decide)
    have hin0 : vp_in (nI i) (S.ln (c + 13)) := by rw [lw]; exact vp_in_nI (by omega) (by decide)
    obtain ⟨e1, e2⟩ := hm0.2.2.2.2.2.1 (i + 1) (by omega)
    obtain ⟨e3, e4⟩ := hm0.2.2.2.2.2.1 i (by omega)
    obtain ⟨w1, w2, w3, w4⟩ := hB0.2.2.2.2.2.1 (m0.row (i + 1)) e2
    obtain ⟨y1, y2, y3, y4⟩ := hB0.2.2.2.2.2.1 (m0.row i) e4
    have i1 : I0 (c + 22 + B.tF (m0.row (i + 1))) 3 = m0.fist (B.tF (m0.row (i + 1))) 2 := hm0.1 _ w2 2 (by decide)
    have i2 : I0 (c + 22 + B.tF (m0.row i)) 3 = m0.fist (B.tF (m0.row i)) 2 := hm0.1 _ y2 2 (by decide)
    have hc0 : (nI i).toNatClampNeg = i := nI_clamp (by omega)
    have hc1 : (nI (i + 1)).toNatClampNeg = i + 1 := nI_clamp (by omega)
    obtain ⟨f1, f2⟩ := hfi (B.tF (m0.row (i + 1))) (by omega)
    obtain ⟨g1, g2⟩ := hfi (B.tF (m0.row i)) (by omega)
    have hinF : vp_in (nI (B.tF (m0.row (i + 1)))) (S.ln (c + 10)) := by rw [lfi]; exact vp_in_nI (by omega) (by decide)
    have hRF : R (c + 10) (nI (B.tF (m0.row (i + 1)))).toNatClampNeg = some (c + 22 + B.tF (m0.row (i + 1))) := by rw [nI_clamp (by omega)]; exact f1
    have hinG : vp_in (nI (B.tF (m0.row i))) (S.ln (c + 10)) := by rw [lfi]; exact vp_in_nI (by omega) (by decide)
    have hRG : R (c + 10) (nI (B.tF (m0.row i))).toNatClampNeg = some (c + 22 + B.tF (m0.row i)) := by rw [nI_clamp (by omega)]; exact g1
    rw [show B.nT - 1 - i = (B.nT - 1 - (i + 1)) + 1 by omega, elbM, show i + 1 - 1 = i by omega] at hinv
    refine am_iload_n (q := 3) dX2_useElbows_2 rfl rfl ?_
    refine am_aload_n (q := 4) dX2_useElbows_3 rfl rfl ?_
    refine cm_getI (q := 7) dX2_useElbows_4 flX2_81 rfl (by assumption) rfl ?_
    rw [u3]
    refine am_icmp_ge (tgt := 137) (q := 10) dX2_useElbows_7 rfl rfl (fun hz => absurd hz (nI_ge (by omega) (by omega))) (fun _ => ?_)
    refine am_iload_n (q := 11) dX2_useElbows_10 rfl rfl ?_
    refine am_aload_n (q := 12) dX2_useElbows_11 rfl rfl ?_
    refine cm_getR (q := 15) dX2_useElbows_12 flX2_56 rfl (by assumption) (by assumption) rfl ?_
    refine cm_alenI (q := 16) dX2_useElbows_15 (by assumption) (by rw [lw] : nI (S.ln (c + 13)) = nI 20) rfl ?_
    refine am_icmp_ge (tgt := 137) (q := 19) dX2_useElbows_16 rfl rfl (fun hz => absurd hz (nI_ge (by omega) (by decide))) (fun _ => ?_)
    refine am_aload_n (q := 20) dX2_useElbows_19 rfl rfl ?_
    refine am_iload_n (q := 21) dX2_useElbows_20 rfl rfl ?_
    refine cm_call0 (q := 24) (As := [_]) hG dX2_useElbows_21 mlX2_263 rfl (by assumption) ⟨_, _, rfl⟩ (Nat.le_of_ble_eq_true rfl) (Nat.le_of_ble_eq_true rfl) (Nat.le_of_ble_eq_true rfl) (Nat.le_of_ble_eq_true rfl) (k_X2_fistInRow hG hct hB0 hm0 (by omega)) rfl ?_
    rintro _ _ ⟨rfl, rfl⟩
    refine am_istore_n (q := 25) (ls1 := [_, _, _, _, _, _]) dX2_useElbows_24 (Nat.le_of_ble_eq_true rfl) rfl rfl ?_
    refine am_aload_n (q := 26) dX2_useElbows_25 rfl rfl ?_
    refine am_iload_n (q := 27) dX2_useElbows_26 rfl rfl ?_
    refine am_iconst (q := 28) (v := 1) dX2_useElbows_27 kc_i1 rfl ?_
    refine am_isub (q := 29) dX2_useElbows_28 rfl ?_
    rw [k_nIs]
    refine cm_call0 (q := 32) (As := [_]) hG dX2_useElbows_29 mlX2_263 rfl (by assumption) ⟨_, _, rfl⟩ (Nat.le_of_ble_eq_true rfl) (Nat.le_of_ble_eq_true rfl) (Nat.le_of_ble_eq_true rfl) (Nat.le_of_ble_eq_true rfl) (k_X2_fistInRow hG hct hB0 hm0 (by omega)) rfl ?_
    rintro _ _ ⟨rfl, rfl⟩
    refine am_istore_n (q := 33) (ls1 := [_, _, _, _, _, _]) dX2_useElbows_32 (Nat.le_of_ble_eq_true rfl) rfl rfl ?_
    refine am_aload_n (q := 34) dX2_useElbows_33 rfl rfl ?_
    refine am_iload_n (q := 35) dX2_useElbows_34 rfl rfl ?_
    refine cm_call0 (q := 38) (As := [_]) hG dX2_useElbows_35 mlX2_167 rfl (by assumption) ⟨_, _, rfl⟩ (Nat.le_of_ble_eq_true rfl) (Nat.le_of_ble_eq_true rfl) (Nat.le_of_ble_eq_true rfl) (Nat.le_of_ble_eq_true rfl) (k_X2_hasFist hct v3 u5) rfl ?_
    rintro _ _ ⟨rfl, rfl⟩
    refine am_if_eq (tgt := 53) (q := 41) dX2_useElbows_38 rfl rfl (fun hz => absurd hz (bI_n0.mpr (k_inr w2 (by omega)))) (fun _ => ?_)
    refine am_aload_n (q := 42) dX2_useElbows_41 rfl rfl ?_
    refine am_iload_n (q := 43) dX2_useElbows_42 rfl rfl ?_
    refine cm_call0 (q := 46) (As := [_]) hG dX2_useElbows_43 mlX2_167 rfl (by assumption) ⟨_, _, rfl⟩ (Nat.le_of_ble_eq_true rfl) (Nat.le_of_ble_eq_true rfl) (Nat.le_of_ble_eq_true rfl) (Nat.le_of_ble_eq_true rfl) (k_X2_hasFist hct v3 u5) rfl ?_
    rintro _ _ ⟨rfl, rfl⟩
    refine am_if_eq (tgt := 53) (q := 49) dX2_useElbows_46 rfl rfl (fun hz => absurd hz (bI_n0.mpr (k_inr y2 (by omega)))) (fun _ => ?_)
    refine am_iconst (q := 50) (v := 1) dX2_useElbows_49 kc_i1 rfl ?_
    refine am_goto (tgt := 54) dX2_useElbows_50 rfl ?_
    refine am_istore (q := 56) (ls1 := [_, _, _, _, _, _]) dX2_useElbows_54 (Nat.le_of_ble_eq_true rfl) rfl rfl ?_
    refine am_iload (q := 58) dX2_useElbows_56 rfl rfl ?_
    refine am_if_eq (tgt := 131) (q := 61) dX2_useElbows_58 rfl rfl (fun hz => absurd hz (by decide)) (fun _ => ?_)
    refine am_aload_n (q := 62) dX2_useElbows_61 rfl rfl ?_
    refine cm_getR (q := 65) dX2_useElbows_62 flX2_40 rfl (by assumption) (by assumption) rfl ?_
    refine am_iload_n (q := 66) dX2_useElbows_65 rfl rfl ?_
    refine cm_aaloadK (q := 67) dX2_useElbows_66 (by assumption) (by decide) hinF hRF rfl ?_
    refine cm_getI (q := 70) dX2_useElbows_67 flX2_176 rfl (by assumption) rfl ?_
    rw [i1]
    refine am_aload_n (q := 71) dX2_useElbows_70 rfl rfl ?_
    refine cm_getR (q := 74) dX2_useElbows_71 flX2_40 rfl (by assumption) (by assumption) rfl ?_
    refine am_iload_n (q := 75) dX2_useElbows_74 rfl rfl ?_
    refine cm_aaloadK (q := 76) dX2_useElbows_75 (by assumption) (by decide) hinG hRG rfl ?_
    refine cm_getI (q := 79) dX2_useElbows_76 flX2_176 rfl (by assumption) rfl ?_
    rw [i2]
    refine am_iconst (q := 80) (v := 2) dX2_useElbows_79 kc_i2 rfl ?_
    refine am_iadd (q := 81) dX2_useElbows_80 rfl ?_
    refine am_icmp_le (tgt := 131) (q := 84) dX2_useElbows_81 rfl rfl (fun hc => ?_) (fun hc => ?_)
    · rw [if_neg (Int32.not_lt.mpr hc)] at hinv
      refine am_iincW (q := 134) (ls1 := [_, _, _, _, _, _]) (w := 1) dX2_useElbows_131 rfl (Nat.le_of_ble_eq_true rfl) kc_i1 rfl rfl ?_
      refine am_goto (tgt := 2) dX2_useElbows_134 rfl ?_
      rw [nI_1]
      exact ih (I0, m0, _, _, _, _) ⟨hinv, hB0, hm0, hO0⟩
    · rw [if_pos (Int32.not_le.mp hc)] at hinv
      refine am_aload_n (q := 85) dX2_useElbows_84 rfl rfl ?_
      refine cm_getR (q := 88) dX2_useElbows_85 flX2_56 rfl (by assumption) (by assumption) rfl ?_
      refine am_iload_n (q := 89) dX2_useElbows_88 rfl rfl ?_
      refine cm_iaload (q := 90) dX2_useElbows_89 (by assumption) hin rfl ?_
      rw [hc1, e1]
      refine am_istore (q := 92) (ls1 := [_, _, _, _, _, _]) dX2_useElbows_90 (Nat.le_of_ble_eq_true rfl) rfl rfl ?_
      refine am_aload_n (q := 93) dX2_useElbows_92 rfl rfl ?_
      refine cm_getR (q := 96) dX2_useElbows_93 flX2_56 rfl (by assumption) (by assumption) rfl ?_
      refine am_iload_n (q := 97) dX2_useElbows_96 rfl rfl ?_
      refine am_aload_n (q := 98) dX2_useElbows_97 rfl rfl ?_
      refine cm_getR (q := 101) dX2_useElbows_98 flX2_56 rfl (by assumption) (by assumption) rfl ?_
      refine am_iload_n (q := 102) dX2_useElbows_101 rfl rfl ?_
      refine am_iconst (q := 103) (v := 1) dX2_useElbows_102 kc_i1 rfl ?_
      refine am_isub (q := 104) dX2_useElbows_103 rfl ?_
      rw [k_nIs]
      refine cm_iaload (q := 105) dX2_useElbows_104 (by assumption) hin0 rfl ?_
      rw [hc0, e3]
      refine cm_iastore (q := 106) dX2_useElbows_105 (by assumption) hin rfl ?_
      rw [hc1]
      refine am_aload_n (q := 107) dX2_useElbows_106 rfl rfl ?_
      refine cm_getR (q := 110) dX2_useElbows_107 flX2_56 rfl (by assumption) (by assumption) rfl ?_
      refine am_iload_n (q := 111) dX2_useElbows_110 rfl rfl ?_
      refine am_iconst (q := 112) (v := 1) dX2_useElbows_111 kc_i1 rfl ?_
      refine am_isub (q := 113) dX2_useElbows_112 rfl ?_
      rw [k_nIs]
      refine am_iload (q := 115) dX2_useElbows_113 rfl rfl ?_
      refine cm_iastore (q := 116) dX2_useElbows_115 (by assumption) hin0 rfl ?_
      rw [hc0]
      have hB2 := (hB0.upW (j := i + 1) (v := nI (m0.row i))).upW (j := i) (v := nI (m0.row (i + 1)))
      have hm2 := AbM.setW (AbM.setW (k := i + 1) (t := m0.row i) hm0 e4 (by omega)) (k := i) (t := m0.row (i + 1)) e2 (by omega)
      have hO2 := (hO0.up (a := c + 13) (j := i + 1) (v := nI (m0.row i)) (by omega)).up (a := c + 13) (j := i) (v := nI (m0.row (i + 1))) (by omega)
      generalize up2 (up2 I0 (c + 13) (i + 1) (nI (m0.row i))) (c + 13) i (nI (m0.row (i + 1))) = I2 at hB2 hm2 hO2 ⊢
      refine am_aload_n (q := 117) dX2_useElbows_116 rfl rfl ?_
      refine cm_getR (q := 120) dX2_useElbows_117 flX2_40 rfl (by assumption) (by assumption) rfl ?_
      refine am_iload_n (q := 121) dX2_useElbows_120 rfl rfl ?_
      refine cm_aaloadK (q := 122) dX2_useElbows_121 (by assumption) (by decide) hinF hRF rfl ?_
      refine am_dup (q := 123) dX2_useElbows_122 rfl rfl ?_
      refine cm_getI (q := 126) dX2_useElbows_123 flX2_176 rfl (by assumption) rfl ?_
      rw [show I2 (c + 22 + B.tF (m0.row (i + 1))) 3 = m0.fist (B.tF (m0.row (i + 1))) 2 from hm2.1 _ w2 2 (by decide)]
      refine am_iconst (q := 127) (v := 1) dX2_useElbows_126 kc_i1 rfl ?_
      refine am_isub (q := 128) dX2_useElbows_127 rfl ?_
      refine cm_putI (q := 131) dX2_useElbows_128 flX2_176 rfl (Or.inl rfl) (Or.inl rfl) (by assumption) rfl ?_
      refine am_iincW (q := 134) (ls1 := [_, _, _, _, _, _]) (w := 1) dX2_useElbows_131 rfl (Nat.le_of_ble_eq_true rfl) kc_i1 rfl rfl ?_
      refine am_goto (tgt := 2) dX2_useElbows_134 rfl ?_
      rw [nI_1]
      exact ih (_, _, _, _, _, _) ⟨hinv, hB2.upF (j := 3) (by omega), AbM.setF (j := 2) hB2 hm2 w2 (by decide) (fun e => absurd e (by decide)), hO2.up (by omega)⟩
  · rintro ⟨I0, m0, x2, x3, x4, x5⟩ ⟨hinv, hB0, hm0, hO0⟩
    dsimp only at hinv hB0 hm0 hO0 ⊢
    rw [Nat.sub_self, elbM] at hinv
    rw [← hinv]
    refine am_iload_n (q := 3) dX2_useElbows_2 rfl rfl ?_
    refine am_aload_n (q := 4) dX2_useElbows_3 rfl rfl ?_
    refine cm_getI (q := 7) dX2_useElbows_4 flX2_81 rfl (by assumption) rfl ?_
    rw [show I0 c 12 = nI B.nT from hB0.2.2.2.1.1]
    refine am_icmp_ge (tgt := 137) (q := 10) dX2_useElbows_7 rfl rfl (fun _ => ?_) (fun hz => absurd (Int32.not_lt.mp fun q => absurd ((nI_ltI (by omega) (by omega)).mp q) (by omega)) hz)
    exact am_ret dX2_useElbows_137 rfl ⟨_, rfl, rfl, _, rfl, hB0, hm0, hO0⟩
end Play

