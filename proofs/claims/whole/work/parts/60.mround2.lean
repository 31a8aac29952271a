theorem dX14_push_0 : decode cX14_push 0 = .ok (.iconst 1, 1) := by decide +kernel
theorem dX14_push_1 : decode cX14_push 1 = .ok (.istore_n 2, 1) := by decide +kernel
theorem dX14_push_2 : decode cX14_push 2 = .ok (.iload_n 2, 1) := by decide +kernel
theorem dX14_push_3 : decode cX14_push 3 = .ok (.aload_n 0, 1) := by decide +kernel
theorem dX14_push_4 : decode cX14_push 4 = .ok (.getfield 32, 3) := by decide +kernel
theorem dX14_push_7 : decode cX14_push 7 = .ok (.getfield 246, 3) := by decide +kernel
theorem dX14_push_10 : decode cX14_push 10 = .ok (.if_icmp .ge 89, 3) := by decide +kernel
theorem dX14_push_13 : decode cX14_push 13 = .ok (.aload_n 0, 1) := by decide +kernel
theorem dX14_push_14 : decode cX14_push 14 = .ok (.aload_n 1, 1) := by decide +kernel
theorem dX14_push_15 : decode cX14_push 15 = .ok (.iload_n 2, 1) := by decide +kernel
theorem dX14_push_16 : decode cX14_push 16 = .ok (.invokevirtual 346, 3) := by decide +kernel
theorem dX14_push_19 : decode cX14_push 19 = .ok (.aload_n 0, 1) := by decide +kernel
theorem dX14_push_20 : decode cX14_push 20 = .ok (.aload_n 1, 1) := by decide +kernel
theorem dX14_push_21 : decode cX14_push 21 = .ok (.iload_n 2, 1) := by decide +kernel
theorem dX14_push_22 : decode cX14_push 22 = .ok (.iconst 1, 1) := by decide +kernel
theorem dX14_push_23 : decode cX14_push 23 = .ok (.isub, 1) := by decide +kernel
theorem dX14_push_24 : decode cX14_push 24 = .ok (.invokevirtual 346, 3) := by decide +kernel
theorem dX14_push_27 : decode cX14_push 27 = .ok (.iconst 2, 1) := by decide +kernel
theorem dX14_push_28 : decode cX14_push 28 = .ok (.iadd, 1) := by decide +kernel
theorem dX14_push_29 : decode cX14_push 29 = .ok (.if_icmp .gt 6, 3) := by decide +kernel
theorem dX14_push_32 : decode cX14_push 32 = .ok (.goto 61, 3) := by decide +kernel
theorem dX14_push_35 : decode cX14_push 35 = .ok (.aload_n 1, 1) := by decide +kernel
theorem dX14_push_36 : decode cX14_push 36 = .ok (.getfield 283, 3) := by decide +kernel
theorem dX14_push_39 : decode cX14_push 39 = .ok (.bipush 7, 2) := by decide +kernel
theorem dX14_push_41 : decode cX14_push 41 = .ok (.aload_n 0, 1) := by decide +kernel
theorem dX14_push_42 : decode cX14_push 42 = .ok (.getfield 32, 3) := by decide +kernel
theorem dX14_push_45 : decode cX14_push 45 = .ok (.getfield 249, 3) := by decide +kernel
theorem dX14_push_48 : decode cX14_push 48 = .ok (.iconst 3, 1) := by decide +kernel
theorem dX14_push_49 : decode cX14_push 49 = .ok (.aload_n 1, 1) := by decide +kernel
theorem dX14_push_50 : decode cX14_push 50 = .ok (.getfield 343, 3) := by decide +kernel
theorem dX14_push_53 : decode cX14_push 53 = .ok (.iload_n 2, 1) := by decide +kernel
theorem dX14_push_54 : decode cX14_push 54 = .ok (.iaload, 1) := by decide +kernel
theorem dX14_push_55 : decode cX14_push 55 = .ok (.imul, 1) := by decide +kernel
theorem dX14_push_56 : decode cX14_push 56 = .ok (.iaload, 1) := by decide +kernel
theorem dX14_push_57 : decode cX14_push 57 = .ok (.imul, 1) := by decide +kernel
theorem dX14_push_58 : decode cX14_push 58 = .ok (.dup2, 1) := by decide +kernel
theorem dX14_push_59 : decode cX14_push 59 = .ok (.iaload, 1) := by decide +kernel
theorem dX14_push_60 : decode cX14_push 60 = .ok (.iconst 1, 1) := by decide +kernel
theorem dX14_push_61 : decode cX14_push 61 = .ok (.isub, 1) := by decide +kernel
theorem dX14_push_62 : decode cX14_push 62 = .ok (.iastore, 1) := by decide +kernel
theorem dX14_push_63 : decode cX14_push 63 = .ok (.aload_n 1, 1) := by decide +kernel
theorem dX14_push_64 : decode cX14_push 64 = .ok (.getfield 343, 3) := by decide +kernel
theorem dX14_push_67 : decode cX14_push 67 = .ok (.iload_n 2, 1) := by decide +kernel
theorem dX14_push_68 : decode cX14_push 68 = .ok (.iaload, 1) := by decide +kernel
theorem dX14_push_69 : decode cX14_push 69 = .ok (.istore_n 3, 1) := by decide +kernel
theorem dX14_push_70 : decode cX14_push 70 = .ok (.aload_n 1, 1) := by decide +kernel
theorem dX14_push_71 : decode cX14_push 71 = .ok (.getfield 343, 3) := by decide +kernel
theorem dX14_push_74 : decode cX14_push 74 = .ok (.iload_n 2, 1) := by decide +kernel
theorem dX14_push_75 : decode cX14_push 75 = .ok (.aload_n 1, 1) := by decide +kernel
theorem dX14_push_76 : decode cX14_push 76 = .ok (.getfield 343, 3) := by decide +kernel
theorem dX14_push_79 : decode cX14_push 79 = .ok (.iload_n 2, 1) := by decide +kernel
theorem dX14_push_80 : decode cX14_push 80 = .ok (.iconst 1, 1) := by decide +kernel
theorem dX14_push_81 : decode cX14_push 81 = .ok (.isub, 1) := by decide +kernel
theorem dX14_push_82 : decode cX14_push 82 = .ok (.iaload, 1) := by decide +kernel
theorem dX14_push_83 : decode cX14_push 83 = .ok (.iastore, 1) := by decide +kernel
theorem dX14_push_84 : decode cX14_push 84 = .ok (.aload_n 1, 1) := by decide +kernel
theorem dX14_push_85 : decode cX14_push 85 = .ok (.getfield 343, 3) := by decide +kernel
theorem dX14_push_88 : decode cX14_push 88 = .ok (.iload_n 2, 1) := by decide +kernel
theorem dX14_push_89 : decode cX14_push 89 = .ok (.iconst 1, 1) := by decide +kernel
theorem dX14_push_90 : decode cX14_push 90 = .ok (.isub, 1) := by decide +kernel
theorem dX14_push_91 : decode cX14_push 91 = .ok (.iload_n 3, 1) := by decide +kernel
theorem dX14_push_92 : decode cX14_push 92 = .ok (.iastore, 1) := by decide +kernel
theorem dX14_push_93 : decode cX14_push 93 = .ok (.iinc 2 1, 3) := by decide +kernel
theorem dX14_push_96 : decode cX14_push 96 = .ok (.goto (-94), 3) := by decide +kernel
theorem dX14_push_99 : decode cX14_push 99 = .ok (.return_, 1) := by decide +kernel
theorem dX14_round_0 : decode cX14_round 0 = .ok (.aload_n 0, 1) := by decide +kernel
theorem dX14_round_1 : decode cX14_round 1 = .ok (.aload_n 1, 1) := by decide +kernel
theorem dX14_round_2 : decode cX14_round 2 = .ok (.invokevirtual 349, 3) := by decide +kernel
theorem dX14_round_5 : decode cX14_round 5 = .ok (.iconst 0, 1) := by decide +kernel
theorem dX14_round_6 : decode cX14_round 6 = .ok (.istore_n 2, 1) := by decide +kernel
theorem dX14_round_7 : decode cX14_round 7 = .ok (.iload_n 2, 1) := by decide +kernel
theorem dX14_round_8 : decode cX14_round 8 = .ok (.aload_n 0, 1) := by decide +kernel
theorem dX14_round_9 : decode cX14_round 9 = .ok (.getfield 32, 3) := by decide +kernel
theorem dX14_round_12 : decode cX14_round 12 = .ok (.getfield 246, 3) := by decide +kernel
theorem dX14_round_15 : decode cX14_round 15 = .ok (.if_icmp .ge 62, 3) := by decide +kernel
theorem dX14_round_18 : decode cX14_round 18 = .ok (.aload_n 0, 1) := by decide +kernel
theorem dX14_round_19 : decode cX14_round 19 = .ok (.aload_n 1, 1) := by decide +kernel
theorem dX14_round_20 : decode cX14_round 20 = .ok (.aload_n 1, 1) := by decide +kernel
theorem dX14_round_21 : decode cX14_round 21 = .ok (.getfield 343, 3) := by decide +kernel
theorem dX14_round_24 : decode cX14_round 24 = .ok (.iload_n 2, 1) := by decide +kernel
theorem dX14_round_25 : decode cX14_round 25 = .ok (.iaload, 1) := by decide +kernel
theorem dX14_round_26 : decode cX14_round 26 = .ok (.invokevirtual 353, 3) := by decide +kernel
theorem dX14_round_29 : decode cX14_round 29 = .ok (.ifCond .eq 42, 3) := by decide +kernel
theorem dX14_round_32 : decode cX14_round 32 = .ok (.aload_n 0, 1) := by decide +kernel
theorem dX14_round_33 : decode cX14_round 33 = .ok (.aload_n 1, 1) := by decide +kernel
theorem dX14_round_34 : decode cX14_round 34 = .ok (.aload_n 0, 1) := by decide +kernel
theorem dX14_round_35 : decode cX14_round 35 = .ok (.getfield 32, 3) := by decide +kernel
theorem dX14_round_38 : decode cX14_round 38 = .ok (.getfield 249, 3) := by decide +kernel
theorem dX14_round_41 : decode cX14_round 41 = .ok (.iconst 3, 1) := by decide +kernel
theorem dX14_round_42 : decode cX14_round 42 = .ok (.aload_n 1, 1) := by decide +kernel
theorem dX14_round_43 : decode cX14_round 43 = .ok (.getfield 343, 3) := by decide +kernel
theorem dX14_round_46 : decode cX14_round 46 = .ok (.iload_n 2, 1) := by decide +kernel
theorem dX14_round_47 : decode cX14_round 47 = .ok (.iaload, 1) := by decide +kernel
theorem dX14_round_48 : decode cX14_round 48 = .ok (.imul, 1) := by decide +kernel
theorem dX14_round_49 : decode cX14_round 49 = .ok (.iaload, 1) := by decide +kernel
theorem dX14_round_50 : decode cX14_round 50 = .ok (.aload_n 0, 1) := by decide +kernel
theorem dX14_round_51 : decode cX14_round 51 = .ok (.getfield 32, 3) := by decide +kernel
theorem dX14_round_54 : decode cX14_round 54 = .ok (.getfield 249, 3) := by decide +kernel
theorem dX14_round_57 : decode cX14_round 57 = .ok (.iconst 3, 1) := by decide +kernel
theorem dX14_round_58 : decode cX14_round 58 = .ok (.aload_n 1, 1) := by decide +kernel
theorem dX14_round_59 : decode cX14_round 59 = .ok (.getfield 343, 3) := by decide +kernel
theorem dX14_round_62 : decode cX14_round 62 = .ok (.iload_n 2, 1) := by decide +kernel
theorem dX14_round_63 : decode cX14_round 63 = .ok (.iaload, 1) := by decide +kernel
theorem dX14_round_64 : decode cX14_round 64 = .ok (.imul, 1) := by decide +kernel
theorem dX14_round_65 : decode cX14_round 65 = .ok (.iconst 1, 1) := by decide +kernel
theorem dX14_round_66 : decode cX14_round 66 = .ok (.iadd, 1) := by decide +kernel
theorem dX14_round_67 : decode cX14_round 67 = .ok (.iaload, 1) := by decide +kernel
theorem dX14_round_68 : decode cX14_round 68 = .ok (.invokevirtual 356, 3) := by decide +kernel
theorem dX14_round_71 : decode cX14_round 71 = .ok (.iinc 2 1, 3) := by decide +kernel
theorem dX14_round_74 : decode cX14_round 74 = .ok (.goto (-67), 3) := by decide +kernel
theorem dX14_round_77 : decode cX14_round 77 = .ok (.iconst 0, 1) := by decide +kernel
theorem dX14_round_78 : decode cX14_round 78 = .ok (.istore_n 2, 1) := by decide +kernel
theorem dX14_round_79 : decode cX14_round 79 = .ok (.iload_n 2, 1) := by decide +kernel
theorem dX14_round_80 : decode cX14_round 80 = .ok (.aload_n 0, 1) := by decide +kernel
theorem dX14_round_81 : decode cX14_round 81 = .ok (.getfield 32, 3) := by decide +kernel
theorem dX14_round_84 : decode cX14_round 84 = .ok (.getfield 170, 3) := by decide +kernel
theorem dX14_round_87 : decode cX14_round 87 = .ok (.if_icmp .ge 65, 3) := by decide +kernel
theorem dX14_round_90 : decode cX14_round 90 = .ok (.aload_n 1, 1) := by decide +kernel
theorem dX14_round_91 : decode cX14_round 91 = .ok (.getfield 283, 3) := by decide +kernel
theorem dX14_round_94 : decode cX14_round 94 = .ok (.bipush 7, 2) := by decide +kernel
theorem dX14_round_96 : decode cX14_round 96 = .ok (.iload_n 2, 1) := by decide +kernel
theorem dX14_round_97 : decode cX14_round 97 = .ok (.imul, 1) := by decide +kernel
theorem dX14_round_98 : decode cX14_round 98 = .ok (.bipush 6, 2) := by decide +kernel
theorem dX14_round_100 : decode cX14_round 100 = .ok (.iadd, 1) := by decide +kernel
theorem dX14_round_101 : decode cX14_round 101 = .ok (.iaload, 1) := by decide +kernel
theorem dX14_round_102 : decode cX14_round 102 = .ok (.ifCond .ne 31, 3) := by decide +kernel
theorem dX14_round_105 : decode cX14_round 105 = .ok (.aload_n 1, 1) := by decide +kernel
theorem dX14_round_106 : decode cX14_round 106 = .ok (.getfield 283, 3) := by decide +kernel
theorem dX14_round_109 : decode cX14_round 109 = .ok (.bipush 7, 2) := by decide +kernel
theorem dX14_round_111 : decode cX14_round 111 = .ok (.iload_n 2, 1) := by decide +kernel
theorem dX14_round_112 : decode cX14_round 112 = .ok (.imul, 1) := by decide +kernel
theorem dX14_round_113 : decode cX14_round 113 = .ok (.iconst 1, 1) := by decide +kernel
theorem dX14_round_114 : decode cX14_round 114 = .ok (.iadd, 1) := by decide +kernel
theorem dX14_round_115 : decode cX14_round 115 = .ok (.iconst 0, 1) := by decide +kernel
theorem dX14_round_116 : decode cX14_round 116 = .ok (.aload_n 1, 1) := by decide +kernel
theorem dX14_round_117 : decode cX14_round 117 = .ok (.getfield 283, 3) := by decide +kernel
theorem dX14_round_120 : decode cX14_round 120 = .ok (.bipush 7, 2) := by decide +kernel
theorem dX14_round_122 : decode cX14_round 122 = .ok (.iload_n 2, 1) := by decide +kernel
theorem dX14_round_123 : decode cX14_round 123 = .ok (.imul, 1) := by decide +kernel
theorem dX14_round_124 : decode cX14_round 124 = .ok (.iconst 1, 1) := by decide +kernel
theorem dX14_round_125 : decode cX14_round 125 = .ok (.iadd, 1) := by decide +kernel
theorem dX14_round_126 : decode cX14_round 126 = .ok (.iaload, 1) := by decide +kernel
theorem dX14_round_127 : decode cX14_round 127 = .ok (.iconst 3, 1) := by decide +kernel
theorem dX14_round_128 : decode cX14_round 128 = .ok (.isub, 1) := by decide +kernel
theorem dX14_round_129 : decode cX14_round 129 = .ok (.invokestatic 295, 3) := by decide +kernel
theorem dX14_round_132 : decode cX14_round 132 = .ok (.iastore, 1) := by decide +kernel
theorem dX14_round_133 : decode cX14_round 133 = .ok (.aload_n 1, 1) := by decide +kernel
theorem dX14_round_134 : decode cX14_round 134 = .ok (.getfield 283, 3) := by decide +kernel
theorem dX14_round_137 : decode cX14_round 137 = .ok (.bipush 7, 2) := by decide +kernel
theorem dX14_round_139 : decode cX14_round 139 = .ok (.iload_n 2, 1) := by decide +kernel
theorem dX14_round_140 : decode cX14_round 140 = .ok (.imul, 1) := by decide +kernel
theorem dX14_round_141 : decode cX14_round 141 = .ok (.bipush 6, 2) := by decide +kernel
theorem dX14_round_143 : decode cX14_round 143 = .ok (.iadd, 1) := by decide +kernel
theorem dX14_round_144 : decode cX14_round 144 = .ok (.iconst 0, 1) := by decide +kernel
theorem dX14_round_145 : decode cX14_round 145 = .ok (.iastore, 1) := by decide +kernel
theorem dX14_round_146 : decode cX14_round 146 = .ok (.iinc 2 1, 3) := by decide +kernel
theorem dX14_round_149 : decode cX14_round 149 = .ok (.goto (-70), 3) := by decide +kernel
theorem dX14_round_152 : decode cX14_round 152 = .ok (.aload_n 1, 1) := by decide +kernel
theorem dX14_round_153 : decode cX14_round 153 = .ok (.dup, 1) := by decide +kernel
theorem dX14_round_154 : decode cX14_round 154 = .ok (.getfield 280, 3) := by decide +kernel
theorem dX14_round_157 : decode cX14_round 157 = .ok (.iconst 1, 1) := by decide +kernel
theorem dX14_round_158 : decode cX14_round 158 = .ok (.iadd, 1) := by decide +kernel
theorem dX14_round_159 : decode cX14_round 159 = .ok (.putfield 280, 3) := by decide +kernel
theorem dX14_round_162 : decode cX14_round 162 = .ok (.return_, 1) := by decide +kernel
theorem dX14_rounds_0 : decode cX14_rounds 0 = .ok (.iconst 0, 1) := by decide +kernel
theorem dX14_rounds_1 : decode cX14_rounds 1 = .ok (.istore_n 3, 1) := by decide +kernel
theorem dX14_rounds_2 : decode cX14_rounds 2 = .ok (.iload_n 3, 1) := by decide +kernel
theorem dX14_rounds_3 : decode cX14_rounds 3 = .ok (.iload_n 2, 1) := by decide +kernel
theorem dX14_rounds_4 : decode cX14_rounds 4 = .ok (.if_icmp .ge 14, 3) := by decide +kernel
theorem dX14_rounds_7 : decode cX14_rounds 7 = .ok (.aload_n 0, 1) := by decide +kernel
theorem dX14_rounds_8 : decode cX14_rounds 8 = .ok (.aload_n 1, 1) := by decide +kernel
theorem dX14_rounds_9 : decode cX14_rounds 9 = .ok (.invokevirtual 360, 3) := by decide +kernel
theorem dX14_rounds_12 : decode cX14_rounds 12 = .ok (.iinc 3 1, 3) := by decide +kernel
theorem dX14_rounds_15 : decode cX14_rounds 15 = .ok (.goto (-13), 3) := by decide +kernel
theorem dX14_rounds_18 : decode cX14_rounds 18 = .ok (.return_, 1) := by decide +kernel
/-! the reference's rounds, all of them -/
section Mp
variable {G : Gp} {S : AMem} {I : Nat → Nat → Int32} {J : Nat → Nat → Int64} {R : Nat → Nat → Option Nat} {y bl z : Nat} {B : BS} {m : MS}
/-- two turns change places -/
def elb1 (B : BS) (m : MS) (k : Nat) : MS := mkMS (up2 m.fist (B.tF (m.row k)) 2 (m.fist (B.tF (m.row k)) 2 - 1)) m.rail m.prize m.g (up1 (up1 m.row k (m.row (k - 1))) (k - 1) (m.row k)) m.bd m.nb
theorem elb1_st {k : Nat} : Sst m (elb1 B m k) := by
  refine ⟨fun i => ⟨?_, ?_⟩, fun i => ⟨rfl, rfl⟩⟩
  · show up2 m.fist _ 2 _ i 0 = _
    rw [up2_at, if_neg (by omega)]
  · show up2 m.fist _ 2 _ i 1 = _
    rw [up2_at, if_neg (by omega)]
theorem elbM_st : ∀ n k m, Sst m (elbM B k n m) := by
  intro n
  induction n with
  | zero => intro k m; exact Sst.rf
  | succ n ih =>
    intro k m
    rw [elbM]
    refine Sst.tr ?_ (ih (k + 1) _)
    split
    · exact elb1_st
    · exact Sst.rf
theorem trnM_st : ∀ n k m, Sst m (trnM B k n m) := by
  intro n
  induction n with
  | zero => intro k m; exact Sst.rf
  | succ n ih =>
    intro k m
    rw [trnM]
    refine Sst.tr ?_ (ih (k + 1) _)
    split
    · exact hitM_st
    · exact Sst.rf
theorem k_X14_push (hG : okG G) (hM : MCb S R y bl) (hS : SCc S R z) (hB : RB I bl B m) (hs : RS I z B m) (hyz : y < bl ∧ bl + 9 ≤ z) : Fn G mX14_push 2 [vR y, vR z] (mw S I J R) (fun rr M1 => rr = none ∧ ∃ I1, M1 = mw S I1 J R ∧ RS I1 z B (elbM B 1 (B.nT - 1) m) ∧ MFr y z I I1) := by
  have hM0 := hM
  have hS0 := hS
  obtain ⟨ky, ry, kb, b5, b6, b7, b8, b9, b11, b12, b13, _, _, _, _, ⟨k5, l5⟩, _⟩ := hM
  obtain ⟨kz, z6, z7, z8, z9, z10, ⟨kz1, lz1⟩, ⟨kz2, lz2⟩, ⟨kz3, lz3⟩, ⟨kz4, lz4⟩, kz5, lz5⟩ := hS
  have a7 := hB.1.2.2.2.1
  have a8 := hB.1.2.2.2.2
  have a4 := hB.1.2.1.2
  refine am_iconst (q := 1) (v := 1) dX14_push_0 kc_i1 rfl ?_
  refine am_istore_n (q := 2) (ls1 := [_, _, _, _]) dX14_push_1 (Nat.le_of_ble_eq_true rfl) rfl rfl ?_
  refine k_loop (σ := (Nat → Nat → Int32) × MS × Option AV) (n := B.nT - 1) (Inv := fun i q => elbM B (i + 1) (B.nT - 1 - i) q.2.1 = elbM B 1 (B.nT - 1) m ∧ RS q.1 z B q.2.1 ∧ MFr y z I q.1) (W := fun i q => MW G mX14_push 2 2 [some (vR y), some (vR z), some (vI (nI (i + 1))), q.2.2] [] (mw S q.1 J R) _) ?_ ?_ 0 (I, m, none) (Nat.zero_le _) ⟨rfl, hs, MFr.rf⟩
  · rintro i ⟨I1, m1, x3⟩ hi ⟨hinv, hs1, hf1⟩ ih
    dsimp only at hinv hs1 hf1 ih ⊢
    rw [show B.nT - 1 - i = (B.nT - 1 - (i + 1)) + 1 by omega, elbM, show i + 1 - 1 = i by omega] at hinv
    have hB1 := hB.fr hyz hf1
    have n7 : I1 bl 4 = nI B.nT := hB1.1.2.2.2.1
    have ep : nI (i + 1) - 1 = nI i := nI_pred i
    refine am_iload_n (q := 3) dX14_push_2 rfl rfl ?_
    refine am_aload_n (q := 4) dX14_push_3 rfl rfl ?_
    refine cm_getR (q := 7) dX14_push_4 flX14_32 rfl (by assumption) (by assumption) rfl ?_
    refine cm_getI (q := 10) dX14_push_7 flX14_246 rfl (by assumption) rfl ?_
    rw [n7]
    refine am_icmp_ge (tgt := 99) (q := 13) dX14_push_10 rfl rfl (fun hz => absurd hz (nI_ge (by omega) (by omega))) (fun _ => ?_)
    refine am_aload_n (q := 14) dX14_push_13 rfl rfl ?_
    refine am_aload_n (q := 15) dX14_push_14 rfl rfl ?_
    refine am_iload_n (q := 16) dX14_push_15 rfl rfl ?_
    refine cm_call0 (q := 19) (As := [_, _]) hG dX14_push_16 mlX14_346 rfl (by assumption) ⟨_, _, rfl⟩ (Nat.le_of_ble_eq_true rfl) (Nat.le_of_ble_eq_true rfl) (Nat.le_of_ble_eq_true rfl) (Nat.le_of_ble_eq_true rfl) (k_X14_elbowsAt hM0 hS0 hB1 hs1 (by omega)) rfl ?_
    rintro _ _ ⟨rfl, rfl⟩
    refine am_aload_n (q := 20) dX14_push_19 rfl rfl ?_
    refine am_aload_n (q := 21) dX14_push_20 rfl rfl ?_
    refine am_iload_n (q := 22) dX14_push_21 rfl rfl ?_
    refine am_iconst (q := 23) (v := 1) dX14_push_22 kc_i1 rfl ?_
    refine am_isub (q := 24) dX14_push_23 rfl ?_
    rw [ep]
    refine cm_call0 (q := 27) (As := [_, _]) hG dX14_push_24 mlX14_346 rfl (by assumption) ⟨_, _, rfl⟩ (Nat.le_of_ble_eq_true rfl) (Nat.le_of_ble_eq_true rfl) (Nat.le_of_ble_eq_true rfl) (Nat.le_of_ble_eq_true rfl) (k_X14_elbowsAt hM0 hS0 hB1 hs1 (by omega)) rfl ?_
    rintro _ _ ⟨rfl, rfl⟩
    refine am_iconst (q := 28) (v := 2) dX14_push_27 kc_i2 rfl ?_
    refine am_iadd (q := 29) dX14_push_28 rfl ?_
    refine am_icmp_gt (tgt := 35) (q := 32) dX14_push_29 rfl rfl (fun hc => ?_) (fun hc => ?_)
    · rw [if_pos hc] at hinv
      obtain ⟨⟨g0, g1, g2, g3, g4, g5, g6⟩, hbd, hra, hfi, hpr, hp0, hro⟩ := id hs1
      obtain ⟨c1, c2⟩ := hro (i + 1) (by omega)
      obtain ⟨d1, d2⟩ := hro i (by omega)
      obtain ⟨t1, t2, _⟩ := hB1.2.2.2.2.2 _ c2
      have i5 : vp_in (nI (i + 1)) (S.ln (z + 5)) := by rw [lz5]; exact vp_in_nI (by omega) (by decide)
      have i6 : vp_in (nI i) (S.ln (z + 5)) := by rw [lz5]; exact vp_in_nI (by omega) (by decide)
      have i3 : vp_in (nI (7 * B.tF (m1.row (i + 1)) + 0)) (S.ln (z + 3)) := by rw [lz3]; exact vp_in_nI (by omega) (by decide)
      refine am_aload_n (q := 36) dX14_push_35 rfl rfl ?_
      refine cm_getR (q := 39) dX14_push_36 flX14_283 rfl (by assumption) (by assumption) rfl ?_
      refine am_bipush (q := 41) (v := 7) dX14_push_39 kc_b7 rfl ?_
      refine am_aload_n (q := 42) dX14_push_41 rfl rfl ?_
      refine cm_getR (q := 45) dX14_push_42 flX14_32 rfl (by assumption) (by assumption) rfl ?_
      refine cm_getR (q := 48) dX14_push_45 flX14_249 rfl (by assumption) (by assumption) rfl ?_
      refine am_iconst (q := 49) (v := 3) dX14_push_48 kc_i3 rfl ?_
      refine am_aload_n (q := 50) dX14_push_49 rfl rfl ?_
      refine cm_getR (q := 53) dX14_push_50 flX14_343 rfl (by assumption) (by assumption) rfl ?_
      refine am_iload_n (q := 54) dX14_push_53 rfl rfl ?_
      refine cm_iaload (q := 55) dX14_push_54 (by assumption) i5 rfl ?_
      rw [nI_clamp (show i + 1 < 2 ^ 31 by omega), c1]
      refine am_imul (q := 56) dX14_push_55 rfl ?_
      rw [show (3 * nI (m1.row (i + 1)) : Int32) = nI (3 * m1.row (i + 1)) from k_mul 3 _]
      refine cm_iaload (q := 57) dX14_push_56 (by assumption) (by rw [l5]; exact vp_in_nI (by omega) (by decide)) rfl ?_
      rw [nI_clamp (show 3 * m1.row (i + 1) < 2 ^ 31 by omega), t1]
      refine am_imul (q := 58) dX14_push_57 rfl ?_
      rw [show (7 * nI (B.tF (m1.row (i + 1))) : Int32) = nI (7 * B.tF (m1.row (i + 1)) + 0) from k_mul 7 _]
      refine am_dup2_11 (q := 59) dX14_push_58 rfl rfl rfl ?_
      refine cm_iaload (q := 60) dX14_push_59 (by assumption) i3 rfl ?_
      rw [nI_clamp (show 7 * B.tF (m1.row (i + 1)) + 0 < 2 ^ 31 by omega), hfi _ t2 0 (by decide)]
      refine am_iconst (q := 61) (v := 1) dX14_push_60 kc_i1 rfl ?_
      refine am_isub (q := 62) dX14_push_61 rfl ?_
      refine cm_iastore (q := 63) dX14_push_62 (by assumption) i3 rfl ?_
      rw [nI_clamp (show 7 * B.tF (m1.row (i + 1)) + 0 < 2 ^ 31 by omega)]
      refine am_aload_n (q := 64) dX14_push_63 rfl rfl ?_
      refine cm_getR (q := 67) dX14_push_64 flX14_343 rfl (by assumption) (by assumption) rfl ?_
      refine am_iload_n (q := 68) dX14_push_67 rfl rfl ?_
      refine cm_iaload (q := 69) dX14_push_68 (by assumption) i5 rfl ?_
      rw [nI_clamp (show i + 1 < 2 ^ 31 by omega), up2_a (by omega), c1]
      refine am_istore_n (q := 70) (ls1 := [_, _, _, _]) dX14_push_69 (Nat.le_of_ble_eq_true rfl) rfl rfl ?_
      refine am_aload_n (q := 71) dX14_push_70 rfl rfl ?_
      refine cm_getR (q := 74) dX14_push_71 flX14_343 rfl (by assumption) (by assumption) rfl ?_
      refine am_iload_n (q := 75) dX14_push_74 rfl rfl ?_
      refine am_aload_n (q := 76) dX14_push_75 rfl rfl ?_
      refine cm_getR (q := 79) dX14_push_76 flX14_343 rfl (by assumption) (by assumption) rfl ?_
      refine am_iload_n (q := 80) dX14_push_79 rfl rfl ?_
      refine am_iconst (q := 81) (v := 1) dX14_push_80 kc_i1 rfl ?_
      refine am_isub (q := 82) dX14_push_81 rfl ?_
      rw [ep]
      refine cm_iaload (q := 83) dX14_push_82 (by assumption) i6 rfl ?_
      rw [nI_clamp (show i < 2 ^ 31 by omega), up2_a (by omega), d1]
      refine cm_iastore (q := 84) dX14_push_83 (by assumption) i5 rfl ?_
      refine am_aload_n (q := 85) dX14_push_84 rfl rfl ?_
      refine cm_getR (q := 88) dX14_push_85 flX14_343 rfl (by assumption) (by assumption) rfl ?_
      refine am_iload_n (q := 89) dX14_push_88 rfl rfl ?_
      refine am_iconst (q := 90) (v := 1) dX14_push_89 kc_i1 rfl ?_
      refine am_isub (q := 91) dX14_push_90 rfl ?_
      rw [nI_clamp (show i + 1 < 2 ^ 31 by omega), ep]
      refine am_iload_n (q := 92) dX14_push_91 rfl rfl ?_
      refine cm_iastore (q := 93) dX14_push_92 (by assumption) i6 rfl ?_
      rw [nI_clamp (show i < 2 ^ 31 by omega)]
      refine k_nm (P := fun I2 => MW G mX14_push 2 93 _ _ (mw S I2 J R) _) _ ?_
      intro I2 hI2
      have q2 : ∀ x j, I2 x j = if x = z + 5 ∧ j = i then nI (m1.row (i + 1)) else if x = z + 5 ∧ j = i + 1 then nI (m1.row i) else if x = z + 3 ∧ j = 7 * B.tF (m1.row (i + 1)) then m1.fist (B.tF (m1.row (i + 1))) 2 - 1 else I1 x j := fun x j => by rw [hI2, up2_at, up2_at, up2_at]; rfl
      clear hI2
      have s2 : RS I2 z B (elb1 B m1 (i + 1)) := by
        refine ⟨⟨?_, ?_, ?_, ?_, ?_, ?_, g6⟩, fun k hk => ?_, fun k hk j hj => ?_, fun k hk j hj => ?_, fun k hk j hj => ?_, ⟨hp0.1, fun k hk => ?_⟩, fun k hk => ?_⟩
        · rw [q2, if_neg (by omega), if_neg (by omega), if_neg (by omega)]; exact g0
        · rw [q2, if_neg (by omega), if_neg (by omega), if_neg (by omega)]; exact g1
        · rw [q2, if_neg (by omega), if_neg (by omega), if_neg (by omega)]; exact g2
        · rw [q2, if_neg (by omega), if_neg (by omega), if_neg (by omega)]; exact g3
        · rw [q2, if_neg (by omega), if_neg (by omega), if_neg (by omega)]; exact g4
        · rw [q2, if_neg (by omega), if_neg (by omega), if_neg (by omega)]; exact g5
        · rw [q2, if_neg (by omega), if_neg (by omega), if_neg (by omega)]; exact hbd k hk
        · rw [q2, if_neg (by omega), if_neg (by omega), if_neg (by omega)]; exact hra k hk j hj
        · show _ = up2 m1.fist (B.tF (m1.row (i + 1))) 2 (m1.fist (B.tF (m1.row (i + 1))) 2 - 1) k (j + 2)
          rw [q2, if_neg (by omega), if_neg (by omega), up2_at]
          by_cases c : k = B.tF (m1.row (i + 1)) ∧ j = 0
          · rw [if_pos (by omega), if_pos (by omega)]
          · rw [if_neg (by omega), if_neg (by omega)]
            exact hfi k hk j hj
        · rw [q2, if_neg (by omega), if_neg (by omega), if_neg (by omega)]; exact hpr k hk j hj
        · show 0 ≤ up2 m1.fist (B.tF (m1.row (i + 1))) 2 (m1.fist (B.tF (m1.row (i + 1))) 2 - 1) k 3 ∧ up2 m1.fist (B.tF (m1.row (i + 1))) 2 (m1.fist (B.tF (m1.row (i + 1))) 2 - 1) k 3 ≤ 60
          rw [up2_at, if_neg (by omega)]
          exact hp0.2 k hk
        · show _ = nI (up1 (up1 m1.row (i + 1) (m1.row (i + 1 - 1))) (i + 1 - 1) (m1.row (i + 1)) k) ∧ up1 (up1 m1.row (i + 1) (m1.row (i + 1 - 1))) (i + 1 - 1) (m1.row (i + 1)) k < B.nT
          rw [q2, show i + 1 - 1 = i by omega]
          unfold up1
          by_cases c : k = i
          · rw [if_pos ⟨rfl, c⟩, if_pos c]
            exact ⟨rfl, c2⟩
          · rw [if_neg (fun q => c q.2), if_neg c]
            by_cases e : k = i + 1
            · rw [if_pos ⟨rfl, e⟩, if_pos e]
              exact ⟨rfl, d2⟩
            · rw [if_neg (fun q => e q.2), if_neg e, if_neg (by omega)]
              exact hro k hk
      refine am_iincW (q := 96) (ls1 := [_, _, _, _]) (w := 1) dX14_push_93 rfl (Nat.le_of_ble_eq_true rfl) kc_i1 rfl rfl ?_
      refine am_goto (tgt := 2) dX14_push_96 rfl ?_
      rw [nI_1]
      have f2 : MFr y z I1 I2 := fun x j p q => by rw [q2, if_neg (by omega), if_neg (by omega), if_neg (by omega)]
      refine ih (I2, _, _) ⟨?_, s2, hf1.tr f2⟩
      rw [← hinv]
      rfl
    · rw [if_neg hc] at hinv
      refine am_goto (tgt := 93) dX14_push_32 rfl ?_
      refine am_iincW (q := 96) (ls1 := [_, _, _, _]) (w := 1) dX14_push_93 rfl (Nat.le_of_ble_eq_true rfl) kc_i1 rfl rfl ?_
      refine am_goto (tgt := 2) dX14_push_96 rfl ?_
      rw [nI_1]
      exact ih (I1, m1, x3) ⟨hinv, hs1, hf1⟩
  · rintro ⟨I1, m1, x3⟩ ⟨hinv, hs1, hf1⟩
    dsimp only at hinv hs1 hf1 ⊢
    rw [Nat.sub_self, elbM] at hinv
    have n7 : I1 bl 4 = nI B.nT := (hB.fr hyz hf1).1.2.2.2.1
    refine am_iload_n (q := 3) dX14_push_2 rfl rfl ?_
    refine am_aload_n (q := 4) dX14_push_3 rfl rfl ?_
    refine cm_getR (q := 7) dX14_push_4 flX14_32 rfl (by assumption) (by assumption) rfl ?_
    refine cm_getI (q := 10) dX14_push_7 flX14_246 rfl (by assumption) rfl ?_
    rw [n7]
    refine am_icmp_ge (tgt := 99) (q := 13) dX14_push_10 rfl rfl (fun _ => ?_) (fun hz => absurd (nI_le (by omega) (by omega)) hz)
    exact am_ret dX14_push_99 rfl ⟨_, rfl, rfl, I1, rfl, by rw [← hinv]; exact hs1, hf1⟩
theorem dueI_i {t : Nat} : dueI B m t = 0 ↔ ¬ dueM B m t := by
  unfold dueI
  by_cases h : dueM B m t
  · rw [if_pos h]
    exact ⟨fun q => absurd q (by decide), fun q => absurd h q⟩
  · rw [if_neg h]
    exact ⟨fun _ => h, fun _ => rfl⟩
theorem k_max3 {s : Int32} (h1 : 0 ≤ s) (h2 : s ≤ 60) : (if 0 < s - 3 then s - 3 else 0) = if 3 < s then s - 3 else 0 := by
  rw [Int32.le_iff_toInt_le] at h1 h2
  have e0 : (0 : Int32).toInt = 0 := rfl
  have e1 : (60 : Int32).toInt = 60 := rfl
  have e3 : (3 : Int32).toInt = 3 := rfl
  rw [e0] at h1
  rw [e1] at h2
  have es : (s - 3).toInt = s.toInt - 3 := by
    rw [Int32.toInt_sub, e3, Int.bmod_eq_of_le (by omega) (by omega)]
  by_cases c : 3 < s
  · rw [if_pos c, if_pos]
    rw [Int32.lt_iff_toInt_lt] at c ⊢
    rw [e0, es]
    rw [e3] at c
    omega
  · rw [if_neg c, if_neg]
    intro q
    rw [Int32.lt_iff_toInt_lt] at c q
    rw [e0, es] at q
    rw [e3] at c
    omega
theorem k_sore3 {s : Int32} (h1 : 0 ≤ s) (h2 : s ≤ 60) : 0 ≤ (if 3 < s then s - 3 else 0) ∧ (if 3 < s then s - 3 else 0) ≤ 60 := by
  by_cases c : 3 < s
  · rw [if_pos c]
    rw [Int32.le_iff_toInt_le] at h1 h2
    rw [Int32.lt_iff_toInt_lt] at c
    have e0 : (0 : Int32).toInt = 0 := rfl
    have e1 : (60 : Int32).toInt = 60 := rfl
    have e3 : (3 : Int32).toInt = 3 := rfl
    rw [e0] at h1
    rw [e1] at h2
    rw [e3] at c
    have es : (s - 3).toInt = s.toInt - 3 := by
      rw [Int32.toInt_sub, e3, Int.bmod_eq_of_le (by omega) (by omega)]
    exact ⟨Int32.le_iff_toInt_le.mpr (by rw [e0, es]; omega), Int32.le_iff_toInt_le.mpr (by rw [e1, es]; omega)⟩
  · rw [if_neg c]
    exact ⟨Int32.le_refl _, by decide⟩
theorem k_X14_round (hG : okG G) (hM : MCb S R y bl) (hS : SCc S R z) (hB : RB I bl B m) (hs : RS I z B m) (hyz : y < bl ∧ bl + 9 ≤ z) : Fn G mX14_round 404 [vR y, vR z] (mw S I J R) (fun rr M1 => rr = none ∧ ∃ I1, M1 = mw S I1 J R ∧ RS I1 z B (rndM B m) ∧ RB I1 bl B (rndM B m) ∧ MFr y z I I1) := by
  have hM0 := hM
  have hS0 := hS
  obtain ⟨ky, ry, kb, b5, b6, b7, b8, b9, b11, b12, b13, _, _, _, _, ⟨k5, l5⟩, _⟩ := hM
  obtain ⟨kz, z6, z7, z8, z9, z10, ⟨kz1, lz1⟩, ⟨kz2, lz2⟩, ⟨kz3, lz3⟩, ⟨kz4, lz4⟩, kz5, lz5⟩ := hS
  have a8 := hB.1.2.2.2.2
  have a4 := hB.1.2.1.2
  have a2 := hB.1.1.2
  refine am_aload_n (q := 1) dX14_round_0 rfl rfl ?_
  refine am_aload_n (q := 2) dX14_round_1 rfl rfl ?_
  refine cm_call0 (q := 5) (As := [_]) hG dX14_round_2 mlX14_349 rfl (by assumption) ⟨_, _, rfl⟩ (Nat.le_of_ble_eq_true rfl) (Nat.le_of_ble_eq_true rfl) (Nat.le_of_ble_eq_true rfl) (Nat.le_of_ble_eq_true rfl) (k_X14_push hG hM0 hS0 hB hs hyz) rfl ?_
  rintro _ _ ⟨rfl, I0, rfl, s0, f0⟩
  refine am_iconst (q := 6) (v := 0) dX14_round_5 kc_i0 rfl ?_
  refine am_istore_n (q := 7) (ls1 := [_, _, _]) dX14_round_6 (Nat.le_of_ble_eq_true rfl) rfl rfl ?_
  have hB0 : RB I0 bl B (elbM B 1 (B.nT - 1) m) := hB.st (fun x j p q => f0 x j (by omega) (by omega)) (elbM_st _ _ _)
  have e0 : rndM B m = mkMS (rstM (trnM B 0 B.nT (elbM B 1 (B.nT - 1) m)) B.nF).fist (rstM (trnM B 0 B.nT (elbM B 1 (B.nT - 1) m)) B.nF).rail (rstM (trnM B 0 B.nT (elbM B 1 (B.nT - 1) m)) B.nF).prize (up1 (rstM (trnM B 0 B.nT (elbM B 1 (B.nT - 1) m)) B.nF).g 0 ((rstM (trnM B 0 B.nT (elbM B 1 (B.nT - 1) m)) B.nF).g 0 + 1)) (rstM (trnM B 0 B.nT (elbM B 1 (B.nT - 1) m)) B.nF).row (rstM (trnM B 0 B.nT (elbM B 1 (B.nT - 1) m)) B.nF).bd (rstM (trnM B 0 B.nT (elbM B 1 (B.nT - 1) m)) B.nF).nb := rfl
  rw [e0]
  clear e0 hB hs
  generalize elbM B 1 (B.nT - 1) m = m0 at s0 hB0 ⊢
  refine k_loop (σ := (Nat → Nat → Int32) × MS) (n := B.nT) (Inv := fun i q => trnM B i (B.nT - i) q.2 = trnM B 0 B.nT m0 ∧ RS q.1 z B q.2 ∧ RB q.1 bl B q.2 ∧ MFr y z I q.1) (W := fun i q => MW G mX14_round 404 7 [some (vR y), some (vR z), some (vI (nI i))] [] (mw S q.1 J R) _) ?_ ?_ 0 (I0, m0) (Nat.zero_le _) ⟨rfl, s0, hB0, f0⟩
  · rintro i ⟨I1, m1⟩ hi ⟨hinv, hs1, hB1, hf1⟩ ih
    dsimp only at hinv hs1 hB1 hf1 ih ⊢
    rw [show B.nT - i = (B.nT - (i + 1)) + 1 by omega, trnM] at hinv
    obtain ⟨c1, c2⟩ := hs1.2.2.2.2.2.2 i hi
    obtain ⟨t1, t2, t3, t4, _⟩ := hB1.2.2.2.2.2 _ c2
    have i5 : vp_in (nI i) (S.ln (z + 5)) := by rw [lz5]; exact vp_in_nI (by omega) (by decide)
    have n7 : I1 bl 4 = nI B.nT := hB1.1.2.2.2.1
    refine am_iload_n (q := 8) dX14_round_7 rfl rfl ?_
    refine am_aload_n (q := 9) dX14_round_8 rfl rfl ?_
    refine cm_getR (q := 12) dX14_round_9 flX14_32 rfl (by assumption) (by assumption) rfl ?_
    refine cm_getI (q := 15) dX14_round_12 flX14_246 rfl (by assumption) rfl ?_
    rw [n7]
    refine am_icmp_ge (tgt := 77) (q := 18) dX14_round_15 rfl rfl (fun hz => absurd hz (nI_ge hi (by omega))) (fun _ => ?_)
    refine am_aload_n (q := 19) dX14_round_18 rfl rfl ?_
    refine am_aload_n (q := 20) dX14_round_19 rfl rfl ?_
    refine am_aload_n (q := 21) dX14_round_20 rfl rfl ?_
    refine cm_getR (q := 24) dX14_round_21 flX14_343 rfl (by assumption) (by assumption) rfl ?_
    refine am_iload_n (q := 25) dX14_round_24 rfl rfl ?_
    refine cm_iaload (q := 26) dX14_round_25 (by assumption) i5 rfl ?_
    rw [nI_clamp (show i < 2 ^ 31 by omega), c1]
    refine cm_call0 (q := 29) (As := [_, _]) hG dX14_round_26 mlX14_353 rfl (by assumption) ⟨_, _, rfl⟩ (Nat.le_of_ble_eq_true rfl) (Nat.le_of_ble_eq_true rfl) (Nat.le_of_ble_eq_true rfl) (Nat.le_of_ble_eq_true rfl) (k_X14_isOn hG hM0 hS0 hB1 hs1 c2) rfl ?_
    rintro _ _ ⟨rfl, rfl⟩
    refine am_if_eq (tgt := 71) (q := 32) dX14_round_29 rfl rfl (fun hc => ?_) (fun hc => ?_)
    · rw [if_neg (dueI_i.mp hc)] at hinv
      refine am_iincW (q := 74) (ls1 := [_, _, _]) (w := 1) dX14_round_71 rfl (Nat.le_of_ble_eq_true rfl) kc_i1 rfl rfl ?_
      refine am_goto (tgt := 7) dX14_round_74 rfl ?_
      rw [nI_1]
      exact ih (I1, m1) ⟨hinv, hs1, hB1, hf1⟩
    · rw [if_pos (Classical.not_not.mp fun q => hc (dueI_i.mpr q))] at hinv
      refine am_aload_n (q := 33) dX14_round_32 rfl rfl ?_
      refine am_aload_n (q := 34) dX14_round_33 rfl rfl ?_
      refine am_aload_n (q := 35) dX14_round_34 rfl rfl ?_
      refine cm_getR (q := 38) dX14_round_35 flX14_32 rfl (by assumption) (by assumption) rfl ?_
      refine cm_getR (q := 41) dX14_round_38 flX14_249 rfl (by assumption) (by assumption) rfl ?_
      refine am_iconst (q := 42) (v := 3) dX14_round_41 kc_i3 rfl ?_
      refine am_aload_n (q := 43) dX14_round_42 rfl rfl ?_
      refine cm_getR (q := 46) dX14_round_43 flX14_343 rfl (by assumption) (by assumption) rfl ?_
      refine am_iload_n (q := 47) dX14_round_46 rfl rfl ?_
      refine cm_iaload (q := 48) dX14_round_47 (by assumption) i5 rfl ?_
      rw [nI_clamp (show i < 2 ^ 31 by omega), c1]
      refine am_imul (q := 49) dX14_round_48 rfl ?_
      rw [show (3 * nI (m1.row i) : Int32) = nI (3 * m1.row i) from k_mul 3 _]
      refine cm_iaload (q := 50) dX14_round_49 (by assumption) (by rw [l5]; exact vp_in_nI (by omega) (by decide)) rfl ?_
      rw [nI_clamp (show 3 * m1.row i < 2 ^ 31 by omega), t1]
      refine am_aload_n (q := 51) dX14_round_50 rfl rfl ?_
      refine cm_getR (q := 54) dX14_round_51 flX14_32 rfl (by assumption) (by assumption) rfl ?_
      refine cm_getR (q := 57) dX14_round_54 flX14_249 rfl (by assumption) (by assumption) rfl ?_
      refine am_iconst (q := 58) (v := 3) dX14_round_57 kc_i3 rfl ?_
      refine am_aload_n (q := 59) dX14_round_58 rfl rfl ?_
      refine cm_getR (q := 62) dX14_round_59 flX14_343 rfl (by assumption) (by assumption) rfl ?_
      refine am_iload_n (q := 63) dX14_round_62 rfl rfl ?_
      refine cm_iaload (q := 64) dX14_round_63 (by assumption) i5 rfl ?_
      rw [nI_clamp (show i < 2 ^ 31 by omega), c1]
      refine am_imul (q := 65) dX14_round_64 rfl ?_
      refine am_iconst (q := 66) (v := 1) dX14_round_65 kc_i1 rfl ?_
      refine am_iadd (q := 67) dX14_round_66 rfl ?_
      rw [show (3 * nI (m1.row i) + 1 : Int32) = nI (3 * m1.row i + 1) from k_lin 3 _ 1]
      refine cm_iaload (q := 68) dX14_round_67 (by assumption) (by rw [l5]; exact vp_in_nI (by omega) (by decide)) rfl ?_
      rw [nI_clamp (show 3 * m1.row i + 1 < 2 ^ 31 by omega), t3]
      refine cm_call0 (q := 71) (As := [_, _, _]) hG dX14_round_68 mlX14_356 rfl (by assumption) ⟨_, _, rfl⟩ (Nat.le_of_ble_eq_true rfl) (Nat.le_of_ble_eq_true rfl) (Nat.le_of_ble_eq_true rfl) (Nat.le_of_ble_eq_true rfl) (k_X14_strike hG hM0 hS0 hB1 hs1 hyz t2 t4) rfl ?_
      rintro _ _ ⟨rfl, I2, rfl, s2, f2⟩
      refine am_iincW (q := 74) (ls1 := [_, _, _]) (w := 1) dX14_round_71 rfl (Nat.le_of_ble_eq_true rfl) kc_i1 rfl rfl ?_
      refine am_goto (tgt := 7) dX14_round_74 rfl ?_
      rw [nI_1]
      exact ih (I2, _) ⟨hinv, s2, hB1.st (fun x j p q => f2 x j (by omega) (by omega)) hitM_st, hf1.tr f2⟩
  · rintro ⟨I1, m1⟩ ⟨hinv, hs1, hB1, hf1⟩
    dsimp only at hinv hs1 hB1 hf1 ⊢
    rw [Nat.sub_self, trnM] at hinv
    rw [← hinv]
    clear hinv
    have n7 : I1 bl 4 = nI B.nT := hB1.1.2.2.2.1
    refine am_iload_n (q := 8) dX14_round_7 rfl rfl ?_
    refine am_aload_n (q := 9) dX14_round_8 rfl rfl ?_
    refine cm_getR (q := 12) dX14_round_9 flX14_32 rfl (by assumption) (by assumption) rfl ?_
    refine cm_getI (q := 15) dX14_round_12 flX14_246 rfl (by assumption) rfl ?_
    rw [n7]
    refine am_icmp_ge (tgt := 77) (q := 18) dX14_round_15 rfl rfl (fun _ => ?_) (fun hz => absurd (Int32.le_refl _) hz)
    refine am_iconst (q := 78) (v := 0) dX14_round_77 kc_i0 rfl ?_
    refine am_istore_n (q := 79) (ls1 := [_, _, _]) dX14_round_78 (Nat.le_of_ble_eq_true rfl) rfl rfl ?_
    refine k_loop (σ := Nat → Nat → Int32) (n := B.nF) (Inv := fun i q => RS q z B (rstM m1 i) ∧ MFr y z I q) (W := fun i q => MW G mX14_round 404 79 [some (vR y), some (vR z), some (vI (nI i))] [] (mw S q J R) _) ?_ ?_ 0 I1 (Nat.zero_le _) ⟨hs1, hf1⟩
    · rintro i I2 hi ⟨hs2, hf2⟩ ih
      have n3 : I2 bl 2 = nI B.nF := (hf2 bl 2 (by omega) (by omega)).trans ((hf1 bl 2 (by omega) (by omega)).symm.trans hB1.1.2.1.1)
      obtain ⟨⟨g0, g1, g2, g3, g4, g5, g6⟩, hbd, hra, hfi, hpr, hp0, hro⟩ := id hs2
      have i6 : vp_in (nI (7 * i + 6)) (S.ln (z + 3)) := by rw [lz3]; exact vp_in_nI (by omega) (by decide)
      have i1 : vp_in (nI (7 * i + 1)) (S.ln (z + 3)) := by rw [lz3]; exact vp_in_nI (by omega) (by decide)
      have e6 : (7 * nI i + 6 : Int32) = nI (7 * i + 6) := k_lin 7 i 6
      have e1 : (7 * nI i + 1 : Int32) = nI (7 * i + 1) := k_lin 7 i 1
      have v8 : I2 (z + 3) (7 * i + 6) = m1.fist i 8 := by
        rw [hfi i hi 6 (by decide)]
        exact if_neg (by omega)
      have v3 : I2 (z + 3) (7 * i + 1) = m1.fist i 3 := by
        rw [hfi i hi 1 (by decide)]
        exact if_neg (by omega)
      have b3 : 0 ≤ m1.fist i 3 ∧ m1.fist i 3 ≤ 60 := hs1.2.2.2.2.2.1.2 i hi
      have fin : ∀ I3 : Nat → Nat → Int32, (∀ x j, I3 x j = if x = z + 3 ∧ j = 7 * i + 1 then (if m1.fist i 8 = 0 then (if 3 < m1.fist i 3 then m1.fist i 3 - 3 else 0) else m1.fist i 3) else I2 x j) → MW G mX14_round 404 133 [some (vR y), some (vR z), some (vI (nI i))] [] (mw S I3 J R) (fun f M1 => ∃ r, f = .inl r ∧ (r = none ∧ ∃ I1, M1 = mw S I1 J R ∧ RS I1 z B (mkMS (rstM m1 B.nF).fist (rstM m1 B.nF).rail (rstM m1 B.nF).prize (up1 (rstM m1 B.nF).g 0 ((rstM m1 B.nF).g 0 + 1)) (rstM m1 B.nF).row (rstM m1 B.nF).bd (rstM m1 B.nF).nb) ∧ RB I1 bl B (mkMS (rstM m1 B.nF).fist (rstM m1 B.nF).rail (rstM m1 B.nF).prize (up1 (rstM m1 B.nF).g 0 ((rstM m1 B.nF).g 0 + 1)) (rstM m1 B.nF).row (rstM m1 B.nF).bd (rstM m1 B.nF).nb) ∧ MFr y z I I1)) := by
        intro I3 q3
        refine am_aload_n (q := 134) dX14_round_133 rfl rfl ?_
        refine cm_getR (q := 137) dX14_round_134 flX14_283 rfl (by assumption) (by assumption) rfl ?_
        refine am_bipush (q := 139) (v := 7) dX14_round_137 kc_b7 rfl ?_
        refine am_iload_n (q := 140) dX14_round_139 rfl rfl ?_
        refine am_imul (q := 141) dX14_round_140 rfl ?_
        refine am_bipush (q := 143) (v := 6) dX14_round_141 kc_b6 rfl ?_
        refine am_iadd (q := 144) dX14_round_143 rfl ?_
        rw [e6]
        refine am_iconst (q := 145) (v := 0) dX14_round_144 kc_i0 rfl ?_
        refine cm_iastore (q := 146) dX14_round_145 (by assumption) i6 rfl ?_
        rw [nI_clamp (show 7 * i + 6 < 2 ^ 31 by omega)]
        have q4 : ∀ x j, up2 I3 (z + 3) (7 * i + 6) 0 x j = if x = z + 3 ∧ j = 7 * i + 6 then 0 else if x = z + 3 ∧ j = 7 * i + 1 then (if m1.fist i 8 = 0 then (if 3 < m1.fist i 3 then m1.fist i 3 - 3 else 0) else m1.fist i 3) else I2 x j := fun x j => by rw [up2_at, q3]
        generalize up2 I3 (z + 3) (7 * i + 6) 0 = I4 at q4 ⊢
        refine am_iincW (q := 149) (ls1 := [_, _, _]) (w := 1) dX14_round_146 rfl (Nat.le_of_ble_eq_true rfl) kc_i1 rfl rfl ?_
        refine am_goto (tgt := 79) dX14_round_149 rfl ?_
        rw [nI_1]
        refine ih I4 ⟨⟨⟨?_, ?_, ?_, ?_, ?_, ?_, g6⟩, fun k hk => ?_, fun k hk j hj => ?_, fun k hk j hj => ?_, fun k hk j hj => ?_, ⟨hp0.1, fun k hk => ?_⟩, fun k hk => ?_⟩, hf2.tr fun x j p q => by rw [q4, if_neg (by omega), if_neg (by omega)]⟩
        · rw [q4, if_neg (by omega), if_neg (by omega)]; exact g0
        · rw [q4, if_neg (by omega), if_neg (by omega)]; exact g1
        · rw [q4, if_neg (by omega), if_neg (by omega)]; exact g2
        · rw [q4, if_neg (by omega), if_neg (by omega)]; exact g3
        · rw [q4, if_neg (by omega), if_neg (by omega)]; exact g4
        · rw [q4, if_neg (by omega), if_neg (by omega)]; exact g5
        · rw [q4, if_neg (by omega), if_neg (by omega)]; exact hbd k hk
        · rw [q4, if_neg (by omega), if_neg (by omega)]; exact hra k hk j hj
        · have old := hfi k hk j hj
          show _ = if k < i + 1 then (if j + 2 = 8 then 0 else if j + 2 = 3 then (if m1.fist k 8 = 0 then (if 3 < m1.fist k 3 then m1.fist k 3 - 3 else 0) else m1.fist k 3) else m1.fist k (j + 2)) else m1.fist k (j + 2)
          have old2 : I2 (z + 3) (7 * k + j) = if k < i then (if j + 2 = 8 then 0 else if j + 2 = 3 then (if m1.fist k 8 = 0 then (if 3 < m1.fist k 3 then m1.fist k 3 - 3 else 0) else m1.fist k 3) else m1.fist k (j + 2)) else m1.fist k (j + 2) := old
          rw [q4]
          by_cases c : k = i
          · subst c
            rw [if_neg (show ¬ k < k by omega)] at old2
            rw [if_pos (show k < k + 1 by omega)]
            by_cases c6 : j = 6
            · subst c6
              rw [if_pos (by omega)]
              rfl
            · rw [if_neg (by omega), if_neg (show ¬ j + 2 = 8 by omega)]
              by_cases c1 : j = 1
              · subst c1
                rw [if_pos (by omega), if_pos rfl]
              · rw [if_neg (by omega), if_neg (show ¬ j + 2 = 3 by omega)]
                exact old2
          · rw [if_neg (by omega), if_neg (by omega), old2]
            by_cases c2 : k < i
            · rw [if_pos c2, if_pos (show k < i + 1 by omega)]
            · rw [if_neg c2, if_neg (show ¬ k < i + 1 by omega)]
        · rw [q4, if_neg (by omega), if_neg (by omega)]; exact hpr k hk j hj
        · have old : 0 ≤ (if k < i then (if m1.fist k 8 = 0 then (if 3 < m1.fist k 3 then m1.fist k 3 - 3 else 0) else m1.fist k 3) else m1.fist k 3) ∧ (if k < i then (if m1.fist k 8 = 0 then (if 3 < m1.fist k 3 then m1.fist k 3 - 3 else 0) else m1.fist k 3) else m1.fist k 3) ≤ 60 := hp0.2 k hk
          show 0 ≤ (if k < i + 1 then (if m1.fist k 8 = 0 then (if 3 < m1.fist k 3 then m1.fist k 3 - 3 else 0) else m1.fist k 3) else m1.fist k 3) ∧ (if k < i + 1 then (if m1.fist k 8 = 0 then (if 3 < m1.fist k 3 then m1.fist k 3 - 3 else 0) else m1.fist k 3) else m1.fist k 3) ≤ 60
          by_cases c : k = i
          · subst c
            rw [if_pos (show k < k + 1 by omega)]
            by_cases c8 : m1.fist k 8 = 0
            · rw [if_pos c8]
              exact k_sore3 b3.1 b3.2
            · rw [if_neg c8]
              exact b3
          · by_cases c2 : k < i
            · rw [if_pos c2] at old
              rw [if_pos (by omega)]
              exact old
            · rw [if_neg c2] at old
              rw [if_neg (by omega)]
              exact old
        · rw [q4, if_neg (by omega), if_neg (by omega)]; exact hro k hk
      refine am_iload_n (q := 80) dX14_round_79 rfl rfl ?_
      refine am_aload_n (q := 81) dX14_round_80 rfl rfl ?_
      refine cm_getR (q := 84) dX14_round_81 flX14_32 rfl (by assumption) (by assumption) rfl ?_
      refine cm_getI (q := 87) dX14_round_84 flX14_170 rfl (by assumption) rfl ?_
      rw [n3]
      refine am_icmp_ge (tgt := 152) (q := 90) dX14_round_87 rfl rfl (fun hz => absurd hz (nI_ge hi (by omega))) (fun _ => ?_)
      refine am_aload_n (q := 91) dX14_round_90 rfl rfl ?_
      refine cm_getR (q := 94) dX14_round_91 flX14_283 rfl (by assumption) (by assumption) rfl ?_
      refine am_bipush (q := 96) (v := 7) dX14_round_94 kc_b7 rfl ?_
      refine am_iload_n (q := 97) dX14_round_96 rfl rfl ?_
      refine am_imul (q := 98) dX14_round_97 rfl ?_
      refine am_bipush (q := 100) (v := 6) dX14_round_98 kc_b6 rfl ?_
      refine am_iadd (q := 101) dX14_round_100 rfl ?_
      rw [e6]
      refine cm_iaload (q := 102) dX14_round_101 (by assumption) i6 rfl ?_
      rw [nI_clamp (show 7 * i + 6 < 2 ^ 31 by omega), v8]
      by_cases c8 : m1.fist i 8 = 0
      · refine am_if_ne (tgt := 133) (q := 105) dX14_round_102 rfl rfl (fun hz => absurd c8 hz) (fun _ => ?_)
        refine am_aload_n (q := 106) dX14_round_105 rfl rfl ?_
        refine cm_getR (q := 109) dX14_round_106 flX14_283 rfl (by assumption) (by assumption) rfl ?_
        refine am_bipush (q := 111) (v := 7) dX14_round_109 kc_b7 rfl ?_
        refine am_iload_n (q := 112) dX14_round_111 rfl rfl ?_
        refine am_imul (q := 113) dX14_round_112 rfl ?_
        refine am_iconst (q := 114) (v := 1) dX14_round_113 kc_i1 rfl ?_
        refine am_iadd (q := 115) dX14_round_114 rfl ?_
        rw [e1]
        refine am_iconst (q := 116) (v := 0) dX14_round_115 kc_i0 rfl ?_
        refine am_aload_n (q := 117) dX14_round_116 rfl rfl ?_
        refine cm_getR (q := 120) dX14_round_117 flX14_283 rfl (by assumption) (by assumption) rfl ?_
        refine am_bipush (q := 122) (v := 7) dX14_round_120 kc_b7 rfl ?_
        refine am_iload_n (q := 123) dX14_round_122 rfl rfl ?_
        refine am_imul (q := 124) dX14_round_123 rfl ?_
        refine am_iconst (q := 125) (v := 1) dX14_round_124 kc_i1 rfl ?_
        refine am_iadd (q := 126) dX14_round_125 rfl ?_
        rw [e1]
        refine cm_iaload (q := 127) dX14_round_126 (by assumption) i1 rfl ?_
        rw [nI_clamp (show 7 * i + 1 < 2 ^ 31 by omega), v3]
        refine am_iconst (q := 128) (v := 3) dX14_round_127 kc_i3 rfl ?_
        refine am_isub (q := 129) dX14_round_128 rfl ?_
        refine am_mmax (q := 132) dX14_round_129 (tbc7 178 rfl rfl) tb_max1 tb_math tb_max2 (Nat.le_of_ble_eq_true rfl) rfl ?_
        rw [k_max3 b3.1 b3.2]
        refine cm_iastore (q := 133) dX14_round_132 (by assumption) i1 rfl ?_
        rw [nI_clamp (show 7 * i + 1 < 2 ^ 31 by omega)]
        exact fin _ (fun x j => by rw [up2_at, if_pos c8])
      · refine am_if_ne (tgt := 133) (q := 105) dX14_round_102 rfl rfl (fun _ => ?_) (fun hz => absurd hz c8)
        refine fin I2 (fun x j => ?_)
        rw [if_neg c8]
        by_cases c : x = z + 3 ∧ j = 7 * i + 1
        · rw [if_pos c, c.1, c.2, v3]
        · rw [if_neg c]
    · rintro I2 ⟨hs2, hf2⟩
      have n3 : I2 bl 2 = nI B.nF := (hf2 bl 2 (by omega) (by omega)).trans ((hf1 bl 2 (by omega) (by omega)).symm.trans hB1.1.2.1.1)
      have hB2 : RB I2 bl B (rstM m1 B.nF) := hB1.st (fun x j p q => (hf2 x j (by omega) (by omega)).trans (hf1 x j (by omega) (by omega)).symm) rstM_st
      generalize rstM m1 B.nF = m2 at hs2 hB2 ⊢
      obtain ⟨⟨g0, g1, g2, g3, g4, g5, g6⟩, hbd, hra, hfi, hpr, hp0, hro⟩ := hs2
      refine am_iload_n (q := 80) dX14_round_79 rfl rfl ?_
      refine am_aload_n (q := 81) dX14_round_80 rfl rfl ?_
      refine cm_getR (q := 84) dX14_round_81 flX14_32 rfl (by assumption) (by assumption) rfl ?_
      refine cm_getI (q := 87) dX14_round_84 flX14_170 rfl (by assumption) rfl ?_
      rw [n3]
      refine am_icmp_ge (tgt := 152) (q := 90) dX14_round_87 rfl rfl (fun _ => ?_) (fun hz => absurd (Int32.le_refl _) hz)
      refine am_aload_n (q := 153) dX14_round_152 rfl rfl ?_
      refine am_dup (q := 154) dX14_round_153 rfl rfl ?_
      refine cm_getI (q := 157) dX14_round_154 flX14_280 rfl (by assumption) rfl ?_
      rw [g0]
      refine am_iconst (q := 158) (v := 1) dX14_round_157 kc_i1 rfl ?_
      refine am_iadd (q := 159) dX14_round_158 rfl ?_
      refine cm_putI (q := 162) dX14_round_159 flX14_280 rfl (Or.inl rfl) (Or.inl rfl) (by assumption) rfl ?_
      have q3 : ∀ x j, up2 I2 z 0 (m2.g 0 + 1) x j = if x = z ∧ j = 0 then m2.g 0 + 1 else I2 x j := fun x j => up2_at _ _
      generalize up2 I2 z 0 (m2.g 0 + 1) = I3 at q3 ⊢
      have s3 : RS I3 z B (mkMS m2.fist m2.rail m2.prize (up1 m2.g 0 (m2.g 0 + 1)) m2.row m2.bd m2.nb) := by
        refine ⟨⟨?_, ?_, ?_, ?_, ?_, ?_, g6⟩, fun k hk => ?_, fun k hk j hj => ?_, fun k hk j hj => ?_, fun k hk j hj => ?_, hp0, fun k hk => ?_⟩
        · rw [q3, if_pos ⟨rfl, rfl⟩]; rfl
        · rw [q3, if_neg (by omega)]; exact g1
        · rw [q3, if_neg (by omega)]; exact g2
        · rw [q3, if_neg (by omega)]; exact g3
        · rw [q3, if_neg (by omega)]; exact g4
        · rw [q3, if_neg (by omega)]; exact g5
        · rw [q3, if_neg (by omega)]; exact hbd k hk
        · rw [q3, if_neg (by omega)]; exact hra k hk j hj
        · rw [q3, if_neg (by omega)]; exact hfi k hk j hj
        · rw [q3, if_neg (by omega)]; exact hpr k hk j hj
        · rw [q3, if_neg (by omega)]; exact hro k hk
      exact am_ret dX14_round_162 rfl ⟨_, rfl, rfl, I3, rfl, s3, hB2.st (fun x j p q => by rw [q3, if_neg (by omega)]) Sst.rf, hf2.tr fun x j p q => by rw [q3, if_neg (by omega)]⟩
theorem k_X14_rounds {n : Nat} (hG : okG G) (hM : MCb S R y bl) (hS : SCc S R z) (hB : RB I bl B m) (hs : RS I z B m) (hyz : y < bl ∧ bl + 9 ≤ z) (hn : n < 2 ^ 31) : Fn G mX14_rounds 405 [vR y, vR z, vI (nI n)] (mw S I J R) (fun rr M1 => rr = none ∧ ∃ I1, M1 = mw S I1 J R ∧ RS I1 z B (plyM B n m) ∧ RB I1 bl B (plyM B n m) ∧ MFr y z I I1) := by
  have ky := hM.1
  have kz := hS.1
  refine am_iconst (q := 1) (v := 0) dX14_rounds_0 kc_i0 rfl ?_
  refine am_istore_n (q := 2) (ls1 := [_, _, _, _]) dX14_rounds_1 (Nat.le_of_ble_eq_true rfl) rfl rfl ?_
  refine k_loop (σ := (Nat → Nat → Int32) × MS) (n := n) (Inv := fun i q => plyM B (n - i) q.2 = plyM B n m ∧ RS q.1 z B q.2 ∧ RB q.1 bl B q.2 ∧ MFr y z I q.1) (W := fun i q => MW G mX14_rounds 405 2 [some (vR y), some (vR z), some (vI (nI n)), some (vI (nI i))] [] (mw S q.1 J R) _) ?_ ?_ 0 (I, m) (Nat.zero_le _) ⟨rfl, hs, hB, MFr.rf⟩
  · rintro i ⟨I1, m1⟩ hi ⟨hinv, hs1, hB1, hf1⟩ ih
    dsimp only at hinv hs1 hB1 hf1 ih ⊢
    rw [show n - i = (n - (i + 1)) + 1 by omega, plyM] at hinv
    refine am_iload_n (q := 3) dX14_rounds_2 rfl rfl ?_
    refine am_iload_n (q := 4) dX14_rounds_3 rfl rfl ?_
    refine am_icmp_ge (tgt := 18) (q := 7) dX14_rounds_4 rfl rfl (fun hz => absurd hz (nI_ge hi (by omega))) (fun _ => ?_)
    refine am_aload_n (q := 8) dX14_rounds_7 rfl rfl ?_
    refine am_aload_n (q := 9) dX14_rounds_8 rfl rfl ?_
    refine cm_call0 (q := 12) (As := [_]) hG dX14_rounds_9 mlX14_360 rfl (by assumption) ⟨_, _, rfl⟩ (Nat.le_of_ble_eq_true rfl) (Nat.le_of_ble_eq_true rfl) (Nat.le_of_ble_eq_true rfl) (Nat.le_of_ble_eq_true rfl) (k_X14_round hG hM hS hB1 hs1 hyz) rfl ?_
    rintro _ _ ⟨rfl, I2, rfl, s2, b2, f2⟩
    refine am_iincW (q := 15) (ls1 := [_, _, _, _]) (w := 1) dX14_rounds_12 rfl (Nat.le_of_ble_eq_true rfl) kc_i1 rfl rfl ?_
    refine am_goto (tgt := 2) dX14_rounds_15 rfl ?_
    rw [nI_1]
    exact ih (I2, _) ⟨hinv, s2, b2, hf1.tr f2⟩
  · rintro ⟨I1, m1⟩ ⟨hinv, hs1, hB1, hf1⟩
    dsimp only at hinv hs1 hB1 hf1 ⊢
    rw [Nat.sub_self, plyM] at hinv
    refine am_iload_n (q := 3) dX14_rounds_2 rfl rfl ?_
    refine am_iload_n (q := 4) dX14_rounds_3 rfl rfl ?_
    refine am_icmp_ge (tgt := 18) (q := 7) dX14_rounds_4 rfl rfl (fun _ => ?_) (fun hz => absurd (Int32.le_refl _) hz)
    exact am_ret dX14_rounds_18 rfl ⟨_, rfl, rfl, I1, rfl, by rw [← hinv]; exact hs1, by rw [← hinv]; exact hB1, hf1⟩
end Mp

