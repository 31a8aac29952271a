theorem dX14_board_0 : decode cX14_board 0 = .ok (.aload_n 0, 1) := by decide +kernel
theorem dX14_board_1 : decode cX14_board 1 = .ok (.iconst 0, 1) := by decide +kernel
theorem dX14_board_2 : decode cX14_board 2 = .ok (.putfield 58, 3) := by decide +kernel
theorem dX14_board_5 : decode cX14_board 5 = .ok (.iload_n 1, 1) := by decide +kernel
theorem dX14_board_6 : decode cX14_board 6 = .ok (.iconst 0, 1) := by decide +kernel
theorem dX14_board_7 : decode cX14_board 7 = .ok (.aload_n 0, 1) := by decide +kernel
theorem dX14_board_8 : decode cX14_board 8 = .ok (.getfield 51, 3) := by decide +kernel
theorem dX14_board_11 : decode cX14_board 11 = .ok (.getfield 336, 3) := by decide +kernel
theorem dX14_board_14 : decode cX14_board 14 = .ok (.iconst 1, 1) := by decide +kernel
theorem dX14_board_15 : decode cX14_board 15 = .ok (.isub, 1) := by decide +kernel
theorem dX14_board_16 : decode cX14_board 16 = .ok (.invokestatic 72, 3) := by decide +kernel
theorem dX14_board_19 : decode cX14_board 19 = .ok (.ifCond .eq 15, 3) := by decide +kernel
theorem dX14_board_22 : decode cX14_board 22 = .ok (.aload_n 0, 1) := by decide +kernel
theorem dX14_board_23 : decode cX14_board 23 = .ok (.getfield 51, 3) := by decide +kernel
theorem dX14_board_26 : decode cX14_board 26 = .ok (.getfield 333, 3) := by decide +kernel
theorem dX14_board_29 : decode cX14_board 29 = .ok (.iload_n 1, 1) := by decide +kernel
theorem dX14_board_30 : decode cX14_board 30 = .ok (.iaload, 1) := by decide +kernel
theorem dX14_board_31 : decode cX14_board 31 = .ok (.goto 8, 3) := by decide +kernel
theorem dX14_board_34 : decode cX14_board 34 = .ok (.aload_n 0, 1) := by decide +kernel
theorem dX14_board_35 : decode cX14_board 35 = .ok (.iconst 1, 1) := by decide +kernel
theorem dX14_board_36 : decode cX14_board 36 = .ok (.invokevirtual 64, 3) := by decide +kernel
theorem dX14_board_39 : decode cX14_board 39 = .ok (.ireturn, 1) := by decide +kernel
theorem dX14_errorAt_0 : decode cX14_errorAt 0 = .ok (.aload_n 0, 1) := by decide +kernel
theorem dX14_errorAt_1 : decode cX14_errorAt 1 = .ok (.iconst 0, 1) := by decide +kernel
theorem dX14_errorAt_2 : decode cX14_errorAt 2 = .ok (.putfield 58, 3) := by decide +kernel
theorem dX14_errorAt_5 : decode cX14_errorAt 5 = .ok (.aload_n 0, 1) := by decide +kernel
theorem dX14_errorAt_6 : decode cX14_errorAt 6 = .ok (.getfield 13, 3) := by decide +kernel
theorem dX14_errorAt_9 : decode cX14_errorAt 9 = .ok (.ireturn, 1) := by decide +kernel
theorem dX14_fist_0 : decode cX14_fist 0 = .ok (.aload_n 0, 1) := by decide +kernel
theorem dX14_fist_1 : decode cX14_fist 1 = .ok (.iconst 0, 1) := by decide +kernel
theorem dX14_fist_2 : decode cX14_fist 2 = .ok (.putfield 58, 3) := by decide +kernel
theorem dX14_fist_5 : decode cX14_fist 5 = .ok (.aload_n 0, 1) := by decide +kernel
theorem dX14_fist_6 : decode cX14_fist 6 = .ok (.iload_n 1, 1) := by decide +kernel
theorem dX14_fist_7 : decode cX14_fist 7 = .ok (.invokevirtual 378, 3) := by decide +kernel
theorem dX14_fist_10 : decode cX14_fist 10 = .ok (.ifCond .eq 22, 3) := by decide +kernel
theorem dX14_fist_13 : decode cX14_fist 13 = .ok (.iload_n 2, 1) := by decide +kernel
theorem dX14_fist_14 : decode cX14_fist 14 = .ok (.iconst 0, 1) := by decide +kernel
theorem dX14_fist_15 : decode cX14_fist 15 = .ok (.bipush 8, 2) := by decide +kernel
theorem dX14_fist_17 : decode cX14_fist 17 = .ok (.invokestatic 72, 3) := by decide +kernel
theorem dX14_fist_20 : decode cX14_fist 20 = .ok (.ifCond .eq 12, 3) := by decide +kernel
theorem dX14_fist_23 : decode cX14_fist 23 = .ok (.aload_n 0, 1) := by decide +kernel
theorem dX14_fist_24 : decode cX14_fist 24 = .ok (.iload_n 1, 1) := by decide +kernel
theorem dX14_fist_25 : decode cX14_fist 25 = .ok (.iload_n 2, 1) := by decide +kernel
theorem dX14_fist_26 : decode cX14_fist 26 = .ok (.invokevirtual 381, 3) := by decide +kernel
theorem dX14_fist_29 : decode cX14_fist 29 = .ok (.goto 8, 3) := by decide +kernel
theorem dX14_fist_32 : decode cX14_fist 32 = .ok (.aload_n 0, 1) := by decide +kernel
theorem dX14_fist_33 : decode cX14_fist 33 = .ok (.iconst 1, 1) := by decide +kernel
theorem dX14_fist_34 : decode cX14_fist 34 = .ok (.invokevirtual 64, 3) := by decide +kernel
theorem dX14_fist_37 : decode cX14_fist 37 = .ok (.ireturn, 1) := by decide +kernel
theorem dX14_mean_0 : decode cX14_mean 0 = .ok (.aload_n 0, 1) := by decide +kernel
theorem dX14_mean_1 : decode cX14_mean 1 = .ok (.iconst 0, 1) := by decide +kernel
theorem dX14_mean_2 : decode cX14_mean 2 = .ok (.putfield 58, 3) := by decide +kernel
theorem dX14_mean_5 : decode cX14_mean 5 = .ok (.iconst 0, 1) := by decide +kernel
theorem dX14_mean_6 : decode cX14_mean 6 = .ok (.istore_n 1, 1) := by decide +kernel
theorem dX14_mean_7 : decode cX14_mean 7 = .ok (.iconst 0, 1) := by decide +kernel
theorem dX14_mean_8 : decode cX14_mean 8 = .ok (.istore_n 2, 1) := by decide +kernel
theorem dX14_mean_9 : decode cX14_mean 9 = .ok (.iload_n 2, 1) := by decide +kernel
theorem dX14_mean_10 : decode cX14_mean 10 = .ok (.aload_n 0, 1) := by decide +kernel
theorem dX14_mean_11 : decode cX14_mean 11 = .ok (.getfield 51, 3) := by decide +kernel
theorem dX14_mean_14 : decode cX14_mean 14 = .ok (.getfield 336, 3) := by decide +kernel
theorem dX14_mean_17 : decode cX14_mean 17 = .ok (.if_icmp .ge 21, 3) := by decide +kernel
theorem dX14_mean_20 : decode cX14_mean 20 = .ok (.iload_n 1, 1) := by decide +kernel
theorem dX14_mean_21 : decode cX14_mean 21 = .ok (.aload_n 0, 1) := by decide +kernel
theorem dX14_mean_22 : decode cX14_mean 22 = .ok (.getfield 51, 3) := by decide +kernel
theorem dX14_mean_25 : decode cX14_mean 25 = .ok (.getfield 333, 3) := by decide +kernel
theorem dX14_mean_28 : decode cX14_mean 28 = .ok (.iload_n 2, 1) := by decide +kernel
theorem dX14_mean_29 : decode cX14_mean 29 = .ok (.iaload, 1) := by decide +kernel
theorem dX14_mean_30 : decode cX14_mean 30 = .ok (.iadd, 1) := by decide +kernel
theorem dX14_mean_31 : decode cX14_mean 31 = .ok (.istore_n 1, 1) := by decide +kernel
theorem dX14_mean_32 : decode cX14_mean 32 = .ok (.iinc 2 1, 3) := by decide +kernel
theorem dX14_mean_35 : decode cX14_mean 35 = .ok (.goto (-26), 3) := by decide +kernel
theorem dX14_mean_38 : decode cX14_mean 38 = .ok (.aload_n 0, 1) := by decide +kernel
theorem dX14_mean_39 : decode cX14_mean 39 = .ok (.getfield 51, 3) := by decide +kernel
theorem dX14_mean_42 : decode cX14_mean 42 = .ok (.getfield 336, 3) := by decide +kernel
theorem dX14_mean_45 : decode cX14_mean 45 = .ok (.ifCond .ne 7, 3) := by decide +kernel
theorem dX14_mean_48 : decode cX14_mean 48 = .ok (.dconst 0, 1) := by decide +kernel
theorem dX14_mean_49 : decode cX14_mean 49 = .ok (.goto 14, 3) := by decide +kernel
theorem dX14_mean_52 : decode cX14_mean 52 = .ok (.iload_n 1, 1) := by decide +kernel
theorem dX14_mean_53 : decode cX14_mean 53 = .ok (.i2d, 1) := by decide +kernel
theorem dX14_mean_54 : decode cX14_mean 54 = .ok (.aload_n 0, 1) := by decide +kernel
theorem dX14_mean_55 : decode cX14_mean 55 = .ok (.getfield 51, 3) := by decide +kernel
theorem dX14_mean_58 : decode cX14_mean 58 = .ok (.getfield 336, 3) := by decide +kernel
theorem dX14_mean_61 : decode cX14_mean 61 = .ok (.i2d, 1) := by decide +kernel
theorem dX14_mean_62 : decode cX14_mean 62 = .ok (.ddiv, 1) := by decide +kernel
theorem dX14_mean_63 : decode cX14_mean 63 = .ok (.dreturn, 1) := by decide +kernel
theorem dX14_prize_0 : decode cX14_prize 0 = .ok (.aload_n 0, 1) := by decide +kernel
theorem dX14_prize_1 : decode cX14_prize 1 = .ok (.iconst 0, 1) := by decide +kernel
theorem dX14_prize_2 : decode cX14_prize 2 = .ok (.putfield 58, 3) := by decide +kernel
theorem dX14_prize_5 : decode cX14_prize 5 = .ok (.iload_n 1, 1) := by decide +kernel
theorem dX14_prize_6 : decode cX14_prize 6 = .ok (.iconst 0, 1) := by decide +kernel
theorem dX14_prize_7 : decode cX14_prize 7 = .ok (.aload_n 0, 1) := by decide +kernel
theorem dX14_prize_8 : decode cX14_prize 8 = .ok (.getfield 32, 3) := by decide +kernel
theorem dX14_prize_11 : decode cX14_prize 11 = .ok (.getfield 180, 3) := by decide +kernel
theorem dX14_prize_14 : decode cX14_prize 14 = .ok (.iconst 1, 1) := by decide +kernel
theorem dX14_prize_15 : decode cX14_prize 15 = .ok (.isub, 1) := by decide +kernel
theorem dX14_prize_16 : decode cX14_prize 16 = .ok (.invokestatic 72, 3) := by decide +kernel
theorem dX14_prize_19 : decode cX14_prize 19 = .ok (.ifCond .eq 21, 3) := by decide +kernel
theorem dX14_prize_22 : decode cX14_prize 22 = .ok (.iload_n 2, 1) := by decide +kernel
theorem dX14_prize_23 : decode cX14_prize 23 = .ok (.iconst 0, 1) := by decide +kernel
theorem dX14_prize_24 : decode cX14_prize 24 = .ok (.iconst 3, 1) := by decide +kernel
theorem dX14_prize_25 : decode cX14_prize 25 = .ok (.invokestatic 72, 3) := by decide +kernel
theorem dX14_prize_28 : decode cX14_prize 28 = .ok (.ifCond .eq 12, 3) := by decide +kernel
theorem dX14_prize_31 : decode cX14_prize 31 = .ok (.aload_n 0, 1) := by decide +kernel
theorem dX14_prize_32 : decode cX14_prize 32 = .ok (.iload_n 1, 1) := by decide +kernel
theorem dX14_prize_33 : decode cX14_prize 33 = .ok (.iload_n 2, 1) := by decide +kernel
theorem dX14_prize_34 : decode cX14_prize 34 = .ok (.invokevirtual 384, 3) := by decide +kernel
theorem dX14_prize_37 : decode cX14_prize 37 = .ok (.goto 8, 3) := by decide +kernel
theorem dX14_prize_40 : decode cX14_prize 40 = .ok (.aload_n 0, 1) := by decide +kernel
theorem dX14_prize_41 : decode cX14_prize 41 = .ok (.iconst 1, 1) := by decide +kernel
theorem dX14_prize_42 : decode cX14_prize 42 = .ok (.invokevirtual 64, 3) := by decide +kernel
theorem dX14_prize_45 : decode cX14_prize 45 = .ok (.ireturn, 1) := by decide +kernel
theorem dX14_rail_0 : decode cX14_rail 0 = .ok (.aload_n 0, 1) := by decide +kernel
theorem dX14_rail_1 : decode cX14_rail 1 = .ok (.iconst 0, 1) := by decide +kernel
theorem dX14_rail_2 : decode cX14_rail 2 = .ok (.putfield 58, 3) := by decide +kernel
theorem dX14_rail_5 : decode cX14_rail 5 = .ok (.aload_n 0, 1) := by decide +kernel
theorem dX14_rail_6 : decode cX14_rail 6 = .ok (.iload_n 1, 1) := by decide +kernel
theorem dX14_rail_7 : decode cX14_rail 7 = .ok (.invokevirtual 369, 3) := by decide +kernel
theorem dX14_rail_10 : decode cX14_rail 10 = .ok (.ifCond .eq 21, 3) := by decide +kernel
theorem dX14_rail_13 : decode cX14_rail 13 = .ok (.iload_n 2, 1) := by decide +kernel
theorem dX14_rail_14 : decode cX14_rail 14 = .ok (.iconst 0, 1) := by decide +kernel
theorem dX14_rail_15 : decode cX14_rail 15 = .ok (.iconst 4, 1) := by decide +kernel
theorem dX14_rail_16 : decode cX14_rail 16 = .ok (.invokestatic 72, 3) := by decide +kernel
theorem dX14_rail_19 : decode cX14_rail 19 = .ok (.ifCond .eq 12, 3) := by decide +kernel
theorem dX14_rail_22 : decode cX14_rail 22 = .ok (.aload_n 0, 1) := by decide +kernel
theorem dX14_rail_23 : decode cX14_rail 23 = .ok (.iload_n 1, 1) := by decide +kernel
theorem dX14_rail_24 : decode cX14_rail 24 = .ok (.iload_n 2, 1) := by decide +kernel
theorem dX14_rail_25 : decode cX14_rail 25 = .ok (.invokevirtual 372, 3) := by decide +kernel
theorem dX14_rail_28 : decode cX14_rail 28 = .ok (.goto 8, 3) := by decide +kernel
theorem dX14_rail_31 : decode cX14_rail 31 = .ok (.aload_n 0, 1) := by decide +kernel
theorem dX14_rail_32 : decode cX14_rail 32 = .ok (.iconst 1, 1) := by decide +kernel
theorem dX14_rail_33 : decode cX14_rail 33 = .ok (.invokevirtual 64, 3) := by decide +kernel
theorem dX14_rail_36 : decode cX14_rail 36 = .ok (.ireturn, 1) := by decide +kernel
theorem dX14_turn_0 : decode cX14_turn 0 = .ok (.aload_n 0, 1) := by decide +kernel
theorem dX14_turn_1 : decode cX14_turn 1 = .ok (.iconst 0, 1) := by decide +kernel
theorem dX14_turn_2 : decode cX14_turn 2 = .ok (.putfield 58, 3) := by decide +kernel
theorem dX14_turn_5 : decode cX14_turn 5 = .ok (.iload_n 1, 1) := by decide +kernel
theorem dX14_turn_6 : decode cX14_turn 6 = .ok (.iconst 0, 1) := by decide +kernel
theorem dX14_turn_7 : decode cX14_turn 7 = .ok (.aload_n 0, 1) := by decide +kernel
theorem dX14_turn_8 : decode cX14_turn 8 = .ok (.getfield 32, 3) := by decide +kernel
theorem dX14_turn_11 : decode cX14_turn 11 = .ok (.getfield 246, 3) := by decide +kernel
theorem dX14_turn_14 : decode cX14_turn 14 = .ok (.iconst 1, 1) := by decide +kernel
theorem dX14_turn_15 : decode cX14_turn 15 = .ok (.isub, 1) := by decide +kernel
theorem dX14_turn_16 : decode cX14_turn 16 = .ok (.invokestatic 72, 3) := by decide +kernel
theorem dX14_turn_19 : decode cX14_turn 19 = .ok (.ifCond .eq 21, 3) := by decide +kernel
theorem dX14_turn_22 : decode cX14_turn 22 = .ok (.iload_n 2, 1) := by decide +kernel
theorem dX14_turn_23 : decode cX14_turn 23 = .ok (.iconst 0, 1) := by decide +kernel
theorem dX14_turn_24 : decode cX14_turn 24 = .ok (.iconst 3, 1) := by decide +kernel
theorem dX14_turn_25 : decode cX14_turn 25 = .ok (.invokestatic 72, 3) := by decide +kernel
theorem dX14_turn_28 : decode cX14_turn 28 = .ok (.ifCond .eq 12, 3) := by decide +kernel
theorem dX14_turn_31 : decode cX14_turn 31 = .ok (.aload_n 0, 1) := by decide +kernel
theorem dX14_turn_32 : decode cX14_turn 32 = .ok (.iload_n 1, 1) := by decide +kernel
theorem dX14_turn_33 : decode cX14_turn 33 = .ok (.iload_n 2, 1) := by decide +kernel
theorem dX14_turn_34 : decode cX14_turn 34 = .ok (.invokevirtual 387, 3) := by decide +kernel
theorem dX14_turn_37 : decode cX14_turn 37 = .ok (.goto 8, 3) := by decide +kernel
theorem dX14_turn_40 : decode cX14_turn 40 = .ok (.aload_n 0, 1) := by decide +kernel
theorem dX14_turn_41 : decode cX14_turn 41 = .ok (.iconst 1, 1) := by decide +kernel
theorem dX14_turn_42 : decode cX14_turn 42 = .ok (.invokevirtual 64, 3) := by decide +kernel
theorem dX14_turn_45 : decode cX14_turn 45 = .ok (.ireturn, 1) := by decide +kernel
theorem dX14_turnTold_0 : decode cX14_turnTold 0 = .ok (.iload_n 2, 1) := by decide +kernel
theorem dX14_turnTold_1 : decode cX14_turnTold 1 = .ok (.iconst 2, 1) := by decide +kernel
theorem dX14_turnTold_2 : decode cX14_turnTold 2 = .ok (.if_icmp .ge 17, 3) := by decide +kernel
theorem dX14_turnTold_5 : decode cX14_turnTold 5 = .ok (.aload_n 0, 1) := by decide +kernel
theorem dX14_turnTold_6 : decode cX14_turnTold 6 = .ok (.getfield 32, 3) := by decide +kernel
theorem dX14_turnTold_9 : decode cX14_turnTold 9 = .ok (.getfield 249, 3) := by decide +kernel
theorem dX14_turnTold_12 : decode cX14_turnTold 12 = .ok (.iconst 3, 1) := by decide +kernel
theorem dX14_turnTold_13 : decode cX14_turnTold 13 = .ok (.iload_n 1, 1) := by decide +kernel
theorem dX14_turnTold_14 : decode cX14_turnTold 14 = .ok (.imul, 1) := by decide +kernel
theorem dX14_turnTold_15 : decode cX14_turnTold 15 = .ok (.iload_n 2, 1) := by decide +kernel
theorem dX14_turnTold_16 : decode cX14_turnTold 16 = .ok (.iadd, 1) := by decide +kernel
theorem dX14_turnTold_17 : decode cX14_turnTold 17 = .ok (.iaload, 1) := by decide +kernel
theorem dX14_turnTold_18 : decode cX14_turnTold 18 = .ok (.ireturn, 1) := by decide +kernel
theorem dX14_turnTold_19 : decode cX14_turnTold 19 = .ok (.iload_n 2, 1) := by decide +kernel
theorem dX14_turnTold_20 : decode cX14_turnTold 20 = .ok (.iconst 3, 1) := by decide +kernel
theorem dX14_turnTold_21 : decode cX14_turnTold 21 = .ok (.if_icmp .ne 21, 3) := by decide +kernel
theorem dX14_turnTold_24 : decode cX14_turnTold 24 = .ok (.aload_n 0, 1) := by decide +kernel
theorem dX14_turnTold_25 : decode cX14_turnTold 25 = .ok (.aload_n 0, 1) := by decide +kernel
theorem dX14_turnTold_26 : decode cX14_turnTold 26 = .ok (.getfield 51, 3) := by decide +kernel
theorem dX14_turnTold_29 : decode cX14_turnTold 29 = .ok (.iload_n 1, 1) := by decide +kernel
theorem dX14_turnTold_30 : decode cX14_turnTold 30 = .ok (.invokevirtual 353, 3) := by decide +kernel
theorem dX14_turnTold_33 : decode cX14_turnTold 33 = .ok (.ifCond .eq 7, 3) := by decide +kernel
theorem dX14_turnTold_36 : decode cX14_turnTold 36 = .ok (.iconst 1, 1) := by decide +kernel
theorem dX14_turnTold_37 : decode cX14_turnTold 37 = .ok (.goto 4, 3) := by decide +kernel
theorem dX14_turnTold_40 : decode cX14_turnTold 40 = .ok (.iconst 0, 1) := by decide +kernel
theorem dX14_turnTold_41 : decode cX14_turnTold 41 = .ok (.ireturn, 1) := by decide +kernel
theorem dX14_turnTold_42 : decode cX14_turnTold 42 = .ok (.iconst 0, 1) := by decide +kernel
theorem dX14_turnTold_43 : decode cX14_turnTold 43 = .ok (.istore_n 3, 1) := by decide +kernel
theorem dX14_turnTold_44 : decode cX14_turnTold 44 = .ok (.aload_n 0, 1) := by decide +kernel
theorem dX14_turnTold_45 : decode cX14_turnTold 45 = .ok (.getfield 51, 3) := by decide +kernel
theorem dX14_turnTold_48 : decode cX14_turnTold 48 = .ok (.getfield 343, 3) := by decide +kernel
theorem dX14_turnTold_51 : decode cX14_turnTold 51 = .ok (.iload_n 3, 1) := by decide +kernel
theorem dX14_turnTold_52 : decode cX14_turnTold 52 = .ok (.iaload, 1) := by decide +kernel
theorem dX14_turnTold_53 : decode cX14_turnTold 53 = .ok (.iload_n 1, 1) := by decide +kernel
theorem dX14_turnTold_54 : decode cX14_turnTold 54 = .ok (.if_icmp .eq 9, 3) := by decide +kernel
theorem dX14_turnTold_57 : decode cX14_turnTold 57 = .ok (.iinc 3 1, 3) := by decide +kernel
theorem dX14_turnTold_60 : decode cX14_turnTold 60 = .ok (.goto (-16), 3) := by decide +kernel
theorem dX14_turnTold_63 : decode cX14_turnTold 63 = .ok (.iload_n 3, 1) := by decide +kernel
theorem dX14_turnTold_64 : decode cX14_turnTold 64 = .ok (.ireturn, 1) := by decide +kernel
/-! the reference's calls that ask -/
section Mz
variable {G : Gp} {S : AMem} {I I1 : Nat → Nat → Int32} {J : Nat → Nat → Int64} {R : Nat → Nat → Option Nat} {y bl nx : Nat} {s : XS}
theorem lstM_at {m : MS} {t k : Nat} : ∀ n, k < n → n < 2 ^ 31 → t < 2 ^ 31 → (∀ l, l < n → m.row l < 2 ^ 31) → m.row k = t → (∀ l, l < n → m.row l = t → l = k) → lstM m (nI t) n = nI k := by
  intro n
  induction n with
  | zero => intro h; omega
  | succ n ih =>
    intro h hn ht hb e u
    rw [lstM]
    by_cases c : n = k
    · rw [c, e, if_pos rfl]
    · rw [if_neg (fun q => c (u n (Nat.lt_succ_self n) ((nI_eq (hb n (Nat.lt_succ_self n)) ht).mp q)))]
      exact ih (by omega) (by omega) ht (fun l hl => hb l (by omega)) e (fun l hl q => u l (by omega) q)
theorem k_X14_turnTold {i w : Nat} (hG : okG G) (hC : MCc S R y bl nx) (hA : AbY I y bl s) (hi : i < s.B.nT) (hw : w < 4) : Fn G mX14_turnTold 403 [vR y, vI (nI i), vI (nI w)] (mw S I J R) (fun rr M1 => rr = some (vI (tlT s.B s.m i w)) ∧ M1 = mw S I J R) := by
  have hM := hC.1
  have hS := hC.2.2.2.2.1
  obtain ⟨⟨ky, ry, kb, b5, b6, b7, b8, b9, b11, b12, b13, _, _, _, _, ⟨k5, l5⟩, _⟩, _, rs, ra, ⟨kz, z6, z7, z8, z9, z10, _, _, _, _, kz5, lz5⟩, _⟩ := hC
  obtain ⟨_, _, hB, hs, hP1, hP2, hP3⟩ := hA
  have u4 := hB.1.2.2.2.2
  obtain ⟨t1, t2, t3, t4, _⟩ := hB.2.2.2.2.2 i hi
  unfold tlT
  by_cases c : w < 2
  · refine am_iload_n (q := 1) dX14_turnTold_0 rfl rfl ?_
    refine am_iconst (q := 2) (v := 2) dX14_turnTold_1 kc_i2 rfl ?_
    refine am_icmp_ge (tgt := 19) (q := 5) dX14_turnTold_2 rfl rfl (fun hz => absurd hz (nI_ge (b := 2) c (by decide))) (fun _ => ?_)
    refine am_aload_n (q := 6) dX14_turnTold_5 rfl rfl ?_
    refine cm_getR (q := 9) dX14_turnTold_6 flX14_32 rfl (by assumption) (by assumption) rfl ?_
    refine cm_getR (q := 12) dX14_turnTold_9 flX14_249 rfl (by assumption) (by assumption) rfl ?_
    refine am_iconst (q := 13) (v := 3) dX14_turnTold_12 kc_i3 rfl ?_
    refine am_iload_n (q := 14) dX14_turnTold_13 rfl rfl ?_
    refine am_imul (q := 15) dX14_turnTold_14 rfl ?_
    refine am_iload_n (q := 16) dX14_turnTold_15 rfl rfl ?_
    refine am_iadd (q := 17) dX14_turnTold_16 rfl ?_
    rw [show (3 * nI i + nI w : Int32) = nI (3 * i + w) from k_lin 3 i w]
    refine cm_iaload (q := 18) dX14_turnTold_17 (by assumption) (by rw [l5]; exact vp_in_nI (by omega) (by decide)) rfl ?_
    rw [nI_clamp (show 3 * i + w < 2 ^ 31 by omega)]
    rcases (show w = 0 ∨ w = 1 by omega) with rfl | rfl
    · rw [if_pos rfl, show I (bl + 5) (3 * i + 0) = nI (s.B.tF i) from t1]
      exact am_iret dX14_turnTold_18 rfl rfl ⟨_, rfl, rfl, rfl⟩
    · rw [if_neg (by decide), if_pos rfl, t3]
      exact am_iret dX14_turnTold_18 rfl rfl ⟨_, rfl, rfl, rfl⟩
  · rw [if_neg (by omega), if_neg (by omega)]
    refine am_iload_n (q := 1) dX14_turnTold_0 rfl rfl ?_
    refine am_iconst (q := 2) (v := 2) dX14_turnTold_1 kc_i2 rfl ?_
    refine am_icmp_ge (tgt := 19) (q := 5) dX14_turnTold_2 rfl rfl (fun _ => ?_) (fun hz => absurd (nI_le (a := 2) (by omega) (by omega)) hz)
    refine am_iload_n (q := 20) dX14_turnTold_19 rfl rfl ?_
    refine am_iconst (q := 21) (v := 3) dX14_turnTold_20 kc_i3 rfl ?_
    by_cases c2 : w = 2
    · rw [if_pos c2]
      refine am_icmp_ne (tgt := 42) (q := 24) dX14_turnTold_21 rfl rfl (fun _ => ?_) (fun hz => absurd hz (fun q => absurd ((nI_eq (b := 3) (by omega) (by decide)).mp q) (by omega)))
      refine am_iconst (q := 43) (v := 0) dX14_turnTold_42 kc_i0 rfl ?_
      refine am_istore_n (q := 44) (ls1 := [_, _, _, _]) dX14_turnTold_43 (Nat.le_of_ble_eq_true rfl) rfl rfl ?_
      obtain ⟨k, hk, ek⟩ := hP3 i hi
      rw [lstM_at (k := k) s.B.nT hk (by omega) (by omega) (fun l hl => by have := hP1 l hl; omega) ek (fun l hl q => hP2 l k hl hk (q.trans ek.symm))]
      refine k_loop (σ := Unit) (n := k) (Inv := fun _ _ => True) (W := fun l _ => MW G mX14_turnTold 403 44 [some (vR y), some (vI (nI i)), some (vI (nI w)), some (vI (nI l))] [] (mw S I J R) _) ?_ ?_ 0 () (Nat.zero_le _) trivial
      · intro l _ hl _ ih
        have r1 := (hs.2.2.2.2.2.2 l (by omega)).1
        have r2 := hP1 l (by omega)
        refine am_aload_n (q := 45) dX14_turnTold_44 rfl rfl ?_
        refine cm_getR (q := 48) dX14_turnTold_45 flX14_51 rfl (by assumption) (by assumption) rfl ?_
        refine cm_getR (q := 51) dX14_turnTold_48 flX14_343 rfl (by assumption) (by assumption) rfl ?_
        refine am_iload_n (q := 52) dX14_turnTold_51 rfl rfl ?_
        refine cm_iaload (q := 53) dX14_turnTold_52 (by assumption) (by rw [lz5]; exact vp_in_nI (by omega) (by decide)) rfl ?_
        rw [nI_clamp (show l < 2 ^ 31 by omega), r1]
        refine am_iload_n (q := 54) dX14_turnTold_53 rfl rfl ?_
        refine am_icmp_eq (tgt := 63) (q := 57) dX14_turnTold_54 rfl rfl (fun hz => absurd hz (fun q => absurd (hP2 l k (by omega) hk (((nI_eq (by omega) (by omega)).mp q).trans ek.symm)) (by omega))) (fun _ => ?_)
        refine am_iincW (q := 60) (ls1 := [_, _, _, _]) (w := 1) dX14_turnTold_57 rfl (Nat.le_of_ble_eq_true rfl) kc_i1 rfl rfl ?_
        refine am_goto (tgt := 44) dX14_turnTold_60 rfl ?_
        rw [nI_1]
        exact ih () trivial
      · intro _ _
        have r1 := (hs.2.2.2.2.2.2 k hk).1
        refine am_aload_n (q := 45) dX14_turnTold_44 rfl rfl ?_
        refine cm_getR (q := 48) dX14_turnTold_45 flX14_51 rfl (by assumption) (by assumption) rfl ?_
        refine cm_getR (q := 51) dX14_turnTold_48 flX14_343 rfl (by assumption) (by assumption) rfl ?_
        refine am_iload_n (q := 52) dX14_turnTold_51 rfl rfl ?_
        refine cm_iaload (q := 53) dX14_turnTold_52 (by assumption) (by rw [lz5]; exact vp_in_nI (by omega) (by decide)) rfl ?_
        rw [nI_clamp (show k < 2 ^ 31 by omega), r1, ek]
        refine am_iload_n (q := 54) dX14_turnTold_53 rfl rfl ?_
        refine am_icmp_eq (tgt := 63) (q := 57) dX14_turnTold_54 rfl rfl (fun _ => ?_) (fun hz => absurd rfl hz)
        refine am_iload_n (q := 64) dX14_turnTold_63 rfl rfl ?_
        exact am_iret dX14_turnTold_64 rfl rfl ⟨_, rfl, rfl, rfl⟩
    · rw [if_neg c2, show w = 3 by omega]
      refine am_icmp_ne (tgt := 42) (q := 24) dX14_turnTold_21 rfl rfl (fun hz => absurd rfl hz) (fun _ => ?_)
      refine am_aload_n (q := 25) dX14_turnTold_24 rfl rfl ?_
      refine am_aload_n (q := 26) dX14_turnTold_25 rfl rfl ?_
      refine cm_getR (q := 29) dX14_turnTold_26 flX14_51 rfl (by assumption) (by assumption) rfl ?_
      refine am_iload_n (q := 30) dX14_turnTold_29 rfl rfl ?_
      refine cm_call0 (q := 33) (As := [_, _]) hG dX14_turnTold_30 mlX14_353 rfl (by assumption) ⟨_, _, rfl⟩ (Nat.le_of_ble_eq_true rfl) (Nat.le_of_ble_eq_true rfl) (Nat.le_of_ble_eq_true rfl) (Nat.le_of_ble_eq_true rfl) (k_X14_isOn hG hM hS hB hs hi) rfl ?_
      rintro _ _ ⟨rfl, rfl⟩
      by_cases hd : dueI s.B s.m i = 0
      · rw [hd]
        refine am_if_eq (tgt := 40) (q := 36) dX14_turnTold_33 rfl rfl (fun _ => ?_) (fun hz => absurd rfl hz)
        refine am_iconst (q := 41) (v := 0) dX14_turnTold_40 kc_i0 rfl ?_
        exact am_iret dX14_turnTold_41 rfl rfl ⟨_, rfl, rfl, rfl⟩
      · have e1 : dueI s.B s.m i = 1 := if_pos (Classical.not_not.mp fun q => hd (dueI_i.mpr q))
        rw [e1]
        refine am_if_eq (tgt := 40) (q := 36) dX14_turnTold_33 rfl rfl (fun hz => absurd hz (by decide)) (fun _ => ?_)
        refine am_iconst (q := 37) (v := 1) dX14_turnTold_36 kc_i1 rfl ?_
        refine am_goto (tgt := 41) dX14_turnTold_37 rfl ?_
        exact am_iret dX14_turnTold_41 rfl rfl ⟨_, rfl, rfl, rfl⟩
/-- thrown is 0 again -/
theorem AbY.clr (hC : MCc S R y bl nx) (hA : AbY I y bl s) {v : Int32} : AbY (up2 I y 0 v) y bl s := hA.own hC (fun x j p q => by rw [up2_at, if_neg (by omega)])
theorem YQ.clr {v : AV} {th : Int32} (hC : MCc S R y bl nx) (hA : AbY I y bl s) : YQ S y I J R v s th (some v) (mw S (up2 I y 0 th) J R) := YQ.own hC hA (fun x j p q => by rw [up2_at, if_neg (by omega)]) up2_s
theorem YQ.cl2 {v : AV} {th u : Int32} (hC : MCc S R y bl nx) (hA : AbY I y bl s) : YQ S y I J R v s th (some v) (mw S (up2 (up2 I y 0 u) y 0 th) J R) := YQ.own hC hA (fun x j p q => by rw [up2_at, if_neg (by omega), up2_at, if_neg (by omega)]) up2_s
def YR (S : AMem) (y : Nat) (I : Nat → Nat → Int32) (J : Nat → Nat → Int64) (R : Nat → Nat → Option Nat) (res : AV × XS × Int32) (rr : Option AV) (M1 : AMem) : Prop := YQ S y I J R res.1 res.2.1 res.2.2 rr M1
theorem k_X14_errorAt (h : YW S y s I R) : Fn G mX14_errorAt 406 [vR y] (mw S I J R) (YQ S y I J R (vI s.er) s 0) := by
  obtain ⟨bl, nx, hC, hA⟩ := h
  have ky := hC.1.1
  have e := hA.2.1
  refine am_aload_n (q := 1) dX14_errorAt_0 rfl rfl ?_
  refine am_iconst (q := 2) (v := 0) dX14_errorAt_1 kc_i0 rfl ?_
  refine cm_putI (q := 5) dX14_errorAt_2 flX14_58 rfl (Or.inl rfl) (Or.inl rfl) (by assumption) rfl ?_
  refine am_aload_n (q := 6) dX14_errorAt_5 rfl rfl ?_
  refine cm_getI (q := 9) dX14_errorAt_6 flX14_13 rfl (by assumption) rfl ?_
  rw [up2_j (by decide), e]
  exact am_iret dX14_errorAt_9 rfl rfl ⟨_, rfl, (YQ.clr hC hA)⟩
theorem k_X14_rail {i w : Int32} (hG : okG G) (h : YW S y s I R) : Fn G mX14_rail 406 [vR y, vI i, vI w] (mw S I J R) (YR S y I J R (if (0 ≤ i ∧ i < nI s.B.nR) ∧ 0 ≤ w ∧ w ≤ 4 then (vI (s.m.rail i.toNatClampNeg w.toNatClampNeg), s, 0) else (vI 0, s, 1))) := by
  obtain ⟨bl, nx, hC, hA⟩ := h
  have ky := hC.1.1
  have ry := hC.1.2.1
  have kb := hC.1.2.2.1
  have hA0 : AbY (up2 I y 0 0) y bl s := hA.clr hC
  have hB := hA0.2.2.1
  have u4 := hB.1.1.2
  refine am_aload_n (q := 1) dX14_rail_0 rfl rfl ?_
  refine am_iconst (q := 2) (v := 0) dX14_rail_1 kc_i0 rfl ?_
  refine cm_putI (q := 5) dX14_rail_2 flX14_58 rfl (Or.inl rfl) (Or.inl rfl) (by assumption) rfl ?_
  refine am_aload_n (q := 6) dX14_rail_5 rfl rfl ?_
  refine am_iload_n (q := 7) dX14_rail_6 rfl rfl ?_
  refine cm_call0 (q := 10) (As := [_]) hG dX14_rail_7 mlX14_369 rfl (by assumption) ⟨_, _, rfl⟩ (Nat.le_of_ble_eq_true rfl) (Nat.le_of_ble_eq_true rfl) (Nat.le_of_ble_eq_true rfl) (Nat.le_of_ble_eq_true rfl) (k_X14_isRail hG ky ry kb hB.1.1.1 hB.1.1.2) rfl ?_
  rintro _ _ ⟨rfl, rfl⟩
  refine am_if_eq (tgt := 31) (q := 13) dX14_rail_10 rfl rfl (fun h1 => ?_) (fun h1 => ?_)
  · rw [if_neg (fun q => bI_e0.mp h1 q.1)]
    refine am_aload_n (q := 32) dX14_rail_31 rfl rfl ?_
    refine am_iconst (q := 33) (v := 1) dX14_rail_32 kc_i1 rfl ?_
    refine cm_call0 (q := 36) (As := [_]) hG dX14_rail_33 mlX14_64 rfl (by assumption) ⟨_, _, rfl⟩ (Nat.le_of_ble_eq_true rfl) (Nat.le_of_ble_eq_true rfl) (Nat.le_of_ble_eq_true rfl) (Nat.le_of_ble_eq_true rfl) (k_X14_no ky) rfl ?_
    rintro _ _ ⟨rfl, rfl⟩
    exact am_iret dX14_rail_36 rfl rfl ⟨_, rfl, (YQ.cl2 hC hA)⟩
  · refine am_iload_n (q := 14) dX14_rail_13 rfl rfl ?_
    refine am_iconst (q := 15) (v := 0) dX14_rail_14 kc_i0 rfl ?_
    refine am_iconst (q := 16) (v := 4) dX14_rail_15 kc_i4 rfl ?_
    refine am_call1 (q := 19) (As := [_, _, _]) hG dX14_rail_16 mlX14_72 rfl (Nat.le_of_ble_eq_true rfl) (Nat.le_of_ble_eq_true rfl) (Nat.le_of_ble_eq_true rfl) k_X14_isIn rfl ?_
    rintro _ _ ⟨rfl, rfl⟩
    refine am_if_eq (tgt := 31) (q := 22) dX14_rail_19 rfl rfl (fun h2 => ?_) (fun h2 => ?_)
    · rw [if_neg (fun q => bI_e0.mp h2 q.2)]
      refine am_aload_n (q := 32) dX14_rail_31 rfl rfl ?_
      refine am_iconst (q := 33) (v := 1) dX14_rail_32 kc_i1 rfl ?_
      refine cm_call0 (q := 36) (As := [_]) hG dX14_rail_33 mlX14_64 rfl (by assumption) ⟨_, _, rfl⟩ (Nat.le_of_ble_eq_true rfl) (Nat.le_of_ble_eq_true rfl) (Nat.le_of_ble_eq_true rfl) (Nat.le_of_ble_eq_true rfl) (k_X14_no ky) rfl ?_
      rintro _ _ ⟨rfl, rfl⟩
      exact am_iret dX14_rail_36 rfl rfl ⟨_, rfl, (YQ.cl2 hC hA)⟩
    · have h3 := bI_n0.mp h1
      have h4 := bI_n0.mp h2
      rw [if_pos ⟨h3, h4⟩]
      obtain ⟨j, hj, rfl⟩ := k_idx (by omega) h3
      obtain ⟨v, hv, rfl⟩ := k_idx2 (v := 4) (n := 4) rfl (by decide) (Int32.not_lt.mpr h4.1) h4.2
      rw [nI_clamp (show j < 2 ^ 31 by omega), nI_clamp (show v < 2 ^ 31 by omega)]
      refine am_aload_n (q := 23) dX14_rail_22 rfl rfl ?_
      refine am_iload_n (q := 24) dX14_rail_23 rfl rfl ?_
      refine am_iload_n (q := 25) dX14_rail_24 rfl rfl ?_
      refine cm_call0 (q := 28) (As := [_, _]) hG dX14_rail_25 mlX14_372 rfl (by assumption) ⟨_, _, rfl⟩ (Nat.le_of_ble_eq_true rfl) (Nat.le_of_ble_eq_true rfl) (Nat.le_of_ble_eq_true rfl) (Nat.le_of_ble_eq_true rfl) (k_X14_railTold hG hC hA0 hj hv) rfl ?_
      rintro _ _ ⟨rfl, rfl⟩
      refine am_goto (tgt := 36) dX14_rail_28 rfl ?_
      exact am_iret dX14_rail_36 rfl rfl ⟨_, rfl, (YQ.clr hC hA)⟩
theorem k_X14_fist {i w : Int32} (hG : okG G) (h : YW S y s I R) : Fn G mX14_fist 406 [vR y, vI i, vI w] (mw S I J R) (YR S y I J R (if (0 ≤ i ∧ i < nI s.B.nF) ∧ 0 ≤ w ∧ w ≤ 8 then (vI (tlF s.B s.m i.toNatClampNeg w.toNatClampNeg), s, 0) else (vI 0, s, 1))) := by
  obtain ⟨bl, nx, hC, hA⟩ := h
  have ky := hC.1.1
  have ry := hC.1.2.1
  have kb := hC.1.2.2.1
  have hA0 : AbY (up2 I y 0 0) y bl s := hA.clr hC
  have hB := hA0.2.2.1
  have u4 := hB.1.2.1.2
  refine am_aload_n (q := 1) dX14_fist_0 rfl rfl ?_
  refine am_iconst (q := 2) (v := 0) dX14_fist_1 kc_i0 rfl ?_
  refine cm_putI (q := 5) dX14_fist_2 flX14_58 rfl (Or.inl rfl) (Or.inl rfl) (by assumption) rfl ?_
  refine am_aload_n (q := 6) dX14_fist_5 rfl rfl ?_
  refine am_iload_n (q := 7) dX14_fist_6 rfl rfl ?_
  refine cm_call0 (q := 10) (As := [_]) hG dX14_fist_7 mlX14_378 rfl (by assumption) ⟨_, _, rfl⟩ (Nat.le_of_ble_eq_true rfl) (Nat.le_of_ble_eq_true rfl) (Nat.le_of_ble_eq_true rfl) (Nat.le_of_ble_eq_true rfl) (k_X14_isFist hG ky ry kb hB.1.2.1.1 hB.1.2.1.2) rfl ?_
  rintro _ _ ⟨rfl, rfl⟩
  refine am_if_eq (tgt := 32) (q := 13) dX14_fist_10 rfl rfl (fun h1 => ?_) (fun h1 => ?_)
  · rw [if_neg (fun q => bI_e0.mp h1 q.1)]
    refine am_aload_n (q := 33) dX14_fist_32 rfl rfl ?_
    refine am_iconst (q := 34) (v := 1) dX14_fist_33 kc_i1 rfl ?_
    refine cm_call0 (q := 37) (As := [_]) hG dX14_fist_34 mlX14_64 rfl (by assumption) ⟨_, _, rfl⟩ (Nat.le_of_ble_eq_true rfl) (Nat.le_of_ble_eq_true rfl) (Nat.le_of_ble_eq_true rfl) (Nat.le_of_ble_eq_true rfl) (k_X14_no ky) rfl ?_
    rintro _ _ ⟨rfl, rfl⟩
    exact am_iret dX14_fist_37 rfl rfl ⟨_, rfl, (YQ.cl2 hC hA)⟩
  · refine am_iload_n (q := 14) dX14_fist_13 rfl rfl ?_
    refine am_iconst (q := 15) (v := 0) dX14_fist_14 kc_i0 rfl ?_
    refine am_bipush (q := 17) (v := 8) dX14_fist_15 kc_b8 rfl ?_
    refine am_call1 (q := 20) (As := [_, _, _]) hG dX14_fist_17 mlX14_72 rfl (Nat.le_of_ble_eq_true rfl) (Nat.le_of_ble_eq_true rfl) (Nat.le_of_ble_eq_true rfl) k_X14_isIn rfl ?_
    rintro _ _ ⟨rfl, rfl⟩
    refine am_if_eq (tgt := 32) (q := 23) dX14_fist_20 rfl rfl (fun h2 => ?_) (fun h2 => ?_)
    · rw [if_neg (fun q => bI_e0.mp h2 q.2)]
      refine am_aload_n (q := 33) dX14_fist_32 rfl rfl ?_
      refine am_iconst (q := 34) (v := 1) dX14_fist_33 kc_i1 rfl ?_
      refine cm_call0 (q := 37) (As := [_]) hG dX14_fist_34 mlX14_64 rfl (by assumption) ⟨_, _, rfl⟩ (Nat.le_of_ble_eq_true rfl) (Nat.le_of_ble_eq_true rfl) (Nat.le_of_ble_eq_true rfl) (Nat.le_of_ble_eq_true rfl) (k_X14_no ky) rfl ?_
      rintro _ _ ⟨rfl, rfl⟩
      exact am_iret dX14_fist_37 rfl rfl ⟨_, rfl, (YQ.cl2 hC hA)⟩
    · have h3 := bI_n0.mp h1
      have h4 := bI_n0.mp h2
      rw [if_pos ⟨h3, h4⟩]
      obtain ⟨j, hj, rfl⟩ := k_idx (by omega) h3
      obtain ⟨v, hv, rfl⟩ := k_idx2 (v := 8) (n := 8) rfl (by decide) (Int32.not_lt.mpr h4.1) h4.2
      rw [nI_clamp (show j < 2 ^ 31 by omega), nI_clamp (show v < 2 ^ 31 by omega)]
      refine am_aload_n (q := 24) dX14_fist_23 rfl rfl ?_
      refine am_iload_n (q := 25) dX14_fist_24 rfl rfl ?_
      refine am_iload_n (q := 26) dX14_fist_25 rfl rfl ?_
      refine cm_call0 (q := 29) (As := [_, _]) hG dX14_fist_26 mlX14_381 rfl (by assumption) ⟨_, _, rfl⟩ (Nat.le_of_ble_eq_true rfl) (Nat.le_of_ble_eq_true rfl) (Nat.le_of_ble_eq_true rfl) (Nat.le_of_ble_eq_true rfl) (k_X14_fistTold hG hC hA0 hj hv) rfl ?_
      rintro _ _ ⟨rfl, rfl⟩
      refine am_goto (tgt := 37) dX14_fist_29 rfl ?_
      exact am_iret dX14_fist_37 rfl rfl ⟨_, rfl, (YQ.clr hC hA)⟩
theorem k_X14_prize {i w : Int32} (hG : okG G) (h : YW S y s I R) : Fn G mX14_prize 406 [vR y, vI i, vI w] (mw S I J R) (YR S y I J R (if (0 ≤ i ∧ i < nI s.B.nP) ∧ 0 ≤ w ∧ w ≤ 3 then (vI (tlP s.B s.m i.toNatClampNeg w.toNatClampNeg), s, 0) else (vI 0, s, 1))) := by
  obtain ⟨bl, nx, hC, hA⟩ := h
  have ky := hC.1.1
  have ry := hC.1.2.1
  have kb := hC.1.2.2.1
  have hA0 : AbY (up2 I y 0 0) y bl s := hA.clr hC
  have hB := hA0.2.2.1
  have u4 := hB.1.2.2.1.2
  have cn := hB.1.2.2.1.1
  refine am_aload_n (q := 1) dX14_prize_0 rfl rfl ?_
  refine am_iconst (q := 2) (v := 0) dX14_prize_1 kc_i0 rfl ?_
  refine cm_putI (q := 5) dX14_prize_2 flX14_58 rfl (Or.inl rfl) (Or.inl rfl) (by assumption) rfl ?_
  refine am_iload_n (q := 6) dX14_prize_5 rfl rfl ?_
  refine am_iconst (q := 7) (v := 0) dX14_prize_6 kc_i0 rfl ?_
  refine am_aload_n (q := 8) dX14_prize_7 rfl rfl ?_
  refine cm_getR (q := 11) dX14_prize_8 flX14_32 rfl (by assumption) (by assumption) rfl ?_
  refine cm_getI (q := 14) dX14_prize_11 flX14_180 rfl (by assumption) rfl ?_
  rw [cn]
  refine am_iconst (q := 15) (v := 1) dX14_prize_14 kc_i1 rfl ?_
  refine am_isub (q := 16) dX14_prize_15 rfl ?_
  refine am_call1 (q := 19) (As := [_, _, _]) hG dX14_prize_16 mlX14_72 rfl (Nat.le_of_ble_eq_true rfl) (Nat.le_of_ble_eq_true rfl) (Nat.le_of_ble_eq_true rfl) k_X14_isIn rfl ?_
  rintro _ _ ⟨rfl, rfl⟩
  rw [bI_c (k_below (by omega))]
  refine am_if_eq (tgt := 40) (q := 22) dX14_prize_19 rfl rfl (fun h1 => ?_) (fun h1 => ?_)
  · rw [if_neg (fun q => bI_e0.mp h1 q.1)]
    refine am_aload_n (q := 41) dX14_prize_40 rfl rfl ?_
    refine am_iconst (q := 42) (v := 1) dX14_prize_41 kc_i1 rfl ?_
    refine cm_call0 (q := 45) (As := [_]) hG dX14_prize_42 mlX14_64 rfl (by assumption) ⟨_, _, rfl⟩ (Nat.le_of_ble_eq_true rfl) (Nat.le_of_ble_eq_true rfl) (Nat.le_of_ble_eq_true rfl) (Nat.le_of_ble_eq_true rfl) (k_X14_no ky) rfl ?_
    rintro _ _ ⟨rfl, rfl⟩
    exact am_iret dX14_prize_45 rfl rfl ⟨_, rfl, (YQ.cl2 hC hA)⟩
  · refine am_iload_n (q := 23) dX14_prize_22 rfl rfl ?_
    refine am_iconst (q := 24) (v := 0) dX14_prize_23 kc_i0 rfl ?_
    refine am_iconst (q := 25) (v := 3) dX14_prize_24 kc_i3 rfl ?_
    refine am_call1 (q := 28) (As := [_, _, _]) hG dX14_prize_25 mlX14_72 rfl (Nat.le_of_ble_eq_true rfl) (Nat.le_of_ble_eq_true rfl) (Nat.le_of_ble_eq_true rfl) k_X14_isIn rfl ?_
    rintro _ _ ⟨rfl, rfl⟩
    refine am_if_eq (tgt := 40) (q := 31) dX14_prize_28 rfl rfl (fun h2 => ?_) (fun h2 => ?_)
    · rw [if_neg (fun q => bI_e0.mp h2 q.2)]
      refine am_aload_n (q := 41) dX14_prize_40 rfl rfl ?_
      refine am_iconst (q := 42) (v := 1) dX14_prize_41 kc_i1 rfl ?_
      refine cm_call0 (q := 45) (As := [_]) hG dX14_prize_42 mlX14_64 rfl (by assumption) ⟨_, _, rfl⟩ (Nat.le_of_ble_eq_true rfl) (Nat.le_of_ble_eq_true rfl) (Nat.le_of_ble_eq_true rfl) (Nat.le_of_ble_eq_true rfl) (k_X14_no ky) rfl ?_
      rintro _ _ ⟨rfl, rfl⟩
      exact am_iret dX14_prize_45 rfl rfl ⟨_, rfl, (YQ.cl2 hC hA)⟩
    · have h3 := bI_n0.mp h1
      have h4 := bI_n0.mp h2
      rw [if_pos ⟨h3, h4⟩]
      obtain ⟨j, hj, rfl⟩ := k_idx (by omega) h3
      obtain ⟨v, hv, rfl⟩ := k_idx2 (v := 3) (n := 3) rfl (by decide) (Int32.not_lt.mpr h4.1) h4.2
      rw [nI_clamp (show j < 2 ^ 31 by omega), nI_clamp (show v < 2 ^ 31 by omega)]
      refine am_aload_n (q := 32) dX14_prize_31 rfl rfl ?_
      refine am_iload_n (q := 33) dX14_prize_32 rfl rfl ?_
      refine am_iload_n (q := 34) dX14_prize_33 rfl rfl ?_
      refine cm_call0 (q := 37) (As := [_, _]) hG dX14_prize_34 mlX14_384 rfl (by assumption) ⟨_, _, rfl⟩ (Nat.le_of_ble_eq_true rfl) (Nat.le_of_ble_eq_true rfl) (Nat.le_of_ble_eq_true rfl) (Nat.le_of_ble_eq_true rfl) (k_X14_prizeTold hG hC hA0 hj hv) rfl ?_
      rintro _ _ ⟨rfl, rfl⟩
      refine am_goto (tgt := 45) dX14_prize_37 rfl ?_
      exact am_iret dX14_prize_45 rfl rfl ⟨_, rfl, (YQ.clr hC hA)⟩
theorem k_X14_turn {i w : Int32} (hG : okG G) (h : YW S y s I R) : Fn G mX14_turn 406 [vR y, vI i, vI w] (mw S I J R) (YR S y I J R (if (0 ≤ i ∧ i < nI s.B.nT) ∧ 0 ≤ w ∧ w ≤ 3 then (vI (tlT s.B s.m i.toNatClampNeg w.toNatClampNeg), s, 0) else (vI 0, s, 1))) := by
  obtain ⟨bl, nx, hC, hA⟩ := h
  have ky := hC.1.1
  have ry := hC.1.2.1
  have kb := hC.1.2.2.1
  have hA0 : AbY (up2 I y 0 0) y bl s := hA.clr hC
  have hB := hA0.2.2.1
  have u4 := hB.1.2.2.2.2
  have cn := hB.1.2.2.2.1
  refine am_aload_n (q := 1) dX14_turn_0 rfl rfl ?_
  refine am_iconst (q := 2) (v := 0) dX14_turn_1 kc_i0 rfl ?_
  refine cm_putI (q := 5) dX14_turn_2 flX14_58 rfl (Or.inl rfl) (Or.inl rfl) (by assumption) rfl ?_
  refine am_iload_n (q := 6) dX14_turn_5 rfl rfl ?_
  refine am_iconst (q := 7) (v := 0) dX14_turn_6 kc_i0 rfl ?_
  refine am_aload_n (q := 8) dX14_turn_7 rfl rfl ?_
  refine cm_getR (q := 11) dX14_turn_8 flX14_32 rfl (by assumption) (by assumption) rfl ?_
  refine cm_getI (q := 14) dX14_turn_11 flX14_246 rfl (by assumption) rfl ?_
  rw [cn]
  refine am_iconst (q := 15) (v := 1) dX14_turn_14 kc_i1 rfl ?_
  refine am_isub (q := 16) dX14_turn_15 rfl ?_
  refine am_call1 (q := 19) (As := [_, _, _]) hG dX14_turn_16 mlX14_72 rfl (Nat.le_of_ble_eq_true rfl) (Nat.le_of_ble_eq_true rfl) (Nat.le_of_ble_eq_true rfl) k_X14_isIn rfl ?_
  rintro _ _ ⟨rfl, rfl⟩
  rw [bI_c (k_below (by omega))]
  refine am_if_eq (tgt := 40) (q := 22) dX14_turn_19 rfl rfl (fun h1 => ?_) (fun h1 => ?_)
  · rw [if_neg (fun q => bI_e0.mp h1 q.1)]
    refine am_aload_n (q := 41) dX14_turn_40 rfl rfl ?_
    refine am_iconst (q := 42) (v := 1) dX14_turn_41 kc_i1 rfl ?_
    refine cm_call0 (q := 45) (As := [_]) hG dX14_turn_42 mlX14_64 rfl (by assumption) ⟨_, _, rfl⟩ (Nat.le_of_ble_eq_true rfl) (Nat.le_of_ble_eq_true rfl) (Nat.le_of_ble_eq_true rfl) (Nat.le_of_ble_eq_true rfl) (k_X14_no ky) rfl ?_
    rintro _ _ ⟨rfl, rfl⟩
    exact am_iret dX14_turn_45 rfl rfl ⟨_, rfl, (YQ.cl2 hC hA)⟩
  · refine am_iload_n (q := 23) dX14_turn_22 rfl rfl ?_
    refine am_iconst (q := 24) (v := 0) dX14_turn_23 kc_i0 rfl ?_
    refine am_iconst (q := 25) (v := 3) dX14_turn_24 kc_i3 rfl ?_
    refine am_call1 (q := 28) (As := [_, _, _]) hG dX14_turn_25 mlX14_72 rfl (Nat.le_of_ble_eq_true rfl) (Nat.le_of_ble_eq_true rfl) (Nat.le_of_ble_eq_true rfl) k_X14_isIn rfl ?_
    rintro _ _ ⟨rfl, rfl⟩
    refine am_if_eq (tgt := 40) (q := 31) dX14_turn_28 rfl rfl (fun h2 => ?_) (fun h2 => ?_)
    · rw [if_neg (fun q => bI_e0.mp h2 q.2)]
      refine am_aload_n (q := 41) dX14_turn_40 rfl rfl ?_
      refine am_iconst (q := 42) (v := 1) dX14_turn_41 kc_i1 rfl ?_
      refine cm_call0 (q := 45) (As := [_]) hG dX14_turn_42 mlX14_64 rfl (by assumption) ⟨_, _, rfl⟩ (Nat.le_of_ble_eq_true rfl) (Nat.le_of_ble_eq_true rfl) (Nat.le_of_ble_eq_true rfl) (Nat.le_of_ble_eq_true rfl) (k_X14_no ky) rfl ?_
      rintro _ _ ⟨rfl, rfl⟩
      exact am_iret dX14_turn_45 rfl rfl ⟨_, rfl, (YQ.cl2 hC hA)⟩
    · have h3 := bI_n0.mp h1
      have h4 := bI_n0.mp h2
      rw [if_pos ⟨h3, h4⟩]
      obtain ⟨j, hj, rfl⟩ := k_idx (by omega) h3
      obtain ⟨v, hv, rfl⟩ := k_idx2 (v := 3) (n := 3) rfl (by decide) (Int32.not_lt.mpr h4.1) h4.2
      rw [nI_clamp (show j < 2 ^ 31 by omega), nI_clamp (show v < 2 ^ 31 by omega)]
      refine am_aload_n (q := 32) dX14_turn_31 rfl rfl ?_
      refine am_iload_n (q := 33) dX14_turn_32 rfl rfl ?_
      refine am_iload_n (q := 34) dX14_turn_33 rfl rfl ?_
      refine cm_call0 (q := 37) (As := [_, _]) hG dX14_turn_34 mlX14_387 rfl (by assumption) ⟨_, _, rfl⟩ (Nat.le_of_ble_eq_true rfl) (Nat.le_of_ble_eq_true rfl) (Nat.le_of_ble_eq_true rfl) (Nat.le_of_ble_eq_true rfl) (k_X14_turnTold hG hC hA0 hj hv) rfl ?_
      rintro _ _ ⟨rfl, rfl⟩
      refine am_goto (tgt := 45) dX14_turn_37 rfl ?_
      exact am_iret dX14_turn_45 rfl rfl ⟨_, rfl, (YQ.clr hC hA)⟩
theorem k_X14_board {i : Int32} (hG : okG G) (h : YW S y s I R) : Fn G mX14_board 406 [vR y, vI i] (mw S I J R) (YR S y I J R (if 0 ≤ i ∧ i < nI s.m.nb then (vI (s.m.bd i.toNatClampNeg), s, 0) else (vI 0, s, 1))) := by
  obtain ⟨bl, nx, hC, hA⟩ := h
  have ky := hC.1.1
  have rs := hC.2.2.1
  obtain ⟨kz, z6, z7, z8, z9, z10, ⟨kz1, lz1⟩, _⟩ := hC.2.2.2.2.1
  have hA0 : AbY (up2 I y 0 0) y bl s := hA.clr hC
  obtain ⟨⟨g0, g1, g2, g3, g4, g5, g6⟩, hbd, _⟩ := hA0.2.2.2.1
  refine am_aload_n (q := 1) dX14_board_0 rfl rfl ?_
  refine am_iconst (q := 2) (v := 0) dX14_board_1 kc_i0 rfl ?_
  refine cm_putI (q := 5) dX14_board_2 flX14_58 rfl (Or.inl rfl) (Or.inl rfl) (by assumption) rfl ?_
  refine am_iload_n (q := 6) dX14_board_5 rfl rfl ?_
  refine am_iconst (q := 7) (v := 0) dX14_board_6 kc_i0 rfl ?_
  refine am_aload_n (q := 8) dX14_board_7 rfl rfl ?_
  refine cm_getR (q := 11) dX14_board_8 flX14_51 rfl (by assumption) (by assumption) rfl ?_
  refine cm_getI (q := 14) dX14_board_11 flX14_336 rfl (by assumption) rfl ?_
  rw [g5]
  refine am_iconst (q := 15) (v := 1) dX14_board_14 kc_i1 rfl ?_
  refine am_isub (q := 16) dX14_board_15 rfl ?_
  refine am_call1 (q := 19) (As := [_, _, _]) hG dX14_board_16 mlX14_72 rfl (Nat.le_of_ble_eq_true rfl) (Nat.le_of_ble_eq_true rfl) (Nat.le_of_ble_eq_true rfl) k_X14_isIn rfl ?_
  rintro _ _ ⟨rfl, rfl⟩
  rw [bI_c (k_below (by omega))]
  refine am_if_eq (tgt := 34) (q := 22) dX14_board_19 rfl rfl (fun h1 => ?_) (fun h1 => ?_)
  · rw [if_neg (bI_e0.mp h1)]
    refine am_aload_n (q := 35) dX14_board_34 rfl rfl ?_
    refine am_iconst (q := 36) (v := 1) dX14_board_35 kc_i1 rfl ?_
    refine cm_call0 (q := 39) (As := [_]) hG dX14_board_36 mlX14_64 rfl (by assumption) ⟨_, _, rfl⟩ (Nat.le_of_ble_eq_true rfl) (Nat.le_of_ble_eq_true rfl) (Nat.le_of_ble_eq_true rfl) (Nat.le_of_ble_eq_true rfl) (k_X14_no ky) rfl ?_
    rintro _ _ ⟨rfl, rfl⟩
    exact am_iret dX14_board_39 rfl rfl ⟨_, rfl, (YQ.cl2 hC hA)⟩
  · have h3 := bI_n0.mp h1
    rw [if_pos h3]
    obtain ⟨j, hj, rfl⟩ := k_idx (by omega) h3
    refine am_aload_n (q := 23) dX14_board_22 rfl rfl ?_
    refine cm_getR (q := 26) dX14_board_23 flX14_51 rfl (by assumption) (by assumption) rfl ?_
    refine cm_getR (q := 29) dX14_board_26 flX14_333 rfl (by assumption) (by assumption) rfl ?_
    refine am_iload_n (q := 30) dX14_board_29 rfl rfl ?_
    refine cm_iaload (q := 31) dX14_board_30 (by assumption) (by rw [lz1]; exact vp_in_nI (by omega) (by decide)) rfl ?_
    rw [nI_clamp (show j < 2 ^ 31 by omega), hbd j hj]
    refine am_goto (tgt := 39) dX14_board_31 rfl ?_
    exact am_iret dX14_board_39 rfl rfl ⟨_, rfl, (YQ.clr hC hA)⟩
theorem k_X14_mean (h : YW S y s I R) : Fn G mX14_mean 406 [vR y] (mw S I J R) (YQ S y I J R (vD (meanD (sumM s.m.bd s.m.nb) s.m.nb)) s 0) := by
  obtain ⟨bl, nx, hC, hA⟩ := h
  have ky := hC.1.1
  have rs := hC.2.2.1
  obtain ⟨kz, z6, z7, z8, z9, z10, ⟨kz1, lz1⟩, _⟩ := hC.2.2.2.2.1
  have hA0 : AbY (up2 I y 0 0) y bl s := hA.clr hC
  obtain ⟨⟨g0, g1, g2, g3, g4, g5, g6⟩, hbd, _⟩ := hA0.2.2.2.1
  refine am_aload_n (q := 1) dX14_mean_0 rfl rfl ?_
  refine am_iconst (q := 2) (v := 0) dX14_mean_1 kc_i0 rfl ?_
  refine cm_putI (q := 5) dX14_mean_2 flX14_58 rfl (Or.inl rfl) (Or.inl rfl) (by assumption) rfl ?_
  refine am_iconst (q := 6) (v := 0) dX14_mean_5 kc_i0 rfl ?_
  refine am_istore_n (q := 7) (ls1 := [_, _, _]) dX14_mean_6 (Nat.le_of_ble_eq_true rfl) rfl rfl ?_
  refine am_iconst (q := 8) (v := 0) dX14_mean_7 kc_i0 rfl ?_
  refine am_istore_n (q := 9) (ls1 := [_, _, _]) dX14_mean_8 (Nat.le_of_ble_eq_true rfl) rfl rfl ?_
  refine k_loop (σ := Int32) (n := s.m.nb) (Inv := fun i v => v = sumM s.m.bd i) (W := fun i v => MW G mX14_mean 406 9 [some (vR y), some (vI v), some (vI (nI i))] [] (mw S (up2 I y 0 0) J R) _) ?_ ?_ 0 0 (Nat.zero_le _) rfl
  · rintro i v hi rfl ih
    refine am_iload_n (q := 10) dX14_mean_9 rfl rfl ?_
    refine am_aload_n (q := 11) dX14_mean_10 rfl rfl ?_
    refine cm_getR (q := 14) dX14_mean_11 flX14_51 rfl (by assumption) (by assumption) rfl ?_
    refine cm_getI (q := 17) dX14_mean_14 flX14_336 rfl (by assumption) rfl ?_
    rw [g5]
    refine am_icmp_ge (tgt := 38) (q := 20) dX14_mean_17 rfl rfl (fun hz => absurd hz (nI_ge hi (by omega))) (fun _ => ?_)
    refine am_iload_n (q := 21) dX14_mean_20 rfl rfl ?_
    refine am_aload_n (q := 22) dX14_mean_21 rfl rfl ?_
    refine cm_getR (q := 25) dX14_mean_22 flX14_51 rfl (by assumption) (by assumption) rfl ?_
    refine cm_getR (q := 28) dX14_mean_25 flX14_333 rfl (by assumption) (by assumption) rfl ?_
    refine am_iload_n (q := 29) dX14_mean_28 rfl rfl ?_
    refine cm_iaload (q := 30) dX14_mean_29 (by assumption) (by rw [lz1]; exact vp_in_nI (by omega) (by decide)) rfl ?_
    rw [nI_clamp (show i < 2 ^ 31 by omega), hbd i hi]
    refine am_iadd (q := 31) dX14_mean_30 rfl ?_
    refine am_istore_n (q := 32) (ls1 := [_, _, _]) dX14_mean_31 (Nat.le_of_ble_eq_true rfl) rfl rfl ?_
    refine am_iincW (q := 35) (ls1 := [_, _, _]) (w := 1) dX14_mean_32 rfl (Nat.le_of_ble_eq_true rfl) kc_i1 rfl rfl ?_
    refine am_goto (tgt := 9) dX14_mean_35 rfl ?_
    rw [nI_1]
    exact ih _ rfl
  · rintro v rfl
    refine am_iload_n (q := 10) dX14_mean_9 rfl rfl ?_
    refine am_aload_n (q := 11) dX14_mean_10 rfl rfl ?_
    refine cm_getR (q := 14) dX14_mean_11 flX14_51 rfl (by assumption) (by assumption) rfl ?_
    refine cm_getI (q := 17) dX14_mean_14 flX14_336 rfl (by assumption) rfl ?_
    rw [g5]
    refine am_icmp_ge (tgt := 38) (q := 20) dX14_mean_17 rfl rfl (fun _ => ?_) (fun hz => absurd (Int32.le_refl _) hz)
    refine am_aload_n (q := 39) dX14_mean_38 rfl rfl ?_
    refine cm_getR (q := 42) dX14_mean_39 flX14_51 rfl (by assumption) (by assumption) rfl ?_
    refine cm_getI (q := 45) dX14_mean_42 flX14_336 rfl (by assumption) rfl ?_
    rw [g5]
    by_cases c : s.m.nb = 0
    · have e : meanD (sumM s.m.bd s.m.nb) s.m.nb = 0 := if_neg (by omega)
      rw [e]
      refine am_if_ne (tgt := 52) (q := 48) dX14_mean_45 rfl rfl (fun hz => absurd (by rw [c]; rfl) hz) (fun _ => ?_)
      refine am_dconst0 (q := 49) dX14_mean_48 rfl ?_
      refine am_goto (tgt := 63) dX14_mean_49 rfl ?_
      exact am_dret dX14_mean_63 rfl ⟨_, rfl, (YQ.clr hC hA)⟩
    · have e : meanD (sumM s.m.bd s.m.nb) s.m.nb = FP.ddiv (FP.i2d (sumM s.m.bd s.m.nb)) (FP.i2d (nI s.m.nb)) := if_pos (by omega)
      rw [e]
      refine am_if_ne (tgt := 52) (q := 48) dX14_mean_45 rfl rfl (fun _ => ?_) (fun hz => absurd hz (fun q => c ((nI_eq (b := 0) (by omega) (by decide)).mp q)))
      refine am_iload_n (q := 53) dX14_mean_52 rfl rfl ?_
      refine am_i2d (q := 54) dX14_mean_53 rfl ?_
      refine am_aload_n (q := 55) dX14_mean_54 rfl rfl ?_
      refine cm_getR (q := 58) dX14_mean_55 flX14_51 rfl (by assumption) (by assumption) rfl ?_
      refine cm_getI (q := 61) dX14_mean_58 flX14_336 rfl (by assumption) rfl ?_
      rw [g5]
      refine am_i2d (q := 62) dX14_mean_61 rfl ?_
      refine am_ddiv (q := 63) dX14_mean_62 (k_ddiv (by omega) g6) rfl ?_
      exact am_dret dX14_mean_63 rfl ⟨_, rfl, (YQ.clr hC hA)⟩
end Mz

