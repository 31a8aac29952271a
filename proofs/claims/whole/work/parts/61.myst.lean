theorem dX14_fistTold_0 : decode cX14_fistTold 0 = .ok (.iload_n 2, 1) := by decide +kernel
theorem dX14_fistTold_1 : decode cX14_fistTold 1 = .ok (.iconst 2, 1) := by decide +kernel
theorem dX14_fistTold_2 : decode cX14_fistTold 2 = .ok (.if_icmp .ge 19, 3) := by decide +kernel
theorem dX14_fistTold_5 : decode cX14_fistTold 5 = .ok (.aload_n 0, 1) := by decide +kernel
theorem dX14_fistTold_6 : decode cX14_fistTold 6 = .ok (.getfield 32, 3) := by decide +kernel
theorem dX14_fistTold_9 : decode cX14_fistTold 9 = .ok (.getfield 240, 3) := by decide +kernel
theorem dX14_fistTold_12 : decode cX14_fistTold 12 = .ok (.iconst 3, 1) := by decide +kernel
theorem dX14_fistTold_13 : decode cX14_fistTold 13 = .ok (.iload_n 1, 1) := by decide +kernel
theorem dX14_fistTold_14 : decode cX14_fistTold 14 = .ok (.imul, 1) := by decide +kernel
theorem dX14_fistTold_15 : decode cX14_fistTold 15 = .ok (.iload_n 2, 1) := by decide +kernel
theorem dX14_fistTold_16 : decode cX14_fistTold 16 = .ok (.iadd, 1) := by decide +kernel
theorem dX14_fistTold_17 : decode cX14_fistTold 17 = .ok (.iaload, 1) := by decide +kernel
theorem dX14_fistTold_18 : decode cX14_fistTold 18 = .ok (.goto 33, 3) := by decide +kernel
theorem dX14_fistTold_21 : decode cX14_fistTold 21 = .ok (.iload_n 2, 1) := by decide +kernel
theorem dX14_fistTold_22 : decode cX14_fistTold 22 = .ok (.bipush 8, 2) := by decide +kernel
theorem dX14_fistTold_24 : decode cX14_fistTold 24 = .ok (.if_icmp .ne 11, 3) := by decide +kernel
theorem dX14_fistTold_27 : decode cX14_fistTold 27 = .ok (.aload_n 0, 1) := by decide +kernel
theorem dX14_fistTold_28 : decode cX14_fistTold 28 = .ok (.iload_n 1, 1) := by decide +kernel
theorem dX14_fistTold_29 : decode cX14_fistTold 29 = .ok (.invokevirtual 375, 3) := by decide +kernel
theorem dX14_fistTold_32 : decode cX14_fistTold 32 = .ok (.goto 19, 3) := by decide +kernel
theorem dX14_fistTold_35 : decode cX14_fistTold 35 = .ok (.aload_n 0, 1) := by decide +kernel
theorem dX14_fistTold_36 : decode cX14_fistTold 36 = .ok (.getfield 51, 3) := by decide +kernel
theorem dX14_fistTold_39 : decode cX14_fistTold 39 = .ok (.getfield 283, 3) := by decide +kernel
theorem dX14_fistTold_42 : decode cX14_fistTold 42 = .ok (.bipush 7, 2) := by decide +kernel
theorem dX14_fistTold_44 : decode cX14_fistTold 44 = .ok (.iload_n 1, 1) := by decide +kernel
theorem dX14_fistTold_45 : decode cX14_fistTold 45 = .ok (.imul, 1) := by decide +kernel
theorem dX14_fistTold_46 : decode cX14_fistTold 46 = .ok (.iload_n 2, 1) := by decide +kernel
theorem dX14_fistTold_47 : decode cX14_fistTold 47 = .ok (.iadd, 1) := by decide +kernel
theorem dX14_fistTold_48 : decode cX14_fistTold 48 = .ok (.iconst 2, 1) := by decide +kernel
theorem dX14_fistTold_49 : decode cX14_fistTold 49 = .ok (.isub, 1) := by decide +kernel
theorem dX14_fistTold_50 : decode cX14_fistTold 50 = .ok (.iaload, 1) := by decide +kernel
theorem dX14_fistTold_51 : decode cX14_fistTold 51 = .ok (.ireturn, 1) := by decide +kernel
theorem dX14_isFist_0 : decode cX14_isFist 0 = .ok (.iload_n 1, 1) := by decide +kernel
theorem dX14_isFist_1 : decode cX14_isFist 1 = .ok (.iconst 0, 1) := by decide +kernel
theorem dX14_isFist_2 : decode cX14_isFist 2 = .ok (.aload_n 0, 1) := by decide +kernel
theorem dX14_isFist_3 : decode cX14_isFist 3 = .ok (.getfield 32, 3) := by decide +kernel
theorem dX14_isFist_6 : decode cX14_isFist 6 = .ok (.getfield 170, 3) := by decide +kernel
theorem dX14_isFist_9 : decode cX14_isFist 9 = .ok (.iconst 1, 1) := by decide +kernel
theorem dX14_isFist_10 : decode cX14_isFist 10 = .ok (.isub, 1) := by decide +kernel
theorem dX14_isFist_11 : decode cX14_isFist 11 = .ok (.invokestatic 72, 3) := by decide +kernel
theorem dX14_isFist_14 : decode cX14_isFist 14 = .ok (.ireturn, 1) := by decide +kernel
theorem dX14_isRail_0 : decode cX14_isRail 0 = .ok (.iload_n 1, 1) := by decide +kernel
theorem dX14_isRail_1 : decode cX14_isRail 1 = .ok (.iconst 0, 1) := by decide +kernel
theorem dX14_isRail_2 : decode cX14_isRail 2 = .ok (.aload_n 0, 1) := by decide +kernel
theorem dX14_isRail_3 : decode cX14_isRail 3 = .ok (.getfield 32, 3) := by decide +kernel
theorem dX14_isRail_6 : decode cX14_isRail 6 = .ok (.getfield 177, 3) := by decide +kernel
theorem dX14_isRail_9 : decode cX14_isRail 9 = .ok (.iconst 1, 1) := by decide +kernel
theorem dX14_isRail_10 : decode cX14_isRail 10 = .ok (.isub, 1) := by decide +kernel
theorem dX14_isRail_11 : decode cX14_isRail 11 = .ok (.invokestatic 72, 3) := by decide +kernel
theorem dX14_isRail_14 : decode cX14_isRail 14 = .ok (.ireturn, 1) := by decide +kernel
theorem dX14_no_0 : decode cX14_no 0 = .ok (.aload_n 0, 1) := by decide +kernel
theorem dX14_no_1 : decode cX14_no 1 = .ok (.iload_n 1, 1) := by decide +kernel
theorem dX14_no_2 : decode cX14_no 2 = .ok (.putfield 58, 3) := by decide +kernel
theorem dX14_no_5 : decode cX14_no 5 = .ok (.iconst 0, 1) := by decide +kernel
theorem dX14_no_6 : decode cX14_no 6 = .ok (.ireturn, 1) := by decide +kernel
theorem dX14_placeOf_0 : decode cX14_placeOf 0 = .ok (.iconst 1, 1) := by decide +kernel
theorem dX14_placeOf_1 : decode cX14_placeOf 1 = .ok (.istore_n 2, 1) := by decide +kernel
theorem dX14_placeOf_2 : decode cX14_placeOf 2 = .ok (.iconst 0, 1) := by decide +kernel
theorem dX14_placeOf_3 : decode cX14_placeOf 3 = .ok (.istore_n 3, 1) := by decide +kernel
theorem dX14_placeOf_4 : decode cX14_placeOf 4 = .ok (.iload_n 3, 1) := by decide +kernel
theorem dX14_placeOf_5 : decode cX14_placeOf 5 = .ok (.aload_n 0, 1) := by decide +kernel
theorem dX14_placeOf_6 : decode cX14_placeOf 6 = .ok (.getfield 32, 3) := by decide +kernel
theorem dX14_placeOf_9 : decode cX14_placeOf 9 = .ok (.getfield 170, 3) := by decide +kernel
theorem dX14_placeOf_12 : decode cX14_placeOf 12 = .ok (.if_icmp .ge 48, 3) := by decide +kernel
theorem dX14_placeOf_15 : decode cX14_placeOf 15 = .ok (.iload_n 2, 1) := by decide +kernel
theorem dX14_placeOf_16 : decode cX14_placeOf 16 = .ok (.aload_n 0, 1) := by decide +kernel
theorem dX14_placeOf_17 : decode cX14_placeOf 17 = .ok (.getfield 51, 3) := by decide +kernel
theorem dX14_placeOf_20 : decode cX14_placeOf 20 = .ok (.getfield 283, 3) := by decide +kernel
theorem dX14_placeOf_23 : decode cX14_placeOf 23 = .ok (.bipush 7, 2) := by decide +kernel
theorem dX14_placeOf_25 : decode cX14_placeOf 25 = .ok (.iload_n 3, 1) := by decide +kernel
theorem dX14_placeOf_26 : decode cX14_placeOf 26 = .ok (.imul, 1) := by decide +kernel
theorem dX14_placeOf_27 : decode cX14_placeOf 27 = .ok (.iconst 2, 1) := by decide +kernel
theorem dX14_placeOf_28 : decode cX14_placeOf 28 = .ok (.iadd, 1) := by decide +kernel
theorem dX14_placeOf_29 : decode cX14_placeOf 29 = .ok (.iaload, 1) := by decide +kernel
theorem dX14_placeOf_30 : decode cX14_placeOf 30 = .ok (.aload_n 0, 1) := by decide +kernel
theorem dX14_placeOf_31 : decode cX14_placeOf 31 = .ok (.getfield 51, 3) := by decide +kernel
theorem dX14_placeOf_34 : decode cX14_placeOf 34 = .ok (.getfield 283, 3) := by decide +kernel
theorem dX14_placeOf_37 : decode cX14_placeOf 37 = .ok (.bipush 7, 2) := by decide +kernel
theorem dX14_placeOf_39 : decode cX14_placeOf 39 = .ok (.iload_n 1, 1) := by decide +kernel
theorem dX14_placeOf_40 : decode cX14_placeOf 40 = .ok (.imul, 1) := by decide +kernel
theorem dX14_placeOf_41 : decode cX14_placeOf 41 = .ok (.iconst 2, 1) := by decide +kernel
theorem dX14_placeOf_42 : decode cX14_placeOf 42 = .ok (.iadd, 1) := by decide +kernel
theorem dX14_placeOf_43 : decode cX14_placeOf 43 = .ok (.iaload, 1) := by decide +kernel
theorem dX14_placeOf_44 : decode cX14_placeOf 44 = .ok (.if_icmp .le 7, 3) := by decide +kernel
theorem dX14_placeOf_47 : decode cX14_placeOf 47 = .ok (.iconst 1, 1) := by decide +kernel
theorem dX14_placeOf_48 : decode cX14_placeOf 48 = .ok (.goto 4, 3) := by decide +kernel
theorem dX14_placeOf_51 : decode cX14_placeOf 51 = .ok (.iconst 0, 1) := by decide +kernel
theorem dX14_placeOf_52 : decode cX14_placeOf 52 = .ok (.iadd, 1) := by decide +kernel
theorem dX14_placeOf_53 : decode cX14_placeOf 53 = .ok (.istore_n 2, 1) := by decide +kernel
theorem dX14_placeOf_54 : decode cX14_placeOf 54 = .ok (.iinc 3 1, 3) := by decide +kernel
theorem dX14_placeOf_57 : decode cX14_placeOf 57 = .ok (.goto (-53), 3) := by decide +kernel
theorem dX14_placeOf_60 : decode cX14_placeOf 60 = .ok (.iload_n 2, 1) := by decide +kernel
theorem dX14_placeOf_61 : decode cX14_placeOf 61 = .ok (.ireturn, 1) := by decide +kernel
theorem dX14_prizeTold_0 : decode cX14_prizeTold 0 = .ok (.iload_n 2, 1) := by decide +kernel
theorem dX14_prizeTold_1 : decode cX14_prizeTold 1 = .ok (.iconst 2, 1) := by decide +kernel
theorem dX14_prizeTold_2 : decode cX14_prizeTold 2 = .ok (.if_icmp .ge 19, 3) := by decide +kernel
theorem dX14_prizeTold_5 : decode cX14_prizeTold 5 = .ok (.aload_n 0, 1) := by decide +kernel
theorem dX14_prizeTold_6 : decode cX14_prizeTold 6 = .ok (.getfield 51, 3) := by decide +kernel
theorem dX14_prizeTold_9 : decode cX14_prizeTold 9 = .ok (.getfield 285, 3) := by decide +kernel
theorem dX14_prizeTold_12 : decode cX14_prizeTold 12 = .ok (.iconst 2, 1) := by decide +kernel
theorem dX14_prizeTold_13 : decode cX14_prizeTold 13 = .ok (.iload_n 1, 1) := by decide +kernel
theorem dX14_prizeTold_14 : decode cX14_prizeTold 14 = .ok (.imul, 1) := by decide +kernel
theorem dX14_prizeTold_15 : decode cX14_prizeTold 15 = .ok (.iload_n 2, 1) := by decide +kernel
theorem dX14_prizeTold_16 : decode cX14_prizeTold 16 = .ok (.iadd, 1) := by decide +kernel
theorem dX14_prizeTold_17 : decode cX14_prizeTold 17 = .ok (.iaload, 1) := by decide +kernel
theorem dX14_prizeTold_18 : decode cX14_prizeTold 18 = .ok (.goto 59, 3) := by decide +kernel
theorem dX14_prizeTold_21 : decode cX14_prizeTold 21 = .ok (.iload_n 2, 1) := by decide +kernel
theorem dX14_prizeTold_22 : decode cX14_prizeTold 22 = .ok (.iconst 2, 1) := by decide +kernel
theorem dX14_prizeTold_23 : decode cX14_prizeTold 23 = .ok (.if_icmp .ne 25, 3) := by decide +kernel
theorem dX14_prizeTold_26 : decode cX14_prizeTold 26 = .ok (.aload_n 0, 1) := by decide +kernel
theorem dX14_prizeTold_27 : decode cX14_prizeTold 27 = .ok (.aload_n 0, 1) := by decide +kernel
theorem dX14_prizeTold_28 : decode cX14_prizeTold 28 = .ok (.getfield 51, 3) := by decide +kernel
theorem dX14_prizeTold_31 : decode cX14_prizeTold 31 = .ok (.aload_n 0, 1) := by decide +kernel
theorem dX14_prizeTold_32 : decode cX14_prizeTold 32 = .ok (.getfield 32, 3) := by decide +kernel
theorem dX14_prizeTold_35 : decode cX14_prizeTold 35 = .ok (.getfield 243, 3) := by decide +kernel
theorem dX14_prizeTold_38 : decode cX14_prizeTold 38 = .ok (.iconst 3, 1) := by decide +kernel
theorem dX14_prizeTold_39 : decode cX14_prizeTold 39 = .ok (.iload_n 1, 1) := by decide +kernel
theorem dX14_prizeTold_40 : decode cX14_prizeTold 40 = .ok (.imul, 1) := by decide +kernel
theorem dX14_prizeTold_41 : decode cX14_prizeTold 41 = .ok (.iaload, 1) := by decide +kernel
theorem dX14_prizeTold_42 : decode cX14_prizeTold 42 = .ok (.invokevirtual 286, 3) := by decide +kernel
theorem dX14_prizeTold_45 : decode cX14_prizeTold 45 = .ok (.goto 32, 3) := by decide +kernel
theorem dX14_prizeTold_48 : decode cX14_prizeTold 48 = .ok (.aload_n 0, 1) := by decide +kernel
theorem dX14_prizeTold_49 : decode cX14_prizeTold 49 = .ok (.aload_n 0, 1) := by decide +kernel
theorem dX14_prizeTold_50 : decode cX14_prizeTold 50 = .ok (.getfield 51, 3) := by decide +kernel
theorem dX14_prizeTold_53 : decode cX14_prizeTold 53 = .ok (.aload_n 0, 1) := by decide +kernel
theorem dX14_prizeTold_54 : decode cX14_prizeTold 54 = .ok (.getfield 32, 3) := by decide +kernel
theorem dX14_prizeTold_57 : decode cX14_prizeTold 57 = .ok (.getfield 243, 3) := by decide +kernel
theorem dX14_prizeTold_60 : decode cX14_prizeTold 60 = .ok (.iconst 3, 1) := by decide +kernel
theorem dX14_prizeTold_61 : decode cX14_prizeTold 61 = .ok (.iload_n 1, 1) := by decide +kernel
theorem dX14_prizeTold_62 : decode cX14_prizeTold 62 = .ok (.imul, 1) := by decide +kernel
theorem dX14_prizeTold_63 : decode cX14_prizeTold 63 = .ok (.iconst 2, 1) := by decide +kernel
theorem dX14_prizeTold_64 : decode cX14_prizeTold 64 = .ok (.iadd, 1) := by decide +kernel
theorem dX14_prizeTold_65 : decode cX14_prizeTold 65 = .ok (.iaload, 1) := by decide +kernel
theorem dX14_prizeTold_66 : decode cX14_prizeTold 66 = .ok (.invokevirtual 301, 3) := by decide +kernel
theorem dX14_prizeTold_69 : decode cX14_prizeTold 69 = .ok (.ifCond .eq 7, 3) := by decide +kernel
theorem dX14_prizeTold_72 : decode cX14_prizeTold 72 = .ok (.iconst 1, 1) := by decide +kernel
theorem dX14_prizeTold_73 : decode cX14_prizeTold 73 = .ok (.goto 4, 3) := by decide +kernel
theorem dX14_prizeTold_76 : decode cX14_prizeTold 76 = .ok (.iconst 0, 1) := by decide +kernel
theorem dX14_prizeTold_77 : decode cX14_prizeTold 77 = .ok (.ireturn, 1) := by decide +kernel
theorem dX14_railTold_0 : decode cX14_railTold 0 = .ok (.iload_n 2, 1) := by decide +kernel
theorem dX14_railTold_1 : decode cX14_railTold 1 = .ok (.iconst 2, 1) := by decide +kernel
theorem dX14_railTold_2 : decode cX14_railTold 2 = .ok (.if_icmp .ge 19, 3) := by decide +kernel
theorem dX14_railTold_5 : decode cX14_railTold 5 = .ok (.aload_n 0, 1) := by decide +kernel
theorem dX14_railTold_6 : decode cX14_railTold 6 = .ok (.getfield 32, 3) := by decide +kernel
theorem dX14_railTold_9 : decode cX14_railTold 9 = .ok (.getfield 227, 3) := by decide +kernel
theorem dX14_railTold_12 : decode cX14_railTold 12 = .ok (.iconst 3, 1) := by decide +kernel
theorem dX14_railTold_13 : decode cX14_railTold 13 = .ok (.iload_n 1, 1) := by decide +kernel
theorem dX14_railTold_14 : decode cX14_railTold 14 = .ok (.imul, 1) := by decide +kernel
theorem dX14_railTold_15 : decode cX14_railTold 15 = .ok (.iload_n 2, 1) := by decide +kernel
theorem dX14_railTold_16 : decode cX14_railTold 16 = .ok (.iadd, 1) := by decide +kernel
theorem dX14_railTold_17 : decode cX14_railTold 17 = .ok (.iaload, 1) := by decide +kernel
theorem dX14_railTold_18 : decode cX14_railTold 18 = .ok (.goto 18, 3) := by decide +kernel
theorem dX14_railTold_21 : decode cX14_railTold 21 = .ok (.aload_n 0, 1) := by decide +kernel
theorem dX14_railTold_22 : decode cX14_railTold 22 = .ok (.getfield 51, 3) := by decide +kernel
theorem dX14_railTold_25 : decode cX14_railTold 25 = .ok (.getfield 284, 3) := by decide +kernel
theorem dX14_railTold_28 : decode cX14_railTold 28 = .ok (.iconst 3, 1) := by decide +kernel
theorem dX14_railTold_29 : decode cX14_railTold 29 = .ok (.iload_n 1, 1) := by decide +kernel
theorem dX14_railTold_30 : decode cX14_railTold 30 = .ok (.imul, 1) := by decide +kernel
theorem dX14_railTold_31 : decode cX14_railTold 31 = .ok (.iload_n 2, 1) := by decide +kernel
theorem dX14_railTold_32 : decode cX14_railTold 32 = .ok (.iadd, 1) := by decide +kernel
theorem dX14_railTold_33 : decode cX14_railTold 33 = .ok (.iconst 2, 1) := by decide +kernel
theorem dX14_railTold_34 : decode cX14_railTold 34 = .ok (.isub, 1) := by decide +kernel
theorem dX14_railTold_35 : decode cX14_railTold 35 = .ok (.iaload, 1) := by decide +kernel
theorem dX14_railTold_36 : decode cX14_railTold 36 = .ok (.ireturn, 1) := by decide +kernel
theorem dX14_thrown_0 : decode cX14_thrown 0 = .ok (.aload_n 0, 1) := by decide +kernel
theorem dX14_thrown_1 : decode cX14_thrown 1 = .ok (.getfield 58, 3) := by decide +kernel
theorem dX14_thrown_4 : decode cX14_thrown 4 = .ok (.ireturn, 1) := by decide +kernel
/-! the reference as a whole: its cells, how it stands -/
def MPc (S : AMem) (R : Nat → Nat → Option Nat) (y : Nat) : Prop := R y 4 = some (y + 2) ∧ R y 5 = some (y + 3) ∧ R y 6 = some (y + 4) ∧ R y 7 = some (y + 5) ∧ (S.K (y + 2) = 20 ∧ S.ln (y + 2) = 402) ∧ (S.K (y + 3) = 20 ∧ S.ln (y + 3) = 402) ∧ (S.K (y + 4) = 20 ∧ S.ln (y + 4) = 402) ∧ (S.K (y + 5) = 20 ∧ S.ln (y + 5) = 402) ∧ R y 10 = some (y + 24) ∧ R y 11 = some (y + 25) ∧ R y 12 = some (y + 26) ∧ (S.K (y + 24) = 20 ∧ S.ln (y + 24) = 4) ∧ (S.K (y + 25) = 20 ∧ S.ln (y + 25) = 8) ∧ S.K (y + 26) = 20 ∧ S.ln (y + 26) = 8
def MCc (S : AMem) (R : Nat → Nat → Option Nat) (y bl nx : Nat) : Prop := MCb S R y bl ∧ (R y 1 = some (y + 1) ∧ S.K (y + 1) = 20 ∧ S.ln (y + 1) = 2000) ∧ R y 18 = some (y + 27) ∧ R y 19 = some (y + 33) ∧ SCc S R (y + 27) ∧ SCc S R (y + 33) ∧ R y 9 = some nx ∧ ((bl = y + 6 ∧ nx = y + 15) ∨ (bl = y + 15 ∧ nx = y + 6)) ∧ BCc S R nx ∧ MPc S R y
/-- the row of turns holds each turn once -/
def PRm (B : BS) (m : MS) : Prop := (∀ k, k < B.nT → m.row k < B.nT) ∧ (∀ k l, k < B.nT → l < B.nT → m.row k = m.row l → k = l) ∧ ∀ t, t < B.nT → ∃ k, k < B.nT ∧ m.row k = t
def AbY (I : Nat → Nat → Int32) (y bl : Nat) (s : XS) : Prop := (I y 2 = nI s.E.1 ∧ s.E.1 ≤ 2000 ∧ ∀ i, i < s.E.1 → I (y + 1) i = s.E.2 i) ∧ I y 3 = s.er ∧ RB I bl s.B s.m ∧ RS I (y + 27) s.B s.m ∧ PRm s.B s.m
def YW (S : AMem) (y : Nat) (s : XS) (I : Nat → Nat → Int32) (R : Nat → Nat → Option Nat) : Prop := ∃ bl nx, MCc S R y bl nx ∧ AbY I y bl s
def OffY (y : Nat) (I : Nat → Nat → Int32) (R : Nat → Nat → Option Nat) (I1 : Nat → Nat → Int32) (R1 : Nat → Nat → Option Nat) : Prop := ∀ x, (x < y ∨ y + 39 ≤ x) → I1 x = I x ∧ R1 x = R x
/-- what a call gives: an answer, how it stands then, and whether it threw -/
def YQ (S : AMem) (y : Nat) (I : Nat → Nat → Int32) (J : Nat → Nat → Int64) (R : Nat → Nat → Option Nat) (v : AV) (s1 : XS) (th : Int32) (rr : Option AV) (M1 : AMem) : Prop := rr = some v ∧ ∃ I1 R1, M1 = mw S I1 J R1 ∧ YW S y s1 I1 R1 ∧ I1 y 0 = th ∧ OffY y I R I1 R1
section My
variable {G : Gp} {S : AMem} {I I1 : Nat → Nat → Int32} {J : Nat → Nat → Int64} {R : Nat → Nat → Option Nat} {y bl nx : Nat} {s : XS}
theorem MCc.lo (h : MCc S R y bl nx) : y + 6 ≤ bl ∧ bl + 9 ≤ y + 24 ∧ y + 6 ≤ nx ∧ nx + 9 ≤ y + 24 ∧ (bl + 9 ≤ nx ∨ nx + 9 ≤ bl) := by
  obtain ⟨_, _, _, _, _, _, _, hc, _⟩ := h
  omega
theorem RS.ago {I I1 : Nat → Nat → Int32} {z : Nat} {B : BS} {m : MS} (h : RS I z B m) (fr : ∀ x j, z ≤ x → x < z + 6 → I1 x j = I x j) : RS I1 z B m := h.fr fr
/-- only the own numbers and the state ahead have changed -/
theorem AbY.own (hC : MCc S R y bl nx) (h : AbY I y bl s) (fr : ∀ x j, (x < y + 33 ∨ y + 39 ≤ x) → (x ≠ y ∨ j = 2 ∨ j = 3) → I1 x j = I x j) : AbY I1 y bl s := by
  obtain ⟨p1, p2, p3, p4, p5⟩ := hC.lo
  obtain ⟨⟨a1, a2, a3⟩, a4, a5, a6, a7⟩ := h
  exact ⟨⟨(fr _ _ (by omega) (by omega)).trans a1, a2, fun i hi => (fr _ _ (by omega) (by omega)).trans (a3 i hi)⟩, (fr _ _ (by omega) (by omega)).trans a4, a5.mv (fun x j p q => fr x j (by omega) (by omega)) (fun _ _ => ⟨rfl, rfl⟩) (fun _ _ => ⟨rfl, rfl⟩), a6.fr (fun x j p q => fr x j (by omega) (by omega)), a7⟩
theorem YQ.own {v : AV} {th : Int32} (hC : MCc S R y bl nx) (h : AbY I y bl s) (fr : ∀ x j, (x < y + 33 ∨ y + 39 ≤ x) → (x ≠ y ∨ j = 2 ∨ j = 3) → I1 x j = I x j) (ht : I1 y 0 = th) : YQ S y I J R v s th (some v) (mw S I1 J R) := ⟨rfl, I1, R, rfl, ⟨bl, nx, hC, h.own hC fr⟩, ht, fun x p => ⟨funext fun j => fr x j (by omega) (by omega), rfl⟩⟩
theorem k_X14_no {v : Int32} (ky : S.K y = 15) : Fn G mX14_no 0 [vR y, vI v] (mw S I J R) (fun rr M1 => rr = some (vI 0) ∧ M1 = mw S (up2 I y 0 v) J R) := by
  refine am_aload_n (q := 1) dX14_no_0 rfl rfl ?_
  refine am_iload_n (q := 2) dX14_no_1 rfl rfl ?_
  refine cm_putI (q := 5) dX14_no_2 flX14_58 rfl (Or.inl rfl) (Or.inl rfl) (by assumption) rfl ?_
  refine am_iconst (q := 6) (v := 0) dX14_no_5 kc_i0 rfl ?_
  exact am_iret dX14_no_6 rfl rfl ⟨_, rfl, rfl, rfl⟩
theorem k_X14_thrown (ky : S.K y = 15) : Fn G mX14_thrown 0 [vR y] (mw S I J R) (fun rr M1 => rr = some (vI (I y 0)) ∧ M1 = mw S I J R) := by
  refine am_aload_n (q := 1) dX14_thrown_0 rfl rfl ?_
  refine cm_getI (q := 4) dX14_thrown_1 flX14_58 rfl (by assumption) rfl ?_
  exact am_iret dX14_thrown_4 rfl rfl ⟨_, rfl, rfl, rfl⟩
theorem k_below {i : Int32} {n : Nat} (hn : n < 2 ^ 31) : (0 ≤ i ∧ i ≤ nI n - 1) ↔ (0 ≤ i ∧ i < nI n) := by
  cases n with
  | zero =>
    refine ⟨fun q => ?_, fun q => absurd (Int32.lt_of_le_of_lt q.1 q.2) (by decide)⟩
    exact absurd (Int32.le_trans q.1 q.2) (by decide)
  | succ n =>
    rw [nI_pred]
    refine ⟨fun q => ?_, fun q => ?_⟩
    · obtain ⟨j, hj, rfl⟩ := k_idx2 (n := n) rfl (by omega) (Int32.not_lt.mpr q.1) q.2
      exact ⟨q.1, nI_lt hj hn⟩
    · obtain ⟨j, hj, rfl⟩ := k_idx hn q
      exact ⟨q.1, nI_le (by omega) (by omega)⟩
theorem k_X14_isRail {i : Int32} (hG : okG G) (ky : S.K y = 15) (ry : R y 8 = some bl) (kb : S.K bl = 13) {n : Nat} (hn : I bl 0 = nI n) (hn4 : n ≤ 4) : Fn G mX14_isRail 1 [vR y, vI i] (mw S I J R) (fun rr M1 => rr = some (vI (bI (0 ≤ i ∧ i < nI n))) ∧ M1 = mw S I J R) := by
  refine am_iload_n (q := 1) dX14_isRail_0 rfl rfl ?_
  refine am_iconst (q := 2) (v := 0) dX14_isRail_1 kc_i0 rfl ?_
  refine am_aload_n (q := 3) dX14_isRail_2 rfl rfl ?_
  refine cm_getR (q := 6) dX14_isRail_3 flX14_32 rfl (by assumption) (by assumption) rfl ?_
  refine cm_getI (q := 9) dX14_isRail_6 flX14_177 rfl (by assumption) rfl ?_
  rw [hn]
  refine am_iconst (q := 10) (v := 1) dX14_isRail_9 kc_i1 rfl ?_
  refine am_isub (q := 11) dX14_isRail_10 rfl ?_
  refine am_call1 (q := 14) (As := [_, _, _]) hG dX14_isRail_11 mlX14_72 rfl (Nat.le_of_ble_eq_true rfl) (Nat.le_of_ble_eq_true rfl) (Nat.le_of_ble_eq_true rfl) k_X14_isIn rfl ?_
  rintro _ _ ⟨rfl, rfl⟩
  rw [bI_c (k_below (by omega))]
  by_cases c : 0 ≤ i ∧ i < nI n
  · rw [bI_t c]
    exact am_iret dX14_isRail_14 rfl rfl ⟨_, rfl, rfl, rfl⟩
  · rw [bI_f c]
    exact am_iret dX14_isRail_14 rfl rfl ⟨_, rfl, rfl, rfl⟩
theorem k_X14_isFist {i : Int32} (hG : okG G) (ky : S.K y = 15) (ry : R y 8 = some bl) (kb : S.K bl = 13) {n : Nat} (hn : I bl 2 = nI n) (hn4 : n ≤ 8) : Fn G mX14_isFist 1 [vR y, vI i] (mw S I J R) (fun rr M1 => rr = some (vI (bI (0 ≤ i ∧ i < nI n))) ∧ M1 = mw S I J R) := by
  refine am_iload_n (q := 1) dX14_isFist_0 rfl rfl ?_
  refine am_iconst (q := 2) (v := 0) dX14_isFist_1 kc_i0 rfl ?_
  refine am_aload_n (q := 3) dX14_isFist_2 rfl rfl ?_
  refine cm_getR (q := 6) dX14_isFist_3 flX14_32 rfl (by assumption) (by assumption) rfl ?_
  refine cm_getI (q := 9) dX14_isFist_6 flX14_170 rfl (by assumption) rfl ?_
  rw [hn]
  refine am_iconst (q := 10) (v := 1) dX14_isFist_9 kc_i1 rfl ?_
  refine am_isub (q := 11) dX14_isFist_10 rfl ?_
  refine am_call1 (q := 14) (As := [_, _, _]) hG dX14_isFist_11 mlX14_72 rfl (Nat.le_of_ble_eq_true rfl) (Nat.le_of_ble_eq_true rfl) (Nat.le_of_ble_eq_true rfl) k_X14_isIn rfl ?_
  rintro _ _ ⟨rfl, rfl⟩
  rw [bI_c (k_below (by omega))]
  by_cases c : 0 ≤ i ∧ i < nI n
  · rw [bI_t c]
    exact am_iret dX14_isFist_14 rfl rfl ⟨_, rfl, rfl, rfl⟩
  · rw [bI_f c]
    exact am_iret dX14_isFist_14 rfl rfl ⟨_, rfl, rfl, rfl⟩
theorem k_X14_railTold {i w : Nat} (hG : okG G) (hC : MCc S R y bl nx) (hA : AbY I y bl s) (hi : i < s.B.nR) (hw : w < 5) : Fn G mX14_railTold 1 [vR y, vI (nI i), vI (nI w)] (mw S I J R) (fun rr M1 => rr = some (vI (s.m.rail i w)) ∧ M1 = mw S I J R) := by
  obtain ⟨⟨ky, ry, kb, b5, b6, b7, b8, b9, b11, b12, b13, ⟨k1, l1⟩, _⟩, _, rs, ra, ⟨kz, z6, z7, z8, z9, z10, _, ⟨kz2, lz2⟩, _⟩, _⟩ := hC
  obtain ⟨_, _, hB, hs, _⟩ := hA
  have u4 := hB.1.1.2
  by_cases c : w < 2
  · refine am_iload_n (q := 1) dX14_railTold_0 rfl rfl ?_
    refine am_iconst (q := 2) (v := 2) dX14_railTold_1 kc_i2 rfl ?_
    refine am_icmp_ge (tgt := 21) (q := 5) dX14_railTold_2 rfl rfl (fun hz => absurd hz (nI_ge (b := 2) c (by decide))) (fun _ => ?_)
    refine am_aload_n (q := 6) dX14_railTold_5 rfl rfl ?_
    refine cm_getR (q := 9) dX14_railTold_6 flX14_32 rfl (by assumption) (by assumption) rfl ?_
    refine cm_getR (q := 12) dX14_railTold_9 flX14_227 rfl (by assumption) (by assumption) rfl ?_
    refine am_iconst (q := 13) (v := 3) dX14_railTold_12 kc_i3 rfl ?_
    refine am_iload_n (q := 14) dX14_railTold_13 rfl rfl ?_
    refine am_imul (q := 15) dX14_railTold_14 rfl ?_
    refine am_iload_n (q := 16) dX14_railTold_15 rfl rfl ?_
    refine am_iadd (q := 17) dX14_railTold_16 rfl ?_
    rw [show (3 * nI i + nI w : Int32) = nI (3 * i + w) from k_lin 3 i w]
    refine cm_iaload (q := 18) dX14_railTold_17 (by assumption) (by rw [l1]; exact vp_in_nI (by omega) (by decide)) rfl ?_
    rw [nI_clamp (show 3 * i + w < 2 ^ 31 by omega)]
    obtain ⟨h1, h2, _⟩ := hB.2.2.1 i hi
    have e : I (bl + 1) (3 * i + w) = s.m.rail i w := by
      rcases (show w = 0 ∨ w = 1 by omega) with rfl | rfl
      · exact h1
      · exact h2
    rw [e]
    refine am_goto (tgt := 36) dX14_railTold_18 rfl ?_
    exact am_iret dX14_railTold_36 rfl rfl ⟨_, rfl, rfl, rfl⟩
  · refine am_iload_n (q := 1) dX14_railTold_0 rfl rfl ?_
    refine am_iconst (q := 2) (v := 2) dX14_railTold_1 kc_i2 rfl ?_
    refine am_icmp_ge (tgt := 21) (q := 5) dX14_railTold_2 rfl rfl (fun _ => ?_) (fun hz => absurd (nI_le (a := 2) (by omega) (by omega)) hz)
    obtain ⟨v, rfl⟩ : ∃ v, w = v + 2 := ⟨w - 2, by omega⟩
    refine am_aload_n (q := 22) dX14_railTold_21 rfl rfl ?_
    refine cm_getR (q := 25) dX14_railTold_22 flX14_51 rfl (by assumption) (by assumption) rfl ?_
    refine cm_getR (q := 28) dX14_railTold_25 flX14_284 rfl (by assumption) (by assumption) rfl ?_
    refine am_iconst (q := 29) (v := 3) dX14_railTold_28 kc_i3 rfl ?_
    refine am_iload_n (q := 30) dX14_railTold_29 rfl rfl ?_
    refine am_imul (q := 31) dX14_railTold_30 rfl ?_
    refine am_iload_n (q := 32) dX14_railTold_31 rfl rfl ?_
    refine am_iadd (q := 33) dX14_railTold_32 rfl ?_
    rw [show (3 * nI i + nI (v + 2) : Int32) = nI (3 * i + v + 2) by rw [show (3 : Int32) = nI 3 from rfl, k_lin]; rfl]
    refine am_iconst (q := 34) (v := 2) dX14_railTold_33 kc_i2 rfl ?_
    refine am_isub (q := 35) dX14_railTold_34 rfl ?_
    rw [show (nI (3 * i + v + 2) - 2 : Int32) = nI (3 * i + v) from k_nsub (q := 2) (by omega)]
    refine cm_iaload (q := 36) dX14_railTold_35 (by assumption) (by rw [lz2]; exact vp_in_nI (by omega) (by decide)) rfl ?_
    rw [nI_clamp (show 3 * i + v < 2 ^ 31 by omega), hs.2.2.1 i hi v (by omega)]
    exact am_iret dX14_railTold_36 rfl rfl ⟨_, rfl, rfl, rfl⟩
theorem k_X14_placeOf {i : Nat} (hC : MCc S R y bl nx) (hA : AbY I y bl s) (hi : i < s.B.nF) : Fn G mX14_placeOf 0 [vR y, vI (nI i)] (mw S I J R) (fun rr M1 => rr = some (vI (plcM s.B s.m (s.m.fist i 4))) ∧ M1 = mw S I J R) := by
  obtain ⟨⟨ky, ry, kb, _⟩, _, rs, ra, ⟨kz, z6, z7, z8, z9, z10, _, _, ⟨kz3, lz3⟩, _⟩, _⟩ := hC
  obtain ⟨_, _, hB, hs, _⟩ := hA
  have u4 := hB.1.2.1.2
  have a3 := hB.1.2.1.1
  have e : ∀ k, (7 * nI k + 2 : Int32) = nI (7 * k + 2) := fun k => k_lin 7 k 2
  refine am_iconst (q := 1) (v := 1) dX14_placeOf_0 kc_i1 rfl ?_
  refine am_istore_n (q := 2) (ls1 := [_, _, _, _]) dX14_placeOf_1 (Nat.le_of_ble_eq_true rfl) rfl rfl ?_
  refine am_iconst (q := 3) (v := 0) dX14_placeOf_2 kc_i0 rfl ?_
  refine am_istore_n (q := 4) (ls1 := [_, _, _, _]) dX14_placeOf_3 (Nat.le_of_ble_eq_true rfl) rfl rfl ?_
  refine k_loop (σ := Int32) (n := s.B.nF) (Inv := fun k v => v = 1 + sumM (fun j => bI (s.m.fist i 4 < s.m.fist j 4)) k) (W := fun k v => MW G mX14_placeOf 0 4 [some (vR y), some (vI (nI i)), some (vI v), some (vI (nI k))] [] (mw S I J R) _) ?_ ?_ 0 1 (Nat.zero_le _) rfl
  · rintro k v hk rfl ih
    have fin : ∀ w : Int32, w = bI (s.m.fist i 4 < s.m.fist k 4) → MW G mX14_placeOf 0 52 [some (vR y), some (vI (nI i)), some (vI (1 + sumM (fun j => bI (s.m.fist i 4 < s.m.fist j 4)) k)), some (vI (nI k))] [vI w, vI (1 + sumM (fun j => bI (s.m.fist i 4 < s.m.fist j 4)) k)] (mw S I J R) (fun f M1 => ∃ r, f = .inl r ∧ (r = some (vI (plcM s.B s.m (s.m.fist i 4))) ∧ M1 = mw S I J R)) := by
      intro w hw
      refine am_iadd (q := 53) dX14_placeOf_52 rfl ?_
      refine am_istore_n (q := 54) (ls1 := [_, _, _, _]) dX14_placeOf_53 (Nat.le_of_ble_eq_true rfl) rfl rfl ?_
      refine am_iincW (q := 57) (ls1 := [_, _, _, _]) (w := 1) dX14_placeOf_54 rfl (Nat.le_of_ble_eq_true rfl) kc_i1 rfl rfl ?_
      refine am_goto (tgt := 4) dX14_placeOf_57 rfl ?_
      rw [nI_1]
      exact ih _ (by rw [hw, Int32.add_assoc]; rfl)
    refine am_iload_n (q := 5) dX14_placeOf_4 rfl rfl ?_
    refine am_aload_n (q := 6) dX14_placeOf_5 rfl rfl ?_
    refine cm_getR (q := 9) dX14_placeOf_6 flX14_32 rfl (by assumption) (by assumption) rfl ?_
    refine cm_getI (q := 12) dX14_placeOf_9 flX14_170 rfl (by assumption) rfl ?_
    rw [a3]
    refine am_icmp_ge (tgt := 60) (q := 15) dX14_placeOf_12 rfl rfl (fun hz => absurd hz (nI_ge hk (by omega))) (fun _ => ?_)
    refine am_iload_n (q := 16) dX14_placeOf_15 rfl rfl ?_
    refine am_aload_n (q := 17) dX14_placeOf_16 rfl rfl ?_
    refine cm_getR (q := 20) dX14_placeOf_17 flX14_51 rfl (by assumption) (by assumption) rfl ?_
    refine cm_getR (q := 23) dX14_placeOf_20 flX14_283 rfl (by assumption) (by assumption) rfl ?_
    refine am_bipush (q := 25) (v := 7) dX14_placeOf_23 kc_b7 rfl ?_
    refine am_iload_n (q := 26) dX14_placeOf_25 rfl rfl ?_
    refine am_imul (q := 27) dX14_placeOf_26 rfl ?_
    refine am_iconst (q := 28) (v := 2) dX14_placeOf_27 kc_i2 rfl ?_
    refine am_iadd (q := 29) dX14_placeOf_28 rfl ?_
    rw [e]
    refine cm_iaload (q := 30) dX14_placeOf_29 (by assumption) (by rw [lz3]; exact vp_in_nI (by omega) (by decide)) rfl ?_
    refine am_aload_n (q := 31) dX14_placeOf_30 rfl rfl ?_
    refine cm_getR (q := 34) dX14_placeOf_31 flX14_51 rfl (by assumption) (by assumption) rfl ?_
    refine cm_getR (q := 37) dX14_placeOf_34 flX14_283 rfl (by assumption) (by assumption) rfl ?_
    refine am_bipush (q := 39) (v := 7) dX14_placeOf_37 kc_b7 rfl ?_
    refine am_iload_n (q := 40) dX14_placeOf_39 rfl rfl ?_
    refine am_imul (q := 41) dX14_placeOf_40 rfl ?_
    refine am_iconst (q := 42) (v := 2) dX14_placeOf_41 kc_i2 rfl ?_
    refine am_iadd (q := 43) dX14_placeOf_42 rfl ?_
    rw [e, nI_clamp (show 7 * k + 2 < 2 ^ 31 by omega), hs.2.2.2.1 k hk 2 (by decide)]
    refine cm_iaload (q := 44) dX14_placeOf_43 (by assumption) (by rw [lz3]; exact vp_in_nI (by omega) (by decide)) rfl ?_
    rw [nI_clamp (show 7 * i + 2 < 2 ^ 31 by omega), hs.2.2.2.1 i hi 2 (by decide)]
    refine am_icmp_le (tgt := 51) (q := 47) dX14_placeOf_44 rfl rfl (fun hc => ?_) (fun hc => ?_)
    · refine am_iconst (q := 52) (v := 0) dX14_placeOf_51 kc_i0 rfl ?_
      exact fin 0 (bI_f (Int32.not_lt.mpr hc)).symm
    · refine am_iconst (q := 48) (v := 1) dX14_placeOf_47 kc_i1 rfl ?_
      refine am_goto (tgt := 52) dX14_placeOf_48 rfl ?_
      exact fin 1 (bI_t (Int32.not_le.mp hc)).symm
  · rintro v rfl
    refine am_iload_n (q := 5) dX14_placeOf_4 rfl rfl ?_
    refine am_aload_n (q := 6) dX14_placeOf_5 rfl rfl ?_
    refine cm_getR (q := 9) dX14_placeOf_6 flX14_32 rfl (by assumption) (by assumption) rfl ?_
    refine cm_getI (q := 12) dX14_placeOf_9 flX14_170 rfl (by assumption) rfl ?_
    rw [a3]
    refine am_icmp_ge (tgt := 60) (q := 15) dX14_placeOf_12 rfl rfl (fun _ => ?_) (fun hz => absurd (Int32.le_refl _) hz)
    refine am_iload_n (q := 61) dX14_placeOf_60 rfl rfl ?_
    exact am_iret dX14_placeOf_61 rfl rfl ⟨_, rfl, rfl, rfl⟩
theorem k_X14_fistTold {i w : Nat} (hG : okG G) (hC : MCc S R y bl nx) (hA : AbY I y bl s) (hi : i < s.B.nF) (hw : w < 9) : Fn G mX14_fistTold 1 [vR y, vI (nI i), vI (nI w)] (mw S I J R) (fun rr M1 => rr = some (vI (tlF s.B s.m i w)) ∧ M1 = mw S I J R) := by
  have hC0 := hC
  have hA0 := hA
  obtain ⟨⟨ky, ry, kb, b5, b6, b7, b8, b9, b11, b12, b13, _, _, ⟨k3, l3⟩, _⟩, _, rs, ra, ⟨kz, z6, z7, z8, z9, z10, _, _, ⟨kz3, lz3⟩, _⟩, _⟩ := hC
  obtain ⟨_, _, hB, hs, _⟩ := hA
  have u4 := hB.1.2.1.2
  unfold tlF
  by_cases c : w < 2
  · rw [if_neg (by omega)]
    refine am_iload_n (q := 1) dX14_fistTold_0 rfl rfl ?_
    refine am_iconst (q := 2) (v := 2) dX14_fistTold_1 kc_i2 rfl ?_
    refine am_icmp_ge (tgt := 21) (q := 5) dX14_fistTold_2 rfl rfl (fun hz => absurd hz (nI_ge (b := 2) c (by decide))) (fun _ => ?_)
    refine am_aload_n (q := 6) dX14_fistTold_5 rfl rfl ?_
    refine cm_getR (q := 9) dX14_fistTold_6 flX14_32 rfl (by assumption) (by assumption) rfl ?_
    refine cm_getR (q := 12) dX14_fistTold_9 flX14_240 rfl (by assumption) (by assumption) rfl ?_
    refine am_iconst (q := 13) (v := 3) dX14_fistTold_12 kc_i3 rfl ?_
    refine am_iload_n (q := 14) dX14_fistTold_13 rfl rfl ?_
    refine am_imul (q := 15) dX14_fistTold_14 rfl ?_
    refine am_iload_n (q := 16) dX14_fistTold_15 rfl rfl ?_
    refine am_iadd (q := 17) dX14_fistTold_16 rfl ?_
    rw [show (3 * nI i + nI w : Int32) = nI (3 * i + w) from k_lin 3 i w]
    refine cm_iaload (q := 18) dX14_fistTold_17 (by assumption) (by rw [l3]; exact vp_in_nI (by omega) (by decide)) rfl ?_
    rw [nI_clamp (show 3 * i + w < 2 ^ 31 by omega)]
    obtain ⟨h1, h2⟩ := hB.2.2.2.1 i hi
    have e : I (bl + 3) (3 * i + w) = s.m.fist i w := by
      rcases (show w = 0 ∨ w = 1 by omega) with rfl | rfl
      · exact h1
      · exact h2
    rw [e]
    refine am_goto (tgt := 51) dX14_fistTold_18 rfl ?_
    exact am_iret dX14_fistTold_51 rfl rfl ⟨_, rfl, rfl, rfl⟩
  · refine am_iload_n (q := 1) dX14_fistTold_0 rfl rfl ?_
    refine am_iconst (q := 2) (v := 2) dX14_fistTold_1 kc_i2 rfl ?_
    refine am_icmp_ge (tgt := 21) (q := 5) dX14_fistTold_2 rfl rfl (fun _ => ?_) (fun hz => absurd (nI_le (a := 2) (by omega) (by omega)) hz)
    refine am_iload_n (q := 22) dX14_fistTold_21 rfl rfl ?_
    refine am_bipush (q := 24) (v := 8) dX14_fistTold_22 kc_b8 rfl ?_
    by_cases c8 : w = 8
    · rw [if_pos c8, c8]
      refine am_icmp_ne (tgt := 35) (q := 27) dX14_fistTold_24 rfl rfl (fun hz => absurd rfl hz) (fun _ => ?_)
      refine am_aload_n (q := 28) dX14_fistTold_27 rfl rfl ?_
      refine am_iload_n (q := 29) dX14_fistTold_28 rfl rfl ?_
      refine cm_call0 (q := 32) (As := [_]) hG dX14_fistTold_29 mlX14_375 rfl (by assumption) ⟨_, _, rfl⟩ (Nat.le_of_ble_eq_true rfl) (Nat.le_of_ble_eq_true rfl) (Nat.le_of_ble_eq_true rfl) (Nat.le_of_ble_eq_true rfl) (k_X14_placeOf hC0 hA0 hi) rfl ?_
      rintro _ _ ⟨rfl, rfl⟩
      refine am_goto (tgt := 51) dX14_fistTold_32 rfl ?_
      exact am_iret dX14_fistTold_51 rfl rfl ⟨_, rfl, rfl, rfl⟩
    · rw [if_neg c8]
      obtain ⟨v, rfl⟩ : ∃ v, w = v + 2 := ⟨w - 2, by omega⟩
      refine am_icmp_ne (tgt := 35) (q := 27) dX14_fistTold_24 rfl rfl (fun _ => ?_) (fun hz => absurd hz (fun q => c8 ((nI_eq (b := 8) (by omega) (by decide)).mp q)))
      refine am_aload_n (q := 36) dX14_fistTold_35 rfl rfl ?_
      refine cm_getR (q := 39) dX14_fistTold_36 flX14_51 rfl (by assumption) (by assumption) rfl ?_
      refine cm_getR (q := 42) dX14_fistTold_39 flX14_283 rfl (by assumption) (by assumption) rfl ?_
      refine am_bipush (q := 44) (v := 7) dX14_fistTold_42 kc_b7 rfl ?_
      refine am_iload_n (q := 45) dX14_fistTold_44 rfl rfl ?_
      refine am_imul (q := 46) dX14_fistTold_45 rfl ?_
      refine am_iload_n (q := 47) dX14_fistTold_46 rfl rfl ?_
      refine am_iadd (q := 48) dX14_fistTold_47 rfl ?_
      rw [show (7 * nI i + nI (v + 2) : Int32) = nI (7 * i + v + 2) by rw [show (7 : Int32) = nI 7 from rfl, k_lin]; rfl]
      refine am_iconst (q := 49) (v := 2) dX14_fistTold_48 kc_i2 rfl ?_
      refine am_isub (q := 50) dX14_fistTold_49 rfl ?_
      rw [show (nI (7 * i + v + 2) - 2 : Int32) = nI (7 * i + v) from k_nsub (q := 2) (by omega)]
      refine cm_iaload (q := 51) dX14_fistTold_50 (by assumption) (by rw [lz3]; exact vp_in_nI (by omega) (by decide)) rfl ?_
      rw [nI_clamp (show 7 * i + v < 2 ^ 31 by omega), hs.2.2.2.1 i hi v (by omega)]
      exact am_iret dX14_fistTold_51 rfl rfl ⟨_, rfl, rfl, rfl⟩
theorem k_X14_prizeTold {i w : Nat} (hG : okG G) (hC : MCc S R y bl nx) (hA : AbY I y bl s) (hi : i < s.B.nP) (hw : w < 4) : Fn G mX14_prizeTold 402 [vR y, vI (nI i), vI (nI w)] (mw S I J R) (fun rr M1 => rr = some (vI (tlP s.B s.m i w)) ∧ M1 = mw S I J R) := by
  have hM := hC.1
  have hS := hC.2.2.2.2.1
  obtain ⟨⟨ky, ry, kb, b5, b6, b7, b8, b9, b11, b12, b13, _, _, _, ⟨k4, l4⟩, _⟩, _, rs, ra, ⟨kz, z6, z7, z8, z9, z10, _, _, _, ⟨kz4, lz4⟩, _⟩, _⟩ := hC
  obtain ⟨_, _, hB, hs, _⟩ := hA
  have u4 := hB.1.2.2.1.2
  obtain ⟨n, t, w1, w2, w3, t1, t2, t3⟩ := hB.2.2.2.2.1 i hi
  have i2 : vp_in (nI (3 * i + 2)) (S.ln (bl + 4)) := by rw [l4]; exact vp_in_nI (by omega) (by decide)
  have i0 : vp_in (nI (3 * i)) (S.ln (bl + 4)) := by rw [l4]; exact vp_in_nI (by omega) (by decide)
  unfold tlP
  by_cases c : w < 2
  · rw [if_neg (by omega), if_neg (by omega)]
    refine am_iload_n (q := 1) dX14_prizeTold_0 rfl rfl ?_
    refine am_iconst (q := 2) (v := 2) dX14_prizeTold_1 kc_i2 rfl ?_
    refine am_icmp_ge (tgt := 21) (q := 5) dX14_prizeTold_2 rfl rfl (fun hz => absurd hz (nI_ge (b := 2) c (by decide))) (fun _ => ?_)
    refine am_aload_n (q := 6) dX14_prizeTold_5 rfl rfl ?_
    refine cm_getR (q := 9) dX14_prizeTold_6 flX14_51 rfl (by assumption) (by assumption) rfl ?_
    refine cm_getR (q := 12) dX14_prizeTold_9 flX14_285 rfl (by assumption) (by assumption) rfl ?_
    refine am_iconst (q := 13) (v := 2) dX14_prizeTold_12 kc_i2 rfl ?_
    refine am_iload_n (q := 14) dX14_prizeTold_13 rfl rfl ?_
    refine am_imul (q := 15) dX14_prizeTold_14 rfl ?_
    refine am_iload_n (q := 16) dX14_prizeTold_15 rfl rfl ?_
    refine am_iadd (q := 17) dX14_prizeTold_16 rfl ?_
    rw [show (2 * nI i + nI w : Int32) = nI (2 * i + w) from k_lin 2 i w]
    refine cm_iaload (q := 18) dX14_prizeTold_17 (by assumption) (by rw [lz4]; exact vp_in_nI (by omega) (by decide)) rfl ?_
    rw [nI_clamp (show 2 * i + w < 2 ^ 31 by omega), hs.2.2.2.2.1 i hi w c]
    refine am_goto (tgt := 77) dX14_prizeTold_18 rfl ?_
    exact am_iret dX14_prizeTold_77 rfl rfl ⟨_, rfl, rfl, rfl⟩
  · refine am_iload_n (q := 1) dX14_prizeTold_0 rfl rfl ?_
    refine am_iconst (q := 2) (v := 2) dX14_prizeTold_1 kc_i2 rfl ?_
    refine am_icmp_ge (tgt := 21) (q := 5) dX14_prizeTold_2 rfl rfl (fun _ => ?_) (fun hz => absurd (nI_le (a := 2) (by omega) (by omega)) hz)
    refine am_iload_n (q := 22) dX14_prizeTold_21 rfl rfl ?_
    refine am_iconst (q := 23) (v := 2) dX14_prizeTold_22 kc_i2 rfl ?_
    by_cases c2 : w = 2
    · rw [if_pos c2, c2]
      refine am_icmp_ne (tgt := 48) (q := 26) dX14_prizeTold_23 rfl rfl (fun hz => absurd rfl hz) (fun _ => ?_)
      refine am_aload_n (q := 27) dX14_prizeTold_26 rfl rfl ?_
      refine am_aload_n (q := 28) dX14_prizeTold_27 rfl rfl ?_
      refine cm_getR (q := 31) dX14_prizeTold_28 flX14_51 rfl (by assumption) (by assumption) rfl ?_
      refine am_aload_n (q := 32) dX14_prizeTold_31 rfl rfl ?_
      refine cm_getR (q := 35) dX14_prizeTold_32 flX14_32 rfl (by assumption) (by assumption) rfl ?_
      refine cm_getR (q := 38) dX14_prizeTold_35 flX14_243 rfl (by assumption) (by assumption) rfl ?_
      refine am_iconst (q := 39) (v := 3) dX14_prizeTold_38 kc_i3 rfl ?_
      refine am_iload_n (q := 40) dX14_prizeTold_39 rfl rfl ?_
      refine am_imul (q := 41) dX14_prizeTold_40 rfl ?_
      rw [show (3 * nI i : Int32) = nI (3 * i) from k_mul 3 i]
      refine cm_iaload (q := 42) dX14_prizeTold_41 (by assumption) i0 rfl ?_
      rw [nI_clamp (show 3 * i < 2 ^ 31 by omega), w1]
      refine cm_call0 (q := 45) (As := [_, _]) hG dX14_prizeTold_42 mlX14_286 rfl (by assumption) ⟨_, _, rfl⟩ (Nat.le_of_ble_eq_true rfl) (Nat.le_of_ble_eq_true rfl) (Nat.le_of_ble_eq_true rfl) (Nat.le_of_ble_eq_true rfl) (MW.deep (d := n + 1) (by omega) (k_X14_reckon hG hM hS hB.1.2.1.2 hB.1.1.2 u4 hs (n + 1) n (s.B.wo i) w3 w2) : Fn G mX14_reckon 401 _ _ _) rfl ?_
      rintro _ _ ⟨rfl, rfl⟩
      refine am_goto (tgt := 77) dX14_prizeTold_45 rfl ?_
      exact am_iret dX14_prizeTold_77 rfl rfl ⟨_, rfl, rfl, rfl⟩
    · rw [if_neg c2, if_pos (show w = 3 by omega)]
      have h01 := NdB_01 (rd := rdM s.B s.m) (fun g => by rw [rdM_326]; exact bI_01) _ _ _ t3
      refine am_icmp_ne (tgt := 48) (q := 26) dX14_prizeTold_23 rfl rfl (fun _ => ?_) (fun hz => absurd hz (fun q => c2 ((nI_eq (b := 2) (by omega) (by decide)).mp q)))
      refine am_aload_n (q := 49) dX14_prizeTold_48 rfl rfl ?_
      refine am_aload_n (q := 50) dX14_prizeTold_49 rfl rfl ?_
      refine cm_getR (q := 53) dX14_prizeTold_50 flX14_51 rfl (by assumption) (by assumption) rfl ?_
      refine am_aload_n (q := 54) dX14_prizeTold_53 rfl rfl ?_
      refine cm_getR (q := 57) dX14_prizeTold_54 flX14_32 rfl (by assumption) (by assumption) rfl ?_
      refine cm_getR (q := 60) dX14_prizeTold_57 flX14_243 rfl (by assumption) (by assumption) rfl ?_
      refine am_iconst (q := 61) (v := 3) dX14_prizeTold_60 kc_i3 rfl ?_
      refine am_iload_n (q := 62) dX14_prizeTold_61 rfl rfl ?_
      refine am_imul (q := 63) dX14_prizeTold_62 rfl ?_
      refine am_iconst (q := 64) (v := 2) dX14_prizeTold_63 kc_i2 rfl ?_
      refine am_iadd (q := 65) dX14_prizeTold_64 rfl ?_
      rw [show (3 * nI i + 2 : Int32) = nI (3 * i + 2) from k_lin 3 i 2]
      refine cm_iaload (q := 66) dX14_prizeTold_65 (by assumption) i2 rfl ?_
      rw [nI_clamp (show 3 * i + 2 < 2 ^ 31 by omega), t1]
      refine cm_call0 (q := 69) (As := [_, _]) hG dX14_prizeTold_66 mlX14_301 rfl (by assumption) ⟨_, _, rfl⟩ (Nat.le_of_ble_eq_true rfl) (Nat.le_of_ble_eq_true rfl) (Nat.le_of_ble_eq_true rfl) (Nat.le_of_ble_eq_true rfl) (MW.deep (d := t + 1) (by omega) (k_X14_holds hG hM hS hB.1.2.1.2 hB.1.1.2 u4 hs (t + 1) t (s.B.te i) t3 t2) : Fn G mX14_holds 401 _ _ _) rfl ?_
      rintro _ _ ⟨rfl, rfl⟩
      rcases h01 with e | e
      · rw [e]
        refine am_if_eq (tgt := 76) (q := 72) dX14_prizeTold_69 rfl rfl (fun _ => ?_) (fun hz => absurd rfl hz)
        refine am_iconst (q := 77) (v := 0) dX14_prizeTold_76 kc_i0 rfl ?_
        exact am_iret dX14_prizeTold_77 rfl rfl ⟨_, rfl, rfl, rfl⟩
      · rw [e]
        refine am_if_eq (tgt := 76) (q := 72) dX14_prizeTold_69 rfl rfl (fun hz => absurd hz (by decide)) (fun _ => ?_)
        refine am_iconst (q := 73) (v := 1) dX14_prizeTold_72 kc_i1 rfl ?_
        refine am_goto (tgt := 77) dX14_prizeTold_73 rfl ?_
        exact am_iret dX14_prizeTold_77 rfl rfl ⟨_, rfl, rfl, rfl⟩
end My

