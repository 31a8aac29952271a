theorem kc_bm20 : (Int8.ofInt (-20)).toInt32 = (-20) := by decide +kernel
theorem kc_b20 : (Int8.ofInt 20).toInt32 = 20 := by decide +kernel
theorem kc_b30 : (Int8.ofInt 30).toInt32 = 30 := by decide +kernel
theorem kc_i4 : Int32.ofInt 4 = 4 := by decide +kernel
theorem dX4_fly_0 : decode cX4_fly 0 = .ok (.aload_n 0, 1) := by decide +kernel
theorem dX4_fly_1 : decode cX4_fly 1 = .ok (.iconst 0, 1) := by decide +kernel
theorem dX4_fly_2 : decode cX4_fly 2 = .ok (.putfield 13, 3) := by decide +kernel
theorem dX4_fly_5 : decode cX4_fly 5 = .ok (.aload_n 0, 1) := by decide +kernel
theorem dX4_fly_6 : decode cX4_fly 6 = .ok (.iconst 0, 1) := by decide +kernel
theorem dX4_fly_7 : decode cX4_fly 7 = .ok (.putfield 17, 3) := by decide +kernel
theorem dX4_fly_10 : decode cX4_fly 10 = .ok (.aload_n 0, 1) := by decide +kernel
theorem dX4_fly_11 : decode cX4_fly 11 = .ok (.iconst 0, 1) := by decide +kernel
theorem dX4_fly_12 : decode cX4_fly 12 = .ok (.putfield 20, 3) := by decide +kernel
theorem dX4_fly_15 : decode cX4_fly 15 = .ok (.aload_n 0, 1) := by decide +kernel
theorem dX4_fly_16 : decode cX4_fly 16 = .ok (.iconst 0, 1) := by decide +kernel
theorem dX4_fly_17 : decode cX4_fly 17 = .ok (.putfield 23, 3) := by decide +kernel
theorem dX4_fly_20 : decode cX4_fly 20 = .ok (.aload_n 0, 1) := by decide +kernel
theorem dX4_fly_21 : decode cX4_fly 21 = .ok (.aload_n 1, 1) := by decide +kernel
theorem dX4_fly_22 : decode cX4_fly 22 = .ok (.getfield 26, 3) := by decide +kernel
theorem dX4_fly_25 : decode cX4_fly 25 = .ok (.ifCond .le 14, 3) := by decide +kernel
theorem dX4_fly_28 : decode cX4_fly 28 = .ok (.iconst 4, 1) := by decide +kernel
theorem dX4_fly_29 : decode cX4_fly 29 = .ok (.iload_n 2, 1) := by decide +kernel
theorem dX4_fly_30 : decode cX4_fly 30 = .ok (.imul, 1) := by decide +kernel
theorem dX4_fly_31 : decode cX4_fly 31 = .ok (.aload_n 1, 1) := by decide +kernel
theorem dX4_fly_32 : decode cX4_fly 32 = .ok (.getfield 26, 3) := by decide +kernel
theorem dX4_fly_35 : decode cX4_fly 35 = .ok (.idiv, 1) := by decide +kernel
theorem dX4_fly_36 : decode cX4_fly 36 = .ok (.goto 4, 3) := by decide +kernel
theorem dX4_fly_40 : decode cX4_fly 40 = .ok (.putfield 31, 3) := by decide +kernel
theorem dX4_fly_43 : decode cX4_fly 43 = .ok (.aload_n 0, 1) := by decide +kernel
theorem dX4_fly_44 : decode cX4_fly 44 = .ok (.aload_n 0, 1) := by decide +kernel
theorem dX4_fly_45 : decode cX4_fly 45 = .ok (.getfield 31, 3) := by decide +kernel
theorem dX4_fly_48 : decode cX4_fly 48 = .ok (.ifCond .ne 7, 3) := by decide +kernel
theorem dX4_fly_51 : decode cX4_fly 51 = .ok (.iconst 1, 1) := by decide +kernel
theorem dX4_fly_52 : decode cX4_fly 52 = .ok (.goto 4, 3) := by decide +kernel
theorem dX4_fly_55 : decode cX4_fly 55 = .ok (.iconst 0, 1) := by decide +kernel
theorem dX4_fly_56 : decode cX4_fly 56 = .ok (.putfield 34, 3) := by decide +kernel
theorem dX4_fly_59 : decode cX4_fly 59 = .ok (.iconst 1, 1) := by decide +kernel
theorem dX4_fly_60 : decode cX4_fly 60 = .ok (.istore_n 3, 1) := by decide +kernel
theorem dX4_fly_61 : decode cX4_fly 61 = .ok (.iload_n 3, 1) := by decide +kernel
theorem dX4_fly_62 : decode cX4_fly 62 = .ok (.aload_n 0, 1) := by decide +kernel
theorem dX4_fly_63 : decode cX4_fly 63 = .ok (.getfield 9, 3) := by decide +kernel
theorem dX4_fly_66 : decode cX4_fly 66 = .ok (.arraylength, 1) := by decide +kernel
theorem dX4_fly_67 : decode cX4_fly 67 = .ok (.if_icmp .ge 62, 3) := by decide +kernel
theorem dX4_fly_70 : decode cX4_fly 70 = .ok (.aload_n 0, 1) := by decide +kernel
theorem dX4_fly_71 : decode cX4_fly 71 = .ok (.getfield 34, 3) := by decide +kernel
theorem dX4_fly_74 : decode cX4_fly 74 = .ok (.ifCond .ne 55, 3) := by decide +kernel
theorem dX4_fly_77 : decode cX4_fly 77 = .ok (.aload_n 0, 1) := by decide +kernel
theorem dX4_fly_78 : decode cX4_fly 78 = .ok (.aload_n 1, 1) := by decide +kernel
theorem dX4_fly_79 : decode cX4_fly 79 = .ok (.invokevirtual 38, 3) := by decide +kernel
theorem dX4_fly_82 : decode cX4_fly 82 = .ok (.aload_n 0, 1) := by decide +kernel
theorem dX4_fly_83 : decode cX4_fly 83 = .ok (.getfield 9, 3) := by decide +kernel
theorem dX4_fly_86 : decode cX4_fly 86 = .ok (.iload_n 3, 1) := by decide +kernel
theorem dX4_fly_87 : decode cX4_fly 87 = .ok (.aload_n 0, 1) := by decide +kernel
theorem dX4_fly_88 : decode cX4_fly 88 = .ok (.getfield 23, 3) := by decide +kernel
theorem dX4_fly_91 : decode cX4_fly 91 = .ok (.iastore, 1) := by decide +kernel
theorem dX4_fly_92 : decode cX4_fly 92 = .ok (.aload_n 0, 1) := by decide +kernel
theorem dX4_fly_93 : decode cX4_fly 93 = .ok (.aload_n 0, 1) := by decide +kernel
theorem dX4_fly_94 : decode cX4_fly 94 = .ok (.getfield 23, 3) := by decide +kernel
theorem dX4_fly_97 : decode cX4_fly 97 = .ok (.aload_n 0, 1) := by decide +kernel
theorem dX4_fly_98 : decode cX4_fly 98 = .ok (.getfield 13, 3) := by decide +kernel
theorem dX4_fly_101 : decode cX4_fly 101 = .ok (.if_icmp .le 10, 3) := by decide +kernel
theorem dX4_fly_104 : decode cX4_fly 104 = .ok (.aload_n 0, 1) := by decide +kernel
theorem dX4_fly_105 : decode cX4_fly 105 = .ok (.getfield 23, 3) := by decide +kernel
theorem dX4_fly_108 : decode cX4_fly 108 = .ok (.goto 7, 3) := by decide +kernel
theorem dX4_fly_111 : decode cX4_fly 111 = .ok (.aload_n 0, 1) := by decide +kernel
theorem dX4_fly_112 : decode cX4_fly 112 = .ok (.getfield 13, 3) := by decide +kernel
theorem dX4_fly_115 : decode cX4_fly 115 = .ok (.putfield 13, 3) := by decide +kernel
theorem dX4_fly_118 : decode cX4_fly 118 = .ok (.aload_n 0, 1) := by decide +kernel
theorem dX4_fly_119 : decode cX4_fly 119 = .ok (.iload_n 3, 1) := by decide +kernel
theorem dX4_fly_120 : decode cX4_fly 120 = .ok (.putfield 20, 3) := by decide +kernel
theorem dX4_fly_123 : decode cX4_fly 123 = .ok (.iinc 3 1, 3) := by decide +kernel
theorem dX4_fly_126 : decode cX4_fly 126 = .ok (.goto (-65), 3) := by decide +kernel
theorem dX4_fly_129 : decode cX4_fly 129 = .ok (.return_, 1) := by decide +kernel
theorem dX4_move_0 : decode cX4_move 0 = .ok (.aload_n 0, 1) := by decide +kernel
theorem dX4_move_1 : decode cX4_move 1 = .ok (.dup, 1) := by decide +kernel
theorem dX4_move_2 : decode cX4_move 2 = .ok (.getfield 23, 3) := by decide +kernel
theorem dX4_move_5 : decode cX4_move 5 = .ok (.aload_n 0, 1) := by decide +kernel
theorem dX4_move_6 : decode cX4_move 6 = .ok (.getfield 31, 3) := by decide +kernel
theorem dX4_move_9 : decode cX4_move 9 = .ok (.iadd, 1) := by decide +kernel
theorem dX4_move_10 : decode cX4_move 10 = .ok (.putfield 23, 3) := by decide +kernel
theorem dX4_move_13 : decode cX4_move 13 = .ok (.aload_n 0, 1) := by decide +kernel
theorem dX4_move_14 : decode cX4_move 14 = .ok (.getfield 23, 3) := by decide +kernel
theorem dX4_move_17 : decode cX4_move 17 = .ok (.aload_n 1, 1) := by decide +kernel
theorem dX4_move_18 : decode cX4_move 18 = .ok (.getfield 42, 3) := by decide +kernel
theorem dX4_move_21 : decode cX4_move 21 = .ok (.if_icmp .lt 41, 3) := by decide +kernel
theorem dX4_move_24 : decode cX4_move 24 = .ok (.aload_n 0, 1) := by decide +kernel
theorem dX4_move_25 : decode cX4_move 25 = .ok (.aload_n 1, 1) := by decide +kernel
theorem dX4_move_26 : decode cX4_move 26 = .ok (.getfield 42, 3) := by decide +kernel
theorem dX4_move_29 : decode cX4_move 29 = .ok (.putfield 23, 3) := by decide +kernel
theorem dX4_move_32 : decode cX4_move 32 = .ok (.aload_n 0, 1) := by decide +kernel
theorem dX4_move_33 : decode cX4_move 33 = .ok (.dup, 1) := by decide +kernel
theorem dX4_move_34 : decode cX4_move 34 = .ok (.getfield 17, 3) := by decide +kernel
theorem dX4_move_37 : decode cX4_move 37 = .ok (.iconst 1, 1) := by decide +kernel
theorem dX4_move_38 : decode cX4_move 38 = .ok (.iadd, 1) := by decide +kernel
theorem dX4_move_39 : decode cX4_move 39 = .ok (.putfield 17, 3) := by decide +kernel
theorem dX4_move_42 : decode cX4_move 42 = .ok (.aload_n 0, 1) := by decide +kernel
theorem dX4_move_43 : decode cX4_move 43 = .ok (.aload_n 0, 1) := by decide +kernel
theorem dX4_move_44 : decode cX4_move 44 = .ok (.getfield 31, 3) := by decide +kernel
theorem dX4_move_47 : decode cX4_move 47 = .ok (.aload_n 1, 1) := by decide +kernel
theorem dX4_move_48 : decode cX4_move 48 = .ok (.getfield 45, 3) := by decide +kernel
theorem dX4_move_51 : decode cX4_move 51 = .ok (.imul, 1) := by decide +kernel
theorem dX4_move_52 : decode cX4_move 52 = .ok (.bipush 20, 2) := by decide +kernel
theorem dX4_move_54 : decode cX4_move 54 = .ok (.idiv, 1) := by decide +kernel
theorem dX4_move_55 : decode cX4_move 55 = .ok (.ineg, 1) := by decide +kernel
theorem dX4_move_56 : decode cX4_move 56 = .ok (.putfield 31, 3) := by decide +kernel
theorem dX4_move_59 : decode cX4_move 59 = .ok (.goto 49, 3) := by decide +kernel
theorem dX4_move_62 : decode cX4_move 62 = .ok (.aload_n 0, 1) := by decide +kernel
theorem dX4_move_63 : decode cX4_move 63 = .ok (.getfield 23, 3) := by decide +kernel
theorem dX4_move_66 : decode cX4_move 66 = .ok (.ifCond .gt 42, 3) := by decide +kernel
theorem dX4_move_69 : decode cX4_move 69 = .ok (.aload_n 0, 1) := by decide +kernel
theorem dX4_move_70 : decode cX4_move 70 = .ok (.iconst 0, 1) := by decide +kernel
theorem dX4_move_71 : decode cX4_move 71 = .ok (.putfield 23, 3) := by decide +kernel
theorem dX4_move_74 : decode cX4_move 74 = .ok (.aload_n 0, 1) := by decide +kernel
theorem dX4_move_75 : decode cX4_move 75 = .ok (.aload_n 0, 1) := by decide +kernel
theorem dX4_move_76 : decode cX4_move 76 = .ok (.getfield 31, 3) := by decide +kernel
theorem dX4_move_79 : decode cX4_move 79 = .ok (.ineg, 1) := by decide +kernel
theorem dX4_move_80 : decode cX4_move 80 = .ok (.aload_n 1, 1) := by decide +kernel
theorem dX4_move_81 : decode cX4_move 81 = .ok (.getfield 45, 3) := by decide +kernel
theorem dX4_move_84 : decode cX4_move 84 = .ok (.imul, 1) := by decide +kernel
theorem dX4_move_85 : decode cX4_move 85 = .ok (.bipush 30, 2) := by decide +kernel
theorem dX4_move_87 : decode cX4_move 87 = .ok (.idiv, 1) := by decide +kernel
theorem dX4_move_88 : decode cX4_move 88 = .ok (.putfield 31, 3) := by decide +kernel
theorem dX4_move_91 : decode cX4_move 91 = .ok (.aload_n 0, 1) := by decide +kernel
theorem dX4_move_92 : decode cX4_move 92 = .ok (.aload_n 0, 1) := by decide +kernel
theorem dX4_move_93 : decode cX4_move 93 = .ok (.getfield 31, 3) := by decide +kernel
theorem dX4_move_96 : decode cX4_move 96 = .ok (.iconst 1, 1) := by decide +kernel
theorem dX4_move_97 : decode cX4_move 97 = .ok (.if_icmp .gt 7, 3) := by decide +kernel
theorem dX4_move_100 : decode cX4_move 100 = .ok (.iconst 1, 1) := by decide +kernel
theorem dX4_move_101 : decode cX4_move 101 = .ok (.goto 4, 3) := by decide +kernel
theorem dX4_move_104 : decode cX4_move 104 = .ok (.iconst 0, 1) := by decide +kernel
theorem dX4_move_105 : decode cX4_move 105 = .ok (.putfield 34, 3) := by decide +kernel
theorem dX4_move_108 : decode cX4_move 108 = .ok (.aload_n 0, 1) := by decide +kernel
theorem dX4_move_109 : decode cX4_move 109 = .ok (.getfield 31, 3) := by decide +kernel
theorem dX4_move_112 : decode cX4_move 112 = .ok (.ifCond .le 35, 3) := by decide +kernel
theorem dX4_move_115 : decode cX4_move 115 = .ok (.aload_n 0, 1) := by decide +kernel
theorem dX4_move_116 : decode cX4_move 116 = .ok (.getfield 31, 3) := by decide +kernel
theorem dX4_move_119 : decode cX4_move 119 = .ok (.iconst 1, 1) := by decide +kernel
theorem dX4_move_120 : decode cX4_move 120 = .ok (.isub, 1) := by decide +kernel
theorem dX4_move_121 : decode cX4_move 121 = .ok (.aload_n 1, 1) := by decide +kernel
theorem dX4_move_122 : decode cX4_move 122 = .ok (.aload_n 0, 1) := by decide +kernel
theorem dX4_move_123 : decode cX4_move 123 = .ok (.getfield 23, 3) := by decide +kernel
theorem dX4_move_126 : decode cX4_move 126 = .ok (.invokevirtual 48, 3) := by decide +kernel
theorem dX4_move_129 : decode cX4_move 129 = .ok (.isub, 1) := by decide +kernel
theorem dX4_move_130 : decode cX4_move 130 = .ok (.istore_n 2, 1) := by decide +kernel
theorem dX4_move_131 : decode cX4_move 131 = .ok (.aload_n 0, 1) := by decide +kernel
theorem dX4_move_132 : decode cX4_move 132 = .ok (.iload_n 2, 1) := by decide +kernel
theorem dX4_move_133 : decode cX4_move 133 = .ok (.ifCond .le 7, 3) := by decide +kernel
theorem dX4_move_136 : decode cX4_move 136 = .ok (.iload_n 2, 1) := by decide +kernel
theorem dX4_move_137 : decode cX4_move 137 = .ok (.goto 4, 3) := by decide +kernel
theorem dX4_move_140 : decode cX4_move 140 = .ok (.iconst 0, 1) := by decide +kernel
theorem dX4_move_141 : decode cX4_move 141 = .ok (.putfield 31, 3) := by decide +kernel
theorem dX4_move_144 : decode cX4_move 144 = .ok (.goto 29, 3) := by decide +kernel
theorem dX4_move_147 : decode cX4_move 147 = .ok (.aload_n 0, 1) := by decide +kernel
theorem dX4_move_148 : decode cX4_move 148 = .ok (.aload_n 0, 1) := by decide +kernel
theorem dX4_move_149 : decode cX4_move 149 = .ok (.getfield 31, 3) := by decide +kernel
theorem dX4_move_152 : decode cX4_move 152 = .ok (.iconst 1, 1) := by decide +kernel
theorem dX4_move_153 : decode cX4_move 153 = .ok (.isub, 1) := by decide +kernel
theorem dX4_move_154 : decode cX4_move 154 = .ok (.bipush (-20), 2) := by decide +kernel
theorem dX4_move_156 : decode cX4_move 156 = .ok (.if_icmp .le 12, 3) := by decide +kernel
theorem dX4_move_159 : decode cX4_move 159 = .ok (.aload_n 0, 1) := by decide +kernel
theorem dX4_move_160 : decode cX4_move 160 = .ok (.getfield 31, 3) := by decide +kernel
theorem dX4_move_163 : decode cX4_move 163 = .ok (.iconst 1, 1) := by decide +kernel
theorem dX4_move_164 : decode cX4_move 164 = .ok (.isub, 1) := by decide +kernel
theorem dX4_move_165 : decode cX4_move 165 = .ok (.goto 5, 3) := by decide +kernel
theorem dX4_move_168 : decode cX4_move 168 = .ok (.bipush (-20), 2) := by decide +kernel
theorem dX4_move_170 : decode cX4_move 170 = .ok (.putfield 31, 3) := by decide +kernel
theorem dX4_move_173 : decode cX4_move 173 = .ok (.return_, 1) := by decide +kernel
/-! the flight: what it is, and the class's Flight -/
def fP (hi pl v : Int32) : Int32 := if hi ≤ pl + v then hi else if pl + v ≤ 0 then 0 else pl + v
def fV (hi sp pl v : Int32) : Int32 := if hi ≤ pl + v then -(v * sp / 20) else if pl + v ≤ 0 then -v * sp / 30 else v
def fO (hi sp pl v o : Int32) : Int32 := if hi ≤ pl + v then o else if pl + v ≤ 0 then bI (-v * sp / 30 ≤ 1) else o
def fB (hi pl v b : Int32) : Int32 := if hi ≤ pl + v then b + 1 else b
def fW (r v : Int32) : Int32 := if 0 < v then (if 0 < v - 1 - r then v - 1 - r else 0) else if -20 < v - 1 then v - 1 else -20
/-- behind n ticks: place, speed, height, bells, ticks, whether it is over -/
def flS (hi sp : Int32) (ru : Int32 → Int32) (v0 : Int32) : Nat → Int32 × Int32 × Int32 × Int32 × Nat × Int32
  | 0 => (0, v0, 0, 0, 0, bI (v0 = 0))
  | n + 1 =>
    let s := flS hi sp ru v0 n
    if s.2.2.2.2.2 = 0 then
      (fP hi s.1 s.2.1, fW (ru (fP hi s.1 s.2.1)) (fV hi sp s.1 s.2.1), if s.2.2.1 < fP hi s.1 s.2.1 then fP hi s.1 s.2.1 else s.2.2.1, fB hi s.1 s.2.1 s.2.2.2.1, s.2.2.2.2.1 + 1, fO hi sp s.1 s.2.1 s.2.2.2.2.2)
    else s
theorem flS_stop {hi sp : Int32} {ru : Int32 → Int32} {v0 : Int32} {n : Nat} (h : (flS hi sp ru v0 n).2.2.2.2.2 ≠ 0) : ∀ m, flS hi sp ru v0 (n + m) = flS hi sp ru v0 n := by
  intro m
  induction m with
  | zero => rfl
  | succ m ih =>
    show (if (flS hi sp ru v0 (n + m)).2.2.2.2.2 = 0 then _ else flS hi sp ru v0 (n + m)) = _
    rw [ih, if_neg h]
theorem flS_ticks {hi sp : Int32} {ru : Int32 → Int32} {v0 : Int32} : ∀ n, (flS hi sp ru v0 n).2.2.2.2.1 ≤ n ∧ ((flS hi sp ru v0 n).2.2.2.2.2 = 0 → (flS hi sp ru v0 n).2.2.2.2.1 = n) ∧ flS hi sp ru v0 (flS hi sp ru v0 n).2.2.2.2.1 = flS hi sp ru v0 n ∧ ∀ m, m < (flS hi sp ru v0 n).2.2.2.2.1 → (flS hi sp ru v0 m).2.2.2.2.2 = 0 := by
  intro n
  induction n with
  | zero => exact ⟨Nat.le_refl _, fun _ => rfl, rfl, fun m h => absurd h (Nat.not_lt_zero m)⟩
  | succ n ih =>
    obtain ⟨h1, h2, h3, h4⟩ := ih
    by_cases h : (flS hi sp ru v0 n).2.2.2.2.2 = 0
    · have e := h2 h
      have et : (flS hi sp ru v0 (n + 1)).2.2.2.2.1 = n + 1 := by
        show (if (flS hi sp ru v0 n).2.2.2.2.2 = 0 then _ else flS hi sp ru v0 n).2.2.2.2.1 = n + 1
        rw [if_pos h]
        show (flS hi sp ru v0 n).2.2.2.2.1 + 1 = n + 1
        rw [e]
      refine ⟨by rw [et]; exact Nat.le_refl _, fun _ => et, by rw [et], fun m hm => ?_⟩
      rw [et] at hm
      by_cases q : m = n
      · rw [q]
        exact h
      · exact h4 m (by rw [e]; omega)
    · have e : flS hi sp ru v0 (n + 1) = flS hi sp ru v0 n := flS_stop h 1
      rw [e]
      exact ⟨by omega, fun q => absurd q h, h3, h4⟩
theorem k_nm {P : (Nat → Nat → Int32) → Prop} (I0 : Nat → Nat → Int32) (h : ∀ Im : Nat → Nat → Int32, (∀ x j, Im x j = I0 x j) → P Im) : P I0 := h I0 (fun _ _ => rfl)
section FlightB
variable {G : Gp} {S : AMem} {I : Nat → Nat → Int32} {J : Nat → Nat → Int64} {R : Nat → Nat → Option Nat} {a b r u : Nat}
/-- the rust of the class at a place -/
def ruC (I : Nat → Nat → Int32) (u : Nat) (p : Int32) : Int32 := if 0 ≤ p ∧ p < 100 then I u p.toNatClampNeg else 0
theorem k_X4_move_tail (hG : okG G) (h1 : S.K a = 5) (g1 : S.K r = 7) (g2 : R r 0 = some u) (g3 : S.K u = 20) (g4 : S.ln u = 100) {I0 : Nat → Nat → Int32} {Q : (Option AV ⊕ Nat) → AMem → Prop} (hQ : Q (.inl none) (mw S (up2 I0 a 5 (fW (ruC I0 u (I0 a 4)) (I0 a 5))) J R)) : MW G mX4_move 1 108 [some (vR a), some (vR r), none] [] (mw S I0 J R) Q := by
  refine am_aload_n (q := 109) dX4_move_108 rfl rfl ?_
  refine cm_getI (q := 112) dX4_move_109 flX4_31 rfl (by assumption) rfl ?_
  refine am_if_le (tgt := 147) (q := 115) dX4_move_112 rfl rfl (fun hc => ?_) (fun hc => ?_)
  · refine am_aload_n (q := 148) dX4_move_147 rfl rfl ?_
    refine am_aload_n (q := 149) dX4_move_148 rfl rfl ?_
    refine cm_getI (q := 152) dX4_move_149 flX4_31 rfl (by assumption) rfl ?_
    refine am_iconst (q := 153) (v := 1) dX4_move_152 kc_i1 rfl ?_
    refine am_isub (q := 154) dX4_move_153 rfl ?_
    refine am_bipush (q := 156) (v := (-20)) dX4_move_154 kc_bm20 rfl ?_
    refine am_icmp_le (tgt := 168) (q := 159) dX4_move_156 rfl rfl (fun hc2 => ?_) (fun hc2 => ?_)
    · refine am_bipush (q := 170) (v := (-20)) dX4_move_168 kc_bm20 rfl ?_
      refine cm_putI (q := 173) dX4_move_170 flX4_31 rfl (Or.inl rfl) (Or.inl rfl) (by assumption) rfl ?_
      exact am_ret dX4_move_173 rfl (by rw [fW, if_neg (Int32.not_lt.mpr hc), if_neg (Int32.not_lt.mpr hc2)] at hQ; exact hQ)
    · refine am_aload_n (q := 160) dX4_move_159 rfl rfl ?_
      refine cm_getI (q := 163) dX4_move_160 flX4_31 rfl (by assumption) rfl ?_
      refine am_iconst (q := 164) (v := 1) dX4_move_163 kc_i1 rfl ?_
      refine am_isub (q := 165) dX4_move_164 rfl ?_
      refine am_goto (tgt := 170) dX4_move_165 rfl ?_
      refine cm_putI (q := 173) dX4_move_170 flX4_31 rfl (Or.inl rfl) (Or.inl rfl) (by assumption) rfl ?_
      exact am_ret dX4_move_173 rfl (by rw [fW, if_neg (Int32.not_lt.mpr hc), if_pos (Int32.not_le.mp hc2)] at hQ; exact hQ)
  · refine am_aload_n (q := 116) dX4_move_115 rfl rfl ?_
    refine cm_getI (q := 119) dX4_move_116 flX4_31 rfl (by assumption) rfl ?_
    refine am_iconst (q := 120) (v := 1) dX4_move_119 kc_i1 rfl ?_
    refine am_isub (q := 121) dX4_move_120 rfl ?_
    refine am_aload_n (q := 122) dX4_move_121 rfl rfl ?_
    refine am_aload_n (q := 123) dX4_move_122 rfl rfl ?_
    refine cm_getI (q := 126) dX4_move_123 flX4_23 rfl (by assumption) rfl ?_
    refine cm_call0 (q := 129) (As := [_]) hG dX4_move_126 mlX4_48 rfl (by assumption) ⟨_, _, rfl⟩ (Nat.le_of_ble_eq_true rfl) (Nat.le_of_ble_eq_true rfl) (Nat.le_of_ble_eq_true rfl) (Nat.le_of_ble_eq_true rfl) (k_X6_rustAt g1 g2 g3 g4) rfl ?_
    rintro _ _ ⟨rfl, rfl⟩
    refine am_isub (q := 130) dX4_move_129 rfl ?_
    refine am_istore_n (q := 131) (ls1 := [_, _, _]) dX4_move_130 (Nat.le_of_ble_eq_true rfl) rfl rfl ?_
    refine am_aload_n (q := 132) dX4_move_131 rfl rfl ?_
    refine am_iload_n (q := 133) dX4_move_132 rfl rfl ?_
    refine am_if_le (tgt := 140) (q := 136) dX4_move_133 rfl rfl (fun hc2 => ?_) (fun hc2 => ?_)
    · refine am_iconst (q := 141) (v := 0) dX4_move_140 kc_i0 rfl ?_
      refine cm_putI (q := 144) dX4_move_141 flX4_31 rfl (Or.inl rfl) (Or.inl rfl) (by assumption) rfl ?_
      refine am_goto (tgt := 173) dX4_move_144 rfl ?_
      exact am_ret dX4_move_173 rfl (by have hc3 : I0 a 5 - 1 - ruC I0 u (I0 a 4) ≤ 0 := hc2; rw [fW, if_pos (Int32.not_le.mp hc), if_neg (Int32.not_lt.mpr hc3)] at hQ; exact hQ)
    · refine am_iload_n (q := 137) dX4_move_136 rfl rfl ?_
      refine am_goto (tgt := 141) dX4_move_137 rfl ?_
      refine cm_putI (q := 144) dX4_move_141 flX4_31 rfl (Or.inl rfl) (Or.inl rfl) (by assumption) rfl ?_
      refine am_goto (tgt := 173) dX4_move_144 rfl ?_
      exact am_ret dX4_move_173 rfl (by have hc3 : ¬ I0 a 5 - 1 - ruC I0 u (I0 a 4) ≤ 0 := hc2; rw [fW, if_pos (Int32.not_le.mp hc), if_pos (Int32.not_le.mp hc3)] at hQ; exact hQ)
theorem k_X4_move (hG : okG G) (h1 : S.K a = 5) (g1 : S.K r = 7) (g2 : R r 0 = some u) (g3 : S.K u = 20) (g4 : S.ln u = 100) : Fn G mX4_move 1 [vR a, vR r] (mw S I J R) (fun rr M1 => rr = none ∧ M1 = mw S (fun x j => if x = a ∧ j = 4 then fP (I r 2) (I a 4) (I a 5) else if x = a ∧ j = 5 then fW (ruC I u (fP (I r 2) (I a 4) (I a 5))) (fV (I r 2) (I r 4) (I a 4) (I a 5)) else if x = a ∧ j = 2 then fB (I r 2) (I a 4) (I a 5) (I a 2) else if x = a ∧ j = 6 then fO (I r 2) (I r 4) (I a 4) (I a 5) (I a 6) else I x j) J R) := by
  have n1 : r ≠ a := fun e => by rw [e, h1] at g1; exact absurd g1 (by decide)
  have n2 : u ≠ a := fun e => by rw [e, h1] at g3; exact absurd g3 (by decide)
  refine am_aload_n (q := 1) dX4_move_0 rfl rfl ?_
  refine am_dup (q := 2) dX4_move_1 rfl rfl ?_
  refine cm_getI (q := 5) dX4_move_2 flX4_23 rfl (by assumption) rfl ?_
  refine am_aload_n (q := 6) dX4_move_5 rfl rfl ?_
  refine cm_getI (q := 9) dX4_move_6 flX4_31 rfl (by assumption) rfl ?_
  refine am_iadd (q := 10) dX4_move_9 rfl ?_
  refine cm_putI (q := 13) dX4_move_10 flX4_23 rfl (Or.inl rfl) (Or.inl rfl) (by assumption) rfl ?_
  refine am_aload_n (q := 14) dX4_move_13 rfl rfl ?_
  refine cm_getI (q := 17) dX4_move_14 flX4_23 rfl (by assumption) rfl ?_
  refine am_aload_n (q := 18) dX4_move_17 rfl rfl ?_
  refine cm_getI (q := 21) dX4_move_18 flX4_42 rfl (by assumption) rfl ?_
  rw [up2_s, up2_a n1]
  have hru : ∀ (I0 : Nat → Nat → Int32) (p : Int32), (∀ j, I0 u j = I u j) → ruC I0 u p = ruC I u p := fun I0 p h => by unfold ruC; rw [h]
  refine am_icmp_lt (tgt := 62) (q := 24) dX4_move_21 rfl rfl (fun hc => ?_) (fun hc => ?_)
  · refine am_aload_n (q := 63) dX4_move_62 rfl rfl ?_
    refine cm_getI (q := 66) dX4_move_63 flX4_23 rfl (by assumption) rfl ?_
    refine am_if_gt (tgt := 108) (q := 69) dX4_move_66 rfl rfl (fun hc2 => ?_) (fun hc2 => ?_)
    · refine k_X4_move_tail hG h1 g1 g2 g3 g4 ⟨_, rfl, rfl, ?_⟩
      rw [hru _ _ (fun j => by rw [up2_a n2])]
      rw [up2_s] at hc2
      simp only [fP, fV, fO, fB]
      rw [if_neg (Int32.not_le.mpr hc), if_neg (Int32.not_le.mpr hc2), if_neg (Int32.not_le.mpr hc), if_neg (Int32.not_le.mpr hc2)]
      congr 1
      funext x j
      simp only [up2_at]
      grind (splits := 30)
    · rw [up2_s] at hc2
      have hc3 := Int32.not_lt.mp hc2
      have hb1 : ¬ I r 2 ≤ I a 4 + I a 5 := Int32.not_le.mpr hc
      refine am_aload_n (q := 70) dX4_move_69 rfl rfl ?_
      refine am_iconst (q := 71) (v := 0) dX4_move_70 kc_i0 rfl ?_
      refine cm_putI (q := 74) dX4_move_71 flX4_23 rfl (Or.inl rfl) (Or.inl rfl) (by assumption) rfl ?_
      refine am_aload_n (q := 75) dX4_move_74 rfl rfl ?_
      refine am_aload_n (q := 76) dX4_move_75 rfl rfl ?_
      refine cm_getI (q := 79) dX4_move_76 flX4_31 rfl (by assumption) rfl ?_
      refine am_ineg (q := 80) dX4_move_79 rfl ?_
      refine am_aload_n (q := 81) dX4_move_80 rfl rfl ?_
      refine cm_getI (q := 84) dX4_move_81 flX4_45 rfl (by assumption) rfl ?_
      refine am_imul (q := 85) dX4_move_84 rfl ?_
      refine am_bipush (q := 87) (v := 30) dX4_move_85 kc_b30 rfl ?_
      refine am_idiv (q := 88) dX4_move_87 (by decide) rfl ?_
      refine cm_putI (q := 91) dX4_move_88 flX4_31 rfl (Or.inl rfl) (Or.inl rfl) (by assumption) rfl ?_
      refine am_aload_n (q := 92) dX4_move_91 rfl rfl ?_
      refine am_aload_n (q := 93) dX4_move_92 rfl rfl ?_
      refine cm_getI (q := 96) dX4_move_93 flX4_31 rfl (by assumption) rfl ?_
      refine am_iconst (q := 97) (v := 1) dX4_move_96 kc_i1 rfl ?_
      simp only [up2_s, up2_a n1, up2_j (show (5 : Nat) ≠ 4 by decide)]
      refine am_icmp_gt (tgt := 104) (q := 100) dX4_move_97 rfl rfl (fun hc4 => ?_) (fun hc4 => ?_)
      · refine am_iconst (q := 105) (v := 0) dX4_move_104 kc_i0 rfl ?_
        refine cm_putI (q := 108) dX4_move_105 flX4_34 rfl (Or.inr (Or.inl rfl)) (Or.inl rfl) (by assumption) rfl ?_
        refine k_X4_move_tail hG h1 g1 g2 g3 g4 ⟨_, rfl, rfl, ?_⟩
        rw [hru _ _ (fun j => by simp only [up2_a n2])]
        simp only [fP, fV, fO, fB]
        rw [if_neg hb1, if_neg hb1, if_neg hb1, if_neg hb1, if_pos hc3, if_pos hc3, if_pos hc3, bI_f (Int32.not_le.mpr hc4)]
        congr 1
        funext x j
        simp only [up2_at]
        grind (splits := 30)
      · refine am_iconst (q := 101) (v := 1) dX4_move_100 kc_i1 rfl ?_
        refine am_goto (tgt := 105) dX4_move_101 rfl ?_
        refine cm_putI (q := 108) dX4_move_105 flX4_34 rfl (Or.inr (Or.inr rfl)) (Or.inl rfl) (by assumption) rfl ?_
        refine k_X4_move_tail hG h1 g1 g2 g3 g4 ⟨_, rfl, rfl, ?_⟩
        rw [hru _ _ (fun j => by simp only [up2_a n2])]
        simp only [fP, fV, fO, fB]
        rw [if_neg hb1, if_neg hb1, if_neg hb1, if_neg hb1, if_pos hc3, if_pos hc3, if_pos hc3, bI_t (Int32.not_lt.mp hc4)]
        congr 1
        funext x j
        simp only [up2_at]
        grind (splits := 30)
  · have hb1 : I r 2 ≤ I a 4 + I a 5 := Int32.not_lt.mp hc
    refine am_aload_n (q := 25) dX4_move_24 rfl rfl ?_
    refine am_aload_n (q := 26) dX4_move_25 rfl rfl ?_
    refine cm_getI (q := 29) dX4_move_26 flX4_42 rfl (by assumption) rfl ?_
    refine cm_putI (q := 32) dX4_move_29 flX4_23 rfl (Or.inl rfl) (Or.inl rfl) (by assumption) rfl ?_
    refine am_aload_n (q := 33) dX4_move_32 rfl rfl ?_
    refine am_dup (q := 34) dX4_move_33 rfl rfl ?_
    refine cm_getI (q := 37) dX4_move_34 flX4_17 rfl (by assumption) rfl ?_
    refine am_iconst (q := 38) (v := 1) dX4_move_37 kc_i1 rfl ?_
    refine am_iadd (q := 39) dX4_move_38 rfl ?_
    refine cm_putI (q := 42) dX4_move_39 flX4_17 rfl (Or.inl rfl) (Or.inl rfl) (by assumption) rfl ?_
    refine am_aload_n (q := 43) dX4_move_42 rfl rfl ?_
    refine am_aload_n (q := 44) dX4_move_43 rfl rfl ?_
    refine cm_getI (q := 47) dX4_move_44 flX4_31 rfl (by assumption) rfl ?_
    refine am_aload_n (q := 48) dX4_move_47 rfl rfl ?_
    refine cm_getI (q := 51) dX4_move_48 flX4_45 rfl (by assumption) rfl ?_
    refine am_imul (q := 52) dX4_move_51 rfl ?_
    refine am_bipush (q := 54) (v := 20) dX4_move_52 kc_b20 rfl ?_
    refine am_idiv (q := 55) dX4_move_54 (by decide) rfl ?_
    refine am_ineg (q := 56) dX4_move_55 rfl ?_
    refine cm_putI (q := 59) dX4_move_56 flX4_31 rfl (Or.inl rfl) (Or.inl rfl) (by assumption) rfl ?_
    refine am_goto (tgt := 108) dX4_move_59 rfl ?_
    simp only [up2_s, up2_a n1, up2_j (show (5 : Nat) ≠ 4 by decide), up2_j (show (5 : Nat) ≠ 2 by decide), up2_j (show (2 : Nat) ≠ 4 by decide)]
    refine k_X4_move_tail hG h1 g1 g2 g3 g4 ⟨_, rfl, rfl, ?_⟩
    rw [hru _ _ (fun j => by simp only [up2_a n2])]
    simp only [fP, fV, fO, fB]
    rw [if_pos hb1, if_pos hb1, if_pos hb1, if_pos hb1]
    congr 1
    funext x j
    simp only [up2_at]
    grind (splits := 30)
/-- what a flight leaves in the object: by the iteration -/
def FlyC (a b r u : Nat) (v0 : Int32) (I I1 : Nat → Nat → Int32) (n : Nat) : Prop :=
  (∀ x j, x ≠ a → x ≠ b → I1 x j = I x j) ∧
  I1 a 4 = (flS (I r 2) (I r 4) (ruC I u) v0 n).1 ∧ I1 a 5 = (flS (I r 2) (I r 4) (ruC I u) v0 n).2.1 ∧ I1 a 1 = (flS (I r 2) (I r 4) (ruC I u) v0 n).2.2.1 ∧ I1 a 2 = (flS (I r 2) (I r 4) (ruC I u) v0 n).2.2.2.1 ∧ I1 a 3 = nI (flS (I r 2) (I r 4) (ruC I u) v0 n).2.2.2.2.1 ∧ I1 a 6 = (flS (I r 2) (I r 4) (ruC I u) v0 n).2.2.2.2.2 ∧
  ∀ t, 1 ≤ t → t ≤ (flS (I r 2) (I r 4) (ruC I u) v0 n).2.2.2.2.1 → I1 b t = (flS (I r 2) (I r 4) (ruC I u) v0 t).1
theorem k_X4_fly {f : Int32} (hG : okG G) (h1 : S.K a = 5) (h2 : R a 0 = some b) (h3 : S.K b = 20) (h4 : S.ln b = 301) (g1 : S.K r = 7) (g2 : R r 0 = some u) (g3 : S.K u = 20) (g4 : S.ln u = 100) (hbu : b ≠ u) (hp : 0 < I r 3) : Fn G mX4_fly 2 [vR a, vR r, vI f] (mw S I J R) (fun rr M1 => rr = none ∧ ∃ I1, M1 = mw S I1 J R ∧ FlyC a b r u (4 * f / I r 3) I I1 300) := by
  have n1 : r ≠ a := fun e => by rw [e, h1] at g1; exact absurd g1 (by decide)
  have n2 : u ≠ a := fun e => by rw [e, h1] at g3; exact absurd g3 (by decide)
  have n3 : r ≠ b := fun e => by rw [e, h3] at g1; exact absurd g1 (by decide)
  have n4 : a ≠ b := fun e => by rw [e, h3] at h1; exact absurd h1 (by decide)
  have hp0 : ¬ I r 3 = 0 := fun e => by rw [e] at hp; exact absurd hp (by decide)
  -- the loop
  have loop : ∀ (I0 : Nat → Nat → Int32), FlyC a b r u (4 * f / I r 3) I I0 0 → MW G mX4_fly 2 61 [some (vR a), some (vR r), some (vI f), some (vI 1)] [] (mw S I0 J R) (fun f1 M1 => ∃ rr, f1 = .inl rr ∧ (rr = none ∧ ∃ I1, M1 = mw S I1 J R ∧ FlyC a b r u (4 * f / I r 3) I I1 300)) := by
    intro I0 h0
    have hstop : ∀ (k : Nat) (I1 : Nat → Nat → Int32), k ≤ 300 → FlyC a b r u (4 * f / I r 3) I I1 k → (flS (I r 2) (I r 4) (ruC I u) (4 * f / I r 3) k).2.2.2.2.2 ≠ 0 → FlyC a b r u (4 * f / I r 3) I I1 300 := by
      intro k I1 hk hF ho
      have e := flS_stop ho (300 - k)
      rw [show k + (300 - k) = 300 by omega] at e
      unfold FlyC
      rw [e]
      exact hF
    refine k_loop (σ := Nat → Nat → Int32) (n := 300) (Inv := fun k I1 => FlyC a b r u (4 * f / I r 3) I I1 k) (W := fun k I1 => MW G mX4_fly 2 61 [some (vR a), some (vR r), some (vI f), some (vI (nI (k + 1)))] [] (mw S I1 J R) _) ?_ ?_ 0 I0 (Nat.zero_le _) h0
    · intro k I1 hk hF ih
      refine am_iload_n (q := 62) dX4_fly_61 rfl rfl ?_
      refine am_aload_n (q := 63) dX4_fly_62 rfl rfl ?_
      refine cm_getR (q := 66) dX4_fly_63 flX4_9 rfl (by assumption) (by assumption) rfl ?_
      refine cm_alenI (q := 67) dX4_fly_66 (by assumption) (by rw [h4] : nI (S.ln b) = nI 301) rfl ?_
      refine am_icmp_ge (tgt := 129) (q := 70) dX4_fly_67 rfl rfl (fun hz => absurd hz (nI_ge (by omega) (by decide))) (fun _ => ?_)
      refine am_aload_n (q := 71) dX4_fly_70 rfl rfl ?_
      refine cm_getI (q := 74) dX4_fly_71 flX4_34 rfl (by assumption) rfl ?_
      refine am_if_ne (tgt := 129) (q := 77) dX4_fly_74 rfl rfl (fun ho => ?_) (fun ho => ?_)
      · exact am_ret dX4_fly_129 rfl ⟨_, rfl, rfl, I1, rfl, hstop k I1 (by omega) hF (by rw [← hF.2.2.2.2.2.2.1]; exact ho)⟩
      · have hz := hF
        obtain ⟨z0, z4, z5, z1, z2, z3, z6, zp⟩ := hz
        have er : ∀ j, I1 r j = I r j := fun j => z0 r j n1 n3
        have eu : ∀ p, ruC I1 u p = ruC I u p := fun p => by unfold ruC; rw [z0 u _ n2 (fun q => hbu q.symm)]
        have hcl : (nI (k + 1)).toNatClampNeg = k + 1 := nI_clamp (by omega)
        have ho' : (flS (I r 2) (I r 4) (ruC I u) (4 * f / I r 3) k).2.2.2.2.2 = 0 := by rw [← z6]; exact ho
        have hT := (flS_ticks (hi := I r 2) (sp := I r 4) (ru := ruC I u) (v0 := 4 * f / I r 3) k).2.1 ho'
        have hstep : flS (I r 2) (I r 4) (ruC I u) (4 * f / I r 3) (k + 1) = (fP (I r 2) (I1 a 4) (I1 a 5), fW (ruC I u (fP (I r 2) (I1 a 4) (I1 a 5))) (fV (I r 2) (I r 4) (I1 a 4) (I1 a 5)), if I1 a 1 < fP (I r 2) (I1 a 4) (I1 a 5) then fP (I r 2) (I1 a 4) (I1 a 5) else I1 a 1, fB (I r 2) (I1 a 4) (I1 a 5) (I1 a 2), k + 1, fO (I r 2) (I r 4) (I1 a 4) (I1 a 5) (I1 a 6)) := by
          rw [z4, z5, z1, z2, z6]
          show (if (flS (I r 2) (I r 4) (ruC I u) (4 * f / I r 3) k).2.2.2.2.2 = 0 then _ else _) = _
          rw [if_pos ho', hT]
        refine am_aload_n (q := 78) dX4_fly_77 rfl rfl ?_
        refine am_aload_n (q := 79) dX4_fly_78 rfl rfl ?_
        refine cm_call0 (q := 82) (As := [_]) hG dX4_fly_79 mlX4_38 rfl (by assumption) ⟨_, _, rfl⟩ (Nat.le_of_ble_eq_true rfl) (Nat.le_of_ble_eq_true rfl) (Nat.le_of_ble_eq_true rfl) (Nat.le_of_ble_eq_true rfl) (k_X4_move hG h1 g1 g2 g3 g4) rfl ?_
        rintro _ _ ⟨rfl, rfl⟩
        rw [er, er]
        simp only [eu]
        have go : ∀ (I2 : Nat → Nat → Int32), (∀ x j, I2 x j = if x = b ∧ j = k + 1 then fP (I r 2) (I1 a 4) (I1 a 5) else if x = a ∧ j = 4 then fP (I r 2) (I1 a 4) (I1 a 5) else if x = a ∧ j = 5 then fW (ruC I u (fP (I r 2) (I1 a 4) (I1 a 5))) (fV (I r 2) (I r 4) (I1 a 4) (I1 a 5)) else if x = a ∧ j = 2 then fB (I r 2) (I1 a 4) (I1 a 5) (I1 a 2) else if x = a ∧ j = 6 then fO (I r 2) (I r 4) (I1 a 4) (I1 a 5) (I1 a 6) else if x = a ∧ j = 1 then (if I1 a 1 < fP (I r 2) (I1 a 4) (I1 a 5) then fP (I r 2) (I1 a 4) (I1 a 5) else I1 a 1) else I1 x j) → MW G mX4_fly 2 118 [some (vR a), some (vR r), some (vI f), some (vI (nI (k + 1)))] [] (mw S I2 J R) (fun f1 M1 => ∃ rr, f1 = .inl rr ∧ (rr = none ∧ ∃ I1, M1 = mw S I1 J R ∧ FlyC a b r u (4 * f / I r 3) I I1 300)) := by
          intro I2 hI2
          refine am_aload_n (q := 119) dX4_fly_118 rfl rfl ?_
          refine am_iload_n (q := 120) dX4_fly_119 rfl rfl ?_
          refine cm_putI (q := 123) dX4_fly_120 flX4_20 rfl (Or.inl rfl) (Or.inl rfl) (by assumption) rfl ?_
          refine am_iincW (q := 126) (ls1 := [_, _, _, _]) (w := 1) dX4_fly_123 rfl (Nat.le_of_ble_eq_true rfl) kc_i1 rfl rfl ?_
          refine am_goto (tgt := 61) dX4_fly_126 rfl ?_
          rw [nI_1]
          refine ih _ ?_
          unfold FlyC
          rw [hstep]
          refine ⟨fun x j q1 q2 => ?_, ?_, ?_, ?_, ?_, ?_, ?_, fun t q1 q2 => ?_⟩
          · rw [up2_a q1, hI2]
            have := z0 x j q1 q2
            grind (splits := 30)
          · rw [up2_j (by decide), hI2]
            grind (splits := 30)
          · rw [up2_j (by decide), hI2]
            grind (splits := 30)
          · rw [up2_j (by decide), hI2]
            grind (splits := 30)
          · rw [up2_j (by decide), hI2]
            grind (splits := 30)
          · rw [up2_s]
          · rw [up2_j (by decide), hI2]
            grind (splits := 30)
          · rw [up2_a (fun q => n4 q.symm), hI2]
            by_cases e : t = k + 1
            · subst e
              rw [if_pos ⟨rfl, rfl⟩, hstep]
            · rw [if_neg (fun q => e q.2), if_neg (fun q => n4 q.1.symm), if_neg (fun q => n4 q.1.symm), if_neg (fun q => n4 q.1.symm), if_neg (fun q => n4 q.1.symm), if_neg (fun q => n4 q.1.symm)]
              have q3 : t ≤ k + 1 := q2
              exact zp t q1 (by rw [hT]; omega)
        refine k_nm (P := fun Im => MW G mX4_fly 2 82 _ _ (mw S Im J R) _) _ (fun Im hIm => ?_)
        have m4 : Im a 4 = fP (I r 2) (I1 a 4) (I1 a 5) := by rw [hIm]; exact if_pos ⟨rfl, rfl⟩
        have m1 : Im a 1 = I1 a 1 := by rw [hIm]; grind (splits := 30)
        refine am_aload_n (q := 83) dX4_fly_82 rfl rfl ?_
        refine cm_getR (q := 86) dX4_fly_83 flX4_9 rfl (by assumption) (by assumption) rfl ?_
        refine am_iload_n (q := 87) dX4_fly_86 rfl rfl ?_
        refine am_aload_n (q := 88) dX4_fly_87 rfl rfl ?_
        refine cm_getI (q := 91) dX4_fly_88 flX4_23 rfl (by assumption) rfl ?_
        refine cm_iastore (q := 92) dX4_fly_91 (by assumption) (by rw [h4]; exact vp_in_nI (by omega) (by decide)) rfl ?_
        refine am_aload_n (q := 93) dX4_fly_92 rfl rfl ?_
        refine am_aload_n (q := 94) dX4_fly_93 rfl rfl ?_
        refine cm_getI (q := 97) dX4_fly_94 flX4_23 rfl (by assumption) rfl ?_
        refine am_aload_n (q := 98) dX4_fly_97 rfl rfl ?_
        refine cm_getI (q := 101) dX4_fly_98 flX4_13 rfl (by assumption) rfl ?_
        rw [up2_a n4, up2_a n4, m4, m1, hcl]
        refine am_icmp_le (tgt := 111) (q := 104) dX4_fly_101 rfl rfl (fun hq => ?_) (fun hq => ?_)
        · refine am_aload_n (q := 112) dX4_fly_111 rfl rfl ?_
          refine cm_getI (q := 115) dX4_fly_112 flX4_13 rfl (by assumption) rfl ?_
          refine cm_putI (q := 118) dX4_fly_115 flX4_13 rfl (Or.inl rfl) (Or.inl rfl) (by assumption) rfl ?_
          refine go _ fun x j => ?_
          have := Int32.not_lt.mpr hq
          simp only [up2_at, hIm]
          grind (splits := 30)
        · refine am_aload_n (q := 105) dX4_fly_104 rfl rfl ?_
          refine cm_getI (q := 108) dX4_fly_105 flX4_23 rfl (by assumption) rfl ?_
          refine am_goto (tgt := 115) dX4_fly_108 rfl ?_
          refine cm_putI (q := 118) dX4_fly_115 flX4_13 rfl (Or.inl rfl) (Or.inl rfl) (by assumption) rfl ?_
          refine go _ fun x j => ?_
          have := Int32.not_le.mp hq
          simp only [up2_at, hIm]
          grind (splits := 30)
    · intro I1 hF
      refine am_iload_n (q := 62) dX4_fly_61 rfl rfl ?_
      refine am_aload_n (q := 63) dX4_fly_62 rfl rfl ?_
      refine cm_getR (q := 66) dX4_fly_63 flX4_9 rfl (by assumption) (by assumption) rfl ?_
      refine cm_alenI (q := 67) dX4_fly_66 (by assumption) (by rw [h4] : nI (S.ln b) = nI 301) rfl ?_
      refine am_icmp_ge (tgt := 129) (q := 70) dX4_fly_67 rfl rfl (fun _ => ?_) (fun hz => absurd (Int32.le_refl _) hz)
      exact am_ret dX4_fly_129 rfl ⟨_, rfl, rfl, I1, rfl, hF⟩
  have fin : ∀ (I0 : Nat → Nat → Int32), (∀ x j, x ≠ a → I0 x j = I x j) → I0 a 1 = 0 → I0 a 2 = 0 → I0 a 3 = 0 → I0 a 4 = 0 → I0 a 5 = 4 * f / I r 3 → MW G mX4_fly 2 43 [some (vR a), some (vR r), some (vI f), none] [] (mw S I0 J R) (fun f1 M1 => ∃ rr, f1 = .inl rr ∧ (rr = none ∧ ∃ I1, M1 = mw S I1 J R ∧ FlyC a b r u (4 * f / I r 3) I I1 300)) := by
    intro I0 e0 e1 e2 e3 e4 e5
    have done : ∀ o : Int32, o = bI (4 * f / I r 3 = 0) → FlyC a b r u (4 * f / I r 3) I (up2 I0 a 6 o) 0 := by
      intro o ho
      refine ⟨fun x j q1 q2 => ?_, ?_, ?_, ?_, ?_, ?_, ?_, fun t q1 q2 => ?_⟩
      · rw [up2_a q1]
        exact e0 x j q1
      · rw [up2_j (by decide), e4]
        rfl
      · rw [up2_j (by decide), e5]
        rfl
      · rw [up2_j (by decide), e1]
        rfl
      · rw [up2_j (by decide), e2]
        rfl
      · rw [up2_j (by decide), e3]
        rfl
      · rw [up2_s, ho]
        rfl
      · exact absurd (Nat.le_trans q1 q2) (show ¬ 1 ≤ 0 by decide)
    refine am_aload_n (q := 44) dX4_fly_43 rfl rfl ?_
    refine am_aload_n (q := 45) dX4_fly_44 rfl rfl ?_
    refine cm_getI (q := 48) dX4_fly_45 flX4_31 rfl (by assumption) rfl ?_
    refine am_if_ne (tgt := 55) (q := 51) dX4_fly_48 rfl rfl (fun hv => ?_) (fun hv => ?_)
    · rw [e5] at hv
      refine am_iconst (q := 56) (v := 0) dX4_fly_55 kc_i0 rfl ?_
      refine cm_putI (q := 59) dX4_fly_56 flX4_34 rfl (Or.inr (Or.inl rfl)) (Or.inl rfl) (by assumption) rfl ?_
      refine am_iconst (q := 60) (v := 1) dX4_fly_59 kc_i1 rfl ?_
      refine am_istore_n (q := 61) (ls1 := [_, _, _, _]) dX4_fly_60 (Nat.le_of_ble_eq_true rfl) rfl rfl ?_
      exact loop _ (done 0 (bI_f hv).symm)
    · rw [e5] at hv
      refine am_iconst (q := 52) (v := 1) dX4_fly_51 kc_i1 rfl ?_
      refine am_goto (tgt := 56) dX4_fly_52 rfl ?_
      refine cm_putI (q := 59) dX4_fly_56 flX4_34 rfl (Or.inr (Or.inr rfl)) (Or.inl rfl) (by assumption) rfl ?_
      refine am_iconst (q := 60) (v := 1) dX4_fly_59 kc_i1 rfl ?_
      refine am_istore_n (q := 61) (ls1 := [_, _, _, _]) dX4_fly_60 (Nat.le_of_ble_eq_true rfl) rfl rfl ?_
      exact loop _ (done 1 (bI_t hv).symm)
  refine am_aload_n (q := 1) dX4_fly_0 rfl rfl ?_
  refine am_iconst (q := 2) (v := 0) dX4_fly_1 kc_i0 rfl ?_
  refine cm_putI (q := 5) dX4_fly_2 flX4_13 rfl (Or.inl rfl) (Or.inl rfl) (by assumption) rfl ?_
  refine am_aload_n (q := 6) dX4_fly_5 rfl rfl ?_
  refine am_iconst (q := 7) (v := 0) dX4_fly_6 kc_i0 rfl ?_
  refine cm_putI (q := 10) dX4_fly_7 flX4_17 rfl (Or.inl rfl) (Or.inl rfl) (by assumption) rfl ?_
  refine am_aload_n (q := 11) dX4_fly_10 rfl rfl ?_
  refine am_iconst (q := 12) (v := 0) dX4_fly_11 kc_i0 rfl ?_
  refine cm_putI (q := 15) dX4_fly_12 flX4_20 rfl (Or.inl rfl) (Or.inl rfl) (by assumption) rfl ?_
  refine am_aload_n (q := 16) dX4_fly_15 rfl rfl ?_
  refine am_iconst (q := 17) (v := 0) dX4_fly_16 kc_i0 rfl ?_
  refine cm_putI (q := 20) dX4_fly_17 flX4_23 rfl (Or.inl rfl) (Or.inl rfl) (by assumption) rfl ?_
  refine am_aload_n (q := 21) dX4_fly_20 rfl rfl ?_
  refine am_aload_n (q := 22) dX4_fly_21 rfl rfl ?_
  refine cm_getI (q := 25) dX4_fly_22 flX4_26 rfl (by assumption) rfl ?_
  simp only [up2_a n1]
  refine am_if_le (tgt := 39) (q := 28) dX4_fly_25 rfl rfl (fun hz => absurd hz (Int32.not_le.mpr hp)) (fun _ => ?_)
  refine am_iconst (q := 29) (v := 4) dX4_fly_28 kc_i4 rfl ?_
  refine am_iload_n (q := 30) dX4_fly_29 rfl rfl ?_
  refine am_imul (q := 31) dX4_fly_30 rfl ?_
  refine am_aload_n (q := 32) dX4_fly_31 rfl rfl ?_
  refine cm_getI (q := 35) dX4_fly_32 flX4_26 rfl (by assumption) rfl ?_
  refine am_idiv (q := 36) dX4_fly_35 (by simp only [up2_a n1]; exact hp0) rfl ?_
  refine am_goto (tgt := 40) dX4_fly_36 rfl ?_
  refine cm_putI (q := 43) dX4_fly_40 flX4_31 rfl (Or.inl rfl) (Or.inl rfl) (by assumption) rfl ?_
  simp only [up2_a n1]
  refine fin _ (fun x j q => by simp only [up2_a q]) ?_ ?_ ?_ ?_ up2_s
  · simp only [up2_at]
    grind (splits := 30)
  · simp only [up2_at]
    grind (splits := 30)
  · simp only [up2_at]
    grind (splits := 30)
  · simp only [up2_at]
    grind (splits := 30)
end FlightB

