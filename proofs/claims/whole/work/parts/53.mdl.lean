theorem dX14_parts_0 : decode cX14_parts 0 = .ok (.iload_n 1, 1) := by decide +kernel
theorem dX14_parts_1 : decode cX14_parts 1 = .ok (.ifCond .ne 7, 3) := by decide +kernel
theorem dX14_parts_4 : decode cX14_parts 4 = .ok (.iconst 0, 1) := by decide +kernel
theorem dX14_parts_5 : decode cX14_parts 5 = .ok (.goto 16, 3) := by decide +kernel
theorem dX14_parts_8 : decode cX14_parts 8 = .ok (.iload_n 1, 1) := by decide +kernel
theorem dX14_parts_9 : decode cX14_parts 9 = .ok (.iconst (-1), 1) := by decide +kernel
theorem dX14_parts_10 : decode cX14_parts 10 = .ok (.if_icmp .ne 8, 3) := by decide +kernel
theorem dX14_parts_13 : decode cX14_parts 13 = .ok (.iload_n 0, 1) := by decide +kernel
theorem dX14_parts_14 : decode cX14_parts 14 = .ok (.ineg, 1) := by decide +kernel
theorem dX14_parts_15 : decode cX14_parts 15 = .ok (.goto 6, 3) := by decide +kernel
theorem dX14_parts_18 : decode cX14_parts 18 = .ok (.iload_n 0, 1) := by decide +kernel
theorem dX14_parts_19 : decode cX14_parts 19 = .ok (.iload_n 1, 1) := by decide +kernel
theorem dX14_parts_20 : decode cX14_parts 20 = .ok (.idiv, 1) := by decide +kernel
theorem dX14_parts_21 : decode cX14_parts 21 = .ok (.ireturn, 1) := by decide +kernel
/-! the reference: its bill, its state, its nodes -/
theorem tb_math : Cond.initialized "java/lang/Math" ∈ TB := tbc1 26 rfl rfl
theorem tb_min1 : Cond.static Lib.Math.min.name ∈ TB := tbc7 176 rfl rfl
theorem tb_min2 : Cond.code Lib.Math.min.name Lib.Math.min.code 2 (some .int) ∈ TB := tbc7 177 rfl rfl
theorem tb_max1 : Cond.static Lib.Math.max.name ∈ TB := tbc7 179 rfl rfl
theorem tb_max2 : Cond.code Lib.Math.max.name Lib.Math.max.code 2 (some .int) ∈ TB := tbc7 180 rfl rfl
theorem k_mul (a b : Nat) : nI a * nI b = nI (a * b) := (Int32.ofNat_mul a b).symm
def BCc (S : AMem) (R : Nat → Nat → Option Nat) (b : Nat) : Prop := S.K b = 13 ∧ R b 5 = some (b + 1) ∧ R b 6 = some (b + 2) ∧ R b 7 = some (b + 3) ∧ R b 8 = some (b + 4) ∧ R b 9 = some (b + 5) ∧ R b 11 = some (b + 6) ∧ R b 12 = some (b + 7) ∧ R b 13 = some (b + 8) ∧
  (S.K (b + 1) = 20 ∧ S.ln (b + 1) = 12) ∧ (S.K (b + 2) = 20 ∧ S.ln (b + 2) = 48) ∧ (S.K (b + 3) = 20 ∧ S.ln (b + 3) = 24) ∧ (S.K (b + 4) = 20 ∧ S.ln (b + 4) = 24) ∧ (S.K (b + 5) = 20 ∧ S.ln (b + 5) = 60) ∧ (S.K (b + 6) = 20 ∧ S.ln (b + 6) = 401) ∧ (S.K (b + 7) = 20 ∧ S.ln (b + 7) = 401) ∧ S.K (b + 8) = 20 ∧ S.ln (b + 8) = 401
def SCc (S : AMem) (R : Nat → Nat → Option Nat) (z : Nat) : Prop := S.K z = 14 ∧ R z 6 = some (z + 1) ∧ R z 7 = some (z + 2) ∧ R z 8 = some (z + 3) ∧ R z 9 = some (z + 4) ∧ R z 10 = some (z + 5) ∧
  (S.K (z + 1) = 20 ∧ S.ln (z + 1) = 10) ∧ (S.K (z + 2) = 20 ∧ S.ln (z + 2) = 12) ∧ (S.K (z + 3) = 20 ∧ S.ln (z + 3) = 56) ∧ (S.K (z + 4) = 20 ∧ S.ln (z + 4) = 16) ∧ S.K (z + 5) = 20 ∧ S.ln (z + 5) = 20
/-- the reference at y, its bill at bl -/
def MCb (S : AMem) (R : Nat → Nat → Option Nat) (y bl : Nat) : Prop := S.K y = 15 ∧ R y 8 = some bl ∧ BCc S R bl
/-- a node of a sum, and what it means -/
def NdN (O A D : Nat → Int32) (nR nF nP : Nat) : Nat → Nat → Sem → Prop
  | 0, _, _ => False
  | f + 1, n, s => (O n = 40 ∧ s = fun _ => A n)
    ∨ (∃ g, (O n = 19 ∨ O n = 20 ∨ O n = 21) ∧ s = fun rd => rd (O n + 300) g)
    ∨ (∃ j, A n = nI j ∧ ((j < nF ∧ (O n = 22 ∨ O n = 23)) ∨ (j < nR ∧ O n = 24) ∨ (j < nP ∧ O n = 25)) ∧ s = fun rd => rd (O n + 300) (nI j))
    ∨ (∃ a u, O n = 110 ∧ A n = nI a ∧ a < n ∧ NdN O A D nR nF nP f a u ∧ s = fun rd => -(u rd))
    ∨ ∃ a b u v, A n = nI a ∧ D n = nI b ∧ a < n ∧ b < n ∧ (O n = 30 ∨ O n = 31 ∨ O n = 42 ∨ O n = 47 ∨ O n = 45 ∨ O n = 43) ∧ NdN O A D nR nF nP f a u ∧ NdN O A D nR nF nP f b v ∧ s = fun rd => jnE (if O n = 30 then 330 else if O n = 31 then 331 else O n) (u rd) (v rd)
/-- a node of a test -/
def NdB (O A D : Nat → Int32) (nR nF nP : Nat) : Nat → Nat → Sem → Prop
  | 0, _, _ => False
  | f + 1, n, s => (∃ g, O n = 26 ∧ s = fun rd => rd 326 g)
    ∨ (∃ a u, O n = 27 ∧ A n = nI a ∧ a < n ∧ NdB O A D nR nF nP f a u ∧ s = fun rd => 1 - u rd)
    ∨ (∃ a b u v, A n = nI a ∧ D n = nI b ∧ a < n ∧ b < n ∧ (O n = 28 ∨ O n = 29) ∧ NdB O A D nR nF nP f a u ∧ NdB O A D nR nF nP f b v ∧ s = fun rd => jnE (O n + 300) (u rd) (v rd))
    ∨ ∃ a b u v, A n = nI a ∧ D n = nI b ∧ a < n ∧ b < n ∧ (O n = 60 ∨ O n = 62 ∨ O n = 61 ∨ O n = 108 ∨ O n = 103) ∧ NdN O A D nR nF nP f a u ∧ NdN O A D nR nF nP f b v ∧ s = fun rd => cmE (if O n = 108 then 260 else if O n = 103 then 261 else O n) (u rd) (v rd)
/-- the state at z tells how it stands -/
def RS (I : Nat → Nat → Int32) (z : Nat) (B : BS) (m : MS) : Prop :=
  (I z 0 = m.g 0 ∧ I z 1 = m.g 3 ∧ I z 2 = m.g 4 ∧ I z 3 = m.g 1 ∧ I z 4 = m.g 2 ∧ I z 5 = nI m.nb ∧ m.nb ≤ 10) ∧ (∀ k, k < m.nb → I (z + 1) k = m.bd k) ∧
  (∀ i, i < B.nR → ∀ j, j < 3 → I (z + 2) (3 * i + j) = m.rail i (j + 2)) ∧ (∀ i, i < B.nF → ∀ j, j < 7 → I (z + 3) (7 * i + j) = m.fist i (j + 2)) ∧
  (∀ i, i < B.nP → ∀ j, j < 2 → I (z + 4) (2 * i + j) = m.prize i j) ∧ ((∀ i, i < B.nP → 0 ≤ m.prize i 0) ∧ ∀ i, i < B.nF → 0 ≤ m.fist i 3 ∧ m.fist i 3 ≤ 60) ∧ ∀ k, k < B.nT → I (z + 5) k = nI (m.row k) ∧ m.row k < B.nT
/-- rust of a place by the row of rusts -/
def rusE (F : Nat → Int32) (r p : Int32) : Nat → Int32
  | 0 => 0
  | k + 1 => rusE F r p k + (if F (4 * k) = r ∧ F (4 * k + 1) ≤ p ∧ p ≤ F (4 * k + 2) then F (4 * k + 3) else 0)
/-- the bill at bl tells what is told -/
def RB (I : Nat → Nat → Int32) (bl : Nat) (B : BS) (m : MS) : Prop :=
  ((I bl 0 = nI B.nR ∧ B.nR ≤ 4) ∧ (I bl 2 = nI B.nF ∧ B.nF ≤ 8) ∧ (I bl 3 = nI B.nP ∧ B.nP ≤ 8) ∧ I bl 4 = nI B.nT ∧ B.nT ≤ 20) ∧
  (∃ u, u ≤ 12 ∧ I bl 1 = nI u ∧ ∀ r, r < B.nR → ∀ p, p < 100 → B.rust r p = rusE (I (bl + 2)) (nI r) (nI p) u) ∧
  (∀ i, i < B.nR → I (bl + 1) (3 * i) = m.rail i 0 ∧ I (bl + 1) (3 * i + 1) = m.rail i 1 ∧ 0 < m.rail i 1 ∧ 0 < m.rail i 0 ∧ m.rail i 0 < 100 ∧ m.rail i 1 ≤ 9) ∧ (∀ i, i < B.nF → I (bl + 3) (3 * i) = m.fist i 0 ∧ I (bl + 3) (3 * i + 1) = m.fist i 1) ∧
  (∀ i, i < B.nP → ∃ w t, I (bl + 4) (3 * i) = nI w ∧ w < 401 ∧ NdN (I (bl + 6)) (I (bl + 7)) (I (bl + 8)) B.nR B.nF B.nP (w + 1) w (B.wo i) ∧ I (bl + 4) (3 * i + 2) = nI t ∧ t < 401 ∧ NdB (I (bl + 6)) (I (bl + 7)) (I (bl + 8)) B.nR B.nF B.nP (t + 1) t (B.te i)) ∧
  ∀ i, i < B.nT → I (bl + 5) (3 * i) = nI (B.tF i) ∧ B.tF i < B.nF ∧ I (bl + 5) (3 * i + 1) = nI (B.tR i) ∧ B.tR i < B.nR ∧ (match B.tt i with | none => I (bl + 5) (3 * i + 2) = -1 | some s => ∃ t, I (bl + 5) (3 * i + 2) = nI t ∧ t < 401 ∧ NdB (I (bl + 6)) (I (bl + 7)) (I (bl + 8)) B.nR B.nF B.nP (t + 1) t s)
section Mr
variable {G : Gp} {S : AMem} {I : Nat → Nat → Int32} {J : Nat → Nat → Int64} {R : Nat → Nat → Option Nat} {y bl z : Nat} {B : BS} {m : MS}
theorem rdM_fist {j : Nat} (h : j < B.nF) (h8 : B.nF ≤ 8) : rdM B m 322 (nI j) = m.fist j 4 ∧ rdM B m 323 (nI j) = m.fist j 3 := by
  have e : 0 ≤ nI j ∧ nI j < nI B.nF := ⟨nI_pos' (by omega), nI_lt h (by omega)⟩
  refine ⟨?_, ?_⟩
  · unfold rdM
    rw [if_neg (by decide), if_neg (by decide), if_neg (by decide), if_neg (by decide), if_pos rfl, if_pos e, nI_clamp (by omega)]
  · unfold rdM
    rw [if_neg (by decide), if_neg (by decide), if_neg (by decide), if_neg (by decide), if_neg (by decide), if_pos rfl, if_pos e, nI_clamp (by omega)]
theorem rdM_rail {j : Nat} (h : j < B.nR) (h8 : B.nR ≤ 4) : rdM B m 324 (nI j) = m.rail j 3 := by
  have e : 0 ≤ nI j ∧ nI j < nI B.nR := ⟨nI_pos' (by omega), nI_lt h (by omega)⟩
  unfold rdM
  rw [if_neg (by decide), if_neg (by decide), if_neg (by decide), if_neg (by decide), if_neg (by decide), if_neg (by decide), if_pos rfl, if_pos e, nI_clamp (by omega)]
theorem rdM_prize {j : Nat} (h : j < B.nP) (h8 : B.nP ≤ 8) : rdM B m 325 (nI j) = m.prize j 0 := by
  have e : 0 ≤ nI j ∧ nI j < nI B.nP := ⟨nI_pos' (by omega), nI_lt h (by omega)⟩
  unfold rdM
  rw [if_neg (by decide), if_neg (by decide), if_neg (by decide), if_neg (by decide), if_neg (by decide), if_neg (by decide), if_neg (by decide), if_pos e, nI_clamp (by omega)]
theorem k_divm1 {p : Int32} : -p = p / -1 := by
  apply Int32.toInt_inj.mp
  rw [Int32.toInt_neg, Int32.toInt_div]
  show (-p.toInt).bmod (2 ^ 32) = (p.toInt.tdiv (-1)).bmod (2 ^ 32)
  rw [Int.tdiv_neg, Int.tdiv_one]
theorem k_X14_parts {p q : Int32} : Fn G mX14_parts 0 [vI p, vI q] (mw S I J R) (fun rr M1 => rr = some (vI (if q = 0 then 0 else p / q)) ∧ M1 = mw S I J R) := by
  refine am_iload_n (q := 1) dX14_parts_0 rfl rfl ?_
  refine am_if_ne (tgt := 8) (q := 4) dX14_parts_1 rfl rfl (fun h1 => ?_) (fun h1 => ?_)
  · rw [if_neg h1]
    refine am_iload_n (q := 9) dX14_parts_8 rfl rfl ?_
    refine am_iconst (q := 10) (v := (-1)) dX14_parts_9 kc_im1 rfl ?_
    refine am_icmp_ne (tgt := 18) (q := 13) dX14_parts_10 rfl rfl (fun h2 => ?_) (fun h2 => ?_)
    · refine am_iload_n (q := 19) dX14_parts_18 rfl rfl ?_
      refine am_iload_n (q := 20) dX14_parts_19 rfl rfl ?_
      refine am_idiv (q := 21) dX14_parts_20 h1 rfl ?_
      exact am_iret dX14_parts_21 rfl rfl ⟨_, rfl, rfl, rfl⟩
    · rw [h2]
      refine am_iload_n (q := 14) dX14_parts_13 rfl rfl ?_
      refine am_ineg (q := 15) dX14_parts_14 rfl ?_
      refine am_goto (tgt := 21) dX14_parts_15 rfl ?_
      exact am_iret dX14_parts_21 rfl rfl ⟨_, rfl, by rw [k_divm1], rfl⟩
  · rw [if_pos h1]
    refine am_iconst (q := 5) (v := 0) dX14_parts_4 kc_i0 rfl ?_
    refine am_goto (tgt := 21) dX14_parts_5 rfl ?_
    exact am_iret dX14_parts_21 rfl rfl ⟨_, rfl, rfl, rfl⟩
end Mr

