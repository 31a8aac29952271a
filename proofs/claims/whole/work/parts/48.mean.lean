theorem dX0_meanHeight_0 : decode cX0_meanHeight 0 = .ok (.iconst 0, 1) := by decide +kernel
theorem dX0_meanHeight_1 : decode cX0_meanHeight 1 = .ok (.istore_n 1, 1) := by decide +kernel
theorem dX0_meanHeight_2 : decode cX0_meanHeight 2 = .ok (.iconst 0, 1) := by decide +kernel
theorem dX0_meanHeight_3 : decode cX0_meanHeight 3 = .ok (.istore_n 2, 1) := by decide +kernel
theorem dX0_meanHeight_4 : decode cX0_meanHeight 4 = .ok (.iload_n 2, 1) := by decide +kernel
theorem dX0_meanHeight_5 : decode cX0_meanHeight 5 = .ok (.aload_n 0, 1) := by decide +kernel
theorem dX0_meanHeight_6 : decode cX0_meanHeight 6 = .ok (.getfield 13, 3) := by decide +kernel
theorem dX0_meanHeight_9 : decode cX0_meanHeight 9 = .ok (.if_icmp .ge 17, 3) := by decide +kernel
theorem dX0_meanHeight_12 : decode cX0_meanHeight 12 = .ok (.iload_n 1, 1) := by decide +kernel
theorem dX0_meanHeight_13 : decode cX0_meanHeight 13 = .ok (.aload_n 0, 1) := by decide +kernel
theorem dX0_meanHeight_14 : decode cX0_meanHeight 14 = .ok (.iload_n 2, 1) := by decide +kernel
theorem dX0_meanHeight_15 : decode cX0_meanHeight 15 = .ok (.invokevirtual 21, 3) := by decide +kernel
theorem dX0_meanHeight_18 : decode cX0_meanHeight 18 = .ok (.iadd, 1) := by decide +kernel
theorem dX0_meanHeight_19 : decode cX0_meanHeight 19 = .ok (.istore_n 1, 1) := by decide +kernel
theorem dX0_meanHeight_20 : decode cX0_meanHeight 20 = .ok (.iinc 2 1, 3) := by decide +kernel
theorem dX0_meanHeight_23 : decode cX0_meanHeight 23 = .ok (.goto (-19), 3) := by decide +kernel
theorem dX0_meanHeight_26 : decode cX0_meanHeight 26 = .ok (.aload_n 0, 1) := by decide +kernel
theorem dX0_meanHeight_27 : decode cX0_meanHeight 27 = .ok (.getfield 13, 3) := by decide +kernel
theorem dX0_meanHeight_30 : decode cX0_meanHeight 30 = .ok (.ifCond .le 14, 3) := by decide +kernel
theorem dX0_meanHeight_33 : decode cX0_meanHeight 33 = .ok (.iload_n 1, 1) := by decide +kernel
theorem dX0_meanHeight_34 : decode cX0_meanHeight 34 = .ok (.i2d, 1) := by decide +kernel
theorem dX0_meanHeight_35 : decode cX0_meanHeight 35 = .ok (.aload_n 0, 1) := by decide +kernel
theorem dX0_meanHeight_36 : decode cX0_meanHeight 36 = .ok (.getfield 13, 3) := by decide +kernel
theorem dX0_meanHeight_39 : decode cX0_meanHeight 39 = .ok (.i2d, 1) := by decide +kernel
theorem dX0_meanHeight_40 : decode cX0_meanHeight 40 = .ok (.ddiv, 1) := by decide +kernel
theorem dX0_meanHeight_41 : decode cX0_meanHeight 41 = .ok (.goto 4, 3) := by decide +kernel
theorem dX0_meanHeight_44 : decode cX0_meanHeight 44 = .ok (.dconst 0, 1) := by decide +kernel
theorem dX0_meanHeight_45 : decode cX0_meanHeight 45 = .ok (.dreturn, 1) := by decide +kernel
/-! the mean of the heights -/
theorem k_tl64 : FP.Core.Fmt.tails FP.Core.b64 = 4503599627370496 := rfl
theorem k_ex64 : FP.Core.Fmt.exps FP.Core.b64 = 2048 := rfl
theorem k_enc_inf {s : Bool} : FP.Core.encode FP.Core.b64 (.inf s) % 9223372036854775808 ≤ 9218868437227405312 := by
  have hs : s.toNat ≤ 1 := by cases s <;> decide
  unfold FP.Core.encode FP.Core.assemble
  dsimp only
  rw [k_tl64, k_ex64]
  generalize s.toNat = k at hs
  omega
theorem k_enc_fin {s : Bool} {c : Nat} {q : Int} (hc : c < 9007199254740992) (h1 : -1074 ≤ q) (h2 : q ≤ 971) : FP.Core.encode FP.Core.b64 (.fin s c q) % 9223372036854775808 ≤ 9218868437227405312 := by
  have hs : s.toNat ≤ 1 := by cases s <;> decide
  have hq : FP.Core.Fmt.qmin FP.Core.b64 = -1074 := by decide +kernel
  unfold FP.Core.encode FP.Core.assemble
  dsimp only
  rw [k_tl64, k_ex64, hq]
  generalize s.toNat = k at hs
  split
  · omega
  · omega
theorem k_mag_bound {s : Bool} {c : Nat} {q : Int} (hc : c < 9007199254740992) (h1 : -1074 ≤ q) : FP.Core.encode FP.Core.b64 (FP.Core.bound FP.Core.b64 s c q) % 9223372036854775808 ≤ 9218868437227405312 := by
  have hq : FP.Core.Fmt.qmax FP.Core.b64 = 971 := by decide +kernel
  unfold FP.Core.bound
  rw [hq]
  split
  · exact k_enc_fin hc h1 (by assumption)
  · exact k_enc_inf
theorem k_mag_round {s : Bool} {c d : Nat} {e : Int} : FP.Core.encode FP.Core.b64 (FP.Core.roundRatio FP.Core.b64 s c d e) % 9223372036854775808 ≤ 9218868437227405312 := by
  have hq : FP.Core.Fmt.qmin FP.Core.b64 = -1074 := by decide +kernel
  have hp : 2 ^ FP.Core.b64.p = 9007199254740992 := rfl
  unfold FP.Core.roundRatio
  split
  · rw [hq]
    exact k_enc_fin (by decide) (by omega) (by omega)
  · have hz : -1074 ≤ FP.Core.quantum FP.Core.b64 c d e := by
      unfold FP.Core.quantum
      rw [hq]
      exact Int.le_max_left _ _
    generalize FP.Core.quantum FP.Core.b64 c d e = q at hz
    unfold FP.Core.roundAt FP.Core.settle
    rw [hp]
    split
    · exact k_mag_bound (by assumption) hz
    · rw [k_tl64]
      exact k_mag_bound (by decide) (by omega)
theorem k_mag_nan {n : Nat} (h : n % 9223372036854775808 ≤ 9218868437227405312) : FP.Core.decode FP.Core.b64 n ≠ .nan := by
  unfold FP.Core.decode FP.Core.fieldE FP.Core.fieldT
  rw [k_tl64, k_ex64]
  split
  · split
    · exact fun z => by cases z
    · omega
  · split
    · exact fun z => by cases z
    · exact fun z => by cases z
theorem k_i2d_nan (s : Int32) : FP.Core.decode FP.Core.b64 (FP.i2d s).toNat ≠ .nan := by
  have e : (FP.i2d s).toNat = FP.Core.encode FP.Core.b64 (FP.Core.roundRatio FP.Core.b64 (decide (s.toInt < 0)) s.toInt.natAbs 1 0) % 2 ^ 64 := UInt64.toNat_ofNat'
  refine k_mag_nan ?_
  rw [e]
  have h := k_mag_round (s := decide (s.toInt < 0)) (c := s.toInt.natAbs) (d := 1) (e := 0)
  generalize FP.Core.encode FP.Core.b64 (FP.Core.roundRatio FP.Core.b64 (decide (s.toInt < 0)) s.toInt.natAbs 1 0) = z at h
  omega
def k_finB (n : Nat) : Bool := match FP.Core.decode FP.Core.b64 (FP.i2d (nI n)).toNat with
  | .fin _ d _ => d != 0
  | _ => false
theorem k_fin10 : ∀ n, n < 11 → n = 0 ∨ k_finB n = true := by decide +kernel
theorem k_n64 {r : UInt64} (h : r.toNat % 9223372036854775808 ≤ 9218868437227405312) : vf_n64 r := by
  unfold vf_n64
  rw [UInt64.le_iff_toNat_le, UInt64.toNat_and]
  have e1 : (9223372036854775807 : UInt64).toNat = 2 ^ 63 - 1 := rfl
  have e2 : (9218868437227405312 : UInt64).toNat = 9218868437227405312 := rfl
  rw [show (0x7fffffffffffffff : UInt64).toNat = 2 ^ 63 - 1 from rfl, show (0x7ff0000000000000 : UInt64).toNat = 9218868437227405312 from rfl, Nat.and_two_pow_sub_one_eq_mod]
  exact h
theorem k_ddiv {s : Int32} {n : Nat} (h0 : 0 < n) (h1 : n ≤ 10) : vf_n64 (FP.ddiv (FP.i2d s) (FP.i2d (nI n))) := by
  have hb : k_finB n = true := by
    rcases k_fin10 n (by omega) with h | h
    · omega
    · exact h
  have ha := k_i2d_nan s
  refine k_n64 ?_
  have e : (FP.ddiv (FP.i2d s) (FP.i2d (nI n))).toNat = FP.Core.encode FP.Core.b64 (FP.Core.quotient FP.Core.b64 (FP.Core.decode FP.Core.b64 (FP.i2d s).toNat) (FP.Core.decode FP.Core.b64 (FP.i2d (nI n)).toNat)) % 2 ^ 64 := UInt64.toNat_ofNat'
  rw [e]
  unfold k_finB at hb
  have key : FP.Core.encode FP.Core.b64 (FP.Core.quotient FP.Core.b64 (FP.Core.decode FP.Core.b64 (FP.i2d s).toNat) (FP.Core.decode FP.Core.b64 (FP.i2d (nI n)).toNat)) % 9223372036854775808 ≤ 9218868437227405312 := by
    cases hd : FP.Core.decode FP.Core.b64 (FP.i2d (nI n)).toNat with
    | nan => rw [hd] at hb; cases hb
    | inf t => rw [hd] at hb; cases hb
    | fin t d r =>
      rw [hd] at hb
      have hb2 : d ≠ 0 := by simpa using hb
      cases hc : FP.Core.decode FP.Core.b64 (FP.i2d s).toNat with
      | nan => exact absurd hc ha
      | inf t2 => exact k_enc_inf
      | fin t2 c q =>
        unfold FP.Core.quotient
        dsimp only
        rw [if_neg hb2]
        exact k_mag_round
  generalize FP.Core.encode FP.Core.b64 _ = z at key
  omega
def meanD (v : Int32) (n : Nat) : UInt64 := if 0 < n then FP.ddiv (FP.i2d v) (FP.i2d (nI n)) else 0
section Mn
variable {G : Gp} {S : AMem} {I : Nat → Nat → Int32} {J : Nat → Nat → Int64} {R : Nat → Nat → Option Nat} {c : Nat} {B : BS} {m : MS}
theorem k_X0_meanHeight (hG : okG G) (hct : CT S R c) (hm : AbM I c B m) : Fn G mX0_meanHeight 2 [vR (c + 5)] (mw S I J R) (fun rr M1 => rr = some (vD (meanD (sumM m.bd m.nb) m.nb)) ∧ M1 = mw S I J R) := by
  obtain ⟨kc, rc0, rc1, rc2, rc3, rc4, rc5, rc6, rc7, ⟨kd, rd0, rd1, rd2, kd2, ld2, kd3, ld3, kd4, ld4⟩, ⟨kb, rb, kb6, lb6⟩, ⟨kf, rf, kf8, lf8⟩, ⟨kr, lr, hr⟩, ⟨kfi, lfi, hfi⟩, ⟨kp, lp, hpz⟩, ⟨kt, lt, htu⟩, kw, lw⟩ := id hct
  obtain ⟨a1, a2, a3, a4, a5, a6, a7, a8, a9, a10, a11⟩ := hm
  refine am_iconst (q := 1) (v := 0) dX0_meanHeight_0 kc_i0 rfl ?_
  refine am_istore_n (q := 2) (ls1 := [_, _, _]) dX0_meanHeight_1 (Nat.le_of_ble_eq_true rfl) rfl rfl ?_
  refine am_iconst (q := 3) (v := 0) dX0_meanHeight_2 kc_i0 rfl ?_
  refine am_istore_n (q := 4) (ls1 := [_, _, _]) dX0_meanHeight_3 (Nat.le_of_ble_eq_true rfl) rfl rfl ?_
  refine k_loop (σ := Int32) (n := m.nb) (Inv := fun i v => v = sumM m.bd i) (W := fun i v => MW G mX0_meanHeight 2 4 [some (vR (c + 5)), some (vI v), some (vI (nI i))] [] (mw S I J R) _) ?_ ?_ 0 0 (Nat.zero_le _) rfl
  · rintro i v hi rfl ih
    refine am_iload_n (q := 5) dX0_meanHeight_4 rfl rfl ?_
    refine am_aload_n (q := 6) dX0_meanHeight_5 rfl rfl ?_
    refine cm_getI (q := 9) dX0_meanHeight_6 flX0_13 rfl (by assumption) rfl ?_
    rw [a8]
    refine am_icmp_ge (tgt := 26) (q := 12) dX0_meanHeight_9 rfl rfl (fun hz => absurd hz (nI_ge hi (by omega))) (fun _ => ?_)
    refine am_iload_n (q := 13) dX0_meanHeight_12 rfl rfl ?_
    refine am_aload_n (q := 14) dX0_meanHeight_13 rfl rfl ?_
    refine am_iload_n (q := 15) dX0_meanHeight_14 rfl rfl ?_
    refine cm_call0 (q := 18) (As := [_]) hG dX0_meanHeight_15 mlX0_21 rfl (by assumption) ⟨_, _, rfl⟩ (Nat.le_of_ble_eq_true rfl) (Nat.le_of_ble_eq_true rfl) (Nat.le_of_ble_eq_true rfl) (Nat.le_of_ble_eq_true rfl) (k_X0_heightAt hG kb rb kb6 lb6) rfl ?_
    rintro _ _ ⟨rfl, rfl⟩
    rw [a8, if_pos ⟨nI_pos' (by omega), nI_lt hi (by omega), nI_lt (b := 10) (by omega) (by decide)⟩, nI_clamp (by omega), a7 i hi]
    refine am_iadd (q := 19) dX0_meanHeight_18 rfl ?_
    refine am_istore_n (q := 20) (ls1 := [_, _, _]) dX0_meanHeight_19 (Nat.le_of_ble_eq_true rfl) rfl rfl ?_
    refine am_iincW (q := 23) (ls1 := [_, _, _]) (w := 1) dX0_meanHeight_20 rfl (Nat.le_of_ble_eq_true rfl) kc_i1 rfl rfl ?_
    refine am_goto (tgt := 4) dX0_meanHeight_23 rfl ?_
    rw [nI_1]
    exact ih _ rfl
  · rintro v rfl
    refine am_iload_n (q := 5) dX0_meanHeight_4 rfl rfl ?_
    refine am_aload_n (q := 6) dX0_meanHeight_5 rfl rfl ?_
    refine cm_getI (q := 9) dX0_meanHeight_6 flX0_13 rfl (by assumption) rfl ?_
    rw [a8]
    refine am_icmp_ge (tgt := 26) (q := 12) dX0_meanHeight_9 rfl rfl (fun _ => ?_) (fun hz => absurd (Int32.le_refl _) hz)
    refine am_aload_n (q := 27) dX0_meanHeight_26 rfl rfl ?_
    refine cm_getI (q := 30) dX0_meanHeight_27 flX0_13 rfl (by assumption) rfl ?_
    rw [a8]
    unfold meanD
    refine am_if_le (tgt := 44) (q := 33) dX0_meanHeight_30 rfl rfl (fun hc => ?_) (fun hc => ?_)
    · rw [if_neg (fun q => absurd hc (nI_nle q (by omega)))]
      refine am_dconst0 (q := 45) dX0_meanHeight_44 rfl ?_
      exact am_dret dX0_meanHeight_45 rfl ⟨_, rfl, rfl, rfl⟩
    · have h0 : 0 < m.nb := Nat.pos_of_ne_zero fun q => hc (by rw [q]; exact Int32.le_refl _)
      rw [if_pos h0]
      refine am_iload_n (q := 34) dX0_meanHeight_33 rfl rfl ?_
      refine am_i2d (q := 35) dX0_meanHeight_34 rfl ?_
      refine am_aload_n (q := 36) dX0_meanHeight_35 rfl rfl ?_
      refine cm_getI (q := 39) dX0_meanHeight_36 flX0_13 rfl (by assumption) rfl ?_
      rw [a8]
      refine am_i2d (q := 40) dX0_meanHeight_39 rfl ?_
      refine am_ddiv (q := 41) dX0_meanHeight_40 (k_ddiv h0 a9) rfl ?_
      refine am_goto (tgt := 45) dX0_meanHeight_41 rfl ?_
      exact am_dret dX0_meanHeight_45 rfl ⟨_, rfl, rfl, rfl⟩
end Mn

