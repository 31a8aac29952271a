theorem dX14_append_0 : decode cX14_append 0 = .ok (.bipush 24, 2) := by decide +kernel
theorem dX14_append_2 : decode cX14_append 2 = .ok (.istore_n 2, 1) := by decide +kernel
theorem dX14_append_3 : decode cX14_append 3 = .ok (.iload_n 2, 1) := by decide +kernel
theorem dX14_append_4 : decode cX14_append 4 = .ok (.ifCond .lt 35, 3) := by decide +kernel
theorem dX14_append_7 : decode cX14_append 7 = .ok (.aload_n 0, 1) := by decide +kernel
theorem dX14_append_8 : decode cX14_append 8 = .ok (.getfield 9, 3) := by decide +kernel
theorem dX14_append_11 : decode cX14_append 11 = .ok (.aload_n 0, 1) := by decide +kernel
theorem dX14_append_12 : decode cX14_append 12 = .ok (.getfield 61, 3) := by decide +kernel
theorem dX14_append_15 : decode cX14_append 15 = .ok (.iload_n 1, 1) := by decide +kernel
theorem dX14_append_16 : decode cX14_append 16 = .ok (.iload_n 2, 1) := by decide +kernel
theorem dX14_append_17 : decode cX14_append 17 = .ok (.ishr, 1) := by decide +kernel
theorem dX14_append_18 : decode cX14_append 18 = .ok (.sipush 255, 3) := by decide +kernel
theorem dX14_append_21 : decode cX14_append 21 = .ok (.iand, 1) := by decide +kernel
theorem dX14_append_22 : decode cX14_append 22 = .ok (.iastore, 1) := by decide +kernel
theorem dX14_append_23 : decode cX14_append 23 = .ok (.aload_n 0, 1) := by decide +kernel
theorem dX14_append_24 : decode cX14_append 24 = .ok (.dup, 1) := by decide +kernel
theorem dX14_append_25 : decode cX14_append 25 = .ok (.getfield 61, 3) := by decide +kernel
theorem dX14_append_28 : decode cX14_append 28 = .ok (.iconst 1, 1) := by decide +kernel
theorem dX14_append_29 : decode cX14_append 29 = .ok (.iadd, 1) := by decide +kernel
theorem dX14_append_30 : decode cX14_append 30 = .ok (.putfield 61, 3) := by decide +kernel
theorem dX14_append_33 : decode cX14_append 33 = .ok (.iinc 2 (-8), 3) := by decide +kernel
theorem dX14_append_36 : decode cX14_append 36 = .ok (.goto (-33), 3) := by decide +kernel
theorem dX14_append_39 : decode cX14_append 39 = .ok (.return_, 1) := by decide +kernel
theorem dX14_feed_0 : decode cX14_feed 0 = .ok (.aload_n 0, 1) := by decide +kernel
theorem dX14_feed_1 : decode cX14_feed 1 = .ok (.iconst 0, 1) := by decide +kernel
theorem dX14_feed_2 : decode cX14_feed 2 = .ok (.putfield 58, 3) := by decide +kernel
theorem dX14_feed_5 : decode cX14_feed 5 = .ok (.aload_n 0, 1) := by decide +kernel
theorem dX14_feed_6 : decode cX14_feed 6 = .ok (.getfield 61, 3) := by decide +kernel
theorem dX14_feed_9 : decode cX14_feed 9 = .ok (.bipush 20, 2) := by decide +kernel
theorem dX14_feed_11 : decode cX14_feed 11 = .ok (.iadd, 1) := by decide +kernel
theorem dX14_feed_12 : decode cX14_feed 12 = .ok (.sipush 2000, 3) := by decide +kernel
theorem dX14_feed_15 : decode cX14_feed 15 = .ok (.if_icmp .le 9, 3) := by decide +kernel
theorem dX14_feed_18 : decode cX14_feed 18 = .ok (.aload_n 0, 1) := by decide +kernel
theorem dX14_feed_19 : decode cX14_feed 19 = .ok (.iconst 1, 1) := by decide +kernel
theorem dX14_feed_20 : decode cX14_feed 20 = .ok (.invokevirtual 64, 3) := by decide +kernel
theorem dX14_feed_23 : decode cX14_feed 23 = .ok (.ireturn, 1) := by decide +kernel
theorem dX14_feed_24 : decode cX14_feed 24 = .ok (.aload_n 0, 1) := by decide +kernel
theorem dX14_feed_25 : decode cX14_feed 25 = .ok (.iload_n 1, 1) := by decide +kernel
theorem dX14_feed_26 : decode cX14_feed 26 = .ok (.invokevirtual 68, 3) := by decide +kernel
theorem dX14_feed_29 : decode cX14_feed 29 = .ok (.aload_n 0, 1) := by decide +kernel
theorem dX14_feed_30 : decode cX14_feed 30 = .ok (.iload_n 2, 1) := by decide +kernel
theorem dX14_feed_31 : decode cX14_feed 31 = .ok (.invokevirtual 68, 3) := by decide +kernel
theorem dX14_feed_34 : decode cX14_feed 34 = .ok (.aload_n 0, 1) := by decide +kernel
theorem dX14_feed_35 : decode cX14_feed 35 = .ok (.iload_n 3, 1) := by decide +kernel
theorem dX14_feed_36 : decode cX14_feed 36 = .ok (.invokevirtual 68, 3) := by decide +kernel
theorem dX14_feed_39 : decode cX14_feed 39 = .ok (.aload_n 0, 1) := by decide +kernel
theorem dX14_feed_40 : decode cX14_feed 40 = .ok (.iload 4, 2) := by decide +kernel
theorem dX14_feed_42 : decode cX14_feed 42 = .ok (.invokevirtual 68, 3) := by decide +kernel
theorem dX14_feed_45 : decode cX14_feed 45 = .ok (.aload_n 0, 1) := by decide +kernel
theorem dX14_feed_46 : decode cX14_feed 46 = .ok (.iload 5, 2) := by decide +kernel
theorem dX14_feed_48 : decode cX14_feed 48 = .ok (.invokevirtual 68, 3) := by decide +kernel
theorem dX14_feed_51 : decode cX14_feed 51 = .ok (.aload_n 0, 1) := by decide +kernel
theorem dX14_feed_52 : decode cX14_feed 52 = .ok (.getfield 61, 3) := by decide +kernel
theorem dX14_feed_55 : decode cX14_feed 55 = .ok (.ireturn, 1) := by decide +kernel
/-! the reference is fed -/
theorem k_bvs (x : BitVec 32) (k : Nat) (hk : k ≤ 24) : x.sshiftRight k &&& 255#32 = x >>> k &&& 255#32 := by
  apply BitVec.eq_of_getLsbD_eq
  intro i hi
  rw [BitVec.getLsbD_and, BitVec.getLsbD_and]
  by_cases h : i < 8
  · rw [BitVec.getLsbD_sshiftRight, BitVec.getLsbD_ushiftRight, if_pos (by omega)]
    simp only [decide_eq_false (show ¬ 32 ≤ i by omega), Bool.not_false, Bool.true_and]
  · have e : (255#32).getLsbD i = false := by
      rw [BitVec.getLsbD_ofNat]
      have : Nat.testBit 255 i = false := Nat.testBit_lt_two_pow (Nat.lt_of_lt_of_le (show 255 < 2 ^ 8 by decide) (Nat.pow_le_pow_right (by decide) (by omega)))
      rw [this, Bool.and_false]
    rw [e, Bool.and_false, Bool.and_false]
theorem k_byte (v : Int32) : ∀ k, k < 4 → (v >>> (nI (24 - 8 * k) &&& 31)) &&& 255 = (v.toUInt32 >>> ((nI (24 - 8 * k)).toUInt32 &&& Int32.toUInt32 31)).toInt32 &&& 255 := by
  intro k hk
  apply Int32.toBitVec_inj.mp
  rcases (show k = 0 ∨ k = 1 ∨ k = 2 ∨ k = 3 by omega) with rfl | rfl | rfl | rfl
  · exact k_bvs v.toBitVec 24 (by decide)
  · exact k_bvs v.toBitVec 16 (by decide)
  · exact k_bvs v.toBitVec 8 (by decide)
  · exact k_bvs v.toBitVec 0 (by decide)
section Mx
variable {G : Gp} {S : AMem} {I I1 : Nat → Nat → Int32} {J : Nat → Nat → Int64} {R : Nat → Nat → Option Nat} {y bl nx : Nat} {s : XS}
/-- the tape of the reference -/
def AbTm (I : Nat → Nat → Int32) (y : Nat) (E : Tp) : Prop := I y 2 = nI E.1 ∧ E.1 ≤ 2000 ∧ ∀ i, i < E.1 → I (y + 1) i = E.2 i
theorem k_X14_append {v : Int32} {E : Tp} (ky : S.K y = 15) (r1 : R y 1 = some (y + 1)) (k1 : S.K (y + 1) = 20) (l1 : S.ln (y + 1) = 2000) (hE : AbTm I y E) (hr : E.1 + 4 ≤ 2000) : Fn G mX14_append 0 [vR y, vI v] (mw S I J R) (fun rr M1 => rr = none ∧ ∃ I1, M1 = mw S I1 J R ∧ AbTm I1 y (E.num v 4) ∧ ∀ x j, (x ≠ y ∨ j ≠ 2) → x ≠ y + 1 → I1 x j = I x j) := by
  refine am_bipush (q := 2) (v := 24) dX14_append_0 kc_b24 rfl ?_
  refine am_istore_n (q := 3) (ls1 := [_, _, _]) dX14_append_2 (Nat.le_of_ble_eq_true rfl) rfl rfl ?_
  refine k_loop (σ := Nat → Nat → Int32) (n := 4) (Inv := fun k I1 => AbTm I1 y (E.num v k) ∧ ∀ x j, (x ≠ y ∨ j ≠ 2) → x ≠ y + 1 → I1 x j = I x j) (W := fun k I1 => MW G mX14_append 0 3 [some (vR y), some (vI v), some (vI (24 - 8 * nI k))] [] (mw S I1 J R) _) ?_ ?_ 0 I (Nat.zero_le _) ⟨hE, fun _ _ _ _ => rfl⟩
  · intro k I1 hk ⟨⟨h1, h2, h3⟩, ho⟩ ih
    have es : (24 - 8 * nI k : Int32) = nI (24 - 8 * k) := by
      rcases (show k = 0 ∨ k = 1 ∨ k = 2 ∨ k = 3 by omega) with rfl | rfl | rfl | rfl <;> rfl
    have en : (24 - 8 * nI k + -8 : Int32) = 24 - 8 * nI (k + 1) := by
      rcases (show k = 0 ∨ k = 1 ∨ k = 2 ∨ k = 3 by omega) with rfl | rfl | rfl | rfl <;> rfl
    have hl := Tp.num_1 (E := E) (v := v) k
    refine am_iload_n (q := 4) dX14_append_3 rfl rfl ?_
    refine am_if_lt (tgt := 39) (q := 7) dX14_append_4 rfl rfl (fun hz => absurd hz (by rw [es]; exact nI_pos (by omega))) (fun _ => ?_)
    refine am_aload_n (q := 8) dX14_append_7 rfl rfl ?_
    refine cm_getR (q := 11) dX14_append_8 flX14_9 rfl (by assumption) (by assumption) rfl ?_
    refine am_aload_n (q := 12) dX14_append_11 rfl rfl ?_
    refine cm_getI (q := 15) dX14_append_12 flX14_61 rfl (by assumption) rfl ?_
    rw [h1]
    refine am_iload_n (q := 16) dX14_append_15 rfl rfl ?_
    refine am_iload_n (q := 17) dX14_append_16 rfl rfl ?_
    refine am_ishr (q := 18) dX14_append_17 rfl ?_
    refine am_sipush (q := 21) (v := 255) dX14_append_18 kc_s255 rfl ?_
    refine am_iand (q := 22) dX14_append_21 rfl ?_
    rw [es, k_byte v k hk]
    refine cm_iastore (q := 23) dX14_append_22 (by assumption) (by rw [l1]; exact vp_in_nI (by omega) (by decide)) rfl ?_
    rw [nI_clamp (by omega)]
    refine am_aload_n (q := 24) dX14_append_23 rfl rfl ?_
    refine am_dup (q := 25) dX14_append_24 rfl rfl ?_
    refine cm_getI (q := 28) dX14_append_25 flX14_61 rfl (by assumption) rfl ?_
    rw [up2_a (by omega), h1]
    refine am_iconst (q := 29) (v := 1) dX14_append_28 kc_i1 rfl ?_
    refine am_iadd (q := 30) dX14_append_29 rfl ?_
    refine cm_putI (q := 33) dX14_append_30 flX14_61 rfl (Or.inl rfl) (Or.inl rfl) (by assumption) rfl ?_
    rw [← es]
    refine am_iincW (q := 36) (ls1 := [_, _, _]) (w := (-8)) dX14_append_33 rfl (Nat.le_of_ble_eq_true rfl) kc_im8 rfl rfl ?_
    refine am_goto (tgt := 3) dX14_append_36 rfl ?_
    rw [en]
    refine ih _ ⟨⟨?_, ?_, ?_⟩, ?_⟩
    · rw [up2_s, nI_1]
      rfl
    · show (E.num v k).1 + 1 ≤ 2000
      omega
    · intro i hi
      have hi2 : i < (E.num v k).1 + 1 := hi
      show up2 (up2 I1 _ _ _) _ _ _ _ _ = up1 (E.num v k).2 (E.num v k).1 ((v.toUInt32 >>> ((nI (24 - 8 * k)).toUInt32 &&& Int32.toUInt32 31)).toInt32 &&& 255) i
      rw [up2_a (by omega), up2_at]
      unfold up1
      by_cases e : i = (E.num v k).1
      · rw [if_pos ⟨rfl, e⟩, if_pos e, es]
      · rw [if_neg (fun z => e z.2), if_neg e]
        exact h3 i (by omega)
    · intro x j q1 q2
      rw [up2_at, if_neg (by omega), up2_a q2]
      exact ho x j q1 q2
  · intro I1 ⟨h1, ho⟩
    refine am_iload_n (q := 4) dX14_append_3 rfl rfl ?_
    refine am_if_lt (tgt := 39) (q := 7) dX14_append_4 rfl rfl (fun _ => ?_) (fun hz => absurd (by decide) hz)
    exact am_ret dX14_append_39 rfl ⟨_, rfl, rfl, I1, rfl, h1, ho⟩
theorem k_X14_feed {p q r u v : Int32} (hG : okG G) (h : YW S y s I R) : Fn G mX14_feed 406 [vR y, vI p, vI q, vI r, vI u, vI v] (mw S I J R) (YR S y I J R (if s.E.1 + 20 ≤ 2000 then (vI (nI (s.E.1 + 20)), (fedE s.E p q r u v, s.B, s.m, s.er), 0) else (vI 0, s, 1))) := by
  obtain ⟨bl, nx, hC, hA⟩ := h
  obtain ⟨p1, p2, p3, p4, p5⟩ := hC.lo
  have ky := hC.1.1
  obtain ⟨r1, k1, l1⟩ := hC.2.1
  have ul := hA.1.2.1
  have hE : AbTm (up2 I y 0 0) y s.E := ⟨(up2_j (by decide)).trans hA.1.1, ul, fun i hi => (up2_a (by omega)).trans (hA.1.2.2 i hi)⟩
  refine am_aload_n (q := 1) dX14_feed_0 rfl rfl ?_
  refine am_iconst (q := 2) (v := 0) dX14_feed_1 kc_i0 rfl ?_
  refine cm_putI (q := 5) dX14_feed_2 flX14_58 rfl (Or.inl rfl) (Or.inl rfl) (by assumption) rfl ?_
  refine am_aload_n (q := 6) dX14_feed_5 rfl rfl ?_
  refine cm_getI (q := 9) dX14_feed_6 flX14_61 rfl (by assumption) rfl ?_
  rw [hE.1]
  refine am_bipush (q := 11) (v := 20) dX14_feed_9 kc_b20 rfl ?_
  refine am_iadd (q := 12) dX14_feed_11 rfl ?_
  rw [show (nI s.E.1 + 20 : Int32) = nI (s.E.1 + 20) from nI_add s.E.1 20]
  refine am_sipush (q := 15) (v := 2000) dX14_feed_12 kc_s2000 rfl ?_
  refine am_icmp_le (tgt := 24) (q := 18) dX14_feed_15 rfl rfl (fun h1 => ?_) (fun h1 => ?_)
  · have h2 : s.E.1 + 20 ≤ 2000 := (nI_leI (b := 2000) (by omega) (by decide)).mp h1
    rw [if_pos h2]
    have n1 : (s.E.num p 4).1 = s.E.1 + 4 := Tp.num_1 4
    have n2 : ((s.E.num p 4).num q 4).1 = s.E.1 + 8 := by rw [Tp.num_1, n1]
    have n3 : (((s.E.num p 4).num q 4).num r 4).1 = s.E.1 + 12 := by rw [Tp.num_1, n2]
    have n4 : ((((s.E.num p 4).num q 4).num r 4).num u 4).1 = s.E.1 + 16 := by rw [Tp.num_1, n3]
    have n5 : (fedE s.E p q r u v).1 = s.E.1 + 20 := by unfold fedE; rw [Tp.num_1, n4]
    refine am_aload_n (q := 25) dX14_feed_24 rfl rfl ?_
    refine am_iload_n (q := 26) dX14_feed_25 rfl rfl ?_
    refine cm_call0 (q := 29) (As := [_]) hG dX14_feed_26 mlX14_68 rfl (by assumption) ⟨_, _, rfl⟩ (Nat.le_of_ble_eq_true rfl) (Nat.le_of_ble_eq_true rfl) (Nat.le_of_ble_eq_true rfl) (Nat.le_of_ble_eq_true rfl) (k_X14_append ky r1 k1 l1 hE (by omega)) rfl ?_
    rintro _ _ ⟨rfl, I1, rfl, g1, o1⟩
    refine am_aload_n (q := 30) dX14_feed_29 rfl rfl ?_
    refine am_iload_n (q := 31) dX14_feed_30 rfl rfl ?_
    refine cm_call0 (q := 34) (As := [_]) hG dX14_feed_31 mlX14_68 rfl (by assumption) ⟨_, _, rfl⟩ (Nat.le_of_ble_eq_true rfl) (Nat.le_of_ble_eq_true rfl) (Nat.le_of_ble_eq_true rfl) (Nat.le_of_ble_eq_true rfl) (k_X14_append ky r1 k1 l1 g1 (by omega)) rfl ?_
    rintro _ _ ⟨rfl, I2, rfl, g2, o2⟩
    refine am_aload_n (q := 35) dX14_feed_34 rfl rfl ?_
    refine am_iload_n (q := 36) dX14_feed_35 rfl rfl ?_
    refine cm_call0 (q := 39) (As := [_]) hG dX14_feed_36 mlX14_68 rfl (by assumption) ⟨_, _, rfl⟩ (Nat.le_of_ble_eq_true rfl) (Nat.le_of_ble_eq_true rfl) (Nat.le_of_ble_eq_true rfl) (Nat.le_of_ble_eq_true rfl) (k_X14_append ky r1 k1 l1 g2 (by omega)) rfl ?_
    rintro _ _ ⟨rfl, I3, rfl, g3, o3⟩
    refine am_aload_n (q := 40) dX14_feed_39 rfl rfl ?_
    refine am_iload (q := 42) dX14_feed_40 rfl rfl ?_
    refine cm_call0 (q := 45) (As := [_]) hG dX14_feed_42 mlX14_68 rfl (by assumption) ⟨_, _, rfl⟩ (Nat.le_of_ble_eq_true rfl) (Nat.le_of_ble_eq_true rfl) (Nat.le_of_ble_eq_true rfl) (Nat.le_of_ble_eq_true rfl) (k_X14_append ky r1 k1 l1 g3 (by omega)) rfl ?_
    rintro _ _ ⟨rfl, I4, rfl, g4, o4⟩
    refine am_aload_n (q := 46) dX14_feed_45 rfl rfl ?_
    refine am_iload (q := 48) dX14_feed_46 rfl rfl ?_
    refine cm_call0 (q := 51) (As := [_]) hG dX14_feed_48 mlX14_68 rfl (by assumption) ⟨_, _, rfl⟩ (Nat.le_of_ble_eq_true rfl) (Nat.le_of_ble_eq_true rfl) (Nat.le_of_ble_eq_true rfl) (Nat.le_of_ble_eq_true rfl) (k_X14_append ky r1 k1 l1 g4 (by omega)) rfl ?_
    rintro _ _ ⟨rfl, I5, rfl, g5, o5⟩
    have e5 : I5 y 2 = nI (s.E.1 + 20) := by rw [← n5]; exact g5.1
    have oo : ∀ x j, (x ≠ y ∨ j ≠ 2) → x ≠ y + 1 → I5 x j = up2 I y 0 0 x j := fun x j q1 q2 => ((((o5 x j q1 q2).trans (o4 x j q1 q2)).trans (o3 x j q1 q2)).trans (o2 x j q1 q2)).trans (o1 x j q1 q2)
    have fr : ∀ x j, (x ≠ y ∨ (j ≠ 0 ∧ j ≠ 2)) → x ≠ y + 1 → I5 x j = I x j := fun x j q1 q2 => by rw [oo x j (by omega) q2, up2_at, if_neg (by omega)]
    obtain ⟨a1, a4, a5, a6, a7⟩ := hA
    refine am_aload_n (q := 52) dX14_feed_51 rfl rfl ?_
    refine cm_getI (q := 55) dX14_feed_52 flX14_61 rfl (by assumption) rfl ?_
    rw [e5]
    exact am_iret dX14_feed_55 rfl rfl ⟨_, rfl, rfl, I5, R, rfl, ⟨bl, nx, hC, g5, (fr _ _ (by omega) (by omega)).trans a4, a5.mv (fun x i p q => fr _ _ (by omega) (by omega)) (fun _ _ => ⟨rfl, rfl⟩) (fun _ _ => ⟨rfl, rfl⟩), a6.fr (fun x i p q => fr _ _ (by omega) (by omega)), a7⟩, (oo y 0 (by omega) (by omega)).trans up2_s, fun x p => ⟨funext fun i => fr _ _ (by omega) (by omega), rfl⟩⟩
  · rw [if_neg (fun z => h1 ((nI_leI (b := 2000) (by omega) (by decide)).mpr z))]
    refine am_aload_n (q := 19) dX14_feed_18 rfl rfl ?_
    refine am_iconst (q := 20) (v := 1) dX14_feed_19 kc_i1 rfl ?_
    refine cm_call0 (q := 23) (As := [_]) hG dX14_feed_20 mlX14_64 rfl (by assumption) ⟨_, _, rfl⟩ (Nat.le_of_ble_eq_true rfl) (Nat.le_of_ble_eq_true rfl) (Nat.le_of_ble_eq_true rfl) (Nat.le_of_ble_eq_true rfl) (k_X14_no ky) rfl ?_
    rintro _ _ ⟨rfl, rfl⟩
    exact am_iret dX14_feed_23 rfl rfl ⟨_, rfl, (YQ.cl2 hC hA)⟩
end Mx

