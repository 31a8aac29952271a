theorem kc_b10 : (Int8.ofInt 10).toInt32 = 10 := by decide +kernel
theorem kc_im1 : Int32.ofInt (-1) = (-1) := by decide +kernel
theorem kc_i0 : Int32.ofInt 0 = 0 := by decide +kernel
theorem kc_i1 : Int32.ofInt 1 = 1 := by decide +kernel
theorem dX0_add_0 : decode cX0_add 0 = .ok (.aload_n 0, 1) := by decide +kernel
theorem dX0_add_1 : decode cX0_add 1 = .ok (.getfield 9, 3) := by decide +kernel
theorem dX0_add_4 : decode cX0_add 4 = .ok (.arraylength, 1) := by decide +kernel
theorem dX0_add_5 : decode cX0_add 5 = .ok (.iconst 1, 1) := by decide +kernel
theorem dX0_add_6 : decode cX0_add 6 = .ok (.isub, 1) := by decide +kernel
theorem dX0_add_7 : decode cX0_add 7 = .ok (.istore_n 2, 1) := by decide +kernel
theorem dX0_add_8 : decode cX0_add 8 = .ok (.iload_n 2, 1) := by decide +kernel
theorem dX0_add_9 : decode cX0_add 9 = .ok (.ifCond .le 23, 3) := by decide +kernel
theorem dX0_add_12 : decode cX0_add 12 = .ok (.aload_n 0, 1) := by decide +kernel
theorem dX0_add_13 : decode cX0_add 13 = .ok (.getfield 9, 3) := by decide +kernel
theorem dX0_add_16 : decode cX0_add 16 = .ok (.iload_n 2, 1) := by decide +kernel
theorem dX0_add_17 : decode cX0_add 17 = .ok (.aload_n 0, 1) := by decide +kernel
theorem dX0_add_18 : decode cX0_add 18 = .ok (.getfield 9, 3) := by decide +kernel
theorem dX0_add_21 : decode cX0_add 21 = .ok (.iload_n 2, 1) := by decide +kernel
theorem dX0_add_22 : decode cX0_add 22 = .ok (.iconst 1, 1) := by decide +kernel
theorem dX0_add_23 : decode cX0_add 23 = .ok (.isub, 1) := by decide +kernel
theorem dX0_add_24 : decode cX0_add 24 = .ok (.iaload, 1) := by decide +kernel
theorem dX0_add_25 : decode cX0_add 25 = .ok (.iastore, 1) := by decide +kernel
theorem dX0_add_26 : decode cX0_add 26 = .ok (.iinc 2 (-1), 3) := by decide +kernel
theorem dX0_add_29 : decode cX0_add 29 = .ok (.goto (-21), 3) := by decide +kernel
theorem dX0_add_32 : decode cX0_add 32 = .ok (.aload_n 0, 1) := by decide +kernel
theorem dX0_add_33 : decode cX0_add 33 = .ok (.getfield 9, 3) := by decide +kernel
theorem dX0_add_36 : decode cX0_add 36 = .ok (.iconst 0, 1) := by decide +kernel
theorem dX0_add_37 : decode cX0_add 37 = .ok (.iload_n 1, 1) := by decide +kernel
theorem dX0_add_38 : decode cX0_add 38 = .ok (.iastore, 1) := by decide +kernel
theorem dX0_add_39 : decode cX0_add 39 = .ok (.aload_n 0, 1) := by decide +kernel
theorem dX0_add_40 : decode cX0_add 40 = .ok (.getfield 13, 3) := by decide +kernel
theorem dX0_add_43 : decode cX0_add 43 = .ok (.bipush 10, 2) := by decide +kernel
theorem dX0_add_45 : decode cX0_add 45 = .ok (.if_icmp .ge 13, 3) := by decide +kernel
theorem dX0_add_48 : decode cX0_add 48 = .ok (.aload_n 0, 1) := by decide +kernel
theorem dX0_add_49 : decode cX0_add 49 = .ok (.dup, 1) := by decide +kernel
theorem dX0_add_50 : decode cX0_add 50 = .ok (.getfield 13, 3) := by decide +kernel
theorem dX0_add_53 : decode cX0_add 53 = .ok (.iconst 1, 1) := by decide +kernel
theorem dX0_add_54 : decode cX0_add 54 = .ok (.iadd, 1) := by decide +kernel
theorem dX0_add_55 : decode cX0_add 55 = .ok (.putfield 13, 3) := by decide +kernel
theorem dX0_add_58 : decode cX0_add 58 = .ok (.return_, 1) := by decide +kernel
theorem dX0_copyFrom_0 : decode cX0_copyFrom 0 = .ok (.aload_n 0, 1) := by decide +kernel
theorem dX0_copyFrom_1 : decode cX0_copyFrom 1 = .ok (.aload_n 1, 1) := by decide +kernel
theorem dX0_copyFrom_2 : decode cX0_copyFrom 2 = .ok (.getfield 13, 3) := by decide +kernel
theorem dX0_copyFrom_5 : decode cX0_copyFrom 5 = .ok (.putfield 13, 3) := by decide +kernel
theorem dX0_copyFrom_8 : decode cX0_copyFrom 8 = .ok (.iconst 0, 1) := by decide +kernel
theorem dX0_copyFrom_9 : decode cX0_copyFrom 9 = .ok (.istore_n 2, 1) := by decide +kernel
theorem dX0_copyFrom_10 : decode cX0_copyFrom 10 = .ok (.iload_n 2, 1) := by decide +kernel
theorem dX0_copyFrom_11 : decode cX0_copyFrom 11 = .ok (.aload_n 0, 1) := by decide +kernel
theorem dX0_copyFrom_12 : decode cX0_copyFrom 12 = .ok (.getfield 9, 3) := by decide +kernel
theorem dX0_copyFrom_15 : decode cX0_copyFrom 15 = .ok (.arraylength, 1) := by decide +kernel
theorem dX0_copyFrom_16 : decode cX0_copyFrom 16 = .ok (.if_icmp .ge 20, 3) := by decide +kernel
theorem dX0_copyFrom_19 : decode cX0_copyFrom 19 = .ok (.aload_n 0, 1) := by decide +kernel
theorem dX0_copyFrom_20 : decode cX0_copyFrom 20 = .ok (.getfield 9, 3) := by decide +kernel
theorem dX0_copyFrom_23 : decode cX0_copyFrom 23 = .ok (.iload_n 2, 1) := by decide +kernel
theorem dX0_copyFrom_24 : decode cX0_copyFrom 24 = .ok (.aload_n 1, 1) := by decide +kernel
theorem dX0_copyFrom_25 : decode cX0_copyFrom 25 = .ok (.iload_n 2, 1) := by decide +kernel
theorem dX0_copyFrom_26 : decode cX0_copyFrom 26 = .ok (.invokevirtual 21, 3) := by decide +kernel
theorem dX0_copyFrom_29 : decode cX0_copyFrom 29 = .ok (.iastore, 1) := by decide +kernel
theorem dX0_copyFrom_30 : decode cX0_copyFrom 30 = .ok (.iinc 2 1, 3) := by decide +kernel
theorem dX0_copyFrom_33 : decode cX0_copyFrom 33 = .ok (.goto (-23), 3) := by decide +kernel
theorem dX0_copyFrom_36 : decode cX0_copyFrom 36 = .ok (.return_, 1) := by decide +kernel
theorem dX0_has_0 : decode cX0_has 0 = .ok (.iload_n 1, 1) := by decide +kernel
theorem dX0_has_1 : decode cX0_has 1 = .ok (.ifCond .lt 24, 3) := by decide +kernel
theorem dX0_has_4 : decode cX0_has 4 = .ok (.iload_n 1, 1) := by decide +kernel
theorem dX0_has_5 : decode cX0_has 5 = .ok (.aload_n 0, 1) := by decide +kernel
theorem dX0_has_6 : decode cX0_has 6 = .ok (.getfield 13, 3) := by decide +kernel
theorem dX0_has_9 : decode cX0_has 9 = .ok (.if_icmp .ge 16, 3) := by decide +kernel
theorem dX0_has_12 : decode cX0_has 12 = .ok (.iload_n 1, 1) := by decide +kernel
theorem dX0_has_13 : decode cX0_has 13 = .ok (.aload_n 0, 1) := by decide +kernel
theorem dX0_has_14 : decode cX0_has 14 = .ok (.getfield 9, 3) := by decide +kernel
theorem dX0_has_17 : decode cX0_has 17 = .ok (.arraylength, 1) := by decide +kernel
theorem dX0_has_18 : decode cX0_has 18 = .ok (.if_icmp .ge 7, 3) := by decide +kernel
theorem dX0_has_21 : decode cX0_has 21 = .ok (.iconst 1, 1) := by decide +kernel
theorem dX0_has_22 : decode cX0_has 22 = .ok (.goto 4, 3) := by decide +kernel
theorem dX0_has_25 : decode cX0_has 25 = .ok (.iconst 0, 1) := by decide +kernel
theorem dX0_has_26 : decode cX0_has 26 = .ok (.ireturn, 1) := by decide +kernel
theorem dX0_heightAt_0 : decode cX0_heightAt 0 = .ok (.aload_n 0, 1) := by decide +kernel
theorem dX0_heightAt_1 : decode cX0_heightAt 1 = .ok (.iload_n 1, 1) := by decide +kernel
theorem dX0_heightAt_2 : decode cX0_heightAt 2 = .ok (.invokevirtual 17, 3) := by decide +kernel
theorem dX0_heightAt_5 : decode cX0_heightAt 5 = .ok (.ifCond .eq 12, 3) := by decide +kernel
theorem dX0_heightAt_8 : decode cX0_heightAt 8 = .ok (.aload_n 0, 1) := by decide +kernel
theorem dX0_heightAt_9 : decode cX0_heightAt 9 = .ok (.getfield 9, 3) := by decide +kernel
theorem dX0_heightAt_12 : decode cX0_heightAt 12 = .ok (.iload_n 1, 1) := by decide +kernel
theorem dX0_heightAt_13 : decode cX0_heightAt 13 = .ok (.iaload, 1) := by decide +kernel
theorem dX0_heightAt_14 : decode cX0_heightAt 14 = .ok (.goto 4, 3) := by decide +kernel
theorem dX0_heightAt_17 : decode cX0_heightAt 17 = .ok (.iconst 0, 1) := by decide +kernel
theorem dX0_heightAt_18 : decode cX0_heightAt 18 = .ok (.ireturn, 1) := by decide +kernel
/-! the class's leaves: Board, Fist, Prize, Rail, Tape, Turn -/
def bI (c : Prop) [Decidable c] : Int32 := if c then 1 else 0
theorem bI_t {c : Prop} [Decidable c] (h : c) : bI c = 1 := if_pos h
theorem bI_f {c : Prop} [Decidable c] (h : ¬ c) : bI c = 0 := if_neg h
theorem bI_e0 {c : Prop} [Decidable c] : bI c = 0 ↔ ¬ c := by
  by_cases h : c
  · rw [bI_t h]
    exact ⟨fun q => absurd q (by decide), fun q => absurd h q⟩
  · rw [bI_f h]
    exact ⟨fun _ => h, fun _ => rfl⟩
theorem bI_n0 {c : Prop} [Decidable c] : ¬ bI c = 0 ↔ c := by
  rw [bI_e0]
  exact Classical.not_not
theorem bI_c {c e : Prop} [Decidable c] [Decidable e] (h : c ↔ e) : bI c = bI e := by
  by_cases q : c
  · rw [bI_t q, bI_t (h.mp q)]
  · rw [bI_f q, bI_f (fun z => q (h.mpr z))]
/-- a loop that counts up -/
theorem k_loop {σ : Type} {n : Nat} {Inv W : Nat → σ → Prop} (hs : ∀ i s, i < n → Inv i s → (∀ s', Inv (i + 1) s' → W (i + 1) s') → W i s) (he : ∀ s, Inv n s → W n s) : ∀ i s, i ≤ n → Inv i s → W i s := by
  have key : ∀ (m i : Nat) (s : σ), i + m = n → Inv i s → W i s := by
    intro m
    induction m with
    | zero =>
      intro i s hi h
      have e : i = n := by omega
      subst e
      exact he s h
    | succ m ih =>
      intro i s hi h
      exact hs i s (by omega) h (fun s' h' => ih (i + 1) s' (by omega) h')
  intro i s hi h
  exact key (n - i) i s (by omega) h
theorem k_inI {i : Int32} {n : Nat} {v : Int32} (hv : v = nI n) (hn : n < 2 ^ 31) (h0 : ¬ i < 0) (h1 : i < v) : vp_in i n := by
  intro q
  rcases q with q | q
  · exact h0 q
  · obtain ⟨k, hk, rfl⟩ := nI_of h0
    rw [nI_clamp hk] at q
    rw [hv, nI_ltI hk hn] at h1
    omega
section LeafB
variable {G : Gp} {S : AMem} {I : Nat → Nat → Int32} {J : Nat → Nat → Int64} {R : Nat → Nat → Option Nat} {a b a2 b2 : Nat}
theorem k_X0_has {i : Int32} (h1 : S.K a = 1) (h2 : R a 0 = some b) (h3 : S.K b = 20) (h4 : S.ln b = 10) : Fn G mX0_has 0 [vR a, vI i] (mw S I J R) (fun rr M1 => rr = some (vI (bI (0 ≤ i ∧ i < I a 1 ∧ i < 10))) ∧ M1 = mw S I J R) := by
  refine am_iload_n (q := 1) dX0_has_0 rfl rfl ?_
  refine am_if_lt (tgt := 25) (q := 4) dX0_has_1 rfl rfl (fun hc => ?_) (fun hc => ?_)
  · refine am_iconst (q := 26) (v := 0) dX0_has_25 kc_i0 rfl ?_
    exact am_iret dX0_has_26 rfl rfl ⟨_, rfl, by rw [bI_f (fun z => Int32.not_le.mpr hc z.1)], rfl⟩
  · refine am_iload_n (q := 5) dX0_has_4 rfl rfl ?_
    refine am_aload_n (q := 6) dX0_has_5 rfl rfl ?_
    refine cm_getI (q := 9) dX0_has_6 flX0_13 rfl (by assumption) rfl ?_
    refine am_icmp_ge (tgt := 25) (q := 12) dX0_has_9 rfl rfl (fun hc2 => ?_) (fun hc2 => ?_)
    · refine am_iconst (q := 26) (v := 0) dX0_has_25 kc_i0 rfl ?_
      exact am_iret dX0_has_26 rfl rfl ⟨_, rfl, by rw [bI_f (fun z => Int32.not_le.mpr z.2.1 hc2)], rfl⟩
    · refine am_iload_n (q := 13) dX0_has_12 rfl rfl ?_
      refine am_aload_n (q := 14) dX0_has_13 rfl rfl ?_
      refine cm_getR (q := 17) dX0_has_14 flX0_9 rfl (by assumption) (by assumption) rfl ?_
      refine cm_alenI (q := 18) dX0_has_17 (by assumption) (by rw [h4] : nI (S.ln b) = nI 10) rfl ?_
      refine am_icmp_ge (tgt := 25) (q := 21) dX0_has_18 rfl rfl (fun hc3 => ?_) (fun hc3 => ?_)
      · refine am_iconst (q := 26) (v := 0) dX0_has_25 kc_i0 rfl ?_
        exact am_iret dX0_has_26 rfl rfl ⟨_, rfl, by rw [bI_f (fun z => Int32.not_le.mpr z.2.2 hc3)], rfl⟩
      · refine am_iconst (q := 22) (v := 1) dX0_has_21 kc_i1 rfl ?_
        refine am_goto (tgt := 26) dX0_has_22 rfl ?_
        exact am_iret dX0_has_26 rfl rfl ⟨_, rfl, by rw [bI_t ⟨Int32.not_lt.mp hc, Int32.not_le.mp hc2, Int32.not_le.mp hc3⟩], rfl⟩
theorem k_X0_heightAt {i : Int32} (hG : okG G) (h1 : S.K a = 1) (h2 : R a 0 = some b) (h3 : S.K b = 20) (h4 : S.ln b = 10) : Fn G mX0_heightAt 1 [vR a, vI i] (mw S I J R) (fun rr M1 => rr = some (vI (if 0 ≤ i ∧ i < I a 1 ∧ i < 10 then I b i.toNatClampNeg else 0)) ∧ M1 = mw S I J R) := by
  refine am_aload_n (q := 1) dX0_heightAt_0 rfl rfl ?_
  refine am_iload_n (q := 2) dX0_heightAt_1 rfl rfl ?_
  refine cm_call0 (q := 5) (As := [_]) hG dX0_heightAt_2 mlX0_17 rfl (by assumption) ⟨_, _, rfl⟩ (Nat.le_of_ble_eq_true rfl) (Nat.le_of_ble_eq_true rfl) (Nat.le_of_ble_eq_true rfl) (Nat.le_of_ble_eq_true rfl) (k_X0_has h1 h2 h3 h4) rfl ?_
  rintro _ _ ⟨rfl, rfl⟩
  refine am_if_eq (tgt := 17) (q := 8) dX0_heightAt_5 rfl rfl (fun hc => ?_) (fun hc => ?_)
  · refine am_iconst (q := 18) (v := 0) dX0_heightAt_17 kc_i0 rfl ?_
    exact am_iret dX0_heightAt_18 rfl rfl ⟨_, rfl, by rw [if_neg (bI_e0.mp hc)], rfl⟩
  · have hz := bI_n0.mp hc
    refine am_aload_n (q := 9) dX0_heightAt_8 rfl rfl ?_
    refine cm_getR (q := 12) dX0_heightAt_9 flX0_9 rfl (by assumption) (by assumption) rfl ?_
    refine am_iload_n (q := 13) dX0_heightAt_12 rfl rfl ?_
    refine cm_iaload (q := 14) dX0_heightAt_13 (by assumption) (by rw [h4]; exact k_inI (v := 10) rfl (by decide) (Int32.not_lt.mpr hz.1) hz.2.2) rfl ?_
    refine am_goto (tgt := 18) dX0_heightAt_14 rfl ?_
    exact am_iret dX0_heightAt_18 rfl rfl ⟨_, rfl, by rw [if_pos hz], rfl⟩
/-- Board.add: the heights move on by one, the new one stands ahead -/
theorem k_X0_add {v : Int32} (h1 : S.K a = 1) (h2 : R a 0 = some b) (h3 : S.K b = 20) (h4 : S.ln b = 10) (hab : a ≠ b) : Fn G mX0_add 0 [vR a, vI v] (mw S I J R) (fun rr M1 => rr = none ∧ M1 = mw S (fun x j => if x = b ∧ j = 0 then v else if x = b ∧ j < 10 then I b (j - 1) else if x = a ∧ j = 1 then (if I a 1 < 10 then I a 1 + 1 else I a 1) else I x j) J R) := by
  refine am_aload_n (q := 1) dX0_add_0 rfl rfl ?_
  refine cm_getR (q := 4) dX0_add_1 flX0_9 rfl (by assumption) (by assumption) rfl ?_
  refine cm_alenI (q := 5) dX0_add_4 (by assumption) (by rw [h4] : nI (S.ln b) = nI 10) rfl ?_
  refine am_iconst (q := 6) (v := 1) dX0_add_5 kc_i1 rfl ?_
  refine am_isub (q := 7) dX0_add_6 rfl ?_
  refine am_istore_n (q := 8) (ls1 := [_, _, _]) dX0_add_7 (Nat.le_of_ble_eq_true rfl) rfl rfl ?_
  have hsub : nI 10 - 1 = nI 9 := by decide +kernel
  rw [hsub]
  refine k_loop (σ := Nat → Nat → Int32) (n := 9) (Inv := fun i I1 => ∀ x j, I1 x j = if x = b ∧ 9 < j + i ∧ j < 10 then I b (j - 1) else I x j) (W := fun i I1 => MW G mX0_add 0 8 [some (vR a), some (vI v), some (vI (nI (9 - i)))] [] (mw S I1 J R) _) ?_ ?_ 0 I (Nat.zero_le _) (fun x j => by rw [if_neg (by omega)])
  · intro i I1 hi hI ih
    have hcl : (nI (9 - i)).toNatClampNeg = 9 - i := nI_clamp (by omega)
    have hp1 : nI (9 - i) - 1 = nI (9 - (i + 1)) := by rw [show 9 - i = 9 - (i + 1) + 1 by omega, nI_pred]
    have hp2 : nI (9 - i) + -1 = nI (9 - (i + 1)) := by rw [show 9 - i = 9 - (i + 1) + 1 by omega, pk_m1]
    have hcl2 : (nI (9 - (i + 1))).toNatClampNeg = 9 - (i + 1) := nI_clamp (by omega)
    have hin : vp_in (nI (9 - i)) (S.ln b) := by rw [h4]; exact vp_in_nI (by omega) (by decide)
    have hin2 : vp_in (nI (9 - i) - 1) (S.ln b) := by rw [h4, hp1]; exact vp_in_nI (by omega) (by decide)
    refine am_iload_n (q := 9) dX0_add_8 rfl rfl ?_
    refine am_if_le (tgt := 32) (q := 12) dX0_add_9 rfl rfl (fun hz => absurd hz (nI_nle (by omega) (by omega))) (fun _ => ?_)
    refine am_aload_n (q := 13) dX0_add_12 rfl rfl ?_
    refine cm_getR (q := 16) dX0_add_13 flX0_9 rfl (by assumption) (by assumption) rfl ?_
    refine am_iload_n (q := 17) dX0_add_16 rfl rfl ?_
    refine am_aload_n (q := 18) dX0_add_17 rfl rfl ?_
    refine cm_getR (q := 21) dX0_add_18 flX0_9 rfl (by assumption) (by assumption) rfl ?_
    refine am_iload_n (q := 22) dX0_add_21 rfl rfl ?_
    refine am_iconst (q := 23) (v := 1) dX0_add_22 kc_i1 rfl ?_
    refine am_isub (q := 24) dX0_add_23 rfl ?_
    refine cm_iaload (q := 25) dX0_add_24 (by assumption) hin2 rfl ?_
    refine cm_iastore (q := 26) dX0_add_25 (by assumption) hin rfl ?_
    refine am_iincW (q := 29) (ls1 := [_, _, _]) (w := (-1)) dX0_add_26 rfl (Nat.le_of_ble_eq_true rfl) kc_im1 rfl rfl ?_
    refine am_goto (tgt := 8) dX0_add_29 rfl ?_
    rw [hp2]
    refine ih _ fun x j => ?_
    rw [up2_at, hcl, hp1, hcl2, hI, hI]
    by_cases e : x = b ∧ j = 9 - i
    · obtain ⟨rfl, rfl⟩ := e
      rw [if_pos ⟨rfl, rfl⟩, if_neg (by omega), if_pos ⟨rfl, by omega, by omega⟩, show 9 - (i + 1) = 9 - i - 1 by omega]
    · rw [if_neg e]
      by_cases e2 : x = b
      · subst e2
        have e3 : ¬ j = 9 - i := fun q => e ⟨rfl, q⟩
        by_cases e4 : 9 < j + i ∧ j < 10
        · rw [if_pos ⟨rfl, e4⟩, if_pos ⟨rfl, by omega, e4.2⟩]
        · rw [if_neg (fun q => e4 q.2), if_neg (fun q => e4 ⟨by omega, q.2.2⟩)]
      · rw [if_neg (fun q => e2 q.1), if_neg (fun q => e2 q.1)]
  · intro I1 hI
    refine am_iload_n (q := 9) dX0_add_8 rfl rfl ?_
    refine am_if_le (tgt := 32) (q := 12) dX0_add_9 rfl rfl (fun _ => ?_) (fun hz => absurd (by decide +kernel) hz)
    refine am_aload_n (q := 33) dX0_add_32 rfl rfl ?_
    refine cm_getR (q := 36) dX0_add_33 flX0_9 rfl (by assumption) (by assumption) rfl ?_
    refine am_iconst (q := 37) (v := 0) dX0_add_36 kc_i0 rfl ?_
    refine am_iload_n (q := 38) dX0_add_37 rfl rfl ?_
    refine cm_iastore (q := 39) dX0_add_38 (by assumption) (by rw [h4]; exact vp_in_nI (n := 0) (by decide) (by decide)) rfl ?_
    refine am_aload_n (q := 40) dX0_add_39 rfl rfl ?_
    refine cm_getI (q := 43) dX0_add_40 flX0_13 rfl (by assumption) rfl ?_
    refine am_bipush (q := 45) (v := 10) dX0_add_43 kc_b10 rfl ?_
    have ha1 : up2 I1 b (0 : Int32).toNatClampNeg v a 1 = I a 1 := by rw [up2_a hab, hI, if_neg (fun q => hab q.1)]
    have fin : ∀ x j, up2 I1 b (0 : Int32).toNatClampNeg v x j = if x = b ∧ j = 0 then v else if x = b ∧ j < 10 then I b (j - 1) else I x j := by
      intro x j
      rw [up2_at, hI]
      show (if x = b ∧ j = 0 then v else _) = _
      by_cases e : x = b ∧ j = 0
      · rw [if_pos e, if_pos e]
      · rw [if_neg e, if_neg e]
        congr 1
        exact propext ⟨fun q => ⟨q.1, q.2.2⟩, fun q => ⟨q.1, by
          have : ¬ j = 0 := fun z => e ⟨q.1, z⟩
          omega, q.2⟩⟩
    rw [ha1]
    refine am_icmp_ge (tgt := 58) (q := 48) dX0_add_45 rfl rfl (fun hc => ?_) (fun hc => ?_)
    · exact am_ret dX0_add_58 rfl ⟨_, rfl, rfl, by
        congr 1
        funext x j
        rw [fin, if_neg (show ¬ I a 1 < 10 from Int32.not_lt.mpr hc)]
        by_cases e : x = a ∧ j = 1
        · obtain ⟨rfl, rfl⟩ := e
          rw [if_neg (fun q => hab q.1), if_neg (fun q => hab q.1), if_neg (fun q => hab q.1), if_neg (fun q => hab q.1), if_pos ⟨rfl, rfl⟩]
        · rw [if_neg e]⟩
    · refine am_aload_n (q := 49) dX0_add_48 rfl rfl ?_
      refine am_dup (q := 50) dX0_add_49 rfl rfl ?_
      refine cm_getI (q := 53) dX0_add_50 flX0_13 rfl (by assumption) rfl ?_
      refine am_iconst (q := 54) (v := 1) dX0_add_53 kc_i1 rfl ?_
      refine am_iadd (q := 55) dX0_add_54 rfl ?_
      refine cm_putI (q := 58) dX0_add_55 flX0_13 rfl (Or.inl rfl) (Or.inl rfl) (by assumption) rfl ?_
      exact am_ret dX0_add_58 rfl ⟨_, rfl, rfl, by
        congr 1
        funext x j
        rw [ha1, if_pos (show I a 1 < 10 from Int32.not_le.mp hc)]
        by_cases e : x = a ∧ j = 1
        · obtain ⟨rfl, rfl⟩ := e
          rw [up2_s, if_neg (fun q => hab q.1), if_neg (fun q => hab q.1), if_pos ⟨rfl, rfl⟩]
        · rw [up2_at, if_neg e, fin, if_neg e]⟩
theorem k_X0_copyFrom (hG : okG G) (h1 : S.K a = 1) (h2 : R a 0 = some b) (h3 : S.K b = 20) (h4 : S.ln b = 10) (g1 : S.K a2 = 1) (g2 : R a2 0 = some b2) (g3 : S.K b2 = 20) (g4 : S.ln b2 = 10) (n1 : a2 ≠ a) (n2 : a2 ≠ b) (n3 : b2 ≠ a) (n4 : b2 ≠ b) (n5 : a ≠ b) : Fn G mX0_copyFrom 2 [vR a, vR a2] (mw S I J R) (fun rr M1 => rr = none ∧ M1 = mw S (fun x j => if x = b ∧ j < 10 then (if nI j < I a2 1 then I b2 j else 0) else if x = a ∧ j = 1 then I a2 1 else I x j) J R) := by
  refine am_aload_n (q := 1) dX0_copyFrom_0 rfl rfl ?_
  refine am_aload_n (q := 2) dX0_copyFrom_1 rfl rfl ?_
  refine cm_getI (q := 5) dX0_copyFrom_2 flX0_13 rfl (by assumption) rfl ?_
  refine cm_putI (q := 8) dX0_copyFrom_5 flX0_13 rfl (Or.inl rfl) (Or.inl rfl) (by assumption) rfl ?_
  refine am_iconst (q := 9) (v := 0) dX0_copyFrom_8 kc_i0 rfl ?_
  refine am_istore_n (q := 10) (ls1 := [_, _, _]) dX0_copyFrom_9 (Nat.le_of_ble_eq_true rfl) rfl rfl ?_
  refine k_loop (σ := Nat → Nat → Int32) (n := 10) (Inv := fun i I1 => ∀ x j, I1 x j = if x = b ∧ j < i then (if nI j < I a2 1 then I b2 j else 0) else if x = a ∧ j = 1 then I a2 1 else I x j) (W := fun i I1 => MW G mX0_copyFrom 2 10 [some (vR a), some (vR a2), some (vI (nI i))] [] (mw S I1 J R) _) ?_ ?_ 0 _ (Nat.zero_le _) (fun x j => by rw [if_neg (by omega), up2_at])
  · intro i I1 hi hI ih
    have hcl : (nI i).toNatClampNeg = i := nI_clamp (by omega)
    have hin : vp_in (nI i) (S.ln b) := by rw [h4]; exact vp_in_nI (by omega) (by decide)
    have e1 : I1 a2 1 = I a2 1 := by rw [hI, if_neg (fun q => n2 q.1), if_neg (fun q => n1 q.1)]
    have e2 : I1 b2 i = I b2 i := by rw [hI, if_neg (fun q => n4 q.1), if_neg (fun q => n3 q.1)]
    refine am_iload_n (q := 11) dX0_copyFrom_10 rfl rfl ?_
    refine am_aload_n (q := 12) dX0_copyFrom_11 rfl rfl ?_
    refine cm_getR (q := 15) dX0_copyFrom_12 flX0_9 rfl (by assumption) (by assumption) rfl ?_
    refine cm_alenI (q := 16) dX0_copyFrom_15 (by assumption) (by rw [h4] : nI (S.ln b) = nI 10) rfl ?_
    refine am_icmp_ge (tgt := 36) (q := 19) dX0_copyFrom_16 rfl rfl (fun hz => absurd hz (nI_ge (by omega) (by decide))) (fun _ => ?_)
    refine am_aload_n (q := 20) dX0_copyFrom_19 rfl rfl ?_
    refine cm_getR (q := 23) dX0_copyFrom_20 flX0_9 rfl (by assumption) (by assumption) rfl ?_
    refine am_iload_n (q := 24) dX0_copyFrom_23 rfl rfl ?_
    refine am_aload_n (q := 25) dX0_copyFrom_24 rfl rfl ?_
    refine am_iload_n (q := 26) dX0_copyFrom_25 rfl rfl ?_
    refine cm_call0 (q := 29) (As := [_]) hG dX0_copyFrom_26 mlX0_21 rfl (by assumption) ⟨_, _, rfl⟩ (Nat.le_of_ble_eq_true rfl) (Nat.le_of_ble_eq_true rfl) (Nat.le_of_ble_eq_true rfl) (Nat.le_of_ble_eq_true rfl) (k_X0_heightAt hG g1 g2 g3 g4) rfl ?_
    rintro _ _ ⟨rfl, rfl⟩
    refine cm_iastore (q := 30) dX0_copyFrom_29 (by assumption) hin rfl ?_
    refine am_iincW (q := 33) (ls1 := [_, _, _]) (w := 1) dX0_copyFrom_30 rfl (Nat.le_of_ble_eq_true rfl) kc_i1 rfl rfl ?_
    refine am_goto (tgt := 10) dX0_copyFrom_33 rfl ?_
    rw [nI_1]
    refine ih _ fun x j => ?_
    rw [up2_at, hcl, e1, e2, hI]
    have e3 : (0 : Int32) ≤ nI i ∧ nI i < I a2 1 ∧ nI i < 10 ↔ nI i < I a2 1 := ⟨fun q => q.2.1, fun q => ⟨nI_pos' (by omega), q, nI_lt (b := 10) (by omega) (by decide)⟩⟩
    have e4 : (if (0 : Int32) ≤ nI i ∧ nI i < I a2 1 ∧ nI i < 10 then I b2 i else 0) = if nI i < I a2 1 then I b2 i else 0 := by
      by_cases q : nI i < I a2 1
      · rw [if_pos q, if_pos (e3.mpr q)]
      · rw [if_neg q, if_neg (fun z => q (e3.mp z))]
    rw [e4]
    grind
  · intro I1 hI
    refine am_iload_n (q := 11) dX0_copyFrom_10 rfl rfl ?_
    refine am_aload_n (q := 12) dX0_copyFrom_11 rfl rfl ?_
    refine cm_getR (q := 15) dX0_copyFrom_12 flX0_9 rfl (by assumption) (by assumption) rfl ?_
    refine cm_alenI (q := 16) dX0_copyFrom_15 (by assumption) (by rw [h4] : nI (S.ln b) = nI 10) rfl ?_
    refine am_icmp_ge (tgt := 36) (q := 19) dX0_copyFrom_16 rfl rfl (fun _ => ?_) (fun hz => absurd (Int32.le_refl _) hz)
    exact am_ret dX0_copyFrom_36 rfl ⟨_, rfl, rfl, by
      congr 1
      funext x j
      exact hI x j⟩
end LeafB

