theorem dX14_find_0 : decode cX14_find 0 = .ok (.iconst 0, 1) := by decide +kernel
theorem dX14_find_1 : decode cX14_find 1 = .ok (.istore 4, 2) := by decide +kernel
theorem dX14_find_3 : decode cX14_find 3 = .ok (.iload 4, 2) := by decide +kernel
theorem dX14_find_5 : decode cX14_find 5 = .ok (.iload_n 2, 1) := by decide +kernel
theorem dX14_find_6 : decode cX14_find 6 = .ok (.if_icmp .ge 24, 3) := by decide +kernel
theorem dX14_find_9 : decode cX14_find 9 = .ok (.aload_n 0, 1) := by decide +kernel
theorem dX14_find_10 : decode cX14_find 10 = .ok (.aload_n 1, 1) := by decide +kernel
theorem dX14_find_11 : decode cX14_find 11 = .ok (.iload 4, 2) := by decide +kernel
theorem dX14_find_13 : decode cX14_find 13 = .ok (.iaload, 1) := by decide +kernel
theorem dX14_find_14 : decode cX14_find 14 = .ok (.iload_n 3, 1) := by decide +kernel
theorem dX14_find_15 : decode cX14_find 15 = .ok (.invokevirtual 139, 3) := by decide +kernel
theorem dX14_find_18 : decode cX14_find 18 = .ok (.ifCond .eq 6, 3) := by decide +kernel
theorem dX14_find_21 : decode cX14_find 21 = .ok (.iload 4, 2) := by decide +kernel
theorem dX14_find_23 : decode cX14_find 23 = .ok (.ireturn, 1) := by decide +kernel
theorem dX14_find_24 : decode cX14_find 24 = .ok (.iinc 4 1, 3) := by decide +kernel
theorem dX14_find_27 : decode cX14_find 27 = .ok (.goto (-24), 3) := by decide +kernel
theorem dX14_find_30 : decode cX14_find 30 = .ok (.iconst (-1), 1) := by decide +kernel
theorem dX14_find_31 : decode cX14_find 31 = .ok (.ireturn, 1) := by decide +kernel
theorem dX14_isSame_0 : decode cX14_isSame 0 = .ok (.aload_n 0, 1) := by decide +kernel
theorem dX14_isSame_1 : decode cX14_isSame 1 = .ok (.getfield 26, 3) := by decide +kernel
theorem dX14_isSame_4 : decode cX14_isSame 4 = .ok (.iload_n 1, 1) := by decide +kernel
theorem dX14_isSame_5 : decode cX14_isSame 5 = .ok (.iaload, 1) := by decide +kernel
theorem dX14_isSame_6 : decode cX14_isSame 6 = .ok (.aload_n 0, 1) := by decide +kernel
theorem dX14_isSame_7 : decode cX14_isSame 7 = .ok (.getfield 26, 3) := by decide +kernel
theorem dX14_isSame_10 : decode cX14_isSame 10 = .ok (.iload_n 2, 1) := by decide +kernel
theorem dX14_isSame_11 : decode cX14_isSame 11 = .ok (.iaload, 1) := by decide +kernel
theorem dX14_isSame_12 : decode cX14_isSame 12 = .ok (.if_icmp .eq 5, 3) := by decide +kernel
theorem dX14_isSame_15 : decode cX14_isSame 15 = .ok (.iconst 0, 1) := by decide +kernel
theorem dX14_isSame_16 : decode cX14_isSame 16 = .ok (.ireturn, 1) := by decide +kernel
theorem dX14_isSame_17 : decode cX14_isSame 17 = .ok (.iconst 0, 1) := by decide +kernel
theorem dX14_isSame_18 : decode cX14_isSame 18 = .ok (.istore_n 3, 1) := by decide +kernel
theorem dX14_isSame_19 : decode cX14_isSame 19 = .ok (.iload_n 3, 1) := by decide +kernel
theorem dX14_isSame_20 : decode cX14_isSame 20 = .ok (.aload_n 0, 1) := by decide +kernel
theorem dX14_isSame_21 : decode cX14_isSame 21 = .ok (.getfield 26, 3) := by decide +kernel
theorem dX14_isSame_24 : decode cX14_isSame 24 = .ok (.iload_n 1, 1) := by decide +kernel
theorem dX14_isSame_25 : decode cX14_isSame 25 = .ok (.iaload, 1) := by decide +kernel
theorem dX14_isSame_26 : decode cX14_isSame 26 = .ok (.if_icmp .ge 40, 3) := by decide +kernel
theorem dX14_isSame_29 : decode cX14_isSame 29 = .ok (.aload_n 0, 1) := by decide +kernel
theorem dX14_isSame_30 : decode cX14_isSame 30 = .ok (.getfield 9, 3) := by decide +kernel
theorem dX14_isSame_33 : decode cX14_isSame 33 = .ok (.aload_n 0, 1) := by decide +kernel
theorem dX14_isSame_34 : decode cX14_isSame 34 = .ok (.getfield 23, 3) := by decide +kernel
theorem dX14_isSame_37 : decode cX14_isSame 37 = .ok (.iload_n 1, 1) := by decide +kernel
theorem dX14_isSame_38 : decode cX14_isSame 38 = .ok (.iaload, 1) := by decide +kernel
theorem dX14_isSame_39 : decode cX14_isSame 39 = .ok (.iload_n 3, 1) := by decide +kernel
theorem dX14_isSame_40 : decode cX14_isSame 40 = .ok (.iadd, 1) := by decide +kernel
theorem dX14_isSame_41 : decode cX14_isSame 41 = .ok (.iaload, 1) := by decide +kernel
theorem dX14_isSame_42 : decode cX14_isSame 42 = .ok (.aload_n 0, 1) := by decide +kernel
theorem dX14_isSame_43 : decode cX14_isSame 43 = .ok (.getfield 9, 3) := by decide +kernel
theorem dX14_isSame_46 : decode cX14_isSame 46 = .ok (.aload_n 0, 1) := by decide +kernel
theorem dX14_isSame_47 : decode cX14_isSame 47 = .ok (.getfield 23, 3) := by decide +kernel
theorem dX14_isSame_50 : decode cX14_isSame 50 = .ok (.iload_n 2, 1) := by decide +kernel
theorem dX14_isSame_51 : decode cX14_isSame 51 = .ok (.iaload, 1) := by decide +kernel
theorem dX14_isSame_52 : decode cX14_isSame 52 = .ok (.iload_n 3, 1) := by decide +kernel
theorem dX14_isSame_53 : decode cX14_isSame 53 = .ok (.iadd, 1) := by decide +kernel
theorem dX14_isSame_54 : decode cX14_isSame 54 = .ok (.iaload, 1) := by decide +kernel
theorem dX14_isSame_55 : decode cX14_isSame 55 = .ok (.if_icmp .eq 5, 3) := by decide +kernel
theorem dX14_isSame_58 : decode cX14_isSame 58 = .ok (.iconst 0, 1) := by decide +kernel
theorem dX14_isSame_59 : decode cX14_isSame 59 = .ok (.ireturn, 1) := by decide +kernel
theorem dX14_isSame_60 : decode cX14_isSame 60 = .ok (.iinc 3 1, 3) := by decide +kernel
theorem dX14_isSame_63 : decode cX14_isSame 63 = .ok (.goto (-44), 3) := by decide +kernel
theorem dX14_isSame_66 : decode cX14_isSame 66 = .ok (.iconst 1, 1) := by decide +kernel
theorem dX14_isSame_67 : decode cX14_isSame 67 = .ok (.ireturn, 1) := by decide +kernel
/-! the reference's tokens, and its reader's first steps -/
def symN : List Nat := [40, 41, 91, 93, 59, 44, 43, 45, 42, 47, 60, 62, 61]
theorem symN_b : ∀ c ∈ symN, 40 ≤ c ∧ c ≤ 93 := by decide
/-- a token of the class is the token of the reference -/
def srt (k so va : Int32) (v : Int64) : Prop := (∃ j, j < 32 ∧ k = nI (300 + j) ∧ so = 2 ∧ va = nI j) ∨ (k = 258 ∧ so = 1) ∨ (∃ n, n < 1000000 ∧ k = 259 ∧ so = 3 ∧ va = nI n ∧ v = (nI n).toInt64) ∨ (k = 260 ∧ so = 4 ∧ va = 108) ∨ (k = 261 ∧ so = 4 ∧ va = 103) ∨ (∃ j, j ∈ symN ∧ k = nI j ∧ so = 4 ∧ va = nI j) ∨ (k = 256 ∧ so = 0) ∨ (k = 257 ∧ so = 5)
theorem k_ne {a b : Nat} (ha : a < 1000) (hb : b < 1000) (h : a ≠ b) : ¬ nI a = nI b := fun q => h ((nI_eq (by omega) (by omega)).mp q)
section Sr
variable {k so va : Int32} {v : Int64}
theorem srt_key {j0 : Nat} (h : srt k so va v) (hj : j0 < 32) : (so = 2 ∧ va = nI j0) ↔ k = nI (300 + j0) := by
  rcases h with ⟨j, hj1, rfl, rfl, rfl⟩ | ⟨rfl, rfl⟩ | ⟨n, _, rfl, rfl, _, _⟩ | ⟨rfl, rfl, rfl⟩ | ⟨rfl, rfl, rfl⟩ | ⟨j, hj1, rfl, rfl, rfl⟩ | ⟨rfl, rfl⟩ | ⟨rfl, rfl⟩
  · rw [nI_eq (by omega) (by omega), nI_eq (by omega) (by omega)]
    exact ⟨fun q => by have := q.2; omega, fun q => ⟨rfl, by omega⟩⟩
  · exact ⟨fun q => absurd q.1 (by decide), fun q => absurd q (k_ne (a := 258) (by decide) (by omega) (by omega))⟩
  · exact ⟨fun q => absurd q.1 (by decide), fun q => absurd q (k_ne (a := 259) (by decide) (by omega) (by omega))⟩
  · exact ⟨fun q => absurd q.1 (by decide), fun q => absurd q (k_ne (a := 260) (by decide) (by omega) (by omega))⟩
  · exact ⟨fun q => absurd q.1 (by decide), fun q => absurd q (k_ne (a := 261) (by decide) (by omega) (by omega))⟩
  · have := symN_b j hj1
    exact ⟨fun q => absurd q.1 (by decide), fun q => absurd q (k_ne (by omega) (by omega) (by omega))⟩
  · exact ⟨fun q => absurd q.1 (by decide), fun q => absurd q (k_ne (a := 256) (by decide) (by omega) (by omega))⟩
  · exact ⟨fun q => absurd q.1 (by decide), fun q => absurd q (k_ne (a := 257) (by decide) (by omega) (by omega))⟩
theorem srt_sig {c : Nat} (h : srt k so va v) (hc : c ∈ symN) : (so = 4 ∧ va = nI c) ↔ k = nI c := by
  have hb := symN_b c hc
  rcases h with ⟨j, hj1, rfl, rfl, rfl⟩ | ⟨rfl, rfl⟩ | ⟨n, _, rfl, rfl, _, _⟩ | ⟨rfl, rfl, rfl⟩ | ⟨rfl, rfl, rfl⟩ | ⟨j, hj1, rfl, rfl, rfl⟩ | ⟨rfl, rfl⟩ | ⟨rfl, rfl⟩
  · exact ⟨fun q => absurd q.1 (by decide), fun q => absurd q (k_ne (by omega) (by omega) (by omega))⟩
  · exact ⟨fun q => absurd q.1 (by decide), fun q => absurd q (k_ne (a := 258) (by decide) (by omega) (by omega))⟩
  · exact ⟨fun q => absurd q.1 (by decide), fun q => absurd q (k_ne (a := 259) (by decide) (by omega) (by omega))⟩
  · exact ⟨fun q => absurd q.2 (k_ne (a := 108) (by decide) (by omega) (by omega)), fun q => absurd q (k_ne (a := 260) (by decide) (by omega) (by omega))⟩
  · exact ⟨fun q => absurd q.2 (k_ne (a := 103) (by decide) (by omega) (by omega)), fun q => absurd q (k_ne (a := 261) (by decide) (by omega) (by omega))⟩
  · exact ⟨fun q => q.2, fun q => ⟨rfl, q⟩⟩
  · exact ⟨fun q => absurd q.1 (by decide), fun q => absurd q (k_ne (a := 256) (by decide) (by omega) (by omega))⟩
  · exact ⟨fun q => absurd q.1 (by decide), fun q => absurd q (k_ne (a := 257) (by decide) (by omega) (by omega))⟩
theorem srt_lg {c q0 : Nat} (h : srt k so va v) (hc : (c = 108 ∧ q0 = 260) ∨ (c = 103 ∧ q0 = 261)) : (so = 4 ∧ va = nI c) ↔ k = nI q0 := by
  rcases h with ⟨j, hj1, rfl, rfl, rfl⟩ | ⟨rfl, rfl⟩ | ⟨n, _, rfl, rfl, _, _⟩ | ⟨rfl, rfl, rfl⟩ | ⟨rfl, rfl, rfl⟩ | ⟨j, hj1, rfl, rfl, rfl⟩ | ⟨rfl, rfl⟩ | ⟨rfl, rfl⟩
  · exact ⟨fun q => absurd q.1 (by decide), fun q => absurd q (k_ne (by omega) (by omega) (by omega))⟩
  · exact ⟨fun q => absurd q.1 (by decide), fun q => absurd q (k_ne (a := 258) (by decide) (by omega) (by omega))⟩
  · exact ⟨fun q => absurd q.1 (by decide), fun q => absurd q (k_ne (a := 259) (by decide) (by omega) (by omega))⟩
  · rcases hc with ⟨rfl, rfl⟩ | ⟨rfl, rfl⟩
    · exact ⟨fun _ => rfl, fun _ => ⟨rfl, rfl⟩⟩
    · exact ⟨fun q => absurd q.2 (by decide), fun q => absurd q (by decide)⟩
  · rcases hc with ⟨rfl, rfl⟩ | ⟨rfl, rfl⟩
    · exact ⟨fun q => absurd q.2 (by decide), fun q => absurd q (by decide)⟩
    · exact ⟨fun _ => rfl, fun _ => ⟨rfl, rfl⟩⟩
  · have := symN_b j hj1
    exact ⟨fun q => absurd q.2 (k_ne (by omega) (by omega) (by omega)), fun q => absurd q (k_ne (by omega) (by omega) (by omega))⟩
  · exact ⟨fun q => absurd q.1 (by decide), fun q => absurd q (k_ne (a := 256) (by decide) (by omega) (by omega))⟩
  · exact ⟨fun q => absurd q.1 (by decide), fun q => absurd q (k_ne (a := 257) (by decide) (by omega) (by omega))⟩
theorem srt_one {w q0 : Nat} (h : srt k so va v) (hc : (w = 1 ∧ q0 = 258) ∨ (w = 3 ∧ q0 = 259) ∨ (w = 0 ∧ q0 = 256) ∨ (w = 5 ∧ q0 = 257)) : so = nI w ↔ k = nI q0 := by
  rcases h with ⟨j, hj1, rfl, rfl, rfl⟩ | ⟨rfl, rfl⟩ | ⟨n, _, rfl, rfl, _, _⟩ | ⟨rfl, rfl, rfl⟩ | ⟨rfl, rfl, rfl⟩ | ⟨j, hj1, rfl, rfl, rfl⟩ | ⟨rfl, rfl⟩ | ⟨rfl, rfl⟩
  · exact ⟨fun q => absurd q (k_ne (a := 2) (by decide) (by omega) (by omega)), fun q => absurd q (k_ne (by omega) (by omega) (by omega))⟩
  · rcases hc with ⟨rfl, rfl⟩ | ⟨rfl, rfl⟩ | ⟨rfl, rfl⟩ | ⟨rfl, rfl⟩ <;> decide
  · rcases hc with ⟨rfl, rfl⟩ | ⟨rfl, rfl⟩ | ⟨rfl, rfl⟩ | ⟨rfl, rfl⟩ <;> decide
  · rcases hc with ⟨rfl, rfl⟩ | ⟨rfl, rfl⟩ | ⟨rfl, rfl⟩ | ⟨rfl, rfl⟩ <;> decide
  · rcases hc with ⟨rfl, rfl⟩ | ⟨rfl, rfl⟩ | ⟨rfl, rfl⟩ | ⟨rfl, rfl⟩ <;> decide
  · have := symN_b j hj1
    exact ⟨fun q => absurd q (k_ne (a := 4) (by decide) (by omega) (by omega)), fun q => absurd q (k_ne (by omega) (by omega) (by omega))⟩
  · rcases hc with ⟨rfl, rfl⟩ | ⟨rfl, rfl⟩ | ⟨rfl, rfl⟩ | ⟨rfl, rfl⟩ <;> decide
  · rcases hc with ⟨rfl, rfl⟩ | ⟨rfl, rfl⟩ | ⟨rfl, rfl⟩ | ⟨rfl, rfl⟩ <;> decide
end Sr
/-- the reference's tokens are the class's; names are alike where their codes are -/
def MTk (I : Nat → Nat → Int32) (y : Nat) (T : Toks) : Prop := 1 ≤ T.n ∧ T.n ≤ 401 ∧ (∀ i, i < T.n → srt (T.k i) (I (y + 2) i) (I (y + 3) i) (T.v i) ∧ I (y + 4) i = T.s i) ∧ (∀ i, i < T.n → (T.k i = 256 ∨ T.k i = 257 ↔ i + 1 = T.n)) ∧
  ∀ i, i < T.n → T.k i = 258 → ∃ b n, I (y + 4) i = nI b ∧ I (y + 5) i = nI n ∧ b + n ≤ 2000 ∧ ∀ i', i' < T.n → T.k i' = 258 → ∀ b' n', I (y + 4) i' = nI b' → I (y + 5) i' = nI n' → b' + n' ≤ 2000 → ((n = n' ∧ ∀ l, l < n → I (y + 1) (b + l) = I (y + 1) (b' + l)) ↔ T.v i = T.v i')
theorem MTk.cg {I I1 : Nat → Nat → Int32} {y : Nat} {T : Toks} (h : MTk I y T) (q : ∀ x j, y + 1 ≤ x → x ≤ y + 5 → I1 x j = I x j) : MTk I1 y T := by
  have e1 : I1 (y + 1) = I (y + 1) := funext fun j => q _ _ (by omega) (by omega)
  have e2 : I1 (y + 2) = I (y + 2) := funext fun j => q _ _ (by omega) (by omega)
  have e3 : I1 (y + 3) = I (y + 3) := funext fun j => q _ _ (by omega) (by omega)
  have e4 : I1 (y + 4) = I (y + 4) := funext fun j => q _ _ (by omega) (by omega)
  have e5 : I1 (y + 5) = I (y + 5) := funext fun j => q _ _ (by omega) (by omega)
  unfold MTk
  rw [e1, e2, e3, e4, e5]
  exact h
section Mt
variable {G : Gp} {S : AMem} {I I1 : Nat → Nat → Int32} {J : Nat → Nat → Int64} {R : Nat → Nat → Option Nat} {y bl nx : Nat} {T : Toks}
theorem k_X14_isSame {i i' : Nat} (hP : MPc S R y) (ky : S.K y = 15) (r1 : R y 1 = some (y + 1)) (k1 : S.K (y + 1) = 20) (l1 : S.ln (y + 1) = 2000) (hT : MTk I y T) (h : i < T.n) (h' : i' < T.n) (hk : T.k i = 258) (hk' : T.k i' = 258) : Fn G mX14_isSame 0 [vR y, vI (nI i), vI (nI i')] (mw S I J R) (fun rr M1 => rr = some (vI (bI (T.v i = T.v i'))) ∧ M1 = mw S I J R) := by
  obtain ⟨q1, q2, q3, q4, _, _, ⟨k4, l4⟩, ⟨k5, l5⟩, _⟩ := hP
  obtain ⟨t1, t2, t3, t4, t5⟩ := hT
  obtain ⟨b, n, b1, b2, b3, b4⟩ := t5 i h hk
  obtain ⟨b', n', c1, c2, c3, _⟩ := t5 i' h' hk'
  have iff := b4 i' h' hk' b' n' c1 c2 c3
  have i4 : vp_in (nI i) (S.ln (y + 4)) := by rw [l4]; exact vp_in_nI (by omega) (by decide)
  have i4' : vp_in (nI i') (S.ln (y + 4)) := by rw [l4]; exact vp_in_nI (by omega) (by decide)
  have i5 : vp_in (nI i) (S.ln (y + 5)) := by rw [l5]; exact vp_in_nI (by omega) (by decide)
  have i5' : vp_in (nI i') (S.ln (y + 5)) := by rw [l5]; exact vp_in_nI (by omega) (by decide)
  have ci : (nI i).toNatClampNeg = i := nI_clamp (by omega)
  have ci' : (nI i').toNatClampNeg = i' := nI_clamp (by omega)
  refine am_aload_n (q := 1) dX14_isSame_0 rfl rfl ?_
  refine cm_getR (q := 4) dX14_isSame_1 flX14_26 rfl (by assumption) (by assumption) rfl ?_
  refine am_iload_n (q := 5) dX14_isSame_4 rfl rfl ?_
  refine cm_iaload (q := 6) dX14_isSame_5 (by assumption) i5 rfl ?_
  rw [ci, b2]
  refine am_aload_n (q := 7) dX14_isSame_6 rfl rfl ?_
  refine cm_getR (q := 10) dX14_isSame_7 flX14_26 rfl (by assumption) (by assumption) rfl ?_
  refine am_iload_n (q := 11) dX14_isSame_10 rfl rfl ?_
  refine cm_iaload (q := 12) dX14_isSame_11 (by assumption) i5' rfl ?_
  rw [ci', c2]
  by_cases hn : n = n'
  · subst hn
    refine am_icmp_eq (tgt := 17) (q := 15) dX14_isSame_12 rfl rfl (fun _ => ?_) (fun hz => absurd rfl hz)
    refine am_iconst (q := 18) (v := 0) dX14_isSame_17 kc_i0 rfl ?_
    refine am_istore_n (q := 19) (ls1 := [_, _, _, _]) dX14_isSame_18 (Nat.le_of_ble_eq_true rfl) rfl rfl ?_
    have go : ∀ m, m ≤ n → (∀ l, l < n - m → I (y + 1) (b + l) = I (y + 1) (b' + l)) → MW G mX14_isSame 0 19 [some (vR y), some (vI (nI i)), some (vI (nI i')), some (vI (nI (n - m)))] [] (mw S I J R) (fun f M1 => ∃ r, f = .inl r ∧ (r = some (vI (bI (T.v i = T.v i'))) ∧ M1 = mw S I J R)) := by
      intro m
      induction m with
      | zero =>
        intro hm hal
        rw [Nat.sub_zero] at hal ⊢
        refine am_iload_n (q := 20) dX14_isSame_19 rfl rfl ?_
        refine am_aload_n (q := 21) dX14_isSame_20 rfl rfl ?_
        refine cm_getR (q := 24) dX14_isSame_21 flX14_26 rfl (by assumption) (by assumption) rfl ?_
        refine am_iload_n (q := 25) dX14_isSame_24 rfl rfl ?_
        refine cm_iaload (q := 26) dX14_isSame_25 (by assumption) i5 rfl ?_
        rw [ci, b2]
        refine am_icmp_ge (tgt := 66) (q := 29) dX14_isSame_26 rfl rfl (fun _ => ?_) (fun hz => absurd (Int32.le_refl _) hz)
        rw [bI_t (iff.mp ⟨rfl, hal⟩)]
        refine am_iconst (q := 67) (v := 1) dX14_isSame_66 kc_i1 rfl ?_
        exact am_iret dX14_isSame_67 rfl rfl ⟨_, rfl, rfl, rfl⟩
      | succ m ih =>
        intro hm hal
        refine am_iload_n (q := 20) dX14_isSame_19 rfl rfl ?_
        refine am_aload_n (q := 21) dX14_isSame_20 rfl rfl ?_
        refine cm_getR (q := 24) dX14_isSame_21 flX14_26 rfl (by assumption) (by assumption) rfl ?_
        refine am_iload_n (q := 25) dX14_isSame_24 rfl rfl ?_
        refine cm_iaload (q := 26) dX14_isSame_25 (by assumption) i5 rfl ?_
        rw [ci, b2]
        refine am_icmp_ge (tgt := 66) (q := 29) dX14_isSame_26 rfl rfl (fun hz => absurd hz (nI_ge (by omega) (by omega))) (fun _ => ?_)
        refine am_aload_n (q := 30) dX14_isSame_29 rfl rfl ?_
        refine cm_getR (q := 33) dX14_isSame_30 flX14_9 rfl (by assumption) (by assumption) rfl ?_
        refine am_aload_n (q := 34) dX14_isSame_33 rfl rfl ?_
        refine cm_getR (q := 37) dX14_isSame_34 flX14_23 rfl (by assumption) (by assumption) rfl ?_
        refine am_iload_n (q := 38) dX14_isSame_37 rfl rfl ?_
        refine cm_iaload (q := 39) dX14_isSame_38 (by assumption) i4 rfl ?_
        rw [ci, b1]
        refine am_iload_n (q := 40) dX14_isSame_39 rfl rfl ?_
        refine am_iadd (q := 41) dX14_isSame_40 rfl ?_
        rw [nI_add]
        refine cm_iaload (q := 42) dX14_isSame_41 (by assumption) (by rw [l1]; exact vp_in_nI (by omega) (by decide)) rfl ?_
        refine am_aload_n (q := 43) dX14_isSame_42 rfl rfl ?_
        refine cm_getR (q := 46) dX14_isSame_43 flX14_9 rfl (by assumption) (by assumption) rfl ?_
        refine am_aload_n (q := 47) dX14_isSame_46 rfl rfl ?_
        refine cm_getR (q := 50) dX14_isSame_47 flX14_23 rfl (by assumption) (by assumption) rfl ?_
        refine am_iload_n (q := 51) dX14_isSame_50 rfl rfl ?_
        refine cm_iaload (q := 52) dX14_isSame_51 (by assumption) i4' rfl ?_
        rw [ci', c1, nI_clamp (show b + (n - (m + 1)) < 2 ^ 31 by omega)]
        refine am_iload_n (q := 53) dX14_isSame_52 rfl rfl ?_
        refine am_iadd (q := 54) dX14_isSame_53 rfl ?_
        rw [nI_add]
        refine cm_iaload (q := 55) dX14_isSame_54 (by assumption) (by rw [l1]; exact vp_in_nI (by omega) (by decide)) rfl ?_
        rw [nI_clamp (show b' + (n - (m + 1)) < 2 ^ 31 by omega)]
        by_cases he : I (y + 1) (b + (n - (m + 1))) = I (y + 1) (b' + (n - (m + 1)))
        · refine am_icmp_eq (tgt := 60) (q := 58) dX14_isSame_55 rfl rfl (fun _ => ?_) (fun hz => absurd he hz)
          refine am_iincW (q := 63) (ls1 := [_, _, _, _]) (w := 1) dX14_isSame_60 rfl (Nat.le_of_ble_eq_true rfl) kc_i1 rfl rfl ?_
          refine am_goto (tgt := 19) dX14_isSame_63 rfl ?_
          rw [nI_1, show n - (m + 1) + 1 = n - m by omega]
          refine ih (by omega) (fun l hl => ?_)
          by_cases c : l = n - (m + 1)
          · rw [c]
            exact he
          · exact hal l (by omega)
        · refine am_icmp_eq (tgt := 60) (q := 58) dX14_isSame_55 rfl rfl (fun hz => absurd hz he) (fun _ => ?_)
          rw [bI_f (fun q => he ((iff.mpr q).2 _ (by omega)))]
          refine am_iconst (q := 59) (v := 0) dX14_isSame_58 kc_i0 rfl ?_
          exact am_iret dX14_isSame_59 rfl rfl ⟨_, rfl, rfl, rfl⟩
    have := go n (Nat.le_refl _) (fun l hl => by omega)
    rw [Nat.sub_self] at this
    exact this
  · rw [bI_f (fun q => hn (iff.mpr q).1)]
    refine am_icmp_eq (tgt := 17) (q := 15) dX14_isSame_12 rfl rfl (fun hz => absurd hz (fun q => hn ((nI_eq (by omega) (by omega)).mp q))) (fun _ => ?_)
    refine am_iconst (q := 16) (v := 0) dX14_isSame_15 kc_i0 rfl ?_
    exact am_iret dX14_isSame_16 rfl rfl ⟨_, rfl, rfl, rfl⟩
/-- a name among those that were told -/
theorem k_X14_find {a i n : Nat} {f : Nat → Int64} (hG : okG G) (hP : MPc S R y) (ky : S.K y = 15) (r1 : R y 1 = some (y + 1)) (k1 : S.K (y + 1) = 20) (l1 : S.ln (y + 1) = 2000) (hT : MTk I y T) (ka : S.K a = 20) (hn : n ≤ S.ln a) (hn8 : n ≤ 8) (h : i < T.n) (hk : T.k i = 258) (hf : ∀ l, l < n → ∃ t, I a l = nI t ∧ t < T.n ∧ T.k t = 258 ∧ T.v t = f l) (hl31 : S.ln a < 2 ^ 31) : Fn G mX14_find 1 [vR y, vR a, vI (nI n), vI (nI i)] (mw S I J R) (fun rr M1 => rr = some (vI (fndJ f (T.v i) 0 n)) ∧ M1 = mw S I J R) := by
  refine am_iconst (q := 1) (v := 0) dX14_find_0 kc_i0 rfl ?_
  refine am_istore (q := 3) (ls1 := [_, _, _, _, _]) dX14_find_1 (Nat.le_of_ble_eq_true rfl) rfl rfl ?_
  refine k_loop (σ := Unit) (n := n) (Inv := fun l _ => fndJ f (T.v i) l (n - l) = fndJ f (T.v i) 0 n) (W := fun l _ => MW G mX14_find 1 3 [some (vR y), some (vR a), some (vI (nI n)), some (vI (nI i)), some (vI (nI l))] [] (mw S I J R) _) ?_ ?_ 0 () (Nat.zero_le _) rfl
  · intro l _ hl hinv ih
    rw [show n - l = (n - (l + 1)) + 1 by omega, fndJ] at hinv
    obtain ⟨t, t1, t2, t3, t4⟩ := hf l hl
    refine am_iload (q := 5) dX14_find_3 rfl rfl ?_
    refine am_iload_n (q := 6) dX14_find_5 rfl rfl ?_
    refine am_icmp_ge (tgt := 30) (q := 9) dX14_find_6 rfl rfl (fun hz => absurd hz (nI_ge hl (by omega))) (fun _ => ?_)
    refine am_aload_n (q := 10) dX14_find_9 rfl rfl ?_
    refine am_aload_n (q := 11) dX14_find_10 rfl rfl ?_
    refine am_iload (q := 13) dX14_find_11 rfl rfl ?_
    refine cm_iaload (q := 14) dX14_find_13 (by assumption) (vp_in_nI (by omega) (by omega)) rfl ?_
    rw [nI_clamp (show l < 2 ^ 31 by omega), t1]
    refine am_iload_n (q := 15) dX14_find_14 rfl rfl ?_
    refine cm_call0 (q := 18) (As := [_, _]) hG dX14_find_15 mlX14_139 rfl (by assumption) ⟨_, _, rfl⟩ (Nat.le_of_ble_eq_true rfl) (Nat.le_of_ble_eq_true rfl) (Nat.le_of_ble_eq_true rfl) (Nat.le_of_ble_eq_true rfl) (k_X14_isSame hP ky r1 k1 l1 hT t2 h t3 hk) rfl ?_
    rintro _ _ ⟨rfl, rfl⟩
    refine am_if_eq (tgt := 24) (q := 21) dX14_find_18 rfl rfl (fun hc => ?_) (fun hc => ?_)
    · rw [if_neg (fun q => bI_e0.mp hc (t4.trans q))] at hinv
      refine am_iincW (q := 27) (ls1 := [_, _, _, _, _]) (w := 1) dX14_find_24 rfl (Nat.le_of_ble_eq_true rfl) kc_i1 rfl rfl ?_
      refine am_goto (tgt := 3) dX14_find_27 rfl ?_
      rw [nI_1]
      exact ih () hinv
    · rw [if_pos (t4.symm.trans (bI_n0.mp hc))] at hinv
      rw [← hinv]
      refine am_iload (q := 23) dX14_find_21 rfl rfl ?_
      exact am_iret dX14_find_23 rfl rfl ⟨_, rfl, rfl, rfl⟩
  · intro _ hinv
    rw [Nat.sub_self, fndJ] at hinv
    rw [← hinv]
    refine am_iload (q := 5) dX14_find_3 rfl rfl ?_
    refine am_iload_n (q := 6) dX14_find_5 rfl rfl ?_
    refine am_icmp_ge (tgt := 30) (q := 9) dX14_find_6 rfl rfl (fun _ => ?_) (fun hz => absurd (Int32.le_refl _) hz)
    refine am_iconst (q := 31) (v := (-1)) dX14_find_30 kc_im1 rfl ?_
    exact am_iret dX14_find_31 rfl rfl ⟨_, rfl, rfl, rfl⟩
end Mt

