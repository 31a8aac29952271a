theorem dX14_known_0 : decode cX14_known 0 = .ok (.aload_n 0, 1) := by decide +kernel
theorem dX14_known_1 : decode cX14_known 1 = .ok (.invokevirtual 142, 3) := by decide +kernel
theorem dX14_known_4 : decode cX14_known 4 = .ok (.istore_n 3, 1) := by decide +kernel
theorem dX14_known_5 : decode cX14_known 5 = .ok (.aload_n 0, 1) := by decide +kernel
theorem dX14_known_6 : decode cX14_known 6 = .ok (.invokevirtual 119, 3) := by decide +kernel
theorem dX14_known_9 : decode cX14_known 9 = .ok (.ifCond .ne 5, 3) := by decide +kernel
theorem dX14_known_12 : decode cX14_known 12 = .ok (.iconst 0, 1) := by decide +kernel
theorem dX14_known_13 : decode cX14_known 13 = .ok (.ireturn, 1) := by decide +kernel
theorem dX14_known_14 : decode cX14_known 14 = .ok (.aload_n 0, 1) := by decide +kernel
theorem dX14_known_15 : decode cX14_known 15 = .ok (.aload_n 1, 1) := by decide +kernel
theorem dX14_known_16 : decode cX14_known 16 = .ok (.iload_n 2, 1) := by decide +kernel
theorem dX14_known_17 : decode cX14_known 17 = .ok (.iload_n 3, 1) := by decide +kernel
theorem dX14_known_18 : decode cX14_known 18 = .ok (.invokevirtual 145, 3) := by decide +kernel
theorem dX14_known_21 : decode cX14_known 21 = .ok (.istore 4, 2) := by decide +kernel
theorem dX14_known_23 : decode cX14_known 23 = .ok (.iload 4, 2) := by decide +kernel
theorem dX14_known_25 : decode cX14_known 25 = .ok (.iconst (-1), 1) := by decide +kernel
theorem dX14_known_26 : decode cX14_known 26 = .ok (.if_icmp .ne 9, 3) := by decide +kernel
theorem dX14_known_29 : decode cX14_known 29 = .ok (.aload_n 0, 1) := by decide +kernel
theorem dX14_known_30 : decode cX14_known 30 = .ok (.iconst 3, 1) := by decide +kernel
theorem dX14_known_31 : decode cX14_known 31 = .ok (.iload_n 3, 1) := by decide +kernel
theorem dX14_known_32 : decode cX14_known 32 = .ok (.invokevirtual 149, 3) := by decide +kernel
theorem dX14_known_35 : decode cX14_known 35 = .ok (.iload 4, 2) := by decide +kernel
theorem dX14_known_37 : decode cX14_known 37 = .ok (.ireturn, 1) := by decide +kernel
/-! the reference's reader: known and new names, numbers, nodes -/
theorem fndJ_m1 {f : Nat → Int64} {v : Int64} : ∀ {n k : Nat}, fndJ f v k n < 0 → k + n < 2 ^ 31 → fndJ f v k n = -1 := by
  intro n
  induction n with
  | zero => intro k _ _; rfl
  | succ n ih =>
    intro k h hk
    rw [fndJ] at h ⊢
    by_cases c : f k = v
    · rw [if_pos c] at h
      exact absurd h (Int32.not_lt.mpr (nI_pos' (by omega)))
    · rw [if_neg c] at h ⊢
      exact ih h (by omega)
section Pk
variable {G : Gp} {S : AMem} {I I1 : Nat → Nat → Int32} {J : Nat → Nat → Int64} {R : Nat → Nat → Option Nat} {y bl nx : Nat} {T : Toks} {ix : Int32 → Int64 → Int32} {N : Nat × Nat × Nat} {s s1 : PS × Cd} {dep a k : Nat}
theorem up3_at {f : Nat → Nat → Int32} {y a1 a2 a3 : Nat} {v1 v2 v3 : Int32} (h1 : a1 ≠ a2) (h2 : a1 ≠ a3) (h3 : a2 ≠ a3) (x j : Nat) : up2 (up2 (up2 f y a1 v1) y a2 v2) y a3 v3 x j = if x = y ∧ j = a1 then v1 else if x = y ∧ j = a2 then v2 else if x = y ∧ j = a3 then v3 else f x j := by
  rw [up2_at, up2_at, up2_at]
  by_cases e3 : x = y ∧ j = a3
  · rw [if_pos e3, if_neg (by omega), if_neg (by omega), if_pos e3]
  · rw [if_neg e3]
    by_cases e2 : x = y ∧ j = a2
    · rw [if_pos e2, if_neg (by omega), if_pos e2]
    · rw [if_neg e2]
      by_cases e1 : x = y ∧ j = a1
      · rw [if_pos e1, if_pos e1]
      · rw [if_neg e1, if_neg e1, if_neg e2, if_neg e3]
/-- a name of something that was told -/
theorem k_X14_known {q n : Nat} {f : Nat → Int64} {i : Int32} (hG : okG G) (hC : MCc S R y bl nx) (h : PC I y nx T ix N s dep a k) (hq : S.K q = 20) (hqn : n ≤ S.ln q) (hq31 : S.ln q < 2 ^ 31) (hn8 : n ≤ 8) (hqy : q ≠ y) (hf : s.1.2.1 ≠ 1 → ∀ l, l < n → ∃ t, I q l = nI t ∧ t < T.n ∧ T.k t = 258 ∧ T.v t = f l) (hi : s.1.2.1 = 0 → pK T s.1 = 258 → i = fndJ f (pV T s.1) 0 n) : Fn G mX14_known 2 [vR y, vR q, vI (nI n)] (mw S I J R) (fun rr M1 => ∃ w I1 a1, rr = some (vI w) ∧ M1 = mw S I1 J R ∧ PC I1 y nx T ix N (pKn T i s.1, s.2) dep a1 k ∧ a ≤ a1 ∧ OffM y nx k I I1 ∧ ((pKn T i s.1).2.1 = 0 → w = i ∧ a1 = a + 1)) := by
  have ky := hC.1.1
  have r1 := hC.2.1
  have hP := hC.2.2.2.2.2.2.2.2.2
  refine am_aload_n (q := 1) dX14_known_0 rfl rfl ?_
  refine cm_call0 (q := 4) (As := []) hG dX14_known_1 mlX14_142 rfl (by assumption) ⟨_, _, rfl⟩ (Nat.le_of_ble_eq_true rfl) (Nat.le_of_ble_eq_true rfl) (Nat.le_of_ble_eq_true rfl) (Nat.le_of_ble_eq_true rfl) (k_X14_name hG hC h) rfl ?_
  rintro _ _ (⟨hk, hg, rfl, rfl⟩ | ⟨hk, rfl, I1, rfl, g1, g2⟩)
  · obtain ⟨e1, e2, e3⟩ := h.kind hg
    have e4 : pV T s.1 = T.v a := by
      unfold pV
      rw [if_neg hg, ← e3]
    rw [e4] at hi
    obtain ⟨g1, g2⟩ := h.eat (I1 := up2 I y 13 (nI (a + 1))) hC hg hk (by decide) (by decide) (fun x j => up2_at _ _)
    have g1' : PC (up2 I y 13 (nI (a + 1))) y nx T ix N (eEx T 258 s) dep (a + 1) k := g1
    have hf1 : ∀ l, l < n → ∃ t, up2 I y 13 (nI (a + 1)) q l = nI t ∧ t < T.n ∧ T.k t = 258 ∧ T.v t = f l := fun l hl => by
      rw [up2_a hqy]
      exact hf hg l hl
    have hk2 := e1.symm.trans hk
    have ok : (eEx T 258 s).1.2.1 ≠ 1 := by
      unfold eEx pEx
      rw [if_pos hk]
      exact hg
    have hz : (pK T s.1 = 258 ∧ s.1.2.1 ≠ 1) ∧ (eEx T 258 s).1.2.1 ≠ 1 := ⟨⟨hk, hg⟩, ok⟩
    clear hk hg ok e1 e3 hf
    refine am_istore_n (q := 5) (ls1 := [_, _, _, _, _]) dX14_known_4 (Nat.le_of_ble_eq_true rfl) rfl rfl ?_
    refine am_aload_n (q := 6) dX14_known_5 rfl rfl ?_
    refine cm_call0 (q := 9) (As := []) hG dX14_known_6 mlX14_119 rfl (by assumption) ⟨_, _, rfl⟩ (Nat.le_of_ble_eq_true rfl) (Nat.le_of_ble_eq_true rfl) (Nat.le_of_ble_eq_true rfl) (Nat.le_of_ble_eq_true rfl) (k_X14_isOk hC g1) rfl ?_
    rintro _ _ ⟨rfl, rfl⟩
    rw [bI_t hz.2]
    refine am_if_ne (tgt := 14) (q := 12) dX14_known_9 rfl rfl (fun _ => ?_) (fun hz => absurd hz (by decide))
    refine am_aload_n (q := 15) dX14_known_14 rfl rfl ?_
    refine am_aload_n (q := 16) dX14_known_15 rfl rfl ?_
    refine am_iload_n (q := 17) dX14_known_16 rfl rfl ?_
    refine am_iload_n (q := 18) dX14_known_17 rfl rfl ?_
    refine cm_call0 (q := 21) (As := [_, _, _]) hG dX14_known_18 mlX14_145 rfl (by assumption) ⟨_, _, rfl⟩ (Nat.le_of_ble_eq_true rfl) (Nat.le_of_ble_eq_true rfl) (Nat.le_of_ble_eq_true rfl) (Nat.le_of_ble_eq_true rfl) (k_X14_find (f := f) hG hP ky r1.1 r1.2.1 r1.2.2 g1'.1 hq hqn hn8 e2 hk2 hf1 hq31) rfl ?_
    rintro _ _ ⟨rfl, rfl⟩
    refine am_istore (q := 23) (ls1 := [_, _, _, _, _]) dX14_known_21 (Nat.le_of_ble_eq_true rfl) rfl rfl ?_
    by_cases c : fndJ f (T.v a) 0 n = -1
    · refine am_iload (q := 25) dX14_known_23 rfl rfl ?_
      refine am_iconst (q := 26) (v := (-1)) dX14_known_25 kc_im1 rfl ?_
      refine am_icmp_ne (tgt := 35) (q := 29) dX14_known_26 rfl rfl (fun hz => absurd c hz) (fun _ => ?_)
      refine am_aload_n (q := 30) dX14_known_29 rfl rfl ?_
      refine am_iconst (q := 31) (v := 3) dX14_known_30 kc_i3 rfl ?_
      refine am_iload_n (q := 32) dX14_known_31 rfl rfl ?_
      refine cm_call0 (q := 35) (As := [_, _]) hG dX14_known_32 mlX14_149 rfl (by assumption) ⟨_, _, rfl⟩ (Nat.le_of_ble_eq_true rfl) (Nat.le_of_ble_eq_true rfl) (Nat.le_of_ble_eq_true rfl) (Nat.le_of_ble_eq_true rfl) (k_tel (I1 := up2 I y 13 (nI (a + 1))) hC h hz.1.2 (by rw [up2_j (by decide)]) (by rw [up2_j (by decide)])) rfl ?_
      rintro _ _ ⟨rfl, rfl⟩
      by_cases h0 : s.1.2.1 = 0
      · rw [if_pos h0]
        obtain ⟨d1, d2⟩ := h.told (I1 := up2 (up2 (up2 I y 13 (nI (a + 1))) y 16 3) y 17 (nI a)) (n := 3) hC h0 hz.1.1 (by decide) (by decide) (by decide) (by decide) (fun x j => up3_at (by decide) (by decide) (by decide) x j)
        have ei : i = -1 := (hi h0 hz.1.1).trans c
        have en : pKn T i s.1 = pEx T 258 (pBl T 3 s.1) := by
          unfold pKn
          rw [if_pos ⟨hz.1.1, by rw [ei]; decide⟩]
        have nz : ¬ (pKn T i s.1).2.1 = 0 := fun q => (pKn_0 q).2.2.1 (by rw [ei]; decide)
        have d3 : PC (up2 (up2 (up2 I y 13 (nI (a + 1))) y 16 3) y 17 (nI a)) y nx T ix N (pKn T i s.1, s.2) dep (a + 1) k := by
          rw [en]
          exact d1
        have nz2 : (¬ (pKn T i s.1).2.1 = 0) ∧ True := ⟨nz, trivial⟩
        clear h0 nz en d1
        refine am_iload (q := 37) dX14_known_35 rfl rfl ?_
        exact am_iret dX14_known_37 rfl rfl ⟨_, rfl, _, _, a + 1, rfl, rfl, d3, Nat.le_succ _, d2, fun q => absurd q nz2.1⟩
      · rw [if_neg h0]
        have en : pKn T i s.1 = pEx T 258 s.1 := by
          unfold pKn pBl
          rw [if_neg h0, ite_self]
        have nz2 : (¬ (pKn T i s.1).2.1 = 0) ∧ PC (up2 I y 13 (nI (a + 1))) y nx T ix N (pKn T i s.1, s.2) dep (a + 1) k := by
          refine ⟨fun q => h0 (pKn_0 q).1, ?_⟩
          rw [en]
          exact g1
        clear h0 en
        refine am_iload (q := 37) dX14_known_35 rfl rfl ?_
        exact am_iret dX14_known_37 rfl rfl ⟨_, rfl, _, _, a + 1, rfl, rfl, nz2.2, Nat.le_succ _, g2, fun q => absurd q nz2.1⟩
    · have nz2 : PC (up2 I y 13 (nI (a + 1))) y nx T ix N (pKn T i s.1, s.2) dep (a + 1) k ∧ ((pKn T i s.1).2.1 = 0 → fndJ f (T.v a) 0 n = i) := by
        refine ⟨?_, fun q => (hi (pKn_0 q).1 hz.1.1).symm⟩
        have en : pKn T i s.1 = pEx T 258 s.1 := by
          unfold pKn
          by_cases h0 : s.1.2.1 = 0
          · rw [if_neg]
            rintro ⟨_, q2⟩
            rw [hi h0 hz.1.1] at q2
            rcases fndJ_ix (f := f) (v := T.v a) n 0 with z | ⟨l, _, z2, z3, _⟩
            · exact c (fndJ_m1 z (by omega))
            · rw [z3] at q2
              exact absurd q2 (Int32.not_lt.mpr (nI_pos' (by omega)))
          · unfold pBl
            rw [if_neg h0, ite_self]
        rw [en]
        exact g1
      clear hz
      refine am_iload (q := 25) dX14_known_23 rfl rfl ?_
      refine am_iconst (q := 26) (v := (-1)) dX14_known_25 kc_im1 rfl ?_
      refine am_icmp_ne (tgt := 35) (q := 29) dX14_known_26 rfl rfl (fun _ => ?_) (fun hz => absurd hz c)
      refine am_iload (q := 37) dX14_known_35 rfl rfl ?_
      exact am_iret dX14_known_37 rfl rfl ⟨_, rfl, _, _, a + 1, rfl, rfl, nz2.1, Nat.le_succ _, g2, fun q => ⟨nz2.2 q, rfl⟩⟩
  · have er : (eRef T s).1.2.1 = 1 := pRef_1
    have en : (pKn T i s.1, s.2) = eRef T s := by
      unfold pKn eRef
      rw [if_neg (c := pK T s.1 = 258 ∧ i < 0) (fun q => hk q.1)]
      unfold pEx
      rw [if_neg hk]
    have hz : ((eRef T s).1.2.1 = 1) ∧ ((pKn T i s.1).2.1 ≠ 0 ∧ PC I1 y nx T ix N (pKn T i s.1, s.2) dep a k) := by
      refine ⟨er, fun q => hk (pKn_0 q).2.1, ?_⟩
      rw [en]
      exact g1
    clear er en hk
    refine am_istore_n (q := 5) (ls1 := [_, _, _, _, _]) dX14_known_4 (Nat.le_of_ble_eq_true rfl) rfl rfl ?_
    refine am_aload_n (q := 6) dX14_known_5 rfl rfl ?_
    refine cm_call0 (q := 9) (As := []) hG dX14_known_6 mlX14_119 rfl (by assumption) ⟨_, _, rfl⟩ (Nat.le_of_ble_eq_true rfl) (Nat.le_of_ble_eq_true rfl) (Nat.le_of_ble_eq_true rfl) (Nat.le_of_ble_eq_true rfl) (k_X14_isOk hC g1) rfl ?_
    rintro _ _ ⟨rfl, rfl⟩
    rw [bI_f (fun q => q hz.1)]
    refine am_if_ne (tgt := 14) (q := 12) dX14_known_9 rfl rfl (fun hz => absurd rfl hz) (fun _ => ?_)
    refine am_iconst (q := 13) (v := 0) dX14_known_12 kc_i0 rfl ?_
    exact am_iret dX14_known_13 rfl rfl ⟨_, rfl, _, I1, a, rfl, rfl, hz.2.2, Nat.le_refl _, g2, fun q => absurd q hz.2.1⟩
end Pk

