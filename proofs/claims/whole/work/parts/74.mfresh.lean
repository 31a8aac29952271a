theorem dX14_fresh_0 : decode cX14_fresh 0 = .ok (.aload_n 0, 1) := by decide +kernel
theorem dX14_fresh_1 : decode cX14_fresh 1 = .ok (.invokevirtual 142, 3) := by decide +kernel
theorem dX14_fresh_4 : decode cX14_fresh 4 = .ok (.istore 4, 2) := by decide +kernel
theorem dX14_fresh_6 : decode cX14_fresh 6 = .ok (.aload_n 0, 1) := by decide +kernel
theorem dX14_fresh_7 : decode cX14_fresh 7 = .ok (.invokevirtual 119, 3) := by decide +kernel
theorem dX14_fresh_10 : decode cX14_fresh 10 = .ok (.ifCond .ne 5, 3) := by decide +kernel
theorem dX14_fresh_13 : decode cX14_fresh 13 = .ok (.iconst 0, 1) := by decide +kernel
theorem dX14_fresh_14 : decode cX14_fresh 14 = .ok (.ireturn, 1) := by decide +kernel
theorem dX14_fresh_15 : decode cX14_fresh 15 = .ok (.aload_n 0, 1) := by decide +kernel
theorem dX14_fresh_16 : decode cX14_fresh 16 = .ok (.aload_n 1, 1) := by decide +kernel
theorem dX14_fresh_17 : decode cX14_fresh 17 = .ok (.iload_n 2, 1) := by decide +kernel
theorem dX14_fresh_18 : decode cX14_fresh 18 = .ok (.iload 4, 2) := by decide +kernel
theorem dX14_fresh_20 : decode cX14_fresh 20 = .ok (.invokevirtual 145, 3) := by decide +kernel
theorem dX14_fresh_23 : decode cX14_fresh 23 = .ok (.iconst (-1), 1) := by decide +kernel
theorem dX14_fresh_24 : decode cX14_fresh 24 = .ok (.if_icmp .eq 10, 3) := by decide +kernel
theorem dX14_fresh_27 : decode cX14_fresh 27 = .ok (.aload_n 0, 1) := by decide +kernel
theorem dX14_fresh_28 : decode cX14_fresh 28 = .ok (.iconst 2, 1) := by decide +kernel
theorem dX14_fresh_29 : decode cX14_fresh 29 = .ok (.iload 4, 2) := by decide +kernel
theorem dX14_fresh_31 : decode cX14_fresh 31 = .ok (.invokevirtual 149, 3) := by decide +kernel
theorem dX14_fresh_34 : decode cX14_fresh 34 = .ok (.iload_n 2, 1) := by decide +kernel
theorem dX14_fresh_35 : decode cX14_fresh 35 = .ok (.iload_n 3, 1) := by decide +kernel
theorem dX14_fresh_36 : decode cX14_fresh 36 = .ok (.if_icmp .ne 10, 3) := by decide +kernel
theorem dX14_fresh_39 : decode cX14_fresh 39 = .ok (.aload_n 0, 1) := by decide +kernel
theorem dX14_fresh_40 : decode cX14_fresh 40 = .ok (.iconst 4, 1) := by decide +kernel
theorem dX14_fresh_41 : decode cX14_fresh 41 = .ok (.iload 4, 2) := by decide +kernel
theorem dX14_fresh_43 : decode cX14_fresh 43 = .ok (.invokevirtual 149, 3) := by decide +kernel
theorem dX14_fresh_46 : decode cX14_fresh 46 = .ok (.iload 4, 2) := by decide +kernel
theorem dX14_fresh_48 : decode cX14_fresh 48 = .ok (.ireturn, 1) := by decide +kernel
/-! the reference's reader: new names, numbers, nodes -/
section Pf
variable {G : Gp} {S : AMem} {I I1 : Nat → Nat → Int32} {J : Nat → Nat → Int64} {R : Nat → Nat → Option Nat} {y bl nx : Nat} {T : Toks} {ix : Int32 → Int64 → Int32} {N : Nat × Nat × Nat} {s s1 : PS × Cd} {dep a k : Nat}
theorem pBl_no {n : Int32} {s : PS} (h : s.2.1 ≠ 0) : pBl T n s = s := if_neg h
theorem pN1_no {p n : Int32} {s : PS} (h : s.2.1 ≠ 0) : pN1 T p n s = s := by
  unfold pN1
  rw [pBl_no h, ite_self]
theorem pN1_on {p n : Int32} {s : PS} (h : pK T s = 258) (hp : p ≠ 0) : pN1 T p n s = pBl T n s := if_pos ⟨h, hp⟩
theorem pN1_of {p n : Int32} {s : PS} (hp : ¬ (pK T s = 258 ∧ p ≠ 0)) : pN1 T p n s = s := if_neg hp
theorem pBl_er {n : Int32} {s : PS} (h : s.2.1 = 0) (hn : n ≠ 0) : (pBl T n s).2.1 ≠ 0 := by
  unfold pBl
  rw [if_pos h]
  exact hn
/-- the name of something new -/
theorem k_X14_fresh {q n : Nat} {f : Nat → Int64} {f1 f2 most : Int32} (hG : okG G) (hC : MCc S R y bl nx) (h : PC I y nx T ix N s dep a k) (hq : S.K q = 20) (hqn : n ≤ S.ln q) (hq31 : S.ln q < 2 ^ 31) (hn8 : n ≤ 8) (hqy : q ≠ y) (hf : s.1.2.1 ≠ 1 → ∀ l, l < n → ∃ t, I q l = nI t ∧ t < T.n ∧ T.k t = 258 ∧ T.v t = f l) (hi : s.1.2.1 = 0 → pK T s.1 = 258 → ((f1 ≠ 0 ↔ fndJ f (pV T s.1) 0 n ≠ -1) ∧ (f2 ≠ 0 ↔ nI n = most))) : Fn G mX14_fresh 2 [vR y, vR q, vI (nI n), vI most] (mw S I J R) (fun rr M1 => ∃ w I1 a1, rr = some (vI w) ∧ M1 = mw S I1 J R ∧ PC I1 y nx T ix N (pNew T f1 f2 s.1, s.2) dep a1 k ∧ a ≤ a1 ∧ OffM y nx k I I1 ∧ ((pNew T f1 f2 s.1).2.1 ≠ 1 → w = nI a ∧ T.k a = 258 ∧ pV T s.1 = T.v a)) := by
  have ky := hC.1.1
  have r1 := hC.2.1
  have hP := hC.2.2.2.2.2.2.2.2.2
  refine am_aload_n (q := 1) dX14_fresh_0 rfl rfl ?_
  refine cm_call0 (q := 4) (As := []) hG dX14_fresh_1 mlX14_142 rfl (by assumption) ⟨_, _, rfl⟩ (Nat.le_of_ble_eq_true rfl) (Nat.le_of_ble_eq_true rfl) (Nat.le_of_ble_eq_true rfl) (Nat.le_of_ble_eq_true rfl) (k_X14_name hG hC h) rfl ?_
  rintro _ _ (⟨hk, hg, rfl, rfl⟩ | ⟨hk, rfl, I1, rfl, g1, g2⟩)
  · obtain ⟨e1, e2, e3⟩ := h.kind hg
    have e4 : pV T s.1 = T.v a := by
      unfold pV
      rw [if_neg hg, ← e3]
    obtain ⟨g1, g2⟩ := h.eat (I1 := up2 I y 13 (nI (a + 1))) hC hg hk (by decide) (by decide) (fun x j => up2_at _ _)
    have g1' : PC (up2 I y 13 (nI (a + 1))) y nx T ix N (eEx T 258 s) dep (a + 1) k := g1
    have hf1 : ∀ l, l < n → ∃ t, up2 I y 13 (nI (a + 1)) q l = nI t ∧ t < T.n ∧ T.k t = 258 ∧ T.v t = f l := fun l hl => by
      rw [up2_a hqy]
      exact hf hg l hl
    have hk2 := e1.symm.trans hk
    have ok : (eEx T 258 s).1.2.1 ≠ 1 := by
      unfold eEx pEx
      rw [if_pos hk]
      exact hg
    have hz : (pK T s.1 = 258 ∧ s.1.2.1 ≠ 1) ∧ (eEx T 258 s).1.2.1 ≠ 1 := ⟨⟨hk, hg⟩, ok⟩
    clear hk hg ok e1 e3 hf
    have fin : ∀ (I2 : Nat → Nat → Int32), PC I2 y nx T ix N (pNew T f1 f2 s.1, s.2) dep (a + 1) k ∧ OffM y nx k I I2 → MW G mX14_fresh 2 46 [some (vR y), some (vR q), some (vI (nI n)), some (vI most), some (vI (nI a))] [] (mw S I2 J R) (fun f M1 => ∃ rr, f = .inl rr ∧ (∃ w I1 a1, rr = some (vI w) ∧ M1 = mw S I1 J R ∧ PC I1 y nx T ix N (pNew T f1 f2 s.1, s.2) dep a1 k ∧ a ≤ a1 ∧ OffM y nx k I I1 ∧ ((pNew T f1 f2 s.1).2.1 ≠ 1 → w = nI a ∧ T.k a = 258 ∧ pV T s.1 = T.v a))) := by
      intro I2 c
      refine am_iload (q := 48) dX14_fresh_46 rfl rfl ?_
      exact am_iret dX14_fresh_48 rfl rfl ⟨_, rfl, _, I2, a + 1, rfl, rfl, c.1, Nat.le_succ _, c.2, fun _ => ⟨rfl, hk2, e4⟩⟩
    refine am_istore (q := 6) (ls1 := [_, _, _, _, _]) dX14_fresh_4 (Nat.le_of_ble_eq_true rfl) rfl rfl ?_
    refine am_aload_n (q := 7) dX14_fresh_6 rfl rfl ?_
    refine cm_call0 (q := 10) (As := []) hG dX14_fresh_7 mlX14_119 rfl (by assumption) ⟨_, _, rfl⟩ (Nat.le_of_ble_eq_true rfl) (Nat.le_of_ble_eq_true rfl) (Nat.le_of_ble_eq_true rfl) (Nat.le_of_ble_eq_true rfl) (k_X14_isOk hC g1) rfl ?_
    rintro _ _ ⟨rfl, rfl⟩
    rw [bI_t hz.2]
    refine am_if_ne (tgt := 15) (q := 13) dX14_fresh_10 rfl rfl (fun _ => ?_) (fun hz => absurd hz (by decide))
    refine am_aload_n (q := 16) dX14_fresh_15 rfl rfl ?_
    refine am_aload_n (q := 17) dX14_fresh_16 rfl rfl ?_
    refine am_iload_n (q := 18) dX14_fresh_17 rfl rfl ?_
    refine am_iload (q := 20) dX14_fresh_18 rfl rfl ?_
    refine cm_call0 (q := 23) (As := [_, _, _]) hG dX14_fresh_20 mlX14_145 rfl (by assumption) ⟨_, _, rfl⟩ (Nat.le_of_ble_eq_true rfl) (Nat.le_of_ble_eq_true rfl) (Nat.le_of_ble_eq_true rfl) (Nat.le_of_ble_eq_true rfl) (k_X14_find (f := f) hG hP ky r1.1 r1.2.1 r1.2.2 g1'.1 hq hqn hn8 e2 hk2 hf1 hq31) rfl ?_
    rintro _ _ ⟨rfl, rfl⟩
    refine am_iconst (q := 24) (v := (-1)) dX14_fresh_23 kc_im1 rfl ?_
    have t1 : Fn G mX14_tell 0 [vR y, vI 2, vI (nI a)] (mw S (up2 I y 13 (nI (a + 1))) J R) (fun rr M1 => rr = none ∧ M1 = mw S (if s.1.2.1 = 0 then up2 (up2 (up2 I y 13 (nI (a + 1))) y 16 2) y 17 (nI a) else up2 I y 13 (nI (a + 1))) J R) := k_tel hC h hz.1.2 (by rw [up2_j (by decide)]) (by rw [up2_j (by decide)])
    have t2 : Fn G mX14_tell 0 [vR y, vI 4, vI (nI a)] (mw S (up2 I y 13 (nI (a + 1))) J R) (fun rr M1 => rr = none ∧ M1 = mw S (if s.1.2.1 = 0 then up2 (up2 (up2 I y 13 (nI (a + 1))) y 16 4) y 17 (nI a) else up2 I y 13 (nI (a + 1))) J R) := k_tel hC h hz.1.2 (by rw [up2_j (by decide)]) (by rw [up2_j (by decide)])
    by_cases h0 : s.1.2.1 = 0
    · rw [if_pos h0] at t1 t2
      obtain ⟨i1, i2⟩ := hi h0 hz.1.1
      rw [e4] at i1
      have d1 := h.told (I1 := up2 (up2 (up2 I y 13 (nI (a + 1))) y 16 2) y 17 (nI a)) (n := 2) hC h0 hz.1.1 (by decide) (by decide) (by decide) (by decide) (fun x j => up3_at (by decide) (by decide) (by decide) x j)
      have d2 := h.told (I1 := up2 (up2 (up2 I y 13 (nI (a + 1))) y 16 4) y 17 (nI a)) (n := 4) hC h0 hz.1.1 (by decide) (by decide) (by decide) (by decide) (fun x j => up3_at (by decide) (by decide) (by decide) x j)
      by_cases c : fndJ f (T.v a) 0 n = -1
      · have n1 : pN1 T f1 2 s.1 = s.1 := pN1_of (fun q => (i1.mp q.2) c)
        by_cases cm : nI n = most
        · have n2 : pNew T f1 f2 s.1 = pEx T 258 (pBl T 4 s.1) := by
            unfold pNew
            rw [n1, pN1_on hz.1.1 (i2.mpr cm)]
          have d3 := fin (up2 (up2 (up2 I y 13 (nI (a + 1))) y 16 4) y 17 (nI a)) (by rw [n2]; exact d2)
          clear h0 n1 n2 d1 d2 fin
          refine am_icmp_eq (tgt := 34) (q := 27) dX14_fresh_24 rfl rfl (fun _ => ?_) (fun hz => absurd c hz)
          refine am_iload_n (q := 35) dX14_fresh_34 rfl rfl ?_
          refine am_iload_n (q := 36) dX14_fresh_35 rfl rfl ?_
          refine am_icmp_ne (tgt := 46) (q := 39) dX14_fresh_36 rfl rfl (fun hz => absurd cm hz) (fun _ => ?_)
          refine am_aload_n (q := 40) dX14_fresh_39 rfl rfl ?_
          refine am_iconst (q := 41) (v := 4) dX14_fresh_40 kc_i4 rfl ?_
          refine am_iload (q := 43) dX14_fresh_41 rfl rfl ?_
          refine cm_call0 (q := 46) (As := [_, _]) hG dX14_fresh_43 mlX14_149 rfl (by assumption) ⟨_, _, rfl⟩ (Nat.le_of_ble_eq_true rfl) (Nat.le_of_ble_eq_true rfl) (Nat.le_of_ble_eq_true rfl) (Nat.le_of_ble_eq_true rfl) t2 rfl ?_
          rintro _ _ ⟨rfl, rfl⟩
          exact d3
        · have n2 : pNew T f1 f2 s.1 = pEx T 258 s.1 := by
            unfold pNew
            rw [n1, pN1_of (fun q => cm (i2.mp q.2))]
          have d3 := fin (up2 I y 13 (nI (a + 1))) (by rw [n2]; exact ⟨g1, g2⟩)
          clear h0 n1 n2 d1 d2 fin
          refine am_icmp_eq (tgt := 34) (q := 27) dX14_fresh_24 rfl rfl (fun _ => ?_) (fun hz => absurd c hz)
          refine am_iload_n (q := 35) dX14_fresh_34 rfl rfl ?_
          refine am_iload_n (q := 36) dX14_fresh_35 rfl rfl ?_
          refine am_icmp_ne (tgt := 46) (q := 39) dX14_fresh_36 rfl rfl (fun _ => ?_) (fun hz => absurd hz cm)
          exact d3
      · have n2 : pNew T f1 f2 s.1 = pEx T 258 (pBl T 2 s.1) := by
          unfold pNew
          rw [pN1_on hz.1.1 (i1.mpr c), pN1_no (pBl_er h0 (by decide))]
        have d3 := fin (up2 (up2 (up2 I y 13 (nI (a + 1))) y 16 2) y 17 (nI a)) (by rw [n2]; exact d1)
        have t3 : Fn G mX14_tell 0 [vR y, vI 4, vI (nI a)] (mw S (up2 (up2 (up2 I y 13 (nI (a + 1))) y 16 2) y 17 (nI a)) J R) (fun rr M1 => rr = none ∧ M1 = mw S (up2 (up2 (up2 I y 13 (nI (a + 1))) y 16 2) y 17 (nI a)) J R) := by
          refine MW.weaken (k_X14_tell hC.1.1) ?_
          rintro f M1 ⟨r, z1, z2, z3, _⟩
          refine ⟨r, z1, z2, z3 ?_⟩
          rw [up2_j (by decide), up2_s]
          exact ⟨by decide, Or.inr (by decide)⟩
        clear h0 n2 d1 d2 fin
        refine am_icmp_eq (tgt := 34) (q := 27) dX14_fresh_24 rfl rfl (fun hz => absurd hz c) (fun _ => ?_)
        refine am_aload_n (q := 28) dX14_fresh_27 rfl rfl ?_
        refine am_iconst (q := 29) (v := 2) dX14_fresh_28 kc_i2 rfl ?_
        refine am_iload (q := 31) dX14_fresh_29 rfl rfl ?_
        refine cm_call0 (q := 34) (As := [_, _]) hG dX14_fresh_31 mlX14_149 rfl (by assumption) ⟨_, _, rfl⟩ (Nat.le_of_ble_eq_true rfl) (Nat.le_of_ble_eq_true rfl) (Nat.le_of_ble_eq_true rfl) (Nat.le_of_ble_eq_true rfl) t1 rfl ?_
        rintro _ _ ⟨rfl, rfl⟩
        by_cases cm : nI n = most
        · refine am_iload_n (q := 35) dX14_fresh_34 rfl rfl ?_
          refine am_iload_n (q := 36) dX14_fresh_35 rfl rfl ?_
          refine am_icmp_ne (tgt := 46) (q := 39) dX14_fresh_36 rfl rfl (fun hz => absurd cm hz) (fun _ => ?_)
          refine am_aload_n (q := 40) dX14_fresh_39 rfl rfl ?_
          refine am_iconst (q := 41) (v := 4) dX14_fresh_40 kc_i4 rfl ?_
          refine am_iload (q := 43) dX14_fresh_41 rfl rfl ?_
          refine cm_call0 (q := 46) (As := [_, _]) hG dX14_fresh_43 mlX14_149 rfl (by assumption) ⟨_, _, rfl⟩ (Nat.le_of_ble_eq_true rfl) (Nat.le_of_ble_eq_true rfl) (Nat.le_of_ble_eq_true rfl) (Nat.le_of_ble_eq_true rfl) t3 rfl ?_
          rintro _ _ ⟨rfl, rfl⟩
          exact d3
        · refine am_iload_n (q := 35) dX14_fresh_34 rfl rfl ?_
          refine am_iload_n (q := 36) dX14_fresh_35 rfl rfl ?_
          refine am_icmp_ne (tgt := 46) (q := 39) dX14_fresh_36 rfl rfl (fun _ => ?_) (fun hz => absurd hz cm)
          exact d3
    · rw [if_neg h0] at t1 t2
      have n2 : pNew T f1 f2 s.1 = pEx T 258 s.1 := by
        unfold pNew
        rw [pN1_no h0, pN1_no h0]
      have d3 := fin (up2 I y 13 (nI (a + 1))) (by rw [n2]; exact ⟨g1, g2⟩)
      clear h0 n2 fin
      have go : MW G mX14_fresh 2 34 [some (vR y), some (vR q), some (vI (nI n)), some (vI most), some (vI (nI a))] [] (mw S (up2 I y 13 (nI (a + 1))) J R) (fun f M1 => ∃ rr, f = .inl rr ∧ (∃ w I1 a1, rr = some (vI w) ∧ M1 = mw S I1 J R ∧ PC I1 y nx T ix N (pNew T f1 f2 s.1, s.2) dep a1 k ∧ a ≤ a1 ∧ OffM y nx k I I1 ∧ ((pNew T f1 f2 s.1).2.1 ≠ 1 → w = nI a ∧ T.k a = 258 ∧ pV T s.1 = T.v a))) := by
        by_cases cm : nI n = most
        · refine am_iload_n (q := 35) dX14_fresh_34 rfl rfl ?_
          refine am_iload_n (q := 36) dX14_fresh_35 rfl rfl ?_
          refine am_icmp_ne (tgt := 46) (q := 39) dX14_fresh_36 rfl rfl (fun hz => absurd cm hz) (fun _ => ?_)
          refine am_aload_n (q := 40) dX14_fresh_39 rfl rfl ?_
          refine am_iconst (q := 41) (v := 4) dX14_fresh_40 kc_i4 rfl ?_
          refine am_iload (q := 43) dX14_fresh_41 rfl rfl ?_
          refine cm_call0 (q := 46) (As := [_, _]) hG dX14_fresh_43 mlX14_149 rfl (by assumption) ⟨_, _, rfl⟩ (Nat.le_of_ble_eq_true rfl) (Nat.le_of_ble_eq_true rfl) (Nat.le_of_ble_eq_true rfl) (Nat.le_of_ble_eq_true rfl) t2 rfl ?_
          rintro _ _ ⟨rfl, rfl⟩
          exact d3
        · refine am_iload_n (q := 35) dX14_fresh_34 rfl rfl ?_
          refine am_iload_n (q := 36) dX14_fresh_35 rfl rfl ?_
          refine am_icmp_ne (tgt := 46) (q := 39) dX14_fresh_36 rfl rfl (fun _ => ?_) (fun hz => absurd hz cm)
          exact d3
      by_cases c : fndJ f (T.v a) 0 n = -1
      · refine am_icmp_eq (tgt := 34) (q := 27) dX14_fresh_24 rfl rfl (fun _ => ?_) (fun hz => absurd c hz)
        exact go
      · refine am_icmp_eq (tgt := 34) (q := 27) dX14_fresh_24 rfl rfl (fun hz => absurd hz c) (fun _ => ?_)
        refine am_aload_n (q := 28) dX14_fresh_27 rfl rfl ?_
        refine am_iconst (q := 29) (v := 2) dX14_fresh_28 kc_i2 rfl ?_
        refine am_iload (q := 31) dX14_fresh_29 rfl rfl ?_
        refine cm_call0 (q := 34) (As := [_, _]) hG dX14_fresh_31 mlX14_149 rfl (by assumption) ⟨_, _, rfl⟩ (Nat.le_of_ble_eq_true rfl) (Nat.le_of_ble_eq_true rfl) (Nat.le_of_ble_eq_true rfl) (Nat.le_of_ble_eq_true rfl) t1 rfl ?_
        rintro _ _ ⟨rfl, rfl⟩
        exact go
  · have er : (eRef T s).1.2.1 = 1 := pRef_1
    have en : pNew T f1 f2 s.1 = pRef T s.1 := by
      unfold pNew
      rw [pN1_of (fun q => hk q.1), pN1_of (fun q => hk q.1)]
      unfold pEx
      rw [if_neg hk]
    have hz : ((eRef T s).1.2.1 = 1) ∧ ((pNew T f1 f2 s.1).2.1 = 1 ∧ PC I1 y nx T ix N (pNew T f1 f2 s.1, s.2) dep a k) := by
      rw [en]
      exact ⟨er, pRef_1, g1⟩
    clear er en hk
    refine am_istore (q := 6) (ls1 := [_, _, _, _, _]) dX14_fresh_4 (Nat.le_of_ble_eq_true rfl) rfl rfl ?_
    refine am_aload_n (q := 7) dX14_fresh_6 rfl rfl ?_
    refine cm_call0 (q := 10) (As := []) hG dX14_fresh_7 mlX14_119 rfl (by assumption) ⟨_, _, rfl⟩ (Nat.le_of_ble_eq_true rfl) (Nat.le_of_ble_eq_true rfl) (Nat.le_of_ble_eq_true rfl) (Nat.le_of_ble_eq_true rfl) (k_X14_isOk hC g1) rfl ?_
    rintro _ _ ⟨rfl, rfl⟩
    rw [bI_f (fun q => q hz.1)]
    refine am_if_ne (tgt := 15) (q := 13) dX14_fresh_10 rfl rfl (fun hz => absurd rfl hz) (fun _ => ?_)
    refine am_iconst (q := 14) (v := 0) dX14_fresh_13 kc_i0 rfl ?_
    exact am_iret dX14_fresh_14 rfl rfl ⟨_, rfl, _, I1, a, rfl, rfl, hz.2.2, Nat.le_refl _, g2, fun q => absurd hz.2.1 q⟩
end Pf

