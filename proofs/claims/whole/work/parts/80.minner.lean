theorem dX14_named_0 : decode cX14_named 0 = .ok (.aload_n 0, 1) := by decide +kernel
theorem dX14_named_1 : decode cX14_named 1 = .ok (.getfield 20, 3) := by decide +kernel
theorem dX14_named_4 : decode cX14_named 4 = .ok (.aload_n 0, 1) := by decide +kernel
theorem dX14_named_5 : decode cX14_named 5 = .ok (.getfield 116, 3) := by decide +kernel
theorem dX14_named_8 : decode cX14_named 8 = .ok (.iaload, 1) := by decide +kernel
theorem dX14_named_9 : decode cX14_named 9 = .ok (.istore_n 3, 1) := by decide +kernel
theorem dX14_named_10 : decode cX14_named 10 = .ok (.aload_n 0, 1) := by decide +kernel
theorem dX14_named_11 : decode cX14_named 11 = .ok (.dup, 1) := by decide +kernel
theorem dX14_named_12 : decode cX14_named 12 = .ok (.getfield 116, 3) := by decide +kernel
theorem dX14_named_15 : decode cX14_named 15 = .ok (.iconst 1, 1) := by decide +kernel
theorem dX14_named_16 : decode cX14_named 16 = .ok (.iadd, 1) := by decide +kernel
theorem dX14_named_17 : decode cX14_named 17 = .ok (.putfield 116, 3) := by decide +kernel
theorem dX14_named_20 : decode cX14_named 20 = .ok (.aload_n 0, 1) := by decide +kernel
theorem dX14_named_21 : decode cX14_named 21 = .ok (.getfield 36, 3) := by decide +kernel
theorem dX14_named_24 : decode cX14_named 24 = .ok (.iload_n 3, 1) := by decide +kernel
theorem dX14_named_25 : decode cX14_named 25 = .ok (.aload_n 0, 1) := by decide +kernel
theorem dX14_named_26 : decode cX14_named 26 = .ok (.aload_n 1, 1) := by decide +kernel
theorem dX14_named_27 : decode cX14_named 27 = .ok (.iload_n 2, 1) := by decide +kernel
theorem dX14_named_28 : decode cX14_named 28 = .ok (.invokevirtual 192, 3) := by decide +kernel
theorem dX14_named_31 : decode cX14_named 31 = .ok (.iconst 0, 1) := by decide +kernel
theorem dX14_named_32 : decode cX14_named 32 = .ok (.invokevirtual 162, 3) := by decide +kernel
theorem dX14_named_35 : decode cX14_named 35 = .ok (.ireturn, 1) := by decide +kernel
/-! names in sums; sums in brackets; pairs -/
theorem stE_rd {rd : Int32 → Int32 → Int32} {k g : Int32} {st : List Int32} (h : k ≠ 259 ∧ k ≠ 262 ∧ k ≠ 327 ∧ 319 ≤ k ∧ k ≤ 326) : stE rd k g st = rd k g :: st := by
  unfold stE
  rw [if_neg h.1, if_neg h.2.1, if_neg h.2.2.1, if_pos h.2.2.2]
section In
variable {G : Gp} {S : AMem} {I I1 : Nat → Nat → Int32} {J : Nat → Nat → Int64} {R : Nat → Nat → Option Nat} {y bl nx : Nat} {T : Toks} {ix : Int32 → Int64 → Int32} {N : Nat × Nat × Nat} {s s1 : PS × Cd} {a k d dv : Nat} {V : PS × Cd → PS × Cd}
theorem PC.ng {kk : Int32} (h7 : kk ≠ 257) (hk : pK T s.1 = kk) : s.1.2.1 ≠ 1 := fun q => h7 (by rw [← hk]; exact pK_f1 q)
theorem eEx_ok {kk : Int32} (hk : pK T s.1 = kk) (hg : s.1.2.1 ≠ 1) : (eEx T kk s).1.2.1 ≠ 1 ∧ (eEx T kk s).1.2.1 = s.1.2.1 := by
  unfold eEx pEx
  rw [if_pos hk]
  exact ⟨hg, rfl⟩
theorem k_X14_named {q n j : Nat} {f : Nat → Int64} (hG : okG G) (hC : MCc S R y bl nx) (h : PC I y nx T ix N s d a k) (hj : j = 22 ∨ j = 23 ∨ j = 24 ∨ j = 25) (hk : pK T s.1 = nI (300 + j)) (hq : S.K q = 20) (hqn : n ≤ S.ln q) (hq31 : S.ln q < 2 ^ 31) (hn8 : n ≤ 8) (hqy : q ≠ y) (hf : ∀ l, l < n → ∃ t, I q l = nI t ∧ t < T.n ∧ T.k t = 258 ∧ T.v t = f l) (hN : s.1.2.1 = 0 → (∀ v, ix (nI (300 + j)) v = fndJ f v 0 n) ∧ ((n = N.2.1 ∧ (j = 22 ∨ j = 23)) ∨ (n = N.1 ∧ j = 24) ∨ (n = N.2.2 ∧ j = 25))) : Fn G mX14_named 3 [vR y, vR q, vI (nI n)] (mw S I J R) (fun rr M1 => QM S J R y nx T ix N NdN d I a k s (eNm T ix (nI (300 + j)) s) rr M1) := by
  have ky := hC.1.1
  have kb := hC.2.2.2.2.2.2.2.2.1.1
  have rn := hC.2.2.2.2.2.2.1
  obtain ⟨q4, q5, _, _, ⟨k2, l2⟩, ⟨k3, l3⟩, _⟩ := id hC.2.2.2.2.2.2.2.2.2
  have k7 : nI (300 + j) ≠ 257 := k_ne (b := 257) (by omega) (by decide) (by omega)
  have k6 : nI (300 + j) ≠ 256 := k_ne (b := 256) (by omega) (by decide) (by omega)
  have hg := PC.ng k7 hk
  obtain ⟨e1, e2, e3⟩ := h.kind hg
  obtain ⟨i2, i3, sr, ca⟩ := h.sort hC e2
  have hva : I (y + 3) a = nI j := ((srt_key (j0 := j) sr (by omega)).mpr (e1.symm.trans hk)).2
  have h13 := h.2.1.1
  have hka := h.2.1.2.2.2.1
  have I2h : ∀ x j, up2 I y 13 (nI (a + 1)) x j = if x = y ∧ j = 13 then nI (a + 1) else I x j := fun x j => up2_at _ _
  obtain ⟨d1, d2⟩ := h.eat hC hg hk k6 k7 I2h
  obtain ⟨okk, oke⟩ := eEx_ok hk hg
  obtain ⟨i, hi⟩ : ∃ i, ix (nI (300 + j)) (pV T (pEx T (nI (300 + j)) s.1)) = i := ⟨_, rfl⟩
  have en : eNm T ix (nI (300 + j)) s = eAd (nI (300 + j)) i (pKn T i (eEx T (nI (300 + j)) s).1, s.2) := by
    unfold eNm
    rw [hi]
    rfl
  rw [en]
  have hkn := k_X14_known (G := G) (J := J) (q := q) (n := n) (f := f) (i := i) hG hC d1 hq hqn hq31 hn8 hqy (fun _ l hl => by rw [I2h, if_neg (by omega)]; exact hf l hl) (fun q1 q2 => by
    rw [← hi]
    exact (hN (oke.symm.trans q1)).1 _)
  have hN2 : (eEx T (nI (300 + j)) s).1.2.1 = 0 → i = fndJ f (pV T (pEx T (nI (300 + j)) s.1)) 0 n ∧ ((n = N.2.1 ∧ (j = 22 ∨ j = 23)) ∨ (n = N.1 ∧ j = 24) ∨ (n = N.2.2 ∧ j = 25)) := fun z => ⟨by rw [← hi]; exact (hN (oke.symm.trans z)).1 _, (hN (oke.symm.trans z)).2⟩
  have e22 : (eEx T (nI (300 + j)) s).2 = s.2 := rfl
  rw [e22] at hkn
  generalize (eEx T (nI (300 + j)) s).1 = P at hkn hN2 ⊢
  clear okk oke hi en hN hf e1 e3 hg hk k6 k7 d1 e22
  refine am_aload_n (q := 1) dX14_named_0 rfl rfl ?_
  refine cm_getR (q := 4) dX14_named_1 flX14_20 rfl (by assumption) (by assumption) rfl ?_
  refine am_aload_n (q := 5) dX14_named_4 rfl rfl ?_
  refine cm_getI (q := 8) dX14_named_5 flX14_116 rfl (by assumption) rfl ?_
  rw [h13]
  refine cm_iaload (q := 9) dX14_named_8 (by assumption) i3 rfl ?_
  rw [ca, hva]
  refine am_istore_n (q := 10) (ls1 := [_, _, _, _]) dX14_named_9 (Nat.le_of_ble_eq_true rfl) rfl rfl ?_
  refine am_aload_n (q := 11) dX14_named_10 rfl rfl ?_
  refine am_dup (q := 12) dX14_named_11 rfl rfl ?_
  refine cm_getI (q := 15) dX14_named_12 flX14_116 rfl (by assumption) rfl ?_
  rw [h13]
  refine am_iconst (q := 16) (v := 1) dX14_named_15 kc_i1 rfl ?_
  refine am_iadd (q := 17) dX14_named_16 rfl ?_
  refine cm_putI (q := 20) dX14_named_17 flX14_116 rfl (Or.inl rfl) (Or.inl rfl) (by assumption) rfl ?_
  rw [nI_1]
  refine am_aload_n (q := 21) dX14_named_20 rfl rfl ?_
  refine cm_getR (q := 24) dX14_named_21 flX14_36 rfl (by assumption) (by assumption) rfl ?_
  refine am_iload_n (q := 25) dX14_named_24 rfl rfl ?_
  refine am_aload_n (q := 26) dX14_named_25 rfl rfl ?_
  refine am_aload_n (q := 27) dX14_named_26 rfl rfl ?_
  refine am_iload_n (q := 28) dX14_named_27 rfl rfl ?_
  refine cm_call0 (q := 31) (As := [_, _]) hG dX14_named_28 mlX14_192 rfl (by assumption) ⟨_, _, rfl⟩ (Nat.le_of_ble_eq_true rfl) (Nat.le_of_ble_eq_true rfl) (by omega) (Nat.le_of_ble_eq_true rfl) hkn rfl ?_
  rintro _ _ ⟨w, I3, a3, rfl, rfl, t1, t2, t3, t4⟩
  obtain ⟨u1, u2, u3⟩ := t1.nd (w := nI j) (u := w) (v := 0) (kk := nI (300 + j)) (g := i) hC (by omega)
  have h10 := t1.2.1.2.2.1
  have ndc := k_X12_node (G := G) (J := J) (I := I3) (w := nI j) (u := w) (v := 0) hC h10 u3
  have res : (eAd (nI (300 + j)) i (pKn T i P, s.2)).1.2.1 = 0 → NRx NdN (ndI I3 nx k (nI j) w 0) nx N s.2 (eAd (nI (300 + j)) i (pKn T i P, s.2)).2 k := by
    intro z
    have z0 : (pKn T i P).2.1 = 0 := z
    obtain ⟨z1, z2, z3, z4⟩ := pKn_0 z0
    obtain ⟨y1, y2⟩ := hN2 z1
    obtain ⟨l, hl, el, _⟩ := pIx_0 y1 z3
    obtain ⟨v1, v2, _⟩ := t1.len z0
    have v1b : k = s.2.length := v1
    have hT := h.1.2.1
    refine NRx.one (τ := fun rd => rd (nI j + 300) (nI l)) v1b (by omega) (fun O A E o1 o2 => ?_) (fun rd st => ?_)
    · refine Or.inr (Or.inr (Or.inl ⟨l, by rw [o2, (t4 z0).1, el], ?_, by rw [o1]⟩))
      rw [o1]
      rcases y2 with ⟨x1, x2⟩ | ⟨x1, x2⟩ | ⟨x1, x2⟩
      · exact Or.inl ⟨by omega, x2.elim (fun r => Or.inl (by rw [r]; rfl)) (fun r => Or.inr (by rw [r]; rfl))⟩
      · exact Or.inr (Or.inl ⟨by omega, by rw [x2]; rfl⟩)
      · exact Or.inr (Or.inr ⟨by omega, by rw [x2]; rfl⟩)
    · rw [el]
      rcases hj with r | r | r | r <;> rw [r] <;> exact stE_rd (by decide)
  clear t4 hN2 hkn
  generalize eAd (nI (300 + j)) i (pKn T i P, s.2) = s2 at u1 res ⊢
  refine am_iconst (q := 32) (v := 0) dX14_named_31 kc_i0 rfl ?_
  refine cm_call0 (q := 35) (As := [_, _, _]) hG dX14_named_32 mlX14_162 rfl (by assumption) ⟨_, _, rfl⟩ (Nat.le_of_ble_eq_true rfl) (Nat.le_of_ble_eq_true rfl) (by omega) (Nat.le_of_ble_eq_true rfl) ndc rfl ?_
  rintro _ _ ⟨rfl, rfl⟩
  exact am_iret dX14_named_35 rfl rfl ⟨_, rfl, k, _, a3, k + 1, rfl, rfl, u1, ⟨by omega, by omega, by omega⟩, (d2.tr t3 (Nat.le_refl _)).tr u2 (Nat.le_refl _), res⟩
end In

