theorem dX14_deeper_0 : decode cX14_deeper 0 = .ok (.aload_n 0, 1) := by decide +kernel
theorem dX14_deeper_1 : decode cX14_deeper 1 = .ok (.getfield 136, 3) := by decide +kernel
theorem dX14_deeper_4 : decode cX14_deeper 4 = .ok (.bipush 8, 2) := by decide +kernel
theorem dX14_deeper_6 : decode cX14_deeper 6 = .ok (.if_icmp .ne 7, 3) := by decide +kernel
theorem dX14_deeper_9 : decode cX14_deeper 9 = .ok (.aload_n 0, 1) := by decide +kernel
theorem dX14_deeper_10 : decode cX14_deeper 10 = .ok (.invokevirtual 127, 3) := by decide +kernel
theorem dX14_deeper_13 : decode cX14_deeper 13 = .ok (.aload_n 0, 1) := by decide +kernel
theorem dX14_deeper_14 : decode cX14_deeper 14 = .ok (.dup, 1) := by decide +kernel
theorem dX14_deeper_15 : decode cX14_deeper 15 = .ok (.getfield 136, 3) := by decide +kernel
theorem dX14_deeper_18 : decode cX14_deeper 18 = .ok (.iconst 1, 1) := by decide +kernel
theorem dX14_deeper_19 : decode cX14_deeper 19 = .ok (.iadd, 1) := by decide +kernel
theorem dX14_deeper_20 : decode cX14_deeper 20 = .ok (.putfield 136, 3) := by decide +kernel
theorem dX14_deeper_23 : decode cX14_deeper 23 = .ok (.return_, 1) := by decide +kernel
theorem dX14_name_0 : decode cX14_name 0 = .ok (.aload_n 0, 1) := by decide +kernel
theorem dX14_name_1 : decode cX14_name 1 = .ok (.invokevirtual 119, 3) := by decide +kernel
theorem dX14_name_4 : decode cX14_name 4 = .ok (.ifCond .eq 33, 3) := by decide +kernel
theorem dX14_name_7 : decode cX14_name 7 = .ok (.aload_n 0, 1) := by decide +kernel
theorem dX14_name_8 : decode cX14_name 8 = .ok (.getfield 17, 3) := by decide +kernel
theorem dX14_name_11 : decode cX14_name 11 = .ok (.aload_n 0, 1) := by decide +kernel
theorem dX14_name_12 : decode cX14_name 12 = .ok (.getfield 116, 3) := by decide +kernel
theorem dX14_name_15 : decode cX14_name 15 = .ok (.iaload, 1) := by decide +kernel
theorem dX14_name_16 : decode cX14_name 16 = .ok (.iconst 1, 1) := by decide +kernel
theorem dX14_name_17 : decode cX14_name 17 = .ok (.if_icmp .ne 20, 3) := by decide +kernel
theorem dX14_name_20 : decode cX14_name 20 = .ok (.aload_n 0, 1) := by decide +kernel
theorem dX14_name_21 : decode cX14_name 21 = .ok (.dup, 1) := by decide +kernel
theorem dX14_name_22 : decode cX14_name 22 = .ok (.getfield 116, 3) := by decide +kernel
theorem dX14_name_25 : decode cX14_name 25 = .ok (.iconst 1, 1) := by decide +kernel
theorem dX14_name_26 : decode cX14_name 26 = .ok (.iadd, 1) := by decide +kernel
theorem dX14_name_27 : decode cX14_name 27 = .ok (.putfield 116, 3) := by decide +kernel
theorem dX14_name_30 : decode cX14_name 30 = .ok (.aload_n 0, 1) := by decide +kernel
theorem dX14_name_31 : decode cX14_name 31 = .ok (.getfield 116, 3) := by decide +kernel
theorem dX14_name_34 : decode cX14_name 34 = .ok (.iconst 1, 1) := by decide +kernel
theorem dX14_name_35 : decode cX14_name 35 = .ok (.isub, 1) := by decide +kernel
theorem dX14_name_36 : decode cX14_name 36 = .ok (.ireturn, 1) := by decide +kernel
theorem dX14_name_37 : decode cX14_name 37 = .ok (.aload_n 0, 1) := by decide +kernel
theorem dX14_name_38 : decode cX14_name 38 = .ok (.invokevirtual 127, 3) := by decide +kernel
theorem dX14_name_41 : decode cX14_name 41 = .ok (.iconst 0, 1) := by decide +kernel
theorem dX14_name_42 : decode cX14_name 42 = .ok (.ireturn, 1) := by decide +kernel
/-! the reference's reader: names, numbers, depth, nodes -/
def pNu (T : Toks) (lo hi : Int32) (s : PS) : PS := pEx T 259 (if pK T s = 259 ∧ (pV T s < lo.toInt64 ∨ hi.toInt64 < pV T s) then pBl T 5 s else s)
section Pn
variable {G : Gp} {S : AMem} {I I1 : Nat → Nat → Int32} {J : Nat → Nat → Int64} {R : Nat → Nat → Option Nat} {y bl nx : Nat} {T : Toks} {ix : Int32 → Int64 → Int32} {N : Nat × Nat × Nat} {s s1 : PS × Cd} {dep a k : Nat}
/-- once it has failed, only where it failed counts -/
theorem PC.fl (h : PC I y nx T ix N s dep a k) (h1 : s.1.2.1 = 1) (e : s1.1 = s.1) : PC I y nx T ix N s1 dep a k := by
  obtain ⟨q1, q2, q3 | q3⟩ := h
  · exact ⟨q1, q2, Or.inl (by rw [e]; exact q3)⟩
  · exact absurd h1 q3.1
theorem PC.fmv {dep1 a1 k1 : Nat} (hC : MCc S R y bl nx) (h : PC I y nx T ix N s dep a k) (h1 : s.1.2.1 = 1) (fr : ∀ x j, (x = y → j ≠ 13 ∧ j ≠ 14) → (x = nx → j ≠ 10) → (x < nx + 6 ∨ nx + 8 < x) → I1 x j = I x j) (e13 : I1 y 13 = nI a1) (ha : a1 ≤ T.n) (e10 : I1 nx 10 = nI k1) (hk : k1 ≤ a1) (e14 : I1 y 14 = nI dep1) : PC I1 y nx T ix N s dep1 a1 k1 := by
  obtain ⟨p1, p2, p3, p4, p5⟩ := hC.lo
  obtain ⟨q1, q2, ⟨_, tk, t1, t2⟩ | q3⟩ := h
  · exact ⟨q1.cg (fun x j p q => fr x j (by omega) (by omega) (by omega)), ⟨e13, ha, e10, hk, e14⟩, Or.inl ⟨h1, tk, (fr _ _ (by omega) (by omega) (by omega)).trans t1, t2⟩⟩
  · exact absurd h1 q3.1
/-- the depth alone -/
theorem PC.dp {dep1 : Nat} (hC : MCc S R y bl nx) (h : PC I y nx T ix N s dep a k) (e : ∀ x j, I1 x j = if x = y ∧ j = 14 then nI dep1 else I x j) : PC I1 y nx T ix N s dep1 a k ∧ OffM y nx k I I1 := by
  obtain ⟨p1, p2, p3, p4, p5⟩ := hC.lo
  refine ⟨?_, fun x j p q r => by rw [e, if_neg (fun z => by have := p z.1; omega)]⟩
  obtain ⟨hT, ⟨h1, h2, h3, h4, h5⟩, ⟨g0, tk, g1, g2⟩ | ⟨g0, g1, g2, g3, g4, g5, g6, a1, a2, a3, mr, mf, mp, g7, g8⟩⟩ := h
  · exact ⟨hT.cg (fun x j p q => by rw [e, if_neg (by omega)]), ⟨by rw [e, if_neg (by omega)]; exact h1, h2, by rw [e, if_neg (by omega)]; exact h3, h4, by rw [e, if_pos ⟨rfl, rfl⟩]⟩, Or.inl ⟨g0, tk, by rw [e, if_neg (by omega)]; exact g1, g2⟩⟩
  · exact ⟨hT.cg (fun x j p q => by rw [e, if_neg (by omega)]), ⟨by rw [e, if_neg (by omega)]; exact h1, h2, by rw [e, if_neg (by omega)]; exact h3, h4, by rw [e, if_pos ⟨rfl, rfl⟩]⟩, Or.inr ⟨g0, by rw [e, if_neg (by omega)]; exact g1, g2, g3, by rw [e, if_neg (by omega)]; exact g4, fun z => by
      obtain ⟨tk, t1, t2, t3⟩ := g5 z
      exact ⟨tk, t1, by rw [e, if_neg (by omega)]; exact t2, t3⟩, g6, a1, a2, a3, mr, mf, mp, g7.cg (fun j hj => by rw [e, if_neg (by omega)]) (fun x j p q => by rw [e, if_neg (by omega)]), g8⟩⟩
/-- a token is blamed and eaten -/
theorem PC.told {kk n : Int32} (hC : MCc S R y bl nx) (h : PC I y nx T ix N s dep a k) (h0 : s.1.2.1 = 0) (hp : pK T s.1 = kk) (h6 : kk ≠ 256) (h7 : kk ≠ 257) (n0 : n ≠ 0) (n1 : n ≠ 1) (e : ∀ x j, I1 x j = if x = y ∧ j = 13 then nI (a + 1) else if x = y ∧ j = 16 then n else if x = y ∧ j = 17 then nI a else I x j) : PC I1 y nx T ix N (eEx T kk (pBl T n s.1, s.2)) dep (a + 1) k ∧ OffM y nx k I I1 := by
  obtain ⟨p1, p2, p3, p4, p5⟩ := hC.lo
  have hg : s.1.2.1 ≠ 1 := by rw [h0]; decide
  obtain ⟨e1, e2, e3⟩ := h.kind hg
  have hn1 : a + 1 < T.n := by
    have := (h.1.2.2.2.1 a e2)
    have hne : ¬ (T.k a = 256 ∨ T.k a = 257) := by
      rw [← e1, hp]
      exact fun q => q.elim h6 h7
    have h3 : a + 1 ≠ T.n := fun q => hne (this.mpr q)
    omega
  have eb : pBl T n s.1 = (s.1.1, n, T.s s.1.1) := by
    unfold pBl
    rw [if_pos h0]
  have ee : eEx T kk (pBl T n s.1, s.2) = ((s.1.1 + 1, n, T.s s.1.1), s.2) := by
    unfold eEx pEx
    rw [eb, if_pos]
    unfold pK
    rw [if_neg n1, ← e3, ← e1, hp]
  obtain ⟨hT, ⟨h1, h2, h3, h4, h5⟩, q | ⟨g0, g1, g2, g3, g4, g5, g6, a1, a2, a3, mr, mf, mp, g7, g8⟩⟩ := h
  · exact absurd q.1 hg
  · refine ⟨⟨hT.cg (fun x j p q => by rw [e, if_neg (by omega), if_neg (by omega), if_neg (by omega)]), ⟨by rw [e, if_pos ⟨rfl, rfl⟩], by omega, by rw [e, if_neg (by omega), if_neg (by omega), if_neg (by omega)]; exact h3, by omega, by rw [e, if_neg (by omega), if_neg (by omega), if_neg (by omega)]; exact h5⟩, Or.inr ?_⟩, fun x j p q r => by rw [e, if_neg (fun z => by have := p z.1; omega), if_neg (fun z => by have := p z.1; omega), if_neg (fun z => by have := p z.1; omega)]⟩
    rw [ee]
    exact ⟨n1, by rw [e, if_neg (by omega), if_neg (by omega), if_neg (by omega)]; exact g1, by rw [g2], hn1, by rw [e, if_neg (by omega), if_pos ⟨rfl, rfl⟩], fun _ => ⟨a, Nat.lt_succ_self _, by rw [e, if_neg (by omega), if_neg (by omega), if_pos ⟨rfl, rfl⟩], by rw [← e3]⟩, fun q => absurd q n0, a1, a2, a3, mr, mf, mp, g7.cg (fun j hj => by rw [e, if_neg (by omega), if_neg (by omega), if_neg (by omega)]) (fun x j p q => by rw [e, if_neg (by omega), if_neg (by omega), if_neg (by omega)]), fun q => absurd q n0⟩
/-- an error is told at the token where the reader stands -/
theorem k_tel {n : Int32} (hC : MCc S R y bl nx) (h : PC I y nx T ix N s dep a k) (hg : s.1.2.1 ≠ 1) (h16 : I1 y 16 = I y 16) (h17 : I1 y 17 = I y 17) : Fn G mX14_tell 0 [vR y, vI n, vI (nI a)] (mw S I1 J R) (fun rr M1 => rr = none ∧ M1 = mw S (if s.1.2.1 = 0 then up2 (up2 I1 y 16 n) y 17 (nI a) else I1) J R) := by
  refine MW.weaken (k_X14_tell hC.1.1) ?_
  rintro f M1 ⟨r, e1, e2, e3, e4⟩
  refine ⟨r, e1, e2, ?_⟩
  have hn := h.1.2.1
  have ha := h.2.1.2.1
  obtain ⟨_, _, q | ⟨g0, g1, g2, g3, g4, g5, _⟩⟩ := h
  · exact absurd q.1 hg
  · by_cases c : s.1.2.1 = 0
    · rw [if_pos c]
      exact e4 (fun q => q.1 (by rw [h16, g4, c]))
    · rw [if_neg c]
      obtain ⟨tk, t1, t2, _⟩ := g5 c
      refine e3 ⟨by rw [h16, g4]; exact c, Or.inl ?_⟩
      rw [h17, t2]
      exact fun q => by have := (nI_eq (by omega) (by omega)).mp q; omega
theorem k_X14_name (hG : okG G) (hC : MCc S R y bl nx) (h : PC I y nx T ix N s dep a k) : Fn G mX14_name 1 [vR y] (mw S I J R) (fun rr M1 => (pK T s.1 = 258 ∧ s.1.2.1 ≠ 1 ∧ rr = some (vI (nI a)) ∧ M1 = mw S (up2 I y 13 (nI (a + 1))) J R) ∨ (pK T s.1 ≠ 258 ∧ rr = some (vI 0) ∧ ∃ I1, M1 = mw S I1 J R ∧ PC I1 y nx T ix N (eRef T s) dep a k ∧ OffM y nx k I I1)) := by
  have ky := hC.1.1
  obtain ⟨q4, q5, _, _, ⟨k2, l2⟩, ⟨k3, l3⟩, _⟩ := id hC.2.2.2.2.2.2.2.2.2
  have h13 := h.2.1.1
  have bad : pK T s.1 ≠ 258 → MW G mX14_name 1 37 [some (vR y)] [] (mw S I J R) (fun f M1 => ∃ rr, f = .inl rr ∧ ((pK T s.1 = 258 ∧ s.1.2.1 ≠ 1 ∧ rr = some (vI (nI a)) ∧ M1 = mw S (up2 I y 13 (nI (a + 1))) J R) ∨ (pK T s.1 ≠ 258 ∧ rr = some (vI 0) ∧ ∃ I1, M1 = mw S I1 J R ∧ PC I1 y nx T ix N (eRef T s) dep a k ∧ OffM y nx k I I1))) := by
    intro hb
    have hb2 : pK T s.1 ≠ 258 ∧ True := ⟨hb, trivial⟩
    clear hb
    refine am_aload_n (q := 38) dX14_name_37 rfl rfl ?_
    refine cm_call0 (q := 41) (As := []) hG dX14_name_38 mlX14_127 rfl (by assumption) ⟨_, _, rfl⟩ (Nat.le_of_ble_eq_true rfl) (Nat.le_of_ble_eq_true rfl) (Nat.le_of_ble_eq_true rfl) (Nat.le_of_ble_eq_true rfl) (k_X14_fail hC h) rfl ?_
    rintro _ _ ⟨rfl, I1, rfl, g1, g2⟩
    refine am_iconst (q := 42) (v := 0) dX14_name_41 kc_i0 rfl ?_
    exact am_iret dX14_name_42 rfl rfl ⟨_, rfl, Or.inr ⟨hb2.1, rfl, I1, rfl, g1, g2⟩⟩
  refine am_aload_n (q := 1) dX14_name_0 rfl rfl ?_
  refine cm_call0 (q := 4) (As := []) hG dX14_name_1 mlX14_119 rfl (by assumption) ⟨_, _, rfl⟩ (Nat.le_of_ble_eq_true rfl) (Nat.le_of_ble_eq_true rfl) (Nat.le_of_ble_eq_true rfl) (Nat.le_of_ble_eq_true rfl) (k_X14_isOk hC h) rfl ?_
  rintro _ _ ⟨rfl, rfl⟩
  by_cases hg : s.1.2.1 = 1
  · have b := bad (by unfold pK; rw [if_pos hg]; decide)
    rw [bI_f (fun q => q hg)]
    clear hg
    refine am_if_eq (tgt := 37) (q := 7) dX14_name_4 rfl rfl (fun _ => ?_) (fun hz => absurd rfl hz)
    exact b
  · obtain ⟨e1, e2, e3⟩ := h.kind hg
    obtain ⟨i2, i3, sr, ca⟩ := h.sort hC e2
    have iff := srt_one (w := 1) (q0 := 258) sr (Or.inl ⟨rfl, rfl⟩)
    rw [bI_t hg]
    have hz : s.1.2.1 ≠ 1 ∧ pK T s.1 = T.k a := ⟨hg, e1⟩
    clear hg e1 e3
    refine am_if_eq (tgt := 37) (q := 7) dX14_name_4 rfl rfl (fun hz => absurd hz (by decide)) (fun _ => ?_)
    refine am_aload_n (q := 8) dX14_name_7 rfl rfl ?_
    refine cm_getR (q := 11) dX14_name_8 flX14_17 rfl (by assumption) (by assumption) rfl ?_
    refine am_aload_n (q := 12) dX14_name_11 rfl rfl ?_
    refine cm_getI (q := 15) dX14_name_12 flX14_116 rfl (by assumption) rfl ?_
    rw [h13]
    refine cm_iaload (q := 16) dX14_name_15 (by assumption) i2 rfl ?_
    rw [ca]
    by_cases c : I (y + 2) a = 1
    · refine am_iconst (q := 17) (v := 1) dX14_name_16 kc_i1 rfl ?_
      refine am_icmp_ne (tgt := 37) (q := 20) dX14_name_17 rfl rfl (fun hz => absurd c hz) (fun _ => ?_)
      refine am_aload_n (q := 21) dX14_name_20 rfl rfl ?_
      refine am_dup (q := 22) dX14_name_21 rfl rfl ?_
      refine cm_getI (q := 25) dX14_name_22 flX14_116 rfl (by assumption) rfl ?_
      rw [h13]
      refine am_iconst (q := 26) (v := 1) dX14_name_25 kc_i1 rfl ?_
      refine am_iadd (q := 27) dX14_name_26 rfl ?_
      refine cm_putI (q := 30) dX14_name_27 flX14_116 rfl (Or.inl rfl) (Or.inl rfl) (by assumption) rfl ?_
      refine am_aload_n (q := 31) dX14_name_30 rfl rfl ?_
      refine cm_getI (q := 34) dX14_name_31 flX14_116 rfl (by assumption) rfl ?_
      rw [nI_1, up2_s]
      refine am_iconst (q := 35) (v := 1) dX14_name_34 kc_i1 rfl ?_
      refine am_isub (q := 36) dX14_name_35 rfl ?_
      rw [nI_pred]
      exact am_iret dX14_name_36 rfl rfl ⟨_, rfl, Or.inl ⟨hz.2.trans (iff.mp c), hz.1, rfl, rfl⟩⟩
    · have b := bad (fun q => c (iff.mpr (hz.2.symm.trans q)))
      refine am_iconst (q := 17) (v := 1) dX14_name_16 kc_i1 rfl ?_
      refine am_icmp_ne (tgt := 37) (q := 20) dX14_name_17 rfl rfl (fun _ => ?_) (fun hz => absurd hz c)
      exact b
theorem k_X14_deeper (hG : okG G) (hC : MCc S R y bl nx) (h : PC I y nx T ix N s dep a k) (hd : dep < 1000) : Fn G mX14_deeper 1 [vR y] (mw S I J R) (fun rr M1 => rr = none ∧ ∃ I1, M1 = mw S I1 J R ∧ PC I1 y nx T ix N (if dep = 8 then eRef T s else s) (dep + 1) a k ∧ OffM y nx k I I1) := by
  have ky := hC.1.1
  have h14 := h.2.1.2.2.2.2
  have fin : ∀ (I1 : Nat → Nat → Int32) (s1 : PS × Cd), PC I1 y nx T ix N s1 dep a k → OffM y nx k I I1 → MW G mX14_deeper 1 13 [some (vR y)] [] (mw S I1 J R) (fun f M1 => ∃ rr, f = .inl rr ∧ (rr = none ∧ ∃ I1, M1 = mw S I1 J R ∧ PC I1 y nx T ix N s1 (dep + 1) a k ∧ OffM y nx k I I1)) := by
    intro I1 s1 g1 g2
    have e14 := g1.2.1.2.2.2.2
    refine am_aload_n (q := 14) dX14_deeper_13 rfl rfl ?_
    refine am_dup (q := 15) dX14_deeper_14 rfl rfl ?_
    refine cm_getI (q := 18) dX14_deeper_15 flX14_136 rfl (by assumption) rfl ?_
    rw [e14]
    refine am_iconst (q := 19) (v := 1) dX14_deeper_18 kc_i1 rfl ?_
    refine am_iadd (q := 20) dX14_deeper_19 rfl ?_
    refine cm_putI (q := 23) dX14_deeper_20 flX14_136 rfl (Or.inl rfl) (Or.inl rfl) (by assumption) rfl ?_
    rw [nI_1]
    obtain ⟨g3, g4⟩ := g1.dp (dep1 := dep + 1) (I1 := up2 I1 y 14 (nI (dep + 1))) hC (fun x j => up2_at _ _)
    exact am_ret dX14_deeper_23 rfl ⟨_, rfl, rfl, _, rfl, g3, g2.tr g4 (Nat.le_refl _)⟩
  refine am_aload_n (q := 1) dX14_deeper_0 rfl rfl ?_
  refine cm_getI (q := 4) dX14_deeper_1 flX14_136 rfl (by assumption) rfl ?_
  rw [h14]
  by_cases c : dep = 8
  · rw [if_pos c]
    subst c
    refine am_bipush (q := 6) (v := 8) dX14_deeper_4 kc_b8 rfl ?_
    refine am_icmp_ne (tgt := 13) (q := 9) dX14_deeper_6 rfl rfl (fun hz => absurd rfl hz) (fun _ => ?_)
    refine am_aload_n (q := 10) dX14_deeper_9 rfl rfl ?_
    refine cm_call0 (q := 13) (As := []) hG dX14_deeper_10 mlX14_127 rfl (by assumption) ⟨_, _, rfl⟩ (Nat.le_of_ble_eq_true rfl) (Nat.le_of_ble_eq_true rfl) (Nat.le_of_ble_eq_true rfl) (Nat.le_of_ble_eq_true rfl) (k_X14_fail hC h) rfl ?_
    rintro _ _ ⟨rfl, I1, rfl, g1, g2⟩
    exact fin I1 _ g1 g2
  · rw [if_neg c]
    refine am_bipush (q := 6) (v := 8) dX14_deeper_4 kc_b8 rfl ?_
    refine am_icmp_ne (tgt := 13) (q := 9) dX14_deeper_6 rfl rfl (fun _ => ?_) (fun hz => absurd hz (k_ne (b := 8) hd (by decide) c))
    exact fin I s h OffM.rf
end Pn

