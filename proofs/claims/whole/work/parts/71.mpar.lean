theorem dX14_fail_0 : decode cX14_fail 0 = .ok (.aload_n 0, 1) := by decide +kernel
theorem dX14_fail_1 : decode cX14_fail 1 = .ok (.getfield 113, 3) := by decide +kernel
theorem dX14_fail_4 : decode cX14_fail 4 = .ok (.iconst (-1), 1) := by decide +kernel
theorem dX14_fail_5 : decode cX14_fail 5 = .ok (.if_icmp .ne 11, 3) := by decide +kernel
theorem dX14_fail_8 : decode cX14_fail 8 = .ok (.aload_n 0, 1) := by decide +kernel
theorem dX14_fail_9 : decode cX14_fail 9 = .ok (.aload_n 0, 1) := by decide +kernel
theorem dX14_fail_10 : decode cX14_fail 10 = .ok (.getfield 116, 3) := by decide +kernel
theorem dX14_fail_13 : decode cX14_fail 13 = .ok (.putfield 113, 3) := by decide +kernel
theorem dX14_fail_16 : decode cX14_fail 16 = .ok (.return_, 1) := by decide +kernel
theorem dX14_is_0 : decode cX14_is 0 = .ok (.aload_n 0, 1) := by decide +kernel
theorem dX14_is_1 : decode cX14_is 1 = .ok (.invokevirtual 119, 3) := by decide +kernel
theorem dX14_is_4 : decode cX14_is 4 = .ok (.ifCond .eq 33, 3) := by decide +kernel
theorem dX14_is_7 : decode cX14_is 7 = .ok (.aload_n 0, 1) := by decide +kernel
theorem dX14_is_8 : decode cX14_is 8 = .ok (.getfield 17, 3) := by decide +kernel
theorem dX14_is_11 : decode cX14_is 11 = .ok (.aload_n 0, 1) := by decide +kernel
theorem dX14_is_12 : decode cX14_is 12 = .ok (.getfield 116, 3) := by decide +kernel
theorem dX14_is_15 : decode cX14_is 15 = .ok (.iaload, 1) := by decide +kernel
theorem dX14_is_16 : decode cX14_is 16 = .ok (.iload_n 1, 1) := by decide +kernel
theorem dX14_is_17 : decode cX14_is 17 = .ok (.if_icmp .ne 20, 3) := by decide +kernel
theorem dX14_is_20 : decode cX14_is 20 = .ok (.aload_n 0, 1) := by decide +kernel
theorem dX14_is_21 : decode cX14_is 21 = .ok (.getfield 20, 3) := by decide +kernel
theorem dX14_is_24 : decode cX14_is 24 = .ok (.aload_n 0, 1) := by decide +kernel
theorem dX14_is_25 : decode cX14_is 25 = .ok (.getfield 116, 3) := by decide +kernel
theorem dX14_is_28 : decode cX14_is 28 = .ok (.iaload, 1) := by decide +kernel
theorem dX14_is_29 : decode cX14_is 29 = .ok (.iload_n 2, 1) := by decide +kernel
theorem dX14_is_30 : decode cX14_is 30 = .ok (.if_icmp .ne 7, 3) := by decide +kernel
theorem dX14_is_33 : decode cX14_is 33 = .ok (.iconst 1, 1) := by decide +kernel
theorem dX14_is_34 : decode cX14_is 34 = .ok (.goto 4, 3) := by decide +kernel
theorem dX14_is_37 : decode cX14_is 37 = .ok (.iconst 0, 1) := by decide +kernel
theorem dX14_is_38 : decode cX14_is 38 = .ok (.ireturn, 1) := by decide +kernel
theorem dX14_isOk_0 : decode cX14_isOk 0 = .ok (.aload_n 0, 1) := by decide +kernel
theorem dX14_isOk_1 : decode cX14_isOk 1 = .ok (.getfield 113, 3) := by decide +kernel
theorem dX14_isOk_4 : decode cX14_isOk 4 = .ok (.iconst (-1), 1) := by decide +kernel
theorem dX14_isOk_5 : decode cX14_isOk 5 = .ok (.if_icmp .ne 7, 3) := by decide +kernel
theorem dX14_isOk_8 : decode cX14_isOk 8 = .ok (.iconst 1, 1) := by decide +kernel
theorem dX14_isOk_9 : decode cX14_isOk 9 = .ok (.goto 4, 3) := by decide +kernel
theorem dX14_isOk_12 : decode cX14_isOk 12 = .ok (.iconst 0, 1) := by decide +kernel
theorem dX14_isOk_13 : decode cX14_isOk 13 = .ok (.ireturn, 1) := by decide +kernel
theorem dX14_take_0 : decode cX14_take 0 = .ok (.aload_n 0, 1) := by decide +kernel
theorem dX14_take_1 : decode cX14_take 1 = .ok (.iload_n 1, 1) := by decide +kernel
theorem dX14_take_2 : decode cX14_take 2 = .ok (.iload_n 2, 1) := by decide +kernel
theorem dX14_take_3 : decode cX14_take 3 = .ok (.invokevirtual 123, 3) := by decide +kernel
theorem dX14_take_6 : decode cX14_take 6 = .ok (.ifCond .eq 16, 3) := by decide +kernel
theorem dX14_take_9 : decode cX14_take 9 = .ok (.aload_n 0, 1) := by decide +kernel
theorem dX14_take_10 : decode cX14_take 10 = .ok (.dup, 1) := by decide +kernel
theorem dX14_take_11 : decode cX14_take 11 = .ok (.getfield 116, 3) := by decide +kernel
theorem dX14_take_14 : decode cX14_take 14 = .ok (.iconst 1, 1) := by decide +kernel
theorem dX14_take_15 : decode cX14_take 15 = .ok (.iadd, 1) := by decide +kernel
theorem dX14_take_16 : decode cX14_take 16 = .ok (.putfield 116, 3) := by decide +kernel
theorem dX14_take_19 : decode cX14_take 19 = .ok (.goto 7, 3) := by decide +kernel
theorem dX14_take_22 : decode cX14_take 22 = .ok (.aload_n 0, 1) := by decide +kernel
theorem dX14_take_23 : decode cX14_take 23 = .ok (.invokevirtual 127, 3) := by decide +kernel
theorem dX14_take_26 : decode cX14_take 26 = .ok (.return_, 1) := by decide +kernel
theorem dX14_tell_0 : decode cX14_tell 0 = .ok (.aload_n 0, 1) := by decide +kernel
theorem dX14_tell_1 : decode cX14_tell 1 = .ok (.getfield 130, 3) := by decide +kernel
theorem dX14_tell_4 : decode cX14_tell 4 = .ok (.ifCond .eq 20, 3) := by decide +kernel
theorem dX14_tell_7 : decode cX14_tell 7 = .ok (.aload_n 0, 1) := by decide +kernel
theorem dX14_tell_8 : decode cX14_tell 8 = .ok (.getfield 133, 3) := by decide +kernel
theorem dX14_tell_11 : decode cX14_tell 11 = .ok (.iload_n 2, 1) := by decide +kernel
theorem dX14_tell_12 : decode cX14_tell 12 = .ok (.if_icmp .ne 11, 3) := by decide +kernel
theorem dX14_tell_15 : decode cX14_tell 15 = .ok (.aload_n 0, 1) := by decide +kernel
theorem dX14_tell_16 : decode cX14_tell 16 = .ok (.getfield 130, 3) := by decide +kernel
theorem dX14_tell_19 : decode cX14_tell 19 = .ok (.iload_n 1, 1) := by decide +kernel
theorem dX14_tell_20 : decode cX14_tell 20 = .ok (.if_icmp .gt 4, 3) := by decide +kernel
theorem dX14_tell_23 : decode cX14_tell 23 = .ok (.return_, 1) := by decide +kernel
theorem dX14_tell_24 : decode cX14_tell 24 = .ok (.aload_n 0, 1) := by decide +kernel
theorem dX14_tell_25 : decode cX14_tell 25 = .ok (.iload_n 1, 1) := by decide +kernel
theorem dX14_tell_26 : decode cX14_tell 26 = .ok (.putfield 130, 3) := by decide +kernel
theorem dX14_tell_29 : decode cX14_tell 29 = .ok (.aload_n 0, 1) := by decide +kernel
theorem dX14_tell_30 : decode cX14_tell 30 = .ok (.iload_n 2, 1) := by decide +kernel
theorem dX14_tell_31 : decode cX14_tell 31 = .ok (.putfield 133, 3) := by decide +kernel
theorem dX14_tell_34 : decode cX14_tell 34 = .ok (.return_, 1) := by decide +kernel
/-! the reference's reader against the class's -/
def NmM (I : Nat → Nat → Int32) (y nx : Nat) (T : Toks) (a1 a2 a3 : Nat) (mr mf mp : Nat → Int64) : Prop := (I nx 0 = nI a1 ∧ a1 ≤ 4) ∧ (I nx 2 = nI a2 ∧ a2 ≤ 8) ∧ (I nx 3 = nI a3 ∧ a3 ≤ 8) ∧ (∀ l, l < a1 → ∃ t, I (y + 24) l = nI t ∧ t < T.n ∧ T.k t = 258 ∧ T.v t = mr l) ∧ (∀ l, l < a2 → ∃ t, I (y + 25) l = nI t ∧ t < T.n ∧ T.k t = 258 ∧ T.v t = mf l) ∧ ∀ l, l < a3 → ∃ t, I (y + 26) l = nI t ∧ t < T.n ∧ T.k t = 258 ∧ T.v t = mp l
/-- names are found as the class finds them -/
def NmA (ix : Int32 → Int64 → Int32) (N : Nat × Nat × Nat) (a1 a2 a3 : Nat) (mr mf mp : Nat → Int64) : Prop := (∀ v, ix 324 v = fndJ mr v 0 a1 ∧ ix 322 v = fndJ mf v 0 a2 ∧ ix 323 v = fndJ mf v 0 a2 ∧ ix 325 v = fndJ mp v 0 a3) ∧ N = (a1, a2, a3)
/-- not failed -/
def PG (I : Nat → Nat → Int32) (y nx : Nat) (T : Toks) (ix : Int32 → Int64 → Int32) (N : Nat × Nat × Nat) (s : PS × Cd) (at' k : Nat) : Prop :=
  I y 15 = -1 ∧ at' = s.1.1 ∧ at' < T.n ∧ I y 16 = s.1.2.1 ∧ (s.1.2.1 ≠ 0 → ∃ tk, tk < at' ∧ I y 17 = nI tk ∧ T.s tk = s.1.2.2) ∧ (s.1.2.1 = 0 → s.1.2.2 = -1 ∧ k = s.2.length) ∧ ∃ a1 a2 a3 mr mf mp, NmM I y nx T a1 a2 a3 mr mf mp ∧ (s.1.2.1 = 0 → NmA ix N a1 a2 a3 mr mf mp)
def PC (I : Nat → Nat → Int32) (y nx : Nat) (T : Toks) (ix : Int32 → Int64 → Int32) (N : Nat × Nat × Nat) (s : PS × Cd) (dep at' k : Nat) : Prop :=
  MTk I y T ∧ (I y 13 = nI at' ∧ at' ≤ T.n ∧ I nx 10 = nI k ∧ k ≤ at' ∧ I y 14 = nI dep) ∧ ((s.1.2.1 = 1 ∧ ∃ tk, I y 15 = nI tk ∧ tk < T.n ∧ T.s tk = s.1.2.2) ∨ (s.1.2.1 ≠ 1 ∧ PG I y nx T ix N s at' k))
/-- nothing but the reader's place, depth, error, and nodes from k on has changed -/
def OffM (y nx k : Nat) (I I1 : Nat → Nat → Int32) : Prop := ∀ x j, (x = y → (j < 13 ∨ 17 < j)) → (x = nx → j ≠ 10) → ((x = nx + 6 ∨ x = nx + 7 ∨ x = nx + 8) → j < k) → I1 x j = I x j
theorem OffM.rf {y nx k : Nat} {I : Nat → Nat → Int32} : OffM y nx k I I := fun _ _ _ _ _ => rfl
theorem OffM.tr {y nx k k1 : Nat} {I I1 I2 : Nat → Nat → Int32} (h1 : OffM y nx k I I1) (h2 : OffM y nx k1 I1 I2) (hk : k ≤ k1) : OffM y nx k I I2 := fun x j p q r => (h2 x j p q (fun z => Nat.lt_of_lt_of_le (r z) hk)).trans (h1 x j p q r)
section Pm
variable {G : Gp} {S : AMem} {I I1 : Nat → Nat → Int32} {J : Nat → Nat → Int64} {R : Nat → Nat → Option Nat} {y bl nx : Nat} {T : Toks} {ix : Int32 → Int64 → Int32} {N : Nat × Nat × Nat} {s : PS × Cd} {dep a k : Nat}
theorem NmM.cg {a1 a2 a3 : Nat} {mr mf mp : Nat → Int64} (h : NmM I y nx T a1 a2 a3 mr mf mp) (hx : ∀ j, j < 10 → I1 nx j = I nx j) (hn : ∀ x j, y + 24 ≤ x → x ≤ y + 26 → I1 x j = I x j) : NmM I1 y nx T a1 a2 a3 mr mf mp := by
  obtain ⟨⟨h1, h2⟩, ⟨h3, h4⟩, ⟨h5, h6⟩, h7, h8, h9⟩ := h
  refine ⟨⟨(hx _ (by decide)).trans h1, h2⟩, ⟨(hx _ (by decide)).trans h3, h4⟩, ⟨(hx _ (by decide)).trans h5, h6⟩, fun l hl => ?_, fun l hl => ?_, fun l hl => ?_⟩
  · rw [hn _ _ (by omega) (by omega)]; exact h7 l hl
  · rw [hn _ _ (by omega) (by omega)]; exact h8 l hl
  · rw [hn _ _ (by omega) (by omega)]; exact h9 l hl
/-- the kind of the token that stands next -/
theorem PC.kind (h : PC I y nx T ix N s dep a k) (hg : s.1.2.1 ≠ 1) : pK T s.1 = T.k a ∧ a < T.n ∧ a = s.1.1 := by
  obtain ⟨_, _, q | ⟨_, h15, h1, h2, _⟩⟩ := h
  · exact absurd q.1 hg
  · refine ⟨?_, h2, h1⟩
    unfold pK
    rw [if_neg hg, h1]
theorem k_X14_isOk (hC : MCc S R y bl nx) (h : PC I y nx T ix N s dep a k) : Fn G mX14_isOk 0 [vR y] (mw S I J R) (fun rr M1 => rr = some (vI (bI (s.1.2.1 ≠ 1))) ∧ M1 = mw S I J R) := by
  have ky := hC.1.1
  obtain ⟨hT, ⟨_, h2, _, _, _⟩, ⟨e1, tk, t1, t2, _⟩ | ⟨e1, h15, _⟩⟩ := h
  · have hn : T.n ≤ 401 := hT.2.1
    refine am_aload_n (q := 1) dX14_isOk_0 rfl rfl ?_
    refine cm_getI (q := 4) dX14_isOk_1 flX14_113 rfl (by assumption) rfl ?_
    rw [t1, bI_f (fun q => q e1)]
    refine am_iconst (q := 5) (v := (-1)) dX14_isOk_4 kc_im1 rfl ?_
    refine am_icmp_ne (tgt := 12) (q := 8) dX14_isOk_5 rfl rfl (fun _ => ?_) (fun hz => absurd hz (fun q => by have := nI_pos (n := tk) (by omega); rw [q] at this; exact this (by decide)))
    refine am_iconst (q := 13) (v := 0) dX14_isOk_12 kc_i0 rfl ?_
    exact am_iret dX14_isOk_13 rfl rfl ⟨_, rfl, rfl, rfl⟩
  · refine am_aload_n (q := 1) dX14_isOk_0 rfl rfl ?_
    refine cm_getI (q := 4) dX14_isOk_1 flX14_113 rfl (by assumption) rfl ?_
    rw [h15, bI_t e1]
    refine am_iconst (q := 5) (v := (-1)) dX14_isOk_4 kc_im1 rfl ?_
    refine am_icmp_ne (tgt := 12) (q := 8) dX14_isOk_5 rfl rfl (fun hz => absurd rfl hz) (fun _ => ?_)
    refine am_iconst (q := 9) (v := 1) dX14_isOk_8 kc_i1 rfl ?_
    refine am_goto (tgt := 13) dX14_isOk_9 rfl ?_
    exact am_iret dX14_isOk_13 rfl rfl ⟨_, rfl, rfl, rfl⟩
theorem PC.sort (hC : MCc S R y bl nx) (h : PC I y nx T ix N s dep a k) (ha : a < T.n) : vp_in (nI a) (S.ln (y + 2)) ∧ vp_in (nI a) (S.ln (y + 3)) ∧ srt (T.k a) (I (y + 2) a) (I (y + 3) a) (T.v a) ∧ (nI a).toNatClampNeg = a := by
  obtain ⟨_, _, _, _, ⟨_, l2⟩, ⟨_, l3⟩, _⟩ := hC.2.2.2.2.2.2.2.2.2
  have hn : T.n ≤ 401 := h.1.2.1
  exact ⟨by rw [l2]; exact vp_in_nI (by omega) (by decide), by rw [l3]; exact vp_in_nI (by omega) (by decide), (h.1.2.2.1 a ha).1, nI_clamp (by omega)⟩
theorem k_X14_is {w o kk : Int32} (hG : okG G) (hC : MCc S R y bl nx) (h : PC I y nx T ix N s dep a k) (hk7 : kk ≠ 257) (hq : ∀ so va k v, srt k so va v → ((so = w ∧ va = o) ↔ k = kk)) : Fn G mX14_is 1 [vR y, vI w, vI o] (mw S I J R) (fun rr M1 => rr = some (vI (bI (pK T s.1 = kk))) ∧ M1 = mw S I J R) := by
  have ky := hC.1.1
  obtain ⟨q4, q5, _, _, ⟨k2, l2⟩, ⟨k3, l3⟩, _⟩ := id hC.2.2.2.2.2.2.2.2.2
  have h13 := h.2.1.1
  refine am_aload_n (q := 1) dX14_is_0 rfl rfl ?_
  refine cm_call0 (q := 4) (As := []) hG dX14_is_1 mlX14_119 rfl (by assumption) ⟨_, _, rfl⟩ (Nat.le_of_ble_eq_true rfl) (Nat.le_of_ble_eq_true rfl) (Nat.le_of_ble_eq_true rfl) (Nat.le_of_ble_eq_true rfl) (k_X14_isOk hC h) rfl ?_
  rintro _ _ ⟨rfl, rfl⟩
  by_cases hg : s.1.2.1 = 1
  · rw [bI_f (fun q => q hg), bI_f (fun q => hk7 (by rw [← q]; unfold pK; rw [if_pos hg]))]
    clear hg
    refine am_if_eq (tgt := 37) (q := 7) dX14_is_4 rfl rfl (fun _ => ?_) (fun hz => absurd rfl hz)
    refine am_iconst (q := 38) (v := 0) dX14_is_37 kc_i0 rfl ?_
    exact am_iret dX14_is_38 rfl rfl ⟨_, rfl, rfl, rfl⟩
  · rw [bI_t hg]
    obtain ⟨e1, e2, e3⟩ := h.kind hg
    obtain ⟨i2, i3, sr, ca⟩ := h.sort hC e2
    rw [e1]
    have iff := hq _ _ _ _ sr
    clear e1 e3 hg
    refine am_if_eq (tgt := 37) (q := 7) dX14_is_4 rfl rfl (fun hz => absurd hz (by decide)) (fun _ => ?_)
    refine am_aload_n (q := 8) dX14_is_7 rfl rfl ?_
    refine cm_getR (q := 11) dX14_is_8 flX14_17 rfl (by assumption) (by assumption) rfl ?_
    refine am_aload_n (q := 12) dX14_is_11 rfl rfl ?_
    refine cm_getI (q := 15) dX14_is_12 flX14_116 rfl (by assumption) rfl ?_
    rw [h13]
    refine cm_iaload (q := 16) dX14_is_15 (by assumption) i2 rfl ?_
    rw [ca]
    by_cases c1 : I (y + 2) a = w
    · refine am_iload_n (q := 17) dX14_is_16 rfl rfl ?_
      refine am_icmp_ne (tgt := 37) (q := 20) dX14_is_17 rfl rfl (fun hz => absurd c1 hz) (fun _ => ?_)
      refine am_aload_n (q := 21) dX14_is_20 rfl rfl ?_
      refine cm_getR (q := 24) dX14_is_21 flX14_20 rfl (by assumption) (by assumption) rfl ?_
      refine am_aload_n (q := 25) dX14_is_24 rfl rfl ?_
      refine cm_getI (q := 28) dX14_is_25 flX14_116 rfl (by assumption) rfl ?_
      rw [h13]
      refine cm_iaload (q := 29) dX14_is_28 (by assumption) i3 rfl ?_
      rw [ca]
      by_cases c2 : I (y + 3) a = o
      · rw [bI_t (iff.mp ⟨c1, c2⟩)]
        refine am_iload_n (q := 30) dX14_is_29 rfl rfl ?_
        refine am_icmp_ne (tgt := 37) (q := 33) dX14_is_30 rfl rfl (fun hz => absurd c2 hz) (fun _ => ?_)
        refine am_iconst (q := 34) (v := 1) dX14_is_33 kc_i1 rfl ?_
        refine am_goto (tgt := 38) dX14_is_34 rfl ?_
        exact am_iret dX14_is_38 rfl rfl ⟨_, rfl, rfl, rfl⟩
      · rw [bI_f (fun q => c2 (iff.mpr q).2)]
        refine am_iload_n (q := 30) dX14_is_29 rfl rfl ?_
        refine am_icmp_ne (tgt := 37) (q := 33) dX14_is_30 rfl rfl (fun _ => ?_) (fun hz => absurd hz c2)
        refine am_iconst (q := 38) (v := 0) dX14_is_37 kc_i0 rfl ?_
        exact am_iret dX14_is_38 rfl rfl ⟨_, rfl, rfl, rfl⟩
    · rw [bI_f (fun q => c1 (iff.mpr q).1)]
      refine am_iload_n (q := 17) dX14_is_16 rfl rfl ?_
      refine am_icmp_ne (tgt := 37) (q := 20) dX14_is_17 rfl rfl (fun _ => ?_) (fun hz => absurd hz c1)
      refine am_iconst (q := 38) (v := 0) dX14_is_37 kc_i0 rfl ?_
      exact am_iret dX14_is_38 rfl rfl ⟨_, rfl, rfl, rfl⟩
/-- a token is eaten -/
theorem PC.eat {kk : Int32} (hC : MCc S R y bl nx) (h : PC I y nx T ix N s dep a k) (hg : s.1.2.1 ≠ 1) (hp : pK T s.1 = kk) (h6 : kk ≠ 256) (h7 : kk ≠ 257) (e : ∀ x j, I1 x j = if x = y ∧ j = 13 then nI (a + 1) else I x j) : PC I1 y nx T ix N (eEx T kk s) dep (a + 1) k ∧ OffM y nx k I I1 := by
  obtain ⟨p1, p2, p3, p4, p5⟩ := hC.lo
  obtain ⟨e1, e2, e3⟩ := h.kind hg
  have hn1 : a + 1 < T.n := by
    have := (h.1.2.2.2.1 a e2)
    have hne : ¬ (T.k a = 256 ∨ T.k a = 257) := by
      rw [← e1, hp]
      exact fun q => q.elim h6 h7
    have h3 : a + 1 ≠ T.n := fun q => hne (this.mpr q)
    omega
  have ee : eEx T kk s = ((s.1.1 + 1, s.1.2.1, s.1.2.2), s.2) := by
    unfold eEx pEx
    rw [if_pos hp]
  obtain ⟨hT, ⟨h1, h2, h3, h4, h5⟩, q | ⟨g0, g1, g2, g3, g4, g5, g6, a1, a2, a3, mr, mf, mp, g7, g8⟩⟩ := h
  · exact absurd q.1 hg
  · refine ⟨⟨hT.cg (fun x j p q => by rw [e, if_neg (by omega)]), ⟨by rw [e, if_pos ⟨rfl, rfl⟩], by omega, by rw [e, if_neg (by omega)]; exact h3, by omega, by rw [e, if_neg (by omega)]; exact h5⟩, Or.inr ?_⟩, fun x j p q r => by rw [e, if_neg (fun z => by have := p z.1; omega)]⟩
    rw [ee]
    exact ⟨g0, by rw [e, if_neg (by omega)]; exact g1, by rw [g2], hn1, by rw [e, if_neg (by omega)]; exact g4, fun z => by
      obtain ⟨tk, t1, t2, t3⟩ := g5 z
      exact ⟨tk, by omega, by rw [e, if_neg (by omega)]; exact t2, t3⟩, g6, a1, a2, a3, mr, mf, mp, g7.cg (fun j hj => by rw [e, if_neg (by omega)]) (fun x j p q => by rw [e, if_neg (by omega)]), g8⟩
theorem k_X14_fail (hC : MCc S R y bl nx) (h : PC I y nx T ix N s dep a k) : Fn G mX14_fail 0 [vR y] (mw S I J R) (fun rr M1 => rr = none ∧ ∃ I1, M1 = mw S I1 J R ∧ PC I1 y nx T ix N (eRef T s) dep a k ∧ OffM y nx k I I1) := by
  have ky := hC.1.1
  obtain ⟨p1, p2, p3, p4, p5⟩ := hC.lo
  have hn : T.n ≤ 401 := h.1.2.1
  have h13 := h.2.1.1
  by_cases hg : s.1.2.1 = 1
  · have ee : eRef T s = s := by
      unfold eRef pRef
      rw [if_pos hg]
    have h0 := h
    obtain ⟨hT, _, ⟨e1, tk, t1, t2, t3⟩ | ⟨g0, _⟩⟩ := h
    · rw [ee]
      clear e1 hg ee
      refine am_aload_n (q := 1) dX14_fail_0 rfl rfl ?_
      refine cm_getI (q := 4) dX14_fail_1 flX14_113 rfl (by assumption) rfl ?_
      rw [t1]
      refine am_iconst (q := 5) (v := (-1)) dX14_fail_4 kc_im1 rfl ?_
      refine am_icmp_ne (tgt := 16) (q := 8) dX14_fail_5 rfl rfl (fun _ => ?_) (fun hz => absurd hz (fun q => by have := nI_pos (n := tk) (by omega); rw [q] at this; exact this (by decide)))
      exact am_ret dX14_fail_16 rfl ⟨_, rfl, rfl, I, rfl, h0, OffM.rf⟩
    · exact absurd hg g0
  · obtain ⟨e1, e2, e3⟩ := h.kind hg
    have ee : eRef T s = ((s.1.1, 1, T.s s.1.1), s.2) := by
      unfold eRef pRef
      rw [if_neg hg]
    rw [ee]
    obtain ⟨hT, ⟨h1, h2, h3, h4, h5⟩, q | ⟨g0, g1, _⟩⟩ := h
    · exact absurd q.1 hg
    · clear hg e1 ee
      refine am_aload_n (q := 1) dX14_fail_0 rfl rfl ?_
      refine cm_getI (q := 4) dX14_fail_1 flX14_113 rfl (by assumption) rfl ?_
      rw [g1]
      refine am_iconst (q := 5) (v := (-1)) dX14_fail_4 kc_im1 rfl ?_
      refine am_icmp_ne (tgt := 16) (q := 8) dX14_fail_5 rfl rfl (fun hz => absurd rfl hz) (fun _ => ?_)
      refine am_aload_n (q := 9) dX14_fail_8 rfl rfl ?_
      refine am_aload_n (q := 10) dX14_fail_9 rfl rfl ?_
      refine cm_getI (q := 13) dX14_fail_10 flX14_116 rfl (by assumption) rfl ?_
      rw [h13]
      have e : ∀ x j, up2 I y 15 (nI a) x j = if x = y ∧ j = 15 then nI a else I x j := fun x j => up2_at _ _
      refine cm_putI (q := 16) dX14_fail_13 flX14_113 rfl (Or.inl rfl) (Or.inl rfl) (by assumption) rfl ?_
      generalize up2 I y 15 (nI a) = I1 at e ⊢
      exact am_ret dX14_fail_16 rfl ⟨_, rfl, rfl, I1, rfl, ⟨hT.cg (fun x j p q => by rw [e, if_neg (by omega)]), ⟨by rw [e, if_neg (by omega)]; exact h1, h2, by rw [e, if_neg (by omega)]; exact h3, h4, by rw [e, if_neg (by omega)]; exact h5⟩, Or.inl ⟨rfl, a, by rw [e, if_pos ⟨rfl, rfl⟩], e2, by rw [← e3]⟩⟩, fun x j p q r => by rw [e, if_neg (fun z => by have := p z.1; omega)]⟩
theorem k_X14_take {w o kk : Int32} (hG : okG G) (hC : MCc S R y bl nx) (h : PC I y nx T ix N s dep a k) (h6 : kk ≠ 256) (h7 : kk ≠ 257) (hq : ∀ so va k v, srt k so va v → ((so = w ∧ va = o) ↔ k = kk)) : Fn G mX14_take 2 [vR y, vI w, vI o] (mw S I J R) (fun rr M1 => rr = none ∧ ∃ I1 a1, M1 = mw S I1 J R ∧ PC I1 y nx T ix N (eEx T kk s) dep a1 k ∧ a ≤ a1 ∧ OffM y nx k I I1) := by
  have ky := hC.1.1
  have h13 := h.2.1.1
  refine am_aload_n (q := 1) dX14_take_0 rfl rfl ?_
  refine am_iload_n (q := 2) dX14_take_1 rfl rfl ?_
  refine am_iload_n (q := 3) dX14_take_2 rfl rfl ?_
  refine cm_call0 (q := 6) (As := [_, _]) hG dX14_take_3 mlX14_123 rfl (by assumption) ⟨_, _, rfl⟩ (Nat.le_of_ble_eq_true rfl) (Nat.le_of_ble_eq_true rfl) (Nat.le_of_ble_eq_true rfl) (Nat.le_of_ble_eq_true rfl) (k_X14_is hG hC h h7 hq) rfl ?_
  rintro _ _ ⟨rfl, rfl⟩
  by_cases c : pK T s.1 = kk
  · have hg : s.1.2.1 ≠ 1 := fun q => h7 (by rw [← c]; unfold pK; rw [if_pos q])
    rw [bI_t c]
    have hz : pK T s.1 = kk ∧ True := ⟨c, trivial⟩
    clear c
    refine am_if_eq (tgt := 22) (q := 9) dX14_take_6 rfl rfl (fun hz => absurd hz (by decide)) (fun _ => ?_)
    refine am_aload_n (q := 10) dX14_take_9 rfl rfl ?_
    refine am_dup (q := 11) dX14_take_10 rfl rfl ?_
    refine cm_getI (q := 14) dX14_take_11 flX14_116 rfl (by assumption) rfl ?_
    rw [h13]
    refine am_iconst (q := 15) (v := 1) dX14_take_14 kc_i1 rfl ?_
    refine am_iadd (q := 16) dX14_take_15 rfl ?_
    rw [nI_1]
    obtain ⟨g1, g2⟩ := h.eat (I1 := up2 I y 13 (nI (a + 1))) hC hg hz.1 h6 h7 (fun x j => up2_at _ _)
    refine cm_putI (q := 19) dX14_take_16 flX14_116 rfl (Or.inl rfl) (Or.inl rfl) (by assumption) rfl ?_
    refine am_goto (tgt := 26) dX14_take_19 rfl ?_
    exact am_ret dX14_take_26 rfl ⟨_, rfl, rfl, _, a + 1, rfl, g1, Nat.le_succ _, g2⟩
  · rw [bI_f c]
    have ee : eEx T kk s = eRef T s := by
      unfold eEx eRef pEx
      rw [if_neg c]
    rw [ee]
    clear c ee
    refine am_if_eq (tgt := 22) (q := 9) dX14_take_6 rfl rfl (fun _ => ?_) (fun hz => absurd rfl hz)
    refine am_aload_n (q := 23) dX14_take_22 rfl rfl ?_
    refine cm_call0 (q := 26) (As := []) hG dX14_take_23 mlX14_127 rfl (by assumption) ⟨_, _, rfl⟩ (Nat.le_of_ble_eq_true rfl) (Nat.le_of_ble_eq_true rfl) (Nat.le_of_ble_eq_true rfl) (Nat.le_of_ble_eq_true rfl) (k_X14_fail hC h) rfl ?_
    rintro _ _ ⟨rfl, I1, rfl, g1, g2⟩
    exact am_ret dX14_take_26 rfl ⟨_, rfl, rfl, I1, a, rfl, g1, Nat.le_refl _, g2⟩
theorem k_X14_tell {n tk : Int32} (ky : S.K y = 15) : Fn G mX14_tell 0 [vR y, vI n, vI tk] (mw S I J R) (fun rr M1 => rr = none ∧ ((I y 16 ≠ 0 ∧ (I y 17 ≠ tk ∨ I y 16 ≤ n)) → M1 = mw S I J R) ∧ (¬ (I y 16 ≠ 0 ∧ (I y 17 ≠ tk ∨ I y 16 ≤ n)) → M1 = mw S (up2 (up2 I y 16 n) y 17 tk) J R)) := by
  have yes : ¬ (I y 16 ≠ 0 ∧ (I y 17 ≠ tk ∨ I y 16 ≤ n)) → MW G mX14_tell 0 24 [some (vR y), some (vI n), some (vI tk)] [] (mw S I J R) (fun f M1 => ∃ r, f = .inl r ∧ (r = none ∧ ((I y 16 ≠ 0 ∧ (I y 17 ≠ tk ∨ I y 16 ≤ n)) → M1 = mw S I J R) ∧ (¬ (I y 16 ≠ 0 ∧ (I y 17 ≠ tk ∨ I y 16 ≤ n)) → M1 = mw S (up2 (up2 I y 16 n) y 17 tk) J R))) := by
    intro hq
    have hz : ¬ (I y 16 ≠ 0 ∧ (I y 17 ≠ tk ∨ I y 16 ≤ n)) ∧ True := ⟨hq, trivial⟩
    refine am_aload_n (q := 25) dX14_tell_24 rfl rfl ?_
    refine am_iload_n (q := 26) dX14_tell_25 rfl rfl ?_
    refine cm_putI (q := 29) dX14_tell_26 flX14_130 rfl (Or.inl rfl) (Or.inl rfl) (by assumption) rfl ?_
    refine am_aload_n (q := 30) dX14_tell_29 rfl rfl ?_
    refine am_iload_n (q := 31) dX14_tell_30 rfl rfl ?_
    refine cm_putI (q := 34) dX14_tell_31 flX14_133 rfl (Or.inl rfl) (Or.inl rfl) (by assumption) rfl ?_
    exact am_ret dX14_tell_34 rfl ⟨_, rfl, rfl, fun q => absurd q hz.1, fun _ => rfl⟩
  refine am_aload_n (q := 1) dX14_tell_0 rfl rfl ?_
  refine cm_getI (q := 4) dX14_tell_1 flX14_130 rfl (by assumption) rfl ?_
  refine am_if_eq (tgt := 24) (q := 7) dX14_tell_4 rfl rfl (fun c1 => ?_) (fun c1 => ?_)
  · exact yes (fun q => q.1 c1)
  · refine am_aload_n (q := 8) dX14_tell_7 rfl rfl ?_
    refine cm_getI (q := 11) dX14_tell_8 flX14_133 rfl (by assumption) rfl ?_
    refine am_iload_n (q := 12) dX14_tell_11 rfl rfl ?_
    refine am_icmp_ne (tgt := 23) (q := 15) dX14_tell_12 rfl rfl (fun c2 => ?_) (fun c2 => ?_)
    · exact am_ret dX14_tell_23 rfl ⟨_, rfl, rfl, fun _ => rfl, fun q => absurd ⟨c1, Or.inl c2⟩ q⟩
    · refine am_aload_n (q := 16) dX14_tell_15 rfl rfl ?_
      refine cm_getI (q := 19) dX14_tell_16 flX14_130 rfl (by assumption) rfl ?_
      refine am_iload_n (q := 20) dX14_tell_19 rfl rfl ?_
      refine am_icmp_gt (tgt := 24) (q := 23) dX14_tell_20 rfl rfl (fun c3 => ?_) (fun c3 => ?_)
      · exact yes (fun q => q.2.elim (fun z => z c2) (fun z => Int32.not_lt.mpr z c3))
      · exact am_ret dX14_tell_23 rfl ⟨_, rfl, rfl, fun _ => rfl, fun q => absurd ⟨c1, Or.inr (Int32.not_lt.mp c3)⟩ q⟩
end Pm

