theorem dX2_hasRail_0 : decode cX2_hasRail 0 = .ok (.iload_n 1, 1) := by decide +kernel
theorem dX2_hasRail_1 : decode cX2_hasRail 1 = .ok (.ifCond .lt 24, 3) := by decide +kernel
theorem dX2_hasRail_4 : decode cX2_hasRail 4 = .ok (.iload_n 1, 1) := by decide +kernel
theorem dX2_hasRail_5 : decode cX2_hasRail 5 = .ok (.aload_n 0, 1) := by decide +kernel
theorem dX2_hasRail_6 : decode cX2_hasRail 6 = .ok (.getfield 69, 3) := by decide +kernel
theorem dX2_hasRail_9 : decode cX2_hasRail 9 = .ok (.if_icmp .ge 16, 3) := by decide +kernel
theorem dX2_hasRail_12 : decode cX2_hasRail 12 = .ok (.iload_n 1, 1) := by decide +kernel
theorem dX2_hasRail_13 : decode cX2_hasRail 13 = .ok (.aload_n 0, 1) := by decide +kernel
theorem dX2_hasRail_14 : decode cX2_hasRail 14 = .ok (.getfield 34, 3) := by decide +kernel
theorem dX2_hasRail_17 : decode cX2_hasRail 17 = .ok (.arraylength, 1) := by decide +kernel
theorem dX2_hasRail_18 : decode cX2_hasRail 18 = .ok (.if_icmp .ge 7, 3) := by decide +kernel
theorem dX2_hasRail_21 : decode cX2_hasRail 21 = .ok (.iconst 1, 1) := by decide +kernel
theorem dX2_hasRail_22 : decode cX2_hasRail 22 = .ok (.goto 4, 3) := by decide +kernel
theorem dX2_hasRail_25 : decode cX2_hasRail 25 = .ok (.iconst 0, 1) := by decide +kernel
theorem dX2_hasRail_26 : decode cX2_hasRail 26 = .ok (.ireturn, 1) := by decide +kernel
/-! the contest's readings -/
section ReadR
variable {G : Gp} {Y : MD} {d pc : Nat} {ls : List (Option AV)} {st : List AV} {S : AMem} {I : Nat → Nat → Int32} {J : Nat → Nat → Int64} {R : Nat → Nat → Option Nat} {Q : (Option AV ⊕ Nat) → AMem → Prop}
theorem cm_aaloadK {a t b : Nat} {i : Int32} (hd : decode Y.cc pc = .ok (.aaload, 1)) (hK : S.K a = t) (ht : 22 ≤ t ∧ t < 26) (hin : vp_in i (S.ln a)) (hR : R a i.toNatClampNeg = some b) {q : Nat} (hq : pc + 1 = q) (k : MW G Y d q ls (vR b :: st) (mw S I J R) Q) : MW G Y d pc ls (vI i :: vR a :: st) (mw S I J R) Q := by
  have e : t = 22 + (t - 22) := by omega
  rw [e] at hK
  exact cm_aaload hd hK (by omega) hin hR hq k
theorem cm_alenK {a t : Nat} {v : Int32} (hd : decode Y.cc pc = .ok (.arraylength, 1)) (hK : S.K a = t) (ht : 22 ≤ t ∧ t < 26) (hv : nI (S.ln a) = v) {q : Nat} (hq : pc + 1 = q) (k : MW G Y d q ls (vI v :: st) (mw S I J R) Q) : MW G Y d pc ls (vR a :: st) (mw S I J R) Q := by
  have e : t = 22 + (t - 22) := by omega
  rw [e] at hK
  exact cm_alenR hd hK (by omega) hv hq k
end ReadR
theorem k_ix {i : Int32} {n : Nat} (h0 : ¬ i < 0) (h1 : i < nI n) (hn : n < 2 ^ 31) : ∃ k, k < n ∧ i = nI k := by
  obtain ⟨k, hk, rfl⟩ := nI_of h0
  exact ⟨k, (nI_ltI hk hn).mp h1, rfl⟩
theorem k_rng8 {k : Int32} (h1 : 319 ≤ k) (h2 : k ≤ 326) : k = 319 ∨ k = 320 ∨ k = 321 ∨ k = 322 ∨ k = 323 ∨ k = 324 ∨ k = 325 ∨ k = 326 := by
  have a1 := Int32.le_iff_toInt_le.mp h1
  have a2 := Int32.le_iff_toInt_le.mp h2
  have e1 : (319 : Int32).toInt = 319 := by decide +kernel
  have e2 : (326 : Int32).toInt = 326 := by decide +kernel
  rw [e1] at a1
  rw [e2] at a2
  have hz : Int32.ofInt k.toInt = k := Int32.ofInt_toInt k
  have : k.toInt = 319 ∨ k.toInt = 320 ∨ k.toInt = 321 ∨ k.toInt = 322 ∨ k.toInt = 323 ∨ k.toInt = 324 ∨ k.toInt = 325 ∨ k.toInt = 326 := by omega
  rcases this with e | e | e | e | e | e | e | e
  · exact Or.inl (by rw [← hz, e]; rfl)
  · exact Or.inr (Or.inl (by rw [← hz, e]; rfl))
  · exact Or.inr (Or.inr (Or.inl (by rw [← hz, e]; rfl)))
  · exact Or.inr (Or.inr (Or.inr (Or.inl (by rw [← hz, e]; rfl))))
  · exact Or.inr (Or.inr (Or.inr (Or.inr (Or.inl (by rw [← hz, e]; rfl)))))
  · exact Or.inr (Or.inr (Or.inr (Or.inr (Or.inr (Or.inl (by rw [← hz, e]; rfl))))))
  · exact Or.inr (Or.inr (Or.inr (Or.inr (Or.inr (Or.inr (Or.inl (by rw [← hz, e]; rfl)))))))
  · exact Or.inr (Or.inr (Or.inr (Or.inr (Or.inr (Or.inr (Or.inr (by rw [← hz, e]; rfl)))))))
/-- the first of a row of names -/
def fndJ (f : Nat → Int64) (v : Int64) : Nat → Nat → Int32
  | _, 0 => -1
  | k, n + 1 => if f k = v then nI k else fndJ f v (k + 1) n
/-- only what a reckoning or a flight needs for itself has changed -/
def Qt (c : Nat) (I I1 : Nat → Nat → Int32) : Prop := ∀ x j, (x ≠ c + 1 ∨ j ≠ 3) → x ≠ c + 4 → x ≠ c + 7 → x ≠ c + 8 → I1 x j = I x j
theorem Qt.rf {c : Nat} {I : Nat → Nat → Int32} : Qt c I I := fun _ _ _ _ _ _ => rfl
theorem Qt.tr {c : Nat} {I I1 I2 : Nat → Nat → Int32} (h1 : Qt c I I1) (h2 : Qt c I1 I2) : Qt c I I2 := fun x j p q r s => (h2 x j p q r s).trans (h1 x j p q r s)
theorem Qt.off {c : Nat} {I I1 : Nat → Nat → Int32} (h1 : Qt c I I1) : OffC c I I1 := fun x j q => h1 x j (Or.inl (by omega)) (by omega) (by omega) (by omega)
theorem OffK.qt {c : Nat} {I I1 : Nat → Nat → Int32} (h : OffK (c + 1) (c + 4) I I1) : Qt c I I1 := fun x j p q _ _ => h x j q (by
  rcases p with p | p
  · exact Or.inl p
  · exact Or.inr p)
theorem AbB.qt {c : Nat} {I I1 : Nat → Nat → Int32} {B : BS} (h : AbB I c B) (q : Qt c I I1) : AbB I1 c B := by
  obtain ⟨⟨a1, a2⟩, ⟨a3, a4⟩, ⟨a5, a6⟩, ⟨a7, a8⟩, b1, b2, z, b3, b4, b5, b6⟩ := h
  have q2 : I1 (c + 2) = I (c + 2) := funext fun j => q _ _ (Or.inl (by omega)) (by omega) (by omega) (by omega)
  have q3 : I1 (c + 3) = I (c + 3) := funext fun j => q _ _ (Or.inl (by omega)) (by omega) (by omega) (by omega)
  have qs : ∀ p r s, SegC I c p r s → SegC I1 c p r s := by
    intro p r s hs rd
    rw [q2, q3]
    exact hs rd
  refine ⟨⟨?_, a2⟩, ⟨?_, a4⟩, ⟨?_, a6⟩, ⟨?_, a8⟩, ?_, ?_, z, ?_, b4, ?_, ?_⟩
  · rw [q _ _ (Or.inl (by omega)) (by omega) (by omega) (by omega)]; exact a1
  · rw [q _ _ (Or.inl (by omega)) (by omega) (by omega) (by omega)]; exact a3
  · rw [q _ _ (Or.inl (by omega)) (by omega) (by omega) (by omega)]; exact a5
  · rw [q _ _ (Or.inl (by omega)) (by omega) (by omega) (by omega)]; exact a7
  · intro i hi p hp
    rw [q _ _ (Or.inl (by omega)) (by omega) (by omega) (by omega)]
    exact b1 i hi p hp
  · intro i hi
    rw [q _ _ (Or.inl (by omega)) (by omega) (by omega) (by omega), q _ _ (Or.inl (by omega)) (by omega) (by omega) (by omega)]
    exact b2 i hi
  · rw [q _ _ (Or.inr (by decide)) (by omega) (by omega) (by omega)]; exact b3
  · intro i hi
    obtain ⟨p, r, e1, e2, e3, e4, e5⟩ := b5 i hi
    refine ⟨p, r, ?_, ?_, e3, e4, ?_⟩
    · rw [q _ _ (Or.inl (by omega)) (by omega) (by omega) (by omega)]; exact e1
    · rw [q _ _ (Or.inl (by omega)) (by omega) (by omega) (by omega)]; exact e2
    · cases hh : B.tt i with
      | none => rw [hh] at e5; exact e5
      | some s => rw [hh] at e5; exact ⟨e5.1, qs _ _ _ e5.2⟩
  · intro i hi
    obtain ⟨p, r, t, e1, e2, e3, e4, e5, e6, e7, e8⟩ := b6 i hi
    refine ⟨p, r, t, ?_, ?_, ?_, e4, e5, e6, qs _ _ _ e7, qs _ _ _ e8⟩
    · rw [q _ _ (Or.inl (by omega)) (by omega) (by omega) (by omega)]; exact e1
    · rw [q _ _ (Or.inl (by omega)) (by omega) (by omega) (by omega)]; exact e2
    · rw [q _ _ (Or.inl (by omega)) (by omega) (by omega) (by omega)]; exact e3
theorem AbM.qt {c : Nat} {I I1 : Nat → Nat → Int32} {B : BS} {m : MS} (hB : AbB I c B) (h : AbM I c B m) (q : Qt c I I1) : AbM I1 c B m := by
  obtain ⟨a1, a2, a3, a4, a5, a6, a7, a8, a9, a10, a11⟩ := h
  obtain ⟨⟨_, u1⟩, ⟨_, u2⟩, ⟨_, u3⟩, ⟨_, u4⟩, _⟩ := hB
  refine ⟨?_, ?_, ?_, ?_, ?_, ?_, ?_, ?_, a9, a10, a11⟩
  · intro i hi j hj
    rw [q _ _ (Or.inl (by omega)) (by omega) (by omega) (by omega)]; exact a1 i hi j hj
  · intro i hi j hj
    rw [q _ _ (Or.inl (by omega)) (by omega) (by omega) (by omega)]; exact a2 i hi j hj
  · intro i hi j hj
    rw [q _ _ (Or.inl (by omega)) (by omega) (by omega) (by omega)]; exact a3 i hi j hj
  · intro j hj
    rw [q _ _ (Or.inl (by omega)) (by omega) (by omega) (by omega)]; exact a4 j hj
  · rw [q _ _ (Or.inl (by omega)) (by omega) (by omega) (by omega)]; exact a5
  · intro k hk
    rw [q _ _ (Or.inl (by omega)) (by omega) (by omega) (by omega)]; exact a6 k hk
  · intro k hk
    rw [q _ _ (Or.inl (by omega)) (by omega) (by omega) (by omega)]; exact a7 k hk
  · rw [q _ _ (Or.inl (by omega)) (by omega) (by omega) (by omega)]; exact a8
section ReadM
variable {G : Gp} {S : AMem} {I : Nat → Nat → Int32} {J : Nat → Nat → Int64} {R : Nat → Nat → Option Nat} {c : Nat} {B : BS} {m : MS}
theorem k_X2_hasRail {i : Int32} {n : Nat} (hct : CT S R c) (hn : I c 8 = nI n) (hn4 : n ≤ 4) : Fn G mX2_hasRail 0 [vR c, vI i] (mw S I J R) (fun rr M1 => rr = some (vI (bI (0 ≤ i ∧ i < nI n))) ∧ M1 = mw S I J R) := by
  obtain ⟨kc, rc0, rc1, rc2, rc3, rc4, rc5, rc6, rc7, ⟨kd, rd0, rd1, rd2, kd2, ld2, kd3, ld3, kd4, ld4⟩, ⟨kb, rb, kb6, lb6⟩, ⟨kf, rf, kf8, lf8⟩, ⟨kr, lr, hr⟩, ⟨kfi, lfi, hfi⟩, ⟨kp, lp, hpz⟩, ⟨kt, lt, htu⟩, kw, lw⟩ := id hct
  refine am_iload_n (q := 1) dX2_hasRail_0 rfl rfl ?_
  refine am_if_lt (tgt := 25) (q := 4) dX2_hasRail_1 rfl rfl (fun hc => ?_) (fun hc => ?_)
  · refine am_iconst (q := 26) (v := 0) dX2_hasRail_25 kc_i0 rfl ?_
    exact am_iret dX2_hasRail_26 rfl rfl ⟨_, rfl, by rw [bI_f (fun z => Int32.not_le.mpr hc z.1)], rfl⟩
  · refine am_iload_n (q := 5) dX2_hasRail_4 rfl rfl ?_
    refine am_aload_n (q := 6) dX2_hasRail_5 rfl rfl ?_
    refine cm_getI (q := 9) dX2_hasRail_6 flX2_69 rfl (by assumption) rfl ?_
    rw [hn]
    refine am_icmp_ge (tgt := 25) (q := 12) dX2_hasRail_9 rfl rfl (fun hc2 => ?_) (fun hc2 => ?_)
    · refine am_iconst (q := 26) (v := 0) dX2_hasRail_25 kc_i0 rfl ?_
      exact am_iret dX2_hasRail_26 rfl rfl ⟨_, rfl, by rw [bI_f (fun z => Int32.not_le.mpr z.2 hc2)], rfl⟩
    · obtain ⟨k, hk, rfl⟩ := k_ix hc (Int32.not_le.mp hc2) (by omega)
      refine am_iload_n (q := 13) dX2_hasRail_12 rfl rfl ?_
      refine am_aload_n (q := 14) dX2_hasRail_13 rfl rfl ?_
      refine cm_getR (q := 17) dX2_hasRail_14 flX2_34 rfl (by assumption) (by assumption) rfl ?_
      refine cm_alenK (q := 18) dX2_hasRail_17 (by assumption) (by decide) (by rw [lr] : nI (S.ln (c + 9)) = nI 4) rfl ?_
      refine am_icmp_ge (tgt := 25) (q := 21) dX2_hasRail_18 rfl rfl (fun hz => absurd hz (nI_ge (by omega) (by decide))) (fun _ => ?_)
      refine am_iconst (q := 22) (v := 1) dX2_hasRail_21 kc_i1 rfl ?_
      refine am_goto (tgt := 26) dX2_hasRail_22 rfl ?_
      exact am_iret dX2_hasRail_26 rfl rfl ⟨_, rfl, by rw [bI_t ⟨Int32.not_lt.mp hc, Int32.not_le.mp hc2⟩], rfl⟩
end ReadM

