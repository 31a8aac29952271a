theorem dX11_digest_0 : decode cX11_digest 0 = .ok (.ldc2_w 217, 3) := by decide +kernel
theorem dX11_digest_3 : decode cX11_digest 3 = .ok (.lstore_n 1, 1) := by decide +kernel
theorem dX11_digest_4 : decode cX11_digest 4 = .ok (.iconst 0, 1) := by decide +kernel
theorem dX11_digest_5 : decode cX11_digest 5 = .ok (.istore_n 3, 1) := by decide +kernel
theorem dX11_digest_6 : decode cX11_digest 6 = .ok (.iload_n 3, 1) := by decide +kernel
theorem dX11_digest_7 : decode cX11_digest 7 = .ok (.bipush 9, 2) := by decide +kernel
theorem dX11_digest_9 : decode cX11_digest 9 = .ok (.if_icmp .gt 22, 3) := by decide +kernel
theorem dX11_digest_12 : decode cX11_digest 12 = .ok (.lload_n 1, 1) := by decide +kernel
theorem dX11_digest_13 : decode cX11_digest 13 = .ok (.ldc2_w 219, 3) := by decide +kernel
theorem dX11_digest_16 : decode cX11_digest 16 = .ok (.lmul, 1) := by decide +kernel
theorem dX11_digest_17 : decode cX11_digest 17 = .ok (.aload_n 0, 1) := by decide +kernel
theorem dX11_digest_18 : decode cX11_digest 18 = .ok (.iload_n 3, 1) := by decide +kernel
theorem dX11_digest_19 : decode cX11_digest 19 = .ok (.invokevirtual 95, 3) := by decide +kernel
theorem dX11_digest_22 : decode cX11_digest 22 = .ok (.i2l, 1) := by decide +kernel
theorem dX11_digest_23 : decode cX11_digest 23 = .ok (.ladd, 1) := by decide +kernel
theorem dX11_digest_24 : decode cX11_digest 24 = .ok (.lstore_n 1, 1) := by decide +kernel
theorem dX11_digest_25 : decode cX11_digest 25 = .ok (.iinc 3 1, 3) := by decide +kernel
theorem dX11_digest_28 : decode cX11_digest 28 = .ok (.goto (-22), 3) := by decide +kernel
theorem dX11_digest_31 : decode cX11_digest 31 = .ok (.aload_n 0, 1) := by decide +kernel
theorem dX11_digest_32 : decode cX11_digest 32 = .ok (.getfield 26, 3) := by decide +kernel
theorem dX11_digest_35 : decode cX11_digest 35 = .ok (.lload_n 1, 1) := by decide +kernel
theorem dX11_digest_36 : decode cX11_digest 36 = .ok (.invokevirtual 221, 3) := by decide +kernel
theorem dX11_digest_39 : decode cX11_digest 39 = .ok (.lreturn, 1) := by decide +kernel
theorem dX11_needs_0 : decode cX11_needs 0 = .ok (.aload_n 0, 1) := by decide +kernel
theorem dX11_needs_1 : decode cX11_needs 1 = .ok (.getfield 26, 3) := by decide +kernel
theorem dX11_needs_4 : decode cX11_needs 4 = .ok (.iload_n 1, 1) := by decide +kernel
theorem dX11_needs_5 : decode cX11_needs 5 = .ok (.invokevirtual 108, 3) := by decide +kernel
theorem dX11_needs_8 : decode cX11_needs 8 = .ok (.ifCond .eq 14, 3) := by decide +kernel
theorem dX11_needs_11 : decode cX11_needs 11 = .ok (.aload_n 0, 1) := by decide +kernel
theorem dX11_needs_12 : decode cX11_needs 12 = .ok (.getfield 26, 3) := by decide +kernel
theorem dX11_needs_15 : decode cX11_needs 15 = .ok (.iload_n 2, 1) := by decide +kernel
theorem dX11_needs_16 : decode cX11_needs 16 = .ok (.invokevirtual 99, 3) := by decide +kernel
theorem dX11_needs_19 : decode cX11_needs 19 = .ok (.ifCond .ne 13, 3) := by decide +kernel
theorem dX11_needs_32 : decode cX11_needs 32 = .ok (.iconst 1, 1) := by decide +kernel
theorem dX11_needs_33 : decode cX11_needs 33 = .ok (.istore_n 3, 1) := by decide +kernel
theorem dX11_needs_34 : decode cX11_needs 34 = .ok (.iload_n 3, 1) := by decide +kernel
theorem dX11_needs_35 : decode cX11_needs 35 = .ok (.bipush 99, 2) := by decide +kernel
theorem dX11_needs_37 : decode cX11_needs 37 = .ok (.if_icmp .gt 27, 3) := by decide +kernel
theorem dX11_needs_40 : decode cX11_needs 40 = .ok (.aload_n 0, 1) := by decide +kernel
theorem dX11_needs_41 : decode cX11_needs 41 = .ok (.getfield 26, 3) := by decide +kernel
theorem dX11_needs_44 : decode cX11_needs 44 = .ok (.iload_n 1, 1) := by decide +kernel
theorem dX11_needs_45 : decode cX11_needs 45 = .ok (.iload_n 2, 1) := by decide +kernel
theorem dX11_needs_46 : decode cX11_needs 46 = .ok (.iload_n 3, 1) := by decide +kernel
theorem dX11_needs_47 : decode cX11_needs 47 = .ok (.invokevirtual 192, 3) := by decide +kernel
theorem dX11_needs_50 : decode cX11_needs 50 = .ok (.getfield 181, 3) := by decide +kernel
theorem dX11_needs_53 : decode cX11_needs 53 = .ok (.ifCond .le 5, 3) := by decide +kernel
theorem dX11_needs_56 : decode cX11_needs 56 = .ok (.iload_n 3, 1) := by decide +kernel
theorem dX11_needs_57 : decode cX11_needs 57 = .ok (.ireturn, 1) := by decide +kernel
theorem dX11_needs_58 : decode cX11_needs 58 = .ok (.iinc 3 1, 3) := by decide +kernel
theorem dX11_needs_61 : decode cX11_needs 61 = .ok (.goto (-27), 3) := by decide +kernel
theorem dX11_needs_64 : decode cX11_needs 64 = .ok (.iconst (-1), 1) := by decide +kernel
theorem dX11_needs_65 : decode cX11_needs 65 = .ok (.ireturn, 1) := by decide +kernel
theorem dX11_pass_0 : decode cX11_pass 0 = .ok (.iload_n 1, 1) := by decide +kernel
theorem dX11_pass_1 : decode cX11_pass 1 = .ok (.iconst 1, 1) := by decide +kernel
theorem dX11_pass_2 : decode cX11_pass 2 = .ok (.if_icmp .lt 9, 3) := by decide +kernel
theorem dX11_pass_5 : decode cX11_pass 5 = .ok (.iload_n 1, 1) := by decide +kernel
theorem dX11_pass_6 : decode cX11_pass 6 = .ok (.bipush 30, 2) := by decide +kernel
theorem dX11_pass_8 : decode cX11_pass 8 = .ok (.if_icmp .le 13, 3) := by decide +kernel
theorem dX11_pass_21 : decode cX11_pass 21 = .ok (.aload_n 0, 1) := by decide +kernel
theorem dX11_pass_22 : decode cX11_pass 22 = .ok (.getfield 26, 3) := by decide +kernel
theorem dX11_pass_25 : decode cX11_pass 25 = .ok (.getfield 166, 3) := by decide +kernel
theorem dX11_pass_28 : decode cX11_pass 28 = .ok (.istore_n 2, 1) := by decide +kernel
theorem dX11_pass_29 : decode cX11_pass 29 = .ok (.aload_n 0, 1) := by decide +kernel
theorem dX11_pass_30 : decode cX11_pass 30 = .ok (.getfield 26, 3) := by decide +kernel
theorem dX11_pass_33 : decode cX11_pass 33 = .ok (.iload_n 1, 1) := by decide +kernel
theorem dX11_pass_34 : decode cX11_pass 34 = .ok (.invokevirtual 169, 3) := by decide +kernel
theorem dX11_pass_37 : decode cX11_pass 37 = .ok (.aload_n 0, 1) := by decide +kernel
theorem dX11_pass_38 : decode cX11_pass 38 = .ok (.getfield 26, 3) := by decide +kernel
theorem dX11_pass_41 : decode cX11_pass 41 = .ok (.getfield 166, 3) := by decide +kernel
theorem dX11_pass_44 : decode cX11_pass 44 = .ok (.iload_n 2, 1) := by decide +kernel
theorem dX11_pass_45 : decode cX11_pass 45 = .ok (.isub, 1) := by decide +kernel
theorem dX11_pass_46 : decode cX11_pass 46 = .ok (.ireturn, 1) := by decide +kernel
theorem dX11_strike_0 : decode cX11_strike 0 = .ok (.aload_n 0, 1) := by decide +kernel
theorem dX11_strike_1 : decode cX11_strike 1 = .ok (.getfield 26, 3) := by decide +kernel
theorem dX11_strike_4 : decode cX11_strike 4 = .ok (.iload_n 1, 1) := by decide +kernel
theorem dX11_strike_5 : decode cX11_strike 5 = .ok (.invokevirtual 108, 3) := by decide +kernel
theorem dX11_strike_8 : decode cX11_strike 8 = .ok (.ifCond .eq 14, 3) := by decide +kernel
theorem dX11_strike_11 : decode cX11_strike 11 = .ok (.aload_n 0, 1) := by decide +kernel
theorem dX11_strike_12 : decode cX11_strike 12 = .ok (.getfield 26, 3) := by decide +kernel
theorem dX11_strike_15 : decode cX11_strike 15 = .ok (.iload_n 2, 1) := by decide +kernel
theorem dX11_strike_16 : decode cX11_strike 16 = .ok (.invokevirtual 99, 3) := by decide +kernel
theorem dX11_strike_19 : decode cX11_strike 19 = .ok (.ifCond .ne 13, 3) := by decide +kernel
theorem dX11_strike_32 : decode cX11_strike 32 = .ok (.aload_n 0, 1) := by decide +kernel
theorem dX11_strike_33 : decode cX11_strike 33 = .ok (.getfield 26, 3) := by decide +kernel
theorem dX11_strike_36 : decode cX11_strike 36 = .ok (.iload_n 1, 1) := by decide +kernel
theorem dX11_strike_37 : decode cX11_strike 37 = .ok (.iload_n 2, 1) := by decide +kernel
theorem dX11_strike_38 : decode cX11_strike 38 = .ok (.invokevirtual 148, 3) := by decide +kernel
theorem dX11_strike_41 : decode cX11_strike 41 = .ok (.aload_n 0, 1) := by decide +kernel
theorem dX11_strike_42 : decode cX11_strike 42 = .ok (.getfield 26, 3) := by decide +kernel
theorem dX11_strike_45 : decode cX11_strike 45 = .ok (.getfield 152, 3) := by decide +kernel
theorem dX11_strike_48 : decode cX11_strike 48 = .ok (.ireturn, 1) := by decide +kernel
theorem dX11_trim_0 : decode cX11_trim 0 = .ok (.iload_n 1, 1) := by decide +kernel
theorem dX11_trim_1 : decode cX11_trim 1 = .ok (.ifCond .lt 14, 3) := by decide +kernel
theorem dX11_trim_4 : decode cX11_trim 4 = .ok (.iload_n 1, 1) := by decide +kernel
theorem dX11_trim_5 : decode cX11_trim 5 = .ok (.aload_n 0, 1) := by decide +kernel
theorem dX11_trim_6 : decode cX11_trim 6 = .ok (.getfield 10, 3) := by decide +kernel
theorem dX11_trim_9 : decode cX11_trim 9 = .ok (.getfield 61, 3) := by decide +kernel
theorem dX11_trim_12 : decode cX11_trim 12 = .ok (.if_icmp .le 13, 3) := by decide +kernel
theorem dX11_trim_25 : decode cX11_trim 25 = .ok (.aload_n 0, 1) := by decide +kernel
theorem dX11_trim_26 : decode cX11_trim 26 = .ok (.getfield 10, 3) := by decide +kernel
theorem dX11_trim_29 : decode cX11_trim 29 = .ok (.iload_n 1, 1) := by decide +kernel
theorem dX11_trim_30 : decode cX11_trim 30 = .ok (.invokevirtual 69, 3) := by decide +kernel
theorem dX11_trim_33 : decode cX11_trim 33 = .ok (.iload_n 1, 1) := by decide +kernel
theorem dX11_trim_34 : decode cX11_trim 34 = .ok (.ireturn, 1) := by decide +kernel
theorem dX11_wind_0 : decode cX11_wind 0 = .ok (.aload_n 0, 1) := by decide +kernel
theorem dX11_wind_1 : decode cX11_wind 1 = .ok (.getfield 26, 3) := by decide +kernel
theorem dX11_wind_4 : decode cX11_wind 4 = .ok (.iload_n 1, 1) := by decide +kernel
theorem dX11_wind_5 : decode cX11_wind 5 = .ok (.invokevirtual 99, 3) := by decide +kernel
theorem dX11_wind_8 : decode cX11_wind 8 = .ok (.ifCond .ne 13, 3) := by decide +kernel
theorem dX11_wind_21 : decode cX11_wind 21 = .ok (.iload_n 2, 1) := by decide +kernel
theorem dX11_wind_22 : decode cX11_wind 22 = .ok (.ifCond .lt 9, 3) := by decide +kernel
theorem dX11_wind_25 : decode cX11_wind 25 = .ok (.iload_n 2, 1) := by decide +kernel
theorem dX11_wind_26 : decode cX11_wind 26 = .ok (.bipush 20, 2) := by decide +kernel
theorem dX11_wind_28 : decode cX11_wind 28 = .ok (.if_icmp .le 13, 3) := by decide +kernel
theorem dX11_wind_41 : decode cX11_wind 41 = .ok (.aload_n 0, 1) := by decide +kernel
theorem dX11_wind_42 : decode cX11_wind 42 = .ok (.getfield 26, 3) := by decide +kernel
theorem dX11_wind_45 : decode cX11_wind 45 = .ok (.iload_n 1, 1) := by decide +kernel
theorem dX11_wind_46 : decode cX11_wind 46 = .ok (.iload_n 2, 1) := by decide +kernel
theorem dX11_wind_47 : decode cX11_wind 47 = .ok (.invokevirtual 161, 3) := by decide +kernel
theorem dX11_wind_50 : decode cX11_wind 50 = .ok (.ireturn, 1) := by decide +kernel
/-! the whole object: strikes, rounds, what would be -/
theorem AbB.out {c : Nat} {I I1 : Nat → Nat → Int32} {B : BS} (h : AbB I c B) (o : ∀ y j, c ≤ y → y < c + 58 → I1 y j = I y j) : AbB I1 c B := by
  obtain ⟨⟨a1, a2⟩, ⟨a3, a4⟩, ⟨a5, a6⟩, ⟨a7, a8⟩, b1, b2, z, b3, b4, b5, b6⟩ := h
  have q2 : I1 (c + 2) = I (c + 2) := funext fun j => o _ _ (by omega) (by omega)
  have q3 : I1 (c + 3) = I (c + 3) := funext fun j => o _ _ (by omega) (by omega)
  have qs : ∀ p r s, SegC I c p r s → SegC I1 c p r s := by
    intro p r s hs rd
    rw [q2, q3]
    exact hs rd
  refine ⟨⟨(o _ _ (by omega) (by omega)).trans a1, a2⟩, ⟨(o _ _ (by omega) (by omega)).trans a3, a4⟩, ⟨(o _ _ (by omega) (by omega)).trans a5, a6⟩, ⟨(o _ _ (by omega) (by omega)).trans a7, a8⟩, ?_, ?_, z, (o _ _ (by omega) (by omega)).trans b3, b4, ?_, ?_⟩
  · intro i hi j hj
    rw [o _ _ (by omega) (by omega)]
    exact b1 i hi j hj
  · intro i hi
    rw [o _ _ (by omega) (by omega), o _ _ (by omega) (by omega)]
    exact b2 i hi
  · intro i hi
    obtain ⟨p1, r1, e1, e2, e3, e4, e5⟩ := b5 i hi
    refine ⟨p1, r1, (o _ _ (by omega) (by omega)).trans e1, (o _ _ (by omega) (by omega)).trans e2, e3, e4, ?_⟩
    cases hh : B.tt i with
    | none => rw [hh] at e5; exact e5
    | some s => rw [hh] at e5; exact ⟨e5.1, qs _ _ _ e5.2⟩
  · intro i hi
    obtain ⟨p1, r1, t1, e1, e2, e3, e4, e5, e6, e7, e8⟩ := b6 i hi
    exact ⟨p1, r1, t1, (o _ _ (by omega) (by omega)).trans e1, (o _ _ (by omega) (by omega)).trans e2, (o _ _ (by omega) (by omega)).trans e3, e4, e5, e6, qs _ _ _ e7, qs _ _ _ e8⟩
theorem AbM.out {c : Nat} {I I1 : Nat → Nat → Int32} {B : BS} {m : MS} (hB : AbB I c B) (hm : AbM I c B m) (q : ∀ y j, c ≤ y → y < c + 58 → I1 y j = I y j) : AbM I1 c B m := by
  have u5 : B.nR ≤ 4 := hB.1.2
  have u6 : B.nF ≤ 8 := hB.2.1.2
  have u7 : B.nP ≤ 8 := hB.2.2.1.2
  obtain ⟨a1, a2, a3, a4, a5, a6, a7, a8, a9, a10, a11⟩ := hm
  exact ⟨fun i hi j hj => (q _ _ (by omega) (by omega)).trans (a1 i hi j hj), fun i hi j hj => (q _ _ (by omega) (by omega)).trans (a2 i hi j hj), fun i hi j hj => (q _ _ (by omega) (by omega)).trans (a3 i hi j hj), fun j hj => (q _ _ (by omega) (by omega)).trans (a4 j hj), (q _ _ (by omega) (by omega)).trans a5, fun k hk => by rw [q _ _ (by omega) (by omega)]; exact a6 k hk, fun k hk => (q _ _ (by omega) (by omega)).trans (a7 k hk), (q _ _ (by omega) (by omega)).trans a8, a9, a10, fun i hi => by rw [q _ _ (by omega) (by omega)]; exact a11 i hi⟩
section Fs
variable {G : Gp} {K : Nat → Int64} {S : AMem} {I : Nat → Nat → Int32} {J : Nat → Nat → Int64} {R : Nat → Nat → Option Nat} {x : Nat} {s : XS}
theorem flM_ticks {B : BS} {m : MS} {f r : Nat} {arm : Int32} (n : Nat) : (flM B m f r arm n).2.2.2.2.1 ≤ n := (flS_ticks n).1
theorem XQ.now {I1 : Nat → Nat → Int32} {c o : Nat} {B : BS} {m : MS} {v : AV} (hC : XC S R x c o) (hA : AbX K I J x c o s) (hB : AbB I1 c B) (hm : AbM I1 c B m) (h : OffC c I I1) : XQ K S x I J R (.inr (v, (s.E, B, m, s.er))) (.inl (some v)) (mw S I1 J R) := ⟨rfl, I1, J, R, rfl, ⟨c, o, hC, hA.now hC hB hm h⟩, h.w hC⟩
theorem k_X11_strike {i k : Int32} (hG : okG G) (h : XW K S x s I J R) : MW G mX11_strike 6 0 (ent 3 [vR x, vI i, vI k]) [] (mw S I J R) (XQ K S x I J R (if (0 ≤ i ∧ i < nI s.B.nF) ∧ 0 ≤ k ∧ k < nI s.B.nR then .inr (vI ((hitM s.B s.m i.toNatClampNeg k.toNatClampNeg).g 1), (s.E, s.B, hitM s.B s.m i.toNatClampNeg k.toNatClampNeg, s.er)) else .inl 22)) := by
  obtain ⟨c, o, hC, hA⟩ := id h
  obtain ⟨kx, r0, r1, r2, r3, r4, hco, htp, htc, hct, hot, kr, rr⟩ := id hC
  obtain ⟨hE, hB, hM, ho, he, hk⟩ := id hA
  have kc := hct.1
  have un := hB.2.1.2
  have um := hB.1.2
  refine am_aload_n (q := 1) dX11_strike_0 rfl rfl ?_
  refine cm_getR (q := 4) dX11_strike_1 flX11_26 rfl (by assumption) (by assumption) rfl ?_
  refine am_iload_n (q := 5) dX11_strike_4 rfl rfl ?_
  refine cm_call0 (q := 8) (As := [_]) hG dX11_strike_5 mlX11_108 rfl (by assumption) ⟨_, _, rfl⟩ (Nat.le_of_ble_eq_true rfl) (Nat.le_of_ble_eq_true rfl) (Nat.le_of_ble_eq_true rfl) (Nat.le_of_ble_eq_true rfl) (k_X2_hasFist hct hB.2.1.1 hB.2.1.2) rfl ?_
  rintro _ _ ⟨rfl, rfl⟩
  refine am_if_eq (tgt := 22) (q := 11) dX11_strike_8 rfl rfl (fun h1 => ?_) (fun h1 => ?_)
  · rw [if_neg (fun q => bI_e0.mp h1 q.1)]
    exact am_stop ⟨rfl, rfl⟩
  · refine am_aload_n (q := 12) dX11_strike_11 rfl rfl ?_
    refine cm_getR (q := 15) dX11_strike_12 flX11_26 rfl (by assumption) (by assumption) rfl ?_
    refine am_iload_n (q := 16) dX11_strike_15 rfl rfl ?_
    refine cm_call0 (q := 19) (As := [_]) hG dX11_strike_16 mlX11_99 rfl (by assumption) ⟨_, _, rfl⟩ (Nat.le_of_ble_eq_true rfl) (Nat.le_of_ble_eq_true rfl) (Nat.le_of_ble_eq_true rfl) (Nat.le_of_ble_eq_true rfl) (k_X2_hasRail hct hB.1.1 hB.1.2) rfl ?_
    rintro _ _ ⟨rfl, rfl⟩
    refine am_if_ne (tgt := 32) (q := 22) dX11_strike_19 rfl rfl (fun h2 => ?_) (fun h2 => ?_)
    · rw [if_pos ⟨bI_n0.mp h1, bI_n0.mp h2⟩]
      obtain ⟨j, hj, rfl⟩ := k_idx (by omega) (bI_n0.mp h1)
      obtain ⟨r, hr, rfl⟩ := k_idx (by omega) (bI_n0.mp h2)
      rw [nI_clamp (show j < 2 ^ 31 by omega), nI_clamp (show r < 2 ^ 31 by omega)]
      refine am_aload_n (q := 33) dX11_strike_32 rfl rfl ?_
      refine cm_getR (q := 36) dX11_strike_33 flX11_26 rfl (by assumption) (by assumption) rfl ?_
      refine am_iload_n (q := 37) dX11_strike_36 rfl rfl ?_
      refine am_iload_n (q := 38) dX11_strike_37 rfl rfl ?_
      refine cm_call0 (q := 41) (As := [_, _]) hG dX11_strike_38 mlX11_148 rfl (by assumption) ⟨_, _, rfl⟩ (Nat.le_of_ble_eq_true rfl) (Nat.le_of_ble_eq_true rfl) (Nat.le_of_ble_eq_true rfl) (Nat.le_of_ble_eq_true rfl) (k_X2_hit hG hct hB hM hj hr) rfl ?_
      rintro _ _ ⟨rfl, I1, rfl, g1, g2, g3⟩
      have e : I1 c 14 = (hitM s.B s.m j r).g 1 := g2.2.2.2.1 1 (by decide)
      refine am_aload_n (q := 42) dX11_strike_41 rfl rfl ?_
      refine cm_getR (q := 45) dX11_strike_42 flX11_26 rfl (by assumption) (by assumption) rfl ?_
      refine cm_getI (q := 48) dX11_strike_45 flX11_152 rfl (by assumption) rfl ?_
      rw [e]
      exact am_iret dX11_strike_48 rfl rfl (XQ.now hC hA g1 g2 g3)
    · rw [if_neg (fun q => bI_e0.mp h2 q.2)]
      exact am_stop ⟨rfl, rfl⟩
/-- the spring of a rail wound -/
def wndM (m : MS) (r : Nat) (v : Int32) : MS := mkMS m.fist (up2 m.rail r 2 v) m.prize m.g m.row m.bd m.nb
theorem k_X11_wind {k v : Int32} (hG : okG G) (h : XW K S x s I J R) : MW G mX11_wind 6 0 (ent 3 [vR x, vI k, vI v]) [] (mw S I J R) (XQ K S x I J R (if 0 ≤ k ∧ k < nI s.B.nR then (if 0 ≤ v ∧ v ≤ 20 then .inr (vI (s.m.rail k.toNatClampNeg 2), (s.E, s.B, wndM s.m k.toNatClampNeg v, s.er)) else .inl 31) else .inl 11)) := by
  obtain ⟨c, o, hC, hA⟩ := id h
  obtain ⟨kx, r0, r1, r2, r3, r4, hco, htp, htc, hct, hot, kr, rr⟩ := id hC
  obtain ⟨hE, hB, hM, ho, he, hk⟩ := id hA
  have kc := hct.1
  have um := hB.1.2
  refine am_aload_n (q := 1) dX11_wind_0 rfl rfl ?_
  refine cm_getR (q := 4) dX11_wind_1 flX11_26 rfl (by assumption) (by assumption) rfl ?_
  refine am_iload_n (q := 5) dX11_wind_4 rfl rfl ?_
  refine cm_call0 (q := 8) (As := [_]) hG dX11_wind_5 mlX11_99 rfl (by assumption) ⟨_, _, rfl⟩ (Nat.le_of_ble_eq_true rfl) (Nat.le_of_ble_eq_true rfl) (Nat.le_of_ble_eq_true rfl) (Nat.le_of_ble_eq_true rfl) (k_X2_hasRail hct hB.1.1 hB.1.2) rfl ?_
  rintro _ _ ⟨rfl, rfl⟩
  refine am_if_ne (tgt := 21) (q := 11) dX11_wind_8 rfl rfl (fun h1 => ?_) (fun h1 => ?_)
  · rw [if_pos (bI_n0.mp h1)]
    refine am_iload_n (q := 22) dX11_wind_21 rfl rfl ?_
    refine am_if_lt (tgt := 31) (q := 25) dX11_wind_22 rfl rfl (fun h2 => ?_) (fun h2 => ?_)
    · rw [if_neg (fun q => Int32.not_le.mpr h2 q.1)]
      exact am_stop ⟨rfl, rfl⟩
    · refine am_iload_n (q := 26) dX11_wind_25 rfl rfl ?_
      refine am_bipush (q := 28) (v := 20) dX11_wind_26 kc_b20 rfl ?_
      refine am_icmp_le (tgt := 41) (q := 31) dX11_wind_28 rfl rfl (fun h3 => ?_) (fun h3 => ?_)
      · rw [if_pos ⟨Int32.not_lt.mp h2, h3⟩]
        obtain ⟨r, hr, rfl⟩ := k_idx (by omega) (bI_n0.mp h1)
        rw [nI_clamp (show r < 2 ^ 31 by omega)]
        refine am_aload_n (q := 42) dX11_wind_41 rfl rfl ?_
        refine cm_getR (q := 45) dX11_wind_42 flX11_26 rfl (by assumption) (by assumption) rfl ?_
        refine am_iload_n (q := 46) dX11_wind_45 rfl rfl ?_
        refine am_iload_n (q := 47) dX11_wind_46 rfl rfl ?_
        refine cm_call0 (q := 50) (As := [_, _]) hG dX11_wind_47 mlX11_161 rfl (by assumption) ⟨_, _, rfl⟩ (Nat.le_of_ble_eq_true rfl) (Nat.le_of_ble_eq_true rfl) (Nat.le_of_ble_eq_true rfl) (Nat.le_of_ble_eq_true rfl) (k_X2_changeSpring hG hct hB hM hr) rfl ?_
        rintro _ _ ⟨rfl, I1, rfl, g1, g2, g3⟩
        exact am_iret dX11_wind_50 rfl rfl (XQ.now hC hA g1 g2 g3)
      · rw [if_neg (fun q => h3 q.2)]
        exact am_stop ⟨rfl, rfl⟩
  · rw [if_neg (bI_e0.mp h1)]
    exact am_stop ⟨rfl, rfl⟩
theorem k_X11_pass {n : Int32} (hG : okG G) (h : XW K S x s I J R) : MW G mX11_pass 7 0 (ent 3 [vR x, vI n]) [] (mw S I J R) (XQ K S x I J R (if 1 ≤ n ∧ n ≤ 30 then .inr (vI (gvnM s.B (plyM s.B n.toNatClampNeg s.m) - gvnM s.B s.m), (s.E, s.B, plyM s.B n.toNatClampNeg s.m, s.er)) else .inl 11)) := by
  obtain ⟨c, o, hC, hA⟩ := id h
  obtain ⟨kx, r0, r1, r2, r3, r4, hco, htp, htc, hct, hot, kr, rr⟩ := id hC
  obtain ⟨hE, hB, hM, ho, he, hk⟩ := id hA
  have kc := hct.1
  have e5 : I c 18 = gvnM s.B s.m := hM.2.2.2.2.1
  refine am_iload_n (q := 1) dX11_pass_0 rfl rfl ?_
  refine am_iconst (q := 2) (v := 1) dX11_pass_1 kc_i1 rfl ?_
  refine am_icmp_lt (tgt := 11) (q := 5) dX11_pass_2 rfl rfl (fun h1 => ?_) (fun h1 => ?_)
  · rw [if_neg (fun q => Int32.not_le.mpr h1 q.1)]
    exact am_stop ⟨rfl, rfl⟩
  · refine am_iload_n (q := 6) dX11_pass_5 rfl rfl ?_
    refine am_bipush (q := 8) (v := 30) dX11_pass_6 kc_b30 rfl ?_
    refine am_icmp_le (tgt := 21) (q := 11) dX11_pass_8 rfl rfl (fun h2 => ?_) (fun h2 => ?_)
    · rw [if_pos ⟨Int32.not_lt.mp h1, h2⟩]
      obtain ⟨j, hj, rfl⟩ := k_idx2 (v := 30) (n := 30) rfl (by decide) (fun q => h1 (Int32.lt_trans q (by decide))) h2
      rw [nI_clamp (show j < 2 ^ 31 by omega)]
      refine am_aload_n (q := 22) dX11_pass_21 rfl rfl ?_
      refine cm_getR (q := 25) dX11_pass_22 flX11_26 rfl (by assumption) (by assumption) rfl ?_
      refine cm_getI (q := 28) dX11_pass_25 flX11_166 rfl (by assumption) rfl ?_
      rw [e5]
      refine am_istore_n (q := 29) (ls1 := [_, _, _]) dX11_pass_28 (Nat.le_of_ble_eq_true rfl) rfl rfl ?_
      refine am_aload_n (q := 30) dX11_pass_29 rfl rfl ?_
      refine cm_getR (q := 33) dX11_pass_30 flX11_26 rfl (by assumption) (by assumption) rfl ?_
      refine am_iload_n (q := 34) dX11_pass_33 rfl rfl ?_
      refine cm_call0 (q := 37) (As := [_]) hG dX11_pass_34 mlX11_169 rfl (by assumption) ⟨_, _, rfl⟩ (Nat.le_of_ble_eq_true rfl) (Nat.le_of_ble_eq_true rfl) (Nat.le_of_ble_eq_true rfl) (Nat.le_of_ble_eq_true rfl) (k_X2_play hG hct hB hM (by omega)) rfl ?_
      rintro _ _ ⟨rfl, I1, rfl, g1, g2, g3⟩
      have e6 : I1 c 18 = gvnM s.B (plyM s.B j s.m) := g2.2.2.2.2.1
      refine am_aload_n (q := 38) dX11_pass_37 rfl rfl ?_
      refine cm_getR (q := 41) dX11_pass_38 flX11_26 rfl (by assumption) (by assumption) rfl ?_
      refine cm_getI (q := 44) dX11_pass_41 flX11_166 rfl (by assumption) rfl ?_
      rw [e6]
      refine am_iload_n (q := 45) dX11_pass_44 rfl rfl ?_
      refine am_isub (q := 46) dX11_pass_45 rfl ?_
      exact am_iret dX11_pass_46 rfl rfl (XQ.now hC hA g1 g2 g3)
    · rw [if_neg (fun q => h2 q.2)]
      exact am_stop ⟨rfl, rfl⟩
/-- what a flight tells: highest place, bells, ticks -/
def wldM (B : BS) (m : MS) (f r : Nat) (w : Int32) : Int32 := if w = 0 then (flM B m f r (m.fist f 0) 300).2.2.1 else if w = 1 then (flM B m f r (m.fist f 0) 300).2.2.2.1 else nI (flM B m f r (m.fist f 0) 300).2.2.2.2.1
/-- where the puck is behind so many ticks -/
def pthM (B : BS) (m : MS) (f r t : Nat) : Int32 := if 1 ≤ t ∧ t ≤ (flM B m f r (m.fist f 0) 300).2.2.2.2.1 then (flM B m f r (m.fist f 0) t).1 else 0
/-- the least arm from k on, of n more, with which a bell rings -/
def ndsM (B : BS) (m : MS) (f r : Nat) : Nat → Nat → Int32
  | _, 0 => -1
  | k, n + 1 => if 0 < (flM B m f r (nI k) 300).2.2.2.1 then nI k else ndsM B m f r (k + 1) n
theorem k_X11_needs {i k : Int32} (hG : okG G) (h : XW K S x s I J R) : MW G mX11_needs 6 0 (ent 4 [vR x, vI i, vI k]) [] (mw S I J R) (XQ K S x I J R (if (0 ≤ i ∧ i < nI s.B.nF) ∧ 0 ≤ k ∧ k < nI s.B.nR then .inr (vI (ndsM s.B s.m i.toNatClampNeg k.toNatClampNeg 1 99), s) else .inl 22)) := by
  obtain ⟨c, o, hC, hA⟩ := id h
  obtain ⟨kx, r0, r1, r2, r3, r4, hco, htp, htc, hct, hot, kr, rr⟩ := id hC
  obtain ⟨hE, hB, hM, ho, he, hk⟩ := id hA
  have kc := hct.1
  have kf : S.K (c + 7) = 5 := by
    obtain ⟨kc, rc0, rc1, rc2, rc3, rc4, rc5, rc6, rc7, ⟨kd, rd0, rd1, rd2, kd2, ld2, kd3, ld3, kd4, ld4⟩, ⟨kb, rb, kb6, lb6⟩, ⟨kf, rf, kf8, lf8⟩, ⟨kr, lr, hr⟩, ⟨kfi, lfi, hfi⟩, ⟨kp, lp, hpz⟩, ⟨kt, lt, htu⟩, kw, lw⟩ := id hct
    exact kf
  have un := hB.2.1.2
  have um := hB.1.2
  refine am_aload_n (q := 1) dX11_needs_0 rfl rfl ?_
  refine cm_getR (q := 4) dX11_needs_1 flX11_26 rfl (by assumption) (by assumption) rfl ?_
  refine am_iload_n (q := 5) dX11_needs_4 rfl rfl ?_
  refine cm_call0 (q := 8) (As := [_]) hG dX11_needs_5 mlX11_108 rfl (by assumption) ⟨_, _, rfl⟩ (Nat.le_of_ble_eq_true rfl) (Nat.le_of_ble_eq_true rfl) (Nat.le_of_ble_eq_true rfl) (Nat.le_of_ble_eq_true rfl) (k_X2_hasFist hct hB.2.1.1 hB.2.1.2) rfl ?_
  rintro _ _ ⟨rfl, rfl⟩
  refine am_if_eq (tgt := 22) (q := 11) dX11_needs_8 rfl rfl (fun h1 => ?_) (fun h1 => ?_)
  · rw [if_neg (fun q => bI_e0.mp h1 q.1)]
    exact am_stop ⟨rfl, rfl⟩
  · refine am_aload_n (q := 12) dX11_needs_11 rfl rfl ?_
    refine cm_getR (q := 15) dX11_needs_12 flX11_26 rfl (by assumption) (by assumption) rfl ?_
    refine am_iload_n (q := 16) dX11_needs_15 rfl rfl ?_
    refine cm_call0 (q := 19) (As := [_]) hG dX11_needs_16 mlX11_99 rfl (by assumption) ⟨_, _, rfl⟩ (Nat.le_of_ble_eq_true rfl) (Nat.le_of_ble_eq_true rfl) (Nat.le_of_ble_eq_true rfl) (Nat.le_of_ble_eq_true rfl) (k_X2_hasRail hct hB.1.1 hB.1.2) rfl ?_
    rintro _ _ ⟨rfl, rfl⟩
    refine am_if_ne (tgt := 32) (q := 22) dX11_needs_19 rfl rfl (fun h2 => ?_) (fun h2 => ?_)
    · rw [if_pos ⟨bI_n0.mp h1, bI_n0.mp h2⟩]
      obtain ⟨j, hj, rfl⟩ := k_idx (by omega) (bI_n0.mp h1)
      obtain ⟨r, hr, rfl⟩ := k_idx (by omega) (bI_n0.mp h2)
      rw [nI_clamp (show j < 2 ^ 31 by omega), nI_clamp (show r < 2 ^ 31 by omega)]
      refine am_iconst (q := 33) (v := 1) dX11_needs_32 kc_i1 rfl ?_
      refine am_istore_n (q := 34) (ls1 := [_, _, _, _]) dX11_needs_33 (Nat.le_of_ble_eq_true rfl) rfl rfl ?_
      refine k_loop (σ := Nat → Nat → Int32) (n := 99) (Inv := fun a I1 => ndsM s.B s.m j r (a + 1) (99 - a) = ndsM s.B s.m j r 1 99 ∧ Qt c I I1) (W := fun a I1 => MW G mX11_needs 6 34 [some (vR x), some (vI (nI j)), some (vI (nI r)), some (vI (nI (a + 1)))] [] (mw S I1 J R) _) ?_ ?_ 0 I (Nat.zero_le _) ⟨rfl, Qt.rf⟩
      · rintro a I1 ha ⟨hinv, q1⟩ ih
        refine am_iload_n (q := 35) dX11_needs_34 rfl rfl ?_
        refine am_bipush (q := 37) (v := 99) dX11_needs_35 kc_b99 rfl ?_
        refine am_icmp_gt (tgt := 64) (q := 40) dX11_needs_37 rfl rfl (fun hz => absurd hz (Int32.not_lt.mpr (nI_le (b := 99) (by omega) (by decide)))) (fun _ => ?_)
        refine am_aload_n (q := 41) dX11_needs_40 rfl rfl ?_
        refine cm_getR (q := 44) dX11_needs_41 flX11_26 rfl (by assumption) (by assumption) rfl ?_
        refine am_iload_n (q := 45) dX11_needs_44 rfl rfl ?_
        refine am_iload_n (q := 46) dX11_needs_45 rfl rfl ?_
        refine am_iload_n (q := 47) dX11_needs_46 rfl rfl ?_
        refine cm_call0 (q := 50) (As := [_, _, _]) hG dX11_needs_47 mlX11_192 rfl (by assumption) ⟨_, _, rfl⟩ (Nat.le_of_ble_eq_true rfl) (Nat.le_of_ble_eq_true rfl) (Nat.le_of_ble_eq_true rfl) (Nat.le_of_ble_eq_true rfl) (k_X2_flightWithArm (arm := nI (a + 1)) hG hct (hB.qt q1) (AbM.qt hB hM q1) hj hr) rfl ?_
        rintro _ _ ⟨rfl, I2, rfl, q2, g1, g2, g3, g4, g5, g6, g7⟩
        rw [show 99 - a = (99 - (a + 1)) + 1 by omega, ndsM] at hinv
        generalize flM s.B s.m j r (nI (a + 1)) 300 = fl at g1 g2 g3 g4 g5 g6 g7 hinv
        refine cm_getI (q := 53) dX11_needs_50 flX11_181 rfl (by assumption) rfl ?_
        rw [g4]
        refine am_if_le (tgt := 58) (q := 56) dX11_needs_53 rfl rfl (fun hc => ?_) (fun hc => ?_)
        · rw [if_neg (Int32.not_lt.mpr hc)] at hinv
          refine am_iincW (q := 61) (ls1 := [_, _, _, _]) (w := 1) dX11_needs_58 rfl (Nat.le_of_ble_eq_true rfl) kc_i1 rfl rfl ?_
          refine am_goto (tgt := 34) dX11_needs_61 rfl ?_
          rw [nI_1]
          exact ih I2 ⟨hinv, q1.tr q2⟩
        · rw [if_pos (Int32.not_le.mp hc)] at hinv
          rw [← hinv]
          refine am_iload_n (q := 57) dX11_needs_56 rfl rfl ?_
          exact am_iret dX11_needs_57 rfl rfl (XQ.qt hC hA (q1.tr q2))
      · rintro I1 ⟨hinv, q1⟩
        rw [Nat.sub_self, ndsM] at hinv
        rw [← hinv]
        refine am_iload_n (q := 35) dX11_needs_34 rfl rfl ?_
        refine am_bipush (q := 37) (v := 99) dX11_needs_35 kc_b99 rfl ?_
        refine am_icmp_gt (tgt := 64) (q := 40) dX11_needs_37 rfl rfl (fun _ => ?_) (fun hz => absurd (nI_lt (a := 99) (b := 100) (by omega) (by decide)) hz)
        refine am_iconst (q := 65) (v := (-1)) dX11_needs_64 kc_im1 rfl ?_
        exact am_iret dX11_needs_65 rfl rfl (XQ.qt hC hA q1)
    · rw [if_neg (fun q => bI_e0.mp h2 q.2)]
      exact am_stop ⟨rfl, rfl⟩
/-- n numbers told, behind d -/
def dgC (E : Tp) (B : BS) (m : MS) : Nat → Int64 → Int64
  | 0, d => d
  | n + 1, d => dgC E B m n d * 31 + (if n = 9 then nI E.1 else tlC B m n).toInt64
theorem k_X11_digest (hG : okG G) (h : XW K S x s I J R) : MW G mX11_digest 6 0 (ent 4 [vR x]) [] (mw S I J R) (XQ K S x I J R (.inr (vJ (digM s.B s.m (dgC s.E s.B s.m 10 761)), s))) := by
  obtain ⟨c, o, hC, hA⟩ := id h
  obtain ⟨kx, r0, r1, r2, r3, r4, hco, htp, htc, hct, hot, kr, rr⟩ := id hC
  obtain ⟨hE, hB, hM, ho, he, hk⟩ := id hA
  have kc := hct.1
  refine am_ldcJ (q := 3) (v := 761) dX11_digest_0 (tbc3 158 rfl rfl) rfl ?_
  refine am_lstore_n (q := 4) (ls1 := [_, _, _, _]) dX11_digest_3 (Nat.le_of_ble_eq_true rfl) rfl rfl ?_
  refine am_iconst (q := 5) (v := 0) dX11_digest_4 kc_i0 rfl ?_
  refine am_istore_n (q := 6) (ls1 := [_, _, _, _]) dX11_digest_5 (Nat.le_of_ble_eq_true rfl) rfl rfl ?_
  refine k_loop (σ := Int64) (n := 10) (Inv := fun a d => d = dgC s.E s.B s.m a 761) (W := fun a d => MW G mX11_digest 6 6 [some (vR x), some (vJ d), none, some (vI (nI a))] [] (mw S I J R) _) ?_ ?_ 0 761 (Nat.zero_le _) rfl
  · rintro a d ha rfl ih
    refine am_iload_n (q := 7) dX11_digest_6 rfl rfl ?_
    refine am_bipush (q := 9) (v := 9) dX11_digest_7 kc_b9 rfl ?_
    refine am_icmp_gt (tgt := 31) (q := 12) dX11_digest_9 rfl rfl (fun hz => absurd hz (Int32.not_lt.mpr (nI_le (b := 9) (by omega) (by decide)))) (fun _ => ?_)
    refine am_lload_n (q := 13) dX11_digest_12 rfl rfl ?_
    refine am_ldcJ (q := 16) (v := 31) dX11_digest_13 (tbc3 159 rfl rfl) rfl ?_
    refine am_lmul (q := 17) dX11_digest_16 rfl ?_
    refine am_aload_n (q := 18) dX11_digest_17 rfl rfl ?_
    refine am_iload_n (q := 19) dX11_digest_18 rfl rfl ?_
    refine cm_call0 (q := 22) (As := [_]) hG dX11_digest_19 mlX11_95 rfl (by assumption) ⟨_, _, rfl⟩ (Nat.le_of_ble_eq_true rfl) (Nat.le_of_ble_eq_true rfl) (Nat.le_of_ble_eq_true rfl) (Nat.le_of_ble_eq_true rfl) (k_X11_tellCount hG h ha) rfl ?_
    rintro _ _ ⟨rfl, rfl⟩
    refine am_i2l (q := 23) dX11_digest_22 rfl ?_
    refine am_ladd (q := 24) dX11_digest_23 rfl ?_
    refine am_lstore_n (q := 25) (ls1 := [_, _, _, _]) dX11_digest_24 (Nat.le_of_ble_eq_true rfl) rfl rfl ?_
    refine am_iincW (q := 28) (ls1 := [_, _, _, _]) (w := 1) dX11_digest_25 rfl (Nat.le_of_ble_eq_true rfl) kc_i1 rfl rfl ?_
    refine am_goto (tgt := 6) dX11_digest_28 rfl ?_
    rw [nI_1]
    exact ih _ rfl
  · rintro d rfl
    refine am_iload_n (q := 7) dX11_digest_6 rfl rfl ?_
    refine am_bipush (q := 9) (v := 9) dX11_digest_7 kc_b9 rfl ?_
    refine am_icmp_gt (tgt := 31) (q := 12) dX11_digest_9 rfl rfl (fun _ => ?_) (fun hz => absurd (nI_lt (a := 9) (b := 10) (by omega) (by decide)) hz)
    refine am_aload_n (q := 32) dX11_digest_31 rfl rfl ?_
    refine cm_getR (q := 35) dX11_digest_32 flX11_26 rfl (by assumption) (by assumption) rfl ?_
    refine am_lload_n (q := 36) dX11_digest_35 rfl rfl ?_
    refine cm_call0 (q := 39) (As := [_]) hG dX11_digest_36 mlX11_221 rfl (by assumption) ⟨_, _, rfl⟩ (Nat.le_of_ble_eq_true rfl) (Nat.le_of_ble_eq_true rfl) (Nat.le_of_ble_eq_true rfl) (Nat.le_of_ble_eq_true rfl) (k_X2_digestBehind hG hct hB hM) rfl ?_
    rintro _ _ ⟨rfl, I1, rfl, q⟩
    exact am_lret dX11_digest_39 rfl (XQ.qt hC hA q)
/-- the tape cut to n bytes -/
theorem k_X11_trim {n : Int32} (hG : okG G) (h : XW K S x s I J R) : MW G mX11_trim 6 0 (ent 2 [vR x, vI n]) [] (mw S I J R) (XQ K S x I J R (if 0 ≤ n ∧ n ≤ nI s.E.1 then .inr (vI n, ((n.toNatClampNeg, s.E.2), s.B, s.m, s.er)) else .inl 15)) := by
  obtain ⟨c, o, hC, hA⟩ := id h
  obtain ⟨kx, r0, r1, r2, r3, r4, hco, htp, htc, hct, hot, kr, rr⟩ := id hC
  obtain ⟨hE, hB, hM, ho, he, hk⟩ := id hA
  obtain ⟨p1, p2, p3, p4, p5⟩ := hC.lo
  have kt := htp.1
  have ul := hE.2.1
  refine am_iload_n (q := 1) dX11_trim_0 rfl rfl ?_
  refine am_if_lt (tgt := 15) (q := 4) dX11_trim_1 rfl rfl (fun h1 => ?_) (fun h1 => ?_)
  · rw [if_neg (fun q => Int32.not_le.mpr h1 q.1)]
    exact am_stop ⟨rfl, rfl⟩
  · refine am_iload_n (q := 5) dX11_trim_4 rfl rfl ?_
    refine am_aload_n (q := 6) dX11_trim_5 rfl rfl ?_
    refine cm_getR (q := 9) dX11_trim_6 flX11_10 rfl (by assumption) (by assumption) rfl ?_
    refine cm_getI (q := 12) dX11_trim_9 flX11_61 rfl (by assumption) rfl ?_
    rw [hE.1]
    refine am_icmp_le (tgt := 25) (q := 15) dX11_trim_12 rfl rfl (fun h2 => ?_) (fun h2 => ?_)
    · rw [if_pos ⟨Int32.not_lt.mp h1, h2⟩]
      obtain ⟨j, hj, rfl⟩ := k_idx2 rfl (by omega) h1 h2
      rw [nI_clamp (show j < 2 ^ 31 by omega)]
      refine am_aload_n (q := 26) dX11_trim_25 rfl rfl ?_
      refine cm_getR (q := 29) dX11_trim_26 flX11_10 rfl (by assumption) (by assumption) rfl ?_
      refine am_iload_n (q := 30) dX11_trim_29 rfl rfl ?_
      refine cm_call0 (q := 33) (As := [_]) hG dX11_trim_30 mlX11_69 rfl (by assumption) ⟨_, _, rfl⟩ (Nat.le_of_ble_eq_true rfl) (Nat.le_of_ble_eq_true rfl) (Nat.le_of_ble_eq_true rfl) (Nat.le_of_ble_eq_true rfl) (k_X8_shortenTo kt) rfl ?_
      rintro _ _ ⟨rfl, rfl⟩
      refine am_iload_n (q := 34) dX11_trim_33 rfl rfl ?_
      exact am_iret dX11_trim_34 rfl rfl ⟨rfl, _, J, R, rfl, ⟨c, o, hC, ⟨up2_s, show j ≤ 2000 by omega, fun i hi => (up2_a (by omega)).trans (hE.2.2 i (by have : i < j := hi; omega))⟩, hB.out (fun y z q1 q2 => up2_a (by omega)), AbM.out hB hM (fun y z q1 q2 => up2_a (by omega)), fun i hi => by rw [up2_a (by omega)]; exact ho i hi, (up2_a (by omega)).trans he, hk⟩, fun y q => ⟨funext fun z => up2_a (by omega), rfl, rfl⟩⟩
    · rw [if_neg (fun q => h2 q.2)]
      exact am_stop ⟨rfl, rfl⟩
end Fs

