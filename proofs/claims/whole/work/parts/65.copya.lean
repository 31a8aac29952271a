theorem dX13_become_0 : decode cX13_become 0 = .ok (.aload_n 0, 1) := by decide +kernel
theorem dX13_become_1 : decode cX13_become 1 = .ok (.aload_n 1, 1) := by decide +kernel
theorem dX13_become_2 : decode cX13_become 2 = .ok (.getfield 31, 3) := by decide +kernel
theorem dX13_become_5 : decode cX13_become 5 = .ok (.putfield 31, 3) := by decide +kernel
theorem dX13_become_8 : decode cX13_become 8 = .ok (.aload_n 0, 1) := by decide +kernel
theorem dX13_become_9 : decode cX13_become 9 = .ok (.aload_n 1, 1) := by decide +kernel
theorem dX13_become_10 : decode cX13_become 10 = .ok (.getfield 35, 3) := by decide +kernel
theorem dX13_become_13 : decode cX13_become 13 = .ok (.putfield 35, 3) := by decide +kernel
theorem dX13_become_16 : decode cX13_become 16 = .ok (.aload_n 0, 1) := by decide +kernel
theorem dX13_become_17 : decode cX13_become 17 = .ok (.aload_n 1, 1) := by decide +kernel
theorem dX13_become_18 : decode cX13_become 18 = .ok (.getfield 38, 3) := by decide +kernel
theorem dX13_become_21 : decode cX13_become 21 = .ok (.putfield 38, 3) := by decide +kernel
theorem dX13_become_24 : decode cX13_become 24 = .ok (.aload_n 0, 1) := by decide +kernel
theorem dX13_become_25 : decode cX13_become 25 = .ok (.aload_n 1, 1) := by decide +kernel
theorem dX13_become_26 : decode cX13_become 26 = .ok (.getfield 41, 3) := by decide +kernel
theorem dX13_become_29 : decode cX13_become 29 = .ok (.putfield 41, 3) := by decide +kernel
theorem dX13_become_32 : decode cX13_become 32 = .ok (.aload_n 0, 1) := by decide +kernel
theorem dX13_become_33 : decode cX13_become 33 = .ok (.aload_n 1, 1) := by decide +kernel
theorem dX13_become_34 : decode cX13_become 34 = .ok (.getfield 44, 3) := by decide +kernel
theorem dX13_become_37 : decode cX13_become 37 = .ok (.putfield 44, 3) := by decide +kernel
theorem dX13_become_40 : decode cX13_become 40 = .ok (.aload_n 0, 1) := by decide +kernel
theorem dX13_become_41 : decode cX13_become 41 = .ok (.aload_n 1, 1) := by decide +kernel
theorem dX13_become_42 : decode cX13_become 42 = .ok (.getfield 47, 3) := by decide +kernel
theorem dX13_become_45 : decode cX13_become 45 = .ok (.putfield 47, 3) := by decide +kernel
theorem dX13_become_48 : decode cX13_become 48 = .ok (.aload_n 1, 1) := by decide +kernel
theorem dX13_become_49 : decode cX13_become 49 = .ok (.getfield 7, 3) := by decide +kernel
theorem dX13_become_52 : decode cX13_become 52 = .ok (.aload_n 0, 1) := by decide +kernel
theorem dX13_become_53 : decode cX13_become 53 = .ok (.getfield 7, 3) := by decide +kernel
theorem dX13_become_56 : decode cX13_become 56 = .ok (.invokestatic 50, 3) := by decide +kernel
theorem dX13_become_59 : decode cX13_become 59 = .ok (.aload_n 1, 1) := by decide +kernel
theorem dX13_become_60 : decode cX13_become 60 = .ok (.getfield 13, 3) := by decide +kernel
theorem dX13_become_63 : decode cX13_become 63 = .ok (.aload_n 0, 1) := by decide +kernel
theorem dX13_become_64 : decode cX13_become 64 = .ok (.getfield 13, 3) := by decide +kernel
theorem dX13_become_67 : decode cX13_become 67 = .ok (.invokestatic 50, 3) := by decide +kernel
theorem dX13_become_70 : decode cX13_become 70 = .ok (.aload_n 1, 1) := by decide +kernel
theorem dX13_become_71 : decode cX13_become 71 = .ok (.getfield 16, 3) := by decide +kernel
theorem dX13_become_74 : decode cX13_become 74 = .ok (.aload_n 0, 1) := by decide +kernel
theorem dX13_become_75 : decode cX13_become 75 = .ok (.getfield 16, 3) := by decide +kernel
theorem dX13_become_78 : decode cX13_become 78 = .ok (.invokestatic 50, 3) := by decide +kernel
theorem dX13_become_81 : decode cX13_become 81 = .ok (.aload_n 1, 1) := by decide +kernel
theorem dX13_become_82 : decode cX13_become 82 = .ok (.getfield 19, 3) := by decide +kernel
theorem dX13_become_85 : decode cX13_become 85 = .ok (.aload_n 0, 1) := by decide +kernel
theorem dX13_become_86 : decode cX13_become 86 = .ok (.getfield 19, 3) := by decide +kernel
theorem dX13_become_89 : decode cX13_become 89 = .ok (.invokestatic 50, 3) := by decide +kernel
theorem dX13_become_92 : decode cX13_become 92 = .ok (.aload_n 1, 1) := by decide +kernel
theorem dX13_become_93 : decode cX13_become 93 = .ok (.getfield 22, 3) := by decide +kernel
theorem dX13_become_96 : decode cX13_become 96 = .ok (.aload_n 0, 1) := by decide +kernel
theorem dX13_become_97 : decode cX13_become 97 = .ok (.getfield 22, 3) := by decide +kernel
theorem dX13_become_100 : decode cX13_become 100 = .ok (.invokestatic 50, 3) := by decide +kernel
theorem dX13_become_103 : decode cX13_become 103 = .ok (.return_, 1) := by decide +kernel
theorem dX13_copy_0 : decode cX13_copy 0 = .ok (.aload_n 0, 1) := by decide +kernel
theorem dX13_copy_1 : decode cX13_copy 1 = .ok (.iconst 0, 1) := by decide +kernel
theorem dX13_copy_2 : decode cX13_copy 2 = .ok (.aload_n 1, 1) := by decide +kernel
theorem dX13_copy_3 : decode cX13_copy 3 = .ok (.iconst 0, 1) := by decide +kernel
theorem dX13_copy_4 : decode cX13_copy 4 = .ok (.aload_n 0, 1) := by decide +kernel
theorem dX13_copy_5 : decode cX13_copy 5 = .ok (.arraylength, 1) := by decide +kernel
theorem dX13_copy_6 : decode cX13_copy 6 = .ok (.invokestatic 25, 3) := by decide +kernel
theorem dX13_copy_9 : decode cX13_copy 9 = .ok (.return_, 1) := by decide +kernel
/-! rows are copied -/
theorem tb_cpy1 : Cond.native arraycopyName ∈ TB := tbc8 37 rfl rfl
theorem tb_cpy2 : Cond.static arraycopyName ∈ TB := tbc8 36 rfl rfl
theorem tb_cpy3 : Cond.initialized "java/lang/System" ∈ TB := tbc1 27 rfl rfl
section Ac
variable {G : Gp} {Y : MD} {d pc : Nat} {ls : List (Option AV)} {M : AMem} {Q : (Option AV ⊕ Nat) → AMem → Prop}
def cpM (M : AMem) (a0 a n : Nat) : AMem := mkM M.ad M.hs M.sl M.K M.ln (fun x j => if x = a ∧ j < n then M.I a0 j else M.I x j) M.J M.R
theorem am_acopy {index a0 a n : Nat} (hd : decode Y.cc pc = .ok (.invokestatic index, 3)) (h1 : Cond.methodLink Y.y.cls index arraycopyName ∈ TB) (h2 : Cond.native arraycopyName ∈ TB) (h3 : Cond.static arraycopyName ∈ TB) (h4 : Cond.initialized "java/lang/System" ∈ TB) (hd1 : 1 ≤ d) (hK0 : M.K a0 = 20) (hK : M.K a = 20) (hn : n ≤ M.ln a0 ∧ n ≤ M.ln a ∧ n < 2 ^ 31) {q : Nat} (hq : pc + 3 = q) (k : MW G Y d q ls [] (cpM M a0 a n) Q) : MW G Y d pc ls [vI (nI n), vI 0, vR a, vI 0, vR a0] M Q := by
  subst hq
  obtain ⟨hn0, hn1, hn2⟩ := hn
  refine MW.step (?_ : Reach G Y d pc ls [vI (nI n), vI 0, vR a, vI 0, vR a0] M (pc + 3) ls [] (cpM M a0 a n)) k
  refine ⟨Nat.le_refl _, Nat.le_refl _, fun p e R s m args below meth c H locs cells slots lsr Q0 hC hW hS hL hcc hss kk => ?_⟩
  obtain ⟨q0, hq0⟩ := am_in hW (show M.K a0 ≠ 0 by omega)
  obtain ⟨q1, hq1⟩ := am_in hW (show M.K a ≠ 0 by omega)
  have hq1' := hq1
  rw [am_cell_I hK0] at hq0
  rw [am_cell_I hK] at hq1
  have hKt := hC.2.2.2.2.2.1
  have hts := hC.2.2.2.2.1
  have hfr := hC.2.2.2.2.2.2.2.2.1
  have hlo := hC.2.2.2.2.2.2.2.2.2.1
  have c0 : (0 : Int32).toNatClampNeg = 0 := rfl
  have cn : (nI n).toNatClampNeg = n := nI_clamp hn2
  have tn : (nI n).toInt = (n : Int) := nI_toInt hn2
  intro T hT X
  have hc0 : H[a0]? = some (vp_cell (G.ca 0) (M.ln a0, .inl (M.I a0))) := hW.1 q0 _ hq0
  have hc1 : H[a]? = some (vp_cell (G.ca 0) (M.ln a, .inl (M.I a))) := hW.1 q1 _ hq1
  obtain ⟨-, k0, hk0, cm0, hkk0⟩ := (hKt.2 0 _ rfl).1 (M.ln a0) (fun j => .int (M.I a0 j))
  obtain ⟨-, k1, hk1, cm1, hkk1⟩ := (hKt.2 0 _ rfl).1 (M.ln a) (fun j => .int (M.I a j))
  obtain ⟨vm', X', step⟩ := X.arraycopy hC.1 hC.2.2.2.1 (hts _ h1) (hts _ h2) (hts _ h3) (hts _ h4) (src := a0) (dst := a) (cs := vp_cell (G.ca 0) (M.ln a0, .inl (M.I a0))) (cd := vp_cell (G.ca 0) (M.ln a, .inl (M.I a))) (srcPos := 0) (destPos := 0) (n := nI n) (by rw [hT]; exact hc0) (by rw [hT]; exact hc1)
    (fun _ h => by cases h) (fun _ h => by cases h) (fun h => by cases h) (fun h => by cases h) hk0 hk1 hkk0 hkk1 (by simp [refKind]) (by decide) (by decide) (nI_pos hn2)
    (by rw [tn]; show ¬ _ > ((arrV (G.ca 0) (M.ln a0) (fun j => .int (M.I a0 j))).slots.size : Int); rw [arrV_size]; show ¬ (0 : Int) + _ > _; omega)
    (by rw [tn]; show ¬ _ > ((arrV (G.ca 0) (M.ln a) (fun j => .int (M.I a j))).slots.size : Int); rw [arrV_size]; show ¬ (0 : Int) + _ > _; omega)
    (fun vm₁ _ i hi => by
      rw [cn] at hi
      have e : (vp_cell (G.ca 0) (M.ln a0, .inl (M.I a0))).slots.getD ((0 : Int32).toNatClampNeg + i) .null = .int (M.I a0 ((0 : Int32).toNatClampNeg + i)) := by
        show (arrV (G.ca 0) (M.ln a0) (fun j => .int (M.I a0 j))).slots.getD _ _ = _
        rw [Array.getD_eq_getD_getElem?, arrV_read _ _ (by rw [c0]; omega)]
        rfl
      refine ⟨?_, ?_⟩
      · rw [e]
        rfl
      · rw [e]
        exact trivial)
    (g := F0 m pc lsr [.int (nI n), .int 0, .ref a, .int 0, .ref a0]) rfl (by rw [hC.2.2.1]; exact hL.1) (rest := []) rfl (by rw [hC.2.1]; exact hd) (by omega) (by
      have e5 : nativeFrameWords "java/lang/System" "arraycopy" 5 = 7 := rfl
      show 2 * 0 + 0 + (nativeFrameWords "java/lang/System" "arraycopy" 5 + 11) ≤ R.locals
      rw [e5]
      omega)
  have e1 : copied (vp_cell (G.ca 0) (M.ln a0, .inl (M.I a0))) (vp_cell (G.ca 0) (M.ln a, .inl (M.I a))) 0 0 (nI n) = vp_cell (G.ca 0) (M.ln a, .inl (va_cpy (M.I a0) (M.I a) (0 : Int32).toNatClampNeg (0 : Int32).toNatClampNeg (nI n).toNatClampNeg)) := va_copied (fun z => .int z) (G.ca 0) (G.ca 0) (M.I a0) (M.I a) (by rw [c0, cn]; omega)
  have e2 : va_cpy (M.I a0) (M.I a) (0 : Int32).toNatClampNeg (0 : Int32).toNatClampNeg (nI n).toNatClampNeg = (cpM M a0 a n).I a := by
    rw [c0, cn]
    funext j
    show (if 0 ≤ j ∧ j < 0 + n then M.I a0 (0 + (j - 0)) else M.I a j) = if a = a ∧ j < n then M.I a0 j else M.I a j
    by_cases hj : j < n
    · rw [if_pos ⟨by omega, by omega⟩, if_pos ⟨rfl, hj⟩, Nat.zero_add, Nat.sub_zero]
    · rw [if_neg (by omega), if_neg (fun z => hj z.2)]
  rw [e1, e2] at X' step
  have hl : a < H.size := (Array.getElem?_eq_some_iff.mp hc1).1
  have hheap : ((T.setVm vm').setCell a (vp_cell (G.ca 0) (M.ln a, .inl ((cpM M a0 a n).I a)))).heap = H.setIfInBounds a (vp_cell (G.ca 0) (M.ln a, .inl ((cpM M a0 a n).I a))) := by rw [← hT]; rfl
  have oq : ∀ q : Nat, q ≠ a → (H.setIfInBounds a (vp_cell (G.ca 0) (M.ln a, .inl ((cpM M a0 a n).I a))))[q]? = H[q]? := fun q hq => by simp [Array.getElem?_setIfInBounds, Ne.symm hq]
  have sz : (H.setIfInBounds a (vp_cell (G.ca 0) (M.ln a, .inl ((cpM M a0 a n).I a)))).size = H.size := by simp
  have hWd : Wd G (cpM M a0 a n) (H.setIfInBounds a (vp_cell (G.ca 0) (M.ln a, .inl ((cpM M a0 a n).I a)))) := am_Wd_set (e := .inl (G.ca 0, (M.ln a, .inl ((cpM M a0 a n).I a)))) hW (show M.K a ≠ 0 by omega) hq1' (hW.1.set hW.2.1 hq1 (show (H.setIfInBounds a _)[a]? = some _ by simp [Array.getElem?_setIfInBounds, hl]) oq) sz rfl rfl rfl (am_cell_I (M := cpM M a0 a n) hK) (fun b hb => am_cell_off rfl rfl (funext fun j => if_neg (fun z => hb z.1)) rfl rfl)
  have hba := hW.2.1.2 q1 _ hq1
  have kk2 : ∀ locs1 : List Loc, va_S (fun q => G.base ≤ q) s.heap (H.setIfInBounds a (vp_cell (G.ca 0) (M.ln a, .inl ((cpM M a0 a n).I a)))) locs1 → W p G.l e R s m args below meth c (H.setIfInBounds a (vp_cell (G.ca 0) (M.ln a, .inl ((cpM M a0 a n).I a)))) locs1 cells slots Q0 (F0 m (pc + 3) lsr []) := fun locs1 h => by
    have := kk _ locs1 lsr hWd h hL
    rw [show (cpM M a0 a n).hs - M.hs = 0 from Nat.sub_self _, show (cpM M a0 a n).sl - M.sl = 0 from Nat.sub_self _] at this
    exact this
  obtain ⟨t, a1, b1⟩ := kk2 _ ⟨by rw [sz]; exact hS.1, fun q g1 g2 => by
      rw [oq q (fun e => g2 (by rw [e]; exact hba))]
      exact hS.2.1 q g1 g2, fun q hq => by
      rcases List.mem_append.mp hq with h | h
      · exact hS.2.2 q h
      · obtain ⟨z, -, hz⟩ := List.mem_map.mp h
        rw [← hz]
        exact hba⟩ _ hheap X'
  exact ⟨t, step t a1, b1⟩
end Ac
section Cc
variable {G : Gp} {Y : MD} {d pc : Nat} {ls : List (Option AV)} {S : AMem} {I : Nat → Nat → Int32} {J : Nat → Nat → Int64} {R : Nat → Nat → Option Nat} {Q : (Option AV ⊕ Nat) → AMem → Prop}
theorem cm_acopy {index a0 a n : Nat} (hd : decode Y.cc pc = .ok (.invokestatic index, 3)) (h1 : Cond.methodLink Y.y.cls index arraycopyName ∈ TB) (h2 : Cond.native arraycopyName ∈ TB) (h3 : Cond.static arraycopyName ∈ TB) (h4 : Cond.initialized "java/lang/System" ∈ TB) (hd1 : 1 ≤ d) (hK0 : S.K a0 = 20) (hK : S.K a = 20) (hn : n ≤ S.ln a0 ∧ n ≤ S.ln a ∧ n < 2 ^ 31) {q : Nat} (hq : pc + 3 = q) (k : MW G Y d q ls [] (mw S (fun x j => if x = a ∧ j < n then I a0 j else I x j) J R) Q) : MW G Y d pc ls [vI (nI n), vI 0, vR a, vI 0, vR a0] (mw S I J R) Q := am_acopy (M := mw S I J R) hd h1 h2 h3 h4 hd1 hK0 hK hn hq k
theorem k_X13_copy {a0 a n : Nat} (hK0 : S.K a0 = 20) (hK : S.K a = 20) (hl0 : S.ln a0 = n) (hl : S.ln a = n) (hn : n < 2 ^ 31) : Fn G mX13_copy 1 [vR a0, vR a] (mw S I J R) (fun rr M1 => rr = none ∧ M1 = mw S (fun x j => if x = a ∧ j < n then I a0 j else I x j) J R) := by
  refine am_aload_n (q := 1) dX13_copy_0 rfl rfl ?_
  refine am_iconst (q := 2) (v := 0) dX13_copy_1 kc_i0 rfl ?_
  refine am_aload_n (q := 3) dX13_copy_2 rfl rfl ?_
  refine am_iconst (q := 4) (v := 0) dX13_copy_3 kc_i0 rfl ?_
  refine am_aload_n (q := 5) dX13_copy_4 rfl rfl ?_
  refine cm_alenI (q := 6) dX13_copy_5 (by assumption) (by rw [hl0] : nI (S.ln a0) = nI n) rfl ?_
  refine cm_acopy (q := 9) dX13_copy_6 (tbc8 35 rfl rfl) tb_cpy1 tb_cpy2 tb_cpy3 (Nat.le_of_ble_eq_true rfl) (by assumption) (by assumption) ⟨by omega, by omega, hn⟩ rfl ?_
  exact am_ret dX13_copy_9 rfl ⟨_, rfl, rfl, rfl⟩
theorem k_X13_become {z o : Nat} {B : BS} {m : MS} (hG : okG G) (hz : SCc S R z) (ho : SCc S R o) (hs : RS I o B m) (hd : z + 6 ≤ o ∨ o + 6 ≤ z) (uR : B.nR ≤ 4) (uF : B.nF ≤ 8) (uP : B.nP ≤ 8) (uT : B.nT ≤ 20) : Fn G mX13_become 2 [vR z, vR o] (mw S I J R) (fun rr M1 => rr = none ∧ ∃ I1, M1 = mw S I1 J R ∧ RS I1 z B m ∧ ∀ x j, (x < z ∨ z + 6 ≤ x) → I1 x j = I x j) := by
  obtain ⟨kz, z6, z7, z8, z9, z10, ⟨kz1, lz1⟩, ⟨kz2, lz2⟩, ⟨kz3, lz3⟩, ⟨kz4, lz4⟩, kz5, lz5⟩ := hz
  obtain ⟨ko, o6, o7, o8, o9, o10, ⟨ko1, lo1⟩, ⟨ko2, lo2⟩, ⟨ko3, lo3⟩, ⟨ko4, lo4⟩, ko5, lo5⟩ := ho
  refine am_aload_n (q := 1) dX13_become_0 rfl rfl ?_
  refine am_aload_n (q := 2) dX13_become_1 rfl rfl ?_
  refine cm_getI (q := 5) dX13_become_2 flX13_31 rfl (by assumption) rfl ?_
  refine cm_putI (q := 8) dX13_become_5 flX13_31 rfl (Or.inl rfl) (Or.inl rfl) (by assumption) rfl ?_
  refine am_aload_n (q := 9) dX13_become_8 rfl rfl ?_
  refine am_aload_n (q := 10) dX13_become_9 rfl rfl ?_
  refine cm_getI (q := 13) dX13_become_10 flX13_35 rfl (by assumption) rfl ?_
  refine cm_putI (q := 16) dX13_become_13 flX13_35 rfl (Or.inl rfl) (Or.inl rfl) (by assumption) rfl ?_
  refine am_aload_n (q := 17) dX13_become_16 rfl rfl ?_
  refine am_aload_n (q := 18) dX13_become_17 rfl rfl ?_
  refine cm_getI (q := 21) dX13_become_18 flX13_38 rfl (by assumption) rfl ?_
  refine cm_putI (q := 24) dX13_become_21 flX13_38 rfl (Or.inl rfl) (Or.inl rfl) (by assumption) rfl ?_
  refine am_aload_n (q := 25) dX13_become_24 rfl rfl ?_
  refine am_aload_n (q := 26) dX13_become_25 rfl rfl ?_
  refine cm_getI (q := 29) dX13_become_26 flX13_41 rfl (by assumption) rfl ?_
  refine cm_putI (q := 32) dX13_become_29 flX13_41 rfl (Or.inl rfl) (Or.inl rfl) (by assumption) rfl ?_
  refine am_aload_n (q := 33) dX13_become_32 rfl rfl ?_
  refine am_aload_n (q := 34) dX13_become_33 rfl rfl ?_
  refine cm_getI (q := 37) dX13_become_34 flX13_44 rfl (by assumption) rfl ?_
  refine cm_putI (q := 40) dX13_become_37 flX13_44 rfl (Or.inl rfl) (Or.inl rfl) (by assumption) rfl ?_
  refine am_aload_n (q := 41) dX13_become_40 rfl rfl ?_
  refine am_aload_n (q := 42) dX13_become_41 rfl rfl ?_
  refine cm_getI (q := 45) dX13_become_42 flX13_47 rfl (by assumption) rfl ?_
  refine cm_putI (q := 48) dX13_become_45 flX13_47 rfl (Or.inl rfl) (Or.inl rfl) (by assumption) rfl ?_
  refine am_aload_n (q := 49) dX13_become_48 rfl rfl ?_
  refine cm_getR (q := 52) dX13_become_49 flX13_7 rfl (by assumption) (by assumption) rfl ?_
  refine am_aload_n (q := 53) dX13_become_52 rfl rfl ?_
  refine cm_getR (q := 56) dX13_become_53 flX13_7 rfl (by assumption) (by assumption) rfl ?_
  refine am_call1 (q := 59) (As := [_, _]) hG dX13_become_56 mlX13_50 rfl (Nat.le_of_ble_eq_true rfl) (Nat.le_of_ble_eq_true rfl) (Nat.le_of_ble_eq_true rfl) (k_X13_copy ko1 kz1 lo1 lz1 (by decide)) rfl ?_
  rintro _ _ ⟨rfl, rfl⟩
  refine am_aload_n (q := 60) dX13_become_59 rfl rfl ?_
  refine cm_getR (q := 63) dX13_become_60 flX13_13 rfl (by assumption) (by assumption) rfl ?_
  refine am_aload_n (q := 64) dX13_become_63 rfl rfl ?_
  refine cm_getR (q := 67) dX13_become_64 flX13_13 rfl (by assumption) (by assumption) rfl ?_
  refine am_call1 (q := 70) (As := [_, _]) hG dX13_become_67 mlX13_50 rfl (Nat.le_of_ble_eq_true rfl) (Nat.le_of_ble_eq_true rfl) (Nat.le_of_ble_eq_true rfl) (k_X13_copy ko2 kz2 lo2 lz2 (by decide)) rfl ?_
  rintro _ _ ⟨rfl, rfl⟩
  refine am_aload_n (q := 71) dX13_become_70 rfl rfl ?_
  refine cm_getR (q := 74) dX13_become_71 flX13_16 rfl (by assumption) (by assumption) rfl ?_
  refine am_aload_n (q := 75) dX13_become_74 rfl rfl ?_
  refine cm_getR (q := 78) dX13_become_75 flX13_16 rfl (by assumption) (by assumption) rfl ?_
  refine am_call1 (q := 81) (As := [_, _]) hG dX13_become_78 mlX13_50 rfl (Nat.le_of_ble_eq_true rfl) (Nat.le_of_ble_eq_true rfl) (Nat.le_of_ble_eq_true rfl) (k_X13_copy ko3 kz3 lo3 lz3 (by decide)) rfl ?_
  rintro _ _ ⟨rfl, rfl⟩
  refine am_aload_n (q := 82) dX13_become_81 rfl rfl ?_
  refine cm_getR (q := 85) dX13_become_82 flX13_19 rfl (by assumption) (by assumption) rfl ?_
  refine am_aload_n (q := 86) dX13_become_85 rfl rfl ?_
  refine cm_getR (q := 89) dX13_become_86 flX13_19 rfl (by assumption) (by assumption) rfl ?_
  refine am_call1 (q := 92) (As := [_, _]) hG dX13_become_89 mlX13_50 rfl (Nat.le_of_ble_eq_true rfl) (Nat.le_of_ble_eq_true rfl) (Nat.le_of_ble_eq_true rfl) (k_X13_copy ko4 kz4 lo4 lz4 (by decide)) rfl ?_
  rintro _ _ ⟨rfl, rfl⟩
  refine am_aload_n (q := 93) dX13_become_92 rfl rfl ?_
  refine cm_getR (q := 96) dX13_become_93 flX13_22 rfl (by assumption) (by assumption) rfl ?_
  refine am_aload_n (q := 97) dX13_become_96 rfl rfl ?_
  refine cm_getR (q := 100) dX13_become_97 flX13_22 rfl (by assumption) (by assumption) rfl ?_
  refine am_call1 (q := 103) (As := [_, _]) hG dX13_become_100 mlX13_50 rfl (Nat.le_of_ble_eq_true rfl) (Nat.le_of_ble_eq_true rfl) (Nat.le_of_ble_eq_true rfl) (k_X13_copy ko5 kz5 lo5 lz5 (by decide)) rfl ?_
  rintro _ _ ⟨rfl, rfl⟩
  refine k_nm (P := fun I2 => MW G mX13_become 2 103 _ _ (mw S I2 J R) _) _ ?_
  intro I2 hI2
  have key : ∀ x j, I2 x j = if x = z ∧ j < 6 then I o j else if x = z + 1 ∧ j < 10 then I (o + 1) j else if x = z + 2 ∧ j < 12 then I (o + 2) j else if x = z + 3 ∧ j < 56 then I (o + 3) j else if x = z + 4 ∧ j < 16 then I (o + 4) j else if x = z + 5 ∧ j < 20 then I (o + 5) j else I x j := by
    intro x j
    rw [hI2]
    simp only [up2_at]
    grind (splits := 60)

  obtain ⟨⟨g0, g1, g2, g3, g4, g5, g6⟩, hbd, hra, hfi, hpr, hp0, hro⟩ := hs
  have s2 : RS I2 z B m := by
    refine ⟨⟨?_, ?_, ?_, ?_, ?_, ?_, g6⟩, fun k hk => ?_, fun i hi j hj => ?_, fun i hi j hj => ?_, fun i hi j hj => ?_, hp0, fun k hk => ?_⟩
    · rw [key, if_pos ⟨rfl, by decide⟩]; exact g0
    · rw [key, if_pos ⟨rfl, by decide⟩]; exact g1
    · rw [key, if_pos ⟨rfl, by decide⟩]; exact g2
    · rw [key, if_pos ⟨rfl, by decide⟩]; exact g3
    · rw [key, if_pos ⟨rfl, by decide⟩]; exact g4
    · rw [key, if_pos ⟨rfl, by decide⟩]; exact g5
    · rw [key, if_neg (by omega), if_pos ⟨rfl, by omega⟩]; exact hbd k hk
    · rw [key, if_neg (by omega), if_neg (by omega), if_pos ⟨rfl, by omega⟩]; exact hra i hi j hj
    · rw [key, if_neg (by omega), if_neg (by omega), if_neg (by omega), if_pos ⟨rfl, by omega⟩]; exact hfi i hi j hj
    · rw [key, if_neg (by omega), if_neg (by omega), if_neg (by omega), if_neg (by omega), if_pos ⟨rfl, by omega⟩]; exact hpr i hi j hj
    · rw [key, if_neg (by omega), if_neg (by omega), if_neg (by omega), if_neg (by omega), if_neg (by omega), if_pos ⟨rfl, by omega⟩]; exact hro k hk
  have f2 : ∀ x j, (x < z ∨ z + 6 ≤ x) → I2 x j = I x j := fun x j q => by rw [key, if_neg (by omega), if_neg (by omega), if_neg (by omega), if_neg (by omega), if_neg (by omega), if_neg (by omega)]
  exact am_ret dX13_become_103 rfl ⟨_, rfl, rfl, I2, rfl, s2, f2⟩
end Cc

