theorem kc_s400 : (Int16.ofInt 400).toInt32 = 400 := by decide +kernel
theorem dX7_readProduct_0 : decode cX7_readProduct 0 = .ok (.aload_n 0, 1) := by decide +kernel
theorem dX7_readProduct_1 : decode cX7_readProduct 1 = .ok (.iload_n 1, 1) := by decide +kernel
theorem dX7_readProduct_2 : decode cX7_readProduct 2 = .ok (.invokevirtual 164, 3) := by decide +kernel
theorem dX7_readProduct_5 : decode cX7_readProduct 5 = .ok (.iconst 0, 1) := by decide +kernel
theorem dX7_readProduct_6 : decode cX7_readProduct 6 = .ok (.istore_n 2, 1) := by decide +kernel
theorem dX7_readProduct_7 : decode cX7_readProduct 7 = .ok (.iload_n 2, 1) := by decide +kernel
theorem dX7_readProduct_8 : decode cX7_readProduct 8 = .ok (.sipush 400, 3) := by decide +kernel
theorem dX7_readProduct_11 : decode cX7_readProduct 11 = .ok (.if_icmp .ge 54, 3) := by decide +kernel
theorem dX7_readProduct_14 : decode cX7_readProduct 14 = .ok (.aload_n 0, 1) := by decide +kernel
theorem dX7_readProduct_15 : decode cX7_readProduct 15 = .ok (.invokevirtual 31, 3) := by decide +kernel
theorem dX7_readProduct_18 : decode cX7_readProduct 18 = .ok (.bipush 42, 2) := by decide +kernel
theorem dX7_readProduct_20 : decode cX7_readProduct 20 = .ok (.if_icmp .eq 12, 3) := by decide +kernel
theorem dX7_readProduct_23 : decode cX7_readProduct 23 = .ok (.aload_n 0, 1) := by decide +kernel
theorem dX7_readProduct_24 : decode cX7_readProduct 24 = .ok (.invokevirtual 31, 3) := by decide +kernel
theorem dX7_readProduct_27 : decode cX7_readProduct 27 = .ok (.bipush 47, 2) := by decide +kernel
theorem dX7_readProduct_29 : decode cX7_readProduct 29 = .ok (.if_icmp .ne 36, 3) := by decide +kernel
theorem dX7_readProduct_32 : decode cX7_readProduct 32 = .ok (.aload_n 0, 1) := by decide +kernel
theorem dX7_readProduct_33 : decode cX7_readProduct 33 = .ok (.invokevirtual 31, 3) := by decide +kernel
theorem dX7_readProduct_36 : decode cX7_readProduct 36 = .ok (.istore_n 3, 1) := by decide +kernel
theorem dX7_readProduct_37 : decode cX7_readProduct 37 = .ok (.aload_n 0, 1) := by decide +kernel
theorem dX7_readProduct_38 : decode cX7_readProduct 38 = .ok (.iload_n 3, 1) := by decide +kernel
theorem dX7_readProduct_39 : decode cX7_readProduct 39 = .ok (.invokevirtual 53, 3) := by decide +kernel
theorem dX7_readProduct_42 : decode cX7_readProduct 42 = .ok (.aload_n 0, 1) := by decide +kernel
theorem dX7_readProduct_43 : decode cX7_readProduct 43 = .ok (.iload_n 1, 1) := by decide +kernel
theorem dX7_readProduct_44 : decode cX7_readProduct 44 = .ok (.invokevirtual 164, 3) := by decide +kernel
theorem dX7_readProduct_47 : decode cX7_readProduct 47 = .ok (.aload_n 0, 1) := by decide +kernel
theorem dX7_readProduct_48 : decode cX7_readProduct 48 = .ok (.getfield 15, 3) := by decide +kernel
theorem dX7_readProduct_51 : decode cX7_readProduct 51 = .ok (.getfield 116, 3) := by decide +kernel
theorem dX7_readProduct_54 : decode cX7_readProduct 54 = .ok (.iload_n 3, 1) := by decide +kernel
theorem dX7_readProduct_55 : decode cX7_readProduct 55 = .ok (.iconst 0, 1) := by decide +kernel
theorem dX7_readProduct_56 : decode cX7_readProduct 56 = .ok (.invokevirtual 144, 3) := by decide +kernel
theorem dX7_readProduct_59 : decode cX7_readProduct 59 = .ok (.iinc 2 1, 3) := by decide +kernel
theorem dX7_readProduct_62 : decode cX7_readProduct 62 = .ok (.goto (-55), 3) := by decide +kernel
theorem dX7_readProduct_65 : decode cX7_readProduct 65 = .ok (.return_, 1) := by decide +kernel
theorem dX7_readSum_0 : decode cX7_readSum 0 = .ok (.aload_n 0, 1) := by decide +kernel
theorem dX7_readSum_1 : decode cX7_readSum 1 = .ok (.iload_n 1, 1) := by decide +kernel
theorem dX7_readSum_2 : decode cX7_readSum 2 = .ok (.invokevirtual 161, 3) := by decide +kernel
theorem dX7_readSum_5 : decode cX7_readSum 5 = .ok (.iconst 0, 1) := by decide +kernel
theorem dX7_readSum_6 : decode cX7_readSum 6 = .ok (.istore_n 2, 1) := by decide +kernel
theorem dX7_readSum_7 : decode cX7_readSum 7 = .ok (.iload_n 2, 1) := by decide +kernel
theorem dX7_readSum_8 : decode cX7_readSum 8 = .ok (.sipush 400, 3) := by decide +kernel
theorem dX7_readSum_11 : decode cX7_readSum 11 = .ok (.if_icmp .ge 54, 3) := by decide +kernel
theorem dX7_readSum_14 : decode cX7_readSum 14 = .ok (.aload_n 0, 1) := by decide +kernel
theorem dX7_readSum_15 : decode cX7_readSum 15 = .ok (.invokevirtual 31, 3) := by decide +kernel
theorem dX7_readSum_18 : decode cX7_readSum 18 = .ok (.bipush 43, 2) := by decide +kernel
theorem dX7_readSum_20 : decode cX7_readSum 20 = .ok (.if_icmp .eq 12, 3) := by decide +kernel
theorem dX7_readSum_23 : decode cX7_readSum 23 = .ok (.aload_n 0, 1) := by decide +kernel
theorem dX7_readSum_24 : decode cX7_readSum 24 = .ok (.invokevirtual 31, 3) := by decide +kernel
theorem dX7_readSum_27 : decode cX7_readSum 27 = .ok (.bipush 45, 2) := by decide +kernel
theorem dX7_readSum_29 : decode cX7_readSum 29 = .ok (.if_icmp .ne 36, 3) := by decide +kernel
theorem dX7_readSum_32 : decode cX7_readSum 32 = .ok (.aload_n 0, 1) := by decide +kernel
theorem dX7_readSum_33 : decode cX7_readSum 33 = .ok (.invokevirtual 31, 3) := by decide +kernel
theorem dX7_readSum_36 : decode cX7_readSum 36 = .ok (.istore_n 3, 1) := by decide +kernel
theorem dX7_readSum_37 : decode cX7_readSum 37 = .ok (.aload_n 0, 1) := by decide +kernel
theorem dX7_readSum_38 : decode cX7_readSum 38 = .ok (.iload_n 3, 1) := by decide +kernel
theorem dX7_readSum_39 : decode cX7_readSum 39 = .ok (.invokevirtual 53, 3) := by decide +kernel
theorem dX7_readSum_42 : decode cX7_readSum 42 = .ok (.aload_n 0, 1) := by decide +kernel
theorem dX7_readSum_43 : decode cX7_readSum 43 = .ok (.iload_n 1, 1) := by decide +kernel
theorem dX7_readSum_44 : decode cX7_readSum 44 = .ok (.invokevirtual 161, 3) := by decide +kernel
theorem dX7_readSum_47 : decode cX7_readSum 47 = .ok (.aload_n 0, 1) := by decide +kernel
theorem dX7_readSum_48 : decode cX7_readSum 48 = .ok (.getfield 15, 3) := by decide +kernel
theorem dX7_readSum_51 : decode cX7_readSum 51 = .ok (.getfield 116, 3) := by decide +kernel
theorem dX7_readSum_54 : decode cX7_readSum 54 = .ok (.iload_n 3, 1) := by decide +kernel
theorem dX7_readSum_55 : decode cX7_readSum 55 = .ok (.iconst 0, 1) := by decide +kernel
theorem dX7_readSum_56 : decode cX7_readSum 56 = .ok (.invokevirtual 144, 3) := by decide +kernel
theorem dX7_readSum_59 : decode cX7_readSum 59 = .ok (.iinc 2 1, 3) := by decide +kernel
theorem dX7_readSum_62 : decode cX7_readSum 62 = .ok (.goto (-55), 3) := by decide +kernel
theorem dX7_readSum_65 : decode cX7_readSum 65 = .ok (.return_, 1) := by decide +kernel
/-! the reader's products and sums -/
/-- a row of parts joined by the signs a and b -/
def eLoop (T : Toks) (p : PS × Cd → PS × Cd) (a b : Int32) : Nat → PS × Cd → PS × Cd
  | 0, s => s
  | n + 1, s => if pK T s.1 = a ∨ pK T s.1 = b then eLoop T p a b n (eAd (pK T s.1) 0 (p (eEx T (pK T s.1) s))) else s
def eProd (T : Toks) (p : PS × Cd → PS × Cd) (s : PS × Cd) : PS × Cd := eLoop T p 42 47 400 (p s)
def eSum1 (T : Toks) (p : PS × Cd → PS × Cd) (s : PS × Cd) : PS × Cd := eLoop T p 43 45 400 (p s)
/-- a reading method of one depth keeps to V -/
def KV (G : Gp) (S : AMem) (J : Nat → Nat → Int64) (R : Nat → Nat → Option Nat) (x t c n1 n2 n3 : Nat) (T : Toks) (Y : MD) (dp dep : Nat) (V : PS × Cd → PS × Cd) : Prop := ∀ (I : Nat → Nat → Int32) (s : PS × Cd), AbE I J x t c n1 n2 n3 T s → Fn G Y dp [vR x, vI (nI dep)] (mw S I J R) (fun rr M1 => rr = none ∧ ∃ I1, M1 = mw S I1 J R ∧ AbE I1 J x t c n1 n2 n3 T (V s) ∧ OffE x c I I1)
section Lp
variable {G : Gp} {S : AMem} {J : Nat → Nat → Int64} {R : Nat → Nat → Option Nat} {t x c n1 n2 n3 : Nat} {T : Toks}
theorem k_X7_readProduct {V : PS × Cd → PS × Cd} {dv dep : Nat} (hG : okG G) (hX : RX S R x t c) (hdv : 2 ≤ dv) (hV : KV G S J R x t c n1 n2 n3 T mX7_readValue dv dep V) : KV G S J R x t c n1 n2 n3 T mX7_readProduct (dv + 1) dep (eProd T V) := by
  intro I s h
  obtain ⟨⟨hT, hx, hr, hxt⟩, hct, hr1, hxc, htc⟩ := id hX
  obtain ⟨kc, rc0, _, _, _, _, _, _, _, ⟨kd, _⟩, _⟩ := hct
  unfold eProd
  refine am_aload_n (q := 1) dX7_readProduct_0 rfl rfl ?_
  refine am_iload_n (q := 2) dX7_readProduct_1 rfl rfl ?_
  refine cm_call0 (q := 5) (As := [_]) hG dX7_readProduct_2 mlX7_164 rfl (by assumption) ⟨_, _, rfl⟩ (Nat.le_of_ble_eq_true rfl) (Nat.le_of_ble_eq_true rfl) (by omega) (Nat.le_of_ble_eq_true rfl) (hV I s h) rfl ?_
  rintro _ _ ⟨rfl, I0, rfl, h0, o0⟩
  refine am_iconst (q := 6) (v := 0) dX7_readProduct_5 kc_i0 rfl ?_
  refine am_istore_n (q := 7) (ls1 := [_, _, _, _]) dX7_readProduct_6 (Nat.le_of_ble_eq_true rfl) rfl rfl ?_
  refine k_loop (σ := (Nat → Nat → Int32) × (PS × Cd) × Option AV) (n := 400) (Inv := fun i q => eLoop T V 42 47 (400 - i) q.2.1 = eLoop T V 42 47 400 (V s) ∧ AbE q.1 J x t c n1 n2 n3 T q.2.1 ∧ OffE x c I q.1) (W := fun i q => MW G mX7_readProduct (dv + 1) 7 [some (vR x), some (vI (nI dep)), some (vI (nI i)), q.2.2] [] (mw S q.1 J R) _) ?_ ?_ 0 (I0, V s, none) (Nat.zero_le _) ⟨rfl, h0, o0⟩
  · rintro i ⟨I1, s1, x3⟩ hi ⟨hinv, h1, o1⟩ ih
    dsimp only at hinv h1 o1 ih ⊢
    rw [show 400 - i = (400 - (i + 1)) + 1 by omega, eLoop] at hinv
    have go : (pK T s1.1 = 42 ∨ pK T s1.1 = 47) → MW G mX7_readProduct (dv + 1) 32 [some (vR x), some (vI (nI dep)), some (vI (nI i)), x3] [] (mw S I1 J R) (fun f M1 => ∃ r, f = .inl r ∧ (r = none ∧ ∃ I1, M1 = mw S I1 J R ∧ AbE I1 J x t c n1 n2 n3 T (eLoop T V 42 47 400 (V s)) ∧ OffE x c I I1)) := by
      intro hk
      rw [if_pos hk] at hinv
      have hk2 : pK T s1.1 ≠ 257 := by
        rcases hk with e | e <;> rw [e] <;> decide
      refine am_aload_n (q := 33) dX7_readProduct_32 rfl rfl ?_
      refine cm_call0 (q := 36) (As := []) hG dX7_readProduct_33 mlX7_31 rfl (by assumption) ⟨_, _, rfl⟩ (Nat.le_of_ble_eq_true rfl) (Nat.le_of_ble_eq_true rfl) (by omega) (Nat.le_of_ble_eq_true rfl) (ke_kind hG hX h1) rfl ?_
      rintro _ _ ⟨rfl, rfl⟩
      refine am_istore_n (q := 37) (ls1 := [_, _, _, _]) dX7_readProduct_36 (Nat.le_of_ble_eq_true rfl) rfl rfl ?_
      refine am_aload_n (q := 38) dX7_readProduct_37 rfl rfl ?_
      refine am_iload_n (q := 39) dX7_readProduct_38 rfl rfl ?_
      refine cm_call0 (q := 42) (As := [_]) hG dX7_readProduct_39 mlX7_53 rfl (by assumption) ⟨_, _, rfl⟩ (Nat.le_of_ble_eq_true rfl) (Nat.le_of_ble_eq_true rfl) (by omega) (Nat.le_of_ble_eq_true rfl) (ke_expect hG hX h1 hk2) rfl ?_
      rintro _ _ ⟨rfl, I2, rfl, h2, o2⟩
      refine am_aload_n (q := 43) dX7_readProduct_42 rfl rfl ?_
      refine am_iload_n (q := 44) dX7_readProduct_43 rfl rfl ?_
      refine cm_call0 (q := 47) (As := [_]) hG dX7_readProduct_44 mlX7_164 rfl (by assumption) ⟨_, _, rfl⟩ (Nat.le_of_ble_eq_true rfl) (Nat.le_of_ble_eq_true rfl) (by omega) (Nat.le_of_ble_eq_true rfl) (hV I2 _ h2) rfl ?_
      rintro _ _ ⟨rfl, I3, rfl, h3, o3⟩
      refine am_aload_n (q := 48) dX7_readProduct_47 rfl rfl ?_
      refine cm_getR (q := 51) dX7_readProduct_48 flX7_15 rfl (by assumption) (by assumption) rfl ?_
      refine cm_getR (q := 54) dX7_readProduct_51 flX7_116 rfl (by assumption) (by assumption) rfl ?_
      refine am_iload_n (q := 55) dX7_readProduct_54 rfl rfl ?_
      refine am_iconst (q := 56) (v := 0) dX7_readProduct_55 kc_i0 rfl ?_
      refine cm_call0 (q := 59) (As := [_, _]) hG dX7_readProduct_56 mlX7_144 rfl (by assumption) ⟨_, _, rfl⟩ (Nat.le_of_ble_eq_true rfl) (Nat.le_of_ble_eq_true rfl) (by omega) (Nat.le_of_ble_eq_true rfl) (ke_add hX h3) rfl ?_
      rintro _ _ ⟨rfl, I4, rfl, h4, o4⟩
      refine am_iincW (q := 62) (ls1 := [_, _, _, _]) (w := 1) dX7_readProduct_59 rfl (Nat.le_of_ble_eq_true rfl) kc_i1 rfl rfl ?_
      refine am_goto (tgt := 7) dX7_readProduct_62 rfl ?_
      rw [nI_1]
      exact ih (I4, _, _) ⟨hinv, h4, ((o1.tr o2).tr o3).tr o4⟩
    refine am_iload_n (q := 8) dX7_readProduct_7 rfl rfl ?_
    refine am_sipush (q := 11) (v := 400) dX7_readProduct_8 kc_s400 rfl ?_
    refine am_icmp_ge (tgt := 65) (q := 14) dX7_readProduct_11 rfl rfl (fun hz => absurd hz (nI_ge (b := 400) (by omega) (by decide))) (fun _ => ?_)
    refine am_aload_n (q := 15) dX7_readProduct_14 rfl rfl ?_
    refine cm_call0 (q := 18) (As := []) hG dX7_readProduct_15 mlX7_31 rfl (by assumption) ⟨_, _, rfl⟩ (Nat.le_of_ble_eq_true rfl) (Nat.le_of_ble_eq_true rfl) (by omega) (Nat.le_of_ble_eq_true rfl) (ke_kind hG hX h1) rfl ?_
    rintro _ _ ⟨rfl, rfl⟩
    refine am_bipush (q := 20) (v := 42) dX7_readProduct_18 kc_b42 rfl ?_
    refine am_icmp_eq (tgt := 32) (q := 23) dX7_readProduct_20 rfl rfl (fun hc => ?_) (fun hc => ?_)
    · exact go (Or.inl hc)
    · refine am_aload_n (q := 24) dX7_readProduct_23 rfl rfl ?_
      refine cm_call0 (q := 27) (As := []) hG dX7_readProduct_24 mlX7_31 rfl (by assumption) ⟨_, _, rfl⟩ (Nat.le_of_ble_eq_true rfl) (Nat.le_of_ble_eq_true rfl) (by omega) (Nat.le_of_ble_eq_true rfl) (ke_kind hG hX h1) rfl ?_
      rintro _ _ ⟨rfl, rfl⟩
      refine am_bipush (q := 29) (v := 47) dX7_readProduct_27 kc_b47 rfl ?_
      refine am_icmp_ne (tgt := 65) (q := 32) dX7_readProduct_29 rfl rfl (fun hc2 => ?_) (fun hc2 => ?_)
      · rw [if_neg (fun q => q.elim hc hc2)] at hinv
        rw [← hinv]
        exact am_ret dX7_readProduct_65 rfl ⟨_, rfl, rfl, I1, rfl, h1, o1⟩
      · exact go (Or.inr hc2)
  · rintro ⟨I1, s1, x3⟩ ⟨hinv, h1, o1⟩
    dsimp only at hinv h1 o1 ⊢
    rw [Nat.sub_self, eLoop] at hinv
    rw [← hinv]
    refine am_iload_n (q := 8) dX7_readProduct_7 rfl rfl ?_
    refine am_sipush (q := 11) (v := 400) dX7_readProduct_8 kc_s400 rfl ?_
    refine am_icmp_ge (tgt := 65) (q := 14) dX7_readProduct_11 rfl rfl (fun _ => ?_) (fun hz => absurd (Int32.le_refl _) hz)
    exact am_ret dX7_readProduct_65 rfl ⟨_, rfl, rfl, I1, rfl, h1, o1⟩
theorem k_X7_readSum {V : PS × Cd → PS × Cd} {dv dep : Nat} (hG : okG G) (hX : RX S R x t c) (hdv : 2 ≤ dv) (hV : KV G S J R x t c n1 n2 n3 T mX7_readProduct dv dep V) : KV G S J R x t c n1 n2 n3 T mX7_readSum (dv + 1) dep (eSum1 T V) := by
  intro I s h
  obtain ⟨⟨hT, hx, hr, hxt⟩, hct, hr1, hxc, htc⟩ := id hX
  obtain ⟨kc, rc0, _, _, _, _, _, _, _, ⟨kd, _⟩, _⟩ := hct
  unfold eSum1
  refine am_aload_n (q := 1) dX7_readSum_0 rfl rfl ?_
  refine am_iload_n (q := 2) dX7_readSum_1 rfl rfl ?_
  refine cm_call0 (q := 5) (As := [_]) hG dX7_readSum_2 mlX7_161 rfl (by assumption) ⟨_, _, rfl⟩ (Nat.le_of_ble_eq_true rfl) (Nat.le_of_ble_eq_true rfl) (by omega) (Nat.le_of_ble_eq_true rfl) (hV I s h) rfl ?_
  rintro _ _ ⟨rfl, I0, rfl, h0, o0⟩
  refine am_iconst (q := 6) (v := 0) dX7_readSum_5 kc_i0 rfl ?_
  refine am_istore_n (q := 7) (ls1 := [_, _, _, _]) dX7_readSum_6 (Nat.le_of_ble_eq_true rfl) rfl rfl ?_
  refine k_loop (σ := (Nat → Nat → Int32) × (PS × Cd) × Option AV) (n := 400) (Inv := fun i q => eLoop T V 43 45 (400 - i) q.2.1 = eLoop T V 43 45 400 (V s) ∧ AbE q.1 J x t c n1 n2 n3 T q.2.1 ∧ OffE x c I q.1) (W := fun i q => MW G mX7_readSum (dv + 1) 7 [some (vR x), some (vI (nI dep)), some (vI (nI i)), q.2.2] [] (mw S q.1 J R) _) ?_ ?_ 0 (I0, V s, none) (Nat.zero_le _) ⟨rfl, h0, o0⟩
  · rintro i ⟨I1, s1, x3⟩ hi ⟨hinv, h1, o1⟩ ih
    dsimp only at hinv h1 o1 ih ⊢
    rw [show 400 - i = (400 - (i + 1)) + 1 by omega, eLoop] at hinv
    have go : (pK T s1.1 = 43 ∨ pK T s1.1 = 45) → MW G mX7_readSum (dv + 1) 32 [some (vR x), some (vI (nI dep)), some (vI (nI i)), x3] [] (mw S I1 J R) (fun f M1 => ∃ r, f = .inl r ∧ (r = none ∧ ∃ I1, M1 = mw S I1 J R ∧ AbE I1 J x t c n1 n2 n3 T (eLoop T V 43 45 400 (V s)) ∧ OffE x c I I1)) := by
      intro hk
      rw [if_pos hk] at hinv
      have hk2 : pK T s1.1 ≠ 257 := by
        rcases hk with e | e <;> rw [e] <;> decide
      refine am_aload_n (q := 33) dX7_readSum_32 rfl rfl ?_
      refine cm_call0 (q := 36) (As := []) hG dX7_readSum_33 mlX7_31 rfl (by assumption) ⟨_, _, rfl⟩ (Nat.le_of_ble_eq_true rfl) (Nat.le_of_ble_eq_true rfl) (by omega) (Nat.le_of_ble_eq_true rfl) (ke_kind hG hX h1) rfl ?_
      rintro _ _ ⟨rfl, rfl⟩
      refine am_istore_n (q := 37) (ls1 := [_, _, _, _]) dX7_readSum_36 (Nat.le_of_ble_eq_true rfl) rfl rfl ?_
      refine am_aload_n (q := 38) dX7_readSum_37 rfl rfl ?_
      refine am_iload_n (q := 39) dX7_readSum_38 rfl rfl ?_
      refine cm_call0 (q := 42) (As := [_]) hG dX7_readSum_39 mlX7_53 rfl (by assumption) ⟨_, _, rfl⟩ (Nat.le_of_ble_eq_true rfl) (Nat.le_of_ble_eq_true rfl) (by omega) (Nat.le_of_ble_eq_true rfl) (ke_expect hG hX h1 hk2) rfl ?_
      rintro _ _ ⟨rfl, I2, rfl, h2, o2⟩
      refine am_aload_n (q := 43) dX7_readSum_42 rfl rfl ?_
      refine am_iload_n (q := 44) dX7_readSum_43 rfl rfl ?_
      refine cm_call0 (q := 47) (As := [_]) hG dX7_readSum_44 mlX7_161 rfl (by assumption) ⟨_, _, rfl⟩ (Nat.le_of_ble_eq_true rfl) (Nat.le_of_ble_eq_true rfl) (by omega) (Nat.le_of_ble_eq_true rfl) (hV I2 _ h2) rfl ?_
      rintro _ _ ⟨rfl, I3, rfl, h3, o3⟩
      refine am_aload_n (q := 48) dX7_readSum_47 rfl rfl ?_
      refine cm_getR (q := 51) dX7_readSum_48 flX7_15 rfl (by assumption) (by assumption) rfl ?_
      refine cm_getR (q := 54) dX7_readSum_51 flX7_116 rfl (by assumption) (by assumption) rfl ?_
      refine am_iload_n (q := 55) dX7_readSum_54 rfl rfl ?_
      refine am_iconst (q := 56) (v := 0) dX7_readSum_55 kc_i0 rfl ?_
      refine cm_call0 (q := 59) (As := [_, _]) hG dX7_readSum_56 mlX7_144 rfl (by assumption) ⟨_, _, rfl⟩ (Nat.le_of_ble_eq_true rfl) (Nat.le_of_ble_eq_true rfl) (by omega) (Nat.le_of_ble_eq_true rfl) (ke_add hX h3) rfl ?_
      rintro _ _ ⟨rfl, I4, rfl, h4, o4⟩
      refine am_iincW (q := 62) (ls1 := [_, _, _, _]) (w := 1) dX7_readSum_59 rfl (Nat.le_of_ble_eq_true rfl) kc_i1 rfl rfl ?_
      refine am_goto (tgt := 7) dX7_readSum_62 rfl ?_
      rw [nI_1]
      exact ih (I4, _, _) ⟨hinv, h4, ((o1.tr o2).tr o3).tr o4⟩
    refine am_iload_n (q := 8) dX7_readSum_7 rfl rfl ?_
    refine am_sipush (q := 11) (v := 400) dX7_readSum_8 kc_s400 rfl ?_
    refine am_icmp_ge (tgt := 65) (q := 14) dX7_readSum_11 rfl rfl (fun hz => absurd hz (nI_ge (b := 400) (by omega) (by decide))) (fun _ => ?_)
    refine am_aload_n (q := 15) dX7_readSum_14 rfl rfl ?_
    refine cm_call0 (q := 18) (As := []) hG dX7_readSum_15 mlX7_31 rfl (by assumption) ⟨_, _, rfl⟩ (Nat.le_of_ble_eq_true rfl) (Nat.le_of_ble_eq_true rfl) (by omega) (Nat.le_of_ble_eq_true rfl) (ke_kind hG hX h1) rfl ?_
    rintro _ _ ⟨rfl, rfl⟩
    refine am_bipush (q := 20) (v := 43) dX7_readSum_18 kc_b43 rfl ?_
    refine am_icmp_eq (tgt := 32) (q := 23) dX7_readSum_20 rfl rfl (fun hc => ?_) (fun hc => ?_)
    · exact go (Or.inl hc)
    · refine am_aload_n (q := 24) dX7_readSum_23 rfl rfl ?_
      refine cm_call0 (q := 27) (As := []) hG dX7_readSum_24 mlX7_31 rfl (by assumption) ⟨_, _, rfl⟩ (Nat.le_of_ble_eq_true rfl) (Nat.le_of_ble_eq_true rfl) (by omega) (Nat.le_of_ble_eq_true rfl) (ke_kind hG hX h1) rfl ?_
      rintro _ _ ⟨rfl, rfl⟩
      refine am_bipush (q := 29) (v := 45) dX7_readSum_27 kc_b45 rfl ?_
      refine am_icmp_ne (tgt := 65) (q := 32) dX7_readSum_29 rfl rfl (fun hc2 => ?_) (fun hc2 => ?_)
      · rw [if_neg (fun q => q.elim hc hc2)] at hinv
        rw [← hinv]
        exact am_ret dX7_readSum_65 rfl ⟨_, rfl, rfl, I1, rfl, h1, o1⟩
      · exact go (Or.inr hc2)
  · rintro ⟨I1, s1, x3⟩ ⟨hinv, h1, o1⟩
    dsimp only at hinv h1 o1 ⊢
    rw [Nat.sub_self, eLoop] at hinv
    rw [← hinv]
    refine am_iload_n (q := 8) dX7_readSum_7 rfl rfl ?_
    refine am_sipush (q := 11) (v := 400) dX7_readSum_8 kc_s400 rfl ?_
    refine am_icmp_ge (tgt := 65) (q := 14) dX7_readSum_11 rfl rfl (fun _ => ?_) (fun hz => absurd (Int32.le_refl _) hz)
    exact am_ret dX7_readSum_65 rfl ⟨_, rfl, rfl, I1, rfl, h1, o1⟩
end Lp

