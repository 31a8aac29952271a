theorem kc_b61 : (Int8.ofInt 61).toInt32 = 61 := by decide +kernel
theorem kc_b62 : (Int8.ofInt 62).toInt32 = 62 := by decide +kernel
theorem kc_s260 : (Int16.ofInt 260).toInt32 = 260 := by decide +kernel
theorem kc_s261 : (Int16.ofInt 261).toInt32 = 261 := by decide +kernel
theorem kc_s329 : (Int16.ofInt 329).toInt32 = 329 := by decide +kernel
theorem dX7_comparingSign_0 : decode cX7_comparingSign 0 = .ok (.aload_n 0, 1) := by decide +kernel
theorem dX7_comparingSign_1 : decode cX7_comparingSign 1 = .ok (.invokevirtual 31, 3) := by decide +kernel
theorem dX7_comparingSign_4 : decode cX7_comparingSign 4 = .ok (.istore_n 1, 1) := by decide +kernel
theorem dX7_comparingSign_5 : decode cX7_comparingSign 5 = .ok (.iload_n 1, 1) := by decide +kernel
theorem dX7_comparingSign_6 : decode cX7_comparingSign 6 = .ok (.bipush 60, 2) := by decide +kernel
theorem dX7_comparingSign_8 : decode cX7_comparingSign 8 = .ok (.if_icmp .eq 29, 3) := by decide +kernel
theorem dX7_comparingSign_11 : decode cX7_comparingSign 11 = .ok (.iload_n 1, 1) := by decide +kernel
theorem dX7_comparingSign_12 : decode cX7_comparingSign 12 = .ok (.bipush 62, 2) := by decide +kernel
theorem dX7_comparingSign_14 : decode cX7_comparingSign 14 = .ok (.if_icmp .eq 23, 3) := by decide +kernel
theorem dX7_comparingSign_17 : decode cX7_comparingSign 17 = .ok (.iload_n 1, 1) := by decide +kernel
theorem dX7_comparingSign_18 : decode cX7_comparingSign 18 = .ok (.bipush 61, 2) := by decide +kernel
theorem dX7_comparingSign_20 : decode cX7_comparingSign 20 = .ok (.if_icmp .eq 17, 3) := by decide +kernel
theorem dX7_comparingSign_23 : decode cX7_comparingSign 23 = .ok (.iload_n 1, 1) := by decide +kernel
theorem dX7_comparingSign_24 : decode cX7_comparingSign 24 = .ok (.sipush 260, 3) := by decide +kernel
theorem dX7_comparingSign_27 : decode cX7_comparingSign 27 = .ok (.if_icmp .eq 10, 3) := by decide +kernel
theorem dX7_comparingSign_30 : decode cX7_comparingSign 30 = .ok (.iload_n 1, 1) := by decide +kernel
theorem dX7_comparingSign_31 : decode cX7_comparingSign 31 = .ok (.sipush 261, 3) := by decide +kernel
theorem dX7_comparingSign_34 : decode cX7_comparingSign 34 = .ok (.if_icmp .ne 7, 3) := by decide +kernel
theorem dX7_comparingSign_37 : decode cX7_comparingSign 37 = .ok (.iconst 1, 1) := by decide +kernel
theorem dX7_comparingSign_38 : decode cX7_comparingSign 38 = .ok (.goto 4, 3) := by decide +kernel
theorem dX7_comparingSign_41 : decode cX7_comparingSign 41 = .ok (.iconst 0, 1) := by decide +kernel
theorem dX7_comparingSign_42 : decode cX7_comparingSign 42 = .ok (.istore_n 2, 1) := by decide +kernel
theorem dX7_comparingSign_43 : decode cX7_comparingSign 43 = .ok (.aload_n 0, 1) := by decide +kernel
theorem dX7_comparingSign_44 : decode cX7_comparingSign 44 = .ok (.iload_n 2, 1) := by decide +kernel
theorem dX7_comparingSign_45 : decode cX7_comparingSign 45 = .ok (.ifCond .eq 7, 3) := by decide +kernel
theorem dX7_comparingSign_48 : decode cX7_comparingSign 48 = .ok (.iload_n 1, 1) := by decide +kernel
theorem dX7_comparingSign_49 : decode cX7_comparingSign 49 = .ok (.goto 5, 3) := by decide +kernel
theorem dX7_comparingSign_52 : decode cX7_comparingSign 52 = .ok (.bipush 61, 2) := by decide +kernel
theorem dX7_comparingSign_54 : decode cX7_comparingSign 54 = .ok (.invokevirtual 53, 3) := by decide +kernel
theorem dX7_comparingSign_57 : decode cX7_comparingSign 57 = .ok (.iload_n 1, 1) := by decide +kernel
theorem dX7_comparingSign_58 : decode cX7_comparingSign 58 = .ok (.ireturn, 1) := by decide +kernel
theorem dX7_readBoth_0 : decode cX7_readBoth 0 = .ok (.aload_n 0, 1) := by decide +kernel
theorem dX7_readBoth_1 : decode cX7_readBoth 1 = .ok (.iload_n 1, 1) := by decide +kernel
theorem dX7_readBoth_2 : decode cX7_readBoth 2 = .ok (.invokevirtual 148, 3) := by decide +kernel
theorem dX7_readBoth_5 : decode cX7_readBoth 5 = .ok (.iconst 0, 1) := by decide +kernel
theorem dX7_readBoth_6 : decode cX7_readBoth 6 = .ok (.istore_n 2, 1) := by decide +kernel
theorem dX7_readBoth_7 : decode cX7_readBoth 7 = .ok (.iload_n 2, 1) := by decide +kernel
theorem dX7_readBoth_8 : decode cX7_readBoth 8 = .ok (.sipush 400, 3) := by decide +kernel
theorem dX7_readBoth_11 : decode cX7_readBoth 11 = .ok (.if_icmp .ge 45, 3) := by decide +kernel
theorem dX7_readBoth_14 : decode cX7_readBoth 14 = .ok (.aload_n 0, 1) := by decide +kernel
theorem dX7_readBoth_15 : decode cX7_readBoth 15 = .ok (.invokevirtual 31, 3) := by decide +kernel
theorem dX7_readBoth_18 : decode cX7_readBoth 18 = .ok (.sipush 328, 3) := by decide +kernel
theorem dX7_readBoth_21 : decode cX7_readBoth 21 = .ok (.if_icmp .ne 35, 3) := by decide +kernel
theorem dX7_readBoth_24 : decode cX7_readBoth 24 = .ok (.aload_n 0, 1) := by decide +kernel
theorem dX7_readBoth_25 : decode cX7_readBoth 25 = .ok (.sipush 328, 3) := by decide +kernel
theorem dX7_readBoth_28 : decode cX7_readBoth 28 = .ok (.invokevirtual 53, 3) := by decide +kernel
theorem dX7_readBoth_31 : decode cX7_readBoth 31 = .ok (.aload_n 0, 1) := by decide +kernel
theorem dX7_readBoth_32 : decode cX7_readBoth 32 = .ok (.iload_n 1, 1) := by decide +kernel
theorem dX7_readBoth_33 : decode cX7_readBoth 33 = .ok (.invokevirtual 148, 3) := by decide +kernel
theorem dX7_readBoth_36 : decode cX7_readBoth 36 = .ok (.aload_n 0, 1) := by decide +kernel
theorem dX7_readBoth_37 : decode cX7_readBoth 37 = .ok (.getfield 15, 3) := by decide +kernel
theorem dX7_readBoth_40 : decode cX7_readBoth 40 = .ok (.getfield 116, 3) := by decide +kernel
theorem dX7_readBoth_43 : decode cX7_readBoth 43 = .ok (.sipush 328, 3) := by decide +kernel
theorem dX7_readBoth_46 : decode cX7_readBoth 46 = .ok (.iconst 0, 1) := by decide +kernel
theorem dX7_readBoth_47 : decode cX7_readBoth 47 = .ok (.invokevirtual 144, 3) := by decide +kernel
theorem dX7_readBoth_50 : decode cX7_readBoth 50 = .ok (.iinc 2 1, 3) := by decide +kernel
theorem dX7_readBoth_53 : decode cX7_readBoth 53 = .ok (.goto (-46), 3) := by decide +kernel
theorem dX7_readBoth_56 : decode cX7_readBoth 56 = .ok (.return_, 1) := by decide +kernel
theorem dX7_readTest_0 : decode cX7_readTest 0 = .ok (.aload_n 0, 1) := by decide +kernel
theorem dX7_readTest_1 : decode cX7_readTest 1 = .ok (.iload_n 1, 1) := by decide +kernel
theorem dX7_readTest_2 : decode cX7_readTest 2 = .ok (.invokevirtual 141, 3) := by decide +kernel
theorem dX7_readTest_5 : decode cX7_readTest 5 = .ok (.iconst 0, 1) := by decide +kernel
theorem dX7_readTest_6 : decode cX7_readTest 6 = .ok (.istore_n 2, 1) := by decide +kernel
theorem dX7_readTest_7 : decode cX7_readTest 7 = .ok (.iload_n 2, 1) := by decide +kernel
theorem dX7_readTest_8 : decode cX7_readTest 8 = .ok (.sipush 400, 3) := by decide +kernel
theorem dX7_readTest_11 : decode cX7_readTest 11 = .ok (.if_icmp .ge 45, 3) := by decide +kernel
theorem dX7_readTest_14 : decode cX7_readTest 14 = .ok (.aload_n 0, 1) := by decide +kernel
theorem dX7_readTest_15 : decode cX7_readTest 15 = .ok (.invokevirtual 31, 3) := by decide +kernel
theorem dX7_readTest_18 : decode cX7_readTest 18 = .ok (.sipush 329, 3) := by decide +kernel
theorem dX7_readTest_21 : decode cX7_readTest 21 = .ok (.if_icmp .ne 35, 3) := by decide +kernel
theorem dX7_readTest_24 : decode cX7_readTest 24 = .ok (.aload_n 0, 1) := by decide +kernel
theorem dX7_readTest_25 : decode cX7_readTest 25 = .ok (.sipush 329, 3) := by decide +kernel
theorem dX7_readTest_28 : decode cX7_readTest 28 = .ok (.invokevirtual 53, 3) := by decide +kernel
theorem dX7_readTest_31 : decode cX7_readTest 31 = .ok (.aload_n 0, 1) := by decide +kernel
theorem dX7_readTest_32 : decode cX7_readTest 32 = .ok (.iload_n 1, 1) := by decide +kernel
theorem dX7_readTest_33 : decode cX7_readTest 33 = .ok (.invokevirtual 141, 3) := by decide +kernel
theorem dX7_readTest_36 : decode cX7_readTest 36 = .ok (.aload_n 0, 1) := by decide +kernel
theorem dX7_readTest_37 : decode cX7_readTest 37 = .ok (.getfield 15, 3) := by decide +kernel
theorem dX7_readTest_40 : decode cX7_readTest 40 = .ok (.getfield 116, 3) := by decide +kernel
theorem dX7_readTest_43 : decode cX7_readTest 43 = .ok (.sipush 329, 3) := by decide +kernel
theorem dX7_readTest_46 : decode cX7_readTest 46 = .ok (.iconst 0, 1) := by decide +kernel
theorem dX7_readTest_47 : decode cX7_readTest 47 = .ok (.invokevirtual 144, 3) := by decide +kernel
theorem dX7_readTest_50 : decode cX7_readTest 50 = .ok (.iinc 2 1, 3) := by decide +kernel
theorem dX7_readTest_53 : decode cX7_readTest 53 = .ok (.goto (-46), 3) := by decide +kernel
theorem dX7_readTest_56 : decode cX7_readTest 56 = .ok (.return_, 1) := by decide +kernel
/-! the reader's tests -/
def eBoth (T : Toks) (p : PS × Cd → PS × Cd) (s : PS × Cd) : PS × Cd := eLoop T p 328 328 400 (p s)
def eTest1 (T : Toks) (p : PS × Cd → PS × Cd) (s : PS × Cd) : PS × Cd := eLoop T p 329 329 400 (p s)
def eTs (T : Toks) (p : PS × Cd → PS × Cd) : PS × Cd → PS × Cd := eTest1 T (eBoth T p)
/-- the sign of a comparison is read, or refused -/
def eCs (T : Toks) (s : PS × Cd) : PS × Cd := if pK T s.1 = 60 ∨ pK T s.1 = 62 ∨ pK T s.1 = 61 ∨ pK T s.1 = 260 ∨ pK T s.1 = 261 then eEx T (pK T s.1) s else eRef T s
def eCmp (T : Toks) (p : PS × Cd → PS × Cd) (s : PS × Cd) : PS × Cd := eAd (pK T (p s).1) 0 (p (eCs T (p s)))
def eVal (T : Toks) (ix : Int32 → Int64 → Int32) : Nat → PS × Cd → PS × Cd
  | 0 => eValF T ix id 8
  | r + 1 => eValF T ix (eVal T ix r) (7 - r)
section Ts
variable {G : Gp} {S : AMem} {J : Nat → Nat → Int64} {R : Nat → Nat → Option Nat} {t x c n1 n2 n3 : Nat} {T : Toks}
theorem k_X7_readBoth {V : PS × Cd → PS × Cd} {dv dep : Nat} (hG : okG G) (hX : RX S R x t c) (hdv : 2 ≤ dv) (hV : KV G S J R x t c n1 n2 n3 T mX7_readSingle dv dep V) : KV G S J R x t c n1 n2 n3 T mX7_readBoth (dv + 1) dep (eBoth T V) := by
  intro I s h
  obtain ⟨⟨hT, hx, hr, hxt⟩, hct, hr1, hxc, htc⟩ := id hX
  obtain ⟨kc, rc0, _, _, _, _, _, _, _, ⟨kd, _⟩, _⟩ := hct
  unfold eBoth
  refine am_aload_n (q := 1) dX7_readBoth_0 rfl rfl ?_
  refine am_iload_n (q := 2) dX7_readBoth_1 rfl rfl ?_
  refine cm_call0 (q := 5) (As := [_]) hG dX7_readBoth_2 mlX7_148 rfl (by assumption) ⟨_, _, rfl⟩ (Nat.le_of_ble_eq_true rfl) (Nat.le_of_ble_eq_true rfl) (by omega) (Nat.le_of_ble_eq_true rfl) (hV I s h) rfl ?_
  rintro _ _ ⟨rfl, I0, rfl, h0, o0⟩
  refine am_iconst (q := 6) (v := 0) dX7_readBoth_5 kc_i0 rfl ?_
  refine am_istore_n (q := 7) (ls1 := [_, _, _]) dX7_readBoth_6 (Nat.le_of_ble_eq_true rfl) rfl rfl ?_
  refine k_loop (σ := (Nat → Nat → Int32) × (PS × Cd)) (n := 400) (Inv := fun i q => eLoop T V 328 328 (400 - i) q.2 = eLoop T V 328 328 400 (V s) ∧ AbE q.1 J x t c n1 n2 n3 T q.2 ∧ OffE x c I q.1) (W := fun i q => MW G mX7_readBoth (dv + 1) 7 [some (vR x), some (vI (nI dep)), some (vI (nI i))] [] (mw S q.1 J R) _) ?_ ?_ 0 (I0, V s) (Nat.zero_le _) ⟨rfl, h0, o0⟩
  · rintro i ⟨I1, s1⟩ hi ⟨hinv, h1, o1⟩ ih
    dsimp only at hinv h1 o1 ih ⊢
    rw [show 400 - i = (400 - (i + 1)) + 1 by omega, eLoop] at hinv
    refine am_iload_n (q := 8) dX7_readBoth_7 rfl rfl ?_
    refine am_sipush (q := 11) (v := 400) dX7_readBoth_8 kc_s400 rfl ?_
    refine am_icmp_ge (tgt := 56) (q := 14) dX7_readBoth_11 rfl rfl (fun hz => absurd hz (nI_ge (b := 400) (by omega) (by decide))) (fun _ => ?_)
    refine am_aload_n (q := 15) dX7_readBoth_14 rfl rfl ?_
    refine cm_call0 (q := 18) (As := []) hG dX7_readBoth_15 mlX7_31 rfl (by assumption) ⟨_, _, rfl⟩ (Nat.le_of_ble_eq_true rfl) (Nat.le_of_ble_eq_true rfl) (by omega) (Nat.le_of_ble_eq_true rfl) (ke_kind hG hX h1) rfl ?_
    rintro _ _ ⟨rfl, rfl⟩
    refine am_sipush (q := 21) (v := 328) dX7_readBoth_18 kc_s328 rfl ?_
    refine am_icmp_ne (tgt := 56) (q := 24) dX7_readBoth_21 rfl rfl (fun hc => ?_) (fun hc => ?_)
    · rw [if_neg (fun q => q.elim hc hc)] at hinv
      rw [← hinv]
      exact am_ret dX7_readBoth_56 rfl ⟨_, rfl, rfl, I1, rfl, h1, o1⟩
    · rw [if_pos (Or.inl hc), hc] at hinv
      refine am_aload_n (q := 25) dX7_readBoth_24 rfl rfl ?_
      refine am_sipush (q := 28) (v := 328) dX7_readBoth_25 kc_s328 rfl ?_
      refine cm_call0 (q := 31) (As := [_]) hG dX7_readBoth_28 mlX7_53 rfl (by assumption) ⟨_, _, rfl⟩ (Nat.le_of_ble_eq_true rfl) (Nat.le_of_ble_eq_true rfl) (by omega) (Nat.le_of_ble_eq_true rfl) (ke_expect hG hX h1 (by decide)) rfl ?_
      rintro _ _ ⟨rfl, I2, rfl, h2, o2⟩
      refine am_aload_n (q := 32) dX7_readBoth_31 rfl rfl ?_
      refine am_iload_n (q := 33) dX7_readBoth_32 rfl rfl ?_
      refine cm_call0 (q := 36) (As := [_]) hG dX7_readBoth_33 mlX7_148 rfl (by assumption) ⟨_, _, rfl⟩ (Nat.le_of_ble_eq_true rfl) (Nat.le_of_ble_eq_true rfl) (by omega) (Nat.le_of_ble_eq_true rfl) (hV I2 _ h2) rfl ?_
      rintro _ _ ⟨rfl, I3, rfl, h3, o3⟩
      refine am_aload_n (q := 37) dX7_readBoth_36 rfl rfl ?_
      refine cm_getR (q := 40) dX7_readBoth_37 flX7_15 rfl (by assumption) (by assumption) rfl ?_
      refine cm_getR (q := 43) dX7_readBoth_40 flX7_116 rfl (by assumption) (by assumption) rfl ?_
      refine am_sipush (q := 46) (v := 328) dX7_readBoth_43 kc_s328 rfl ?_
      refine am_iconst (q := 47) (v := 0) dX7_readBoth_46 kc_i0 rfl ?_
      refine cm_call0 (q := 50) (As := [_, _]) hG dX7_readBoth_47 mlX7_144 rfl (by assumption) ⟨_, _, rfl⟩ (Nat.le_of_ble_eq_true rfl) (Nat.le_of_ble_eq_true rfl) (by omega) (Nat.le_of_ble_eq_true rfl) (ke_add hX h3) rfl ?_
      rintro _ _ ⟨rfl, I4, rfl, h4, o4⟩
      refine am_iincW (q := 53) (ls1 := [_, _, _]) (w := 1) dX7_readBoth_50 rfl (Nat.le_of_ble_eq_true rfl) kc_i1 rfl rfl ?_
      refine am_goto (tgt := 7) dX7_readBoth_53 rfl ?_
      rw [nI_1]
      exact ih (I4, _) ⟨hinv, h4, ((o1.tr o2).tr o3).tr o4⟩
  · rintro ⟨I1, s1⟩ ⟨hinv, h1, o1⟩
    dsimp only at hinv h1 o1 ⊢
    rw [Nat.sub_self, eLoop] at hinv
    rw [← hinv]
    refine am_iload_n (q := 8) dX7_readBoth_7 rfl rfl ?_
    refine am_sipush (q := 11) (v := 400) dX7_readBoth_8 kc_s400 rfl ?_
    refine am_icmp_ge (tgt := 56) (q := 14) dX7_readBoth_11 rfl rfl (fun _ => ?_) (fun hz => absurd (Int32.le_refl _) hz)
    exact am_ret dX7_readBoth_56 rfl ⟨_, rfl, rfl, I1, rfl, h1, o1⟩
theorem k_X7_readTest {V : PS × Cd → PS × Cd} {dv dep : Nat} (hG : okG G) (hX : RX S R x t c) (hdv : 2 ≤ dv) (hV : KV G S J R x t c n1 n2 n3 T mX7_readBoth dv dep V) : KV G S J R x t c n1 n2 n3 T mX7_readTest (dv + 1) dep (eTest1 T V) := by
  intro I s h
  obtain ⟨⟨hT, hx, hr, hxt⟩, hct, hr1, hxc, htc⟩ := id hX
  obtain ⟨kc, rc0, _, _, _, _, _, _, _, ⟨kd, _⟩, _⟩ := hct
  unfold eTest1
  refine am_aload_n (q := 1) dX7_readTest_0 rfl rfl ?_
  refine am_iload_n (q := 2) dX7_readTest_1 rfl rfl ?_
  refine cm_call0 (q := 5) (As := [_]) hG dX7_readTest_2 mlX7_141 rfl (by assumption) ⟨_, _, rfl⟩ (Nat.le_of_ble_eq_true rfl) (Nat.le_of_ble_eq_true rfl) (by omega) (Nat.le_of_ble_eq_true rfl) (hV I s h) rfl ?_
  rintro _ _ ⟨rfl, I0, rfl, h0, o0⟩
  refine am_iconst (q := 6) (v := 0) dX7_readTest_5 kc_i0 rfl ?_
  refine am_istore_n (q := 7) (ls1 := [_, _, _]) dX7_readTest_6 (Nat.le_of_ble_eq_true rfl) rfl rfl ?_
  refine k_loop (σ := (Nat → Nat → Int32) × (PS × Cd)) (n := 400) (Inv := fun i q => eLoop T V 329 329 (400 - i) q.2 = eLoop T V 329 329 400 (V s) ∧ AbE q.1 J x t c n1 n2 n3 T q.2 ∧ OffE x c I q.1) (W := fun i q => MW G mX7_readTest (dv + 1) 7 [some (vR x), some (vI (nI dep)), some (vI (nI i))] [] (mw S q.1 J R) _) ?_ ?_ 0 (I0, V s) (Nat.zero_le _) ⟨rfl, h0, o0⟩
  · rintro i ⟨I1, s1⟩ hi ⟨hinv, h1, o1⟩ ih
    dsimp only at hinv h1 o1 ih ⊢
    rw [show 400 - i = (400 - (i + 1)) + 1 by omega, eLoop] at hinv
    refine am_iload_n (q := 8) dX7_readTest_7 rfl rfl ?_
    refine am_sipush (q := 11) (v := 400) dX7_readTest_8 kc_s400 rfl ?_
    refine am_icmp_ge (tgt := 56) (q := 14) dX7_readTest_11 rfl rfl (fun hz => absurd hz (nI_ge (b := 400) (by omega) (by decide))) (fun _ => ?_)
    refine am_aload_n (q := 15) dX7_readTest_14 rfl rfl ?_
    refine cm_call0 (q := 18) (As := []) hG dX7_readTest_15 mlX7_31 rfl (by assumption) ⟨_, _, rfl⟩ (Nat.le_of_ble_eq_true rfl) (Nat.le_of_ble_eq_true rfl) (by omega) (Nat.le_of_ble_eq_true rfl) (ke_kind hG hX h1) rfl ?_
    rintro _ _ ⟨rfl, rfl⟩
    refine am_sipush (q := 21) (v := 329) dX7_readTest_18 kc_s329 rfl ?_
    refine am_icmp_ne (tgt := 56) (q := 24) dX7_readTest_21 rfl rfl (fun hc => ?_) (fun hc => ?_)
    · rw [if_neg (fun q => q.elim hc hc)] at hinv
      rw [← hinv]
      exact am_ret dX7_readTest_56 rfl ⟨_, rfl, rfl, I1, rfl, h1, o1⟩
    · rw [if_pos (Or.inl hc), hc] at hinv
      refine am_aload_n (q := 25) dX7_readTest_24 rfl rfl ?_
      refine am_sipush (q := 28) (v := 329) dX7_readTest_25 kc_s329 rfl ?_
      refine cm_call0 (q := 31) (As := [_]) hG dX7_readTest_28 mlX7_53 rfl (by assumption) ⟨_, _, rfl⟩ (Nat.le_of_ble_eq_true rfl) (Nat.le_of_ble_eq_true rfl) (by omega) (Nat.le_of_ble_eq_true rfl) (ke_expect hG hX h1 (by decide)) rfl ?_
      rintro _ _ ⟨rfl, I2, rfl, h2, o2⟩
      refine am_aload_n (q := 32) dX7_readTest_31 rfl rfl ?_
      refine am_iload_n (q := 33) dX7_readTest_32 rfl rfl ?_
      refine cm_call0 (q := 36) (As := [_]) hG dX7_readTest_33 mlX7_141 rfl (by assumption) ⟨_, _, rfl⟩ (Nat.le_of_ble_eq_true rfl) (Nat.le_of_ble_eq_true rfl) (by omega) (Nat.le_of_ble_eq_true rfl) (hV I2 _ h2) rfl ?_
      rintro _ _ ⟨rfl, I3, rfl, h3, o3⟩
      refine am_aload_n (q := 37) dX7_readTest_36 rfl rfl ?_
      refine cm_getR (q := 40) dX7_readTest_37 flX7_15 rfl (by assumption) (by assumption) rfl ?_
      refine cm_getR (q := 43) dX7_readTest_40 flX7_116 rfl (by assumption) (by assumption) rfl ?_
      refine am_sipush (q := 46) (v := 329) dX7_readTest_43 kc_s329 rfl ?_
      refine am_iconst (q := 47) (v := 0) dX7_readTest_46 kc_i0 rfl ?_
      refine cm_call0 (q := 50) (As := [_, _]) hG dX7_readTest_47 mlX7_144 rfl (by assumption) ⟨_, _, rfl⟩ (Nat.le_of_ble_eq_true rfl) (Nat.le_of_ble_eq_true rfl) (by omega) (Nat.le_of_ble_eq_true rfl) (ke_add hX h3) rfl ?_
      rintro _ _ ⟨rfl, I4, rfl, h4, o4⟩
      refine am_iincW (q := 53) (ls1 := [_, _, _]) (w := 1) dX7_readTest_50 rfl (Nat.le_of_ble_eq_true rfl) kc_i1 rfl rfl ?_
      refine am_goto (tgt := 7) dX7_readTest_53 rfl ?_
      rw [nI_1]
      exact ih (I4, _) ⟨hinv, h4, ((o1.tr o2).tr o3).tr o4⟩
  · rintro ⟨I1, s1⟩ ⟨hinv, h1, o1⟩
    dsimp only at hinv h1 o1 ⊢
    rw [Nat.sub_self, eLoop] at hinv
    rw [← hinv]
    refine am_iload_n (q := 8) dX7_readTest_7 rfl rfl ?_
    refine am_sipush (q := 11) (v := 400) dX7_readTest_8 kc_s400 rfl ?_
    refine am_icmp_ge (tgt := 56) (q := 14) dX7_readTest_11 rfl rfl (fun _ => ?_) (fun hz => absurd (Int32.le_refl _) hz)
    exact am_ret dX7_readTest_56 rfl ⟨_, rfl, rfl, I1, rfl, h1, o1⟩
theorem k_X7_comparingSign {I : Nat → Nat → Int32} {s : PS × Cd} (hG : okG G) (hX : RX S R x t c) (h : AbE I J x t c n1 n2 n3 T s) : Fn G mX7_comparingSign 3 [vR x] (mw S I J R) (fun rr M1 => rr = some (vI (pK T s.1)) ∧ ∃ I1, M1 = mw S I1 J R ∧ AbE I1 J x t c n1 n2 n3 T (eCs T s) ∧ OffE x c I I1) := by
  obtain ⟨⟨hT, hx, hr, hxt⟩, hct, hr1, hxc, htc⟩ := id hX
  have yes : (pK T s.1 = 60 ∨ pK T s.1 = 62 ∨ pK T s.1 = 61 ∨ pK T s.1 = 260 ∨ pK T s.1 = 261) → MW G mX7_comparingSign 3 37 [some (vR x), some (vI (pK T s.1)), none] [] (mw S I J R) (fun f M1 => ∃ r, f = .inl r ∧ (r = some (vI (pK T s.1)) ∧ ∃ I1, M1 = mw S I1 J R ∧ AbE I1 J x t c n1 n2 n3 T (eCs T s) ∧ OffE x c I I1)) := by
    intro hc
    have ec : eCs T s = eEx T (pK T s.1) s := if_pos hc
    rw [ec]
    have hk : pK T s.1 ≠ 257 := by
      rcases hc with e | e | e | e | e <;> rw [e] <;> decide
    clear hc ec
    refine am_iconst (q := 38) (v := 1) dX7_comparingSign_37 kc_i1 rfl ?_
    refine am_goto (tgt := 42) dX7_comparingSign_38 rfl ?_
    refine am_istore_n (q := 43) (ls1 := [_, _, _]) dX7_comparingSign_42 (Nat.le_of_ble_eq_true rfl) rfl rfl ?_
    refine am_aload_n (q := 44) dX7_comparingSign_43 rfl rfl ?_
    refine am_iload_n (q := 45) dX7_comparingSign_44 rfl rfl ?_
    refine am_if_eq (tgt := 52) (q := 48) dX7_comparingSign_45 rfl rfl (fun hz => absurd hz (by decide)) (fun _ => ?_)
    refine am_iload_n (q := 49) dX7_comparingSign_48 rfl rfl ?_
    refine am_goto (tgt := 54) dX7_comparingSign_49 rfl ?_
    refine cm_call0 (q := 57) (As := [_]) hG dX7_comparingSign_54 mlX7_53 rfl (by assumption) ⟨_, _, rfl⟩ (Nat.le_of_ble_eq_true rfl) (Nat.le_of_ble_eq_true rfl) (Nat.le_of_ble_eq_true rfl) (Nat.le_of_ble_eq_true rfl) (ke_expect hG hX h hk) rfl ?_
    rintro _ _ ⟨rfl, I1, rfl, h1, o1⟩
    refine am_iload_n (q := 58) dX7_comparingSign_57 rfl rfl ?_
    exact am_iret dX7_comparingSign_58 rfl rfl ⟨_, rfl, rfl, I1, rfl, h1, o1⟩
  refine am_aload_n (q := 1) dX7_comparingSign_0 rfl rfl ?_
  refine cm_call0 (q := 4) (As := []) hG dX7_comparingSign_1 mlX7_31 rfl (by assumption) ⟨_, _, rfl⟩ (Nat.le_of_ble_eq_true rfl) (Nat.le_of_ble_eq_true rfl) (Nat.le_of_ble_eq_true rfl) (Nat.le_of_ble_eq_true rfl) (ke_kind hG hX h) rfl ?_
  rintro _ _ ⟨rfl, rfl⟩
  refine am_istore_n (q := 5) (ls1 := [_, _, _]) dX7_comparingSign_4 (Nat.le_of_ble_eq_true rfl) rfl rfl ?_
  refine am_iload_n (q := 6) dX7_comparingSign_5 rfl rfl ?_
  refine am_bipush (q := 8) (v := 60) dX7_comparingSign_6 kc_b60 rfl ?_
  refine am_icmp_eq (tgt := 37) (q := 11) dX7_comparingSign_8 rfl rfl (fun h1 => ?_) (fun h1 => ?_)
  · exact yes (Or.inl h1)
  · refine am_iload_n (q := 12) dX7_comparingSign_11 rfl rfl ?_
    refine am_bipush (q := 14) (v := 62) dX7_comparingSign_12 kc_b62 rfl ?_
    refine am_icmp_eq (tgt := 37) (q := 17) dX7_comparingSign_14 rfl rfl (fun h2 => ?_) (fun h2 => ?_)
    · exact yes (Or.inr (Or.inl h2))
    · refine am_iload_n (q := 18) dX7_comparingSign_17 rfl rfl ?_
      refine am_bipush (q := 20) (v := 61) dX7_comparingSign_18 kc_b61 rfl ?_
      refine am_icmp_eq (tgt := 37) (q := 23) dX7_comparingSign_20 rfl rfl (fun h3 => ?_) (fun h3 => ?_)
      · exact yes (Or.inr (Or.inr (Or.inl h3)))
      · refine am_iload_n (q := 24) dX7_comparingSign_23 rfl rfl ?_
        refine am_sipush (q := 27) (v := 260) dX7_comparingSign_24 kc_s260 rfl ?_
        refine am_icmp_eq (tgt := 37) (q := 30) dX7_comparingSign_27 rfl rfl (fun h4 => ?_) (fun h4 => ?_)
        · exact yes (Or.inr (Or.inr (Or.inr (Or.inl h4))))
        · refine am_iload_n (q := 31) dX7_comparingSign_30 rfl rfl ?_
          refine am_sipush (q := 34) (v := 261) dX7_comparingSign_31 kc_s261 rfl ?_
          refine am_icmp_ne (tgt := 41) (q := 37) dX7_comparingSign_34 rfl rfl (fun h5 => ?_) (fun h5 => ?_)
          · have ec : eCs T s = eEx T 61 s := by
              unfold eCs eEx pEx
              rw [if_neg h3, if_neg (by
                rintro (q | q | q | q | q)
                · exact h1 q
                · exact h2 q
                · exact h3 q
                · exact h4 q
                · exact h5 q)]
              rfl
            rw [ec]
            clear ec h1 h2 h3 h4 h5 yes
            refine am_iconst (q := 42) (v := 0) dX7_comparingSign_41 kc_i0 rfl ?_
            refine am_istore_n (q := 43) (ls1 := [_, _, _]) dX7_comparingSign_42 (Nat.le_of_ble_eq_true rfl) rfl rfl ?_
            refine am_aload_n (q := 44) dX7_comparingSign_43 rfl rfl ?_
            refine am_iload_n (q := 45) dX7_comparingSign_44 rfl rfl ?_
            refine am_if_eq (tgt := 52) (q := 48) dX7_comparingSign_45 rfl rfl (fun _ => ?_) (fun hz => absurd rfl hz)
            refine am_bipush (q := 54) (v := 61) dX7_comparingSign_52 kc_b61 rfl ?_
            refine cm_call0 (q := 57) (As := [_]) hG dX7_comparingSign_54 mlX7_53 rfl (by assumption) ⟨_, _, rfl⟩ (Nat.le_of_ble_eq_true rfl) (Nat.le_of_ble_eq_true rfl) (Nat.le_of_ble_eq_true rfl) (Nat.le_of_ble_eq_true rfl) (ke_expect hG hX h (by decide)) rfl ?_
            rintro _ _ ⟨rfl, I1, rfl, h1, o1⟩
            refine am_iload_n (q := 58) dX7_comparingSign_57 rfl rfl ?_
            exact am_iret dX7_comparingSign_58 rfl rfl ⟨_, rfl, rfl, I1, rfl, h1, o1⟩
          · exact yes (Or.inr (Or.inr (Or.inr (Or.inr h5))))
theorem k_eVal (hG : okG G) (hX : RX S R x t c) : ∀ r, r ≤ 8 → KV G S J R x t c n1 n2 n3 T mX7_readValue (4 * r + 6) (8 - r) (eVal T (ixM J c n1 n2 n3) r) := by
  intro r
  induction r with
  | zero => intro _; exact k_X7_readValue (V := id) (dv := 2) (d := 8) hG hX (by omega) (by omega) (fun h => absurd h (by omega))
  | succ r ih =>
    intro hr
    have h1 := ih (by omega)
    have h2 := k_X7_readValue (V := eVal T (ixM J c n1 n2 n3) r) (dv := 4 * r + 6) (d := 7 - r) hG hX (by omega) (by omega) (fun _ => by rw [show 7 - r + 1 = 8 - r by omega]; exact h1)
    rw [show 8 - (r + 1) = 7 - r by omega, show 4 * (r + 1) + 6 = 4 * r + 6 + 4 by omega]
    exact h2
end Ts

