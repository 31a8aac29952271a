theorem kc_b40 : (Int8.ofInt 40).toInt32 = 40 := by decide +kernel
theorem kc_b41 : (Int8.ofInt 41).toInt32 = 41 := by decide +kernel
theorem kc_b44 : (Int8.ofInt 44).toInt32 = 44 := by decide +kernel
theorem dX7_readPair_0 : decode cX7_readPair 0 = .ok (.aload_n 0, 1) := by decide +kernel
theorem dX7_readPair_1 : decode cX7_readPair 1 = .ok (.bipush 40, 2) := by decide +kernel
theorem dX7_readPair_3 : decode cX7_readPair 3 = .ok (.iload_n 2, 1) := by decide +kernel
theorem dX7_readPair_4 : decode cX7_readPair 4 = .ok (.invokevirtual 151, 3) := by decide +kernel
theorem dX7_readPair_7 : decode cX7_readPair 7 = .ok (.ifCond .eq 41, 3) := by decide +kernel
theorem dX7_readPair_10 : decode cX7_readPair 10 = .ok (.aload_n 0, 1) := by decide +kernel
theorem dX7_readPair_11 : decode cX7_readPair 11 = .ok (.iload_n 2, 1) := by decide +kernel
theorem dX7_readPair_12 : decode cX7_readPair 12 = .ok (.iconst 1, 1) := by decide +kernel
theorem dX7_readPair_13 : decode cX7_readPair 13 = .ok (.iadd, 1) := by decide +kernel
theorem dX7_readPair_14 : decode cX7_readPair 14 = .ok (.invokevirtual 125, 3) := by decide +kernel
theorem dX7_readPair_17 : decode cX7_readPair 17 = .ok (.aload_n 0, 1) := by decide +kernel
theorem dX7_readPair_18 : decode cX7_readPair 18 = .ok (.bipush 44, 2) := by decide +kernel
theorem dX7_readPair_20 : decode cX7_readPair 20 = .ok (.invokevirtual 53, 3) := by decide +kernel
theorem dX7_readPair_23 : decode cX7_readPair 23 = .ok (.aload_n 0, 1) := by decide +kernel
theorem dX7_readPair_24 : decode cX7_readPair 24 = .ok (.iload_n 2, 1) := by decide +kernel
theorem dX7_readPair_25 : decode cX7_readPair 25 = .ok (.iconst 1, 1) := by decide +kernel
theorem dX7_readPair_26 : decode cX7_readPair 26 = .ok (.iadd, 1) := by decide +kernel
theorem dX7_readPair_27 : decode cX7_readPair 27 = .ok (.invokevirtual 125, 3) := by decide +kernel
theorem dX7_readPair_30 : decode cX7_readPair 30 = .ok (.aload_n 0, 1) := by decide +kernel
theorem dX7_readPair_31 : decode cX7_readPair 31 = .ok (.bipush 41, 2) := by decide +kernel
theorem dX7_readPair_33 : decode cX7_readPair 33 = .ok (.invokevirtual 53, 3) := by decide +kernel
theorem dX7_readPair_36 : decode cX7_readPair 36 = .ok (.aload_n 0, 1) := by decide +kernel
theorem dX7_readPair_37 : decode cX7_readPair 37 = .ok (.getfield 15, 3) := by decide +kernel
theorem dX7_readPair_40 : decode cX7_readPair 40 = .ok (.getfield 116, 3) := by decide +kernel
theorem dX7_readPair_43 : decode cX7_readPair 43 = .ok (.iload_n 1, 1) := by decide +kernel
theorem dX7_readPair_44 : decode cX7_readPair 44 = .ok (.iconst 0, 1) := by decide +kernel
theorem dX7_readPair_45 : decode cX7_readPair 45 = .ok (.invokevirtual 144, 3) := by decide +kernel
theorem dX7_readPair_48 : decode cX7_readPair 48 = .ok (.return_, 1) := by decide +kernel
theorem dX7_readValue_0 : decode cX7_readValue 0 = .ok (.aload_n 0, 1) := by decide +kernel
theorem dX7_readValue_1 : decode cX7_readValue 1 = .ok (.invokevirtual 31, 3) := by decide +kernel
theorem dX7_readValue_4 : decode cX7_readValue 4 = .ok (.istore_n 2, 1) := by decide +kernel
theorem dX7_readValue_5 : decode cX7_readValue 5 = .ok (.iload_n 2, 1) := by decide +kernel
theorem dX7_readValue_6 : decode cX7_readValue 6 = .ok (.lookupswitch 196 #[(40, 156), (45, 122), (259, 106), (319, 106), (320, 106), (321, 106), (322, 114), (323, 114), (324, 114), (325, 114), (330, 182), (331, 182)], 106) := by decide +kernel
theorem dX7_readValue_112 : decode cX7_readValue 112 = .ok (.aload_n 0, 1) := by decide +kernel
theorem dX7_readValue_113 : decode cX7_readValue 113 = .ok (.iload_n 2, 1) := by decide +kernel
theorem dX7_readValue_114 : decode cX7_readValue 114 = .ok (.invokevirtual 155, 3) := by decide +kernel
theorem dX7_readValue_117 : decode cX7_readValue 117 = .ok (.goto 89, 3) := by decide +kernel
theorem dX7_readValue_120 : decode cX7_readValue 120 = .ok (.aload_n 0, 1) := by decide +kernel
theorem dX7_readValue_121 : decode cX7_readValue 121 = .ok (.iload_n 2, 1) := by decide +kernel
theorem dX7_readValue_122 : decode cX7_readValue 122 = .ok (.invokevirtual 167, 3) := by decide +kernel
theorem dX7_readValue_125 : decode cX7_readValue 125 = .ok (.goto 81, 3) := by decide +kernel
theorem dX7_readValue_128 : decode cX7_readValue 128 = .ok (.aload_n 0, 1) := by decide +kernel
theorem dX7_readValue_129 : decode cX7_readValue 129 = .ok (.bipush 45, 2) := by decide +kernel
theorem dX7_readValue_131 : decode cX7_readValue 131 = .ok (.iload_n 1, 1) := by decide +kernel
theorem dX7_readValue_132 : decode cX7_readValue 132 = .ok (.invokevirtual 151, 3) := by decide +kernel
theorem dX7_readValue_135 : decode cX7_readValue 135 = .ok (.ifCond .eq 71, 3) := by decide +kernel
theorem dX7_readValue_138 : decode cX7_readValue 138 = .ok (.aload_n 0, 1) := by decide +kernel
theorem dX7_readValue_139 : decode cX7_readValue 139 = .ok (.iload_n 1, 1) := by decide +kernel
theorem dX7_readValue_140 : decode cX7_readValue 140 = .ok (.iconst 1, 1) := by decide +kernel
theorem dX7_readValue_141 : decode cX7_readValue 141 = .ok (.iadd, 1) := by decide +kernel
theorem dX7_readValue_142 : decode cX7_readValue 142 = .ok (.invokevirtual 164, 3) := by decide +kernel
theorem dX7_readValue_145 : decode cX7_readValue 145 = .ok (.aload_n 0, 1) := by decide +kernel
theorem dX7_readValue_146 : decode cX7_readValue 146 = .ok (.getfield 15, 3) := by decide +kernel
theorem dX7_readValue_149 : decode cX7_readValue 149 = .ok (.getfield 116, 3) := by decide +kernel
theorem dX7_readValue_152 : decode cX7_readValue 152 = .ok (.sipush 262, 3) := by decide +kernel
theorem dX7_readValue_155 : decode cX7_readValue 155 = .ok (.iconst 0, 1) := by decide +kernel
theorem dX7_readValue_156 : decode cX7_readValue 156 = .ok (.invokevirtual 144, 3) := by decide +kernel
theorem dX7_readValue_159 : decode cX7_readValue 159 = .ok (.goto 47, 3) := by decide +kernel
theorem dX7_readValue_162 : decode cX7_readValue 162 = .ok (.aload_n 0, 1) := by decide +kernel
theorem dX7_readValue_163 : decode cX7_readValue 163 = .ok (.bipush 40, 2) := by decide +kernel
theorem dX7_readValue_165 : decode cX7_readValue 165 = .ok (.iload_n 1, 1) := by decide +kernel
theorem dX7_readValue_166 : decode cX7_readValue 166 = .ok (.invokevirtual 151, 3) := by decide +kernel
theorem dX7_readValue_169 : decode cX7_readValue 169 = .ok (.ifCond .eq 37, 3) := by decide +kernel
theorem dX7_readValue_172 : decode cX7_readValue 172 = .ok (.aload_n 0, 1) := by decide +kernel
theorem dX7_readValue_173 : decode cX7_readValue 173 = .ok (.iload_n 1, 1) := by decide +kernel
theorem dX7_readValue_174 : decode cX7_readValue 174 = .ok (.iconst 1, 1) := by decide +kernel
theorem dX7_readValue_175 : decode cX7_readValue 175 = .ok (.iadd, 1) := by decide +kernel
theorem dX7_readValue_176 : decode cX7_readValue 176 = .ok (.invokevirtual 125, 3) := by decide +kernel
theorem dX7_readValue_179 : decode cX7_readValue 179 = .ok (.aload_n 0, 1) := by decide +kernel
theorem dX7_readValue_180 : decode cX7_readValue 180 = .ok (.bipush 41, 2) := by decide +kernel
theorem dX7_readValue_182 : decode cX7_readValue 182 = .ok (.invokevirtual 53, 3) := by decide +kernel
theorem dX7_readValue_185 : decode cX7_readValue 185 = .ok (.goto 21, 3) := by decide +kernel
theorem dX7_readValue_188 : decode cX7_readValue 188 = .ok (.aload_n 0, 1) := by decide +kernel
theorem dX7_readValue_189 : decode cX7_readValue 189 = .ok (.iload_n 2, 1) := by decide +kernel
theorem dX7_readValue_190 : decode cX7_readValue 190 = .ok (.invokevirtual 53, 3) := by decide +kernel
theorem dX7_readValue_193 : decode cX7_readValue 193 = .ok (.aload_n 0, 1) := by decide +kernel
theorem dX7_readValue_194 : decode cX7_readValue 194 = .ok (.iload_n 2, 1) := by decide +kernel
theorem dX7_readValue_195 : decode cX7_readValue 195 = .ok (.iload_n 1, 1) := by decide +kernel
theorem dX7_readValue_196 : decode cX7_readValue 196 = .ok (.invokevirtual 170, 3) := by decide +kernel
theorem dX7_readValue_199 : decode cX7_readValue 199 = .ok (.goto 7, 3) := by decide +kernel
theorem dX7_readValue_202 : decode cX7_readValue 202 = .ok (.aload_n 0, 1) := by decide +kernel
theorem dX7_readValue_203 : decode cX7_readValue 203 = .ok (.invokevirtual 50, 3) := by decide +kernel
theorem dX7_readValue_206 : decode cX7_readValue 206 = .ok (.return_, 1) := by decide +kernel
/-! the reader's pairs and values -/
def eSu (T : Toks) (V : PS × Cd → PS × Cd) : PS × Cd → PS × Cd := eSum1 T (eProd T V)
def ePair (T : Toks) (V : PS × Cd → PS × Cd) (d : Nat) (k : Int32) (s : PS × Cd) : PS × Cd := if (eDp T 40 d s).1.2.1 = 1 then eDp T 40 d s else eAd k 0 (eEx T 41 (eSu T V (eEx T 44 (eSu T V (eDp T 40 d s)))))
def eValF (T : Toks) (ix : Int32 → Int64 → Int32) (V : PS × Cd → PS × Cd) (d : Nat) (s : PS × Cd) : PS × Cd :=
  if pK T s.1 = 40 then (if (eDp T 40 d s).1.2.1 = 1 then eDp T 40 d s else eEx T 41 (eSu T V (eDp T 40 d s)))
  else if pK T s.1 = 45 then (if (eDp T 45 d s).1.2.1 = 1 then eDp T 45 d s else eAd 262 0 (V (eDp T 45 d s)))
  else if pK T s.1 = 259 ∨ pK T s.1 = 319 ∨ pK T s.1 = 320 ∨ pK T s.1 = 321 then ePl T (pK T s.1) s
  else if pK T s.1 = 322 ∨ pK T s.1 = 323 ∨ pK T s.1 = 324 ∨ pK T s.1 = 325 then eNm T ix (pK T s.1) s
  else if pK T s.1 = 330 ∨ pK T s.1 = 331 then ePair T V d (pK T s.1) (eEx T (pK T s.1) s)
  else eRef T s
theorem eDp_8 {T : Toks} {k : Int32} {d : Nat} {s : PS × Cd} (h : ¬ (eDp T k d s).1.2.1 = 1) : d < 8 := by
  refine Classical.byContradiction fun q => h ?_
  unfold eDp pDp
  rw [if_neg q]
  unfold pRef
  dsimp only
  split
  · assumption
  · rfl
section Pr
variable {G : Gp} {S : AMem} {I : Nat → Nat → Int32} {J : Nat → Nat → Int64} {R : Nat → Nat → Option Nat} {t x c n1 n2 n3 : Nat} {T : Toks} {V : PS × Cd → PS × Cd} {dv d : Nat} {s : PS × Cd}
theorem k_X7_sumV (hG : okG G) (hX : RX S R x t c) (hdv : 2 ≤ dv) {dep : Nat} (hV : KV G S J R x t c n1 n2 n3 T mX7_readValue dv dep V) : KV G S J R x t c n1 n2 n3 T mX7_readSum (dv + 2) dep (eSu T V) := k_X7_readSum hG hX (by omega) (k_X7_readProduct hG hX hdv hV)
theorem k_X7_readPair {k : Int32} (hG : okG G) (hX : RX S R x t c) (hdv : 2 ≤ dv) (hd : d < 9) (hV : d < 8 → KV G S J R x t c n1 n2 n3 T mX7_readValue dv (d + 1) V) (h : AbE I J x t c n1 n2 n3 T s) : Fn G mX7_readPair (dv + 3) [vR x, vI k, vI (nI d)] (mw S I J R) (fun rr M1 => rr = none ∧ ∃ I1, M1 = mw S I1 J R ∧ AbE I1 J x t c n1 n2 n3 T (ePair T V d k s) ∧ OffE x c I I1) := by
  obtain ⟨⟨hT, hx, hr, hxt⟩, hct, hr1, hxc, htc⟩ := id hX
  obtain ⟨kc, rc0, _, _, _, _, _, _, _, ⟨kd, _⟩, _⟩ := hct
  unfold ePair
  refine am_aload_n (q := 1) dX7_readPair_0 rfl rfl ?_
  refine am_bipush (q := 3) (v := 40) dX7_readPair_1 kc_b40 rfl ?_
  refine am_iload_n (q := 4) dX7_readPair_3 rfl rfl ?_
  refine cm_call0 (q := 7) (As := [_, _]) hG dX7_readPair_4 mlX7_151 rfl (by assumption) ⟨_, _, rfl⟩ (Nat.le_of_ble_eq_true rfl) (Nat.le_of_ble_eq_true rfl) (by omega) (Nat.le_of_ble_eq_true rfl) (ke_deeper hG hX h (by decide) (by omega)) rfl ?_
  rintro _ _ ⟨rfl, I1, rfl, h1, o1⟩
  refine am_if_eq (tgt := 48) (q := 10) dX7_readPair_7 rfl rfl (fun hc => ?_) (fun hc => ?_)
  · rw [if_pos (Classical.not_not.mp (bI_e0.mp hc))]
    exact am_ret dX7_readPair_48 rfl ⟨_, rfl, rfl, I1, rfl, h1, o1⟩
  · have hc2 : ¬ (eDp T 40 d s).1.2.1 = 1 := bI_n0.mp hc
    rw [if_neg hc2]
    have hS := k_X7_sumV hG hX hdv (hV (eDp_8 hc2))
    refine am_aload_n (q := 11) dX7_readPair_10 rfl rfl ?_
    refine am_iload_n (q := 12) dX7_readPair_11 rfl rfl ?_
    refine am_iconst (q := 13) (v := 1) dX7_readPair_12 kc_i1 rfl ?_
    refine am_iadd (q := 14) dX7_readPair_13 rfl ?_
    rw [nI_1]
    refine cm_call0 (q := 17) (As := [_]) hG dX7_readPair_14 mlX7_125 rfl (by assumption) ⟨_, _, rfl⟩ (Nat.le_of_ble_eq_true rfl) (Nat.le_of_ble_eq_true rfl) (by omega) (Nat.le_of_ble_eq_true rfl) (hS I1 _ h1) rfl ?_
    rintro _ _ ⟨rfl, I2, rfl, h2, o2⟩
    refine am_aload_n (q := 18) dX7_readPair_17 rfl rfl ?_
    refine am_bipush (q := 20) (v := 44) dX7_readPair_18 kc_b44 rfl ?_
    refine cm_call0 (q := 23) (As := [_]) hG dX7_readPair_20 mlX7_53 rfl (by assumption) ⟨_, _, rfl⟩ (Nat.le_of_ble_eq_true rfl) (Nat.le_of_ble_eq_true rfl) (by omega) (Nat.le_of_ble_eq_true rfl) (ke_expect hG hX h2 (by decide)) rfl ?_
    rintro _ _ ⟨rfl, I3, rfl, h3, o3⟩
    refine am_aload_n (q := 24) dX7_readPair_23 rfl rfl ?_
    refine am_iload_n (q := 25) dX7_readPair_24 rfl rfl ?_
    refine am_iconst (q := 26) (v := 1) dX7_readPair_25 kc_i1 rfl ?_
    refine am_iadd (q := 27) dX7_readPair_26 rfl ?_
    rw [nI_1]
    refine cm_call0 (q := 30) (As := [_]) hG dX7_readPair_27 mlX7_125 rfl (by assumption) ⟨_, _, rfl⟩ (Nat.le_of_ble_eq_true rfl) (Nat.le_of_ble_eq_true rfl) (by omega) (Nat.le_of_ble_eq_true rfl) (hS I3 _ h3) rfl ?_
    rintro _ _ ⟨rfl, I4, rfl, h4, o4⟩
    refine am_aload_n (q := 31) dX7_readPair_30 rfl rfl ?_
    refine am_bipush (q := 33) (v := 41) dX7_readPair_31 kc_b41 rfl ?_
    refine cm_call0 (q := 36) (As := [_]) hG dX7_readPair_33 mlX7_53 rfl (by assumption) ⟨_, _, rfl⟩ (Nat.le_of_ble_eq_true rfl) (Nat.le_of_ble_eq_true rfl) (by omega) (Nat.le_of_ble_eq_true rfl) (ke_expect hG hX h4 (by decide)) rfl ?_
    rintro _ _ ⟨rfl, I5, rfl, h5, o5⟩
    refine am_aload_n (q := 37) dX7_readPair_36 rfl rfl ?_
    refine cm_getR (q := 40) dX7_readPair_37 flX7_15 rfl (by assumption) (by assumption) rfl ?_
    refine cm_getR (q := 43) dX7_readPair_40 flX7_116 rfl (by assumption) (by assumption) rfl ?_
    refine am_iload_n (q := 44) dX7_readPair_43 rfl rfl ?_
    refine am_iconst (q := 45) (v := 0) dX7_readPair_44 kc_i0 rfl ?_
    refine cm_call0 (q := 48) (As := [_, _]) hG dX7_readPair_45 mlX7_144 rfl (by assumption) ⟨_, _, rfl⟩ (Nat.le_of_ble_eq_true rfl) (Nat.le_of_ble_eq_true rfl) (by omega) (Nat.le_of_ble_eq_true rfl) (ke_add hX h5) rfl ?_
    rintro _ _ ⟨rfl, I6, rfl, h6, o6⟩
    exact am_ret dX7_readPair_48 rfl ⟨_, rfl, rfl, I6, rfl, h6, ((((o1.tr o2).tr o3).tr o4).tr o5).tr o6⟩
theorem k_X7_readValue (hG : okG G) (hX : RX S R x t c) (hdv : 2 ≤ dv) (hd : d < 9) (hV : d < 8 → KV G S J R x t c n1 n2 n3 T mX7_readValue dv (d + 1) V) : KV G S J R x t c n1 n2 n3 T mX7_readValue (dv + 4) d (eValF T (ixM J c n1 n2 n3) V d) := by
  intro I s h
  obtain ⟨⟨hT, hx, hr, hxt⟩, hct, hr1, hxc, htc⟩ := id hX
  obtain ⟨kc, rc0, _, _, _, _, _, _, _, ⟨kd, _⟩, _⟩ := hct
  refine am_aload_n (q := 1) dX7_readValue_0 rfl rfl ?_
  refine cm_call0 (q := 4) (As := []) hG dX7_readValue_1 mlX7_31 rfl (by assumption) ⟨_, _, rfl⟩ (Nat.le_of_ble_eq_true rfl) (Nat.le_of_ble_eq_true rfl) (by omega) (Nat.le_of_ble_eq_true rfl) (ke_kind hG hX h) rfl ?_
  rintro _ _ ⟨rfl, rfl⟩
  refine am_istore_n (q := 5) (ls1 := [_, _, _]) dX7_readValue_4 (Nat.le_of_ble_eq_true rfl) rfl rfl ?_
  refine am_iload_n (q := 6) dX7_readValue_5 rfl rfl ?_
  unfold eValF
  generalize pK T s.1 = k
  have plain : k = 259 ∨ k = 319 ∨ k = 320 ∨ k = 321 → MW G mX7_readValue (dv + 4) 112 [some (vR x), some (vI (nI d)), some (vI k)] [] (mw S I J R) (fun f M1 => ∃ r, f = .inl r ∧ (r = none ∧ ∃ I1, M1 = mw S I1 J R ∧ AbE I1 J x t c n1 n2 n3 T (ePl T k s) ∧ OffE x c I I1)) := by
    intro e
    have hk : k ≠ 257 := by rcases e with e | e | e | e <;> rw [e] <;> decide
    refine am_aload_n (q := 113) dX7_readValue_112 rfl rfl ?_
    refine am_iload_n (q := 114) dX7_readValue_113 rfl rfl ?_
    refine cm_call0 (q := 117) (As := [_]) hG dX7_readValue_114 mlX7_155 rfl (by assumption) ⟨_, _, rfl⟩ (Nat.le_of_ble_eq_true rfl) (Nat.le_of_ble_eq_true rfl) (by omega) (Nat.le_of_ble_eq_true rfl) (k_X7_readPlainValue hG hX h hk) rfl ?_
    rintro _ _ ⟨rfl, I1, rfl, h1, o1⟩
    refine am_goto (tgt := 206) dX7_readValue_117 rfl ?_
    exact am_ret dX7_readValue_206 rfl ⟨_, rfl, rfl, I1, rfl, h1, o1⟩
  have named : k = 322 ∨ k = 323 ∨ k = 324 ∨ k = 325 → MW G mX7_readValue (dv + 4) 120 [some (vR x), some (vI (nI d)), some (vI k)] [] (mw S I J R) (fun f M1 => ∃ r, f = .inl r ∧ (r = none ∧ ∃ I1, M1 = mw S I1 J R ∧ AbE I1 J x t c n1 n2 n3 T (eNm T (ixM J c n1 n2 n3) k s) ∧ OffE x c I I1)) := by
    intro e
    have hk : k ≠ 257 := by rcases e with e | e | e | e <;> rw [e] <;> decide
    refine am_aload_n (q := 121) dX7_readValue_120 rfl rfl ?_
    refine am_iload_n (q := 122) dX7_readValue_121 rfl rfl ?_
    refine cm_call0 (q := 125) (As := [_]) hG dX7_readValue_122 mlX7_167 rfl (by assumption) ⟨_, _, rfl⟩ (Nat.le_of_ble_eq_true rfl) (Nat.le_of_ble_eq_true rfl) (by omega) (Nat.le_of_ble_eq_true rfl) (k_X7_readNamedValue hG hX h hk) rfl ?_
    rintro _ _ ⟨rfl, I1, rfl, h1, o1⟩
    refine am_goto (tgt := 206) dX7_readValue_125 rfl ?_
    exact am_ret dX7_readValue_206 rfl ⟨_, rfl, rfl, I1, rfl, h1, o1⟩
  have pair : k = 330 ∨ k = 331 → MW G mX7_readValue (dv + 4) 188 [some (vR x), some (vI (nI d)), some (vI k)] [] (mw S I J R) (fun f M1 => ∃ r, f = .inl r ∧ (r = none ∧ ∃ I1, M1 = mw S I1 J R ∧ AbE I1 J x t c n1 n2 n3 T (ePair T V d k (eEx T k s)) ∧ OffE x c I I1)) := by
    intro e
    have hk : k ≠ 257 := by rcases e with e | e <;> rw [e] <;> decide
    refine am_aload_n (q := 189) dX7_readValue_188 rfl rfl ?_
    refine am_iload_n (q := 190) dX7_readValue_189 rfl rfl ?_
    refine cm_call0 (q := 193) (As := [_]) hG dX7_readValue_190 mlX7_53 rfl (by assumption) ⟨_, _, rfl⟩ (Nat.le_of_ble_eq_true rfl) (Nat.le_of_ble_eq_true rfl) (by omega) (Nat.le_of_ble_eq_true rfl) (ke_expect hG hX h hk) rfl ?_
    rintro _ _ ⟨rfl, I1, rfl, h1, o1⟩
    refine am_aload_n (q := 194) dX7_readValue_193 rfl rfl ?_
    refine am_iload_n (q := 195) dX7_readValue_194 rfl rfl ?_
    refine am_iload_n (q := 196) dX7_readValue_195 rfl rfl ?_
    refine cm_call0 (q := 199) (As := [_, _]) hG dX7_readValue_196 mlX7_170 rfl (by assumption) ⟨_, _, rfl⟩ (Nat.le_of_ble_eq_true rfl) (Nat.le_of_ble_eq_true rfl) (by omega) (Nat.le_of_ble_eq_true rfl) (k_X7_readPair hG hX hdv hd hV h1) rfl ?_
    rintro _ _ ⟨rfl, I2, rfl, h2, o2⟩
    refine am_goto (tgt := 206) dX7_readValue_199 rfl ?_
    exact am_ret dX7_readValue_206 rfl ⟨_, rfl, rfl, I2, rfl, h2, o1.tr o2⟩
  by_cases h40 : k = 40
  · subst h40
    rw [if_pos rfl]
    refine am_lookup (tgt := 162) dX7_readValue_6 (by decide) rfl rfl ?_
    refine am_aload_n (q := 163) dX7_readValue_162 rfl rfl ?_
    refine am_bipush (q := 165) (v := 40) dX7_readValue_163 kc_b40 rfl ?_
    refine am_iload_n (q := 166) dX7_readValue_165 rfl rfl ?_
    refine cm_call0 (q := 169) (As := [_, _]) hG dX7_readValue_166 mlX7_151 rfl (by assumption) ⟨_, _, rfl⟩ (Nat.le_of_ble_eq_true rfl) (Nat.le_of_ble_eq_true rfl) (by omega) (Nat.le_of_ble_eq_true rfl) (ke_deeper hG hX h (by decide) (by omega)) rfl ?_
    rintro _ _ ⟨rfl, I1, rfl, h1, o1⟩
    refine am_if_eq (tgt := 206) (q := 172) dX7_readValue_169 rfl rfl (fun hc => ?_) (fun hc => ?_)
    · rw [if_pos (Classical.not_not.mp (bI_e0.mp hc))]
      exact am_ret dX7_readValue_206 rfl ⟨_, rfl, rfl, I1, rfl, h1, o1⟩
    · have hc2 : ¬ (eDp T 40 d s).1.2.1 = 1 := bI_n0.mp hc
      rw [if_neg hc2]
      have hS := k_X7_sumV hG hX hdv (hV (eDp_8 hc2))
      refine am_aload_n (q := 173) dX7_readValue_172 rfl rfl ?_
      refine am_iload_n (q := 174) dX7_readValue_173 rfl rfl ?_
      refine am_iconst (q := 175) (v := 1) dX7_readValue_174 kc_i1 rfl ?_
      refine am_iadd (q := 176) dX7_readValue_175 rfl ?_
      rw [nI_1]
      refine cm_call0 (q := 179) (As := [_]) hG dX7_readValue_176 mlX7_125 rfl (by assumption) ⟨_, _, rfl⟩ (Nat.le_of_ble_eq_true rfl) (Nat.le_of_ble_eq_true rfl) (by omega) (Nat.le_of_ble_eq_true rfl) (hS I1 _ h1) rfl ?_
      rintro _ _ ⟨rfl, I2, rfl, h2, o2⟩
      refine am_aload_n (q := 180) dX7_readValue_179 rfl rfl ?_
      refine am_bipush (q := 182) (v := 41) dX7_readValue_180 kc_b41 rfl ?_
      refine cm_call0 (q := 185) (As := [_]) hG dX7_readValue_182 mlX7_53 rfl (by assumption) ⟨_, _, rfl⟩ (Nat.le_of_ble_eq_true rfl) (Nat.le_of_ble_eq_true rfl) (by omega) (Nat.le_of_ble_eq_true rfl) (ke_expect hG hX h2 (by decide)) rfl ?_
      rintro _ _ ⟨rfl, I3, rfl, h3, o3⟩
      refine am_goto (tgt := 206) dX7_readValue_185 rfl ?_
      exact am_ret dX7_readValue_206 rfl ⟨_, rfl, rfl, I3, rfl, h3, (o1.tr o2).tr o3⟩
  rw [if_neg h40]
  by_cases h45 : k = 45
  · subst h45
    rw [if_pos rfl]
    refine am_lookup (tgt := 128) dX7_readValue_6 (by decide) rfl rfl ?_
    refine am_aload_n (q := 129) dX7_readValue_128 rfl rfl ?_
    refine am_bipush (q := 131) (v := 45) dX7_readValue_129 kc_b45 rfl ?_
    refine am_iload_n (q := 132) dX7_readValue_131 rfl rfl ?_
    refine cm_call0 (q := 135) (As := [_, _]) hG dX7_readValue_132 mlX7_151 rfl (by assumption) ⟨_, _, rfl⟩ (Nat.le_of_ble_eq_true rfl) (Nat.le_of_ble_eq_true rfl) (by omega) (Nat.le_of_ble_eq_true rfl) (ke_deeper hG hX h (by decide) (by omega)) rfl ?_
    rintro _ _ ⟨rfl, I1, rfl, h1, o1⟩
    refine am_if_eq (tgt := 206) (q := 138) dX7_readValue_135 rfl rfl (fun hc => ?_) (fun hc => ?_)
    · rw [if_pos (Classical.not_not.mp (bI_e0.mp hc))]
      exact am_ret dX7_readValue_206 rfl ⟨_, rfl, rfl, I1, rfl, h1, o1⟩
    · have hc2 : ¬ (eDp T 45 d s).1.2.1 = 1 := bI_n0.mp hc
      rw [if_neg hc2]
      have hv := hV (eDp_8 hc2)
      refine am_aload_n (q := 139) dX7_readValue_138 rfl rfl ?_
      refine am_iload_n (q := 140) dX7_readValue_139 rfl rfl ?_
      refine am_iconst (q := 141) (v := 1) dX7_readValue_140 kc_i1 rfl ?_
      refine am_iadd (q := 142) dX7_readValue_141 rfl ?_
      rw [nI_1]
      refine cm_call0 (q := 145) (As := [_]) hG dX7_readValue_142 mlX7_164 rfl (by assumption) ⟨_, _, rfl⟩ (Nat.le_of_ble_eq_true rfl) (Nat.le_of_ble_eq_true rfl) (by omega) (Nat.le_of_ble_eq_true rfl) (hv I1 _ h1) rfl ?_
      rintro _ _ ⟨rfl, I2, rfl, h2, o2⟩
      refine am_aload_n (q := 146) dX7_readValue_145 rfl rfl ?_
      refine cm_getR (q := 149) dX7_readValue_146 flX7_15 rfl (by assumption) (by assumption) rfl ?_
      refine cm_getR (q := 152) dX7_readValue_149 flX7_116 rfl (by assumption) (by assumption) rfl ?_
      refine am_sipush (q := 155) (v := 262) dX7_readValue_152 kc_s262 rfl ?_
      refine am_iconst (q := 156) (v := 0) dX7_readValue_155 kc_i0 rfl ?_
      refine cm_call0 (q := 159) (As := [_, _]) hG dX7_readValue_156 mlX7_144 rfl (by assumption) ⟨_, _, rfl⟩ (Nat.le_of_ble_eq_true rfl) (Nat.le_of_ble_eq_true rfl) (by omega) (Nat.le_of_ble_eq_true rfl) (ke_add hX h2) rfl ?_
      rintro _ _ ⟨rfl, I3, rfl, h3, o3⟩
      refine am_goto (tgt := 206) dX7_readValue_159 rfl ?_
      exact am_ret dX7_readValue_206 rfl ⟨_, rfl, rfl, I3, rfl, h3, (o1.tr o2).tr o3⟩
  rw [if_neg h45]
  by_cases hp : k = 259 ∨ k = 319 ∨ k = 320 ∨ k = 321
  · rw [if_pos hp]
    have hp2 := plain hp
    rcases hp with e | e | e | e <;> subst e
    · refine am_lookup (tgt := 112) dX7_readValue_6 (by decide) rfl rfl ?_
      exact hp2
    · refine am_lookup (tgt := 112) dX7_readValue_6 (by decide) rfl rfl ?_
      exact hp2
    · refine am_lookup (tgt := 112) dX7_readValue_6 (by decide) rfl rfl ?_
      exact hp2
    · refine am_lookup (tgt := 112) dX7_readValue_6 (by decide) rfl rfl ?_
      exact hp2
  rw [if_neg hp]
  by_cases hn : k = 322 ∨ k = 323 ∨ k = 324 ∨ k = 325
  · rw [if_pos hn]
    have hp2 := named hn
    rcases hn with e | e | e | e <;> subst e
    · refine am_lookup (tgt := 120) dX7_readValue_6 (by decide) rfl rfl ?_
      exact hp2
    · refine am_lookup (tgt := 120) dX7_readValue_6 (by decide) rfl rfl ?_
      exact hp2
    · refine am_lookup (tgt := 120) dX7_readValue_6 (by decide) rfl rfl ?_
      exact hp2
    · refine am_lookup (tgt := 120) dX7_readValue_6 (by decide) rfl rfl ?_
      exact hp2
  rw [if_neg hn]
  by_cases hq : k = 330 ∨ k = 331
  · rw [if_pos hq]
    have hp2 := pair hq
    rcases hq with e | e <;> subst e
    · refine am_lookup (tgt := 188) dX7_readValue_6 (by decide) rfl rfl ?_
      exact hp2
    · refine am_lookup (tgt := 188) dX7_readValue_6 (by decide) rfl rfl ?_
      exact hp2
  rw [if_neg hq]
  have ho : Op.lookupswitch.offset (#[(40, 156), (45, 122), (259, 106), (319, 106), (320, 106), (321, 106), (322, 114), (323, 114), (324, 114), (325, 114), (330, 182), (331, 182)] : Array (Int × Int)).toList 196 k.toInt = 196 := by
    show Op.lookupswitch.offset [(40, 156), (45, 122), (259, 106), (319, 106), (320, 106), (321, 106), (322, 114), (323, 114), (324, 114), (325, 114), (330, 182), (331, 182)] 196 k.toInt = 196
    simp only [Op.lookupswitch.offset]
    rw [if_neg (k_ti (v := 40) (n := 40) rfl h40), if_neg (k_ti (v := 45) (n := 45) rfl h45), if_neg (k_ti (v := 259) (n := 259) rfl (fun e => hp (Or.inl e))), if_neg (k_ti (v := 319) (n := 319) rfl (fun e => hp (Or.inr (Or.inl e)))), if_neg (k_ti (v := 320) (n := 320) rfl (fun e => hp (Or.inr (Or.inr (Or.inl e))))), if_neg (k_ti (v := 321) (n := 321) rfl (fun e => hp (Or.inr (Or.inr (Or.inr e))))), if_neg (k_ti (v := 322) (n := 322) rfl (fun e => hn (Or.inl e))), if_neg (k_ti (v := 323) (n := 323) rfl (fun e => hn (Or.inr (Or.inl e)))), if_neg (k_ti (v := 324) (n := 324) rfl (fun e => hn (Or.inr (Or.inr (Or.inl e))))), if_neg (k_ti (v := 325) (n := 325) rfl (fun e => hn (Or.inr (Or.inr (Or.inr e))))), if_neg (k_ti (v := 330) (n := 330) rfl (fun e => hq (Or.inl e))), if_neg (k_ti (v := 331) (n := 331) rfl (fun e => hq (Or.inr e)))]
  refine am_lookup (tgt := 202) dX7_readValue_6 (by decide) ho rfl ?_
  refine am_aload_n (q := 203) dX7_readValue_202 rfl rfl ?_
  refine cm_call0 (q := 206) (As := []) hG dX7_readValue_203 mlX7_50 rfl (by assumption) ⟨_, _, rfl⟩ (Nat.le_of_ble_eq_true rfl) (Nat.le_of_ble_eq_true rfl) (by omega) (Nat.le_of_ble_eq_true rfl) (ke_refuse hG hX h) rfl ?_
  rintro _ _ ⟨rfl, I1, rfl, h1, o1⟩
  exact am_ret dX7_readValue_206 rfl ⟨_, rfl, rfl, I1, rfl, h1, o1⟩
end Pr

