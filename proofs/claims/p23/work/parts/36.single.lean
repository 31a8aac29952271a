theorem kc_b91 : (Int8.ofInt 91).toInt32 = 91 := by decide +kernel
theorem kc_b93 : (Int8.ofInt 93).toInt32 = 93 := by decide +kernel
theorem dX7_readSingle_0 : decode cX7_readSingle 0 = .ok (.aload_n 0, 1) := by decide +kernel
theorem dX7_readSingle_1 : decode cX7_readSingle 1 = .ok (.invokevirtual 31, 3) := by decide +kernel
theorem dX7_readSingle_4 : decode cX7_readSingle 4 = .ok (.lookupswitch 107 #[(91, 71), (326, 97), (327, 36)], 36) := by decide +kernel
theorem dX7_readSingle_40 : decode cX7_readSingle 40 = .ok (.aload_n 0, 1) := by decide +kernel
theorem dX7_readSingle_41 : decode cX7_readSingle 41 = .ok (.sipush 327, 3) := by decide +kernel
theorem dX7_readSingle_44 : decode cX7_readSingle 44 = .ok (.iload_n 1, 1) := by decide +kernel
theorem dX7_readSingle_45 : decode cX7_readSingle 45 = .ok (.invokevirtual 151, 3) := by decide +kernel
theorem dX7_readSingle_48 : decode cX7_readSingle 48 = .ok (.ifCond .eq 90, 3) := by decide +kernel
theorem dX7_readSingle_51 : decode cX7_readSingle 51 = .ok (.aload_n 0, 1) := by decide +kernel
theorem dX7_readSingle_52 : decode cX7_readSingle 52 = .ok (.iload_n 1, 1) := by decide +kernel
theorem dX7_readSingle_53 : decode cX7_readSingle 53 = .ok (.iconst 1, 1) := by decide +kernel
theorem dX7_readSingle_54 : decode cX7_readSingle 54 = .ok (.iadd, 1) := by decide +kernel
theorem dX7_readSingle_55 : decode cX7_readSingle 55 = .ok (.invokevirtual 148, 3) := by decide +kernel
theorem dX7_readSingle_58 : decode cX7_readSingle 58 = .ok (.aload_n 0, 1) := by decide +kernel
theorem dX7_readSingle_59 : decode cX7_readSingle 59 = .ok (.getfield 15, 3) := by decide +kernel
theorem dX7_readSingle_62 : decode cX7_readSingle 62 = .ok (.getfield 116, 3) := by decide +kernel
theorem dX7_readSingle_65 : decode cX7_readSingle 65 = .ok (.sipush 327, 3) := by decide +kernel
theorem dX7_readSingle_68 : decode cX7_readSingle 68 = .ok (.iconst 0, 1) := by decide +kernel
theorem dX7_readSingle_69 : decode cX7_readSingle 69 = .ok (.invokevirtual 144, 3) := by decide +kernel
theorem dX7_readSingle_72 : decode cX7_readSingle 72 = .ok (.goto 66, 3) := by decide +kernel
theorem dX7_readSingle_75 : decode cX7_readSingle 75 = .ok (.aload_n 0, 1) := by decide +kernel
theorem dX7_readSingle_76 : decode cX7_readSingle 76 = .ok (.bipush 91, 2) := by decide +kernel
theorem dX7_readSingle_78 : decode cX7_readSingle 78 = .ok (.iload_n 1, 1) := by decide +kernel
theorem dX7_readSingle_79 : decode cX7_readSingle 79 = .ok (.invokevirtual 151, 3) := by decide +kernel
theorem dX7_readSingle_82 : decode cX7_readSingle 82 = .ok (.ifCond .eq 56, 3) := by decide +kernel
theorem dX7_readSingle_85 : decode cX7_readSingle 85 = .ok (.aload_n 0, 1) := by decide +kernel
theorem dX7_readSingle_86 : decode cX7_readSingle 86 = .ok (.iload_n 1, 1) := by decide +kernel
theorem dX7_readSingle_87 : decode cX7_readSingle 87 = .ok (.iconst 1, 1) := by decide +kernel
theorem dX7_readSingle_88 : decode cX7_readSingle 88 = .ok (.iadd, 1) := by decide +kernel
theorem dX7_readSingle_89 : decode cX7_readSingle 89 = .ok (.invokevirtual 128, 3) := by decide +kernel
theorem dX7_readSingle_92 : decode cX7_readSingle 92 = .ok (.aload_n 0, 1) := by decide +kernel
theorem dX7_readSingle_93 : decode cX7_readSingle 93 = .ok (.bipush 93, 2) := by decide +kernel
theorem dX7_readSingle_95 : decode cX7_readSingle 95 = .ok (.invokevirtual 53, 3) := by decide +kernel
theorem dX7_readSingle_98 : decode cX7_readSingle 98 = .ok (.goto 40, 3) := by decide +kernel
theorem dX7_readSingle_101 : decode cX7_readSingle 101 = .ok (.aload_n 0, 1) := by decide +kernel
theorem dX7_readSingle_102 : decode cX7_readSingle 102 = .ok (.sipush 326, 3) := by decide +kernel
theorem dX7_readSingle_105 : decode cX7_readSingle 105 = .ok (.invokevirtual 155, 3) := by decide +kernel
theorem dX7_readSingle_108 : decode cX7_readSingle 108 = .ok (.goto 30, 3) := by decide +kernel
theorem dX7_readSingle_111 : decode cX7_readSingle 111 = .ok (.aload_n 0, 1) := by decide +kernel
theorem dX7_readSingle_112 : decode cX7_readSingle 112 = .ok (.iload_n 1, 1) := by decide +kernel
theorem dX7_readSingle_113 : decode cX7_readSingle 113 = .ok (.invokevirtual 125, 3) := by decide +kernel
theorem dX7_readSingle_116 : decode cX7_readSingle 116 = .ok (.aload_n 0, 1) := by decide +kernel
theorem dX7_readSingle_117 : decode cX7_readSingle 117 = .ok (.invokevirtual 158, 3) := by decide +kernel
theorem dX7_readSingle_120 : decode cX7_readSingle 120 = .ok (.istore_n 2, 1) := by decide +kernel
theorem dX7_readSingle_121 : decode cX7_readSingle 121 = .ok (.aload_n 0, 1) := by decide +kernel
theorem dX7_readSingle_122 : decode cX7_readSingle 122 = .ok (.iload_n 1, 1) := by decide +kernel
theorem dX7_readSingle_123 : decode cX7_readSingle 123 = .ok (.invokevirtual 125, 3) := by decide +kernel
theorem dX7_readSingle_126 : decode cX7_readSingle 126 = .ok (.aload_n 0, 1) := by decide +kernel
theorem dX7_readSingle_127 : decode cX7_readSingle 127 = .ok (.getfield 15, 3) := by decide +kernel
theorem dX7_readSingle_130 : decode cX7_readSingle 130 = .ok (.getfield 116, 3) := by decide +kernel
theorem dX7_readSingle_133 : decode cX7_readSingle 133 = .ok (.iload_n 2, 1) := by decide +kernel
theorem dX7_readSingle_134 : decode cX7_readSingle 134 = .ok (.iconst 0, 1) := by decide +kernel
theorem dX7_readSingle_135 : decode cX7_readSingle 135 = .ok (.invokevirtual 144, 3) := by decide +kernel
theorem dX7_readSingle_138 : decode cX7_readSingle 138 = .ok (.return_, 1) := by decide +kernel
/-! the reader's single tests -/
def eSngF (T : Toks) (P Q C : PS × Cd → PS × Cd) (d : Nat) (s : PS × Cd) : PS × Cd :=
  if pK T s.1 = 91 then (if (eDp T 91 d s).1.2.1 = 1 then eDp T 91 d s else eEx T 93 (Q (eDp T 91 d s)))
  else if pK T s.1 = 326 then ePl T 326 s
  else if pK T s.1 = 327 then (if (eDp T 327 d s).1.2.1 = 1 then eDp T 327 d s else eAd 327 0 (P (eDp T 327 d s)))
  else C s
def eSng (T : Toks) (ix : Int32 → Int64 → Int32) : Nat → PS × Cd → PS × Cd
  | 0 => eSngF T id id (eCmp T (eSu T (eVal T ix 0))) 8
  | r + 1 => eSngF T (eSng T ix r) (eTs T (eSng T ix r)) (eCmp T (eSu T (eVal T ix (r + 1)))) (7 - r)
section Sg
variable {G : Gp} {S : AMem} {J : Nat → Nat → Int64} {R : Nat → Nat → Option Nat} {t x c n1 n2 n3 : Nat} {T : Toks} {P Qt2 V : PS × Cd → PS × Cd} {dv dP dQ dC d : Nat}
theorem k_X7_readSingle (hG : okG G) (hX : RX S R x t c) (hdv : 4 ≤ dv) (hd : d < 9) (vP : dP ≤ dv) (vQ : dQ ≤ dv) (vC : dC ≤ dv) (hP : d < 8 → KV G S J R x t c n1 n2 n3 T mX7_readSingle dP (d + 1) P) (hQ : d < 8 → KV G S J R x t c n1 n2 n3 T mX7_readTest dQ (d + 1) Qt2) (hV : KV G S J R x t c n1 n2 n3 T mX7_readSum dC d V) : KV G S J R x t c n1 n2 n3 T mX7_readSingle (dv + 1) d (eSngF T P Qt2 (eCmp T V) d) := by
  intro I s h
  obtain ⟨⟨hT, hx, hr, hxt⟩, hct, hr1, hxc, htc⟩ := id hX
  obtain ⟨kc, rc0, _, _, _, _, _, _, _, ⟨kd, _⟩, _⟩ := hct
  refine am_aload_n (q := 1) dX7_readSingle_0 rfl rfl ?_
  refine cm_call0 (q := 4) (As := []) hG dX7_readSingle_1 mlX7_31 rfl (by assumption) ⟨_, _, rfl⟩ (Nat.le_of_ble_eq_true rfl) (Nat.le_of_ble_eq_true rfl) (by omega) (Nat.le_of_ble_eq_true rfl) (ke_kind hG hX h) rfl ?_
  rintro _ _ ⟨rfl, rfl⟩
  unfold eSngF
  generalize pK T s.1 = k
  by_cases h91 : k = 91
  · subst h91
    rw [if_pos rfl]
    refine am_lookup (tgt := 75) dX7_readSingle_4 (by decide) rfl rfl ?_
    refine am_aload_n (q := 76) dX7_readSingle_75 rfl rfl ?_
    refine am_bipush (q := 78) (v := 91) dX7_readSingle_76 kc_b91 rfl ?_
    refine am_iload_n (q := 79) dX7_readSingle_78 rfl rfl ?_
    refine cm_call0 (q := 82) (As := [_, _]) hG dX7_readSingle_79 mlX7_151 rfl (by assumption) ⟨_, _, rfl⟩ (Nat.le_of_ble_eq_true rfl) (Nat.le_of_ble_eq_true rfl) (by omega) (Nat.le_of_ble_eq_true rfl) (ke_deeper hG hX h (by decide) (by omega)) rfl ?_
    rintro _ _ ⟨rfl, I1, rfl, h1, o1⟩
    refine am_if_eq (tgt := 138) (q := 85) dX7_readSingle_82 rfl rfl (fun hc => ?_) (fun hc => ?_)
    · rw [if_pos (Classical.not_not.mp (bI_e0.mp hc))]
      exact am_ret dX7_readSingle_138 rfl ⟨_, rfl, rfl, I1, rfl, h1, o1⟩
    · have hc2 : ¬ (eDp T 91 d s).1.2.1 = 1 := bI_n0.mp hc
      rw [if_neg hc2]
      have hv := hQ (eDp_8 hc2)
      refine am_aload_n (q := 86) dX7_readSingle_85 rfl rfl ?_
      refine am_iload_n (q := 87) dX7_readSingle_86 rfl rfl ?_
      refine am_iconst (q := 88) (v := 1) dX7_readSingle_87 kc_i1 rfl ?_
      refine am_iadd (q := 89) dX7_readSingle_88 rfl ?_
      rw [nI_1]
      refine cm_call0 (q := 92) (As := [_]) hG dX7_readSingle_89 mlX7_128 rfl (by assumption) ⟨_, _, rfl⟩ (Nat.le_of_ble_eq_true rfl) (Nat.le_of_ble_eq_true rfl) (by omega) (Nat.le_of_ble_eq_true rfl) (hv I1 _ h1) rfl ?_
      rintro _ _ ⟨rfl, I2, rfl, h2, o2⟩
      refine am_aload_n (q := 93) dX7_readSingle_92 rfl rfl ?_
      refine am_bipush (q := 95) (v := 93) dX7_readSingle_93 kc_b93 rfl ?_
      refine cm_call0 (q := 98) (As := [_]) hG dX7_readSingle_95 mlX7_53 rfl (by assumption) ⟨_, _, rfl⟩ (Nat.le_of_ble_eq_true rfl) (Nat.le_of_ble_eq_true rfl) (by omega) (Nat.le_of_ble_eq_true rfl) (ke_expect hG hX h2 (by decide)) rfl ?_
      rintro _ _ ⟨rfl, I3, rfl, h3, o3⟩
      refine am_goto (tgt := 138) dX7_readSingle_98 rfl ?_
      exact am_ret dX7_readSingle_138 rfl ⟨_, rfl, rfl, I3, rfl, h3, (o1.tr o2).tr o3⟩
  rw [if_neg h91]
  by_cases h326 : k = 326
  · subst h326
    rw [if_pos rfl]
    refine am_lookup (tgt := 101) dX7_readSingle_4 (by decide) rfl rfl ?_
    refine am_aload_n (q := 102) dX7_readSingle_101 rfl rfl ?_
    refine am_sipush (q := 105) (v := 326) dX7_readSingle_102 kc_s326 rfl ?_
    refine cm_call0 (q := 108) (As := [_]) hG dX7_readSingle_105 mlX7_155 rfl (by assumption) ⟨_, _, rfl⟩ (Nat.le_of_ble_eq_true rfl) (Nat.le_of_ble_eq_true rfl) (by omega) (Nat.le_of_ble_eq_true rfl) (k_X7_readPlainValue hG hX h (by decide)) rfl ?_
    rintro _ _ ⟨rfl, I1, rfl, h1, o1⟩
    refine am_goto (tgt := 138) dX7_readSingle_108 rfl ?_
    exact am_ret dX7_readSingle_138 rfl ⟨_, rfl, rfl, I1, rfl, h1, o1⟩
  rw [if_neg h326]
  by_cases h327 : k = 327
  · subst h327
    rw [if_pos rfl]
    refine am_lookup (tgt := 40) dX7_readSingle_4 (by decide) rfl rfl ?_
    refine am_aload_n (q := 41) dX7_readSingle_40 rfl rfl ?_
    refine am_sipush (q := 44) (v := 327) dX7_readSingle_41 kc_s327 rfl ?_
    refine am_iload_n (q := 45) dX7_readSingle_44 rfl rfl ?_
    refine cm_call0 (q := 48) (As := [_, _]) hG dX7_readSingle_45 mlX7_151 rfl (by assumption) ⟨_, _, rfl⟩ (Nat.le_of_ble_eq_true rfl) (Nat.le_of_ble_eq_true rfl) (by omega) (Nat.le_of_ble_eq_true rfl) (ke_deeper hG hX h (by decide) (by omega)) rfl ?_
    rintro _ _ ⟨rfl, I1, rfl, h1, o1⟩
    refine am_if_eq (tgt := 138) (q := 51) dX7_readSingle_48 rfl rfl (fun hc => ?_) (fun hc => ?_)
    · rw [if_pos (Classical.not_not.mp (bI_e0.mp hc))]
      exact am_ret dX7_readSingle_138 rfl ⟨_, rfl, rfl, I1, rfl, h1, o1⟩
    · have hc2 : ¬ (eDp T 327 d s).1.2.1 = 1 := bI_n0.mp hc
      rw [if_neg hc2]
      have hv := hP (eDp_8 hc2)
      refine am_aload_n (q := 52) dX7_readSingle_51 rfl rfl ?_
      refine am_iload_n (q := 53) dX7_readSingle_52 rfl rfl ?_
      refine am_iconst (q := 54) (v := 1) dX7_readSingle_53 kc_i1 rfl ?_
      refine am_iadd (q := 55) dX7_readSingle_54 rfl ?_
      rw [nI_1]
      refine cm_call0 (q := 58) (As := [_]) hG dX7_readSingle_55 mlX7_148 rfl (by assumption) ⟨_, _, rfl⟩ (Nat.le_of_ble_eq_true rfl) (Nat.le_of_ble_eq_true rfl) (by omega) (Nat.le_of_ble_eq_true rfl) (hv I1 _ h1) rfl ?_
      rintro _ _ ⟨rfl, I2, rfl, h2, o2⟩
      refine am_aload_n (q := 59) dX7_readSingle_58 rfl rfl ?_
      refine cm_getR (q := 62) dX7_readSingle_59 flX7_15 rfl (by assumption) (by assumption) rfl ?_
      refine cm_getR (q := 65) dX7_readSingle_62 flX7_116 rfl (by assumption) (by assumption) rfl ?_
      refine am_sipush (q := 68) (v := 327) dX7_readSingle_65 kc_s327 rfl ?_
      refine am_iconst (q := 69) (v := 0) dX7_readSingle_68 kc_i0 rfl ?_
      refine cm_call0 (q := 72) (As := [_, _]) hG dX7_readSingle_69 mlX7_144 rfl (by assumption) ⟨_, _, rfl⟩ (Nat.le_of_ble_eq_true rfl) (Nat.le_of_ble_eq_true rfl) (by omega) (Nat.le_of_ble_eq_true rfl) (ke_add hX h2) rfl ?_
      rintro _ _ ⟨rfl, I3, rfl, h3, o3⟩
      refine am_goto (tgt := 138) dX7_readSingle_72 rfl ?_
      exact am_ret dX7_readSingle_138 rfl ⟨_, rfl, rfl, I3, rfl, h3, (o1.tr o2).tr o3⟩
  rw [if_neg h327]
  have ho : Op.lookupswitch.offset (#[(91, 71), (326, 97), (327, 36)] : Array (Int × Int)).toList 107 k.toInt = 107 := by
    show Op.lookupswitch.offset [(91, 71), (326, 97), (327, 36)] 107 k.toInt = 107
    simp only [Op.lookupswitch.offset]
    rw [if_neg (k_ti (v := 91) (n := 91) rfl h91), if_neg (k_ti (v := 326) (n := 326) rfl h326), if_neg (k_ti (v := 327) (n := 327) rfl h327)]
  unfold eCmp
  refine am_lookup (tgt := 111) dX7_readSingle_4 (by decide) ho rfl ?_
  refine am_aload_n (q := 112) dX7_readSingle_111 rfl rfl ?_
  refine am_iload_n (q := 113) dX7_readSingle_112 rfl rfl ?_
  refine cm_call0 (q := 116) (As := [_]) hG dX7_readSingle_113 mlX7_125 rfl (by assumption) ⟨_, _, rfl⟩ (Nat.le_of_ble_eq_true rfl) (Nat.le_of_ble_eq_true rfl) (by omega) (Nat.le_of_ble_eq_true rfl) (hV I s h) rfl ?_
  rintro _ _ ⟨rfl, I1, rfl, h1, o1⟩
  refine am_aload_n (q := 117) dX7_readSingle_116 rfl rfl ?_
  refine cm_call0 (q := 120) (As := []) hG dX7_readSingle_117 mlX7_158 rfl (by assumption) ⟨_, _, rfl⟩ (Nat.le_of_ble_eq_true rfl) (Nat.le_of_ble_eq_true rfl) (by omega) (Nat.le_of_ble_eq_true rfl) (k_X7_comparingSign hG hX h1) rfl ?_
  rintro _ _ ⟨rfl, I2, rfl, h2, o2⟩
  refine am_istore_n (q := 121) (ls1 := [_, _, _]) dX7_readSingle_120 (Nat.le_of_ble_eq_true rfl) rfl rfl ?_
  refine am_aload_n (q := 122) dX7_readSingle_121 rfl rfl ?_
  refine am_iload_n (q := 123) dX7_readSingle_122 rfl rfl ?_
  refine cm_call0 (q := 126) (As := [_]) hG dX7_readSingle_123 mlX7_125 rfl (by assumption) ⟨_, _, rfl⟩ (Nat.le_of_ble_eq_true rfl) (Nat.le_of_ble_eq_true rfl) (by omega) (Nat.le_of_ble_eq_true rfl) (hV I2 _ h2) rfl ?_
  rintro _ _ ⟨rfl, I3, rfl, h3, o3⟩
  refine am_aload_n (q := 127) dX7_readSingle_126 rfl rfl ?_
  refine cm_getR (q := 130) dX7_readSingle_127 flX7_15 rfl (by assumption) (by assumption) rfl ?_
  refine cm_getR (q := 133) dX7_readSingle_130 flX7_116 rfl (by assumption) (by assumption) rfl ?_
  refine am_iload_n (q := 134) dX7_readSingle_133 rfl rfl ?_
  refine am_iconst (q := 135) (v := 0) dX7_readSingle_134 kc_i0 rfl ?_
  refine cm_call0 (q := 138) (As := [_, _]) hG dX7_readSingle_135 mlX7_144 rfl (by assumption) ⟨_, _, rfl⟩ (Nat.le_of_ble_eq_true rfl) (Nat.le_of_ble_eq_true rfl) (by omega) (Nat.le_of_ble_eq_true rfl) (ke_add hX h3) rfl ?_
  rintro _ _ ⟨rfl, I4, rfl, h4, o4⟩
  exact am_ret dX7_readSingle_138 rfl ⟨_, rfl, rfl, I4, rfl, h4, ((o1.tr o2).tr o3).tr o4⟩
theorem k_eSum (hG : okG G) (hX : RX S R x t c) {r : Nat} (hr : r ≤ 8) : KV G S J R x t c n1 n2 n3 T mX7_readSum (4 * r + 8) (8 - r) (eSu T (eVal T (ixM J c n1 n2 n3) r)) := k_X7_sumV (dv := 4 * r + 6) hG hX (by omega) (k_eVal hG hX r hr)
theorem k_eTs (hG : okG G) (hX : RX S R x t c) {dv dep : Nat} {V : PS × Cd → PS × Cd} (hdv : 2 ≤ dv) (h : KV G S J R x t c n1 n2 n3 T mX7_readSingle dv dep V) : KV G S J R x t c n1 n2 n3 T mX7_readTest (dv + 2) dep (eTs T V) := k_X7_readTest hG hX (by omega) (k_X7_readBoth hG hX hdv h)
theorem k_eSng (hG : okG G) (hX : RX S R x t c) : ∀ r, r ≤ 8 → KV G S J R x t c n1 n2 n3 T mX7_readSingle (4 * r + 12) (8 - r) (eSng T (ixM J c n1 n2 n3) r) := by
  intro r
  induction r with
  | zero =>
    intro _
    exact k_X7_readSingle (P := id) (Qt2 := id) (dv := 11) (dP := 0) (dQ := 0) (dC := 8) (d := 8) hG hX (by omega) (by omega) (by omega) (by omega) (by omega) (fun h => absurd h (by omega)) (fun h => absurd h (by omega)) (k_eSum (r := 0) hG hX (by omega))
  | succ r ih =>
    intro hr
    have h1 := ih (by omega)
    have h2 := k_X7_readSingle (P := eSng T (ixM J c n1 n2 n3) r) (Qt2 := eTs T (eSng T (ixM J c n1 n2 n3) r)) (V := eSu T (eVal T (ixM J c n1 n2 n3) (r + 1))) (dv := 4 * r + 15) (dP := 4 * r + 12) (dQ := 4 * r + 12 + 2) (dC := 4 * (r + 1) + 8) (d := 7 - r) hG hX (by omega) (by omega) (by omega) (by omega) (by omega) (fun _ => by rw [show 7 - r + 1 = 8 - r by omega]; exact h1) (fun _ => by rw [show 7 - r + 1 = 8 - r by omega]; exact k_eTs hG hX (by omega) h1) (by
      have h3 := k_eSum (r := r + 1) (J := J) (n1 := n1) (n2 := n2) (n3 := n3) (T := T) hG hX hr
      rw [show 8 - (r + 1) = 7 - r by omega] at h3
      exact h3)
    rw [show 8 - (r + 1) = 7 - r by omega, show 4 * (r + 1) + 12 = 4 * r + 15 + 1 by omega]
    exact h2
/-- worths and tests as a bill asks for them -/
theorem k_readSum0 (hG : okG G) (hX : RX S R x t c) : KV G S J R x t c n1 n2 n3 T mX7_readSum 40 0 (eSu T (eVal T (ixM J c n1 n2 n3) 8)) := k_eSum (r := 8) hG hX (by omega)
theorem k_readTest0 (hG : okG G) (hX : RX S R x t c) : KV G S J R x t c n1 n2 n3 T mX7_readTest 46 0 (eTs T (eSng T (ixM J c n1 n2 n3) 8)) := k_eTs hG hX (by omega) (k_eSng hG hX 8 (by omega))
end Sg

