theorem dX2_init_82 : decode cX2_init 82 = .ok (.iload_n 1, 1) := by decide +kernel
theorem dX2_init_83 : decode cX2_init 83 = .ok (.aload_n 0, 1) := by decide +kernel
theorem dX2_init_84 : decode cX2_init 84 = .ok (.getfield 34, 3) := by decide +kernel
theorem dX2_init_87 : decode cX2_init 87 = .ok (.arraylength, 1) := by decide +kernel
theorem dX2_init_88 : decode cX2_init 88 = .ok (.if_icmp .ge 22, 3) := by decide +kernel
theorem dX2_init_91 : decode cX2_init 91 = .ok (.aload_n 0, 1) := by decide +kernel
theorem dX2_init_92 : decode cX2_init 92 = .ok (.getfield 34, 3) := by decide +kernel
theorem dX2_init_95 : decode cX2_init 95 = .ok (.iload_n 1, 1) := by decide +kernel
theorem dX2_init_96 : decode cX2_init 96 = .ok (.new 32, 3) := by decide +kernel
theorem dX2_init_99 : decode cX2_init 99 = .ok (.dup, 1) := by decide +kernel
theorem dX2_init_100 : decode cX2_init 100 = .ok (.invokespecial 60, 3) := by decide +kernel
theorem dX2_init_103 : decode cX2_init 103 = .ok (.aastore, 1) := by decide +kernel
theorem dX2_init_104 : decode cX2_init 104 = .ok (.iinc 1 1, 3) := by decide +kernel
theorem dX2_init_107 : decode cX2_init 107 = .ok (.goto (-25), 3) := by decide +kernel
theorem dX2_init_112 : decode cX2_init 112 = .ok (.iload_n 1, 1) := by decide +kernel
theorem dX2_init_113 : decode cX2_init 113 = .ok (.aload_n 0, 1) := by decide +kernel
theorem dX2_init_114 : decode cX2_init 114 = .ok (.getfield 40, 3) := by decide +kernel
theorem dX2_init_117 : decode cX2_init 117 = .ok (.arraylength, 1) := by decide +kernel
theorem dX2_init_118 : decode cX2_init 118 = .ok (.if_icmp .ge 22, 3) := by decide +kernel
theorem dX2_init_121 : decode cX2_init 121 = .ok (.aload_n 0, 1) := by decide +kernel
theorem dX2_init_122 : decode cX2_init 122 = .ok (.getfield 40, 3) := by decide +kernel
theorem dX2_init_125 : decode cX2_init 125 = .ok (.iload_n 1, 1) := by decide +kernel
theorem dX2_init_126 : decode cX2_init 126 = .ok (.new 38, 3) := by decide +kernel
theorem dX2_init_129 : decode cX2_init 129 = .ok (.dup, 1) := by decide +kernel
theorem dX2_init_130 : decode cX2_init 130 = .ok (.invokespecial 61, 3) := by decide +kernel
theorem dX2_init_133 : decode cX2_init 133 = .ok (.aastore, 1) := by decide +kernel
theorem dX2_init_134 : decode cX2_init 134 = .ok (.iinc 1 1, 3) := by decide +kernel
theorem dX2_init_137 : decode cX2_init 137 = .ok (.goto (-25), 3) := by decide +kernel
theorem dX2_init_142 : decode cX2_init 142 = .ok (.iload_n 1, 1) := by decide +kernel
theorem dX2_init_143 : decode cX2_init 143 = .ok (.aload_n 0, 1) := by decide +kernel
theorem dX2_init_144 : decode cX2_init 144 = .ok (.getfield 46, 3) := by decide +kernel
theorem dX2_init_147 : decode cX2_init 147 = .ok (.arraylength, 1) := by decide +kernel
theorem dX2_init_148 : decode cX2_init 148 = .ok (.if_icmp .ge 22, 3) := by decide +kernel
theorem dX2_init_151 : decode cX2_init 151 = .ok (.aload_n 0, 1) := by decide +kernel
theorem dX2_init_152 : decode cX2_init 152 = .ok (.getfield 46, 3) := by decide +kernel
theorem dX2_init_155 : decode cX2_init 155 = .ok (.iload_n 1, 1) := by decide +kernel
theorem dX2_init_156 : decode cX2_init 156 = .ok (.new 44, 3) := by decide +kernel
theorem dX2_init_159 : decode cX2_init 159 = .ok (.dup, 1) := by decide +kernel
theorem dX2_init_160 : decode cX2_init 160 = .ok (.invokespecial 62, 3) := by decide +kernel
theorem dX2_init_163 : decode cX2_init 163 = .ok (.aastore, 1) := by decide +kernel
theorem dX2_init_164 : decode cX2_init 164 = .ok (.iinc 1 1, 3) := by decide +kernel
theorem dX2_init_167 : decode cX2_init 167 = .ok (.goto (-25), 3) := by decide +kernel
theorem dX2_init_172 : decode cX2_init 172 = .ok (.iload_n 1, 1) := by decide +kernel
theorem dX2_init_173 : decode cX2_init 173 = .ok (.aload_n 0, 1) := by decide +kernel
theorem dX2_init_174 : decode cX2_init 174 = .ok (.getfield 52, 3) := by decide +kernel
theorem dX2_init_177 : decode cX2_init 177 = .ok (.arraylength, 1) := by decide +kernel
theorem dX2_init_178 : decode cX2_init 178 = .ok (.if_icmp .ge 22, 3) := by decide +kernel
theorem dX2_init_181 : decode cX2_init 181 = .ok (.aload_n 0, 1) := by decide +kernel
theorem dX2_init_182 : decode cX2_init 182 = .ok (.getfield 52, 3) := by decide +kernel
theorem dX2_init_185 : decode cX2_init 185 = .ok (.iload_n 1, 1) := by decide +kernel
theorem dX2_init_186 : decode cX2_init 186 = .ok (.new 50, 3) := by decide +kernel
theorem dX2_init_189 : decode cX2_init 189 = .ok (.dup, 1) := by decide +kernel
theorem dX2_init_190 : decode cX2_init 190 = .ok (.invokespecial 63, 3) := by decide +kernel
theorem dX2_init_193 : decode cX2_init 193 = .ok (.aastore, 1) := by decide +kernel
theorem dX2_init_194 : decode cX2_init 194 = .ok (.iinc 1 1, 3) := by decide +kernel
theorem dX2_init_197 : decode cX2_init 197 = .ok (.goto (-25), 3) := by decide +kernel
/-! the constructors of the class: a contest -/
theorem gS_at {S : AMem} {l : List (Nat × Nat)} {b i k n : Nat} (hs : S.hs = b) (hi : i < l.length) (h : l.getD i (0, 0) = (k, n)) : (gS S l).K (b + i) = k ∧ (gS S l).ln (b + i) = n := by
  subst hs
  obtain ⟨h1, h2⟩ := gS_K (S := S) hi
  rw [h] at h1 h2
  exact ⟨h1, h2⟩
theorem gS_snoc {S : AMem} {l : List (Nat × Nat)} {k n : Nat} : (gS S l).nw k n = gS S (l ++ [(k, n)]) := gS_app (l := l) (l' := [(k, n)])
section Cn0
variable {G : Gp} {Y : MD} {d pc : Nat} {ls : List (Option AV)} {st : List AV} {S : AMem} {I : Nat → Nat → Int32} {J : Nat → Nat → Int64} {R : Nat → Nat → Option Nat} {Q : (Option AV ⊕ Nat) → AMem → Prop}
theorem cm_aast {a t b ci : Nat} {i : Int32} {C : String} {T : u_T} {N : Nat} (hd : decode Y.cc pc = .ok (.aastore, 1)) (hK : S.K a = 22 + t) (hty : (tysOf G.ca)[t + 2]? = some (G.ca (t + 2), .object C)) (hc : vwCl[ci]? = some (C, T, N)) (hc20 : ci + 1 < 20) (hin : vp_in i (S.ln a)) (hKb : S.K b = ci + 1) {q : Nat} (hq : pc + 1 = q) (k : MW G Y d q ls st (mw S I J (up2 R a i.toNatClampNeg (some b))) Q) : MW G Y d pc ls (vR b :: vI i :: vR a :: st) (mw S I J R) Q := am_aastore (M := mw S I J R) hd hK hty hc hc20 hin hKb hq k
end Cn0
def elR : Nat → List (Nat × Nat)
  | 0 => []
  | k + 1 => elR k ++ [(7, 7), (20, 100)]
def elO (k n : Nat) : Nat → List (Nat × Nat)
  | 0 => []
  | i + 1 => elO k n i ++ [(k, n)]
theorem elR_len : ∀ k, (elR k).length = 2 * k := by
  intro k
  induction k with
  | zero => rfl
  | succ k ih => rw [elR, List.length_append, ih, List.length_cons, List.length_cons, List.length_nil]; omega
theorem elO_len {k n : Nat} : ∀ i, (elO k n i).length = i := by
  intro i
  induction i with
  | zero => rfl
  | succ i ih => rw [elO, List.length_append, ih]; rfl
section Cn1
variable {G : Gp} {P S : AMem} {I : Nat → Nat → Int32} {J : Nat → Nat → Int64} {R : Nat → Nat → Option Nat} {c : Nat} {Q : (Option AV ⊕ Nat) → AMem → Prop}
theorem k_cl1 (hG : okG G) (hF : Fr P I J R) (hs : P.hs = c + 14) (kc : P.K c = 3) (rc : R c 3 = some (c + 9)) (ka : P.K (c + 9) = 22) (la : P.ln (c + 9) = 4) (K : ∀ R1, Fr (gS P (elR 4)) I J R1 → (∀ i, i < 4 → R1 (c + 9) i = some (c + 14 + 2 * i) ∧ R1 (c + 14 + 2 * i) 0 = some (c + 15 + 2 * i)) → (∀ x, x ≠ c + 9 → (x < c + 14 ∨ c + 22 ≤ x) → R1 x = R x) → MW G mX2_init 2 110 [some (vR c), some (vI (nI 4))] [] (mw (gS P (elR 4)) I J R1) Q) : MW G mX2_init 2 82 [some (vR c), some (vI (nI 0))] [] (mw P I J R) Q := by
  refine k_loop (σ := Nat → Nat → Option Nat) (n := 4) (Inv := fun k R1 => Fr (gS P (elR k)) I J R1 ∧ (∀ i, i < k → R1 (c + 9) i = some (c + 14 + 2 * i) ∧ R1 (c + 14 + 2 * i) 0 = some (c + 15 + 2 * i)) ∧ ∀ x, x ≠ c + 9 → (x < c + 14 ∨ c + 14 + 2 * k ≤ x) → R1 x = R x) (W := fun k R1 => MW G mX2_init 2 82 [some (vR c), some (vI (nI k))] [] (mw (gS P (elR k)) I J R1) Q) ?_ ?_ 0 R (Nat.zero_le _) ⟨hF, fun i hi => absurd hi (Nat.not_lt_zero i), fun _ _ _ => rfl⟩
  · rintro k R1 hk ⟨f0, r0, o0⟩ ih
    have hsk : (gS P (elR k)).hs = c + 14 + 2 * k := by rw [gS_hs, hs, elR_len]
    have kc' : (gS P (elR k)).K c = 3 := (gS_o (by omega)).1.trans kc
    obtain ⟨ka', la'⟩ := gS_o (S := P) (l := elR k) (x := c + 9) (by omega)
    rw [ka] at ka'
    rw [la] at la'
    have rc' : R1 c 3 = some (c + 9) := by rw [o0 c (by omega) (by omega)]; exact rc
    have ix : vp_in (nI k) 4 := vp_in_nI hk (by decide)
    have cl : (nI k).toNatClampNeg = k := nI_clamp (by omega)
    have e1 : gS ((gS P (elR k)).nw 7 7) [(20, 100)] = gS P (elR (k + 1)) := by
      rw [gS_snoc, gS_app, elR, List.append_assoc]
      rfl
    have nx := fun R2 => ih R2
    clear ih K
    generalize hP : gS P (elR k) = P1 at f0 hsk kc' ka' la' e1 ⊢
    have kb : (P1.nw 7 7).K P1.hs = 7 := nw_Kn
    have iI := k_X6_init (G := G) f0.nw kb (by rw [nw_hs]; omega)
    have hs2 : (P1.nw 7 7).hs = c + 15 + 2 * k := by rw [nw_hs, hsk]; omega
    rw [e1, hs2] at iI
    have ka2 : (gS P (elR (k + 1))).K (c + 9) = 22 + 0 := (gS_o (by omega)).1.trans ka
    have la2 : (gS P (elR (k + 1))).ln (c + 9) = 4 := (gS_o (by omega)).2.trans la
    have kb2 : (gS P (elR (k + 1))).K P1.hs = 6 + 1 := by
      rw [← e1]
      exact (gS_o (by rw [nw_hs]; omega)).1.trans kb
    refine am_iload_n (q := 83) dX2_init_82 rfl rfl ?_
    refine am_aload_n (q := 84) dX2_init_83 rfl rfl ?_
    refine cm_getR (q := 87) dX2_init_84 flX2_34 rfl (by assumption) (by assumption) rfl ?_
    refine cm_alenK (q := 88) dX2_init_87 (by assumption) (by decide) (by rw [la'] : nI (P1.ln (c + 9)) = nI 4) rfl ?_
    refine am_icmp_ge (tgt := 110) (q := 91) dX2_init_88 rfl rfl (fun hz => absurd hz (nI_ge hk (by decide))) (fun _ => ?_)
    refine am_aload_n (q := 92) dX2_init_91 rfl rfl ?_
    refine cm_getR (q := 95) dX2_init_92 flX2_34 rfl (by assumption) (by assumption) rfl ?_
    refine am_iload_n (q := 96) dX2_init_95 rfl rfl ?_
    refine cm_mkO (q := 99) f0 dX2_init_96 cnX2_32 rfl ?_
    refine am_dup (q := 100) dX2_init_99 rfl rfl ?_
    refine am_call2 (q := 103) (As := []) hG dX2_init_100 mlX2_60 rfl (Nat.le_of_ble_eq_true rfl) (Nat.le_of_ble_eq_true rfl) (Nat.le_of_ble_eq_true rfl) iI rfl ?_
    rintro _ _ ⟨rfl, R2, rfl, g1, g2⟩
    refine cm_aast (ci := 6) dX2_init_103 ka2 rfl rfl (by decide) (by rw [la2]; exact ix) kb2 rfl ?_
    rw [cl, hsk]
    rw [hsk] at g1 g2
    refine am_iincW (q := 107) (ls1 := [_, _]) (w := 1) dX2_init_104 rfl (Nat.le_of_ble_eq_true rfl) kc_i1 rfl rfl ?_
    refine am_goto (tgt := 82) dX2_init_107 rfl ?_
    rw [nI_1]
    have f2 : Fr (gS P (elR (k + 1))) I J (up2 R2 (c + 9) k (some (c + 14 + 2 * k))) := by
      refine Fr.pR ?_ (by rw [gS_hs, hs]; omega)
      intro x q i
      rw [gS_hs, hs, elR_len] at q
      rw [g2 x (by omega)]
      exact f0 x (by omega) i
    refine nx _ ⟨f2, fun i hi => ?_, fun x q1 q2 => ?_⟩
    · by_cases z : i = k
      · subst z
        rw [up2_s, up2_a (by omega)]
        exact ⟨rfl, g1⟩
      · obtain ⟨w1, w2⟩ := r0 i (by omega)
        rw [up2_j z, up2_a (by omega), g2 _ (by omega), g2 _ (by omega)]
        exact ⟨w1, w2⟩
    · funext j
      rw [up2_a q1, g2 x (by omega), o0 x q1 (by omega)]
  · rintro R1 ⟨f0, r0, o0⟩
    have k1 := K R1 f0 r0 o0
    have kc' : (gS P (elR 4)).K c = 3 := (gS_o (by omega)).1.trans kc
    obtain ⟨ka', la'⟩ := gS_o (S := P) (l := elR 4) (x := c + 9) (by omega)
    rw [ka] at ka'
    rw [la] at la'
    have rc' : R1 c 3 = some (c + 9) := by rw [o0 c (by omega) (by omega)]; exact rc
    clear K
    generalize gS P (elR 4) = P1 at k1 kc' ka' la' ⊢
    refine am_iload_n (q := 83) dX2_init_82 rfl rfl ?_
    refine am_aload_n (q := 84) dX2_init_83 rfl rfl ?_
    refine cm_getR (q := 87) dX2_init_84 flX2_34 rfl (by assumption) (by assumption) rfl ?_
    refine cm_alenK (q := 88) dX2_init_87 (by assumption) (by decide) (by rw [la'] : nI (P1.ln (c + 9)) = nI 4) rfl ?_
    refine am_icmp_ge (tgt := 110) (q := 91) dX2_init_88 rfl rfl (fun _ => ?_) (fun hz => absurd (Int32.le_refl _) hz)
    exact k1
theorem k_cl2 (hG : okG G) (hF : Fr P I J R) (hs : P.hs = c + 22) (kc : P.K c = 3) (rc : R c 4 = some (c + 10)) (ka : P.K (c + 10) = 23) (la : P.ln (c + 10) = 8) (K : ∀ R1, Fr (gS P (elO 4 10 8)) I J R1 → (∀ i, i < 8 → R1 (c + 10) i = some (c + 22 + i)) → (∀ x, x ≠ c + 10 → (x < c + 22 ∨ c + 30 ≤ x) → R1 x = R x) → MW G mX2_init 2 140 [some (vR c), some (vI (nI 8))] [] (mw (gS P (elO 4 10 8)) I J R1) Q) : MW G mX2_init 2 112 [some (vR c), some (vI (nI 0))] [] (mw P I J R) Q := by
  refine k_loop (σ := Nat → Nat → Option Nat) (n := 8) (Inv := fun k R1 => Fr (gS P (elO 4 10 k)) I J R1 ∧ (∀ i, i < k → R1 (c + 10) i = some (c + 22 + i)) ∧ ∀ x, x ≠ c + 10 → (x < c + 22 ∨ c + 22 + k ≤ x) → R1 x = R x) (W := fun k R1 => MW G mX2_init 2 112 [some (vR c), some (vI (nI k))] [] (mw (gS P (elO 4 10 k)) I J R1) Q) ?_ ?_ 0 R (Nat.zero_le _) ⟨hF, fun i hi => absurd hi (Nat.not_lt_zero i), fun _ _ _ => rfl⟩
  · rintro k R1 hk ⟨f0, r0, o0⟩ ih
    have hsk : (gS P (elO 4 10 k)).hs = c + 22 + k := by rw [gS_hs, hs, elO_len]
    have kc' : (gS P (elO 4 10 k)).K c = 3 := (gS_o (by omega)).1.trans kc
    obtain ⟨ka', la'⟩ := gS_o (S := P) (l := elO 4 10 k) (x := c + 10) (by omega)
    rw [ka] at ka'
    rw [la] at la'
    have rc' : R1 c 4 = some (c + 10) := by rw [o0 c (by omega) (by omega)]; exact rc
    have ix : vp_in (nI k) 8 := vp_in_nI hk (by decide)
    have cl : (nI k).toNatClampNeg = k := nI_clamp (by omega)
    have e1 : (gS P (elO 4 10 k)).nw 4 10 = gS P (elO 4 10 (k + 1)) := by
      rw [gS_snoc, elO]
    have nx := fun R2 => ih R2
    clear ih K
    generalize hP : gS P (elO 4 10 k) = P1 at f0 hsk kc' ka' la' e1 ⊢
    have kb : (P1.nw 4 10).K P1.hs = 4 := nw_Kn
    have iI := k_X3_init (G := G) (S := P1.nw 4 10) (I := I) (J := J) (R := R1) (a := P1.hs)
    rw [e1] at iI kb
    have ka2 : (gS P (elO 4 10 (k + 1))).K (c + 10) = 22 + 1 := (gS_o (by omega)).1.trans ka
    have la2 : (gS P (elO 4 10 (k + 1))).ln (c + 10) = 8 := (gS_o (by omega)).2.trans la
    refine am_iload_n (q := 113) dX2_init_112 rfl rfl ?_
    refine am_aload_n (q := 114) dX2_init_113 rfl rfl ?_
    refine cm_getR (q := 117) dX2_init_114 flX2_40 rfl (by assumption) (by assumption) rfl ?_
    refine cm_alenK (q := 118) dX2_init_117 (by assumption) (by decide) (by rw [la'] : nI (P1.ln (c + 10)) = nI 8) rfl ?_
    refine am_icmp_ge (tgt := 140) (q := 121) dX2_init_118 rfl rfl (fun hz => absurd hz (nI_ge hk (by decide))) (fun _ => ?_)
    refine am_aload_n (q := 122) dX2_init_121 rfl rfl ?_
    refine cm_getR (q := 125) dX2_init_122 flX2_40 rfl (by assumption) (by assumption) rfl ?_
    refine am_iload_n (q := 126) dX2_init_125 rfl rfl ?_
    refine cm_mkO (q := 129) f0 dX2_init_126 cnX2_38 rfl ?_
    refine (?_ : MW G mX2_init 2 129 _ _ (mw (P1.nw 4 10) I J R1) Q)
    rw [e1]
    refine am_dup (q := 130) dX2_init_129 rfl rfl ?_
    refine am_call2 (q := 133) (As := []) hG dX2_init_130 mlX2_61 rfl (Nat.le_of_ble_eq_true rfl) (Nat.le_of_ble_eq_true rfl) (Nat.le_of_ble_eq_true rfl) iI rfl ?_
    rintro _ _ ⟨rfl, rfl⟩
    refine cm_aast (ci := 3) dX2_init_133 ka2 rfl rfl (by decide) (by rw [la2]; exact ix) kb rfl ?_
    rw [cl, hsk]
    refine am_iincW (q := 137) (ls1 := [_, _]) (w := 1) dX2_init_134 rfl (Nat.le_of_ble_eq_true rfl) kc_i1 rfl rfl ?_
    refine am_goto (tgt := 112) dX2_init_137 rfl ?_
    rw [nI_1]
    have f2 : Fr (gS P (elO 4 10 (k + 1))) I J (up2 R1 (c + 10) k (some (c + 22 + k))) := by
      rw [← e1]
      exact f0.nw.pR (by rw [nw_hs]; omega)
    refine nx _ ⟨f2, fun i hi => ?_, fun x q1 q2 => ?_⟩
    · by_cases z : i = k
      · subst z
        exact up2_s
      · rw [up2_j z]
        exact r0 i (by omega)
    · funext j
      rw [up2_a q1, o0 x q1 (by omega)]
  · rintro R1 ⟨f0, r0, o0⟩
    have k1 := K R1 f0 r0 o0
    have kc' : (gS P (elO 4 10 8)).K c = 3 := (gS_o (by omega)).1.trans kc
    obtain ⟨ka', la'⟩ := gS_o (S := P) (l := elO 4 10 8) (x := c + 10) (by omega)
    rw [ka] at ka'
    rw [la] at la'
    have rc' : R1 c 4 = some (c + 10) := by rw [o0 c (by omega) (by omega)]; exact rc
    clear K
    generalize gS P (elO 4 10 8) = P1 at k1 kc' ka' la' ⊢
    refine am_iload_n (q := 113) dX2_init_112 rfl rfl ?_
    refine am_aload_n (q := 114) dX2_init_113 rfl rfl ?_
    refine cm_getR (q := 117) dX2_init_114 flX2_40 rfl (by assumption) (by assumption) rfl ?_
    refine cm_alenK (q := 118) dX2_init_117 (by assumption) (by decide) (by rw [la'] : nI (P1.ln (c + 10)) = nI 8) rfl ?_
    refine am_icmp_ge (tgt := 140) (q := 121) dX2_init_118 rfl rfl (fun _ => ?_) (fun hz => absurd (Int32.le_refl _) hz)
    exact k1
theorem k_cl3 (hG : okG G) (hF : Fr P I J R) (hs : P.hs = c + 30) (kc : P.K c = 3) (rc : R c 5 = some (c + 11)) (ka : P.K (c + 11) = 24) (la : P.ln (c + 11) = 8) (K : ∀ R1, Fr (gS P (elO 6 6 8)) I J R1 → (∀ i, i < 8 → R1 (c + 11) i = some (c + 30 + i)) → (∀ x, x ≠ c + 11 → (x < c + 30 ∨ c + 38 ≤ x) → R1 x = R x) → MW G mX2_init 2 170 [some (vR c), some (vI (nI 8))] [] (mw (gS P (elO 6 6 8)) I J R1) Q) : MW G mX2_init 2 142 [some (vR c), some (vI (nI 0))] [] (mw P I J R) Q := by
  refine k_loop (σ := Nat → Nat → Option Nat) (n := 8) (Inv := fun k R1 => Fr (gS P (elO 6 6 k)) I J R1 ∧ (∀ i, i < k → R1 (c + 11) i = some (c + 30 + i)) ∧ ∀ x, x ≠ c + 11 → (x < c + 30 ∨ c + 30 + k ≤ x) → R1 x = R x) (W := fun k R1 => MW G mX2_init 2 142 [some (vR c), some (vI (nI k))] [] (mw (gS P (elO 6 6 k)) I J R1) Q) ?_ ?_ 0 R (Nat.zero_le _) ⟨hF, fun i hi => absurd hi (Nat.not_lt_zero i), fun _ _ _ => rfl⟩
  · rintro k R1 hk ⟨f0, r0, o0⟩ ih
    have hsk : (gS P (elO 6 6 k)).hs = c + 30 + k := by rw [gS_hs, hs, elO_len]
    have kc' : (gS P (elO 6 6 k)).K c = 3 := (gS_o (by omega)).1.trans kc
    obtain ⟨ka', la'⟩ := gS_o (S := P) (l := elO 6 6 k) (x := c + 11) (by omega)
    rw [ka] at ka'
    rw [la] at la'
    have rc' : R1 c 5 = some (c + 11) := by rw [o0 c (by omega) (by omega)]; exact rc
    have ix : vp_in (nI k) 8 := vp_in_nI hk (by decide)
    have cl : (nI k).toNatClampNeg = k := nI_clamp (by omega)
    have e1 : (gS P (elO 6 6 k)).nw 6 6 = gS P (elO 6 6 (k + 1)) := by
      rw [gS_snoc, elO]
    have nx := fun R2 => ih R2
    clear ih K
    generalize hP : gS P (elO 6 6 k) = P1 at f0 hsk kc' ka' la' e1 ⊢
    have kb : (P1.nw 6 6).K P1.hs = 6 := nw_Kn
    have iI := k_X5_init (G := G) (S := P1.nw 6 6) (I := I) (J := J) (R := R1) (a := P1.hs)
    rw [e1] at iI kb
    have ka2 : (gS P (elO 6 6 (k + 1))).K (c + 11) = 22 + 2 := (gS_o (by omega)).1.trans ka
    have la2 : (gS P (elO 6 6 (k + 1))).ln (c + 11) = 8 := (gS_o (by omega)).2.trans la
    refine am_iload_n (q := 143) dX2_init_142 rfl rfl ?_
    refine am_aload_n (q := 144) dX2_init_143 rfl rfl ?_
    refine cm_getR (q := 147) dX2_init_144 flX2_46 rfl (by assumption) (by assumption) rfl ?_
    refine cm_alenK (q := 148) dX2_init_147 (by assumption) (by decide) (by rw [la'] : nI (P1.ln (c + 11)) = nI 8) rfl ?_
    refine am_icmp_ge (tgt := 170) (q := 151) dX2_init_148 rfl rfl (fun hz => absurd hz (nI_ge hk (by decide))) (fun _ => ?_)
    refine am_aload_n (q := 152) dX2_init_151 rfl rfl ?_
    refine cm_getR (q := 155) dX2_init_152 flX2_46 rfl (by assumption) (by assumption) rfl ?_
    refine am_iload_n (q := 156) dX2_init_155 rfl rfl ?_
    refine cm_mkO (q := 159) f0 dX2_init_156 cnX2_44 rfl ?_
    refine (?_ : MW G mX2_init 2 159 _ _ (mw (P1.nw 6 6) I J R1) Q)
    rw [e1]
    refine am_dup (q := 160) dX2_init_159 rfl rfl ?_
    refine am_call2 (q := 163) (As := []) hG dX2_init_160 mlX2_62 rfl (Nat.le_of_ble_eq_true rfl) (Nat.le_of_ble_eq_true rfl) (Nat.le_of_ble_eq_true rfl) iI rfl ?_
    rintro _ _ ⟨rfl, rfl⟩
    refine cm_aast (ci := 5) dX2_init_163 ka2 rfl rfl (by decide) (by rw [la2]; exact ix) kb rfl ?_
    rw [cl, hsk]
    refine am_iincW (q := 167) (ls1 := [_, _]) (w := 1) dX2_init_164 rfl (Nat.le_of_ble_eq_true rfl) kc_i1 rfl rfl ?_
    refine am_goto (tgt := 142) dX2_init_167 rfl ?_
    rw [nI_1]
    have f2 : Fr (gS P (elO 6 6 (k + 1))) I J (up2 R1 (c + 11) k (some (c + 30 + k))) := by
      rw [← e1]
      exact f0.nw.pR (by rw [nw_hs]; omega)
    refine nx _ ⟨f2, fun i hi => ?_, fun x q1 q2 => ?_⟩
    · by_cases z : i = k
      · subst z
        exact up2_s
      · rw [up2_j z]
        exact r0 i (by omega)
    · funext j
      rw [up2_a q1, o0 x q1 (by omega)]
  · rintro R1 ⟨f0, r0, o0⟩
    have k1 := K R1 f0 r0 o0
    have kc' : (gS P (elO 6 6 8)).K c = 3 := (gS_o (by omega)).1.trans kc
    obtain ⟨ka', la'⟩ := gS_o (S := P) (l := elO 6 6 8) (x := c + 11) (by omega)
    rw [ka] at ka'
    rw [la] at la'
    have rc' : R1 c 5 = some (c + 11) := by rw [o0 c (by omega) (by omega)]; exact rc
    clear K
    generalize gS P (elO 6 6 8) = P1 at k1 kc' ka' la' ⊢
    refine am_iload_n (q := 143) dX2_init_142 rfl rfl ?_
    refine am_aload_n (q := 144) dX2_init_143 rfl rfl ?_
    refine cm_getR (q := 147) dX2_init_144 flX2_46 rfl (by assumption) (by assumption) rfl ?_
    refine cm_alenK (q := 148) dX2_init_147 (by assumption) (by decide) (by rw [la'] : nI (P1.ln (c + 11)) = nI 8) rfl ?_
    refine am_icmp_ge (tgt := 170) (q := 151) dX2_init_148 rfl rfl (fun _ => ?_) (fun hz => absurd (Int32.le_refl _) hz)
    exact k1
theorem k_cl4 (hG : okG G) (hF : Fr P I J R) (hs : P.hs = c + 38) (kc : P.K c = 3) (rc : R c 6 = some (c + 12)) (ka : P.K (c + 12) = 25) (la : P.ln (c + 12) = 20) (K : ∀ R1, Fr (gS P (elO 11 4 20)) I J R1 → (∀ i, i < 20 → R1 (c + 12) i = some (c + 38 + i)) → (∀ x, x ≠ c + 12 → (x < c + 38 ∨ c + 58 ≤ x) → R1 x = R x) → MW G mX2_init 2 200 [some (vR c), some (vI (nI 20))] [] (mw (gS P (elO 11 4 20)) I J R1) Q) : MW G mX2_init 2 172 [some (vR c), some (vI (nI 0))] [] (mw P I J R) Q := by
  refine k_loop (σ := Nat → Nat → Option Nat) (n := 20) (Inv := fun k R1 => Fr (gS P (elO 11 4 k)) I J R1 ∧ (∀ i, i < k → R1 (c + 12) i = some (c + 38 + i)) ∧ ∀ x, x ≠ c + 12 → (x < c + 38 ∨ c + 38 + k ≤ x) → R1 x = R x) (W := fun k R1 => MW G mX2_init 2 172 [some (vR c), some (vI (nI k))] [] (mw (gS P (elO 11 4 k)) I J R1) Q) ?_ ?_ 0 R (Nat.zero_le _) ⟨hF, fun i hi => absurd hi (Nat.not_lt_zero i), fun _ _ _ => rfl⟩
  · rintro k R1 hk ⟨f0, r0, o0⟩ ih
    have hsk : (gS P (elO 11 4 k)).hs = c + 38 + k := by rw [gS_hs, hs, elO_len]
    have kc' : (gS P (elO 11 4 k)).K c = 3 := (gS_o (by omega)).1.trans kc
    obtain ⟨ka', la'⟩ := gS_o (S := P) (l := elO 11 4 k) (x := c + 12) (by omega)
    rw [ka] at ka'
    rw [la] at la'
    have rc' : R1 c 6 = some (c + 12) := by rw [o0 c (by omega) (by omega)]; exact rc
    have ix : vp_in (nI k) 20 := vp_in_nI hk (by decide)
    have cl : (nI k).toNatClampNeg = k := nI_clamp (by omega)
    have e1 : (gS P (elO 11 4 k)).nw 11 4 = gS P (elO 11 4 (k + 1)) := by
      rw [gS_snoc, elO]
    have nx := fun R2 => ih R2
    clear ih K
    generalize hP : gS P (elO 11 4 k) = P1 at f0 hsk kc' ka' la' e1 ⊢
    have kb : (P1.nw 11 4).K P1.hs = 11 := nw_Kn
    have iI := k_X10_init (G := G) (S := P1.nw 11 4) (I := I) (J := J) (R := R1) (a := P1.hs)
    rw [e1] at iI kb
    have ka2 : (gS P (elO 11 4 (k + 1))).K (c + 12) = 22 + 3 := (gS_o (by omega)).1.trans ka
    have la2 : (gS P (elO 11 4 (k + 1))).ln (c + 12) = 20 := (gS_o (by omega)).2.trans la
    refine am_iload_n (q := 173) dX2_init_172 rfl rfl ?_
    refine am_aload_n (q := 174) dX2_init_173 rfl rfl ?_
    refine cm_getR (q := 177) dX2_init_174 flX2_52 rfl (by assumption) (by assumption) rfl ?_
    refine cm_alenK (q := 178) dX2_init_177 (by assumption) (by decide) (by rw [la'] : nI (P1.ln (c + 12)) = nI 20) rfl ?_
    refine am_icmp_ge (tgt := 200) (q := 181) dX2_init_178 rfl rfl (fun hz => absurd hz (nI_ge hk (by decide))) (fun _ => ?_)
    refine am_aload_n (q := 182) dX2_init_181 rfl rfl ?_
    refine cm_getR (q := 185) dX2_init_182 flX2_52 rfl (by assumption) (by assumption) rfl ?_
    refine am_iload_n (q := 186) dX2_init_185 rfl rfl ?_
    refine cm_mkO (q := 189) f0 dX2_init_186 cnX2_50 rfl ?_
    refine (?_ : MW G mX2_init 2 189 _ _ (mw (P1.nw 11 4) I J R1) Q)
    rw [e1]
    refine am_dup (q := 190) dX2_init_189 rfl rfl ?_
    refine am_call2 (q := 193) (As := []) hG dX2_init_190 mlX2_63 rfl (Nat.le_of_ble_eq_true rfl) (Nat.le_of_ble_eq_true rfl) (Nat.le_of_ble_eq_true rfl) iI rfl ?_
    rintro _ _ ⟨rfl, rfl⟩
    refine cm_aast (ci := 10) dX2_init_193 ka2 rfl rfl (by decide) (by rw [la2]; exact ix) kb rfl ?_
    rw [cl, hsk]
    refine am_iincW (q := 197) (ls1 := [_, _]) (w := 1) dX2_init_194 rfl (Nat.le_of_ble_eq_true rfl) kc_i1 rfl rfl ?_
    refine am_goto (tgt := 172) dX2_init_197 rfl ?_
    rw [nI_1]
    have f2 : Fr (gS P (elO 11 4 (k + 1))) I J (up2 R1 (c + 12) k (some (c + 38 + k))) := by
      rw [← e1]
      exact f0.nw.pR (by rw [nw_hs]; omega)
    refine nx _ ⟨f2, fun i hi => ?_, fun x q1 q2 => ?_⟩
    · by_cases z : i = k
      · subst z
        exact up2_s
      · rw [up2_j z]
        exact r0 i (by omega)
    · funext j
      rw [up2_a q1, o0 x q1 (by omega)]
  · rintro R1 ⟨f0, r0, o0⟩
    have k1 := K R1 f0 r0 o0
    have kc' : (gS P (elO 11 4 20)).K c = 3 := (gS_o (by omega)).1.trans kc
    obtain ⟨ka', la'⟩ := gS_o (S := P) (l := elO 11 4 20) (x := c + 12) (by omega)
    rw [ka] at ka'
    rw [la] at la'
    have rc' : R1 c 6 = some (c + 12) := by rw [o0 c (by omega) (by omega)]; exact rc
    clear K
    generalize gS P (elO 11 4 20) = P1 at k1 kc' ka' la' ⊢
    refine am_iload_n (q := 173) dX2_init_172 rfl rfl ?_
    refine am_aload_n (q := 174) dX2_init_173 rfl rfl ?_
    refine cm_getR (q := 177) dX2_init_174 flX2_52 rfl (by assumption) (by assumption) rfl ?_
    refine cm_alenK (q := 178) dX2_init_177 (by assumption) (by decide) (by rw [la'] : nI (P1.ln (c + 12)) = nI 20) rfl ?_
    refine am_icmp_ge (tgt := 200) (q := 181) dX2_init_178 rfl rfl (fun _ => ?_) (fun hz => absurd (Int32.le_refl _) hz)
    exact k1
end Cn1

