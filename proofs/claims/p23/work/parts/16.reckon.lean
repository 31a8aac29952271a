theorem kc_s259 : (Int16.ofInt 259).toInt32 = 259 := by decide +kernel
theorem kc_s262 : (Int16.ofInt 262).toInt32 = 262 := by decide +kernel
theorem kc_s319 : (Int16.ofInt 319).toInt32 = 319 := by decide +kernel
theorem kc_s326 : (Int16.ofInt 326).toInt32 = 326 := by decide +kernel
theorem kc_s327 : (Int16.ofInt 327).toInt32 = 327 := by decide +kernel
theorem dX1_reckon_0 : decode cX1_reckon 0 = .ok (.aload_n 0, 1) := by decide +kernel
theorem dX1_reckon_1 : decode cX1_reckon 1 = .ok (.iconst 0, 1) := by decide +kernel
theorem dX1_reckon_2 : decode cX1_reckon 2 = .ok (.putfield 31, 3) := by decide +kernel
theorem dX1_reckon_5 : decode cX1_reckon 5 = .ok (.iload_n 1, 1) := by decide +kernel
theorem dX1_reckon_6 : decode cX1_reckon 6 = .ok (.istore 4, 2) := by decide +kernel
theorem dX1_reckon_8 : decode cX1_reckon 8 = .ok (.iload 4, 2) := by decide +kernel
theorem dX1_reckon_10 : decode cX1_reckon 10 = .ok (.iload_n 2, 1) := by decide +kernel
theorem dX1_reckon_11 : decode cX1_reckon 11 = .ok (.if_icmp .ge 219, 3) := by decide +kernel
theorem dX1_reckon_14 : decode cX1_reckon 14 = .ok (.iload 4, 2) := by decide +kernel
theorem dX1_reckon_16 : decode cX1_reckon 16 = .ok (.ifCond .lt 32, 3) := by decide +kernel
theorem dX1_reckon_19 : decode cX1_reckon 19 = .ok (.iload 4, 2) := by decide +kernel
theorem dX1_reckon_21 : decode cX1_reckon 21 = .ok (.aload_n 0, 1) := by decide +kernel
theorem dX1_reckon_22 : decode cX1_reckon 22 = .ok (.getfield 23, 3) := by decide +kernel
theorem dX1_reckon_25 : decode cX1_reckon 25 = .ok (.if_icmp .ge 23, 3) := by decide +kernel
theorem dX1_reckon_28 : decode cX1_reckon 28 = .ok (.iload 4, 2) := by decide +kernel
theorem dX1_reckon_30 : decode cX1_reckon 30 = .ok (.aload_n 0, 1) := by decide +kernel
theorem dX1_reckon_31 : decode cX1_reckon 31 = .ok (.getfield 11, 3) := by decide +kernel
theorem dX1_reckon_34 : decode cX1_reckon 34 = .ok (.arraylength, 1) := by decide +kernel
theorem dX1_reckon_35 : decode cX1_reckon 35 = .ok (.if_icmp .ge 13, 3) := by decide +kernel
theorem dX1_reckon_38 : decode cX1_reckon 38 = .ok (.aload_n 0, 1) := by decide +kernel
theorem dX1_reckon_39 : decode cX1_reckon 39 = .ok (.getfield 11, 3) := by decide +kernel
theorem dX1_reckon_42 : decode cX1_reckon 42 = .ok (.iload 4, 2) := by decide +kernel
theorem dX1_reckon_44 : decode cX1_reckon 44 = .ok (.iaload, 1) := by decide +kernel
theorem dX1_reckon_45 : decode cX1_reckon 45 = .ok (.goto 6, 3) := by decide +kernel
theorem dX1_reckon_51 : decode cX1_reckon 51 = .ok (.istore 5, 2) := by decide +kernel
theorem dX1_reckon_53 : decode cX1_reckon 53 = .ok (.iload 4, 2) := by decide +kernel
theorem dX1_reckon_55 : decode cX1_reckon 55 = .ok (.ifCond .lt 32, 3) := by decide +kernel
theorem dX1_reckon_58 : decode cX1_reckon 58 = .ok (.iload 4, 2) := by decide +kernel
theorem dX1_reckon_60 : decode cX1_reckon 60 = .ok (.aload_n 0, 1) := by decide +kernel
theorem dX1_reckon_61 : decode cX1_reckon 61 = .ok (.getfield 23, 3) := by decide +kernel
theorem dX1_reckon_64 : decode cX1_reckon 64 = .ok (.if_icmp .ge 23, 3) := by decide +kernel
theorem dX1_reckon_67 : decode cX1_reckon 67 = .ok (.iload 4, 2) := by decide +kernel
theorem dX1_reckon_69 : decode cX1_reckon 69 = .ok (.aload_n 0, 1) := by decide +kernel
theorem dX1_reckon_70 : decode cX1_reckon 70 = .ok (.getfield 17, 3) := by decide +kernel
theorem dX1_reckon_73 : decode cX1_reckon 73 = .ok (.arraylength, 1) := by decide +kernel
theorem dX1_reckon_74 : decode cX1_reckon 74 = .ok (.if_icmp .ge 13, 3) := by decide +kernel
theorem dX1_reckon_77 : decode cX1_reckon 77 = .ok (.aload_n 0, 1) := by decide +kernel
theorem dX1_reckon_78 : decode cX1_reckon 78 = .ok (.getfield 17, 3) := by decide +kernel
theorem dX1_reckon_81 : decode cX1_reckon 81 = .ok (.iload 4, 2) := by decide +kernel
theorem dX1_reckon_83 : decode cX1_reckon 83 = .ok (.iaload, 1) := by decide +kernel
theorem dX1_reckon_84 : decode cX1_reckon 84 = .ok (.goto 4, 3) := by decide +kernel
theorem dX1_reckon_88 : decode cX1_reckon 88 = .ok (.istore 6, 2) := by decide +kernel
theorem dX1_reckon_90 : decode cX1_reckon 90 = .ok (.iload 5, 2) := by decide +kernel
theorem dX1_reckon_92 : decode cX1_reckon 92 = .ok (.sipush 259, 3) := by decide +kernel
theorem dX1_reckon_95 : decode cX1_reckon 95 = .ok (.if_icmp .ne 12, 3) := by decide +kernel
theorem dX1_reckon_98 : decode cX1_reckon 98 = .ok (.aload_n 0, 1) := by decide +kernel
theorem dX1_reckon_99 : decode cX1_reckon 99 = .ok (.iload 6, 2) := by decide +kernel
theorem dX1_reckon_101 : decode cX1_reckon 101 = .ok (.invokevirtual 34, 3) := by decide +kernel
theorem dX1_reckon_104 : decode cX1_reckon 104 = .ok (.goto 120, 3) := by decide +kernel
theorem dX1_reckon_107 : decode cX1_reckon 107 = .ok (.iload 5, 2) := by decide +kernel
theorem dX1_reckon_109 : decode cX1_reckon 109 = .ok (.sipush 262, 3) := by decide +kernel
theorem dX1_reckon_112 : decode cX1_reckon 112 = .ok (.if_icmp .ne 15, 3) := by decide +kernel
theorem dX1_reckon_115 : decode cX1_reckon 115 = .ok (.aload_n 0, 1) := by decide +kernel
theorem dX1_reckon_116 : decode cX1_reckon 116 = .ok (.aload_n 0, 1) := by decide +kernel
theorem dX1_reckon_117 : decode cX1_reckon 117 = .ok (.invokevirtual 38, 3) := by decide +kernel
theorem dX1_reckon_120 : decode cX1_reckon 120 = .ok (.ineg, 1) := by decide +kernel
theorem dX1_reckon_121 : decode cX1_reckon 121 = .ok (.invokevirtual 34, 3) := by decide +kernel
theorem dX1_reckon_124 : decode cX1_reckon 124 = .ok (.goto 100, 3) := by decide +kernel
theorem dX1_reckon_127 : decode cX1_reckon 127 = .ok (.iload 5, 2) := by decide +kernel
theorem dX1_reckon_129 : decode cX1_reckon 129 = .ok (.sipush 327, 3) := by decide +kernel
theorem dX1_reckon_132 : decode cX1_reckon 132 = .ok (.if_icmp .ne 16, 3) := by decide +kernel
theorem dX1_reckon_135 : decode cX1_reckon 135 = .ok (.aload_n 0, 1) := by decide +kernel
theorem dX1_reckon_136 : decode cX1_reckon 136 = .ok (.iconst 1, 1) := by decide +kernel
theorem dX1_reckon_137 : decode cX1_reckon 137 = .ok (.aload_n 0, 1) := by decide +kernel
theorem dX1_reckon_138 : decode cX1_reckon 138 = .ok (.invokevirtual 38, 3) := by decide +kernel
theorem dX1_reckon_141 : decode cX1_reckon 141 = .ok (.isub, 1) := by decide +kernel
theorem dX1_reckon_142 : decode cX1_reckon 142 = .ok (.invokevirtual 34, 3) := by decide +kernel
theorem dX1_reckon_145 : decode cX1_reckon 145 = .ok (.goto 79, 3) := by decide +kernel
theorem dX1_reckon_148 : decode cX1_reckon 148 = .ok (.iload 5, 2) := by decide +kernel
theorem dX1_reckon_150 : decode cX1_reckon 150 = .ok (.sipush 319, 3) := by decide +kernel
theorem dX1_reckon_153 : decode cX1_reckon 153 = .ok (.if_icmp .lt 26, 3) := by decide +kernel
theorem dX1_reckon_156 : decode cX1_reckon 156 = .ok (.iload 5, 2) := by decide +kernel
theorem dX1_reckon_158 : decode cX1_reckon 158 = .ok (.sipush 326, 3) := by decide +kernel
theorem dX1_reckon_161 : decode cX1_reckon 161 = .ok (.if_icmp .gt 18, 3) := by decide +kernel
theorem dX1_reckon_164 : decode cX1_reckon 164 = .ok (.aload_n 0, 1) := by decide +kernel
theorem dX1_reckon_165 : decode cX1_reckon 165 = .ok (.aload_n 3, 1) := by decide +kernel
theorem dX1_reckon_166 : decode cX1_reckon 166 = .ok (.iload 5, 2) := by decide +kernel
theorem dX1_reckon_168 : decode cX1_reckon 168 = .ok (.iload 6, 2) := by decide +kernel
theorem dX1_reckon_170 : decode cX1_reckon 170 = .ok (.invokevirtual 42, 3) := by decide +kernel
theorem dX1_reckon_173 : decode cX1_reckon 173 = .ok (.invokevirtual 34, 3) := by decide +kernel
theorem dX1_reckon_176 : decode cX1_reckon 176 = .ok (.goto 48, 3) := by decide +kernel
theorem dX1_reckon_179 : decode cX1_reckon 179 = .ok (.aload_n 0, 1) := by decide +kernel
theorem dX1_reckon_180 : decode cX1_reckon 180 = .ok (.invokevirtual 38, 3) := by decide +kernel
theorem dX1_reckon_183 : decode cX1_reckon 183 = .ok (.istore 7, 2) := by decide +kernel
theorem dX1_reckon_185 : decode cX1_reckon 185 = .ok (.aload_n 0, 1) := by decide +kernel
theorem dX1_reckon_186 : decode cX1_reckon 186 = .ok (.invokevirtual 38, 3) := by decide +kernel
theorem dX1_reckon_189 : decode cX1_reckon 189 = .ok (.istore 8, 2) := by decide +kernel
theorem dX1_reckon_191 : decode cX1_reckon 191 = .ok (.aload_n 0, 1) := by decide +kernel
theorem dX1_reckon_192 : decode cX1_reckon 192 = .ok (.iload 5, 2) := by decide +kernel
theorem dX1_reckon_194 : decode cX1_reckon 194 = .ok (.invokestatic 48, 3) := by decide +kernel
theorem dX1_reckon_197 : decode cX1_reckon 197 = .ok (.ifCond .eq 15, 3) := by decide +kernel
theorem dX1_reckon_200 : decode cX1_reckon 200 = .ok (.iload 5, 2) := by decide +kernel
theorem dX1_reckon_202 : decode cX1_reckon 202 = .ok (.iload 8, 2) := by decide +kernel
theorem dX1_reckon_204 : decode cX1_reckon 204 = .ok (.iload 7, 2) := by decide +kernel
theorem dX1_reckon_206 : decode cX1_reckon 206 = .ok (.invokestatic 52, 3) := by decide +kernel
theorem dX1_reckon_209 : decode cX1_reckon 209 = .ok (.goto 12, 3) := by decide +kernel
theorem dX1_reckon_212 : decode cX1_reckon 212 = .ok (.iload 5, 2) := by decide +kernel
theorem dX1_reckon_214 : decode cX1_reckon 214 = .ok (.iload 8, 2) := by decide +kernel
theorem dX1_reckon_216 : decode cX1_reckon 216 = .ok (.iload 7, 2) := by decide +kernel
theorem dX1_reckon_218 : decode cX1_reckon 218 = .ok (.invokestatic 56, 3) := by decide +kernel
theorem dX1_reckon_221 : decode cX1_reckon 221 = .ok (.invokevirtual 34, 3) := by decide +kernel
theorem dX1_reckon_224 : decode cX1_reckon 224 = .ok (.iinc 4 1, 3) := by decide +kernel
theorem dX1_reckon_227 : decode cX1_reckon 227 = .ok (.goto (-219), 3) := by decide +kernel
theorem dX1_reckon_230 : decode cX1_reckon 230 = .ok (.aload_n 0, 1) := by decide +kernel
theorem dX1_reckon_231 : decode cX1_reckon 231 = .ok (.invokevirtual 38, 3) := by decide +kernel
theorem dX1_reckon_234 : decode cX1_reckon 234 = .ok (.ireturn, 1) := by decide +kernel
/-! Code.reckon, by a stack that is a list -/
section ReckB
variable {G : Gp} {S : AMem} {I : Nat → Nat → Int32} {J : Nat → Nat → Int64} {R : Nat → Nat → Option Nat} {a kk aa ss c : Nat}
/-- the stack holds the list, its latest value on top -/
def SK (a ss : Nat) (I : Nat → Nat → Int32) (st : List Int32) : Prop := I a 3 = nI st.length ∧ ∀ i x, st[i]? = some x → I ss (st.length - 1 - i) = x
/-- nothing but the stack has changed -/
def OffK (a ss : Nat) (I I1 : Nat → Nat → Int32) : Prop := ∀ x j, x ≠ ss → (x ≠ a ∨ j ≠ 3) → I1 x j = I x j
theorem OffK.tr {I I1 I2 : Nat → Nat → Int32} (h1 : OffK a ss I I1) (h2 : OffK a ss I1 I2) : OffK a ss I I2 := fun x j q1 q2 => (h2 x j q1 q2).trans (h1 x j q1 q2)
theorem kq_push {v : Int32} {st : List Int32} (h1 : S.K a = 2) (h2 : R a 2 = some ss) (h3 : S.K ss = 20) (h4 : S.ln ss = 400) (hs : SK a ss I st) (hlt : st.length < 400) : Fn G mX1_push 0 [vR a, vI v] (mw S I J R) (fun rr M1 => rr = none ∧ ∃ I1, M1 = mw S I1 J R ∧ SK a ss I1 (v :: st) ∧ OffK a ss I I1) := by
  have n1 : a ≠ ss := fun e => by rw [e, h3] at h1; exact absurd h1 (by decide)
  refine MW.weaken (k_X1_push h1 h2 h3 h4 hs.1 hlt) ?_
  rintro _ _ ⟨_, rfl, rfl, rfl⟩
  refine ⟨_, rfl, rfl, _, rfl, ⟨by rw [up2_s]; rfl, fun i x hx => ?_⟩, fun x j q1 q2 => ?_⟩
  · rw [up2_a n1.symm]
    rcases i with _ | i
    · simp at hx
      subst hx
      show up2 I ss st.length v ss (st.length + 1 - 1 - 0) = v
      rw [show st.length + 1 - 1 - 0 = st.length by omega, up2_s]
    · have hx' : st[i]? = some x := by simpa using hx
      have hi : i < st.length := (List.getElem?_eq_some_iff.mp hx').1
      show up2 I ss st.length v ss (st.length + 1 - 1 - (i + 1)) = x
      rw [up2_j (by omega), show st.length + 1 - 1 - (i + 1) = st.length - 1 - i by omega]
      exact hs.2 i x hx'
  · rw [up2_at, if_neg (by
      rintro ⟨e1, e2⟩
      rcases q2 with q2 | q2
      · exact q2 e1
      · exact q2 e2), up2_a q1]
theorem kq_pop {st : List Int32} (h1 : S.K a = 2) (h2 : R a 2 = some ss) (h3 : S.K ss = 20) (h4 : S.ln ss = 400) (hs : SK a ss I st) (hlt : st.length ≤ 400) : Fn G mX1_pop 0 [vR a] (mw S I J R) (fun rr M1 => rr = some (vI (st.headD 0)) ∧ ∃ I1, M1 = mw S I1 J R ∧ SK a ss I1 st.tail ∧ OffK a ss I I1) := by
  have n1 : a ≠ ss := fun e => by rw [e, h3] at h1; exact absurd h1 (by decide)
  cases st with
  | nil =>
    refine MW.weaken (k_X1_pop0 h1 hs.1) ?_
    rintro _ _ ⟨_, rfl, rfl, rfl⟩
    exact ⟨_, rfl, rfl, I, rfl, hs, fun _ _ _ _ => rfl⟩
  | cons y t =>
    have hl : (y :: t).length = t.length + 1 := rfl
    rw [hl] at hlt
    refine MW.weaken (k_X1_pop (t := t.length) h1 h2 h3 h4 hs.1 (by omega)) ?_
    rintro _ _ ⟨_, rfl, rfl, rfl⟩
    have e : I ss t.length = y := by
      have := hs.2 0 y rfl
      rw [hl, show t.length + 1 - 1 - 0 = t.length by omega] at this
      exact this
    refine ⟨_, rfl, by rw [e]; rfl, _, rfl, ⟨up2_s, fun i x hx => ?_⟩, fun x j q1 q2 => ?_⟩
    · rw [up2_a n1.symm]
      have hi : i < t.length := (List.getElem?_eq_some_iff.mp hx).1
      have := hs.2 (i + 1) x (by simpa using hx)
      rw [hl, show t.length + 1 - 1 - (i + 1) = t.length - 1 - i by omega] at this
      exact this
    · rw [up2_at, if_neg (by
        rintro ⟨e1, e2⟩
        rcases q2 with q2 | q2
        · exact q2 e1
        · exact q2 e2)]
theorem stE_len {rd : Int32 → Int32 → Int32} {k g : Int32} {st : List Int32} : (stE rd k g st).length ≤ st.length + 1 := by
  unfold stE
  have h1 : st.tail.length ≤ st.length := by cases st <;> simp
  have h2 : st.tail.tail.length ≤ st.length := by cases st with
    | nil => simp
    | cons y t => cases t <;> simp; omega
  split
  · simp
  · split
    · simp; try omega
    · split
      · simp; try omega
      · split
        · simp
        · simp; try omega
set_option maxHeartbeats 4000000 in
theorem k_X1_reckon {rd : Int32 → Int32 → Int32} {p n z : Nat} (hG : okG G) (h1 : S.K a = 2) (h2 : R a 2 = some ss) (h3 : S.K ss = 20) (h4 : S.ln ss = 400) (g1 : R a 0 = some kk) (g2 : S.K kk = 20) (g3 : S.ln kk = 400) (g4 : R a 1 = some aa) (g5 : S.K aa = 20) (g6 : S.ln aa = 400) (d1 : kk ≠ ss) (d2 : aa ≠ ss) (hc : S.K c = 3)
    (hz : I a 4 = nI z) (hpz : p + n ≤ z) (hz4 : z ≤ 400)
    (hrd : ∀ (I1 : Nat → Nat → Int32) (k g : Int32), OffK a ss I I1 → 319 ≤ k → k ≤ 326 → Fn G mX2_reading 1 [vR c, vI k, vI g] (mw S I1 J R) (fun rr M1 => rr = some (vI (rd k g)) ∧ M1 = mw S I1 J R)) :
    Fn G mX1_reckon 2 [vR a, vI (nI p), vI (nI (p + n)), vR c] (mw S I J R) (fun rr M1 => rr = some (vI ((evE rd (I kk) (I aa) p n []).headD 0)) ∧ ∃ I1, M1 = mw S I1 J R ∧ OffK a ss I I1) := by
  have n1 : a ≠ ss := fun e => by rw [e, h3] at h1; exact absurd h1 (by decide)
  have n2 : kk ≠ a := fun e => by rw [e, h1] at g2; exact absurd g2 (by decide)
  have n3 : aa ≠ a := fun e => by rw [e, h1] at g5; exact absurd g5 (by decide)
  refine am_aload_n (q := 1) dX1_reckon_0 rfl rfl ?_
  refine am_iconst (q := 2) (v := 0) dX1_reckon_1 kc_i0 rfl ?_
  refine cm_putI (q := 5) dX1_reckon_2 flX1_31 rfl (Or.inl rfl) (Or.inl rfl) (by assumption) rfl ?_
  refine am_iload_n (q := 6) dX1_reckon_5 rfl rfl ?_
  refine am_istore (q := 8) (ls1 := [_, _, _, _, _, _, _, _, _]) dX1_reckon_6 (Nat.le_of_ble_eq_true rfl) rfl rfl ?_
  refine k_loop (σ := (Nat → Nat → Int32) × List Int32 × Option AV × Option AV × Option AV × Option AV) (n := n) (Inv := fun m s => SK a ss s.1 s.2.1 ∧ s.2.1.length ≤ m ∧ OffK a ss I s.1 ∧ evE rd (I kk) (I aa) (p + m) (n - m) s.2.1 = evE rd (I kk) (I aa) p n [])
    (W := fun m s => MW G mX1_reckon 2 8 [some (vR a), some (vI (nI p)), some (vI (nI (p + n))), some (vR c), some (vI (nI (p + m))), s.2.2.1, s.2.2.2.1, s.2.2.2.2.1, s.2.2.2.2.2] [] (mw S s.1 J R) _) ?_ ?_ 0 (up2 I a 3 0, [], none, none, none, none) (Nat.zero_le _) ⟨⟨up2_s, fun i x hx => by simp at hx⟩, Nat.le_refl _, fun x j q1 q2 => by
      show up2 I a 3 0 x j = I x j
      rw [up2_at, if_neg (by
        rintro ⟨e1, e2⟩
        rcases q2 with q2 | q2
        · exact q2 e1
        · exact q2 e2)], rfl⟩
  · rintro m ⟨I0, st, x5, x6, x7, x8⟩ hm ⟨hSK, hlen, hOff, hev⟩ ih
    dsimp only at hSK hlen hOff hev ih ⊢
    have ez : I0 a 4 = nI z := by rw [hOff a 4 n1 (Or.inr (by decide)), hz]
    have ek : I0 kk (p + m) = I kk (p + m) := hOff _ _ d1 (Or.inl n2)
    have ea : I0 aa (p + m) = I aa (p + m) := hOff _ _ d2 (Or.inl n3)
    have hcl : (nI (p + m)).toNatClampNeg = p + m := nI_clamp (by omega)
    have hin1 : vp_in (nI (p + m)) (S.ln kk) := by rw [g3]; exact vp_in_nI (by omega) (by decide)
    have hin2 : vp_in (nI (p + m)) (S.ln aa) := by rw [g6]; exact vp_in_nI (by omega) (by decide)
    -- the next turn of the loop
    have nxt : ∀ (I1 : Nat → Nat → Int32) (y5 y6 y7 y8 : Option AV), SK a ss I1 (stE rd (I kk (p + m)) (I aa (p + m)) st) → OffK a ss I I1 → MW G mX1_reckon 2 224 [some (vR a), some (vI (nI p)), some (vI (nI (p + n))), some (vR c), some (vI (nI (p + m))), y5, y6, y7, y8] [] (mw S I1 J R) (fun f M1 => ∃ r, f = .inl r ∧ (r = some (vI ((evE rd (I kk) (I aa) p n []).headD 0)) ∧ ∃ I1, M1 = mw S I1 J R ∧ OffK a ss I I1)) := by
      intro I1 y5 y6 y7 y8 hS1 hO1
      refine am_iincW (q := 227) (ls1 := [_, _, _, _, _, _, _, _, _]) (w := 1) dX1_reckon_224 rfl (Nat.le_of_ble_eq_true rfl) kc_i1 rfl rfl ?_
      refine am_goto (tgt := 8) dX1_reckon_227 rfl ?_
      rw [nI_1, Nat.add_assoc]
      refine ih (I1, stE rd (I kk (p + m)) (I aa (p + m)) st, y5, y6, y7, y8) ⟨hS1, Nat.le_trans stE_len (by omega), hO1, ?_⟩
      rw [← hev, show n - m = (n - (m + 1)) + 1 by omega]
      rfl
    refine am_iload (q := 10) dX1_reckon_8 rfl rfl ?_
    refine am_iload_n (q := 11) dX1_reckon_10 rfl rfl ?_
    refine am_icmp_ge (tgt := 230) (q := 14) dX1_reckon_11 rfl rfl (fun hz => absurd hz (nI_ge (by omega) (by omega))) (fun _ => ?_)
    refine am_iload (q := 16) dX1_reckon_14 rfl rfl ?_
    refine am_if_lt (tgt := 48) (q := 19) dX1_reckon_16 rfl rfl (fun hz => absurd hz (nI_pos (by omega))) (fun _ => ?_)
    refine am_iload (q := 21) dX1_reckon_19 rfl rfl ?_
    refine am_aload_n (q := 22) dX1_reckon_21 rfl rfl ?_
    refine cm_getI (q := 25) dX1_reckon_22 flX1_23 rfl (by assumption) rfl ?_
    rw [ez]
    refine am_icmp_ge (tgt := 48) (q := 28) dX1_reckon_25 rfl rfl (fun hz => absurd hz (nI_ge (by omega) (by omega))) (fun _ => ?_)
    refine am_iload (q := 30) dX1_reckon_28 rfl rfl ?_
    refine am_aload_n (q := 31) dX1_reckon_30 rfl rfl ?_
    refine cm_getR (q := 34) dX1_reckon_31 flX1_11 rfl (by assumption) (by assumption) rfl ?_
    refine cm_alenI (q := 35) dX1_reckon_34 (by assumption) (by rw [g3] : nI (S.ln kk) = nI 400) rfl ?_
    refine am_icmp_ge (tgt := 48) (q := 38) dX1_reckon_35 rfl rfl (fun hz => absurd hz (nI_ge (by omega) (by decide))) (fun _ => ?_)
    refine am_aload_n (q := 39) dX1_reckon_38 rfl rfl ?_
    refine cm_getR (q := 42) dX1_reckon_39 flX1_11 rfl (by assumption) (by assumption) rfl ?_
    refine am_iload (q := 44) dX1_reckon_42 rfl rfl ?_
    refine cm_iaload (q := 45) dX1_reckon_44 (by assumption) hin1 rfl ?_
    refine am_goto (tgt := 51) dX1_reckon_45 rfl ?_
    rw [hcl, ek]
    refine am_istore (q := 53) (ls1 := [_, _, _, _, _, _, _, _, _]) dX1_reckon_51 (Nat.le_of_ble_eq_true rfl) rfl rfl ?_
    refine am_iload (q := 55) dX1_reckon_53 rfl rfl ?_
    refine am_if_lt (tgt := 87) (q := 58) dX1_reckon_55 rfl rfl (fun hz => absurd hz (nI_pos (by omega))) (fun _ => ?_)
    refine am_iload (q := 60) dX1_reckon_58 rfl rfl ?_
    refine am_aload_n (q := 61) dX1_reckon_60 rfl rfl ?_
    refine cm_getI (q := 64) dX1_reckon_61 flX1_23 rfl (by assumption) rfl ?_
    rw [ez]
    refine am_icmp_ge (tgt := 87) (q := 67) dX1_reckon_64 rfl rfl (fun hz => absurd hz (nI_ge (by omega) (by omega))) (fun _ => ?_)
    refine am_iload (q := 69) dX1_reckon_67 rfl rfl ?_
    refine am_aload_n (q := 70) dX1_reckon_69 rfl rfl ?_
    refine cm_getR (q := 73) dX1_reckon_70 flX1_17 rfl (by assumption) (by assumption) rfl ?_
    refine cm_alenI (q := 74) dX1_reckon_73 (by assumption) (by rw [g6] : nI (S.ln aa) = nI 400) rfl ?_
    refine am_icmp_ge (tgt := 87) (q := 77) dX1_reckon_74 rfl rfl (fun hz => absurd hz (nI_ge (by omega) (by decide))) (fun _ => ?_)
    refine am_aload_n (q := 78) dX1_reckon_77 rfl rfl ?_
    refine cm_getR (q := 81) dX1_reckon_78 flX1_17 rfl (by assumption) (by assumption) rfl ?_
    refine am_iload (q := 83) dX1_reckon_81 rfl rfl ?_
    refine cm_iaload (q := 84) dX1_reckon_83 (by assumption) hin2 rfl ?_
    refine am_goto (tgt := 88) dX1_reckon_84 rfl ?_
    rw [hcl, ea]
    generalize hk : I kk (p + m) = k at nxt ⊢
    generalize hg : I aa (p + m) = g at nxt ⊢
    refine am_istore (q := 90) (ls1 := [_, _, _, _, _, _, _, _, _]) dX1_reckon_88 (Nat.le_of_ble_eq_true rfl) rfl rfl ?_
    refine am_iload (q := 92) dX1_reckon_90 rfl rfl ?_
    refine am_sipush (q := 95) (v := 259) dX1_reckon_92 kc_s259 rfl ?_
    refine am_icmp_ne (tgt := 107) (q := 98) dX1_reckon_95 rfl rfl (fun hk1 => ?_) (fun hk1 => ?_)
    · refine am_iload (q := 109) dX1_reckon_107 rfl rfl ?_
      refine am_sipush (q := 112) (v := 262) dX1_reckon_109 kc_s262 rfl ?_
      refine am_icmp_ne (tgt := 127) (q := 115) dX1_reckon_112 rfl rfl (fun hk2 => ?_) (fun hk2 => ?_)
      · refine am_iload (q := 129) dX1_reckon_127 rfl rfl ?_
        refine am_sipush (q := 132) (v := 327) dX1_reckon_129 kc_s327 rfl ?_
        refine am_icmp_ne (tgt := 148) (q := 135) dX1_reckon_132 rfl rfl (fun hk3 => ?_) (fun hk3 => ?_)
        · have joinE : ∀ (st2 : List Int32) (I2 : Nat → Nat → Int32), st2 = st → ¬ (319 ≤ k ∧ k ≤ 326) → SK a ss I2 st2 → OffK a ss I I2 → MW G mX1_reckon 2 179 [some (vR a), some (vI (nI p)), some (vI (nI (p + n))), some (vR c), some (vI (nI (p + m))), some (vI k), some (vI g), x7, x8] [] (mw S I2 J R) (fun f M1 => ∃ r, f = .inl r ∧ (r = some (vI ((evE rd (I kk) (I aa) p n []).headD 0)) ∧ ∃ I1, M1 = mw S I1 J R ∧ OffK a ss I I1)) := by
            intro st2 I2 e2 hk4 hS2 hO2
            subst e2
            have hl2 : st2.tail.length ≤ 400 := by
              have : st2.tail.length ≤ st2.length := by cases st2 <;> simp
              omega
            have hl3 : st2.tail.tail.length < 400 := by
              have : st2.tail.tail.length ≤ st2.length := by cases st2 with
                | nil => simp
                | cons y t => cases t <;> simp; omega
              omega
            refine am_aload_n (q := 180) dX1_reckon_179 rfl rfl ?_
            refine cm_call0 (q := 183) (As := []) hG dX1_reckon_180 mlX1_38 rfl (by assumption) ⟨_, _, rfl⟩ (Nat.le_of_ble_eq_true rfl) (Nat.le_of_ble_eq_true rfl) (Nat.le_of_ble_eq_true rfl) (Nat.le_of_ble_eq_true rfl) (kq_pop h1 h2 h3 h4 hS2 (by omega)) rfl ?_
            rintro _ _ ⟨rfl, I3, rfl, hS3, hO3⟩
            refine am_istore (q := 185) (ls1 := [_, _, _, _, _, _, _, _, _]) dX1_reckon_183 (Nat.le_of_ble_eq_true rfl) rfl rfl ?_
            refine am_aload_n (q := 186) dX1_reckon_185 rfl rfl ?_
            refine cm_call0 (q := 189) (As := []) hG dX1_reckon_186 mlX1_38 rfl (by assumption) ⟨_, _, rfl⟩ (Nat.le_of_ble_eq_true rfl) (Nat.le_of_ble_eq_true rfl) (Nat.le_of_ble_eq_true rfl) (Nat.le_of_ble_eq_true rfl) (kq_pop h1 h2 h3 h4 hS3 hl2) rfl ?_
            rintro _ _ ⟨rfl, I4, rfl, hS4, hO4⟩
            refine am_istore (q := 191) (ls1 := [_, _, _, _, _, _, _, _, _]) dX1_reckon_189 (Nat.le_of_ble_eq_true rfl) rfl rfl ?_
            refine am_aload_n (q := 192) dX1_reckon_191 rfl rfl ?_
            refine am_iload (q := 194) dX1_reckon_192 rfl rfl ?_
            refine am_call1 (q := 197) (As := [_]) hG dX1_reckon_194 mlX1_48 rfl (Nat.le_of_ble_eq_true rfl) (Nat.le_of_ble_eq_true rfl) (Nat.le_of_ble_eq_true rfl) k_X1_isJoining rfl ?_
            rintro _ _ ⟨rfl, rfl⟩
            have hO := (hO2.tr hO3).tr hO4
            refine am_if_eq (tgt := 212) (q := 200) dX1_reckon_197 rfl rfl (fun hj => ?_) (fun hj => ?_)
            · have hj2 := bI_e0.mp hj
              refine am_iload (q := 214) dX1_reckon_212 rfl rfl ?_
              refine am_iload (q := 216) dX1_reckon_214 rfl rfl ?_
              refine am_iload (q := 218) dX1_reckon_216 rfl rfl ?_
              refine am_call1 (q := 221) (As := [_, _, _]) hG dX1_reckon_218 mlX1_56 rfl (Nat.le_of_ble_eq_true rfl) (Nat.le_of_ble_eq_true rfl) (Nat.le_of_ble_eq_true rfl) k_X1_compared rfl ?_
              rintro _ _ ⟨rfl, rfl⟩
              refine cm_call0 (q := 224) (As := [_]) hG dX1_reckon_221 mlX1_34 rfl (by assumption) ⟨_, _, rfl⟩ (Nat.le_of_ble_eq_true rfl) (Nat.le_of_ble_eq_true rfl) (Nat.le_of_ble_eq_true rfl) (Nat.le_of_ble_eq_true rfl) (kq_push h1 h2 h3 h4 hS4 hl3) rfl ?_
              rintro _ _ ⟨rfl, I5, rfl, hS5, hO5⟩
              refine nxt I5 _ _ _ _ ?_ (hO.tr hO5)
              unfold stE
              rw [if_neg hk1, if_neg hk2, if_neg hk3, if_neg hk4, if_neg hj2]
              exact hS5
            · have hj2 := bI_n0.mp hj
              refine am_iload (q := 202) dX1_reckon_200 rfl rfl ?_
              refine am_iload (q := 204) dX1_reckon_202 rfl rfl ?_
              refine am_iload (q := 206) dX1_reckon_204 rfl rfl ?_
              refine am_call1 (q := 209) (As := [_, _, _]) hG dX1_reckon_206 mlX1_52 rfl (Nat.le_of_ble_eq_true rfl) (Nat.le_of_ble_eq_true rfl) (Nat.le_of_ble_eq_true rfl) k_X1_joined rfl ?_
              rintro _ _ ⟨rfl, rfl⟩
              refine am_goto (tgt := 221) dX1_reckon_209 rfl ?_
              refine cm_call0 (q := 224) (As := [_]) hG dX1_reckon_221 mlX1_34 rfl (by assumption) ⟨_, _, rfl⟩ (Nat.le_of_ble_eq_true rfl) (Nat.le_of_ble_eq_true rfl) (Nat.le_of_ble_eq_true rfl) (Nat.le_of_ble_eq_true rfl) (kq_push h1 h2 h3 h4 hS4 hl3) rfl ?_
              rintro _ _ ⟨rfl, I5, rfl, hS5, hO5⟩
              refine nxt I5 _ _ _ _ ?_ (hO.tr hO5)
              unfold stE
              rw [if_neg hk1, if_neg hk2, if_neg hk3, if_neg hk4, if_pos hj2]
              exact hS5
          refine am_iload (q := 150) dX1_reckon_148 rfl rfl ?_
          refine am_sipush (q := 153) (v := 319) dX1_reckon_150 kc_s319 rfl ?_
          refine am_icmp_lt (tgt := 179) (q := 156) dX1_reckon_153 rfl rfl (fun hk4 => ?_) (fun hk4 => ?_)
          · exact joinE st I0 rfl (fun q => Int32.not_le.mpr hk4 q.1) hSK hOff
          · refine am_iload (q := 158) dX1_reckon_156 rfl rfl ?_
            refine am_sipush (q := 161) (v := 326) dX1_reckon_158 kc_s326 rfl ?_
            refine am_icmp_gt (tgt := 179) (q := 164) dX1_reckon_161 rfl rfl (fun hk5 => ?_) (fun hk5 => ?_)
            · exact joinE st I0 rfl (fun q => Int32.not_le.mpr hk5 q.2) hSK hOff
            · have hb := Int32.not_lt.mp hk4
              have hb2 := Int32.not_lt.mp hk5
              refine am_aload_n (q := 165) dX1_reckon_164 rfl rfl ?_
              refine am_aload_n (q := 166) dX1_reckon_165 rfl rfl ?_
              refine am_iload (q := 168) dX1_reckon_166 rfl rfl ?_
              refine am_iload (q := 170) dX1_reckon_168 rfl rfl ?_
              refine cm_call0 (q := 173) (As := [_, _]) hG dX1_reckon_170 mlX1_42 rfl (by assumption) ⟨_, _, rfl⟩ (Nat.le_of_ble_eq_true rfl) (Nat.le_of_ble_eq_true rfl) (Nat.le_of_ble_eq_true rfl) (Nat.le_of_ble_eq_true rfl) (hrd I0 k g hOff hb hb2) rfl ?_
              rintro _ _ ⟨rfl, rfl⟩
              refine cm_call0 (q := 176) (As := [_]) hG dX1_reckon_173 mlX1_34 rfl (by assumption) ⟨_, _, rfl⟩ (Nat.le_of_ble_eq_true rfl) (Nat.le_of_ble_eq_true rfl) (Nat.le_of_ble_eq_true rfl) (Nat.le_of_ble_eq_true rfl) (kq_push h1 h2 h3 h4 hSK (by omega)) rfl ?_
              rintro _ _ ⟨rfl, I5, rfl, hS5, hO5⟩
              refine am_goto (tgt := 224) dX1_reckon_176 rfl ?_
              refine nxt I5 _ _ _ _ ?_ (hOff.tr hO5)
              unfold stE
              rw [if_neg hk1, if_neg hk2, if_neg hk3, if_pos ⟨hb, hb2⟩]
              exact hS5
        · have hl2 : st.tail.length < 400 := by
            have : st.tail.length ≤ st.length := by cases st <;> simp
            omega
          refine am_aload_n (q := 136) dX1_reckon_135 rfl rfl ?_
          refine am_iconst (q := 137) (v := 1) dX1_reckon_136 kc_i1 rfl ?_
          refine am_aload_n (q := 138) dX1_reckon_137 rfl rfl ?_
          refine cm_call0 (q := 141) (As := []) hG dX1_reckon_138 mlX1_38 rfl (by assumption) ⟨_, _, rfl⟩ (Nat.le_of_ble_eq_true rfl) (Nat.le_of_ble_eq_true rfl) (Nat.le_of_ble_eq_true rfl) (Nat.le_of_ble_eq_true rfl) (kq_pop h1 h2 h3 h4 hSK (by omega)) rfl ?_
          rintro _ _ ⟨rfl, I4, rfl, hS4, hO4⟩
          refine am_isub (q := 142) dX1_reckon_141 rfl ?_
          refine cm_call0 (q := 145) (As := [_]) hG dX1_reckon_142 mlX1_34 rfl (by assumption) ⟨_, _, rfl⟩ (Nat.le_of_ble_eq_true rfl) (Nat.le_of_ble_eq_true rfl) (Nat.le_of_ble_eq_true rfl) (Nat.le_of_ble_eq_true rfl) (kq_push h1 h2 h3 h4 hS4 hl2) rfl ?_
          rintro _ _ ⟨rfl, I5, rfl, hS5, hO5⟩
          refine am_goto (tgt := 224) dX1_reckon_145 rfl ?_
          refine nxt I5 _ _ _ _ ?_ ((hOff.tr hO4).tr hO5)
          unfold stE
          rw [if_neg hk1, if_neg hk2, if_pos hk3]
          exact hS5
      · have hl2 : st.tail.length < 400 := by
          have : st.tail.length ≤ st.length := by cases st <;> simp
          omega
        refine am_aload_n (q := 116) dX1_reckon_115 rfl rfl ?_
        refine am_aload_n (q := 117) dX1_reckon_116 rfl rfl ?_
        refine cm_call0 (q := 120) (As := []) hG dX1_reckon_117 mlX1_38 rfl (by assumption) ⟨_, _, rfl⟩ (Nat.le_of_ble_eq_true rfl) (Nat.le_of_ble_eq_true rfl) (Nat.le_of_ble_eq_true rfl) (Nat.le_of_ble_eq_true rfl) (kq_pop h1 h2 h3 h4 hSK (by omega)) rfl ?_
        rintro _ _ ⟨rfl, I4, rfl, hS4, hO4⟩
        refine am_ineg (q := 121) dX1_reckon_120 rfl ?_
        refine cm_call0 (q := 124) (As := [_]) hG dX1_reckon_121 mlX1_34 rfl (by assumption) ⟨_, _, rfl⟩ (Nat.le_of_ble_eq_true rfl) (Nat.le_of_ble_eq_true rfl) (Nat.le_of_ble_eq_true rfl) (Nat.le_of_ble_eq_true rfl) (kq_push h1 h2 h3 h4 hS4 hl2) rfl ?_
        rintro _ _ ⟨rfl, I5, rfl, hS5, hO5⟩
        refine am_goto (tgt := 224) dX1_reckon_124 rfl ?_
        refine nxt I5 _ _ _ _ ?_ ((hOff.tr hO4).tr hO5)
        unfold stE
        rw [if_neg hk1, if_pos hk2]
        exact hS5
    · refine am_aload_n (q := 99) dX1_reckon_98 rfl rfl ?_
      refine am_iload (q := 101) dX1_reckon_99 rfl rfl ?_
      refine cm_call0 (q := 104) (As := [_]) hG dX1_reckon_101 mlX1_34 rfl (by assumption) ⟨_, _, rfl⟩ (Nat.le_of_ble_eq_true rfl) (Nat.le_of_ble_eq_true rfl) (Nat.le_of_ble_eq_true rfl) (Nat.le_of_ble_eq_true rfl) (kq_push h1 h2 h3 h4 hSK (by omega)) rfl ?_
      rintro _ _ ⟨rfl, I5, rfl, hS5, hO5⟩
      refine am_goto (tgt := 224) dX1_reckon_104 rfl ?_
      refine nxt I5 _ _ _ _ ?_ (hOff.tr hO5)
      unfold stE
      rw [if_pos hk1]
      exact hS5
  · rintro ⟨I0, st, x5, x6, x7, x8⟩ ⟨hSK, hlen, hOff, hev⟩
    dsimp only at hSK hlen hOff hev ⊢
    rw [Nat.sub_self] at hev
    refine am_iload (q := 10) dX1_reckon_8 rfl rfl ?_
    refine am_iload_n (q := 11) dX1_reckon_10 rfl rfl ?_
    refine am_icmp_ge (tgt := 230) (q := 14) dX1_reckon_11 rfl rfl (fun _ => ?_) (fun hz => absurd (Int32.le_refl _) hz)
    refine am_aload_n (q := 231) dX1_reckon_230 rfl rfl ?_
    refine cm_call0 (q := 234) (As := []) hG dX1_reckon_231 mlX1_38 rfl (by assumption) ⟨_, _, rfl⟩ (Nat.le_of_ble_eq_true rfl) (Nat.le_of_ble_eq_true rfl) (Nat.le_of_ble_eq_true rfl) (Nat.le_of_ble_eq_true rfl) (kq_pop h1 h2 h3 h4 hSK (by omega)) rfl ?_
    rintro _ _ ⟨rfl, I4, rfl, hS4, hO4⟩
    exact am_iret dX1_reckon_234 rfl rfl ⟨_, rfl, by rw [← hev]; rfl, I4, rfl, hOff.tr hO4⟩
end ReckB

