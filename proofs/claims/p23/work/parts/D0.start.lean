/-! how the class and the reference stand at the start -/
def XS0 : XS := ((0, fun _ => 0), BS0, MS0, -1)
theorem st_X {K : Nat → Int64} {S : AMem} {I : Nat → Nat → Int32} {J : Nat → Nat → Int64} {R : Nat → Nat → Option Nat} {x : Nat} (hC : XC S R x (x + 8) (x + 66)) (hz : ∀ y j, x + 1 ≤ y → y < x + 125 → I y j = 0) (h5 : I x 5 = -1) (hk : ∀ i, i < 32 → J (x + 7) i = K i) : XW K S x XS0 I J R := by
  have n0 : ∀ {P : Nat → Prop} (i : Nat), i < 0 → P i := fun i hi => absurd hi (Nat.not_lt_zero i)
  refine ⟨x + 8, x + 66, hC, ⟨hz _ _ (by omega) (by omega), Nat.zero_le _, n0⟩, ?_, ?_, fun i hi => Or.inl (hz _ _ (by omega) (by omega)), h5, hk⟩
  · exact ⟨⟨hz _ _ (by omega) (by omega), Nat.zero_le _⟩, ⟨hz _ _ (by omega) (by omega), Nat.zero_le _⟩, ⟨hz _ _ (by omega) (by omega), Nat.zero_le _⟩, ⟨hz _ _ (by omega) (by omega), Nat.zero_le _⟩, n0, n0, 0, hz _ _ (by omega) (by omega), Nat.zero_le _, n0, n0⟩
  · exact ⟨n0, n0, n0, fun j hj => hz _ _ (by omega) (by omega), hz _ _ (by omega) (by omega), n0, n0, hz _ _ (by omega) (by omega), Nat.zero_le _, n0, fun i hi => Or.inl (hz _ _ (by omega) (by omega))⟩
/-! the law's script; locals that are forgotten; the class's calls as the law makes them -/
abbrev mL_law : MD := (yL_law, cL_law, 11, some .boolean)
theorem tb_math : Cond.initialized "java/lang/Math" ∈ TB := tbc1 23 rfl rfl
theorem tb_max1 : Cond.static Lib.Math.max.name ∈ TB := tbc5 140 rfl rfl
theorem tb_max2 : Cond.code Lib.Math.max.name Lib.Math.max.code 2 (some .int) ∈ TB := tbc5 141 rfl rfl
theorem tb_min1 : Cond.static Lib.Math.min.name ∈ TB := tbc5 143 rfl rfl
theorem tb_min2 : Cond.code Lib.Math.min.name Lib.Math.min.code 2 (some .int) ∈ TB := tbc5 144 rfl rfl
def Sc (G : Gp) (b L : Nat) (xs : Nat → Int32) : Prop := ∀ U, G.ST U → va_T .int b L (fun j => .int (xs j)) (fun q => G.base ≤ q) U U.heap
section Lw
variable {G : Gp} {Y : MD} {d pc : Nat} {ls ls1 : List (Option AV)} {st st1 : List AV} {M : AMem} {Q : (Option AV ⊕ Nat) → AMem → Prop}
/-- less may be known of the locals -/
theorem MW.forget (h : ls1.length = ls.length ∧ ∀ (i : Nat) (v : AV), ls1[i]? = some (some v) → ls[i]? = some (some v)) (k : MW G Y d pc ls1 st M Q) : MW G Y d pc ls st M Q := by
  refine MW.step (pc1 := pc) (ls1 := ls1) (st1 := st) (M1 := M) ⟨Nat.le_refl _, Nat.le_refl _, fun p e R s m args below meth c H locs cells slots lsr Q0 hC hW hS hL hcc hss kk => ?_⟩ k
  have := kk H locs lsr hW hS ⟨hL.1, hL.2.1, h.1.trans hL.2.2.1, fun i v hv => hL.2.2.2 i v (h.2 i v hv)⟩
  rw [Nat.sub_self, Nat.sub_self] at this
  exact this
theorem am_tint {t N : Nat} {f : Nat → Value} {i x : Int32} (hd : decode Y.cc pc = .ok (.iaload, 1)) (hT : ∀ U, G.ST U → va_T .int t N f (fun q => G.base ≤ q) U U.heap) (hin : vp_in i N) (hv : f i.toNatClampNeg = .int x) {q : Nat} (hq : pc + 1 = q) (k : MW G Y d q ls (vI x :: st) M Q) : MW G Y d pc ls (vI i :: vR t :: st) M Q := by
  subst hq
  exact MW.step (am_rowS (st1 := vI x :: st) fun hC hS hL kk => va_ti hC.1 hC.2.1 (hT _ hC.2.2.2.2.2.2.2.1.2) hS hin hv hd kk) k
end Lw
section Fq
variable {G : Gp} {S : AMem} {I : Nat → Nat → Int32} {J : Nat → Nat → Int64} {R : Nat → Nat → Option Nat} {x d : Nat} {s : XS} {Y : MD}
/-- a call's end: the answer, and how the class stands -/
def FQ (S : AMem) (x : Nat) (v : AV) (s : XS) : Option AV → AMem → Prop := fun rr M1 => rr = some v ∧ ∃ I1 J1 R1, M1 = mw S I1 J1 R1 ∧ XW kwK S x s I1 J1 R1
theorem kf_of {as : List AV} {v : AV} {s1 : XS} (h : MW G Y d 0 (ent Y.nL as) [] (mw S I J R) (XQ kwK S x I J R (.inr (v, s1)))) : Fn G Y d as (mw S I J R) (FQ S x v s1) := by
  refine MW.weaken h ?_
  rintro f M1 ⟨e, I1, J1, R1, h1, h2, _⟩
  exact ⟨_, e, rfl, I1, J1, R1, h1, h2⟩
theorem XW.kx (h : XW kwK S x s I J R) : S.K x = 12 := by
  obtain ⟨c, o, hC, _⟩ := h
  exact hC.1
theorem kf_feed {p q r u v : Int32} (hG : okG G) (h : XW kwK S x s I J R) (hl : s.E.1 + 20 ≤ 2000) : Fn G mX11_feed 6 [vR x, vI p, vI q, vI r, vI u, vI v] (mw S I J R) (FQ S x (vI (nI (s.E.1 + 20))) (fedE s.E p q r u v, s.B, s.m, s.er)) := by
  have k := k_X11_feed (p := p) (q := q) (r := r) (u := u) (v := v) hG h
  rw [if_pos hl] at k
  exact kf_of k
theorem kf_trim {w : Int32} {n : Nat} (hw : w = nI n) (hG : okG G) (h : XW kwK S x s I J R) (hn : n ≤ s.E.1) (hl : s.E.1 ≤ 2000) : Fn G mX11_trim 6 [vR x, vI w] (mw S I J R) (FQ S x (vI (nI n)) ((n, s.E.2), s.B, s.m, s.er)) := by
  subst hw
  have k := k_X11_trim (n := nI n) hG h
  rw [if_pos ⟨nI_pos' (by omega), nI_le hn (by omega)⟩, nI_clamp (by omega)] at k
  exact kf_of k
theorem kf_count {w : Int32} (hG : okG G) (h : XW kwK S x s I J R) (hw : 0 ≤ w ∧ w ≤ 9) : Fn G mX11_count 6 [vR x, vI w] (mw S I J R) (FQ S x (vI (if w.toNatClampNeg = 9 then nI s.E.1 else tlC s.B s.m w.toNatClampNeg)) s) := by
  have k := k_X11_count (w := w) hG h
  rw [if_pos hw] at k
  exact kf_of k
theorem kf_rail {i w : Int32} (hG : okG G) (h : XW kwK S x s I J R) (hi : 0 ≤ i ∧ i < nI s.B.nR) (hw : 0 ≤ w ∧ w ≤ 4) : Fn G mX11_rail 6 [vR x, vI i, vI w] (mw S I J R) (FQ S x (vI (s.m.rail i.toNatClampNeg w.toNatClampNeg)) s) := by
  have k := k_X11_rail (i := i) (w := w) hG h
  rw [if_pos ⟨hi, hw⟩] at k
  exact kf_of k
theorem kf_fist {i w : Int32} (hG : okG G) (h : XW kwK S x s I J R) (hi : 0 ≤ i ∧ i < nI s.B.nF) (hw : 0 ≤ w ∧ w ≤ 8) : Fn G mX11_fist 6 [vR x, vI i, vI w] (mw S I J R) (FQ S x (vI (tlF s.B s.m i.toNatClampNeg w.toNatClampNeg)) s) := by
  have k := k_X11_fist (i := i) (w := w) hG h
  rw [if_pos ⟨hi, hw⟩] at k
  exact kf_of k
theorem kf_prize {i w : Int32} (hG : okG G) (h : XW kwK S x s I J R) (hi : 0 ≤ i ∧ i < nI s.B.nP) (hw : 0 ≤ w ∧ w ≤ 3) : Fn G mX11_prize 6 [vR x, vI i, vI w] (mw S I J R) (FQ S x (vI (tlP s.B s.m i.toNatClampNeg w.toNatClampNeg)) s) := by
  have k := k_X11_prize (i := i) (w := w) hG h
  rw [if_pos ⟨hi, hw⟩] at k
  exact kf_of k
theorem kf_strike {i k : Int32} (hG : okG G) (h : XW kwK S x s I J R) (hi : 0 ≤ i ∧ i < nI s.B.nF) (hk : 0 ≤ k ∧ k < nI s.B.nR) : Fn G mX11_strike 6 [vR x, vI i, vI k] (mw S I J R) (FQ S x (vI ((hitM s.B s.m i.toNatClampNeg k.toNatClampNeg).g 1)) (s.E, s.B, hitM s.B s.m i.toNatClampNeg k.toNatClampNeg, s.er)) := by
  have k := k_X11_strike (i := i) (k := k) hG h
  rw [if_pos ⟨hi, hk⟩] at k
  exact kf_of k
theorem kf_wind {k v : Int32} (hG : okG G) (h : XW kwK S x s I J R) (hk : 0 ≤ k ∧ k < nI s.B.nR) (hv : 0 ≤ v ∧ v ≤ 20) : Fn G mX11_wind 6 [vR x, vI k, vI v] (mw S I J R) (FQ S x (vI (s.m.rail k.toNatClampNeg 2)) (s.E, s.B, wndM s.m k.toNatClampNeg v, s.er)) := by
  have k := k_X11_wind (k := k) (v := v) hG h
  rw [if_pos hk, if_pos hv] at k
  exact kf_of k
theorem kf_pass (hG : okG G) (h : XW kwK S x s I J R) : Fn G mX11_pass 7 [vR x, vI 2] (mw S I J R) (FQ S x (vI (gvnM s.B (plyM s.B 2 s.m) - gvnM s.B s.m)) (s.E, s.B, plyM s.B 2 s.m, s.er)) := by
  have k := k_X11_pass (n := 2) hG h
  rw [if_pos (by decide), show (2 : Int32).toNatClampNeg = 2 by decide] at k
  exact kf_of k
theorem kf_needs {i k : Int32} (hG : okG G) (h : XW kwK S x s I J R) (hi : 0 ≤ i ∧ i < nI s.B.nF) (hk : 0 ≤ k ∧ k < nI s.B.nR) : Fn G mX11_needs 6 [vR x, vI i, vI k] (mw S I J R) (FQ S x (vI (ndsM s.B s.m i.toNatClampNeg k.toNatClampNeg 1 99)) s) := by
  have k := k_X11_needs (i := i) (k := k) hG h
  rw [if_pos ⟨hi, hk⟩] at k
  exact kf_of k
theorem kf_digest (hG : okG G) (h : XW kwK S x s I J R) : Fn G mX11_digest 6 [vR x] (mw S I J R) (FQ S x (vJ (digM s.B s.m (dgC s.E s.B s.m 10 761))) s) := kf_of (k_X11_digest hG h)
theorem kf_foresee (hG : okG G) (h : XW kwK S x s I J R) : Fn G mX11_foresee 7 [vR x, vI 2, vI 1] (mw S I J R) (FQ S x (vI (pursM s.B (plyM s.B 2 s.m))) s) := by
  have k := k_X11_foresee (n := 2) (w := 1) hG h
  rw [if_pos (by decide), if_pos (by decide), show (2 : Int32).toNatClampNeg = 2 by decide, show fseM s.B s.m (plyM s.B 2 s.m) 1 = pursM s.B (plyM s.B 2 s.m) from rfl] at k
  exact kf_of k
theorem kf_teach {Z : StA} (hG : okG G) (hZ : KS G Z) (h : XW kwK S x s I J R) : Fn G mX11_teach 50 [vR x] (mw S I J R) (FQ S x (vI (rdB kwK s.E).P.2.1) (tchS kwK s)) := kf_of (k_X11_teach hG (fun _ _ _ _ => k_X9_isSymbol hG hZ) h)
end Fq

