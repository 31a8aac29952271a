/-! lines of a bill that are as they have to be -/
theorem rn_lt {a b : Nat} (ha : a < 2 ^ 31) (hb : b < 2 ^ 31) : Int64.ofNat a < Int64.ofNat b ↔ a < b := by
  rw [Int64.lt_iff_toInt_lt, Int64.toInt_ofNat_of_lt (by omega), Int64.toInt_ofNat_of_lt (by omega)]
  omega
theorem rn_32 {a : Nat} (ha : a < 2 ^ 31) : (Int64.ofNat a).toInt32 = nI a := by
  rw [← to64 ha, Int32.toInt32_toInt64]
section Ln
variable {T : Toks} {i j k n : Nat} {e : Int32} {L L1 L2 : Cd} {B : BS} {m : MS} {u : Nat} {nr nf np : Nat → Int64} {v w : Int64}
theorem pK_o : pK T (i, 0, e) = T.k i := if_neg (show ¬ (0 : Int32) = 1 by decide)
theorem pV_o : pV T (i, 0, e) = T.v i := if_neg (show ¬ (0 : Int32) = 1 by decide)
theorem pEx_o {c : Int32} (h : T.k i = c) : pEx T c (i, 0, e) = (i + 1, 0, e) := if_pos (pK_o.trans h)
theorem pNew_o (h : T.k i = 258) : pNew T 0 0 (i, 0, e) = (i + 1, 0, e) := by
  unfold pNew pN1
  rw [if_neg (fun q => q.2 rfl), if_neg (fun q => q.2 rfl)]
  exact pEx_o h
theorem pKn_o {r : Nat} (h : T.k i = 258) (hr : r < 2 ^ 31) : pKn T (nI r) (i, 0, e) = (i + 1, 0, e) := by
  unfold pKn
  rw [if_neg (fun q => nI_pos hr q.2)]
  exact pEx_o h
theorem pNum_o {kw lo hi : Int32} (a b : Nat) (hlo : lo = nI a) (hhi : hi = nI b) (h0 : T.k i = kw) (h1 : T.k (i + 1) = 259) (hv : T.v (i + 1) = Int64.ofNat n) (ha : a ≤ n) (hb : n ≤ b) (hb1 : b < 2 ^ 31) : pNum T kw lo hi (i, 0, e) = (i + 2, 0, e) ∧ pW T kw (i, 0, e) = nI n := by
  subst hlo
  subst hhi
  unfold pNum pW
  rw [pEx_o h0, pV_o, hv, to64 (by omega), to64 (by omega), if_neg (fun q => ?_)]
  · exact ⟨pEx_o h1, rn_32 (by omega)⟩
  · rcases q.2 with q | q
    · have := (rn_lt (by omega) (by omega)).mp q
      omega
    · have := (rn_lt (by omega) (by omega)).mp q
      omega
theorem pTo_o {f : Nat} (h0 : T.k i = 307) (h1 : T.k (i + 1) = 259) (hv : T.v (i + 1) = Int64.ofNat n) (ha : f ≤ n) (hb : n ≤ 99) : pTo T (nI f) (i, 0, e) = (i + 2, 0, e) ∧ pW T 307 (i, 0, e) = nI n := by
  unfold pTo pT2 pT1 pW
  rw [pEx_o h0, pV_o, hv, if_neg (fun q => ?_), if_neg (fun q => ?_)]
  · exact ⟨pEx_o h1, rn_32 (by omega)⟩
  · have q2 : Int64.ofNat 99 < Int64.ofNat n := q.2
    have := (rn_lt (by omega) (by omega)).mp q2
    omega
  · have q2 := q.2
    rw [to64 (by omega)] at q2
    have := (rn_lt (by omega) (by omega)).mp q2
    omega
theorem rdLine_P {b : BL} (h : (rdLine T b).P = (i, 0, e)) (hk : T.k i = 59) : rdNext T b = BP (rdLine T b) (i + 1, 0, e) := by
  unfold rdNext
  rw [h, pEx_o hk]
theorem rl_rail {h : H3} (hok : okR h) (k0 : T.k i = 300) (k1 : T.k (i + 1) = 258) (v1 : T.v (i + 1) = v) (k2 : T.k (i + 2) = 301) (k3 : T.k (i + 3) = 259) (v3 : T.v (i + 3) = Int64.ofNat h.1) (k4 : T.k (i + 4) = 302) (k5 : T.k (i + 5) = 259) (v5 : T.v (i + 5) = Int64.ofNat h.2.1) (k6 : T.k (i + 6) = 303) (k7 : T.k (i + 7) = 259) (v7 : T.v (i + 7) = Int64.ofNat h.2.2) (k8 : T.k (i + 8) = 59) (hn : ¬ 4 ≤ B.nR) (hf : ¬ 0 ≤ fndJ nr v 0 B.nR) : rdNext T ((i, 0, e), L, B, m, u, nr, nf, np) = ((i + 9, 0, e), L, BSrail B, MSrail m B.nR (nI h.1) (nI h.2.1) (nI h.2.2), u, up1 nr B.nR v, nf, np) := by
  obtain ⟨o1, o2, o3, o4, o5⟩ := hok
  generalize hb : (((i, 0, e), L, B, m, u, nr, nf, np) : BL) = b
  have bP : BL.P b = (i, 0, e) := by rw [← hb]; rfl
  have bB : BL.B b = B := by rw [← hb]; rfl
  have bn : BL.nr b = nr := by rw [← hb]; rfl
  have e1 : rR1 T b = (i + 1, 0, e) := by
    unfold rR1
    rw [bP]
    exact pEx_o k0
  have e2 : rR2 T b = (i + 2, 0, e) := by
    unfold rR2
    rw [e1, pV_o, v1, bB, bn, bI_f hf, bI_f hn]
    exact pNew_o k1
  obtain ⟨e3, p3⟩ := pNum_o (T := T) (i := i + 2) (e := e) 20 99 (lo := 20) (hi := 99) rfl rfl k2 k3 v3 o1 o2 (by decide)
  have e3 : rR3 T b = (i + 4, 0, e) := by
    unfold rR3
    rw [e2]
    exact e3
  obtain ⟨e4, p4⟩ := pNum_o (T := T) (i := i + 4) (e := e) 1 9 (lo := 1) (hi := 9) rfl rfl k4 k5 v5 o3 o4 (by decide)
  have e4 : rR4 T b = (i + 6, 0, e) := by
    unfold rR4
    rw [e3]
    exact e4
  obtain ⟨e5, p5⟩ := pNum_o (T := T) (i := i + 6) (e := e) 0 20 (lo := 0) (hi := 20) rfl rfl k6 k7 v7 (Nat.zero_le _) o5 (by decide)
  have e5 : rR5 T b = (i + 8, 0, e) := by
    unfold rR5
    rw [e4]
    exact e5
  have el : rdLine T b = ((i + 8, 0, e), L, BSrail B, MSrail m B.nR (nI h.1) (nI h.2.1) (nI h.2.2), u, up1 nr B.nR v, nf, np) := by
    unfold rdLine
    rw [bP, pK_o, if_pos k0]
    unfold rdRail
    rw [e5, if_pos rfl, e2, e3, e4, e1, p3, p4, p5, pV_o, v1, ← hb]
    rfl
  rw [rdLine_P (T := T) (i := i + 8) (e := e) (by rw [el]; rfl) k8, el]
  rfl
theorem rl_fist {h : H3} (hok : okF h) (k0 : T.k i = 309) (k1 : T.k (i + 1) = 258) (v1 : T.v (i + 1) = v) (k2 : T.k (i + 2) = 310) (k3 : T.k (i + 3) = 259) (v3 : T.v (i + 3) = Int64.ofNat h.1) (k4 : T.k (i + 4) = 311) (k5 : T.k (i + 5) = 259) (v5 : T.v (i + 5) = Int64.ofNat h.2.1) (k6 : T.k (i + 6) = 312) (k7 : T.k (i + 7) = 259) (v7 : T.v (i + 7) = Int64.ofNat h.2.2) (k8 : T.k (i + 8) = 59) (hn : ¬ 8 ≤ B.nF) (hf : ¬ 0 ≤ fndJ nf v 0 B.nF) : rdNext T ((i, 0, e), L, B, m, u, nr, nf, np) = ((i + 9, 0, e), L, BSfist B, MSfist m B.nF (nI h.1) (nI h.2.1) (nI h.2.2), u, nr, up1 nf B.nF v, np) := by
  obtain ⟨o1, o2, o3, o4⟩ := hok
  generalize hb : (((i, 0, e), L, B, m, u, nr, nf, np) : BL) = b
  have bP : BL.P b = (i, 0, e) := by rw [← hb]; rfl
  have bB : BL.B b = B := by rw [← hb]; rfl
  have bn : BL.nf b = nf := by rw [← hb]; rfl
  have e1 : rF1 T b = (i + 1, 0, e) := by
    unfold rF1
    rw [bP]
    exact pEx_o k0
  have e2 : rF2 T b = (i + 2, 0, e) := by
    unfold rF2
    rw [e1, pV_o, v1, bB, bn, bI_f hf, bI_f hn]
    exact pNew_o k1
  obtain ⟨e3, p3⟩ := pNum_o (T := T) (i := i + 2) (e := e) 1 60 (lo := 1) (hi := 60) rfl rfl k2 k3 v3 o1 o2 (by decide)
  have e3 : rF3 T b = (i + 4, 0, e) := by
    unfold rF3
    rw [e2]
    exact e3
  obtain ⟨e4, p4⟩ := pNum_o (T := T) (i := i + 4) (e := e) 0 20 (lo := 0) (hi := 20) rfl rfl k4 k5 v5 (Nat.zero_le _) o3 (by decide)
  have e4 : rF4 T b = (i + 6, 0, e) := by
    unfold rF4
    rw [e3]
    exact e4
  obtain ⟨e5, p5⟩ := pNum_o (T := T) (i := i + 6) (e := e) 0 9 (lo := 0) (hi := 9) rfl rfl k6 k7 v7 (Nat.zero_le _) o4 (by decide)
  have e5 : rF5 T b = (i + 8, 0, e) := by
    unfold rF5
    rw [e4]
    exact e5
  have el : rdLine T b = ((i + 8, 0, e), L, BSfist B, MSfist m B.nF (nI h.1) (nI h.2.1) (nI h.2.2), u, nr, up1 nf B.nF v, np) := by
    unfold rdLine
    rw [bP, pK_o, k0, if_neg (by decide), if_neg (by decide), if_pos rfl]
    unfold rdFist
    rw [e5, if_pos rfl, e2, e3, e4, e1, p3, p4, p5, pV_o, v1, ← hb]
    rfl
  rw [rdLine_P (T := T) (i := i + 8) (e := e) (by rw [el]; rfl) k8, el]
  rfl
theorem rl_rust {h : H4} {r : Nat} (hok : okU h) (k0 : T.k i = 304) (k1 : T.k (i + 1) = 305) (k2 : T.k (i + 2) = 258) (v2 : T.v (i + 2) = v) (k3 : T.k (i + 3) = 306) (k4 : T.k (i + 4) = 259) (v4 : T.v (i + 4) = Int64.ofNat h.2.1) (k5 : T.k (i + 5) = 307) (k6 : T.k (i + 6) = 259) (v6 : T.v (i + 6) = Int64.ofNat h.2.2.1) (k7 : T.k (i + 7) = 308) (k8 : T.k (i + 8) = 259) (v8 : T.v (i + 8) = Int64.ofNat h.2.2.2) (k9 : T.k (i + 9) = 59) (hn : ¬ 12 ≤ u) (hr : r < 4) (hf : fndJ nr v 0 B.nR = nI r) : rdNext T ((i, 0, e), L, B, m, u, nr, nf, np) = ((i + 10, 0, e), L, BSrust B r (nI h.2.1) (nI h.2.2.1) (nI h.2.2.2), m, u + 1, nr, nf, np) := by
  obtain ⟨o1, o2, o3, o4⟩ := hok
  generalize hb : (((i, 0, e), L, B, m, u, nr, nf, np) : BL) = b
  have bP : BL.P b = (i, 0, e) := by rw [← hb]; rfl
  have bB : BL.B b = B := by rw [← hb]; rfl
  have bn : BL.nr b = nr := by rw [← hb]; rfl
  have bu : BL.u b = u := by rw [← hb]; rfl
  have e0 : rU0 T b = (i, 0, e) := by
    unfold rU0
    rw [bu, if_neg hn, bP]
  have e1 : rU1 T b = (i + 2, 0, e) := by
    unfold rU1
    rw [e0, pEx_o k0]
    exact pEx_o k1
  have ei : rUi T b = nI r := by
    unfold rUi
    rw [e1, pV_o, v2, bB, bn]
    exact hf
  have e2 : rU2 T b = (i + 3, 0, e) := by
    unfold rU2
    rw [ei, e1]
    exact pKn_o k2 (by omega)
  obtain ⟨e3, p3⟩ := pNum_o (T := T) (i := i + 3) (e := e) 0 99 (lo := 0) (hi := 99) rfl rfl k3 k4 v4 (Nat.zero_le _) (by omega) (by decide)
  have e3 : rU3 T b = (i + 5, 0, e) := by
    unfold rU3
    rw [e2]
    exact e3
  obtain ⟨e4, p4⟩ := pTo_o (T := T) (i := i + 5) (e := e) k5 k6 v6 o2 o3
  have e4 : rU4 T b = (i + 7, 0, e) := by
    unfold rU4
    rw [e3, e2, p3]
    exact e4
  obtain ⟨e5, p5⟩ := pNum_o (T := T) (i := i + 7) (e := e) 0 9 (lo := 0) (hi := 9) rfl rfl k7 k8 v8 (Nat.zero_le _) o4 (by decide)
  have e5 : rU5 T b = (i + 9, 0, e) := by
    unfold rU5
    rw [e4]
    exact e5
  have el : rdLine T b = ((i + 9, 0, e), L, BSrust B r (nI h.2.1) (nI h.2.2.1) (nI h.2.2.2), m, u + 1, nr, nf, np) := by
    unfold rdLine
    rw [bP, pK_o, k0, if_neg (by decide), if_pos rfl]
    unfold rdRust
    rw [e5, if_pos rfl, ei, e2, e3, e4, p3, p4, p5, nI_clamp (by omega), ← hb]
    rfl
  rw [rdLine_P (T := T) (i := i + 9) (e := e) (by rw [el]; rfl) k9, el]
  rfl
theorem rl_prize (k0 : T.k i = 313) (k1 : T.k (i + 1) = 258) (v1 : T.v (i + 1) = v) (k2 : T.k (i + 2) = 314) (hw : eSu T (eVal T (ixB ((i, 0, e), L, B, m, u, nr, nf, np)) 8) ((i + 3, 0, e), L) = ((j, 0, e), L1)) (k3 : T.k j = 315) (k4 : T.k (j + 1) = 259) (v4 : T.v (j + 1) = Int64.ofNat n) (hn : n ≤ 99) (k5 : T.k (j + 2) = 316) (ht : eTs T (eSng T (ixB ((i, 0, e), L, B, m, u, nr, nf, np)) 8) ((j + 3, 0, e), L1) = ((k, 0, e), L2)) (k6 : T.k k = 59) (hP : ¬ 8 ≤ B.nP) (hf : ¬ 0 ≤ fndJ np v 0 B.nP) : rdNext T ((i, 0, e), L, B, m, u, nr, nf, np) = ((k + 1, 0, e), L2, BSprize B (semC L2 L.length L1.length) (semC L2 L1.length L2.length), MSprize m B.nP (nI n), u, nr, nf, up1 np B.nP v) := by
  generalize hb : (((i, 0, e), L, B, m, u, nr, nf, np) : BL) = b at hw ht ⊢
  have bP : BL.P b = (i, 0, e) := by rw [← hb]; rfl
  have bB : BL.B b = B := by rw [← hb]; rfl
  have bn : BL.np b = np := by rw [← hb]; rfl
  have bL : BL.L b = L := by rw [← hb]; rfl
  have e1 : rP1 T b = (i + 1, 0, e) := by
    unfold rP1
    rw [bP]
    exact pEx_o k0
  have e2 : rPn T b = (i + 2, 0, e) := by
    unfold rPn
    rw [e1, pV_o, v1, bB, bn, bI_f hf, bI_f hP]
    exact pNew_o k1
  have e3 : rP2 T b = (i + 3, 0, e) := by
    unfold rP2
    rw [e2]
    exact pEx_o k2
  have ew : rPw T b = ((j, 0, e), L1) := by
    unfold rPw
    rw [e3, bL]
    exact hw
  obtain ⟨e4, p4⟩ := pNum_o (T := T) (i := j) (e := e) 0 99 (lo := 0) (hi := 99) rfl rfl k3 k4 v4 (Nat.zero_le _) hn (by decide)
  have e4 : rP3 T b = (j + 2, 0, e) := by
    unfold rP3
    rw [ew]
    exact e4
  have e5 : rP4 T b = (j + 3, 0, e) := by
    unfold rP4
    rw [e4]
    exact pEx_o k5
  have et : rPt T b = ((k, 0, e), L2) := by
    unfold rPt
    rw [e5, ew]
    exact ht
  have el : rdLine T b = ((k, 0, e), L2, BSprize B (semC L2 L.length L1.length) (semC L2 L1.length L2.length), MSprize m B.nP (nI n), u, nr, nf, up1 np B.nP v) := by
    unfold rdLine
    rw [bP, pK_o, k0, if_neg (by decide), if_neg (by decide), if_neg (by decide), if_pos rfl]
    unfold rdPrize
    rw [et, if_pos rfl, ew, p4, e1, pV_o, v1, ← hb]
    rfl
  rw [rdLine_P (T := T) (i := k) (e := e) (by rw [el]; rfl) k6, el]
  rfl
theorem rl_turn {f r : Nat} (k0 : T.k i = 317) (k1 : T.k (i + 1) = 258) (v1 : T.v (i + 1) = v) (k2 : T.k (i + 2) = 318) (k3 : T.k (i + 3) = 258) (v3 : T.v (i + 3) = w) (hT : ¬ 20 ≤ B.nT) (hf : fndJ nf v 0 B.nF = nI f) (hr : fndJ nr w 0 B.nR = nI r) (f8 : f < 8) (r8 : r < 8) (ht : (T.k (i + 4) = 59 ∧ j = i + 4 ∧ L1 = L) ∨ (T.k (i + 4) = 316 ∧ eTs T (eSng T (ixB ((i, 0, e), L, B, m, u, nr, nf, np)) 8) ((i + 5, 0, e), L) = ((j, 0, e), L1))) (k4 : T.k j = 59) : rdNext T ((i, 0, e), L, B, m, u, nr, nf, np) = ((j + 1, 0, e), L1, BSturn B f r (semT L1 L.length L1.length), MSturn m B.nT, u, nr, nf, np) := by
  generalize hb : (((i, 0, e), L, B, m, u, nr, nf, np) : BL) = b at ht ⊢
  have bP : BL.P b = (i, 0, e) := by rw [← hb]; rfl
  have bB : BL.B b = B := by rw [← hb]; rfl
  have bn : BL.nr b = nr := by rw [← hb]; rfl
  have bf : BL.nf b = nf := by rw [← hb]; rfl
  have bL : BL.L b = L := by rw [← hb]; rfl
  have e0 : rT0 T b = (i, 0, e) := by
    unfold rT0
    rw [bB, if_neg hT, bP]
  have e1 : rT1 T b = (i + 1, 0, e) := by
    unfold rT1
    rw [e0]
    exact pEx_o k0
  have ef : rTf T b = nI f := by
    unfold rTf
    rw [e1, pV_o, v1, bB, bf]
    exact hf
  have e2 : rT2 T b = (i + 2, 0, e) := by
    unfold rT2
    rw [ef, e1]
    exact pKn_o k1 (by omega)
  have e3 : rT3 T b = (i + 3, 0, e) := by
    unfold rT3
    rw [e2]
    exact pEx_o k2
  have er : rTr T b = nI r := by
    unfold rTr
    rw [e3, pV_o, v3, bB, bn]
    exact hr
  have e4 : rT4 T b = (i + 4, 0, e) := by
    unfold rT4
    rw [er, e3]
    exact pKn_o k3 (by omega)
  have et : rTt T b = ((j, 0, e), L1) := by
    unfold rTt
    rw [e4, pK_o, bL]
    rcases ht with ⟨q1, q2, q3⟩ | ⟨q1, q2⟩
    · rw [if_neg (by rw [q1]; decide), q2, q3]
    · rw [if_pos q1, pEx_o q1]
      exact q2
  have el : rdLine T b = ((j, 0, e), L1, BSturn B f r (semT L1 L.length L1.length), MSturn m B.nT, u, nr, nf, np) := by
    unfold rdLine
    rw [bP, pK_o, k0, if_neg (by decide), if_neg (by decide), if_neg (by decide), if_neg (by decide), if_pos rfl]
    unfold rdTurn
    rw [et, if_pos rfl, ef, er, nI_clamp (by omega), nI_clamp (by omega), ← hb]
    rfl
  rw [rdLine_P (T := T) (i := j) (e := e) (by rw [el]; rfl) k4, el]
  rfl
theorem rdLoop_go {q : Nat} {b : BL} (hb : b.P = (i, 0, e)) (hk : T.k i ≠ 256) : rdLoop T (q + 1) b = rdLoop T q (rdNext T b) := by
  rw [rdLoop, hb, pK_o, if_neg (fun z => ?_)]
  rcases z with z | z
  · exact absurd z (show ¬ (0 : Int32) = 1 by decide)
  · exact hk z
theorem rdLoop_end {b : BL} (hb : b.P = (i, 0, e)) (hk : T.k i = 256) : ∀ q, rdLoop T q b = b := by
  intro q
  cases q with
  | zero => rfl
  | succ q => rw [rdLoop, hb, pK_o, if_pos (Or.inr hk)]
end Ln

