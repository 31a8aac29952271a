/-! sums and tests that are as they have to be; what the law's bill tells (written by mkD6.py) -/
section Sm
variable {T : Toks} {i j k n : Nat} {e : Int32} {L L1 L2 : Cd} {ix : Int32 → Int64 → Int32} {V : PS × Cd → PS × Cd} {s : PS × Cd} {c v : Int32}
theorem adC_o {x : Int32 × Int32} (h : L.length < 400) : adC L x = L ++ [x] := if_pos h
theorem ePl_o (hc : T.k i = c) (hv : (T.v i).toInt32 = v) : ePl T c ((i, 0, e), L) = ((i + 1, 0, e), adC L (c, v)) := by
  show (pEx T c (i, 0, e), adC L (c, (pV T (i, 0, e)).toInt32)) = _
  rw [pEx_o hc, pV_o, hv]
theorem ev_pl (hc : T.k i = c) (h : c = 259 ∨ c = 319 ∨ c = 320) (hv : (T.v i).toInt32 = v) : eVal T ix 8 ((i, 0, e), L) = ((i + 1, 0, e), adC L (c, v)) := by
  show eValF T ix (eVal T ix 7) (7 - 7) ((i, 0, e), L) = _
  have pk : pK T ((i, 0, e), L).1 = c := pK_o.trans hc
  unfold eValF
  rw [pk]
  rcases h with rfl | rfl | rfl
  · rw [if_neg (by decide), if_neg (by decide), if_pos (by decide)]
    exact ePl_o hc hv
  · rw [if_neg (by decide), if_neg (by decide), if_pos (by decide)]
    exact ePl_o hc hv
  · rw [if_neg (by decide), if_neg (by decide), if_pos (by decide)]
    exact ePl_o hc hv
theorem ev_nm {f : Nat} {w : Int64} (hc : T.k i = 323) (h1 : T.k (i + 1) = 258) (hw : T.v (i + 1) = w) (hx : ix 323 w = nI f) (hf : f < 8) : eVal T ix 8 ((i, 0, e), L) = ((i + 2, 0, e), adC L (323, nI f)) := by
  show eValF T ix (eVal T ix 7) (7 - 7) ((i, 0, e), L) = _
  have pk : pK T ((i, 0, e), L).1 = 323 := pK_o.trans hc
  unfold eValF
  rw [pk, if_neg (by decide), if_neg (by decide), if_neg (by decide), if_pos (by decide)]
  have e1 : pEx T 323 ((i, 0, e), L).1 = (i + 1, 0, e) := pEx_o hc
  unfold eNm
  rw [e1, pV_o, hw, hx, pKn_o h1 (by omega)]
  rfl
theorem eLoop_no {p : PS × Cd → PS × Cd} {a b : Int32} (h : pK T s.1 ≠ a ∧ pK T s.1 ≠ b) : ∀ q, eLoop T p a b q s = s := by
  intro q
  cases q with
  | zero => rfl
  | succ q =>
    rw [eLoop, if_neg]
    rintro (z | z)
    · exact h.1 z
    · exact h.2 z
theorem eSu_o (h : V s = ((j, 0, e), L1)) (hk : T.k j = c) (hn : c ≠ 42 ∧ c ≠ 47 ∧ c ≠ 43 ∧ c ≠ 45) : eSu T V s = ((j, 0, e), L1) := by
  have pk : pK T ((j, 0, e), L1).1 = c := pK_o.trans hk
  have e1 : eProd T V s = ((j, 0, e), L1) := by
    unfold eProd
    rw [h]
    exact eLoop_no (by rw [pk]; exact ⟨hn.1, hn.2.1⟩) 400
  show eLoop T (eProd T V) 43 45 400 (eProd T V s) = _
  rw [e1]
  exact eLoop_no (by rw [pk]; exact ⟨hn.2.2.1, hn.2.2.2⟩) 400
theorem eCmp_o (h1 : V s = ((j, 0, e), L1)) (hc : T.k j = c) (h : c = 60 ∨ c = 62 ∨ c = 61) (h2 : V ((j + 1, 0, e), L1) = ((k, 0, e), L2)) : eCmp T V s = ((k, 0, e), adC L2 (c, 0)) := by
  have pk : pK T ((j, 0, e), L1).1 = c := pK_o.trans hc
  have e1 : eCs T ((j, 0, e), L1) = ((j + 1, 0, e), L1) := by
    unfold eCs
    rw [pk, if_pos (by rcases h with h | h | h <;> simp [h])]
    show (pEx T c (j, 0, e), L1) = _
    rw [pEx_o hc]
  unfold eCmp
  rw [h1, e1, h2, pk]
  rfl
theorem eSng_c (hc : T.k i = c) (h : c ≠ 91 ∧ c ≠ 326 ∧ c ≠ 327) : eSng T ix 8 ((i, 0, e), L) = eCmp T (eSu T (eVal T ix 8)) ((i, 0, e), L) := by
  have pk : pK T ((i, 0, e), L).1 = c := pK_o.trans hc
  show eSngF T (eSng T ix 7) (eTs T (eSng T ix 7)) (eCmp T (eSu T (eVal T ix 8))) (7 - 7) ((i, 0, e), L) = _
  unfold eSngF
  rw [pk, if_neg h.1, if_neg h.2.1, if_neg h.2.2]
theorem eSng_r (hc : T.k i = 326) (hv : (T.v i).toInt32 = v) : eSng T ix 8 ((i, 0, e), L) = ((i + 1, 0, e), adC L (326, v)) := by
  have pk : pK T ((i, 0, e), L).1 = 326 := pK_o.trans hc
  show eSngF T (eSng T ix 7) (eTs T (eSng T ix 7)) (eCmp T (eSu T (eVal T ix 8))) (7 - 7) ((i, 0, e), L) = _
  unfold eSngF
  rw [pk, if_neg (by decide), if_pos rfl]
  exact ePl_o hc hv
theorem ixB_f {b : BL} {w : Int64} : ixB b 323 w = fndJ (BL.nf b) w 0 (BS.nF (BL.B b)) := by
  unfold ixB
  rw [if_neg (by decide), if_neg (by decide)]
theorem eTs_o (h : V s = ((j, 0, e), L1)) (hk : T.k j = c) (hn : c ≠ 328 ∧ c ≠ 329) : eTs T V s = ((j, 0, e), L1) := by
  have pk : pK T ((j, 0, e), L1).1 = c := pK_o.trans hk
  have e1 : eBoth T V s = ((j, 0, e), L1) := by
    unfold eBoth
    rw [h]
    exact eLoop_no (by rw [pk]; exact ⟨hn.1, hn.1⟩) 400
  show eLoop T (eBoth T V) 329 329 400 (eBoth T V s) = _
  rw [e1]
  exact eLoop_no (by rw [pk]; exact ⟨hn.2, hn.2⟩) 400
theorem eTs_2 (h : V s = ((j, 0, e), L1)) (hj : T.k j = 328) (h2 : V ((j + 1, 0, e), L1) = ((k, 0, e), L2)) (hk : T.k k = c) (hn : c ≠ 328 ∧ c ≠ 329) : eTs T V s = ((k, 0, e), adC L2 (328, 0)) := by
  have pj : pK T ((j, 0, e), L1).1 = 328 := pK_o.trans hj
  have pk : pK T (eAd 328 0 ((k, 0, e), L2)).1 = c := pK_o.trans hk
  have e1 : eBoth T V s = ((k, 0, e), adC L2 (328, 0)) := by
    unfold eBoth
    rw [h]
    show eLoop T V 328 328 (399 + 1) ((j, 0, e), L1) = _
    have e2 : eEx T 328 ((j, 0, e), L1) = ((j + 1, 0, e), L1) := by
      show (pEx T 328 (j, 0, e), L1) = _
      rw [pEx_o hj]
    rw [eLoop, pj, if_pos (Or.inl rfl), e2, h2]
    exact eLoop_no (by rw [pk]; exact ⟨hn.1, hn.1⟩) 399
  have pk2 : pK T ((k, 0, e), adC L2 (328, 0)).1 = c := pk
  show eLoop T (eBoth T V) 329 329 400 (eBoth T V s) = _
  rw [e1]
  exact eLoop_no (by rw [pk2]; exact ⟨hn.2, hn.2⟩) 400
end Sm
def ruU (h : H4) : Nat := if h.1 = 5 then 0 else 1
section Bi
variable {r0 r1 : H3} {u0 u1 u2 : H4} {f0 f1 : H3} {T : Toks}
/-- what the law's tokens are -/
abbrev tokK (T : Toks) (r0 r1 : H3) (u0 u1 u2 : H4) (f0 f1 : H3) : Prop := (∀ i, i < 110 → T.k i = (((allI r0 r1 u0 u1 u2 f0 f1).map It.kv).getD i (0, 0)).1 ∧ T.v i = (((allI r0 r1 u0 u1 u2 f0 f1).map It.kv).getD i (0, 0)).2) ∧ T.k 110 = 256
theorem bl_0 : bl0 = ((0, 0, -1), [], BS0, MS0, 0, (fun _ => 0), (fun _ => 0), (fun _ => 0)) := rfl
theorem bl_1 (hr : okR r0 ∧ okR r1) (hu : okU u0 ∧ okU u1 ∧ okU u2) (hf : okF f0 ∧ okF f1) (h : tokK T r0 r1 u0 u1 u2 f0 f1) : rdNext T ((0, 0, -1), [], BS0, MS0, 0, (fun _ => 0), (fun _ => 0), (fun _ => 0)) = ((9, 0, -1), [], (BSrail BS0), (MSrail MS0 0 (nI r0.1) (nI r0.2.1) (nI r0.2.2)), 0, (up1 (fun _ => 0) 0 1), (fun _ => 0), (fun _ => 0)) := by
  have k0 : T.k 0 = 300 := (h.1 0 (by decide)).1
  have k1 : T.k 1 = 258 := (h.1 1 (by decide)).1
  have v1 : T.v 1 = 1 := (h.1 1 (by decide)).2
  have k2 : T.k 2 = 301 := (h.1 2 (by decide)).1
  have k3 : T.k 3 = 259 := (h.1 3 (by decide)).1
  have v3 : T.v 3 = Int64.ofNat r0.1 := (h.1 3 (by decide)).2
  have k4 : T.k 4 = 302 := (h.1 4 (by decide)).1
  have k5 : T.k 5 = 259 := (h.1 5 (by decide)).1
  have v5 : T.v 5 = Int64.ofNat r0.2.1 := (h.1 5 (by decide)).2
  have k6 : T.k 6 = 303 := (h.1 6 (by decide)).1
  have k7 : T.k 7 = 259 := (h.1 7 (by decide)).1
  have v7 : T.v 7 = Int64.ofNat r0.2.2 := (h.1 7 (by decide)).2
  have k8 : T.k 8 = 59 := (h.1 8 (by decide)).1
  exact rl_rail (i := 0) hr.1 k0 k1 v1 k2 k3 v3 k4 k5 v5 k6 k7 v7 k8 (show ¬ 4 ≤ 0 by decide) (show ¬ 0 ≤ fndJ (fun _ => 0) 1 0 0 by decide)
theorem bl_2 (hr : okR r0 ∧ okR r1) (hu : okU u0 ∧ okU u1 ∧ okU u2) (hf : okF f0 ∧ okF f1) (h : tokK T r0 r1 u0 u1 u2 f0 f1) : rdNext T ((9, 0, -1), [], (BSrail BS0), (MSrail MS0 0 (nI r0.1) (nI r0.2.1) (nI r0.2.2)), 0, (up1 (fun _ => 0) 0 1), (fun _ => 0), (fun _ => 0)) = ((18, 0, -1), [], (BSrail (BSrail BS0)), (MSrail (MSrail MS0 0 (nI r0.1) (nI r0.2.1) (nI r0.2.2)) 1 (nI r1.1) (nI r1.2.1) (nI r1.2.2)), 0, (up1 (up1 (fun _ => 0) 0 1) 1 2), (fun _ => 0), (fun _ => 0)) := by
  have k9 : T.k 9 = 300 := (h.1 9 (by decide)).1
  have k10 : T.k 10 = 258 := (h.1 10 (by decide)).1
  have v10 : T.v 10 = 2 := (h.1 10 (by decide)).2
  have k11 : T.k 11 = 301 := (h.1 11 (by decide)).1
  have k12 : T.k 12 = 259 := (h.1 12 (by decide)).1
  have v12 : T.v 12 = Int64.ofNat r1.1 := (h.1 12 (by decide)).2
  have k13 : T.k 13 = 302 := (h.1 13 (by decide)).1
  have k14 : T.k 14 = 259 := (h.1 14 (by decide)).1
  have v14 : T.v 14 = Int64.ofNat r1.2.1 := (h.1 14 (by decide)).2
  have k15 : T.k 15 = 303 := (h.1 15 (by decide)).1
  have k16 : T.k 16 = 259 := (h.1 16 (by decide)).1
  have v16 : T.v 16 = Int64.ofNat r1.2.2 := (h.1 16 (by decide)).2
  have k17 : T.k 17 = 59 := (h.1 17 (by decide)).1
  exact rl_rail (i := 9) hr.2 k9 k10 v10 k11 k12 v12 k13 k14 v14 k15 k16 v16 k17 (show ¬ 4 ≤ 1 by decide) (show ¬ 0 ≤ fndJ (up1 (fun _ => 0) 0 1) 2 0 1 by decide)
theorem ru_ix (h : H4) : fndJ (up1 (up1 (fun _ => 0) 0 1) 1 2) (nmV h) 0 2 = nI (ruU h) := by
  unfold nmV ruU
  by_cases c : h.1 = 5
  · rw [if_pos c, if_pos c]
    decide
  · rw [if_neg c, if_neg c]
    decide
theorem ru_4 (h : H4) : ruU h < 2 := by
  unfold ruU
  split <;> decide
theorem bl_3 (hr : okR r0 ∧ okR r1) (hu : okU u0 ∧ okU u1 ∧ okU u2) (hf : okF f0 ∧ okF f1) (h : tokK T r0 r1 u0 u1 u2 f0 f1) : rdNext T ((18, 0, -1), [], (BSrail (BSrail BS0)), (MSrail (MSrail MS0 0 (nI r0.1) (nI r0.2.1) (nI r0.2.2)) 1 (nI r1.1) (nI r1.2.1) (nI r1.2.2)), 0, (up1 (up1 (fun _ => 0) 0 1) 1 2), (fun _ => 0), (fun _ => 0)) = ((28, 0, -1), [], (BSrust (BSrail (BSrail BS0)) (ruU u0) (nI u0.2.1) (nI u0.2.2.1) (nI u0.2.2.2)), (MSrail (MSrail MS0 0 (nI r0.1) (nI r0.2.1) (nI r0.2.2)) 1 (nI r1.1) (nI r1.2.1) (nI r1.2.2)), 1, (up1 (up1 (fun _ => 0) 0 1) 1 2), (fun _ => 0), (fun _ => 0)) := by
  have k18 : T.k 18 = 304 := (h.1 18 (by decide)).1
  have k19 : T.k 19 = 305 := (h.1 19 (by decide)).1
  have k20 : T.k 20 = 258 := (h.1 20 (by decide)).1
  have v20 : T.v 20 = nmV u0 := (h.1 20 (by decide)).2
  have k21 : T.k 21 = 306 := (h.1 21 (by decide)).1
  have k22 : T.k 22 = 259 := (h.1 22 (by decide)).1
  have v22 : T.v 22 = Int64.ofNat u0.2.1 := (h.1 22 (by decide)).2
  have k23 : T.k 23 = 307 := (h.1 23 (by decide)).1
  have k24 : T.k 24 = 259 := (h.1 24 (by decide)).1
  have v24 : T.v 24 = Int64.ofNat u0.2.2.1 := (h.1 24 (by decide)).2
  have k25 : T.k 25 = 308 := (h.1 25 (by decide)).1
  have k26 : T.k 26 = 259 := (h.1 26 (by decide)).1
  have v26 : T.v 26 = Int64.ofNat u0.2.2.2 := (h.1 26 (by decide)).2
  have k27 : T.k 27 = 59 := (h.1 27 (by decide)).1
  exact rl_rust (i := 18) hu.1 k18 k19 k20 v20 k21 k22 v22 k23 k24 v24 k25 k26 v26 k27 (by decide) (by have := ru_4 u0; omega) (ru_ix u0)
theorem bl_4 (hr : okR r0 ∧ okR r1) (hu : okU u0 ∧ okU u1 ∧ okU u2) (hf : okF f0 ∧ okF f1) (h : tokK T r0 r1 u0 u1 u2 f0 f1) : rdNext T ((28, 0, -1), [], (BSrust (BSrail (BSrail BS0)) (ruU u0) (nI u0.2.1) (nI u0.2.2.1) (nI u0.2.2.2)), (MSrail (MSrail MS0 0 (nI r0.1) (nI r0.2.1) (nI r0.2.2)) 1 (nI r1.1) (nI r1.2.1) (nI r1.2.2)), 1, (up1 (up1 (fun _ => 0) 0 1) 1 2), (fun _ => 0), (fun _ => 0)) = ((38, 0, -1), [], (BSrust (BSrust (BSrail (BSrail BS0)) (ruU u0) (nI u0.2.1) (nI u0.2.2.1) (nI u0.2.2.2)) (ruU u1) (nI u1.2.1) (nI u1.2.2.1) (nI u1.2.2.2)), (MSrail (MSrail MS0 0 (nI r0.1) (nI r0.2.1) (nI r0.2.2)) 1 (nI r1.1) (nI r1.2.1) (nI r1.2.2)), 2, (up1 (up1 (fun _ => 0) 0 1) 1 2), (fun _ => 0), (fun _ => 0)) := by
  have k28 : T.k 28 = 304 := (h.1 28 (by decide)).1
  have k29 : T.k 29 = 305 := (h.1 29 (by decide)).1
  have k30 : T.k 30 = 258 := (h.1 30 (by decide)).1
  have v30 : T.v 30 = nmV u1 := (h.1 30 (by decide)).2
  have k31 : T.k 31 = 306 := (h.1 31 (by decide)).1
  have k32 : T.k 32 = 259 := (h.1 32 (by decide)).1
  have v32 : T.v 32 = Int64.ofNat u1.2.1 := (h.1 32 (by decide)).2
  have k33 : T.k 33 = 307 := (h.1 33 (by decide)).1
  have k34 : T.k 34 = 259 := (h.1 34 (by decide)).1
  have v34 : T.v 34 = Int64.ofNat u1.2.2.1 := (h.1 34 (by decide)).2
  have k35 : T.k 35 = 308 := (h.1 35 (by decide)).1
  have k36 : T.k 36 = 259 := (h.1 36 (by decide)).1
  have v36 : T.v 36 = Int64.ofNat u1.2.2.2 := (h.1 36 (by decide)).2
  have k37 : T.k 37 = 59 := (h.1 37 (by decide)).1
  exact rl_rust (i := 28) hu.2.1 k28 k29 k30 v30 k31 k32 v32 k33 k34 v34 k35 k36 v36 k37 (by decide) (by have := ru_4 u1; omega) (ru_ix u1)
theorem bl_5 (hr : okR r0 ∧ okR r1) (hu : okU u0 ∧ okU u1 ∧ okU u2) (hf : okF f0 ∧ okF f1) (h : tokK T r0 r1 u0 u1 u2 f0 f1) : rdNext T ((38, 0, -1), [], (BSrust (BSrust (BSrail (BSrail BS0)) (ruU u0) (nI u0.2.1) (nI u0.2.2.1) (nI u0.2.2.2)) (ruU u1) (nI u1.2.1) (nI u1.2.2.1) (nI u1.2.2.2)), (MSrail (MSrail MS0 0 (nI r0.1) (nI r0.2.1) (nI r0.2.2)) 1 (nI r1.1) (nI r1.2.1) (nI r1.2.2)), 2, (up1 (up1 (fun _ => 0) 0 1) 1 2), (fun _ => 0), (fun _ => 0)) = ((48, 0, -1), [], (BSrust (BSrust (BSrust (BSrail (BSrail BS0)) (ruU u0) (nI u0.2.1) (nI u0.2.2.1) (nI u0.2.2.2)) (ruU u1) (nI u1.2.1) (nI u1.2.2.1) (nI u1.2.2.2)) (ruU u2) (nI u2.2.1) (nI u2.2.2.1) (nI u2.2.2.2)), (MSrail (MSrail MS0 0 (nI r0.1) (nI r0.2.1) (nI r0.2.2)) 1 (nI r1.1) (nI r1.2.1) (nI r1.2.2)), 3, (up1 (up1 (fun _ => 0) 0 1) 1 2), (fun _ => 0), (fun _ => 0)) := by
  have k38 : T.k 38 = 304 := (h.1 38 (by decide)).1
  have k39 : T.k 39 = 305 := (h.1 39 (by decide)).1
  have k40 : T.k 40 = 258 := (h.1 40 (by decide)).1
  have v40 : T.v 40 = nmV u2 := (h.1 40 (by decide)).2
  have k41 : T.k 41 = 306 := (h.1 41 (by decide)).1
  have k42 : T.k 42 = 259 := (h.1 42 (by decide)).1
  have v42 : T.v 42 = Int64.ofNat u2.2.1 := (h.1 42 (by decide)).2
  have k43 : T.k 43 = 307 := (h.1 43 (by decide)).1
  have k44 : T.k 44 = 259 := (h.1 44 (by decide)).1
  have v44 : T.v 44 = Int64.ofNat u2.2.2.1 := (h.1 44 (by decide)).2
  have k45 : T.k 45 = 308 := (h.1 45 (by decide)).1
  have k46 : T.k 46 = 259 := (h.1 46 (by decide)).1
  have v46 : T.v 46 = Int64.ofNat u2.2.2.2 := (h.1 46 (by decide)).2
  have k47 : T.k 47 = 59 := (h.1 47 (by decide)).1
  exact rl_rust (i := 38) hu.2.2 k38 k39 k40 v40 k41 k42 v42 k43 k44 v44 k45 k46 v46 k47 (by decide) (by have := ru_4 u2; omega) (ru_ix u2)
theorem bl_6 (hr : okR r0 ∧ okR r1) (hu : okU u0 ∧ okU u1 ∧ okU u2) (hf : okF f0 ∧ okF f1) (h : tokK T r0 r1 u0 u1 u2 f0 f1) : rdNext T ((48, 0, -1), [], (BSrust (BSrust (BSrust (BSrail (BSrail BS0)) (ruU u0) (nI u0.2.1) (nI u0.2.2.1) (nI u0.2.2.2)) (ruU u1) (nI u1.2.1) (nI u1.2.2.1) (nI u1.2.2.2)) (ruU u2) (nI u2.2.1) (nI u2.2.2.1) (nI u2.2.2.2)), (MSrail (MSrail MS0 0 (nI r0.1) (nI r0.2.1) (nI r0.2.2)) 1 (nI r1.1) (nI r1.2.1) (nI r1.2.2)), 3, (up1 (up1 (fun _ => 0) 0 1) 1 2), (fun _ => 0), (fun _ => 0)) = ((57, 0, -1), [], (BSfist (BSrust (BSrust (BSrust (BSrail (BSrail BS0)) (ruU u0) (nI u0.2.1) (nI u0.2.2.1) (nI u0.2.2.2)) (ruU u1) (nI u1.2.1) (nI u1.2.2.1) (nI u1.2.2.2)) (ruU u2) (nI u2.2.1) (nI u2.2.2.1) (nI u2.2.2.2))), (MSfist (MSrail (MSrail MS0 0 (nI r0.1) (nI r0.2.1) (nI r0.2.2)) 1 (nI r1.1) (nI r1.2.1) (nI r1.2.2)) 0 (nI f0.1) (nI f0.2.1) (nI f0.2.2)), 3, (up1 (up1 (fun _ => 0) 0 1) 1 2), (up1 (fun _ => 0) 0 6), (fun _ => 0)) := by
  have k48 : T.k 48 = 309 := (h.1 48 (by decide)).1
  have k49 : T.k 49 = 258 := (h.1 49 (by decide)).1
  have v49 : T.v 49 = 6 := (h.1 49 (by decide)).2
  have k50 : T.k 50 = 310 := (h.1 50 (by decide)).1
  have k51 : T.k 51 = 259 := (h.1 51 (by decide)).1
  have v51 : T.v 51 = Int64.ofNat f0.1 := (h.1 51 (by decide)).2
  have k52 : T.k 52 = 311 := (h.1 52 (by decide)).1
  have k53 : T.k 53 = 259 := (h.1 53 (by decide)).1
  have v53 : T.v 53 = Int64.ofNat f0.2.1 := (h.1 53 (by decide)).2
  have k54 : T.k 54 = 312 := (h.1 54 (by decide)).1
  have k55 : T.k 55 = 259 := (h.1 55 (by decide)).1
  have v55 : T.v 55 = Int64.ofNat f0.2.2 := (h.1 55 (by decide)).2
  have k56 : T.k 56 = 59 := (h.1 56 (by decide)).1
  exact rl_fist (i := 48) hf.1 k48 k49 v49 k50 k51 v51 k52 k53 v53 k54 k55 v55 k56 (show ¬ 8 ≤ 0 by decide) (show ¬ 0 ≤ fndJ (fun _ => 0) 6 0 0 by decide)
theorem bl_7 (hr : okR r0 ∧ okR r1) (hu : okU u0 ∧ okU u1 ∧ okU u2) (hf : okF f0 ∧ okF f1) (h : tokK T r0 r1 u0 u1 u2 f0 f1) : rdNext T ((57, 0, -1), [], (BSfist (BSrust (BSrust (BSrust (BSrail (BSrail BS0)) (ruU u0) (nI u0.2.1) (nI u0.2.2.1) (nI u0.2.2.2)) (ruU u1) (nI u1.2.1) (nI u1.2.2.1) (nI u1.2.2.2)) (ruU u2) (nI u2.2.1) (nI u2.2.2.1) (nI u2.2.2.2))), (MSfist (MSrail (MSrail MS0 0 (nI r0.1) (nI r0.2.1) (nI r0.2.2)) 1 (nI r1.1) (nI r1.2.1) (nI r1.2.2)) 0 (nI f0.1) (nI f0.2.1) (nI f0.2.2)), 3, (up1 (up1 (fun _ => 0) 0 1) 1 2), (up1 (fun _ => 0) 0 6), (fun _ => 0)) = ((66, 0, -1), [], (BSfist (BSfist (BSrust (BSrust (BSrust (BSrail (BSrail BS0)) (ruU u0) (nI u0.2.1) (nI u0.2.2.1) (nI u0.2.2.2)) (ruU u1) (nI u1.2.1) (nI u1.2.2.1) (nI u1.2.2.2)) (ruU u2) (nI u2.2.1) (nI u2.2.2.1) (nI u2.2.2.2)))), (MSfist (MSfist (MSrail (MSrail MS0 0 (nI r0.1) (nI r0.2.1) (nI r0.2.2)) 1 (nI r1.1) (nI r1.2.1) (nI r1.2.2)) 0 (nI f0.1) (nI f0.2.1) (nI f0.2.2)) 1 (nI f1.1) (nI f1.2.1) (nI f1.2.2)), 3, (up1 (up1 (fun _ => 0) 0 1) 1 2), (up1 (up1 (fun _ => 0) 0 6) 1 7), (fun _ => 0)) := by
  have k57 : T.k 57 = 309 := (h.1 57 (by decide)).1
  have k58 : T.k 58 = 258 := (h.1 58 (by decide)).1
  have v58 : T.v 58 = 7 := (h.1 58 (by decide)).2
  have k59 : T.k 59 = 310 := (h.1 59 (by decide)).1
  have k60 : T.k 60 = 259 := (h.1 60 (by decide)).1
  have v60 : T.v 60 = Int64.ofNat f1.1 := (h.1 60 (by decide)).2
  have k61 : T.k 61 = 311 := (h.1 61 (by decide)).1
  have k62 : T.k 62 = 259 := (h.1 62 (by decide)).1
  have v62 : T.v 62 = Int64.ofNat f1.2.1 := (h.1 62 (by decide)).2
  have k63 : T.k 63 = 312 := (h.1 63 (by decide)).1
  have k64 : T.k 64 = 259 := (h.1 64 (by decide)).1
  have v64 : T.v 64 = Int64.ofNat f1.2.2 := (h.1 64 (by decide)).2
  have k65 : T.k 65 = 59 := (h.1 65 (by decide)).1
  exact rl_fist (i := 57) hf.2 k57 k58 v58 k59 k60 v60 k61 k62 v62 k63 k64 v64 k65 (show ¬ 8 ≤ 1 by decide) (show ¬ 0 ≤ fndJ (up1 (fun _ => 0) 0 6) 7 0 1 by decide)
theorem bl_8 (hr : okR r0 ∧ okR r1) (hu : okU u0 ∧ okU u1 ∧ okU u2) (hf : okF f0 ∧ okF f1) (h : tokK T r0 r1 u0 u1 u2 f0 f1) : rdNext T ((66, 0, -1), [], (BSfist (BSfist (BSrust (BSrust (BSrust (BSrail (BSrail BS0)) (ruU u0) (nI u0.2.1) (nI u0.2.2.1) (nI u0.2.2.2)) (ruU u1) (nI u1.2.1) (nI u1.2.2.1) (nI u1.2.2.2)) (ruU u2) (nI u2.2.1) (nI u2.2.2.1) (nI u2.2.2.2)))), (MSfist (MSfist (MSrail (MSrail MS0 0 (nI r0.1) (nI r0.2.1) (nI r0.2.2)) 1 (nI r1.1) (nI r1.2.1) (nI r1.2.2)) 0 (nI f0.1) (nI f0.2.1) (nI f0.2.2)) 1 (nI f1.1) (nI f1.2.1) (nI f1.2.2)), 3, (up1 (up1 (fun _ => 0) 0 1) 1 2), (up1 (up1 (fun _ => 0) 0 6) 1 7), (fun _ => 0)) = ((75, 0, -1), [(259, 5), (326, 0)], (BSprize (BSfist (BSfist (BSrust (BSrust (BSrust (BSrail (BSrail BS0)) (ruU u0) (nI u0.2.1) (nI u0.2.2.1) (nI u0.2.2.2)) (ruU u1) (nI u1.2.1) (nI u1.2.2.1) (nI u1.2.2.2)) (ruU u2) (nI u2.2.1) (nI u2.2.2.1) (nI u2.2.2.2)))) (semC [(259, 5), (326, 0)] 0 1) (semC [(259, 5), (326, 0)] 1 2)), (MSprize (MSfist (MSfist (MSrail (MSrail MS0 0 (nI r0.1) (nI r0.2.1) (nI r0.2.2)) 1 (nI r1.1) (nI r1.2.1) (nI r1.2.2)) 0 (nI f0.1) (nI f0.2.1) (nI f0.2.2)) 1 (nI f1.1) (nI f1.2.1) (nI f1.2.2)) 0 (nI 7)), 3, (up1 (up1 (fun _ => 0) 0 1) 1 2), (up1 (up1 (fun _ => 0) 0 6) 1 7), (up1 (fun _ => 0) 0 16)) := by
  have k66 : T.k 66 = 313 := (h.1 66 (by decide)).1
  have k67 : T.k 67 = 258 := (h.1 67 (by decide)).1
  have v67 : T.v 67 = 16 := (h.1 67 (by decide)).2
  have k68 : T.k 68 = 314 := (h.1 68 (by decide)).1
  have k69 : T.k 69 = 259 := (h.1 69 (by decide)).1
  have v69 : T.v 69 = 5 := (h.1 69 (by decide)).2
  have k70 : T.k 70 = 315 := (h.1 70 (by decide)).1
  have k71 : T.k 71 = 259 := (h.1 71 (by decide)).1
  have v71 : T.v 71 = 7 := (h.1 71 (by decide)).2
  have k72 : T.k 72 = 316 := (h.1 72 (by decide)).1
  have k73 : T.k 73 = 326 := (h.1 73 (by decide)).1
  have v73 : T.v 73 = 0 := (h.1 73 (by decide)).2
  have k74 : T.k 74 = 59 := (h.1 74 (by decide)).1
  have hw : eSu T (eVal T (ixB ((66, 0, -1), [], (BSfist (BSfist (BSrust (BSrust (BSrust (BSrail (BSrail BS0)) (ruU u0) (nI u0.2.1) (nI u0.2.2.1) (nI u0.2.2.2)) (ruU u1) (nI u1.2.1) (nI u1.2.2.1) (nI u1.2.2.2)) (ruU u2) (nI u2.2.1) (nI u2.2.2.1) (nI u2.2.2.2)))), (MSfist (MSfist (MSrail (MSrail MS0 0 (nI r0.1) (nI r0.2.1) (nI r0.2.2)) 1 (nI r1.1) (nI r1.2.1) (nI r1.2.2)) 0 (nI f0.1) (nI f0.2.1) (nI f0.2.2)) 1 (nI f1.1) (nI f1.2.1) (nI f1.2.2)), 3, (up1 (up1 (fun _ => 0) 0 1) 1 2), (up1 (up1 (fun _ => 0) 0 6) 1 7), (fun _ => 0))) 8) ((69, 0, -1), []) = ((70, 0, -1), [(259, 5)]) := eSu_o (ev_pl (v := 5) k69 (by decide) (by rw [v69]; decide)) k70 (by decide)
  have ht : eTs T (eSng T (ixB ((66, 0, -1), [], (BSfist (BSfist (BSrust (BSrust (BSrust (BSrail (BSrail BS0)) (ruU u0) (nI u0.2.1) (nI u0.2.2.1) (nI u0.2.2.2)) (ruU u1) (nI u1.2.1) (nI u1.2.2.1) (nI u1.2.2.2)) (ruU u2) (nI u2.2.1) (nI u2.2.2.1) (nI u2.2.2.2)))), (MSfist (MSfist (MSrail (MSrail MS0 0 (nI r0.1) (nI r0.2.1) (nI r0.2.2)) 1 (nI r1.1) (nI r1.2.1) (nI r1.2.2)) 0 (nI f0.1) (nI f0.2.1) (nI f0.2.2)) 1 (nI f1.1) (nI f1.2.1) (nI f1.2.2)), 3, (up1 (up1 (fun _ => 0) 0 1) 1 2), (up1 (up1 (fun _ => 0) 0 6) 1 7), (fun _ => 0))) 8) ((73, 0, -1), [(259, 5)]) = ((74, 0, -1), [(259, 5), (326, 0)]) := eTs_o (eSng_r (v := 0) k73 (by rw [v73]; decide)) k74 (by decide)
  exact rl_prize (i := 66) (j := 70) (k := 74) (n := 7) k66 k67 v67 k68 hw k70 k71 v71 (by decide) k72 ht k74 (show ¬ 8 ≤ 0 by decide) (show ¬ 0 ≤ fndJ (fun _ => 0) 16 0 0 by decide)
theorem bl_9 (hr : okR r0 ∧ okR r1) (hu : okU u0 ∧ okU u1 ∧ okU u2) (hf : okF f0 ∧ okF f1) (h : tokK T r0 r1 u0 u1 u2 f0 f1) : rdNext T ((75, 0, -1), [(259, 5), (326, 0)], (BSprize (BSfist (BSfist (BSrust (BSrust (BSrust (BSrail (BSrail BS0)) (ruU u0) (nI u0.2.1) (nI u0.2.2.1) (nI u0.2.2.2)) (ruU u1) (nI u1.2.1) (nI u1.2.2.1) (nI u1.2.2.2)) (ruU u2) (nI u2.2.1) (nI u2.2.2.1) (nI u2.2.2.2)))) (semC [(259, 5), (326, 0)] 0 1) (semC [(259, 5), (326, 0)] 1 2)), (MSprize (MSfist (MSfist (MSrail (MSrail MS0 0 (nI r0.1) (nI r0.2.1) (nI r0.2.2)) 1 (nI r1.1) (nI r1.2.1) (nI r1.2.2)) 0 (nI f0.1) (nI f0.2.1) (nI f0.2.2)) 1 (nI f1.1) (nI f1.2.1) (nI f1.2.2)) 0 (nI 7)), 3, (up1 (up1 (fun _ => 0) 0 1) 1 2), (up1 (up1 (fun _ => 0) 0 6) 1 7), (up1 (fun _ => 0) 0 16)) = ((91, 0, -1), [(259, 5), (326, 0), (259, 2), (319, 0), (259, 4), (62, 0), (323, nI 0), (259, 50), (60, 0), (328, 0)], (BSprize (BSprize (BSfist (BSfist (BSrust (BSrust (BSrust (BSrail (BSrail BS0)) (ruU u0) (nI u0.2.1) (nI u0.2.2.1) (nI u0.2.2.2)) (ruU u1) (nI u1.2.1) (nI u1.2.2.1) (nI u1.2.2.2)) (ruU u2) (nI u2.2.1) (nI u2.2.2.1) (nI u2.2.2.2)))) (semC [(259, 5), (326, 0)] 0 1) (semC [(259, 5), (326, 0)] 1 2)) (semC [(259, 5), (326, 0), (259, 2), (319, 0), (259, 4), (62, 0), (323, nI 0), (259, 50), (60, 0), (328, 0)] 2 3) (semC [(259, 5), (326, 0), (259, 2), (319, 0), (259, 4), (62, 0), (323, nI 0), (259, 50), (60, 0), (328, 0)] 3 10)), (MSprize (MSprize (MSfist (MSfist (MSrail (MSrail MS0 0 (nI r0.1) (nI r0.2.1) (nI r0.2.2)) 1 (nI r1.1) (nI r1.2.1) (nI r1.2.2)) 0 (nI f0.1) (nI f0.2.1) (nI f0.2.2)) 1 (nI f1.1) (nI f1.2.1) (nI f1.2.2)) 0 (nI 7)) 1 (nI 20)), 3, (up1 (up1 (fun _ => 0) 0 1) 1 2), (up1 (up1 (fun _ => 0) 0 6) 1 7), (up1 (up1 (fun _ => 0) 0 16) 1 17)) := by
  have k75 : T.k 75 = 313 := (h.1 75 (by decide)).1
  have k76 : T.k 76 = 258 := (h.1 76 (by decide)).1
  have v76 : T.v 76 = 17 := (h.1 76 (by decide)).2
  have k77 : T.k 77 = 314 := (h.1 77 (by decide)).1
  have k78 : T.k 78 = 259 := (h.1 78 (by decide)).1
  have v78 : T.v 78 = 2 := (h.1 78 (by decide)).2
  have k79 : T.k 79 = 315 := (h.1 79 (by decide)).1
  have k80 : T.k 80 = 259 := (h.1 80 (by decide)).1
  have v80 : T.v 80 = 20 := (h.1 80 (by decide)).2
  have k81 : T.k 81 = 316 := (h.1 81 (by decide)).1
  have k82 : T.k 82 = 319 := (h.1 82 (by decide)).1
  have v82 : T.v 82 = 0 := (h.1 82 (by decide)).2
  have k83 : T.k 83 = 62 := (h.1 83 (by decide)).1
  have k84 : T.k 84 = 259 := (h.1 84 (by decide)).1
  have v84 : T.v 84 = 4 := (h.1 84 (by decide)).2
  have k85 : T.k 85 = 328 := (h.1 85 (by decide)).1
  have k86 : T.k 86 = 323 := (h.1 86 (by decide)).1
  have k87 : T.k 87 = 258 := (h.1 87 (by decide)).1
  have v87 : T.v 87 = 6 := (h.1 87 (by decide)).2
  have k88 : T.k 88 = 60 := (h.1 88 (by decide)).1
  have k89 : T.k 89 = 259 := (h.1 89 (by decide)).1
  have v89 : T.v 89 = 50 := (h.1 89 (by decide)).2
  have k90 : T.k 90 = 59 := (h.1 90 (by decide)).1
  have hw : eSu T (eVal T (ixB ((75, 0, -1), [(259, 5), (326, 0)], (BSprize (BSfist (BSfist (BSrust (BSrust (BSrust (BSrail (BSrail BS0)) (ruU u0) (nI u0.2.1) (nI u0.2.2.1) (nI u0.2.2.2)) (ruU u1) (nI u1.2.1) (nI u1.2.2.1) (nI u1.2.2.2)) (ruU u2) (nI u2.2.1) (nI u2.2.2.1) (nI u2.2.2.2)))) (semC [(259, 5), (326, 0)] 0 1) (semC [(259, 5), (326, 0)] 1 2)), (MSprize (MSfist (MSfist (MSrail (MSrail MS0 0 (nI r0.1) (nI r0.2.1) (nI r0.2.2)) 1 (nI r1.1) (nI r1.2.1) (nI r1.2.2)) 0 (nI f0.1) (nI f0.2.1) (nI f0.2.2)) 1 (nI f1.1) (nI f1.2.1) (nI f1.2.2)) 0 (nI 7)), 3, (up1 (up1 (fun _ => 0) 0 1) 1 2), (up1 (up1 (fun _ => 0) 0 6) 1 7), (up1 (fun _ => 0) 0 16))) 8) ((78, 0, -1), [(259, 5), (326, 0)]) = ((79, 0, -1), [(259, 5), (326, 0), (259, 2)]) := eSu_o (ev_pl (v := 2) k78 (by decide) (by rw [v78]; decide)) k79 (by decide)
  have h1 : eSu T (eVal T (ixB ((75, 0, -1), [(259, 5), (326, 0)], (BSprize (BSfist (BSfist (BSrust (BSrust (BSrust (BSrail (BSrail BS0)) (ruU u0) (nI u0.2.1) (nI u0.2.2.1) (nI u0.2.2.2)) (ruU u1) (nI u1.2.1) (nI u1.2.2.1) (nI u1.2.2.2)) (ruU u2) (nI u2.2.1) (nI u2.2.2.1) (nI u2.2.2.2)))) (semC [(259, 5), (326, 0)] 0 1) (semC [(259, 5), (326, 0)] 1 2)), (MSprize (MSfist (MSfist (MSrail (MSrail MS0 0 (nI r0.1) (nI r0.2.1) (nI r0.2.2)) 1 (nI r1.1) (nI r1.2.1) (nI r1.2.2)) 0 (nI f0.1) (nI f0.2.1) (nI f0.2.2)) 1 (nI f1.1) (nI f1.2.1) (nI f1.2.2)) 0 (nI 7)), 3, (up1 (up1 (fun _ => 0) 0 1) 1 2), (up1 (up1 (fun _ => 0) 0 6) 1 7), (up1 (fun _ => 0) 0 16))) 8) ((82, 0, -1), [(259, 5), (326, 0), (259, 2)]) = ((83, 0, -1), [(259, 5), (326, 0), (259, 2), (319, 0)]) := eSu_o (ev_pl (v := 0) k82 (by decide) (by rw [v82]; decide)) k83 (by decide)
  have h2 : eSu T (eVal T (ixB ((75, 0, -1), [(259, 5), (326, 0)], (BSprize (BSfist (BSfist (BSrust (BSrust (BSrust (BSrail (BSrail BS0)) (ruU u0) (nI u0.2.1) (nI u0.2.2.1) (nI u0.2.2.2)) (ruU u1) (nI u1.2.1) (nI u1.2.2.1) (nI u1.2.2.2)) (ruU u2) (nI u2.2.1) (nI u2.2.2.1) (nI u2.2.2.2)))) (semC [(259, 5), (326, 0)] 0 1) (semC [(259, 5), (326, 0)] 1 2)), (MSprize (MSfist (MSfist (MSrail (MSrail MS0 0 (nI r0.1) (nI r0.2.1) (nI r0.2.2)) 1 (nI r1.1) (nI r1.2.1) (nI r1.2.2)) 0 (nI f0.1) (nI f0.2.1) (nI f0.2.2)) 1 (nI f1.1) (nI f1.2.1) (nI f1.2.2)) 0 (nI 7)), 3, (up1 (up1 (fun _ => 0) 0 1) 1 2), (up1 (up1 (fun _ => 0) 0 6) 1 7), (up1 (fun _ => 0) 0 16))) 8) ((84, 0, -1), [(259, 5), (326, 0), (259, 2), (319, 0)]) = ((85, 0, -1), [(259, 5), (326, 0), (259, 2), (319, 0), (259, 4)]) := eSu_o (ev_pl (v := 4) k84 (by decide) (by rw [v84]; decide)) k85 (by decide)
  have h3 : eSu T (eVal T (ixB ((75, 0, -1), [(259, 5), (326, 0)], (BSprize (BSfist (BSfist (BSrust (BSrust (BSrust (BSrail (BSrail BS0)) (ruU u0) (nI u0.2.1) (nI u0.2.2.1) (nI u0.2.2.2)) (ruU u1) (nI u1.2.1) (nI u1.2.2.1) (nI u1.2.2.2)) (ruU u2) (nI u2.2.1) (nI u2.2.2.1) (nI u2.2.2.2)))) (semC [(259, 5), (326, 0)] 0 1) (semC [(259, 5), (326, 0)] 1 2)), (MSprize (MSfist (MSfist (MSrail (MSrail MS0 0 (nI r0.1) (nI r0.2.1) (nI r0.2.2)) 1 (nI r1.1) (nI r1.2.1) (nI r1.2.2)) 0 (nI f0.1) (nI f0.2.1) (nI f0.2.2)) 1 (nI f1.1) (nI f1.2.1) (nI f1.2.2)) 0 (nI 7)), 3, (up1 (up1 (fun _ => 0) 0 1) 1 2), (up1 (up1 (fun _ => 0) 0 6) 1 7), (up1 (fun _ => 0) 0 16))) 8) ((86, 0, -1), [(259, 5), (326, 0), (259, 2), (319, 0), (259, 4), (62, 0)]) = ((88, 0, -1), [(259, 5), (326, 0), (259, 2), (319, 0), (259, 4), (62, 0), (323, nI 0)]) := eSu_o (ev_nm (f := 0) k86 k87 v87 (ixB_f.trans (show fndJ (up1 (up1 (fun _ => 0) 0 6) 1 7) 6 0 2 = nI 0 by decide)) (by decide)) k88 (by decide)
  have h4 : eSu T (eVal T (ixB ((75, 0, -1), [(259, 5), (326, 0)], (BSprize (BSfist (BSfist (BSrust (BSrust (BSrust (BSrail (BSrail BS0)) (ruU u0) (nI u0.2.1) (nI u0.2.2.1) (nI u0.2.2.2)) (ruU u1) (nI u1.2.1) (nI u1.2.2.1) (nI u1.2.2.2)) (ruU u2) (nI u2.2.1) (nI u2.2.2.1) (nI u2.2.2.2)))) (semC [(259, 5), (326, 0)] 0 1) (semC [(259, 5), (326, 0)] 1 2)), (MSprize (MSfist (MSfist (MSrail (MSrail MS0 0 (nI r0.1) (nI r0.2.1) (nI r0.2.2)) 1 (nI r1.1) (nI r1.2.1) (nI r1.2.2)) 0 (nI f0.1) (nI f0.2.1) (nI f0.2.2)) 1 (nI f1.1) (nI f1.2.1) (nI f1.2.2)) 0 (nI 7)), 3, (up1 (up1 (fun _ => 0) 0 1) 1 2), (up1 (up1 (fun _ => 0) 0 6) 1 7), (up1 (fun _ => 0) 0 16))) 8) ((89, 0, -1), [(259, 5), (326, 0), (259, 2), (319, 0), (259, 4), (62, 0), (323, nI 0)]) = ((90, 0, -1), [(259, 5), (326, 0), (259, 2), (319, 0), (259, 4), (62, 0), (323, nI 0), (259, 50)]) := eSu_o (ev_pl (v := 50) k89 (by decide) (by rw [v89]; decide)) k90 (by decide)
  have c1 : eSng T (ixB ((75, 0, -1), [(259, 5), (326, 0)], (BSprize (BSfist (BSfist (BSrust (BSrust (BSrust (BSrail (BSrail BS0)) (ruU u0) (nI u0.2.1) (nI u0.2.2.1) (nI u0.2.2.2)) (ruU u1) (nI u1.2.1) (nI u1.2.2.1) (nI u1.2.2.2)) (ruU u2) (nI u2.2.1) (nI u2.2.2.1) (nI u2.2.2.2)))) (semC [(259, 5), (326, 0)] 0 1) (semC [(259, 5), (326, 0)] 1 2)), (MSprize (MSfist (MSfist (MSrail (MSrail MS0 0 (nI r0.1) (nI r0.2.1) (nI r0.2.2)) 1 (nI r1.1) (nI r1.2.1) (nI r1.2.2)) 0 (nI f0.1) (nI f0.2.1) (nI f0.2.2)) 1 (nI f1.1) (nI f1.2.1) (nI f1.2.2)) 0 (nI 7)), 3, (up1 (up1 (fun _ => 0) 0 1) 1 2), (up1 (up1 (fun _ => 0) 0 6) 1 7), (up1 (fun _ => 0) 0 16))) 8 ((82, 0, -1), [(259, 5), (326, 0), (259, 2)]) = ((85, 0, -1), [(259, 5), (326, 0), (259, 2), (319, 0), (259, 4), (62, 0)]) := (eSng_c k82 (by decide)).trans (eCmp_o h1 k83 (by decide) h2)
  have c2 : eSng T (ixB ((75, 0, -1), [(259, 5), (326, 0)], (BSprize (BSfist (BSfist (BSrust (BSrust (BSrust (BSrail (BSrail BS0)) (ruU u0) (nI u0.2.1) (nI u0.2.2.1) (nI u0.2.2.2)) (ruU u1) (nI u1.2.1) (nI u1.2.2.1) (nI u1.2.2.2)) (ruU u2) (nI u2.2.1) (nI u2.2.2.1) (nI u2.2.2.2)))) (semC [(259, 5), (326, 0)] 0 1) (semC [(259, 5), (326, 0)] 1 2)), (MSprize (MSfist (MSfist (MSrail (MSrail MS0 0 (nI r0.1) (nI r0.2.1) (nI r0.2.2)) 1 (nI r1.1) (nI r1.2.1) (nI r1.2.2)) 0 (nI f0.1) (nI f0.2.1) (nI f0.2.2)) 1 (nI f1.1) (nI f1.2.1) (nI f1.2.2)) 0 (nI 7)), 3, (up1 (up1 (fun _ => 0) 0 1) 1 2), (up1 (up1 (fun _ => 0) 0 6) 1 7), (up1 (fun _ => 0) 0 16))) 8 ((86, 0, -1), [(259, 5), (326, 0), (259, 2), (319, 0), (259, 4), (62, 0)]) = ((90, 0, -1), [(259, 5), (326, 0), (259, 2), (319, 0), (259, 4), (62, 0), (323, nI 0), (259, 50), (60, 0)]) := (eSng_c k86 (by decide)).trans (eCmp_o h3 k88 (by decide) h4)
  have ht : eTs T (eSng T (ixB ((75, 0, -1), [(259, 5), (326, 0)], (BSprize (BSfist (BSfist (BSrust (BSrust (BSrust (BSrail (BSrail BS0)) (ruU u0) (nI u0.2.1) (nI u0.2.2.1) (nI u0.2.2.2)) (ruU u1) (nI u1.2.1) (nI u1.2.2.1) (nI u1.2.2.2)) (ruU u2) (nI u2.2.1) (nI u2.2.2.1) (nI u2.2.2.2)))) (semC [(259, 5), (326, 0)] 0 1) (semC [(259, 5), (326, 0)] 1 2)), (MSprize (MSfist (MSfist (MSrail (MSrail MS0 0 (nI r0.1) (nI r0.2.1) (nI r0.2.2)) 1 (nI r1.1) (nI r1.2.1) (nI r1.2.2)) 0 (nI f0.1) (nI f0.2.1) (nI f0.2.2)) 1 (nI f1.1) (nI f1.2.1) (nI f1.2.2)) 0 (nI 7)), 3, (up1 (up1 (fun _ => 0) 0 1) 1 2), (up1 (up1 (fun _ => 0) 0 6) 1 7), (up1 (fun _ => 0) 0 16))) 8) ((82, 0, -1), [(259, 5), (326, 0), (259, 2)]) = ((90, 0, -1), [(259, 5), (326, 0), (259, 2), (319, 0), (259, 4), (62, 0), (323, nI 0), (259, 50), (60, 0), (328, 0)]) := eTs_2 c1 k85 c2 k90 (by decide)
  exact rl_prize (i := 75) (j := 79) (k := 90) (n := 20) k75 k76 v76 k77 hw k79 k80 v80 (by decide) k81 ht k90 (show ¬ 8 ≤ 1 by decide) (show ¬ 0 ≤ fndJ (up1 (fun _ => 0) 0 16) 17 0 1 by decide)
theorem bl_10 (hr : okR r0 ∧ okR r1) (hu : okU u0 ∧ okU u1 ∧ okU u2) (hf : okF f0 ∧ okF f1) (h : tokK T r0 r1 u0 u1 u2 f0 f1) : rdNext T ((91, 0, -1), [(259, 5), (326, 0), (259, 2), (319, 0), (259, 4), (62, 0), (323, nI 0), (259, 50), (60, 0), (328, 0)], (BSprize (BSprize (BSfist (BSfist (BSrust (BSrust (BSrust (BSrail (BSrail BS0)) (ruU u0) (nI u0.2.1) (nI u0.2.2.1) (nI u0.2.2.2)) (ruU u1) (nI u1.2.1) (nI u1.2.2.1) (nI u1.2.2.2)) (ruU u2) (nI u2.2.1) (nI u2.2.2.1) (nI u2.2.2.2)))) (semC [(259, 5), (326, 0)] 0 1) (semC [(259, 5), (326, 0)] 1 2)) (semC [(259, 5), (326, 0), (259, 2), (319, 0), (259, 4), (62, 0), (323, nI 0), (259, 50), (60, 0), (328, 0)] 2 3) (semC [(259, 5), (326, 0), (259, 2), (319, 0), (259, 4), (62, 0), (323, nI 0), (259, 50), (60, 0), (328, 0)] 3 10)), (MSprize (MSprize (MSfist (MSfist (MSrail (MSrail MS0 0 (nI r0.1) (nI r0.2.1) (nI r0.2.2)) 1 (nI r1.1) (nI r1.2.1) (nI r1.2.2)) 0 (nI f0.1) (nI f0.2.1) (nI f0.2.2)) 1 (nI f1.1) (nI f1.2.1) (nI f1.2.2)) 0 (nI 7)) 1 (nI 20)), 3, (up1 (up1 (fun _ => 0) 0 1) 1 2), (up1 (up1 (fun _ => 0) 0 6) 1 7), (up1 (up1 (fun _ => 0) 0 16) 1 17)) = ((96, 0, -1), [(259, 5), (326, 0), (259, 2), (319, 0), (259, 4), (62, 0), (323, nI 0), (259, 50), (60, 0), (328, 0)], (BSturn (BSprize (BSprize (BSfist (BSfist (BSrust (BSrust (BSrust (BSrail (BSrail BS0)) (ruU u0) (nI u0.2.1) (nI u0.2.2.1) (nI u0.2.2.2)) (ruU u1) (nI u1.2.1) (nI u1.2.2.1) (nI u1.2.2.2)) (ruU u2) (nI u2.2.1) (nI u2.2.2.1) (nI u2.2.2.2)))) (semC [(259, 5), (326, 0)] 0 1) (semC [(259, 5), (326, 0)] 1 2)) (semC [(259, 5), (326, 0), (259, 2), (319, 0), (259, 4), (62, 0), (323, nI 0), (259, 50), (60, 0), (328, 0)] 2 3) (semC [(259, 5), (326, 0), (259, 2), (319, 0), (259, 4), (62, 0), (323, nI 0), (259, 50), (60, 0), (328, 0)] 3 10)) 0 0 (semT [(259, 5), (326, 0), (259, 2), (319, 0), (259, 4), (62, 0), (323, nI 0), (259, 50), (60, 0), (328, 0)] 10 10)), (MSturn (MSprize (MSprize (MSfist (MSfist (MSrail (MSrail MS0 0 (nI r0.1) (nI r0.2.1) (nI r0.2.2)) 1 (nI r1.1) (nI r1.2.1) (nI r1.2.2)) 0 (nI f0.1) (nI f0.2.1) (nI f0.2.2)) 1 (nI f1.1) (nI f1.2.1) (nI f1.2.2)) 0 (nI 7)) 1 (nI 20)) 0), 3, (up1 (up1 (fun _ => 0) 0 1) 1 2), (up1 (up1 (fun _ => 0) 0 6) 1 7), (up1 (up1 (fun _ => 0) 0 16) 1 17)) := by
  have k91 : T.k 91 = 317 := (h.1 91 (by decide)).1
  have k92 : T.k 92 = 258 := (h.1 92 (by decide)).1
  have v92 : T.v 92 = 6 := (h.1 92 (by decide)).2
  have k93 : T.k 93 = 318 := (h.1 93 (by decide)).1
  have k94 : T.k 94 = 258 := (h.1 94 (by decide)).1
  have v94 : T.v 94 = 1 := (h.1 94 (by decide)).2
  have k95 : T.k 95 = 59 := (h.1 95 (by decide)).1
  exact rl_turn (i := 91) (j := 95) (f := 0) (r := 0) k91 k92 v92 k93 k94 v94 (show ¬ 20 ≤ 0 by decide) (show fndJ (up1 (up1 (fun _ => 0) 0 6) 1 7) 6 0 2 = nI 0 by decide) (show fndJ (up1 (up1 (fun _ => 0) 0 1) 1 2) 1 0 2 = nI 0 by decide) (by decide) (by decide) (Or.inl ⟨k95, rfl, rfl⟩) k95
theorem bl_11 (hr : okR r0 ∧ okR r1) (hu : okU u0 ∧ okU u1 ∧ okU u2) (hf : okF f0 ∧ okF f1) (h : tokK T r0 r1 u0 u1 u2 f0 f1) : rdNext T ((96, 0, -1), [(259, 5), (326, 0), (259, 2), (319, 0), (259, 4), (62, 0), (323, nI 0), (259, 50), (60, 0), (328, 0)], (BSturn (BSprize (BSprize (BSfist (BSfist (BSrust (BSrust (BSrust (BSrail (BSrail BS0)) (ruU u0) (nI u0.2.1) (nI u0.2.2.1) (nI u0.2.2.2)) (ruU u1) (nI u1.2.1) (nI u1.2.2.1) (nI u1.2.2.2)) (ruU u2) (nI u2.2.1) (nI u2.2.2.1) (nI u2.2.2.2)))) (semC [(259, 5), (326, 0)] 0 1) (semC [(259, 5), (326, 0)] 1 2)) (semC [(259, 5), (326, 0), (259, 2), (319, 0), (259, 4), (62, 0), (323, nI 0), (259, 50), (60, 0), (328, 0)] 2 3) (semC [(259, 5), (326, 0), (259, 2), (319, 0), (259, 4), (62, 0), (323, nI 0), (259, 50), (60, 0), (328, 0)] 3 10)) 0 0 (semT [(259, 5), (326, 0), (259, 2), (319, 0), (259, 4), (62, 0), (323, nI 0), (259, 50), (60, 0), (328, 0)] 10 10)), (MSturn (MSprize (MSprize (MSfist (MSfist (MSrail (MSrail MS0 0 (nI r0.1) (nI r0.2.1) (nI r0.2.2)) 1 (nI r1.1) (nI r1.2.1) (nI r1.2.2)) 0 (nI f0.1) (nI f0.2.1) (nI f0.2.2)) 1 (nI f1.1) (nI f1.2.1) (nI f1.2.2)) 0 (nI 7)) 1 (nI 20)) 0), 3, (up1 (up1 (fun _ => 0) 0 1) 1 2), (up1 (up1 (fun _ => 0) 0 6) 1 7), (up1 (up1 (fun _ => 0) 0 16) 1 17)) = ((105, 0, -1), [(259, 5), (326, 0), (259, 2), (319, 0), (259, 4), (62, 0), (323, nI 0), (259, 50), (60, 0), (328, 0), (320, 0), (259, 0), (61, 0)], (BSturn (BSturn (BSprize (BSprize (BSfist (BSfist (BSrust (BSrust (BSrust (BSrail (BSrail BS0)) (ruU u0) (nI u0.2.1) (nI u0.2.2.1) (nI u0.2.2.2)) (ruU u1) (nI u1.2.1) (nI u1.2.2.1) (nI u1.2.2.2)) (ruU u2) (nI u2.2.1) (nI u2.2.2.1) (nI u2.2.2.2)))) (semC [(259, 5), (326, 0)] 0 1) (semC [(259, 5), (326, 0)] 1 2)) (semC [(259, 5), (326, 0), (259, 2), (319, 0), (259, 4), (62, 0), (323, nI 0), (259, 50), (60, 0), (328, 0)] 2 3) (semC [(259, 5), (326, 0), (259, 2), (319, 0), (259, 4), (62, 0), (323, nI 0), (259, 50), (60, 0), (328, 0)] 3 10)) 0 0 (semT [(259, 5), (326, 0), (259, 2), (319, 0), (259, 4), (62, 0), (323, nI 0), (259, 50), (60, 0), (328, 0)] 10 10)) 1 0 (semT [(259, 5), (326, 0), (259, 2), (319, 0), (259, 4), (62, 0), (323, nI 0), (259, 50), (60, 0), (328, 0), (320, 0), (259, 0), (61, 0)] 10 13)), (MSturn (MSturn (MSprize (MSprize (MSfist (MSfist (MSrail (MSrail MS0 0 (nI r0.1) (nI r0.2.1) (nI r0.2.2)) 1 (nI r1.1) (nI r1.2.1) (nI r1.2.2)) 0 (nI f0.1) (nI f0.2.1) (nI f0.2.2)) 1 (nI f1.1) (nI f1.2.1) (nI f1.2.2)) 0 (nI 7)) 1 (nI 20)) 0) 1), 3, (up1 (up1 (fun _ => 0) 0 1) 1 2), (up1 (up1 (fun _ => 0) 0 6) 1 7), (up1 (up1 (fun _ => 0) 0 16) 1 17)) := by
  have k96 : T.k 96 = 317 := (h.1 96 (by decide)).1
  have k97 : T.k 97 = 258 := (h.1 97 (by decide)).1
  have v97 : T.v 97 = 7 := (h.1 97 (by decide)).2
  have k98 : T.k 98 = 318 := (h.1 98 (by decide)).1
  have k99 : T.k 99 = 258 := (h.1 99 (by decide)).1
  have v99 : T.v 99 = 1 := (h.1 99 (by decide)).2
  have k100 : T.k 100 = 316 := (h.1 100 (by decide)).1
  have k101 : T.k 101 = 320 := (h.1 101 (by decide)).1
  have v101 : T.v 101 = 0 := (h.1 101 (by decide)).2
  have k102 : T.k 102 = 61 := (h.1 102 (by decide)).1
  have k103 : T.k 103 = 259 := (h.1 103 (by decide)).1
  have v103 : T.v 103 = 0 := (h.1 103 (by decide)).2
  have k104 : T.k 104 = 59 := (h.1 104 (by decide)).1
  have h1 : eSu T (eVal T (ixB ((96, 0, -1), [(259, 5), (326, 0), (259, 2), (319, 0), (259, 4), (62, 0), (323, nI 0), (259, 50), (60, 0), (328, 0)], (BSturn (BSprize (BSprize (BSfist (BSfist (BSrust (BSrust (BSrust (BSrail (BSrail BS0)) (ruU u0) (nI u0.2.1) (nI u0.2.2.1) (nI u0.2.2.2)) (ruU u1) (nI u1.2.1) (nI u1.2.2.1) (nI u1.2.2.2)) (ruU u2) (nI u2.2.1) (nI u2.2.2.1) (nI u2.2.2.2)))) (semC [(259, 5), (326, 0)] 0 1) (semC [(259, 5), (326, 0)] 1 2)) (semC [(259, 5), (326, 0), (259, 2), (319, 0), (259, 4), (62, 0), (323, nI 0), (259, 50), (60, 0), (328, 0)] 2 3) (semC [(259, 5), (326, 0), (259, 2), (319, 0), (259, 4), (62, 0), (323, nI 0), (259, 50), (60, 0), (328, 0)] 3 10)) 0 0 (semT [(259, 5), (326, 0), (259, 2), (319, 0), (259, 4), (62, 0), (323, nI 0), (259, 50), (60, 0), (328, 0)] 10 10)), (MSturn (MSprize (MSprize (MSfist (MSfist (MSrail (MSrail MS0 0 (nI r0.1) (nI r0.2.1) (nI r0.2.2)) 1 (nI r1.1) (nI r1.2.1) (nI r1.2.2)) 0 (nI f0.1) (nI f0.2.1) (nI f0.2.2)) 1 (nI f1.1) (nI f1.2.1) (nI f1.2.2)) 0 (nI 7)) 1 (nI 20)) 0), 3, (up1 (up1 (fun _ => 0) 0 1) 1 2), (up1 (up1 (fun _ => 0) 0 6) 1 7), (up1 (up1 (fun _ => 0) 0 16) 1 17))) 8) ((101, 0, -1), [(259, 5), (326, 0), (259, 2), (319, 0), (259, 4), (62, 0), (323, nI 0), (259, 50), (60, 0), (328, 0)]) = ((102, 0, -1), [(259, 5), (326, 0), (259, 2), (319, 0), (259, 4), (62, 0), (323, nI 0), (259, 50), (60, 0), (328, 0), (320, 0)]) := eSu_o (ev_pl (v := 0) k101 (by decide) (by rw [v101]; decide)) k102 (by decide)
  have h2 : eSu T (eVal T (ixB ((96, 0, -1), [(259, 5), (326, 0), (259, 2), (319, 0), (259, 4), (62, 0), (323, nI 0), (259, 50), (60, 0), (328, 0)], (BSturn (BSprize (BSprize (BSfist (BSfist (BSrust (BSrust (BSrust (BSrail (BSrail BS0)) (ruU u0) (nI u0.2.1) (nI u0.2.2.1) (nI u0.2.2.2)) (ruU u1) (nI u1.2.1) (nI u1.2.2.1) (nI u1.2.2.2)) (ruU u2) (nI u2.2.1) (nI u2.2.2.1) (nI u2.2.2.2)))) (semC [(259, 5), (326, 0)] 0 1) (semC [(259, 5), (326, 0)] 1 2)) (semC [(259, 5), (326, 0), (259, 2), (319, 0), (259, 4), (62, 0), (323, nI 0), (259, 50), (60, 0), (328, 0)] 2 3) (semC [(259, 5), (326, 0), (259, 2), (319, 0), (259, 4), (62, 0), (323, nI 0), (259, 50), (60, 0), (328, 0)] 3 10)) 0 0 (semT [(259, 5), (326, 0), (259, 2), (319, 0), (259, 4), (62, 0), (323, nI 0), (259, 50), (60, 0), (328, 0)] 10 10)), (MSturn (MSprize (MSprize (MSfist (MSfist (MSrail (MSrail MS0 0 (nI r0.1) (nI r0.2.1) (nI r0.2.2)) 1 (nI r1.1) (nI r1.2.1) (nI r1.2.2)) 0 (nI f0.1) (nI f0.2.1) (nI f0.2.2)) 1 (nI f1.1) (nI f1.2.1) (nI f1.2.2)) 0 (nI 7)) 1 (nI 20)) 0), 3, (up1 (up1 (fun _ => 0) 0 1) 1 2), (up1 (up1 (fun _ => 0) 0 6) 1 7), (up1 (up1 (fun _ => 0) 0 16) 1 17))) 8) ((103, 0, -1), [(259, 5), (326, 0), (259, 2), (319, 0), (259, 4), (62, 0), (323, nI 0), (259, 50), (60, 0), (328, 0), (320, 0)]) = ((104, 0, -1), [(259, 5), (326, 0), (259, 2), (319, 0), (259, 4), (62, 0), (323, nI 0), (259, 50), (60, 0), (328, 0), (320, 0), (259, 0)]) := eSu_o (ev_pl (v := 0) k103 (by decide) (by rw [v103]; decide)) k104 (by decide)
  have ht : eTs T (eSng T (ixB ((96, 0, -1), [(259, 5), (326, 0), (259, 2), (319, 0), (259, 4), (62, 0), (323, nI 0), (259, 50), (60, 0), (328, 0)], (BSturn (BSprize (BSprize (BSfist (BSfist (BSrust (BSrust (BSrust (BSrail (BSrail BS0)) (ruU u0) (nI u0.2.1) (nI u0.2.2.1) (nI u0.2.2.2)) (ruU u1) (nI u1.2.1) (nI u1.2.2.1) (nI u1.2.2.2)) (ruU u2) (nI u2.2.1) (nI u2.2.2.1) (nI u2.2.2.2)))) (semC [(259, 5), (326, 0)] 0 1) (semC [(259, 5), (326, 0)] 1 2)) (semC [(259, 5), (326, 0), (259, 2), (319, 0), (259, 4), (62, 0), (323, nI 0), (259, 50), (60, 0), (328, 0)] 2 3) (semC [(259, 5), (326, 0), (259, 2), (319, 0), (259, 4), (62, 0), (323, nI 0), (259, 50), (60, 0), (328, 0)] 3 10)) 0 0 (semT [(259, 5), (326, 0), (259, 2), (319, 0), (259, 4), (62, 0), (323, nI 0), (259, 50), (60, 0), (328, 0)] 10 10)), (MSturn (MSprize (MSprize (MSfist (MSfist (MSrail (MSrail MS0 0 (nI r0.1) (nI r0.2.1) (nI r0.2.2)) 1 (nI r1.1) (nI r1.2.1) (nI r1.2.2)) 0 (nI f0.1) (nI f0.2.1) (nI f0.2.2)) 1 (nI f1.1) (nI f1.2.1) (nI f1.2.2)) 0 (nI 7)) 1 (nI 20)) 0), 3, (up1 (up1 (fun _ => 0) 0 1) 1 2), (up1 (up1 (fun _ => 0) 0 6) 1 7), (up1 (up1 (fun _ => 0) 0 16) 1 17))) 8) ((101, 0, -1), [(259, 5), (326, 0), (259, 2), (319, 0), (259, 4), (62, 0), (323, nI 0), (259, 50), (60, 0), (328, 0)]) = ((104, 0, -1), [(259, 5), (326, 0), (259, 2), (319, 0), (259, 4), (62, 0), (323, nI 0), (259, 50), (60, 0), (328, 0), (320, 0), (259, 0), (61, 0)]) := eTs_o ((eSng_c k101 (by decide)).trans (eCmp_o h1 k102 (by decide) h2)) k104 (by decide)
  exact rl_turn (i := 96) (j := 104) (f := 1) (r := 0) k96 k97 v97 k98 k99 v99 (show ¬ 20 ≤ 1 by decide) (show fndJ (up1 (up1 (fun _ => 0) 0 6) 1 7) 7 0 2 = nI 1 by decide) (show fndJ (up1 (up1 (fun _ => 0) 0 1) 1 2) 1 0 2 = nI 0 by decide) (by decide) (by decide) (Or.inr ⟨k100, ht⟩) k104
theorem bl_12 (hr : okR r0 ∧ okR r1) (hu : okU u0 ∧ okU u1 ∧ okU u2) (hf : okF f0 ∧ okF f1) (h : tokK T r0 r1 u0 u1 u2 f0 f1) : rdNext T ((105, 0, -1), [(259, 5), (326, 0), (259, 2), (319, 0), (259, 4), (62, 0), (323, nI 0), (259, 50), (60, 0), (328, 0), (320, 0), (259, 0), (61, 0)], (BSturn (BSturn (BSprize (BSprize (BSfist (BSfist (BSrust (BSrust (BSrust (BSrail (BSrail BS0)) (ruU u0) (nI u0.2.1) (nI u0.2.2.1) (nI u0.2.2.2)) (ruU u1) (nI u1.2.1) (nI u1.2.2.1) (nI u1.2.2.2)) (ruU u2) (nI u2.2.1) (nI u2.2.2.1) (nI u2.2.2.2)))) (semC [(259, 5), (326, 0)] 0 1) (semC [(259, 5), (326, 0)] 1 2)) (semC [(259, 5), (326, 0), (259, 2), (319, 0), (259, 4), (62, 0), (323, nI 0), (259, 50), (60, 0), (328, 0)] 2 3) (semC [(259, 5), (326, 0), (259, 2), (319, 0), (259, 4), (62, 0), (323, nI 0), (259, 50), (60, 0), (328, 0)] 3 10)) 0 0 (semT [(259, 5), (326, 0), (259, 2), (319, 0), (259, 4), (62, 0), (323, nI 0), (259, 50), (60, 0), (328, 0)] 10 10)) 1 0 (semT [(259, 5), (326, 0), (259, 2), (319, 0), (259, 4), (62, 0), (323, nI 0), (259, 50), (60, 0), (328, 0), (320, 0), (259, 0), (61, 0)] 10 13)), (MSturn (MSturn (MSprize (MSprize (MSfist (MSfist (MSrail (MSrail MS0 0 (nI r0.1) (nI r0.2.1) (nI r0.2.2)) 1 (nI r1.1) (nI r1.2.1) (nI r1.2.2)) 0 (nI f0.1) (nI f0.2.1) (nI f0.2.2)) 1 (nI f1.1) (nI f1.2.1) (nI f1.2.2)) 0 (nI 7)) 1 (nI 20)) 0) 1), 3, (up1 (up1 (fun _ => 0) 0 1) 1 2), (up1 (up1 (fun _ => 0) 0 6) 1 7), (up1 (up1 (fun _ => 0) 0 16) 1 17)) = ((110, 0, -1), [(259, 5), (326, 0), (259, 2), (319, 0), (259, 4), (62, 0), (323, nI 0), (259, 50), (60, 0), (328, 0), (320, 0), (259, 0), (61, 0)], (BSturn (BSturn (BSturn (BSprize (BSprize (BSfist (BSfist (BSrust (BSrust (BSrust (BSrail (BSrail BS0)) (ruU u0) (nI u0.2.1) (nI u0.2.2.1) (nI u0.2.2.2)) (ruU u1) (nI u1.2.1) (nI u1.2.2.1) (nI u1.2.2.2)) (ruU u2) (nI u2.2.1) (nI u2.2.2.1) (nI u2.2.2.2)))) (semC [(259, 5), (326, 0)] 0 1) (semC [(259, 5), (326, 0)] 1 2)) (semC [(259, 5), (326, 0), (259, 2), (319, 0), (259, 4), (62, 0), (323, nI 0), (259, 50), (60, 0), (328, 0)] 2 3) (semC [(259, 5), (326, 0), (259, 2), (319, 0), (259, 4), (62, 0), (323, nI 0), (259, 50), (60, 0), (328, 0)] 3 10)) 0 0 (semT [(259, 5), (326, 0), (259, 2), (319, 0), (259, 4), (62, 0), (323, nI 0), (259, 50), (60, 0), (328, 0)] 10 10)) 1 0 (semT [(259, 5), (326, 0), (259, 2), (319, 0), (259, 4), (62, 0), (323, nI 0), (259, 50), (60, 0), (328, 0), (320, 0), (259, 0), (61, 0)] 10 13)) 1 1 (semT [(259, 5), (326, 0), (259, 2), (319, 0), (259, 4), (62, 0), (323, nI 0), (259, 50), (60, 0), (328, 0), (320, 0), (259, 0), (61, 0)] 13 13)), (MSturn (MSturn (MSturn (MSprize (MSprize (MSfist (MSfist (MSrail (MSrail MS0 0 (nI r0.1) (nI r0.2.1) (nI r0.2.2)) 1 (nI r1.1) (nI r1.2.1) (nI r1.2.2)) 0 (nI f0.1) (nI f0.2.1) (nI f0.2.2)) 1 (nI f1.1) (nI f1.2.1) (nI f1.2.2)) 0 (nI 7)) 1 (nI 20)) 0) 1) 2), 3, (up1 (up1 (fun _ => 0) 0 1) 1 2), (up1 (up1 (fun _ => 0) 0 6) 1 7), (up1 (up1 (fun _ => 0) 0 16) 1 17)) := by
  have k105 : T.k 105 = 317 := (h.1 105 (by decide)).1
  have k106 : T.k 106 = 258 := (h.1 106 (by decide)).1
  have v106 : T.v 106 = 7 := (h.1 106 (by decide)).2
  have k107 : T.k 107 = 318 := (h.1 107 (by decide)).1
  have k108 : T.k 108 = 258 := (h.1 108 (by decide)).1
  have v108 : T.v 108 = 2 := (h.1 108 (by decide)).2
  have k109 : T.k 109 = 59 := (h.1 109 (by decide)).1
  exact rl_turn (i := 105) (j := 109) (f := 1) (r := 1) k105 k106 v106 k107 k108 v108 (show ¬ 20 ≤ 2 by decide) (show fndJ (up1 (up1 (fun _ => 0) 0 6) 1 7) 7 0 2 = nI 1 by decide) (show fndJ (up1 (up1 (fun _ => 0) 0 1) 1 2) 2 0 2 = nI 1 by decide) (by decide) (by decide) (Or.inl ⟨k109, rfl, rfl⟩) k109
def bilB (r0 r1 : H3) (u0 u1 u2 : H4) (f0 f1 : H3) : BS := (BSturn (BSturn (BSturn (BSprize (BSprize (BSfist (BSfist (BSrust (BSrust (BSrust (BSrail (BSrail BS0)) (ruU u0) (nI u0.2.1) (nI u0.2.2.1) (nI u0.2.2.2)) (ruU u1) (nI u1.2.1) (nI u1.2.2.1) (nI u1.2.2.2)) (ruU u2) (nI u2.2.1) (nI u2.2.2.1) (nI u2.2.2.2)))) (semC [(259, 5), (326, 0)] 0 1) (semC [(259, 5), (326, 0)] 1 2)) (semC [(259, 5), (326, 0), (259, 2), (319, 0), (259, 4), (62, 0), (323, nI 0), (259, 50), (60, 0), (328, 0)] 2 3) (semC [(259, 5), (326, 0), (259, 2), (319, 0), (259, 4), (62, 0), (323, nI 0), (259, 50), (60, 0), (328, 0)] 3 10)) 0 0 (semT [(259, 5), (326, 0), (259, 2), (319, 0), (259, 4), (62, 0), (323, nI 0), (259, 50), (60, 0), (328, 0)] 10 10)) 1 0 (semT [(259, 5), (326, 0), (259, 2), (319, 0), (259, 4), (62, 0), (323, nI 0), (259, 50), (60, 0), (328, 0), (320, 0), (259, 0), (61, 0)] 10 13)) 1 1 (semT [(259, 5), (326, 0), (259, 2), (319, 0), (259, 4), (62, 0), (323, nI 0), (259, 50), (60, 0), (328, 0), (320, 0), (259, 0), (61, 0)] 13 13))
def bilM (r0 r1 : H3) (u0 u1 u2 : H4) (f0 f1 : H3) : MS := (MSturn (MSturn (MSturn (MSprize (MSprize (MSfist (MSfist (MSrail (MSrail MS0 0 (nI r0.1) (nI r0.2.1) (nI r0.2.2)) 1 (nI r1.1) (nI r1.2.1) (nI r1.2.2)) 0 (nI f0.1) (nI f0.2.1) (nI f0.2.2)) 1 (nI f1.1) (nI f1.2.1) (nI f1.2.2)) 0 (nI 7)) 1 (nI 20)) 0) 1) 2)
theorem bil_rd (hr : okR r0 ∧ okR r1) (hu : okU u0 ∧ okU u1 ∧ okU u2) (hf : okF f0 ∧ okF f1) (h : tokK T r0 r1 u0 u1 u2 f0 f1) : rdLoop T 401 bl0 = ((110, 0, -1), [(259, 5), (326, 0), (259, 2), (319, 0), (259, 4), (62, 0), (323, nI 0), (259, 50), (60, 0), (328, 0), (320, 0), (259, 0), (61, 0)], bilB r0 r1 u0 u1 u2 f0 f1, bilM r0 r1 u0 u1 u2 f0 f1, 3, (up1 (up1 (fun _ => 0) 0 1) 1 2), (up1 (up1 (fun _ => 0) 0 6) 1 7), (up1 (up1 (fun _ => 0) 0 16) 1 17)) := by
  have k0 : T.k 0 ≠ 256 := by rw [(h.1 0 (by decide)).1]; exact (show ¬ (300 : Int32) = 256 by decide)
  have k9 : T.k 9 ≠ 256 := by rw [(h.1 9 (by decide)).1]; exact (show ¬ (300 : Int32) = 256 by decide)
  have k18 : T.k 18 ≠ 256 := by rw [(h.1 18 (by decide)).1]; exact (show ¬ (304 : Int32) = 256 by decide)
  have k28 : T.k 28 ≠ 256 := by rw [(h.1 28 (by decide)).1]; exact (show ¬ (304 : Int32) = 256 by decide)
  have k38 : T.k 38 ≠ 256 := by rw [(h.1 38 (by decide)).1]; exact (show ¬ (304 : Int32) = 256 by decide)
  have k48 : T.k 48 ≠ 256 := by rw [(h.1 48 (by decide)).1]; exact (show ¬ (309 : Int32) = 256 by decide)
  have k57 : T.k 57 ≠ 256 := by rw [(h.1 57 (by decide)).1]; exact (show ¬ (309 : Int32) = 256 by decide)
  have k66 : T.k 66 ≠ 256 := by rw [(h.1 66 (by decide)).1]; exact (show ¬ (313 : Int32) = 256 by decide)
  have k75 : T.k 75 ≠ 256 := by rw [(h.1 75 (by decide)).1]; exact (show ¬ (313 : Int32) = 256 by decide)
  have k91 : T.k 91 ≠ 256 := by rw [(h.1 91 (by decide)).1]; exact (show ¬ (317 : Int32) = 256 by decide)
  have k96 : T.k 96 ≠ 256 := by rw [(h.1 96 (by decide)).1]; exact (show ¬ (317 : Int32) = 256 by decide)
  have k105 : T.k 105 ≠ 256 := by rw [(h.1 105 (by decide)).1]; exact (show ¬ (317 : Int32) = 256 by decide)
  rw [bl_0]
  refine (rdLoop_go (q := 400) (i := 0) (e := -1) rfl k0).trans ?_
  rw [bl_1 hr hu hf h]
  refine (rdLoop_go (q := 399) (i := 9) (e := -1) rfl k9).trans ?_
  rw [bl_2 hr hu hf h]
  refine (rdLoop_go (q := 398) (i := 18) (e := -1) rfl k18).trans ?_
  rw [bl_3 hr hu hf h]
  refine (rdLoop_go (q := 397) (i := 28) (e := -1) rfl k28).trans ?_
  rw [bl_4 hr hu hf h]
  refine (rdLoop_go (q := 396) (i := 38) (e := -1) rfl k38).trans ?_
  rw [bl_5 hr hu hf h]
  refine (rdLoop_go (q := 395) (i := 48) (e := -1) rfl k48).trans ?_
  rw [bl_6 hr hu hf h]
  refine (rdLoop_go (q := 394) (i := 57) (e := -1) rfl k57).trans ?_
  rw [bl_7 hr hu hf h]
  refine (rdLoop_go (q := 393) (i := 66) (e := -1) rfl k66).trans ?_
  rw [bl_8 hr hu hf h]
  refine (rdLoop_go (q := 392) (i := 75) (e := -1) rfl k75).trans ?_
  rw [bl_9 hr hu hf h]
  refine (rdLoop_go (q := 391) (i := 91) (e := -1) rfl k91).trans ?_
  rw [bl_10 hr hu hf h]
  refine (rdLoop_go (q := 390) (i := 96) (e := -1) rfl k96).trans ?_
  rw [bl_11 hr hu hf h]
  refine (rdLoop_go (q := 389) (i := 105) (e := -1) rfl k105).trans ?_
  rw [bl_12 hr hu hf h]
  exact rdLoop_end (i := 110) (e := -1) rfl h.2 389
end Bi

