/-! THE ABSTRACT MACHINE, fourth part: put rules, arrays, new cells -/
section AMput
variable {G : Gp} {Y : MD} {d pc : Nat} {ls : List (Option AV)} {st : List AV} {M : AMem} {Q : (Option AV ⊕ Nat) → AMem → Prop}
/-- when a field may be written here -/
def FP (Y : MD) (index ci j : Nat) : Prop := fnF ci j = false ∨ (Y.y.name = "<init>" ∧ ∃ C T N, vwCl[ci]? = some (C, T, N) ∧ C = Y.y.cls ∧ (Cond.fieldLink Y.y.cls index (T j).1 (T j).2.1 (T j).2.2.1) ∈ TB)
theorem am_fitI {ci j : Nat} {x : Int32} (hk : kF ci j = 0) (hz : zF ci j = false ∨ x = 0 ∨ x = 1) : ∀ ty : FieldType, am_KD ci j ty = true → narrow ty (vV (vI x)) = vV (vI x) ∧ fits ty (vV (vI x)) = true := by
  intro ty h
  simp only [am_KD, hk] at h
  split at h
  · rename_i hz2
    have e : ty = .boolean := by simpa using h
    subst e
    rcases hz with hz | rfl | rfl
    · rw [hz] at hz2
      cases hz2
    · exact ⟨rfl, rfl⟩
    · exact ⟨rfl, rfl⟩
  · have e : ty = .int := by simpa using h
    subst e
    exact ⟨rfl, rfl⟩
theorem am_fitJ {ci j : Nat} {x : Int64} (hk : kF ci j = 1) : ∀ ty : FieldType, am_KD ci j ty = true → narrow ty (vV (vJ x)) = vV (vJ x) ∧ fits ty (vV (vJ x)) = true := by
  intro ty h
  simp only [am_KD, hk] at h
  have e : ty = .long := by simpa using h
  subst e
  exact ⟨rfl, rfl⟩
theorem am_fitR {ci j : Nat} {a : Nat} (hk : kF ci j = 2) : ∀ ty : FieldType, am_KD ci j ty = true → narrow ty (vV (vR a)) = vV (vR a) ∧ fits ty (vV (vR a)) = true := by
  intro ty h
  simp only [am_KD, hk] at h
  cases ty <;> first | exact ⟨rfl, rfl⟩ | (exact absurd h (by decide))
theorem am_putI {index ci j a : Nat} {x : Int32} (hd : decode Y.cc pc = .ok (.putfield index, 3)) (hf : FL Y.y.cls index ci j) (hk : kF ci j = 0) (hz : zF ci j = false ∨ x = 0 ∨ x = 1) (hfin : FP Y index ci j) (hK : M.K a = ci + 1) {q : Nat} (hq : pc + 3 = q) (k : MW G Y d q ls st (M.sI a j x) Q) : MW G Y d pc ls (vI x :: vR a :: st) M Q := by
  subst hq
  exact am_putV (M' := M.sI a j x) hd hf hK hfin (am_fitI hk hz) rfl rfl rfl rfl rfl (fun i hi => by
    unfold fv
    split
    · rw [sI_I, if_neg (fun q => hi q.2)]
    · rfl
    · rfl) (by rw [hk]; show Value.int ((M.sI a j x).I a j) = _; rw [sI_I, if_pos ⟨rfl, rfl⟩]; rfl) (fun b hb => ⟨am_up2_ne hb, rfl, rfl⟩) k
theorem am_putJ {index ci j a : Nat} {x : Int64} (hd : decode Y.cc pc = .ok (.putfield index, 3)) (hf : FL Y.y.cls index ci j) (hk : kF ci j = 1) (hfin : FP Y index ci j) (hK : M.K a = ci + 1) {q : Nat} (hq : pc + 3 = q) (k : MW G Y d q ls st (M.sJ a j x) Q) : MW G Y d pc ls (vJ x :: vR a :: st) M Q := by
  subst hq
  exact am_putV (M' := M.sJ a j x) hd hf hK hfin (am_fitJ hk) rfl rfl rfl rfl rfl (fun i hi => by
    unfold fv
    split
    · rfl
    · rw [sJ_J, if_neg (fun q => hi q.2)]
    · rfl) (by rw [hk]; show Value.long ((M.sJ a j x).J a j) = _; rw [sJ_J, if_pos ⟨rfl, rfl⟩]; rfl) (fun b hb => ⟨rfl, am_up2_ne hb, rfl⟩) k
theorem am_putR {index ci j a b : Nat} (hd : decode Y.cc pc = .ok (.putfield index, 3)) (hf : FL Y.y.cls index ci j) (hk : kF ci j = 2) (hfin : FP Y index ci j) (hK : M.K a = ci + 1) {q : Nat} (hq : pc + 3 = q) (k : MW G Y d q ls st (M.sR a j (some b)) Q) : MW G Y d pc ls (vR b :: vR a :: st) M Q := by
  subst hq
  exact am_putV (M' := M.sR a j (some b)) hd hf hK hfin (am_fitR hk) rfl rfl rfl rfl rfl (fun i hi => by
    unfold fv
    split
    · rfl
    · rfl
    · rw [sR_R, if_neg (fun q => hi q.2)]) (by rw [hk]; show va_rf ((M.sR a j (some b)).R a j) = _; rw [sR_R, if_pos ⟨rfl, rfl⟩]; rfl) (fun b hb => ⟨rfl, rfl, am_up2_ne hb⟩) k
theorem am_iaload {a : Nat} {i : Int32} (hd : decode Y.cc pc = .ok (.iaload, 1)) (hK : M.K a = 20) (hin : vp_in i (M.ln a)) {q : Nat} (hq : pc + 1 = q) (k : MW G Y d q ls (vI (M.I a i.toNatClampNeg) :: st) M Q) : MW G Y d pc ls (vI i :: vR a :: st) M Q := by
  subst hq
  refine MW.step (am_read (pc1 := pc + 1) (st1' := vI (M.I a i.toNatClampNeg) :: st) fun hC hW kk => ?_) k
  obtain ⟨q, hq⟩ := am_in hW (show M.K a ≠ 0 by omega)
  rw [am_cell_I hK] at hq
  exact va_iald hC.1 hC.2.1 hC.2.2.2.2.2.1 hW.1 q 0 hq rfl hin hd kk
theorem am_laload {a : Nat} {i : Int32} (hd : decode Y.cc pc = .ok (.laload, 1)) (hK : M.K a = 21) (hin : vp_in i (M.ln a)) {q : Nat} (hq : pc + 1 = q) (k : MW G Y d q ls (vJ (M.J a i.toNatClampNeg) :: st) M Q) : MW G Y d pc ls (vI i :: vR a :: st) M Q := by
  subst hq
  refine MW.step (am_read (pc1 := pc + 1) (st1' := vJ (M.J a i.toNatClampNeg) :: st) fun hC hW kk => ?_) k
  obtain ⟨q, hq⟩ := am_in hW (show M.K a ≠ 0 by omega)
  rw [am_cell_J hK] at hq
  exact va_lald hC.1 hC.2.1 hC.2.2.2.2.2.1 hW.1 q 1 hq rfl hin hd kk
theorem am_tys {ca : Nat → ClassId} {t : Nat} (h : t < 4) : ∃ C : String, (tysOf ca)[t + 2]? = some (ca (t + 2), .object C) ∧ ∃ ci T N, vwCl[ci]? = some (C, T, N) ∧ ci + 20 ≠ 0 := by
  rcases (show t = 0 ∨ t = 1 ∨ t = 2 ∨ t = 3 by omega) with rfl | rfl | rfl | rfl
  · exact ⟨RX6, rfl, 6, _, _, rfl, by decide⟩
  · exact ⟨RX3, rfl, 3, _, _, rfl, by decide⟩
  · exact ⟨RX5, rfl, 5, _, _, rfl, by decide⟩
  · exact ⟨RX10, rfl, 10, _, _, rfl, by decide⟩
theorem am_aaload {a t b : Nat} {i : Int32} (hd : decode Y.cc pc = .ok (.aaload, 1)) (hK : M.K a = 22 + t) (ht : t < 4) (hin : vp_in i (M.ln a)) (hR : M.R a i.toNatClampNeg = some b) {q : Nat} (hq : pc + 1 = q) (k : MW G Y d q ls (vR b :: st) M Q) : MW G Y d pc ls (vI i :: vR a :: st) M Q := by
  subst hq
  refine MW.step (am_read (pc1 := pc + 1) (st1' := vR b :: st) fun hC hW kk => ?_) k
  obtain ⟨q, hq⟩ := am_in hW (show M.K a ≠ 0 by omega)
  rw [am_cell_R hK] at hq
  obtain ⟨C, hC1, -⟩ := am_tys (ca := G.ca) ht
  refine va_aldq hC.1 hC.2.1 hC.2.2.2.2.2.1 hW.1 q (t + 2) hq hC1 hin hd ?_
  rw [hR]
  exact kk
theorem am_alen {a : Nat} {v : Int32} (hd : decode Y.cc pc = .ok (.arraylength, 1)) (hK : 20 ≤ M.K a ∧ M.K a < 26) (hv : nI (M.ln a) = v) {q : Nat} (hq : pc + 1 = q) (k : MW G Y d q ls (vI v :: st) M Q) : MW G Y d pc ls (vR a :: st) M Q := by
  subst hq
  refine MW.step (am_read (pc1 := pc + 1) (st1' := vI v :: st) fun hC hW kk => ?_) k
  obtain ⟨q, hq⟩ := am_in hW (show M.K a ≠ 0 by omega)
  rcases (show M.K a = 20 ∨ M.K a = 21 ∨ ∃ t, M.K a = 22 + t ∧ t < 4 by
    by_cases h1 : M.K a = 20
    · exact Or.inl h1
    · by_cases h2 : M.K a = 21
      · exact Or.inr (Or.inl h2)
      · exact Or.inr (Or.inr ⟨M.K a - 22, by omega, by omega⟩)) with h | h | ⟨t, h, ht⟩
  · rw [am_cell_I h] at hq
    exact va_alen hC.1 hC.2.1 hC.2.2.2.2.2.1 hW.1 q 0 hq (ty := .int) rfl hv hd kk
  · rw [am_cell_J h] at hq
    exact va_alen hC.1 hC.2.1 hC.2.2.2.2.2.1 hW.1 q 1 hq (ty := .long) rfl hv hd kk
  · rw [am_cell_R h] at hq
    obtain ⟨C, hC1, -⟩ := am_tys (ca := G.ca) ht
    exact va_alen hC.1 hC.2.1 hC.2.2.2.2.2.1 hW.1 q (t + 2) hq hC1 hv hd kk
theorem am_iastore {a : Nat} {i x : Int32} (hd : decode Y.cc pc = .ok (.iastore, 1)) (hK : M.K a = 20) (hin : vp_in i (M.ln a)) {q : Nat} (hq : pc + 1 = q) (k : MW G Y d q ls st (M.sI a i.toNatClampNeg x) Q) : MW G Y d pc ls (vI x :: vI i :: vR a :: st) M Q := by
  subst hq
  refine MW.step (am_write (pc1 := pc + 1) (st1' := st) (M' := M.sI a i.toNatClampNeg x) rfl rfl fun hC hW hS kk => ?_) k
  obtain ⟨q, hq⟩ := am_in hW (show M.K a ≠ 0 by omega)
  have hq0 := hq
  rw [am_cell_I hK] at hq
  refine W.iast hC.1 hC.2.1 (hW.1 q _ hq) ((hC.2.2.2.2.2.1.2 0 _ rfl).1 (M.ln a) (fun j => .int (M.I a j))) (fun z => by cases z) (by show ¬ (i < 0 ∨ (arrV _ _ _).slots.size ≤ _); rw [arrV_size]; exact hin) rfl rfl hd fun H1 e1 e2 e3 => ?_
  refine kk H1 _ (am_Wd_set (e := .inl (G.ca 0, (M.ln a, .inl (upd (M.I a) i.toNatClampNeg x)))) hW (show M.K a ≠ 0 by omega) hq0 (hW.1.set hW.2.1 hq ?_ e3) e2 rfl rfl rfl ?_ (fun b hb => am_cell_off rfl rfl (am_up2_ne hb) rfl rfl)) (hS.put e2 e3 (hW.2.1.2 q _ hq))
  · show H1[a]? = some (vp_cell _ _)
    rw [e1, vp_cell_i, vp_cell_i, arrV_store]
    congr 2
    funext z
    by_cases hz : z = i.toNatClampNeg <;> simp [updV, upd, hz]
  · rw [am_cell_I (M := M.sI a i.toNatClampNeg x) hK]
    show Sum.inl (G.ca 0, (M.ln a, Sum.inl (up2 M.I a i.toNatClampNeg x a))) = _
    rw [am_up2_row]
theorem am_lastore {a : Nat} {i : Int32} {x : Int64} (hd : decode Y.cc pc = .ok (.lastore, 1)) (hK : M.K a = 21) (hin : vp_in i (M.ln a)) {q : Nat} (hq : pc + 1 = q) (k : MW G Y d q ls st (M.sJ a i.toNatClampNeg x) Q) : MW G Y d pc ls (vJ x :: vI i :: vR a :: st) M Q := by
  subst hq
  refine MW.step (am_write (pc1 := pc + 1) (st1' := st) (M' := M.sJ a i.toNatClampNeg x) rfl rfl fun hC hW hS kk => ?_) k
  obtain ⟨q, hq⟩ := am_in hW (show M.K a ≠ 0 by omega)
  have hq0 := hq
  rw [am_cell_J hK] at hq
  refine W.last hC.1 hC.2.1 (hW.1 q _ hq) ((hC.2.2.2.2.2.1.2 1 _ rfl).1 (M.ln a) (fun j => .long (M.J a j))) (fun z => by cases z) (by show ¬ (i < 0 ∨ (arrV _ _ _).slots.size ≤ _); rw [arrV_size]; exact hin) rfl rfl hd fun H1 e1 e2 e3 => ?_
  refine kk H1 _ (am_Wd_set (e := .inl (G.ca 1, (M.ln a, .inr (.inl (vp_updL (M.J a) i.toNatClampNeg x))))) hW (show M.K a ≠ 0 by omega) hq0 (hW.1.set hW.2.1 hq ?_ e3) e2 rfl rfl rfl ?_ (fun b hb => am_cell_off rfl rfl rfl (am_up2_ne hb) rfl)) (hS.put e2 e3 (hW.2.1.2 q _ hq))
  · show H1[a]? = some (vp_cell _ _)
    rw [e1, vp_cell_l, vp_cell_l, arrV_store]
    congr 2
    funext z
    by_cases hz : z = i.toNatClampNeg <;> simp [updV, vp_updL, hz]
  · rw [am_cell_J (M := M.sJ a i.toNatClampNeg x) hK]
    show Sum.inl (G.ca 1, (M.ln a, Sum.inr (Sum.inl (up2 M.J a i.toNatClampNeg x a)))) = _
    rw [am_up2_rowJ]
theorem am_aastore {a t b ci : Nat} {i : Int32} {C : String} {T : u_T} {N : Nat} (hd : decode Y.cc pc = .ok (.aastore, 1)) (hK : M.K a = 22 + t) (hty : (tysOf G.ca)[t + 2]? = some (G.ca (t + 2), .object C)) (hc : vwCl[ci]? = some (C, T, N)) (hc20 : ci + 1 < 20) (hin : vp_in i (M.ln a)) (hKb : M.K b = ci + 1) {q : Nat} (hq : pc + 1 = q) (k : MW G Y d q ls st (M.sR a i.toNatClampNeg (some b)) Q) : MW G Y d pc ls (vR b :: vI i :: vR a :: st) M Q := by
  subst hq
  refine MW.step (am_write (pc1 := pc + 1) (st1' := st) (M' := M.sR a i.toNatClampNeg (some b)) rfl rfl fun hC hW hS kk => ?_) k
  obtain ⟨q, hq⟩ := am_in hW (show M.K a ≠ 0 by omega)
  obtain ⟨qb, hqb⟩ := am_in hW (show M.K b ≠ 0 by omega)
  have hq0 := hq
  rw [am_cell_R hK] at hq
  rw [am_cell_obj hKb hc20] at hqb
  have hlt : i.toNatClampNeg < M.ln a := Nat.not_le.mp fun q => hin (Or.inr q)
  have h0 : ¬ i < 0 := fun q => hin (Or.inl q)
  have hKK := hC.2.2.2.2.2.1
  obtain ⟨r', hr', cellV, g1, g2, g3, -⟩ := hW.1 qb _ hqb
  have hcls := (hKK.1 ci _ hc).2
  obtain ⟨kA, comp, k1, k2, k3, -⟩ := (hKK.2 (t + 2) _ hty).2
  have hcomp : comp = G.D.1 ci := Option.some.inj (k3.symm.trans hcls.1)
  subst hcomp
  obtain ⟨kC, hkC, -⟩ := hcls.2
  refine W.aast hC.1 hC.2.1 (hW.1 q _ hq) (fun q h => by cases h) (fun h => by cases h) k1 k2 rfl hkC ⟨h0, by show _ < (arrV _ _ _).slots.size; rw [arrV_size]; exact hlt⟩ g1 (fun q h => by rw [g3] at h; cases h) (by rw [g2]; exact hkC) (by rw [g2]; exact va_assign hcls) rfl rfl hd fun H1 e1 e2 e3 => ?_
  refine kk H1 _ (am_Wd_set (e := .inl (G.ca (t + 2), (M.ln a, .inr (.inr (.inr (.inr (va_up (M.R a) i.toNatClampNeg (some b)))))))) hW (show M.K a ≠ 0 by omega) hq0 (hW.1.set hW.2.1 hq ?_ e3) e2 rfl rfl rfl ?_ (fun b hb => am_cell_off rfl rfl rfl rfl (am_up2_ne hb))) (hS.put e2 e3 (hW.2.1.2 q _ hq))
  · show H1[a]? = some (vp_cell _ _)
    rw [e1, vp_cell_q, vp_cell_q, arrV_store]
    congr 2
    funext z
    by_cases hz : z = i.toNatClampNeg
    · subst hz
      simp [updV, va_up, va_rf]
    · simp [updV, va_up, hz]
  · rw [am_cell_R (M := M.sR a i.toNatClampNeg (some b)) hK]
    show Sum.inl (G.ca (t + 2), (M.ln a, Sum.inr (Sum.inr (Sum.inr (Sum.inr (up2 M.R a i.toNatClampNeg (some b) a)))))) = _
    rw [am_up2_rowR]
/-- a cell more, at the heap's end -/
theorem am_Wd_new {G : Gp} {M : AMem} {H H1 : Heap} {kd n : Nat} (h : Wd G M H) (hk : kd ≠ 0) (hat : va_at G.D vwCl (M.hs, cellOf G.ca (M.nw kd n) M.hs) H1) (hz : H1.size = M.hs + 1) (hoff : ∀ q : Nat, q < M.hs → H1[q]? = H[q]?) : Wd G (M.nw kd n) H1 := by
  obtain ⟨hP, hD, hs, hin, hb⟩ := h
  have hlt : ∀ b ∈ M.ad, b < M.hs := fun b hb => by
    have := va_pl_lt (X := []) hP hb
    rw [hs] at this
    exact this
  have hsame : ∀ b, b ≠ M.hs → cellOf G.ca (M.nw kd n) b = cellOf G.ca M b := fun b hb => by
    refine am_cell_off ?_ ?_ ?_ ?_ ?_
    · exact if_neg hb
    · exact if_neg hb
    · funext i
      exact if_neg hb
    · funext i
      exact if_neg hb
    · funext i
      exact if_neg hb
  have hws : wsM G (M.nw kd n) = wsM G M ++ [(M.hs, cellOf G.ca (M.nw kd n) M.hs)] := by
    show (M.ad ++ [M.hs]).map _ = M.ad.map _ ++ _
    rw [List.map_append]
    congr 1
    exact List.map_congr_left fun b hb => by rw [hsame b (Nat.ne_of_lt (hlt b hb))]
  have hP1 : va_P G.D vwCl (wsM G M) H1 := hP.kept (fun k q hk => hoff q.1 (by have := (hP k q hk).lt; rw [hs] at this; exact this))
  refine ⟨?_, ?_, hz, ?_, by show G.base ≤ M.hs + 1; omega⟩
  · rw [hws]
    refine hP1.app (fun k q hk => ?_)
    have hz : k < 1 := (List.getElem?_eq_some_iff.mp hk).1
    rw [show k = 0 by omega] at hk
    cases hk
    exact hat
  · rw [hws]
    exact hD.push hP hs.symm hb
  · intro a ha
    by_cases e : a = M.hs
    · subst e
      exact List.mem_append_right _ List.mem_cons_self
    · refine List.mem_append_left _ (hin a ?_)
      rw [nw_K, if_neg e] at ha
      exact ha
theorem am_S_new {A : Nat → Prop} {H0 H H1 : Heap} {locs : List Loc} (h : va_S A H0 H locs) (hz : H1.size = H.size + 1) (hoff : ∀ q : Nat, q < H.size → H1[q]? = H[q]?) : va_S A H0 H1 locs :=
  ⟨Nat.le_trans h.1 (by omega), fun q h1 h2 => (hoff q (Nat.lt_of_lt_of_le h1 h.1)).trans (h.2.1 q h1 h2), h.2.2⟩
def CN (own : String) (index ci : Nat) : Prop := ∃ (C : String) (T : u_T) (N : Nat) (ty : Nat → FieldType), ClF ci C T N ty ∧ (Cond.classLink own index C) ∈ TB ∧ (Cond.instantiable C N) ∈ TB ∧ (Cond.initialized C) ∈ TB
/-- a row that makes a cell -/
theorem am_make {pc1 kd n : Nat} {st1' : List AV} (h : ∀ {p : Program} {e : Env} {R : Room} {s : State} {m : MethodId} {args : Array Value} {below : List Frame} {meth : Method} {c : Code} {H : Heap} {locs : List Loc} {cells slots : Nat} {lsr : Array Slot} {Q : State → Prop}, Ctx G Y d p R s m args meth c → Wd G M H → va_S (fun q => G.base ≤ q) s.heap H locs → cells + 1 ≤ R.cells → slots + n ≤ R.slots → (∀ (H1 : Heap), Wd G (M.nw kd n) H1 → va_S (fun q => G.base ≤ q) s.heap H1 locs → W p G.l e R s m args below meth c H1 locs (cells + 1) (slots + n) Q (F0 m pc1 lsr (st1'.map vV))) → W p G.l e R s m args below meth c H locs cells slots Q (F0 m pc lsr (st.map vV))) : Reach G Y d pc ls st M pc1 ls st1' (M.nw kd n) :=
  ⟨by rw [nw_hs]; omega, by rw [nw_sl]; omega, fun p e R s m args below meth c H locs cells slots lsr Q hC hW hS hL hc hs kk => by
    have e1 : (M.nw kd n).hs - M.hs = 1 := by rw [nw_hs]; omega
    have e2 : (M.nw kd n).sl - M.sl = n := by rw [nw_sl]; omega
    rw [e1] at hc kk
    rw [e2] at hs kk
    exact h hC hW hS hc hs (fun H1 hW1 hS1 => kk H1 locs lsr hW1 hS1 hL)⟩
theorem am_new {index ci : Nat} (hd : decode Y.cc pc = .ok (.new index, 3)) (hc : CN Y.y.cls index ci) {q : Nat} (hq : pc + 3 = q) (k : MW G Y d q ls (vR M.hs :: st) (M.nw (ci + 1) (nF ci)) Q) : MW G Y d pc ls st M Q := by
  subst hq
  refine MW.step (am_make (pc1 := pc + 3) (st1' := vR M.hs :: st) fun hC hW hS hcl hsl kk => ?_) k
  obtain ⟨C, T, N, ty, ⟨c1, rfl, c3, c4, c5, c6, c7⟩, l1, l2, l3⟩ := hc
  have hts := hC.2.2.2.2.1
  have hKn := hC.2.2.2.2.2.1.1 ci _ c1
  refine W.newcK hC.1 hC.2.1 hC.2.2.2.1 (hts _ l1) (hts _ l2) (hts _ l3) rfl hd hcl hsl hKn.2.1 hW.2.2.1 fun H1 kC hkC e1 z1 o1 => ?_
  refine kk H1 (am_Wd_new hW (by omega) ?_ z1 o1) (am_S_new hS (by rw [z1, hW.2.2.1]) (fun q hq => o1 q (by rw [← hW.2.2.1]; exact hq)))
  rw [am_cell_obj (M := M.nw (ci + 1) (nF ci)) (by rw [nw_K, if_pos rfl]) c7]
  refine ⟨_, c1, (u_born ty hts c3 hKn hkC e1 c4).to (fun j hj => ?_)⟩
  have f3 := (c6 j hj).2.2
  have hg : (objL (M.nw (ci + 1) (nF ci)) ci M.hs)[j]? = some (fv (M.nw (ci + 1) (nF ci)) (kF ci j) M.hs j) := am_objL_get hj
  have hv : vp_V (objL (M.nw (ci + 1) (nF ci)) ci M.hs) j = fv (M.nw (ci + 1) (nF ci)) (kF ci j) M.hs j := by
    unfold vp_V
    rw [List.getD_eq_getElem?_getD, hg]
    rfl
  rw [hv]
  unfold am_KD at f3
  unfold fv
  split at f3
  · rename_i hk
    rw [hk]
    show _ = Value.int ((M.nw (ci + 1) (nF ci)).I M.hs j)
    rw [nw_I, if_pos rfl]
    split at f3
    · have e : ty j = .boolean := by simpa using f3
      rw [e]
      rfl
    · have e : ty j = .int := by simpa using f3
      rw [e]
      rfl
  · rename_i hk
    rw [hk]
    show _ = Value.long ((M.nw (ci + 1) (nF ci)).J M.hs j)
    rw [nw_J, if_pos rfl]
    have e : ty j = .long := by simpa using f3
    rw [e]
    rfl
  · rename_i h1 h2
    have hR : (M.nw (ci + 1) (nF ci)).R M.hs j = none := by rw [nw_R, if_pos rfl]
    split
    · rename_i hk
      exact absurd hk h1
    · rename_i hk
      exact absurd hk h2
    · rw [hR]
      revert f3
      cases ty j <;> first | (intro _; rfl) | (intro h; exact absurd h (by decide))
theorem am_newI {x : Int32} {n : Nat} (hd : decode Y.cc pc = .ok (.newarray .int, 2)) (hx0 : ¬ x < 0) (hn : x.toNatClampNeg = n) (hb : n * 4 ≤ 536870912) {q : Nat} (hq : pc + 2 = q) (k : MW G Y d q ls (vR M.hs :: st) (M.nw 20 n) Q) (hin : Cond.arrayClass .int ∈ TB) : MW G Y d pc ls (vI x :: st) M Q := by
  subst hq
  refine MW.step (am_make (pc1 := pc + 2) (st1' := vR M.hs :: st) fun hC hW hS hcl hsl kk => ?_) k
  refine va_newaK hC.1 hC.2.1 (atype := .int) (hC.2.2.2.2.1 _ hin) rfl hd rfl hx0 hn hb hcl hsl hW.2.2.1 fun H1 cA e1 z1 o1 hAr hNm => ?_
  have hcA : cA = G.ca 0 := Option.some.inj (hNm.symm.trans (hC.2.2.2.2.2.1.2 0 _ rfl).2)
  subst hcA
  refine kk H1 (am_Wd_new hW (by omega) ?_ z1 o1) (am_S_new hS (by rw [z1, hW.2.2.1]) (fun q hq => o1 q (by rw [← hW.2.2.1]; exact hq)))
  rw [am_cell_I (M := M.nw 20 n) (by rw [nw_K, if_pos rfl])]
  show H1[M.hs]? = some (vp_cell _ _)
  rw [e1, vp_cell_i]
  have h2 : (M.nw 20 n).ln M.hs = n := by rw [nw_ln, if_pos rfl]
  rw [h2]
  congr 2
  funext j
  rw [nw_I, if_pos rfl]
  rfl
theorem am_newJ {x : Int32} {n : Nat} (hd : decode Y.cc pc = .ok (.newarray .long, 2)) (hx0 : ¬ x < 0) (hn : x.toNatClampNeg = n) (hb : n * 8 ≤ 536870912) {q : Nat} (hq : pc + 2 = q) (k : MW G Y d q ls (vR M.hs :: st) (M.nw 21 n) Q) (hin : Cond.arrayClass .long ∈ TB) : MW G Y d pc ls (vI x :: st) M Q := by
  subst hq
  refine MW.step (am_make (pc1 := pc + 2) (st1' := vR M.hs :: st) fun hC hW hS hcl hsl kk => ?_) k
  refine va_newaK hC.1 hC.2.1 (atype := .long) (hC.2.2.2.2.1 _ hin) rfl hd rfl hx0 hn hb hcl hsl hW.2.2.1 fun H1 cA e1 z1 o1 hAr hNm => ?_
  have hcA : cA = G.ca 1 := Option.some.inj (hNm.symm.trans (hC.2.2.2.2.2.1.2 1 _ rfl).2)
  subst hcA
  refine kk H1 (am_Wd_new hW (by omega) ?_ z1 o1) (am_S_new hS (by rw [z1, hW.2.2.1]) (fun q hq => o1 q (by rw [← hW.2.2.1]; exact hq)))
  rw [am_cell_J (M := M.nw 21 n) (by rw [nw_K, if_pos rfl])]
  show H1[M.hs]? = some (vp_cell _ _)
  rw [e1, vp_cell_l]
  have h2 : (M.nw 21 n).ln M.hs = n := by rw [nw_ln, if_pos rfl]
  rw [h2]
  congr 2
  funext j
  rw [nw_J, if_pos rfl]
  rfl
theorem am_newR {index t : Nat} {C : String} {x : Int32} {n : Nat} (hd : decode Y.cc pc = .ok (.anewarray index, 3)) (hl : Cond.classLink Y.y.cls index C ∈ TB) (ho : Cond.arrayOver (.object C) ∈ TB) (hty : (tysOf G.ca)[t + 2]? = some (G.ca (t + 2), .object C)) (hx0 : ¬ x < 0) (hn : x.toNatClampNeg = n) (hb : n * 4 ≤ 536870912) {q : Nat} (hq : pc + 3 = q) (k : MW G Y d q ls (vR M.hs :: st) (M.nw (22 + t) n) Q) : MW G Y d pc ls (vI x :: st) M Q := by
  subst hq
  subst hn
  refine MW.step (am_make (pc1 := pc + 3) (st1' := vR M.hs :: st) fun {p e R s m args below meth c H locs cells slots lsr Q0} hC hW hS hcl hsl kk => ?_) k
  refine W.anew hC.1 hC.2.1 hC.2.2.2.1 (hC.2.2.2.2.1 _ hl) (hC.2.2.2.2.1 _ ho) rfl hd rfl hx0 hb hcl hsl fun cA kA comp f1 f2 f3 f4 => ?_
  obtain ⟨_, _, -, -, -, hNm⟩ := (hC.2.2.2.2.2.1.2 (t + 2) _ hty).2
  have hcA : cA = G.ca (t + 2) := Option.some.inj (f1.symm.trans hNm)
  subst hcA
  have hsz := hW.2.2.1
  generalize hH1 : H.push ({ cls := G.ca (t + 2), slots := Array.replicate x.toNatClampNeg .null, vm := .none } : Cell) = H1
  have z1 : H1.size = M.hs + 1 := by rw [← hH1, Array.size_push, hsz]
  have e1 : H1[M.hs]? = some (arrV (G.ca (t + 2)) x.toNatClampNeg (fun _ => .null)) := by rw [← hH1, ← hsz, Array.getElem?_push_size, ← arrV_new]
  have o1 : ∀ q : Nat, q < M.hs → H1[q]? = H[q]? := fun q hq => by rw [← hH1, Array.getElem?_push, if_neg (by omega)]
  rw [hsz]
  refine kk H1 (am_Wd_new hW (by omega) ?_ z1 o1) (am_S_new hS (by rw [z1, hsz]) (fun q hq => o1 q (by rw [← hsz]; exact hq)))
  rw [am_cell_R (M := M.nw (22 + t) x.toNatClampNeg) (by rw [nw_K, if_pos rfl])]
  show H1[M.hs]? = some (vp_cell _ _)
  rw [e1, vp_cell_q]
  have h2 : (M.nw (22 + t) x.toNatClampNeg).ln M.hs = x.toNatClampNeg := by rw [nw_ln, if_pos rfl]
  rw [h2]
  congr 2
  funext j
  rw [nw_R, if_pos rfl]
  rfl
end AMput
