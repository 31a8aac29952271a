/-! THE ABSTRACT MACHINE, fifth part: calls -/
def entA (args : List AV) : List (Option AV) := args.flatMap (fun v => if vC v = 2 then [some v, none] else [some v])
/-- the locals of a method at its entry -/
def ent (nL : Nat) (args : List AV) : List (Option AV) := entA args ++ List.replicate (nL - (entA args).length) none
theorem am_entA_sl : ∀ args : List AV, (lg_sl (args.map vV)).length = (entA args).length := by
  intro args
  induction args with
  | nil => rfl
  | cons v t ih =>
    have e : ∀ (l : List Value) (x : Value), (lg_sl (x :: l)).length = (if x.category = 2 then 2 else 1) + (lg_sl l).length := by
      intro l x
      unfold lg_sl
      rw [List.flatMap_cons, List.length_append]
      congr 1
      split <;> rfl
    have e2 : (entA (v :: t)).length = (if vC v = 2 then 2 else 1) + (entA t).length := by
      unfold entA
      rw [List.flatMap_cons, List.length_append]
      congr 1
      split <;> rfl
    rw [List.map_cons, e, e2, ih, vV_cat]
theorem am_args : ∀ (args : List AV) (k i : Nat) (v : AV), (entA args)[i]? = some (some v) → (k + i, vV v) ∈ lv_args k (args.map vV) := by
  intro args
  induction args with
  | nil => intro k i v h; simp [entA] at h
  | cons u t ih =>
    intro k i v h
    have e2 : entA (u :: t) = (if vC u = 2 then [some u, none] else [some u]) ++ entA t := by
      unfold entA
      rw [List.flatMap_cons]
    rw [e2] at h
    show (k + i, vV v) ∈ (k, vV u) :: lv_args (if (vV u).category = 2 then k + 2 else k + 1) (t.map vV)
    rw [vV_cat]
    by_cases hc : vC u = 2
    · rw [if_pos hc] at h ⊢
      rcases i with _ | _ | i
      · simp at h
        rw [h]
        exact List.mem_cons_self
      · simp at h
      · refine List.mem_cons_of_mem _ ?_
        have := ih (k + 2) i v (by simpa using h)
        rw [show k + (i + 1 + 1) = k + 2 + i by omega]
        exact this
    · rw [if_neg hc] at h ⊢
      rcases i with _ | i
      · simp at h
        rw [h]
        exact List.mem_cons_self
      · refine List.mem_cons_of_mem _ ?_
        have := ih (k + 1) i v (by simpa using h)
        rw [show k + (i + 1) = k + 1 + i by omega]
        exact this
theorem am_entry {nL : Nat} {args : List AV} (h : (entA args).length ≤ nL) : ∃ ls : Array Slot, (lg_sl (args.map vV) ++ List.replicate (nL - (lg_sl (args.map vV)).length) Slot.unset).toArray = ls ∧ LH ls nL (ent nL args) := by
  refine ⟨_, rfl, ?_⟩
  have hl := lv_entry (args.map vV) (n := nL) (by rw [am_entA_sl]; exact h)
  refine ⟨hl.1, hl.2.1, by simp [ent]; omega, fun i v hv => ?_⟩
  unfold ent at hv
  have hv' : (entA args)[i]? = some (some v) := by
    by_cases hi : i < (entA args).length
    · rw [List.getElem?_append_left hi] at hv
      exact hv
    · rw [List.getElem?_append_right (by omega)] at hv
      have := List.mem_of_getElem? hv
      have := (List.mem_replicate.mp this).2
      cases this
  have := am_args args 0 i v hv'
  rw [Nat.zero_add] at this
  exact hl.2.2 _ this
def PB (G : Gp) (M : AMem) (U : State) : Prop := Wd G M U.heap ∧ va_K G.D vwCl (tysOf G.ca) U ∧ SS G U
def QB (G : Gp) (r : Option AV) (M' : AMem) : Array Value → State → Outcome → State → Prop := fun _ st o t => o = .returned (r.map vV) ∧ Wd G M' t.heap ∧ va_F (fun q => G.base ≤ q) st t
abbrev rmD (d mc ms : Nat) : Room := { frames := d + 2, cells := mc, slots := ms, locals := (d + 2) * 40 }
abbrev wsY (Y : MD) : List Cond := Cond.code Y.y Y.cc Y.nL Y.rt :: TB
/-- a walk from a method's entry to its return is a contract -/
theorem am_met {G : Gp} {Y : MD} {d : Nat} {args : List AV} {M M' : AMem} {pcR : Nat} {lsR : List (Option AV)} {stR : List AV} {r : Option AV} (hpl : plainName Y.y.cls = true) (hlen : (entA args).length ≤ Y.nL) (h : Reach G Y d 0 (ent Y.nL args) [] M pcR lsR stR M') (he : isEnd Y pcR stR (.inl r)) : Met G.l Y.y (wsY Y) (rmD d (M'.hs - M.hs) (M'.sl - M.sl)) (va_Pc (args.map vV) (PB G M)) (QB G r M') (M'.hs - M.hs) (M'.sl - M.sl) (fun q => G.base ≤ q) := by
  refine Met.ofW (cc := Y.cc) (maxL := Y.nL) (ret := Y.rt) hpl rfl ?_
  intro p e s m args' below meth c s₁ B hml hv
  obtain ⟨rfl, hW, hK, hST⟩ := hv
  have hts0 := atoms_spec (ws := wsY Y) B.pre
  have hC : Ctx G Y d p (rmD d (M'.hs - M.hs) (M'.sl - M.sl)) s m (args.map vV).toArray meth c :=
    ⟨B.exec, B.bytes, hml, findClass_of_methodNamed B.named, fun w hw => hts0 w (List.mem_cons_of_mem _ hw), hK, by rw [hW.2.2.1]; exact hW.2.2.2.2, hST, Nat.le_refl _, Nat.le_refl _, (name_of_methodNamed B.named B.method).1⟩
  obtain ⟨lsr, hls, hL⟩ := am_entry (nL := Y.nL) hlen
  rw [lg_entry_eq, hls]
  have hr := B.returns
  have hlocks := B.notSynchronized
  refine h.2.2 p e _ s m _ below meth c s.heap [] 0 0 lsr _ hC hW va_S.rf hL (by show 0 + _ ≤ M'.hs - M.hs; omega) (by show 0 + _ ≤ M'.sl - M.sl; omega) (fun H' locs' lsr' hW' hS' hL' => ?_)
  rw [Nat.zero_add, Nat.zero_add]
  have hq : ∀ t : State, t.heap = H' → QB G r M' (args.map vV).toArray s (.returned (r.map vV)) t := fun t ht => ⟨rfl, by rw [ht]; exact hW', hS'.F ht⟩
  rcases r with _ | (x | x | x | x)
  · obtain ⟨h1, rfl, h3⟩ := he
    rw [h3] at hr
    exact W.vret B.exec B.bytes hr (fun t ht _ => hq t ht) hS'.2.2 h1
  · obtain ⟨rfl, h1, ty, h3, h4⟩ := he
    rw [h3] at hr
    exact W.zret B.exec B.bytes hr h4 (fun t ht _ => hq t ht) hS'.2.2 h1
  · obtain ⟨rfl, h1, h3⟩ := he
    rw [h3] at hr
    exact W.lret B.exec B.bytes hr (fun t ht _ => hq t ht) hS'.2.2 h1
  · obtain ⟨rfl, h1, h3⟩ := he
    rw [h3] at hr
    exact W.dret B.exec B.bytes hr (fun t ht _ => hq t ht) hS'.2.2 h1
  · obtain ⟨rfl, h1, rt, h3, h4⟩ := he
    rw [h3] at hr
    refine W.aret B.exec B.bytes hr h4 ?_ (fun t ht _ => hq t ht) hS'.2.2 h1
    rcases x with _ | a
    · exact Or.inl rfl
    · exact Or.inr ⟨a, rfl⟩
section AMcall
variable {p : Program} {l : Launch} {e : Env} {R : Room} {s : State} {m : MethodId} {args : Array Value} {below : List Frame} {meth : Method} {c : Code} {H : Heap} {locs : List Loc} {cells slots : Nat} {Q : State → Prop}
theorem am_tail {G : Gp} {pc mc ms : Nat} {lsr : Array Slot} {rest st0 : List Value} {r : Option AV} {M1 : AMem} {a : Array Value} (hr : va_Run p l e R s m args below meth c H locs cells slots mc ms (F0 m pc lsr st0) rest (QB G r M1 a) (fun q => G.base ≤ q)) (hS : va_S (fun q => G.base ≤ q) s.heap H locs) (kk : ∀ (H1 : Heap) (locs1 : List Loc), Wd G M1 H1 → va_S (fun q => G.base ≤ q) s.heap H1 locs1 → W p l e R s m args below meth c H1 locs1 (cells + mc) (slots + ms) Q (F0 m (pc + 3) lsr ((r.map vV).toList ++ rest))) : W p l e R s m args below meth c H locs cells slots Q (F0 m pc lsr st0) := by
  intro T hT X
  obtain ⟨v, st₀, t, T', L, h0, X', hL, e1, e2, ⟨hv, hw, hz, hk⟩, stp⟩ := hr T hT X
  cases hv
  rw [h0] at hz hk
  obtain ⟨t2, a1, b1⟩ := kk T'.heap (locs ++ L) (by rw [e1]; exact hw) ⟨Nat.le_trans hS.1 (by rw [e1]; exact hz), fun q h1 h2 => by
      rw [e1, hk q (Nat.lt_of_lt_of_le h1 hS.1) h2]
      exact hS.2.1 q h1 h2, fun q hq => by
      rcases List.mem_append.mp hq with h | h
      · exact hS.2.2 q h
      · exact hL q h⟩ T' rfl X'
  exact ⟨t2, stp t2 a1, b1⟩
/-- what a start needs, in any state with that heap -/
theorem am_PB {G : Gp} {Y : MD} {d : Nat} {M : AMem} (hG : okG G) (hC : Ctx G Y d p R s m args meth c) (hW : Wd G M H) (hS : va_S (fun q => G.base ≤ q) s.heap H locs) {U : State} (hU : U.heap = H) (hal : s.WarmedH U.vm) : PB G M U := by
  refine ⟨by rw [hU]; exact hW, va_K.moved hal.alike hC.2.2.2.2.2.1, am_NLwarm hal hC.2.2.2.2.2.2.2.1.1, hG.1 s U hal (fun q hq => ?_) hC.2.2.2.2.2.2.2.1.2⟩
  rw [hU]
  exact hS.2.1 q (Nat.lt_of_lt_of_le hq hC.2.2.2.2.2.2.1) (Nat.not_le.mpr hq)
theorem am_blind {G : Gp} {M : AMem} {av : List Value} (hG : okG G) : FrameBlind (va_Pc av (PB G M)) := by
  intro a U g mk q
  obtain ⟨q0, q1, q2, q3⟩ := q
  exact ⟨q0, q1, va_K.moved (u := U) (U := U.calling g mk a) (Vm.Alike.refl U.vm) q2, am_NLsame (s := U) (U := U.calling g mk a) rfl q3.1, hG.2 U (U.calling g mk a) rfl rfl q3.2⟩
end AMcall
/-- a method as such: kind 0 by its object, 1 static, 2 a constructor -/
def MC (k : Nat) (Yc : MD) (n : Nat) : Prop :=
  (Cond.code Yc.y Yc.cc Yc.nL Yc.rt) ∈ TB ∧ (Cond.initialized Yc.y.cls) ∈ TB ∧ (Yc.y.cls ≠ "java/lang/invoke/MethodHandle" ∧ Yc.y.cls ≠ "java/lang/invoke/VarHandle") ∧ (parseMethodDescriptor Yc.y.desc).map (fun d => d.parameters.length) = some n ∧ plainName Yc.y.cls = true ∧ Yc.nL ≤ 21 ∧
  match k with
  | 0 => (Cond.instanceMethod Yc.y) ∈ TB ∧ (Cond.selects Yc.y.cls Yc.y Yc.y) ∈ TB
  | 1 => (Cond.static Yc.y) ∈ TB
  | _ => (Cond.instanceMethod Yc.y) ∈ TB ∧ Yc.y.name = "<init>" ∧ Yc.rt = none
/-- a method by its place in the constants -/
def ML (k : Nat) (own : String) (index : Nat) (Yc : MD) (n : Nat) : Prop := MC k Yc n ∧ ((Cond.methodLink own index Yc.y) ∈ TB ∨ ∃ host, (Cond.methodLinkNest own index Yc.y host) ∈ NL)
theorem am_goodTB {w : Cond} (h : w ∈ TB) : (w.onTables && w.keeps) = true ∨ ∃ ty, w = .arrayClass ty := good_of_word (List.mem_filter.mp h).2
theorem am_pay {Yc : MD} {args : Array Value} {s : State} (hts : ∀ w ∈ TB, w.before args s = true) (hc : (Cond.code Yc.y Yc.cc Yc.nL Yc.rt) ∈ TB) : ∀ w ∈ wsY Yc, ∀ (a' : Array Value) (U : State), s.WarmedH U.vm → w.before a' U = true := by
  intro w hw a' U hW
  have hin : w ∈ TB := by
    rcases List.mem_cons.mp hw with rfl | h
    · exact hc
    · exact h
  exact word_at hW (am_goodTB hin) (hts w hin)
theorem am_npar {Yc : MD} {n : Nat} (h : (parseMethodDescriptor Yc.y.desc).map (fun d => d.parameters.length) = some n) : ∀ sig, parseMethodDescriptor Yc.y.desc = some sig → n = sig.parameters.length := by
  intro sig hs
  rw [hs] at h
  exact (Option.some.inj h).symm
section AMinv
variable {G : Gp} {Y Yc : MD} {d d' pc : Nat} {ls : List (Option AV)} {st : List AV} {M : AMem} {Q : (Option AV ⊕ Nat) → AMem → Prop}
/-- what a call says: it returns r, the memory is M1 then -/
def Fn (G : Gp) (Y : MD) (d : Nat) (args : List AV) (M : AMem) (Q' : Option AV → AMem → Prop) : Prop := MW G Y d 0 (ent Y.nL args) [] M (fun f M1 => ∃ r, f = .inl r ∧ Q' r M1)
theorem am_sum (st : List AV) : ((st.map vV).map fun v => v.category) = st.map vC := by
  rw [List.map_map]
  exact List.map_congr_left fun v _ => vV_cat v
theorem am_call0 {index n ci : Nat} {As : List AV} {b : Nat} {Q' : Option AV → AMem → Prop} (hG : okG G) (hd : decode Y.cc pc = .ok (.invokevirtual index, 3)) (hl : ML 0 Y.y.cls index Yc n) (hn : As.length = n) (hK : M.K b = ci + 1) (hcl : ∃ T N, vwCl[ci]? = some (Yc.y.cls, T, N)) (hc20 : ci + 1 < 20) (hlen : (entA (vR b :: As)).length ≤ Yc.nL) (hdd : d' + 1 ≤ d) (hst : (st.map vC).sum ≤ 8) (hf : Fn G Yc d' (vR b :: As) M Q') {q : Nat} (hq : pc + 3 = q) (k : ∀ (r : Option AV) (M1 : AMem), Q' r M1 → MW G Y d q ls (r.toList ++ st) M1 Q) : MW G Y d pc ls (As.reverse ++ vR b :: st) M Q := by
  subst hq
  obtain ⟨pcR, lsR, stR, MR, f, hR, hE, r, rfl, hQ⟩ := hf
  obtain ⟨⟨l1, l2, l3, l4, l5, l6, l8, l9⟩, l7⟩ := hl
  have hM := am_met l5 hlen hR hE
  refine MW.step ?_ (k r MR hQ)
  refine ⟨hR.1, hR.2.1, fun p e R s m args below meth c H locs cells slots lsr Q0 hC hW hS hL hcc hss kk => ?_⟩
  have hts := hC.2.2.2.2.1
  have hfr := hC.2.2.2.2.2.2.2.2.1
  have hlo := hC.2.2.2.2.2.2.2.2.2.1
  obtain ⟨T, N, hcl⟩ := hcl
  obtain ⟨q, hq⟩ := am_in hW (show M.K b ≠ 0 by omega)
  rw [am_cell_obj hK hc20] at hq
  have hrecv := va_recv hC.2.2.2.2.2.1 hW.1 hcl hq
  have hstk : ((As.reverse ++ vR b :: st).map vV) = (As.map vV).reverse ++ Value.ref b :: st.map vV := by rw [List.map_append, List.map_reverse]; rfl
  have hav : (vR b :: As).map vV = Value.ref b :: As.map vV := rfl
  have hp : PreV s H Yc.y.cls b (va_Pc ((vR b :: As).map vV) (PB G M)) (As.map vV) := ⟨am_blind hG, hrecv, fun U hU hW1 => ⟨rfl, am_PB hG hC hW hS hU hW1⟩⟩
  have hrm : (rmD d' (MR.hs - M.hs) (MR.sl - M.sl)).frames + 1 ≤ R.frames ∧ 8 + (Yc.nL + 11) + (rmD d' (MR.hs - M.hs) (MR.sl - M.sl)).locals ≤ R.locals := by
    refine ⟨?_, ?_⟩
    · show d' + 2 + 1 ≤ R.frames
      omega
    · show 8 + (Yc.nL + 11) + (d' + 2) * 40 ≤ R.locals
      have : (d' + 3) * 40 ≤ (d + 2) * 40 := Nat.mul_le_mul_right 40 (by omega)
      omega
  have hmon : 2 * (F0 m pc lsr ((As.reverse ++ vR b :: st).map vV)).monitorRoom + ((st.map vV).map fun v => v.category).sum ≤ 8 := by
    show 2 * 0 + _ ≤ 8
    rw [am_sum]
    omega
  have hS5 : CallFix p m c Y.cc Y.nL s args TB Y.y.cls := ⟨hC.1, hC.2.1, hC.2.2.1, hC.2.2.2.1, hts⟩
  rcases l7 with l7 | ⟨host, l7⟩
  · refine am_tail (va_runV (As := As.map vV) (rest := st.map vV) hS5 hM ⟨⟨rfl, rfl, hrm.1, hrm.2, am_pay hts l1, List.mem_cons_self, hts _ l1, hts _ l2, l3, am_npar l4, hts _ l7⟩, hts _ l8, hts _ l9⟩ hp rfl (by rw [List.length_map]; exact hn) hL.1 hstk hmon hd ⟨hcc, hss⟩) hS (fun H1 locs1 hW1 hS1 => ?_)
    have := kk H1 locs1 lsr hW1 hS1 hL
    rw [List.map_append] at this
    rcases r with _ | v <;> exact this
  · refine am_tail (va_runVN (As := As.map vV) (rest := st.map vV) hS5 hM ⟨⟨⟨rfl, rfl, hrm.1, hrm.2, am_pay hts l1, List.mem_cons_self⟩, hts _ l1, hts _ l2, l3, am_npar l4, va_Nw.use rfl (hC.2.2.2.2.2.2.2.1.1 _ l7)⟩, hts _ l8, hts _ l9⟩ hp rfl (by rw [List.length_map]; exact hn) hL.1 hstk hmon hd ⟨hcc, hss⟩) hS (fun H1 locs1 hW1 hS1 => ?_)
    have := kk H1 locs1 lsr hW1 hS1 hL
    rw [List.map_append] at this
    rcases r with _ | v <;> exact this
theorem am_call1 {index n : Nat} {As : List AV} {Q' : Option AV → AMem → Prop} (hG : okG G) (hd : decode Y.cc pc = .ok (.invokestatic index, 3)) (hl : ML 1 Y.y.cls index Yc n) (hn : As.length = n) (hlen : (entA As).length ≤ Yc.nL) (hdd : d' + 1 ≤ d) (hst : (st.map vC).sum ≤ 8) (hf : Fn G Yc d' As M Q') {q : Nat} (hq : pc + 3 = q) (k : ∀ (r : Option AV) (M1 : AMem), Q' r M1 → MW G Y d q ls (r.toList ++ st) M1 Q) : MW G Y d pc ls (As.reverse ++ st) M Q := by
  subst hq
  obtain ⟨pcR, lsR, stR, MR, f, hR, hE, r, rfl, hQ⟩ := hf
  obtain ⟨⟨l1, l2, l3, l4, l5, l6, l8⟩, l7⟩ := hl
  have hM := am_met l5 hlen hR hE
  refine MW.step ?_ (k r MR hQ)
  refine ⟨hR.1, hR.2.1, fun p e R s m args below meth c H locs cells slots lsr Q0 hC hW hS hL hcc hss kk => ?_⟩
  have hts := hC.2.2.2.2.1
  have hfr := hC.2.2.2.2.2.2.2.2.1
  have hlo := hC.2.2.2.2.2.2.2.2.2.1
  have hstk : ((As.reverse ++ st).map vV) = (As.map vV).reverse ++ st.map vV := by rw [List.map_append, List.map_reverse]
  have hp : PreS s H (va_Pc (As.map vV) (PB G M)) (As.map vV) := ⟨am_blind hG, fun U hU hW1 => ⟨rfl, am_PB hG hC hW hS hU hW1⟩⟩
  have hrm : (rmD d' (MR.hs - M.hs) (MR.sl - M.sl)).frames + 1 ≤ R.frames ∧ 8 + (Yc.nL + 11) + (rmD d' (MR.hs - M.hs) (MR.sl - M.sl)).locals ≤ R.locals := by
    refine ⟨?_, ?_⟩
    · show d' + 2 + 1 ≤ R.frames
      omega
    · show 8 + (Yc.nL + 11) + (d' + 2) * 40 ≤ R.locals
      have : (d' + 3) * 40 ≤ (d + 2) * 40 := Nat.mul_le_mul_right 40 (by omega)
      omega
  have hmon : 2 * (F0 m pc lsr ((As.reverse ++ st).map vV)).monitorRoom + ((st.map vV).map fun v => v.category).sum ≤ 8 := by
    show 2 * 0 + _ ≤ 8
    rw [am_sum]
    omega
  have hS5 : CallFix p m c Y.cc Y.nL s args TB Y.y.cls := ⟨hC.1, hC.2.1, hC.2.2.1, hC.2.2.2.1, hts⟩
  rcases l7 with l7 | ⟨host, l7⟩
  · refine am_tail (va_runS (As := As.map vV) (rest := st.map vV) hS5 hM ⟨⟨rfl, rfl, hrm.1, hrm.2, am_pay hts l1, List.mem_cons_self, hts _ l1, hts _ l2, l3, am_npar l4, hts _ l7⟩, hts _ l8⟩ hp rfl (by rw [List.length_map]; exact hn) hL.1 hstk hmon hd ⟨hcc, hss⟩) hS (fun H1 locs1 hW1 hS1 => ?_)
    have := kk H1 locs1 lsr hW1 hS1 hL
    rw [List.map_append] at this
    rcases r with _ | v <;> exact this
  · refine am_tail (va_runSN (As := As.map vV) (rest := st.map vV) hS5 hM ⟨⟨⟨rfl, rfl, hrm.1, hrm.2, am_pay hts l1, List.mem_cons_self⟩, hts _ l1, hts _ l2, l3, am_npar l4, va_Nw.use rfl (hC.2.2.2.2.2.2.2.1.1 _ l7)⟩, hts _ l8, trivial⟩ hp rfl (by rw [List.length_map]; exact hn) hL.1 hstk hmon hd ⟨hcc, hss⟩) hS (fun H1 locs1 hW1 hS1 => ?_)
    have := kk H1 locs1 lsr hW1 hS1 hL
    rw [List.map_append] at this
    rcases r with _ | v <;> exact this
theorem am_call2 {index n : Nat} {As : List AV} {b : Nat} {Q' : Option AV → AMem → Prop} (hG : okG G) (hd : decode Y.cc pc = .ok (.invokespecial index, 3)) (hl : ML 2 Y.y.cls index Yc n) (hn : As.length = n) (hlen : (entA (vR b :: As)).length ≤ Yc.nL) (hdd : d' + 1 ≤ d) (hst : (st.map vC).sum ≤ 8) (hf : Fn G Yc d' (vR b :: As) M Q') {q : Nat} (hq : pc + 3 = q) (k : ∀ (r : Option AV) (M1 : AMem), Q' r M1 → MW G Y d q ls (r.toList ++ st) M1 Q) : MW G Y d pc ls (As.reverse ++ vR b :: st) M Q := by
  subst hq
  obtain ⟨pcR, lsR, stR, MR, f, hR, hE, r, rfl, hQ⟩ := hf
  obtain ⟨⟨l1, l2, l3, l4, l5, l6, l8, l9, l10⟩, l7⟩ := hl
  have hM := am_met l5 hlen hR hE
  have hWS : wsY Yc = Cond.code Yc.y Yc.cc Yc.nL none :: TB := by unfold wsY; rw [l10]
  refine MW.step ?_ (k r MR hQ)
  refine ⟨hR.1, hR.2.1, fun p e R s m args below meth c H locs cells slots lsr Q0 hC hW hS hL hcc hss kk => ?_⟩
  have hts := hC.2.2.2.2.1
  have hfr := hC.2.2.2.2.2.2.2.2.1
  have hlo := hC.2.2.2.2.2.2.2.2.2.1
  have hpay := am_pay hts l1
  have hcw : Cond.code Yc.y Yc.cc Yc.nL none ∈ wsY Yc := by rw [hWS]; exact List.mem_cons_self
  have hcb : (Cond.code Yc.y Yc.cc Yc.nL none).before args s = true := by have := hts _ l1; rw [l10] at this; exact this
  have hstk : ((As.reverse ++ vR b :: st).map vV) = (As.map vV).reverse ++ Value.ref b :: st.map vV := by rw [List.map_append, List.map_reverse]; rfl
  have hp : PreS s H (va_Pc ((vR b :: As).map vV) (PB G M)) (Value.ref b :: As.map vV) := ⟨am_blind hG, fun U hU hW1 => ⟨rfl, am_PB hG hC hW hS hU hW1⟩⟩
  have hrm : (rmD d' (MR.hs - M.hs) (MR.sl - M.sl)).frames + 1 ≤ R.frames ∧ 8 + (Yc.nL + 11) + (rmD d' (MR.hs - M.hs) (MR.sl - M.sl)).locals ≤ R.locals := by
    refine ⟨?_, ?_⟩
    · show d' + 2 + 1 ≤ R.frames
      omega
    · show 8 + (Yc.nL + 11) + (d' + 2) * 40 ≤ R.locals
      have : (d' + 3) * 40 ≤ (d + 2) * 40 := Nat.mul_le_mul_right 40 (by omega)
      omega
  have hmon : 2 * (F0 m pc lsr ((As.reverse ++ vR b :: st).map vV)).monitorRoom + ((st.map vV).map fun v => v.category).sum ≤ 8 := by
    show 2 * 0 + _ ≤ 8
    rw [am_sum]
    omega
  have hS5 : CallFix p m c Y.cc Y.nL s args TB Y.y.cls := ⟨hC.1, hC.2.1, hC.2.2.1, hC.2.2.2.1, hts⟩
  rcases l7 with l7 | ⟨host, l7⟩
  · refine am_tail (va_runI (As := As.map vV) (rest := st.map vV) hS5 hM ⟨⟨rfl, rfl, hrm.1, hrm.2, hpay, hcw, hcb, hts _ l2, l3, am_npar l4, hts _ l7⟩, l9, hts _ l8⟩ hp rfl (by rw [List.length_map]; exact hn) hL.1 hstk hmon hd ⟨hcc, hss⟩) hS (fun H1 locs1 hW1 hS1 => ?_)
    have := kk H1 locs1 lsr hW1 hS1 hL
    rw [List.map_append] at this
    rcases r with _ | v <;> exact this
  · refine am_tail (va_runIN (As := As.map vV) (rest := st.map vV) hS5 hM ⟨⟨⟨rfl, rfl, hrm.1, hrm.2, hpay, hcw⟩, hcb, hts _ l2, l3, am_npar l4, va_Nw.use rfl (hC.2.2.2.2.2.2.2.1.1 _ l7)⟩, l9, hts _ l8⟩ hp rfl (by rw [List.length_map]; exact hn) hL.1 hstk hmon hd ⟨hcc, hss⟩) hS (fun H1 locs1 hW1 hS1 => ?_)
    have := kk H1 locs1 lsr hW1 hS1 hL
    rw [List.map_append] at this
    rcases r with _ | v <;> exact this
/-- Object.<init> -/
theorem am_objInit {index a : Nat} (hd : decode Y.cc pc = .ok (.invokespecial index, 3)) (h1 : Cond.methodLink Y.y.cls index Lib.objectInit ∈ TB) (h2 : Cond.instanceMethod Lib.objectInit ∈ TB) (h3 : Cond.code Lib.objectInit ⟨#[0xb1]⟩ 1 none ∈ TB) (hst : (st.map vC).sum ≤ 8) {q : Nat} (hq : pc + 3 = q) (k : MW G Y d q ls st M Q) : MW G Y d pc ls (vR a :: st) M Q := by
  subst hq
  refine MW.step (am_read2 (pc1 := pc + 3) (st1' := st) fun {p e R s m args below meth c H locs cells slots lsr Q0} hC hW hL hcl hsl kk => ?_) k
  have hts := hC.2.2.2.2.1
  have hfr := hC.2.2.2.2.2.2.2.2.1
  have hlo := hC.2.2.2.2.2.2.2.2.2.1
  refine W.objInit hC.1 hC.2.1 hC.2.2.2.1 (hts _ h1) (hts _ h2) (hts _ h3) rfl ?_ (rest := st.map vV) rfl hd (by omega) ?_ kk
  · show lsr.size = _
    rw [hL.1, hC.2.2.1]
  · show 2 * 0 + ((st.map vV).map fun v => v.category).sum + 12 ≤ R.locals
    rw [am_sum]
    omega
theorem am_mmax {index : Nat} {x y : Int32} (hd : decode Y.cc pc = .ok (.invokestatic index, 3)) (h1 : Cond.methodLink Y.y.cls index Lib.Math.max.name ∈ TB) (h2 : Cond.static Lib.Math.max.name ∈ TB) (h3 : Cond.initialized "java/lang/Math" ∈ TB) (h4 : Cond.code Lib.Math.max.name Lib.Math.max.code 2 (some .int) ∈ TB) (hst : (st.map vC).sum ≤ 8) {q : Nat} (hq : pc + 3 = q) (k : MW G Y d q ls (vI (if x < y then y else x) :: st) M Q) : MW G Y d pc ls (vI y :: vI x :: st) M Q := by
  subst hq
  refine MW.step (am_read2 (pc1 := pc + 3) (st1' := vI (if x < y then y else x) :: st) fun {p e R s m args below meth c H locs cells slots lsr Q0} hC hW hL hcl hsl kk => ?_) k
  have hts := hC.2.2.2.2.1
  have hfr := hC.2.2.2.2.2.2.2.2.1
  have hlo := hC.2.2.2.2.2.2.2.2.2.1
  refine va_mmax hC.1 hC.2.1 (by rw [hL.1, hC.2.2.1]) hC.2.2.2.1 (hts _ h1) (hts _ h2) (hts _ h3) (hts _ h4) (by omega) ?_ hcl hsl hd kk
  rw [am_sum]
  omega
theorem am_mmin {index : Nat} {x y : Int32} (hd : decode Y.cc pc = .ok (.invokestatic index, 3)) (h1 : Cond.methodLink Y.y.cls index Lib.Math.min.name ∈ TB) (h2 : Cond.static Lib.Math.min.name ∈ TB) (h3 : Cond.initialized "java/lang/Math" ∈ TB) (h4 : Cond.code Lib.Math.min.name Lib.Math.min.code 2 (some .int) ∈ TB) (hst : (st.map vC).sum ≤ 8) {q : Nat} (hq : pc + 3 = q) (k : MW G Y d q ls (vI (if y < x then y else x) :: st) M Q) : MW G Y d pc ls (vI y :: vI x :: st) M Q := by
  subst hq
  refine MW.step (am_read2 (pc1 := pc + 3) (st1' := vI (if y < x then y else x) :: st) fun {p e R s m args below meth c H locs cells slots lsr Q0} hC hW hL hcl hsl kk => ?_) k
  have hts := hC.2.2.2.2.1
  have hfr := hC.2.2.2.2.2.2.2.2.1
  have hlo := hC.2.2.2.2.2.2.2.2.2.1
  refine va_mmin hC.1 hC.2.1 (by rw [hL.1, hC.2.2.1]) hC.2.2.2.1 (hts _ h1) (hts _ h2) (hts _ h3) (hts _ h4) (by omega) ?_ hcl hsl hd kk
  rw [am_sum]
  omega
theorem am_ldcI {index : Nat} {v : Int32} (hd : decode Y.cc pc = .ok (.ldc index, 2)) (h1 : Cond.constant Y.y.cls index v ∈ TB) {q : Nat} (hq : pc + 2 = q) (k : MW G Y d q ls (vI v :: st) M Q) : MW G Y d pc ls st M Q := by subst hq; exact MW.step (am_read (pc1 := pc + 2) (st1' := vI v :: st) fun hC hW kk => lv_ldc hC.1 hC.2.1 hC.2.2.2.1 (hC.2.2.2.2.1 _ h1) hd kk) k
theorem am_ldcJ {index : Nat} {v : Int64} (hd : decode Y.cc pc = .ok (.ldc2_w index, 3)) (h1 : Cond.constantLong Y.y.cls index v ∈ TB) {q : Nat} (hq : pc + 3 = q) (k : MW G Y d q ls (vJ v :: st) M Q) : MW G Y d pc ls st M Q := by subst hq; exact MW.step (am_read (pc1 := pc + 3) (st1' := vJ v :: st) fun hC hW kk => lv_ldc2 hC.1 hC.2.1 hC.2.2.2.1 (hC.2.2.2.2.1 _ h1) hd kk) k
end AMinv
