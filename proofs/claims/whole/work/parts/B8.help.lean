/-! the law's helpers: what they owe, and how they are called -/
abbrev wsH (Y : MD) (hh : List (Nat × Nat × Nat × Nat)) : List Cond := Cond.codeWith Y.y Y.cc Y.nL Y.rt hh :: TB
/-- a helper's contract: it returns r, the memory is M1 then; it never throws -/
def HM (G : Gp) (Y : MD) (hh : List (Nat × Nat × Nat × Nat)) (d : Nat) (args : List AV) (M : AMem) (r : Option AV) (M1 : AMem) : Prop := M.hs ≤ M1.hs ∧ M.sl ≤ M1.sl ∧ vx_Met G.l Y.y (wsH Y hh) (rmD d (M1.hs - M.hs) (M1.sl - M.sl)) (va_Pc (args.map vV) (PB G M)) (QB G r M1) (fun _ _ _ => False) (M1.hs - M.hs) (M1.sl - M.sl) (fun q => G.base ≤ q)
theorem hm_ret {G : Gp} {Y : MD} {hh : List (Nat × Nat × Nat × Nat)} {d : Nat} {args : List AV} {M M1 : AMem} {v : Int32} (hpl : plainName Y.y.cls = true) (hlen : (entA args).length ≤ Y.nL) (h : MW G Y d 0 (ent Y.nL args) [] M (fun f M2 => f = .inl (some (vI v)) ∧ M2 = M1)) : HM G Y hh d args M (some (vI v)) M1 := by
  obtain ⟨pcR, lsR, stR, MR, f, hR, hE, hf, hM⟩ := h
  subst hf
  subst hM
  refine ⟨hR.1, hR.2.1, vx_ofWH (cc := Y.cc) (maxL := Y.nL) (ret := Y.rt) (hh := hh) hpl rfl ?_⟩
  intro p e s m args' below meth c s₁ B hml hv
  obtain ⟨rfl, hW, hK, hST⟩ := hv
  have hts0 := atoms_spec (ws := wsH Y hh) B.pre
  have hC : Ctx G Y d p (rmD d (MR.hs - M.hs) (MR.sl - M.sl)) s m (args.map vV).toArray meth c :=
    ⟨B.exec, B.bytes, hml, findClass_of_methodNamed B.named, fun w hw => hts0 w (List.mem_cons_of_mem _ hw), hK, by rw [hW.2.2.1]; exact hW.2.2.2.2, hST, Nat.le_refl _, Nat.le_refl _, (name_of_methodNamed B.named B.method).1⟩
  obtain ⟨lsr, hls, hL⟩ := am_entry (nL := Y.nL) hlen
  rw [lg_entry_eq, hls]
  have hr := B.returns
  have hlocks := B.notSynchronized
  refine vx_ret ?_
  refine hR.2.2 p e _ s m _ below meth c s.heap [] 0 0 lsr _ hC hW va_S.rf hL (by show 0 + _ ≤ MR.hs - M.hs; omega) (by show 0 + _ ≤ MR.sl - M.sl; omega) (fun H' locs' lsr' hW' hS' hL' => ?_)
  rw [Nat.zero_add, Nat.zero_add]
  have hq : ∀ t : State, t.heap = H' → QB G (some (vI v)) MR (args.map vV).toArray s (.returned ((some (vI v)).map vV)) t := fun t ht => ⟨rfl, by rw [ht]; exact hW', hS'.F ht⟩
  obtain ⟨rfl, h1, ty, h3, h4⟩ := hE
  rw [h3] at hr
  exact W.zret B.exec B.bytes hr h4 (fun t ht _ => hq t ht) hS'.2.2 h1
section XTb
variable {p : Program} {l : Launch} {e : Env} {R : Room} {s : State} {m : MethodId} {args : Array Value} {below : List Frame} {meth : Method} {c : Code} {H : Heap} {locs : List Loc} {cells slots : Nat} {Q : State → Prop}
theorem xt_keep {G : Gp} {st₀ t T' : State} {L : List Loc} (h0 : st₀.heap = H) (e1 : T'.heap = t.heap) (hS : va_S (fun q => G.base ≤ q) s.heap H locs) (hL : ∀ q ∈ L, (fun q => G.base ≤ q) q.base) (hF : va_F (fun q => G.base ≤ q) st₀ t) : va_S (fun q => G.base ≤ q) s.heap T'.heap (locs ++ L) := by
  obtain ⟨hz, hk⟩ := hF
  rw [h0] at hz hk
  exact ⟨Nat.le_trans hS.1 (by rw [e1]; exact hz), fun q h1 h2 => by
      rw [e1, hk q (Nat.lt_of_lt_of_le h1 hS.1) h2]
      exact hS.2.1 q h1 h2, fun q hq => by
      rcases List.mem_append.mp hq with h | h
      · exact hS.2.2 q h
      · exact hL q h⟩
theorem xt_tail {G : Gp} {pc mc ms : Nat} {lsr : Array Slot} {rest st0 : List Value} {M1 : AMem} {E : String} (hr : vx_Run p l e R s m args below meth c H locs cells slots mc ms (F0 m pc lsr st0) rest (fun _ _ _ => False) (xt_X G E M1) (fun q => G.base ≤ q)) (hS : va_S (fun q => G.base ≤ q) s.heap H locs) (kk : ∀ (q : Addr) (ce : Cell) (H1 : Heap) (locs1 : List Loc), Wd G M1 H1 → va_S (fun q => G.base ≤ q) s.heap H1 locs1 → H1[q]? = some ce → ce.vm = .none → s.vm.findClass E = some ce.cls → vx_W p l e R s m args below meth c H1 locs1 (cells + mc) (slots + ms) Q (F0 m pc lsr rest) q) : W p l e R s m args below meth c H locs cells slots Q (F0 m pc lsr st0) := by
  intro T hT X
  rcases hr T hT X with ⟨v, st₀, t, T', L, h0, X', hL, e1, e2, hq, st⟩ | ⟨q, st₀, t, T', L, E', ce, h0, X', hL, e1, e2, ⟨hE, hw, hF⟩, hce, hcv, hcl, st⟩
  · exact hq.elim
  · subst hE
    obtain ⟨t2, a1, b1⟩ := kk q ce T'.heap (locs ++ L) (by rw [e1]; exact hw) (xt_keep h0 e1 hS hL hF) (by rw [e1]; exact hce) hcv hcl T' rfl X'
    exact ⟨t2, st.trans a1, b1⟩
theorem xt_tailR {G : Gp} {pc mc ms : Nat} {lsr : Array Slot} {rest st0 : List Value} {r : Option AV} {M1 : AMem} {a : Array Value} (hr : vx_Run p l e R s m args below meth c H locs cells slots mc ms (F0 m pc lsr st0) rest (QB G r M1 a) (fun _ _ _ => False) (fun q => G.base ≤ q)) (hS : va_S (fun q => G.base ≤ q) s.heap H locs) (kk : ∀ (H1 : Heap) (locs1 : List Loc), Wd G M1 H1 → va_S (fun q => G.base ≤ q) s.heap H1 locs1 → W p l e R s m args below meth c H1 locs1 (cells + mc) (slots + ms) Q (F0 m (pc + 3) lsr ((r.map vV).toList ++ rest))) : W p l e R s m args below meth c H locs cells slots Q (F0 m pc lsr st0) := by
  intro T hT X
  rcases hr T hT X with ⟨v, st₀, t, T', L, h0, X', hL, e1, e2, ⟨hv, hw, hF⟩, stp⟩ | ⟨q, st₀, t, T', L, E', ce, h0, X', hL, e1, e2, hq, hce, hcv, hcl, st⟩
  · cases hv
    obtain ⟨t2, a1, b1⟩ := kk T'.heap (locs ++ L) (by rw [e1]; exact hw) (xt_keep h0 e1 hS hL hF) T' rfl X'
    exact ⟨t2, stp t2 a1, b1⟩
  · exact hq.elim
end XTb
theorem xt_help {G : Gp} {Y Yc : MD} {hh : List (Nat × Nat × Nat × Nat)} {d d' ci pcC index n k b : Nat} {As st0 args : List AV} {M M1 : AMem} {v : Int32} {pre suf : List ExceptionTableEntry} {z : ExceptionTableEntry} (hG : okG G) (hX : KX G) (hcw : Cond.codeWith Y.y Y.cc Y.nL Y.rt hh ∈ TB) (hpl : plainName Y.y.cls = true) (hlen : (entA args).length ≤ Y.nL)
    (hRe : Reach G Y d 0 (ent Y.nL args) [] M pcC (ent Y.nL args) (As.reverse ++ vR b :: st0) M) (hd : decode Y.cc pcC = .ok (.invokevirtual index, 3)) (hl : MC 0 Yc n) (hlk : Cond.methodLink Y.y.cls index Yc.y ∈ TB) (hn : As.length = n) (hK : M.K b = ci + 1) (hcl : ∃ T N, vwCl[ci]? = some (Yc.y.cls, T, N)) (hc20 : ci + 1 < 20) (hdd : d' + 1 ≤ d) (hst : (st0.map vC).sum ≤ 8)
    (hle : M.hs ≤ M1.hs ∧ M.sl ≤ M1.sl) (hM : vx_Met G.l Yc.y (wsY Yc) (rmD d' (M1.hs - M.hs) (M1.sl - M.sl)) (va_Pc ((vR b :: As).map vV) (PB G M)) (fun _ _ _ _ => False) (xt_X G (xE k) M1) (M1.hs - M.hs) (M1.sl - M.sl) (fun q => G.base ≤ q))
    (hsplit : tableOf hh = pre ++ z :: suf) (hpass : ∀ w ∈ pre, w.catchType ≠ 0 ∧ ∃ nm, Cond.classLink Y.y.cls w.catchType nm ∈ TB ∧ ∀ U, STX G.base U → va_Nc (xE k) nm U) (hcov : covers z pcC = true) (h0 : z.catchType ≠ 0) (hlink : Cond.classLink Y.y.cls z.catchType (xE k) ∈ TB) (hcast : Cond.castable (xE k) (xE k) ∈ XN)
    (hH : ∀ q, MW G Y d z.handlerPc (ent Y.nL args) [vR q] M1 (fun f M2 => f = .inl (some (vI v)) ∧ M2 = M1)) : HM G Y hh d args M (some (vI v)) M1 := by
  refine ⟨hle.1, hle.2, vx_ofWH (cc := Y.cc) (maxL := Y.nL) (ret := Y.rt) (hh := hh) hpl rfl ?_⟩
  intro p e s m args' below meth c s₁ B hml hv
  obtain ⟨rfl, hW, hKK, hST⟩ := hv
  have hts0 := atoms_spec (ws := wsH Y hh) B.pre
  have hts : ∀ w ∈ TB, w.before (args.map vV).toArray s = true := fun w hw => hts0 w (List.mem_cons_of_mem _ hw)
  have hown : s.vm.findClass Y.y.cls = some m.cls := findClass_of_methodNamed B.named
  have hC : Ctx G Y d p (rmD d (M1.hs - M.hs) (M1.sl - M.sl)) s m (args.map vV).toArray meth c :=
    ⟨B.exec, B.bytes, hml, hown, hts, hKK, by rw [hW.2.2.1]; exact hW.2.2.2.2, hST, Nat.le_refl _, Nat.le_refl _, (name_of_methodNamed B.named B.method).1⟩
  have htab : c.exceptionTable.toList = tableOf hh := vx_table (x := Y.y) B (hts _ hcw)
  have hSX := hX s hST.2
  obtain ⟨lsr, hls, hL⟩ := am_entry (nL := Y.nL) hlen
  rw [lg_entry_eq, hls]
  have hr := B.returns
  have hlocks := B.notSynchronized
  have hx := B.exec
  have hb := B.bytes
  refine vx_ret ?_
  refine hRe.2.2 p e _ s m _ below meth c s.heap [] 0 0 lsr _ hC hW va_S.rf hL (by omega) (by omega) (fun H' locs' lsr' hW' hS' hL' => ?_)
  obtain ⟨l1, l2, l3, l4, l5, l6, l8, l9⟩ := hl
  obtain ⟨T, N, hcl⟩ := hcl
  obtain ⟨q, hq⟩ := am_in hW' (show M.K b ≠ 0 by omega)
  rw [am_cell_obj hK hc20] at hq
  have hrecv := va_recv hKK hW'.1 hcl hq
  have hstk : ((As.reverse ++ vR b :: st0).map vV) = (As.map vV).reverse ++ Value.ref b :: st0.map vV := by rw [List.map_append, List.map_reverse]; rfl
  have hp : PreV s H' Yc.y.cls b (va_Pc ((vR b :: As).map vV) (PB G M)) (As.map vV) := ⟨am_blind hG, hrecv, fun U hU hW1 => ⟨rfl, am_PB hG hC hW' hS' hU hW1⟩⟩
  have hrm : (rmD d' (M1.hs - M.hs) (M1.sl - M.sl)).frames + 1 ≤ (rmD d (M1.hs - M.hs) (M1.sl - M.sl)).frames ∧ 8 + (Yc.nL + 11) + (rmD d' (M1.hs - M.hs) (M1.sl - M.sl)).locals ≤ (rmD d (M1.hs - M.hs) (M1.sl - M.sl)).locals := by
    refine ⟨?_, ?_⟩
    · show d' + 2 + 1 ≤ d + 2
      omega
    · show 8 + (Yc.nL + 11) + (d' + 2) * 40 ≤ (d + 2) * 40
      have : (d' + 3) * 40 ≤ (d + 2) * 40 := Nat.mul_le_mul_right 40 (by omega)
      omega
  have hmon : 2 * (F0 m pcC lsr' ((As.reverse ++ vR b :: st0).map vV)).monitorRoom + ((st0.map vV).map fun v => v.category).sum ≤ 8 := by
    show 2 * 0 + _ ≤ 8
    rw [am_sum]
    omega
  have hS5 : CallFix p m c Y.cc Y.nL s (args.map vV).toArray TB Y.y.cls := ⟨hx, hb, hml, hown, hts⟩
  have kk : ∀ (q : Addr) (ce : Cell) (H1 : Heap) (locs1 : List Loc), Wd G M1 H1 → va_S (fun q => G.base ≤ q) s.heap H1 locs1 → H1[q]? = some ce → ce.vm = .none → s.vm.findClass (xE k) = some ce.cls → vx_W p G.l e (rmD d (M1.hs - M.hs) (M1.sl - M.sl)) s m (args.map vV).toArray below meth c H1 locs1 (0 + (M.hs - M.hs) + (M1.hs - M.hs)) (0 + (M.sl - M.sl) + (M1.sl - M.sl)) (MQ below (QB G (some (vI v)) M1) (args.map vV).toArray s (M1.hs - M.hs) (M1.sl - M.sl) (fun q => G.base ≤ q)) (F0 m pcC lsr' (st0.map vV)) q := by
    intro q ce H1 locs1 hW1 hS1 hce hcv hcl1
    refine vx_catch (own := Y.y.cls) (name := xE k) hown pre z suf (htab.trans hsplit) (fun w hw => ?_) hcov h0 (hts _ hlink) (XN_mv (XN_k _ hcast) (Vm.Alike.refl _) (hSX.2.2.1 _ hcast)) hce hcv hcl1 ?_
    · obtain ⟨n1, nm, n2, n3⟩ := hpass w hw
      exact Or.inr ⟨n1, nm, hts _ n2, n3 s hSX⟩
    obtain ⟨pcR, lsR, stR, MR, f, hR2, hE2, hf, hM2⟩ := hH q
    subst hf
    subst hM2
    obtain ⟨rfl, h1, ty, h3, h4⟩ := hE2
    rw [h3] at hr
    refine hR2.2.2 p e _ s m _ below meth c H1 locs1 _ _ lsr' _ hC hW1 hS1 hL' (by show 0 + _ + _ + _ ≤ MR.hs - M.hs; omega) (by show 0 + _ + _ + _ ≤ MR.sl - M.sl; omega) (fun H2 locs2 lsr2 hW2 hS2 hL2 => ?_)
    have c1 : 0 + (M.hs - M.hs) + (MR.hs - M.hs) + (MR.hs - MR.hs) = MR.hs - M.hs := by omega
    have c2 : 0 + (M.sl - M.sl) + (MR.sl - M.sl) + (MR.sl - MR.sl) = MR.sl - M.sl := by omega
    rw [c1, c2]
    exact W.zret hx hb hr h4 (fun t ht _ => ⟨rfl, by rw [ht]; exact hW2, hS2.F ht⟩) hS2.2.2 h1
  have hf2 : 0 + (M.hs - M.hs) + (M1.hs - M.hs) ≤ (rmD d (M1.hs - M.hs) (M1.sl - M.sl)).cells ∧ 0 + (M.sl - M.sl) + (M1.sl - M.sl) ≤ (rmD d (M1.hs - M.hs) (M1.sl - M.sl)).slots := by
    refine ⟨?_, ?_⟩
    · show 0 + (M.hs - M.hs) + (M1.hs - M.hs) ≤ M1.hs - M.hs
      omega
    · show 0 + (M.sl - M.sl) + (M1.sl - M.sl) ≤ M1.sl - M.sl
      omega
  exact xt_tail (vx_runV (As := As.map vV) (rest := st0.map vV) hS5 hM ⟨⟨rfl, rfl, hrm.1, hrm.2, am_pay hts l1, List.mem_cons_self, hts _ l1, hts _ l2, l3, am_npar l4, hts _ hlk⟩, hts _ l8, hts _ l9⟩ hp rfl (by rw [List.length_map]; exact hn) hL'.1 hstk hmon hd hf2) hS' kk
section XTc
variable {G : Gp} {Y Yc : MD} {d d' pc : Nat} {ls : List (Option AV)} {st : List AV} {M : AMem} {Q : (Option AV ⊕ Nat) → AMem → Prop}
/-- a call of a helper -/
theorem am_callH {index n : Nat} {hh : List (Nat × Nat × Nat × Nat)} {As : List AV} {r : Option AV} {M1 : AMem} (hG : okG G) (hd : decode Y.cc pc = .ok (.invokestatic index, 3)) (hcw : Cond.codeWith Yc.y Yc.cc Yc.nL Yc.rt hh ∈ TB) (hini : Cond.initialized Yc.y.cls ∈ TB) (hcls : Yc.y.cls ≠ "java/lang/invoke/MethodHandle" ∧ Yc.y.cls ≠ "java/lang/invoke/VarHandle") (hpar : (parseMethodDescriptor Yc.y.desc).map (fun d => d.parameters.length) = some n) (hlk : Cond.methodLink Y.y.cls index Yc.y ∈ TB) (hstt : Cond.static Yc.y ∈ TB) (hnl : Yc.nL ≤ 21) (hn : As.length = n) (hdd : d' + 1 ≤ d) (hst : (st.map vC).sum ≤ 8) (hf : HM G Yc hh d' As M r M1) {q : Nat} (hq : pc + 3 = q) (k : MW G Y d q ls (r.toList ++ st) M1 Q) : MW G Y d pc ls (As.reverse ++ st) M Q := by
  subst hq
  obtain ⟨f1, f2, hM⟩ := hf
  refine MW.step ?_ k
  refine ⟨f1, f2, fun p e R s m args below meth c H locs cells slots lsr Q0 hC hW hS hL hcc hss kk => ?_⟩
  have hts := hC.2.2.2.2.1
  have hfr := hC.2.2.2.2.2.2.2.2.1
  have hlo := hC.2.2.2.2.2.2.2.2.2.1
  have hstk : ((As.reverse ++ st).map vV) = (As.map vV).reverse ++ st.map vV := by rw [List.map_append, List.map_reverse]
  have hp : PreS s H (va_Pc (As.map vV) (PB G M)) (As.map vV) := ⟨am_blind hG, fun U hU hW1 => ⟨rfl, am_PB hG hC hW hS hU hW1⟩⟩
  have hrm : (rmD d' (M1.hs - M.hs) (M1.sl - M.sl)).frames + 1 ≤ R.frames ∧ 8 + (Yc.nL + 11) + (rmD d' (M1.hs - M.hs) (M1.sl - M.sl)).locals ≤ R.locals := by
    refine ⟨?_, ?_⟩
    · show d' + 2 + 1 ≤ R.frames
      omega
    · show 8 + (Yc.nL + 11) + (d' + 2) * 40 ≤ R.locals
      have : (d' + 3) * 40 ≤ (d + 2) * 40 := Nat.mul_le_mul_right 40 (by omega)
      omega
  have hmon : 2 * (F0 m pc lsr ((As.reverse ++ st).map vV)).monitorRoom + ((st.map vV).map fun v => v.category).sum ≤ 8 := by
    show 2 * 0 + _ ≤ 8
    rw [am_sum]
    omega
  have hS5 : CallFix p m c Y.cc Y.nL s args TB Y.y.cls := ⟨hC.1, hC.2.1, hC.2.2.1, hC.2.2.2.1, hts⟩
  have hpay : ∀ w ∈ wsH Yc hh, ∀ (a' : Array Value) (U : State), s.WarmedH U.vm → w.before a' U = true := by
    intro w hw a' U hU
    have hin : w ∈ TB := by
      rcases List.mem_cons.mp hw with rfl | h
      · exact hcw
      · exact h
    exact word_at hU (am_goodTB hin) (hts w hin)
  refine xt_tailR (vx_runSX (As := As.map vV) (rest := st.map vV) hS5 hM ⟨⟨rfl, rfl, hrm.1, hrm.2, hpay, List.mem_cons_self⟩, hts _ hcw, hts _ hini, hcls, am_npar hpar, hts _ hlk, hts _ hstt⟩ hp rfl (by rw [List.length_map]; exact hn) hL.1 hstk hmon hd ⟨hcc, hss⟩) hS (fun H1 locs1 hW1 hS1 => ?_)
  have := kk H1 locs1 lsr hW1 hS1 hL
  rw [List.map_append] at this
  rcases r with _ | v <;> exact this
end XTc

