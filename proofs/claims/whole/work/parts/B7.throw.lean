/-! a throw, and its catching in the law's helpers -/
section XTa
variable {p : Program} {l : Launch} {e : Env} {R : Room} {s : State} {m : MethodId} {args : Array Value} {below : List Frame} {meth : Method} {c : Code} {H : Heap} {locs : List Loc} {cells slots : Nat} {Q : State → Prop}
variable {free : Addr → Prop} {ls : Array Slot} {rest : List Value}
variable {Qc : Array Value → State → Outcome → State → Prop} {XC : String → State → State → Prop}
theorem xt_throwS {cc : ByteArray} {pc : Nat} (hexec : p.tables.exec = Jvm.exec) (hb : c.code = cc) (hl : l.stackTraces = false) {own cls text : String} {names : List String} {ik is ic mc ms sa : Nat} {A : Nat → Prop}
    (hown : s.vm.findClass own = some m.cls) (hcls : Bundle.fit cls = true) (hnames : ∀ n ∈ names, Bundle.fit n = true)
    (hk : (Cond.classLink own ik cls).before args s = true) (hini : (Cond.initialized cls).before args s = true) (hstr : vk_R own is text sa s) (hat : ∀ w ∈ vx_atS own ic cls names, w.before args s = true)
    (hgood : ∀ w ∈ Cond.classLink own ik cls :: Cond.initialized cls :: vx_atS own ic cls names, vx_ot w = true)
    (hU : vx_Zq Bundle.tN "UNASSIGNED_STACK" Bundle.steD A s s.heap) (hN : vx_Zq Bundle.tN "SUPPRESSED_SENTINEL" Bundle.listD A s s.heap) (hS : va_S A s.heap H locs) (hsize : ls.size = c.maxLocals)
    (d0 : decode cc pc = .ok (.new ik, 3)) (d3 : decode cc (pc + 3) = .ok (.dup, 1)) (d4 : decode cc (pc + 4) = .ok (.ldc is, 2)) (d6 : decode cc (pc + 6) = .ok (.invokespecial ic, 3)) (d9 : decode cc (pc + 9) = .ok (.athrow, 1))
    (hout : ∀ x ∈ c.exceptionTable.toList, covers x (pc + 9) = false)
    (hRframes : names.length + 3 < R.frames) (hRlocals : (rest.map fun v => v.category).sum + (13 * (names.length + 1) + 43) ≤ R.locals) (hRcells : cells + 1 ≤ R.cells) (hRslots : slots + 6 ≤ R.slots) (hlocks : meth.locks = false)
    (hx : ∀ t : State, s.vm.Alike t.vm → t.heap.size = H.size + 1 → (∀ q : Nat, q < H.size → t.heap[q]? = H[q]?) → XC cls s t)
    (hf : ∀ z ∈ locs, free z.base) (hc : cells + 1 ≤ mc) (hs : slots + 6 ≤ ms) :
    W p l e R s m args below meth c H locs cells slots (vx_MQ below Qc XC args s mc ms free) (F0 m pc ls rest) := by
  intro T hT X
  have htr : e.platform.stackTraces = false := (show e.platform.stackTraces = l.stackTraces by rw [X.admits.platform]).trans hl
  have Y := vx_rebase X (R' := { frames := R.frames, locals := R.locals, cells := 1, slots := 6 }) (Nat.le_refl _) (Nat.le_refl _) hRcells hRslots
  obtain ⟨s', hA⟩ : ∃ z, z = (T.setVm s.vm).setFrames (.invoking m args :: below) := ⟨_, rfl⟩
  rw [← hA] at Y
  have hvm : s'.vm = s.vm := by rw [hA]; rfl
  have hhp : s'.heap = H := by rw [hA]; exact hT
  have hW0 : s.WarmedH s'.vm := by rw [hvm]; exact State.WarmedH.refl s
  have hat' : ∀ w ∈ vx_atS own ic cls names, w.before args s' = true := fun w hw => vx_ot_at hW0 hvm.symm (hgood w (List.mem_cons_of_mem _ (List.mem_cons_of_mem _ hw))) (hat w hw)
  have hk' : (Cond.classLink own ik cls).before args s' = true := vx_ot_at hW0 hvm.symm (hgood _ List.mem_cons_self) hk
  have hini' : (Cond.initialized cls).before args s' = true := vx_ot_at hW0 hvm.symm (hgood _ (List.mem_cons_of_mem _ List.mem_cons_self)) hini
  have hU' : vx_Zq Bundle.tN "UNASSIGNED_STACK" Bundle.steD A s' s'.heap := by rw [hhp]; exact vx_Zq.moved hW0.alike (hU.kept hS.2.1)
  have hN' : vx_Zq Bundle.tN "SUPPRESSED_SENTINEL" Bundle.listD A s' s'.heap := by rw [hhp]; exact vx_Zq.moved hW0.alike (hN.kept hS.2.1)
  have h : ∀ w ∈ Bundle.ownAtoms own ic cls names, w.before args s' = true := vx_own hat' (vx_isRefq hU'.1) (vx_isRefq hN'.1) hU'.2.word hN'.2.word
  have hown' : s'.vm.findClass own = some m.cls := by rw [hvm]; exact hown
  have hins : (Cond.instantiable cls 6).before args s' = true := h _ (by simp [Bundle.ownAtoms])
  obtain ⟨vm₁, cX, kX, hfX, hkX, -, -, X₁, st1⟩ := Y.newCold hexec (own := own) (C := cls) (index := ik) (n := 6) hown' hk' hins hini'
    (g := F0 m pc ls rest) rfl (by rw [hb]; exact d0) (Nat.le_refl _) (Nat.le_refl _)
  generalize hT1 : (T.setVm vm₁).pushCell { cls := cX, slots := kX.instanceTypes.map defaultValue, vm := .none } = T1 at X₁ st1
  have hcat : (Value.ref T.heap.size).category = 1 := rfl
  have hcellA : T1.heap[T.heap.size]? = some (freshCell cX kX) := by rw [← hT1]; exact State.heap_pushCell_size _ _
  have d3' : decode c.code (pc + 3) = .ok (.dup, 1) := by rw [hb]; exact d3
  have d4' : decode c.code (pc + 4) = .ok (.ldc is, 2) := by rw [hb]; exact d4
  have hstr' : vk_R own is text sa s' := vk_R.warm hW0 hstr
  obtain ⟨U, hsteps, hrun, hend, hW, hsame, ce, hce, hO⟩ := X₁.ctorThrowS hexec htr (own := own) (cls := cls) (names := names) (ic := ic) hown' hcls hnames h (fun x hx => nomatch hx) hfX hkX hcellA (by rw [hhp, hT]; exact Nat.le_refl _) (msg := .ref sa) rfl
    (g := { method := m, pc := pc + 6, locals := ls, stack := .ref sa :: .ref T.heap.size :: .ref T.heap.size :: rest, locked := none }) rfl hsize rfl rfl (rest := rest) rfl
    (by rw [hb]; exact d6) (by rw [hb]; exact d9) hout hRframes (by simp only [List.map_cons, List.sum_cons, hcat]; omega) hlocks
  obtain ⟨f1, f2⟩ := vx_frame hsame
  rw [hhp] at f1 f2
  have fz : U.heap.size = H.size + 1 := by
    have z1 : U.heap.size ≤ s'.heap.size + (0 + 1) := hsame.2.2.1
    have z2 : T.heap.size < U.heap.size := (Array.getElem?_eq_some_iff.mp hce).1
    rw [hhp] at z1
    rw [hT] at z2
    omega
  have hWs : s.WarmedH U.vm := State.WarmedH.trans hW0 hW
  have hcl : s.vm.findClass cls = some ce.cls := by
    have h9 := hO.cls
    rw [hvm] at h9
    exact h9
  have hall : s.sameButNew ({ U with vm := s.vm } : State) locs mc ms := by
    subst hA
    obtain ⟨e1, e2⟩ := hsame
    rw [State.setFrames_setFrames] at e1
    have h2 : (T.setVm s.vm).sameButNew ({ U with vm := s.vm } : State) [] (0 + 1) (0 + 6) := ⟨e1, e2⟩
    have h3 := X.same.trans h2
    rw [List.append_nil] at h3
    exact h3.mono hc hs
  refine ⟨U, ?_, .threw T.heap.size, hrun, hend, Or.inr ⟨T.heap.size, rfl, cls, ce, locs, hx U hWs.alike fz (fun q hq => f2 q hq (fun z hz => nomatch hz)), hce, hO.vm, hcl, hWs, hall, hf⟩⟩
  refine st1 _ ?_
  show Steps p.tables e below (T1.setTop { method := m, pc := pc + 3, locals := ls, stack := .ref T.heap.size :: rest, locked := none }) _
  jvm_step X₁.here [X₁.here.top, hexec, d3', Value.category]
  exact X₁.ldcString hexec (own := own) (text := text) (index := is) (a := sa) hown' hstr'.1 hstr'.2
    (g := { method := m, pc := pc + 4, locals := ls, stack := .ref T.heap.size :: .ref T.heap.size :: rest, locked := none }) rfl d4' _ hsteps
end XTa
def xN : List String := ["java/lang/RuntimeException", "java/lang/Exception"]
/-- the three exceptions: name, place of the class, place of its constructor -/
def xE (k : Nat) : String := match k with
  | 0 => "java/lang/IllegalStateException"
  | 1 => "java/lang/IllegalArgumentException"
  | _ => "java/lang/IndexOutOfBoundsException"
def xC (k : Nat) : Nat := match k with
  | 0 => 54
  | 1 => 68
  | _ => 94
def xK (k : Nat) : Nat := match k with
  | 0 => 50
  | 1 => 64
  | _ => 90
def XN : List Cond := [0, 1, 2].flatMap fun k => (vx_atS RX11 (xC k) (xE k) xN).filter (fun w => !goodWord w)
theorem XN_tb : ∀ w ∈ XN, w ∈ lw_tbl := by decide +kernel
def isXN (w : Cond) : Bool := match w with
  | .castable .. => true
  | .declares _ => true
  | _ => false
theorem XN_k : ∀ w ∈ XN, isXN w = true := by decide +kernel
theorem xW_0 : ∀ w ∈ (vx_atS RX11 54 "java/lang/IllegalStateException" ["java/lang/RuntimeException", "java/lang/Exception"]).filter goodWord, w ∈ lw_tbl := by decide +kernel
theorem xW_1 : ∀ w ∈ (vx_atS RX11 68 "java/lang/IllegalArgumentException" ["java/lang/RuntimeException", "java/lang/Exception"]).filter goodWord, w ∈ lw_tbl := by decide +kernel
theorem xW_2 : ∀ w ∈ (vx_atS RX11 94 "java/lang/IndexOutOfBoundsException" ["java/lang/RuntimeException", "java/lang/Exception"]).filter goodWord, w ∈ lw_tbl := by decide +kernel
theorem xW (k : Nat) : ∀ w ∈ (vx_atS RX11 (xC k) (xE k) xN).filter goodWord, w ∈ lw_tbl := by
  rcases k with _ | _ | k
  · exact xW_0
  · exact xW_1
  · exact xW_2
theorem xO (k : Nat) : ∀ w ∈ vx_atS RX11 (xC k) (xE k) xN, vx_ot w = true := by
  have h0 : (vx_atS RX11 54 "java/lang/IllegalStateException" ["java/lang/RuntimeException", "java/lang/Exception"]).all vx_ot = true := by decide +kernel
  have h1 : (vx_atS RX11 68 "java/lang/IllegalArgumentException" ["java/lang/RuntimeException", "java/lang/Exception"]).all vx_ot = true := by decide +kernel
  have h2 : (vx_atS RX11 94 "java/lang/IndexOutOfBoundsException" ["java/lang/RuntimeException", "java/lang/Exception"]).all vx_ot = true := by decide +kernel
  rcases k with _ | _ | k
  · exact fun w hw => List.all_eq_true.mp h0 w hw
  · exact fun w hw => List.all_eq_true.mp h1 w hw
  · exact fun w hw => List.all_eq_true.mp h2 w hw
theorem xM (k : Nat) : ∀ w ∈ (vx_atS RX11 (xC k) (xE k) xN).filter (fun w => !goodWord w), w ∈ XN := fun w hw => by
  refine List.mem_flatMap.mpr ⟨min k 2, ?_, ?_⟩
  · rcases k with _ | _ | k
    · decide
    · decide
    · rw [Nat.min_eq_right (by omega)]
      decide
  · rcases k with _ | _ | k
    · exact hw
    · exact hw
    · rw [Nat.min_eq_right (by omega)]
      exact hw
/-- these words rest on the tables alone, and stay where they grow warmer -/
theorem XN_mv {w : Cond} (h : isXN w = true) {a a' : Array Value} {s U : State} (hv : s.vm.Alike U.vm) (hb : w.before a s = true) : w.before a' U = true := by
  cases w with
  | castable C T => exact (Cond.castable_setVm (args := a) hv C T).trans hb
  | declares x => exact (Cond.declares_setVm (args := a) hv x).trans hb
  | _ => exact absurd h (by simp [isXN])
/-- what of the statics and tables a throw needs -/
def STX (base : Nat) (U : State) : Prop := vx_Zq Bundle.tN "UNASSIGNED_STACK" Bundle.steD (fun q => base ≤ q) U U.heap ∧ vx_Zq Bundle.tN "SUPPRESSED_SENTINEL" Bundle.listD (fun q => base ≤ q) U U.heap ∧ (∀ w ∈ XN, w.before #[] U = true) ∧ va_Nc (xE 1) (xE 2) U ∧ va_Nc (xE 2) (xE 1) U
def KX (G : Gp) : Prop := ∀ U, G.ST U → STX G.base U
theorem xt_at {args : Array Value} {s : State} {k base : Nat} (hts : ∀ w ∈ TB, w.before args s = true) (hX : STX base s) : ∀ w ∈ vx_atS RX11 (xC k) (xE k) xN, w.before args s = true :=
  vx_hat (fun w hw => hts w (List.mem_filter.mpr ⟨xW k w hw, (List.mem_filter.mp hw).2⟩)) (xM k) (fun w hw => XN_mv (XN_k w hw) (Vm.Alike.refl _) (hX.2.2.1 w hw))
/-- one cell more that nothing is known of -/
def AMem.gp (M : AMem) : AMem := mkM M.ad (M.hs + 1) (M.sl + 6) M.K M.ln M.I M.J M.R
theorem gp_mw {S : AMem} {I : Nat → Nat → Int32} {J : Nat → Nat → Int64} {R : Nat → Nat → Option Nat} : (mw S I J R).gp = mw S.gp I J R := rfl
def xt_X (G : Gp) (E : String) (M : AMem) : String → State → State → Prop := fun E' st t => E' = E ∧ Wd G M t.heap ∧ va_F (fun q => G.base ≤ q) st t
theorem Wd.gp {G : Gp} {M : AMem} {H H1 : Heap} (h : Wd G M H) (hz : H1.size = H.size + 1) (ho : ∀ q : Nat, q < H.size → H1[q]? = H[q]?) : Wd G M.gp H1 := by
  obtain ⟨h1, h2, h3, h4, h5⟩ := h
  exact ⟨h1.kept fun k q hq => ho _ (h1 k q hq).lt, h2, by rw [hz, h3]; rfl, h4, Nat.le_succ_of_le h5⟩
/-- a method of the class that throws -/
theorem xt_met {G : Gp} {Y : MD} {d pc k i is : Nat} {tx : String} {args : List AV} {M M' : AMem} {Z : StA} (hZ : KS G Z) (hX : KX G) (hst : G.l.stackTraces = false) (hpl : plainName Y.y.cls = true) (hY : Y.y.cls = RX11) (hlen : (entA args).length ≤ Y.nL) (hi : i < 50) (hlit : litN.getD i ("", 0, "") = (RX11, is, tx)) (hd : 4 ≤ d) (hk : Cond.classLink RX11 (xK k) (xE k) ∈ TB) (hin : Cond.initialized (xE k) ∈ TB)
    (d0 : decode Y.cc pc = .ok (.new (xK k), 3)) (d3 : decode Y.cc (pc + 3) = .ok (.dup, 1)) (d4 : decode Y.cc (pc + 4) = .ok (.ldc is, 2)) (d6 : decode Y.cc (pc + 6) = .ok (.invokespecial (xC k), 3)) (d9 : decode Y.cc (pc + 9) = .ok (.athrow, 1))
    (h : MW G Y d 0 (ent Y.nL args) [] M (fun f M1 => f = .inr pc ∧ M1 = M')) : M.hs ≤ M'.hs ∧ M.sl ≤ M'.sl ∧ vx_Met G.l Y.y (wsY Y) (rmD d (M'.gp.hs - M.hs) (M'.gp.sl - M.sl)) (va_Pc (args.map vV) (PB G M)) (fun _ _ _ _ => False) (xt_X G (xE k) M'.gp) (M'.gp.hs - M.hs) (M'.gp.sl - M.sl) (fun q => G.base ≤ q) := by
  obtain ⟨pcR, lsR, stR, MR, f, hR, hE, hf, hM⟩ := h
  subst hf
  subst hM
  obtain ⟨rfl, rfl⟩ := hE
  have z1 : MR.gp.hs = MR.hs + 1 := rfl
  have z2 : MR.gp.sl = MR.sl + 6 := rfl
  have z3 := hR.1
  have z4 := hR.2.1
  refine ⟨z3, z4, ?_⟩
  refine vx_ofW (cc := Y.cc) (maxL := Y.nL) (ret := Y.rt) hpl rfl ?_
  intro p e s m args' below meth c s₁ B hml hx hv
  obtain ⟨rfl, hW, hK, hST⟩ := hv
  have hts0 := atoms_spec (ws := wsY Y) B.pre
  have hts : ∀ w ∈ TB, w.before (args.map vV).toArray s = true := fun w hw => hts0 w (List.mem_cons_of_mem _ hw)
  have hC : Ctx G Y d p (rmD d (MR.gp.hs - M.hs) (MR.gp.sl - M.sl)) s m (args.map vV).toArray meth c :=
    ⟨B.exec, B.bytes, hml, findClass_of_methodNamed B.named, hts, hK, by rw [hW.2.2.1]; exact hW.2.2.2.2, hST, Nat.le_refl _, Nat.le_refl _, (name_of_methodNamed B.named B.method).1⟩
  obtain ⟨lsr, hls, hL⟩ := am_entry (nL := Y.nL) hlen
  rw [lg_entry_eq, hls]
  have hown : s.vm.findClass RX11 = some m.cls := by rw [← hY]; exact findClass_of_methodNamed B.named
  have hSX := hX s hST.2
  have hstr : vk_R RX11 is tx (Z.k i) s := by
    have := (hZ s hST.2).2.1 i hi
    unfold litF at this
    rw [hlit] at this
    exact this
  refine hR.2.2 p e _ s m _ below meth c s.heap [] 0 0 lsr _ hC hW va_S.rf hL (by show 0 + _ ≤ MR.gp.hs - M.hs; omega) (by show 0 + _ ≤ MR.gp.sl - M.sl; omega) (fun H' locs' lsr' hW' hS' hL' => ?_)
  refine xt_throwS (cc := Y.cc) (own := RX11) (cls := xE k) (text := tx) (names := xN) (sa := Z.k i) (A := fun q => G.base ≤ q) B.exec B.bytes hst hown ?_ (by decide +kernel) (hts _ hk) (hts _ hin) hstr (xt_at hts hSX) ?_ hSX.1 hSX.2.1 hS' (by rw [hL'.1, hml]) d0 d3 d4 d6 d9 (fun x hx' => (hx x hx').elim) ?_ ?_ ?_ ?_ B.notSynchronized (fun t ht hz ho => ⟨rfl, hW'.gp hz ho, ?_⟩) hS'.2.2 ?_ ?_
  · rcases k with _ | _ | k
    · decide +kernel
    · decide +kernel
    · show Bundle.fit "java/lang/IndexOutOfBoundsException" = true
      decide +kernel
  · intro w hw
    rcases List.mem_cons.mp hw with rfl | hw
    · rfl
    · rcases List.mem_cons.mp hw with rfl | hw
      · rfl
      · exact xO k w hw
  · show 2 + 3 < d + 2
    omega
  · show 0 + (13 * (2 + 1) + 43) ≤ (d + 2) * 40
    omega
  · show 0 + (MR.hs - M.hs) + 1 ≤ MR.gp.hs - M.hs
    omega
  · show 0 + (MR.sl - M.sl) + 6 ≤ MR.gp.sl - M.sl
    omega
  · refine ⟨by have := hS'.1; omega, fun q h1 h2 => ?_⟩
    rw [ho q (Nat.lt_of_lt_of_le h1 hS'.1)]
    exact hS'.2.1 q h1 h2
  · omega
  · omega

