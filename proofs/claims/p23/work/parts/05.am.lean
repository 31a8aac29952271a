/-! THE ABSTRACT MACHINE: memory as functions of address and slot, a frame as lists; every rule is a row of the kit. -/
abbrev AV : Type := Int32 ⊕ Int64 ⊕ UInt64 ⊕ Option Nat
abbrev vI (x : Int32) : AV := Sum.inl x
abbrev vJ (x : Int64) : AV := Sum.inr (Sum.inl x)
abbrev vD (x : UInt64) : AV := Sum.inr (Sum.inr (Sum.inl x))
abbrev vR (a : Nat) : AV := Sum.inr (Sum.inr (Sum.inr (some a)))
def vV (v : AV) : Value := match v with
  | .inl x => .int x
  | .inr (.inl x) => .long x
  | .inr (.inr (.inl x)) => .double x
  | .inr (.inr (.inr r)) => va_rf r
def vC (v : AV) : Nat := match v with
  | .inl _ => 1
  | .inr (.inl _) => 2
  | .inr (.inr (.inl _)) => 2
  | .inr (.inr (.inr _)) => 1
theorem vV_cat (v : AV) : (vV v).category = vC v := by
  rcases v with x | x | x | (_ | a) <;> rfl
/-- the memory: our addresses, the heap's size, slots made, kind and length of a cell, its numbers, long numbers, references -/
def AMem : Type := List Nat × Nat × Nat × (Nat → Nat) × (Nat → Nat) × (Nat → Nat → Int32) × (Nat → Nat → Int64) × (Nat → Nat → Option Nat)
def mkM (ad : List Nat) (hs sl : Nat) (K ln : Nat → Nat) (I : Nat → Nat → Int32) (J : Nat → Nat → Int64) (R : Nat → Nat → Option Nat) : AMem := (ad, hs, sl, K, ln, I, J, R)
def AMem.ad (M : AMem) : List Nat := M.1
def AMem.hs (M : AMem) : Nat := M.2.1
def AMem.sl (M : AMem) : Nat := M.2.2.1
def AMem.K (M : AMem) : Nat → Nat := M.2.2.2.1
def AMem.ln (M : AMem) : Nat → Nat := M.2.2.2.2.1
def AMem.I (M : AMem) : Nat → Nat → Int32 := M.2.2.2.2.2.1
def AMem.J (M : AMem) : Nat → Nat → Int64 := M.2.2.2.2.2.2.1
def AMem.R (M : AMem) : Nat → Nat → Option Nat := M.2.2.2.2.2.2.2
def up2 {α : Type} (f : Nat → Nat → α) (a j : Nat) (v : α) : Nat → Nat → α := fun b i => if b = a ∧ i = j then v else f b i
def AMem.sI (M : AMem) (a j : Nat) (v : Int32) : AMem := mkM M.ad M.hs M.sl M.K M.ln (up2 M.I a j v) M.J M.R
def AMem.sJ (M : AMem) (a j : Nat) (v : Int64) : AMem := mkM M.ad M.hs M.sl M.K M.ln M.I (up2 M.J a j v) M.R
def AMem.sR (M : AMem) (a j : Nat) (v : Option Nat) : AMem := mkM M.ad M.hs M.sl M.K M.ln M.I M.J (up2 M.R a j v)
/-- a new cell of kind k and length n, of sz slots, at the heap's end -/
def AMem.nw (M : AMem) (k n : Nat) : AMem := mkM (M.ad ++ [M.hs]) (M.hs + 1) (M.sl + n) (fun b => if b = M.hs then k else M.K b) (fun b => if b = M.hs then n else M.ln b)
  (fun b i => if b = M.hs then 0 else M.I b i) (fun b i => if b = M.hs then 0 else M.J b i) (fun b i => if b = M.hs then none else M.R b i)
theorem sI_ad (M : AMem) (a j : Nat) (v : Int32) : (M.sI a j v).ad = M.ad := rfl
theorem sI_hs (M : AMem) (a j : Nat) (v : Int32) : (M.sI a j v).hs = M.hs := rfl
theorem sI_sl (M : AMem) (a j : Nat) (v : Int32) : (M.sI a j v).sl = M.sl := rfl
theorem sI_K (M : AMem) (a j : Nat) (v : Int32) : (M.sI a j v).K = M.K := rfl
theorem sI_ln (M : AMem) (a j : Nat) (v : Int32) : (M.sI a j v).ln = M.ln := rfl
theorem sI_I (M : AMem) (a j : Nat) (v : Int32) (b i : Nat) : (M.sI a j v).I b i = if b = a ∧ i = j then v else M.I b i := rfl
theorem sI_J (M : AMem) (a j : Nat) (v : Int32) : (M.sI a j v).J = M.J := rfl
theorem sI_R (M : AMem) (a j : Nat) (v : Int32) : (M.sI a j v).R = M.R := rfl
theorem sJ_ad (M : AMem) (a j : Nat) (v : Int64) : (M.sJ a j v).ad = M.ad := rfl
theorem sJ_hs (M : AMem) (a j : Nat) (v : Int64) : (M.sJ a j v).hs = M.hs := rfl
theorem sJ_sl (M : AMem) (a j : Nat) (v : Int64) : (M.sJ a j v).sl = M.sl := rfl
theorem sJ_K (M : AMem) (a j : Nat) (v : Int64) : (M.sJ a j v).K = M.K := rfl
theorem sJ_ln (M : AMem) (a j : Nat) (v : Int64) : (M.sJ a j v).ln = M.ln := rfl
theorem sJ_I (M : AMem) (a j : Nat) (v : Int64) : (M.sJ a j v).I = M.I := rfl
theorem sJ_J (M : AMem) (a j : Nat) (v : Int64) (b i : Nat) : (M.sJ a j v).J b i = if b = a ∧ i = j then v else M.J b i := rfl
theorem sJ_R (M : AMem) (a j : Nat) (v : Int64) : (M.sJ a j v).R = M.R := rfl
theorem sR_ad (M : AMem) (a j : Nat) (v : Option Nat) : (M.sR a j v).ad = M.ad := rfl
theorem sR_hs (M : AMem) (a j : Nat) (v : Option Nat) : (M.sR a j v).hs = M.hs := rfl
theorem sR_sl (M : AMem) (a j : Nat) (v : Option Nat) : (M.sR a j v).sl = M.sl := rfl
theorem sR_K (M : AMem) (a j : Nat) (v : Option Nat) : (M.sR a j v).K = M.K := rfl
theorem sR_ln (M : AMem) (a j : Nat) (v : Option Nat) : (M.sR a j v).ln = M.ln := rfl
theorem sR_I (M : AMem) (a j : Nat) (v : Option Nat) : (M.sR a j v).I = M.I := rfl
theorem sR_J (M : AMem) (a j : Nat) (v : Option Nat) : (M.sR a j v).J = M.J := rfl
theorem sR_R (M : AMem) (a j : Nat) (v : Option Nat) (b i : Nat) : (M.sR a j v).R b i = if b = a ∧ i = j then v else M.R b i := rfl
theorem nw_ad (M : AMem) (k n : Nat) : (M.nw k n).ad = M.ad ++ [M.hs] := rfl
theorem nw_hs (M : AMem) (k n : Nat) : (M.nw k n).hs = M.hs + 1 := rfl
theorem nw_sl (M : AMem) (k n : Nat) : (M.nw k n).sl = M.sl + n := rfl
theorem nw_K (M : AMem) (k n b : Nat) : (M.nw k n).K b = if b = M.hs then k else M.K b := rfl
theorem nw_ln (M : AMem) (k n b : Nat) : (M.nw k n).ln b = if b = M.hs then n else M.ln b := rfl
theorem nw_I (M : AMem) (k n b i : Nat) : (M.nw k n).I b i = if b = M.hs then 0 else M.I b i := rfl
theorem nw_J (M : AMem) (k n b i : Nat) : (M.nw k n).J b i = if b = M.hs then 0 else M.J b i := rfl
theorem nw_R (M : AMem) (k n b i : Nat) : (M.nw k n).R b i = if b = M.hs then none else M.R b i := rfl
/-- how many fields a class has, and of which kind each is: 0 number, 1 long number, 2 reference -/
def nF (ci : Nat) : Nat := match ci with
  | 0 => 2
  | 1 => 5
  | 2 => 19
  | 3 => 10
  | 4 => 7
  | 5 => 6
  | 6 => 7
  | 7 => 5
  | 8 => 2
  | 9 => 5
  | 10 => 4
  | 11 => 6
  | _ => 0
def kF (ci j : Nat) : Nat := match ci with
  | 0 => [2, 0].getD j 0
  | 1 => [2, 2, 2, 0, 0].getD j 0
  | 2 => [2, 2, 2, 2, 2, 2, 2, 2, 0, 0, 0, 0, 0, 0, 0, 0, 0, 0, 0].getD j 0
  | 3 => [1, 0, 0, 0, 0, 0, 0, 0, 0, 0].getD j 0
  | 4 => [2, 0, 0, 0, 0, 0, 0].getD j 0
  | 5 => [1, 0, 0, 0, 0, 0].getD j 0
  | 6 => [2, 1, 0, 0, 0, 0, 0].getD j 0
  | 7 => [2, 2, 0, 0, 0].getD j 0
  | 8 => [2, 0].getD j 0
  | 9 => [2, 2, 2, 2, 0].getD j 0
  | 10 => [0, 0, 0, 0].getD j 0
  | 11 => [2, 2, 2, 2, 2, 0].getD j 0
  | _ => 0
/-- the claim's own: launch, class numbers and slots, array classes, where our cells begin, what holds of the statics -/
abbrev Gp : Type := Launch × va_G × (Nat → ClassId) × Nat × (State → Prop)
def Gp.l (G : Gp) : Launch := G.1
def Gp.D (G : Gp) : va_G := G.2.1
def Gp.ca (G : Gp) : Nat → ClassId := G.2.2.1
def Gp.base (G : Gp) : Nat := G.2.2.2.1
def Gp.ST (G : Gp) : State → Prop := G.2.2.2.2
/-- what holds of the statics goes on holding while nothing below our cells is written -/
def okG (G : Gp) : Prop := (∀ s U : State, s.WarmedH U.vm → (∀ q : Nat, q < G.base → U.heap[q]? = s.heap[q]?) → G.ST s → G.ST U) ∧ ∀ s U : State, s.vm = U.vm → s.heap = U.heap → G.ST s → G.ST U
def am_isN (w : Cond) : Bool := match w with
  | .fieldLinkNest .. => true
  | .methodLinkNest .. => true
  | _ => false
/-- the words on nest mates -/
def NL : List Cond := lw_tbl.filter am_isN
def SS (G : Gp) (s : State) : Prop := (∀ w ∈ NL, va_Nw w s) ∧ G.ST s
theorem am_NLwarm {s U : State} (hW : s.WarmedH U.vm) (h : ∀ w ∈ NL, va_Nw w s) : ∀ w ∈ NL, va_Nw w U := by
  intro w hw
  have h1 := h w hw
  have h2 := (List.mem_filter.mp hw).2
  cases w <;> first | exact va_Nw.warmF hW h1 | exact va_Nw.warmM hW h1 | (exact absurd h2 (by simp [am_isN]))
theorem am_NLsame {s U : State} (hv : s.vm = U.vm) (h : ∀ w ∈ NL, va_Nw w s) : ∀ w ∈ NL, va_Nw w U := by
  intro w hw
  have h1 := h w hw
  have h2 := (List.mem_filter.mp hw).2
  cases w <;> first | exact va_Nw.same rfl hv h1 | (exact absurd h2 (by simp [am_isN]))
theorem am_nlM (i : Nat) {w : Cond} (h : lw_tbl[i]? = some w) (hg : am_isN w = true) : w ∈ NL := List.mem_filter.mpr ⟨List.mem_of_getElem? h, hg⟩
/-- a method: its name, code, number of locals, type of its answer -/
abbrev MD : Type := MethodName × ByteArray × Nat × Option FieldType
def MD.y (Y : MD) : MethodName := Y.1
def MD.cc (Y : MD) : ByteArray := Y.2.1
def MD.nL (Y : MD) : Nat := Y.2.2.1
def MD.rt (Y : MD) : Option FieldType := Y.2.2.2
def tysOf (ca : Nat → ClassId) : List (ClassId × FieldType) := [(ca 0, .int), (ca 1, .long), (ca 2, .object RX6), (ca 3, .object RX3), (ca 4, .object RX5), (ca 5, .object RX10)]
def fv (M : AMem) (k a j : Nat) : Value := match k with
  | 0 => .int (M.I a j)
  | 1 => .long (M.J a j)
  | _ => va_rf (M.R a j)
def objL (M : AMem) (ci a : Nat) : List Value := (List.range (nF ci)).map (fun j => fv M (kF ci j) a j)
/-- kinds: 1 to 15 objects of class kind - 1; 20 int rows, 21 long rows, from 22 on rows of references -/
def cellOf (ca : Nat → ClassId) (M : AMem) (a : Nat) : va_E :=
  if M.K a < 20 then .inr (M.K a - 1, objL M (M.K a - 1) a)
  else if M.K a = 20 then .inl (ca 0, (M.ln a, .inl (M.I a)))
  else if M.K a = 21 then .inl (ca 1, (M.ln a, .inr (.inl (M.J a))))
  else .inl (ca (M.K a - 20), (M.ln a, .inr (.inr (.inr (.inr (M.R a))))))
abbrev wsM (G : Gp) (M : AMem) : va_W := va_pl M.ad (cellOf G.ca M)
def Wd (G : Gp) (M : AMem) (H : Heap) : Prop :=
  va_P G.D vwCl (wsM G M) H ∧ va_D (fun q => G.base ≤ q) (wsM G M) ∧ H.size = M.hs ∧ (∀ a, M.K a ≠ 0 → a ∈ M.ad) ∧ G.base ≤ M.hs
def Ctx (G : Gp) (Y : MD) (d : Nat) (p : Program) (R : Room) (s : State) (m : MethodId) (args : Array Value) (meth : Method) (c : Code) : Prop :=
  p.tables.exec = Jvm.exec ∧ c.code = Y.cc ∧ c.maxLocals = Y.nL ∧ s.vm.findClass Y.y.cls = some m.cls ∧ (∀ w ∈ TB, w.before args s = true) ∧ va_K G.D vwCl (tysOf G.ca) s ∧ G.base ≤ s.heap.size ∧ SS G s ∧ d + 2 ≤ R.frames ∧ (d + 2) * 40 ≤ R.locals ∧ meth.name = Y.y.name
def LH (lsr : Array Slot) (nL : Nat) (ls : List (Option AV)) : Prop := lsr.size = nL ∧ lv_wf lsr ∧ ls.length = nL ∧ ∀ (i : Nat) (v : AV), ls[i]? = some (some v) → lsr[i]? = some (.val (vV v))
/-- in one frame of the method: from one place to another -/
def Reach (G : Gp) (Y : MD) (d pc : Nat) (ls : List (Option AV)) (st : List AV) (M : AMem) (pc' : Nat) (ls' : List (Option AV)) (st' : List AV) (M' : AMem) : Prop :=
  M.hs ≤ M'.hs ∧ M.sl ≤ M'.sl ∧ ∀ (p : Program) (e : Env) (R : Room) (s : State) (m : MethodId) (args : Array Value) (below : List Frame) (meth : Method) (c : Code) (H : Heap) (locs : List Loc) (cells slots : Nat) (lsr : Array Slot) (Q : State → Prop),
    Ctx G Y d p R s m args meth c → Wd G M H → va_S (fun q => G.base ≤ q) s.heap H locs → LH lsr Y.nL ls → cells + (M'.hs - M.hs) ≤ R.cells → slots + (M'.sl - M.sl) ≤ R.slots →
    (∀ (H' : Heap) (locs' : List Loc) (lsr' : Array Slot), Wd G M' H' → va_S (fun q => G.base ≤ q) s.heap H' locs' → LH lsr' Y.nL ls' →
      W p G.l e R s m args below meth c H' locs' (cells + (M'.hs - M.hs)) (slots + (M'.sl - M.sl)) Q (F0 m pc' lsr' (st'.map vV))) →
    W p G.l e R s m args below meth c H locs cells slots Q (F0 m pc lsr (st.map vV))
theorem Reach.trans {G : Gp} {Y : MD} {d pc pc1 pc2 : Nat} {ls ls1 ls2 : List (Option AV)} {st st1 st2 : List AV} {M M1 M2 : AMem} (h1 : Reach G Y d pc ls st M pc1 ls1 st1 M1) (h2 : Reach G Y d pc1 ls1 st1 M1 pc2 ls2 st2 M2) : Reach G Y d pc ls st M pc2 ls2 st2 M2 := by
  obtain ⟨a1, b1, k1⟩ := h1
  obtain ⟨a2, b2, k2⟩ := h2
  refine ⟨Nat.le_trans a1 a2, Nat.le_trans b1 b2, ?_⟩
  intro p e R s m args below meth c H locs cells slots lsr Q hC hW hS hL hc hs kk
  refine k1 p e R s m args below meth c H locs cells slots lsr Q hC hW hS hL (by omega) (by omega) (fun H' locs' lsr' hW' hS' hL' => ?_)
  refine k2 p e R s m args below meth c H' locs' _ _ lsr' Q hC hW' hS' hL' (by omega) (by omega) (fun H2 locs2 lsr2 hW2 hS2 hL2 => ?_)
  have e1 : cells + (M1.hs - M.hs) + (M2.hs - M1.hs) = cells + (M2.hs - M.hs) := by omega
  have e2 : slots + (M1.sl - M.sl) + (M2.sl - M1.sl) = slots + (M2.sl - M.sl) := by omega
  rw [e1, e2]
  exact kk H2 locs2 lsr2 hW2 hS2 hL2
/-- where a walk ends: a return, or a place where it is left to another row -/
def isEnd (Y : MD) (pcR : Nat) (stR : List AV) (f : Option AV ⊕ Nat) : Prop := match f with
  | .inl none => decode Y.cc pcR = .ok (.return_, 1) ∧ stR = [] ∧ Y.rt = none
  | .inl (some (.inl x)) => stR = [vI x] ∧ decode Y.cc pcR = .ok (.ireturn, 1) ∧ ∃ ty, Y.rt = some ty ∧ narrow ty (.int x) = .int x
  | .inl (some (.inr (.inl x))) => stR = [vJ x] ∧ decode Y.cc pcR = .ok (.lreturn, 1) ∧ Y.rt = some .long
  | .inl (some (.inr (.inr (.inl x)))) => stR = [vD x] ∧ decode Y.cc pcR = .ok (.dreturn, 1) ∧ Y.rt = some .double
  | .inl (some (.inr (.inr (.inr r)))) => stR = [.inr (.inr (.inr r))] ∧ decode Y.cc pcR = .ok (.areturn, 1) ∧ ∃ rt, Y.rt = some rt ∧ ((∃ n, rt = .object n) ∨ ∃ t, rt = .array t)
  | .inr pc => pc = pcR ∧ stR = []
def MW (G : Gp) (Y : MD) (d pc : Nat) (ls : List (Option AV)) (st : List AV) (M : AMem) (Q : (Option AV ⊕ Nat) → AMem → Prop) : Prop :=
  ∃ (pcR : Nat) (lsR : List (Option AV)) (stR : List AV) (MR : AMem) (f : Option AV ⊕ Nat), Reach G Y d pc ls st M pcR lsR stR MR ∧ isEnd Y pcR stR f ∧ Q f MR
theorem MW.step {G : Gp} {Y : MD} {d pc pc1 : Nat} {ls ls1 : List (Option AV)} {st st1 : List AV} {M M1 : AMem} {Q : (Option AV ⊕ Nat) → AMem → Prop} (h : Reach G Y d pc ls st M pc1 ls1 st1 M1) (k : MW G Y d pc1 ls1 st1 M1 Q) : MW G Y d pc ls st M Q := by
  obtain ⟨pcR, lsR, stR, MR, f, a, b, c⟩ := k
  exact ⟨pcR, lsR, stR, MR, f, h.trans a, b, c⟩
theorem MW.weaken {G : Gp} {Y : MD} {d pc : Nat} {ls : List (Option AV)} {st : List AV} {M : AMem} {Q Q' : (Option AV ⊕ Nat) → AMem → Prop} (k : MW G Y d pc ls st M Q) (h : ∀ f M', Q f M' → Q' f M') : MW G Y d pc ls st M Q' := by
  obtain ⟨pcR, lsR, stR, MR, f, a, b, c⟩ := k
  exact ⟨pcR, lsR, stR, MR, f, a, b, h _ _ c⟩
theorem Reach.rf {G : Gp} {Y : MD} {d pc : Nat} {ls : List (Option AV)} {st : List AV} {M : AMem} : Reach G Y d pc ls st M pc ls st M :=
  ⟨Nat.le_refl _, Nat.le_refl _, fun p e R s m args below meth c H locs cells slots lsr Q hC hW hS hL hc hs kk => by
    have := kk H locs lsr hW hS hL
    rw [Nat.sub_self, Nat.sub_self] at this
    exact this⟩
/-- a deeper room serves as well -/
theorem Reach.deep {G : Gp} {Y : MD} {d d' pc pc1 : Nat} {ls ls1 : List (Option AV)} {st st1 : List AV} {M M1 : AMem} (hd : d ≤ d') (h : Reach G Y d pc ls st M pc1 ls1 st1 M1) : Reach G Y d' pc ls st M pc1 ls1 st1 M1 := by
  obtain ⟨a1, b1, k1⟩ := h
  refine ⟨a1, b1, ?_⟩
  intro p e R s m args below meth c H locs cells slots lsr Q hC hW hS hL hc hs kk
  obtain ⟨c1, c2, c3, c4, c5, c6, c7, c8, c9, c10, c11⟩ := hC
  exact k1 p e R s m args below meth c H locs cells slots lsr Q ⟨c1, c2, c3, c4, c5, c6, c7, c8, by omega, by omega, c11⟩ hW hS hL hc hs kk
theorem MW.deep {G : Gp} {Y : MD} {d d' pc : Nat} {ls : List (Option AV)} {st : List AV} {M : AMem} {Q : (Option AV ⊕ Nat) → AMem → Prop} (hd : d ≤ d') (k : MW G Y d pc ls st M Q) : MW G Y d' pc ls st M Q := by
  obtain ⟨pcR, lsR, stR, MR, f, a, b, c⟩ := k
  exact ⟨pcR, lsR, stR, MR, f, a.deep hd, b, c⟩
/-- a row that leaves memory and locals alone -/
theorem Reach.row {G : Gp} {Y : MD} {d pc pc1 : Nat} {ls : List (Option AV)} {st st1 : List AV} {M : AMem}
    (h : ∀ {p : Program} {e : Env} {R : Room} {s : State} {m : MethodId} {args : Array Value} {below : List Frame} {meth : Method} {c : Code} {H : Heap} {locs : List Loc} {cells slots : Nat} {lsr : Array Slot} {Q : State → Prop}, p.tables.exec = Jvm.exec → c.code = Y.cc → LH lsr Y.nL ls →
      W p G.l e R s m args below meth c H locs cells slots Q (F0 m pc1 lsr (st1.map vV)) → W p G.l e R s m args below meth c H locs cells slots Q (F0 m pc lsr (st.map vV))) : Reach G Y d pc ls st M pc1 ls st1 M :=
  ⟨Nat.le_refl _, Nat.le_refl _, fun p e R s m args below meth c H locs cells slots lsr Q hC hW hS hL hc hs kk => h hC.1 hC.2.1 hL (by
    have := kk H locs lsr hW hS hL
    rw [Nat.sub_self, Nat.sub_self] at this
    exact this)⟩
section AMrules
variable {G : Gp} {Y : MD} {d pc : Nat} {ls : List (Option AV)} {st : List AV} {M : AMem} {Q : (Option AV ⊕ Nat) → AMem → Prop}
theorem am_ret (hd : decode Y.cc pc = .ok (.return_, 1)) (hr : Y.rt = none) (k : Q (.inl none) M) : MW G Y d pc ls [] M Q := ⟨pc, ls, [], M, .inl none, Reach.rf, ⟨hd, rfl, hr⟩, k⟩
theorem am_iret {x : Int32} (hd : decode Y.cc pc = .ok (.ireturn, 1)) {ty : FieldType} (hr : Y.rt = some ty) (hn : narrow ty (.int x) = .int x) (k : Q (.inl (some (vI x))) M) : MW G Y d pc ls [vI x] M Q := ⟨pc, ls, [vI x], M, .inl (some (vI x)), Reach.rf, ⟨rfl, hd, ty, hr, hn⟩, k⟩
theorem am_lret {x : Int64} (hd : decode Y.cc pc = .ok (.lreturn, 1)) (hr : Y.rt = some .long) (k : Q (.inl (some (vJ x))) M) : MW G Y d pc ls [vJ x] M Q := ⟨pc, ls, [vJ x], M, .inl (some (vJ x)), Reach.rf, ⟨rfl, hd, hr⟩, k⟩
theorem am_dret {x : UInt64} (hd : decode Y.cc pc = .ok (.dreturn, 1)) (hr : Y.rt = some .double) (k : Q (.inl (some (vD x))) M) : MW G Y d pc ls [vD x] M Q := ⟨pc, ls, [vD x], M, .inl (some (vD x)), Reach.rf, ⟨rfl, hd, hr⟩, k⟩
theorem am_aret {a : Nat} (hd : decode Y.cc pc = .ok (.areturn, 1)) {rt : FieldType} (hr : Y.rt = some rt) (ho : (∃ n, rt = .object n) ∨ ∃ t, rt = .array t) (k : Q (.inl (some (vR a))) M) : MW G Y d pc ls [vR a] M Q := ⟨pc, ls, [vR a], M, .inl (some (vR a)), Reach.rf, ⟨rfl, hd, rt, hr, ho⟩, k⟩
theorem am_stop (k : Q (.inr pc) M) : MW G Y d pc ls [] M Q := ⟨pc, ls, [], M, .inr pc, Reach.rf, ⟨rfl, rfl⟩, k⟩
theorem am_iconst {n : Int} {v : Int32} (hd : decode Y.cc pc = .ok (.iconst n, 1)) (hv : Int32.ofInt n = v) {q : Nat} (hq : pc + 1 = q) (k : MW G Y d q ls (vI v :: st) M Q) : MW G Y d pc ls (st) M Q := by subst hq; exact MW.step (Reach.row fun hx hb hL kk => lv_iconst hx hb hd hv kk) k
theorem am_bipush {n : Int} {v : Int32} (hd : decode Y.cc pc = .ok (.bipush n, 2)) (hv : (Int8.ofInt n).toInt32 = v) {q : Nat} (hq : pc + 2 = q) (k : MW G Y d q ls (vI v :: st) M Q) : MW G Y d pc ls (st) M Q := by subst hq; exact MW.step (Reach.row fun hx hb hL kk => lv_bipush hx hb hd hv kk) k
theorem am_sipush {n : Int} {v : Int32} (hd : decode Y.cc pc = .ok (.sipush n, 3)) (hv : (Int16.ofInt n).toInt32 = v) {q : Nat} (hq : pc + 3 = q) (k : MW G Y d q ls (vI v :: st) M Q) : MW G Y d pc ls (st) M Q := by subst hq; exact MW.step (Reach.row fun hx hb hL kk => lv_sipush hx hb hd hv kk) k
theorem am_lconst {n : Fin 2} {v : Int64} (hd : decode Y.cc pc = .ok (.lconst n, 1)) (hv : Int64.ofNat (n : Nat) = v) {q : Nat} (hq : pc + 1 = q) (k : MW G Y d q ls (vJ v :: st) M Q) : MW G Y d pc ls (st) M Q := by subst hq; exact MW.step (Reach.row fun hx hb hL kk => lv_lconst hx hb hd hv kk) k
theorem am_iload {i : Nat} {x : Int32} (hd : decode Y.cc pc = .ok (.iload i, 2)) (hl : ls[i]? = some (some (vI x))) {q : Nat} (hq : pc + 2 = q) (k : MW G Y d q ls (vI x :: st) M Q) : MW G Y d pc ls (st) M Q := by subst hq; exact MW.step (Reach.row fun hx hb hL kk => lv_iload hx hb hd (hL.2.2.2 _ _ hl) kk) k
theorem am_iload_n {i : Fin 4} {x : Int32} (hd : decode Y.cc pc = .ok (.iload_n i, 1)) (hl : ls[(i : Nat)]? = some (some (vI x))) {q : Nat} (hq : pc + 1 = q) (k : MW G Y d q ls (vI x :: st) M Q) : MW G Y d pc ls (st) M Q := by subst hq; exact MW.step (Reach.row fun hx hb hL kk => lv_iload_n hx hb hd rfl (hL.2.2.2 _ _ hl) kk) k
theorem am_lload {i : Nat} {x : Int64} (hd : decode Y.cc pc = .ok (.lload i, 2)) (hl : ls[i]? = some (some (vJ x))) {q : Nat} (hq : pc + 2 = q) (k : MW G Y d q ls (vJ x :: st) M Q) : MW G Y d pc ls (st) M Q := by subst hq; exact MW.step (Reach.row fun hx hb hL kk => lv_lload hx hb hd (hL.2.2.2 _ _ hl) kk) k
theorem am_lload_n {i : Fin 4} {x : Int64} (hd : decode Y.cc pc = .ok (.lload_n i, 1)) (hl : ls[(i : Nat)]? = some (some (vJ x))) {q : Nat} (hq : pc + 1 = q) (k : MW G Y d q ls (vJ x :: st) M Q) : MW G Y d pc ls (st) M Q := by subst hq; exact MW.step (Reach.row fun hx hb hL kk => lv_lload_n hx hb hd rfl (hL.2.2.2 _ _ hl) kk) k
theorem am_aload {i : Nat} {x : Nat} (hd : decode Y.cc pc = .ok (.aload i, 2)) (hl : ls[i]? = some (some (vR x))) {q : Nat} (hq : pc + 2 = q) (k : MW G Y d q ls (vR x :: st) M Q) : MW G Y d pc ls (st) M Q := by subst hq; exact MW.step (Reach.row fun hx hb hL kk => lv_aload hx hb hd (hL.2.2.2 _ _ hl) kk) k
theorem am_aload_n {i : Fin 4} {x : Nat} (hd : decode Y.cc pc = .ok (.aload_n i, 1)) (hl : ls[(i : Nat)]? = some (some (vR x))) {q : Nat} (hq : pc + 1 = q) (k : MW G Y d q ls (vR x :: st) M Q) : MW G Y d pc ls (st) M Q := by subst hq; exact MW.step (Reach.row fun hx hb hL kk => lv_aload_n hx hb hd rfl (hL.2.2.2 _ _ hl) kk) k
theorem am_dload {i : Nat} {x : UInt64} (hd : decode Y.cc pc = .ok (.dload i, 2)) (hl : ls[i]? = some (some (vD x))) {q : Nat} (hq : pc + 2 = q) (k : MW G Y d q ls (vD x :: st) M Q) : MW G Y d pc ls (st) M Q := by subst hq; exact MW.step (Reach.row fun hx hb hL kk => lv_dload hx hb hd (hL.2.2.2 _ _ hl) kk) k
theorem am_iadd {x y : Int32} (hd : decode Y.cc pc = .ok (.iadd, 1)) {q : Nat} (hq : pc + 1 = q) (k : MW G Y d q ls (vI (x + y) :: st) M Q) : MW G Y d pc ls (vI y :: vI x :: st) M Q := by subst hq; exact MW.step (Reach.row fun hx hb hL kk => lv_iadd hx hb hd kk) k
theorem am_isub {x y : Int32} (hd : decode Y.cc pc = .ok (.isub, 1)) {q : Nat} (hq : pc + 1 = q) (k : MW G Y d q ls (vI (x - y) :: st) M Q) : MW G Y d pc ls (vI y :: vI x :: st) M Q := by subst hq; exact MW.step (Reach.row fun hx hb hL kk => lv_isub hx hb hd kk) k
theorem am_imul {x y : Int32} (hd : decode Y.cc pc = .ok (.imul, 1)) {q : Nat} (hq : pc + 1 = q) (k : MW G Y d q ls (vI (x * y) :: st) M Q) : MW G Y d pc ls (vI y :: vI x :: st) M Q := by subst hq; exact MW.step (Reach.row fun hx hb hL kk => lv_imul hx hb hd kk) k
theorem am_iand {x y : Int32} (hd : decode Y.cc pc = .ok (.iand, 1)) {q : Nat} (hq : pc + 1 = q) (k : MW G Y d q ls (vI (x &&& y) :: st) M Q) : MW G Y d pc ls (vI y :: vI x :: st) M Q := by subst hq; exact MW.step (Reach.row fun hx hb hL kk => lv_iand hx hb hd kk) k
theorem am_ior {x y : Int32} (hd : decode Y.cc pc = .ok (.ior, 1)) {q : Nat} (hq : pc + 1 = q) (k : MW G Y d q ls (vI (x ||| y) :: st) M Q) : MW G Y d pc ls (vI y :: vI x :: st) M Q := by subst hq; exact MW.step (Reach.row fun hx hb hL kk => lv_ior hx hb hd kk) k
theorem am_ishr {x y : Int32} (hd : decode Y.cc pc = .ok (.ishr, 1)) {q : Nat} (hq : pc + 1 = q) (k : MW G Y d q ls (vI (x >>> (y &&& 31)) :: st) M Q) : MW G Y d pc ls (vI y :: vI x :: st) M Q := by subst hq; exact MW.step (Reach.row fun hx hb hL kk => lv_ishr hx hb hd kk) k
theorem am_ishl {x y : Int32} (hd : decode Y.cc pc = .ok (.ishl, 1)) {q : Nat} (hq : pc + 1 = q) (k : MW G Y d q ls (vI (x <<< (y &&& 31)) :: st) M Q) : MW G Y d pc ls (vI y :: vI x :: st) M Q := by subst hq; exact MW.step (Reach.row fun hx hb hL kk => lv_ishl hx hb hd kk) k
theorem am_ladd {x y : Int64} (hd : decode Y.cc pc = .ok (.ladd, 1)) {q : Nat} (hq : pc + 1 = q) (k : MW G Y d q ls (vJ (x + y) :: st) M Q) : MW G Y d pc ls (vJ y :: vJ x :: st) M Q := by subst hq; exact MW.step (Reach.row fun hx hb hL kk => lv_ladd hx hb hd kk) k
theorem am_lmul {x y : Int64} (hd : decode Y.cc pc = .ok (.lmul, 1)) {q : Nat} (hq : pc + 1 = q) (k : MW G Y d q ls (vJ (x * y) :: st) M Q) : MW G Y d pc ls (vJ y :: vJ x :: st) M Q := by subst hq; exact MW.step (Reach.row fun hx hb hL kk => lv_lmul hx hb hd kk) k
theorem am_iushr {x y : Int32} (hd : decode Y.cc pc = .ok (.iushr, 1)) {q : Nat} (hq : pc + 1 = q) (k : MW G Y d q ls (vI ((x.toUInt32 >>> (y.toUInt32 &&& Int32.toUInt32 31)).toInt32) :: st) M Q) : MW G Y d pc ls (vI y :: vI x :: st) M Q := by subst hq; exact MW.step (Reach.row fun hx hb hL kk => lv_iushr hx hb hd rfl kk) k
theorem am_ineg {x : Int32} (hd : decode Y.cc pc = .ok (.ineg, 1)) {q : Nat} (hq : pc + 1 = q) (k : MW G Y d q ls (vI (-x) :: st) M Q) : MW G Y d pc ls (vI x :: st) M Q := by subst hq; exact MW.step (Reach.row fun hx hb hL kk => lv_ineg hx hb hd kk) k
theorem am_i2l {x : Int32} (hd : decode Y.cc pc = .ok (.i2l, 1)) {q : Nat} (hq : pc + 1 = q) (k : MW G Y d q ls (vJ x.toInt64 :: st) M Q) : MW G Y d pc ls (vI x :: st) M Q := by subst hq; exact MW.step (Reach.row fun hx hb hL kk => lv_i2l hx hb hd rfl kk) k
theorem am_l2i {x : Int64} (hd : decode Y.cc pc = .ok (.l2i, 1)) {q : Nat} (hq : pc + 1 = q) (k : MW G Y d q ls (vI x.toInt32 :: st) M Q) : MW G Y d pc ls (vJ x :: st) M Q := by subst hq; exact MW.step (Reach.row fun hx hb hL kk => lv_l2i hx hb hd rfl kk) k
theorem am_idiv {x y : Int32} (hd : decode Y.cc pc = .ok (.idiv, 1)) (hne : ¬ y = 0) {q : Nat} (hq : pc + 1 = q) (k : MW G Y d q ls (vI (x / y) :: st) M Q) : MW G Y d pc ls (vI y :: vI x :: st) M Q := by subst hq; exact MW.step (Reach.row fun hx hb hL kk => lv_idiv hx hb hd hne kk) k
theorem am_irem {x y : Int32} (hd : decode Y.cc pc = .ok (.irem, 1)) (hne : ¬ y = 0) {q : Nat} (hq : pc + 1 = q) (k : MW G Y d q ls (vI (x - x / y * y) :: st) M Q) : MW G Y d pc ls (vI y :: vI x :: st) M Q := by subst hq; exact MW.step (Reach.row fun hx hb hL kk => lv_irem hx hb hd hne kk) k
theorem am_lcmp {x y : Int64} (hd : decode Y.cc pc = .ok (.lcmp, 1)) {q : Nat} (hq : pc + 1 = q) (k : MW G Y d q ls (vI (lg_cmp x y) :: st) M Q) : MW G Y d pc ls (vJ y :: vJ x :: st) M Q := by subst hq; exact MW.step (Reach.row fun hx hb hL kk => W.lcmp hx hb hd kk) k
theorem am_i2d {x : Int32} (hd : decode Y.cc pc = .ok (.i2d, 1)) {q : Nat} (hq : pc + 1 = q) (k : MW G Y d q ls (vD (FP.i2d x) :: st) M Q) : MW G Y d pc ls (vI x :: st) M Q := by subst hq; exact MW.step (Reach.row fun hx hb hL kk => lv_i2d hx hb hd kk) k
theorem am_ddiv {x y : UInt64} (hd : decode Y.cc pc = .ok (.ddiv, 1)) (hne : vf_n64 (FP.ddiv x y)) {q : Nat} (hq : pc + 1 = q) (k : MW G Y d q ls (vD (FP.ddiv x y) :: st) M Q) : MW G Y d pc ls (vD y :: vD x :: st) M Q := by subst hq; exact MW.step (Reach.row fun hx hb hL kk => lv_ddiv hx hb hd hne kk) k
theorem am_dcmp {x y : UInt64} {op : CmpOp} (hd : decode Y.cc pc = .ok (.dcmp op, 1)) {q : Nat} (hq : pc + 1 = q) (k : MW G Y d q ls (vI (Op.cmpValue (FP.dcmp x y) op) :: st) M Q) : MW G Y d pc ls (vD y :: vD x :: st) M Q := by subst hq; exact MW.step (Reach.row fun hx hb hL kk => lv_dcmp hx hb hd kk) k
theorem am_dup {v : AV} (hd : decode Y.cc pc = .ok (.dup, 1)) (hv : vC v = 1) {q : Nat} (hq : pc + 1 = q) (k : MW G Y d q ls (v :: v :: st) M Q) : MW G Y d pc ls (v :: st) M Q := by subst hq; exact MW.step (Reach.row fun hx hb hL kk => lv_dup hx hb hd (by rw [vV_cat]; exact hv) kk) k
theorem am_pop {v : AV} (hd : decode Y.cc pc = .ok (.pop, 1)) (hv : vC v = 1) {q : Nat} (hq : pc + 1 = q) (k : MW G Y d q ls (st) M Q) : MW G Y d pc ls (v :: st) M Q := by subst hq; exact MW.step (Reach.row fun hx hb hL kk => lv_pop hx hb hd (by rw [vV_cat]; exact hv) kk) k
theorem am_goto {off : Int} {tgt : Nat} (hd : decode Y.cc pc = .ok (.goto off, 3)) (ht : (pc : Int) + off = (tgt : Int)) (k : MW G Y d tgt ls st M Q) : MW G Y d pc ls st M Q := MW.step (Reach.row fun hx hb hL kk => lv_goto hx hb hd ht kk) k
theorem am_icmp_eq {x y : Int32} {off : Int} {tgt : Nat} (hd : decode Y.cc pc = .ok (.if_icmp .eq off, 3)) (ht : (pc : Int) + off = (tgt : Int)) {q : Nat} (hq : pc + 3 = q) (kt : x = y → MW G Y d tgt ls st M Q) (kf : ¬ x = y → MW G Y d q ls st M Q) : MW G Y d pc ls (vI y :: vI x :: st) M Q := by
  subst hq
  by_cases h : x = y
  · exact MW.step (Reach.row fun hx hb hL kk => lv_icmp_eq hx hb hd ht (fun _ => kk) (fun hn => absurd h hn)) (kt h)
  · exact MW.step (Reach.row fun hx hb hL kk => lv_icmp_eq hx hb hd ht (fun hp => absurd hp h) (fun _ => kk)) (kf h)
theorem am_icmp_ne {x y : Int32} {off : Int} {tgt : Nat} (hd : decode Y.cc pc = .ok (.if_icmp .ne off, 3)) (ht : (pc : Int) + off = (tgt : Int)) {q : Nat} (hq : pc + 3 = q) (kt : ¬ x = y → MW G Y d tgt ls st M Q) (kf : x = y → MW G Y d q ls st M Q) : MW G Y d pc ls (vI y :: vI x :: st) M Q := by
  subst hq
  by_cases h : ¬ x = y
  · exact MW.step (Reach.row fun hx hb hL kk => lv_icmp_ne hx hb hd ht (fun _ => kk) (fun hn => absurd hn h)) (kt h)
  · exact MW.step (Reach.row fun hx hb hL kk => lv_icmp_ne hx hb hd ht (fun hp => absurd hp h) (fun _ => kk)) (kf (Classical.not_not.mp h))
theorem am_icmp_lt {x y : Int32} {off : Int} {tgt : Nat} (hd : decode Y.cc pc = .ok (.if_icmp .lt off, 3)) (ht : (pc : Int) + off = (tgt : Int)) {q : Nat} (hq : pc + 3 = q) (kt : x < y → MW G Y d tgt ls st M Q) (kf : ¬ x < y → MW G Y d q ls st M Q) : MW G Y d pc ls (vI y :: vI x :: st) M Q := by
  subst hq
  by_cases h : x < y
  · exact MW.step (Reach.row fun hx hb hL kk => lv_icmp_lt hx hb hd ht (fun _ => kk) (fun hn => absurd h hn)) (kt h)
  · exact MW.step (Reach.row fun hx hb hL kk => lv_icmp_lt hx hb hd ht (fun hp => absurd hp h) (fun _ => kk)) (kf h)
theorem am_icmp_ge {x y : Int32} {off : Int} {tgt : Nat} (hd : decode Y.cc pc = .ok (.if_icmp .ge off, 3)) (ht : (pc : Int) + off = (tgt : Int)) {q : Nat} (hq : pc + 3 = q) (kt : y ≤ x → MW G Y d tgt ls st M Q) (kf : ¬ y ≤ x → MW G Y d q ls st M Q) : MW G Y d pc ls (vI y :: vI x :: st) M Q := by
  subst hq
  by_cases h : y ≤ x
  · exact MW.step (Reach.row fun hx hb hL kk => lv_icmp_ge hx hb hd ht (fun _ => kk) (fun hn => absurd h hn)) (kt h)
  · exact MW.step (Reach.row fun hx hb hL kk => lv_icmp_ge hx hb hd ht (fun hp => absurd hp h) (fun _ => kk)) (kf h)
theorem am_icmp_gt {x y : Int32} {off : Int} {tgt : Nat} (hd : decode Y.cc pc = .ok (.if_icmp .gt off, 3)) (ht : (pc : Int) + off = (tgt : Int)) {q : Nat} (hq : pc + 3 = q) (kt : y < x → MW G Y d tgt ls st M Q) (kf : ¬ y < x → MW G Y d q ls st M Q) : MW G Y d pc ls (vI y :: vI x :: st) M Q := by
  subst hq
  by_cases h : y < x
  · exact MW.step (Reach.row fun hx hb hL kk => lv_icmp_gt hx hb hd ht (fun _ => kk) (fun hn => absurd h hn)) (kt h)
  · exact MW.step (Reach.row fun hx hb hL kk => lv_icmp_gt hx hb hd ht (fun hp => absurd hp h) (fun _ => kk)) (kf h)
theorem am_icmp_le {x y : Int32} {off : Int} {tgt : Nat} (hd : decode Y.cc pc = .ok (.if_icmp .le off, 3)) (ht : (pc : Int) + off = (tgt : Int)) {q : Nat} (hq : pc + 3 = q) (kt : x ≤ y → MW G Y d tgt ls st M Q) (kf : ¬ x ≤ y → MW G Y d q ls st M Q) : MW G Y d pc ls (vI y :: vI x :: st) M Q := by
  subst hq
  by_cases h : x ≤ y
  · exact MW.step (Reach.row fun hx hb hL kk => lv_icmp_le hx hb hd ht (fun _ => kk) (fun hn => absurd h hn)) (kt h)
  · exact MW.step (Reach.row fun hx hb hL kk => lv_icmp_le hx hb hd ht (fun hp => absurd hp h) (fun _ => kk)) (kf h)
theorem am_if_eq {x : Int32} {off : Int} {tgt : Nat} (hd : decode Y.cc pc = .ok (.ifCond .eq off, 3)) (ht : (pc : Int) + off = (tgt : Int)) {q : Nat} (hq : pc + 3 = q) (kt : x = 0 → MW G Y d tgt ls st M Q) (kf : ¬ x = 0 → MW G Y d q ls st M Q) : MW G Y d pc ls (vI x :: st) M Q := by
  subst hq
  by_cases h : x = 0
  · exact MW.step (Reach.row fun hx hb hL kk => lv_if_eq hx hb hd ht (fun _ => kk) (fun hn => absurd h hn)) (kt h)
  · exact MW.step (Reach.row fun hx hb hL kk => lv_if_eq hx hb hd ht (fun hp => absurd hp h) (fun _ => kk)) (kf h)
theorem am_if_ne {x : Int32} {off : Int} {tgt : Nat} (hd : decode Y.cc pc = .ok (.ifCond .ne off, 3)) (ht : (pc : Int) + off = (tgt : Int)) {q : Nat} (hq : pc + 3 = q) (kt : ¬ x = 0 → MW G Y d tgt ls st M Q) (kf : x = 0 → MW G Y d q ls st M Q) : MW G Y d pc ls (vI x :: st) M Q := by
  subst hq
  by_cases h : ¬ x = 0
  · exact MW.step (Reach.row fun hx hb hL kk => lv_if_ne hx hb hd ht (fun _ => kk) (fun hn => absurd hn h)) (kt h)
  · exact MW.step (Reach.row fun hx hb hL kk => lv_if_ne hx hb hd ht (fun hp => absurd hp h) (fun _ => kk)) (kf (Classical.not_not.mp h))
theorem am_if_lt {x : Int32} {off : Int} {tgt : Nat} (hd : decode Y.cc pc = .ok (.ifCond .lt off, 3)) (ht : (pc : Int) + off = (tgt : Int)) {q : Nat} (hq : pc + 3 = q) (kt : x < 0 → MW G Y d tgt ls st M Q) (kf : ¬ x < 0 → MW G Y d q ls st M Q) : MW G Y d pc ls (vI x :: st) M Q := by
  subst hq
  by_cases h : x < 0
  · exact MW.step (Reach.row fun hx hb hL kk => lv_if_lt hx hb hd ht (fun _ => kk) (fun hn => absurd h hn)) (kt h)
  · exact MW.step (Reach.row fun hx hb hL kk => lv_if_lt hx hb hd ht (fun hp => absurd hp h) (fun _ => kk)) (kf h)
theorem am_if_ge {x : Int32} {off : Int} {tgt : Nat} (hd : decode Y.cc pc = .ok (.ifCond .ge off, 3)) (ht : (pc : Int) + off = (tgt : Int)) {q : Nat} (hq : pc + 3 = q) (kt : 0 ≤ x → MW G Y d tgt ls st M Q) (kf : ¬ 0 ≤ x → MW G Y d q ls st M Q) : MW G Y d pc ls (vI x :: st) M Q := by
  subst hq
  by_cases h : 0 ≤ x
  · exact MW.step (Reach.row fun hx hb hL kk => lv_if_ge hx hb hd ht (fun _ => kk) (fun hn => absurd h hn)) (kt h)
  · exact MW.step (Reach.row fun hx hb hL kk => lv_if_ge hx hb hd ht (fun hp => absurd hp h) (fun _ => kk)) (kf h)
theorem am_if_gt {x : Int32} {off : Int} {tgt : Nat} (hd : decode Y.cc pc = .ok (.ifCond .gt off, 3)) (ht : (pc : Int) + off = (tgt : Int)) {q : Nat} (hq : pc + 3 = q) (kt : 0 < x → MW G Y d tgt ls st M Q) (kf : ¬ 0 < x → MW G Y d q ls st M Q) : MW G Y d pc ls (vI x :: st) M Q := by
  subst hq
  by_cases h : 0 < x
  · exact MW.step (Reach.row fun hx hb hL kk => lv_if_gt hx hb hd ht (fun _ => kk) (fun hn => absurd h hn)) (kt h)
  · exact MW.step (Reach.row fun hx hb hL kk => lv_if_gt hx hb hd ht (fun hp => absurd hp h) (fun _ => kk)) (kf h)
theorem am_if_le {x : Int32} {off : Int} {tgt : Nat} (hd : decode Y.cc pc = .ok (.ifCond .le off, 3)) (ht : (pc : Int) + off = (tgt : Int)) {q : Nat} (hq : pc + 3 = q) (kt : x ≤ 0 → MW G Y d tgt ls st M Q) (kf : ¬ x ≤ 0 → MW G Y d q ls st M Q) : MW G Y d pc ls (vI x :: st) M Q := by
  subst hq
  by_cases h : x ≤ 0
  · exact MW.step (Reach.row fun hx hb hL kk => lv_if_le hx hb hd ht (fun _ => kk) (fun hn => absurd h hn)) (kt h)
  · exact MW.step (Reach.row fun hx hb hL kk => lv_if_le hx hb hd ht (fun hp => absurd hp h) (fun _ => kk)) (kf h)
theorem am_tableOut {dflt lo hi : Int} {offs : Array Int} {len : Nat} {x : Int32} {tgt : Nat} (hd : decode Y.cc pc = .ok (.tableswitch dflt lo hi offs, len)) (h : x.toInt < lo ∨ hi < x.toInt) (ht : (pc : Int) + dflt = (tgt : Int)) (k : MW G Y d tgt ls st M Q) : MW G Y d pc ls (vI x :: st) M Q := MW.step (Reach.row fun hx hb hL kk => lv_tableOut hx hb hd h ht kk) k
theorem am_tableIn {dflt lo hi : Int} {offs : Array Int} {len : Nat} {x : Int32} {off : Int} {tgt : Nat} (hd : decode Y.cc pc = .ok (.tableswitch dflt lo hi offs, len)) (h1 : ¬ x.toInt < lo) (h2 : ¬ hi < x.toInt) (ho : offs[(x.toInt - lo).toNat]? = some off) (ht : (pc : Int) + off = (tgt : Int)) (k : MW G Y d tgt ls st M Q) : MW G Y d pc ls (vI x :: st) M Q := MW.step (Reach.row fun hx hb hL kk => lv_tableIn hx hb hd h1 h2 ho ht kk) k
theorem am_lookup {dflt : Int} {ps : Array (Int × Int)} {len : Nat} {x : Int32} {off : Int} {tgt : Nat} (hd : decode Y.cc pc = .ok (.lookupswitch dflt ps, len)) (hp : (ps.toList.zip (ps.toList.drop 1)).all (fun (a, next) => a.1 < next.1) = true) (ho : Op.lookupswitch.offset ps.toList dflt x.toInt = off) (ht : (pc : Int) + off = (tgt : Int)) (k : MW G Y d tgt ls st M Q) : MW G Y d pc ls (vI x :: st) M Q := MW.step (Reach.row fun hx hb hL kk => lv_lookup hx hb hd hp ho ht kk) k
theorem am_dup2_11 {v u : AV} (hd : decode Y.cc pc = .ok (.dup2, 1)) (hv : vC v = 1) (hu : vC u = 1) {q : Nat} (hq : pc + 1 = q) (k : MW G Y d q ls (v :: u :: v :: u :: st) M Q) : MW G Y d pc ls (v :: u :: st) M Q := by subst hq; exact MW.step (Reach.row fun hx hb hL kk => lv_dup2_11 hx hb hd (by rw [vV_cat]; exact hv) (by rw [vV_cat]; exact hu) kk) k
theorem am_dconst0 (hd : decode Y.cc pc = .ok (.dconst 0, 1)) {q : Nat} (hq : pc + 1 = q) (k : MW G Y d q ls (vD 0 :: st) M Q) : MW G Y d pc ls st M Q := by subst hq; exact MW.step (Reach.row fun hx hb hL kk => lv_dconst0 hx hb hd kk) k
end AMrules
