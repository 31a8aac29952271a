/-! THE ABSTRACT MACHINE, second part: locals, cells, calls -/
def clr (ls : List (Option AV)) (i : Nat) : List (Option AV) := match i with
  | 0 => ls
  | j + 1 => match ls[j]? with
    | some (some w) => if vC w = 2 then ls.set j none else ls
    | _ => ls
def lsA (ls : List (Option AV)) (i : Nat) (v : AV) : List (Option AV) := (clr ls i).set i (some v)
def lsC (ls : List (Option AV)) (i : Nat) (v : AV) : List (Option AV) := ((clr ls i).set i (some v)).set (i + 1) none
def lsL (ls : List (Option AV)) : List (Nat × Value) := (List.range ls.length).filterMap (fun i => match ls[i]? with
  | some (some v) => some (i, vV v)
  | _ => none)
theorem am_lsL_mem {ls : List (Option AV)} {i : Nat} {v : AV} (h : ls[i]? = some (some v)) : (i, vV v) ∈ lsL ls := by
  refine List.mem_filterMap.mpr ⟨i, List.mem_range.mpr (List.getElem?_eq_some_iff.mp h).1, ?_⟩
  rw [h]
theorem am_LHhas {lsr : Array Slot} {nL : Nat} {ls : List (Option AV)} (h : LH lsr nL ls) : lv_has lsr nL (lsL ls) := by
  refine ⟨h.1, h.2.1, fun q hq => ?_⟩
  obtain ⟨i, -, hi⟩ := List.mem_filterMap.mp hq
  split at hi
  · rename_i v hv
    cases hi
    exact h.2.2.2 _ _ hv
  · cases hi
theorem am_clr_len (ls : List (Option AV)) (i : Nat) : (clr ls i).length = ls.length := by
  cases i with
  | zero => rfl
  | succ j =>
    simp only [clr]
    split
    · split <;> simp
    · rfl
theorem am_clr_get {ls : List (Option AV)} {i j : Nat} {w : AV} (h : (clr ls i)[j]? = some (some w)) : ls[j]? = some (some w) ∧ ¬ (j + 1 = i ∧ vC w = 2) := by
  cases i with
  | zero => exact ⟨h, fun q => by omega⟩
  | succ k =>
    simp only [clr] at h
    split at h
    · rename_i w' hw'
      split at h
      · rename_i h2
        by_cases e : j = k
        · subst e
          rw [List.getElem?_set] at h
          have hl := (List.getElem?_eq_some_iff.mp hw').1
          simp [hl] at h
        · rw [List.getElem?_set, if_neg (fun q => e q.symm)] at h
          exact ⟨h, fun q => e (by omega)⟩
      · rename_i h2
        refine ⟨h, fun q => ?_⟩
        have e : j = k := by omega
        subst e
        rw [hw'] at h
        cases h
        exact h2 q.2
    · rename_i hn
      refine ⟨h, fun q => ?_⟩
      have e : j = k := by omega
      subst e
      exact hn w h
theorem am_LH1 {lsr : Array Slot} {nL i : Nat} {ls : List (Option AV)} {v : AV} (hl : ls.length = nL) (h : lv_has lsr nL ((i, vV v) :: (lsL ls).filter (fun q => !(q.1 == i) && !(q.1 + 1 == i && q.2.category == 2)))) : LH lsr nL (lsA ls i v) := by
  obtain ⟨h1, h2, h3⟩ := h
  refine ⟨h1, h2, by simp [lsA, am_clr_len, hl], fun j w hw => ?_⟩
  simp only [lsA] at hw
  rw [List.getElem?_set] at hw
  by_cases e : i = j
  · subst e
    simp only [if_true] at hw
    split at hw
    · cases hw
      exact h3 _ List.mem_cons_self
    · cases hw
  · rw [if_neg e] at hw
    obtain ⟨a, b⟩ := am_clr_get hw
    refine h3 (j, vV w) (List.mem_cons_of_mem _ (List.mem_filter.mpr ⟨am_lsL_mem a, ?_⟩))
    have e2 : ¬ j = i := fun q => e q.symm
    simp only [vV_cat, Bool.and_eq_true, Bool.not_eq_true', beq_eq_false_iff_ne, ne_eq, Bool.and_eq_false_iff]
    refine ⟨e2, ?_⟩
    by_cases e3 : j + 1 = i
    · exact Or.inr (fun q => b ⟨e3, q⟩)
    · exact Or.inl e3
theorem am_LH2 {lsr : Array Slot} {nL i : Nat} {ls : List (Option AV)} {v : AV} (hl : ls.length = nL) (h : lv_has lsr nL ((i, vV v) :: (lsL ls).filter (fun q => !(q.1 == i) && (!(q.1 == i + 1) && !(q.1 + 1 == i && q.2.category == 2))))) : LH lsr nL (lsC ls i v) := by
  obtain ⟨h1, h2, h3⟩ := h
  refine ⟨h1, h2, by simp [lsC, am_clr_len, hl], fun j w hw => ?_⟩
  simp only [lsC] at hw
  rw [List.getElem?_set] at hw
  by_cases e1 : i + 1 = j
  · rw [if_pos e1] at hw
    split at hw <;> cases hw
  · rw [if_neg e1, List.getElem?_set] at hw
    by_cases e : i = j
    · subst e
      simp only [if_true] at hw
      split at hw
      · cases hw
        exact h3 _ List.mem_cons_self
      · cases hw
    · rw [if_neg e] at hw
      obtain ⟨a, b⟩ := am_clr_get hw
      refine h3 (j, vV w) (List.mem_cons_of_mem _ (List.mem_filter.mpr ⟨am_lsL_mem a, ?_⟩))
      have e2 : ¬ j = i := fun q => e q.symm
      have e4 : ¬ j = i + 1 := fun q => e1 q.symm
      simp only [vV_cat, Bool.and_eq_true, Bool.not_eq_true', beq_eq_false_iff_ne, ne_eq, Bool.and_eq_false_iff]
      refine ⟨e2, e4, ?_⟩
      by_cases e3 : j + 1 = i
      · exact Or.inr (fun q => b ⟨e3, q⟩)
      · exact Or.inl e3
section AMloc
variable {G : Gp} {Y : MD} {d pc pc1 : Nat} {ls ls1 : List (Option AV)} {st stB1' : List AV} {M : AMem} {Q : (Option AV ⊕ Nat) → AMem → Prop}
/-- a row that leaves the memory alone -/
theorem am_loc (h : ∀ {p : Program} {e : Env} {R : Room} {s : State} {m : MethodId} {args : Array Value} {below : List Frame} {meth : Method} {c : Code} {H : Heap} {locs : List Loc} {cells slots : Nat} {lsr : Array Slot} {Q : State → Prop}, p.tables.exec = Jvm.exec → c.code = Y.cc → LH lsr Y.nL ls → (∀ lsr' : Array Slot, LH lsr' Y.nL ls1 → W p G.l e R s m args below meth c H locs cells slots Q (F0 m pc1 lsr' (stB1'.map vV))) → W p G.l e R s m args below meth c H locs cells slots Q (F0 m pc lsr (st.map vV))) : Reach G Y d pc ls st M pc1 ls1 stB1' M :=
  ⟨Nat.le_refl _, Nat.le_refl _, fun p e R s m args below meth c H locs cells slots lsr Q hC hW hS hL hc hs kk => h hC.1 hC.2.1 hL (fun lsr' hL' => by
    have := kk H locs lsr' hW hS hL'
    rw [Nat.sub_self, Nat.sub_self] at this
    exact this)⟩
theorem am_istore {i : Nat} {x : Int32} (hd : decode Y.cc pc = .ok (.istore i, 2)) (hn : i < Y.nL) (hls : lsA ls i (vI x) = ls1) {q : Nat} (hq : pc + 2 = q) (k : MW G Y d q ls1 st M Q) : MW G Y d pc ls (vI x :: st) M Q := by subst hq; exact MW.step (am_loc fun hx hb hL kk => lv_istore hx hb hd (am_LHhas hL) hn rfl (fun lsr' h' => kk lsr' (hls ▸ am_LH1 hL.2.2.1 h'))) k
theorem am_istore_n {i : Fin 4} {x : Int32} (hd : decode Y.cc pc = .ok (.istore_n i, 1)) (hn : (i : Nat) < Y.nL) (hls : lsA ls i (vI x) = ls1) {q : Nat} (hq : pc + 1 = q) (k : MW G Y d q ls1 st M Q) : MW G Y d pc ls (vI x :: st) M Q := by subst hq; exact MW.step (am_loc fun hx hb hL kk => lv_istore_n hx hb hd rfl (am_LHhas hL) hn rfl (fun lsr' h' => kk lsr' (hls ▸ am_LH1 hL.2.2.1 h'))) k
theorem am_astore {i : Nat} {x : Nat} (hd : decode Y.cc pc = .ok (.astore i, 2)) (hn : i < Y.nL) (hls : lsA ls i (vR x) = ls1) {q : Nat} (hq : pc + 2 = q) (k : MW G Y d q ls1 st M Q) : MW G Y d pc ls (vR x :: st) M Q := by subst hq; exact MW.step (am_loc fun hx hb hL kk => lv_astore hx hb hd (am_LHhas hL) hn rfl (fun lsr' h' => kk lsr' (hls ▸ am_LH1 hL.2.2.1 h'))) k
theorem am_astore_n {i : Fin 4} {x : Nat} (hd : decode Y.cc pc = .ok (.astore_n i, 1)) (hn : (i : Nat) < Y.nL) (hls : lsA ls i (vR x) = ls1) {q : Nat} (hq : pc + 1 = q) (k : MW G Y d q ls1 st M Q) : MW G Y d pc ls (vR x :: st) M Q := by subst hq; exact MW.step (am_loc fun hx hb hL kk => lv_astore_n hx hb hd rfl (am_LHhas hL) hn rfl (fun lsr' h' => kk lsr' (hls ▸ am_LH1 hL.2.2.1 h'))) k
theorem am_lstore {i : Nat} {x : Int64} (hd : decode Y.cc pc = .ok (.lstore i, 2)) (hn : i + 1 < Y.nL) (hls : lsC ls i (vJ x) = ls1) {q : Nat} (hq : pc + 2 = q) (k : MW G Y d q ls1 st M Q) : MW G Y d pc ls (vJ x :: st) M Q := by subst hq; exact MW.step (am_loc fun hx hb hL kk => lv_lstore hx hb hd (am_LHhas hL) hn rfl (fun lsr' h' => kk lsr' (hls ▸ am_LH2 hL.2.2.1 h'))) k
theorem am_lstore_n {i : Fin 4} {x : Int64} (hd : decode Y.cc pc = .ok (.lstore_n i, 1)) (hn : (i : Nat) + 1 < Y.nL) (hls : lsC ls i (vJ x) = ls1) {q : Nat} (hq : pc + 1 = q) (k : MW G Y d q ls1 st M Q) : MW G Y d pc ls (vJ x :: st) M Q := by subst hq; exact MW.step (am_loc fun hx hb hL kk => lv_lstore_n hx hb hd rfl (am_LHhas hL) hn rfl (fun lsr' h' => kk lsr' (hls ▸ am_LH2 hL.2.2.1 h'))) k
theorem am_dstore {i : Nat} {x : UInt64} (hd : decode Y.cc pc = .ok (.dstore i, 2)) (hn : i + 1 < Y.nL) (hls : lsC ls i (vD x) = ls1) {q : Nat} (hq : pc + 2 = q) (k : MW G Y d q ls1 st M Q) : MW G Y d pc ls (vD x :: st) M Q := by subst hq; exact MW.step (am_loc fun hx hb hL kk => lv_dstore hx hb hd (am_LHhas hL) hn rfl (fun lsr' h' => kk lsr' (hls ▸ am_LH2 hL.2.2.1 h'))) k
theorem am_iinc {i : Nat} {n : Int} {x v : Int32} (hd : decode Y.cc pc = .ok (.iinc i n, 3)) (hl : ls[i]? = some (some (vI x))) (hn : i < Y.nL) (hv : x + Int32.ofInt n = v) (hls : lsA ls i (vI v) = ls1) (k : MW G Y d (pc + 3) ls1 st M Q) : MW G Y d pc ls st M Q := by
  obtain ⟨q, hq⟩ := List.getElem?_of_mem (am_lsL_mem hl)
  exact MW.step (am_loc fun hx hb hL kk => lv_iinc hx hb hd (am_LHhas hL) hq hv hn rfl (fun lsr' h' => kk lsr' (hls ▸ am_LH1 hL.2.2.1 h'))) k
end AMloc
theorem am_tb (i : Nat) {w : Cond} (h : lw_tbl[i]? = some w) (hg : goodWord w = true) : w ∈ TB := List.mem_filter.mpr ⟨List.mem_of_getElem? h, hg⟩
