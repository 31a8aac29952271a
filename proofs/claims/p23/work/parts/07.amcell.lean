/-! THE ABSTRACT MACHINE, third part: cells -/
/-- which fields are final, which are boolean -/
def fnF (ci j : Nat) : Bool := match ci with
  | 0 => [true, false].getD j false
  | 1 => [true, true, true, false, false].getD j false
  | 2 => [true, true, true, true, true, true, true, true, false, false, false, false, false, false, false, false, false, false, false].getD j false
  | 3 => [false, false, false, false, false, false, false, false, false, false].getD j false
  | 4 => [true, false, false, false, false, false, false].getD j false
  | 5 => [false, false, false, false, false, false].getD j false
  | 6 => [true, false, false, false, false, false, false].getD j false
  | 7 => [true, false, false, false, false].getD j false
  | 8 => [true, false].getD j false
  | 9 => [true, true, true, true, false].getD j false
  | 10 => [false, false, false, false].getD j false
  | 11 => [true, true, true, false, false, false].getD j false
  | _ => false
def zF (ci j : Nat) : Bool := match ci with
  | 3 => [false, false, false, false, false, false, false, false, false, true].getD j false
  | 4 => [false, false, false, false, false, false, true].getD j false
  | _ => false
def am_KD (ci j : Nat) (t : FieldType) : Bool := match kF ci j with
  | 0 => if zF ci j then decide (t = .boolean) else decide (t = .int)
  | 1 => decide (t = .long)
  | _ => t.isReference
def ClF (ci : Nat) (C : String) (T : u_T) (N : Nat) (ty : Nat → FieldType) : Prop :=
  vwCl[ci]? = some (C, T, N) ∧ N = nF ci ∧ (∀ w ∈ u_ws C T N, w ∈ TB) ∧ (∀ k, k < N → parseFieldDescriptor (T k).2.2.1 = some (ty k)) ∧ (∀ a, a < N → ∀ b, b < N → a ≠ b → (T a).2.1 ≠ (T b).2.1) ∧
  (∀ j, j < N → (T j).1 = C ∧ (T j).2.2.2 = fnF ci j ∧ am_KD ci j (ty j) = true) ∧ ci + 1 < 20
set_option maxRecDepth 20000 in
theorem clX0 : ClF 0 RX0 TX0 2 tyX0 := ⟨rfl, rfl, List.forall_mem_cons.mpr ⟨am_tb 841 rfl rfl, List.forall_mem_cons.mpr ⟨am_tb 843 rfl rfl, fun _ h => absurd h List.not_mem_nil⟩⟩, tyX0_ok, nmX0, by decide +kernel, by decide⟩
set_option maxRecDepth 20000 in
theorem clX1 : ClF 1 RX1 TX1 5 tyX1 := ⟨rfl, rfl, List.forall_mem_cons.mpr ⟨am_tb 821 rfl rfl, List.forall_mem_cons.mpr ⟨am_tb 823 rfl rfl, List.forall_mem_cons.mpr ⟨am_tb 825 rfl rfl, List.forall_mem_cons.mpr ⟨am_tb 827 rfl rfl, List.forall_mem_cons.mpr ⟨am_tb 829 rfl rfl, fun _ h => absurd h List.not_mem_nil⟩⟩⟩⟩⟩, tyX1_ok, nmX1, by decide +kernel, by decide⟩
set_option maxRecDepth 20000 in
theorem clX2 : ClF 2 RX2 TX2 19 tyX2 := ⟨rfl, rfl, List.forall_mem_cons.mpr ⟨am_tb 1048 rfl rfl, List.forall_mem_cons.mpr ⟨am_tb 1050 rfl rfl, List.forall_mem_cons.mpr ⟨am_tb 1052 rfl rfl, List.forall_mem_cons.mpr ⟨am_tb 1054 rfl rfl, List.forall_mem_cons.mpr ⟨am_tb 1056 rfl rfl, List.forall_mem_cons.mpr ⟨am_tb 1058 rfl rfl, List.forall_mem_cons.mpr ⟨am_tb 1060 rfl rfl, List.forall_mem_cons.mpr ⟨am_tb 1062 rfl rfl, List.forall_mem_cons.mpr ⟨am_tb 1064 rfl rfl, List.forall_mem_cons.mpr ⟨am_tb 1066 rfl rfl, List.forall_mem_cons.mpr ⟨am_tb 1068 rfl rfl, List.forall_mem_cons.mpr ⟨am_tb 1070 rfl rfl, List.forall_mem_cons.mpr ⟨am_tb 1072 rfl rfl, List.forall_mem_cons.mpr ⟨am_tb 1074 rfl rfl, List.forall_mem_cons.mpr ⟨am_tb 1076 rfl rfl, List.forall_mem_cons.mpr ⟨am_tb 1078 rfl rfl, List.forall_mem_cons.mpr ⟨am_tb 1080 rfl rfl, List.forall_mem_cons.mpr ⟨am_tb 1082 rfl rfl, List.forall_mem_cons.mpr ⟨am_tb 1084 rfl rfl, fun _ h => absurd h List.not_mem_nil⟩⟩⟩⟩⟩⟩⟩⟩⟩⟩⟩⟩⟩⟩⟩⟩⟩⟩⟩, tyX2_ok, nmX2, by decide +kernel, by decide⟩
set_option maxRecDepth 20000 in
theorem clX3 : ClF 3 RX3 TX3 10 tyX3 := ⟨rfl, rfl, List.forall_mem_cons.mpr ⟨am_tb 945 rfl rfl, List.forall_mem_cons.mpr ⟨am_tb 947 rfl rfl, List.forall_mem_cons.mpr ⟨am_tb 949 rfl rfl, List.forall_mem_cons.mpr ⟨am_tb 951 rfl rfl, List.forall_mem_cons.mpr ⟨am_tb 953 rfl rfl, List.forall_mem_cons.mpr ⟨am_tb 955 rfl rfl, List.forall_mem_cons.mpr ⟨am_tb 957 rfl rfl, List.forall_mem_cons.mpr ⟨am_tb 959 rfl rfl, List.forall_mem_cons.mpr ⟨am_tb 961 rfl rfl, List.forall_mem_cons.mpr ⟨am_tb 963 rfl rfl, fun _ h => absurd h List.not_mem_nil⟩⟩⟩⟩⟩⟩⟩⟩⟩⟩, tyX3_ok, nmX3, by decide +kernel, by decide⟩
set_option maxRecDepth 20000 in
theorem clX4 : ClF 4 RX4 TX4 7 tyX4 := ⟨rfl, rfl, List.forall_mem_cons.mpr ⟨am_tb 861 rfl rfl, List.forall_mem_cons.mpr ⟨am_tb 863 rfl rfl, List.forall_mem_cons.mpr ⟨am_tb 865 rfl rfl, List.forall_mem_cons.mpr ⟨am_tb 867 rfl rfl, List.forall_mem_cons.mpr ⟨am_tb 869 rfl rfl, List.forall_mem_cons.mpr ⟨am_tb 871 rfl rfl, List.forall_mem_cons.mpr ⟨am_tb 873 rfl rfl, fun _ h => absurd h List.not_mem_nil⟩⟩⟩⟩⟩⟩⟩, tyX4_ok, nmX4, by decide +kernel, by decide⟩
set_option maxRecDepth 20000 in
theorem clX5 : ClF 5 RX5 TX5 6 tyX5 := ⟨rfl, rfl, List.forall_mem_cons.mpr ⟨am_tb 983 rfl rfl, List.forall_mem_cons.mpr ⟨am_tb 985 rfl rfl, List.forall_mem_cons.mpr ⟨am_tb 987 rfl rfl, List.forall_mem_cons.mpr ⟨am_tb 989 rfl rfl, List.forall_mem_cons.mpr ⟨am_tb 991 rfl rfl, List.forall_mem_cons.mpr ⟨am_tb 993 rfl rfl, fun _ h => absurd h List.not_mem_nil⟩⟩⟩⟩⟩⟩, tyX5_ok, nmX5, by decide +kernel, by decide⟩
set_option maxRecDepth 20000 in
theorem clX6 : ClF 6 RX6 TX6 7 tyX6 := ⟨rfl, rfl, List.forall_mem_cons.mpr ⟨am_tb 905 rfl rfl, List.forall_mem_cons.mpr ⟨am_tb 907 rfl rfl, List.forall_mem_cons.mpr ⟨am_tb 909 rfl rfl, List.forall_mem_cons.mpr ⟨am_tb 911 rfl rfl, List.forall_mem_cons.mpr ⟨am_tb 913 rfl rfl, List.forall_mem_cons.mpr ⟨am_tb 915 rfl rfl, List.forall_mem_cons.mpr ⟨am_tb 917 rfl rfl, fun _ h => absurd h List.not_mem_nil⟩⟩⟩⟩⟩⟩⟩, tyX6_ok, nmX6, by decide +kernel, by decide⟩
set_option maxRecDepth 20000 in
theorem clX7 : ClF 7 RX7 TX7 5 tyX7 := ⟨rfl, rfl, List.forall_mem_cons.mpr ⟨am_tb 1097 rfl rfl, List.forall_mem_cons.mpr ⟨am_tb 1099 rfl rfl, List.forall_mem_cons.mpr ⟨am_tb 1101 rfl rfl, List.forall_mem_cons.mpr ⟨am_tb 1103 rfl rfl, List.forall_mem_cons.mpr ⟨am_tb 1105 rfl rfl, fun _ h => absurd h List.not_mem_nil⟩⟩⟩⟩⟩, tyX7_ok, nmX7, by decide +kernel, by decide⟩
set_option maxRecDepth 20000 in
theorem clX8 : ClF 8 RX8 TX8 2 tyX8 := ⟨rfl, rfl, List.forall_mem_cons.mpr ⟨am_tb 772 rfl rfl, List.forall_mem_cons.mpr ⟨am_tb 774 rfl rfl, fun _ h => absurd h List.not_mem_nil⟩⟩, tyX8_ok, nmX8, by decide +kernel, by decide⟩
set_option maxRecDepth 20000 in
theorem clX9 : ClF 9 RX9 TX9 5 tyX9 := ⟨rfl, rfl, List.forall_mem_cons.mpr ⟨am_tb 792 rfl rfl, List.forall_mem_cons.mpr ⟨am_tb 794 rfl rfl, List.forall_mem_cons.mpr ⟨am_tb 796 rfl rfl, List.forall_mem_cons.mpr ⟨am_tb 798 rfl rfl, List.forall_mem_cons.mpr ⟨am_tb 800 rfl rfl, fun _ h => absurd h List.not_mem_nil⟩⟩⟩⟩⟩, tyX9_ok, nmX9, by decide +kernel, by decide⟩
set_option maxRecDepth 20000 in
theorem clX10 : ClF 10 RX10 TX10 4 tyX10 := ⟨rfl, rfl, List.forall_mem_cons.mpr ⟨am_tb 1009 rfl rfl, List.forall_mem_cons.mpr ⟨am_tb 1011 rfl rfl, List.forall_mem_cons.mpr ⟨am_tb 1013 rfl rfl, List.forall_mem_cons.mpr ⟨am_tb 1015 rfl rfl, fun _ h => absurd h List.not_mem_nil⟩⟩⟩⟩, tyX10_ok, nmX10, by decide +kernel, by decide⟩
set_option maxRecDepth 20000 in
theorem clX11 : ClF 11 RX11 TX11 6 tyX11 := ⟨rfl, rfl, List.forall_mem_cons.mpr ⟨am_tb 1114 rfl rfl, List.forall_mem_cons.mpr ⟨am_tb 1116 rfl rfl, List.forall_mem_cons.mpr ⟨am_tb 1118 rfl rfl, List.forall_mem_cons.mpr ⟨am_tb 1120 rfl rfl, List.forall_mem_cons.mpr ⟨am_tb 1122 rfl rfl, List.forall_mem_cons.mpr ⟨am_tb 1124 rfl rfl, fun _ h => absurd h List.not_mem_nil⟩⟩⟩⟩⟩⟩, tyX11_ok, nmX11, by decide +kernel, by decide⟩
/-- a field by its place in the class file's constants -/
def FL (own : String) (index ci j : Nat) : Prop := ∃ (C : String) (T : u_T) (N : Nat) (ty : Nat → FieldType), ClF ci C T N ty ∧ j < N ∧
  ((Cond.fieldLink own index (T j).1 (T j).2.1 (T j).2.2.1) ∈ TB ∨ ∃ host, (Cond.fieldLinkNest own index (T j).1 (T j).2.1 (T j).2.2.1 host) ∈ NL)
theorem am_objL_get {M : AMem} {ci a j : Nat} (h : j < nF ci) : (objL M ci a)[j]? = some (fv M (kF ci j) a j) := by
  simp [objL, h]
theorem am_objL_len (M : AMem) (ci a : Nat) : (objL M ci a).length = nF ci := by simp [objL]
theorem am_cell_obj {ca : Nat → ClassId} {M : AMem} {a ci : Nat} (h : M.K a = ci + 1) (hc : ci + 1 < 20) : cellOf ca M a = .inr (ci, objL M ci a) := by
  unfold cellOf
  rw [if_pos (by omega), h]
  rfl
theorem am_cell_I {ca : Nat → ClassId} {M : AMem} {a : Nat} (h : M.K a = 20) : cellOf ca M a = .inl (ca 0, (M.ln a, .inl (M.I a))) := by
  unfold cellOf
  rw [if_neg (by omega), if_pos h]
theorem am_cell_J {ca : Nat → ClassId} {M : AMem} {a : Nat} (h : M.K a = 21) : cellOf ca M a = .inl (ca 1, (M.ln a, .inr (.inl (M.J a)))) := by
  unfold cellOf
  rw [if_neg (by omega), if_neg (by omega), if_pos h]
theorem am_cell_R {ca : Nat → ClassId} {M : AMem} {a t : Nat} (h : M.K a = 22 + t) : cellOf ca M a = .inl (ca (t + 2), (M.ln a, .inr (.inr (.inr (.inr (M.R a)))))) := by
  unfold cellOf
  rw [if_neg (by omega), if_neg (by omega), if_neg (by omega), h, show 22 + t - 20 = t + 2 by omega]
theorem am_up2_ne {α : Type} {f : Nat → Nat → α} {a b j : Nat} {v : α} (h : b ≠ a) : up2 f a j v b = f b := by
  funext i
  exact if_neg (fun q => h q.1)
theorem am_up2_row {f : Nat → Nat → Int32} {a j : Nat} {v : Int32} : up2 f a j v a = upd (f a) j v := by
  funext i
  simp [up2, upd]
theorem am_up2_rowJ {f : Nat → Nat → Int64} {a j : Nat} {v : Int64} : up2 f a j v a = vp_updL (f a) j v := by
  funext i
  simp [up2, vp_updL]
theorem am_up2_rowR {f : Nat → Nat → Option Nat} {a j : Nat} {v : Option Nat} : up2 f a j v a = va_up (f a) j v := by
  funext i
  simp [up2, va_up]
/-- fields of an object that are one value apart -/
theorem am_objL_set {M M' : AMem} {ci a j : Nat} {v : Value} (h1 : ∀ i, i ≠ j → fv M' (kF ci i) a i = fv M (kF ci i) a i) (h2 : fv M' (kF ci j) a j = v) : objL M' ci a = (objL M ci a).set j v := by
  apply List.ext_getElem?
  intro i
  by_cases hi : i < nF ci
  · by_cases e : j = i
    · subst e
      rw [am_objL_get hi, List.getElem?_set_self (by rw [am_objL_len]; exact hi), h2]
    · rw [am_objL_get hi, List.getElem?_set_ne e, am_objL_get hi, h1 i (fun q => e q.symm)]
  · rw [List.getElem?_eq_none (by rw [am_objL_len]; omega), List.getElem?_eq_none (by rw [List.length_set, am_objL_len]; omega)]
theorem am_cell_off {ca : Nat → ClassId} {M M' : AMem} {b : Nat} (hK : M'.K b = M.K b) (hl : M'.ln b = M.ln b) (hI : M'.I b = M.I b) (hJ : M'.J b = M.J b) (hR : M'.R b = M.R b) : cellOf ca M' b = cellOf ca M b := by
  have ho : ∀ ci, objL M' ci b = objL M ci b := fun ci => by
    unfold objL
    congr 1
    funext j
    unfold fv
    rw [hI, hJ, hR]
  unfold cellOf
  rw [hK, hl, hI, hJ, hR, ho]
/-- a cell of ours, in the list of all -/
theorem am_in {G : Gp} {M : AMem} {H : Heap} {a : Nat} (h : Wd G M H) (ha : M.K a ≠ 0) : ∃ k : Nat, (wsM G M)[k]? = some (a, cellOf G.ca M a) := va_pl_get (X := []) (h.2.2.2.1 a ha)
/-- a cell written anew -/
theorem am_Wd_set {G : Gp} {M M' : AMem} {H H1 : Heap} {a k : Nat} {e : va_E} (h : Wd G M H) (ha : M.K a ≠ 0) (hk : (wsM G M)[k]? = some (a, cellOf G.ca M a)) (hP : va_P G.D vwCl ((wsM G M).set k (a, e)) H1) (hz : H1.size = H.size) (had : M'.ad = M.ad) (hhs : M'.hs = M.hs) (hKK : M'.K = M.K) (hself : cellOf G.ca M' a = e) (hoff : ∀ b, b ≠ a → cellOf G.ca M' b = cellOf G.ca M b) : Wd G M' H1 := by
  have hs : (wsM G M).set k (a, e) = wsM G M' := by
    have := va_pl_set (X := []) (e := e) h.2.1 (h.2.2.2.1 a ha) hk
    refine Eq.trans this ?_
    show va_pl M.ad _ = va_pl M'.ad _
    rw [had]
    exact va_pl_congr fun b => by
      by_cases q : b = a
      · subst q
        rw [hself]
        simp [va_up]
      · rw [hoff b q]
        simp [va_up, q]
  rw [hs] at hP
  refine ⟨hP, ?_, by rw [hz, h.2.2.1, hhs], by rw [hKK, had]; exact h.2.2.2.1, by rw [hhs]; exact h.2.2.2.2⟩
  rw [← hs]
  exact va_D.set h.2.1 hk
section AMcell
variable {G : Gp} {Y : MD} {d pc : Nat} {ls : List (Option AV)} {st : List AV} {M : AMem} {Q : (Option AV ⊕ Nat) → AMem → Prop}
/-- a row that reads memory -/
theorem am_read {pc1 : Nat} {st1' : List AV} (h : ∀ {p : Program} {e : Env} {R : Room} {s : State} {m : MethodId} {args : Array Value} {below : List Frame} {meth : Method} {c : Code} {H : Heap} {locs : List Loc} {cells slots : Nat} {lsr : Array Slot} {Q : State → Prop}, Ctx G Y d p R s m args meth c → Wd G M H → W p G.l e R s m args below meth c H locs cells slots Q (F0 m pc1 lsr (st1'.map vV)) → W p G.l e R s m args below meth c H locs cells slots Q (F0 m pc lsr (st.map vV))) : Reach G Y d pc ls st M pc1 ls st1' M :=
  ⟨Nat.le_refl _, Nat.le_refl _, fun p e R s m args below meth c H locs cells slots lsr Q hC hW hS hL hc hs kk => h hC hW (by
    have := kk H locs lsr hW hS hL
    rw [Nat.sub_self, Nat.sub_self] at this
    exact this)⟩
/-- a row that calls, and leaves memory alone -/
theorem am_read2 {pc1 : Nat} {st1' : List AV} (h : ∀ {p : Program} {e : Env} {R : Room} {s : State} {m : MethodId} {args : Array Value} {below : List Frame} {meth : Method} {c : Code} {H : Heap} {locs : List Loc} {cells slots : Nat} {lsr : Array Slot} {Q : State → Prop}, Ctx G Y d p R s m args meth c → Wd G M H → LH lsr Y.nL ls → cells ≤ R.cells → slots ≤ R.slots → W p G.l e R s m args below meth c H locs cells slots Q (F0 m pc1 lsr (st1'.map vV)) → W p G.l e R s m args below meth c H locs cells slots Q (F0 m pc lsr (st.map vV))) : Reach G Y d pc ls st M pc1 ls st1' M :=
  ⟨Nat.le_refl _, Nat.le_refl _, fun p e R s m args below meth c H locs cells slots lsr Q hC hW hS hL hc hs kk => h hC hW hL (by omega) (by omega) (by
    have := kk H locs lsr hW hS hL
    rw [Nat.sub_self, Nat.sub_self] at this
    exact this)⟩
/-- a row that writes a cell -/
theorem am_write {pc1 : Nat} {st1' : List AV} {M' : AMem} (hhs : M'.hs = M.hs) (hsl : M'.sl = M.sl) (h : ∀ {p : Program} {e : Env} {R : Room} {s : State} {m : MethodId} {args : Array Value} {below : List Frame} {meth : Method} {c : Code} {H : Heap} {locs : List Loc} {cells slots : Nat} {lsr : Array Slot} {Q : State → Prop}, Ctx G Y d p R s m args meth c → Wd G M H → va_S (fun q => G.base ≤ q) s.heap H locs → (∀ (H1 : Heap) (locs1 : List Loc), Wd G M' H1 → va_S (fun q => G.base ≤ q) s.heap H1 locs1 → W p G.l e R s m args below meth c H1 locs1 cells slots Q (F0 m pc1 lsr (st1'.map vV))) → W p G.l e R s m args below meth c H locs cells slots Q (F0 m pc lsr (st.map vV))) : Reach G Y d pc ls st M pc1 ls st1' M' :=
  ⟨Nat.le_of_eq hhs.symm, Nat.le_of_eq hsl.symm, fun p e R s m args below meth c H locs cells slots lsr Q hC hW hS hL hc hs kk => h hC hW hS (fun H1 locs1 hW1 hS1 => by
    have := kk H1 locs1 lsr hW1 hS1 hL
    rw [hhs, hsl, Nat.sub_self, Nat.sub_self] at this
    exact this)⟩
theorem am_getV {index ci j a : Nat} {v : AV} (hd : decode Y.cc pc = .ok (.getfield index, 3)) (hf : FL Y.y.cls index ci j) (hK : M.K a = ci + 1) (hv : fv M (kF ci j) a j = vV v) (k : MW G Y d (pc + 3) ls (v :: st) M Q) : MW G Y d pc ls (vR a :: st) M Q := by
  refine MW.step (am_read (pc1 := pc + 3) (st1' := v :: st) fun hC hW kk => ?_) k
  obtain ⟨C, T, N, ty, ⟨c1, rfl, c3, c4, c5, c6, c7⟩, hj, hl⟩ := hf
  obtain ⟨q, hq⟩ := am_in hW (show M.K a ≠ 0 by omega)
  rw [am_cell_obj hK c7] at hq
  have hv' : (objL M ci a)[j]? = some (vV v) := by rw [am_objL_get hj, hv]
  rcases hl with hl | ⟨host, hl⟩
  · exact va_get hC.1 hC.2.1 hC.2.2.2.2.1 c3 hC.2.2.2.1 hC.2.2.2.2.2.1 hW.1 q hq c1 j hj (hC.2.2.2.2.1 _ hl) (fun _ h9 => h9) hv' hd kk
  · exact va_getN hC.1 hC.2.1 hC.2.2.2.2.1 c3 hC.2.2.2.1 hC.2.2.2.2.2.1 hW.1 q hq c1 j hj (va_Nw.use rfl (hC.2.2.2.2.2.2.2.1.1 _ hl)) (fun _ h9 => h9) hv' hd kk
theorem am_getI {index ci j a : Nat} (hd : decode Y.cc pc = .ok (.getfield index, 3)) (hf : FL Y.y.cls index ci j) (hk : kF ci j = 0) (hK : M.K a = ci + 1) {q : Nat} (hq : pc + 3 = q) (k : MW G Y d q ls (vI (M.I a j) :: st) M Q) : MW G Y d pc ls (vR a :: st) M Q := by subst hq; exact am_getV hd hf hK (by rw [hk]; rfl) k
theorem am_getJ {index ci j a : Nat} (hd : decode Y.cc pc = .ok (.getfield index, 3)) (hf : FL Y.y.cls index ci j) (hk : kF ci j = 1) (hK : M.K a = ci + 1) {q : Nat} (hq : pc + 3 = q) (k : MW G Y d q ls (vJ (M.J a j) :: st) M Q) : MW G Y d pc ls (vR a :: st) M Q := by subst hq; exact am_getV hd hf hK (by rw [hk]; rfl) k
theorem am_getR {index ci j a b : Nat} (hd : decode Y.cc pc = .ok (.getfield index, 3)) (hf : FL Y.y.cls index ci j) (hk : kF ci j = 2) (hK : M.K a = ci + 1) (hR : M.R a j = some b) {q : Nat} (hq : pc + 3 = q) (k : MW G Y d q ls (vR b :: st) M Q) : MW G Y d pc ls (vR a :: st) M Q := by subst hq; exact am_getV hd hf hK (by rw [hk]; show va_rf (M.R a j) = _; rw [hR]; rfl) k
theorem am_fld {D : va_G} {cl : List vw_C} {ci a k : Nat} {fs : List Value} {H1 : Heap} {r : vw_C} {cell : Cell} {v : Value} (hc : cl[ci]? = some r) (q2 : cell.cls = D.1 ci) (q3 : cell.vm = .none) (q4 : ∀ x, x < r.2.2 → cell.slots[D.2 ci x]? = some (vp_V fs x)) (hap : ∀ x y, x < r.2.2 → y < r.2.2 → x ≠ y → D.2 ci x ≠ D.2 ci y) (hk : k < r.2.2) (hl : k < fs.length) (e1 : H1[a]? = some (cell.setSlot (D.2 ci k) v)) : va_at D cl (a, .inr (ci, fs.set k v)) H1 :=
  ⟨r, hc, t_OB.to (V := updV (vp_V fs) k v) ⟨_, e1, q2, q3, t_set q4 hap hk v⟩ (fun j _ => vp_updV_set hl v j)⟩
/-- putfield, whatever the value -/
theorem am_putV {index ci j a : Nat} {v : AV} {M' : AMem} (hd : decode Y.cc pc = .ok (.putfield index, 3)) (hf : FL Y.y.cls index ci j) (hK : M.K a = ci + 1) (hfin : fnF ci j = false ∨ (Y.y.name = "<init>" ∧ ∃ C T N, vwCl[ci]? = some (C, T, N) ∧ C = Y.y.cls ∧ (Cond.fieldLink Y.y.cls index (T j).1 (T j).2.1 (T j).2.2.1) ∈ TB)) (hfit : ∀ ty : FieldType, am_KD ci j ty = true → narrow ty (vV v) = vV v ∧ fits ty (vV v) = true) (had : M'.ad = M.ad) (hhs : M'.hs = M.hs) (hsl : M'.sl = M.sl) (hKK : M'.K = M.K) (hln : M'.ln = M.ln) (hself : ∀ i, i ≠ j → fv M' (kF ci i) a i = fv M (kF ci i) a i) (hj2 : fv M' (kF ci j) a j = vV v) (hoff : ∀ b, b ≠ a → M'.I b = M.I b ∧ M'.J b = M.J b ∧ M'.R b = M.R b) (k : MW G Y d (pc + 3) ls st M' Q) : MW G Y d pc ls (v :: vR a :: st) M Q := by
  refine MW.step (am_write (pc1 := pc + 3) (st1' := st) hhs hsl fun {p e R s m args below meth c H locs cells slots lsr Q0} hC hW hS kk => ?_) k
  obtain ⟨C, T, N, ty, ⟨c1, rfl, c3, c4, c5, c6, c7⟩, hj, hl⟩ := hf
  obtain ⟨q, hq⟩ := am_in hW (show M.K a ≠ 0 by omega)
  have hq0 := hq
  rw [am_cell_obj hK c7] at hq
  obtain ⟨hx, hb, hml, hown, hts, hKK', -, hSS, -, -, hnm⟩ := hC
  obtain ⟨f1, f2, f3⟩ := c6 j hj
  obtain ⟨hn, hft⟩ := hfit (ty j) f3
  have hd1 := c4 j hj
  have hap := va_apart (own := Y.y.cls) hts c3 ty c4 c5 hKK' c1
  obtain ⟨r, h1, cell, q1, q2, q3, q4⟩ := hW.1 q _ hq
  have hr : r = (C, T, nF ci) := Option.some.inj (h1.symm.trans c1)
  subst hr
  obtain ⟨hSl, hfc, kC, hkC, hkind⟩ := hKK'.1 ci _ c1
  obtain ⟨cf, kf, fi, f, hi, hsl'⟩ := hSl j hj
  have hlen : j < (objL M ci a).length := by rw [am_objL_len]; exact hj
  have hst := (u_facts hfc hkC (u_lays hts c3 hj) hi).1
  have done : ∀ H' : Heap, H'[a]? = some (cell.setSlot f.slot (vV v)) → H'.size = H.size → (∀ q : Nat, q ≠ a → H'[q]? = H[q]?) → W p G.l e R s m args below meth c H' (locs ++ [⟨a, f.slot⟩]) cells slots Q0 (F0 m (pc + 3) lsr (st.map vV)) := by
    intro H' e1 e2 e3
    rw [hsl'] at e1
    refine kk H' _ (am_Wd_set hW (show M.K a ≠ 0 by omega) hq0 (hW.1.set hW.2.1 hq (am_fld (D := G.D) h1 q2 q3 q4 hap hj hlen e1) e3) e2 had hhs hKK ?_ (fun b hb => ?_)) (hS.put e2 e3 (hW.2.1.2 q _ hq))
    · rw [am_cell_obj (by rw [hKK]; exact hK) c7, am_objL_set hself hj2]
    · obtain ⟨o1, o2, o3⟩ := hoff b hb
      exact am_cell_off (by rw [hKK]) (by rw [hln]) o1 o2 o3
  rcases hfin with hfin | ⟨hini, C', T', N', g1, g2, g3⟩
  · have hlay := hts _ (c3 _ (u_in_lay hj))
    unfold u_lay at hlay
    rw [if_neg (by rw [f2, hfin]; decide)] at hlay
    have h6 := u_store hfc hkC hkind hlay hi hd1 hn hft
    rcases hl with hl | ⟨host, hl⟩
    · exact W.putK hx hb (f := f) ⟨hown, hts _ hl, ⟨_, _, _, hi⟩, hst⟩ (by rw [q2]; exact h6) q1 q3 (by rw [hsl']; exact k2_hasslot (q4 j hj)) rfl rfl hd done
    · exact va_WputK hx hb (f := f) hown (va_Nw.use rfl (hSS.1 _ hl)) hi hst (by rw [q2]; exact h6) q1 q3 (by rw [hsl']; exact k2_hasslot (q4 j hj)) rfl rfl hd done
  · cases g1.symm.trans c1
    by_cases hfin : fnF ci j = true
    · have hlay := hts _ (c3 _ (u_in_lay hj))
      unfold u_lay at hlay
      rw [if_pos (by rw [f2, hfin])] at hlay
      have hcf : m.cls = cf := by
        obtain ⟨_, _, c', _, _, _, -, -, hf', -, -, -, hown2, -⟩ := Cond.laysFinal_spec hlay
        have e1 : c' = cf := by have := hi.symm.trans hf'; simp at this; exact this.1.symm
        rw [f1, g2] at hown2
        rw [← e1]; exact Option.some.inj (hown.symm.trans hown2)
      have h6 := u_fits hfc hkC hkind (Or.inr hlay) hi hd1 hn hft
      exact W.putFinK hx hb hown (hts _ g3) hi hst hcf (by rw [hnm]; exact hini) (by rw [q2]; exact h6) q1 q3 (by rw [hsl']; exact k2_hasslot (q4 j hj)) rfl rfl hd done
    · have hlay := hts _ (c3 _ (u_in_lay hj))
      unfold u_lay at hlay
      rw [if_neg (by rw [f2]; exact hfin)] at hlay
      have h6 := u_store hfc hkC hkind hlay hi hd1 hn hft
      exact W.putK hx hb (f := f) ⟨hown, hts _ g3, ⟨_, _, _, hi⟩, hst⟩ (by rw [q2]; exact h6) q1 q3 (by rw [hsl']; exact k2_hasslot (q4 j hj)) rfl rfl hd done
end AMcell
