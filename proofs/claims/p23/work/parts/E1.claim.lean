/-! the claim's own: launch, classes, strings, what holds of the statics -/
section St
variable {A : Array Value} {s : State}
theorem strF_of {C : String} {k base : Nat} {bs : List Int32} (h : strP A s C k bs) (hN : bs.length < 2 ^ 31) (hA : ∀ a : Nat, a < s.heap.size → ¬ base ≤ a) : ∃ q : Nat × Nat, (Term.string C k).eval A s none [] s = some (.ref q.1) ∧ strF base q.1 q.2 bs s := by
  obtain ⟨hex, hco, har, hle, hel⟩ := h
  obtain ⟨a, c, cA, kA, q1, q2, q3, q4, q5, q6, -⟩ := Cond.exactly_spec (args := A) (first := s) (o := none) (s := s) (idx := []) (t := .string C k) (cls := "java/lang/String") hex
  have hel' : ∀ j : Nat, j < bs.length → (Term.elem (.field (.string C k) "java/lang/String" "value" "[B") (.int (Int32.ofNat j))).eval A s none [] s = some (.int (bs.getD j 0)) := fun j hj => va_eqt (by
    have := allB_get hel j hj
    rw [Nat.zero_add] at this
    exact this)
  obtain ⟨t, ht, hT⟩ := va_Tof (f := fun j => .int (bs.getD j 0)) (A := fun q => base ≤ q) hN har (va_eqt hle) hel' hA
  exact ⟨(a, t), q1, ⟨cA, q3, q5, by rw [q6]; exact q2, hA a (Array.getElem?_eq_some_iff.mp q3).1⟩, vk_OFof q1 (va_eqt hco) hA, vk_OFof q1 ht hA, hT⟩
theorem sP_all (h : narrow_1.before A s = true) : ∀ i, i < 17 → strP A s (litN.getD i ("", 0, "")).1 (litN.getD i ("", 0, "")).2.1 (strN i) := by
  intro i hi
  match i, hi with
  | 0, _ => exact sP_0 h
  | 1, _ => exact sP_1 h
  | 2, _ => exact sP_2 h
  | 3, _ => exact sP_3 h
  | 4, _ => exact sP_4 h
  | 5, _ => exact sP_5 h
  | 6, _ => exact sP_6 h
  | 7, _ => exact sP_7 h
  | 8, _ => exact sP_8 h
  | 9, _ => exact sP_9 h
  | 10, _ => exact sP_10 h
  | 11, _ => exact sP_11 h
  | 12, _ => exact sP_12 h
  | 13, _ => exact sP_13 h
  | 14, _ => exact sP_14 h
  | 15, _ => exact sP_15 h
  | 16, _ => exact sP_16 h
  | i + 17, hi => exact absurd hi (by omega)
theorem sR_all : ∀ i, i < 17 → Cond.stringRef (litN.getD i ("", 0, "")).1 (litN.getD i ("", 0, "")).2.1 (litN.getD i ("", 0, "")).2.2 ∈ lw_tbl := by
  intro i hi
  match i, hi with
  | 0, _ => exact (am_ck5 (List.mem_of_getElem? (i := 122) rfl))
  | 1, _ => exact (am_ck5 (List.mem_of_getElem? (i := 123) rfl))
  | 2, _ => exact (am_ck5 (List.mem_of_getElem? (i := 127) rfl))
  | 3, _ => exact (am_ck5 (List.mem_of_getElem? (i := 128) rfl))
  | 4, _ => exact (am_ck5 (List.mem_of_getElem? (i := 129) rfl))
  | 5, _ => exact (am_ck5 (List.mem_of_getElem? (i := 130) rfl))
  | 6, _ => exact (am_ck5 (List.mem_of_getElem? (i := 131) rfl))
  | 7, _ => exact (am_ck5 (List.mem_of_getElem? (i := 132) rfl))
  | 8, _ => exact (am_ck5 (List.mem_of_getElem? (i := 133) rfl))
  | 9, _ => exact (am_ck5 (List.mem_of_getElem? (i := 134) rfl))
  | 10, _ => exact (am_ck5 (List.mem_of_getElem? (i := 135) rfl))
  | 11, _ => exact (am_ck5 (List.mem_of_getElem? (i := 136) rfl))
  | 12, _ => exact (am_ck5 (List.mem_of_getElem? (i := 137) rfl))
  | 13, _ => exact (am_ck5 (List.mem_of_getElem? (i := 138) rfl))
  | 14, _ => exact (am_ck5 (List.mem_of_getElem? (i := 145) rfl))
  | 15, _ => exact (am_ck4 (List.mem_of_getElem? (i := 18) rfl))
  | 16, _ => exact (am_ck1 (List.mem_of_getElem? (i := 84) rfl))
  | i + 17, hi => exact absurd hi (by omega)
theorem ST0_of {base : Nat} (h : narrow_1.before A s = true) (hts : ∀ w ∈ lw_tbl, w.before A s = true) (hA : ∀ a : Nat, a < s.heap.size → ¬ base ≤ a) : ∃ Z : StA, ST0 base Z s := by
  have hTB : ∀ w ∈ TB, w.before A s = true := fun w hw => hts w (List.mem_filter.mp hw).1
  have h0 : ∀ i : Nat, ∃ q : Nat × Nat, i < 17 → (Term.string (litN.getD i ("", 0, "")).1 (litN.getD i ("", 0, "")).2.1).eval A s none [] s = some (.ref q.1) ∧ strF base q.1 q.2 (strN i) s := by
    intro i
    by_cases hi : i < 17
    · obtain ⟨q, q1, q2⟩ := strF_of (base := base) (sP_all h i hi) (by
        have : ∀ i, i < 17 → (strN i).length < 2 ^ 31 := by decide +kernel
        exact this i hi) hA
      exact ⟨q, fun _ => ⟨q1, q2⟩⟩
    · exact ⟨(0, 0), fun q => absurd q hi⟩
  obtain ⟨ad, had⟩ := Classical.axiomOfChoice h0
  have hf : ∃ f : Option Nat, va_Z "jdk/internal/util/Preconditions" "SIOOBE_FORMATTER" "Ljava/util/function/BiFunction;" (va_rf f) (fun q => base ≤ q) s s.heap := by
    rcases va_Zqof (A := fun q => base ≤ q) (hts _ (am_ck1 (List.mem_of_getElem? (i := 110) rfl))) (hTB _ (tbc1 6 rfl rfl)) (fmP h) hA with q | ⟨t, q⟩
    · exact ⟨none, q⟩
    · exact ⟨some t, q⟩
  obtain ⟨f, hf⟩ := hf
  refine ⟨(fun i => (ad i).1, fun i => (ad i).2, 0, f), fun i hi => (had i hi).2, fun i hi => vk_R.of (hts _ (sR_all i hi)) (had i hi).1, va_Zof (hts _ (am_ck1 (List.mem_of_getElem? (i := 94) rfl))) (hTB _ (tbc1 4 rfl rfl)) (va_eqi (csP h)) hA, hf, fun C hC => ?_⟩
  have ha : (Cond.arrayOver (.object C)).before A s = true := by
    simp only [List.mem_cons, List.mem_nil_iff, or_false] at hC
    rcases hC with rfl | rfl | rfl | rfl
    · exact hts _ (am_ck4 (List.mem_of_getElem? (i := 112) rfl))
    · exact hts _ (am_ck4 (List.mem_of_getElem? (i := 114) rfl))
    · exact hts _ (am_ck4 (List.mem_of_getElem? (i := 116) rfl))
    · exact hts _ (am_ck4 (List.mem_of_getElem? (i := 118) rfl))
  exact Cond.arrayOver_alike (Vm.Alike.refl _) ha
end St
/-- all that the claim knows of strings, statics and script -/
def STW (base : Nat) (Z : StA) (b L : Nat) (xs : Nat → Int32) (U : State) : Prop := ST0 base Z U ∧ va_T .int b L (fun j => .int (xs j)) (fun q => base ≤ q) U U.heap
theorem STW.mv {base b L : Nat} {Z : StA} {xs : Nat → Int32} {s U : State} (hW : s.WarmedH U.vm) (hq : ∀ q : Nat, q < base → U.heap[q]? = s.heap[q]?) (h : STW base Z b L xs s) : STW base Z b L xs U := by
  have hv : s.vm.Alike U.vm := hW.alike
  have hk : ∀ a : Nat, a < s.heap.size → ¬ base ≤ a → U.heap[a]? = s.heap[a]? := fun a _ n => hq a (Nat.lt_of_not_le n)
  obtain ⟨⟨s1, s2, s3, s4, s7⟩, t1⟩ := h
  refine ⟨⟨fun i hi => ?_, fun i hi => vk_R.warm hW (s2 i hi), va_Z.moved hv (s3.kept hk), va_Z.moved hv (s4.kept hk), fun C hC => Cond.arrayOver_alike hv (s7 C hC)⟩, va_T.moved hv (t1.kept hk)⟩
  obtain ⟨q1, q2, q3, q4⟩ := s1 i hi
  exact ⟨va_O.moved hv (q1.kept hk), va_OF.moved hv (q2.kept hk), va_OF.moved hv (q3.kept hk), va_T.moved hv (q4.kept hk)⟩

