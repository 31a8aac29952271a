/-! the claim's own: launch, classes, strings, what holds of the statics -/
section St
variable {A : Array Value} {s : State}
theorem strF_of {C : String} {k base : Nat} {bs : List Int32} (h : strP A s C k bs) (hN : bs.length < 2 ^ 31) (hA : ∀ a : Nat, a < s.heap.size → ¬ base ≤ a) : ∃ q : Nat × Nat, (Term.string C k).eval A s none [] s = some (.ref q.1) ∧ strF base q.1 q.2 bs s := by
  obtain ⟨hex, hco, har, hle, hel⟩ := h
  obtain ⟨a, c, cA, kA, q1, q2, q3, q4, q5, q6, -⟩ := Cond.exactly_spec (args := A) (first := s) (o := none) (s := s) (idx := []) (t := .string C k) (cls := "java/lang/String") hex
  have hel' : ∀ j : Nat, j < bs.length → (Term.elem (.field (.string C k) "java/lang/String" "value" "[B") (.int (Int32.ofNat j))).eval A s none [] s = some (.int (bs.getD j 0)) := fun j hj => va_eqt (by
    have := allB_get hel j hj
    rw [Nat.zero_add] at this
    exact this)
  obtain ⟨t, ht, hT⟩ := va_Tof (f := fun j => .int (bs.getD j 0)) (A := fun q => base ≤ q) hN har (va_eqt hle) hel' hA
  exact ⟨(a, t), q1, ⟨cA, q3, q5, by rw [q6]; exact q2, hA a (Array.getElem?_eq_some_iff.mp q3).1⟩, vk_OFof q1 (va_eqt hco) hA, vk_OFof q1 ht hA, hT⟩
theorem sP_all (h : narrow_1.before A s = true) : ∀ i, i < 34 → strP A s (litN.getD i ("", 0, "")).1 (litN.getD i ("", 0, "")).2.1 (strN i) := by
  intro i hi
  match i, hi with
  | 0, _ => exact sP_0 h
  | 1, _ => exact sP_1 h
  | 2, _ => exact sP_2 h
  | 3, _ => exact sP_3 h
  | 4, _ => exact sP_4 h
  | 5, _ => exact sP_5 h
  | 6, _ => exact sP_6 h
  | 7, _ => exact sP_7 h
  | 8, _ => exact sP_8 h
  | 9, _ => exact sP_9 h
  | 10, _ => exact sP_10 h
  | 11, _ => exact sP_11 h
  | 12, _ => exact sP_12 h
  | 13, _ => exact sP_13 h
  | 14, _ => exact sP_14 h
  | 15, _ => exact sP_15 h
  | 16, _ => exact sP_16 h
  | 17, _ => exact sP_17 h
  | 18, _ => exact sP_18 h
  | 19, _ => exact sP_19 h
  | 20, _ => exact sP_20 h
  | 21, _ => exact sP_21 h
  | 22, _ => exact sP_22 h
  | 23, _ => exact sP_23 h
  | 24, _ => exact sP_24 h
  | 25, _ => exact sP_25 h
  | 26, _ => exact sP_26 h
  | 27, _ => exact sP_27 h
  | 28, _ => exact sP_28 h
  | 29, _ => exact sP_29 h
  | 30, _ => exact sP_30 h
  | 31, _ => exact sP_31 h
  | 32, _ => exact sP_32 h
  | 33, _ => exact sP_33 h
  | i + 34, hi => exact absurd hi (by omega)
theorem sE_all (h : narrow_1.before A s = true) : ∀ i, 34 ≤ i → i < 50 → (Cond.exactly (.string (litN.getD i ("", 0, "")).1 (litN.getD i ("", 0, "")).2.1) "java/lang/String").before A s = true := by
  intro i h1 hi
  obtain ⟨j, rfl⟩ := Nat.exists_eq_add_of_le h1
  match j, hi with
  | 0, _ => exact sE_34 h
  | 1, _ => exact sE_35 h
  | 2, _ => exact sE_36 h
  | 3, _ => exact sE_37 h
  | 4, _ => exact sE_38 h
  | 5, _ => exact sE_39 h
  | 6, _ => exact sE_40 h
  | 7, _ => exact sE_41 h
  | 8, _ => exact sE_42 h
  | 9, _ => exact sE_43 h
  | 10, _ => exact sE_44 h
  | 11, _ => exact sE_45 h
  | 12, _ => exact sE_46 h
  | 13, _ => exact sE_47 h
  | 14, _ => exact sE_48 h
  | 15, _ => exact sE_49 h
  | j + 16, hi => exact absurd hi (by omega)
theorem sR_all : ∀ i, i < 50 → Cond.stringRef (litN.getD i ("", 0, "")).1 (litN.getD i ("", 0, "")).2.1 (litN.getD i ("", 0, "")).2.2 ∈ lw_tbl := by
  intro i hi
  match i, hi with
  | 0, _ => exact (am_ck8 (List.mem_of_getElem? (i := 59) rfl))
  | 1, _ => exact (am_ck8 (List.mem_of_getElem? (i := 60) rfl))
  | 2, _ => exact (am_ck8 (List.mem_of_getElem? (i := 61) rfl))
  | 3, _ => exact (am_ck8 (List.mem_of_getElem? (i := 62) rfl))
  | 4, _ => exact (am_ck8 (List.mem_of_getElem? (i := 63) rfl))
  | 5, _ => exact (am_ck8 (List.mem_of_getElem? (i := 64) rfl))
  | 6, _ => exact (am_ck8 (List.mem_of_getElem? (i := 65) rfl))
  | 7, _ => exact (am_ck8 (List.mem_of_getElem? (i := 66) rfl))
  | 8, _ => exact (am_ck8 (List.mem_of_getElem? (i := 67) rfl))
  | 9, _ => exact (am_ck8 (List.mem_of_getElem? (i := 68) rfl))
  | 10, _ => exact (am_ck8 (List.mem_of_getElem? (i := 69) rfl))
  | 11, _ => exact (am_ck8 (List.mem_of_getElem? (i := 70) rfl))
  | 12, _ => exact (am_ck8 (List.mem_of_getElem? (i := 71) rfl))
  | 13, _ => exact (am_ck8 (List.mem_of_getElem? (i := 72) rfl))
  | 14, _ => exact (am_ck8 (List.mem_of_getElem? (i := 73) rfl))
  | 15, _ => exact (am_ck8 (List.mem_of_getElem? (i := 74) rfl))
  | 16, _ => exact (am_ck8 (List.mem_of_getElem? (i := 75) rfl))
  | 17, _ => exact (am_ck8 (List.mem_of_getElem? (i := 76) rfl))
  | 18, _ => exact (am_ck8 (List.mem_of_getElem? (i := 77) rfl))
  | 19, _ => exact (am_ck8 (List.mem_of_getElem? (i := 78) rfl))
  | 20, _ => exact (am_ck8 (List.mem_of_getElem? (i := 79) rfl))
  | 21, _ => exact (am_ck8 (List.mem_of_getElem? (i := 80) rfl))
  | 22, _ => exact (am_ck8 (List.mem_of_getElem? (i := 81) rfl))
  | 23, _ => exact (am_ck8 (List.mem_of_getElem? (i := 82) rfl))
  | 24, _ => exact (am_ck8 (List.mem_of_getElem? (i := 83) rfl))
  | 25, _ => exact (am_ck8 (List.mem_of_getElem? (i := 84) rfl))
  | 26, _ => exact (am_ck8 (List.mem_of_getElem? (i := 85) rfl))
  | 27, _ => exact (am_ck8 (List.mem_of_getElem? (i := 86) rfl))
  | 28, _ => exact (am_ck8 (List.mem_of_getElem? (i := 87) rfl))
  | 29, _ => exact (am_ck8 (List.mem_of_getElem? (i := 88) rfl))
  | 30, _ => exact (am_ck8 (List.mem_of_getElem? (i := 89) rfl))
  | 31, _ => exact (am_ck8 (List.mem_of_getElem? (i := 90) rfl))
  | 32, _ => exact (am_ck1 (List.mem_of_getElem? (i := 58) rfl))
  | 33, _ => exact (am_ck3 (List.mem_of_getElem? (i := 37) rfl))
  | 34, _ => exact (am_ck4 (List.mem_of_getElem? (i := 153) rfl))
  | 35, _ => exact (am_ck4 (List.mem_of_getElem? (i := 200) rfl))
  | 36, _ => exact (am_ck4 (List.mem_of_getElem? (i := 224) rfl))
  | 37, _ => exact (am_ck4 (List.mem_of_getElem? (i := 239) rfl))
  | 38, _ => exact (am_ck5 (List.mem_of_getElem? (i := 9) rfl))
  | 39, _ => exact (am_ck5 (List.mem_of_getElem? (i := 19) rfl))
  | 40, _ => exact (am_ck5 (List.mem_of_getElem? (i := 29) rfl))
  | 41, _ => exact (am_ck5 (List.mem_of_getElem? (i := 39) rfl))
  | 42, _ => exact (am_ck5 (List.mem_of_getElem? (i := 48) rfl))
  | 43, _ => exact (am_ck5 (List.mem_of_getElem? (i := 84) rfl))
  | 44, _ => exact (am_ck5 (List.mem_of_getElem? (i := 85) rfl))
  | 45, _ => exact (am_ck5 (List.mem_of_getElem? (i := 97) rfl))
  | 46, _ => exact (am_ck5 (List.mem_of_getElem? (i := 126) rfl))
  | 47, _ => exact (am_ck5 (List.mem_of_getElem? (i := 142) rfl))
  | 48, _ => exact (am_ck5 (List.mem_of_getElem? (i := 162) rfl))
  | 49, _ => exact (am_ck5 (List.mem_of_getElem? (i := 207) rfl))
  | i + 50, hi => exact absurd hi (by omega)
theorem kyI_lit : ∀ j, j < 32 → litN.getD j ("", 0, "") = ("BellHammerModel", kyI.getD j 0, (litN.getD j ("", 0, "")).2.2) := by decide +kernel
theorem ST0_of {base : Nat} (h : narrow_1.before A s = true) (hts : ∀ w ∈ lw_tbl, w.before A s = true) (hA : ∀ a : Nat, a < s.heap.size → ¬ base ≤ a) : ∃ Z : StA, ST0 base Z s := by
  have hTB : ∀ w ∈ TB, w.before A s = true := fun w hw => hts w (List.mem_filter.mp hw).1
  have h0 : ∀ i : Nat, ∃ q : Nat × Nat, i < 50 → (Term.string (litN.getD i ("", 0, "")).1 (litN.getD i ("", 0, "")).2.1).eval A s none [] s = some (.ref q.1) ∧ (i < 34 → strF base q.1 q.2 (strN i) s) := by
    intro i
    by_cases hi : i < 34
    · obtain ⟨q, q1, q2⟩ := strF_of (base := base) (sP_all h i hi) (by
        have : ∀ i, i < 34 → (strN i).length < 2 ^ 31 := by decide +kernel
        exact this i hi) hA
      exact ⟨q, fun _ => ⟨q1, fun _ => q2⟩⟩
    · by_cases hj : i < 50
      · obtain ⟨a, c, cA, kA, q1, -⟩ := Cond.exactly_spec (args := A) (first := s) (o := none) (s := s) (idx := []) (cls := "java/lang/String") (sE_all h i (by omega) hj)
        exact ⟨(a, 0), fun _ => ⟨q1, fun q => absurd q hi⟩⟩
      · exact ⟨(0, 0), fun q => absurd q hj⟩
  obtain ⟨ad, had⟩ := Classical.axiomOfChoice h0
  obtain ⟨k1, k2, k3⟩ := kyP h
  have hky : ∀ j : Nat, j < 32 → (Term.elem (.static "BellHammerModel" "KEYS" "[Ljava/lang/String;") (.int (Int32.ofNat j))).eval A s none [] s = some (.ref (ad j).1) := by
    intro j hj
    have e := allK_get k3 j (show j < kyI.length from hj)
    rw [Nat.zero_add] at e
    have l := (had j (by omega)).1
    rw [kyI_lit j hj] at l
    exact va_eqv e l
  obtain ⟨r, hr, hT⟩ := va_Tof (f := fun j => .ref (ad j).1) (A := fun q => base ≤ q) (N := 32) (by decide) k1 (va_eqt k2) hky hA
  have hf : ∃ f : Option Nat, va_Z "jdk/internal/util/Preconditions" "SIOOBE_FORMATTER" "Ljava/util/function/BiFunction;" (va_rf f) (fun q => base ≤ q) s s.heap := by
    rcases va_Zqof (A := fun q => base ≤ q) (hts _ (am_ck1 (List.mem_of_getElem? (i := 87) rfl))) (hTB _ (tbc1 6 rfl rfl)) (fmP h) hA with q | ⟨t, q⟩
    · exact ⟨none, q⟩
    · exact ⟨some t, q⟩
  obtain ⟨f, hf⟩ := hf
  refine ⟨(fun i => (ad i).1, fun i => (ad i).2, r, f), fun i hi => (had i (by omega)).2 hi, fun i hi => vk_R.of (hts _ (sR_all i hi)) (had i hi).1, va_Zof (hts _ (am_ck1 (List.mem_of_getElem? (i := 71) rfl))) (hTB _ (tbc1 4 rfl rfl)) (va_eqi (csP h)) hA, hf, va_Zof (hts _ (am_ck6 (List.mem_of_getElem? (i := 216) rfl))) (hTB _ (tbc1 17 rfl rfl)) hr hA, hT, fun C hC => ?_⟩
  have ha : (Cond.arrayOver (.object C)).before A s = true := by
    simp only [List.mem_cons, List.mem_nil_iff, or_false] at hC
    rcases hC with rfl | rfl | rfl | rfl
    · exact hts _ (am_ck1 (List.mem_of_getElem? (i := 213) rfl))
    · exact hts _ (am_ck1 (List.mem_of_getElem? (i := 215) rfl))
    · exact hts _ (am_ck1 (List.mem_of_getElem? (i := 217) rfl))
    · exact hts _ (am_ck1 (List.mem_of_getElem? (i := 219) rfl))
  exact Cond.arrayOver_alike (Vm.Alike.refl _) ha
theorem STX_of {base : Nat} (h : narrow_1.before A s = true) (hts : ∀ w ∈ lw_tbl, w.before A s = true) (hA : ∀ a : Nat, a < s.heap.size → ¬ base ≤ a) : STX base s := by
  have hTB : ∀ w ∈ TB, w.before A s = true := fun w hw => hts w (List.mem_filter.mp hw).1
  have hi : (Cond.initialized Bundle.tN).before A s = true := hTB _ (tbc1 20 rfl rfl)
  exact ⟨vx_Zqof (hts _ (am_ck4 (List.mem_of_getElem? (i := 139) rfl))) hi (usP h) hA, vx_Zqof (hts _ (am_ck4 (List.mem_of_getElem? (i := 141) rfl))) hi (seP h) hA, fun w hw => XN_mv (XN_k w hw) (Vm.Alike.refl _) (hts w (XN_tb w hw)), va_Nc.of (n12P h), va_Nc.of (n21P h)⟩
end St
/-- all that the claim knows of strings, statics and script -/
def STW (base : Nat) (Z : StA) (b L : Nat) (xs : Nat → Int32) (U : State) : Prop := ST0 base Z U ∧ STX base U ∧ va_T .int b L (fun j => .int (xs j)) (fun q => base ≤ q) U U.heap
theorem STW.mv {base b L : Nat} {Z : StA} {xs : Nat → Int32} {s U : State} (hW : s.WarmedH U.vm) (hq : ∀ q : Nat, q < base → U.heap[q]? = s.heap[q]?) (h : STW base Z b L xs s) : STW base Z b L xs U := by
  have hv : s.vm.Alike U.vm := hW.alike
  have hk : ∀ a : Nat, a < s.heap.size → ¬ base ≤ a → U.heap[a]? = s.heap[a]? := fun a _ n => hq a (Nat.lt_of_not_le n)
  obtain ⟨⟨s1, s2, s3, s4, s5, s6, s7⟩, ⟨x1, x2, x3, x4, x5⟩, t1⟩ := h
  refine ⟨⟨fun i hi => ?_, fun i hi => vk_R.warm hW (s2 i hi), va_Z.moved hv (s3.kept hk), va_Z.moved hv (s4.kept hk), va_Z.moved hv (s5.kept hk), va_T.moved hv (s6.kept hk), fun C hC => Cond.arrayOver_alike hv (s7 C hC)⟩, ⟨vx_Zq.moved hv (x1.kept hk), vx_Zq.moved hv (x2.kept hk), fun w hw => XN_mv (XN_k w hw) hv (x3 w hw), va_Nc.moved hv x4, va_Nc.moved hv x5⟩, va_T.moved hv (t1.kept hk)⟩
  obtain ⟨q1, q2, q3, q4⟩ := s1 i hi
  exact ⟨va_O.moved hv (q1.kept hk), va_OF.moved hv (q2.kept hk), va_OF.moved hv (q3.kept hk), va_T.moved hv (q4.kept hk)⟩

