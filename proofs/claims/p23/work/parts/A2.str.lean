/-! the strings of the class and of the reference: what is known of them at the start, and goes on holding -/
/-- the bytes of the keywords, of the class's text of keywords, of its symbols -/
def txtN : List (List Int32) := [[114, 97, 105, 108, 32, 97, 32, 104, 105, 103, 104], [59, 32, 114, 97, 105, 108, 32, 98, 32, 104, 105, 103, 104], [32], [32, 112, 117, 99, 107], [32, 115, 112, 114, 105, 110, 103], [59, 32, 114, 117, 115, 116, 32, 111, 110, 32, 97, 32, 102, 114, 111, 109], [59, 32, 114, 117, 115, 116, 32, 111, 110, 32, 98, 32, 102, 114, 111, 109], [32, 116, 111], [32, 98, 121], [59, 32, 102, 105, 115, 116, 32, 102, 32, 97, 114, 109], [59, 32, 102, 105, 115, 116, 32, 103, 32, 97, 114, 109], [32, 97, 105, 109], [32, 101, 108, 98, 111, 119, 115], [59], [112, 114, 105, 122, 101, 32, 112, 32, 119, 111, 114, 116, 104, 32, 53, 32, 111, 102, 32, 55, 32, 119, 104, 101, 110, 32, 114, 105, 110, 103, 115, 59, 32, 112, 114, 105, 122, 101, 32, 113, 32, 119, 111, 114, 116, 104, 32, 50, 32, 111, 102, 32, 50, 48, 32, 119, 104, 101, 110, 32, 104, 101, 105, 103, 104, 116, 32, 62, 32, 52, 32, 97, 110, 100, 32, 115, 111, 114, 101, 32, 102, 32, 60, 32, 53, 48, 59, 32, 116, 117, 114, 110, 32, 102, 32, 97, 116, 32, 97, 59, 32, 116, 117, 114, 110, 32, 103, 32, 97, 116, 32, 97, 32, 119, 104, 101, 110, 32, 98, 101, 108, 108, 115, 32, 61, 32, 48, 59, 32, 116, 117, 114, 110, 32, 103, 32, 97, 116, 32, 98, 59], [114, 97, 105, 108, 32, 104, 105, 103, 104, 32, 112, 117, 99, 107, 32, 115, 112, 114, 105, 110, 103, 32, 114, 117, 115, 116, 32, 111, 110, 32, 102, 114, 111, 109, 32, 116, 111, 32, 98, 121, 32, 102, 105, 115, 116, 32, 97, 114, 109, 32, 97, 105, 109, 32, 101, 108, 98, 111, 119, 115, 32, 112, 114, 105, 122, 101, 32, 119, 111, 114, 116, 104, 32, 111, 102, 32, 119, 104, 101, 110, 32, 116, 117, 114, 110, 32, 97, 116, 32, 104, 101, 105, 103, 104, 116, 32, 98, 101, 108, 108, 115, 32, 114, 111, 117, 110, 100, 32, 112, 117, 114, 115, 101, 32, 115, 111, 114, 101, 32, 98, 101, 115, 116, 32, 108, 101, 102, 116, 32, 114, 105, 110, 103, 115, 32, 110, 111, 116, 32, 97, 110, 100, 32, 111, 114, 32, 109, 105, 110, 32, 109, 97, 120, 32], [40, 41, 91, 93, 59, 44, 43, 45, 42, 47, 60, 62, 61]]
def strN (i : Nat) : List Int32 := txtN.getD i []
/-- the texts: class, place in its constants, text -/
def litN : List (String × Nat × String) := [("BellHammerLaw", 52, "rail a high"), ("BellHammerLaw", 54, "; rail b high"), ("BellHammerLaw", 41, " "), ("BellHammerLaw", 64, " puck"), ("BellHammerLaw", 66, " spring"), ("BellHammerLaw", 68, "; rust on a from"), ("BellHammerLaw", 70, "; rust on b from"), ("BellHammerLaw", 72, " to"), ("BellHammerLaw", 74, " by"), ("BellHammerLaw", 76, "; fist f arm"), ("BellHammerLaw", 78, "; fist g arm"), ("BellHammerLaw", 80, " aim"), ("BellHammerLaw", 82, " elbows"), ("BellHammerLaw", 84, ";"), ("BellHammerLaw", 90, "prize p worth 5 of 7 when rings; prize q worth 2 of 20 when height > 4 and sore f < 50; turn f at a; turn g at a when bells = 0; turn g at b;"), ("BellHammer$Tokens", 22, "rail high puck spring rust on from to by fist arm aim elbows prize worth of when turn at height bells round purse sore best left rings not and or min max "), ("BellHammer$Tokens", 102, "()[];,+-*/<>=")]
/-- the signs of the keywords -/
def kwS : List (List Int32) := [[114, 97, 105, 108], [104, 105, 103, 104], [112, 117, 99, 107], [115, 112, 114, 105, 110, 103], [114, 117, 115, 116], [111, 110], [102, 114, 111, 109], [116, 111], [98, 121], [102, 105, 115, 116], [97, 114, 109], [97, 105, 109], [101, 108, 98, 111, 119, 115], [112, 114, 105, 122, 101], [119, 111, 114, 116, 104], [111, 102], [119, 104, 101, 110], [116, 117, 114, 110], [97, 116], [104, 101, 105, 103, 104, 116], [98, 101, 108, 108, 115], [114, 111, 117, 110, 100], [112, 117, 114, 115, 101], [115, 111, 114, 101], [98, 101, 115, 116], [108, 101, 102, 116], [114, 105, 110, 103, 115], [110, 111, 116], [97, 110, 100], [111, 114], [109, 105, 110], [109, 97, 120]]
def wdN (i : Nat) : List Int32 := kwS.getD i []
abbrev mJ0_length_8abf5 : MD := (yJ0_length_8abf5, cJ0_length_8abf5, 1, (some .int))
theorem mcJ0_length_8abf5 : MC 0 mJ0_length_8abf5 0 := ⟨tbc1 88 rfl rfl, tbc1 4 rfl rfl, ⟨by decide, by decide⟩, by decide +kernel, by decide +kernel, by decide, tbc1 86 rfl rfl, tbc1 87 rfl rfl⟩
abbrev mJ0_coder_7d493 : MD := (yJ0_coder_7d493, cJ0_coder_7d493, 1, (some .byte))
theorem mcJ0_coder_7d493 : MC 0 mJ0_coder_7d493 0 := ⟨tbc1 92 rfl rfl, tbc1 4 rfl rfl, ⟨by decide, by decide⟩, by decide +kernel, by decide +kernel, by decide, tbc1 90 rfl rfl, tbc1 91 rfl rfl⟩
abbrev mJ0_charAt_5068e : MD := (yJ0_charAt_5068e, cJ0_charAt_5068e, 2, (some .char))
theorem mcJ0_charAt_5068e : MC 0 mJ0_charAt_5068e 1 := ⟨tbc1 98 rfl rfl, tbc1 4 rfl rfl, ⟨by decide, by decide⟩, by decide +kernel, by decide +kernel, by decide, tbc1 96 rfl rfl, tbc1 97 rfl rfl⟩
abbrev mJ0_isLatin1_aae02 : MD := (yJ0_isLatin1_aae02, cJ0_isLatin1_aae02, 1, (some .boolean))
theorem mcJ0_isLatin1_aae02 : MC 0 mJ0_isLatin1_aae02 0 := ⟨tbc1 102 rfl rfl, tbc1 4 rfl rfl, ⟨by decide, by decide⟩, by decide +kernel, by decide +kernel, by decide, tbc1 100 rfl rfl, tbc1 101 rfl rfl⟩
abbrev mJ0_checkIndex_df160 : MD := (yJ0_checkIndex_df160, cJ0_checkIndex_df160, 2, none)
theorem mcJ0_checkIndex_df160 : MC 1 mJ0_checkIndex_df160 2 := ⟨tbc1 108 rfl rfl, tbc1 4 rfl rfl, ⟨by decide, by decide⟩, by decide +kernel, by decide +kernel, by decide, tbc1 107 rfl rfl⟩
theorem mlX9_91 : ML 0 RX9 91 mJ0_length_8abf5 0 := ⟨mcJ0_length_8abf5, Or.inl (tbc1 85 rfl rfl)⟩
theorem mlX9_96 : ML 0 RX9 96 mJ0_charAt_5068e 1 := ⟨mcJ0_charAt_5068e, Or.inl (tbc1 95 rfl rfl)⟩
theorem mlJ0_335 : ML 0 RJ0 335 mJ0_coder_7d493 0 := ⟨mcJ0_coder_7d493, Or.inl (tbc1 89 rfl rfl)⟩
theorem mlJ0_492 : ML 0 RJ0 492 mJ0_isLatin1_aae02 0 := ⟨mcJ0_isLatin1_aae02, Or.inl (tbc1 99 rfl rfl)⟩
theorem mlJ1_9 : ML 1 RJ1 9 mJ0_checkIndex_df160 2 := ⟨mcJ0_checkIndex_df160, Or.inl (tbc1 106 rfl rfl)⟩
theorem mlJ2_414 : ML 1 RJ2 414 mJ0_checkIndex_df160 2 := ⟨mcJ0_checkIndex_df160, Or.inl (tbc1 123 rfl rfl)⟩
abbrev mJ1_charAt_3b067 : MD := (yJ1_charAt_3b067, cJ1_charAt_3b067, 2, (some .char))
theorem mcJ1_charAt_3b067 : MC 1 mJ1_charAt_3b067 2 := ⟨tbc1 105 rfl rfl, tbc1 5 rfl rfl, ⟨by decide, by decide⟩, by decide +kernel, by decide +kernel, by decide, tbc1 104 rfl rfl⟩
theorem mlJ0_495 : ML 1 RJ0 495 mJ1_charAt_3b067 2 := ⟨mcJ1_charAt_3b067, Or.inl (tbc1 103 rfl rfl)⟩
abbrev mJ3_checkIndex_8e157 : MD := (yJ3_checkIndex_8e157, cJ3_checkIndex_8e157, 3, (some .int))
theorem mcJ3_checkIndex_8e157 : MC 1 mJ3_checkIndex_8e157 3 := ⟨tbc1 113 rfl rfl, tbc1 6 rfl rfl, ⟨by decide, by decide⟩, by decide +kernel, by decide +kernel, by decide, tbc1 112 rfl rfl⟩
theorem mlJ0_1059 : ML 1 RJ0 1059 mJ3_checkIndex_8e157 3 := ⟨mcJ3_checkIndex_8e157, Or.inl (tbc1 111 rfl rfl)⟩
abbrev StA : Type := (Nat → Nat) × (Nat → Nat) × Nat × Option Nat
def StA.k (Z : StA) : Nat → Nat := Z.1
def StA.v (Z : StA) : Nat → Nat := Z.2.1
def StA.r (Z : StA) : Nat := Z.2.2.1
def StA.f (Z : StA) : Option Nat := Z.2.2.2
def strF (base a v : Nat) (bs : List Int32) (U : State) : Prop := va_O "java/lang/String" a (fun q => base ≤ q) U U.heap ∧ va_OF "java/lang/String" "coder" "B" (.int 0) a (fun q => base ≤ q) U U.heap ∧ va_OF "java/lang/String" "value" "[B" (.ref v) a (fun q => base ≤ q) U U.heap ∧ va_T .byte v bs.length (fun j => .int (bs.getD j 0)) (fun q => base ≤ q) U U.heap
def litF (a i : Nat) (U : State) : Prop := vk_R (litN.getD i ("", 0, "")).1 (litN.getD i ("", 0, "")).2.1 (litN.getD i ("", 0, "")).2.2 a U
def ST0 (base : Nat) (Z : StA) (U : State) : Prop := (∀ i, i < 17 → strF base (Z.k i) (Z.v i) (strN i) U) ∧ (∀ i, i < 17 → litF (Z.k i) i U) ∧ va_Z "java/lang/String" "COMPACT_STRINGS" "Z" (.int 1) (fun q => base ≤ q) U U.heap ∧ va_Z "jdk/internal/util/Preconditions" "SIOOBE_FORMATTER" "Ljava/util/function/BiFunction;" (va_rf Z.f) (fun q => base ≤ q) U U.heap ∧ ∀ C ∈ [RX6, RX3, RX5, RX10], (Cond.arrayOver (.object C)).before #[] U = true
def KS (G : Gp) (Z : StA) : Prop := ∀ U, G.ST U → ST0 G.base Z U
section AMstr
variable {G : Gp} {Y Yc : MD} {d d' pc : Nat} {ls : List (Option AV)} {st st1 : List AV} {M : AMem} {Q : (Option AV ⊕ Nat) → AMem → Prop}
theorem am_rowS {pc1 : Nat} (h : ∀ {p : Program} {e : Env} {R : Room} {s : State} {m : MethodId} {args : Array Value} {below : List Frame} {meth : Method} {c : Code} {H : Heap} {locs : List Loc} {cells slots : Nat} {lsr : Array Slot} {Q : State → Prop}, Ctx G Y d p R s m args meth c → va_S (fun q => G.base ≤ q) s.heap H locs → LH lsr Y.nL ls →
      W p G.l e R s m args below meth c H locs cells slots Q (F0 m pc1 lsr (st1.map vV)) → W p G.l e R s m args below meth c H locs cells slots Q (F0 m pc lsr (st.map vV))) : Reach G Y d pc ls st M pc1 ls st1 M :=
  ⟨Nat.le_refl _, Nat.le_refl _, fun p e R s m args below meth c H locs cells slots lsr Q hC hW hS hL hcc hss kk => h hC hS hL (by
    have := kk H locs lsr hW hS hL
    rw [Nat.sub_self, Nat.sub_self] at this
    exact this)⟩
theorem am_ldcS {index a : Nat} {own tx : String} (hd : decode Y.cc pc = .ok (.ldc index, 2)) (ho : Y.y.cls = own) (hZ : ∀ U, G.ST U → vk_R own index tx a U) {q : Nat} (hq : pc + 2 = q) (k : MW G Y d q ls (vR a :: st) M Q) : MW G Y d pc ls st M Q := by
  subst hq
  subst ho
  exact MW.step (am_rowS (st1 := vR a :: st) fun hC hS hL kk => va_ldcS hC.1 hC.2.1 hC.2.2.2.1 (hZ _ hC.2.2.2.2.2.2.2.1.2) hd kk) k
theorem am_gets {index : Nat} {C n dd : String} {v : AV} (hd : decode Y.cc pc = .ok (.getstatic index, 3)) (hZ : ∀ U, G.ST U → va_Z C n dd (vV v) (fun q => G.base ≤ q) U U.heap) (hl : Cond.fieldLink Y.y.cls index C n dd ∈ TB) {q : Nat} (hq : pc + 3 = q) (k : MW G Y d q ls (v :: st) M Q) : MW G Y d pc ls st M Q := by
  subst hq
  exact MW.step (am_rowS (st1 := v :: st) fun hC hS hL kk => va_gets hC.1 hC.2.1 (hZ _ hC.2.2.2.2.2.2.2.1.2) hS hC.2.2.2.1 (hC.2.2.2.2.1 _ hl) (fun _ h => h) hd kk) k
theorem am_tlen {t N : Nat} {f : Nat → Value} {ty : FieldType} {v : Int32} (hd : decode Y.cc pc = .ok (.arraylength, 1)) (hT : ∀ U, G.ST U → va_T ty t N f (fun q => G.base ≤ q) U U.heap) (hv : Int32.ofNat N = v) {q : Nat} (hq : pc + 1 = q) (k : MW G Y d q ls (vI v :: st) M Q) : MW G Y d pc ls (vR t :: st) M Q := by
  subst hq
  exact MW.step (am_rowS (st1 := vI v :: st) fun hC hS hL kk => va_tlen hC.1 hC.2.1 (hT _ hC.2.2.2.2.2.2.2.1.2) hS hv hd kk) k
theorem am_tq {t N a : Nat} {f : Nat → Value} {C : String} {i : Int32} (hd : decode Y.cc pc = .ok (.aaload, 1)) (hT : ∀ U, G.ST U → va_T (.object C) t N f (fun q => G.base ≤ q) U U.heap) (hin : vp_in i N) (hv : f i.toNatClampNeg = .ref a) {q : Nat} (hq : pc + 1 = q) (k : MW G Y d q ls (vR a :: st) M Q) : MW G Y d pc ls (vI i :: vR t :: st) M Q := by
  subst hq
  exact MW.step (am_rowS (st1 := vR a :: st) fun hC hS hL kk => vb_tq hC.1 hC.2.1 (hT _ hC.2.2.2.2.2.2.2.1.2) hS hin hv hd kk) k
theorem am_tby {t N : Nat} {f : Nat → Value} {i x : Int32} (hd : decode Y.cc pc = .ok (.baload, 1)) (hT : ∀ U, G.ST U → va_T .byte t N f (fun q => G.base ≤ q) U U.heap) (hin : vp_in i N) (hv : f i.toNatClampNeg = .int x) {q : Nat} (hq : pc + 1 = q) (k : MW G Y d q ls (vI x :: st) M Q) : MW G Y d pc ls (vI i :: vR t :: st) M Q := by
  subst hq
  exact MW.step (am_rowS (st1 := vI x :: st) fun hC hS hL kk => va_tb hC.1 hC.2.1 (hT _ hC.2.2.2.2.2.2.2.1.2) hS hin hv hd kk) k
theorem am_getO {index a : Nat} {o n dd : String} {v : AV} (hd : decode Y.cc pc = .ok (.getfield index, 3)) (hO : ∀ U, G.ST U → va_OF o n dd (vV v) a (fun q => G.base ≤ q) U U.heap) (hl : Cond.fieldLink Y.y.cls index o n dd ∈ TB) {q : Nat} (hq : pc + 3 = q) (k : MW G Y d q ls (v :: st) M Q) : MW G Y d pc ls (vR a :: st) M Q := by
  subst hq
  exact MW.step (am_rowS (st1 := v :: st) fun hC hS hL kk => vk_getf hC.1 hC.2.1 (hO _ hC.2.2.2.2.2.2.2.1.2) hS hC.2.2.2.1 (hC.2.2.2.2.1 _ hl) (fun _ h => h) hd kk) k
theorem am_i2c {x v : Int32} (hd : decode Y.cc pc = .ok (.i2c, 1)) (hv : (x.toUInt32 % 65536).toInt32 = v) {q : Nat} (hq : pc + 1 = q) (k : MW G Y d q ls (vI v :: st) M Q) : MW G Y d pc ls (vI x :: st) M Q := by
  subst hq
  exact MW.step (Reach.row fun hx hb hL kk => lv_i2c hx hb hd hv kk) k
/-- a call of a method of an object that was there at the start -/
theorem am_callO {index n : Nat} {As : List AV} {b : Nat} {Q' : Option AV → AMem → Prop} (hG : okG G) (hd : decode Y.cc pc = .ok (.invokevirtual index, 3)) (hl : ML 0 Y.y.cls index Yc n) (hn : As.length = n) (hO : ∀ U, G.ST U → va_O Yc.y.cls b (fun q => G.base ≤ q) U U.heap) (hlen : (entA (vR b :: As)).length ≤ Yc.nL) (hdd : d' + 1 ≤ d) (hst : (st.map vC).sum ≤ 8) (hf : Fn G Yc d' (vR b :: As) M Q') {q : Nat} (hq : pc + 3 = q) (k : ∀ (r : Option AV) (M1 : AMem), Q' r M1 → MW G Y d q ls (r.toList ++ st) M1 Q) : MW G Y d pc ls (As.reverse ++ vR b :: st) M Q := by
  subst hq
  obtain ⟨pcR, lsR, stR, MR, f, hR, hE, r, rfl, hQ⟩ := hf
  obtain ⟨⟨l1, l2, l3, l4, l5, l6, l8, l9⟩, l7⟩ := hl
  have hM := am_met l5 hlen hR hE
  refine MW.step ?_ (k r MR hQ)
  refine ⟨hR.1, hR.2.1, fun p e R s m args below meth c H locs cells slots lsr Q0 hC hW hS hL hcc hss kk => ?_⟩
  have hts := hC.2.2.2.2.1
  have hfr := hC.2.2.2.2.2.2.2.2.1
  have hlo := hC.2.2.2.2.2.2.2.2.2.1
  have hrecv : ∃ cell : Cell, H[b]? = some cell ∧ cell.vm.isStatics = false ∧ s.vm.findClass Yc.y.cls = some cell.cls := by
    obtain ⟨cell, h1, h2, h3, -⟩ := (hO s hC.2.2.2.2.2.2.2.1.2).kept hS.2.1
    exact ⟨cell, h1, h2, h3⟩
  have hstk : ((As.reverse ++ vR b :: st).map vV) = (As.map vV).reverse ++ Value.ref b :: st.map vV := by rw [List.map_append, List.map_reverse]; rfl
  have hp : PreV s H Yc.y.cls b (va_Pc ((vR b :: As).map vV) (PB G M)) (As.map vV) := ⟨am_blind hG, hrecv, fun U hU hW1 => ⟨rfl, am_PB hG hC hW hS hU hW1⟩⟩
  have hrm : (rmD d' (MR.hs - M.hs) (MR.sl - M.sl)).frames + 1 ≤ R.frames ∧ 8 + (Yc.nL + 11) + (rmD d' (MR.hs - M.hs) (MR.sl - M.sl)).locals ≤ R.locals := by
    refine ⟨?_, ?_⟩
    · show d' + 2 + 1 ≤ R.frames
      omega
    · show 8 + (Yc.nL + 11) + (d' + 2) * 40 ≤ R.locals
      have : (d' + 3) * 40 ≤ (d + 2) * 40 := Nat.mul_le_mul_right 40 (by omega)
      omega
  have hmon : 2 * (F0 m pc lsr ((As.reverse ++ vR b :: st).map vV)).monitorRoom + ((st.map vV).map fun v => v.category).sum ≤ 8 := by
    show 2 * 0 + _ ≤ 8
    rw [am_sum]
    omega
  have hS5 : CallFix p m c Y.cc Y.nL s args TB Y.y.cls := ⟨hC.1, hC.2.1, hC.2.2.1, hC.2.2.2.1, hts⟩
  rcases l7 with l7 | ⟨host, l7⟩
  · refine am_tail (va_runV (As := As.map vV) (rest := st.map vV) hS5 hM ⟨⟨rfl, rfl, hrm.1, hrm.2, am_pay hts l1, List.mem_cons_self, hts _ l1, hts _ l2, l3, am_npar l4, hts _ l7⟩, hts _ l8, hts _ l9⟩ hp rfl (by rw [List.length_map]; exact hn) hL.1 hstk hmon hd ⟨hcc, hss⟩) hS (fun H1 locs1 hW1 hS1 => ?_)
    have := kk H1 locs1 lsr hW1 hS1 hL
    rw [List.map_append] at this
    rcases r with _ | v <;> exact this
  · refine am_tail (va_runVN (As := As.map vV) (rest := st.map vV) hS5 hM ⟨⟨⟨rfl, rfl, hrm.1, hrm.2, am_pay hts l1, List.mem_cons_self⟩, hts _ l1, hts _ l2, l3, am_npar l4, va_Nw.use rfl (hC.2.2.2.2.2.2.2.1.1 _ l7)⟩, hts _ l8, hts _ l9⟩ hp rfl (by rw [List.length_map]; exact hn) hL.1 hstk hmon hd ⟨hcc, hss⟩) hS (fun H1 locs1 hW1 hS1 => ?_)
    have := kk H1 locs1 lsr hW1 hS1 hL
    rw [List.map_append] at this
    rcases r with _ | v <;> exact this
end AMstr
theorem mlL_9 : ML 0 RL 9 mJ0_length_8abf5 0 := ⟨mcJ0_length_8abf5, Or.inl (tbc3 188 rfl rfl)⟩
theorem mlL_15 : ML 0 RL 15 mJ0_charAt_5068e 1 := ⟨mcJ0_charAt_5068e, Or.inl (tbc3 195 rfl rfl)⟩
theorem fs_cs : Cond.fieldLink RJ0 38 "java/lang/String" "COMPACT_STRINGS" "Z" ∈ TB := tbc1 93 rfl rfl
theorem fs_fm : Cond.fieldLink RJ0 1053 "jdk/internal/util/Preconditions" "SIOOBE_FORMATTER" "Ljava/util/function/BiFunction;" ∈ TB := tbc1 109 rfl rfl
theorem fs_va : Cond.fieldLink RJ0 9 "java/lang/String" "value" "[B" ∈ TB := tbc5 147 rfl rfl
theorem fs_co : Cond.fieldLink RJ0 15 "java/lang/String" "coder" "B" ∈ TB := tbc5 148 rfl rfl

