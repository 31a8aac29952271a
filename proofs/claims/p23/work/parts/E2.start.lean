/-! THE CLAIM OUT OF ONE WALK OF THE LAW'S BODY. Your part is whole_start (and what it stands on); all else here is the same for every law, but numbers. -/
def R_law : String := "BellHammerLaw"
def lw_P (b : Addr) (xs : List Int32) (args : Array Value) (s : State) : Prop := args = #[.ref b] ∧ s.IntsAt b xs ∧ xs.length ≤ 260 ∧ (Jvm.Cond.and given_1 narrow_1).before args s = true
def lw_Q (_ : Array Value) (s : State) (o : Outcome) (t : State) : Prop := o = .returned (some (.int 1)) ∧ Framed s o t [] 600086 7301442
def lw_Z (below : List Frame) (a : Array Value) (s : State) : State → Prop := fun t => ∃ o, t.status = .running ∧ Ended t below o ∧ lw_Q a s o t
/-- the law's own end, with 1 on the stack, nothing written that was there before, its room as the claim has it -/
theorem lw_ret {p : Program} {l : Launch} {e : Env} {s : State} {m : MethodId} {below : List Frame} {meth : Method} {c : Code} {b : Nat} (hx : p.tables.exec = Jvm.exec) (hb : c.code = code) (hr : meth.sig.returnType = ret) (hlocks : meth.locks = false) {pc : Nat} {H : Heap} {ls : Array Slot} (hdg : decode code pc = .ok (.ireturn, 1)) : W p l e room_1 s m #[Value.ref b] below meth c H [] 600086 7301442 (lw_Z below #[Value.ref b] s) (F0 m pc ls [.int 1]) := by
  intro T hT X
  obtain ⟨fs, hret, hrun, hended, hW, hframe⟩ := X.leave (v := some (.int 1)) (hlocks := hlocks) (fun h => by rw [hr] at h; cases h)
  have hmeth' : T.vm.method? m = some meth := X.method'
  refine ⟨T.setFrames fs, ?_, .returned (some (.int 1)), hrun, hended, rfl, ⟨_, rfl⟩, hW, hframe⟩
  jvm_step X.here [X.here.top, hx, hb, hdg, hmeth', hr, ret, narrow_b1]
  (try refine ⟨rfl, ?_⟩); (try refine ⟨rfl, ?_⟩)
  first | (intro acts; rw [hret _ acts rfl rfl rfl]) | rw [hret _ _ rfl rfl rfl]
  exact Steps.refl _
/-- what holds at the law's entry: the machine, the code, the tables' words (any of lw_tbl by 'hts w (by decide +kernel)'), the script of L ints xs at the cell b, what the Statement gives of the start (any of its parts by flat_of_before) -/
def lw_At (p : Program) (s : State) (m : MethodId) (meth : Method) (c : Code) (b L : Nat) (xs : Nat → Int32) : Prop :=
  p.tables.exec = Jvm.exec ∧ c.code = code ∧ meth.sig.returnType = ret ∧ c.maxLocals = 11 ∧ s.vm.findClass R_law = some m.cls ∧ (∀ w ∈ lw_tbl, w.before #[Value.ref b] s = true) ∧ va_X b L xs s s.heap ∧ b < s.heap.size ∧ meth.locks = false ∧ (Jvm.Cond.and given_1 narrow_1).before #[Value.ref b] s = true
section Fin
variable {A : Array Value} {s : State}
theorem kn_all (hTB : ∀ w ∈ TB, w.before A s = true) : ∃ D : va_G, ∀ (k : Nat) (q : vw_C), vwCl[k]? = some q → u_Kn s q.1 q.2.1 q.2.2 (D.1 k) (D.2 k) := by
  have h0 : ∀ k : Nat, ∃ d : ClassId × (Nat → Nat), ∀ q : vw_C, vwCl[k]? = some q → u_Kn s q.1 q.2.1 q.2.2 d.1 d.2 := by
    intro k
    match k with
    | 0 =>
      obtain ⟨cC, iS, h⟩ := u_known (C := RX0) (T := TX0) (N := 2) (n := 2) hTB clX0.2.2.1 (hTB _ (tbc4 68 rfl rfl))
      refine ⟨(cC, iS), fun q hq => ?_⟩
      cases hq
      exact h
    | 1 =>
      obtain ⟨cC, iS, h⟩ := u_known (C := RX1) (T := TX1) (N := 5) (n := 5) hTB clX1.2.2.1 (hTB _ (tbc2 224 rfl rfl))
      refine ⟨(cC, iS), fun q hq => ?_⟩
      cases hq
      exact h
    | 2 =>
      obtain ⟨cC, iS, h⟩ := u_known (C := RX2) (T := TX2) (N := 19) (n := 19) hTB clX2.2.2.1 (hTB _ (tbc2 201 rfl rfl))
      refine ⟨(cC, iS), fun q hq => ?_⟩
      cases hq
      exact h
    | 3 =>
      obtain ⟨cC, iS, h⟩ := u_known (C := RX3) (T := TX3) (N := 10) (n := 10) hTB clX3.2.2.1 (hTB _ (tbc4 155 rfl rfl))
      refine ⟨(cC, iS), fun q hq => ?_⟩
      cases hq
      exact h
    | 4 =>
      obtain ⟨cC, iS, h⟩ := u_known (C := RX4) (T := TX4) (N := 7) (n := 7) hTB clX4.2.2.1 (hTB _ (tbc3 23 rfl rfl))
      refine ⟨(cC, iS), fun q hq => ?_⟩
      cases hq
      exact h
    | 5 =>
      obtain ⟨cC, iS, h⟩ := u_known (C := RX5) (T := TX5) (N := 6) (n := 6) hTB clX5.2.2.1 (hTB _ (tbc4 201 rfl rfl))
      refine ⟨(cC, iS), fun q hq => ?_⟩
      cases hq
      exact h
    | 6 =>
      obtain ⟨cC, iS, h⟩ := u_known (C := RX6) (T := TX6) (N := 7) (n := 7) hTB clX6.2.2.1 (hTB _ (tbc4 119 rfl rfl))
      refine ⟨(cC, iS), fun q hq => ?_⟩
      cases hq
      exact h
    | 7 =>
      obtain ⟨cC, iS, h⟩ := u_known (C := RX7) (T := TX7) (N := 5) (n := 5) hTB clX7.2.2.1 (hTB _ (tbc1 148 rfl rfl))
      refine ⟨(cC, iS), fun q hq => ?_⟩
      cases hq
      exact h
    | 8 =>
      obtain ⟨cC, iS, h⟩ := u_known (C := RX8) (T := TX8) (N := 2) (n := 2) hTB clX8.2.2.1 (hTB _ (tbc3 238 rfl rfl))
      refine ⟨(cC, iS), fun q hq => ?_⟩
      cases hq
      exact h
    | 9 =>
      obtain ⟨cC, iS, h⟩ := u_known (C := RX9) (T := TX9) (N := 5) (n := 5) hTB clX9.2.2.1 (hTB _ (tbc1 45 rfl rfl))
      refine ⟨(cC, iS), fun q hq => ?_⟩
      cases hq
      exact h
    | 10 =>
      obtain ⟨cC, iS, h⟩ := u_known (C := RX10) (T := TX10) (N := 4) (n := 4) hTB clX10.2.2.1 (hTB _ (tbc4 231 rfl rfl))
      refine ⟨(cC, iS), fun q hq => ?_⟩
      cases hq
      exact h
    | 11 =>
      obtain ⟨cC, iS, h⟩ := u_known (C := RX11) (T := TX11) (N := 6) (n := 6) hTB clX11.2.2.1 (hTB _ (tbc2 164 rfl rfl))
      refine ⟨(cC, iS), fun q hq => ?_⟩
      cases hq
      exact h
    | k + 12 => exact ⟨(0, fun _ => 0), fun q hq => by simp [vwCl] at hq⟩
  obtain ⟨d, hd⟩ := Classical.axiomOfChoice h0
  exact ⟨(fun k => (d k).1, fun k => (d k).2), fun k q hq => hd k q hq⟩
theorem ar_p {ty : FieldType} (h : (Cond.arrayClass ty).before A s = true) : ∃ cA : ClassId, ArrOfT s cA ty ∧ s.vm.findClass ("[" ++ ty.toString) = some cA := by
  obtain ⟨cA, kA, comp, h1, h2, h3⟩ := Cond.arrayClass_spec h
  exact ⟨cA, fun n z => ⟨fun k h => (by cases h), kA, h2, comp, h3⟩, h1⟩
theorem ar_o {C : String} (h : (Cond.arrayOver (.object C)).before A s = true) : ∃ cA : ClassId, ArrOfT s cA (.object C) ∧ va_RA s cA (.object C) := by
  obtain ⟨comp, cA, kA, h1, h2, h3, h4, h5⟩ := Cond.arrayOver_spec h
  exact ⟨cA, fun n z => ⟨fun k h => (by cases h), kA, h3, comp, h4⟩, kA, comp, h3, h4, h1, h5⟩
theorem ar_all {Z : StA} {base : Nat} (hTB : ∀ w ∈ TB, w.before A s = true) (hZ : ST0 base Z s) : ∃ ca : Nat → ClassId, ∀ (k : Nat) (q : ClassId × FieldType), (tysOf ca)[k]? = some q → ArrOfT s q.1 q.2 ∧ va_RA s q.1 q.2 := by
  obtain ⟨a0, b0, e0⟩ := ar_p (hTB _ tb_aI)
  obtain ⟨a1, b1, e1⟩ := ar_p (hTB _ tb_aJ)
  have ho := hZ.2.2.2.2
  obtain ⟨a2, b2, e2⟩ := ar_o (ho RX6 (by simp))
  obtain ⟨a3, b3, e3⟩ := ar_o (ho RX3 (by simp))
  obtain ⟨a4, b4, e4⟩ := ar_o (ho RX5 (by simp))
  obtain ⟨a5, b5, e5⟩ := ar_o (ho RX10 (by simp))
  refine ⟨fun k => match k with
    | 0 => a0
    | 1 => a1
    | 2 => a2
    | 3 => a3
    | 4 => a4
    | _ => a5, fun k q hq => ?_⟩
  match k, hq with
  | 0, hq => cases hq; exact ⟨b0, e0⟩
  | 1, hq => cases hq; exact ⟨b1, e1⟩
  | 2, hq => cases hq; exact ⟨b2, e2⟩
  | 3, hq => cases hq; exact ⟨b3, e3⟩
  | 4, hq => cases hq; exact ⟨b4, e4⟩
  | 5, hq => cases hq; exact ⟨b5, e5⟩
  | k + 6, hq => simp [tysOf] at hq
theorem nl_all (hts : ∀ w ∈ lw_tbl, w.before A s = true) : ∀ w ∈ NL, va_Nw w s := by
  intro w hw
  obtain ⟨h1, h2⟩ := List.mem_filter.mp hw
  have h3 := hts w h1
  cases w with
  | fieldLinkNest _ _ _ _ _ _ => exact va_Nw.of rfl h3
  | methodLinkNest _ _ _ _ => exact va_Nw.of rfl h3
  | _ => exact absurd h2 (by simp [am_isN])
end Fin
/-- nothing is there yet -/
def M0 (h : Nat) : AMem := mkM [] h 0 (fun _ => 0) (fun _ => 0) (fun _ _ => 0) (fun _ _ => 0) (fun _ _ => none)
set_option maxHeartbeats 4000000 in
/-- THE LAW, from its entry -/
theorem whole_start {p : Program} {e : Env} {s : State} {m : MethodId} {below : List Frame} {meth : Method} {c : Code} (l : Launch) (hflags : l.flags = flags0) {b L : Nat} {xs : Nat → Int32} (hL : L ≤ 260) (C0 : lw_At p s m meth c b L xs) (hname : meth.name = "law") : W p l e room_1 s m #[Value.ref b] below meth c s.heap [] 0 0 (lw_Z below #[Value.ref b] s) (entryFrame m ([Value.ref b] : List Value).toArray 11) := by
  obtain ⟨hx, hb, hr, hml, hown, hts, hX, hbl, hlocks, hgv⟩ := id C0
  have hnar : narrow_1.before #[Value.ref b] s = true := aR hgv
  have hTB : ∀ w ∈ TB, w.before #[Value.ref b] s = true := fun w hw => hts w (List.mem_filter.mp hw).1
  have hA : ∀ a : Nat, a < s.heap.size → ¬ s.heap.size ≤ a := fun a h => Nat.not_le.mpr h
  obtain ⟨Z, hZ0⟩ := ST0_of hnar hts hA
  have hT : va_T .int b L (fun j => .int (xs j)) (fun q => s.heap.size ≤ q) s s.heap := by
    obtain ⟨scr, h1, h2, h3, h4, h5⟩ := hX
    exact ⟨scr, h1, h2, h3, (by rw [h4]; exact Nat.le_refl _), (by rw [h4]), h5, hA b hbl⟩
  obtain ⟨D, hD⟩ := kn_all hTB
  obtain ⟨ca, hca⟩ := ar_all hTB hZ0
  obtain ⟨G, hG⟩ : ∃ G : Gp, G = (l, D, ca, s.heap.size, STW s.heap.size Z b L xs) := ⟨_, rfl⟩
  have gl : G.l = l := by rw [hG]; rfl
  have gb : G.base = s.heap.size := by rw [hG]; rfl
  have gD : G.D = D := by rw [hG]; rfl
  have gc : G.ca = ca := by rw [hG]; rfl
  have gS : G.ST = STW s.heap.size Z b L xs := by rw [hG]; rfl
  have hok : okG G := by
    refine ⟨fun s1 U hW hq h => ?_, fun s1 U hv hh h => ?_⟩
    · rw [gS] at h ⊢
      rw [gb] at hq
      exact STW.mv hW hq h
    · rw [gS] at h ⊢
      exact STW.mv (by rw [← hv]; exact State.WarmedH.refl s1) (fun q _ => by rw [hh]) h
  have hZ : KS G Z := fun U h => by rw [gS] at h; rw [gb]; exact h.1
  have hsc : Sc G b L xs := fun U h => by rw [gS] at h; rw [gb]; exact h.2
  have hlaw := kl_law (G := G) (S := M0 s.heap.size) (I := fun _ _ => 0) (J := fun _ _ => 0) (R := fun _ _ => none) (HB := s.heap.size + 600086) (SB := 7301442) hok hZ hsc (by omega) (fun x q j => ⟨rfl, rfl, rfl⟩) (show s.heap.size + 11000 ≤ s.heap.size + 600086 by omega) (show 0 + 400000 ≤ 7301442 by omega)
  obtain ⟨pcR, lsR, stR, MR, f, hR, hE, hf, h1, h2⟩ := hlaw
  subst hf
  obtain ⟨rfl, hd, -⟩ := hE
  have hC : Ctx G mL_law 2046 p room_1 s m #[Value.ref b] meth c := ⟨hx, hb, hml, hown, hTB, by rw [gD, gc]; exact ⟨hD, hca⟩, by rw [gb]; exact Nat.le_refl _, ⟨nl_all hts, by rw [gS]; exact ⟨hZ0, hT⟩⟩, Nat.le_of_ble_eq_true rfl, Nat.le_of_ble_eq_true rfl, hname⟩
  have hW : Wd G (mw (M0 s.heap.size) (fun _ _ => 0) (fun _ _ => 0) (fun _ _ => none)) s.heap := ⟨fun k q h => (by cases h), ⟨fun i j p q h => (by cases h), fun k q h => (by cases h)⟩, rfl, fun a h => absurd rfl h, (by rw [gb]; exact Nat.le_refl _)⟩
  obtain ⟨lsr, hls, hL'⟩ := am_entry (nL := 11) (args := [vR b]) (Nat.le_of_ble_eq_true rfl)
  rw [lg_entry_eq]
  have hls' : (lg_sl [Value.ref b] ++ List.replicate (11 - (lg_sl [Value.ref b]).length) Slot.unset).toArray = lsr := hls
  rw [hls']
  have hR2 := hR.2.2
  have k1 : MR.hs - s.heap.size ≤ 600086 := by omega
  rw [gl] at hR2
  refine hR2 p e room_1 s m #[Value.ref b] below meth c s.heap [] 0 0 lsr _ hC hW (by rw [gb]; exact va_S.rf) hL' (show 0 + (MR.hs - s.heap.size) ≤ 600086 by omega) (show 0 + (MR.sl - 0) ≤ 7301442 by omega) (fun H' locs' lsr' hW' hS' hL2 => ?_)
  rw [gb] at hS'
  refine va_forget (fun q hq => hS'.2.2 q hq) ?_
  refine W.widen (k := 600086) (n := 7301442) (show 0 + (MR.hs - s.heap.size) ≤ 600086 by omega) (show 0 + (MR.sl - 0) ≤ 7301442 by omega) ?_
  exact lw_ret hx hb hr hlocks hd

