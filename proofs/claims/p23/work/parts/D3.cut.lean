/-! a tape that is told as a list of tokens, and how it is cut -/
/-- from p on the tape's bytes are these -/
def Suf (E : Tp) (p : Nat) (l : List Int32) : Prop := E.1 = p + l.length ∧ ∀ j, j < l.length → E.2 (p + j) = l.getD j 0
theorem Suf.hd {E : Tp} {p : Nat} {c : Int32} {r : List Int32} (h : Suf E p (c :: r)) : p < E.1 ∧ E.2 p = c ∧ Suf E (p + 1) r := by
  obtain ⟨h1, h2⟩ := h
  rw [List.length_cons] at h1
  refine ⟨by omega, h2 0 (by rw [List.length_cons]; omega), by omega, fun j hj => ?_⟩
  have := h2 (j + 1) (by rw [List.length_cons]; omega)
  rw [show p + 1 + j = p + (j + 1) by omega, this]
  rfl
theorem Suf.nil {E : Tp} {p : Nat} (h : Suf E p []) : p = E.1 := by
  have := h.1
  rw [List.length_nil] at this
  omega
theorem Suf.app {E : Tp} : ∀ {a : List Int32} {p : Nat} {r : List Int32}, Suf E p (a ++ r) → Suf E (p + a.length) r := by
  intro a
  induction a with
  | nil => intro p r h; exact h
  | cons c a ih =>
    intro p r h
    have := ih (Suf.hd h).2.2
    rw [List.length_cons, show p + (a.length + 1) = p + 1 + a.length by omega]
    exact this
theorem Suf.at_ {E : Tp} {p : Nat} {r : List Int32} (h : Suf E p r) : E.at p = r.headD 256 := by
  cases r with
  | nil => exact Tp.at_256 (by rw [h.nil]; omega)
  | cons c r => exact (Tp.at_lt h.hd.1).trans h.hd.2.1
theorem spn_w {E : Tp} {P : Int32 → Bool} (hP : P 256 = false) : ∀ {w : List Int32} {p : Nat} {r : List Int32}, w.all P = true → P (r.headD 256) = false → Suf E p (w ++ r) → spnE P E p = p + w.length := by
  intro w
  induction w with
  | nil =>
    intro p r _ hr h
    have h : Suf E p r := h
    refine spnE_f (fun q => ?_)
    have e := h.at_
    rw [Tp.at_lt q.1] at e
    rw [← e, q.2] at hr
    exact absurd hr (by decide)
  | cons c w ih =>
    intro p r hw hr h
    obtain ⟨h1, h2, h3⟩ := Suf.hd h
    rw [List.all_cons, Bool.and_eq_true] at hw
    rw [spnE_t h1 (by rw [h2]; exact hw.1), ih hw.2 hr h3, List.length_cons]
    omega
def codL : List Int32 → Int64 → Int64
  | [], v => v
  | c :: w, v => codL w (sgC v c)
def nuL : List Int32 → Int64 → Int64
  | [], v => v
  | c :: w, v => nuL w (v * 10 + (c - 48).toInt64)
theorem codN_L {E : Tp} : ∀ {w : List Int32} {p : Nat} {r : List Int32} {v : Int64}, Suf E p (w ++ r) → codN E w.length p v = codL w v := by
  intro w
  induction w with
  | nil => intro p r v _; rfl
  | cons c w ih =>
    intro p r v h
    obtain ⟨h1, h2, h3⟩ := Suf.hd h
    rw [List.length_cons, codN, h2, ih h3]
    rfl
theorem nuN_L {E : Tp} : ∀ {w : List Int32} {p : Nat} {r : List Int32} {v : Int64}, Suf E p (w ++ r) → nuN E w.length p v = nuL w v := by
  intro w
  induction w with
  | nil => intro p r v _; rfl
  | cons c w ih =>
    intro p r v h
    obtain ⟨h1, h2, h3⟩ := Suf.hd h
    rw [List.length_cons, nuN, h2, ih h3]
    rfl
/-- kind and value of a word -/
def kvW (w : List Int32) : Int32 × Int64 := (kowN kwK (codL w 0) 0 32, if kowN kwK (codL w 0) 0 32 = 258 then codL w 0 else 0)
/-- a token: is there a blank ahead; its bytes; kind and value -/
abbrev It : Type := Bool × List Int32 × Int32 × Int64
def It.bl (t : It) : Bool := t.1
def It.by (t : It) : List Int32 := t.2.1
def It.kv (t : It) : Int32 × Int64 := t.2.2
def renI : List It → List Int32
  | [] => []
  | t :: r => (if t.bl = true then 32 :: t.by else t.by) ++ renI r
/-- the sign behind -/
def nxI (r : List It) : Int32 := (renI r).headD 256
def okW (b : List Int32) (kv : Int32 × Int64) (nx : Int32) : Prop := isLeB (b.headD 0) = true ∧ b.all isLDB = true ∧ b.length ≤ 10 ∧ isLDB nx = false ∧ kv = kvW b
def okD (b : List Int32) (kv : Int32 × Int64) (nx : Int32) : Prop := isLeB (b.headD 0) = false ∧ isDiB (b.headD 0) = true ∧ b.all isDiB = true ∧ b.length ≤ 6 ∧ isDiB nx = false ∧ kv = (259, nuL b 0)
def okS (b : List Int32) (kv : Int32 × Int64) (nx : Int32) : Prop := b = [kv.1] ∧ kv.1 ∈ syms ∧ isLeB kv.1 = false ∧ isDiB kv.1 = false ∧ ((kv.1 ≠ 60 ∧ kv.1 ≠ 62) ∨ nx ≠ 61) ∧ kv.2 = 0
def okT (b : List Int32) (kv : Int32 × Int64) (nx : Int32) : Prop := b ≠ [] ∧ isBlB (b.headD 0) = false ∧ (okW b kv nx ∨ okD b kv nx ∨ okS b kv nx)
theorem tok_at {E : Tp} {p : Nat} {b r : List Int32} {kv : Int32 × Int64} (ht : okT b kv (r.headD 256)) (h : Suf E p (b ++ r)) : tokR E kwK p = ([(kv.1, p, kv.2)], p + b.length) := by
  obtain ⟨hb, -, hk⟩ := ht
  cases b with
  | nil => exact absurd rfl hb
  | cons c w =>
  have hat : E.at p = c := h.at_
  unfold tokR
  rw [hat]
  rcases hk with ⟨k1, k2, k3, k4, k5⟩ | ⟨k0, k1, k2, k3, k4, k5⟩ | ⟨k1, k2, k3, k4, k5, k6⟩
  · have k1 : isLeB c = true := k1
    rw [if_pos k1]
    unfold tokW
    have e := spn_w (P := isLDB) (by decide) k2 k4 h
    have e2 : p + (c :: w).length - p = (c :: w).length := by omega
    rw [e, e2, if_neg (by omega), codN_L h, k5]
    rfl
  · have k0 : isLeB c = false := k0
    have k1 : isDiB c = true := k1
    rw [k0, if_neg (by decide), if_pos k1]
    unfold tokN
    have e := spn_w (P := isDiB) (by decide) k2 k4 h
    have e2 : p + (c :: w).length - p = (c :: w).length := by omega
    rw [e, e2, if_neg (by omega), nuN_L h, k5]
  · obtain ⟨e1, e2⟩ := List.cons.inj k1
    subst e1
    subst e2
    rw [k3, k4, if_neg (by decide), if_neg (by decide)]
    unfold tokS
    have h1 := Suf.at_ (Suf.app (a := [kv.1]) h)
    have h1 : E.at (p + 1) = r.headD 256 := h1
    rw [hat, if_pos k2, h1, if_neg (fun q => ?_), k6]
    · rfl
    · rcases k5 with k5 | k5
      · rcases q.1 with q1 | q1
        · exact k5.1 q1
        · exact k5.2 q1
      · exact k5 q.2
def okI : List It → Prop
  | [] => True
  | t :: r => okT t.by t.kv (nxI r) ∧ okI r
theorem cut_all {E : Tp} : ∀ (its : List It) (p n : Nat) (acc : TL), okI its → Suf E p (renI its) → its.length ≤ n → ∃ L', tkL E kwK n (spnE isBlB E p) acc = (acc ++ L', E.1) ∧ L'.map (fun t => (t.1, t.2.2)) = its.map It.kv := by
  intro its
  induction its with
  | nil =>
    intro p n acc _ h _
    have e := h.nil
    subst e
    rw [spnE_f (fun q => Nat.lt_irrefl _ q.1)]
    refine ⟨[], ?_, rfl⟩
    rw [List.append_nil]
    cases n with
    | zero => rfl
    | succ n =>
      rw [tkL]
      rcases tok_p (E := E) (K := kwK) (p := E.1) (Nat.le_refl _) with q | q
      · rw [if_pos q.1]
      · exact absurd (Nat.lt_of_lt_of_le q.1 q.2.1) (Nat.lt_irrefl _)
  | cons t r ih =>
    intro p n acc hok h hn
    obtain ⟨⟨k1, k2, k3⟩, hr⟩ := hok
    cases n with
    | zero => exact absurd hn (Nat.not_succ_le_zero _)
    | succ n =>
    have key : ∀ p', spnE isBlB E p = p' → Suf E p' (t.by ++ renI r) → ∃ L', tkL E kwK (n + 1) (spnE isBlB E p) acc = (acc ++ L', E.1) ∧ L'.map (fun t => (t.1, t.2.2)) = (t :: r).map It.kv := by
      intro p' e h'
      have tk := tok_at (kv := t.kv) ⟨k1, k2, k3⟩ h'
      have hb : 0 < t.by.length := by
        cases hh : t.by with
        | nil => exact absurd hh k1
        | cons _ _ => exact Nat.succ_pos _
      obtain ⟨L', e1, e2⟩ := ih (p' + t.by.length) n (acc ++ [(t.kv.1, p', t.kv.2)]) hr h'.app (by rw [List.length_cons] at hn; omega)
      refine ⟨(t.kv.1, p', t.kv.2) :: L', ?_, ?_⟩
      · rw [e, tkL, tk, if_neg (by show ¬ p' + t.by.length = p'; omega)]
        show tkL E kwK n (spnE isBlB E (p' + t.by.length)) (acc ++ [(t.kv.1, p', t.kv.2)]) = _
        rw [e1, List.append_assoc]
        rfl
      · rw [List.map_cons, List.map_cons, e2]
    have hbl : ∀ p', Suf E p' (t.by ++ renI r) → spnE isBlB E p' = p' := by
      intro p' h'
      refine spnE_f (fun q => ?_)
      have e := h'.at_
      rw [Tp.at_lt q.1] at e
      have e2 : (t.by ++ renI r).headD 256 = t.by.headD 0 := by
        cases hh : t.by with
        | nil => exact absurd hh k1
        | cons _ _ => rfl
      rw [e, e2, k2] at q
      exact absurd q.2 (by decide)
    rw [renI] at h
    by_cases c : t.bl = true
    · rw [if_pos c] at h
      obtain ⟨h1, h2, h3⟩ := Suf.hd (r := t.by ++ renI r) h
      exact key (p + 1) (by rw [spnE_t h1 (by rw [h2]; decide)]; exact hbl _ h3) h3
    · rw [if_neg c] at h
      exact key p (hbl _ h) h
/-- the tokens of a tape -/
theorem cut_toks {E : Tp} {its : List It} {d : Int32 × Int64} (hok : okI its) (h : Suf E 0 (renI its)) (hn : its.length ≤ 400) : (tkAll E kwK).toks.n = its.length + 1 ∧ (∀ i, i < its.length → (tkAll E kwK).toks.k i = ((its.map It.kv).getD i d).1 ∧ (tkAll E kwK).toks.v i = ((its.map It.kv).getD i d).2) ∧ (tkAll E kwK).toks.k its.length = 256 := by
  obtain ⟨L', e1, e2⟩ := cut_all its 0 400 [] hok h hn
  have hl : L'.length = its.length := by
    have := congrArg List.length e2
    rw [List.length_map, List.length_map] at this
    exact this
  have ea : tkAll E kwK = L' ++ [(256, E.1, 0)] := by
    unfold tkAll tkF
    rw [e1, List.nil_append, if_neg (Nat.lt_irrefl _)]
  have en : (tkAll E kwK).toks.n = its.length + 1 := by
    rw [ea]
    show (L' ++ [(256, E.1, 0)]).length = _
    rw [List.length_append, hl]
    rfl
  refine ⟨en, fun i hi => ?_, ?_⟩
  · have g : (L' ++ [((256 : Int32), E.1, (0 : Int64))])[i]? = L'[i]? := List.getElem?_append_left (by omega)
    have g2 : (its.map It.kv)[i]? = L'[i]?.map (fun t => (t.1, t.2.2)) := by rw [← e2, List.getElem?_map]
    have g3 : L'[i]? = some L'[i] := List.getElem?_eq_getElem (by omega)
    unfold Toks.k Toks.v
    rw [en, if_pos (by omega), if_pos (by omega), ea]
    show ((L' ++ [((256 : Int32), E.1, (0 : Int64))]).getD i (0, 0, 0)).1 = _ ∧ ((L' ++ [((256 : Int32), E.1, (0 : Int64))]).getD i (0, 0, 0)).2.2 = _
    rw [List.getD_eq_getElem?_getD, List.getD_eq_getElem?_getD, g, g2, g3]
    exact ⟨rfl, rfl⟩
  · unfold Toks.k
    rw [en, if_pos (by omega), ea]
    show ((L' ++ [((256 : Int32), E.1, (0 : Int64))]).getD its.length (0, 0, 0)).1 = 256
    rw [List.getD_eq_getElem?_getD, ← hl, List.getElem?_append_right (Nat.le_refl _), Nat.sub_self]
    rfl

