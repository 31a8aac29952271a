theorem kc_b100 : (Int8.ofInt 100).toInt32 = 100 := by decide +kernel
theorem dX0_init_0 : decode cX0_init 0 = .ok (.aload_n 0, 1) := by decide +kernel
theorem dX0_init_1 : decode cX0_init 1 = .ok (.invokespecial 1, 3) := by decide +kernel
theorem dX0_init_4 : decode cX0_init 4 = .ok (.aload_n 0, 1) := by decide +kernel
theorem dX0_init_5 : decode cX0_init 5 = .ok (.bipush 10, 2) := by decide +kernel
theorem dX0_init_7 : decode cX0_init 7 = .ok (.newarray .int, 2) := by decide +kernel
theorem dX0_init_9 : decode cX0_init 9 = .ok (.putfield 9, 3) := by decide +kernel
theorem dX0_init_12 : decode cX0_init 12 = .ok (.return_, 1) := by decide +kernel
theorem dX10_init_0 : decode cX10_init 0 = .ok (.aload_n 0, 1) := by decide +kernel
theorem dX10_init_1 : decode cX10_init 1 = .ok (.invokespecial 1, 3) := by decide +kernel
theorem dX10_init_4 : decode cX10_init 4 = .ok (.return_, 1) := by decide +kernel
theorem dX1_init_0 : decode cX1_init 0 = .ok (.aload_n 0, 1) := by decide +kernel
theorem dX1_init_1 : decode cX1_init 1 = .ok (.invokespecial 3, 3) := by decide +kernel
theorem dX1_init_4 : decode cX1_init 4 = .ok (.aload_n 0, 1) := by decide +kernel
theorem dX1_init_5 : decode cX1_init 5 = .ok (.sipush 400, 3) := by decide +kernel
theorem dX1_init_8 : decode cX1_init 8 = .ok (.newarray .int, 2) := by decide +kernel
theorem dX1_init_10 : decode cX1_init 10 = .ok (.putfield 11, 3) := by decide +kernel
theorem dX1_init_13 : decode cX1_init 13 = .ok (.aload_n 0, 1) := by decide +kernel
theorem dX1_init_14 : decode cX1_init 14 = .ok (.sipush 400, 3) := by decide +kernel
theorem dX1_init_17 : decode cX1_init 17 = .ok (.newarray .int, 2) := by decide +kernel
theorem dX1_init_19 : decode cX1_init 19 = .ok (.putfield 17, 3) := by decide +kernel
theorem dX1_init_22 : decode cX1_init 22 = .ok (.aload_n 0, 1) := by decide +kernel
theorem dX1_init_23 : decode cX1_init 23 = .ok (.sipush 400, 3) := by decide +kernel
theorem dX1_init_26 : decode cX1_init 26 = .ok (.newarray .int, 2) := by decide +kernel
theorem dX1_init_28 : decode cX1_init 28 = .ok (.putfield 20, 3) := by decide +kernel
theorem dX1_init_31 : decode cX1_init 31 = .ok (.return_, 1) := by decide +kernel
theorem dX3_init_0 : decode cX3_init 0 = .ok (.aload_n 0, 1) := by decide +kernel
theorem dX3_init_1 : decode cX3_init 1 = .ok (.invokespecial 1, 3) := by decide +kernel
theorem dX3_init_4 : decode cX3_init 4 = .ok (.return_, 1) := by decide +kernel
theorem dX4_init_0 : decode cX4_init 0 = .ok (.aload_n 0, 1) := by decide +kernel
theorem dX4_init_1 : decode cX4_init 1 = .ok (.invokespecial 1, 3) := by decide +kernel
theorem dX4_init_4 : decode cX4_init 4 = .ok (.aload_n 0, 1) := by decide +kernel
theorem dX4_init_5 : decode cX4_init 5 = .ok (.sipush 301, 3) := by decide +kernel
theorem dX4_init_8 : decode cX4_init 8 = .ok (.newarray .int, 2) := by decide +kernel
theorem dX4_init_10 : decode cX4_init 10 = .ok (.putfield 9, 3) := by decide +kernel
theorem dX4_init_13 : decode cX4_init 13 = .ok (.return_, 1) := by decide +kernel
theorem dX5_init_0 : decode cX5_init 0 = .ok (.aload_n 0, 1) := by decide +kernel
theorem dX5_init_1 : decode cX5_init 1 = .ok (.invokespecial 1, 3) := by decide +kernel
theorem dX5_init_4 : decode cX5_init 4 = .ok (.return_, 1) := by decide +kernel
theorem dX6_init_0 : decode cX6_init 0 = .ok (.aload_n 0, 1) := by decide +kernel
theorem dX6_init_1 : decode cX6_init 1 = .ok (.invokespecial 1, 3) := by decide +kernel
theorem dX6_init_4 : decode cX6_init 4 = .ok (.aload_n 0, 1) := by decide +kernel
theorem dX6_init_5 : decode cX6_init 5 = .ok (.bipush 100, 2) := by decide +kernel
theorem dX6_init_7 : decode cX6_init 7 = .ok (.newarray .int, 2) := by decide +kernel
theorem dX6_init_9 : decode cX6_init 9 = .ok (.putfield 9, 3) := by decide +kernel
theorem dX6_init_12 : decode cX6_init 12 = .ok (.return_, 1) := by decide +kernel
theorem dX8_init_0 : decode cX8_init 0 = .ok (.aload_n 0, 1) := by decide +kernel
theorem dX8_init_1 : decode cX8_init 1 = .ok (.invokespecial 3, 3) := by decide +kernel
theorem dX8_init_4 : decode cX8_init 4 = .ok (.aload_n 0, 1) := by decide +kernel
theorem dX8_init_5 : decode cX8_init 5 = .ok (.sipush 2000, 3) := by decide +kernel
theorem dX8_init_8 : decode cX8_init 8 = .ok (.newarray .int, 2) := by decide +kernel
theorem dX8_init_10 : decode cX8_init 10 = .ok (.putfield 11, 3) := by decide +kernel
theorem dX8_init_13 : decode cX8_init 13 = .ok (.return_, 1) := by decide +kernel
/-! cells that are made: the memory grows -/
def gS (S : AMem) : List (Nat × Nat) → AMem
  | [] => S
  | x :: l => gS (S.nw x.1 x.2) l
theorem gS_app {S : AMem} {l' : List (Nat × Nat)} : ∀ {l : List (Nat × Nat)}, gS (gS S l) l' = gS S (l ++ l') := by
  intro l
  induction l generalizing S with
  | nil => rfl
  | cons x l ih => exact ih
theorem gS_hs {S : AMem} : ∀ {l : List (Nat × Nat)}, (gS S l).hs = S.hs + l.length := by
  intro l
  induction l generalizing S with
  | nil => rfl
  | cons x l ih =>
    rw [gS, ih, nw_hs, List.length_cons]
    omega
theorem gS_sl {S : AMem} : ∀ {l : List (Nat × Nat)}, (gS S l).sl = S.sl + (l.map Prod.snd).sum := by
  intro l
  induction l generalizing S with
  | nil => rfl
  | cons x l ih =>
    rw [gS, ih, nw_sl, List.map_cons, List.sum_cons]
    omega
theorem gS_o {S : AMem} {x : Nat} : ∀ {l : List (Nat × Nat)}, x < S.hs → (gS S l).K x = S.K x ∧ (gS S l).ln x = S.ln x := by
  intro l
  induction l generalizing S with
  | nil => intro _; exact ⟨rfl, rfl⟩
  | cons y l ih =>
    intro h
    obtain ⟨h1, h2⟩ := ih (S := S.nw y.1 y.2) (by rw [nw_hs]; omega)
    exact ⟨h1.trans (if_neg (Nat.ne_of_lt h)), h2.trans (if_neg (Nat.ne_of_lt h))⟩
theorem gS_K {S : AMem} : ∀ {l : List (Nat × Nat)} {i : Nat}, i < l.length → (gS S l).K (S.hs + i) = (l.getD i (0, 0)).1 ∧ (gS S l).ln (S.hs + i) = (l.getD i (0, 0)).2 := by
  intro l
  induction l generalizing S with
  | nil => intro i h; exact absurd h (Nat.not_lt_zero i)
  | cons y l ih =>
    intro i h
    cases i with
    | zero =>
      obtain ⟨h1, h2⟩ := gS_o (S := S.nw y.1 y.2) (l := l) (x := S.hs) (by rw [nw_hs]; omega)
      exact ⟨h1.trans (if_pos rfl), h2.trans (if_pos rfl)⟩
    | succ i =>
      have := ih (S := S.nw y.1 y.2) (i := i) (by simpa using h)
      rw [nw_hs, show S.hs + 1 + i = S.hs + (i + 1) by omega] at this
      exact this
/-- nothing is known behind the last cell but that it is empty -/
def Fr (S : AMem) (I : Nat → Nat → Int32) (J : Nat → Nat → Int64) (R : Nat → Nat → Option Nat) : Prop := ∀ x, S.hs ≤ x → ∀ j, I x j = 0 ∧ J x j = 0 ∧ R x j = none
theorem mw_nw {S : AMem} {I : Nat → Nat → Int32} {J : Nat → Nat → Int64} {R : Nat → Nat → Option Nat} {k n : Nat} : (mw S I J R).nw k n = mw (S.nw k n) (fun b i => if b = S.hs then 0 else I b i) (fun b i => if b = S.hs then 0 else J b i) (fun b i => if b = S.hs then none else R b i) := rfl
section Fs
variable {S : AMem} {I : Nat → Nat → Int32} {J : Nat → Nat → Int64} {R : Nat → Nat → Option Nat}
theorem Fr.nw {k n : Nat} (h : Fr S I J R) : Fr (S.nw k n) I J R := fun x q => h x (by rw [nw_hs] at q; omega)
theorem Fr.gS {l : List (Nat × Nat)} (h : Fr S I J R) : Fr (gS S l) I J R := fun x q => h x (by rw [gS_hs] at q; omega)
theorem Fr.pR {a j : Nat} {v : Option Nat} (h : Fr S I J R) (ha : a < S.hs) : Fr S I J (up2 R a j v) := fun x q i => by
  rw [up2_a (by omega)]
  exact h x q i
theorem Fr.pI {a j : Nat} {v : Int32} (h : Fr S I J R) (ha : a < S.hs) : Fr S (up2 I a j v) J R := fun x q i => by
  rw [up2_a (by omega)]
  exact h x q i
theorem Fr.oR {R1 : Nat → Nat → Option Nat} (h : Fr S I J R) (o : ∀ x, S.hs ≤ x → R1 x = R x) : Fr S I J R1 := fun x q i => by
  rw [o x q]
  exact h x q i
theorem Fr.mw {k n : Nat} (h : Fr S I J R) : (mw S I J R).nw k n = mw (S.nw k n) I J R := by
  rw [mw_nw]
  congr 1
  · funext b i
    by_cases c : b = S.hs
    · rw [if_pos c, c, (h S.hs (Nat.le_refl _) i).1]
    · rw [if_neg c]
  · funext b i
    by_cases c : b = S.hs
    · rw [if_pos c, c, (h S.hs (Nat.le_refl _) i).2.1]
    · rw [if_neg c]
  · funext b i
    by_cases c : b = S.hs
    · rw [if_pos c, c, (h S.hs (Nat.le_refl _) i).2.2]
    · rw [if_neg c]
theorem nw_Ko {k n x : Nat} (h : x ≠ S.hs) : (S.nw k n).K x = S.K x := if_neg h
theorem nw_lo {k n x : Nat} (h : x ≠ S.hs) : (S.nw k n).ln x = S.ln x := if_neg h
theorem nw_Kn {k n : Nat} : (S.nw k n).K S.hs = k := if_pos rfl
theorem nw_ln' {k n : Nat} : (S.nw k n).ln S.hs = n := if_pos rfl
end Fs
section Fc
variable {G : Gp} {Y : MD} {d pc : Nat} {ls : List (Option AV)} {st : List AV} {S : AMem} {I : Nat → Nat → Int32} {J : Nat → Nat → Int64} {R : Nat → Nat → Option Nat} {Q : (Option AV ⊕ Nat) → AMem → Prop}
theorem cm_mkO {index ci : Nat} (hF : Fr S I J R) (hd : decode Y.cc pc = .ok (.new index, 3)) (hc : CN Y.y.cls index ci) {q : Nat} (hq : pc + 3 = q) (k : MW G Y d q ls (vR S.hs :: st) (mw (S.nw (ci + 1) (nF ci)) I J R) Q) : MW G Y d pc ls st (mw S I J R) Q := am_new hd hc hq (by rw [hF.mw]; exact k)
theorem cm_mkI {x : Int32} {n : Nat} (hF : Fr S I J R) (hd : decode Y.cc pc = .ok (.newarray .int, 2)) (hx0 : ¬ x < 0) (hn : x.toNatClampNeg = n) (hb : n * 4 ≤ 536870912) {q : Nat} (hq : pc + 2 = q) (k : MW G Y d q ls (vR S.hs :: st) (mw (S.nw 20 n) I J R) Q) : MW G Y d pc ls (vI x :: st) (mw S I J R) Q := am_newI hd hx0 hn hb hq (by rw [hF.mw]; exact k) tb_aI
theorem cm_mkJ {x : Int32} {n : Nat} (hF : Fr S I J R) (hd : decode Y.cc pc = .ok (.newarray .long, 2)) (hx0 : ¬ x < 0) (hn : x.toNatClampNeg = n) (hb : n * 8 ≤ 536870912) {q : Nat} (hq : pc + 2 = q) (k : MW G Y d q ls (vR S.hs :: st) (mw (S.nw 21 n) I J R) Q) : MW G Y d pc ls (vI x :: st) (mw S I J R) Q := am_newJ hd hx0 hn hb hq (by rw [hF.mw]; exact k) tb_aJ
theorem am_newR2 {M : AMem} {index t : Nat} {C : String} {x : Int32} {n : Nat} (hd : decode Y.cc pc = .ok (.anewarray index, 3)) (hl : Cond.classLink Y.y.cls index C ∈ TB) (ho : ∀ U, G.ST U → (Cond.arrayOver (.object C)).before #[] U = true) (hty : (tysOf G.ca)[t + 2]? = some (G.ca (t + 2), .object C)) (hx0 : ¬ x < 0) (hn : x.toNatClampNeg = n) (hb : n * 4 ≤ 536870912) {q : Nat} (hq : pc + 3 = q) (k : MW G Y d q ls (vR M.hs :: st) (M.nw (22 + t) n) Q) : MW G Y d pc ls (vI x :: st) M Q := by
  subst hq
  subst hn
  refine MW.step (am_make (pc1 := pc + 3) (st1' := vR M.hs :: st) fun {p e R s m args below meth c H locs cells slots lsr Q0} hC hW hS hcl hsl kk => ?_) k
  refine W.anew hC.1 hC.2.1 hC.2.2.2.1 (hC.2.2.2.2.1 _ hl) (Cond.arrayOver_alike (Vm.Alike.refl _) (ho _ hC.2.2.2.2.2.2.2.1.2)) rfl hd rfl hx0 hb hcl hsl fun cA kA comp f1 f2 f3 f4 => ?_
  obtain ⟨_, _, -, -, -, hNm⟩ := (hC.2.2.2.2.2.1.2 (t + 2) _ hty).2
  have hcA : cA = G.ca (t + 2) := Option.some.inj (f1.symm.trans hNm)
  subst hcA
  have hsz := hW.2.2.1
  generalize hH1 : H.push ({ cls := G.ca (t + 2), slots := Array.replicate x.toNatClampNeg .null, vm := .none } : Cell) = H1
  have z1 : H1.size = M.hs + 1 := by rw [← hH1, Array.size_push, hsz]
  have e1 : H1[M.hs]? = some (arrV (G.ca (t + 2)) x.toNatClampNeg (fun _ => .null)) := by rw [← hH1, ← hsz, Array.getElem?_push_size, ← arrV_new]
  have o1 : ∀ q : Nat, q < M.hs → H1[q]? = H[q]? := fun q hq => by rw [← hH1, Array.getElem?_push, if_neg (by omega)]
  rw [hsz]
  refine kk H1 (am_Wd_new hW (by omega) ?_ z1 o1) (am_S_new hS (by rw [z1, hsz]) (fun q hq => o1 q (by rw [← hsz]; exact hq)))
  rw [am_cell_R (M := M.nw (22 + t) x.toNatClampNeg) (by rw [nw_K, if_pos rfl])]
  show H1[M.hs]? = some (vp_cell _ _)
  rw [e1, vp_cell_q]
  have h2 : (M.nw (22 + t) x.toNatClampNeg).ln M.hs = x.toNatClampNeg := by rw [nw_ln, if_pos rfl]
  rw [h2]
  congr 2
  funext j
  rw [nw_R, if_pos rfl]
  rfl
theorem cm_mkR {index t : Nat} {C : String} {x : Int32} {n : Nat} (hF : Fr S I J R) (hd : decode Y.cc pc = .ok (.anewarray index, 3)) (hl : Cond.classLink Y.y.cls index C ∈ TB) (ho : ∀ U, G.ST U → (Cond.arrayOver (.object C)).before #[] U = true) (hty : (tysOf G.ca)[t + 2]? = some (G.ca (t + 2), .object C)) (hx0 : ¬ x < 0) (hn : x.toNatClampNeg = n) (hb : n * 4 ≤ 536870912) {q : Nat} (hq : pc + 3 = q) (k : MW G Y d q ls (vR S.hs :: st) (mw (S.nw (22 + t) n) I J R) Q) : MW G Y d pc ls (vI x :: st) (mw S I J R) Q := am_newR2 hd hl ho hty hx0 hn hb hq (by rw [hF.mw]; exact k)
end Fc
theorem tb_oi1 : Cond.instanceMethod Lib.objectInit ∈ TB := tbc2 118 rfl rfl
theorem tb_oi2 : Cond.code Lib.objectInit ⟨#[0xb1]⟩ 1 none ∈ TB := tbc2 119 rfl rfl
section Fk
variable {G : Gp} {S : AMem} {I : Nat → Nat → Int32} {J : Nat → Nat → Int64} {R : Nat → Nat → Option Nat} {a : Nat}
theorem k_X3_init : Fn G mX3_init 0 [vR a] (mw S I J R) (fun rr M1 => rr = none ∧ M1 = mw S I J R) := by
  refine am_aload_n (q := 1) dX3_init_0 rfl rfl ?_
  refine am_objInit (q := 4) dX3_init_1 (tbc4 159 rfl rfl) tb_oi1 tb_oi2 (Nat.le_of_ble_eq_true rfl) rfl ?_
  exact am_ret dX3_init_4 rfl ⟨_, rfl, rfl, rfl⟩
theorem k_X5_init : Fn G mX5_init 0 [vR a] (mw S I J R) (fun rr M1 => rr = none ∧ M1 = mw S I J R) := by
  refine am_aload_n (q := 1) dX5_init_0 rfl rfl ?_
  refine am_objInit (q := 4) dX5_init_1 (tbc4 205 rfl rfl) tb_oi1 tb_oi2 (Nat.le_of_ble_eq_true rfl) rfl ?_
  exact am_ret dX5_init_4 rfl ⟨_, rfl, rfl, rfl⟩
theorem k_X10_init : Fn G mX10_init 0 [vR a] (mw S I J R) (fun rr M1 => rr = none ∧ M1 = mw S I J R) := by
  refine am_aload_n (q := 1) dX10_init_0 rfl rfl ?_
  refine am_objInit (q := 4) dX10_init_1 (tbc4 235 rfl rfl) tb_oi1 tb_oi2 (Nat.le_of_ble_eq_true rfl) rfl ?_
  exact am_ret dX10_init_4 rfl ⟨_, rfl, rfl, rfl⟩
theorem k_X0_init (hF : Fr S I J R) (ka : S.K a = 1) (ha : a < S.hs) : Fn G mX0_init 0 [vR a] (mw S I J R) (fun rr M1 => rr = none ∧ ∃ R1, M1 = mw (gS S [(20, 10)]) I J R1 ∧ (R1 a 0 = some (S.hs + 0)) ∧ ∀ x, x ≠ a → R1 x = R x) := by
  refine am_aload_n (q := 1) dX0_init_0 rfl rfl ?_
  refine am_objInit (q := 4) dX0_init_1 (tbc4 72 rfl rfl) tb_oi1 tb_oi2 (Nat.le_of_ble_eq_true rfl) rfl ?_
  refine am_aload_n (q := 5) dX0_init_4 rfl rfl ?_
  refine am_bipush (q := 7) (v := 10) dX0_init_5 kc_b10 rfl ?_
  refine cm_mkI (n := 10) (q := 9) hF dX0_init_7 (by decide) rfl (Nat.le_of_ble_eq_true rfl) rfl ?_
  have k1 : (S.nw 20 10).K a = 1 := (nw_Ko (show a ≠ S.hs + 0 by omega)).trans ka
  refine cm_putR (q := 12) dX0_init_9 flX0_9 rfl fpX0_9 (by assumption) rfl ?_
  have f1 : Fr (S.nw 20 10) I J (up2 R a 0 (some (S.hs + 0))) := (hF.nw).pR (show a < S.hs + 1 by omega)
  exact am_ret dX0_init_12 rfl ⟨_, rfl, rfl, _, rfl, (by rw [up2_s]; rfl), fun x q => funext fun j => by rw [up2_a q]⟩
theorem k_X4_init (hF : Fr S I J R) (ka : S.K a = 5) (ha : a < S.hs) : Fn G mX4_init 0 [vR a] (mw S I J R) (fun rr M1 => rr = none ∧ ∃ R1, M1 = mw (gS S [(20, 301)]) I J R1 ∧ (R1 a 0 = some (S.hs + 0)) ∧ ∀ x, x ≠ a → R1 x = R x) := by
  refine am_aload_n (q := 1) dX4_init_0 rfl rfl ?_
  refine am_objInit (q := 4) dX4_init_1 (tbc4 85 rfl rfl) tb_oi1 tb_oi2 (Nat.le_of_ble_eq_true rfl) rfl ?_
  refine am_aload_n (q := 5) dX4_init_4 rfl rfl ?_
  refine am_sipush (q := 8) (v := 301) dX4_init_5 kc_s301 rfl ?_
  refine cm_mkI (n := 301) (q := 10) hF dX4_init_8 (by decide) rfl (Nat.le_of_ble_eq_true rfl) rfl ?_
  have k1 : (S.nw 20 301).K a = 5 := (nw_Ko (show a ≠ S.hs + 0 by omega)).trans ka
  refine cm_putR (q := 13) dX4_init_10 flX4_9 rfl fpX4_9 (by assumption) rfl ?_
  have f1 : Fr (S.nw 20 301) I J (up2 R a 0 (some (S.hs + 0))) := (hF.nw).pR (show a < S.hs + 1 by omega)
  exact am_ret dX4_init_13 rfl ⟨_, rfl, rfl, _, rfl, (by rw [up2_s]; rfl), fun x q => funext fun j => by rw [up2_a q]⟩
theorem k_X6_init (hF : Fr S I J R) (ka : S.K a = 7) (ha : a < S.hs) : Fn G mX6_init 0 [vR a] (mw S I J R) (fun rr M1 => rr = none ∧ ∃ R1, M1 = mw (gS S [(20, 100)]) I J R1 ∧ (R1 a 0 = some (S.hs + 0)) ∧ ∀ x, x ≠ a → R1 x = R x) := by
  refine am_aload_n (q := 1) dX6_init_0 rfl rfl ?_
  refine am_objInit (q := 4) dX6_init_1 (tbc4 123 rfl rfl) tb_oi1 tb_oi2 (Nat.le_of_ble_eq_true rfl) rfl ?_
  refine am_aload_n (q := 5) dX6_init_4 rfl rfl ?_
  refine am_bipush (q := 7) (v := 100) dX6_init_5 kc_b100 rfl ?_
  refine cm_mkI (n := 100) (q := 9) hF dX6_init_7 (by decide) rfl (Nat.le_of_ble_eq_true rfl) rfl ?_
  have k1 : (S.nw 20 100).K a = 7 := (nw_Ko (show a ≠ S.hs + 0 by omega)).trans ka
  refine cm_putR (q := 12) dX6_init_9 flX6_9 rfl fpX6_9 (by assumption) rfl ?_
  have f1 : Fr (S.nw 20 100) I J (up2 R a 0 (some (S.hs + 0))) := (hF.nw).pR (show a < S.hs + 1 by omega)
  exact am_ret dX6_init_12 rfl ⟨_, rfl, rfl, _, rfl, (by rw [up2_s]; rfl), fun x q => funext fun j => by rw [up2_a q]⟩
theorem k_X8_init (hF : Fr S I J R) (ka : S.K a = 9) (ha : a < S.hs) : Fn G mX8_init 0 [vR a] (mw S I J R) (fun rr M1 => rr = none ∧ ∃ R1, M1 = mw (gS S [(20, 2000)]) I J R1 ∧ (R1 a 0 = some (S.hs + 0)) ∧ ∀ x, x ≠ a → R1 x = R x) := by
  refine am_aload_n (q := 1) dX8_init_0 rfl rfl ?_
  refine am_objInit (q := 4) dX8_init_1 (tbc4 2 rfl rfl) tb_oi1 tb_oi2 (Nat.le_of_ble_eq_true rfl) rfl ?_
  refine am_aload_n (q := 5) dX8_init_4 rfl rfl ?_
  refine am_sipush (q := 8) (v := 2000) dX8_init_5 kc_s2000 rfl ?_
  refine cm_mkI (n := 2000) (q := 10) hF dX8_init_8 (by decide) rfl (Nat.le_of_ble_eq_true rfl) rfl ?_
  have k1 : (S.nw 20 2000).K a = 9 := (nw_Ko (show a ≠ S.hs + 0 by omega)).trans ka
  refine cm_putR (q := 13) dX8_init_10 flX8_11 rfl fpX8_11 (by assumption) rfl ?_
  have f1 : Fr (S.nw 20 2000) I J (up2 R a 0 (some (S.hs + 0))) := (hF.nw).pR (show a < S.hs + 1 by omega)
  exact am_ret dX8_init_13 rfl ⟨_, rfl, rfl, _, rfl, (by rw [up2_s]; rfl), fun x q => funext fun j => by rw [up2_a q]⟩
theorem k_X1_init (hF : Fr S I J R) (ka : S.K a = 2) (ha : a < S.hs) : Fn G mX1_init 0 [vR a] (mw S I J R) (fun rr M1 => rr = none ∧ ∃ R1, M1 = mw (gS S [(20, 400), (20, 400), (20, 400)]) I J R1 ∧ (R1 a 0 = some (S.hs + 0) ∧ R1 a 1 = some (S.hs + 1) ∧ R1 a 2 = some (S.hs + 2)) ∧ ∀ x, x ≠ a → R1 x = R x) := by
  refine am_aload_n (q := 1) dX1_init_0 rfl rfl ?_
  refine am_objInit (q := 4) dX1_init_1 (tbc4 48 rfl rfl) tb_oi1 tb_oi2 (Nat.le_of_ble_eq_true rfl) rfl ?_
  refine am_aload_n (q := 5) dX1_init_4 rfl rfl ?_
  refine am_sipush (q := 8) (v := 400) dX1_init_5 kc_s400 rfl ?_
  refine cm_mkI (n := 400) (q := 10) hF dX1_init_8 (by decide) rfl (Nat.le_of_ble_eq_true rfl) rfl ?_
  have k1 : (S.nw 20 400).K a = 2 := (nw_Ko (show a ≠ S.hs + 0 by omega)).trans ka
  refine cm_putR (q := 13) dX1_init_10 flX1_11 rfl fpX1_11 (by assumption) rfl ?_
  have f1 : Fr (S.nw 20 400) I J (up2 R a 0 (some (S.hs + 0))) := (hF.nw).pR (show a < S.hs + 1 by omega)
  refine am_aload_n (q := 14) dX1_init_13 rfl rfl ?_
  refine am_sipush (q := 17) (v := 400) dX1_init_14 kc_s400 rfl ?_
  refine cm_mkI (n := 400) (q := 19) f1 dX1_init_17 (by decide) rfl (Nat.le_of_ble_eq_true rfl) rfl ?_
  have k2 : ((S.nw 20 400).nw 20 400).K a = 2 := (nw_Ko (show a ≠ S.hs + 1 by omega)).trans k1
  refine cm_putR (q := 22) dX1_init_19 flX1_17 rfl fpX1_17 (by assumption) rfl ?_
  have f2 : Fr ((S.nw 20 400).nw 20 400) I J (up2 (up2 R a 0 (some (S.hs + 0))) a 1 (some (S.hs + 1))) := (f1.nw).pR (show a < S.hs + 2 by omega)
  refine am_aload_n (q := 23) dX1_init_22 rfl rfl ?_
  refine am_sipush (q := 26) (v := 400) dX1_init_23 kc_s400 rfl ?_
  refine cm_mkI (n := 400) (q := 28) f2 dX1_init_26 (by decide) rfl (Nat.le_of_ble_eq_true rfl) rfl ?_
  have k3 : (((S.nw 20 400).nw 20 400).nw 20 400).K a = 2 := (nw_Ko (show a ≠ S.hs + 2 by omega)).trans k2
  refine cm_putR (q := 31) dX1_init_28 flX1_20 rfl fpX1_20 (by assumption) rfl ?_
  have f3 : Fr (((S.nw 20 400).nw 20 400).nw 20 400) I J (up2 (up2 (up2 R a 0 (some (S.hs + 0))) a 1 (some (S.hs + 1))) a 2 (some (S.hs + 2))) := (f2.nw).pR (show a < S.hs + 3 by omega)
  exact am_ret dX1_init_31 rfl ⟨_, rfl, rfl, _, rfl, ⟨(by rw [up2_j (by decide), up2_j (by decide), up2_s]; rfl), (by rw [up2_j (by decide), up2_s]; rfl), (by rw [up2_s]; rfl)⟩, fun x q => funext fun j => by rw [up2_a q, up2_a q, up2_a q]⟩
end Fk

