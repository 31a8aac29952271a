/-! rules and facts that the walks use beside the machine's own -/
theorem am_ci1 : Int32.ofInt 1 = 1 := by decide +kernel
section AMkit
variable {G : Gp} {Y : MD} {d pc : Nat} {ls ls1 : List (Option AV)} {st : List AV} {M : AMem} {Q : (Option AV ⊕ Nat) → AMem → Prop}
theorem am_iincW {i : Nat} {n : Int} {x w : Int32} (hd : decode Y.cc pc = .ok (.iinc i n, 3)) (hl : ls[i]? = some (some (vI x))) (hn : i < Y.nL) (hw : Int32.ofInt n = w) (hls : lsA ls i (vI (x + w)) = ls1) (k : MW G Y d (pc + 3) ls1 st M Q) : MW G Y d pc ls st M Q :=
  am_iinc hd hl hn (by rw [hw]) hls k
theorem am_alenI {a : Nat} {v : Int32} (hd : decode Y.cc pc = .ok (.arraylength, 1)) (hK : M.K a = 20) (hv : nI (M.ln a) = v) (k : MW G Y d (pc + 1) ls (vI v :: st) M Q) : MW G Y d pc ls (vR a :: st) M Q := am_alen hd (by omega) hv k
theorem am_alenJ {a : Nat} {v : Int32} (hd : decode Y.cc pc = .ok (.arraylength, 1)) (hK : M.K a = 21) (hv : nI (M.ln a) = v) (k : MW G Y d (pc + 1) ls (vI v :: st) M Q) : MW G Y d pc ls (vR a :: st) M Q := am_alen hd (by omega) hv k
theorem am_alenR {a t : Nat} {v : Int32} (hd : decode Y.cc pc = .ok (.arraylength, 1)) (hK : M.K a = 22 + t) (ht : t < 4) (hv : nI (M.ln a) = v) (k : MW G Y d (pc + 1) ls (vI v :: st) M Q) : MW G Y d pc ls (vR a :: st) M Q := am_alen hd (by omega) hv k
end AMkit
def AMem.wI (M : AMem) (I : Nat → Nat → Int32) : AMem := mkM M.ad M.hs M.sl M.K M.ln I M.J M.R
def AMem.wJ (M : AMem) (J : Nat → Nat → Int64) : AMem := mkM M.ad M.hs M.sl M.K M.ln M.I J M.R
theorem am_wI_self (M : AMem) : M.wI M.I = M := rfl
theorem am_wI_I (M : AMem) (I : Nat → Nat → Int32) : (M.wI I).I = I := rfl
theorem am_sI_wI (M : AMem) (a j : Nat) (v : Int32) : M.sI a j v = M.wI (up2 M.I a j v) := rfl
theorem am_up2_at {α : Type} {f : Nat → Nat → α} {a j : Nat} {v : α} {b i : Nat} : up2 f a j v b i = if b = a ∧ i = j then v else f b i := rfl

