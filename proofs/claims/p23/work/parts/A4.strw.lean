theorem dX9_isSymbol_0 : decode cX9_isSymbol 0 = .ok (.iconst 0, 1) := by decide +kernel
theorem dX9_isSymbol_1 : decode cX9_isSymbol 1 = .ok (.istore_n 1, 1) := by decide +kernel
theorem dX9_isSymbol_2 : decode cX9_isSymbol 2 = .ok (.iload_n 1, 1) := by decide +kernel
theorem dX9_isSymbol_3 : decode cX9_isSymbol 3 = .ok (.ldc 102, 2) := by decide +kernel
theorem dX9_isSymbol_5 : decode cX9_isSymbol 5 = .ok (.invokevirtual 91, 3) := by decide +kernel
theorem dX9_isSymbol_8 : decode cX9_isSymbol 8 = .ok (.if_icmp .ge 21, 3) := by decide +kernel
theorem dX9_isSymbol_11 : decode cX9_isSymbol 11 = .ok (.ldc 102, 2) := by decide +kernel
theorem dX9_isSymbol_13 : decode cX9_isSymbol 13 = .ok (.iload_n 1, 1) := by decide +kernel
theorem dX9_isSymbol_14 : decode cX9_isSymbol 14 = .ok (.invokevirtual 96, 3) := by decide +kernel
theorem dX9_isSymbol_17 : decode cX9_isSymbol 17 = .ok (.iload_n 0, 1) := by decide +kernel
theorem dX9_isSymbol_18 : decode cX9_isSymbol 18 = .ok (.if_icmp .ne 5, 3) := by decide +kernel
theorem dX9_isSymbol_21 : decode cX9_isSymbol 21 = .ok (.iconst 1, 1) := by decide +kernel
theorem dX9_isSymbol_22 : decode cX9_isSymbol 22 = .ok (.ireturn, 1) := by decide +kernel
theorem dX9_isSymbol_23 : decode cX9_isSymbol 23 = .ok (.iinc 1 1, 3) := by decide +kernel
theorem dX9_isSymbol_26 : decode cX9_isSymbol 26 = .ok (.goto (-24), 3) := by decide +kernel
theorem dX9_isSymbol_29 : decode cX9_isSymbol 29 = .ok (.iconst 0, 1) := by decide +kernel
theorem dX9_isSymbol_30 : decode cX9_isSymbol 30 = .ok (.ireturn, 1) := by decide +kernel
/-! signs that are symbols; words that are keywords -/
theorem str_sy : strN 16 = syms := rfl
theorem str_sl : (strN 16).length = 13 := rfl
section Sw
variable {G : Gp} {S : AMem} {I : Nat → Nat → Int32} {J : Nat → Nat → Int64} {R : Nat → Nat → Option Nat} {Z : StA} {i j y : Nat}
theorem k_X9_isSymbol {c : Int32} (hG : okG G) (hZ : KS G Z) : Fn G mX9_isSymbol 4 [vI c] (mw S I J R) (fun rr M1 => rr = some (vI (bI (c ∈ syms))) ∧ M1 = mw S I J R) := by
  have le := k_length (S := S) (I := I) (J := J) (R := R) (i := 16) hG hZ (by decide)
  rw [str_sl] at le
  refine am_iconst (q := 1) (v := 0) dX9_isSymbol_0 kc_i0 rfl ?_
  refine am_istore_n (q := 2) (ls1 := [_, _]) dX9_isSymbol_1 (Nat.le_of_ble_eq_true rfl) rfl rfl ?_
  refine k_loop (σ := Unit) (n := 13) (Inv := fun l _ => c ∉ syms.take l) (W := fun l _ => MW G mX9_isSymbol 4 2 [some (vI c), some (vI (nI l))] [] (mw S I J R) _) ?_ ?_ 0 () (Nat.zero_le _) (fun q => by cases q)
  · intro l _ hl hinv ih
    have ch := k_charAt (S := S) (I := I) (J := J) (R := R) (i := 16) (j := l) hG hZ (by decide) (by rw [str_sl]; exact hl)
    rw [str_sy] at ch
    have tk : syms.take (l + 1) = syms.take l ++ [syms.getD l 0] := by
      rw [List.take_add_one, List.getD_eq_getElem?_getD]
      congr 1
      rw [List.getElem?_eq_getElem (show l < syms.length from hl)]
      rfl
    have hm : syms.getD l 0 ∈ syms := by
      rw [List.getD_eq_getElem?_getD, List.getElem?_eq_getElem (show l < syms.length from hl)]
      exact List.getElem_mem _
    generalize syms.getD l 0 = b at ch tk hm
    refine am_iload_n (q := 3) dX9_isSymbol_2 rfl rfl ?_
    refine am_ldcS (q := 5) dX9_isSymbol_3 rfl (hZ.li (i := 16) (by decide)) rfl ?_
    refine am_callO (q := 8) (As := []) hG dX9_isSymbol_5 mlX9_91 rfl (hZ.O (i := 16) (by decide)) (Nat.le_of_ble_eq_true rfl) (Nat.le_of_ble_eq_true rfl) (Nat.le_of_ble_eq_true rfl) le rfl ?_
    rintro _ _ ⟨rfl, rfl⟩
    refine am_icmp_ge (tgt := 29) (q := 11) dX9_isSymbol_8 rfl rfl (fun hz => absurd hz (nI_ge hl (by decide))) (fun _ => ?_)
    refine am_ldcS (q := 13) dX9_isSymbol_11 rfl (hZ.li (i := 16) (by decide)) rfl ?_
    refine am_iload_n (q := 14) dX9_isSymbol_13 rfl rfl ?_
    refine am_callO (q := 17) (As := [_]) hG dX9_isSymbol_14 mlX9_96 rfl (hZ.O (i := 16) (by decide)) (Nat.le_of_ble_eq_true rfl) (Nat.le_of_ble_eq_true rfl) (Nat.le_of_ble_eq_true rfl) ch rfl ?_
    rintro _ _ ⟨rfl, rfl⟩
    refine am_iload_n (q := 18) dX9_isSymbol_17 rfl rfl ?_
    by_cases e : b = c
    · subst e
      rw [bI_t hm]
      refine am_icmp_ne (tgt := 23) (q := 21) dX9_isSymbol_18 rfl rfl (fun hz => absurd rfl hz) (fun _ => ?_)
      refine am_iconst (q := 22) (v := 1) dX9_isSymbol_21 kc_i1 rfl ?_
      exact am_iret dX9_isSymbol_22 rfl rfl ⟨_, rfl, rfl, rfl⟩
    · refine am_icmp_ne (tgt := 23) (q := 21) dX9_isSymbol_18 rfl rfl (fun _ => ?_) (fun hz => absurd hz e)
      refine am_iincW (q := 26) (ls1 := [_, _]) (w := 1) dX9_isSymbol_23 rfl (Nat.le_of_ble_eq_true rfl) kc_i1 rfl rfl ?_
      refine am_goto (tgt := 2) dX9_isSymbol_26 rfl ?_
      rw [nI_1]
      refine ih () ?_
      rw [tk]
      intro q
      rcases List.mem_append.mp q with q | q
      · exact hinv q
      · exact e (List.mem_singleton.mp q).symm
  · intro _ hinv
    rw [bI_f (show ¬ c ∈ syms from hinv)]
    refine am_iload_n (q := 3) dX9_isSymbol_2 rfl rfl ?_
    refine am_ldcS (q := 5) dX9_isSymbol_3 rfl (hZ.li (i := 16) (by decide)) rfl ?_
    refine am_callO (q := 8) (As := []) hG dX9_isSymbol_5 mlX9_91 rfl (hZ.O (i := 16) (by decide)) (Nat.le_of_ble_eq_true rfl) (Nat.le_of_ble_eq_true rfl) (Nat.le_of_ble_eq_true rfl) le rfl ?_
    rintro _ _ ⟨rfl, rfl⟩
    refine am_icmp_ge (tgt := 29) (q := 11) dX9_isSymbol_8 rfl rfl (fun _ => ?_) (fun hz => absurd (Int32.le_refl _) hz)
    refine am_iconst (q := 30) (v := 0) dX9_isSymbol_29 kc_i0 rfl ?_
    exact am_iret dX9_isSymbol_30 rfl rfl ⟨_, rfl, rfl, rfl⟩
end Sw

