theorem dX14_isWord_0 : decode cX14_isWord 0 = .ok (.aload_n 3, 1) := by decide +kernel
theorem dX14_isWord_1 : decode cX14_isWord 1 = .ok (.invokevirtual 104, 3) := by decide +kernel
theorem dX14_isWord_4 : decode cX14_isWord 4 = .ok (.iload_n 2, 1) := by decide +kernel
theorem dX14_isWord_5 : decode cX14_isWord 5 = .ok (.if_icmp .eq 5, 3) := by decide +kernel
theorem dX14_isWord_8 : decode cX14_isWord 8 = .ok (.iconst 0, 1) := by decide +kernel
theorem dX14_isWord_9 : decode cX14_isWord 9 = .ok (.ireturn, 1) := by decide +kernel
theorem dX14_isWord_10 : decode cX14_isWord 10 = .ok (.iconst 0, 1) := by decide +kernel
theorem dX14_isWord_11 : decode cX14_isWord 11 = .ok (.istore 4, 2) := by decide +kernel
theorem dX14_isWord_13 : decode cX14_isWord 13 = .ok (.iload 4, 2) := by decide +kernel
theorem dX14_isWord_15 : decode cX14_isWord 15 = .ok (.iload_n 2, 1) := by decide +kernel
theorem dX14_isWord_16 : decode cX14_isWord 16 = .ok (.if_icmp .ge 29, 3) := by decide +kernel
theorem dX14_isWord_19 : decode cX14_isWord 19 = .ok (.aload_n 0, 1) := by decide +kernel
theorem dX14_isWord_20 : decode cX14_isWord 20 = .ok (.getfield 9, 3) := by decide +kernel
theorem dX14_isWord_23 : decode cX14_isWord 23 = .ok (.iload_n 1, 1) := by decide +kernel
theorem dX14_isWord_24 : decode cX14_isWord 24 = .ok (.iload 4, 2) := by decide +kernel
theorem dX14_isWord_26 : decode cX14_isWord 26 = .ok (.iadd, 1) := by decide +kernel
theorem dX14_isWord_27 : decode cX14_isWord 27 = .ok (.iaload, 1) := by decide +kernel
theorem dX14_isWord_28 : decode cX14_isWord 28 = .ok (.aload_n 3, 1) := by decide +kernel
theorem dX14_isWord_29 : decode cX14_isWord 29 = .ok (.iload 4, 2) := by decide +kernel
theorem dX14_isWord_31 : decode cX14_isWord 31 = .ok (.invokevirtual 109, 3) := by decide +kernel
theorem dX14_isWord_34 : decode cX14_isWord 34 = .ok (.if_icmp .eq 5, 3) := by decide +kernel
theorem dX14_isWord_37 : decode cX14_isWord 37 = .ok (.iconst 0, 1) := by decide +kernel
theorem dX14_isWord_38 : decode cX14_isWord 38 = .ok (.ireturn, 1) := by decide +kernel
theorem dX14_isWord_39 : decode cX14_isWord 39 = .ok (.iinc 4 1, 3) := by decide +kernel
theorem dX14_isWord_42 : decode cX14_isWord 42 = .ok (.goto (-29), 3) := by decide +kernel
theorem dX14_isWord_45 : decode cX14_isWord 45 = .ok (.iconst 1, 1) := by decide +kernel
theorem dX14_isWord_46 : decode cX14_isWord 46 = .ok (.ireturn, 1) := by decide +kernel
theorem dX9_isSymbol_0 : decode cX9_isSymbol 0 = .ok (.iconst 0, 1) := by decide +kernel
theorem dX9_isSymbol_1 : decode cX9_isSymbol 1 = .ok (.istore_n 1, 1) := by decide +kernel
theorem dX9_isSymbol_2 : decode cX9_isSymbol 2 = .ok (.iload_n 1, 1) := by decide +kernel
theorem dX9_isSymbol_3 : decode cX9_isSymbol 3 = .ok (.ldc 102, 2) := by decide +kernel
theorem dX9_isSymbol_5 : decode cX9_isSymbol 5 = .ok (.invokevirtual 91, 3) := by decide +kernel
theorem dX9_isSymbol_8 : decode cX9_isSymbol 8 = .ok (.if_icmp .ge 21, 3) := by decide +kernel
theorem dX9_isSymbol_11 : decode cX9_isSymbol 11 = .ok (.ldc 102, 2) := by decide +kernel
theorem dX9_isSymbol_13 : decode cX9_isSymbol 13 = .ok (.iload_n 1, 1) := by decide +kernel
theorem dX9_isSymbol_14 : decode cX9_isSymbol 14 = .ok (.invokevirtual 96, 3) := by decide +kernel
theorem dX9_isSymbol_17 : decode cX9_isSymbol 17 = .ok (.iload_n 0, 1) := by decide +kernel
theorem dX9_isSymbol_18 : decode cX9_isSymbol 18 = .ok (.if_icmp .ne 5, 3) := by decide +kernel
theorem dX9_isSymbol_21 : decode cX9_isSymbol 21 = .ok (.iconst 1, 1) := by decide +kernel
theorem dX9_isSymbol_22 : decode cX9_isSymbol 22 = .ok (.ireturn, 1) := by decide +kernel
theorem dX9_isSymbol_23 : decode cX9_isSymbol 23 = .ok (.iinc 1 1, 3) := by decide +kernel
theorem dX9_isSymbol_26 : decode cX9_isSymbol 26 = .ok (.goto (-24), 3) := by decide +kernel
theorem dX9_isSymbol_29 : decode cX9_isSymbol 29 = .ok (.iconst 0, 1) := by decide +kernel
theorem dX9_isSymbol_30 : decode cX9_isSymbol 30 = .ok (.ireturn, 1) := by decide +kernel
/-! signs that are symbols; words that are keywords -/
theorem str_sy : strN 33 = syms := rfl
theorem str_sl : (strN 33).length = 13 := rfl
section Sw
variable {G : Gp} {S : AMem} {I : Nat → Nat → Int32} {J : Nat → Nat → Int64} {R : Nat → Nat → Option Nat} {Z : StA} {i j y : Nat}
theorem k_X9_isSymbol {c : Int32} (hG : okG G) (hZ : KS G Z) : Fn G mX9_isSymbol 4 [vI c] (mw S I J R) (fun rr M1 => rr = some (vI (bI (c ∈ syms))) ∧ M1 = mw S I J R) := by
  have le := k_length (S := S) (I := I) (J := J) (R := R) (i := 33) hG hZ (by decide)
  rw [str_sl] at le
  refine am_iconst (q := 1) (v := 0) dX9_isSymbol_0 kc_i0 rfl ?_
  refine am_istore_n (q := 2) (ls1 := [_, _]) dX9_isSymbol_1 (Nat.le_of_ble_eq_true rfl) rfl rfl ?_
  refine k_loop (σ := Unit) (n := 13) (Inv := fun l _ => c ∉ syms.take l) (W := fun l _ => MW G mX9_isSymbol 4 2 [some (vI c), some (vI (nI l))] [] (mw S I J R) _) ?_ ?_ 0 () (Nat.zero_le _) (fun q => by cases q)
  · intro l _ hl hinv ih
    have ch := k_charAt (S := S) (I := I) (J := J) (R := R) (i := 33) (j := l) hG hZ (by decide) (by rw [str_sl]; exact hl)
    rw [str_sy] at ch
    have tk : syms.take (l + 1) = syms.take l ++ [syms.getD l 0] := by
      rw [List.take_add_one, List.getD_eq_getElem?_getD]
      congr 1
      rw [List.getElem?_eq_getElem (show l < syms.length from hl)]
      rfl
    have hm : syms.getD l 0 ∈ syms := by
      rw [List.getD_eq_getElem?_getD, List.getElem?_eq_getElem (show l < syms.length from hl)]
      exact List.getElem_mem _
    generalize syms.getD l 0 = b at ch tk hm
    refine am_iload_n (q := 3) dX9_isSymbol_2 rfl rfl ?_
    refine am_ldcS (q := 5) dX9_isSymbol_3 rfl (hZ.li (i := 33) (by decide)) rfl ?_
    refine am_callO (q := 8) (As := []) hG dX9_isSymbol_5 mlX9_91 rfl (hZ.O (i := 33) (by decide)) (Nat.le_of_ble_eq_true rfl) (Nat.le_of_ble_eq_true rfl) (Nat.le_of_ble_eq_true rfl) le rfl ?_
    rintro _ _ ⟨rfl, rfl⟩
    refine am_icmp_ge (tgt := 29) (q := 11) dX9_isSymbol_8 rfl rfl (fun hz => absurd hz (nI_ge hl (by decide))) (fun _ => ?_)
    refine am_ldcS (q := 13) dX9_isSymbol_11 rfl (hZ.li (i := 33) (by decide)) rfl ?_
    refine am_iload_n (q := 14) dX9_isSymbol_13 rfl rfl ?_
    refine am_callO (q := 17) (As := [_]) hG dX9_isSymbol_14 mlX9_96 rfl (hZ.O (i := 33) (by decide)) (Nat.le_of_ble_eq_true rfl) (Nat.le_of_ble_eq_true rfl) (Nat.le_of_ble_eq_true rfl) ch rfl ?_
    rintro _ _ ⟨rfl, rfl⟩
    refine am_iload_n (q := 18) dX9_isSymbol_17 rfl rfl ?_
    by_cases e : b = c
    · subst e
      rw [bI_t hm]
      refine am_icmp_ne (tgt := 23) (q := 21) dX9_isSymbol_18 rfl rfl (fun hz => absurd rfl hz) (fun _ => ?_)
      refine am_iconst (q := 22) (v := 1) dX9_isSymbol_21 kc_i1 rfl ?_
      exact am_iret dX9_isSymbol_22 rfl rfl ⟨_, rfl, rfl, rfl⟩
    · refine am_icmp_ne (tgt := 23) (q := 21) dX9_isSymbol_18 rfl rfl (fun _ => ?_) (fun hz => absurd hz e)
      refine am_iincW (q := 26) (ls1 := [_, _]) (w := 1) dX9_isSymbol_23 rfl (Nat.le_of_ble_eq_true rfl) kc_i1 rfl rfl ?_
      refine am_goto (tgt := 2) dX9_isSymbol_26 rfl ?_
      rw [nI_1]
      refine ih () ?_
      rw [tk]
      intro q
      rcases List.mem_append.mp q with q | q
      · exact hinv q
      · exact e (List.mem_singleton.mp q).symm
  · intro _ hinv
    rw [bI_f (show ¬ c ∈ syms from hinv)]
    refine am_iload_n (q := 3) dX9_isSymbol_2 rfl rfl ?_
    refine am_ldcS (q := 5) dX9_isSymbol_3 rfl (hZ.li (i := 33) (by decide)) rfl ?_
    refine am_callO (q := 8) (As := []) hG dX9_isSymbol_5 mlX9_91 rfl (hZ.O (i := 33) (by decide)) (Nat.le_of_ble_eq_true rfl) (Nat.le_of_ble_eq_true rfl) (Nat.le_of_ble_eq_true rfl) le rfl ?_
    rintro _ _ ⟨rfl, rfl⟩
    refine am_icmp_ge (tgt := 29) (q := 11) dX9_isSymbol_8 rfl rfl (fun _ => ?_) (fun hz => absurd (Int32.le_refl _) hz)
    refine am_iconst (q := 30) (v := 0) dX9_isSymbol_29 kc_i0 rfl ?_
    exact am_iret dX9_isSymbol_30 rfl rfl ⟨_, rfl, rfl, rfl⟩
/-- the n signs of the tape from a on are the text i -/
def isWd (I : Nat → Nat → Int32) (y a n i : Nat) : Prop := (strN i).length = n ∧ ∀ l, l < n → I (y + 1) (a + l) = (strN i).getD l 0
theorem k_X14_isWord {a n : Nat} (hG : okG G) (hZ : KS G Z) (ky : S.K y = 15) (r1 : R y 1 = some (y + 1)) (k1 : S.K (y + 1) = 20) (l1 : S.ln (y + 1) = 2000) (hi : i < 34) (h : a + n ≤ 2000) : Fn G mX14_isWord 4 [vR y, vI (nI a), vI (nI n), vR (Z.k i)] (mw S I J R) (fun rr M1 => ∃ b : Int32, rr = some (vI b) ∧ (b ≠ 0 ↔ isWd I y a n i) ∧ M1 = mw S I J R) := by
  have hl := (str_asc i hi).1
  have le := k_length (S := S) (I := I) (J := J) (R := R) hG hZ hi
  refine am_aload_n (q := 1) dX14_isWord_0 rfl rfl ?_
  refine am_callO (q := 4) (As := []) hG dX14_isWord_1 mlX14_104 rfl (hZ.O hi) (Nat.le_of_ble_eq_true rfl) (Nat.le_of_ble_eq_true rfl) (Nat.le_of_ble_eq_true rfl) le rfl ?_
  rintro _ _ ⟨rfl, rfl⟩
  refine am_iload_n (q := 5) dX14_isWord_4 rfl rfl ?_
  by_cases e : (strN i).length = n
  · refine am_icmp_eq (tgt := 10) (q := 8) dX14_isWord_5 rfl rfl (fun _ => ?_) (fun hz => absurd (by rw [e]) hz)
    refine am_iconst (q := 11) (v := 0) dX14_isWord_10 kc_i0 rfl ?_
    refine am_istore (q := 13) (ls1 := [_, _, _, _, _]) dX14_isWord_11 (Nat.le_of_ble_eq_true rfl) rfl rfl ?_
    refine k_loop (σ := Unit) (n := n) (Inv := fun l _ => ∀ l', l' < l → I (y + 1) (a + l') = (strN i).getD l' 0) (W := fun l _ => MW G mX14_isWord 4 13 [some (vR y), some (vI (nI a)), some (vI (nI n)), some (vR (Z.k i)), some (vI (nI l))] [] (mw S I J R) _) ?_ ?_ 0 () (Nat.zero_le _) (fun l' h' => absurd h' (Nat.not_lt_zero _))
    · intro l _ hln hinv ih
      have ch := k_charAt (S := S) (I := I) (J := J) (R := R) (j := l) hG hZ hi (by omega)
      refine am_iload (q := 15) dX14_isWord_13 rfl rfl ?_
      refine am_iload_n (q := 16) dX14_isWord_15 rfl rfl ?_
      refine am_icmp_ge (tgt := 45) (q := 19) dX14_isWord_16 rfl rfl (fun hz => absurd hz (nI_ge hln (by omega))) (fun _ => ?_)
      refine am_aload_n (q := 20) dX14_isWord_19 rfl rfl ?_
      refine cm_getR (q := 23) dX14_isWord_20 flX14_9 rfl (by assumption) (by assumption) rfl ?_
      refine am_iload_n (q := 24) dX14_isWord_23 rfl rfl ?_
      refine am_iload (q := 26) dX14_isWord_24 rfl rfl ?_
      refine am_iadd (q := 27) dX14_isWord_26 rfl ?_
      rw [show nI a + nI l = nI (a + l) from nI_add a l]
      refine cm_iaload (q := 28) dX14_isWord_27 (by assumption) (by rw [l1]; exact vp_in_nI (by omega) (by decide)) rfl ?_
      rw [nI_clamp (show a + l < 2 ^ 31 by omega)]
      refine am_aload_n (q := 29) dX14_isWord_28 rfl rfl ?_
      refine am_iload (q := 31) dX14_isWord_29 rfl rfl ?_
      refine am_callO (q := 34) (As := [_]) hG dX14_isWord_31 mlX14_109 rfl (hZ.O hi) (Nat.le_of_ble_eq_true rfl) (Nat.le_of_ble_eq_true rfl) (Nat.le_of_ble_eq_true rfl) ch rfl ?_
      rintro _ _ ⟨rfl, rfl⟩
      by_cases c : I (y + 1) (a + l) = (strN i).getD l 0
      · refine am_icmp_eq (tgt := 39) (q := 37) dX14_isWord_34 rfl rfl (fun _ => ?_) (fun hz => absurd c hz)
        refine am_iincW (q := 42) (ls1 := [_, _, _, _, _]) (w := 1) dX14_isWord_39 rfl (Nat.le_of_ble_eq_true rfl) kc_i1 rfl rfl ?_
        refine am_goto (tgt := 13) dX14_isWord_42 rfl ?_
        rw [nI_1]
        refine ih () (fun l' h' => ?_)
        by_cases z : l' = l
        · rw [z]
          exact c
        · exact hinv l' (by omega)
      · have no : ¬ isWd I y a n i := fun q => c (q.2 l hln)
        refine am_icmp_eq (tgt := 39) (q := 37) dX14_isWord_34 rfl rfl (fun hz => absurd hz c) (fun _ => ?_)
        refine am_iconst (q := 38) (v := 0) dX14_isWord_37 kc_i0 rfl ?_
        exact am_iret dX14_isWord_38 rfl rfl ⟨_, rfl, 0, rfl, ⟨fun q => absurd rfl q, fun q => absurd q no⟩, rfl⟩
    · intro _ hinv
      have yes : isWd I y a n i := ⟨e, hinv⟩
      clear e
      refine am_iload (q := 15) dX14_isWord_13 rfl rfl ?_
      refine am_iload_n (q := 16) dX14_isWord_15 rfl rfl ?_
      refine am_icmp_ge (tgt := 45) (q := 19) dX14_isWord_16 rfl rfl (fun _ => ?_) (fun hz => absurd (Int32.le_refl _) hz)
      refine am_iconst (q := 46) (v := 1) dX14_isWord_45 kc_i1 rfl ?_
      exact am_iret dX14_isWord_46 rfl rfl ⟨_, rfl, 1, rfl, ⟨fun _ => yes, fun _ => by decide⟩, rfl⟩
  · have no : ¬ isWd I y a n i := fun q => e q.1
    refine am_icmp_eq (tgt := 10) (q := 8) dX14_isWord_5 rfl rfl (fun hz => absurd hz (fun q => e ((nI_eq (by omega) (by omega)).mp q))) (fun _ => ?_)
    refine am_iconst (q := 9) (v := 0) dX14_isWord_8 kc_i0 rfl ?_
    exact am_iret dX14_isWord_9 rfl rfl ⟨_, rfl, 0, rfl, ⟨fun q => absurd rfl q, fun q => absurd q no⟩, rfl⟩
end Sw

