theorem kc_s401 : (Int16.ofInt 401).toInt32 = 401 := by decide +kernel
theorem dX9_codesOf_0 : decode cX9_codesOf 0 = .ok (.bipush 32, 2) := by decide +kernel
theorem dX9_codesOf_2 : decode cX9_codesOf 2 = .ok (.newarray .long, 2) := by decide +kernel
theorem dX9_codesOf_4 : decode cX9_codesOf 4 = .ok (.astore_n 1, 1) := by decide +kernel
theorem dX9_codesOf_5 : decode cX9_codesOf 5 = .ok (.iconst 0, 1) := by decide +kernel
theorem dX9_codesOf_6 : decode cX9_codesOf 6 = .ok (.istore_n 2, 1) := by decide +kernel
theorem dX9_codesOf_7 : decode cX9_codesOf 7 = .ok (.lconst 0, 1) := by decide +kernel
theorem dX9_codesOf_8 : decode cX9_codesOf 8 = .ok (.lstore_n 3, 1) := by decide +kernel
theorem dX9_codesOf_9 : decode cX9_codesOf 9 = .ok (.iconst 0, 1) := by decide +kernel
theorem dX9_codesOf_10 : decode cX9_codesOf 10 = .ok (.istore 5, 2) := by decide +kernel
theorem dX9_codesOf_12 : decode cX9_codesOf 12 = .ok (.iload 5, 2) := by decide +kernel
theorem dX9_codesOf_14 : decode cX9_codesOf 14 = .ok (.aload_n 0, 1) := by decide +kernel
theorem dX9_codesOf_15 : decode cX9_codesOf 15 = .ok (.invokevirtual 91, 3) := by decide +kernel
theorem dX9_codesOf_18 : decode cX9_codesOf 18 = .ok (.if_icmp .ge 49, 3) := by decide +kernel
theorem dX9_codesOf_21 : decode cX9_codesOf 21 = .ok (.aload_n 0, 1) := by decide +kernel
theorem dX9_codesOf_22 : decode cX9_codesOf 22 = .ok (.iload 5, 2) := by decide +kernel
theorem dX9_codesOf_24 : decode cX9_codesOf 24 = .ok (.invokevirtual 96, 3) := by decide +kernel
theorem dX9_codesOf_27 : decode cX9_codesOf 27 = .ok (.istore 6, 2) := by decide +kernel
theorem dX9_codesOf_29 : decode cX9_codesOf 29 = .ok (.iload 6, 2) := by decide +kernel
theorem dX9_codesOf_31 : decode cX9_codesOf 31 = .ok (.bipush 32, 2) := by decide +kernel
theorem dX9_codesOf_33 : decode cX9_codesOf 33 = .ok (.if_icmp .eq 13, 3) := by decide +kernel
theorem dX9_codesOf_36 : decode cX9_codesOf 36 = .ok (.lload_n 3, 1) := by decide +kernel
theorem dX9_codesOf_37 : decode cX9_codesOf 37 = .ok (.iload 6, 2) := by decide +kernel
theorem dX9_codesOf_39 : decode cX9_codesOf 39 = .ok (.invokestatic 78, 3) := by decide +kernel
theorem dX9_codesOf_42 : decode cX9_codesOf 42 = .ok (.lstore_n 3, 1) := by decide +kernel
theorem dX9_codesOf_43 : decode cX9_codesOf 43 = .ok (.goto 18, 3) := by decide +kernel
theorem dX9_codesOf_46 : decode cX9_codesOf 46 = .ok (.iload_n 2, 1) := by decide +kernel
theorem dX9_codesOf_47 : decode cX9_codesOf 47 = .ok (.aload_n 1, 1) := by decide +kernel
theorem dX9_codesOf_48 : decode cX9_codesOf 48 = .ok (.arraylength, 1) := by decide +kernel
theorem dX9_codesOf_49 : decode cX9_codesOf 49 = .ok (.if_icmp .ge 12, 3) := by decide +kernel
theorem dX9_codesOf_52 : decode cX9_codesOf 52 = .ok (.aload_n 1, 1) := by decide +kernel
theorem dX9_codesOf_53 : decode cX9_codesOf 53 = .ok (.iload_n 2, 1) := by decide +kernel
theorem dX9_codesOf_54 : decode cX9_codesOf 54 = .ok (.lload_n 3, 1) := by decide +kernel
theorem dX9_codesOf_55 : decode cX9_codesOf 55 = .ok (.lastore, 1) := by decide +kernel
theorem dX9_codesOf_56 : decode cX9_codesOf 56 = .ok (.iinc 2 1, 3) := by decide +kernel
theorem dX9_codesOf_59 : decode cX9_codesOf 59 = .ok (.lconst 0, 1) := by decide +kernel
theorem dX9_codesOf_60 : decode cX9_codesOf 60 = .ok (.lstore_n 3, 1) := by decide +kernel
theorem dX9_codesOf_61 : decode cX9_codesOf 61 = .ok (.iinc 5 1, 3) := by decide +kernel
theorem dX9_codesOf_64 : decode cX9_codesOf 64 = .ok (.goto (-52), 3) := by decide +kernel
theorem dX9_codesOf_67 : decode cX9_codesOf 67 = .ok (.aload_n 1, 1) := by decide +kernel
theorem dX9_codesOf_68 : decode cX9_codesOf 68 = .ok (.areturn, 1) := by decide +kernel
theorem dX9_init_0 : decode cX9_init 0 = .ok (.aload_n 0, 1) := by decide +kernel
theorem dX9_init_1 : decode cX9_init 1 = .ok (.invokespecial 3, 3) := by decide +kernel
theorem dX9_init_4 : decode cX9_init 4 = .ok (.aload_n 0, 1) := by decide +kernel
theorem dX9_init_5 : decode cX9_init 5 = .ok (.sipush 401, 3) := by decide +kernel
theorem dX9_init_8 : decode cX9_init 8 = .ok (.newarray .int, 2) := by decide +kernel
theorem dX9_init_10 : decode cX9_init 10 = .ok (.putfield 11, 3) := by decide +kernel
theorem dX9_init_13 : decode cX9_init 13 = .ok (.aload_n 0, 1) := by decide +kernel
theorem dX9_init_14 : decode cX9_init 14 = .ok (.sipush 401, 3) := by decide +kernel
theorem dX9_init_17 : decode cX9_init 17 = .ok (.newarray .int, 2) := by decide +kernel
theorem dX9_init_19 : decode cX9_init 19 = .ok (.putfield 15, 3) := by decide +kernel
theorem dX9_init_22 : decode cX9_init 22 = .ok (.aload_n 0, 1) := by decide +kernel
theorem dX9_init_23 : decode cX9_init 23 = .ok (.sipush 401, 3) := by decide +kernel
theorem dX9_init_26 : decode cX9_init 26 = .ok (.newarray .long, 2) := by decide +kernel
theorem dX9_init_28 : decode cX9_init 28 = .ok (.putfield 18, 3) := by decide +kernel
theorem dX9_init_31 : decode cX9_init 31 = .ok (.aload_n 0, 1) := by decide +kernel
theorem dX9_init_32 : decode cX9_init 32 = .ok (.ldc 22, 2) := by decide +kernel
theorem dX9_init_34 : decode cX9_init 34 = .ok (.invokestatic 24, 3) := by decide +kernel
theorem dX9_init_37 : decode cX9_init 37 = .ok (.putfield 28, 3) := by decide +kernel
theorem dX9_init_40 : decode cX9_init 40 = .ok (.return_, 1) := by decide +kernel
/-! the constructors of the class: tokens, with the keywords' codes -/
/-- the codes of the words that end before the sign i of the text of keywords, and the code of the word that is open there -/
def kcT : Nat → List Int64 × Int64
  | 0 => ([], 0)
  | i + 1 => if (strN 15).getD i 0 = 32 then ((kcT i).1 ++ [(kcT i).2], 0) else ((kcT i).1, sgC (kcT i).2 ((strN 15).getD i 0))
theorem kc_len : (strN 15).length = 154 := by decide +kernel
theorem kc_w : ∀ i, i < 154 → (strN 15).getD i 0 = 32 → (kcT i).1.length < 32 := by decide +kernel
theorem kc_end : (kcT 154).1.length = 32 ∧ ∀ w, w < 32 → (kcT 154).1.getD w 0 = kwK w := by decide +kernel
section Ck
variable {G : Gp} {S : AMem} {I : Nat → Nat → Int32} {J : Nat → Nat → Int64} {R : Nat → Nat → Option Nat} {Z : StA} {a : Nat}
theorem k_X9_codesOf (hG : okG G) (hZ : KS G Z) (hF : Fr S I J R) : Fn G mX9_codesOf 4 [vR (Z.k 15)] (mw S I J R) (fun rr M1 => rr = some (vR S.hs) ∧ ∃ J1, M1 = mw (gS S [(21, 32)]) I J1 R ∧ (∀ w, w < 32 → J1 S.hs w = kwK w) ∧ ∀ x j, x ≠ S.hs → J1 x j = J x j) := by
  refine am_bipush (q := 2) (v := 32) dX9_codesOf_0 kc_b32 rfl ?_
  refine cm_mkJ (n := 32) (q := 4) hF dX9_codesOf_2 (by decide) rfl (Nat.le_of_ble_eq_true rfl) rfl ?_
  have kN : (S.nw 21 32).K S.hs = 21 := nw_Kn
  have lN : (S.nw 21 32).ln S.hs = 32 := nw_ln'
  show MW G mX9_codesOf 4 4 _ _ (mw (S.nw 21 32) I J R) (fun f M1 => ∃ r, f = .inl r ∧ (r = some (vR S.hs) ∧ ∃ J1, M1 = mw (S.nw 21 32) I J1 R ∧ (∀ w, w < 32 → J1 S.hs w = kwK w) ∧ ∀ x j, x ≠ S.hs → J1 x j = J x j))
  clear hF
  generalize S.nw 21 32 = S1 at kN lN ⊢
  generalize S.hs = h at kN lN ⊢
  refine am_astore_n (q := 5) (ls1 := [_, _, _, _, _, _, _]) dX9_codesOf_4 (Nat.le_of_ble_eq_true rfl) rfl rfl ?_
  refine am_iconst (q := 6) (v := 0) dX9_codesOf_5 kc_i0 rfl ?_
  refine am_istore_n (q := 7) (ls1 := [_, _, _, _, _, _, _]) dX9_codesOf_6 (Nat.le_of_ble_eq_true rfl) rfl rfl ?_
  refine am_lconst (q := 8) (v := 0) dX9_codesOf_7 rfl rfl ?_
  refine am_lstore_n (q := 9) (ls1 := [_, _, _, _, _, _, _]) dX9_codesOf_8 (Nat.le_of_ble_eq_true rfl) rfl rfl ?_
  refine am_iconst (q := 10) (v := 0) dX9_codesOf_9 kc_i0 rfl ?_
  refine am_istore (q := 12) (ls1 := [_, _, _, _, _, _, _]) dX9_codesOf_10 (Nat.le_of_ble_eq_true rfl) rfl rfl ?_
  have le := fun (J2 : Nat → Nat → Int64) => k_length (S := S1) (I := I) (J := J2) (R := R) (i := 15) hG hZ (by decide)
  rw [kc_len] at le
  refine k_loop (σ := (Nat → Nat → Int64) × Option AV) (n := 154) (Inv := fun i s => (kcT i).1.length ≤ 32 ∧ (∀ w, w < (kcT i).1.length → s.1 h w = (kcT i).1.getD w 0) ∧ ∀ x j, x ≠ h → s.1 x j = J x j) (W := fun i s => MW G mX9_codesOf 4 12 [some (vR (Z.k 15)), some (vR h), some (vI (nI (kcT i).1.length)), some (vJ (kcT i).2), none, some (vI (nI i)), s.2] [] (mw S1 I s.1 R) _) ?_ ?_ 0 (J, none) (Nat.zero_le _) ⟨Nat.zero_le _, fun w hw => absurd hw (Nat.not_lt_zero w), fun _ _ _ => rfl⟩
  · rintro i ⟨J2, o⟩ hi ⟨v0, v1, v2⟩ ih
    have ch := k_charAt (S := S1) (I := I) (J := J2) (R := R) (i := 15) (j := i) hG hZ (by decide) (by rw [kc_len]; exact hi)
    have le2 := le J2
    have kw := kc_w i hi
    have ex : kcT (i + 1) = if (strN 15).getD i 0 = 32 then ((kcT i).1 ++ [(kcT i).2], 0) else ((kcT i).1, sgC (kcT i).2 ((strN 15).getD i 0)) := rfl
    by_cases c : (strN 15).getD i 0 = 32
    · rw [if_pos c] at ex
      have lt := kw c
      have nx := ih (up2 J2 h (kcT i).1.length (kcT i).2, some (vI 32)) (by
        rw [ex]
        refine ⟨by simp; omega, fun w hw => ?_, fun x j q => by show up2 _ _ _ _ _ _ = _; rw [up2_a q]; exact v2 x j q⟩
        show up2 J2 h (kcT i).1.length (kcT i).2 h w = _
        rw [up2_at]
        have hw2 : w < (kcT i).1.length + 1 := by simpa using hw
        by_cases z : w = (kcT i).1.length
        · rw [if_pos ⟨rfl, z⟩, z]
          simp
        · rw [if_neg (fun q => z q.2), show J2 h w = _ from v1 w (by omega)]
          simp [List.getD, List.getElem?_append_left (show w < (kcT i).1.length by omega)])
      rw [ex] at nx
      have ll : ((kcT i).1 ++ [(kcT i).2]).length = (kcT i).1.length + 1 := by simp
      rw [c] at ch
      clear ih kw c
      dsimp only at nx ⊢
      rw [ll] at nx
      clear ex ll v1 v0
      generalize (kcT i).1.length = n at lt nx ⊢
      generalize (kcT i).2 = v at nx ⊢
      refine am_iload (q := 14) dX9_codesOf_12 rfl rfl ?_
      refine am_aload_n (q := 15) dX9_codesOf_14 rfl rfl ?_
      refine am_callO (q := 18) (As := []) hG dX9_codesOf_15 mlX9_91 rfl (hZ.O (i := 15) (by decide)) (Nat.le_of_ble_eq_true rfl) (Nat.le_of_ble_eq_true rfl) (Nat.le_of_ble_eq_true rfl) le2 rfl ?_
      rintro _ _ ⟨rfl, rfl⟩
      refine am_icmp_ge (tgt := 67) (q := 21) dX9_codesOf_18 rfl rfl (fun hz => absurd hz (nI_ge hi (by decide))) (fun _ => ?_)
      refine am_aload_n (q := 22) dX9_codesOf_21 rfl rfl ?_
      refine am_iload (q := 24) dX9_codesOf_22 rfl rfl ?_
      refine am_callO (q := 27) (As := [_]) hG dX9_codesOf_24 mlX9_96 rfl (hZ.O (i := 15) (by decide)) (Nat.le_of_ble_eq_true rfl) (Nat.le_of_ble_eq_true rfl) (Nat.le_of_ble_eq_true rfl) ch rfl ?_
      rintro _ _ ⟨rfl, rfl⟩
      refine am_istore (q := 29) (ls1 := [_, _, _, _, _, _, _]) dX9_codesOf_27 (Nat.le_of_ble_eq_true rfl) rfl rfl ?_
      refine am_iload (q := 31) dX9_codesOf_29 rfl rfl ?_
      refine am_bipush (q := 33) (v := 32) dX9_codesOf_31 kc_b32 rfl ?_
      refine am_icmp_eq (tgt := 46) (q := 36) dX9_codesOf_33 rfl rfl (fun _ => ?_) (fun hz => absurd rfl hz)
      refine am_iload_n (q := 47) dX9_codesOf_46 rfl rfl ?_
      refine am_aload_n (q := 48) dX9_codesOf_47 rfl rfl ?_
      refine cm_alenJ (q := 49) dX9_codesOf_48 (by assumption) (by rw [lN] : nI (S1.ln h) = nI 32) rfl ?_
      refine am_icmp_ge (tgt := 61) (q := 52) dX9_codesOf_49 rfl rfl (fun hz => absurd hz (nI_ge lt (by decide))) (fun _ => ?_)
      refine am_aload_n (q := 53) dX9_codesOf_52 rfl rfl ?_
      refine am_iload_n (q := 54) dX9_codesOf_53 rfl rfl ?_
      refine am_lload_n (q := 55) dX9_codesOf_54 rfl rfl ?_
      refine cm_lastore (q := 56) dX9_codesOf_55 (by assumption) (by rw [lN]; exact vp_in_nI lt (by decide)) rfl ?_
      rw [nI_clamp (show n < 2 ^ 31 by omega)]
      refine am_iincW (q := 59) (ls1 := [_, _, _, _, _, _, _]) (w := 1) dX9_codesOf_56 rfl (Nat.le_of_ble_eq_true rfl) kc_i1 rfl rfl ?_
      refine am_lconst (q := 60) (v := 0) dX9_codesOf_59 rfl rfl ?_
      refine am_lstore_n (q := 61) (ls1 := [_, _, _, _, _, _, _]) dX9_codesOf_60 (Nat.le_of_ble_eq_true rfl) rfl rfl ?_
      refine am_iincW (q := 64) (ls1 := [_, _, _, _, _, _, _]) (w := 1) dX9_codesOf_61 rfl (Nat.le_of_ble_eq_true rfl) kc_i1 rfl rfl ?_
      refine am_goto (tgt := 12) dX9_codesOf_64 rfl ?_
      rw [nI_1, nI_1]
      exact nx
    · rw [if_neg c] at ex
      have nx := ih (J2, some (vI ((strN 15).getD i 0))) (by rw [ex]; exact ⟨v0, v1, v2⟩)
      rw [ex] at nx
      have cz : ¬ (strN 15).getD i 0 = 32 ∧ True := ⟨c, trivial⟩
      clear ih kw c ex v1
      dsimp only at nx ⊢
      generalize (strN 15).getD i 0 = b at ch nx cz ⊢
      generalize (kcT i).1.length = n at nx v0 ⊢
      generalize (kcT i).2 = v at nx ⊢
      refine am_iload (q := 14) dX9_codesOf_12 rfl rfl ?_
      refine am_aload_n (q := 15) dX9_codesOf_14 rfl rfl ?_
      refine am_callO (q := 18) (As := []) hG dX9_codesOf_15 mlX9_91 rfl (hZ.O (i := 15) (by decide)) (Nat.le_of_ble_eq_true rfl) (Nat.le_of_ble_eq_true rfl) (Nat.le_of_ble_eq_true rfl) le2 rfl ?_
      rintro _ _ ⟨rfl, rfl⟩
      refine am_icmp_ge (tgt := 67) (q := 21) dX9_codesOf_18 rfl rfl (fun hz => absurd hz (nI_ge hi (by decide))) (fun _ => ?_)
      refine am_aload_n (q := 22) dX9_codesOf_21 rfl rfl ?_
      refine am_iload (q := 24) dX9_codesOf_22 rfl rfl ?_
      refine am_callO (q := 27) (As := [_]) hG dX9_codesOf_24 mlX9_96 rfl (hZ.O (i := 15) (by decide)) (Nat.le_of_ble_eq_true rfl) (Nat.le_of_ble_eq_true rfl) (Nat.le_of_ble_eq_true rfl) ch rfl ?_
      rintro _ _ ⟨rfl, rfl⟩
      refine am_istore (q := 29) (ls1 := [_, _, _, _, _, _, _]) dX9_codesOf_27 (Nat.le_of_ble_eq_true rfl) rfl rfl ?_
      refine am_iload (q := 31) dX9_codesOf_29 rfl rfl ?_
      refine am_bipush (q := 33) (v := 32) dX9_codesOf_31 kc_b32 rfl ?_
      refine am_icmp_eq (tgt := 46) (q := 36) dX9_codesOf_33 rfl rfl (fun hz => absurd hz cz.1) (fun _ => ?_)
      refine am_lload_n (q := 37) dX9_codesOf_36 rfl rfl ?_
      refine am_iload (q := 39) dX9_codesOf_37 rfl rfl ?_
      refine am_call1 (q := 42) (As := [_, _]) hG dX9_codesOf_39 mlX9_78 rfl (Nat.le_of_ble_eq_true rfl) (Nat.le_of_ble_eq_true rfl) (Nat.le_of_ble_eq_true rfl) (k_X9_withSign hG) rfl ?_
      rintro _ _ ⟨rfl, rfl⟩
      refine am_lstore_n (q := 43) (ls1 := [_, _, _, _, _, _, _]) dX9_codesOf_42 (Nat.le_of_ble_eq_true rfl) rfl rfl ?_
      refine am_goto (tgt := 61) dX9_codesOf_43 rfl ?_
      refine am_iincW (q := 64) (ls1 := [_, _, _, _, _, _, _]) (w := 1) dX9_codesOf_61 rfl (Nat.le_of_ble_eq_true rfl) kc_i1 rfl rfl ?_
      refine am_goto (tgt := 12) dX9_codesOf_64 rfl ?_
      rw [nI_1]
      exact nx
  · rintro ⟨J2, o⟩ ⟨v0, v1, v2⟩
    have le2 := le J2
    obtain ⟨e1, e2⟩ := kc_end
    have fin : ∀ w, w < 32 → J2 h w = kwK w := fun w hw => (v1 w (by omega)).trans (e2 w hw)
    clear v1 e1 e2
    dsimp only at v2 ⊢
    generalize (kcT 154).1.length = n at v0 ⊢
    generalize (kcT 154).2 = v
    refine am_iload (q := 14) dX9_codesOf_12 rfl rfl ?_
    refine am_aload_n (q := 15) dX9_codesOf_14 rfl rfl ?_
    refine am_callO (q := 18) (As := []) hG dX9_codesOf_15 mlX9_91 rfl (hZ.O (i := 15) (by decide)) (Nat.le_of_ble_eq_true rfl) (Nat.le_of_ble_eq_true rfl) (Nat.le_of_ble_eq_true rfl) le2 rfl ?_
    rintro _ _ ⟨rfl, rfl⟩
    refine am_icmp_ge (tgt := 67) (q := 21) dX9_codesOf_18 rfl rfl (fun _ => ?_) (fun hz => absurd (Int32.le_refl _) hz)
    refine am_aload_n (q := 68) dX9_codesOf_67 rfl rfl ?_
    exact am_aret dX9_codesOf_68 rfl (Or.inr ⟨_, rfl⟩) ⟨_, rfl, rfl, J2, rfl, fin, v2⟩
theorem k_X9_init (hG : okG G) (hZ : KS G Z) (hF : Fr S I J R) (ka : S.K a = 10) (ha : a < S.hs) : Fn G mX9_init 5 [vR a] (mw S I J R) (fun rr M1 => rr = none ∧ ∃ J1 R1, M1 = mw (gS S [(20, 401), (20, 401), (21, 401), (21, 32)]) I J1 R1 ∧ (R1 a 0 = some (S.hs + 0) ∧ R1 a 1 = some (S.hs + 1) ∧ R1 a 2 = some (S.hs + 2) ∧ R1 a 3 = some (S.hs + 3)) ∧ ((∀ w, w < 32 → J1 (S.hs + 3) w = kwK w) ∧ ∀ x j, x ≠ S.hs + 3 → J1 x j = J x j) ∧ ∀ x, x ≠ a → R1 x = R x) := by
  refine am_aload_n (q := 1) dX9_init_0 rfl rfl ?_
  refine am_objInit (q := 4) dX9_init_1 (tbc4 17 rfl rfl) tb_oi1 tb_oi2 (Nat.le_of_ble_eq_true rfl) rfl ?_
  refine am_aload_n (q := 5) dX9_init_4 rfl rfl ?_
  refine am_sipush (q := 8) (v := 401) dX9_init_5 kc_s401 rfl ?_
  refine cm_mkI (n := 401) (q := 10) hF dX9_init_8 (by decide) rfl (Nat.le_of_ble_eq_true rfl) rfl ?_
  have k1 : (S.nw 20 401).K a = 10 := (nw_Ko (show a ≠ S.hs + 0 by omega)).trans ka
  refine cm_putR (q := 13) dX9_init_10 flX9_11 rfl fpX9_11 (by assumption) rfl ?_
  refine am_aload_n (q := 14) dX9_init_13 rfl rfl ?_
  refine am_sipush (q := 17) (v := 401) dX9_init_14 kc_s401 rfl ?_
  have f1 : Fr (S.nw 20 401) I J (up2 R a 0 (some (S.hs + 0))) := (hF.nw).pR (show a < S.hs + 1 by omega)
  refine cm_mkI (n := 401) (q := 19) f1 dX9_init_17 (by decide) rfl (Nat.le_of_ble_eq_true rfl) rfl ?_
  have k2 : ((S.nw 20 401).nw 20 401).K a = 10 := (nw_Ko (show a ≠ S.hs + 1 by omega)).trans k1
  refine cm_putR (q := 22) dX9_init_19 flX9_15 rfl fpX9_15 (by assumption) rfl ?_
  refine am_aload_n (q := 23) dX9_init_22 rfl rfl ?_
  refine am_sipush (q := 26) (v := 401) dX9_init_23 kc_s401 rfl ?_
  have f2 : Fr ((S.nw 20 401).nw 20 401) I J (up2 (up2 R a 0 (some (S.hs + 0))) a 1 (some (S.hs + 1))) := (f1.nw).pR (show a < S.hs + 2 by omega)
  refine cm_mkJ (n := 401) (q := 28) f2 dX9_init_26 (by decide) rfl (Nat.le_of_ble_eq_true rfl) rfl ?_
  have k3 : (((S.nw 20 401).nw 20 401).nw 21 401).K a = 10 := (nw_Ko (show a ≠ S.hs + 2 by omega)).trans k2
  have f3 : Fr (((S.nw 20 401).nw 20 401).nw 21 401) I J (up2 (up2 (up2 R a 0 (some (S.hs + 0))) a 1 (some (S.hs + 1))) a 2 (some (S.hs + 2))) := (f2.nw).pR (show a < S.hs + 3 by omega)
  have co := k_X9_codesOf hG hZ f3
  have k4 : (gS (((S.nw 20 401).nw 20 401).nw 21 401) [(21, 32)]).K a = 10 := (gS_o (show a < S.hs + 3 by omega)).1.trans k3
  refine cm_putR (q := 31) dX9_init_28 flX9_18 rfl fpX9_18 (by assumption) rfl ?_
  refine am_aload_n (q := 32) dX9_init_31 rfl rfl ?_
  refine am_ldcS (q := 34) dX9_init_32 rfl (hZ.li (i := 15) (by decide)) rfl ?_
  refine am_call1 (q := 37) (As := [_]) hG dX9_init_34 mlX9_24 rfl (Nat.le_of_ble_eq_true rfl) (Nat.le_of_ble_eq_true rfl) (Nat.le_of_ble_eq_true rfl) co rfl ?_
  rintro _ _ ⟨rfl, J1, rfl, g1, g2⟩
  refine cm_putR (q := 40) dX9_init_37 flX9_28 rfl fpX9_28 (by assumption) rfl ?_
  exact am_ret dX9_init_40 rfl ⟨_, rfl, rfl, J1, _, rfl, ⟨(by rw [up2_j (by decide), up2_j (by decide), up2_j (by decide), up2_s]), (by rw [up2_j (by decide), up2_j (by decide), up2_s]), (by rw [up2_j (by decide), up2_s]), (by rw [up2_s]; rfl)⟩, ⟨g1, g2⟩, fun x q => funext fun j => by rw [up2_a q, up2_a q, up2_a q, up2_a q]⟩
end Ck

