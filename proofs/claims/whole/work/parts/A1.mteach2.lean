theorem dX12_empty_0 : decode cX12_empty 0 = .ok (.aload_n 0, 1) := by decide +kernel
theorem dX12_empty_1 : decode cX12_empty 1 = .ok (.iconst 0, 1) := by decide +kernel
theorem dX12_empty_2 : decode cX12_empty 2 = .ok (.putfield 36, 3) := by decide +kernel
theorem dX12_empty_5 : decode cX12_empty 5 = .ok (.aload_n 0, 1) := by decide +kernel
theorem dX12_empty_6 : decode cX12_empty 6 = .ok (.iconst 0, 1) := by decide +kernel
theorem dX12_empty_7 : decode cX12_empty 7 = .ok (.putfield 40, 3) := by decide +kernel
theorem dX12_empty_10 : decode cX12_empty 10 = .ok (.aload_n 0, 1) := by decide +kernel
theorem dX12_empty_11 : decode cX12_empty 11 = .ok (.iconst 0, 1) := by decide +kernel
theorem dX12_empty_12 : decode cX12_empty 12 = .ok (.putfield 43, 3) := by decide +kernel
theorem dX12_empty_15 : decode cX12_empty 15 = .ok (.aload_n 0, 1) := by decide +kernel
theorem dX12_empty_16 : decode cX12_empty 16 = .ok (.iconst 0, 1) := by decide +kernel
theorem dX12_empty_17 : decode cX12_empty 17 = .ok (.putfield 46, 3) := by decide +kernel
theorem dX12_empty_20 : decode cX12_empty 20 = .ok (.aload_n 0, 1) := by decide +kernel
theorem dX12_empty_21 : decode cX12_empty 21 = .ok (.iconst 0, 1) := by decide +kernel
theorem dX12_empty_22 : decode cX12_empty 22 = .ok (.putfield 49, 3) := by decide +kernel
theorem dX12_empty_25 : decode cX12_empty 25 = .ok (.aload_n 0, 1) := by decide +kernel
theorem dX12_empty_26 : decode cX12_empty 26 = .ok (.iconst 0, 1) := by decide +kernel
theorem dX12_empty_27 : decode cX12_empty 27 = .ok (.putfield 52, 3) := by decide +kernel
theorem dX12_empty_30 : decode cX12_empty 30 = .ok (.return_, 1) := by decide +kernel
theorem dX14_teach_0 : decode cX14_teach 0 = .ok (.aload_n 0, 1) := by decide +kernel
theorem dX14_teach_1 : decode cX14_teach 1 = .ok (.iconst 0, 1) := by decide +kernel
theorem dX14_teach_2 : decode cX14_teach 2 = .ok (.putfield 58, 3) := by decide +kernel
theorem dX14_teach_5 : decode cX14_teach 5 = .ok (.aload_n 0, 1) := by decide +kernel
theorem dX14_teach_6 : decode cX14_teach 6 = .ok (.invokevirtual 252, 3) := by decide +kernel
theorem dX14_teach_9 : decode cX14_teach 9 = .ok (.aload_n 0, 1) := by decide +kernel
theorem dX14_teach_10 : decode cX14_teach 10 = .ok (.getfield 36, 3) := by decide +kernel
theorem dX14_teach_13 : decode cX14_teach 13 = .ok (.invokevirtual 255, 3) := by decide +kernel
theorem dX14_teach_16 : decode cX14_teach 16 = .ok (.aload_n 0, 1) := by decide +kernel
theorem dX14_teach_17 : decode cX14_teach 17 = .ok (.iconst 0, 1) := by decide +kernel
theorem dX14_teach_18 : decode cX14_teach 18 = .ok (.putfield 116, 3) := by decide +kernel
theorem dX14_teach_21 : decode cX14_teach 21 = .ok (.aload_n 0, 1) := by decide +kernel
theorem dX14_teach_22 : decode cX14_teach 22 = .ok (.iconst 0, 1) := by decide +kernel
theorem dX14_teach_23 : decode cX14_teach 23 = .ok (.putfield 136, 3) := by decide +kernel
theorem dX14_teach_26 : decode cX14_teach 26 = .ok (.aload_n 0, 1) := by decide +kernel
theorem dX14_teach_27 : decode cX14_teach 27 = .ok (.iconst (-1), 1) := by decide +kernel
theorem dX14_teach_28 : decode cX14_teach 28 = .ok (.putfield 113, 3) := by decide +kernel
theorem dX14_teach_31 : decode cX14_teach 31 = .ok (.aload_n 0, 1) := by decide +kernel
theorem dX14_teach_32 : decode cX14_teach 32 = .ok (.iconst 0, 1) := by decide +kernel
theorem dX14_teach_33 : decode cX14_teach 33 = .ok (.putfield 130, 3) := by decide +kernel
theorem dX14_teach_62 : decode cX14_teach 62 = .ok (.aload_n 0, 1) := by decide +kernel
theorem dX14_teach_63 : decode cX14_teach 63 = .ok (.invokevirtual 119, 3) := by decide +kernel
theorem dX14_teach_66 : decode cX14_teach 66 = .ok (.ifCond .eq 10, 3) := by decide +kernel
theorem dX14_teach_69 : decode cX14_teach 69 = .ok (.aload_n 0, 1) := by decide +kernel
theorem dX14_teach_70 : decode cX14_teach 70 = .ok (.getfield 133, 3) := by decide +kernel
theorem dX14_teach_73 : decode cX14_teach 73 = .ok (.goto 7, 3) := by decide +kernel
theorem dX14_teach_76 : decode cX14_teach 76 = .ok (.aload_n 0, 1) := by decide +kernel
theorem dX14_teach_77 : decode cX14_teach 77 = .ok (.getfield 113, 3) := by decide +kernel
theorem dX14_teach_80 : decode cX14_teach 80 = .ok (.istore_n 1, 1) := by decide +kernel
theorem dX14_teach_81 : decode cX14_teach 81 = .ok (.aload_n 0, 1) := by decide +kernel
theorem dX14_teach_82 : decode cX14_teach 82 = .ok (.invokevirtual 119, 3) := by decide +kernel
theorem dX14_teach_85 : decode cX14_teach 85 = .ok (.ifCond .eq 10, 3) := by decide +kernel
theorem dX14_teach_88 : decode cX14_teach 88 = .ok (.aload_n 0, 1) := by decide +kernel
theorem dX14_teach_89 : decode cX14_teach 89 = .ok (.getfield 130, 3) := by decide +kernel
theorem dX14_teach_92 : decode cX14_teach 92 = .ok (.goto 4, 3) := by decide +kernel
theorem dX14_teach_95 : decode cX14_teach 95 = .ok (.iconst 1, 1) := by decide +kernel
theorem dX14_teach_96 : decode cX14_teach 96 = .ok (.istore_n 2, 1) := by decide +kernel
theorem dX14_teach_97 : decode cX14_teach 97 = .ok (.aload_n 0, 1) := by decide +kernel
theorem dX14_teach_98 : decode cX14_teach 98 = .ok (.iload_n 2, 1) := by decide +kernel
theorem dX14_teach_99 : decode cX14_teach 99 = .ok (.ifCond .ne 7, 3) := by decide +kernel
theorem dX14_teach_102 : decode cX14_teach 102 = .ok (.iconst (-1), 1) := by decide +kernel
theorem dX14_teach_103 : decode cX14_teach 103 = .ok (.goto 9, 3) := by decide +kernel
theorem dX14_teach_106 : decode cX14_teach 106 = .ok (.aload_n 0, 1) := by decide +kernel
theorem dX14_teach_107 : decode cX14_teach 107 = .ok (.getfield 23, 3) := by decide +kernel
theorem dX14_teach_110 : decode cX14_teach 110 = .ok (.iload_n 1, 1) := by decide +kernel
theorem dX14_teach_111 : decode cX14_teach 111 = .ok (.iaload, 1) := by decide +kernel
theorem dX14_teach_112 : decode cX14_teach 112 = .ok (.putfield 13, 3) := by decide +kernel
theorem dX14_teach_115 : decode cX14_teach 115 = .ok (.aload_n 0, 1) := by decide +kernel
theorem dX14_teach_116 : decode cX14_teach 116 = .ok (.iconst 0, 1) := by decide +kernel
theorem dX14_teach_117 : decode cX14_teach 117 = .ok (.putfield 61, 3) := by decide +kernel
theorem dX14_teach_120 : decode cX14_teach 120 = .ok (.iload_n 2, 1) := by decide +kernel
theorem dX14_teach_121 : decode cX14_teach 121 = .ok (.ifCond .ne 7, 3) := by decide +kernel
theorem dX14_teach_124 : decode cX14_teach 124 = .ok (.aload_n 0, 1) := by decide +kernel
theorem dX14_teach_125 : decode cX14_teach 125 = .ok (.invokevirtual 261, 3) := by decide +kernel
theorem dX14_teach_128 : decode cX14_teach 128 = .ok (.iload_n 2, 1) := by decide +kernel
theorem dX14_teach_129 : decode cX14_teach 129 = .ok (.ireturn, 1) := by decide +kernel
/-! the reference is taught: its beginning and its end -/
section Td
variable {G : Gp} {S : AMem} {I I1 : Nat → Nat → Int32} {J : Nat → Nat → Int64} {R R1 : Nat → Nat → Option Nat} {y bl nx : Nat} {T : Toks} {b : BL} {a k : Nat} {s : XS} {K : Nat → Int64}
/-- before a bill is read -/
theorem PL.ini (hT : MTk I y T) (e13 : I y 13 = 0) (e14 : I y 14 = 0) (e15 : I y 15 = -1) (e16 : I y 16 = 0) (n0 : I nx 0 = 0) (n1 : I nx 1 = 0) (n2 : I nx 2 = 0) (n3 : I nx 3 = 0) (n4 : I nx 4 = 0) (n10 : I nx 10 = 0) : PL I y nx T bl0 0 0 := by
  have hn := hT.1
  refine ⟨⟨hT, ⟨e13, Nat.zero_le _, n10, Nat.le_refl _, e14⟩, Or.inr ⟨by decide, e15, rfl, hn, e16, fun q => absurd rfl q, fun _ => ⟨rfl, rfl⟩, 0, 0, 0, fun _ => 0, fun _ => 0, fun _ => 0, ⟨⟨n0, Nat.zero_le _⟩, ⟨n2, Nat.zero_le _⟩, ⟨n3, Nat.zero_le _⟩, fun l hl => absurd hl (Nat.not_lt_zero l), fun l hl => absurd hl (Nat.not_lt_zero l), fun l hl => absurd hl (Nat.not_lt_zero l)⟩, fun _ => NmA.of ⟨rfl, rfl, rfl⟩ (fun _ => rfl) (fun _ => rfl) (fun _ => rfl)⟩⟩, fun _ => ⟨0, 0, n1, Nat.zero_le _, n4, Nat.zero_le _⟩, fun _ => ⟨⟨⟨⟨⟨n0, Nat.zero_le _⟩, ⟨n2, Nat.zero_le _⟩, ⟨n3, Nat.zero_le _⟩, n4, Nat.zero_le _⟩, ⟨0, Nat.zero_le _, n1, fun r hr => absurd hr (Nat.not_lt_zero r)⟩, fun r hr => absurd hr (Nat.not_lt_zero r), fun r hr => absurd hr (Nat.not_lt_zero r), fun r hr => absurd hr (Nat.not_lt_zero r), fun r hr => absurd hr (Nat.not_lt_zero r)⟩, ⟨n1, Nat.zero_le _, fun r hr => absurd hr (Nat.not_lt_zero r)⟩, fun r hr => absurd hr (Nat.not_lt_zero r), fun r hr => absurd hr (Nat.not_lt_zero r), fun r hr => absurd hr (Nat.not_lt_zero r), ⟨fun _ => rfl, rfl⟩, fun r hr => absurd hr (Nat.not_lt_zero r)⟩, fun r hr => absurd hr (Nat.not_lt_zero r), fun r hr => absurd hr (Nat.not_lt_zero r)⟩⟩
/-- how it stands behind a bill -/
def tcE (b : BL) (s : XS) : XS := if b.P.2.1 = 0 then ((0, s.E.2), b.B, mkMS b.m.fist b.m.rail b.m.prize (up1 b.m.g 0 (s.m.g 0)) b.m.row b.m.bd b.m.nb, b.P.2.2) else ((0, s.E.2), s.B, s.m, b.P.2.2)
theorem k_tend (hG : okG G) (hC : MCc S R y bl nx) (h : PL I y nx T b a k) (hb : RB I bl s.B s.m) (hs : RS I (y + 27) s.B s.m) (hp : PRm s.B s.m) (th : I y 0 = 0) : MW G mX14_teach 406 62 [some (vR y), none, none] [] (mw S I J R) (fun f M1 => ∃ r, f = .inl r ∧ r = some (vI b.P.2.1) ∧ ∃ I1 R1, M1 = mw S I1 J R1 ∧ YW S y (tcE b s) I1 R1 ∧ I1 y 0 = 0 ∧ OffY y I R I1 R1) := by
  have ky := hC.1.1
  obtain ⟨p1, p2, p3, p4, p5⟩ := hC.lo
  obtain ⟨q4, q5, q6, _, ⟨k2, l2⟩, ⟨k3, l3⟩, ⟨k4, l4⟩, _⟩ := id hC.2.2.2.2.2.2.2.2.2
  have ok := k_X14_isOk (G := G) (J := J) hC h.1
  have hn := h.1.1.2.1
  have bad : ∀ (tk : Nat) (own : Int32), own ≠ 0 → tk < T.n → T.s tk = b.P.2.2 → own = b.P.2.1 → MW G mX14_teach 406 97 [some (vR y), some (vI (nI tk)), some (vI own)] [] (mw S I J R) (fun f M1 => ∃ r, f = .inl r ∧ r = some (vI b.P.2.1) ∧ ∃ I1 R1, M1 = mw S I1 J R1 ∧ YW S y (tcE b s) I1 R1 ∧ I1 y 0 = 0 ∧ OffY y I R I1 R1) := by
    intro tk own h1 h2 h3 h4
    have e4 : I (y + 4) tk = b.P.2.2 := ((h.1.1.2.2.1 tk h2).2).trans h3
    have res : tcE b s = ((0, s.E.2), s.B, s.m, b.P.2.2) := if_neg (by rw [← h4]; exact h1)
    have cl : (nI tk).toNatClampNeg = tk := nI_clamp (by omega)
    have fr : ∀ x j, (x ≠ y ∨ (j ≠ 2 ∧ j ≠ 3)) → up2 (up2 I y 3 b.P.2.2) y 2 0 x j = I x j := fun x j q => by rw [up2_at, if_neg (by omega), up2_at, if_neg (by omega)]
    have yw : YW S y ((0, s.E.2), s.B, s.m, b.P.2.2) (up2 (up2 I y 3 b.P.2.2) y 2 0) R := ⟨bl, nx, hC, ⟨up2_s, Nat.zero_le _, fun i hi => absurd hi (Nat.not_lt_zero i)⟩, by rw [up2_j (by decide), up2_s]; rfl, hb.mv (fun x j p q => fr x j (by omega)) (fun _ _ => ⟨rfl, rfl⟩) (fun _ _ => ⟨rfl, rfl⟩), hs.fr (fun x j p q => fr x j (by omega)), hp⟩
    rw [res]
    generalize b.P.2.2 = v at e4 fr yw ⊢
    rw [← h4]
    have h17 : own ≠ 0 ∧ True := ⟨h1, trivial⟩
    clear h1 h3 h4 res
    refine am_aload_n (q := 98) dX14_teach_97 rfl rfl ?_
    refine am_iload_n (q := 99) dX14_teach_98 rfl rfl ?_
    refine am_if_ne (tgt := 106) (q := 102) dX14_teach_99 rfl rfl (fun _ => ?_) (fun hz => absurd hz h17.1)
    refine am_aload_n (q := 107) dX14_teach_106 rfl rfl ?_
    refine cm_getR (q := 110) dX14_teach_107 flX14_23 rfl (by assumption) (by assumption) rfl ?_
    refine am_iload_n (q := 111) dX14_teach_110 rfl rfl ?_
    refine cm_iaload (q := 112) dX14_teach_111 (by assumption) (by rw [l4]; exact vp_in_nI (by omega) (by decide)) rfl ?_
    rw [cl, e4]
    refine cm_putI (q := 115) dX14_teach_112 flX14_13 rfl (Or.inl rfl) (Or.inl rfl) (by assumption) rfl ?_
    refine am_aload_n (q := 116) dX14_teach_115 rfl rfl ?_
    refine am_iconst (q := 117) (v := 0) dX14_teach_116 kc_i0 rfl ?_
    refine cm_putI (q := 120) dX14_teach_117 flX14_61 rfl (Or.inl rfl) (Or.inl rfl) (by assumption) rfl ?_
    refine am_iload_n (q := 121) dX14_teach_120 rfl rfl ?_
    refine am_if_ne (tgt := 128) (q := 124) dX14_teach_121 rfl rfl (fun _ => ?_) (fun hz => absurd hz h17.1)
    refine am_iload_n (q := 129) dX14_teach_128 rfl rfl ?_
    exact am_iret dX14_teach_129 rfl rfl ⟨_, rfl, rfl, _, R, rfl, yw, (by rw [up2_j (by decide), up2_j (by decide)]; exact th), fun x p => ⟨funext fun j => fr _ _ (by omega), rfl⟩⟩
  by_cases c1 : b.P.2.1 = 1
  · obtain ⟨tk, t1, t2, t3⟩ : ∃ tk, I y 15 = nI tk ∧ tk < T.n ∧ T.s tk = b.P.2.2 := by
      obtain ⟨_, _, z | z⟩ := h.1
      · exact z.2
      · exact absurd c1 z.1
    have e := bad tk 1 (by decide) t2 t3 c1.symm
    rw [show bI (((b.P, b.L) : PS × Cd).1.2.1 ≠ 1) = 0 from bI_f (fun q => q c1)] at ok
    clear bad c1 t3
    refine am_aload_n (q := 63) dX14_teach_62 rfl rfl ?_
    refine cm_call0 (q := 66) (As := []) hG dX14_teach_63 mlX14_119 rfl (by assumption) ⟨_, _, rfl⟩ (Nat.le_of_ble_eq_true rfl) (Nat.le_of_ble_eq_true rfl) (Nat.le_of_ble_eq_true rfl) (Nat.le_of_ble_eq_true rfl) ok rfl ?_
    rintro _ _ ⟨rfl, rfl⟩
    refine am_if_eq (tgt := 76) (q := 69) dX14_teach_66 rfl rfl (fun _ => ?_) (fun hz => absurd rfl hz)
    refine am_aload_n (q := 77) dX14_teach_76 rfl rfl ?_
    refine cm_getI (q := 80) dX14_teach_77 flX14_113 rfl (by assumption) rfl ?_
    rw [t1]
    refine am_istore_n (q := 81) (ls1 := [_, _, _]) dX14_teach_80 (Nat.le_of_ble_eq_true rfl) rfl rfl ?_
    refine am_aload_n (q := 82) dX14_teach_81 rfl rfl ?_
    refine cm_call0 (q := 85) (As := []) hG dX14_teach_82 mlX14_119 rfl (by assumption) ⟨_, _, rfl⟩ (Nat.le_of_ble_eq_true rfl) (Nat.le_of_ble_eq_true rfl) (Nat.le_of_ble_eq_true rfl) (Nat.le_of_ble_eq_true rfl) ok rfl ?_
    rintro _ _ ⟨rfl, rfl⟩
    refine am_if_eq (tgt := 95) (q := 88) dX14_teach_85 rfl rfl (fun _ => ?_) (fun hz => absurd rfl hz)
    refine am_iconst (q := 96) (v := 1) dX14_teach_95 kc_i1 rfl ?_
    refine am_istore_n (q := 97) (ls1 := [_, _, _]) dX14_teach_96 (Nat.le_of_ble_eq_true rfl) rfl rfl ?_
    exact e
  · rw [show bI (((b.P, b.L) : PS × Cd).1.2.1 ≠ 1) = 1 from bI_t c1] at ok
    have pg : PG I y nx T (ixB b) (b.B.nR, b.B.nF, b.B.nP) (b.P, b.L) a k := by
      obtain ⟨_, _, z | z⟩ := h.1
      · exact absurd z.1 c1
      · exact z.2
    obtain ⟨g1, g2, g3, g4, g5, g6, _⟩ := pg
    have g4' : I y 16 = b.P.2.1 := g4
    by_cases c0 : b.P.2.1 = 0
    · obtain ⟨x1, x2⟩ := h.2.2 c0
      have er : b.P.2.2 = -1 := (g6 c0).1
      have fr : ∀ x j, (x ≠ y ∨ (j ≠ 2 ∧ j ≠ 3)) → up2 (up2 I y 3 (-1)) y 2 0 x j = I x j := fun x j q => by rw [up2_at, if_neg (by omega), up2_at, if_neg (by omega)]
      have res : tcE b s = ((0, s.E.2), b.B, mkMS b.m.fist b.m.rail b.m.prize (up1 b.m.g 0 (s.m.g 0)) b.m.row b.m.bd b.m.nb, -1) := by
        rw [← er]
        exact if_pos c0
      have bg := k_X14_begin (G := G) (J := J) (I := up2 (up2 I y 3 (-1)) y 2 0) hG hC (x1.mv (fun x j q1 q2 q3 => fr x j (by omega)))
      have e0 : up2 (up2 I y 3 (-1)) y 2 0 (y + 27) 0 = s.m.g 0 := (fr _ _ (by omega)).trans hs.1.1
      rw [e0] at bg
      rw [res, c0]
      have rw16 : I y 16 = 0 := g4'.trans c0
      have pr : PRm b.B (mkMS b.m.fist b.m.rail b.m.prize (up1 b.m.g 0 (s.m.g 0)) b.m.row b.m.bd b.m.nb) := by
        have f6 := x1.2.2.2.2.2.2
        refine ⟨fun k hk => ?_, fun k l hk hl e => ?_, fun t ht => ⟨t, ht, f6 t ht⟩⟩
        · have := f6 k hk
          show b.m.row k < b.B.nT
          omega
        · have e' : b.m.row k = b.m.row l := e
          rw [f6 k hk, f6 l hl] at e'
          exact e'
      clear bad c1 c0 res er g5 g6 g4 g4'
      refine am_aload_n (q := 63) dX14_teach_62 rfl rfl ?_
      refine cm_call0 (q := 66) (As := []) hG dX14_teach_63 mlX14_119 rfl (by assumption) ⟨_, _, rfl⟩ (Nat.le_of_ble_eq_true rfl) (Nat.le_of_ble_eq_true rfl) (Nat.le_of_ble_eq_true rfl) (Nat.le_of_ble_eq_true rfl) ok rfl ?_
      rintro _ _ ⟨rfl, rfl⟩
      refine am_if_eq (tgt := 76) (q := 69) dX14_teach_66 rfl rfl (fun hz => absurd hz (by decide)) (fun _ => ?_)
      refine am_aload_n (q := 70) dX14_teach_69 rfl rfl ?_
      refine cm_getI (q := 73) dX14_teach_70 flX14_133 rfl (by assumption) rfl ?_
      refine am_goto (tgt := 80) dX14_teach_73 rfl ?_
      generalize I y 17 = t17
      refine am_istore_n (q := 81) (ls1 := [_, _, _]) dX14_teach_80 (Nat.le_of_ble_eq_true rfl) rfl rfl ?_
      refine am_aload_n (q := 82) dX14_teach_81 rfl rfl ?_
      refine cm_call0 (q := 85) (As := []) hG dX14_teach_82 mlX14_119 rfl (by assumption) ⟨_, _, rfl⟩ (Nat.le_of_ble_eq_true rfl) (Nat.le_of_ble_eq_true rfl) (Nat.le_of_ble_eq_true rfl) (Nat.le_of_ble_eq_true rfl) ok rfl ?_
      rintro _ _ ⟨rfl, rfl⟩
      refine am_if_eq (tgt := 95) (q := 88) dX14_teach_85 rfl rfl (fun hz => absurd hz (by decide)) (fun _ => ?_)
      refine am_aload_n (q := 89) dX14_teach_88 rfl rfl ?_
      refine cm_getI (q := 92) dX14_teach_89 flX14_130 rfl (by assumption) rfl ?_
      rw [rw16]
      refine am_goto (tgt := 96) dX14_teach_92 rfl ?_
      refine am_istore_n (q := 97) (ls1 := [_, _, _]) dX14_teach_96 (Nat.le_of_ble_eq_true rfl) rfl rfl ?_
      refine am_aload_n (q := 98) dX14_teach_97 rfl rfl ?_
      refine am_iload_n (q := 99) dX14_teach_98 rfl rfl ?_
      refine am_if_ne (tgt := 106) (q := 102) dX14_teach_99 rfl rfl (fun hz => absurd rfl hz) (fun _ => ?_)
      refine am_iconst (q := 103) (v := (-1)) dX14_teach_102 kc_im1 rfl ?_
      refine am_goto (tgt := 112) dX14_teach_103 rfl ?_
      refine cm_putI (q := 115) dX14_teach_112 flX14_13 rfl (Or.inl rfl) (Or.inl rfl) (by assumption) rfl ?_
      refine am_aload_n (q := 116) dX14_teach_115 rfl rfl ?_
      refine am_iconst (q := 117) (v := 0) dX14_teach_116 kc_i0 rfl ?_
      refine cm_putI (q := 120) dX14_teach_117 flX14_61 rfl (Or.inl rfl) (Or.inl rfl) (by assumption) rfl ?_
      refine am_iload_n (q := 121) dX14_teach_120 rfl rfl ?_
      refine am_if_ne (tgt := 128) (q := 124) dX14_teach_121 rfl rfl (fun hz => absurd rfl hz) (fun _ => ?_)
      refine am_aload_n (q := 125) dX14_teach_124 rfl rfl ?_
      refine cm_call0 (q := 128) (As := []) hG dX14_teach_125 mlX14_261 rfl (by assumption) ⟨_, _, rfl⟩ (Nat.le_of_ble_eq_true rfl) (Nat.le_of_ble_eq_true rfl) (Nat.le_of_ble_eq_true rfl) (Nat.le_of_ble_eq_true rfl) bg rfl ?_
      rintro _ _ ⟨rfl, I1, rfl, y1, y2⟩
      have y3 : ∀ x j, (x < y + 27 ∨ y + 33 ≤ x) → (x ≠ y ∨ (j ≠ 2 ∧ j ≠ 3)) → I1 x j = I x j := fun x j q1 q2 => (y2 x j q1).trans (fr x j q2)
      have yw : YW S y ((0, s.E.2), b.B, mkMS b.m.fist b.m.rail b.m.prize (up1 b.m.g 0 (s.m.g 0)) b.m.row b.m.bd b.m.nb, -1) I1 (swR R y bl nx) := ⟨nx, bl, hC.sw, ⟨(y2 _ _ (by omega)).trans up2_s, Nat.zero_le _, fun i hi => absurd hi (Nat.not_lt_zero i)⟩, (y2 _ _ (by omega)).trans (by rw [up2_j (by decide), up2_s]; rfl), x1.1.mv (fun x j p q => y3 x j (by omega) (by omega)) (fun _ _ => ⟨rfl, rfl⟩) (fun _ _ => ⟨rfl, rfl⟩), y1, pr⟩
      refine am_iload_n (q := 129) dX14_teach_128 rfl rfl ?_
      exact am_iret dX14_teach_129 rfl rfl ⟨_, rfl, rfl, I1, _, rfl, yw, (y3 _ _ (by omega) (by omega)).trans th, fun x p => ⟨funext fun j => y3 _ _ (by omega) (by omega), funext fun j => swR_o (Or.inl (by omega))⟩⟩
    · obtain ⟨tk, t1, t2, t3⟩ := g5 c0
      have e := bad tk b.P.2.1 c0 (by omega) t3 rfl
      generalize b.P.2.1 = own at ok g4' e ⊢
      clear bad c1 t3 g4 g5 g6 c0
      refine am_aload_n (q := 63) dX14_teach_62 rfl rfl ?_
      refine cm_call0 (q := 66) (As := []) hG dX14_teach_63 mlX14_119 rfl (by assumption) ⟨_, _, rfl⟩ (Nat.le_of_ble_eq_true rfl) (Nat.le_of_ble_eq_true rfl) (Nat.le_of_ble_eq_true rfl) (Nat.le_of_ble_eq_true rfl) ok rfl ?_
      rintro _ _ ⟨rfl, rfl⟩
      refine am_if_eq (tgt := 76) (q := 69) dX14_teach_66 rfl rfl (fun hz => absurd hz (by decide)) (fun _ => ?_)
      refine am_aload_n (q := 70) dX14_teach_69 rfl rfl ?_
      refine cm_getI (q := 73) dX14_teach_70 flX14_133 rfl (by assumption) rfl ?_
      refine am_goto (tgt := 80) dX14_teach_73 rfl ?_
      rw [t2]
      refine am_istore_n (q := 81) (ls1 := [_, _, _]) dX14_teach_80 (Nat.le_of_ble_eq_true rfl) rfl rfl ?_
      refine am_aload_n (q := 82) dX14_teach_81 rfl rfl ?_
      refine cm_call0 (q := 85) (As := []) hG dX14_teach_82 mlX14_119 rfl (by assumption) ⟨_, _, rfl⟩ (Nat.le_of_ble_eq_true rfl) (Nat.le_of_ble_eq_true rfl) (Nat.le_of_ble_eq_true rfl) (Nat.le_of_ble_eq_true rfl) ok rfl ?_
      rintro _ _ ⟨rfl, rfl⟩
      refine am_if_eq (tgt := 95) (q := 88) dX14_teach_85 rfl rfl (fun hz => absurd hz (by decide)) (fun _ => ?_)
      refine am_aload_n (q := 89) dX14_teach_88 rfl rfl ?_
      refine cm_getI (q := 92) dX14_teach_89 flX14_130 rfl (by assumption) rfl ?_
      rw [g4']
      refine am_goto (tgt := 96) dX14_teach_92 rfl ?_
      refine am_istore_n (q := 97) (ls1 := [_, _, _]) dX14_teach_96 (Nat.le_of_ble_eq_true rfl) rfl rfl ?_
      exact e
theorem k_X14_teach (hG : okG G) (hsp : ∀ (I : Nat → Nat → Int32), (I y 2 = nI s.E.1 ∧ s.E.1 ≤ 2000 ∧ ∀ i, i < s.E.1 → I (y + 1) i = s.E.2 i) → Fn G mX14_split 10 [vR y] (mw S I J R) (fun rr M1 => rr = none ∧ ∃ I1, M1 = mw S I1 J R ∧ MTk I1 y (tkAll s.E K).toks ∧ ∀ x j, (x < y + 2 ∨ y + 5 < x) → I1 x j = I x j)) (h : YW S y s I R) : Fn G mX14_teach 406 [vR y] (mw S I J R) (YR S y I J R (vI (rdB K s.E).P.2.1, tchS K s, 0)) := by
  obtain ⟨bl, nx, hC, hA⟩ := h
  have ky := hC.1.1
  obtain ⟨p1, p2, p3, p4, p5⟩ := hC.lo
  have r9 := hC.2.2.2.2.2.2.1
  have kn := hC.2.2.2.2.2.2.2.2.1.1
  obtain ⟨⟨a1, a2, a3⟩, a4, a5, a6, a7⟩ := hA
  have et : tchS K s = tcE (rdB K s.E) s := rfl
  have eb : rdB K s.E = rdLoop (tkAll s.E K).toks 401 bl0 := rfl
  rw [et, eb]
  generalize (tkAll s.E K).toks = T at hsp ⊢
  have sp := hsp (up2 I y 0 0) ⟨(up2_j (by decide)).trans a1, a2, fun i hi => (up2_a (by omega)).trans (a3 i hi)⟩
  clear et eb hsp
  refine am_aload_n (q := 1) dX14_teach_0 rfl rfl ?_
  refine am_iconst (q := 2) (v := 0) dX14_teach_1 kc_i0 rfl ?_
  refine cm_putI (q := 5) dX14_teach_2 flX14_58 rfl (Or.inl rfl) (Or.inl rfl) (by assumption) rfl ?_
  refine am_aload_n (q := 6) dX14_teach_5 rfl rfl ?_
  refine cm_call0 (q := 9) (As := []) hG dX14_teach_6 mlX14_252 rfl (by assumption) ⟨_, _, rfl⟩ (Nat.le_of_ble_eq_true rfl) (Nat.le_of_ble_eq_true rfl) (Nat.le_of_ble_eq_true rfl) (Nat.le_of_ble_eq_true rfl) sp rfl ?_
  rintro _ _ ⟨rfl, I1, rfl, hT, o1⟩
  have em : Fn G mX12_empty 0 [vR nx] (mw S I1 J R) (fun rr M1 => rr = none ∧ M1 = mw S (up2 (up2 (up2 (up2 (up2 (up2 I1 nx 0 0) nx 1 0) nx 2 0) nx 3 0) nx 4 0) nx 10 0) J R) := by
    refine am_aload_n (q := 1) dX12_empty_0 rfl rfl ?_
    refine am_iconst (q := 2) (v := 0) dX12_empty_1 kc_i0 rfl ?_
    refine cm_putI (q := 5) dX12_empty_2 flX12_36 rfl (Or.inl rfl) (Or.inl rfl) (by assumption) rfl ?_
    refine am_aload_n (q := 6) dX12_empty_5 rfl rfl ?_
    refine am_iconst (q := 7) (v := 0) dX12_empty_6 kc_i0 rfl ?_
    refine cm_putI (q := 10) dX12_empty_7 flX12_40 rfl (Or.inl rfl) (Or.inl rfl) (by assumption) rfl ?_
    refine am_aload_n (q := 11) dX12_empty_10 rfl rfl ?_
    refine am_iconst (q := 12) (v := 0) dX12_empty_11 kc_i0 rfl ?_
    refine cm_putI (q := 15) dX12_empty_12 flX12_43 rfl (Or.inl rfl) (Or.inl rfl) (by assumption) rfl ?_
    refine am_aload_n (q := 16) dX12_empty_15 rfl rfl ?_
    refine am_iconst (q := 17) (v := 0) dX12_empty_16 kc_i0 rfl ?_
    refine cm_putI (q := 20) dX12_empty_17 flX12_46 rfl (Or.inl rfl) (Or.inl rfl) (by assumption) rfl ?_
    refine am_aload_n (q := 21) dX12_empty_20 rfl rfl ?_
    refine am_iconst (q := 22) (v := 0) dX12_empty_21 kc_i0 rfl ?_
    refine cm_putI (q := 25) dX12_empty_22 flX12_49 rfl (Or.inl rfl) (Or.inl rfl) (by assumption) rfl ?_
    refine am_aload_n (q := 26) dX12_empty_25 rfl rfl ?_
    refine am_iconst (q := 27) (v := 0) dX12_empty_26 kc_i0 rfl ?_
    refine cm_putI (q := 30) dX12_empty_27 flX12_52 rfl (Or.inl rfl) (Or.inl rfl) (by assumption) rfl ?_
    exact am_ret dX12_empty_30 rfl ⟨_, rfl, rfl, rfl⟩
  refine am_aload_n (q := 10) dX14_teach_9 rfl rfl ?_
  refine cm_getR (q := 13) dX14_teach_10 flX14_36 rfl (by assumption) (by assumption) rfl ?_
  refine cm_call0 (q := 16) (As := []) hG dX14_teach_13 mlX14_255 rfl (by assumption) ⟨_, _, rfl⟩ (Nat.le_of_ble_eq_true rfl) (Nat.le_of_ble_eq_true rfl) (Nat.le_of_ble_eq_true rfl) (Nat.le_of_ble_eq_true rfl) em rfl ?_
  rintro _ _ ⟨rfl, rfl⟩
  refine am_aload_n (q := 17) dX14_teach_16 rfl rfl ?_
  refine am_iconst (q := 18) (v := 0) dX14_teach_17 kc_i0 rfl ?_
  refine cm_putI (q := 21) dX14_teach_18 flX14_116 rfl (Or.inl rfl) (Or.inl rfl) (by assumption) rfl ?_
  refine am_aload_n (q := 22) dX14_teach_21 rfl rfl ?_
  refine am_iconst (q := 23) (v := 0) dX14_teach_22 kc_i0 rfl ?_
  refine cm_putI (q := 26) dX14_teach_23 flX14_136 rfl (Or.inl rfl) (Or.inl rfl) (by assumption) rfl ?_
  refine am_aload_n (q := 27) dX14_teach_26 rfl rfl ?_
  refine am_iconst (q := 28) (v := (-1)) dX14_teach_27 kc_im1 rfl ?_
  refine cm_putI (q := 31) dX14_teach_28 flX14_113 rfl (Or.inl rfl) (Or.inl rfl) (by assumption) rfl ?_
  refine am_aload_n (q := 32) dX14_teach_31 rfl rfl ?_
  refine am_iconst (q := 33) (v := 0) dX14_teach_32 kc_i0 rfl ?_
  refine cm_putI (q := 36) dX14_teach_33 flX14_130 rfl (Or.inl rfl) (Or.inl rfl) (by assumption) rfl ?_
  refine k_nm (P := fun I2 => MW G mX14_teach 406 36 _ _ (mw S I2 J R) _) _ ?_
  intro I2 q2
  have o2 : ∀ x j, (x = y → j < 13 ∨ 16 < j) → (x = nx → 4 < j ∧ j ≠ 10) → I2 x j = I1 x j := fun x j c1 c2 => by
    rw [q2, up2_at, up2_at, up2_at, up2_at, up2_at, up2_at, up2_at, up2_at, up2_at, up2_at, if_neg (by omega), if_neg (by omega), if_neg (by omega), if_neg (by omega), if_neg (by omega), if_neg (by omega), if_neg (by omega), if_neg (by omega), if_neg (by omega), if_neg (by omega)]
  have ny : nx ≠ y := by omega
  have i13 : I2 y 13 = 0 := by rw [q2, up2_j (by decide), up2_j (by decide), up2_j (by decide), up2_s]
  have i14 : I2 y 14 = 0 := by rw [q2, up2_j (by decide), up2_j (by decide), up2_s]
  have i15 : I2 y 15 = -1 := by rw [q2, up2_j (by decide), up2_s]
  have i16 : I2 y 16 = 0 := by rw [q2, up2_s]
  have j10 : I2 nx 10 = 0 := by rw [q2, up2_a ny, up2_a ny, up2_a ny, up2_a ny, up2_s]
  have j4 : I2 nx 4 = 0 := by rw [q2, up2_a ny, up2_a ny, up2_a ny, up2_a ny, up2_j (by decide), up2_s]
  have j3 : I2 nx 3 = 0 := by rw [q2, up2_a ny, up2_a ny, up2_a ny, up2_a ny, up2_j (by decide), up2_j (by decide), up2_s]
  have j2 : I2 nx 2 = 0 := by rw [q2, up2_a ny, up2_a ny, up2_a ny, up2_a ny, up2_j (by decide), up2_j (by decide), up2_j (by decide), up2_s]
  have j1 : I2 nx 1 = 0 := by rw [q2, up2_a ny, up2_a ny, up2_a ny, up2_a ny, up2_j (by decide), up2_j (by decide), up2_j (by decide), up2_j (by decide), up2_s]
  have j0 : I2 nx 0 = 0 := by rw [q2, up2_a ny, up2_a ny, up2_a ny, up2_a ny, up2_j (by decide), up2_j (by decide), up2_j (by decide), up2_j (by decide), up2_j (by decide), up2_s]
  clear q2
  have hT2 : MTk I2 y T := hT.cg (fun x j c1 c2 => o2 x j (by omega) (by omega))
  have pl := PL.ini (nx := nx) hT2 i13 i14 i15 i16 j0 j1 j2 j3 j4 j10
  refine k_tloop hG hC 401 bl0 I2 0 0 pl (fun _ => by have := hT2.2.1; omega) (fun I3 a' k' h3 o3 => ?_)
  generalize rdLoop T 401 bl0 = b at h3 ⊢
  have oo : ∀ x j, (x = y → j = 0 ∨ j = 3) → (x < nx ∨ nx + 9 ≤ x) → (x < y + 24 ∨ y + 26 < x) → (x < y + 2 ∨ y + 5 < x) → I3 x j = up2 I y 0 0 x j := fun x j c1 c2 c3 c4 => by rw [o3 x j (by omega) c2 c3, o2 x j (by omega) (by omega), o1 x j c4]
  have hb : RB I3 bl s.B s.m := a5.mv (fun x j p q => (oo x j (by omega) (by omega) (by omega) (by omega)).trans (up2_a (by omega))) (fun _ _ => ⟨rfl, rfl⟩) (fun _ _ => ⟨rfl, rfl⟩)
  have hs : RS I3 (y + 27) s.B s.m := a6.fr (fun x j p q => (oo x j (by omega) (by omega) (by omega) (by omega)).trans (up2_a (by omega)))
  have th : I3 y 0 = 0 := (oo y 0 (fun _ => Or.inl rfl) (by omega) (by omega) (by omega)).trans up2_s
  refine MW.weaken (k_tend (J := J) hG hC h3 hb hs a7 th) ?_
  rintro f M1 ⟨r, z1, z2, I4, R4, z3, z4, z5, z6⟩
  refine ⟨r, z1, z2, I4, R4, z3, z4, z5, fun x p => ⟨?_, (z6 x p).2⟩⟩
  rw [(z6 x p).1]
  funext j
  rw [oo x j (by omega) (by omega) (by omega) (by omega), up2_a (by omega)]
end Td

