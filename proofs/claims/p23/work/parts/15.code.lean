theorem kc_b42 : (Int8.ofInt 42).toInt32 = 42 := by decide +kernel
theorem kc_b43 : (Int8.ofInt 43).toInt32 = 43 := by decide +kernel
theorem kc_b45 : (Int8.ofInt 45).toInt32 = 45 := by decide +kernel
theorem kc_b47 : (Int8.ofInt 47).toInt32 = 47 := by decide +kernel
theorem kc_s328 : (Int16.ofInt 328).toInt32 = 328 := by decide +kernel
theorem dX1_compared_0 : decode cX1_compared 0 = .ok (.iload_n 0, 1) := by decide +kernel
theorem dX1_compared_1 : decode cX1_compared 1 = .ok (.lookupswitch 99 #[(60, 43), (61, 71), (62, 57), (260, 85)], 43) := by decide +kernel
theorem dX1_compared_44 : decode cX1_compared 44 = .ok (.iload_n 1, 1) := by decide +kernel
theorem dX1_compared_45 : decode cX1_compared 45 = .ok (.iload_n 2, 1) := by decide +kernel
theorem dX1_compared_46 : decode cX1_compared 46 = .ok (.if_icmp .ge 7, 3) := by decide +kernel
theorem dX1_compared_49 : decode cX1_compared 49 = .ok (.iconst 1, 1) := by decide +kernel
theorem dX1_compared_50 : decode cX1_compared 50 = .ok (.goto 4, 3) := by decide +kernel
theorem dX1_compared_53 : decode cX1_compared 53 = .ok (.iconst 0, 1) := by decide +kernel
theorem dX1_compared_54 : decode cX1_compared 54 = .ok (.istore_n 3, 1) := by decide +kernel
theorem dX1_compared_55 : decode cX1_compared 55 = .ok (.goto 56, 3) := by decide +kernel
theorem dX1_compared_58 : decode cX1_compared 58 = .ok (.iload_n 1, 1) := by decide +kernel
theorem dX1_compared_59 : decode cX1_compared 59 = .ok (.iload_n 2, 1) := by decide +kernel
theorem dX1_compared_60 : decode cX1_compared 60 = .ok (.if_icmp .le 7, 3) := by decide +kernel
theorem dX1_compared_63 : decode cX1_compared 63 = .ok (.iconst 1, 1) := by decide +kernel
theorem dX1_compared_64 : decode cX1_compared 64 = .ok (.goto 4, 3) := by decide +kernel
theorem dX1_compared_67 : decode cX1_compared 67 = .ok (.iconst 0, 1) := by decide +kernel
theorem dX1_compared_68 : decode cX1_compared 68 = .ok (.istore_n 3, 1) := by decide +kernel
theorem dX1_compared_69 : decode cX1_compared 69 = .ok (.goto 42, 3) := by decide +kernel
theorem dX1_compared_72 : decode cX1_compared 72 = .ok (.iload_n 1, 1) := by decide +kernel
theorem dX1_compared_73 : decode cX1_compared 73 = .ok (.iload_n 2, 1) := by decide +kernel
theorem dX1_compared_74 : decode cX1_compared 74 = .ok (.if_icmp .ne 7, 3) := by decide +kernel
theorem dX1_compared_77 : decode cX1_compared 77 = .ok (.iconst 1, 1) := by decide +kernel
theorem dX1_compared_78 : decode cX1_compared 78 = .ok (.goto 4, 3) := by decide +kernel
theorem dX1_compared_81 : decode cX1_compared 81 = .ok (.iconst 0, 1) := by decide +kernel
theorem dX1_compared_82 : decode cX1_compared 82 = .ok (.istore_n 3, 1) := by decide +kernel
theorem dX1_compared_83 : decode cX1_compared 83 = .ok (.goto 28, 3) := by decide +kernel
theorem dX1_compared_86 : decode cX1_compared 86 = .ok (.iload_n 1, 1) := by decide +kernel
theorem dX1_compared_87 : decode cX1_compared 87 = .ok (.iload_n 2, 1) := by decide +kernel
theorem dX1_compared_88 : decode cX1_compared 88 = .ok (.if_icmp .gt 7, 3) := by decide +kernel
theorem dX1_compared_91 : decode cX1_compared 91 = .ok (.iconst 1, 1) := by decide +kernel
theorem dX1_compared_92 : decode cX1_compared 92 = .ok (.goto 4, 3) := by decide +kernel
theorem dX1_compared_95 : decode cX1_compared 95 = .ok (.iconst 0, 1) := by decide +kernel
theorem dX1_compared_96 : decode cX1_compared 96 = .ok (.istore_n 3, 1) := by decide +kernel
theorem dX1_compared_97 : decode cX1_compared 97 = .ok (.goto 14, 3) := by decide +kernel
theorem dX1_compared_100 : decode cX1_compared 100 = .ok (.iload_n 1, 1) := by decide +kernel
theorem dX1_compared_101 : decode cX1_compared 101 = .ok (.iload_n 2, 1) := by decide +kernel
theorem dX1_compared_102 : decode cX1_compared 102 = .ok (.if_icmp .lt 7, 3) := by decide +kernel
theorem dX1_compared_105 : decode cX1_compared 105 = .ok (.iconst 1, 1) := by decide +kernel
theorem dX1_compared_106 : decode cX1_compared 106 = .ok (.goto 4, 3) := by decide +kernel
theorem dX1_compared_109 : decode cX1_compared 109 = .ok (.iconst 0, 1) := by decide +kernel
theorem dX1_compared_110 : decode cX1_compared 110 = .ok (.istore_n 3, 1) := by decide +kernel
theorem dX1_compared_111 : decode cX1_compared 111 = .ok (.iload_n 3, 1) := by decide +kernel
theorem dX1_compared_112 : decode cX1_compared 112 = .ok (.ifCond .eq 7, 3) := by decide +kernel
theorem dX1_compared_115 : decode cX1_compared 115 = .ok (.iconst 1, 1) := by decide +kernel
theorem dX1_compared_116 : decode cX1_compared 116 = .ok (.goto 4, 3) := by decide +kernel
theorem dX1_compared_119 : decode cX1_compared 119 = .ok (.iconst 0, 1) := by decide +kernel
theorem dX1_compared_120 : decode cX1_compared 120 = .ok (.ireturn, 1) := by decide +kernel
theorem dX1_isJoining_0 : decode cX1_isJoining 0 = .ok (.iload_n 0, 1) := by decide +kernel
theorem dX1_isJoining_1 : decode cX1_isJoining 1 = .ok (.bipush 43, 2) := by decide +kernel
theorem dX1_isJoining_3 : decode cX1_isJoining 3 = .ok (.if_icmp .eq 28, 3) := by decide +kernel
theorem dX1_isJoining_6 : decode cX1_isJoining 6 = .ok (.iload_n 0, 1) := by decide +kernel
theorem dX1_isJoining_7 : decode cX1_isJoining 7 = .ok (.bipush 45, 2) := by decide +kernel
theorem dX1_isJoining_9 : decode cX1_isJoining 9 = .ok (.if_icmp .eq 22, 3) := by decide +kernel
theorem dX1_isJoining_12 : decode cX1_isJoining 12 = .ok (.iload_n 0, 1) := by decide +kernel
theorem dX1_isJoining_13 : decode cX1_isJoining 13 = .ok (.bipush 42, 2) := by decide +kernel
theorem dX1_isJoining_15 : decode cX1_isJoining 15 = .ok (.if_icmp .eq 16, 3) := by decide +kernel
theorem dX1_isJoining_18 : decode cX1_isJoining 18 = .ok (.iload_n 0, 1) := by decide +kernel
theorem dX1_isJoining_19 : decode cX1_isJoining 19 = .ok (.bipush 47, 2) := by decide +kernel
theorem dX1_isJoining_21 : decode cX1_isJoining 21 = .ok (.if_icmp .eq 10, 3) := by decide +kernel
theorem dX1_isJoining_24 : decode cX1_isJoining 24 = .ok (.iload_n 0, 1) := by decide +kernel
theorem dX1_isJoining_25 : decode cX1_isJoining 25 = .ok (.sipush 328, 3) := by decide +kernel
theorem dX1_isJoining_28 : decode cX1_isJoining 28 = .ok (.if_icmp .lt 7, 3) := by decide +kernel
theorem dX1_isJoining_31 : decode cX1_isJoining 31 = .ok (.iconst 1, 1) := by decide +kernel
theorem dX1_isJoining_32 : decode cX1_isJoining 32 = .ok (.goto 4, 3) := by decide +kernel
theorem dX1_isJoining_35 : decode cX1_isJoining 35 = .ok (.iconst 0, 1) := by decide +kernel
theorem dX1_isJoining_36 : decode cX1_isJoining 36 = .ok (.ireturn, 1) := by decide +kernel
theorem dX1_joined_0 : decode cX1_joined 0 = .ok (.iload_n 0, 1) := by decide +kernel
theorem dX1_joined_1 : decode cX1_joined 1 = .ok (.lookupswitch 117 #[(42, 75), (43, 67), (45, 71), (47, 79), (328, 113), (330, 91), (331, 102)], 67) := by decide +kernel
theorem dX1_joined_68 : decode cX1_joined 68 = .ok (.iload_n 1, 1) := by decide +kernel
theorem dX1_joined_69 : decode cX1_joined 69 = .ok (.iload_n 2, 1) := by decide +kernel
theorem dX1_joined_70 : decode cX1_joined 70 = .ok (.iadd, 1) := by decide +kernel
theorem dX1_joined_71 : decode cX1_joined 71 = .ok (.ireturn, 1) := by decide +kernel
theorem dX1_joined_72 : decode cX1_joined 72 = .ok (.iload_n 1, 1) := by decide +kernel
theorem dX1_joined_73 : decode cX1_joined 73 = .ok (.iload_n 2, 1) := by decide +kernel
theorem dX1_joined_74 : decode cX1_joined 74 = .ok (.isub, 1) := by decide +kernel
theorem dX1_joined_75 : decode cX1_joined 75 = .ok (.ireturn, 1) := by decide +kernel
theorem dX1_joined_76 : decode cX1_joined 76 = .ok (.iload_n 1, 1) := by decide +kernel
theorem dX1_joined_77 : decode cX1_joined 77 = .ok (.iload_n 2, 1) := by decide +kernel
theorem dX1_joined_78 : decode cX1_joined 78 = .ok (.imul, 1) := by decide +kernel
theorem dX1_joined_79 : decode cX1_joined 79 = .ok (.ireturn, 1) := by decide +kernel
theorem dX1_joined_80 : decode cX1_joined 80 = .ok (.iload_n 2, 1) := by decide +kernel
theorem dX1_joined_81 : decode cX1_joined 81 = .ok (.ifCond .ne 7, 3) := by decide +kernel
theorem dX1_joined_84 : decode cX1_joined 84 = .ok (.iconst 0, 1) := by decide +kernel
theorem dX1_joined_85 : decode cX1_joined 85 = .ok (.goto 6, 3) := by decide +kernel
theorem dX1_joined_88 : decode cX1_joined 88 = .ok (.iload_n 1, 1) := by decide +kernel
theorem dX1_joined_89 : decode cX1_joined 89 = .ok (.iload_n 2, 1) := by decide +kernel
theorem dX1_joined_90 : decode cX1_joined 90 = .ok (.idiv, 1) := by decide +kernel
theorem dX1_joined_91 : decode cX1_joined 91 = .ok (.ireturn, 1) := by decide +kernel
theorem dX1_joined_92 : decode cX1_joined 92 = .ok (.iload_n 1, 1) := by decide +kernel
theorem dX1_joined_93 : decode cX1_joined 93 = .ok (.iload_n 2, 1) := by decide +kernel
theorem dX1_joined_94 : decode cX1_joined 94 = .ok (.if_icmp .ge 7, 3) := by decide +kernel
theorem dX1_joined_97 : decode cX1_joined 97 = .ok (.iload_n 1, 1) := by decide +kernel
theorem dX1_joined_98 : decode cX1_joined 98 = .ok (.goto 4, 3) := by decide +kernel
theorem dX1_joined_101 : decode cX1_joined 101 = .ok (.iload_n 2, 1) := by decide +kernel
theorem dX1_joined_102 : decode cX1_joined 102 = .ok (.ireturn, 1) := by decide +kernel
theorem dX1_joined_103 : decode cX1_joined 103 = .ok (.iload_n 1, 1) := by decide +kernel
theorem dX1_joined_104 : decode cX1_joined 104 = .ok (.iload_n 2, 1) := by decide +kernel
theorem dX1_joined_105 : decode cX1_joined 105 = .ok (.if_icmp .le 7, 3) := by decide +kernel
theorem dX1_joined_108 : decode cX1_joined 108 = .ok (.iload_n 1, 1) := by decide +kernel
theorem dX1_joined_109 : decode cX1_joined 109 = .ok (.goto 4, 3) := by decide +kernel
theorem dX1_joined_112 : decode cX1_joined 112 = .ok (.iload_n 2, 1) := by decide +kernel
theorem dX1_joined_113 : decode cX1_joined 113 = .ok (.ireturn, 1) := by decide +kernel
theorem dX1_joined_114 : decode cX1_joined 114 = .ok (.iload_n 1, 1) := by decide +kernel
theorem dX1_joined_115 : decode cX1_joined 115 = .ok (.iload_n 2, 1) := by decide +kernel
theorem dX1_joined_116 : decode cX1_joined 116 = .ok (.iand, 1) := by decide +kernel
theorem dX1_joined_117 : decode cX1_joined 117 = .ok (.ireturn, 1) := by decide +kernel
theorem dX1_joined_118 : decode cX1_joined 118 = .ok (.iload_n 1, 1) := by decide +kernel
theorem dX1_joined_119 : decode cX1_joined 119 = .ok (.iload_n 2, 1) := by decide +kernel
theorem dX1_joined_120 : decode cX1_joined 120 = .ok (.ior, 1) := by decide +kernel
theorem dX1_joined_121 : decode cX1_joined 121 = .ok (.ireturn, 1) := by decide +kernel
theorem dX1_pop_0 : decode cX1_pop 0 = .ok (.aload_n 0, 1) := by decide +kernel
theorem dX1_pop_1 : decode cX1_pop 1 = .ok (.getfield 31, 3) := by decide +kernel
theorem dX1_pop_4 : decode cX1_pop 4 = .ok (.ifCond .le 15, 3) := by decide +kernel
theorem dX1_pop_7 : decode cX1_pop 7 = .ok (.aload_n 0, 1) := by decide +kernel
theorem dX1_pop_8 : decode cX1_pop 8 = .ok (.getfield 31, 3) := by decide +kernel
theorem dX1_pop_11 : decode cX1_pop 11 = .ok (.aload_n 0, 1) := by decide +kernel
theorem dX1_pop_12 : decode cX1_pop 12 = .ok (.getfield 20, 3) := by decide +kernel
theorem dX1_pop_15 : decode cX1_pop 15 = .ok (.arraylength, 1) := by decide +kernel
theorem dX1_pop_16 : decode cX1_pop 16 = .ok (.if_icmp .le 5, 3) := by decide +kernel
theorem dX1_pop_19 : decode cX1_pop 19 = .ok (.iconst 0, 1) := by decide +kernel
theorem dX1_pop_20 : decode cX1_pop 20 = .ok (.ireturn, 1) := by decide +kernel
theorem dX1_pop_21 : decode cX1_pop 21 = .ok (.aload_n 0, 1) := by decide +kernel
theorem dX1_pop_22 : decode cX1_pop 22 = .ok (.dup, 1) := by decide +kernel
theorem dX1_pop_23 : decode cX1_pop 23 = .ok (.getfield 31, 3) := by decide +kernel
theorem dX1_pop_26 : decode cX1_pop 26 = .ok (.iconst 1, 1) := by decide +kernel
theorem dX1_pop_27 : decode cX1_pop 27 = .ok (.isub, 1) := by decide +kernel
theorem dX1_pop_28 : decode cX1_pop 28 = .ok (.putfield 31, 3) := by decide +kernel
theorem dX1_pop_31 : decode cX1_pop 31 = .ok (.aload_n 0, 1) := by decide +kernel
theorem dX1_pop_32 : decode cX1_pop 32 = .ok (.getfield 20, 3) := by decide +kernel
theorem dX1_pop_35 : decode cX1_pop 35 = .ok (.aload_n 0, 1) := by decide +kernel
theorem dX1_pop_36 : decode cX1_pop 36 = .ok (.getfield 31, 3) := by decide +kernel
theorem dX1_pop_39 : decode cX1_pop 39 = .ok (.iaload, 1) := by decide +kernel
theorem dX1_pop_40 : decode cX1_pop 40 = .ok (.ireturn, 1) := by decide +kernel
theorem dX1_push_0 : decode cX1_push 0 = .ok (.aload_n 0, 1) := by decide +kernel
theorem dX1_push_1 : decode cX1_push 1 = .ok (.getfield 31, 3) := by decide +kernel
theorem dX1_push_4 : decode cX1_push 4 = .ok (.ifCond .lt 35, 3) := by decide +kernel
theorem dX1_push_7 : decode cX1_push 7 = .ok (.aload_n 0, 1) := by decide +kernel
theorem dX1_push_8 : decode cX1_push 8 = .ok (.getfield 31, 3) := by decide +kernel
theorem dX1_push_11 : decode cX1_push 11 = .ok (.aload_n 0, 1) := by decide +kernel
theorem dX1_push_12 : decode cX1_push 12 = .ok (.getfield 20, 3) := by decide +kernel
theorem dX1_push_15 : decode cX1_push 15 = .ok (.arraylength, 1) := by decide +kernel
theorem dX1_push_16 : decode cX1_push 16 = .ok (.if_icmp .ge 23, 3) := by decide +kernel
theorem dX1_push_19 : decode cX1_push 19 = .ok (.aload_n 0, 1) := by decide +kernel
theorem dX1_push_20 : decode cX1_push 20 = .ok (.getfield 20, 3) := by decide +kernel
theorem dX1_push_23 : decode cX1_push 23 = .ok (.aload_n 0, 1) := by decide +kernel
theorem dX1_push_24 : decode cX1_push 24 = .ok (.getfield 31, 3) := by decide +kernel
theorem dX1_push_27 : decode cX1_push 27 = .ok (.iload_n 1, 1) := by decide +kernel
theorem dX1_push_28 : decode cX1_push 28 = .ok (.iastore, 1) := by decide +kernel
theorem dX1_push_29 : decode cX1_push 29 = .ok (.aload_n 0, 1) := by decide +kernel
theorem dX1_push_30 : decode cX1_push 30 = .ok (.dup, 1) := by decide +kernel
theorem dX1_push_31 : decode cX1_push 31 = .ok (.getfield 31, 3) := by decide +kernel
theorem dX1_push_34 : decode cX1_push 34 = .ok (.iconst 1, 1) := by decide +kernel
theorem dX1_push_35 : decode cX1_push 35 = .ok (.iadd, 1) := by decide +kernel
theorem dX1_push_36 : decode cX1_push 36 = .ok (.putfield 31, 3) := by decide +kernel
theorem dX1_push_39 : decode cX1_push 39 = .ok (.return_, 1) := by decide +kernel
/-! Code: the row of steps and its reckoning -/
theorem k_ti {x v : Int32} {n : Int} (hv : v.toInt = n) (h : ¬ x = v) : ¬ n = x.toInt := fun e => h (Int32.toInt_inj.mp (by rw [hv, e]))
def jnE (k l r : Int32) : Int32 := if k = 43 then l + r else if k = 45 then l - r else if k = 42 then l * r else if k = 47 then (if r = 0 then 0 else l / r) else if k = 330 then (if l < r then l else r) else if k = 331 then (if r < l then l else r) else if k = 328 then l &&& r else l ||| r
def cmE (k l r : Int32) : Int32 := if k = 60 then bI (l < r) else if k = 62 then bI (r < l) else if k = 61 then bI (l = r) else if k = 260 then bI (l ≤ r) else bI (r ≤ l)
def ijE (k : Int32) : Prop := k = 43 ∨ k = 45 ∨ k = 42 ∨ k = 47 ∨ 328 ≤ k
/-- a step on a stack, the latest value first; an empty stack gives 0 -/
def stE (rd : Int32 → Int32 → Int32) (k g : Int32) (st : List Int32) : List Int32 :=
  if k = 259 then g :: st
  else if k = 262 then (-(st.headD 0)) :: st.tail
  else if k = 327 then (1 - st.headD 0) :: st.tail
  else if 319 ≤ k ∧ k ≤ 326 then rd k g :: st
  else (if k = 43 ∨ k = 45 ∨ k = 42 ∨ k = 47 ∨ 328 ≤ k then jnE k (st.tail.headD 0) (st.headD 0) else cmE k (st.tail.headD 0) (st.headD 0)) :: st.tail.tail
/-- the steps from p on, n of them -/
def evE (rd : Int32 → Int32 → Int32) (K A : Nat → Int32) (p : Nat) : Nat → List Int32 → List Int32
  | 0, st => st
  | n + 1, st => evE rd K A (p + 1) n (stE rd (K p) (A p) st)
section CodeB
variable {G : Gp} {S : AMem} {I : Nat → Nat → Int32} {J : Nat → Nat → Int64} {R : Nat → Nat → Option Nat} {a kk aa ss c : Nat}
theorem k_X1_isJoining {k : Int32} : Fn G mX1_isJoining 0 [vI k] (mw S I J R) (fun rr M1 => rr = some (vI (bI (k = 43 ∨ k = 45 ∨ k = 42 ∨ k = 47 ∨ 328 ≤ k))) ∧ M1 = mw S I J R) := by
  refine am_iload_n (q := 1) dX1_isJoining_0 rfl rfl ?_
  refine am_bipush (q := 3) (v := 43) dX1_isJoining_1 kc_b43 rfl ?_
  refine am_icmp_eq (tgt := 31) (q := 6) dX1_isJoining_3 rfl rfl (fun h1 => ?_) (fun h1 => ?_)
  · refine am_iconst (q := 32) (v := 1) dX1_isJoining_31 kc_i1 rfl ?_
    refine am_goto (tgt := 36) dX1_isJoining_32 rfl ?_
    exact am_iret dX1_isJoining_36 rfl rfl ⟨_, rfl, by rw [bI_t (Or.inl h1)], rfl⟩
  · refine am_iload_n (q := 7) dX1_isJoining_6 rfl rfl ?_
    refine am_bipush (q := 9) (v := 45) dX1_isJoining_7 kc_b45 rfl ?_
    refine am_icmp_eq (tgt := 31) (q := 12) dX1_isJoining_9 rfl rfl (fun h2 => ?_) (fun h2 => ?_)
    · refine am_iconst (q := 32) (v := 1) dX1_isJoining_31 kc_i1 rfl ?_
      refine am_goto (tgt := 36) dX1_isJoining_32 rfl ?_
      exact am_iret dX1_isJoining_36 rfl rfl ⟨_, rfl, by rw [bI_t (Or.inr (Or.inl h2))], rfl⟩
    · refine am_iload_n (q := 13) dX1_isJoining_12 rfl rfl ?_
      refine am_bipush (q := 15) (v := 42) dX1_isJoining_13 kc_b42 rfl ?_
      refine am_icmp_eq (tgt := 31) (q := 18) dX1_isJoining_15 rfl rfl (fun h3 => ?_) (fun h3 => ?_)
      · refine am_iconst (q := 32) (v := 1) dX1_isJoining_31 kc_i1 rfl ?_
        refine am_goto (tgt := 36) dX1_isJoining_32 rfl ?_
        exact am_iret dX1_isJoining_36 rfl rfl ⟨_, rfl, by rw [bI_t (Or.inr (Or.inr (Or.inl h3)))], rfl⟩
      · refine am_iload_n (q := 19) dX1_isJoining_18 rfl rfl ?_
        refine am_bipush (q := 21) (v := 47) dX1_isJoining_19 kc_b47 rfl ?_
        refine am_icmp_eq (tgt := 31) (q := 24) dX1_isJoining_21 rfl rfl (fun h4 => ?_) (fun h4 => ?_)
        · refine am_iconst (q := 32) (v := 1) dX1_isJoining_31 kc_i1 rfl ?_
          refine am_goto (tgt := 36) dX1_isJoining_32 rfl ?_
          exact am_iret dX1_isJoining_36 rfl rfl ⟨_, rfl, by rw [bI_t (Or.inr (Or.inr (Or.inr (Or.inl h4))))], rfl⟩
        · refine am_iload_n (q := 25) dX1_isJoining_24 rfl rfl ?_
          refine am_sipush (q := 28) (v := 328) dX1_isJoining_25 kc_s328 rfl ?_
          refine am_icmp_lt (tgt := 35) (q := 31) dX1_isJoining_28 rfl rfl (fun h5 => ?_) (fun h5 => ?_)
          · refine am_iconst (q := 36) (v := 0) dX1_isJoining_35 kc_i0 rfl ?_
            exact am_iret dX1_isJoining_36 rfl rfl ⟨_, rfl, by rw [bI_f (fun z => by
              rcases z with z | z | z | z | z
              · exact h1 z
              · exact h2 z
              · exact h3 z
              · exact h4 z
              · exact Int32.not_le.mpr h5 z)], rfl⟩
          · refine am_iconst (q := 32) (v := 1) dX1_isJoining_31 kc_i1 rfl ?_
            refine am_goto (tgt := 36) dX1_isJoining_32 rfl ?_
            exact am_iret dX1_isJoining_36 rfl rfl ⟨_, rfl, by rw [bI_t (Or.inr (Or.inr (Or.inr (Or.inr (Int32.not_lt.mp h5)))))], rfl⟩
theorem k_X1_joined {k l r : Int32} : Fn G mX1_joined 0 [vI k, vI l, vI r] (mw S I J R) (fun rr M1 => rr = some (vI (jnE k l r)) ∧ M1 = mw S I J R) := by
  by_cases h43 : k = 43
  · subst h43
    refine am_iload_n (q := 1) dX1_joined_0 rfl rfl ?_
    refine am_lookup (tgt := 68) dX1_joined_1 (by decide) rfl rfl ?_
    refine am_iload_n (q := 69) dX1_joined_68 rfl rfl ?_
    refine am_iload_n (q := 70) dX1_joined_69 rfl rfl ?_
    refine am_iadd (q := 71) dX1_joined_70 rfl ?_
    exact am_iret dX1_joined_71 rfl rfl ⟨_, rfl, rfl, rfl⟩
  by_cases h45 : k = 45
  · subst h45
    refine am_iload_n (q := 1) dX1_joined_0 rfl rfl ?_
    refine am_lookup (tgt := 72) dX1_joined_1 (by decide) rfl rfl ?_
    refine am_iload_n (q := 73) dX1_joined_72 rfl rfl ?_
    refine am_iload_n (q := 74) dX1_joined_73 rfl rfl ?_
    refine am_isub (q := 75) dX1_joined_74 rfl ?_
    exact am_iret dX1_joined_75 rfl rfl ⟨_, rfl, rfl, rfl⟩
  by_cases h42 : k = 42
  · subst h42
    refine am_iload_n (q := 1) dX1_joined_0 rfl rfl ?_
    refine am_lookup (tgt := 76) dX1_joined_1 (by decide) rfl rfl ?_
    refine am_iload_n (q := 77) dX1_joined_76 rfl rfl ?_
    refine am_iload_n (q := 78) dX1_joined_77 rfl rfl ?_
    refine am_imul (q := 79) dX1_joined_78 rfl ?_
    exact am_iret dX1_joined_79 rfl rfl ⟨_, rfl, rfl, rfl⟩
  by_cases h47 : k = 47
  · subst h47
    have e : jnE 47 l r = if r = 0 then 0 else l / r := rfl
    refine am_iload_n (q := 1) dX1_joined_0 rfl rfl ?_
    refine am_lookup (tgt := 80) dX1_joined_1 (by decide) rfl rfl ?_
    refine am_iload_n (q := 81) dX1_joined_80 rfl rfl ?_
    refine am_if_ne (tgt := 88) (q := 84) dX1_joined_81 rfl rfl (fun hr => ?_) (fun hr => ?_)
    · refine am_iload_n (q := 89) dX1_joined_88 rfl rfl ?_
      refine am_iload_n (q := 90) dX1_joined_89 rfl rfl ?_
      refine am_idiv (q := 91) dX1_joined_90 hr rfl ?_
      exact am_iret dX1_joined_91 rfl rfl ⟨_, rfl, by rw [e, if_neg hr], rfl⟩
    · refine am_iconst (q := 85) (v := 0) dX1_joined_84 kc_i0 rfl ?_
      refine am_goto (tgt := 91) dX1_joined_85 rfl ?_
      exact am_iret dX1_joined_91 rfl rfl ⟨_, rfl, by rw [e, if_pos hr], rfl⟩
  by_cases h330 : k = 330
  · subst h330
    have e : jnE 330 l r = if l < r then l else r := rfl
    refine am_iload_n (q := 1) dX1_joined_0 rfl rfl ?_
    refine am_lookup (tgt := 92) dX1_joined_1 (by decide) rfl rfl ?_
    refine am_iload_n (q := 93) dX1_joined_92 rfl rfl ?_
    refine am_iload_n (q := 94) dX1_joined_93 rfl rfl ?_
    refine am_icmp_ge (tgt := 101) (q := 97) dX1_joined_94 rfl rfl (fun hr => ?_) (fun hr => ?_)
    · refine am_iload_n (q := 102) dX1_joined_101 rfl rfl ?_
      exact am_iret dX1_joined_102 rfl rfl ⟨_, rfl, by rw [e, if_neg (Int32.not_lt.mpr hr)], rfl⟩
    · refine am_iload_n (q := 98) dX1_joined_97 rfl rfl ?_
      refine am_goto (tgt := 102) dX1_joined_98 rfl ?_
      exact am_iret dX1_joined_102 rfl rfl ⟨_, rfl, by rw [e, if_pos (Int32.not_le.mp hr)], rfl⟩
  by_cases h331 : k = 331
  · subst h331
    have e : jnE 331 l r = if r < l then l else r := rfl
    refine am_iload_n (q := 1) dX1_joined_0 rfl rfl ?_
    refine am_lookup (tgt := 103) dX1_joined_1 (by decide) rfl rfl ?_
    refine am_iload_n (q := 104) dX1_joined_103 rfl rfl ?_
    refine am_iload_n (q := 105) dX1_joined_104 rfl rfl ?_
    refine am_icmp_le (tgt := 112) (q := 108) dX1_joined_105 rfl rfl (fun hr => ?_) (fun hr => ?_)
    · refine am_iload_n (q := 113) dX1_joined_112 rfl rfl ?_
      exact am_iret dX1_joined_113 rfl rfl ⟨_, rfl, by rw [e, if_neg (Int32.not_lt.mpr hr)], rfl⟩
    · refine am_iload_n (q := 109) dX1_joined_108 rfl rfl ?_
      refine am_goto (tgt := 113) dX1_joined_109 rfl ?_
      exact am_iret dX1_joined_113 rfl rfl ⟨_, rfl, by rw [e, if_pos (Int32.not_le.mp hr)], rfl⟩
  by_cases h328 : k = 328
  · subst h328
    refine am_iload_n (q := 1) dX1_joined_0 rfl rfl ?_
    refine am_lookup (tgt := 114) dX1_joined_1 (by decide) rfl rfl ?_
    refine am_iload_n (q := 115) dX1_joined_114 rfl rfl ?_
    refine am_iload_n (q := 116) dX1_joined_115 rfl rfl ?_
    refine am_iand (q := 117) dX1_joined_116 rfl ?_
    exact am_iret dX1_joined_117 rfl rfl ⟨_, rfl, rfl, rfl⟩
  · have ho : Op.lookupswitch.offset (#[(42, 75), (43, 67), (45, 71), (47, 79), (328, 113), (330, 91), (331, 102)] : Array (Int × Int)).toList 117 k.toInt = 117 := by
      show Op.lookupswitch.offset [(42, 75), (43, 67), (45, 71), (47, 79), (328, 113), (330, 91), (331, 102)] 117 k.toInt = 117
      simp only [Op.lookupswitch.offset]
      rw [if_neg (k_ti (v := 42) (n := 42) rfl h42), if_neg (k_ti (v := 43) (n := 43) rfl h43), if_neg (k_ti (v := 45) (n := 45) rfl h45), if_neg (k_ti (v := 47) (n := 47) rfl h47), if_neg (k_ti (v := 328) (n := 328) rfl h328), if_neg (k_ti (v := 330) (n := 330) rfl h330), if_neg (k_ti (v := 331) (n := 331) rfl h331)]
    have e : jnE k l r = l ||| r := by
      unfold jnE
      rw [if_neg h43, if_neg h45, if_neg h42, if_neg h47, if_neg h330, if_neg h331, if_neg h328]
    refine am_iload_n (q := 1) dX1_joined_0 rfl rfl ?_
    refine am_lookup (tgt := 118) dX1_joined_1 (by decide) ho rfl ?_
    refine am_iload_n (q := 119) dX1_joined_118 rfl rfl ?_
    refine am_iload_n (q := 120) dX1_joined_119 rfl rfl ?_
    refine am_ior (q := 121) dX1_joined_120 rfl ?_
    exact am_iret dX1_joined_121 rfl rfl ⟨_, rfl, by rw [e], rfl⟩
theorem k_X1_compared {k l r : Int32} : Fn G mX1_compared 0 [vI k, vI l, vI r] (mw S I J R) (fun rr M1 => rr = some (vI (cmE k l r)) ∧ M1 = mw S I J R) := by
  have tl : ∀ x : Int32, x = 0 ∨ x = 1 → x = cmE k l r → MW G mX1_compared 0 111 [some (vI k), some (vI l), some (vI r), some (vI x)] [] (mw S I J R) (fun f M1 => ∃ rr, f = .inl rr ∧ (rr = some (vI (cmE k l r)) ∧ M1 = mw S I J R)) := by
    intro x hx he
    rcases hx with rfl | rfl
    · refine am_iload_n (q := 112) dX1_compared_111 rfl rfl ?_
      refine am_if_eq (tgt := 119) (q := 115) dX1_compared_112 rfl rfl (fun _ => ?_) (fun hz => absurd rfl hz)
      refine am_iconst (q := 120) (v := 0) dX1_compared_119 kc_i0 rfl ?_
      exact am_iret dX1_compared_120 rfl rfl ⟨_, rfl, by rw [← he], rfl⟩
    · refine am_iload_n (q := 112) dX1_compared_111 rfl rfl ?_
      refine am_if_eq (tgt := 119) (q := 115) dX1_compared_112 rfl rfl (fun hz => absurd hz (by decide)) (fun _ => ?_)
      refine am_iconst (q := 116) (v := 1) dX1_compared_115 kc_i1 rfl ?_
      refine am_goto (tgt := 120) dX1_compared_116 rfl ?_
      exact am_iret dX1_compared_120 rfl rfl ⟨_, rfl, by rw [← he], rfl⟩
  by_cases h60 : k = 60
  · subst h60
    have e : cmE 60 l r = bI (l < r) := rfl
    refine am_iload_n (q := 1) dX1_compared_0 rfl rfl ?_
    refine am_lookup (tgt := 44) dX1_compared_1 (by decide) rfl rfl ?_
    refine am_iload_n (q := 45) dX1_compared_44 rfl rfl ?_
    refine am_iload_n (q := 46) dX1_compared_45 rfl rfl ?_
    refine am_icmp_ge (tgt := 53) (q := 49) dX1_compared_46 rfl rfl (fun hr => ?_) (fun hr => ?_)
    · refine am_iconst (q := 54) (v := 0) dX1_compared_53 kc_i0 rfl ?_
      refine am_istore_n (q := 55) (ls1 := [_, _, _, _]) dX1_compared_54 (Nat.le_of_ble_eq_true rfl) rfl rfl ?_
      refine am_goto (tgt := 111) dX1_compared_55 rfl ?_
      exact tl 0 (Or.inl rfl) (by rw [e, bI_f (Int32.not_lt.mpr hr)])
    · refine am_iconst (q := 50) (v := 1) dX1_compared_49 kc_i1 rfl ?_
      refine am_goto (tgt := 54) dX1_compared_50 rfl ?_
      refine am_istore_n (q := 55) (ls1 := [_, _, _, _]) dX1_compared_54 (Nat.le_of_ble_eq_true rfl) rfl rfl ?_
      refine am_goto (tgt := 111) dX1_compared_55 rfl ?_
      exact tl 1 (Or.inr rfl) (by rw [e, bI_t (Int32.not_le.mp hr)])
  by_cases h62 : k = 62
  · subst h62
    have e : cmE 62 l r = bI (r < l) := rfl
    refine am_iload_n (q := 1) dX1_compared_0 rfl rfl ?_
    refine am_lookup (tgt := 58) dX1_compared_1 (by decide) rfl rfl ?_
    refine am_iload_n (q := 59) dX1_compared_58 rfl rfl ?_
    refine am_iload_n (q := 60) dX1_compared_59 rfl rfl ?_
    refine am_icmp_le (tgt := 67) (q := 63) dX1_compared_60 rfl rfl (fun hr => ?_) (fun hr => ?_)
    · refine am_iconst (q := 68) (v := 0) dX1_compared_67 kc_i0 rfl ?_
      refine am_istore_n (q := 69) (ls1 := [_, _, _, _]) dX1_compared_68 (Nat.le_of_ble_eq_true rfl) rfl rfl ?_
      refine am_goto (tgt := 111) dX1_compared_69 rfl ?_
      exact tl 0 (Or.inl rfl) (by rw [e, bI_f (Int32.not_lt.mpr hr)])
    · refine am_iconst (q := 64) (v := 1) dX1_compared_63 kc_i1 rfl ?_
      refine am_goto (tgt := 68) dX1_compared_64 rfl ?_
      refine am_istore_n (q := 69) (ls1 := [_, _, _, _]) dX1_compared_68 (Nat.le_of_ble_eq_true rfl) rfl rfl ?_
      refine am_goto (tgt := 111) dX1_compared_69 rfl ?_
      exact tl 1 (Or.inr rfl) (by rw [e, bI_t (Int32.not_le.mp hr)])
  by_cases h61 : k = 61
  · subst h61
    have e : cmE 61 l r = bI (l = r) := rfl
    refine am_iload_n (q := 1) dX1_compared_0 rfl rfl ?_
    refine am_lookup (tgt := 72) dX1_compared_1 (by decide) rfl rfl ?_
    refine am_iload_n (q := 73) dX1_compared_72 rfl rfl ?_
    refine am_iload_n (q := 74) dX1_compared_73 rfl rfl ?_
    refine am_icmp_ne (tgt := 81) (q := 77) dX1_compared_74 rfl rfl (fun hr => ?_) (fun hr => ?_)
    · refine am_iconst (q := 82) (v := 0) dX1_compared_81 kc_i0 rfl ?_
      refine am_istore_n (q := 83) (ls1 := [_, _, _, _]) dX1_compared_82 (Nat.le_of_ble_eq_true rfl) rfl rfl ?_
      refine am_goto (tgt := 111) dX1_compared_83 rfl ?_
      exact tl 0 (Or.inl rfl) (by rw [e, bI_f hr])
    · refine am_iconst (q := 78) (v := 1) dX1_compared_77 kc_i1 rfl ?_
      refine am_goto (tgt := 82) dX1_compared_78 rfl ?_
      refine am_istore_n (q := 83) (ls1 := [_, _, _, _]) dX1_compared_82 (Nat.le_of_ble_eq_true rfl) rfl rfl ?_
      refine am_goto (tgt := 111) dX1_compared_83 rfl ?_
      exact tl 1 (Or.inr rfl) (by rw [e, bI_t hr])
  by_cases h260 : k = 260
  · subst h260
    have e : cmE 260 l r = bI (l ≤ r) := rfl
    refine am_iload_n (q := 1) dX1_compared_0 rfl rfl ?_
    refine am_lookup (tgt := 86) dX1_compared_1 (by decide) rfl rfl ?_
    refine am_iload_n (q := 87) dX1_compared_86 rfl rfl ?_
    refine am_iload_n (q := 88) dX1_compared_87 rfl rfl ?_
    refine am_icmp_gt (tgt := 95) (q := 91) dX1_compared_88 rfl rfl (fun hr => ?_) (fun hr => ?_)
    · refine am_iconst (q := 96) (v := 0) dX1_compared_95 kc_i0 rfl ?_
      refine am_istore_n (q := 97) (ls1 := [_, _, _, _]) dX1_compared_96 (Nat.le_of_ble_eq_true rfl) rfl rfl ?_
      refine am_goto (tgt := 111) dX1_compared_97 rfl ?_
      exact tl 0 (Or.inl rfl) (by rw [e, bI_f (Int32.not_le.mpr hr)])
    · refine am_iconst (q := 92) (v := 1) dX1_compared_91 kc_i1 rfl ?_
      refine am_goto (tgt := 96) dX1_compared_92 rfl ?_
      refine am_istore_n (q := 97) (ls1 := [_, _, _, _]) dX1_compared_96 (Nat.le_of_ble_eq_true rfl) rfl rfl ?_
      refine am_goto (tgt := 111) dX1_compared_97 rfl ?_
      exact tl 1 (Or.inr rfl) (by rw [e, bI_t (Int32.not_lt.mp hr)])
  · have ho : Op.lookupswitch.offset (#[(60, 43), (61, 71), (62, 57), (260, 85)] : Array (Int × Int)).toList 99 k.toInt = 99 := by
      show Op.lookupswitch.offset [(60, 43), (61, 71), (62, 57), (260, 85)] 99 k.toInt = 99
      simp only [Op.lookupswitch.offset]
      rw [if_neg (k_ti (v := 60) (n := 60) rfl h60), if_neg (k_ti (v := 61) (n := 61) rfl h61), if_neg (k_ti (v := 62) (n := 62) rfl h62), if_neg (k_ti (v := 260) (n := 260) rfl h260)]
    have e : cmE k l r = bI (r ≤ l) := by
      unfold cmE
      rw [if_neg h60, if_neg h62, if_neg h61, if_neg h260]
    refine am_iload_n (q := 1) dX1_compared_0 rfl rfl ?_
    refine am_lookup (tgt := 100) dX1_compared_1 (by decide) ho rfl ?_
    refine am_iload_n (q := 101) dX1_compared_100 rfl rfl ?_
    refine am_iload_n (q := 102) dX1_compared_101 rfl rfl ?_
    refine am_icmp_lt (tgt := 109) (q := 105) dX1_compared_102 rfl rfl (fun hr => ?_) (fun hr => ?_)
    · refine am_iconst (q := 110) (v := 0) dX1_compared_109 kc_i0 rfl ?_
      refine am_istore_n (q := 111) (ls1 := [_, _, _, _]) dX1_compared_110 (Nat.le_of_ble_eq_true rfl) rfl rfl ?_
      exact tl 0 (Or.inl rfl) (by rw [e, bI_f (Int32.not_le.mpr hr)])
    · refine am_iconst (q := 106) (v := 1) dX1_compared_105 kc_i1 rfl ?_
      refine am_goto (tgt := 110) dX1_compared_106 rfl ?_
      refine am_istore_n (q := 111) (ls1 := [_, _, _, _]) dX1_compared_110 (Nat.le_of_ble_eq_true rfl) rfl rfl ?_
      exact tl 1 (Or.inr rfl) (by rw [e, bI_t (Int32.not_lt.mp hr)])
theorem k_X1_push {v : Int32} {t : Nat} (h1 : S.K a = 2) (h2 : R a 2 = some ss) (h3 : S.K ss = 20) (h4 : S.ln ss = 400) (ht : I a 3 = nI t) (hlt : t < 400) : Fn G mX1_push 0 [vR a, vI v] (mw S I J R) (fun rr M1 => rr = none ∧ M1 = mw S (up2 (up2 I ss t v) a 3 (nI (t + 1))) J R) := by
  have n1 : a ≠ ss := fun e => by rw [e, h3] at h1; exact absurd h1 (by decide)
  refine am_aload_n (q := 1) dX1_push_0 rfl rfl ?_
  refine cm_getI (q := 4) dX1_push_1 flX1_31 rfl (by assumption) rfl ?_
  rw [ht]
  refine am_if_lt (tgt := 39) (q := 7) dX1_push_4 rfl rfl (fun hz => absurd hz (nI_pos (by omega))) (fun _ => ?_)
  refine am_aload_n (q := 8) dX1_push_7 rfl rfl ?_
  refine cm_getI (q := 11) dX1_push_8 flX1_31 rfl (by assumption) rfl ?_
  refine am_aload_n (q := 12) dX1_push_11 rfl rfl ?_
  refine cm_getR (q := 15) dX1_push_12 flX1_20 rfl (by assumption) (by assumption) rfl ?_
  refine cm_alenI (q := 16) dX1_push_15 (by assumption) (by rw [h4] : nI (S.ln ss) = nI 400) rfl ?_
  rw [ht]
  refine am_icmp_ge (tgt := 39) (q := 19) dX1_push_16 rfl rfl (fun hz => absurd hz (nI_ge (by omega) (by decide))) (fun _ => ?_)
  refine am_aload_n (q := 20) dX1_push_19 rfl rfl ?_
  refine cm_getR (q := 23) dX1_push_20 flX1_20 rfl (by assumption) (by assumption) rfl ?_
  refine am_aload_n (q := 24) dX1_push_23 rfl rfl ?_
  refine cm_getI (q := 27) dX1_push_24 flX1_31 rfl (by assumption) rfl ?_
  rw [ht]
  refine am_iload_n (q := 28) dX1_push_27 rfl rfl ?_
  refine cm_iastore (q := 29) dX1_push_28 (by assumption) (by rw [h4]; exact vp_in_nI (by omega) (by decide)) rfl ?_
  refine am_aload_n (q := 30) dX1_push_29 rfl rfl ?_
  refine am_dup (q := 31) dX1_push_30 rfl rfl ?_
  refine cm_getI (q := 34) dX1_push_31 flX1_31 rfl (by assumption) rfl ?_
  refine am_iconst (q := 35) (v := 1) dX1_push_34 kc_i1 rfl ?_
  refine am_iadd (q := 36) dX1_push_35 rfl ?_
  refine cm_putI (q := 39) dX1_push_36 flX1_31 rfl (Or.inl rfl) (Or.inl rfl) (by assumption) rfl ?_
  exact am_ret dX1_push_39 rfl ⟨_, rfl, rfl, by
    rw [nI_clamp (by omega), up2_a n1, ht, nI_1]⟩
theorem k_X1_pop0 (h1 : S.K a = 2) (ht : I a 3 = 0) : Fn G mX1_pop 0 [vR a] (mw S I J R) (fun rr M1 => rr = some (vI 0) ∧ M1 = mw S I J R) := by
  refine am_aload_n (q := 1) dX1_pop_0 rfl rfl ?_
  refine cm_getI (q := 4) dX1_pop_1 flX1_31 rfl (by assumption) rfl ?_
  rw [ht]
  refine am_if_le (tgt := 19) (q := 7) dX1_pop_4 rfl rfl (fun _ => ?_) (fun hz => absurd (Int32.le_refl _) hz)
  refine am_iconst (q := 20) (v := 0) dX1_pop_19 kc_i0 rfl ?_
  exact am_iret dX1_pop_20 rfl rfl ⟨_, rfl, rfl, rfl⟩
theorem k_X1_pop {t : Nat} (h1 : S.K a = 2) (h2 : R a 2 = some ss) (h3 : S.K ss = 20) (h4 : S.ln ss = 400) (ht : I a 3 = nI (t + 1)) (hlt : t < 400) : Fn G mX1_pop 0 [vR a] (mw S I J R) (fun rr M1 => rr = some (vI (I ss t)) ∧ M1 = mw S (up2 I a 3 (nI t)) J R) := by
  have n1 : ss ≠ a := fun e => by rw [e, h1] at h3; exact absurd h3 (by decide)
  have e1 : nI (t + 1) - 1 = nI t := nI_pred t
  refine am_aload_n (q := 1) dX1_pop_0 rfl rfl ?_
  refine cm_getI (q := 4) dX1_pop_1 flX1_31 rfl (by assumption) rfl ?_
  rw [ht]
  refine am_if_le (tgt := 19) (q := 7) dX1_pop_4 rfl rfl (fun hz => absurd hz (nI_nle (by omega) (by omega))) (fun _ => ?_)
  refine am_aload_n (q := 8) dX1_pop_7 rfl rfl ?_
  refine cm_getI (q := 11) dX1_pop_8 flX1_31 rfl (by assumption) rfl ?_
  refine am_aload_n (q := 12) dX1_pop_11 rfl rfl ?_
  refine cm_getR (q := 15) dX1_pop_12 flX1_20 rfl (by assumption) (by assumption) rfl ?_
  refine cm_alenI (q := 16) dX1_pop_15 (by assumption) (by rw [h4] : nI (S.ln ss) = nI 400) rfl ?_
  rw [ht]
  refine am_icmp_le (tgt := 21) (q := 19) dX1_pop_16 rfl rfl (fun _ => ?_) (fun hz => absurd (nI_le (by omega) (by decide)) hz)
  refine am_aload_n (q := 22) dX1_pop_21 rfl rfl ?_
  refine am_dup (q := 23) dX1_pop_22 rfl rfl ?_
  refine cm_getI (q := 26) dX1_pop_23 flX1_31 rfl (by assumption) rfl ?_
  refine am_iconst (q := 27) (v := 1) dX1_pop_26 kc_i1 rfl ?_
  refine am_isub (q := 28) dX1_pop_27 rfl ?_
  refine cm_putI (q := 31) dX1_pop_28 flX1_31 rfl (Or.inl rfl) (Or.inl rfl) (by assumption) rfl ?_
  refine am_aload_n (q := 32) dX1_pop_31 rfl rfl ?_
  refine cm_getR (q := 35) dX1_pop_32 flX1_20 rfl (by assumption) (by assumption) rfl ?_
  refine am_aload_n (q := 36) dX1_pop_35 rfl rfl ?_
  refine cm_getI (q := 39) dX1_pop_36 flX1_31 rfl (by assumption) rfl ?_
  rw [up2_s, ht, e1]
  refine cm_iaload (q := 40) dX1_pop_39 (by assumption) (by rw [h4]; exact vp_in_nI (by omega) (by decide)) rfl ?_
  exact am_iret dX1_pop_40 rfl rfl ⟨_, rfl, by rw [nI_clamp (by omega), up2_a n1], rfl⟩
end CodeB

