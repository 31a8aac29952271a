theorem dX9_readAll_0 : decode cX9_readAll 0 = .ok (.aload_n 0, 1) := by decide +kernel
theorem dX9_readAll_1 : decode cX9_readAll 1 = .ok (.iconst 0, 1) := by decide +kernel
theorem dX9_readAll_2 : decode cX9_readAll 2 = .ok (.putfield 31, 3) := by decide +kernel
theorem dX9_readAll_5 : decode cX9_readAll 5 = .ok (.aload_n 1, 1) := by decide +kernel
theorem dX9_readAll_6 : decode cX9_readAll 6 = .ok (.iconst 0, 1) := by decide +kernel
theorem dX9_readAll_7 : decode cX9_readAll 7 = .ok (.invokestatic 35, 3) := by decide +kernel
theorem dX9_readAll_10 : decode cX9_readAll 10 = .ok (.istore_n 2, 1) := by decide +kernel
theorem dX9_readAll_11 : decode cX9_readAll 11 = .ok (.iconst 0, 1) := by decide +kernel
theorem dX9_readAll_12 : decode cX9_readAll 12 = .ok (.istore_n 3, 1) := by decide +kernel
theorem dX9_readAll_13 : decode cX9_readAll 13 = .ok (.iload_n 3, 1) := by decide +kernel
theorem dX9_readAll_14 : decode cX9_readAll 14 = .ok (.sipush 400, 3) := by decide +kernel
theorem dX9_readAll_17 : decode cX9_readAll 17 = .ok (.if_icmp .ge 33, 3) := by decide +kernel
theorem dX9_readAll_20 : decode cX9_readAll 20 = .ok (.aload_n 0, 1) := by decide +kernel
theorem dX9_readAll_21 : decode cX9_readAll 21 = .ok (.aload_n 1, 1) := by decide +kernel
theorem dX9_readAll_22 : decode cX9_readAll 22 = .ok (.iload_n 2, 1) := by decide +kernel
theorem dX9_readAll_23 : decode cX9_readAll 23 = .ok (.invokevirtual 39, 3) := by decide +kernel
theorem dX9_readAll_26 : decode cX9_readAll 26 = .ok (.istore 4, 2) := by decide +kernel
theorem dX9_readAll_28 : decode cX9_readAll 28 = .ok (.iload 4, 2) := by decide +kernel
theorem dX9_readAll_30 : decode cX9_readAll 30 = .ok (.iload_n 2, 1) := by decide +kernel
theorem dX9_readAll_31 : decode cX9_readAll 31 = .ok (.if_icmp .ne 6, 3) := by decide +kernel
theorem dX9_readAll_34 : decode cX9_readAll 34 = .ok (.goto 16, 3) := by decide +kernel
theorem dX9_readAll_37 : decode cX9_readAll 37 = .ok (.aload_n 1, 1) := by decide +kernel
theorem dX9_readAll_38 : decode cX9_readAll 38 = .ok (.iload 4, 2) := by decide +kernel
theorem dX9_readAll_40 : decode cX9_readAll 40 = .ok (.invokestatic 35, 3) := by decide +kernel
theorem dX9_readAll_43 : decode cX9_readAll 43 = .ok (.istore_n 2, 1) := by decide +kernel
theorem dX9_readAll_44 : decode cX9_readAll 44 = .ok (.iinc 3 1, 3) := by decide +kernel
theorem dX9_readAll_47 : decode cX9_readAll 47 = .ok (.goto (-34), 3) := by decide +kernel
theorem dX9_readAll_50 : decode cX9_readAll 50 = .ok (.aload_n 0, 1) := by decide +kernel
theorem dX9_readAll_51 : decode cX9_readAll 51 = .ok (.iload_n 2, 1) := by decide +kernel
theorem dX9_readAll_52 : decode cX9_readAll 52 = .ok (.aload_n 1, 1) := by decide +kernel
theorem dX9_readAll_53 : decode cX9_readAll 53 = .ok (.getfield 42, 3) := by decide +kernel
theorem dX9_readAll_56 : decode cX9_readAll 56 = .ok (.if_icmp .ge 9, 3) := by decide +kernel
theorem dX9_readAll_59 : decode cX9_readAll 59 = .ok (.sipush 257, 3) := by decide +kernel
theorem dX9_readAll_62 : decode cX9_readAll 62 = .ok (.goto 6, 3) := by decide +kernel
theorem dX9_readAll_65 : decode cX9_readAll 65 = .ok (.sipush 256, 3) := by decide +kernel
theorem dX9_readAll_68 : decode cX9_readAll 68 = .ok (.iload_n 2, 1) := by decide +kernel
theorem dX9_readAll_69 : decode cX9_readAll 69 = .ok (.lconst 0, 1) := by decide +kernel
theorem dX9_readAll_70 : decode cX9_readAll 70 = .ok (.invokevirtual 47, 3) := by decide +kernel
theorem dX9_readAll_73 : decode cX9_readAll 73 = .ok (.return_, 1) := by decide +kernel
theorem dX9_readNumber_0 : decode cX9_readNumber 0 = .ok (.iload_n 2, 1) := by decide +kernel
theorem dX9_readNumber_1 : decode cX9_readNumber 1 = .ok (.istore_n 3, 1) := by decide +kernel
theorem dX9_readNumber_2 : decode cX9_readNumber 2 = .ok (.lconst 0, 1) := by decide +kernel
theorem dX9_readNumber_3 : decode cX9_readNumber 3 = .ok (.lstore 4, 2) := by decide +kernel
theorem dX9_readNumber_5 : decode cX9_readNumber 5 = .ok (.iload_n 3, 1) := by decide +kernel
theorem dX9_readNumber_6 : decode cX9_readNumber 6 = .ok (.aload_n 1, 1) := by decide +kernel
theorem dX9_readNumber_7 : decode cX9_readNumber 7 = .ok (.getfield 42, 3) := by decide +kernel
theorem dX9_readNumber_10 : decode cX9_readNumber 10 = .ok (.if_icmp .ge 38, 3) := by decide +kernel
theorem dX9_readNumber_13 : decode cX9_readNumber 13 = .ok (.aload_n 1, 1) := by decide +kernel
theorem dX9_readNumber_14 : decode cX9_readNumber 14 = .ok (.iload_n 3, 1) := by decide +kernel
theorem dX9_readNumber_15 : decode cX9_readNumber 15 = .ok (.invokevirtual 51, 3) := by decide +kernel
theorem dX9_readNumber_18 : decode cX9_readNumber 18 = .ok (.invokestatic 65, 3) := by decide +kernel
theorem dX9_readNumber_21 : decode cX9_readNumber 21 = .ok (.ifCond .eq 27, 3) := by decide +kernel
theorem dX9_readNumber_24 : decode cX9_readNumber 24 = .ok (.lload 4, 2) := by decide +kernel
theorem dX9_readNumber_26 : decode cX9_readNumber 26 = .ok (.ldc2_w 86, 3) := by decide +kernel
theorem dX9_readNumber_29 : decode cX9_readNumber 29 = .ok (.lmul, 1) := by decide +kernel
theorem dX9_readNumber_30 : decode cX9_readNumber 30 = .ok (.aload_n 1, 1) := by decide +kernel
theorem dX9_readNumber_31 : decode cX9_readNumber 31 = .ok (.iload_n 3, 1) := by decide +kernel
theorem dX9_readNumber_32 : decode cX9_readNumber 32 = .ok (.invokevirtual 51, 3) := by decide +kernel
theorem dX9_readNumber_35 : decode cX9_readNumber 35 = .ok (.bipush 48, 2) := by decide +kernel
theorem dX9_readNumber_37 : decode cX9_readNumber 37 = .ok (.isub, 1) := by decide +kernel
theorem dX9_readNumber_38 : decode cX9_readNumber 38 = .ok (.i2l, 1) := by decide +kernel
theorem dX9_readNumber_39 : decode cX9_readNumber 39 = .ok (.ladd, 1) := by decide +kernel
theorem dX9_readNumber_40 : decode cX9_readNumber 40 = .ok (.lstore 4, 2) := by decide +kernel
theorem dX9_readNumber_42 : decode cX9_readNumber 42 = .ok (.iinc 3 1, 3) := by decide +kernel
theorem dX9_readNumber_45 : decode cX9_readNumber 45 = .ok (.goto (-40), 3) := by decide +kernel
theorem dX9_readNumber_48 : decode cX9_readNumber 48 = .ok (.iload_n 3, 1) := by decide +kernel
theorem dX9_readNumber_49 : decode cX9_readNumber 49 = .ok (.iload_n 2, 1) := by decide +kernel
theorem dX9_readNumber_50 : decode cX9_readNumber 50 = .ok (.isub, 1) := by decide +kernel
theorem dX9_readNumber_51 : decode cX9_readNumber 51 = .ok (.bipush 6, 2) := by decide +kernel
theorem dX9_readNumber_53 : decode cX9_readNumber 53 = .ok (.if_icmp .le 5, 3) := by decide +kernel
theorem dX9_readNumber_56 : decode cX9_readNumber 56 = .ok (.iload_n 2, 1) := by decide +kernel
theorem dX9_readNumber_57 : decode cX9_readNumber 57 = .ok (.ireturn, 1) := by decide +kernel
theorem dX9_readNumber_58 : decode cX9_readNumber 58 = .ok (.aload_n 0, 1) := by decide +kernel
theorem dX9_readNumber_59 : decode cX9_readNumber 59 = .ok (.sipush 259, 3) := by decide +kernel
theorem dX9_readNumber_62 : decode cX9_readNumber 62 = .ok (.iload_n 2, 1) := by decide +kernel
theorem dX9_readNumber_63 : decode cX9_readNumber 63 = .ok (.lload 4, 2) := by decide +kernel
theorem dX9_readNumber_65 : decode cX9_readNumber 65 = .ok (.invokevirtual 47, 3) := by decide +kernel
theorem dX9_readNumber_68 : decode cX9_readNumber 68 = .ok (.iload_n 3, 1) := by decide +kernel
theorem dX9_readNumber_69 : decode cX9_readNumber 69 = .ok (.ireturn, 1) := by decide +kernel
theorem dX9_readSymbol_0 : decode cX9_readSymbol 0 = .ok (.iload_n 1, 1) := by decide +kernel
theorem dX9_readSymbol_1 : decode cX9_readSymbol 1 = .ok (.invokestatic 88, 3) := by decide +kernel
theorem dX9_readSymbol_4 : decode cX9_readSymbol 4 = .ok (.ifCond .ne 5, 3) := by decide +kernel
theorem dX9_readSymbol_7 : decode cX9_readSymbol 7 = .ok (.iload_n 3, 1) := by decide +kernel
theorem dX9_readSymbol_8 : decode cX9_readSymbol 8 = .ok (.ireturn, 1) := by decide +kernel
theorem dX9_readSymbol_9 : decode cX9_readSymbol 9 = .ok (.iload_n 1, 1) := by decide +kernel
theorem dX9_readSymbol_10 : decode cX9_readSymbol 10 = .ok (.bipush 60, 2) := by decide +kernel
theorem dX9_readSymbol_12 : decode cX9_readSymbol 12 = .ok (.if_icmp .eq 9, 3) := by decide +kernel
theorem dX9_readSymbol_15 : decode cX9_readSymbol 15 = .ok (.iload_n 1, 1) := by decide +kernel
theorem dX9_readSymbol_16 : decode cX9_readSymbol 16 = .ok (.bipush 62, 2) := by decide +kernel
theorem dX9_readSymbol_18 : decode cX9_readSymbol 18 = .ok (.if_icmp .ne 19, 3) := by decide +kernel
theorem dX9_readSymbol_21 : decode cX9_readSymbol 21 = .ok (.aload_n 2, 1) := by decide +kernel
theorem dX9_readSymbol_22 : decode cX9_readSymbol 22 = .ok (.iload_n 3, 1) := by decide +kernel
theorem dX9_readSymbol_23 : decode cX9_readSymbol 23 = .ok (.iconst 1, 1) := by decide +kernel
theorem dX9_readSymbol_24 : decode cX9_readSymbol 24 = .ok (.iadd, 1) := by decide +kernel
theorem dX9_readSymbol_25 : decode cX9_readSymbol 25 = .ok (.invokevirtual 51, 3) := by decide +kernel
theorem dX9_readSymbol_28 : decode cX9_readSymbol 28 = .ok (.bipush 61, 2) := by decide +kernel
theorem dX9_readSymbol_30 : decode cX9_readSymbol 30 = .ok (.if_icmp .ne 7, 3) := by decide +kernel
theorem dX9_readSymbol_33 : decode cX9_readSymbol 33 = .ok (.iconst 1, 1) := by decide +kernel
theorem dX9_readSymbol_34 : decode cX9_readSymbol 34 = .ok (.goto 4, 3) := by decide +kernel
theorem dX9_readSymbol_37 : decode cX9_readSymbol 37 = .ok (.iconst 0, 1) := by decide +kernel
theorem dX9_readSymbol_38 : decode cX9_readSymbol 38 = .ok (.istore 4, 2) := by decide +kernel
theorem dX9_readSymbol_40 : decode cX9_readSymbol 40 = .ok (.iload 4, 2) := by decide +kernel
theorem dX9_readSymbol_42 : decode cX9_readSymbol 42 = .ok (.ifCond .eq 28, 3) := by decide +kernel
theorem dX9_readSymbol_45 : decode cX9_readSymbol 45 = .ok (.aload_n 0, 1) := by decide +kernel
theorem dX9_readSymbol_46 : decode cX9_readSymbol 46 = .ok (.iload_n 1, 1) := by decide +kernel
theorem dX9_readSymbol_47 : decode cX9_readSymbol 47 = .ok (.bipush 60, 2) := by decide +kernel
theorem dX9_readSymbol_49 : decode cX9_readSymbol 49 = .ok (.if_icmp .ne 9, 3) := by decide +kernel
theorem dX9_readSymbol_52 : decode cX9_readSymbol 52 = .ok (.sipush 260, 3) := by decide +kernel
theorem dX9_readSymbol_55 : decode cX9_readSymbol 55 = .ok (.goto 6, 3) := by decide +kernel
theorem dX9_readSymbol_58 : decode cX9_readSymbol 58 = .ok (.sipush 261, 3) := by decide +kernel
theorem dX9_readSymbol_61 : decode cX9_readSymbol 61 = .ok (.iload_n 3, 1) := by decide +kernel
theorem dX9_readSymbol_62 : decode cX9_readSymbol 62 = .ok (.lconst 0, 1) := by decide +kernel
theorem dX9_readSymbol_63 : decode cX9_readSymbol 63 = .ok (.invokevirtual 47, 3) := by decide +kernel
theorem dX9_readSymbol_66 : decode cX9_readSymbol 66 = .ok (.iload_n 3, 1) := by decide +kernel
theorem dX9_readSymbol_67 : decode cX9_readSymbol 67 = .ok (.iconst 2, 1) := by decide +kernel
theorem dX9_readSymbol_68 : decode cX9_readSymbol 68 = .ok (.iadd, 1) := by decide +kernel
theorem dX9_readSymbol_69 : decode cX9_readSymbol 69 = .ok (.ireturn, 1) := by decide +kernel
theorem dX9_readSymbol_70 : decode cX9_readSymbol 70 = .ok (.aload_n 0, 1) := by decide +kernel
theorem dX9_readSymbol_71 : decode cX9_readSymbol 71 = .ok (.iload_n 1, 1) := by decide +kernel
theorem dX9_readSymbol_72 : decode cX9_readSymbol 72 = .ok (.iload_n 3, 1) := by decide +kernel
theorem dX9_readSymbol_73 : decode cX9_readSymbol 73 = .ok (.lconst 0, 1) := by decide +kernel
theorem dX9_readSymbol_74 : decode cX9_readSymbol 74 = .ok (.invokevirtual 47, 3) := by decide +kernel
theorem dX9_readSymbol_77 : decode cX9_readSymbol 77 = .ok (.iload_n 3, 1) := by decide +kernel
theorem dX9_readSymbol_78 : decode cX9_readSymbol 78 = .ok (.iconst 1, 1) := by decide +kernel
theorem dX9_readSymbol_79 : decode cX9_readSymbol 79 = .ok (.iadd, 1) := by decide +kernel
theorem dX9_readSymbol_80 : decode cX9_readSymbol 80 = .ok (.ireturn, 1) := by decide +kernel
theorem dX9_readToken_0 : decode cX9_readToken 0 = .ok (.aload_n 1, 1) := by decide +kernel
theorem dX9_readToken_1 : decode cX9_readToken 1 = .ok (.iload_n 2, 1) := by decide +kernel
theorem dX9_readToken_2 : decode cX9_readToken 2 = .ok (.invokevirtual 51, 3) := by decide +kernel
theorem dX9_readToken_5 : decode cX9_readToken 5 = .ok (.istore_n 3, 1) := by decide +kernel
theorem dX9_readToken_6 : decode cX9_readToken 6 = .ok (.iload_n 3, 1) := by decide +kernel
theorem dX9_readToken_7 : decode cX9_readToken 7 = .ok (.invokestatic 59, 3) := by decide +kernel
theorem dX9_readToken_10 : decode cX9_readToken 10 = .ok (.ifCond .eq 10, 3) := by decide +kernel
theorem dX9_readToken_13 : decode cX9_readToken 13 = .ok (.aload_n 0, 1) := by decide +kernel
theorem dX9_readToken_14 : decode cX9_readToken 14 = .ok (.aload_n 1, 1) := by decide +kernel
theorem dX9_readToken_15 : decode cX9_readToken 15 = .ok (.iload_n 2, 1) := by decide +kernel
theorem dX9_readToken_16 : decode cX9_readToken 16 = .ok (.invokevirtual 62, 3) := by decide +kernel
theorem dX9_readToken_19 : decode cX9_readToken 19 = .ok (.ireturn, 1) := by decide +kernel
theorem dX9_readToken_20 : decode cX9_readToken 20 = .ok (.iload_n 3, 1) := by decide +kernel
theorem dX9_readToken_21 : decode cX9_readToken 21 = .ok (.invokestatic 65, 3) := by decide +kernel
theorem dX9_readToken_24 : decode cX9_readToken 24 = .ok (.ifCond .eq 12, 3) := by decide +kernel
theorem dX9_readToken_27 : decode cX9_readToken 27 = .ok (.aload_n 0, 1) := by decide +kernel
theorem dX9_readToken_28 : decode cX9_readToken 28 = .ok (.aload_n 1, 1) := by decide +kernel
theorem dX9_readToken_29 : decode cX9_readToken 29 = .ok (.iload_n 2, 1) := by decide +kernel
theorem dX9_readToken_30 : decode cX9_readToken 30 = .ok (.invokevirtual 68, 3) := by decide +kernel
theorem dX9_readToken_33 : decode cX9_readToken 33 = .ok (.goto 10, 3) := by decide +kernel
theorem dX9_readToken_36 : decode cX9_readToken 36 = .ok (.aload_n 0, 1) := by decide +kernel
theorem dX9_readToken_37 : decode cX9_readToken 37 = .ok (.iload_n 3, 1) := by decide +kernel
theorem dX9_readToken_38 : decode cX9_readToken 38 = .ok (.aload_n 1, 1) := by decide +kernel
theorem dX9_readToken_39 : decode cX9_readToken 39 = .ok (.iload_n 2, 1) := by decide +kernel
theorem dX9_readToken_40 : decode cX9_readToken 40 = .ok (.invokevirtual 71, 3) := by decide +kernel
theorem dX9_readToken_43 : decode cX9_readToken 43 = .ok (.ireturn, 1) := by decide +kernel
theorem dX9_readWord_0 : decode cX9_readWord 0 = .ok (.iload_n 2, 1) := by decide +kernel
theorem dX9_readWord_1 : decode cX9_readWord 1 = .ok (.istore_n 3, 1) := by decide +kernel
theorem dX9_readWord_2 : decode cX9_readWord 2 = .ok (.lconst 0, 1) := by decide +kernel
theorem dX9_readWord_3 : decode cX9_readWord 3 = .ok (.lstore 4, 2) := by decide +kernel
theorem dX9_readWord_5 : decode cX9_readWord 5 = .ok (.iload_n 3, 1) := by decide +kernel
theorem dX9_readWord_6 : decode cX9_readWord 6 = .ok (.aload_n 1, 1) := by decide +kernel
theorem dX9_readWord_7 : decode cX9_readWord 7 = .ok (.getfield 42, 3) := by decide +kernel
theorem dX9_readWord_10 : decode cX9_readWord 10 = .ok (.if_icmp .ge 32, 3) := by decide +kernel
theorem dX9_readWord_13 : decode cX9_readWord 13 = .ok (.aload_n 1, 1) := by decide +kernel
theorem dX9_readWord_14 : decode cX9_readWord 14 = .ok (.iload_n 3, 1) := by decide +kernel
theorem dX9_readWord_15 : decode cX9_readWord 15 = .ok (.invokevirtual 51, 3) := by decide +kernel
theorem dX9_readWord_18 : decode cX9_readWord 18 = .ok (.invokestatic 75, 3) := by decide +kernel
theorem dX9_readWord_21 : decode cX9_readWord 21 = .ok (.ifCond .eq 21, 3) := by decide +kernel
theorem dX9_readWord_24 : decode cX9_readWord 24 = .ok (.lload 4, 2) := by decide +kernel
theorem dX9_readWord_26 : decode cX9_readWord 26 = .ok (.aload_n 1, 1) := by decide +kernel
theorem dX9_readWord_27 : decode cX9_readWord 27 = .ok (.iload_n 3, 1) := by decide +kernel
theorem dX9_readWord_28 : decode cX9_readWord 28 = .ok (.invokevirtual 51, 3) := by decide +kernel
theorem dX9_readWord_31 : decode cX9_readWord 31 = .ok (.invokestatic 78, 3) := by decide +kernel
theorem dX9_readWord_34 : decode cX9_readWord 34 = .ok (.lstore 4, 2) := by decide +kernel
theorem dX9_readWord_36 : decode cX9_readWord 36 = .ok (.iinc 3 1, 3) := by decide +kernel
theorem dX9_readWord_39 : decode cX9_readWord 39 = .ok (.goto (-34), 3) := by decide +kernel
theorem dX9_readWord_42 : decode cX9_readWord 42 = .ok (.iload_n 3, 1) := by decide +kernel
theorem dX9_readWord_43 : decode cX9_readWord 43 = .ok (.iload_n 2, 1) := by decide +kernel
theorem dX9_readWord_44 : decode cX9_readWord 44 = .ok (.isub, 1) := by decide +kernel
theorem dX9_readWord_45 : decode cX9_readWord 45 = .ok (.bipush 10, 2) := by decide +kernel
theorem dX9_readWord_47 : decode cX9_readWord 47 = .ok (.if_icmp .le 5, 3) := by decide +kernel
theorem dX9_readWord_50 : decode cX9_readWord 50 = .ok (.iload_n 2, 1) := by decide +kernel
theorem dX9_readWord_51 : decode cX9_readWord 51 = .ok (.ireturn, 1) := by decide +kernel
theorem dX9_readWord_52 : decode cX9_readWord 52 = .ok (.aload_n 0, 1) := by decide +kernel
theorem dX9_readWord_53 : decode cX9_readWord 53 = .ok (.lload 4, 2) := by decide +kernel
theorem dX9_readWord_55 : decode cX9_readWord 55 = .ok (.invokevirtual 82, 3) := by decide +kernel
theorem dX9_readWord_58 : decode cX9_readWord 58 = .ok (.istore 6, 2) := by decide +kernel
theorem dX9_readWord_60 : decode cX9_readWord 60 = .ok (.aload_n 0, 1) := by decide +kernel
theorem dX9_readWord_61 : decode cX9_readWord 61 = .ok (.iload 6, 2) := by decide +kernel
theorem dX9_readWord_63 : decode cX9_readWord 63 = .ok (.iload_n 2, 1) := by decide +kernel
theorem dX9_readWord_64 : decode cX9_readWord 64 = .ok (.iload 6, 2) := by decide +kernel
theorem dX9_readWord_66 : decode cX9_readWord 66 = .ok (.sipush 258, 3) := by decide +kernel
theorem dX9_readWord_69 : decode cX9_readWord 69 = .ok (.if_icmp .ne 8, 3) := by decide +kernel
theorem dX9_readWord_72 : decode cX9_readWord 72 = .ok (.lload 4, 2) := by decide +kernel
theorem dX9_readWord_74 : decode cX9_readWord 74 = .ok (.goto 4, 3) := by decide +kernel
theorem dX9_readWord_77 : decode cX9_readWord 77 = .ok (.lconst 0, 1) := by decide +kernel
theorem dX9_readWord_78 : decode cX9_readWord 78 = .ok (.invokevirtual 47, 3) := by decide +kernel
theorem dX9_readWord_81 : decode cX9_readWord 81 = .ok (.iload_n 3, 1) := by decide +kernel
theorem dX9_readWord_82 : decode cX9_readWord 82 = .ok (.ireturn, 1) := by decide +kernel
/-! words, numbers, symbols; all tokens of a tape -/
section Cu
variable {G : Gp} {S : AMem} {I : Nat → Nat → Int32} {J : Nat → Nat → Int64} {R : Nat → Nat → Option Nat} {a t : Nat} {E : Tp} {K : Nat → Int64} {L : TL}
theorem k_X9_readWord {p0 : Nat} (hG : okG G) (ht : TC S R t) (h : TPc S R a) (hE : AbTp I a E) (hL : AbT I J t L.toks) (hl : L.length < 401) (hK : ∀ i, i < 32 → J (t + 4) i = K i) (hp : p0 ≤ E.1) : Fn G mX9_readWord 2 [vR t, vR a, vI (nI p0)] (mw S I J R) (fun rr M1 => rr = some (vI (nI (tokW E K p0).2)) ∧ ∃ I1 J1, M1 = mw S I1 J1 R ∧ AbT I1 J1 t (TL.toks (L ++ (tokW E K p0).1)) ∧ OffT t I I1 ∧ OffTJ t J J1) := by
  have ka := h.1
  have kt := ht.1
  have e1 := hE.1
  have e2 := hE.2.1
  refine am_iload_n (q := 1) dX9_readWord_0 rfl rfl ?_
  refine am_istore_n (q := 2) (ls1 := [_, _, _, _, _, _, _]) dX9_readWord_1 (Nat.le_of_ble_eq_true rfl) rfl rfl ?_
  refine am_lconst (q := 3) (v := 0) dX9_readWord_2 rfl rfl ?_
  refine am_lstore (q := 5) (ls1 := [_, _, _, _, _, _, _]) dX9_readWord_3 (Nat.le_of_ble_eq_true rfl) rfl rfl ?_
  refine k_spn (P := isLDB) (E := E) (σ := Int64) (Inv := fun p v => p0 ≤ p ∧ v = codN E (p - p0) p0 0 ∧ spnE isLDB E p = spnE isLDB E p0) (W := fun p v => MW G mX9_readWord 2 5 [some (vR t), some (vR a), some (vI (nI p0)), some (vI (nI p)), some (vJ v), none, none] [] (mw S I J R) _) ?_ ?_ p0 0 hp ⟨Nat.le_refl _, by rw [Nat.sub_self]; rfl, rfl⟩
  · intro p v h1 h2 ⟨i1, i2, i3⟩ ih
    refine am_iload_n (q := 6) dX9_readWord_5 rfl rfl ?_
    refine am_aload_n (q := 7) dX9_readWord_6 rfl rfl ?_
    refine cm_getI (q := 10) dX9_readWord_7 flX9_42 rfl (by assumption) rfl ?_
    rw [e1]
    refine am_icmp_ge (tgt := 42) (q := 13) dX9_readWord_10 rfl rfl (fun hz => absurd hz (nI_ge h1 (by omega))) (fun _ => ?_)
    refine am_aload_n (q := 14) dX9_readWord_13 rfl rfl ?_
    refine am_iload_n (q := 15) dX9_readWord_14 rfl rfl ?_
    refine cm_call0 (q := 18) (As := [_]) hG dX9_readWord_15 mlX9_51 rfl (by assumption) ⟨_, _, rfl⟩ (Nat.le_of_ble_eq_true rfl) (Nat.le_of_ble_eq_true rfl) (Nat.le_of_ble_eq_true rfl) (Nat.le_of_ble_eq_true rfl) (k_X8_at h hE (by omega)) rfl ?_
    rintro _ _ ⟨rfl, rfl⟩
    rw [Tp.at_lt h1]
    refine am_call1 (q := 21) (As := [_]) hG dX9_readWord_18 mlX9_75 rfl (Nat.le_of_ble_eq_true rfl) (Nat.le_of_ble_eq_true rfl) (Nat.le_of_ble_eq_true rfl) (k_X9_isLetterOrDigit hG) rfl ?_
    rintro _ _ ⟨rfl, rfl⟩
    refine am_if_eq (tgt := 42) (q := 24) dX9_readWord_21 rfl rfl (fun hz => absurd hz (bI_n0.mpr h2)) (fun _ => ?_)
    refine am_lload (q := 26) dX9_readWord_24 rfl rfl ?_
    refine am_aload_n (q := 27) dX9_readWord_26 rfl rfl ?_
    refine am_iload_n (q := 28) dX9_readWord_27 rfl rfl ?_
    refine cm_call0 (q := 31) (As := [_]) hG dX9_readWord_28 mlX9_51 rfl (by assumption) ⟨_, _, rfl⟩ (Nat.le_of_ble_eq_true rfl) (Nat.le_of_ble_eq_true rfl) (Nat.le_of_ble_eq_true rfl) (Nat.le_of_ble_eq_true rfl) (k_X8_at h hE (by omega)) rfl ?_
    rintro _ _ ⟨rfl, rfl⟩
    rw [Tp.at_lt h1]
    refine am_call1 (q := 34) (As := [_, _]) hG dX9_readWord_31 mlX9_78 rfl (Nat.le_of_ble_eq_true rfl) (Nat.le_of_ble_eq_true rfl) (Nat.le_of_ble_eq_true rfl) (k_X9_withSign hG) rfl ?_
    rintro _ _ ⟨rfl, rfl⟩
    refine am_lstore (q := 36) (ls1 := [_, _, _, _, _, _, _]) dX9_readWord_34 (Nat.le_of_ble_eq_true rfl) rfl rfl ?_
    refine am_iincW (q := 39) (ls1 := [_, _, _, _, _, _, _]) (w := 1) dX9_readWord_36 rfl (Nat.le_of_ble_eq_true rfl) kc_i1 rfl rfl ?_
    refine am_goto (tgt := 5) dX9_readWord_39 rfl ?_
    rw [nI_1]
    refine ih _ ⟨by omega, ?_, by rw [← i3, spnE_t h1 h2]⟩
    rw [i2, show p + 1 - p0 = (p - p0) + 1 by omega, codN_s, show p0 + (p - p0) = p by omega]
  · intro p v h1 h2 ⟨i1, i2, i3⟩
    rw [spnE_f h2] at i3
    have fin : MW G mX9_readWord 2 42 [some (vR t), some (vR a), some (vI (nI p0)), some (vI (nI p)), some (vJ v), none, none] [] (mw S I J R) (fun f M1 => ∃ r, f = .inl r ∧ (r = some (vI (nI (tokW E K p0).2)) ∧ ∃ I1 J1, M1 = mw S I1 J1 R ∧ AbT I1 J1 t (TL.toks (L ++ (tokW E K p0).1)) ∧ OffT t I I1 ∧ OffTJ t J J1)) := by
      unfold tokW
      rw [← i3]
      refine am_iload_n (q := 43) dX9_readWord_42 rfl rfl ?_
      refine am_iload_n (q := 44) dX9_readWord_43 rfl rfl ?_
      refine am_isub (q := 45) dX9_readWord_44 rfl ?_
      rw [k_nsub i1]
      refine am_bipush (q := 47) (v := 10) dX9_readWord_45 kc_b10 rfl ?_
      refine am_icmp_le (tgt := 52) (q := 50) dX9_readWord_47 rfl rfl (fun hc => ?_) (fun hc => ?_)
      · rw [if_neg (Nat.not_lt.mpr ((nI_leI (b := 10) (by omega) (by decide)).mp hc))]
        rw [← i2]
        refine am_aload_n (q := 53) dX9_readWord_52 rfl rfl ?_
        refine am_lload (q := 55) dX9_readWord_53 rfl rfl ?_
        refine cm_call0 (q := 58) (As := [_]) hG dX9_readWord_55 mlX9_82 rfl (by assumption) ⟨_, _, rfl⟩ (Nat.le_of_ble_eq_true rfl) (Nat.le_of_ble_eq_true rfl) (Nat.le_of_ble_eq_true rfl) (Nat.le_of_ble_eq_true rfl) (k_X9_kindOfWord ht hK) rfl ?_
        rintro _ _ ⟨rfl, rfl⟩
        refine am_istore (q := 60) (ls1 := [_, _, _, _, _, _, _]) dX9_readWord_58 (Nat.le_of_ble_eq_true rfl) rfl rfl ?_
        have q : ∀ w : Int64, w = (if kowN K v 0 32 = 258 then v else 0) → MW G mX9_readWord 2 78 [some (vR t), some (vR a), some (vI (nI p0)), some (vI (nI p)), some (vJ v), none, some (vI (kowN K v 0 32))] [vJ w, vI (nI p0), vI (kowN K v 0 32), vR t] (mw S I J R) (fun f M1 => ∃ r, f = .inl r ∧ (r = some (vI (nI p)) ∧ ∃ I1 J1, M1 = mw S I1 J1 R ∧ AbT I1 J1 t (TL.toks (L ++ [(kowN K v 0 32, p0, if kowN K v 0 32 = 258 then v else 0)])) ∧ OffT t I I1 ∧ OffTJ t J J1)) := by
          intro w hw
          rw [← hw]
          refine cm_call0 (q := 81) (As := [_, _, _]) hG dX9_readWord_78 mlX9_47 rfl (by assumption) ⟨_, _, rfl⟩ (Nat.le_of_ble_eq_true rfl) (Nat.le_of_ble_eq_true rfl) (Nat.le_of_ble_eq_true rfl) (Nat.le_of_ble_eq_true rfl) (k_X9_addToken ht hL hl) rfl ?_
          rintro _ _ ⟨rfl, I1, J1, rfl, g1, g2, g3⟩
          refine am_iload_n (q := 82) dX9_readWord_81 rfl rfl ?_
          exact am_iret dX9_readWord_82 rfl rfl ⟨_, rfl, rfl, I1, J1, rfl, g1, g2, g3⟩
        refine am_aload_n (q := 61) dX9_readWord_60 rfl rfl ?_
        refine am_iload (q := 63) dX9_readWord_61 rfl rfl ?_
        refine am_iload_n (q := 64) dX9_readWord_63 rfl rfl ?_
        refine am_iload (q := 66) dX9_readWord_64 rfl rfl ?_
        refine am_sipush (q := 69) (v := 258) dX9_readWord_66 kc_s258 rfl ?_
        refine am_icmp_ne (tgt := 77) (q := 72) dX9_readWord_69 rfl rfl (fun hc2 => ?_) (fun hc2 => ?_)
        · refine am_lconst (q := 78) (v := 0) dX9_readWord_77 rfl rfl ?_
          exact q 0 (if_neg hc2).symm
        · refine am_lload (q := 74) dX9_readWord_72 rfl rfl ?_
          refine am_goto (tgt := 78) dX9_readWord_74 rfl ?_
          exact q v (if_pos hc2).symm
      · rw [if_pos (Nat.lt_of_not_le fun z => hc ((nI_leI (b := 10) (by omega) (by decide)).mpr z))]
        refine am_iload_n (q := 51) dX9_readWord_50 rfl rfl ?_
        exact am_iret dX9_readWord_51 rfl rfl ⟨_, rfl, rfl, I, J, rfl, by rw [List.append_nil]; exact hL, OffT.rf, OffTJ.rf⟩
    refine am_iload_n (q := 6) dX9_readWord_5 rfl rfl ?_
    refine am_aload_n (q := 7) dX9_readWord_6 rfl rfl ?_
    refine cm_getI (q := 10) dX9_readWord_7 flX9_42 rfl (by assumption) rfl ?_
    rw [e1]
    refine am_icmp_ge (tgt := 42) (q := 13) dX9_readWord_10 rfl rfl (fun hc => ?_) (fun hc => ?_)
    · exact fin
    · have h3 : p < E.1 := (nI_ltI (by omega) (by omega)).mp (Int32.not_le.mp hc)
      refine am_aload_n (q := 14) dX9_readWord_13 rfl rfl ?_
      refine am_iload_n (q := 15) dX9_readWord_14 rfl rfl ?_
      refine cm_call0 (q := 18) (As := [_]) hG dX9_readWord_15 mlX9_51 rfl (by assumption) ⟨_, _, rfl⟩ (Nat.le_of_ble_eq_true rfl) (Nat.le_of_ble_eq_true rfl) (Nat.le_of_ble_eq_true rfl) (Nat.le_of_ble_eq_true rfl) (k_X8_at h hE (by omega)) rfl ?_
      rintro _ _ ⟨rfl, rfl⟩
      rw [Tp.at_lt h3]
      refine am_call1 (q := 21) (As := [_]) hG dX9_readWord_18 mlX9_75 rfl (Nat.le_of_ble_eq_true rfl) (Nat.le_of_ble_eq_true rfl) (Nat.le_of_ble_eq_true rfl) (k_X9_isLetterOrDigit hG) rfl ?_
      rintro _ _ ⟨rfl, rfl⟩
      refine am_if_eq (tgt := 42) (q := 24) dX9_readWord_21 rfl rfl (fun _ => ?_) (fun hz => absurd (bI_e0.mpr fun q => h2 ⟨h3, q⟩) hz)
      exact fin
theorem k_X9_readNumber {p0 : Nat} (hG : okG G) (ht : TC S R t) (h : TPc S R a) (hE : AbTp I a E) (hL : AbT I J t L.toks) (hl : L.length < 401) (hp : p0 ≤ E.1) : Fn G mX9_readNumber 2 [vR t, vR a, vI (nI p0)] (mw S I J R) (fun rr M1 => rr = some (vI (nI (tokN E p0).2)) ∧ ∃ I1 J1, M1 = mw S I1 J1 R ∧ AbT I1 J1 t (TL.toks (L ++ (tokN E p0).1)) ∧ OffT t I I1 ∧ OffTJ t J J1) := by
  have ka := h.1
  have kt := ht.1
  have e1 := hE.1
  have e2 := hE.2.1
  refine am_iload_n (q := 1) dX9_readNumber_0 rfl rfl ?_
  refine am_istore_n (q := 2) (ls1 := [_, _, _, _, _, _]) dX9_readNumber_1 (Nat.le_of_ble_eq_true rfl) rfl rfl ?_
  refine am_lconst (q := 3) (v := 0) dX9_readNumber_2 rfl rfl ?_
  refine am_lstore (q := 5) (ls1 := [_, _, _, _, _, _]) dX9_readNumber_3 (Nat.le_of_ble_eq_true rfl) rfl rfl ?_
  refine k_spn (P := isDiB) (E := E) (σ := Int64) (Inv := fun p v => p0 ≤ p ∧ v = nuN E (p - p0) p0 0 ∧ spnE isDiB E p = spnE isDiB E p0) (W := fun p v => MW G mX9_readNumber 2 5 [some (vR t), some (vR a), some (vI (nI p0)), some (vI (nI p)), some (vJ v), none] [] (mw S I J R) _) ?_ ?_ p0 0 hp ⟨Nat.le_refl _, by rw [Nat.sub_self]; rfl, rfl⟩
  · intro p v h1 h2 ⟨i1, i2, i3⟩ ih
    refine am_iload_n (q := 6) dX9_readNumber_5 rfl rfl ?_
    refine am_aload_n (q := 7) dX9_readNumber_6 rfl rfl ?_
    refine cm_getI (q := 10) dX9_readNumber_7 flX9_42 rfl (by assumption) rfl ?_
    rw [e1]
    refine am_icmp_ge (tgt := 48) (q := 13) dX9_readNumber_10 rfl rfl (fun hz => absurd hz (nI_ge h1 (by omega))) (fun _ => ?_)
    refine am_aload_n (q := 14) dX9_readNumber_13 rfl rfl ?_
    refine am_iload_n (q := 15) dX9_readNumber_14 rfl rfl ?_
    refine cm_call0 (q := 18) (As := [_]) hG dX9_readNumber_15 mlX9_51 rfl (by assumption) ⟨_, _, rfl⟩ (Nat.le_of_ble_eq_true rfl) (Nat.le_of_ble_eq_true rfl) (Nat.le_of_ble_eq_true rfl) (Nat.le_of_ble_eq_true rfl) (k_X8_at h hE (by omega)) rfl ?_
    rintro _ _ ⟨rfl, rfl⟩
    rw [Tp.at_lt h1]
    refine am_call1 (q := 21) (As := [_]) hG dX9_readNumber_18 mlX9_65 rfl (Nat.le_of_ble_eq_true rfl) (Nat.le_of_ble_eq_true rfl) (Nat.le_of_ble_eq_true rfl) k_X9_isDigit rfl ?_
    rintro _ _ ⟨rfl, rfl⟩
    refine am_if_eq (tgt := 48) (q := 24) dX9_readNumber_21 rfl rfl (fun hz => absurd hz (bI_n0.mpr h2)) (fun _ => ?_)
    refine am_lload (q := 26) dX9_readNumber_24 rfl rfl ?_
    refine am_ldcJ (q := 29) (v := 10) dX9_readNumber_26 (tbc1 76 rfl rfl) rfl ?_
    refine am_lmul (q := 30) dX9_readNumber_29 rfl ?_
    refine am_aload_n (q := 31) dX9_readNumber_30 rfl rfl ?_
    refine am_iload_n (q := 32) dX9_readNumber_31 rfl rfl ?_
    refine cm_call0 (q := 35) (As := [_]) hG dX9_readNumber_32 mlX9_51 rfl (by assumption) ⟨_, _, rfl⟩ (Nat.le_of_ble_eq_true rfl) (Nat.le_of_ble_eq_true rfl) (Nat.le_of_ble_eq_true rfl) (Nat.le_of_ble_eq_true rfl) (k_X8_at h hE (by omega)) rfl ?_
    rintro _ _ ⟨rfl, rfl⟩
    rw [Tp.at_lt h1]
    refine am_bipush (q := 37) (v := 48) dX9_readNumber_35 kc_b48 rfl ?_
    refine am_isub (q := 38) dX9_readNumber_37 rfl ?_
    refine am_i2l (q := 39) dX9_readNumber_38 rfl ?_
    refine am_ladd (q := 40) dX9_readNumber_39 rfl ?_
    refine am_lstore (q := 42) (ls1 := [_, _, _, _, _, _]) dX9_readNumber_40 (Nat.le_of_ble_eq_true rfl) rfl rfl ?_
    refine am_iincW (q := 45) (ls1 := [_, _, _, _, _, _]) (w := 1) dX9_readNumber_42 rfl (Nat.le_of_ble_eq_true rfl) kc_i1 rfl rfl ?_
    refine am_goto (tgt := 5) dX9_readNumber_45 rfl ?_
    rw [nI_1]
    refine ih _ ⟨by omega, ?_, by rw [← i3, spnE_t h1 h2]⟩
    rw [i2, show p + 1 - p0 = (p - p0) + 1 by omega, nuN_s, show p0 + (p - p0) = p by omega]
  · intro p v h1 h2 ⟨i1, i2, i3⟩
    rw [spnE_f h2] at i3
    have fin : MW G mX9_readNumber 2 48 [some (vR t), some (vR a), some (vI (nI p0)), some (vI (nI p)), some (vJ v), none] [] (mw S I J R) (fun f M1 => ∃ r, f = .inl r ∧ (r = some (vI (nI (tokN E p0).2)) ∧ ∃ I1 J1, M1 = mw S I1 J1 R ∧ AbT I1 J1 t (TL.toks (L ++ (tokN E p0).1)) ∧ OffT t I I1 ∧ OffTJ t J J1)) := by
      unfold tokN
      rw [← i3]
      refine am_iload_n (q := 49) dX9_readNumber_48 rfl rfl ?_
      refine am_iload_n (q := 50) dX9_readNumber_49 rfl rfl ?_
      refine am_isub (q := 51) dX9_readNumber_50 rfl ?_
      rw [k_nsub i1]
      refine am_bipush (q := 53) (v := 6) dX9_readNumber_51 kc_b6 rfl ?_
      refine am_icmp_le (tgt := 58) (q := 56) dX9_readNumber_53 rfl rfl (fun hc => ?_) (fun hc => ?_)
      · rw [if_neg (Nat.not_lt.mpr ((nI_leI (b := 6) (by omega) (by decide)).mp hc))]
        rw [← i2]
        refine am_aload_n (q := 59) dX9_readNumber_58 rfl rfl ?_
        refine am_sipush (q := 62) (v := 259) dX9_readNumber_59 kc_s259 rfl ?_
        refine am_iload_n (q := 63) dX9_readNumber_62 rfl rfl ?_
        refine am_lload (q := 65) dX9_readNumber_63 rfl rfl ?_
        refine cm_call0 (q := 68) (As := [_, _, _]) hG dX9_readNumber_65 mlX9_47 rfl (by assumption) ⟨_, _, rfl⟩ (Nat.le_of_ble_eq_true rfl) (Nat.le_of_ble_eq_true rfl) (Nat.le_of_ble_eq_true rfl) (Nat.le_of_ble_eq_true rfl) (k_X9_addToken ht hL hl) rfl ?_
        rintro _ _ ⟨rfl, I1, J1, rfl, g1, g2, g3⟩
        refine am_iload_n (q := 69) dX9_readNumber_68 rfl rfl ?_
        exact am_iret dX9_readNumber_69 rfl rfl ⟨_, rfl, rfl, I1, J1, rfl, g1, g2, g3⟩
      · rw [if_pos (Nat.lt_of_not_le fun z => hc ((nI_leI (b := 6) (by omega) (by decide)).mpr z))]
        refine am_iload_n (q := 57) dX9_readNumber_56 rfl rfl ?_
        exact am_iret dX9_readNumber_57 rfl rfl ⟨_, rfl, rfl, I, J, rfl, by rw [List.append_nil]; exact hL, OffT.rf, OffTJ.rf⟩
    refine am_iload_n (q := 6) dX9_readNumber_5 rfl rfl ?_
    refine am_aload_n (q := 7) dX9_readNumber_6 rfl rfl ?_
    refine cm_getI (q := 10) dX9_readNumber_7 flX9_42 rfl (by assumption) rfl ?_
    rw [e1]
    refine am_icmp_ge (tgt := 48) (q := 13) dX9_readNumber_10 rfl rfl (fun hc => ?_) (fun hc => ?_)
    · exact fin
    · have h3 : p < E.1 := (nI_ltI (by omega) (by omega)).mp (Int32.not_le.mp hc)
      refine am_aload_n (q := 14) dX9_readNumber_13 rfl rfl ?_
      refine am_iload_n (q := 15) dX9_readNumber_14 rfl rfl ?_
      refine cm_call0 (q := 18) (As := [_]) hG dX9_readNumber_15 mlX9_51 rfl (by assumption) ⟨_, _, rfl⟩ (Nat.le_of_ble_eq_true rfl) (Nat.le_of_ble_eq_true rfl) (Nat.le_of_ble_eq_true rfl) (Nat.le_of_ble_eq_true rfl) (k_X8_at h hE (by omega)) rfl ?_
      rintro _ _ ⟨rfl, rfl⟩
      rw [Tp.at_lt h3]
      refine am_call1 (q := 21) (As := [_]) hG dX9_readNumber_18 mlX9_65 rfl (Nat.le_of_ble_eq_true rfl) (Nat.le_of_ble_eq_true rfl) (Nat.le_of_ble_eq_true rfl) k_X9_isDigit rfl ?_
      rintro _ _ ⟨rfl, rfl⟩
      refine am_if_eq (tgt := 48) (q := 24) dX9_readNumber_21 rfl rfl (fun _ => ?_) (fun hz => absurd (bI_e0.mpr fun q => h2 ⟨h3, q⟩) hz)
      exact fin
theorem k_X9_readSymbol {p : Nat} (hG : okG G) (hsy : ∀ c : Int32, Fn G mX9_isSymbol 4 [vI c] (mw S I J R) (fun rr M1 => rr = some (vI (bI (c ∈ syms))) ∧ M1 = mw S I J R)) (ht : TC S R t) (h : TPc S R a) (hE : AbTp I a E) (hL : AbT I J t L.toks) (hl : L.length < 401) (hp : p ≤ E.1) : Fn G mX9_readSymbol 5 [vR t, vI (E.at p), vR a, vI (nI p)] (mw S I J R) (fun rr M1 => rr = some (vI (nI (tokS E p).2)) ∧ ∃ I1 J1, M1 = mw S I1 J1 R ∧ AbT I1 J1 t (TL.toks (L ++ (tokS E p).1)) ∧ OffT t I I1 ∧ OffTJ t J J1) := by
  have ka := h.1
  have kt := ht.1
  have e2 := hE.2.1
  unfold tokS
  refine am_iload_n (q := 1) dX9_readSymbol_0 rfl rfl ?_
  refine am_call1 (q := 4) (As := [_]) hG dX9_readSymbol_1 mlX9_88 rfl (Nat.le_of_ble_eq_true rfl) (Nat.le_of_ble_eq_true rfl) (Nat.le_of_ble_eq_true rfl) (hsy _) rfl ?_
  rintro _ _ ⟨rfl, rfl⟩
  refine am_if_ne (tgt := 9) (q := 7) dX9_readSymbol_4 rfl rfl (fun hc => ?_) (fun hc => ?_)
  · rw [if_pos (bI_n0.mp hc)]
    have no : ¬ ((E.at p = 60 ∨ E.at p = 62) ∧ E.at (p + 1) = 61) → MW G mX9_readSymbol 5 37 [some (vR t), some (vI (E.at p)), some (vR a), some (vI (nI p)), none] [] (mw S I J R) (fun f M1 => ∃ r, f = .inl r ∧ (r = some (vI (nI (if (E.at p = 60 ∨ E.at p = 62) ∧ E.at (p + 1) = 61 then (([(if E.at p = 60 then 260 else 261, p, 0)], p + 2) : TL × Nat) else ([(E.at p, p, 0)], p + 1)).2)) ∧ ∃ I1 J1, M1 = mw S I1 J1 R ∧ AbT I1 J1 t (TL.toks (L ++ (if (E.at p = 60 ∨ E.at p = 62) ∧ E.at (p + 1) = 61 then (([(if E.at p = 60 then 260 else 261, p, 0)], p + 2) : TL × Nat) else ([(E.at p, p, 0)], p + 1)).1)) ∧ OffT t I I1 ∧ OffTJ t J J1)) := by
      intro hn
      rw [if_neg hn]
      refine am_iconst (q := 38) (v := 0) dX9_readSymbol_37 kc_i0 rfl ?_
      refine am_istore (q := 40) (ls1 := [_, _, _, _, _]) dX9_readSymbol_38 (Nat.le_of_ble_eq_true rfl) rfl rfl ?_
      refine am_iload (q := 42) dX9_readSymbol_40 rfl rfl ?_
      refine am_if_eq (tgt := 70) (q := 45) dX9_readSymbol_42 rfl rfl (fun _ => ?_) (fun hz => absurd rfl hz)
      refine am_aload_n (q := 71) dX9_readSymbol_70 rfl rfl ?_
      refine am_iload_n (q := 72) dX9_readSymbol_71 rfl rfl ?_
      refine am_iload_n (q := 73) dX9_readSymbol_72 rfl rfl ?_
      refine am_lconst (q := 74) (v := 0) dX9_readSymbol_73 rfl rfl ?_
      refine cm_call0 (q := 77) (As := [_, _, _]) hG dX9_readSymbol_74 mlX9_47 rfl (by assumption) ⟨_, _, rfl⟩ (Nat.le_of_ble_eq_true rfl) (Nat.le_of_ble_eq_true rfl) (Nat.le_of_ble_eq_true rfl) (Nat.le_of_ble_eq_true rfl) (k_X9_addToken ht hL hl) rfl ?_
      rintro _ _ ⟨rfl, I1, J1, rfl, g1, g2, g3⟩
      refine am_iload_n (q := 78) dX9_readSymbol_77 rfl rfl ?_
      refine am_iconst (q := 79) (v := 1) dX9_readSymbol_78 kc_i1 rfl ?_
      refine am_iadd (q := 80) dX9_readSymbol_79 rfl ?_
      rw [nI_1]
      exact am_iret dX9_readSymbol_80 rfl rfl ⟨_, rfl, rfl, I1, J1, rfl, g1, g2, g3⟩
    have yes : (E.at p = 60 ∨ E.at p = 62) → MW G mX9_readSymbol 5 21 [some (vR t), some (vI (E.at p)), some (vR a), some (vI (nI p)), none] [] (mw S I J R) (fun f M1 => ∃ r, f = .inl r ∧ (r = some (vI (nI (if (E.at p = 60 ∨ E.at p = 62) ∧ E.at (p + 1) = 61 then (([(if E.at p = 60 then 260 else 261, p, 0)], p + 2) : TL × Nat) else ([(E.at p, p, 0)], p + 1)).2)) ∧ ∃ I1 J1, M1 = mw S I1 J1 R ∧ AbT I1 J1 t (TL.toks (L ++ (if (E.at p = 60 ∨ E.at p = 62) ∧ E.at (p + 1) = 61 then (([(if E.at p = 60 then 260 else 261, p, 0)], p + 2) : TL × Nat) else ([(E.at p, p, 0)], p + 1)).1)) ∧ OffT t I I1 ∧ OffTJ t J J1)) := by
      intro hy
      refine am_aload_n (q := 22) dX9_readSymbol_21 rfl rfl ?_
      refine am_iload_n (q := 23) dX9_readSymbol_22 rfl rfl ?_
      refine am_iconst (q := 24) (v := 1) dX9_readSymbol_23 kc_i1 rfl ?_
      refine am_iadd (q := 25) dX9_readSymbol_24 rfl ?_
      rw [nI_1]
      refine cm_call0 (q := 28) (As := [_]) hG dX9_readSymbol_25 mlX9_51 rfl (by assumption) ⟨_, _, rfl⟩ (Nat.le_of_ble_eq_true rfl) (Nat.le_of_ble_eq_true rfl) (Nat.le_of_ble_eq_true rfl) (Nat.le_of_ble_eq_true rfl) (k_X8_at h hE (by omega)) rfl ?_
      rintro _ _ ⟨rfl, rfl⟩
      refine am_bipush (q := 30) (v := 61) dX9_readSymbol_28 kc_b61 rfl ?_
      refine am_icmp_ne (tgt := 37) (q := 33) dX9_readSymbol_30 rfl rfl (fun hc2 => ?_) (fun hc2 => ?_)
      · exact no fun q => hc2 q.2
      · rw [if_pos ⟨hy, hc2⟩]
        have q : ∀ w : Int32, w = (if E.at p = 60 then 260 else 261) → MW G mX9_readSymbol 5 61 [some (vR t), some (vI (E.at p)), some (vR a), some (vI (nI p)), some (vI 1)] [vI w, vR t] (mw S I J R) (fun f M1 => ∃ r, f = .inl r ∧ (r = some (vI (nI (p + 2))) ∧ ∃ I1 J1, M1 = mw S I1 J1 R ∧ AbT I1 J1 t (TL.toks (L ++ [(if E.at p = 60 then 260 else 261, p, 0)])) ∧ OffT t I I1 ∧ OffTJ t J J1)) := by
          intro w hw
          rw [← hw]
          refine am_iload_n (q := 62) dX9_readSymbol_61 rfl rfl ?_
          refine am_lconst (q := 63) (v := 0) dX9_readSymbol_62 rfl rfl ?_
          refine cm_call0 (q := 66) (As := [_, _, _]) hG dX9_readSymbol_63 mlX9_47 rfl (by assumption) ⟨_, _, rfl⟩ (Nat.le_of_ble_eq_true rfl) (Nat.le_of_ble_eq_true rfl) (Nat.le_of_ble_eq_true rfl) (Nat.le_of_ble_eq_true rfl) (k_X9_addToken ht hL hl) rfl ?_
          rintro _ _ ⟨rfl, I1, J1, rfl, g1, g2, g3⟩
          refine am_iload_n (q := 67) dX9_readSymbol_66 rfl rfl ?_
          refine am_iconst (q := 68) (v := 2) dX9_readSymbol_67 kc_i2 rfl ?_
          refine am_iadd (q := 69) dX9_readSymbol_68 rfl ?_
          rw [show nI p + 2 = nI (p + 2) from nI_add p 2]
          exact am_iret dX9_readSymbol_69 rfl rfl ⟨_, rfl, rfl, I1, J1, rfl, g1, g2, g3⟩
        refine am_iconst (q := 34) (v := 1) dX9_readSymbol_33 kc_i1 rfl ?_
        refine am_goto (tgt := 38) dX9_readSymbol_34 rfl ?_
        refine am_istore (q := 40) (ls1 := [_, _, _, _, _]) dX9_readSymbol_38 (Nat.le_of_ble_eq_true rfl) rfl rfl ?_
        refine am_iload (q := 42) dX9_readSymbol_40 rfl rfl ?_
        refine am_if_eq (tgt := 70) (q := 45) dX9_readSymbol_42 rfl rfl (fun hz => absurd hz (by decide)) (fun _ => ?_)
        refine am_aload_n (q := 46) dX9_readSymbol_45 rfl rfl ?_
        refine am_iload_n (q := 47) dX9_readSymbol_46 rfl rfl ?_
        refine am_bipush (q := 49) (v := 60) dX9_readSymbol_47 kc_b60 rfl ?_
        refine am_icmp_ne (tgt := 58) (q := 52) dX9_readSymbol_49 rfl rfl (fun hc3 => ?_) (fun hc3 => ?_)
        · refine am_sipush (q := 61) (v := 261) dX9_readSymbol_58 kc_s261 rfl ?_
          exact q 261 (if_neg hc3).symm
        · refine am_sipush (q := 55) (v := 260) dX9_readSymbol_52 kc_s260 rfl ?_
          refine am_goto (tgt := 61) dX9_readSymbol_55 rfl ?_
          exact q 260 (if_pos hc3).symm
    refine am_iload_n (q := 10) dX9_readSymbol_9 rfl rfl ?_
    refine am_bipush (q := 12) (v := 60) dX9_readSymbol_10 kc_b60 rfl ?_
    refine am_icmp_eq (tgt := 21) (q := 15) dX9_readSymbol_12 rfl rfl (fun h60 => ?_) (fun h60 => ?_)
    · exact yes (Or.inl h60)
    · refine am_iload_n (q := 16) dX9_readSymbol_15 rfl rfl ?_
      refine am_bipush (q := 18) (v := 62) dX9_readSymbol_16 kc_b62 rfl ?_
      refine am_icmp_ne (tgt := 37) (q := 21) dX9_readSymbol_18 rfl rfl (fun h62 => ?_) (fun h62 => ?_)
      · exact no fun q => q.1.elim h60 h62
      · exact yes (Or.inr h62)
  · rw [if_neg (bI_e0.mp hc)]
    refine am_iload_n (q := 8) dX9_readSymbol_7 rfl rfl ?_
    exact am_iret dX9_readSymbol_8 rfl rfl ⟨_, rfl, rfl, I, J, rfl, by rw [List.append_nil]; exact hL, OffT.rf, OffTJ.rf⟩
theorem k_X9_readToken {p : Nat} (hG : okG G) (hsy : ∀ c : Int32, Fn G mX9_isSymbol 4 [vI c] (mw S I J R) (fun rr M1 => rr = some (vI (bI (c ∈ syms))) ∧ M1 = mw S I J R)) (ht : TC S R t) (h : TPc S R a) (hE : AbTp I a E) (hL : AbT I J t L.toks) (hl : L.length < 401) (hK : ∀ i, i < 32 → J (t + 4) i = K i) (hp : p ≤ E.1) : Fn G mX9_readToken 6 [vR t, vR a, vI (nI p)] (mw S I J R) (fun rr M1 => rr = some (vI (nI (tokR E K p).2)) ∧ ∃ I1 J1, M1 = mw S I1 J1 R ∧ AbT I1 J1 t (TL.toks (L ++ (tokR E K p).1)) ∧ OffT t I I1 ∧ OffTJ t J J1) := by
  have ka := h.1
  have kt := ht.1
  have e2 := hE.2.1
  unfold tokR
  refine am_aload_n (q := 1) dX9_readToken_0 rfl rfl ?_
  refine am_iload_n (q := 2) dX9_readToken_1 rfl rfl ?_
  refine cm_call0 (q := 5) (As := [_]) hG dX9_readToken_2 mlX9_51 rfl (by assumption) ⟨_, _, rfl⟩ (Nat.le_of_ble_eq_true rfl) (Nat.le_of_ble_eq_true rfl) (Nat.le_of_ble_eq_true rfl) (Nat.le_of_ble_eq_true rfl) (k_X8_at h hE (by omega)) rfl ?_
  rintro _ _ ⟨rfl, rfl⟩
  refine am_istore_n (q := 6) (ls1 := [_, _, _, _]) dX9_readToken_5 (Nat.le_of_ble_eq_true rfl) rfl rfl ?_
  refine am_iload_n (q := 7) dX9_readToken_6 rfl rfl ?_
  refine am_call1 (q := 10) (As := [_]) hG dX9_readToken_7 mlX9_59 rfl (Nat.le_of_ble_eq_true rfl) (Nat.le_of_ble_eq_true rfl) (Nat.le_of_ble_eq_true rfl) k_X9_isLetter rfl ?_
  rintro _ _ ⟨rfl, rfl⟩
  refine am_if_eq (tgt := 20) (q := 13) dX9_readToken_10 rfl rfl (fun hc => ?_) (fun hc => ?_)
  · rw [if_neg (bI_e0.mp hc)]
    refine am_iload_n (q := 21) dX9_readToken_20 rfl rfl ?_
    refine am_call1 (q := 24) (As := [_]) hG dX9_readToken_21 mlX9_65 rfl (Nat.le_of_ble_eq_true rfl) (Nat.le_of_ble_eq_true rfl) (Nat.le_of_ble_eq_true rfl) k_X9_isDigit rfl ?_
    rintro _ _ ⟨rfl, rfl⟩
    refine am_if_eq (tgt := 36) (q := 27) dX9_readToken_24 rfl rfl (fun hc2 => ?_) (fun hc2 => ?_)
    · rw [if_neg (bI_e0.mp hc2)]
      refine am_aload_n (q := 37) dX9_readToken_36 rfl rfl ?_
      refine am_iload_n (q := 38) dX9_readToken_37 rfl rfl ?_
      refine am_aload_n (q := 39) dX9_readToken_38 rfl rfl ?_
      refine am_iload_n (q := 40) dX9_readToken_39 rfl rfl ?_
      refine cm_call0 (q := 43) (As := [_, _, _]) hG dX9_readToken_40 mlX9_71 rfl (by assumption) ⟨_, _, rfl⟩ (Nat.le_of_ble_eq_true rfl) (Nat.le_of_ble_eq_true rfl) (Nat.le_of_ble_eq_true rfl) (Nat.le_of_ble_eq_true rfl) (k_X9_readSymbol hG hsy ht h hE hL hl hp) rfl ?_
      rintro _ _ ⟨rfl, I1, J1, rfl, g1, g2, g3⟩
      exact am_iret dX9_readToken_43 rfl rfl ⟨_, rfl, rfl, I1, J1, rfl, g1, g2, g3⟩
    · rw [if_pos (bI_n0.mp hc2)]
      refine am_aload_n (q := 28) dX9_readToken_27 rfl rfl ?_
      refine am_aload_n (q := 29) dX9_readToken_28 rfl rfl ?_
      refine am_iload_n (q := 30) dX9_readToken_29 rfl rfl ?_
      refine cm_call0 (q := 33) (As := [_, _]) hG dX9_readToken_30 mlX9_68 rfl (by assumption) ⟨_, _, rfl⟩ (Nat.le_of_ble_eq_true rfl) (Nat.le_of_ble_eq_true rfl) (Nat.le_of_ble_eq_true rfl) (Nat.le_of_ble_eq_true rfl) (k_X9_readNumber hG ht h hE hL hl hp) rfl ?_
      rintro _ _ ⟨rfl, I1, J1, rfl, g1, g2, g3⟩
      refine am_goto (tgt := 43) dX9_readToken_33 rfl ?_
      exact am_iret dX9_readToken_43 rfl rfl ⟨_, rfl, rfl, I1, J1, rfl, g1, g2, g3⟩
  · rw [if_pos (bI_n0.mp hc)]
    refine am_aload_n (q := 14) dX9_readToken_13 rfl rfl ?_
    refine am_aload_n (q := 15) dX9_readToken_14 rfl rfl ?_
    refine am_iload_n (q := 16) dX9_readToken_15 rfl rfl ?_
    refine cm_call0 (q := 19) (As := [_, _]) hG dX9_readToken_16 mlX9_62 rfl (by assumption) ⟨_, _, rfl⟩ (Nat.le_of_ble_eq_true rfl) (Nat.le_of_ble_eq_true rfl) (Nat.le_of_ble_eq_true rfl) (Nat.le_of_ble_eq_true rfl) (k_X9_readWord hG ht h hE hL hl hK hp) rfl ?_
    rintro _ _ ⟨rfl, I1, J1, rfl, g1, g2, g3⟩
    exact am_iret dX9_readToken_19 rfl rfl ⟨_, rfl, rfl, I1, J1, rfl, g1, g2, g3⟩
theorem k_X9_readAll (hG : okG G) (hsy : ∀ (I : Nat → Nat → Int32) (J : Nat → Nat → Int64) (c : Int32), Fn G mX9_isSymbol 4 [vI c] (mw S I J R) (fun rr M1 => rr = some (vI (bI (c ∈ syms))) ∧ M1 = mw S I J R)) (ht : TC S R t) (h : TPc S R a) (hE : AbTp I a E) (hK : ∀ i, i < 32 → J (t + 4) i = K i) (hat : a + 1 < t ∨ t + 3 ≤ a) : Fn G mX9_readAll 7 [vR t, vR a] (mw S I J R) (fun rr M1 => rr = none ∧ ∃ I1 J1, M1 = mw S I1 J1 R ∧ AbT I1 J1 t (tkAll E K).toks ∧ OffT t I I1 ∧ OffTJ t J J1) := by
  have ka := h.1
  have kt := ht.1
  have e2 := hE.2.1
  have fin : ∀ (I1 : Nat → Nat → Int32) (J1 : Nat → Nat → Int64) (L : TL) (p : Nat) (x3 x4 : Option AV), AbT I1 J1 t L.toks → L.length < 401 → p ≤ E.1 → tkL E K 400 (spnE isBlB E 0) [] = (L, p) → OffT t I I1 → OffTJ t J J1 → MW G mX9_readAll 7 50 [some (vR t), some (vR a), some (vI (nI p)), x3, x4] [] (mw S I1 J1 R) (fun f M1 => ∃ r, f = .inl r ∧ (r = none ∧ ∃ I1 J1, M1 = mw S I1 J1 R ∧ AbT I1 J1 t (tkAll E K).toks ∧ OffT t I I1 ∧ OffTJ t J J1)) := by
    intro I1 J1 L p x3 x4 hL hl hp he o1 j1
    have hE1 := hE.offT o1 hat
    have e1 := hE1.1
    unfold tkAll
    rw [he]
    have q : ∀ w : Int32, w = (if p < E.1 then 257 else 256) → MW G mX9_readAll 7 68 [some (vR t), some (vR a), some (vI (nI p)), x3, x4] [vI w, vR t] (mw S I1 J1 R) (fun f M1 => ∃ r, f = .inl r ∧ (r = none ∧ ∃ I1 J1, M1 = mw S I1 J1 R ∧ AbT I1 J1 t (TL.toks (tkF E (L, p))) ∧ OffT t I I1 ∧ OffTJ t J J1)) := by
      intro w hw
      unfold tkF
      dsimp only
      rw [← hw]
      refine am_iload_n (q := 69) dX9_readAll_68 rfl rfl ?_
      refine am_lconst (q := 70) (v := 0) dX9_readAll_69 rfl rfl ?_
      refine cm_call0 (q := 73) (As := [_, _, _]) hG dX9_readAll_70 mlX9_47 rfl (by assumption) ⟨_, _, rfl⟩ (Nat.le_of_ble_eq_true rfl) (Nat.le_of_ble_eq_true rfl) (Nat.le_of_ble_eq_true rfl) (Nat.le_of_ble_eq_true rfl) (k_X9_addToken ht hL hl) rfl ?_
      rintro _ _ ⟨rfl, I2, J2, rfl, g1, g2, g3⟩
      exact am_ret dX9_readAll_73 rfl ⟨_, rfl, rfl, I2, J2, rfl, g1, o1.tr g2, j1.tr g3⟩
    refine am_aload_n (q := 51) dX9_readAll_50 rfl rfl ?_
    refine am_iload_n (q := 52) dX9_readAll_51 rfl rfl ?_
    refine am_aload_n (q := 53) dX9_readAll_52 rfl rfl ?_
    refine cm_getI (q := 56) dX9_readAll_53 flX9_42 rfl (by assumption) rfl ?_
    rw [e1]
    refine am_icmp_ge (tgt := 65) (q := 59) dX9_readAll_56 rfl rfl (fun hc => ?_) (fun hc => ?_)
    · refine am_sipush (q := 68) (v := 256) dX9_readAll_65 kc_s256 rfl ?_
      exact q 256 (if_neg (Nat.not_lt.mpr ((nI_leI (by omega) (by omega)).mp hc))).symm
    · refine am_sipush (q := 62) (v := 257) dX9_readAll_59 kc_s257 rfl ?_
      refine am_goto (tgt := 68) dX9_readAll_62 rfl ?_
      exact q 257 (if_pos (Nat.lt_of_not_le fun z => hc ((nI_leI (by omega) (by omega)).mpr z))).symm
  have hE0 : AbTp (up2 I t 4 0) a E := hE.off (up2_a (by omega)) (fun i _ => up2_a (by omega))
  have hL0 : AbT (up2 I t 4 0) J t (TL.toks []) := ⟨up2_s, Nat.zero_le _, fun i hi => absurd hi (Nat.not_lt_zero i), fun i hi => absurd hi (Nat.not_lt_zero i), fun i hi => absurd hi (Nat.not_lt_zero i)⟩
  have o0 : OffT t I (up2 I t 4 0) := fun y j q => up2_a (by omega)
  refine am_aload_n (q := 1) dX9_readAll_0 rfl rfl ?_
  refine am_iconst (q := 2) (v := 0) dX9_readAll_1 kc_i0 rfl ?_
  refine cm_putI (q := 5) dX9_readAll_2 flX9_31 rfl (Or.inl rfl) (Or.inl rfl) (by assumption) rfl ?_
  refine am_aload_n (q := 6) dX9_readAll_5 rfl rfl ?_
  refine am_iconst (q := 7) (v := 0) dX9_readAll_6 kc_i0 rfl ?_
  refine am_call1 (q := 10) (As := [_, _]) hG dX9_readAll_7 mlX9_35 rfl (Nat.le_of_ble_eq_true rfl) (Nat.le_of_ble_eq_true rfl) (Nat.le_of_ble_eq_true rfl) (k_X9_behindBlanks (p0 := 0) hG h hE0 (Nat.zero_le _)) rfl ?_
  rintro _ _ ⟨rfl, rfl⟩
  refine am_istore_n (q := 11) (ls1 := [_, _, _, _, _]) dX9_readAll_10 (Nat.le_of_ble_eq_true rfl) rfl rfl ?_
  refine am_iconst (q := 12) (v := 0) dX9_readAll_11 kc_i0 rfl ?_
  refine am_istore_n (q := 13) (ls1 := [_, _, _, _, _]) dX9_readAll_12 (Nat.le_of_ble_eq_true rfl) rfl rfl ?_
  have b0 := spnE_le (P := isBlB) (E := E) (p := 0) (Nat.zero_le _)
  refine k_loop (σ := (Nat → Nat → Int32) × (Nat → Nat → Int64) × TL × Nat × Option AV) (n := 400) (Inv := fun i q => tkL E K (400 - i) q.2.2.2.1 q.2.2.1 = tkL E K 400 (spnE isBlB E 0) [] ∧ AbT q.1 q.2.1 t q.2.2.1.toks ∧ q.2.2.1.length = i ∧ q.2.2.2.1 ≤ E.1 ∧ OffT t I q.1 ∧ OffTJ t J q.2.1) (W := fun i q => MW G mX9_readAll 7 13 [some (vR t), some (vR a), some (vI (nI q.2.2.2.1)), some (vI (nI i)), q.2.2.2.2] [] (mw S q.1 q.2.1 R) _) ?_ ?_ 0 (_, J, [], _, none) (Nat.zero_le _) ⟨rfl, hL0, rfl, b0.2, o0, OffTJ.rf⟩
  · rintro i ⟨I1, J1, L, p, x4⟩ hi ⟨hinv, hL, hl, hp, o1, j1⟩ ih
    dsimp only at hinv hL hl hp o1 j1 ih ⊢
    rw [show 400 - i = (400 - (i + 1)) + 1 by omega, tkL] at hinv
    have hE1 := hE.offT o1 hat
    have hK1 : ∀ k, k < 32 → J1 (t + 4) k = K k := fun k hk => (j1 _ _ (by omega)).trans (hK k hk)
    refine am_iload_n (q := 14) dX9_readAll_13 rfl rfl ?_
    refine am_sipush (q := 17) (v := 400) dX9_readAll_14 kc_s400 rfl ?_
    refine am_icmp_ge (tgt := 50) (q := 20) dX9_readAll_17 rfl rfl (fun hz => absurd hz (nI_ge (b := 400) (by omega) (by decide))) (fun _ => ?_)
    refine am_aload_n (q := 21) dX9_readAll_20 rfl rfl ?_
    refine am_aload_n (q := 22) dX9_readAll_21 rfl rfl ?_
    refine am_iload_n (q := 23) dX9_readAll_22 rfl rfl ?_
    refine cm_call0 (q := 26) (As := [_, _]) hG dX9_readAll_23 mlX9_39 rfl (by assumption) ⟨_, _, rfl⟩ (Nat.le_of_ble_eq_true rfl) (Nat.le_of_ble_eq_true rfl) (Nat.le_of_ble_eq_true rfl) (Nat.le_of_ble_eq_true rfl) (k_X9_readToken hG (hsy I1 J1) ht h hE1 hL (by omega) hK1 hp) rfl ?_
    rintro _ _ ⟨rfl, I2, J2, rfl, g1, g2, g3⟩
    refine am_istore (q := 28) (ls1 := [_, _, _, _, _]) dX9_readAll_26 (Nat.le_of_ble_eq_true rfl) rfl rfl ?_
    rcases tok_p (E := E) (K := K) (p := p) hp with ⟨w1, w2⟩ | ⟨w1, w2, z, w3⟩
    · rw [if_pos w1] at hinv
      rw [w1]
      rw [w2, List.append_nil] at g1
      refine am_iload (q := 30) dX9_readAll_28 rfl rfl ?_
      refine am_iload_n (q := 31) dX9_readAll_30 rfl rfl ?_
      refine am_icmp_ne (tgt := 37) (q := 34) dX9_readAll_31 rfl rfl (fun hz => absurd rfl hz) (fun _ => ?_)
      refine am_goto (tgt := 50) dX9_readAll_34 rfl ?_
      exact fin I2 J2 L p _ _ g1 (by omega) hp hinv.symm (o1.tr g2) (j1.tr g3)
    · rw [if_neg (by omega)] at hinv
      have hE2 := hE1.offT g2 hat
      have b1 := spnE_le (P := isBlB) (E := E) (p := (tokR E K p).2) w2
      refine am_iload (q := 30) dX9_readAll_28 rfl rfl ?_
      refine am_iload_n (q := 31) dX9_readAll_30 rfl rfl ?_
      refine am_icmp_ne (tgt := 37) (q := 34) dX9_readAll_31 rfl rfl (fun _ => ?_) (fun hz => absurd hz (fun q => absurd ((nI_eq (by omega) (by omega)).mp q) (by omega)))
      refine am_aload_n (q := 38) dX9_readAll_37 rfl rfl ?_
      refine am_iload (q := 40) dX9_readAll_38 rfl rfl ?_
      refine am_call1 (q := 43) (As := [_, _]) hG dX9_readAll_40 mlX9_35 rfl (Nat.le_of_ble_eq_true rfl) (Nat.le_of_ble_eq_true rfl) (Nat.le_of_ble_eq_true rfl) (k_X9_behindBlanks hG h hE2 w2) rfl ?_
      rintro _ _ ⟨rfl, rfl⟩
      refine am_istore_n (q := 44) (ls1 := [_, _, _, _, _]) dX9_readAll_43 (Nat.le_of_ble_eq_true rfl) rfl rfl ?_
      refine am_iincW (q := 47) (ls1 := [_, _, _, _, _]) (w := 1) dX9_readAll_44 rfl (Nat.le_of_ble_eq_true rfl) kc_i1 rfl rfl ?_
      refine am_goto (tgt := 13) dX9_readAll_47 rfl ?_
      rw [nI_1]
      refine ih (I2, J2, _, _, _) ⟨hinv, g1, ?_, b1.2, o1.tr g2, j1.tr g3⟩
      rw [w3, List.length_append, hl]
      rfl
  · rintro ⟨I1, J1, L, p, x4⟩ ⟨hinv, hL, hl, hp, o1, j1⟩
    dsimp only at hinv hL hl hp o1 j1 ⊢
    rw [Nat.sub_self, tkL] at hinv
    refine am_iload_n (q := 14) dX9_readAll_13 rfl rfl ?_
    refine am_sipush (q := 17) (v := 400) dX9_readAll_14 kc_s400 rfl ?_
    refine am_icmp_ge (tgt := 50) (q := 20) dX9_readAll_17 rfl rfl (fun _ => ?_) (fun hz => absurd (Int32.le_refl _) hz)
    exact fin I1 J1 L p _ _ hL (by omega) hp hinv.symm o1 j1
end Cu

