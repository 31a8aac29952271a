theorem kc_b59 : (Int8.ofInt 59).toInt32 = 59 := by decide +kernel
theorem kc_s313 : (Int16.ofInt 313).toInt32 = 313 := by decide +kernel
theorem kc_s314 : (Int16.ofInt 314).toInt32 = 314 := by decide +kernel
theorem kc_s315 : (Int16.ofInt 315).toInt32 = 315 := by decide +kernel
theorem kc_s316 : (Int16.ofInt 316).toInt32 = 316 := by decide +kernel
theorem kc_s317 : (Int16.ofInt 317).toInt32 = 317 := by decide +kernel
theorem kc_s318 : (Int16.ofInt 318).toInt32 = 318 := by decide +kernel
theorem dX7_readBill_22 : decode cX7_readBill 22 = .ok (.iload_n 2, 1) := by decide +kernel
theorem dX7_readBill_23 : decode cX7_readBill 23 = .ok (.sipush 400, 3) := by decide +kernel
theorem dX7_readBill_26 : decode cX7_readBill 26 = .ok (.if_icmp .gt 125, 3) := by decide +kernel
theorem dX7_readBill_29 : decode cX7_readBill 29 = .ok (.aload_n 0, 1) := by decide +kernel
theorem dX7_readBill_30 : decode cX7_readBill 30 = .ok (.getfield 26, 3) := by decide +kernel
theorem dX7_readBill_33 : decode cX7_readBill 33 = .ok (.iconst 1, 1) := by decide +kernel
theorem dX7_readBill_34 : decode cX7_readBill 34 = .ok (.if_icmp .eq 117, 3) := by decide +kernel
theorem dX7_readBill_37 : decode cX7_readBill 37 = .ok (.aload_n 0, 1) := by decide +kernel
theorem dX7_readBill_38 : decode cX7_readBill 38 = .ok (.invokevirtual 31, 3) := by decide +kernel
theorem dX7_readBill_41 : decode cX7_readBill 41 = .ok (.sipush 256, 3) := by decide +kernel
theorem dX7_readBill_44 : decode cX7_readBill 44 = .ok (.if_icmp .eq 107, 3) := by decide +kernel
theorem dX7_readBill_47 : decode cX7_readBill 47 = .ok (.aload_n 0, 1) := by decide +kernel
theorem dX7_readBill_48 : decode cX7_readBill 48 = .ok (.invokevirtual 31, 3) := by decide +kernel
theorem dX7_readBill_51 : decode cX7_readBill 51 = .ok (.lookupswitch 84 #[(300, 49), (304, 56), (309, 63), (313, 70), (317, 77)], 49) := by decide +kernel
theorem dX7_readBill_100 : decode cX7_readBill 100 = .ok (.aload_n 0, 1) := by decide +kernel
theorem dX7_readBill_101 : decode cX7_readBill 101 = .ok (.invokevirtual 35, 3) := by decide +kernel
theorem dX7_readBill_104 : decode cX7_readBill 104 = .ok (.goto 35, 3) := by decide +kernel
theorem dX7_readBill_107 : decode cX7_readBill 107 = .ok (.aload_n 0, 1) := by decide +kernel
theorem dX7_readBill_108 : decode cX7_readBill 108 = .ok (.invokevirtual 38, 3) := by decide +kernel
theorem dX7_readBill_111 : decode cX7_readBill 111 = .ok (.goto 28, 3) := by decide +kernel
theorem dX7_readBill_114 : decode cX7_readBill 114 = .ok (.aload_n 0, 1) := by decide +kernel
theorem dX7_readBill_115 : decode cX7_readBill 115 = .ok (.invokevirtual 41, 3) := by decide +kernel
theorem dX7_readBill_118 : decode cX7_readBill 118 = .ok (.goto 21, 3) := by decide +kernel
theorem dX7_readBill_121 : decode cX7_readBill 121 = .ok (.aload_n 0, 1) := by decide +kernel
theorem dX7_readBill_122 : decode cX7_readBill 122 = .ok (.invokevirtual 44, 3) := by decide +kernel
theorem dX7_readBill_125 : decode cX7_readBill 125 = .ok (.goto 14, 3) := by decide +kernel
theorem dX7_readBill_128 : decode cX7_readBill 128 = .ok (.aload_n 0, 1) := by decide +kernel
theorem dX7_readBill_129 : decode cX7_readBill 129 = .ok (.invokevirtual 47, 3) := by decide +kernel
theorem dX7_readBill_132 : decode cX7_readBill 132 = .ok (.goto 7, 3) := by decide +kernel
theorem dX7_readBill_135 : decode cX7_readBill 135 = .ok (.aload_n 0, 1) := by decide +kernel
theorem dX7_readBill_136 : decode cX7_readBill 136 = .ok (.invokevirtual 50, 3) := by decide +kernel
theorem dX7_readBill_139 : decode cX7_readBill 139 = .ok (.aload_n 0, 1) := by decide +kernel
theorem dX7_readBill_140 : decode cX7_readBill 140 = .ok (.bipush 59, 2) := by decide +kernel
theorem dX7_readBill_142 : decode cX7_readBill 142 = .ok (.invokevirtual 53, 3) := by decide +kernel
theorem dX7_readBill_145 : decode cX7_readBill 145 = .ok (.iinc 2 1, 3) := by decide +kernel
theorem dX7_readBill_148 : decode cX7_readBill 148 = .ok (.goto (-126), 3) := by decide +kernel
theorem dX7_readBill_151 : decode cX7_readBill 151 = .ok (.aload_n 0, 1) := by decide +kernel
theorem dX7_readBill_152 : decode cX7_readBill 152 = .ok (.getfield 26, 3) := by decide +kernel
theorem dX7_readBill_155 : decode cX7_readBill 155 = .ok (.ireturn, 1) := by decide +kernel
theorem dX7_readPrize_0 : decode cX7_readPrize 0 = .ok (.aload_n 0, 1) := by decide +kernel
theorem dX7_readPrize_1 : decode cX7_readPrize 1 = .ok (.sipush 313, 3) := by decide +kernel
theorem dX7_readPrize_4 : decode cX7_readPrize 4 = .ok (.invokevirtual 53, 3) := by decide +kernel
theorem dX7_readPrize_7 : decode cX7_readPrize 7 = .ok (.aload_n 0, 1) := by decide +kernel
theorem dX7_readPrize_8 : decode cX7_readPrize 8 = .ok (.invokevirtual 57, 3) := by decide +kernel
theorem dX7_readPrize_11 : decode cX7_readPrize 11 = .ok (.lstore_n 1, 1) := by decide +kernel
theorem dX7_readPrize_12 : decode cX7_readPrize 12 = .ok (.aload_n 0, 1) := by decide +kernel
theorem dX7_readPrize_13 : decode cX7_readPrize 13 = .ok (.aload_n 0, 1) := by decide +kernel
theorem dX7_readPrize_14 : decode cX7_readPrize 14 = .ok (.getfield 15, 3) := by decide +kernel
theorem dX7_readPrize_17 : decode cX7_readPrize 17 = .ok (.lload_n 1, 1) := by decide +kernel
theorem dX7_readPrize_18 : decode cX7_readPrize 18 = .ok (.invokevirtual 110, 3) := by decide +kernel
theorem dX7_readPrize_21 : decode cX7_readPrize 21 = .ok (.ifCond .lt 7, 3) := by decide +kernel
theorem dX7_readPrize_24 : decode cX7_readPrize 24 = .ok (.iconst 1, 1) := by decide +kernel
theorem dX7_readPrize_25 : decode cX7_readPrize 25 = .ok (.goto 4, 3) := by decide +kernel
theorem dX7_readPrize_28 : decode cX7_readPrize 28 = .ok (.iconst 0, 1) := by decide +kernel
theorem dX7_readPrize_29 : decode cX7_readPrize 29 = .ok (.aload_n 0, 1) := by decide +kernel
theorem dX7_readPrize_30 : decode cX7_readPrize 30 = .ok (.getfield 15, 3) := by decide +kernel
theorem dX7_readPrize_33 : decode cX7_readPrize 33 = .ok (.getfield 113, 3) := by decide +kernel
theorem dX7_readPrize_36 : decode cX7_readPrize 36 = .ok (.bipush 8, 2) := by decide +kernel
theorem dX7_readPrize_38 : decode cX7_readPrize 38 = .ok (.if_icmp .lt 7, 3) := by decide +kernel
theorem dX7_readPrize_41 : decode cX7_readPrize 41 = .ok (.iconst 1, 1) := by decide +kernel
theorem dX7_readPrize_42 : decode cX7_readPrize 42 = .ok (.goto 4, 3) := by decide +kernel
theorem dX7_readPrize_45 : decode cX7_readPrize 45 = .ok (.iconst 0, 1) := by decide +kernel
theorem dX7_readPrize_46 : decode cX7_readPrize 46 = .ok (.invokevirtual 70, 3) := by decide +kernel
theorem dX7_readPrize_49 : decode cX7_readPrize 49 = .ok (.aload_n 0, 1) := by decide +kernel
theorem dX7_readPrize_50 : decode cX7_readPrize 50 = .ok (.sipush 314, 3) := by decide +kernel
theorem dX7_readPrize_53 : decode cX7_readPrize 53 = .ok (.invokevirtual 53, 3) := by decide +kernel
theorem dX7_readPrize_56 : decode cX7_readPrize 56 = .ok (.aload_n 0, 1) := by decide +kernel
theorem dX7_readPrize_57 : decode cX7_readPrize 57 = .ok (.getfield 15, 3) := by decide +kernel
theorem dX7_readPrize_60 : decode cX7_readPrize 60 = .ok (.getfield 116, 3) := by decide +kernel
theorem dX7_readPrize_63 : decode cX7_readPrize 63 = .ok (.getfield 120, 3) := by decide +kernel
theorem dX7_readPrize_66 : decode cX7_readPrize 66 = .ok (.istore_n 3, 1) := by decide +kernel
theorem dX7_readPrize_67 : decode cX7_readPrize 67 = .ok (.aload_n 0, 1) := by decide +kernel
theorem dX7_readPrize_68 : decode cX7_readPrize 68 = .ok (.iconst 0, 1) := by decide +kernel
theorem dX7_readPrize_69 : decode cX7_readPrize 69 = .ok (.invokevirtual 125, 3) := by decide +kernel
theorem dX7_readPrize_72 : decode cX7_readPrize 72 = .ok (.aload_n 0, 1) := by decide +kernel
theorem dX7_readPrize_73 : decode cX7_readPrize 73 = .ok (.sipush 315, 3) := by decide +kernel
theorem dX7_readPrize_76 : decode cX7_readPrize 76 = .ok (.iconst 0, 1) := by decide +kernel
theorem dX7_readPrize_77 : decode cX7_readPrize 77 = .ok (.bipush 99, 2) := by decide +kernel
theorem dX7_readPrize_79 : decode cX7_readPrize 79 = .ok (.invokevirtual 74, 3) := by decide +kernel
theorem dX7_readPrize_82 : decode cX7_readPrize 82 = .ok (.istore 4, 2) := by decide +kernel
theorem dX7_readPrize_84 : decode cX7_readPrize 84 = .ok (.aload_n 0, 1) := by decide +kernel
theorem dX7_readPrize_85 : decode cX7_readPrize 85 = .ok (.sipush 316, 3) := by decide +kernel
theorem dX7_readPrize_88 : decode cX7_readPrize 88 = .ok (.invokevirtual 53, 3) := by decide +kernel
theorem dX7_readPrize_91 : decode cX7_readPrize 91 = .ok (.aload_n 0, 1) := by decide +kernel
theorem dX7_readPrize_92 : decode cX7_readPrize 92 = .ok (.getfield 15, 3) := by decide +kernel
theorem dX7_readPrize_95 : decode cX7_readPrize 95 = .ok (.getfield 116, 3) := by decide +kernel
theorem dX7_readPrize_98 : decode cX7_readPrize 98 = .ok (.getfield 120, 3) := by decide +kernel
theorem dX7_readPrize_101 : decode cX7_readPrize 101 = .ok (.istore 5, 2) := by decide +kernel
theorem dX7_readPrize_103 : decode cX7_readPrize 103 = .ok (.aload_n 0, 1) := by decide +kernel
theorem dX7_readPrize_104 : decode cX7_readPrize 104 = .ok (.iconst 0, 1) := by decide +kernel
theorem dX7_readPrize_105 : decode cX7_readPrize 105 = .ok (.invokevirtual 128, 3) := by decide +kernel
theorem dX7_readPrize_108 : decode cX7_readPrize 108 = .ok (.aload_n 0, 1) := by decide +kernel
theorem dX7_readPrize_109 : decode cX7_readPrize 109 = .ok (.getfield 26, 3) := by decide +kernel
theorem dX7_readPrize_112 : decode cX7_readPrize 112 = .ok (.ifCond .ne 26, 3) := by decide +kernel
theorem dX7_readPrize_115 : decode cX7_readPrize 115 = .ok (.aload_n 0, 1) := by decide +kernel
theorem dX7_readPrize_116 : decode cX7_readPrize 116 = .ok (.getfield 15, 3) := by decide +kernel
theorem dX7_readPrize_119 : decode cX7_readPrize 119 = .ok (.lload_n 1, 1) := by decide +kernel
theorem dX7_readPrize_120 : decode cX7_readPrize 120 = .ok (.iload 4, 2) := by decide +kernel
theorem dX7_readPrize_122 : decode cX7_readPrize 122 = .ok (.iload_n 3, 1) := by decide +kernel
theorem dX7_readPrize_123 : decode cX7_readPrize 123 = .ok (.iload 5, 2) := by decide +kernel
theorem dX7_readPrize_125 : decode cX7_readPrize 125 = .ok (.aload_n 0, 1) := by decide +kernel
theorem dX7_readPrize_126 : decode cX7_readPrize 126 = .ok (.getfield 15, 3) := by decide +kernel
theorem dX7_readPrize_129 : decode cX7_readPrize 129 = .ok (.getfield 116, 3) := by decide +kernel
theorem dX7_readPrize_132 : decode cX7_readPrize 132 = .ok (.getfield 120, 3) := by decide +kernel
theorem dX7_readPrize_135 : decode cX7_readPrize 135 = .ok (.invokevirtual 131, 3) := by decide +kernel
theorem dX7_readPrize_138 : decode cX7_readPrize 138 = .ok (.return_, 1) := by decide +kernel
theorem dX7_readTurn_0 : decode cX7_readTurn 0 = .ok (.aload_n 0, 1) := by decide +kernel
theorem dX7_readTurn_1 : decode cX7_readTurn 1 = .ok (.getfield 15, 3) := by decide +kernel
theorem dX7_readTurn_4 : decode cX7_readTurn 4 = .ok (.getfield 135, 3) := by decide +kernel
theorem dX7_readTurn_7 : decode cX7_readTurn 7 = .ok (.bipush 20, 2) := by decide +kernel
theorem dX7_readTurn_9 : decode cX7_readTurn 9 = .ok (.if_icmp .lt 8, 3) := by decide +kernel
theorem dX7_readTurn_12 : decode cX7_readTurn 12 = .ok (.aload_n 0, 1) := by decide +kernel
theorem dX7_readTurn_13 : decode cX7_readTurn 13 = .ok (.iconst 4, 1) := by decide +kernel
theorem dX7_readTurn_14 : decode cX7_readTurn 14 = .ok (.invokevirtual 87, 3) := by decide +kernel
theorem dX7_readTurn_17 : decode cX7_readTurn 17 = .ok (.aload_n 0, 1) := by decide +kernel
theorem dX7_readTurn_18 : decode cX7_readTurn 18 = .ok (.sipush 317, 3) := by decide +kernel
theorem dX7_readTurn_21 : decode cX7_readTurn 21 = .ok (.invokevirtual 53, 3) := by decide +kernel
theorem dX7_readTurn_24 : decode cX7_readTurn 24 = .ok (.aload_n 0, 1) := by decide +kernel
theorem dX7_readTurn_25 : decode cX7_readTurn 25 = .ok (.aload_n 0, 1) := by decide +kernel
theorem dX7_readTurn_26 : decode cX7_readTurn 26 = .ok (.getfield 15, 3) := by decide +kernel
theorem dX7_readTurn_29 : decode cX7_readTurn 29 = .ok (.aload_n 0, 1) := by decide +kernel
theorem dX7_readTurn_30 : decode cX7_readTurn 30 = .ok (.invokevirtual 57, 3) := by decide +kernel
theorem dX7_readTurn_33 : decode cX7_readTurn 33 = .ok (.invokevirtual 101, 3) := by decide +kernel
theorem dX7_readTurn_36 : decode cX7_readTurn 36 = .ok (.invokevirtual 90, 3) := by decide +kernel
theorem dX7_readTurn_39 : decode cX7_readTurn 39 = .ok (.istore_n 1, 1) := by decide +kernel
theorem dX7_readTurn_40 : decode cX7_readTurn 40 = .ok (.aload_n 0, 1) := by decide +kernel
theorem dX7_readTurn_41 : decode cX7_readTurn 41 = .ok (.sipush 318, 3) := by decide +kernel
theorem dX7_readTurn_44 : decode cX7_readTurn 44 = .ok (.invokevirtual 53, 3) := by decide +kernel
theorem dX7_readTurn_47 : decode cX7_readTurn 47 = .ok (.aload_n 0, 1) := by decide +kernel
theorem dX7_readTurn_48 : decode cX7_readTurn 48 = .ok (.aload_n 0, 1) := by decide +kernel
theorem dX7_readTurn_49 : decode cX7_readTurn 49 = .ok (.getfield 15, 3) := by decide +kernel
theorem dX7_readTurn_52 : decode cX7_readTurn 52 = .ok (.aload_n 0, 1) := by decide +kernel
theorem dX7_readTurn_53 : decode cX7_readTurn 53 = .ok (.invokevirtual 57, 3) := by decide +kernel
theorem dX7_readTurn_56 : decode cX7_readTurn 56 = .ok (.invokevirtual 61, 3) := by decide +kernel
theorem dX7_readTurn_59 : decode cX7_readTurn 59 = .ok (.invokevirtual 90, 3) := by decide +kernel
theorem dX7_readTurn_62 : decode cX7_readTurn 62 = .ok (.istore_n 2, 1) := by decide +kernel
theorem dX7_readTurn_63 : decode cX7_readTurn 63 = .ok (.aload_n 0, 1) := by decide +kernel
theorem dX7_readTurn_64 : decode cX7_readTurn 64 = .ok (.getfield 15, 3) := by decide +kernel
theorem dX7_readTurn_67 : decode cX7_readTurn 67 = .ok (.getfield 116, 3) := by decide +kernel
theorem dX7_readTurn_70 : decode cX7_readTurn 70 = .ok (.getfield 120, 3) := by decide +kernel
theorem dX7_readTurn_73 : decode cX7_readTurn 73 = .ok (.istore_n 3, 1) := by decide +kernel
theorem dX7_readTurn_74 : decode cX7_readTurn 74 = .ok (.aload_n 0, 1) := by decide +kernel
theorem dX7_readTurn_75 : decode cX7_readTurn 75 = .ok (.invokevirtual 31, 3) := by decide +kernel
theorem dX7_readTurn_78 : decode cX7_readTurn 78 = .ok (.sipush 316, 3) := by decide +kernel
theorem dX7_readTurn_81 : decode cX7_readTurn 81 = .ok (.if_icmp .ne 15, 3) := by decide +kernel
theorem dX7_readTurn_84 : decode cX7_readTurn 84 = .ok (.aload_n 0, 1) := by decide +kernel
theorem dX7_readTurn_85 : decode cX7_readTurn 85 = .ok (.sipush 316, 3) := by decide +kernel
theorem dX7_readTurn_88 : decode cX7_readTurn 88 = .ok (.invokevirtual 53, 3) := by decide +kernel
theorem dX7_readTurn_91 : decode cX7_readTurn 91 = .ok (.aload_n 0, 1) := by decide +kernel
theorem dX7_readTurn_92 : decode cX7_readTurn 92 = .ok (.iconst 0, 1) := by decide +kernel
theorem dX7_readTurn_93 : decode cX7_readTurn 93 = .ok (.invokevirtual 128, 3) := by decide +kernel
theorem dX7_readTurn_96 : decode cX7_readTurn 96 = .ok (.aload_n 0, 1) := by decide +kernel
theorem dX7_readTurn_97 : decode cX7_readTurn 97 = .ok (.getfield 26, 3) := by decide +kernel
theorem dX7_readTurn_100 : decode cX7_readTurn 100 = .ok (.ifCond .ne 23, 3) := by decide +kernel
theorem dX7_readTurn_103 : decode cX7_readTurn 103 = .ok (.aload_n 0, 1) := by decide +kernel
theorem dX7_readTurn_104 : decode cX7_readTurn 104 = .ok (.getfield 15, 3) := by decide +kernel
theorem dX7_readTurn_107 : decode cX7_readTurn 107 = .ok (.iload_n 1, 1) := by decide +kernel
theorem dX7_readTurn_108 : decode cX7_readTurn 108 = .ok (.iload_n 2, 1) := by decide +kernel
theorem dX7_readTurn_109 : decode cX7_readTurn 109 = .ok (.iload_n 3, 1) := by decide +kernel
theorem dX7_readTurn_110 : decode cX7_readTurn 110 = .ok (.aload_n 0, 1) := by decide +kernel
theorem dX7_readTurn_111 : decode cX7_readTurn 111 = .ok (.getfield 15, 3) := by decide +kernel
theorem dX7_readTurn_114 : decode cX7_readTurn 114 = .ok (.getfield 116, 3) := by decide +kernel
theorem dX7_readTurn_117 : decode cX7_readTurn 117 = .ok (.getfield 120, 3) := by decide +kernel
theorem dX7_readTurn_120 : decode cX7_readTurn 120 = .ok (.invokevirtual 138, 3) := by decide +kernel
theorem dX7_readTurn_123 : decode cX7_readTurn 123 = .ok (.return_, 1) := by decide +kernel
/-! lines of a bill: prizes and turns; all lines; the whole bill -/
def rP1 (T : Toks) (b : BL) : PS := pEx T 313 b.P
def rPn (T : Toks) (b : BL) : PS := pNew T (bI (0 ≤ fndJ b.np (pV T (rP1 T b)) 0 b.B.nP)) (bI (8 ≤ b.B.nP)) (rP1 T b)
def rP2 (T : Toks) (b : BL) : PS := pEx T 314 (rPn T b)
def rPw (T : Toks) (b : BL) : PS × Cd := eSu T (eVal T (ixB b) 8) (rP2 T b, b.L)
def rP3 (T : Toks) (b : BL) : PS := pNum T 315 0 99 (rPw T b).1
def rP4 (T : Toks) (b : BL) : PS := pEx T 316 (rP3 T b)
def rPt (T : Toks) (b : BL) : PS × Cd := eTs T (eSng T (ixB b) 8) (rP4 T b, (rPw T b).2)
def rdPrize (T : Toks) (b : BL) : BL := if (rPt T b).1.2.1 = 0 then ((rPt T b).1, (rPt T b).2, BSprize b.B (semC (rPt T b).2 b.L.length (rPw T b).2.length) (semC (rPt T b).2 (rPw T b).2.length (rPt T b).2.length), MSprize b.m b.B.nP (pW T 315 (rPw T b).1), b.u, b.nr, b.nf, up1 b.np b.B.nP (pV T (rP1 T b))) else BE b (rPt T b)
def rT0 (T : Toks) (b : BL) : PS := if 20 ≤ b.B.nT then pBl T 4 b.P else b.P
def rT1 (T : Toks) (b : BL) : PS := pEx T 317 (rT0 T b)
def rTf (T : Toks) (b : BL) : Int32 := fndJ b.nf (pV T (rT1 T b)) 0 b.B.nF
def rT2 (T : Toks) (b : BL) : PS := pKn T (rTf T b) (rT1 T b)
def rT3 (T : Toks) (b : BL) : PS := pEx T 318 (rT2 T b)
def rTr (T : Toks) (b : BL) : Int32 := fndJ b.nr (pV T (rT3 T b)) 0 b.B.nR
def rT4 (T : Toks) (b : BL) : PS := pKn T (rTr T b) (rT3 T b)
def rTt (T : Toks) (b : BL) : PS × Cd := if pK T (rT4 T b) = 316 then eTs T (eSng T (ixB b) 8) (pEx T 316 (rT4 T b), b.L) else (rT4 T b, b.L)
def rdTurn (T : Toks) (b : BL) : BL := if (rTt T b).1.2.1 = 0 then ((rTt T b).1, (rTt T b).2, BSturn b.B (rTf T b).toNatClampNeg (rTr T b).toNatClampNeg (semT (rTt T b).2 b.L.length (rTt T b).2.length), MSturn b.m b.B.nT, b.u, b.nr, b.nf, b.np) else BE b (rTt T b)
def rdLine (T : Toks) (b : BL) : BL := if pK T b.P = 300 then rdRail T b else if pK T b.P = 304 then rdRust T b else if pK T b.P = 309 then rdFist T b else if pK T b.P = 313 then rdPrize T b else if pK T b.P = 317 then rdTurn T b else BP b (pRef T b.P)
def rdNext (T : Toks) (b : BL) : BL := BP (rdLine T b) (pEx T 59 (rdLine T b).P)
def rdLoop (T : Toks) : Nat → BL → BL
  | 0, b => b
  | n + 1, b => if b.P.2.1 = 1 ∨ pK T b.P = 256 then b else rdLoop T n (rdNext T b)
/-! no error behind: none ahead -/
def KE0 (V : PS × Cd → PS × Cd) : Prop := ∀ s, (V s).1.2.1 = 0 → s.1.2.1 = 0
theorem pDp_0 {T : Toks} {k : Int32} {d : Nat} {s : PS} (h : (pDp T k d s).2.1 = 0) : d < 8 ∧ pDp T k d s = pEx T k s ∧ s.2.1 = 0 := by
  unfold pDp at h ⊢
  by_cases e : d < 8
  · rw [if_pos e] at h
    exact ⟨e, if_pos e, (pEx_0 h).1⟩
  · rw [if_neg e, pRef_1] at h
    exact absurd h (by decide)
theorem eDp_0 {T : Toks} {k : Int32} {d : Nat} {s : PS × Cd} (h : (eDp T k d s).1.2.1 = 0) : s.1.2.1 = 0 := (pDp_0 h).2.2
theorem eEx_0 {T : Toks} {k : Int32} {s : PS × Cd} (h : (eEx T k s).1.2.1 = 0) : s.1.2.1 = 0 := (pEx_0 h).1
theorem eAd_0 {k g : Int32} {s : PS × Cd} (h : (eAd k g s).1.2.1 = 0) : s.1.2.1 = 0 := h
theorem eRef_0 {T : Toks} {s : PS × Cd} {p : Prop} (h : (eRef T s).1.2.1 = 0) : p := absurd (h.symm.trans (pRef_1 (T := T) (s := s.1))) (by decide)
theorem ePl_0 {T : Toks} {k : Int32} {s : PS × Cd} (h : (ePl T k s).1.2.1 = 0) : s.1.2.1 = 0 := eAd_0 (eEx_0 h)
theorem eNm_0 {T : Toks} {ix : Int32 → Int64 → Int32} {k : Int32} {s : PS × Cd} (h : (eNm T ix k s).1.2.1 = 0) : s.1.2.1 = 0 := by
  unfold eNm eAd at h
  dsimp only at h
  exact (pEx_0 (pKn_0 h).1).1
theorem eLoop_0 {T : Toks} {p : PS × Cd → PS × Cd} {a b : Int32} (h : KE0 p) : ∀ n, KE0 (eLoop T p a b n) := by
  intro n
  induction n with
  | zero => intro s hs; exact hs
  | succ n ih =>
    intro s hs
    rw [eLoop] at hs
    split at hs
    · exact eEx_0 (h _ (eAd_0 (ih _ hs)))
    · exact hs
theorem eSu_0 {T : Toks} {V : PS × Cd → PS × Cd} (h : KE0 V) : KE0 (eSu T V) := by
  have h1 : KE0 (eProd T V) := fun s hs => h s (eLoop_0 h 400 _ hs)
  exact fun s hs => h1 s (eLoop_0 h1 400 _ hs)
theorem eTs_0 {T : Toks} {V : PS × Cd → PS × Cd} (h : KE0 V) : KE0 (eTs T V) := by
  have h1 : KE0 (eBoth T V) := fun s hs => h s (eLoop_0 h 400 _ hs)
  exact fun s hs => h1 s (eLoop_0 h1 400 _ hs)
theorem ePair_0 {T : Toks} {V : PS × Cd → PS × Cd} (h : KE0 V) (d : Nat) (k : Int32) : KE0 (ePair T V d k) := by
  intro s hs
  unfold ePair at hs
  split at hs
  · exact eDp_0 hs
  · have a1 := eSu_0 (T := T) h (eDp T 40 d s)
    generalize eSu T V (eDp T 40 d s) = s1 at a1 hs
    have a2 := eSu_0 (T := T) h (eEx T 44 s1)
    generalize eSu T V (eEx T 44 s1) = s2 at a2 hs
    exact eDp_0 (a1 (eEx_0 (a2 (eEx_0 (eAd_0 hs)))))
theorem eValF_0 {T : Toks} {ix : Int32 → Int64 → Int32} {V : PS × Cd → PS × Cd} (h : KE0 V) (d : Nat) : KE0 (eValF T ix V d) := by
  intro s hs
  unfold eValF at hs
  split at hs
  · split at hs
    · exact eDp_0 hs
    · have a1 := eSu_0 (T := T) h (eDp T 40 d s)
      generalize eSu T V (eDp T 40 d s) = s1 at a1 hs
      exact eDp_0 (a1 (eEx_0 hs))
  · split at hs
    · split at hs
      · exact eDp_0 hs
      · exact eDp_0 (h _ (eAd_0 hs))
    · split at hs
      · exact ePl_0 hs
      · split at hs
        · exact eNm_0 hs
        · split at hs
          · exact eEx_0 (ePair_0 h d _ _ hs)
          · exact eRef_0 hs
theorem eVal_0 {T : Toks} {ix : Int32 → Int64 → Int32} : ∀ r, KE0 (eVal T ix r) := by
  intro r
  induction r with
  | zero => exact eValF_0 (fun _ h => h) 8
  | succ r ih => exact eValF_0 ih (7 - r)
theorem eCmp_0 {T : Toks} {V : PS × Cd → PS × Cd} (h : KE0 V) : KE0 (eCmp T V) := by
  intro s hs
  unfold eCmp eCs at hs
  split at hs
  · exact h _ (eEx_0 (h _ (eAd_0 hs)))
  · exact eRef_0 (h _ (eAd_0 hs))
theorem eSngF_0 {T : Toks} {P Q C : PS × Cd → PS × Cd} (hP : KE0 P) (hQ : KE0 Q) (hC : KE0 C) (d : Nat) : KE0 (eSngF T P Q C d) := by
  intro s hs
  unfold eSngF at hs
  split at hs
  · split at hs
    · exact eDp_0 hs
    · exact eDp_0 (hQ _ (eEx_0 hs))
  · split at hs
    · exact ePl_0 hs
    · split at hs
      · split at hs
        · exact eDp_0 hs
        · exact eDp_0 (hP _ (eAd_0 hs))
      · exact hC _ hs
theorem eSng_0 {T : Toks} {ix : Int32 → Int64 → Int32} : ∀ r, KE0 (eSng T ix r) := by
  intro r
  induction r with
  | zero => exact eSngF_0 (fun _ h => h) (fun _ h => h) (eCmp_0 (eSu_0 (eVal_0 0))) 8
  | succ r ih => exact eSngF_0 ih (eTs_0 ih) (eCmp_0 (eSu_0 (eVal_0 (r + 1)))) (7 - r)
section Bi
variable {G : Gp} {S : AMem} {I : Nat → Nat → Int32} {J : Nat → Nat → Int64} {R : Nat → Nat → Option Nat} {t x c : Nat} {T : Toks} {b : BL} {s : PS × Cd}
theorem kc_sum (hG : okG G) (hX : RX S R x t c) (h : AbL I J x t c T (BE b s)) : Fn G mX7_readSum 40 [vR x, vI 0] (mw S I J R) (fun rr M1 => rr = none ∧ ∃ I1, M1 = mw S I1 J R ∧ AbL I1 J x t c T (BE b (eSu T (eVal T (ixB b) 8) s)) ∧ OffX x c I I1) := kb_sum (b := BE b s) hG hX h
theorem kc_test (hG : okG G) (hX : RX S R x t c) (h : AbL I J x t c T (BE b s)) : Fn G mX7_readTest 46 [vR x, vI 0] (mw S I J R) (fun rr M1 => rr = none ∧ ∃ I1, M1 = mw S I1 J R ∧ AbL I1 J x t c T (BE b (eTs T (eSng T (ixB b) 8) s)) ∧ OffX x c I I1) := kb_test (b := BE b s) hG hX h
theorem AbL.put2 {L : PS × Cd} {B : BS} {m : MS} {u : Nat} {nr nf np : Nat → Int64} (h1 : AbE I J x t c B.nR B.nF B.nP T L) (h2 : AbB I c B) (h3 : AbM I c B m) (h4 : I c 9 = nI u) (h5 : u ≤ 12) (h6 : ∀ i, i < B.nR → J (c + 14 + 2 * i) 1 = nr i) (h7 : ∀ i, i < B.nF → J (c + 22 + i) 0 = nf i) (h8 : ∀ i, i < B.nP → J (c + 30 + i) 0 = np i) : AbL I J x t c T (L.1, L.2, B, m, u, nr, nf, np) := ⟨h1, h2, h3, h4, h5, h6, h7, h8⟩
theorem eTs_pre {V : PS × Cd → PS × Cd} {v : PS} {L : Cd} (h : KEx V) : L <+: (eTs T V (v, L)).2 := eTs_ex h (v, L)
theorem eSu_pre {V : PS × Cd → PS × Cd} {v : PS} {L : Cd} (h : KEx V) : L <+: (eSu T V (v, L)).2 := eSu_ex h (v, L)
theorem eTs_er {V : PS × Cd → PS × Cd} {v : PS} {L : Cd} (h : KE0 V) (hs : (eTs T V (v, L)).1.2.1 = 0) : v.2.1 = 0 := eTs_0 h (v, L) hs
theorem eSu_er {V : PS × Cd → PS × Cd} {v : PS} {L : Cd} (h : KE0 V) (hs : (eSu T V (v, L)).1.2.1 = 0) : v.2.1 = 0 := eSu_0 h (v, L) hs
theorem AbL.toE {v : PS} (h : AbL I J x t c T (BP b v)) : AbL I J x t c T (BE b (v, b.L)) := h
theorem AbL.toP (h : AbL I J x t c T (BE b s)) : AbL I J x t c T (BP (BE b s) s.1) := h
theorem AbL.toF {v : PS} (h : AbL I J x t c T (BP (BE b s) v)) : AbL I J x t c T (BE b (v, s.2)) := h
theorem AbL.sz (h : AbL I J x t c T (BE b s)) : I (c + 1) 4 = nI s.2.length := h.1.2.2.1.1
theorem AbL.szL (h : AbL I J x t c T (BE b s)) : s.2.length ≤ 400 := h.1.2.2.1.2.1
theorem AbL.er2 (h : AbL I J x t c T (BE b s)) : I x 3 = s.1.2.1 := h.1.2.1.2.1
theorem k_X7_readPrize (hG : okG G) (hX : RX S R x t c) (h : AbL I J x t c T b) : Fn G mX7_readPrize 47 [vR x] (mw S I J R) (fun rr M1 => rr = none ∧ ∃ I1 J1, M1 = mw S I1 J1 R ∧ AbL I1 J1 x t c T (rdPrize T b) ∧ OffX x c I I1 ∧ OffJc c J J1) := by
  obtain ⟨⟨hT, hx, hr, hxt⟩, hct, hr1, hxc, htc⟩ := id hX
  obtain ⟨kc, rc0, _, _, _, _, _, _, _, ⟨kd, _⟩, _⟩ := id hct
  have s2 : ∀ (I1 : Nat → Nat → Int32) (p q : Int32), p = bI (0 ≤ fndJ b.np (pV T (rP1 T b)) 0 b.B.nP) → q = bI (8 ≤ b.B.nP) → AbL I1 J x t c T (BP b (rP1 T b)) → OffX x c I I1 → MW G mX7_readPrize 47 46 [some (vR x), some (vJ (pV T (rP1 T b))), none, none, none, none] [vI q, vI p, vR x] (mw S I1 J R) (fun f M1 => ∃ r, f = .inl r ∧ (r = none ∧ ∃ I1 J1, M1 = mw S I1 J1 R ∧ AbL I1 J1 x t c T (rdPrize T b) ∧ OffX x c I I1 ∧ OffJc c J J1)) := by
    intro I1 p q hp hq h1 o1
    subst hp hq
    refine cm_call0 (q := 49) (As := [_, _]) hG dX7_readPrize_46 mlX7_70 rfl (by assumption) ⟨_, _, rfl⟩ (Nat.le_of_ble_eq_true rfl) (Nat.le_of_ble_eq_true rfl) (Nat.le_of_ble_eq_true rfl) (Nat.le_of_ble_eq_true rfl) (kb_new hG hX h1) rfl ?_
    rintro _ _ ⟨rfl, I2, rfl, (h2 : AbL I2 J x t c T (BP b (rPn T b))), o2⟩
    refine am_aload_n (q := 50) dX7_readPrize_49 rfl rfl ?_
    refine am_sipush (q := 53) (v := 314) dX7_readPrize_50 kc_s314 rfl ?_
    refine cm_call0 (q := 56) (As := [_]) hG dX7_readPrize_53 mlX7_53 rfl (by assumption) ⟨_, _, rfl⟩ (Nat.le_of_ble_eq_true rfl) (Nat.le_of_ble_eq_true rfl) (Nat.le_of_ble_eq_true rfl) (Nat.le_of_ble_eq_true rfl) (kb_expect hG hX h2 (by decide)) rfl ?_
    rintro _ _ ⟨rfl, I3, rfl, (h3p : AbL I3 J x t c T (BP b (rP2 T b))), o3⟩
    have h3 := h3p.toE
    have z3 := h3.sz
    have u3 := h3.szL
    dsimp only at z3 u3
    refine am_aload_n (q := 57) dX7_readPrize_56 rfl rfl ?_
    refine cm_getR (q := 60) dX7_readPrize_57 flX7_15 rfl (by assumption) (by assumption) rfl ?_
    refine cm_getR (q := 63) dX7_readPrize_60 flX7_116 rfl (by assumption) (by assumption) rfl ?_
    refine cm_getI (q := 66) dX7_readPrize_63 flX7_120 rfl (by assumption) rfl ?_
    rw [z3]
    refine am_istore_n (q := 67) (ls1 := [_, _, _, _, _, _]) dX7_readPrize_66 (Nat.le_of_ble_eq_true rfl) rfl rfl ?_
    refine am_aload_n (q := 68) dX7_readPrize_67 rfl rfl ?_
    refine am_iconst (q := 69) (v := 0) dX7_readPrize_68 kc_i0 rfl ?_
    refine cm_call0 (q := 72) (As := [_]) hG dX7_readPrize_69 mlX7_125 rfl (by assumption) ⟨_, _, rfl⟩ (Nat.le_of_ble_eq_true rfl) (Nat.le_of_ble_eq_true rfl) (Nat.le_of_ble_eq_true rfl) (Nat.le_of_ble_eq_true rfl) (kc_sum hG hX h3) rfl ?_
    rintro _ _ ⟨rfl, I4, rfl, (h4p : AbL I4 J x t c T (BE b (rPw T b))), o4⟩
    have h4 := h4p.toP
    refine am_aload_n (q := 73) dX7_readPrize_72 rfl rfl ?_
    refine am_sipush (q := 76) (v := 315) dX7_readPrize_73 kc_s315 rfl ?_
    refine am_iconst (q := 77) (v := 0) dX7_readPrize_76 kc_i0 rfl ?_
    refine am_bipush (q := 79) (v := 99) dX7_readPrize_77 kc_b99 rfl ?_
    refine cm_call0 (q := 82) (As := [_, _, _]) hG dX7_readPrize_79 mlX7_74 rfl (by assumption) ⟨_, _, rfl⟩ (Nat.le_of_ble_eq_true rfl) (Nat.le_of_ble_eq_true rfl) (Nat.le_of_ble_eq_true rfl) (Nat.le_of_ble_eq_true rfl) (kb_num hG hX h4 (by decide)) rfl ?_
    rintro _ _ ⟨rfl, I5, rfl, (h5 : AbL I5 J x t c T (BP (BE b (rPw T b)) (rP3 T b))), o5⟩
    refine am_istore (q := 84) (ls1 := [_, _, _, _, _, _]) dX7_readPrize_82 (Nat.le_of_ble_eq_true rfl) rfl rfl ?_
    refine am_aload_n (q := 85) dX7_readPrize_84 rfl rfl ?_
    refine am_sipush (q := 88) (v := 316) dX7_readPrize_85 kc_s316 rfl ?_
    refine cm_call0 (q := 91) (As := [_]) hG dX7_readPrize_88 mlX7_53 rfl (by assumption) ⟨_, _, rfl⟩ (Nat.le_of_ble_eq_true rfl) (Nat.le_of_ble_eq_true rfl) (Nat.le_of_ble_eq_true rfl) (Nat.le_of_ble_eq_true rfl) (kb_expect hG hX h5 (by decide)) rfl ?_
    rintro _ _ ⟨rfl, I6, rfl, (h6p : AbL I6 J x t c T (BP (BE b (rPw T b)) (rP4 T b))), o6⟩
    have h6 := h6p.toF
    have z6 := h6.sz
    have u6 := h6.szL
    dsimp only at z6 u6
    refine am_aload_n (q := 92) dX7_readPrize_91 rfl rfl ?_
    refine cm_getR (q := 95) dX7_readPrize_92 flX7_15 rfl (by assumption) (by assumption) rfl ?_
    refine cm_getR (q := 98) dX7_readPrize_95 flX7_116 rfl (by assumption) (by assumption) rfl ?_
    refine cm_getI (q := 101) dX7_readPrize_98 flX7_120 rfl (by assumption) rfl ?_
    rw [z6]
    refine am_istore (q := 103) (ls1 := [_, _, _, _, _, _]) dX7_readPrize_101 (Nat.le_of_ble_eq_true rfl) rfl rfl ?_
    refine am_aload_n (q := 104) dX7_readPrize_103 rfl rfl ?_
    refine am_iconst (q := 105) (v := 0) dX7_readPrize_104 kc_i0 rfl ?_
    refine cm_call0 (q := 108) (As := [_]) hG dX7_readPrize_105 mlX7_128 rfl (by assumption) ⟨_, _, rfl⟩ (Nat.le_of_ble_eq_true rfl) (Nat.le_of_ble_eq_true rfl) (Nat.le_of_ble_eq_true rfl) (Nat.le_of_ble_eq_true rfl) (kc_test hG hX h6) rfl ?_
    rintro _ _ ⟨rfl, I7, rfl, (h7 : AbL I7 J x t c T (BE b (rPt T b))), o7⟩
    have e7 : I7 x 3 = (rPt T b).1.2.1 := AbL.er2 h7
    have z7 := h7.sz
    have u7 := h7.szL
    have oo := (((((o1.tr o2).tr o3).tr o4).tr o5).tr o6).tr o7
    have x1 : b.L <+: (rPw T b).2 := by
      unfold rPw
      exact eSu_pre (eVal_ex 8)
    have x2 : (rPw T b).2 <+: (rPt T b).2 := by
      unfold rPt
      exact eTs_pre (eSng_ex 8)
    unfold rdPrize
    refine am_aload_n (q := 109) dX7_readPrize_108 rfl rfl ?_
    refine cm_getI (q := 112) dX7_readPrize_109 flX7_26 rfl (by assumption) rfl ?_
    rw [e7]
    refine am_if_ne (tgt := 138) (q := 115) dX7_readPrize_112 rfl rfl (fun hc => ?_) (fun hc => ?_)
    · rw [if_neg hc]
      exact am_ret dX7_readPrize_138 rfl ⟨_, rfl, rfl, I7, J, rfl, h7, oo, OffJc.rf⟩
    · rw [if_pos hc]
      have gg : b.B.nP < 8 := by
        have hd := hc
        unfold rPt at hd
        have g1 := eTs_er (eSng_0 8) hd
        unfold rP4 at g1
        obtain ⟨g2, _⟩ := pEx_0 g1
        unfold rP3 at g2
        obtain ⟨g3, _⟩ := pNum_0 g2
        unfold rPw at g3
        have g4 := eSu_er (eVal_0 8) g3
        unfold rP2 at g4
        obtain ⟨g5, _⟩ := pEx_0 g4
        unfold rPn at g5
        obtain ⟨_, _, _, g6, _⟩ := pNew_0 g5
        have g7 : b.B.nP < 8 := Nat.not_le.mp (bI_e0.mp g6)
        exact g7
      clear hc
      have g7 := gg
      have hB5 : AbB I7 c b.B := h7.kB
      have hm5 : AbM I7 c b.B b.m := h7.kM
      have hL5 : AbC I7 c (rPt T b).2 := h7.kC
      refine am_aload_n (q := 116) dX7_readPrize_115 rfl rfl ?_
      refine cm_getR (q := 119) dX7_readPrize_116 flX7_15 rfl (by assumption) (by assumption) rfl ?_
      refine am_lload_n (q := 120) dX7_readPrize_119 rfl rfl ?_
      refine am_iload (q := 122) dX7_readPrize_120 rfl rfl ?_
      refine am_iload_n (q := 123) dX7_readPrize_122 rfl rfl ?_
      refine am_iload (q := 125) dX7_readPrize_123 rfl rfl ?_
      refine am_aload_n (q := 126) dX7_readPrize_125 rfl rfl ?_
      refine cm_getR (q := 129) dX7_readPrize_126 flX7_15 rfl (by assumption) (by assumption) rfl ?_
      refine cm_getR (q := 132) dX7_readPrize_129 flX7_116 rfl (by assumption) (by assumption) rfl ?_
      refine cm_getI (q := 135) dX7_readPrize_132 flX7_120 rfl (by assumption) rfl ?_
      rw [z7]
      refine cm_call0 (q := 138) (As := [_, _, _, _, _]) hG dX7_readPrize_135 mlX7_131 rfl (by assumption) ⟨_, _, rfl⟩ (Nat.le_of_ble_eq_true rfl) (Nat.le_of_ble_eq_true rfl) (Nat.le_of_ble_eq_true rfl) (Nat.le_of_ble_eq_true rfl) (k_X2_addPrize hG hct hB5 hm5 hL5 g7 x1.length_le x2.length_le (Nat.le_refl _)) rfl ?_
      rintro _ _ ⟨rfl, I8, rfl, hB6, hm6, e9, oC, oc1, oc2, oc3⟩
      have oJ : OffJc c J (up2 J (c + 30 + b.B.nP) 0 (pV T (rP1 T b))) := OffJc.up (by omega) (by omega)
      have nn := NmJ.prize (b := b) (v := pV T (rP1 T b)) rfl g7 h.2.1.1.2 h.2.1.2.1.2 h7.kN
      exact am_ret dX7_readPrize_138 rfl ⟨_, rfl, rfl, I8, _, rfl, AbL.put2 (AbE.add hX h7.kE oC oJ oc1 oc2 oc3 hB6.cnt) hB6 hm6 (e9.trans h7.kU) h7.kV nn.1 nn.2.1 nn.2.2, oo.tr oC.x, oJ⟩
  refine am_aload_n (q := 1) dX7_readPrize_0 rfl rfl ?_
  refine am_sipush (q := 4) (v := 313) dX7_readPrize_1 kc_s313 rfl ?_
  refine cm_call0 (q := 7) (As := [_]) hG dX7_readPrize_4 mlX7_53 rfl (by assumption) ⟨_, _, rfl⟩ (Nat.le_of_ble_eq_true rfl) (Nat.le_of_ble_eq_true rfl) (Nat.le_of_ble_eq_true rfl) (Nat.le_of_ble_eq_true rfl) (kb_expect (b := b) (s := b.P) hG hX h (by decide)) rfl ?_
  rintro _ _ ⟨rfl, I1, rfl, (h1 : AbL I1 J x t c T (BP b (rP1 T b))), o1⟩
  refine am_aload_n (q := 8) dX7_readPrize_7 rfl rfl ?_
  refine cm_call0 (q := 11) (As := []) hG dX7_readPrize_8 mlX7_57 rfl (by assumption) ⟨_, _, rfl⟩ (Nat.le_of_ble_eq_true rfl) (Nat.le_of_ble_eq_true rfl) (Nat.le_of_ble_eq_true rfl) (Nat.le_of_ble_eq_true rfl) (kb_value hG hX h1) rfl ?_
  rintro _ _ ⟨rfl, rfl⟩
  refine am_lstore_n (q := 12) (ls1 := [_, _, _, _, _, _]) dX7_readPrize_11 (Nat.le_of_ble_eq_true rfl) rfl rfl ?_
  have s1 : ∀ p : Int32, p = bI (0 ≤ fndJ b.np (pV T (rP1 T b)) 0 b.B.nP) → MW G mX7_readPrize 47 29 [some (vR x), some (vJ (pV T (rP1 T b))), none, none, none, none] [vI p, vR x] (mw S I1 J R) (fun f M1 => ∃ r, f = .inl r ∧ (r = none ∧ ∃ I1 J1, M1 = mw S I1 J1 R ∧ AbL I1 J1 x t c T (rdPrize T b) ∧ OffX x c I I1 ∧ OffJc c J J1)) := by
    intro p hp
    have e8 : I1 c 11 = nI b.B.nP := h1.2.1.2.2.1.1
    have u8 : b.B.nP ≤ 8 := h1.2.1.2.2.1.2
    refine am_aload_n (q := 30) dX7_readPrize_29 rfl rfl ?_
    refine cm_getR (q := 33) dX7_readPrize_30 flX7_15 rfl (by assumption) (by assumption) rfl ?_
    refine cm_getI (q := 36) dX7_readPrize_33 flX7_113 rfl (by assumption) rfl ?_
    rw [e8]
    refine am_bipush (q := 38) (v := 8) dX7_readPrize_36 kc_b8 rfl ?_
    refine am_icmp_lt (tgt := 45) (q := 41) dX7_readPrize_38 rfl rfl (fun hc => ?_) (fun hc => ?_)
    · refine am_iconst (q := 46) (v := 0) dX7_readPrize_45 kc_i0 rfl ?_
      exact s2 I1 p 0 hp (bI_f (Nat.not_le.mpr ((nI_ltI (b := 8) (by omega) (by decide)).mp hc))).symm h1 o1
    · refine am_iconst (q := 42) (v := 1) dX7_readPrize_41 kc_i1 rfl ?_
      refine am_goto (tgt := 46) dX7_readPrize_42 rfl ?_
      exact s2 I1 p 1 hp (bI_t (Nat.not_lt.mp fun z => hc ((nI_ltI (b := 8) (by omega) (by decide)).mpr z))).symm h1 o1
  refine am_aload_n (q := 13) dX7_readPrize_12 rfl rfl ?_
  refine am_aload_n (q := 14) dX7_readPrize_13 rfl rfl ?_
  refine cm_getR (q := 17) dX7_readPrize_14 flX7_15 rfl (by assumption) (by assumption) rfl ?_
  refine am_lload_n (q := 18) dX7_readPrize_17 rfl rfl ?_
  refine cm_call0 (q := 21) (As := [_]) hG dX7_readPrize_18 mlX7_110 rfl (by assumption) ⟨_, _, rfl⟩ (Nat.le_of_ble_eq_true rfl) (Nat.le_of_ble_eq_true rfl) (Nat.le_of_ble_eq_true rfl) (Nat.le_of_ble_eq_true rfl) (kb_prize hX h1) rfl ?_
  rintro _ _ ⟨rfl, rfl⟩
  refine am_if_lt (tgt := 28) (q := 24) dX7_readPrize_21 rfl rfl (fun hc => ?_) (fun hc => ?_)
  · refine am_iconst (q := 29) (v := 0) dX7_readPrize_28 kc_i0 rfl ?_
    exact s1 0 (bI_f (Int32.not_le.mpr hc)).symm
  · refine am_iconst (q := 25) (v := 1) dX7_readPrize_24 kc_i1 rfl ?_
    refine am_goto (tgt := 29) dX7_readPrize_25 rfl ?_
    exact s1 1 (bI_t (Int32.not_lt.mp hc)).symm
theorem k_X7_readTurn (hG : okG G) (hX : RX S R x t c) (h : AbL I J x t c T b) : Fn G mX7_readTurn 47 [vR x] (mw S I J R) (fun rr M1 => rr = none ∧ ∃ I1 J1, M1 = mw S I1 J1 R ∧ AbL I1 J1 x t c T (rdTurn T b) ∧ OffX x c I I1 ∧ OffJc c J J1) := by
  obtain ⟨⟨hT, hx, hr, hxt⟩, hct, hr1, hxc, htc⟩ := id hX
  obtain ⟨kc, rc0, _, _, _, _, _, _, _, ⟨kd, _⟩, _⟩ := id hct
  have fin : ∀ (I1 : Nat → Nat → Int32), AbL I1 J x t c T (BE b (rTt T b)) → OffX x c I I1 → MW G mX7_readTurn 47 96 [some (vR x), some (vI (rTf T b)), some (vI (rTr T b)), some (vI (nI b.L.length))] [] (mw S I1 J R) (fun f M1 => ∃ r, f = .inl r ∧ (r = none ∧ ∃ I1 J1, M1 = mw S I1 J1 R ∧ AbL I1 J1 x t c T (rdTurn T b) ∧ OffX x c I I1 ∧ OffJc c J J1)) := by
    intro I7 h7 oo
    have e7 : I7 x 3 = (rTt T b).1.2.1 := AbL.er2 h7
    have z7 := h7.sz
    have u7 := h7.szL
    unfold rdTurn
    refine am_aload_n (q := 97) dX7_readTurn_96 rfl rfl ?_
    refine cm_getI (q := 100) dX7_readTurn_97 flX7_26 rfl (by assumption) rfl ?_
    rw [e7]
    refine am_if_ne (tgt := 123) (q := 103) dX7_readTurn_100 rfl rfl (fun hc => ?_) (fun hc => ?_)
    · rw [if_neg hc]
      exact am_ret dX7_readTurn_123 rfl ⟨_, rfl, rfl, I7, J, rfl, h7, oo, OffJc.rf⟩
    · rw [if_pos hc]
      have x1 : b.L <+: (rTt T b).2 := by
        unfold rTt
        split
        · exact eTs_pre (eSng_ex 8)
        · exact List.prefix_refl _
      have gg : ¬ 20 ≤ b.B.nT ∧ (∃ i, i < b.B.nF ∧ rTf T b = nI i) ∧ ∃ k, k < b.B.nR ∧ rTr T b = nI k := by
        have g1 : (rT4 T b).2.1 = 0 := by
          have hc2 := hc
          unfold rTt at hc2
          split at hc2
          · exact (pEx_0 (eTs_er (eSng_0 8) hc2)).1
          · dsimp only at hc2
            exact hc2
        unfold rT4 at g1
        obtain ⟨g2, _, g3, _⟩ := pKn_0 g1
        unfold rT3 at g2
        obtain ⟨g4, _⟩ := pEx_0 g2
        unfold rT2 at g4
        obtain ⟨g5, _, g6, _⟩ := pKn_0 g4
        unfold rT1 at g5
        obtain ⟨g7, _⟩ := pEx_0 g5
        unfold rT0 at g7
        obtain ⟨g8, _⟩ := pIf_0 (by decide) g7
        obtain ⟨i, hi, ei, _⟩ := pIx_0 (i := rTf T b) rfl g6
        obtain ⟨k, hk, ek, _⟩ := pIx_0 (i := rTr T b) rfl g3
        exact ⟨g8, ⟨i, hi, ei⟩, k, hk, ek⟩
      clear hc
      obtain ⟨g8, ⟨i, hi, ei⟩, k, hk, ek⟩ := gg
      have u8 : b.B.nR ≤ 4 := h.2.1.1.2
      have u9 : b.B.nF ≤ 8 := h.2.1.2.1.2
      rw [ei, ek, nI_clamp (show i < 2 ^ 31 by omega), nI_clamp (show k < 2 ^ 31 by omega)]
      have hB5 : AbB I7 c b.B := h7.kB
      have hm5 : AbM I7 c b.B b.m := h7.kM
      have hL5 : AbC I7 c (rTt T b).2 := h7.kC
      refine am_aload_n (q := 104) dX7_readTurn_103 rfl rfl ?_
      refine cm_getR (q := 107) dX7_readTurn_104 flX7_15 rfl (by assumption) (by assumption) rfl ?_
      refine am_iload_n (q := 108) dX7_readTurn_107 rfl rfl ?_
      refine am_iload_n (q := 109) dX7_readTurn_108 rfl rfl ?_
      refine am_iload_n (q := 110) dX7_readTurn_109 rfl rfl ?_
      refine am_aload_n (q := 111) dX7_readTurn_110 rfl rfl ?_
      refine cm_getR (q := 114) dX7_readTurn_111 flX7_15 rfl (by assumption) (by assumption) rfl ?_
      refine cm_getR (q := 117) dX7_readTurn_114 flX7_116 rfl (by assumption) (by assumption) rfl ?_
      refine cm_getI (q := 120) dX7_readTurn_117 flX7_120 rfl (by assumption) rfl ?_
      rw [z7]
      refine cm_call0 (q := 123) (As := [_, _, _, _]) hG dX7_readTurn_120 mlX7_138 rfl (by assumption) ⟨_, _, rfl⟩ (Nat.le_of_ble_eq_true rfl) (Nat.le_of_ble_eq_true rfl) (Nat.le_of_ble_eq_true rfl) (Nat.le_of_ble_eq_true rfl) (k_X2_addTurn hG hct hB5 hm5 hL5 (Nat.lt_of_not_le g8) hi hk x1.length_le (Nat.le_refl _)) rfl ?_
      rintro _ _ ⟨rfl, I8, rfl, hB6, hm6, e9, oC, oc1, oc2, oc3⟩
      exact am_ret dX7_readTurn_123 rfl ⟨_, rfl, rfl, I8, J, rfl, AbL.put2 (AbE.add hX h7.kE oC OffJc.rf oc1 oc2 oc3 hB6.cnt) hB6 hm6 (e9.trans h7.kU) h7.kV h7.kN.1 h7.kN.2.1 h7.kN.2.2, oo.tr oC.x, OffJc.rf⟩
  have s1 : ∀ I1 : Nat → Nat → Int32, AbL I1 J x t c T (BP b (rT0 T b)) → OffX x c I I1 → MW G mX7_readTurn 47 17 [some (vR x), none, none, none] [] (mw S I1 J R) (fun f M1 => ∃ r, f = .inl r ∧ (r = none ∧ ∃ I1 J1, M1 = mw S I1 J1 R ∧ AbL I1 J1 x t c T (rdTurn T b) ∧ OffX x c I I1 ∧ OffJc c J J1)) := by
    intro I1 h1 o1
    refine am_aload_n (q := 18) dX7_readTurn_17 rfl rfl ?_
    refine am_sipush (q := 21) (v := 317) dX7_readTurn_18 kc_s317 rfl ?_
    refine cm_call0 (q := 24) (As := [_]) hG dX7_readTurn_21 mlX7_53 rfl (by assumption) ⟨_, _, rfl⟩ (Nat.le_of_ble_eq_true rfl) (Nat.le_of_ble_eq_true rfl) (Nat.le_of_ble_eq_true rfl) (Nat.le_of_ble_eq_true rfl) (kb_expect hG hX h1 (by decide)) rfl ?_
    rintro _ _ ⟨rfl, I2, rfl, (h2 : AbL I2 J x t c T (BP b (rT1 T b))), o2⟩
    refine am_aload_n (q := 25) dX7_readTurn_24 rfl rfl ?_
    refine am_aload_n (q := 26) dX7_readTurn_25 rfl rfl ?_
    refine cm_getR (q := 29) dX7_readTurn_26 flX7_15 rfl (by assumption) (by assumption) rfl ?_
    refine am_aload_n (q := 30) dX7_readTurn_29 rfl rfl ?_
    refine cm_call0 (q := 33) (As := []) hG dX7_readTurn_30 mlX7_57 rfl (by assumption) ⟨_, _, rfl⟩ (Nat.le_of_ble_eq_true rfl) (Nat.le_of_ble_eq_true rfl) (Nat.le_of_ble_eq_true rfl) (Nat.le_of_ble_eq_true rfl) (kb_value hG hX h2) rfl ?_
    rintro _ _ ⟨rfl, rfl⟩
    refine cm_call0 (q := 36) (As := [_]) hG dX7_readTurn_33 mlX7_101 rfl (by assumption) ⟨_, _, rfl⟩ (Nat.le_of_ble_eq_true rfl) (Nat.le_of_ble_eq_true rfl) (Nat.le_of_ble_eq_true rfl) (Nat.le_of_ble_eq_true rfl) (kb_fist hX h2) rfl ?_
    rintro _ _ ⟨rfl, rfl⟩
    refine cm_call0 (q := 39) (As := [_]) hG dX7_readTurn_36 mlX7_90 rfl (by assumption) ⟨_, _, rfl⟩ (Nat.le_of_ble_eq_true rfl) (Nat.le_of_ble_eq_true rfl) (Nat.le_of_ble_eq_true rfl) (Nat.le_of_ble_eq_true rfl) (kb_known hG hX h2) rfl ?_
    rintro _ _ ⟨rfl, I3, rfl, (h3 : AbL I3 J x t c T (BP b (rT2 T b))), o3⟩
    refine am_istore_n (q := 40) (ls1 := [_, _, _, _]) dX7_readTurn_39 (Nat.le_of_ble_eq_true rfl) rfl rfl ?_
    refine am_aload_n (q := 41) dX7_readTurn_40 rfl rfl ?_
    refine am_sipush (q := 44) (v := 318) dX7_readTurn_41 kc_s318 rfl ?_
    refine cm_call0 (q := 47) (As := [_]) hG dX7_readTurn_44 mlX7_53 rfl (by assumption) ⟨_, _, rfl⟩ (Nat.le_of_ble_eq_true rfl) (Nat.le_of_ble_eq_true rfl) (Nat.le_of_ble_eq_true rfl) (Nat.le_of_ble_eq_true rfl) (kb_expect hG hX h3 (by decide)) rfl ?_
    rintro _ _ ⟨rfl, I4, rfl, (h4 : AbL I4 J x t c T (BP b (rT3 T b))), o4⟩
    refine am_aload_n (q := 48) dX7_readTurn_47 rfl rfl ?_
    refine am_aload_n (q := 49) dX7_readTurn_48 rfl rfl ?_
    refine cm_getR (q := 52) dX7_readTurn_49 flX7_15 rfl (by assumption) (by assumption) rfl ?_
    refine am_aload_n (q := 53) dX7_readTurn_52 rfl rfl ?_
    refine cm_call0 (q := 56) (As := []) hG dX7_readTurn_53 mlX7_57 rfl (by assumption) ⟨_, _, rfl⟩ (Nat.le_of_ble_eq_true rfl) (Nat.le_of_ble_eq_true rfl) (Nat.le_of_ble_eq_true rfl) (Nat.le_of_ble_eq_true rfl) (kb_value hG hX h4) rfl ?_
    rintro _ _ ⟨rfl, rfl⟩
    refine cm_call0 (q := 59) (As := [_]) hG dX7_readTurn_56 mlX7_61 rfl (by assumption) ⟨_, _, rfl⟩ (Nat.le_of_ble_eq_true rfl) (Nat.le_of_ble_eq_true rfl) (Nat.le_of_ble_eq_true rfl) (Nat.le_of_ble_eq_true rfl) (kb_rail hX h4) rfl ?_
    rintro _ _ ⟨rfl, rfl⟩
    refine cm_call0 (q := 62) (As := [_]) hG dX7_readTurn_59 mlX7_90 rfl (by assumption) ⟨_, _, rfl⟩ (Nat.le_of_ble_eq_true rfl) (Nat.le_of_ble_eq_true rfl) (Nat.le_of_ble_eq_true rfl) (Nat.le_of_ble_eq_true rfl) (kb_known hG hX h4) rfl ?_
    rintro _ _ ⟨rfl, I5, rfl, (h5 : AbL I5 J x t c T (BP b (rT4 T b))), o5⟩
    refine am_istore_n (q := 63) (ls1 := [_, _, _, _]) dX7_readTurn_62 (Nat.le_of_ble_eq_true rfl) rfl rfl ?_
    have h5' := h5.toE
    have z5 := h5'.sz
    dsimp only at z5
    have o6 := (((o1.tr o2).tr o3).tr o4).tr o5
    refine am_aload_n (q := 64) dX7_readTurn_63 rfl rfl ?_
    refine cm_getR (q := 67) dX7_readTurn_64 flX7_15 rfl (by assumption) (by assumption) rfl ?_
    refine cm_getR (q := 70) dX7_readTurn_67 flX7_116 rfl (by assumption) (by assumption) rfl ?_
    refine cm_getI (q := 73) dX7_readTurn_70 flX7_120 rfl (by assumption) rfl ?_
    rw [z5]
    refine am_istore_n (q := 74) (ls1 := [_, _, _, _]) dX7_readTurn_73 (Nat.le_of_ble_eq_true rfl) rfl rfl ?_
    refine am_aload_n (q := 75) dX7_readTurn_74 rfl rfl ?_
    refine cm_call0 (q := 78) (As := []) hG dX7_readTurn_75 mlX7_31 rfl (by assumption) ⟨_, _, rfl⟩ (Nat.le_of_ble_eq_true rfl) (Nat.le_of_ble_eq_true rfl) (Nat.le_of_ble_eq_true rfl) (Nat.le_of_ble_eq_true rfl) (kb_kind hG hX h5) rfl ?_
    rintro _ _ ⟨rfl, rfl⟩
    refine am_sipush (q := 81) (v := 316) dX7_readTurn_78 kc_s316 rfl ?_
    refine am_icmp_ne (tgt := 96) (q := 84) dX7_readTurn_81 rfl rfl (fun hc => ?_) (fun hc => ?_)
    · exact fin I5 (by unfold rTt; rw [if_neg hc]; exact h5') o6
    · have hz : pK T (rT4 T b) = 316 ∧ True := ⟨hc, trivial⟩
      clear hc
      refine am_aload_n (q := 85) dX7_readTurn_84 rfl rfl ?_
      refine am_sipush (q := 88) (v := 316) dX7_readTurn_85 kc_s316 rfl ?_
      refine cm_call0 (q := 91) (As := [_]) hG dX7_readTurn_88 mlX7_53 rfl (by assumption) ⟨_, _, rfl⟩ (Nat.le_of_ble_eq_true rfl) (Nat.le_of_ble_eq_true rfl) (Nat.le_of_ble_eq_true rfl) (Nat.le_of_ble_eq_true rfl) (kb_expect hG hX h5 (by decide)) rfl ?_
      rintro _ _ ⟨rfl, I6, rfl, h6p, o7⟩
      have h6 := h6p.toE
      refine am_aload_n (q := 92) dX7_readTurn_91 rfl rfl ?_
      refine am_iconst (q := 93) (v := 0) dX7_readTurn_92 kc_i0 rfl ?_
      refine cm_call0 (q := 96) (As := [_]) hG dX7_readTurn_93 mlX7_128 rfl (by assumption) ⟨_, _, rfl⟩ (Nat.le_of_ble_eq_true rfl) (Nat.le_of_ble_eq_true rfl) (Nat.le_of_ble_eq_true rfl) (Nat.le_of_ble_eq_true rfl) (kc_test hG hX h6) rfl ?_
      rintro _ _ ⟨rfl, I7, rfl, h7, o8⟩
      exact fin I7 (by unfold rTt; rw [if_pos hz.1]; exact h7) ((o6.tr o7).tr o8)
  have e9 : I c 12 = nI b.B.nT := h.2.1.2.2.2.1.1
  have u9 : b.B.nT ≤ 20 := h.2.1.2.2.2.1.2
  refine am_aload_n (q := 1) dX7_readTurn_0 rfl rfl ?_
  refine cm_getR (q := 4) dX7_readTurn_1 flX7_15 rfl (by assumption) (by assumption) rfl ?_
  refine cm_getI (q := 7) dX7_readTurn_4 flX7_135 rfl (by assumption) rfl ?_
  rw [e9]
  refine am_bipush (q := 9) (v := 20) dX7_readTurn_7 kc_b20 rfl ?_
  refine am_icmp_lt (tgt := 17) (q := 12) dX7_readTurn_9 rfl rfl (fun hc => ?_) (fun hc => ?_)
  · refine s1 I ?_ OffX.rf
    unfold rT0
    rw [if_neg (Nat.not_le.mpr ((nI_ltI (b := 20) (by omega) (by decide)).mp hc))]
    exact h
  · refine am_aload_n (q := 13) dX7_readTurn_12 rfl rfl ?_
    refine am_iconst (q := 14) (v := 4) dX7_readTurn_13 kc_i4 rfl ?_
    refine cm_call0 (q := 17) (As := [_]) hG dX7_readTurn_14 mlX7_87 rfl (by assumption) ⟨_, _, rfl⟩ (Nat.le_of_ble_eq_true rfl) (Nat.le_of_ble_eq_true rfl) (Nat.le_of_ble_eq_true rfl) (Nat.le_of_ble_eq_true rfl) (kb_blame (b := b) (s := b.P) hG hX h) rfl ?_
    rintro _ _ ⟨rfl, I1, rfl, h1, o1⟩
    refine s1 I1 ?_ o1
    unfold rT0
    rw [if_pos (Nat.not_lt.mp fun z => hc ((nI_ltI (b := 20) (by omega) (by decide)).mpr z))]
    exact h1
theorem k_X7_line {i : Nat} (hG : okG G) (hX : RX S R x t c) (h : AbL I J x t c T b) {Q : (Option AV ⊕ Nat) → AMem → Prop} (hQ : ∀ I1 J1, AbL I1 J1 x t c T (rdLine T b) → OffX x c I I1 → OffJc c J J1 → MW G mX7_readBill 49 139 [some (vR x), some (vR c), some (vI (nI i))] [] (mw S I1 J1 R) Q) : MW G mX7_readBill 49 47 [some (vR x), some (vR c), some (vI (nI i))] [] (mw S I J R) Q := by
  obtain ⟨⟨hT, hx, hr, hxt⟩, hct, hr1, hxc, htc⟩ := id hX
  unfold rdLine at hQ
  refine am_aload_n (q := 48) dX7_readBill_47 rfl rfl ?_
  refine cm_call0 (q := 51) (As := []) hG dX7_readBill_48 mlX7_31 rfl (by assumption) ⟨_, _, rfl⟩ (Nat.le_of_ble_eq_true rfl) (Nat.le_of_ble_eq_true rfl) (Nat.le_of_ble_eq_true rfl) (Nat.le_of_ble_eq_true rfl) (kb_kind (b := b) (s := b.P) hG hX h) rfl ?_
  rintro _ _ ⟨rfl, rfl⟩
  generalize hk : pK T b.P = k at hQ ⊢
  by_cases h300 : k = 300
  · subst h300
    rw [if_pos rfl] at hQ
    refine am_lookup (tgt := 100) dX7_readBill_51 (by decide) rfl rfl ?_
    refine am_aload_n (q := 101) dX7_readBill_100 rfl rfl ?_
    refine cm_call0 (q := 104) (As := []) hG dX7_readBill_101 mlX7_35 rfl (by assumption) ⟨_, _, rfl⟩ (Nat.le_of_ble_eq_true rfl) (Nat.le_of_ble_eq_true rfl) (Nat.le_of_ble_eq_true rfl) (Nat.le_of_ble_eq_true rfl) (k_X7_readRail hG hX h) rfl ?_
    rintro _ _ ⟨rfl, I1, J1, rfl, h1, o1, j1⟩
    refine am_goto (tgt := 139) dX7_readBill_104 rfl ?_
    exact hQ I1 J1 h1 o1 j1
  rw [if_neg h300] at hQ
  by_cases h304 : k = 304
  · subst h304
    rw [if_pos rfl] at hQ
    refine am_lookup (tgt := 107) dX7_readBill_51 (by decide) rfl rfl ?_
    refine am_aload_n (q := 108) dX7_readBill_107 rfl rfl ?_
    refine cm_call0 (q := 111) (As := []) hG dX7_readBill_108 mlX7_38 rfl (by assumption) ⟨_, _, rfl⟩ (Nat.le_of_ble_eq_true rfl) (Nat.le_of_ble_eq_true rfl) (Nat.le_of_ble_eq_true rfl) (Nat.le_of_ble_eq_true rfl) (k_X7_readRust hG hX h) rfl ?_
    rintro _ _ ⟨rfl, I1, J1, rfl, h1, o1, j1⟩
    refine am_goto (tgt := 139) dX7_readBill_111 rfl ?_
    exact hQ I1 J1 h1 o1 j1
  rw [if_neg h304] at hQ
  by_cases h309 : k = 309
  · subst h309
    rw [if_pos rfl] at hQ
    refine am_lookup (tgt := 114) dX7_readBill_51 (by decide) rfl rfl ?_
    refine am_aload_n (q := 115) dX7_readBill_114 rfl rfl ?_
    refine cm_call0 (q := 118) (As := []) hG dX7_readBill_115 mlX7_41 rfl (by assumption) ⟨_, _, rfl⟩ (Nat.le_of_ble_eq_true rfl) (Nat.le_of_ble_eq_true rfl) (Nat.le_of_ble_eq_true rfl) (Nat.le_of_ble_eq_true rfl) (k_X7_readFist hG hX h) rfl ?_
    rintro _ _ ⟨rfl, I1, J1, rfl, h1, o1, j1⟩
    refine am_goto (tgt := 139) dX7_readBill_118 rfl ?_
    exact hQ I1 J1 h1 o1 j1
  rw [if_neg h309] at hQ
  by_cases h313 : k = 313
  · subst h313
    rw [if_pos rfl] at hQ
    refine am_lookup (tgt := 121) dX7_readBill_51 (by decide) rfl rfl ?_
    refine am_aload_n (q := 122) dX7_readBill_121 rfl rfl ?_
    refine cm_call0 (q := 125) (As := []) hG dX7_readBill_122 mlX7_44 rfl (by assumption) ⟨_, _, rfl⟩ (Nat.le_of_ble_eq_true rfl) (Nat.le_of_ble_eq_true rfl) (Nat.le_of_ble_eq_true rfl) (Nat.le_of_ble_eq_true rfl) (k_X7_readPrize hG hX h) rfl ?_
    rintro _ _ ⟨rfl, I1, J1, rfl, h1, o1, j1⟩
    refine am_goto (tgt := 139) dX7_readBill_125 rfl ?_
    exact hQ I1 J1 h1 o1 j1
  rw [if_neg h313] at hQ
  by_cases h317 : k = 317
  · subst h317
    rw [if_pos rfl] at hQ
    refine am_lookup (tgt := 128) dX7_readBill_51 (by decide) rfl rfl ?_
    refine am_aload_n (q := 129) dX7_readBill_128 rfl rfl ?_
    refine cm_call0 (q := 132) (As := []) hG dX7_readBill_129 mlX7_47 rfl (by assumption) ⟨_, _, rfl⟩ (Nat.le_of_ble_eq_true rfl) (Nat.le_of_ble_eq_true rfl) (Nat.le_of_ble_eq_true rfl) (Nat.le_of_ble_eq_true rfl) (k_X7_readTurn hG hX h) rfl ?_
    rintro _ _ ⟨rfl, I1, J1, rfl, h1, o1, j1⟩
    refine am_goto (tgt := 139) dX7_readBill_132 rfl ?_
    exact hQ I1 J1 h1 o1 j1
  rw [if_neg h317] at hQ
  have ho : Op.lookupswitch.offset (#[(300, 49), (304, 56), (309, 63), (313, 70), (317, 77)] : Array (Int × Int)).toList 84 k.toInt = 84 := by
    show Op.lookupswitch.offset [(300, 49), (304, 56), (309, 63), (313, 70), (317, 77)] 84 k.toInt = 84
    simp only [Op.lookupswitch.offset]
    rw [if_neg (k_ti (v := 300) (n := 300) rfl h300), if_neg (k_ti (v := 304) (n := 304) rfl h304), if_neg (k_ti (v := 309) (n := 309) rfl h309), if_neg (k_ti (v := 313) (n := 313) rfl h313), if_neg (k_ti (v := 317) (n := 317) rfl h317)]
  refine am_lookup (tgt := 135) dX7_readBill_51 (by decide) ho rfl ?_
  refine am_aload_n (q := 136) dX7_readBill_135 rfl rfl ?_
  refine cm_call0 (q := 139) (As := []) hG dX7_readBill_136 mlX7_50 rfl (by assumption) ⟨_, _, rfl⟩ (Nat.le_of_ble_eq_true rfl) (Nat.le_of_ble_eq_true rfl) (Nat.le_of_ble_eq_true rfl) (Nat.le_of_ble_eq_true rfl) (kb_refuse (b := b) (s := b.P) hG hX h) rfl ?_
  rintro _ _ ⟨rfl, I1, rfl, h1, o1⟩
  exact hQ I1 J h1 o1 OffJc.rf
theorem k_X7_bill (hG : okG G) (hX : RX S R x t c) (h : AbL I J x t c T b) : MW G mX7_readBill 49 22 [some (vR x), some (vR c), some (vI 0)] [] (mw S I J R) (fun f M1 => ∃ r, f = .inl r ∧ r = some (vI (rdLoop T 401 b).P.2.1) ∧ ∃ I1 J1, M1 = mw S I1 J1 R ∧ AbL I1 J1 x t c T (rdLoop T 401 b) ∧ OffX x c I I1 ∧ OffJc c J J1) := by
  obtain ⟨⟨hT, hx, hr, hxt⟩, hct, hr1, hxc, htc⟩ := id hX
  refine k_loop (σ := (Nat → Nat → Int32) × (Nat → Nat → Int64) × BL) (n := 401) (Inv := fun i q => rdLoop T (401 - i) q.2.2 = rdLoop T 401 b ∧ AbL q.1 q.2.1 x t c T q.2.2 ∧ OffX x c I q.1 ∧ OffJc c J q.2.1) (W := fun i q => MW G mX7_readBill 49 22 [some (vR x), some (vR c), some (vI (nI i))] [] (mw S q.1 q.2.1 R) _) ?_ ?_ 0 (I, J, b) (Nat.zero_le _) ⟨rfl, h, OffX.rf, OffJc.rf⟩
  · rintro i ⟨I1, J1, b1⟩ hi ⟨hinv, h1, o1, j1⟩ ih
    dsimp only at hinv h1 o1 j1 ih ⊢
    rw [show 401 - i = (401 - (i + 1)) + 1 by omega, rdLoop] at hinv
    have e3 : I1 x 3 = b1.P.2.1 := h1.1.2.1.2.1
    have stop : (b1.P.2.1 = 1 ∨ pK T b1.P = 256) → MW G mX7_readBill 49 151 [some (vR x), some (vR c), some (vI (nI i))] [] (mw S I1 J1 R) (fun f M1 => ∃ r, f = .inl r ∧ r = some (vI (rdLoop T 401 b).P.2.1) ∧ ∃ I1 J1, M1 = mw S I1 J1 R ∧ AbL I1 J1 x t c T (rdLoop T 401 b) ∧ OffX x c I I1 ∧ OffJc c J J1) := by
      intro hq
      rw [if_pos hq] at hinv
      rw [← hinv]
      refine am_aload_n (q := 152) dX7_readBill_151 rfl rfl ?_
      refine cm_getI (q := 155) dX7_readBill_152 flX7_26 rfl (by assumption) rfl ?_
      rw [e3]
      exact am_iret dX7_readBill_155 rfl rfl ⟨_, rfl, rfl, I1, J1, rfl, h1, o1, j1⟩
    refine am_iload_n (q := 23) dX7_readBill_22 rfl rfl ?_
    refine am_sipush (q := 26) (v := 400) dX7_readBill_23 kc_s400 rfl ?_
    refine am_icmp_gt (tgt := 151) (q := 29) dX7_readBill_26 rfl rfl (fun hz => absurd hz (Int32.not_lt.mpr (nI_le (b := 400) (by omega) (by decide)))) (fun _ => ?_)
    refine am_aload_n (q := 30) dX7_readBill_29 rfl rfl ?_
    refine cm_getI (q := 33) dX7_readBill_30 flX7_26 rfl (by assumption) rfl ?_
    rw [e3]
    refine am_iconst (q := 34) (v := 1) dX7_readBill_33 kc_i1 rfl ?_
    refine am_icmp_eq (tgt := 151) (q := 37) dX7_readBill_34 rfl rfl (fun hc => ?_) (fun hc => ?_)
    · exact stop (Or.inl hc)
    · refine am_aload_n (q := 38) dX7_readBill_37 rfl rfl ?_
      refine cm_call0 (q := 41) (As := []) hG dX7_readBill_38 mlX7_31 rfl (by assumption) ⟨_, _, rfl⟩ (Nat.le_of_ble_eq_true rfl) (Nat.le_of_ble_eq_true rfl) (Nat.le_of_ble_eq_true rfl) (Nat.le_of_ble_eq_true rfl) (kb_kind (b := b1) (s := b1.P) hG hX h1) rfl ?_
      rintro _ _ ⟨rfl, rfl⟩
      refine am_sipush (q := 44) (v := 256) dX7_readBill_41 kc_s256 rfl ?_
      refine am_icmp_eq (tgt := 151) (q := 47) dX7_readBill_44 rfl rfl (fun hc2 => ?_) (fun hc2 => ?_)
      · exact stop (Or.inr hc2)
      · rw [if_neg (fun q => q.elim hc hc2)] at hinv
        refine k_X7_line hG hX h1 (fun I2 J2 h2 o2 j2 => ?_)
        refine am_aload_n (q := 140) dX7_readBill_139 rfl rfl ?_
        refine am_bipush (q := 142) (v := 59) dX7_readBill_140 kc_b59 rfl ?_
        refine cm_call0 (q := 145) (As := [_]) hG dX7_readBill_142 mlX7_53 rfl (by assumption) ⟨_, _, rfl⟩ (Nat.le_of_ble_eq_true rfl) (Nat.le_of_ble_eq_true rfl) (Nat.le_of_ble_eq_true rfl) (Nat.le_of_ble_eq_true rfl) (kb_expect (b := rdLine T b1) (s := (rdLine T b1).P) hG hX h2 (by decide)) rfl ?_
        rintro _ _ ⟨rfl, I3, rfl, (h3 : AbL I3 J2 x t c T (rdNext T b1)), o3⟩
        refine am_iincW (q := 148) (ls1 := [_, _, _]) (w := 1) dX7_readBill_145 rfl (Nat.le_of_ble_eq_true rfl) kc_i1 rfl rfl ?_
        refine am_goto (tgt := 22) dX7_readBill_148 rfl ?_
        rw [nI_1]
        exact ih (I3, J2, _) ⟨hinv, h3, (o1.tr o2).tr o3, j1.tr j2⟩
  · rintro ⟨I1, J1, b1⟩ ⟨hinv, h1, o1, j1⟩
    dsimp only at hinv h1 o1 j1 ⊢
    have e3 : I1 x 3 = b1.P.2.1 := h1.1.2.1.2.1
    rw [Nat.sub_self, rdLoop] at hinv
    rw [← hinv]
    refine am_iload_n (q := 23) dX7_readBill_22 rfl rfl ?_
    refine am_sipush (q := 26) (v := 400) dX7_readBill_23 kc_s400 rfl ?_
    refine am_icmp_gt (tgt := 151) (q := 29) dX7_readBill_26 rfl rfl (fun _ => ?_) (fun hz => absurd (nI_lt (a := 400) (b := 401) (by omega) (by decide)) hz)
    refine am_aload_n (q := 152) dX7_readBill_151 rfl rfl ?_
    refine cm_getI (q := 155) dX7_readBill_152 flX7_26 rfl (by assumption) rfl ?_
    rw [e3]
    exact am_iret dX7_readBill_155 rfl rfl ⟨_, rfl, rfl, I1, J1, rfl, h1, o1, j1⟩
end Bi

