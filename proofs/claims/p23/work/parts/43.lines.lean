theorem kc_b9 : (Int8.ofInt 9).toInt32 = 9 := by decide +kernel
theorem kc_b12 : (Int8.ofInt 12).toInt32 = 12 := by decide +kernel
theorem kc_b99 : (Int8.ofInt 99).toInt32 = 99 := by decide +kernel
theorem kc_s300 : (Int16.ofInt 300).toInt32 = 300 := by decide +kernel
theorem kc_s301 : (Int16.ofInt 301).toInt32 = 301 := by decide +kernel
theorem kc_s302 : (Int16.ofInt 302).toInt32 = 302 := by decide +kernel
theorem kc_s303 : (Int16.ofInt 303).toInt32 = 303 := by decide +kernel
theorem kc_s304 : (Int16.ofInt 304).toInt32 = 304 := by decide +kernel
theorem kc_s305 : (Int16.ofInt 305).toInt32 = 305 := by decide +kernel
theorem kc_s306 : (Int16.ofInt 306).toInt32 = 306 := by decide +kernel
theorem kc_s308 : (Int16.ofInt 308).toInt32 = 308 := by decide +kernel
theorem kc_s309 : (Int16.ofInt 309).toInt32 = 309 := by decide +kernel
theorem kc_s310 : (Int16.ofInt 310).toInt32 = 310 := by decide +kernel
theorem kc_s311 : (Int16.ofInt 311).toInt32 = 311 := by decide +kernel
theorem kc_s312 : (Int16.ofInt 312).toInt32 = 312 := by decide +kernel
theorem dX7_readFist_0 : decode cX7_readFist 0 = .ok (.aload_n 0, 1) := by decide +kernel
theorem dX7_readFist_1 : decode cX7_readFist 1 = .ok (.sipush 309, 3) := by decide +kernel
theorem dX7_readFist_4 : decode cX7_readFist 4 = .ok (.invokevirtual 53, 3) := by decide +kernel
theorem dX7_readFist_7 : decode cX7_readFist 7 = .ok (.aload_n 0, 1) := by decide +kernel
theorem dX7_readFist_8 : decode cX7_readFist 8 = .ok (.invokevirtual 57, 3) := by decide +kernel
theorem dX7_readFist_11 : decode cX7_readFist 11 = .ok (.lstore_n 1, 1) := by decide +kernel
theorem dX7_readFist_12 : decode cX7_readFist 12 = .ok (.aload_n 0, 1) := by decide +kernel
theorem dX7_readFist_13 : decode cX7_readFist 13 = .ok (.aload_n 0, 1) := by decide +kernel
theorem dX7_readFist_14 : decode cX7_readFist 14 = .ok (.getfield 15, 3) := by decide +kernel
theorem dX7_readFist_17 : decode cX7_readFist 17 = .ok (.lload_n 1, 1) := by decide +kernel
theorem dX7_readFist_18 : decode cX7_readFist 18 = .ok (.invokevirtual 101, 3) := by decide +kernel
theorem dX7_readFist_21 : decode cX7_readFist 21 = .ok (.ifCond .lt 7, 3) := by decide +kernel
theorem dX7_readFist_24 : decode cX7_readFist 24 = .ok (.iconst 1, 1) := by decide +kernel
theorem dX7_readFist_25 : decode cX7_readFist 25 = .ok (.goto 4, 3) := by decide +kernel
theorem dX7_readFist_28 : decode cX7_readFist 28 = .ok (.iconst 0, 1) := by decide +kernel
theorem dX7_readFist_29 : decode cX7_readFist 29 = .ok (.aload_n 0, 1) := by decide +kernel
theorem dX7_readFist_30 : decode cX7_readFist 30 = .ok (.getfield 15, 3) := by decide +kernel
theorem dX7_readFist_33 : decode cX7_readFist 33 = .ok (.getfield 104, 3) := by decide +kernel
theorem dX7_readFist_36 : decode cX7_readFist 36 = .ok (.bipush 8, 2) := by decide +kernel
theorem dX7_readFist_38 : decode cX7_readFist 38 = .ok (.if_icmp .lt 7, 3) := by decide +kernel
theorem dX7_readFist_41 : decode cX7_readFist 41 = .ok (.iconst 1, 1) := by decide +kernel
theorem dX7_readFist_42 : decode cX7_readFist 42 = .ok (.goto 4, 3) := by decide +kernel
theorem dX7_readFist_45 : decode cX7_readFist 45 = .ok (.iconst 0, 1) := by decide +kernel
theorem dX7_readFist_46 : decode cX7_readFist 46 = .ok (.invokevirtual 70, 3) := by decide +kernel
theorem dX7_readFist_49 : decode cX7_readFist 49 = .ok (.aload_n 0, 1) := by decide +kernel
theorem dX7_readFist_50 : decode cX7_readFist 50 = .ok (.sipush 310, 3) := by decide +kernel
theorem dX7_readFist_53 : decode cX7_readFist 53 = .ok (.iconst 1, 1) := by decide +kernel
theorem dX7_readFist_54 : decode cX7_readFist 54 = .ok (.bipush 60, 2) := by decide +kernel
theorem dX7_readFist_56 : decode cX7_readFist 56 = .ok (.invokevirtual 74, 3) := by decide +kernel
theorem dX7_readFist_59 : decode cX7_readFist 59 = .ok (.istore_n 3, 1) := by decide +kernel
theorem dX7_readFist_60 : decode cX7_readFist 60 = .ok (.aload_n 0, 1) := by decide +kernel
theorem dX7_readFist_61 : decode cX7_readFist 61 = .ok (.sipush 311, 3) := by decide +kernel
theorem dX7_readFist_64 : decode cX7_readFist 64 = .ok (.iconst 0, 1) := by decide +kernel
theorem dX7_readFist_65 : decode cX7_readFist 65 = .ok (.bipush 20, 2) := by decide +kernel
theorem dX7_readFist_67 : decode cX7_readFist 67 = .ok (.invokevirtual 74, 3) := by decide +kernel
theorem dX7_readFist_70 : decode cX7_readFist 70 = .ok (.istore 4, 2) := by decide +kernel
theorem dX7_readFist_72 : decode cX7_readFist 72 = .ok (.aload_n 0, 1) := by decide +kernel
theorem dX7_readFist_73 : decode cX7_readFist 73 = .ok (.sipush 312, 3) := by decide +kernel
theorem dX7_readFist_76 : decode cX7_readFist 76 = .ok (.iconst 0, 1) := by decide +kernel
theorem dX7_readFist_77 : decode cX7_readFist 77 = .ok (.bipush 9, 2) := by decide +kernel
theorem dX7_readFist_79 : decode cX7_readFist 79 = .ok (.invokevirtual 74, 3) := by decide +kernel
theorem dX7_readFist_82 : decode cX7_readFist 82 = .ok (.istore 5, 2) := by decide +kernel
theorem dX7_readFist_84 : decode cX7_readFist 84 = .ok (.aload_n 0, 1) := by decide +kernel
theorem dX7_readFist_85 : decode cX7_readFist 85 = .ok (.getfield 26, 3) := by decide +kernel
theorem dX7_readFist_88 : decode cX7_readFist 88 = .ok (.ifCond .ne 16, 3) := by decide +kernel
theorem dX7_readFist_91 : decode cX7_readFist 91 = .ok (.aload_n 0, 1) := by decide +kernel
theorem dX7_readFist_92 : decode cX7_readFist 92 = .ok (.getfield 15, 3) := by decide +kernel
theorem dX7_readFist_95 : decode cX7_readFist 95 = .ok (.lload_n 1, 1) := by decide +kernel
theorem dX7_readFist_96 : decode cX7_readFist 96 = .ok (.iload_n 3, 1) := by decide +kernel
theorem dX7_readFist_97 : decode cX7_readFist 97 = .ok (.iload 4, 2) := by decide +kernel
theorem dX7_readFist_99 : decode cX7_readFist 99 = .ok (.iload 5, 2) := by decide +kernel
theorem dX7_readFist_101 : decode cX7_readFist 101 = .ok (.invokevirtual 107, 3) := by decide +kernel
theorem dX7_readFist_104 : decode cX7_readFist 104 = .ok (.return_, 1) := by decide +kernel
theorem dX7_readRail_0 : decode cX7_readRail 0 = .ok (.aload_n 0, 1) := by decide +kernel
theorem dX7_readRail_1 : decode cX7_readRail 1 = .ok (.sipush 300, 3) := by decide +kernel
theorem dX7_readRail_4 : decode cX7_readRail 4 = .ok (.invokevirtual 53, 3) := by decide +kernel
theorem dX7_readRail_7 : decode cX7_readRail 7 = .ok (.aload_n 0, 1) := by decide +kernel
theorem dX7_readRail_8 : decode cX7_readRail 8 = .ok (.invokevirtual 57, 3) := by decide +kernel
theorem dX7_readRail_11 : decode cX7_readRail 11 = .ok (.lstore_n 1, 1) := by decide +kernel
theorem dX7_readRail_12 : decode cX7_readRail 12 = .ok (.aload_n 0, 1) := by decide +kernel
theorem dX7_readRail_13 : decode cX7_readRail 13 = .ok (.aload_n 0, 1) := by decide +kernel
theorem dX7_readRail_14 : decode cX7_readRail 14 = .ok (.getfield 15, 3) := by decide +kernel
theorem dX7_readRail_17 : decode cX7_readRail 17 = .ok (.lload_n 1, 1) := by decide +kernel
theorem dX7_readRail_18 : decode cX7_readRail 18 = .ok (.invokevirtual 61, 3) := by decide +kernel
theorem dX7_readRail_21 : decode cX7_readRail 21 = .ok (.ifCond .lt 7, 3) := by decide +kernel
theorem dX7_readRail_24 : decode cX7_readRail 24 = .ok (.iconst 1, 1) := by decide +kernel
theorem dX7_readRail_25 : decode cX7_readRail 25 = .ok (.goto 4, 3) := by decide +kernel
theorem dX7_readRail_28 : decode cX7_readRail 28 = .ok (.iconst 0, 1) := by decide +kernel
theorem dX7_readRail_29 : decode cX7_readRail 29 = .ok (.aload_n 0, 1) := by decide +kernel
theorem dX7_readRail_30 : decode cX7_readRail 30 = .ok (.getfield 15, 3) := by decide +kernel
theorem dX7_readRail_33 : decode cX7_readRail 33 = .ok (.getfield 67, 3) := by decide +kernel
theorem dX7_readRail_36 : decode cX7_readRail 36 = .ok (.iconst 4, 1) := by decide +kernel
theorem dX7_readRail_37 : decode cX7_readRail 37 = .ok (.if_icmp .lt 7, 3) := by decide +kernel
theorem dX7_readRail_40 : decode cX7_readRail 40 = .ok (.iconst 1, 1) := by decide +kernel
theorem dX7_readRail_41 : decode cX7_readRail 41 = .ok (.goto 4, 3) := by decide +kernel
theorem dX7_readRail_44 : decode cX7_readRail 44 = .ok (.iconst 0, 1) := by decide +kernel
theorem dX7_readRail_45 : decode cX7_readRail 45 = .ok (.invokevirtual 70, 3) := by decide +kernel
theorem dX7_readRail_48 : decode cX7_readRail 48 = .ok (.aload_n 0, 1) := by decide +kernel
theorem dX7_readRail_49 : decode cX7_readRail 49 = .ok (.sipush 301, 3) := by decide +kernel
theorem dX7_readRail_52 : decode cX7_readRail 52 = .ok (.bipush 20, 2) := by decide +kernel
theorem dX7_readRail_54 : decode cX7_readRail 54 = .ok (.bipush 99, 2) := by decide +kernel
theorem dX7_readRail_56 : decode cX7_readRail 56 = .ok (.invokevirtual 74, 3) := by decide +kernel
theorem dX7_readRail_59 : decode cX7_readRail 59 = .ok (.istore_n 3, 1) := by decide +kernel
theorem dX7_readRail_60 : decode cX7_readRail 60 = .ok (.aload_n 0, 1) := by decide +kernel
theorem dX7_readRail_61 : decode cX7_readRail 61 = .ok (.sipush 302, 3) := by decide +kernel
theorem dX7_readRail_64 : decode cX7_readRail 64 = .ok (.iconst 1, 1) := by decide +kernel
theorem dX7_readRail_65 : decode cX7_readRail 65 = .ok (.bipush 9, 2) := by decide +kernel
theorem dX7_readRail_67 : decode cX7_readRail 67 = .ok (.invokevirtual 74, 3) := by decide +kernel
theorem dX7_readRail_70 : decode cX7_readRail 70 = .ok (.istore 4, 2) := by decide +kernel
theorem dX7_readRail_72 : decode cX7_readRail 72 = .ok (.aload_n 0, 1) := by decide +kernel
theorem dX7_readRail_73 : decode cX7_readRail 73 = .ok (.sipush 303, 3) := by decide +kernel
theorem dX7_readRail_76 : decode cX7_readRail 76 = .ok (.iconst 0, 1) := by decide +kernel
theorem dX7_readRail_77 : decode cX7_readRail 77 = .ok (.bipush 20, 2) := by decide +kernel
theorem dX7_readRail_79 : decode cX7_readRail 79 = .ok (.invokevirtual 74, 3) := by decide +kernel
theorem dX7_readRail_82 : decode cX7_readRail 82 = .ok (.istore 5, 2) := by decide +kernel
theorem dX7_readRail_84 : decode cX7_readRail 84 = .ok (.aload_n 0, 1) := by decide +kernel
theorem dX7_readRail_85 : decode cX7_readRail 85 = .ok (.getfield 26, 3) := by decide +kernel
theorem dX7_readRail_88 : decode cX7_readRail 88 = .ok (.ifCond .ne 16, 3) := by decide +kernel
theorem dX7_readRail_91 : decode cX7_readRail 91 = .ok (.aload_n 0, 1) := by decide +kernel
theorem dX7_readRail_92 : decode cX7_readRail 92 = .ok (.getfield 15, 3) := by decide +kernel
theorem dX7_readRail_95 : decode cX7_readRail 95 = .ok (.lload_n 1, 1) := by decide +kernel
theorem dX7_readRail_96 : decode cX7_readRail 96 = .ok (.iload_n 3, 1) := by decide +kernel
theorem dX7_readRail_97 : decode cX7_readRail 97 = .ok (.iload 4, 2) := by decide +kernel
theorem dX7_readRail_99 : decode cX7_readRail 99 = .ok (.iload 5, 2) := by decide +kernel
theorem dX7_readRail_101 : decode cX7_readRail 101 = .ok (.invokevirtual 80, 3) := by decide +kernel
theorem dX7_readRail_104 : decode cX7_readRail 104 = .ok (.return_, 1) := by decide +kernel
theorem dX7_readRust_0 : decode cX7_readRust 0 = .ok (.aload_n 0, 1) := by decide +kernel
theorem dX7_readRust_1 : decode cX7_readRust 1 = .ok (.getfield 15, 3) := by decide +kernel
theorem dX7_readRust_4 : decode cX7_readRust 4 = .ok (.getfield 84, 3) := by decide +kernel
theorem dX7_readRust_7 : decode cX7_readRust 7 = .ok (.bipush 12, 2) := by decide +kernel
theorem dX7_readRust_9 : decode cX7_readRust 9 = .ok (.if_icmp .lt 8, 3) := by decide +kernel
theorem dX7_readRust_12 : decode cX7_readRust 12 = .ok (.aload_n 0, 1) := by decide +kernel
theorem dX7_readRust_13 : decode cX7_readRust 13 = .ok (.iconst 4, 1) := by decide +kernel
theorem dX7_readRust_14 : decode cX7_readRust 14 = .ok (.invokevirtual 87, 3) := by decide +kernel
theorem dX7_readRust_17 : decode cX7_readRust 17 = .ok (.aload_n 0, 1) := by decide +kernel
theorem dX7_readRust_18 : decode cX7_readRust 18 = .ok (.sipush 304, 3) := by decide +kernel
theorem dX7_readRust_21 : decode cX7_readRust 21 = .ok (.invokevirtual 53, 3) := by decide +kernel
theorem dX7_readRust_24 : decode cX7_readRust 24 = .ok (.aload_n 0, 1) := by decide +kernel
theorem dX7_readRust_25 : decode cX7_readRust 25 = .ok (.sipush 305, 3) := by decide +kernel
theorem dX7_readRust_28 : decode cX7_readRust 28 = .ok (.invokevirtual 53, 3) := by decide +kernel
theorem dX7_readRust_31 : decode cX7_readRust 31 = .ok (.aload_n 0, 1) := by decide +kernel
theorem dX7_readRust_32 : decode cX7_readRust 32 = .ok (.aload_n 0, 1) := by decide +kernel
theorem dX7_readRust_33 : decode cX7_readRust 33 = .ok (.getfield 15, 3) := by decide +kernel
theorem dX7_readRust_36 : decode cX7_readRust 36 = .ok (.aload_n 0, 1) := by decide +kernel
theorem dX7_readRust_37 : decode cX7_readRust 37 = .ok (.invokevirtual 57, 3) := by decide +kernel
theorem dX7_readRust_40 : decode cX7_readRust 40 = .ok (.invokevirtual 61, 3) := by decide +kernel
theorem dX7_readRust_43 : decode cX7_readRust 43 = .ok (.invokevirtual 90, 3) := by decide +kernel
theorem dX7_readRust_46 : decode cX7_readRust 46 = .ok (.istore_n 1, 1) := by decide +kernel
theorem dX7_readRust_47 : decode cX7_readRust 47 = .ok (.aload_n 0, 1) := by decide +kernel
theorem dX7_readRust_48 : decode cX7_readRust 48 = .ok (.sipush 306, 3) := by decide +kernel
theorem dX7_readRust_51 : decode cX7_readRust 51 = .ok (.iconst 0, 1) := by decide +kernel
theorem dX7_readRust_52 : decode cX7_readRust 52 = .ok (.bipush 99, 2) := by decide +kernel
theorem dX7_readRust_54 : decode cX7_readRust 54 = .ok (.invokevirtual 74, 3) := by decide +kernel
theorem dX7_readRust_57 : decode cX7_readRust 57 = .ok (.istore_n 2, 1) := by decide +kernel
theorem dX7_readRust_58 : decode cX7_readRust 58 = .ok (.aload_n 0, 1) := by decide +kernel
theorem dX7_readRust_59 : decode cX7_readRust 59 = .ok (.iload_n 2, 1) := by decide +kernel
theorem dX7_readRust_60 : decode cX7_readRust 60 = .ok (.invokevirtual 94, 3) := by decide +kernel
theorem dX7_readRust_63 : decode cX7_readRust 63 = .ok (.istore_n 3, 1) := by decide +kernel
theorem dX7_readRust_64 : decode cX7_readRust 64 = .ok (.aload_n 0, 1) := by decide +kernel
theorem dX7_readRust_65 : decode cX7_readRust 65 = .ok (.sipush 308, 3) := by decide +kernel
theorem dX7_readRust_68 : decode cX7_readRust 68 = .ok (.iconst 0, 1) := by decide +kernel
theorem dX7_readRust_69 : decode cX7_readRust 69 = .ok (.bipush 9, 2) := by decide +kernel
theorem dX7_readRust_71 : decode cX7_readRust 71 = .ok (.invokevirtual 74, 3) := by decide +kernel
theorem dX7_readRust_74 : decode cX7_readRust 74 = .ok (.istore 4, 2) := by decide +kernel
theorem dX7_readRust_76 : decode cX7_readRust 76 = .ok (.aload_n 0, 1) := by decide +kernel
theorem dX7_readRust_77 : decode cX7_readRust 77 = .ok (.getfield 26, 3) := by decide +kernel
theorem dX7_readRust_80 : decode cX7_readRust 80 = .ok (.ifCond .ne 15, 3) := by decide +kernel
theorem dX7_readRust_83 : decode cX7_readRust 83 = .ok (.aload_n 0, 1) := by decide +kernel
theorem dX7_readRust_84 : decode cX7_readRust 84 = .ok (.getfield 15, 3) := by decide +kernel
theorem dX7_readRust_87 : decode cX7_readRust 87 = .ok (.iload_n 1, 1) := by decide +kernel
theorem dX7_readRust_88 : decode cX7_readRust 88 = .ok (.iload_n 2, 1) := by decide +kernel
theorem dX7_readRust_89 : decode cX7_readRust 89 = .ok (.iload_n 3, 1) := by decide +kernel
theorem dX7_readRust_90 : decode cX7_readRust 90 = .ok (.iload 4, 2) := by decide +kernel
theorem dX7_readRust_92 : decode cX7_readRust 92 = .ok (.invokevirtual 97, 3) := by decide +kernel
theorem dX7_readRust_95 : decode cX7_readRust 95 = .ok (.return_, 1) := by decide +kernel
/-! lines of a bill: rails, rust, fists -/
def rR1 (T : Toks) (b : BL) : PS := pEx T 300 b.P
def rR2 (T : Toks) (b : BL) : PS := pNew T (bI (0 ≤ fndJ b.nr (pV T (rR1 T b)) 0 b.B.nR)) (bI (4 ≤ b.B.nR)) (rR1 T b)
def rR3 (T : Toks) (b : BL) : PS := pNum T 301 20 99 (rR2 T b)
def rR4 (T : Toks) (b : BL) : PS := pNum T 302 1 9 (rR3 T b)
def rR5 (T : Toks) (b : BL) : PS := pNum T 303 0 20 (rR4 T b)
/-- the number behind a keyword -/
def pW (T : Toks) (kw : Int32) (s : PS) : Int32 := (pV T (pEx T kw s)).toInt32
def rdRail (T : Toks) (b : BL) : BL := if (rR5 T b).2.1 = 0 then (rR5 T b, b.L, BSrail b.B, MSrail b.m b.B.nR (pW T 301 (rR2 T b)) (pW T 302 (rR3 T b)) (pW T 303 (rR4 T b)), b.u, up1 b.nr b.B.nR (pV T (rR1 T b)), b.nf, b.np) else BP b (rR5 T b)
def rF1 (T : Toks) (b : BL) : PS := pEx T 309 b.P
def rF2 (T : Toks) (b : BL) : PS := pNew T (bI (0 ≤ fndJ b.nf (pV T (rF1 T b)) 0 b.B.nF)) (bI (8 ≤ b.B.nF)) (rF1 T b)
def rF3 (T : Toks) (b : BL) : PS := pNum T 310 1 60 (rF2 T b)
def rF4 (T : Toks) (b : BL) : PS := pNum T 311 0 20 (rF3 T b)
def rF5 (T : Toks) (b : BL) : PS := pNum T 312 0 9 (rF4 T b)
def rdFist (T : Toks) (b : BL) : BL := if (rF5 T b).2.1 = 0 then (rF5 T b, b.L, BSfist b.B, MSfist b.m b.B.nF (pW T 310 (rF2 T b)) (pW T 311 (rF3 T b)) (pW T 312 (rF4 T b)), b.u, b.nr, up1 b.nf b.B.nF (pV T (rF1 T b)), b.np) else BP b (rF5 T b)
def rU0 (T : Toks) (b : BL) : PS := if 12 ≤ b.u then pBl T 4 b.P else b.P
def rU1 (T : Toks) (b : BL) : PS := pEx T 305 (pEx T 304 (rU0 T b))
def rUi (T : Toks) (b : BL) : Int32 := fndJ b.nr (pV T (rU1 T b)) 0 b.B.nR
def rU2 (T : Toks) (b : BL) : PS := pKn T (rUi T b) (rU1 T b)
def rU3 (T : Toks) (b : BL) : PS := pNum T 306 0 99 (rU2 T b)
def rU4 (T : Toks) (b : BL) : PS := pTo T (pW T 306 (rU2 T b)) (rU3 T b)
def rU5 (T : Toks) (b : BL) : PS := pNum T 308 0 9 (rU4 T b)
def rdRust (T : Toks) (b : BL) : BL := if (rU5 T b).2.1 = 0 then (rU5 T b, b.L, BSrust b.B (rUi T b).toNatClampNeg (pW T 306 (rU2 T b)) (pW T 307 (rU3 T b)) (pW T 308 (rU4 T b)), b.m, b.u + 1, b.nr, b.nf, b.np) else BP b (rU5 T b)
theorem AbE.add {S : AMem} {R : Nat → Nat → Option Nat} {I I1 : Nat → Nat → Int32} {J J1 : Nat → Nat → Int64} {x t c n1 n2 n3 m1 m2 m3 : Nat} {T : Toks} {s : PS × Cd} (hX : RX S R x t c) (h : AbE I J x t c n1 n2 n3 T s) (ho : OffC c I I1) (hj : OffJc c J J1) (h1 : ∀ j, I1 (c + 1) j = I (c + 1) j) (h2 : I1 (c + 2) = I (c + 2)) (h3 : I1 (c + 3) = I (c + 3)) (hc : Cnt I1 c m1 m2 m3) : AbE I1 J1 x t c m1 m2 m3 T s := by
  obtain ⟨⟨⟨t0, t1, t2, t3, t4, _⟩, hx, hr, hxt⟩, hct, hr1, hxc, htc⟩ := hX
  obtain ⟨⟨a1, a2, a3, a4, a5⟩, ⟨p1, p2, p3, p4⟩, ⟨c1, c2, c3⟩, _⟩ := h
  refine ⟨⟨(ho _ _ (by omega)).trans a1, a2, fun i hi => (ho _ _ (by omega)).trans (a3 i hi), fun i hi => (ho _ _ (by omega)).trans (a4 i hi), fun i hi => (hj _ _ (by omega)).trans (a5 i hi)⟩, ⟨(ho _ _ hxc).trans p1, (ho _ _ hxc).trans p2, (ho _ _ hxc).trans p3, p4⟩, ⟨(h1 _).trans c1, c2, fun i hi => ?_⟩, hc⟩
  rw [h2, h3]
  exact c3 i hi
theorem AbB.cnt {I : Nat → Nat → Int32} {c : Nat} {B : BS} (h : AbB I c B) : Cnt I c B.nR B.nF B.nP := ⟨h.1.1, h.1.2, h.2.1.1, h.2.1.2, h.2.2.1.1, h.2.2.1.2⟩
section Li
variable {G : Gp} {S : AMem} {I : Nat → Nat → Int32} {J : Nat → Nat → Int64} {R : Nat → Nat → Option Nat} {t x c : Nat} {T : Toks} {b : BL} {s : PS}
theorem NmJ.rail {v : Int64} {n : Nat} (hn : n = b.B.nR) (h4 : n < 4) (h8 : b.B.nF ≤ 8) (h9 : b.B.nP ≤ 8) (h : NmJ J c b) : (∀ i, i < n + 1 → up2 J (c + 14 + 2 * n) 1 v (c + 14 + 2 * i) 1 = up1 b.nr n v i) ∧ (∀ i, i < b.B.nF → up2 J (c + 14 + 2 * n) 1 v (c + 22 + i) 0 = b.nf i) ∧ ∀ i, i < b.B.nP → up2 J (c + 14 + 2 * n) 1 v (c + 30 + i) 0 = b.np i := by
  refine ⟨fun i hi => ?_, fun i hi => ?_, fun i hi => ?_⟩
  · rw [up2_at]
    unfold up1
    by_cases e : i = n
    · rw [if_pos e, if_pos ⟨by omega, rfl⟩]
    · rw [if_neg e, if_neg (by omega)]
      exact h.1 i (by omega)
  · rw [up2_at, if_neg (by omega)]
    exact h.2.1 i hi
  · rw [up2_at, if_neg (by omega)]
    exact h.2.2 i hi
theorem NmJ.fist {v : Int64} {n : Nat} (hn : n = b.B.nF) (h4 : n < 8) (h8 : b.B.nR ≤ 4) (h9 : b.B.nP ≤ 8) (h : NmJ J c b) : (∀ i, i < b.B.nR → up2 J (c + 22 + n) 0 v (c + 14 + 2 * i) 1 = b.nr i) ∧ (∀ i, i < n + 1 → up2 J (c + 22 + n) 0 v (c + 22 + i) 0 = up1 b.nf n v i) ∧ ∀ i, i < b.B.nP → up2 J (c + 22 + n) 0 v (c + 30 + i) 0 = b.np i := by
  refine ⟨fun i hi => ?_, fun i hi => ?_, fun i hi => ?_⟩
  · rw [up2_at, if_neg (by omega)]
    exact h.1 i hi
  · rw [up2_at]
    unfold up1
    by_cases e : i = n
    · rw [if_pos e, if_pos ⟨by omega, rfl⟩]
    · rw [if_neg e, if_neg (by omega)]
      exact h.2.1 i (by omega)
  · rw [up2_at, if_neg (by omega)]
    exact h.2.2 i hi
theorem NmJ.prize {v : Int64} {n : Nat} (hn : n = b.B.nP) (h4 : n < 8) (h8 : b.B.nR ≤ 4) (h9 : b.B.nF ≤ 8) (h : NmJ J c b) : (∀ i, i < b.B.nR → up2 J (c + 30 + n) 0 v (c + 14 + 2 * i) 1 = b.nr i) ∧ (∀ i, i < b.B.nF → up2 J (c + 30 + n) 0 v (c + 22 + i) 0 = b.nf i) ∧ ∀ i, i < n + 1 → up2 J (c + 30 + n) 0 v (c + 30 + i) 0 = up1 b.np n v i := by
  refine ⟨fun i hi => ?_, fun i hi => ?_, fun i hi => ?_⟩
  · rw [up2_at, if_neg (by omega)]
    exact h.1 i hi
  · rw [up2_at, if_neg (by omega)]
    exact h.2.1 i hi
  · rw [up2_at]
    unfold up1
    by_cases e : i = n
    · rw [if_pos e, if_pos ⟨by omega, rfl⟩]
    · rw [if_neg e, if_neg (by omega)]
      exact h.2.2 i (by omega)
theorem AbL.err (h : AbL I J x t c T (BP b s)) : I x 3 = s.2.1 := h.1.2.1.2.1
theorem OffJc.up {y j : Nat} {v : Int64} (h1 : c ≤ y) (h2 : y < c + 58) : OffJc c J (up2 J y j v) := fun z k q => by rw [up2_at, if_neg (by omega)]
theorem k_X7_readRail (hG : okG G) (hX : RX S R x t c) (h : AbL I J x t c T b) : Fn G mX7_readRail 4 [vR x] (mw S I J R) (fun rr M1 => rr = none ∧ ∃ I1 J1, M1 = mw S I1 J1 R ∧ AbL I1 J1 x t c T (rdRail T b) ∧ OffX x c I I1 ∧ OffJc c J J1) := by
  obtain ⟨⟨hT, hx, hr, hxt⟩, hct, hr1, hxc, htc⟩ := id hX
  have kc := hct.1
  have s2 : ∀ (I1 : Nat → Nat → Int32) (p q : Int32), p = bI (0 ≤ fndJ b.nr (pV T (rR1 T b)) 0 b.B.nR) → q = bI (4 ≤ b.B.nR) → AbL I1 J x t c T (BP b (rR1 T b)) → OffX x c I I1 → MW G mX7_readRail 4 45 [some (vR x), some (vJ (pV T (rR1 T b))), none, none, none, none] [vI q, vI p, vR x] (mw S I1 J R) (fun f M1 => ∃ r, f = .inl r ∧ (r = none ∧ ∃ I1 J1, M1 = mw S I1 J1 R ∧ AbL I1 J1 x t c T (rdRail T b) ∧ OffX x c I I1 ∧ OffJc c J J1)) := by
    intro I1 p q hp hq h1 o1
    subst hp hq
    refine cm_call0 (q := 48) (As := [_, _]) hG dX7_readRail_45 mlX7_70 rfl (by assumption) ⟨_, _, rfl⟩ (Nat.le_of_ble_eq_true rfl) (Nat.le_of_ble_eq_true rfl) (Nat.le_of_ble_eq_true rfl) (Nat.le_of_ble_eq_true rfl) (kb_new hG hX h1) rfl ?_
    rintro _ _ ⟨rfl, I2, rfl, (h2 : AbL I2 J x t c T (BP b (rR2 T b))), o2⟩
    refine am_aload_n (q := 49) dX7_readRail_48 rfl rfl ?_
    refine am_sipush (q := 52) (v := 301) dX7_readRail_49 kc_s301 rfl ?_
    refine am_bipush (q := 54) (v := 20) dX7_readRail_52 kc_b20 rfl ?_
    refine am_bipush (q := 56) (v := 99) dX7_readRail_54 kc_b99 rfl ?_
    refine cm_call0 (q := 59) (As := [_, _, _]) hG dX7_readRail_56 mlX7_74 rfl (by assumption) ⟨_, _, rfl⟩ (Nat.le_of_ble_eq_true rfl) (Nat.le_of_ble_eq_true rfl) (Nat.le_of_ble_eq_true rfl) (Nat.le_of_ble_eq_true rfl) (kb_num hG hX h2 (by decide)) rfl ?_
    rintro _ _ ⟨rfl, I3, rfl, (h3 : AbL I3 J x t c T (BP b (rR3 T b))), o3⟩
    refine am_istore_n (q := 60) (ls1 := [_, _, _, _, _, _]) dX7_readRail_59 (Nat.le_of_ble_eq_true rfl) rfl rfl ?_
    refine am_aload_n (q := 61) dX7_readRail_60 rfl rfl ?_
    refine am_sipush (q := 64) (v := 302) dX7_readRail_61 kc_s302 rfl ?_
    refine am_iconst (q := 65) (v := 1) dX7_readRail_64 kc_i1 rfl ?_
    refine am_bipush (q := 67) (v := 9) dX7_readRail_65 kc_b9 rfl ?_
    refine cm_call0 (q := 70) (As := [_, _, _]) hG dX7_readRail_67 mlX7_74 rfl (by assumption) ⟨_, _, rfl⟩ (Nat.le_of_ble_eq_true rfl) (Nat.le_of_ble_eq_true rfl) (Nat.le_of_ble_eq_true rfl) (Nat.le_of_ble_eq_true rfl) (kb_num hG hX h3 (by decide)) rfl ?_
    rintro _ _ ⟨rfl, I4, rfl, (h4 : AbL I4 J x t c T (BP b (rR4 T b))), o4⟩
    refine am_istore (q := 72) (ls1 := [_, _, _, _, _, _]) dX7_readRail_70 (Nat.le_of_ble_eq_true rfl) rfl rfl ?_
    refine am_aload_n (q := 73) dX7_readRail_72 rfl rfl ?_
    refine am_sipush (q := 76) (v := 303) dX7_readRail_73 kc_s303 rfl ?_
    refine am_iconst (q := 77) (v := 0) dX7_readRail_76 kc_i0 rfl ?_
    refine am_bipush (q := 79) (v := 20) dX7_readRail_77 kc_b20 rfl ?_
    refine cm_call0 (q := 82) (As := [_, _, _]) hG dX7_readRail_79 mlX7_74 rfl (by assumption) ⟨_, _, rfl⟩ (Nat.le_of_ble_eq_true rfl) (Nat.le_of_ble_eq_true rfl) (Nat.le_of_ble_eq_true rfl) (Nat.le_of_ble_eq_true rfl) (kb_num hG hX h4 (by decide)) rfl ?_
    rintro _ _ ⟨rfl, I5, rfl, (h5 : AbL I5 J x t c T (BP b (rR5 T b))), o5⟩
    refine am_istore (q := 84) (ls1 := [_, _, _, _, _, _]) dX7_readRail_82 (Nat.le_of_ble_eq_true rfl) rfl rfl ?_
    have e5 : I5 x 3 = (rR5 T b).2.1 := AbL.err h5
    have o6 := (((o1.tr o2).tr o3).tr o4).tr o5
    unfold rdRail
    refine am_aload_n (q := 85) dX7_readRail_84 rfl rfl ?_
    refine cm_getI (q := 88) dX7_readRail_85 flX7_26 rfl (by assumption) rfl ?_
    rw [e5]
    refine am_if_ne (tgt := 104) (q := 91) dX7_readRail_88 rfl rfl (fun hc => ?_) (fun hc => ?_)
    · rw [if_neg hc]
      exact am_ret dX7_readRail_104 rfl ⟨_, rfl, rfl, I5, J, rfl, h5, o6, OffJc.rf⟩
    · rw [if_pos hc]
      have gg : b.B.nR < 4 ∧ 1 ≤ pW T 302 (rR3 T b) := by
        have hd := hc
        unfold rR5 at hd
        obtain ⟨g1, _⟩ := pNum_0 hd
        unfold rR4 at g1
        obtain ⟨g2, _, _, _, g3, g4, _⟩ := pNum_0 g1
        unfold rR3 at g2
        obtain ⟨g5, _⟩ := pNum_0 g2
        unfold rR2 at g5
        obtain ⟨_, _, _, g6, _⟩ := pNew_0 g5
        have g7 : b.B.nR < 4 := Nat.not_le.mp (bI_e0.mp g6)
        have g8 := (k_rng g3 g4).1
        exact ⟨g7, g8⟩
      clear hc
      have hB5 : AbB I5 c b.B := h5.hB
      have hm5 : AbM I5 c b.B b.m := h5.hM
      have g7 := gg.1
      refine am_aload_n (q := 92) dX7_readRail_91 rfl rfl ?_
      refine cm_getR (q := 95) dX7_readRail_92 flX7_15 rfl (by assumption) (by assumption) rfl ?_
      refine am_lload_n (q := 96) dX7_readRail_95 rfl rfl ?_
      refine am_iload_n (q := 97) dX7_readRail_96 rfl rfl ?_
      refine am_iload (q := 99) dX7_readRail_97 rfl rfl ?_
      refine am_iload (q := 101) dX7_readRail_99 rfl rfl ?_
      refine cm_call0 (q := 104) (As := [_, _, _, _]) hG dX7_readRail_101 mlX7_80 rfl (by assumption) ⟨_, _, rfl⟩ (Nat.le_of_ble_eq_true rfl) (Nat.le_of_ble_eq_true rfl) (Nat.le_of_ble_eq_true rfl) (Nat.le_of_ble_eq_true rfl) (k_X2_addRail hG hct hB5 hm5 g7 (Int32.lt_of_lt_of_le (by decide) gg.2)) rfl ?_
      rintro _ _ ⟨rfl, I6, rfl, hB6, hm6, e9, oC, oc1, oc2, oc3⟩
      have oJ : OffJc c J (up2 J (c + 14 + 2 * b.B.nR) 1 (pV T (rR1 T b))) := OffJc.up (by omega) (by omega)
      have nn := NmJ.rail (b := b) (v := pV T (rR1 T b)) rfl g7 h.2.1.2.1.2 h.2.1.2.2.1.2 h5.hN
      exact am_ret dX7_readRail_104 rfl ⟨_, rfl, rfl, I6, _, rfl, AbL.put (AbE.add hX h5.hE oC oJ oc1 oc2 oc3 hB6.cnt) hB6 hm6 (e9.trans h5.hU) h5.hV nn.1 nn.2.1 nn.2.2, o6.tr oC.x, oJ⟩
  refine am_aload_n (q := 1) dX7_readRail_0 rfl rfl ?_
  refine am_sipush (q := 4) (v := 300) dX7_readRail_1 kc_s300 rfl ?_
  refine cm_call0 (q := 7) (As := [_]) hG dX7_readRail_4 mlX7_53 rfl (by assumption) ⟨_, _, rfl⟩ (Nat.le_of_ble_eq_true rfl) (Nat.le_of_ble_eq_true rfl) (Nat.le_of_ble_eq_true rfl) (Nat.le_of_ble_eq_true rfl) (kb_expect (b := b) (s := b.P) hG hX h (by decide)) rfl ?_
  rintro _ _ ⟨rfl, I1, rfl, (h1 : AbL I1 J x t c T (BP b (rR1 T b))), o1⟩
  refine am_aload_n (q := 8) dX7_readRail_7 rfl rfl ?_
  refine cm_call0 (q := 11) (As := []) hG dX7_readRail_8 mlX7_57 rfl (by assumption) ⟨_, _, rfl⟩ (Nat.le_of_ble_eq_true rfl) (Nat.le_of_ble_eq_true rfl) (Nat.le_of_ble_eq_true rfl) (Nat.le_of_ble_eq_true rfl) (kb_value hG hX h1) rfl ?_
  rintro _ _ ⟨rfl, rfl⟩
  refine am_lstore_n (q := 12) (ls1 := [_, _, _, _, _, _]) dX7_readRail_11 (Nat.le_of_ble_eq_true rfl) rfl rfl ?_
  have s1 : ∀ p : Int32, p = bI (0 ≤ fndJ b.nr (pV T (rR1 T b)) 0 b.B.nR) → MW G mX7_readRail 4 29 [some (vR x), some (vJ (pV T (rR1 T b))), none, none, none, none] [vI p, vR x] (mw S I1 J R) (fun f M1 => ∃ r, f = .inl r ∧ (r = none ∧ ∃ I1 J1, M1 = mw S I1 J1 R ∧ AbL I1 J1 x t c T (rdRail T b) ∧ OffX x c I I1 ∧ OffJc c J J1)) := by
    intro p hp
    have e8 : I1 c 8 = nI b.B.nR := h1.2.1.1.1
    have u8 : b.B.nR ≤ 4 := h1.2.1.1.2
    refine am_aload_n (q := 30) dX7_readRail_29 rfl rfl ?_
    refine cm_getR (q := 33) dX7_readRail_30 flX7_15 rfl (by assumption) (by assumption) rfl ?_
    refine cm_getI (q := 36) dX7_readRail_33 flX7_67 rfl (by assumption) rfl ?_
    rw [e8]
    refine am_iconst (q := 37) (v := 4) dX7_readRail_36 kc_i4 rfl ?_
    refine am_icmp_lt (tgt := 44) (q := 40) dX7_readRail_37 rfl rfl (fun hc => ?_) (fun hc => ?_)
    · refine am_iconst (q := 45) (v := 0) dX7_readRail_44 kc_i0 rfl ?_
      exact s2 I1 p 0 hp (bI_f (Nat.not_le.mpr ((nI_ltI (b := 4) (by omega) (by decide)).mp hc))).symm h1 o1
    · refine am_iconst (q := 41) (v := 1) dX7_readRail_40 kc_i1 rfl ?_
      refine am_goto (tgt := 45) dX7_readRail_41 rfl ?_
      exact s2 I1 p 1 hp (bI_t (Nat.not_lt.mp fun z => hc ((nI_ltI (b := 4) (by omega) (by decide)).mpr z))).symm h1 o1
  refine am_aload_n (q := 13) dX7_readRail_12 rfl rfl ?_
  refine am_aload_n (q := 14) dX7_readRail_13 rfl rfl ?_
  refine cm_getR (q := 17) dX7_readRail_14 flX7_15 rfl (by assumption) (by assumption) rfl ?_
  refine am_lload_n (q := 18) dX7_readRail_17 rfl rfl ?_
  refine cm_call0 (q := 21) (As := [_]) hG dX7_readRail_18 mlX7_61 rfl (by assumption) ⟨_, _, rfl⟩ (Nat.le_of_ble_eq_true rfl) (Nat.le_of_ble_eq_true rfl) (Nat.le_of_ble_eq_true rfl) (Nat.le_of_ble_eq_true rfl) (kb_rail hX h1) rfl ?_
  rintro _ _ ⟨rfl, rfl⟩
  refine am_if_lt (tgt := 28) (q := 24) dX7_readRail_21 rfl rfl (fun hc => ?_) (fun hc => ?_)
  · refine am_iconst (q := 29) (v := 0) dX7_readRail_28 kc_i0 rfl ?_
    exact s1 0 (bI_f (Int32.not_le.mpr hc)).symm
  · refine am_iconst (q := 25) (v := 1) dX7_readRail_24 kc_i1 rfl ?_
    refine am_goto (tgt := 29) dX7_readRail_25 rfl ?_
    exact s1 1 (bI_t (Int32.not_lt.mp hc)).symm
theorem k_X7_readFist (hG : okG G) (hX : RX S R x t c) (h : AbL I J x t c T b) : Fn G mX7_readFist 4 [vR x] (mw S I J R) (fun rr M1 => rr = none ∧ ∃ I1 J1, M1 = mw S I1 J1 R ∧ AbL I1 J1 x t c T (rdFist T b) ∧ OffX x c I I1 ∧ OffJc c J J1) := by
  obtain ⟨⟨hT, hx, hr, hxt⟩, hct, hr1, hxc, htc⟩ := id hX
  have kc := hct.1
  have s2 : ∀ (I1 : Nat → Nat → Int32) (p q : Int32), p = bI (0 ≤ fndJ b.nf (pV T (rF1 T b)) 0 b.B.nF) → q = bI (8 ≤ b.B.nF) → AbL I1 J x t c T (BP b (rF1 T b)) → OffX x c I I1 → MW G mX7_readFist 4 46 [some (vR x), some (vJ (pV T (rF1 T b))), none, none, none, none] [vI q, vI p, vR x] (mw S I1 J R) (fun f M1 => ∃ r, f = .inl r ∧ (r = none ∧ ∃ I1 J1, M1 = mw S I1 J1 R ∧ AbL I1 J1 x t c T (rdFist T b) ∧ OffX x c I I1 ∧ OffJc c J J1)) := by
    intro I1 p q hp hq h1 o1
    subst hp hq
    refine cm_call0 (q := 49) (As := [_, _]) hG dX7_readFist_46 mlX7_70 rfl (by assumption) ⟨_, _, rfl⟩ (Nat.le_of_ble_eq_true rfl) (Nat.le_of_ble_eq_true rfl) (Nat.le_of_ble_eq_true rfl) (Nat.le_of_ble_eq_true rfl) (kb_new hG hX h1) rfl ?_
    rintro _ _ ⟨rfl, I2, rfl, (h2 : AbL I2 J x t c T (BP b (rF2 T b))), o2⟩
    refine am_aload_n (q := 50) dX7_readFist_49 rfl rfl ?_
    refine am_sipush (q := 53) (v := 310) dX7_readFist_50 kc_s310 rfl ?_
    refine am_iconst (q := 54) (v := 1) dX7_readFist_53 kc_i1 rfl ?_
    refine am_bipush (q := 56) (v := 60) dX7_readFist_54 kc_b60 rfl ?_
    refine cm_call0 (q := 59) (As := [_, _, _]) hG dX7_readFist_56 mlX7_74 rfl (by assumption) ⟨_, _, rfl⟩ (Nat.le_of_ble_eq_true rfl) (Nat.le_of_ble_eq_true rfl) (Nat.le_of_ble_eq_true rfl) (Nat.le_of_ble_eq_true rfl) (kb_num hG hX h2 (by decide)) rfl ?_
    rintro _ _ ⟨rfl, I3, rfl, (h3 : AbL I3 J x t c T (BP b (rF3 T b))), o3⟩
    refine am_istore_n (q := 60) (ls1 := [_, _, _, _, _, _]) dX7_readFist_59 (Nat.le_of_ble_eq_true rfl) rfl rfl ?_
    refine am_aload_n (q := 61) dX7_readFist_60 rfl rfl ?_
    refine am_sipush (q := 64) (v := 311) dX7_readFist_61 kc_s311 rfl ?_
    refine am_iconst (q := 65) (v := 0) dX7_readFist_64 kc_i0 rfl ?_
    refine am_bipush (q := 67) (v := 20) dX7_readFist_65 kc_b20 rfl ?_
    refine cm_call0 (q := 70) (As := [_, _, _]) hG dX7_readFist_67 mlX7_74 rfl (by assumption) ⟨_, _, rfl⟩ (Nat.le_of_ble_eq_true rfl) (Nat.le_of_ble_eq_true rfl) (Nat.le_of_ble_eq_true rfl) (Nat.le_of_ble_eq_true rfl) (kb_num hG hX h3 (by decide)) rfl ?_
    rintro _ _ ⟨rfl, I4, rfl, (h4 : AbL I4 J x t c T (BP b (rF4 T b))), o4⟩
    refine am_istore (q := 72) (ls1 := [_, _, _, _, _, _]) dX7_readFist_70 (Nat.le_of_ble_eq_true rfl) rfl rfl ?_
    refine am_aload_n (q := 73) dX7_readFist_72 rfl rfl ?_
    refine am_sipush (q := 76) (v := 312) dX7_readFist_73 kc_s312 rfl ?_
    refine am_iconst (q := 77) (v := 0) dX7_readFist_76 kc_i0 rfl ?_
    refine am_bipush (q := 79) (v := 9) dX7_readFist_77 kc_b9 rfl ?_
    refine cm_call0 (q := 82) (As := [_, _, _]) hG dX7_readFist_79 mlX7_74 rfl (by assumption) ⟨_, _, rfl⟩ (Nat.le_of_ble_eq_true rfl) (Nat.le_of_ble_eq_true rfl) (Nat.le_of_ble_eq_true rfl) (Nat.le_of_ble_eq_true rfl) (kb_num hG hX h4 (by decide)) rfl ?_
    rintro _ _ ⟨rfl, I5, rfl, (h5 : AbL I5 J x t c T (BP b (rF5 T b))), o5⟩
    refine am_istore (q := 84) (ls1 := [_, _, _, _, _, _]) dX7_readFist_82 (Nat.le_of_ble_eq_true rfl) rfl rfl ?_
    have e5 : I5 x 3 = (rF5 T b).2.1 := AbL.err h5
    have o6 := (((o1.tr o2).tr o3).tr o4).tr o5
    unfold rdFist
    refine am_aload_n (q := 85) dX7_readFist_84 rfl rfl ?_
    refine cm_getI (q := 88) dX7_readFist_85 flX7_26 rfl (by assumption) rfl ?_
    rw [e5]
    refine am_if_ne (tgt := 104) (q := 91) dX7_readFist_88 rfl rfl (fun hc => ?_) (fun hc => ?_)
    · rw [if_neg hc]
      exact am_ret dX7_readFist_104 rfl ⟨_, rfl, rfl, I5, J, rfl, h5, o6, OffJc.rf⟩
    · rw [if_pos hc]
      have gg : b.B.nF < 8 := by
        have hd := hc
        unfold rF5 at hd
        obtain ⟨g1, _⟩ := pNum_0 hd
        unfold rF4 at g1
        obtain ⟨g2, _⟩ := pNum_0 g1
        unfold rF3 at g2
        obtain ⟨g5, _⟩ := pNum_0 g2
        unfold rF2 at g5
        obtain ⟨_, _, _, g6, _⟩ := pNew_0 g5
        have g7 : b.B.nF < 8 := Nat.not_le.mp (bI_e0.mp g6)
        exact g7
      clear hc
      have hB5 : AbB I5 c b.B := h5.hB
      have hm5 : AbM I5 c b.B b.m := h5.hM
      have g7 := gg
      refine am_aload_n (q := 92) dX7_readFist_91 rfl rfl ?_
      refine cm_getR (q := 95) dX7_readFist_92 flX7_15 rfl (by assumption) (by assumption) rfl ?_
      refine am_lload_n (q := 96) dX7_readFist_95 rfl rfl ?_
      refine am_iload_n (q := 97) dX7_readFist_96 rfl rfl ?_
      refine am_iload (q := 99) dX7_readFist_97 rfl rfl ?_
      refine am_iload (q := 101) dX7_readFist_99 rfl rfl ?_
      refine cm_call0 (q := 104) (As := [_, _, _, _]) hG dX7_readFist_101 mlX7_107 rfl (by assumption) ⟨_, _, rfl⟩ (Nat.le_of_ble_eq_true rfl) (Nat.le_of_ble_eq_true rfl) (Nat.le_of_ble_eq_true rfl) (Nat.le_of_ble_eq_true rfl) (k_X2_addFist hG hct hB5 hm5 g7) rfl ?_
      rintro _ _ ⟨rfl, I6, rfl, hB6, hm6, e9, oC, oc1, oc2, oc3⟩
      have oJ : OffJc c J (up2 J (c + 22 + b.B.nF) 0 (pV T (rF1 T b))) := OffJc.up (by omega) (by omega)
      have nn := NmJ.fist (b := b) (v := pV T (rF1 T b)) rfl g7 h.2.1.1.2 h.2.1.2.2.1.2 h5.hN
      exact am_ret dX7_readFist_104 rfl ⟨_, rfl, rfl, I6, _, rfl, AbL.put (AbE.add hX h5.hE oC oJ oc1 oc2 oc3 hB6.cnt) hB6 hm6 (e9.trans h5.hU) h5.hV nn.1 nn.2.1 nn.2.2, o6.tr oC.x, oJ⟩
  refine am_aload_n (q := 1) dX7_readFist_0 rfl rfl ?_
  refine am_sipush (q := 4) (v := 309) dX7_readFist_1 kc_s309 rfl ?_
  refine cm_call0 (q := 7) (As := [_]) hG dX7_readFist_4 mlX7_53 rfl (by assumption) ⟨_, _, rfl⟩ (Nat.le_of_ble_eq_true rfl) (Nat.le_of_ble_eq_true rfl) (Nat.le_of_ble_eq_true rfl) (Nat.le_of_ble_eq_true rfl) (kb_expect (b := b) (s := b.P) hG hX h (by decide)) rfl ?_
  rintro _ _ ⟨rfl, I1, rfl, (h1 : AbL I1 J x t c T (BP b (rF1 T b))), o1⟩
  refine am_aload_n (q := 8) dX7_readFist_7 rfl rfl ?_
  refine cm_call0 (q := 11) (As := []) hG dX7_readFist_8 mlX7_57 rfl (by assumption) ⟨_, _, rfl⟩ (Nat.le_of_ble_eq_true rfl) (Nat.le_of_ble_eq_true rfl) (Nat.le_of_ble_eq_true rfl) (Nat.le_of_ble_eq_true rfl) (kb_value hG hX h1) rfl ?_
  rintro _ _ ⟨rfl, rfl⟩
  refine am_lstore_n (q := 12) (ls1 := [_, _, _, _, _, _]) dX7_readFist_11 (Nat.le_of_ble_eq_true rfl) rfl rfl ?_
  have s1 : ∀ p : Int32, p = bI (0 ≤ fndJ b.nf (pV T (rF1 T b)) 0 b.B.nF) → MW G mX7_readFist 4 29 [some (vR x), some (vJ (pV T (rF1 T b))), none, none, none, none] [vI p, vR x] (mw S I1 J R) (fun f M1 => ∃ r, f = .inl r ∧ (r = none ∧ ∃ I1 J1, M1 = mw S I1 J1 R ∧ AbL I1 J1 x t c T (rdFist T b) ∧ OffX x c I I1 ∧ OffJc c J J1)) := by
    intro p hp
    have e8 : I1 c 10 = nI b.B.nF := h1.2.1.2.1.1
    have u8 : b.B.nF ≤ 8 := h1.2.1.2.1.2
    refine am_aload_n (q := 30) dX7_readFist_29 rfl rfl ?_
    refine cm_getR (q := 33) dX7_readFist_30 flX7_15 rfl (by assumption) (by assumption) rfl ?_
    refine cm_getI (q := 36) dX7_readFist_33 flX7_104 rfl (by assumption) rfl ?_
    rw [e8]
    refine am_bipush (q := 38) (v := 8) dX7_readFist_36 kc_b8 rfl ?_
    refine am_icmp_lt (tgt := 45) (q := 41) dX7_readFist_38 rfl rfl (fun hc => ?_) (fun hc => ?_)
    · refine am_iconst (q := 46) (v := 0) dX7_readFist_45 kc_i0 rfl ?_
      exact s2 I1 p 0 hp (bI_f (Nat.not_le.mpr ((nI_ltI (b := 8) (by omega) (by decide)).mp hc))).symm h1 o1
    · refine am_iconst (q := 42) (v := 1) dX7_readFist_41 kc_i1 rfl ?_
      refine am_goto (tgt := 46) dX7_readFist_42 rfl ?_
      exact s2 I1 p 1 hp (bI_t (Nat.not_lt.mp fun z => hc ((nI_ltI (b := 8) (by omega) (by decide)).mpr z))).symm h1 o1
  refine am_aload_n (q := 13) dX7_readFist_12 rfl rfl ?_
  refine am_aload_n (q := 14) dX7_readFist_13 rfl rfl ?_
  refine cm_getR (q := 17) dX7_readFist_14 flX7_15 rfl (by assumption) (by assumption) rfl ?_
  refine am_lload_n (q := 18) dX7_readFist_17 rfl rfl ?_
  refine cm_call0 (q := 21) (As := [_]) hG dX7_readFist_18 mlX7_101 rfl (by assumption) ⟨_, _, rfl⟩ (Nat.le_of_ble_eq_true rfl) (Nat.le_of_ble_eq_true rfl) (Nat.le_of_ble_eq_true rfl) (Nat.le_of_ble_eq_true rfl) (kb_fist hX h1) rfl ?_
  rintro _ _ ⟨rfl, rfl⟩
  refine am_if_lt (tgt := 28) (q := 24) dX7_readFist_21 rfl rfl (fun hc => ?_) (fun hc => ?_)
  · refine am_iconst (q := 29) (v := 0) dX7_readFist_28 kc_i0 rfl ?_
    exact s1 0 (bI_f (Int32.not_le.mpr hc)).symm
  · refine am_iconst (q := 25) (v := 1) dX7_readFist_24 kc_i1 rfl ?_
    refine am_goto (tgt := 29) dX7_readFist_25 rfl ?_
    exact s1 1 (bI_t (Int32.not_lt.mp hc)).symm
theorem k_X7_readRust (hG : okG G) (hX : RX S R x t c) (h : AbL I J x t c T b) : Fn G mX7_readRust 4 [vR x] (mw S I J R) (fun rr M1 => rr = none ∧ ∃ I1 J1, M1 = mw S I1 J1 R ∧ AbL I1 J1 x t c T (rdRust T b) ∧ OffX x c I I1 ∧ OffJc c J J1) := by
  obtain ⟨⟨hT, hx, hr, hxt⟩, hct, hr1, hxc, htc⟩ := id hX
  have kc := hct.1
  have s1 : ∀ I1 : Nat → Nat → Int32, AbL I1 J x t c T (BP b (rU0 T b)) → OffX x c I I1 → MW G mX7_readRust 4 17 [some (vR x), none, none, none, none] [] (mw S I1 J R) (fun f M1 => ∃ r, f = .inl r ∧ (r = none ∧ ∃ I1 J1, M1 = mw S I1 J1 R ∧ AbL I1 J1 x t c T (rdRust T b) ∧ OffX x c I I1 ∧ OffJc c J J1)) := by
    intro I1 h1 o1
    refine am_aload_n (q := 18) dX7_readRust_17 rfl rfl ?_
    refine am_sipush (q := 21) (v := 304) dX7_readRust_18 kc_s304 rfl ?_
    refine cm_call0 (q := 24) (As := [_]) hG dX7_readRust_21 mlX7_53 rfl (by assumption) ⟨_, _, rfl⟩ (Nat.le_of_ble_eq_true rfl) (Nat.le_of_ble_eq_true rfl) (Nat.le_of_ble_eq_true rfl) (Nat.le_of_ble_eq_true rfl) (kb_expect hG hX h1 (by decide)) rfl ?_
    rintro _ _ ⟨rfl, I2, rfl, h2, o2⟩
    refine am_aload_n (q := 25) dX7_readRust_24 rfl rfl ?_
    refine am_sipush (q := 28) (v := 305) dX7_readRust_25 kc_s305 rfl ?_
    refine cm_call0 (q := 31) (As := [_]) hG dX7_readRust_28 mlX7_53 rfl (by assumption) ⟨_, _, rfl⟩ (Nat.le_of_ble_eq_true rfl) (Nat.le_of_ble_eq_true rfl) (Nat.le_of_ble_eq_true rfl) (Nat.le_of_ble_eq_true rfl) (kb_expect hG hX h2 (by decide)) rfl ?_
    rintro _ _ ⟨rfl, I3, rfl, (h3 : AbL I3 J x t c T (BP b (rU1 T b))), o3⟩
    refine am_aload_n (q := 32) dX7_readRust_31 rfl rfl ?_
    refine am_aload_n (q := 33) dX7_readRust_32 rfl rfl ?_
    refine cm_getR (q := 36) dX7_readRust_33 flX7_15 rfl (by assumption) (by assumption) rfl ?_
    refine am_aload_n (q := 37) dX7_readRust_36 rfl rfl ?_
    refine cm_call0 (q := 40) (As := []) hG dX7_readRust_37 mlX7_57 rfl (by assumption) ⟨_, _, rfl⟩ (Nat.le_of_ble_eq_true rfl) (Nat.le_of_ble_eq_true rfl) (Nat.le_of_ble_eq_true rfl) (Nat.le_of_ble_eq_true rfl) (kb_value hG hX h3) rfl ?_
    rintro _ _ ⟨rfl, rfl⟩
    refine cm_call0 (q := 43) (As := [_]) hG dX7_readRust_40 mlX7_61 rfl (by assumption) ⟨_, _, rfl⟩ (Nat.le_of_ble_eq_true rfl) (Nat.le_of_ble_eq_true rfl) (Nat.le_of_ble_eq_true rfl) (Nat.le_of_ble_eq_true rfl) (kb_rail hX h3) rfl ?_
    rintro _ _ ⟨rfl, rfl⟩
    refine cm_call0 (q := 46) (As := [_]) hG dX7_readRust_43 mlX7_90 rfl (by assumption) ⟨_, _, rfl⟩ (Nat.le_of_ble_eq_true rfl) (Nat.le_of_ble_eq_true rfl) (Nat.le_of_ble_eq_true rfl) (Nat.le_of_ble_eq_true rfl) (kb_known hG hX h3) rfl ?_
    rintro _ _ ⟨rfl, I4, rfl, (h4 : AbL I4 J x t c T (BP b (rU2 T b))), o4⟩
    refine am_istore_n (q := 47) (ls1 := [_, _, _, _, _]) dX7_readRust_46 (Nat.le_of_ble_eq_true rfl) rfl rfl ?_
    refine am_aload_n (q := 48) dX7_readRust_47 rfl rfl ?_
    refine am_sipush (q := 51) (v := 306) dX7_readRust_48 kc_s306 rfl ?_
    refine am_iconst (q := 52) (v := 0) dX7_readRust_51 kc_i0 rfl ?_
    refine am_bipush (q := 54) (v := 99) dX7_readRust_52 kc_b99 rfl ?_
    refine cm_call0 (q := 57) (As := [_, _, _]) hG dX7_readRust_54 mlX7_74 rfl (by assumption) ⟨_, _, rfl⟩ (Nat.le_of_ble_eq_true rfl) (Nat.le_of_ble_eq_true rfl) (Nat.le_of_ble_eq_true rfl) (Nat.le_of_ble_eq_true rfl) (kb_num hG hX h4 (by decide)) rfl ?_
    rintro _ _ ⟨rfl, I5, rfl, (h5 : AbL I5 J x t c T (BP b (rU3 T b))), o5⟩
    refine am_istore_n (q := 58) (ls1 := [_, _, _, _, _]) dX7_readRust_57 (Nat.le_of_ble_eq_true rfl) rfl rfl ?_
    refine am_aload_n (q := 59) dX7_readRust_58 rfl rfl ?_
    refine am_iload_n (q := 60) dX7_readRust_59 rfl rfl ?_
    refine cm_call0 (q := 63) (As := [_]) hG dX7_readRust_60 mlX7_94 rfl (by assumption) ⟨_, _, rfl⟩ (Nat.le_of_ble_eq_true rfl) (Nat.le_of_ble_eq_true rfl) (Nat.le_of_ble_eq_true rfl) (Nat.le_of_ble_eq_true rfl) (kb_to hG hX h5) rfl ?_
    rintro _ _ ⟨rfl, I6, rfl, (h6 : AbL I6 J x t c T (BP b (rU4 T b))), o6⟩
    refine am_istore_n (q := 64) (ls1 := [_, _, _, _, _]) dX7_readRust_63 (Nat.le_of_ble_eq_true rfl) rfl rfl ?_
    refine am_aload_n (q := 65) dX7_readRust_64 rfl rfl ?_
    refine am_sipush (q := 68) (v := 308) dX7_readRust_65 kc_s308 rfl ?_
    refine am_iconst (q := 69) (v := 0) dX7_readRust_68 kc_i0 rfl ?_
    refine am_bipush (q := 71) (v := 9) dX7_readRust_69 kc_b9 rfl ?_
    refine cm_call0 (q := 74) (As := [_, _, _]) hG dX7_readRust_71 mlX7_74 rfl (by assumption) ⟨_, _, rfl⟩ (Nat.le_of_ble_eq_true rfl) (Nat.le_of_ble_eq_true rfl) (Nat.le_of_ble_eq_true rfl) (Nat.le_of_ble_eq_true rfl) (kb_num hG hX h6 (by decide)) rfl ?_
    rintro _ _ ⟨rfl, I7, rfl, (h7 : AbL I7 J x t c T (BP b (rU5 T b))), o7⟩
    refine am_istore (q := 76) (ls1 := [_, _, _, _, _]) dX7_readRust_74 (Nat.le_of_ble_eq_true rfl) rfl rfl ?_
    have e5 : I7 x 3 = (rU5 T b).2.1 := AbL.err h7
    have oo := (((((o1.tr o2).tr o3).tr o4).tr o5).tr o6).tr o7
    unfold rdRust
    refine am_aload_n (q := 77) dX7_readRust_76 rfl rfl ?_
    refine cm_getI (q := 80) dX7_readRust_77 flX7_26 rfl (by assumption) rfl ?_
    rw [e5]
    refine am_if_ne (tgt := 95) (q := 83) dX7_readRust_80 rfl rfl (fun hc => ?_) (fun hc => ?_)
    · rw [if_neg hc]
      exact am_ret dX7_readRust_95 rfl ⟨_, rfl, rfl, I7, J, rfl, h7, oo, OffJc.rf⟩
    · rw [if_pos hc]
      have gg : ¬ 12 ≤ b.u ∧ ∃ i, i < b.B.nR ∧ rUi T b = nI i := by
        have hd := hc
        unfold rU5 at hd
        obtain ⟨g1, _⟩ := pNum_0 hd
        unfold rU4 at g1
        obtain ⟨g2, _⟩ := pTo_0 g1
        unfold rU3 at g2
        obtain ⟨g3, _⟩ := pNum_0 g2
        unfold rU2 at g3
        obtain ⟨g4, _, g5, _⟩ := pKn_0 g3
        unfold rU1 at g4
        obtain ⟨g6, _⟩ := pEx_0 g4
        obtain ⟨g7, _⟩ := pEx_0 g6
        unfold rU0 at g7
        obtain ⟨g8, _⟩ := pIf_0 (by decide) g7
        obtain ⟨i, hi, ei, _⟩ := pIx_0 (i := rUi T b) rfl g5
        exact ⟨g8, i, hi, ei⟩
      clear hc
      obtain ⟨g8, i, hi, ei⟩ := gg
      have u8 : b.B.nR ≤ 4 := h.2.1.1.2
      have ei2 : fndJ b.nr (pV T (rU1 T b)) 0 b.B.nR = nI i := ei
      rw [ei2, ei, nI_clamp (show i < 2 ^ 31 by omega)]
      have hB5 : AbB I7 c b.B := h7.hB
      have hm5 : AbM I7 c b.B b.m := h7.hM
      refine am_aload_n (q := 84) dX7_readRust_83 rfl rfl ?_
      refine cm_getR (q := 87) dX7_readRust_84 flX7_15 rfl (by assumption) (by assumption) rfl ?_
      refine am_iload_n (q := 88) dX7_readRust_87 rfl rfl ?_
      refine am_iload_n (q := 89) dX7_readRust_88 rfl rfl ?_
      refine am_iload_n (q := 90) dX7_readRust_89 rfl rfl ?_
      refine am_iload (q := 92) dX7_readRust_90 rfl rfl ?_
      refine cm_call0 (q := 95) (As := [_, _, _, _]) hG dX7_readRust_92 mlX7_97 rfl (by assumption) ⟨_, _, rfl⟩ (Nat.le_of_ble_eq_true rfl) (Nat.le_of_ble_eq_true rfl) (Nat.le_of_ble_eq_true rfl) (Nat.le_of_ble_eq_true rfl) (k_X2_addRust hG hct hB5 hm5 hi) rfl ?_
      rintro _ _ ⟨rfl, I8, rfl, hB6, hm6, e9, oC, oc1, oc2, oc3⟩
      have e9' : I8 c 9 = nI (b.u + 1) := by rw [e9, h7.hU]; exact nI_1 b.u
      exact am_ret dX7_readRust_95 rfl ⟨_, rfl, rfl, I8, J, rfl, AbL.put (AbE.add hX h7.hE oC OffJc.rf oc1 oc2 oc3 hB6.cnt) hB6 hm6 e9' (Nat.lt_of_not_le g8) h7.hN.1 h7.hN.2.1 h7.hN.2.2, oo.tr oC.x, OffJc.rf⟩
  have e9 := h.2.2.2.1
  have u9 := h.2.2.2.2.1
  refine am_aload_n (q := 1) dX7_readRust_0 rfl rfl ?_
  refine cm_getR (q := 4) dX7_readRust_1 flX7_15 rfl (by assumption) (by assumption) rfl ?_
  refine cm_getI (q := 7) dX7_readRust_4 flX7_84 rfl (by assumption) rfl ?_
  rw [e9]
  refine am_bipush (q := 9) (v := 12) dX7_readRust_7 kc_b12 rfl ?_
  refine am_icmp_lt (tgt := 17) (q := 12) dX7_readRust_9 rfl rfl (fun hc => ?_) (fun hc => ?_)
  · refine s1 I ?_ OffX.rf
    unfold rU0
    rw [if_neg (Nat.not_le.mpr ((nI_ltI (b := 12) (by omega) (by decide)).mp hc))]
    exact h
  · refine am_aload_n (q := 13) dX7_readRust_12 rfl rfl ?_
    refine am_iconst (q := 14) (v := 4) dX7_readRust_13 kc_i4 rfl ?_
    refine cm_call0 (q := 17) (As := [_]) hG dX7_readRust_14 mlX7_87 rfl (by assumption) ⟨_, _, rfl⟩ (Nat.le_of_ble_eq_true rfl) (Nat.le_of_ble_eq_true rfl) (Nat.le_of_ble_eq_true rfl) (Nat.le_of_ble_eq_true rfl) (kb_blame (b := b) (s := b.P) hG hX h) rfl ?_
    rintro _ _ ⟨rfl, I1, rfl, h1, o1⟩
    refine s1 I1 ?_ o1
    unfold rU0
    rw [if_pos (Nat.not_lt.mp fun z => hc ((nI_ltI (b := 12) (by omega) (by decide)).mpr z))]
    exact h1
end Li

