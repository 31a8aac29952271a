section
-- ===== PART A: goes FIRST, ahead of the names: the tables' words, and 'selects' of the private methods out of them =====
/-- a private method of a class that the tables say can be made, by its rows of tables_1 -/
def lw_okq (q : MethodName × Nat) : Prop := (q.1.cls ≠ "java/lang/invoke/MethodHandle" ∧ q.1.cls ≠ "java/lang/invoke/VarHandle") ∧ Cond.instantiable q.1.cls q.2 ∈ tables_1 ∧ Cond.privateMethod q.1 ∈ tables_1 ∧ Cond.instanceMethod q.1 ∈ tables_1
theorem lw_p0 : lw_okq (⟨"BellHammer$Tokens", "readToken", "(LBellHammer$Tape;I)I"⟩, 5) := ⟨⟨by decide +kernel, by decide +kernel⟩, List.mem_of_getElem? (i := 53) (by decide +kernel), List.mem_of_getElem? (i := 484) (by decide +kernel), List.mem_of_getElem? (i := 485) (by decide +kernel)⟩
theorem lw_p1 : lw_okq (⟨"BellHammer$Tokens", "readWord", "(LBellHammer$Tape;I)I"⟩, 5) := ⟨⟨by decide +kernel, by decide +kernel⟩, List.mem_of_getElem? (i := 53) (by decide +kernel), List.mem_of_getElem? (i := 488) (by decide +kernel), List.mem_of_getElem? (i := 489) (by decide +kernel)⟩
theorem lw_p2 : lw_okq (⟨"BellHammer$Tokens", "kindOfWord", "(J)I"⟩, 5) := ⟨⟨by decide +kernel, by decide +kernel⟩, List.mem_of_getElem? (i := 53) (by decide +kernel), List.mem_of_getElem? (i := 498) (by decide +kernel), List.mem_of_getElem? (i := 499) (by decide +kernel)⟩
theorem lw_p3 : lw_okq (⟨"BellHammer$Tokens", "addToken", "(IIJ)V"⟩, 5) := ⟨⟨by decide +kernel, by decide +kernel⟩, List.mem_of_getElem? (i := 53) (by decide +kernel), List.mem_of_getElem? (i := 502) (by decide +kernel), List.mem_of_getElem? (i := 503) (by decide +kernel)⟩
theorem lw_p4 : lw_okq (⟨"BellHammer$Tokens", "readNumber", "(LBellHammer$Tape;I)I"⟩, 5) := ⟨⟨by decide +kernel, by decide +kernel⟩, List.mem_of_getElem? (i := 53) (by decide +kernel), List.mem_of_getElem? (i := 506) (by decide +kernel), List.mem_of_getElem? (i := 507) (by decide +kernel)⟩
theorem lw_p5 : lw_okq (⟨"BellHammer$Tokens", "readSymbol", "(ILBellHammer$Tape;I)I"⟩, 5) := ⟨⟨by decide +kernel, by decide +kernel⟩, List.mem_of_getElem? (i := 53) (by decide +kernel), List.mem_of_getElem? (i := 511) (by decide +kernel), List.mem_of_getElem? (i := 512) (by decide +kernel)⟩
theorem lw_p6 : lw_okq (⟨"BellHammer$Reader", "kind", "()I"⟩, 5) := ⟨⟨by decide +kernel, by decide +kernel⟩, List.mem_of_getElem? (i := 425) (by decide +kernel), List.mem_of_getElem? (i := 531) (by decide +kernel), List.mem_of_getElem? (i := 532) (by decide +kernel)⟩
theorem lw_p7 : lw_okq (⟨"BellHammer$Reader", "readLine", "()V"⟩, 5) := ⟨⟨by decide +kernel, by decide +kernel⟩, List.mem_of_getElem? (i := 425) (by decide +kernel), List.mem_of_getElem? (i := 539) (by decide +kernel), List.mem_of_getElem? (i := 540) (by decide +kernel)⟩
theorem lw_p8 : lw_okq (⟨"BellHammer$Reader", "readRail", "()V"⟩, 5) := ⟨⟨by decide +kernel, by decide +kernel⟩, List.mem_of_getElem? (i := 425) (by decide +kernel), List.mem_of_getElem? (i := 543) (by decide +kernel), List.mem_of_getElem? (i := 544) (by decide +kernel)⟩
theorem lw_p9 : lw_okq (⟨"BellHammer$Reader", "expect", "(I)V"⟩, 5) := ⟨⟨by decide +kernel, by decide +kernel⟩, List.mem_of_getElem? (i := 425) (by decide +kernel), List.mem_of_getElem? (i := 547) (by decide +kernel), List.mem_of_getElem? (i := 548) (by decide +kernel)⟩
theorem lw_p10 : lw_okq (⟨"BellHammer$Reader", "refuse", "()V"⟩, 5) := ⟨⟨by decide +kernel, by decide +kernel⟩, List.mem_of_getElem? (i := 425) (by decide +kernel), List.mem_of_getElem? (i := 551) (by decide +kernel), List.mem_of_getElem? (i := 552) (by decide +kernel)⟩
theorem lw_p11 : lw_okq (⟨"BellHammer$Reader", "value", "()J"⟩, 5) := ⟨⟨by decide +kernel, by decide +kernel⟩, List.mem_of_getElem? (i := 425) (by decide +kernel), List.mem_of_getElem? (i := 559) (by decide +kernel), List.mem_of_getElem? (i := 560) (by decide +kernel)⟩
theorem lw_p12 : lw_okq (⟨"BellHammer$Reader", "expectNewName", "(ZZ)V"⟩, 5) := ⟨⟨by decide +kernel, by decide +kernel⟩, List.mem_of_getElem? (i := 425) (by decide +kernel), List.mem_of_getElem? (i := 571) (by decide +kernel), List.mem_of_getElem? (i := 572) (by decide +kernel)⟩
theorem lw_p13 : lw_okq (⟨"BellHammer$Reader", "blame", "(I)V"⟩, 5) := ⟨⟨by decide +kernel, by decide +kernel⟩, List.mem_of_getElem? (i := 425) (by decide +kernel), List.mem_of_getElem? (i := 575) (by decide +kernel), List.mem_of_getElem? (i := 576) (by decide +kernel)⟩
theorem lw_p14 : lw_okq (⟨"BellHammer$Reader", "numberBehind", "(III)I"⟩, 5) := ⟨⟨by decide +kernel, by decide +kernel⟩, List.mem_of_getElem? (i := 425) (by decide +kernel), List.mem_of_getElem? (i := 579) (by decide +kernel), List.mem_of_getElem? (i := 580) (by decide +kernel)⟩
theorem lw_p15 : lw_okq (⟨"BellHammer$Reader", "readRust", "()V"⟩, 5) := ⟨⟨by decide +kernel, by decide +kernel⟩, List.mem_of_getElem? (i := 425) (by decide +kernel), List.mem_of_getElem? (i := 591) (by decide +kernel), List.mem_of_getElem? (i := 592) (by decide +kernel)⟩
def lw_privs_1 : List (MethodName × Nat) := [(⟨"BellHammer$Tokens", "readToken", "(LBellHammer$Tape;I)I"⟩, 5), (⟨"BellHammer$Tokens", "readWord", "(LBellHammer$Tape;I)I"⟩, 5), (⟨"BellHammer$Tokens", "kindOfWord", "(J)I"⟩, 5), (⟨"BellHammer$Tokens", "addToken", "(IIJ)V"⟩, 5), (⟨"BellHammer$Tokens", "readNumber", "(LBellHammer$Tape;I)I"⟩, 5), (⟨"BellHammer$Tokens", "readSymbol", "(ILBellHammer$Tape;I)I"⟩, 5), (⟨"BellHammer$Reader", "kind", "()I"⟩, 5), (⟨"BellHammer$Reader", "readLine", "()V"⟩, 5), (⟨"BellHammer$Reader", "readRail", "()V"⟩, 5), (⟨"BellHammer$Reader", "expect", "(I)V"⟩, 5), (⟨"BellHammer$Reader", "refuse", "()V"⟩, 5), (⟨"BellHammer$Reader", "value", "()J"⟩, 5), (⟨"BellHammer$Reader", "expectNewName", "(ZZ)V"⟩, 5), (⟨"BellHammer$Reader", "blame", "(I)V"⟩, 5), (⟨"BellHammer$Reader", "numberBehind", "(III)I"⟩, 5), (⟨"BellHammer$Reader", "readRust", "()V"⟩, 5)]
theorem lw_r1 : ∀ q ∈ lw_privs_1, lw_okq q := List.forall_mem_cons.mpr ⟨lw_p0, List.forall_mem_cons.mpr ⟨lw_p1, List.forall_mem_cons.mpr ⟨lw_p2, List.forall_mem_cons.mpr ⟨lw_p3, List.forall_mem_cons.mpr ⟨lw_p4, List.forall_mem_cons.mpr ⟨lw_p5, List.forall_mem_cons.mpr ⟨lw_p6, List.forall_mem_cons.mpr ⟨lw_p7, List.forall_mem_cons.mpr ⟨lw_p8, List.forall_mem_cons.mpr ⟨lw_p9, List.forall_mem_cons.mpr ⟨lw_p10, List.forall_mem_cons.mpr ⟨lw_p11, List.forall_mem_cons.mpr ⟨lw_p12, List.forall_mem_cons.mpr ⟨lw_p13, List.forall_mem_cons.mpr ⟨lw_p14, List.forall_mem_cons.mpr ⟨lw_p15, fun _ h => absurd h List.not_mem_nil⟩⟩⟩⟩⟩⟩⟩⟩⟩⟩⟩⟩⟩⟩⟩⟩
theorem lw_p16 : lw_okq (⟨"BellHammer$Reader", "knownName", "(I)I"⟩, 5) := ⟨⟨by decide +kernel, by decide +kernel⟩, List.mem_of_getElem? (i := 425) (by decide +kernel), List.mem_of_getElem? (i := 595) (by decide +kernel), List.mem_of_getElem? (i := 596) (by decide +kernel)⟩
theorem lw_p17 : lw_okq (⟨"BellHammer$Reader", "numberOfTo", "(I)I"⟩, 5) := ⟨⟨by decide +kernel, by decide +kernel⟩, List.mem_of_getElem? (i := 425) (by decide +kernel), List.mem_of_getElem? (i := 599) (by decide +kernel), List.mem_of_getElem? (i := 600) (by decide +kernel)⟩
theorem lw_p18 : lw_okq (⟨"BellHammer$Reader", "readFist", "()V"⟩, 5) := ⟨⟨by decide +kernel, by decide +kernel⟩, List.mem_of_getElem? (i := 425) (by decide +kernel), List.mem_of_getElem? (i := 616) (by decide +kernel), List.mem_of_getElem? (i := 617) (by decide +kernel)⟩
theorem lw_p19 : lw_okq (⟨"BellHammer$Reader", "readPrize", "()V"⟩, 5) := ⟨⟨by decide +kernel, by decide +kernel⟩, List.mem_of_getElem? (i := 425) (by decide +kernel), List.mem_of_getElem? (i := 632) (by decide +kernel), List.mem_of_getElem? (i := 633) (by decide +kernel)⟩
theorem lw_p20 : lw_okq (⟨"BellHammer$Reader", "readSum", "(I)V"⟩, 5) := ⟨⟨by decide +kernel, by decide +kernel⟩, List.mem_of_getElem? (i := 425) (by decide +kernel), List.mem_of_getElem? (i := 640) (by decide +kernel), List.mem_of_getElem? (i := 641) (by decide +kernel)⟩
theorem lw_p21 : lw_okq (⟨"BellHammer$Reader", "readProduct", "(I)V"⟩, 5) := ⟨⟨by decide +kernel, by decide +kernel⟩, List.mem_of_getElem? (i := 425) (by decide +kernel), List.mem_of_getElem? (i := 644) (by decide +kernel), List.mem_of_getElem? (i := 645) (by decide +kernel)⟩
theorem lw_p22 : lw_okq (⟨"BellHammer$Reader", "readValue", "(I)V"⟩, 5) := ⟨⟨by decide +kernel, by decide +kernel⟩, List.mem_of_getElem? (i := 425) (by decide +kernel), List.mem_of_getElem? (i := 648) (by decide +kernel), List.mem_of_getElem? (i := 649) (by decide +kernel)⟩
theorem lw_p23 : lw_okq (⟨"BellHammer$Reader", "readPlainValue", "(I)V"⟩, 5) := ⟨⟨by decide +kernel, by decide +kernel⟩, List.mem_of_getElem? (i := 425) (by decide +kernel), List.mem_of_getElem? (i := 652) (by decide +kernel), List.mem_of_getElem? (i := 653) (by decide +kernel)⟩
theorem lw_p24 : lw_okq (⟨"BellHammer$Reader", "readNamedValue", "(I)V"⟩, 5) := ⟨⟨by decide +kernel, by decide +kernel⟩, List.mem_of_getElem? (i := 425) (by decide +kernel), List.mem_of_getElem? (i := 660) (by decide +kernel), List.mem_of_getElem? (i := 661) (by decide +kernel)⟩
theorem lw_p25 : lw_okq (⟨"BellHammer$Reader", "indexOf", "(IJ)I"⟩, 5) := ⟨⟨by decide +kernel, by decide +kernel⟩, List.mem_of_getElem? (i := 425) (by decide +kernel), List.mem_of_getElem? (i := 664) (by decide +kernel), List.mem_of_getElem? (i := 665) (by decide +kernel)⟩
theorem lw_p26 : lw_okq (⟨"BellHammer$Reader", "goesDeeper", "(II)Z"⟩, 5) := ⟨⟨by decide +kernel, by decide +kernel⟩, List.mem_of_getElem? (i := 425) (by decide +kernel), List.mem_of_getElem? (i := 668) (by decide +kernel), List.mem_of_getElem? (i := 669) (by decide +kernel)⟩
theorem lw_p27 : lw_okq (⟨"BellHammer$Reader", "readPair", "(II)V"⟩, 5) := ⟨⟨by decide +kernel, by decide +kernel⟩, List.mem_of_getElem? (i := 425) (by decide +kernel), List.mem_of_getElem? (i := 672) (by decide +kernel), List.mem_of_getElem? (i := 673) (by decide +kernel)⟩
theorem lw_p28 : lw_okq (⟨"BellHammer$Reader", "readTest", "(I)V"⟩, 5) := ⟨⟨by decide +kernel, by decide +kernel⟩, List.mem_of_getElem? (i := 425) (by decide +kernel), List.mem_of_getElem? (i := 676) (by decide +kernel), List.mem_of_getElem? (i := 677) (by decide +kernel)⟩
theorem lw_p29 : lw_okq (⟨"BellHammer$Reader", "readBoth", "(I)V"⟩, 5) := ⟨⟨by decide +kernel, by decide +kernel⟩, List.mem_of_getElem? (i := 425) (by decide +kernel), List.mem_of_getElem? (i := 680) (by decide +kernel), List.mem_of_getElem? (i := 681) (by decide +kernel)⟩
theorem lw_p30 : lw_okq (⟨"BellHammer$Reader", "readSingle", "(I)V"⟩, 5) := ⟨⟨by decide +kernel, by decide +kernel⟩, List.mem_of_getElem? (i := 425) (by decide +kernel), List.mem_of_getElem? (i := 684) (by decide +kernel), List.mem_of_getElem? (i := 685) (by decide +kernel)⟩
theorem lw_p31 : lw_okq (⟨"BellHammer$Reader", "readComparison", "(I)V"⟩, 5) := ⟨⟨by decide +kernel, by decide +kernel⟩, List.mem_of_getElem? (i := 425) (by decide +kernel), List.mem_of_getElem? (i := 688) (by decide +kernel), List.mem_of_getElem? (i := 689) (by decide +kernel)⟩
def lw_privs_2 : List (MethodName × Nat) := [(⟨"BellHammer$Reader", "knownName", "(I)I"⟩, 5), (⟨"BellHammer$Reader", "numberOfTo", "(I)I"⟩, 5), (⟨"BellHammer$Reader", "readFist", "()V"⟩, 5), (⟨"BellHammer$Reader", "readPrize", "()V"⟩, 5), (⟨"BellHammer$Reader", "readSum", "(I)V"⟩, 5), (⟨"BellHammer$Reader", "readProduct", "(I)V"⟩, 5), (⟨"BellHammer$Reader", "readValue", "(I)V"⟩, 5), (⟨"BellHammer$Reader", "readPlainValue", "(I)V"⟩, 5), (⟨"BellHammer$Reader", "readNamedValue", "(I)V"⟩, 5), (⟨"BellHammer$Reader", "indexOf", "(IJ)I"⟩, 5), (⟨"BellHammer$Reader", "goesDeeper", "(II)Z"⟩, 5), (⟨"BellHammer$Reader", "readPair", "(II)V"⟩, 5), (⟨"BellHammer$Reader", "readTest", "(I)V"⟩, 5), (⟨"BellHammer$Reader", "readBoth", "(I)V"⟩, 5), (⟨"BellHammer$Reader", "readSingle", "(I)V"⟩, 5), (⟨"BellHammer$Reader", "readComparison", "(I)V"⟩, 5)]
theorem lw_r2 : ∀ q ∈ lw_privs_2, lw_okq q := List.forall_mem_cons.mpr ⟨lw_p16, List.forall_mem_cons.mpr ⟨lw_p17, List.forall_mem_cons.mpr ⟨lw_p18, List.forall_mem_cons.mpr ⟨lw_p19, List.forall_mem_cons.mpr ⟨lw_p20, List.forall_mem_cons.mpr ⟨lw_p21, List.forall_mem_cons.mpr ⟨lw_p22, List.forall_mem_cons.mpr ⟨lw_p23, List.forall_mem_cons.mpr ⟨lw_p24, List.forall_mem_cons.mpr ⟨lw_p25, List.forall_mem_cons.mpr ⟨lw_p26, List.forall_mem_cons.mpr ⟨lw_p27, List.forall_mem_cons.mpr ⟨lw_p28, List.forall_mem_cons.mpr ⟨lw_p29, List.forall_mem_cons.mpr ⟨lw_p30, List.forall_mem_cons.mpr ⟨lw_p31, fun _ h => absurd h List.not_mem_nil⟩⟩⟩⟩⟩⟩⟩⟩⟩⟩⟩⟩⟩⟩⟩⟩
theorem lw_p32 : lw_okq (⟨"BellHammer$Reader", "readTurn", "()V"⟩, 5) := ⟨⟨by decide +kernel, by decide +kernel⟩, List.mem_of_getElem? (i := 425) (by decide +kernel), List.mem_of_getElem? (i := 703) (by decide +kernel), List.mem_of_getElem? (i := 704) (by decide +kernel)⟩
theorem lw_p33 : lw_okq (⟨"BellHammer", "tellCount", "(I)I"⟩, 6) := ⟨⟨by decide +kernel, by decide +kernel⟩, List.mem_of_getElem? (i := 29) (by decide +kernel), List.mem_of_getElem? (i := 745) (by decide +kernel), List.mem_of_getElem? (i := 746) (by decide +kernel)⟩
theorem lw_p34 : lw_okq (⟨"BellHammer$Contest", "placeOfPurse", "(I)I"⟩, 19) := ⟨⟨by decide +kernel, by decide +kernel⟩, List.mem_of_getElem? (i := 136) (by decide +kernel), List.mem_of_getElem? (i := 774) (by decide +kernel), List.mem_of_getElem? (i := 775) (by decide +kernel)⟩
theorem lw_p35 : lw_okq (⟨"BellHammer$Code", "push", "(I)V"⟩, 5) := ⟨⟨by decide +kernel, by decide +kernel⟩, List.mem_of_getElem? (i := 142) (by decide +kernel), List.mem_of_getElem? (i := 790) (by decide +kernel), List.mem_of_getElem? (i := 791) (by decide +kernel)⟩
theorem lw_p36 : lw_okq (⟨"BellHammer$Code", "pop", "()I"⟩, 5) := ⟨⟨by decide +kernel, by decide +kernel⟩, List.mem_of_getElem? (i := 142) (by decide +kernel), List.mem_of_getElem? (i := 794) (by decide +kernel), List.mem_of_getElem? (i := 795) (by decide +kernel)⟩
theorem lw_p37 : lw_okq (⟨"BellHammer$Contest", "placeInRow", "(I)I"⟩, 19) := ⟨⟨by decide +kernel, by decide +kernel⟩, List.mem_of_getElem? (i := 136) (by decide +kernel), List.mem_of_getElem? (i := 819) (by decide +kernel), List.mem_of_getElem? (i := 820) (by decide +kernel)⟩
theorem lw_p38 : lw_okq (⟨"BellHammer$Contest", "isDue", "(LBellHammer$Turn;)Z"⟩, 19) := ⟨⟨by decide +kernel, by decide +kernel⟩, List.mem_of_getElem? (i := 136) (by decide +kernel), List.mem_of_getElem? (i := 823) (by decide +kernel), List.mem_of_getElem? (i := 824) (by decide +kernel)⟩
theorem lw_p39 : lw_okq (⟨"java/lang/Throwable", "fillInStackTrace", "(I)Ljava/lang/Throwable;"⟩, 6) := ⟨⟨by decide +kernel, by decide +kernel⟩, List.mem_of_getElem? (i := 878) (by decide +kernel), List.mem_of_getElem? (i := 876) (by decide +kernel), List.mem_of_getElem? (i := 877) (by decide +kernel)⟩
theorem lw_p40 : lw_okq (⟨"BellHammer$Flight", "move", "(LBellHammer$Rail;)V"⟩, 7) := ⟨⟨by decide +kernel, by decide +kernel⟩, List.mem_of_getElem? (i := 180) (by decide +kernel), List.mem_of_getElem? (i := 1029) (by decide +kernel), List.mem_of_getElem? (i := 1030) (by decide +kernel)⟩
theorem lw_p41 : lw_okq (⟨"BellHammer$Contest", "giveTo", "(LBellHammer$Fist;)V"⟩, 19) := ⟨⟨by decide +kernel, by decide +kernel⟩, List.mem_of_getElem? (i := 136) (by decide +kernel), List.mem_of_getElem? (i := 1041) (by decide +kernel), List.mem_of_getElem? (i := 1042) (by decide +kernel)⟩
theorem lw_p42 : lw_okq (⟨"BellHammer$Contest", "useElbows", "()V"⟩, 19) := ⟨⟨by decide +kernel, by decide +kernel⟩, List.mem_of_getElem? (i := 136) (by decide +kernel), List.mem_of_getElem? (i := 1070) (by decide +kernel), List.mem_of_getElem? (i := 1071) (by decide +kernel)⟩
theorem lw_p43 : lw_okq (⟨"BellHammer$Contest", "fistInRow", "(I)I"⟩, 19) := ⟨⟨by decide +kernel, by decide +kernel⟩, List.mem_of_getElem? (i := 136) (by decide +kernel), List.mem_of_getElem? (i := 1074) (by decide +kernel), List.mem_of_getElem? (i := 1075) (by decide +kernel)⟩
theorem lw_p44 : lw_okq (⟨"BellHammer$Contest", "takeTurns", "()V"⟩, 19) := ⟨⟨by decide +kernel, by decide +kernel⟩, List.mem_of_getElem? (i := 136) (by decide +kernel), List.mem_of_getElem? (i := 1078) (by decide +kernel), List.mem_of_getElem? (i := 1079) (by decide +kernel)⟩
theorem lw_p45 : lw_okq (⟨"BellHammer$Contest", "copyNumbers", "(LBellHammer$Contest;)V"⟩, 19) := ⟨⟨by decide +kernel, by decide +kernel⟩, List.mem_of_getElem? (i := 136) (by decide +kernel), List.mem_of_getElem? (i := 1163) (by decide +kernel), List.mem_of_getElem? (i := 1164) (by decide +kernel)⟩
theorem lw_p46 : lw_okq (⟨"BellHammerModel", "no", "(I)I"⟩, 25) := ⟨⟨by decide +kernel, by decide +kernel⟩, List.mem_of_getElem? (i := 1176) (by decide +kernel), List.mem_of_getElem? (i := 1382) (by decide +kernel), List.mem_of_getElem? (i := 1383) (by decide +kernel)⟩
theorem lw_p47 : lw_okq (⟨"BellHammerModel", "append", "(I)V"⟩, 25) := ⟨⟨by decide +kernel, by decide +kernel⟩, List.mem_of_getElem? (i := 1176) (by decide +kernel), List.mem_of_getElem? (i := 1386) (by decide +kernel), List.mem_of_getElem? (i := 1387) (by decide +kernel)⟩
def lw_privs_3 : List (MethodName × Nat) := [(⟨"BellHammer$Reader", "readTurn", "()V"⟩, 5), (⟨"BellHammer", "tellCount", "(I)I"⟩, 6), (⟨"BellHammer$Contest", "placeOfPurse", "(I)I"⟩, 19), (⟨"BellHammer$Code", "push", "(I)V"⟩, 5), (⟨"BellHammer$Code", "pop", "()I"⟩, 5), (⟨"BellHammer$Contest", "placeInRow", "(I)I"⟩, 19), (⟨"BellHammer$Contest", "isDue", "(LBellHammer$Turn;)Z"⟩, 19), (⟨"java/lang/Throwable", "fillInStackTrace", "(I)Ljava/lang/Throwable;"⟩, 6), (⟨"BellHammer$Flight", "move", "(LBellHammer$Rail;)V"⟩, 7), (⟨"BellHammer$Contest", "giveTo", "(LBellHammer$Fist;)V"⟩, 19), (⟨"BellHammer$Contest", "useElbows", "()V"⟩, 19), (⟨"BellHammer$Contest", "fistInRow", "(I)I"⟩, 19), (⟨"BellHammer$Contest", "takeTurns", "()V"⟩, 19), (⟨"BellHammer$Contest", "copyNumbers", "(LBellHammer$Contest;)V"⟩, 19), (⟨"BellHammerModel", "no", "(I)I"⟩, 25), (⟨"BellHammerModel", "append", "(I)V"⟩, 25)]
theorem lw_r3 : ∀ q ∈ lw_privs_3, lw_okq q := List.forall_mem_cons.mpr ⟨lw_p32, List.forall_mem_cons.mpr ⟨lw_p33, List.forall_mem_cons.mpr ⟨lw_p34, List.forall_mem_cons.mpr ⟨lw_p35, List.forall_mem_cons.mpr ⟨lw_p36, List.forall_mem_cons.mpr ⟨lw_p37, List.forall_mem_cons.mpr ⟨lw_p38, List.forall_mem_cons.mpr ⟨lw_p39, List.forall_mem_cons.mpr ⟨lw_p40, List.forall_mem_cons.mpr ⟨lw_p41, List.forall_mem_cons.mpr ⟨lw_p42, List.forall_mem_cons.mpr ⟨lw_p43, List.forall_mem_cons.mpr ⟨lw_p44, List.forall_mem_cons.mpr ⟨lw_p45, List.forall_mem_cons.mpr ⟨lw_p46, List.forall_mem_cons.mpr ⟨lw_p47, fun _ h => absurd h List.not_mem_nil⟩⟩⟩⟩⟩⟩⟩⟩⟩⟩⟩⟩⟩⟩⟩⟩
theorem lw_p48 : lw_okq (⟨"BellHammerModel", "split", "()V"⟩, 25) := ⟨⟨by decide +kernel, by decide +kernel⟩, List.mem_of_getElem? (i := 1176) (by decide +kernel), List.mem_of_getElem? (i := 1401) (by decide +kernel), List.mem_of_getElem? (i := 1402) (by decide +kernel)⟩
theorem lw_p49 : lw_okq (⟨"BellHammerModel", "byteAt", "(I)I"⟩, 25) := ⟨⟨by decide +kernel, by decide +kernel⟩, List.mem_of_getElem? (i := 1176) (by decide +kernel), List.mem_of_getElem? (i := 1405) (by decide +kernel), List.mem_of_getElem? (i := 1406) (by decide +kernel)⟩
theorem lw_p50 : lw_okq (⟨"BellHammerModel", "read", "(II)V"⟩, 25) := ⟨⟨by decide +kernel, by decide +kernel⟩, List.mem_of_getElem? (i := 1176) (by decide +kernel), List.mem_of_getElem? (i := 1409) (by decide +kernel), List.mem_of_getElem? (i := 1410) (by decide +kernel)⟩
theorem lw_p51 : lw_okq (⟨"BellHammerModel", "readWord", "(II)V"⟩, 25) := ⟨⟨by decide +kernel, by decide +kernel⟩, List.mem_of_getElem? (i := 1176) (by decide +kernel), List.mem_of_getElem? (i := 1416) (by decide +kernel), List.mem_of_getElem? (i := 1417) (by decide +kernel)⟩
theorem lw_p52 : lw_okq (⟨"BellHammerModel", "isWord", "(IILjava/lang/String;)Z"⟩, 25) := ⟨⟨by decide +kernel, by decide +kernel⟩, List.mem_of_getElem? (i := 1176) (by decide +kernel), List.mem_of_getElem? (i := 1425) (by decide +kernel), List.mem_of_getElem? (i := 1426) (by decide +kernel)⟩
theorem lw_p53 : lw_okq (⟨"BellHammerModel", "readNumber", "(II)V"⟩, 25) := ⟨⟨by decide +kernel, by decide +kernel⟩, List.mem_of_getElem? (i := 1176) (by decide +kernel), List.mem_of_getElem? (i := 1431) (by decide +kernel), List.mem_of_getElem? (i := 1432) (by decide +kernel)⟩
theorem lw_p54 : lw_okq (⟨"BellHammerModel", "isOk", "()Z"⟩, 25) := ⟨⟨by decide +kernel, by decide +kernel⟩, List.mem_of_getElem? (i := 1176) (by decide +kernel), List.mem_of_getElem? (i := 1439) (by decide +kernel), List.mem_of_getElem? (i := 1440) (by decide +kernel)⟩
theorem lw_p55 : lw_okq (⟨"BellHammerModel", "line", "()V"⟩, 25) := ⟨⟨by decide +kernel, by decide +kernel⟩, List.mem_of_getElem? (i := 1176) (by decide +kernel), List.mem_of_getElem? (i := 1443) (by decide +kernel), List.mem_of_getElem? (i := 1444) (by decide +kernel)⟩
theorem lw_p56 : lw_okq (⟨"BellHammerModel", "is", "(II)Z"⟩, 25) := ⟨⟨by decide +kernel, by decide +kernel⟩, List.mem_of_getElem? (i := 1176) (by decide +kernel), List.mem_of_getElem? (i := 1447) (by decide +kernel), List.mem_of_getElem? (i := 1448) (by decide +kernel)⟩
theorem lw_p57 : lw_okq (⟨"BellHammerModel", "readRail", "()V"⟩, 25) := ⟨⟨by decide +kernel, by decide +kernel⟩, List.mem_of_getElem? (i := 1176) (by decide +kernel), List.mem_of_getElem? (i := 1451) (by decide +kernel), List.mem_of_getElem? (i := 1452) (by decide +kernel)⟩
theorem lw_p58 : lw_okq (⟨"BellHammerModel", "fresh", "([III)I"⟩, 25) := ⟨⟨by decide +kernel, by decide +kernel⟩, List.mem_of_getElem? (i := 1176) (by decide +kernel), List.mem_of_getElem? (i := 1455) (by decide +kernel), List.mem_of_getElem? (i := 1456) (by decide +kernel)⟩
theorem lw_p59 : lw_okq (⟨"BellHammerModel", "name", "()I"⟩, 25) := ⟨⟨by decide +kernel, by decide +kernel⟩, List.mem_of_getElem? (i := 1176) (by decide +kernel), List.mem_of_getElem? (i := 1459) (by decide +kernel), List.mem_of_getElem? (i := 1460) (by decide +kernel)⟩
theorem lw_p60 : lw_okq (⟨"BellHammerModel", "fail", "()V"⟩, 25) := ⟨⟨by decide +kernel, by decide +kernel⟩, List.mem_of_getElem? (i := 1176) (by decide +kernel), List.mem_of_getElem? (i := 1463) (by decide +kernel), List.mem_of_getElem? (i := 1464) (by decide +kernel)⟩
theorem lw_p61 : lw_okq (⟨"BellHammerModel", "find", "([III)I"⟩, 25) := ⟨⟨by decide +kernel, by decide +kernel⟩, List.mem_of_getElem? (i := 1176) (by decide +kernel), List.mem_of_getElem? (i := 1467) (by decide +kernel), List.mem_of_getElem? (i := 1468) (by decide +kernel)⟩
theorem lw_p62 : lw_okq (⟨"BellHammerModel", "isSame", "(II)Z"⟩, 25) := ⟨⟨by decide +kernel, by decide +kernel⟩, List.mem_of_getElem? (i := 1176) (by decide +kernel), List.mem_of_getElem? (i := 1471) (by decide +kernel), List.mem_of_getElem? (i := 1472) (by decide +kernel)⟩
theorem lw_p63 : lw_okq (⟨"BellHammerModel", "tell", "(II)V"⟩, 25) := ⟨⟨by decide +kernel, by decide +kernel⟩, List.mem_of_getElem? (i := 1176) (by decide +kernel), List.mem_of_getElem? (i := 1475) (by decide +kernel), List.mem_of_getElem? (i := 1476) (by decide +kernel)⟩
def lw_privs_4 : List (MethodName × Nat) := [(⟨"BellHammerModel", "split", "()V"⟩, 25), (⟨"BellHammerModel", "byteAt", "(I)I"⟩, 25), (⟨"BellHammerModel", "read", "(II)V"⟩, 25), (⟨"BellHammerModel", "readWord", "(II)V"⟩, 25), (⟨"BellHammerModel", "isWord", "(IILjava/lang/String;)Z"⟩, 25), (⟨"BellHammerModel", "readNumber", "(II)V"⟩, 25), (⟨"BellHammerModel", "isOk", "()Z"⟩, 25), (⟨"BellHammerModel", "line", "()V"⟩, 25), (⟨"BellHammerModel", "is", "(II)Z"⟩, 25), (⟨"BellHammerModel", "readRail", "()V"⟩, 25), (⟨"BellHammerModel", "fresh", "([III)I"⟩, 25), (⟨"BellHammerModel", "name", "()I"⟩, 25), (⟨"BellHammerModel", "fail", "()V"⟩, 25), (⟨"BellHammerModel", "find", "([III)I"⟩, 25), (⟨"BellHammerModel", "isSame", "(II)Z"⟩, 25), (⟨"BellHammerModel", "tell", "(II)V"⟩, 25)]
theorem lw_r4 : ∀ q ∈ lw_privs_4, lw_okq q := List.forall_mem_cons.mpr ⟨lw_p48, List.forall_mem_cons.mpr ⟨lw_p49, List.forall_mem_cons.mpr ⟨lw_p50, List.forall_mem_cons.mpr ⟨lw_p51, List.forall_mem_cons.mpr ⟨lw_p52, List.forall_mem_cons.mpr ⟨lw_p53, List.forall_mem_cons.mpr ⟨lw_p54, List.forall_mem_cons.mpr ⟨lw_p55, List.forall_mem_cons.mpr ⟨lw_p56, List.forall_mem_cons.mpr ⟨lw_p57, List.forall_mem_cons.mpr ⟨lw_p58, List.forall_mem_cons.mpr ⟨lw_p59, List.forall_mem_cons.mpr ⟨lw_p60, List.forall_mem_cons.mpr ⟨lw_p61, List.forall_mem_cons.mpr ⟨lw_p62, List.forall_mem_cons.mpr ⟨lw_p63, fun _ h => absurd h List.not_mem_nil⟩⟩⟩⟩⟩⟩⟩⟩⟩⟩⟩⟩⟩⟩⟩⟩
theorem lw_p64 : lw_okq (⟨"BellHammerModel", "number", "(III)I"⟩, 25) := ⟨⟨by decide +kernel, by decide +kernel⟩, List.mem_of_getElem? (i := 1176) (by decide +kernel), List.mem_of_getElem? (i := 1479) (by decide +kernel), List.mem_of_getElem? (i := 1480) (by decide +kernel)⟩
theorem lw_p65 : lw_okq (⟨"BellHammerModel", "take", "(II)V"⟩, 25) := ⟨⟨by decide +kernel, by decide +kernel⟩, List.mem_of_getElem? (i := 1176) (by decide +kernel), List.mem_of_getElem? (i := 1483) (by decide +kernel), List.mem_of_getElem? (i := 1484) (by decide +kernel)⟩
theorem lw_p66 : lw_okq (⟨"BellHammerModel", "number", "(II)I"⟩, 25) := ⟨⟨by decide +kernel, by decide +kernel⟩, List.mem_of_getElem? (i := 1176) (by decide +kernel), List.mem_of_getElem? (i := 1487) (by decide +kernel), List.mem_of_getElem? (i := 1488) (by decide +kernel)⟩
theorem lw_p67 : lw_okq (⟨"BellHammerModel", "readRust", "()V"⟩, 25) := ⟨⟨by decide +kernel, by decide +kernel⟩, List.mem_of_getElem? (i := 1176) (by decide +kernel), List.mem_of_getElem? (i := 1494) (by decide +kernel), List.mem_of_getElem? (i := 1495) (by decide +kernel)⟩
theorem lw_p68 : lw_okq (⟨"BellHammerModel", "known", "([II)I"⟩, 25) := ⟨⟨by decide +kernel, by decide +kernel⟩, List.mem_of_getElem? (i := 1176) (by decide +kernel), List.mem_of_getElem? (i := 1498) (by decide +kernel), List.mem_of_getElem? (i := 1499) (by decide +kernel)⟩
theorem lw_p69 : lw_okq (⟨"BellHammerModel", "readFist", "()V"⟩, 25) := ⟨⟨by decide +kernel, by decide +kernel⟩, List.mem_of_getElem? (i := 1176) (by decide +kernel), List.mem_of_getElem? (i := 1502) (by decide +kernel), List.mem_of_getElem? (i := 1503) (by decide +kernel)⟩
theorem lw_p70 : lw_okq (⟨"BellHammerModel", "readPrize", "()V"⟩, 25) := ⟨⟨by decide +kernel, by decide +kernel⟩, List.mem_of_getElem? (i := 1176) (by decide +kernel), List.mem_of_getElem? (i := 1506) (by decide +kernel), List.mem_of_getElem? (i := 1507) (by decide +kernel)⟩
theorem lw_p71 : lw_okq (⟨"BellHammerModel", "sum", "()I"⟩, 25) := ⟨⟨by decide +kernel, by decide +kernel⟩, List.mem_of_getElem? (i := 1176) (by decide +kernel), List.mem_of_getElem? (i := 1510) (by decide +kernel), List.mem_of_getElem? (i := 1511) (by decide +kernel)⟩
theorem lw_p72 : lw_okq (⟨"BellHammerModel", "product", "()I"⟩, 25) := ⟨⟨by decide +kernel, by decide +kernel⟩, List.mem_of_getElem? (i := 1176) (by decide +kernel), List.mem_of_getElem? (i := 1514) (by decide +kernel), List.mem_of_getElem? (i := 1515) (by decide +kernel)⟩
theorem lw_p73 : lw_okq (⟨"BellHammerModel", "one", "()I"⟩, 25) := ⟨⟨by decide +kernel, by decide +kernel⟩, List.mem_of_getElem? (i := 1176) (by decide +kernel), List.mem_of_getElem? (i := 1518) (by decide +kernel), List.mem_of_getElem? (i := 1519) (by decide +kernel)⟩
theorem lw_p74 : lw_okq (⟨"BellHammerModel", "named", "([II)I"⟩, 25) := ⟨⟨by decide +kernel, by decide +kernel⟩, List.mem_of_getElem? (i := 1176) (by decide +kernel), List.mem_of_getElem? (i := 1527) (by decide +kernel), List.mem_of_getElem? (i := 1528) (by decide +kernel)⟩
theorem lw_p75 : lw_okq (⟨"BellHammerModel", "deeper", "()V"⟩, 25) := ⟨⟨by decide +kernel, by decide +kernel⟩, List.mem_of_getElem? (i := 1176) (by decide +kernel), List.mem_of_getElem? (i := 1531) (by decide +kernel), List.mem_of_getElem? (i := 1532) (by decide +kernel)⟩
theorem lw_p76 : lw_okq (⟨"BellHammerModel", "inner", "()I"⟩, 25) := ⟨⟨by decide +kernel, by decide +kernel⟩, List.mem_of_getElem? (i := 1176) (by decide +kernel), List.mem_of_getElem? (i := 1535) (by decide +kernel), List.mem_of_getElem? (i := 1536) (by decide +kernel)⟩
theorem lw_p77 : lw_okq (⟨"BellHammerModel", "both", "(I)I"⟩, 25) := ⟨⟨by decide +kernel, by decide +kernel⟩, List.mem_of_getElem? (i := 1176) (by decide +kernel), List.mem_of_getElem? (i := 1539) (by decide +kernel), List.mem_of_getElem? (i := 1540) (by decide +kernel)⟩
theorem lw_p78 : lw_okq (⟨"BellHammerModel", "test", "()I"⟩, 25) := ⟨⟨by decide +kernel, by decide +kernel⟩, List.mem_of_getElem? (i := 1176) (by decide +kernel), List.mem_of_getElem? (i := 1543) (by decide +kernel), List.mem_of_getElem? (i := 1544) (by decide +kernel)⟩
theorem lw_p79 : lw_okq (⟨"BellHammerModel", "pair", "()I"⟩, 25) := ⟨⟨by decide +kernel, by decide +kernel⟩, List.mem_of_getElem? (i := 1176) (by decide +kernel), List.mem_of_getElem? (i := 1547) (by decide +kernel), List.mem_of_getElem? (i := 1548) (by decide +kernel)⟩
def lw_privs_5 : List (MethodName × Nat) := [(⟨"BellHammerModel", "number", "(III)I"⟩, 25), (⟨"BellHammerModel", "take", "(II)V"⟩, 25), (⟨"BellHammerModel", "number", "(II)I"⟩, 25), (⟨"BellHammerModel", "readRust", "()V"⟩, 25), (⟨"BellHammerModel", "known", "([II)I"⟩, 25), (⟨"BellHammerModel", "readFist", "()V"⟩, 25), (⟨"BellHammerModel", "readPrize", "()V"⟩, 25), (⟨"BellHammerModel", "sum", "()I"⟩, 25), (⟨"BellHammerModel", "product", "()I"⟩, 25), (⟨"BellHammerModel", "one", "()I"⟩, 25), (⟨"BellHammerModel", "named", "([II)I"⟩, 25), (⟨"BellHammerModel", "deeper", "()V"⟩, 25), (⟨"BellHammerModel", "inner", "()I"⟩, 25), (⟨"BellHammerModel", "both", "(I)I"⟩, 25), (⟨"BellHammerModel", "test", "()I"⟩, 25), (⟨"BellHammerModel", "pair", "()I"⟩, 25)]
theorem lw_r5 : ∀ q ∈ lw_privs_5, lw_okq q := List.forall_mem_cons.mpr ⟨lw_p64, List.forall_mem_cons.mpr ⟨lw_p65, List.forall_mem_cons.mpr ⟨lw_p66, List.forall_mem_cons.mpr ⟨lw_p67, List.forall_mem_cons.mpr ⟨lw_p68, List.forall_mem_cons.mpr ⟨lw_p69, List.forall_mem_cons.mpr ⟨lw_p70, List.forall_mem_cons.mpr ⟨lw_p71, List.forall_mem_cons.mpr ⟨lw_p72, List.forall_mem_cons.mpr ⟨lw_p73, List.forall_mem_cons.mpr ⟨lw_p74, List.forall_mem_cons.mpr ⟨lw_p75, List.forall_mem_cons.mpr ⟨lw_p76, List.forall_mem_cons.mpr ⟨lw_p77, List.forall_mem_cons.mpr ⟨lw_p78, List.forall_mem_cons.mpr ⟨lw_p79, fun _ h => absurd h List.not_mem_nil⟩⟩⟩⟩⟩⟩⟩⟩⟩⟩⟩⟩⟩⟩⟩⟩
theorem lw_p80 : lw_okq (⟨"BellHammerModel", "single", "()I"⟩, 25) := ⟨⟨by decide +kernel, by decide +kernel⟩, List.mem_of_getElem? (i := 1176) (by decide +kernel), List.mem_of_getElem? (i := 1551) (by decide +kernel), List.mem_of_getElem? (i := 1552) (by decide +kernel)⟩
theorem lw_p81 : lw_okq (⟨"BellHammerModel", "readTurn", "()V"⟩, 25) := ⟨⟨by decide +kernel, by decide +kernel⟩, List.mem_of_getElem? (i := 1176) (by decide +kernel), List.mem_of_getElem? (i := 1555) (by decide +kernel), List.mem_of_getElem? (i := 1556) (by decide +kernel)⟩
theorem lw_p82 : lw_okq (⟨"BellHammerModel", "begin", "()V"⟩, 25) := ⟨⟨by decide +kernel, by decide +kernel⟩, List.mem_of_getElem? (i := 1176) (by decide +kernel), List.mem_of_getElem? (i := 1559) (by decide +kernel), List.mem_of_getElem? (i := 1560) (by decide +kernel)⟩
theorem lw_p83 : lw_okq (⟨"BellHammerModel", "counted", "(I)I"⟩, 25) := ⟨⟨by decide +kernel, by decide +kernel⟩, List.mem_of_getElem? (i := 1176) (by decide +kernel), List.mem_of_getElem? (i := 1575) (by decide +kernel), List.mem_of_getElem? (i := 1576) (by decide +kernel)⟩
theorem lw_p84 : lw_okq (⟨"BellHammerModel", "purses", "(LBellHammerModel$State;)I"⟩, 25) := ⟨⟨by decide +kernel, by decide +kernel⟩, List.mem_of_getElem? (i := 1176) (by decide +kernel), List.mem_of_getElem? (i := 1579) (by decide +kernel), List.mem_of_getElem? (i := 1580) (by decide +kernel)⟩
theorem lw_p85 : lw_okq (⟨"BellHammerModel", "isRail", "(I)Z"⟩, 25) := ⟨⟨by decide +kernel, by decide +kernel⟩, List.mem_of_getElem? (i := 1176) (by decide +kernel), List.mem_of_getElem? (i := 1587) (by decide +kernel), List.mem_of_getElem? (i := 1588) (by decide +kernel)⟩
theorem lw_p86 : lw_okq (⟨"BellHammerModel", "railTold", "(II)I"⟩, 25) := ⟨⟨by decide +kernel, by decide +kernel⟩, List.mem_of_getElem? (i := 1176) (by decide +kernel), List.mem_of_getElem? (i := 1591) (by decide +kernel), List.mem_of_getElem? (i := 1592) (by decide +kernel)⟩
theorem lw_p87 : lw_okq (⟨"BellHammerModel", "isFist", "(I)Z"⟩, 25) := ⟨⟨by decide +kernel, by decide +kernel⟩, List.mem_of_getElem? (i := 1176) (by decide +kernel), List.mem_of_getElem? (i := 1599) (by decide +kernel), List.mem_of_getElem? (i := 1600) (by decide +kernel)⟩
theorem lw_p88 : lw_okq (⟨"BellHammerModel", "fistTold", "(II)I"⟩, 25) := ⟨⟨by decide +kernel, by decide +kernel⟩, List.mem_of_getElem? (i := 1176) (by decide +kernel), List.mem_of_getElem? (i := 1603) (by decide +kernel), List.mem_of_getElem? (i := 1604) (by decide +kernel)⟩
theorem lw_p89 : lw_okq (⟨"BellHammerModel", "placeOf", "(I)I"⟩, 25) := ⟨⟨by decide +kernel, by decide +kernel⟩, List.mem_of_getElem? (i := 1176) (by decide +kernel), List.mem_of_getElem? (i := 1607) (by decide +kernel), List.mem_of_getElem? (i := 1608) (by decide +kernel)⟩
theorem lw_p90 : lw_okq (⟨"BellHammerModel", "prizeTold", "(II)I"⟩, 25) := ⟨⟨by decide +kernel, by decide +kernel⟩, List.mem_of_getElem? (i := 1176) (by decide +kernel), List.mem_of_getElem? (i := 1615) (by decide +kernel), List.mem_of_getElem? (i := 1616) (by decide +kernel)⟩
theorem lw_p91 : lw_okq (⟨"BellHammerModel", "reckon", "(LBellHammerModel$State;I)I"⟩, 25) := ⟨⟨by decide +kernel, by decide +kernel⟩, List.mem_of_getElem? (i := 1176) (by decide +kernel), List.mem_of_getElem? (i := 1619) (by decide +kernel), List.mem_of_getElem? (i := 1620) (by decide +kernel)⟩
theorem lw_p92 : lw_okq (⟨"BellHammerModel", "holds", "(LBellHammerModel$State;I)Z"⟩, 25) := ⟨⟨by decide +kernel, by decide +kernel⟩, List.mem_of_getElem? (i := 1176) (by decide +kernel), List.mem_of_getElem? (i := 1632) (by decide +kernel), List.mem_of_getElem? (i := 1633) (by decide +kernel)⟩
theorem lw_p93 : lw_okq (⟨"BellHammerModel", "turnTold", "(II)I"⟩, 25) := ⟨⟨by decide +kernel, by decide +kernel⟩, List.mem_of_getElem? (i := 1176) (by decide +kernel), List.mem_of_getElem? (i := 1640) (by decide +kernel), List.mem_of_getElem? (i := 1641) (by decide +kernel)⟩
theorem lw_p94 : lw_okq (⟨"BellHammerModel", "isOn", "(LBellHammerModel$State;I)Z"⟩, 25) := ⟨⟨by decide +kernel, by decide +kernel⟩, List.mem_of_getElem? (i := 1176) (by decide +kernel), List.mem_of_getElem? (i := 1644) (by decide +kernel), List.mem_of_getElem? (i := 1645) (by decide +kernel)⟩
theorem lw_p95 : lw_okq (⟨"BellHammerModel", "strike", "(LBellHammerModel$State;II)V"⟩, 25) := ⟨⟨by decide +kernel, by decide +kernel⟩, List.mem_of_getElem? (i := 1176) (by decide +kernel), List.mem_of_getElem? (i := 1656) (by decide +kernel), List.mem_of_getElem? (i := 1657) (by decide +kernel)⟩
def lw_privs_6 : List (MethodName × Nat) := [(⟨"BellHammerModel", "single", "()I"⟩, 25), (⟨"BellHammerModel", "readTurn", "()V"⟩, 25), (⟨"BellHammerModel", "begin", "()V"⟩, 25), (⟨"BellHammerModel", "counted", "(I)I"⟩, 25), (⟨"BellHammerModel", "purses", "(LBellHammerModel$State;)I"⟩, 25), (⟨"BellHammerModel", "isRail", "(I)Z"⟩, 25), (⟨"BellHammerModel", "railTold", "(II)I"⟩, 25), (⟨"BellHammerModel", "isFist", "(I)Z"⟩, 25), (⟨"BellHammerModel", "fistTold", "(II)I"⟩, 25), (⟨"BellHammerModel", "placeOf", "(I)I"⟩, 25), (⟨"BellHammerModel", "prizeTold", "(II)I"⟩, 25), (⟨"BellHammerModel", "reckon", "(LBellHammerModel$State;I)I"⟩, 25), (⟨"BellHammerModel", "holds", "(LBellHammerModel$State;I)Z"⟩, 25), (⟨"BellHammerModel", "turnTold", "(II)I"⟩, 25), (⟨"BellHammerModel", "isOn", "(LBellHammerModel$State;I)Z"⟩, 25), (⟨"BellHammerModel", "strike", "(LBellHammerModel$State;II)V"⟩, 25)]
theorem lw_r6 : ∀ q ∈ lw_privs_6, lw_okq q := List.forall_mem_cons.mpr ⟨lw_p80, List.forall_mem_cons.mpr ⟨lw_p81, List.forall_mem_cons.mpr ⟨lw_p82, List.forall_mem_cons.mpr ⟨lw_p83, List.forall_mem_cons.mpr ⟨lw_p84, List.forall_mem_cons.mpr ⟨lw_p85, List.forall_mem_cons.mpr ⟨lw_p86, List.forall_mem_cons.mpr ⟨lw_p87, List.forall_mem_cons.mpr ⟨lw_p88, List.forall_mem_cons.mpr ⟨lw_p89, List.forall_mem_cons.mpr ⟨lw_p90, List.forall_mem_cons.mpr ⟨lw_p91, List.forall_mem_cons.mpr ⟨lw_p92, List.forall_mem_cons.mpr ⟨lw_p93, List.forall_mem_cons.mpr ⟨lw_p94, List.forall_mem_cons.mpr ⟨lw_p95, fun _ h => absurd h List.not_mem_nil⟩⟩⟩⟩⟩⟩⟩⟩⟩⟩⟩⟩⟩⟩⟩⟩
theorem lw_p96 : lw_okq (⟨"BellHammerModel", "fly", "(LBellHammerModel$State;III)V"⟩, 25) := ⟨⟨by decide +kernel, by decide +kernel⟩, List.mem_of_getElem? (i := 1176) (by decide +kernel), List.mem_of_getElem? (i := 1660) (by decide +kernel), List.mem_of_getElem? (i := 1661) (by decide +kernel)⟩
theorem lw_p97 : lw_okq (⟨"BellHammerModel", "rustAt", "(II)I"⟩, 25) := ⟨⟨by decide +kernel, by decide +kernel⟩, List.mem_of_getElem? (i := 1176) (by decide +kernel), List.mem_of_getElem? (i := 1664) (by decide +kernel), List.mem_of_getElem? (i := 1665) (by decide +kernel)⟩
theorem lw_p98 : lw_okq (⟨"BellHammerModel", "reward", "(LBellHammerModel$State;I)V"⟩, 25) := ⟨⟨by decide +kernel, by decide +kernel⟩, List.mem_of_getElem? (i := 1176) (by decide +kernel), List.mem_of_getElem? (i := 1668) (by decide +kernel), List.mem_of_getElem? (i := 1669) (by decide +kernel)⟩
theorem lw_p99 : lw_okq (⟨"BellHammerModel", "given", "(LBellHammerModel$State;)I"⟩, 25) := ⟨⟨by decide +kernel, by decide +kernel⟩, List.mem_of_getElem? (i := 1176) (by decide +kernel), List.mem_of_getElem? (i := 1680) (by decide +kernel), List.mem_of_getElem? (i := 1681) (by decide +kernel)⟩
theorem lw_p100 : lw_okq (⟨"BellHammerModel", "rounds", "(LBellHammerModel$State;I)V"⟩, 25) := ⟨⟨by decide +kernel, by decide +kernel⟩, List.mem_of_getElem? (i := 1176) (by decide +kernel), List.mem_of_getElem? (i := 1684) (by decide +kernel), List.mem_of_getElem? (i := 1685) (by decide +kernel)⟩
theorem lw_p101 : lw_okq (⟨"BellHammerModel", "round", "(LBellHammerModel$State;)V"⟩, 25) := ⟨⟨by decide +kernel, by decide +kernel⟩, List.mem_of_getElem? (i := 1176) (by decide +kernel), List.mem_of_getElem? (i := 1688) (by decide +kernel), List.mem_of_getElem? (i := 1689) (by decide +kernel)⟩
theorem lw_p102 : lw_okq (⟨"BellHammerModel", "push", "(LBellHammerModel$State;)V"⟩, 25) := ⟨⟨by decide +kernel, by decide +kernel⟩, List.mem_of_getElem? (i := 1176) (by decide +kernel), List.mem_of_getElem? (i := 1692) (by decide +kernel), List.mem_of_getElem? (i := 1693) (by decide +kernel)⟩
theorem lw_p103 : lw_okq (⟨"BellHammerModel", "elbowsAt", "(LBellHammerModel$State;I)I"⟩, 25) := ⟨⟨by decide +kernel, by decide +kernel⟩, List.mem_of_getElem? (i := 1176) (by decide +kernel), List.mem_of_getElem? (i := 1696) (by decide +kernel), List.mem_of_getElem? (i := 1697) (by decide +kernel)⟩
theorem lw_p104 : lw_okq (⟨"BellHammerModel", "pursesWith", "(III)I"⟩, 25) := ⟨⟨by decide +kernel, by decide +kernel⟩, List.mem_of_getElem? (i := 1176) (by decide +kernel), List.mem_of_getElem? (i := 1730) (by decide +kernel), List.mem_of_getElem? (i := 1731) (by decide +kernel)⟩
def lw_privs_7 : List (MethodName × Nat) := [(⟨"BellHammerModel", "fly", "(LBellHammerModel$State;III)V"⟩, 25), (⟨"BellHammerModel", "rustAt", "(II)I"⟩, 25), (⟨"BellHammerModel", "reward", "(LBellHammerModel$State;I)V"⟩, 25), (⟨"BellHammerModel", "given", "(LBellHammerModel$State;)I"⟩, 25), (⟨"BellHammerModel", "rounds", "(LBellHammerModel$State;I)V"⟩, 25), (⟨"BellHammerModel", "round", "(LBellHammerModel$State;)V"⟩, 25), (⟨"BellHammerModel", "push", "(LBellHammerModel$State;)V"⟩, 25), (⟨"BellHammerModel", "elbowsAt", "(LBellHammerModel$State;I)I"⟩, 25), (⟨"BellHammerModel", "pursesWith", "(III)I"⟩, 25)]
theorem lw_r7 : ∀ q ∈ lw_privs_7, lw_okq q := List.forall_mem_cons.mpr ⟨lw_p96, List.forall_mem_cons.mpr ⟨lw_p97, List.forall_mem_cons.mpr ⟨lw_p98, List.forall_mem_cons.mpr ⟨lw_p99, List.forall_mem_cons.mpr ⟨lw_p100, List.forall_mem_cons.mpr ⟨lw_p101, List.forall_mem_cons.mpr ⟨lw_p102, List.forall_mem_cons.mpr ⟨lw_p103, List.forall_mem_cons.mpr ⟨lw_p104, fun _ h => absurd h List.not_mem_nil⟩⟩⟩⟩⟩⟩⟩⟩⟩
def lw_privs : List (MethodName × Nat) := lw_privs_1 ++ (lw_privs_2 ++ (lw_privs_3 ++ (lw_privs_4 ++ (lw_privs_5 ++ (lw_privs_6 ++ (lw_privs_7))))))
def lw_tbl : List Cond := k2_sels lw_privs ++ tables_1
theorem lw_privs_ok : ∀ q ∈ lw_privs, lw_okq q := by
  show ∀ q ∈ lw_privs_1 ++ (lw_privs_2 ++ (lw_privs_3 ++ (lw_privs_4 ++ (lw_privs_5 ++ (lw_privs_6 ++ (lw_privs_7)))))), lw_okq q
  exact List.forall_mem_append.mpr ⟨lw_r1, List.forall_mem_append.mpr ⟨lw_r2, List.forall_mem_append.mpr ⟨lw_r3, List.forall_mem_append.mpr ⟨lw_r4, List.forall_mem_append.mpr ⟨lw_r5, List.forall_mem_append.mpr ⟨lw_r6, lw_r7⟩⟩⟩⟩⟩⟩
/-- the streams that the claim lets the run draw from -/
abbrev lw_cs : List Choice := [Jvm.Choice.named "NaN.bits"]
theorem lw_bits : nanBits ∈ lw_cs := by first | decide | exact List.mem_cons_self | simp [lw_cs, nanBits]
end
section
def RX0 : String := "BellHammer$Board"
def TX0 : u_T := fun k => match k with
  | 0 => ("BellHammer$Board", "heights", "[I", true)
  | _ => ("BellHammer$Board", "size", "I", false)
def tyX0 : Nat → FieldType := fun k => match k with
  | 0 => .array .int
  | _ => .int
abbrev wsX00 : List Cond := u_ws RX0 TX0 2
theorem nmX0 : ∀ a, a < 2 → ∀ b, b < 2 → a ≠ b → (TX0 a).2.1 ≠ (TX0 b).2.1 := by decide +kernel
theorem tyX0_ok : ∀ k, k < 2 → parseFieldDescriptor (TX0 k).2.2.1 = some (tyX0 k) := by decide +kernel
abbrev cX0_init : ByteArray := prog_2_method_1_code
def yX0_init : MethodName := ⟨RX0, "<init>", "()V"⟩
abbrev cX0_add : ByteArray := prog_2_method_2_code
def yX0_add : MethodName := ⟨RX0, "add", "(I)V"⟩
abbrev cX0_has : ByteArray := prog_2_method_3_code
def yX0_has : MethodName := ⟨RX0, "has", "(I)Z"⟩
abbrev cX0_heightAt : ByteArray := prog_2_method_4_code
def yX0_heightAt : MethodName := ⟨RX0, "heightAt", "(I)I"⟩
abbrev cX0_meanHeight : ByteArray := prog_2_method_5_code
def yX0_meanHeight : MethodName := ⟨RX0, "meanHeight", "()D"⟩
abbrev cX0_copyFrom : ByteArray := prog_2_method_6_code
def yX0_copyFrom : MethodName := ⟨RX0, "copyFrom", "(LBellHammer$Board;)V"⟩
def RX1 : String := "BellHammer$Code"
def TX1 : u_T := fun k => match k with
  | 0 => ("BellHammer$Code", "kinds", "[I", true)
  | 1 => ("BellHammer$Code", "arguments", "[I", true)
  | 2 => ("BellHammer$Code", "stack", "[I", true)
  | 3 => ("BellHammer$Code", "top", "I", false)
  | _ => ("BellHammer$Code", "size", "I", false)
def tyX1 : Nat → FieldType := fun k => match k with
  | 0 => .array .int
  | 1 => .array .int
  | 2 => .array .int
  | 3 => .int
  | _ => .int
abbrev wsX10 : List Cond := u_ws RX1 TX1 5
theorem nmX1 : ∀ a, a < 5 → ∀ b, b < 5 → a ≠ b → (TX1 a).2.1 ≠ (TX1 b).2.1 := by decide +kernel
theorem tyX1_ok : ∀ k, k < 5 → parseFieldDescriptor (TX1 k).2.2.1 = some (tyX1 k) := by decide +kernel
abbrev cX1_init : ByteArray := prog_3_method_1_code
def yX1_init : MethodName := ⟨RX1, "<init>", "()V"⟩
abbrev cX1_add : ByteArray := prog_3_method_2_code
def yX1_add : MethodName := ⟨RX1, "add", "(II)V"⟩
abbrev cX1_copyFrom : ByteArray := prog_3_method_3_code
def yX1_copyFrom : MethodName := ⟨RX1, "copyFrom", "(LBellHammer$Code;)V"⟩
abbrev cX1_reckon : ByteArray := prog_3_method_4_code
def yX1_reckon : MethodName := ⟨RX1, "reckon", "(IILBellHammer$Contest;)I"⟩
abbrev cX1_isJoining : ByteArray := prog_3_method_5_code
def yX1_isJoining : MethodName := ⟨RX1, "isJoining", "(I)Z"⟩
abbrev cX1_joined : ByteArray := prog_3_method_6_code
def yX1_joined : MethodName := ⟨RX1, "joined", "(III)I"⟩
abbrev cX1_compared : ByteArray := prog_3_method_7_code
def yX1_compared : MethodName := ⟨RX1, "compared", "(III)I"⟩
abbrev cX1_push : ByteArray := prog_3_method_8_code
def yX1_push : MethodName := ⟨RX1, "push", "(I)V"⟩
abbrev cX1_pop : ByteArray := prog_3_method_9_code
def yX1_pop : MethodName := ⟨RX1, "pop", "()I"⟩
def RX2 : String := "BellHammer$Contest"
def TX2 : u_T := fun k => match k with
  | 0 => ("BellHammer$Contest", "code", "LBellHammer$Code;", true)
  | 1 => ("BellHammer$Contest", "board", "LBellHammer$Board;", true)
  | 2 => ("BellHammer$Contest", "flight", "LBellHammer$Flight;", true)
  | 3 => ("BellHammer$Contest", "rails", "[LBellHammer$Rail;", true)
  | 4 => ("BellHammer$Contest", "fists", "[LBellHammer$Fist;", true)
  | 5 => ("BellHammer$Contest", "prizes", "[LBellHammer$Prize;", true)
  | 6 => ("BellHammer$Contest", "turns", "[LBellHammer$Turn;", true)
  | 7 => ("BellHammer$Contest", "row", "[I", true)
  | 8 => ("BellHammer$Contest", "railCount", "I", false)
  | 9 => ("BellHammer$Contest", "rustCount", "I", false)
  | 10 => ("BellHammer$Contest", "fistCount", "I", false)
  | 11 => ("BellHammer$Contest", "prizeCount", "I", false)
  | 12 => ("BellHammer$Contest", "turnCount", "I", false)
  | 13 => ("BellHammer$Contest", "round", "I", false)
  | 14 => ("BellHammer$Contest", "height", "I", false)
  | 15 => ("BellHammer$Contest", "bells", "I", false)
  | 16 => ("BellHammer$Contest", "strikes", "I", false)
  | 17 => ("BellHammer$Contest", "bellsInAll", "I", false)
  | _ => ("BellHammer$Contest", "given", "I", false)
def tyX2 : Nat → FieldType := fun k => match k with
  | 0 => .object "BellHammer$Code"
  | 1 => .object "BellHammer$Board"
  | 2 => .object "BellHammer$Flight"
  | 3 => .array (.object "BellHammer$Rail")
  | 4 => .array (.object "BellHammer$Fist")
  | 5 => .array (.object "BellHammer$Prize")
  | 6 => .array (.object "BellHammer$Turn")
  | 7 => .array .int
  | 8 => .int
  | 9 => .int
  | 10 => .int
  | 11 => .int
  | 12 => .int
  | 13 => .int
  | 14 => .int
  | 15 => .int
  | 16 => .int
  | 17 => .int
  | _ => .int
abbrev wsX20 : List Cond := u_ws RX2 TX2 19
theorem nmX2 : ∀ a, a < 19 → ∀ b, b < 19 → a ≠ b → (TX2 a).2.1 ≠ (TX2 b).2.1 := by decide +kernel
theorem tyX2_ok : ∀ k, k < 19 → parseFieldDescriptor (TX2 k).2.2.1 = some (tyX2 k) := by decide +kernel
abbrev cX2_init : ByteArray := prog_4_method_1_code
def yX2_init : MethodName := ⟨RX2, "<init>", "()V"⟩
abbrev cX2_clear : ByteArray := prog_4_method_2_code
def yX2_clear : MethodName := ⟨RX2, "clear", "()V"⟩
abbrev cX2_copyFrom : ByteArray := prog_4_method_3_code
def yX2_copyFrom : MethodName := ⟨RX2, "copyFrom", "(LBellHammer$Contest;)V"⟩
abbrev cX2_copyNumbers : ByteArray := prog_4_method_4_code
def yX2_copyNumbers : MethodName := ⟨RX2, "copyNumbers", "(LBellHammer$Contest;)V"⟩
abbrev cX2_hasRail : ByteArray := prog_4_method_5_code
def yX2_hasRail : MethodName := ⟨RX2, "hasRail", "(I)Z"⟩
abbrev cX2_hasFist : ByteArray := prog_4_method_6_code
def yX2_hasFist : MethodName := ⟨RX2, "hasFist", "(I)Z"⟩
abbrev cX2_hasPrize : ByteArray := prog_4_method_7_code
def yX2_hasPrize : MethodName := ⟨RX2, "hasPrize", "(I)Z"⟩
abbrev cX2_hasTurn : ByteArray := prog_4_method_8_code
def yX2_hasTurn : MethodName := ⟨RX2, "hasTurn", "(I)Z"⟩
abbrev cX2_railNamed : ByteArray := prog_4_method_9_code
def yX2_railNamed : MethodName := ⟨RX2, "railNamed", "(J)I"⟩
abbrev cX2_fistNamed : ByteArray := prog_4_method_10_code
def yX2_fistNamed : MethodName := ⟨RX2, "fistNamed", "(J)I"⟩
abbrev cX2_prizeNamed : ByteArray := prog_4_method_11_code
def yX2_prizeNamed : MethodName := ⟨RX2, "prizeNamed", "(J)I"⟩
abbrev cX2_addRail : ByteArray := prog_4_method_12_code
def yX2_addRail : MethodName := ⟨RX2, "addRail", "(JIII)V"⟩
abbrev cX2_addRust : ByteArray := prog_4_method_13_code
def yX2_addRust : MethodName := ⟨RX2, "addRust", "(IIII)V"⟩
abbrev cX2_addFist : ByteArray := prog_4_method_14_code
def yX2_addFist : MethodName := ⟨RX2, "addFist", "(JIII)V"⟩
abbrev cX2_addPrize : ByteArray := prog_4_method_15_code
def yX2_addPrize : MethodName := ⟨RX2, "addPrize", "(JIIII)V"⟩
abbrev cX2_addTurn : ByteArray := prog_4_method_16_code
def yX2_addTurn : MethodName := ⟨RX2, "addTurn", "(IIII)V"⟩
abbrev cX2_tellCountOf : ByteArray := prog_4_method_17_code
def yX2_tellCountOf : MethodName := ⟨RX2, "tellCountOf", "(I)I"⟩
abbrev cX2_tellRail : ByteArray := prog_4_method_18_code
def yX2_tellRail : MethodName := ⟨RX2, "tellRail", "(II)I"⟩
abbrev cX2_tellFist : ByteArray := prog_4_method_19_code
def yX2_tellFist : MethodName := ⟨RX2, "tellFist", "(II)I"⟩
abbrev cX2_placeOfPurse : ByteArray := prog_4_method_20_code
def yX2_placeOfPurse : MethodName := ⟨RX2, "placeOfPurse", "(I)I"⟩
abbrev cX2_tellPrize : ByteArray := prog_4_method_21_code
def yX2_tellPrize : MethodName := ⟨RX2, "tellPrize", "(II)I"⟩
abbrev cX2_tellTurn : ByteArray := prog_4_method_22_code
def yX2_tellTurn : MethodName := ⟨RX2, "tellTurn", "(II)I"⟩
abbrev cX2_placeInRow : ByteArray := prog_4_method_23_code
def yX2_placeInRow : MethodName := ⟨RX2, "placeInRow", "(I)I"⟩
abbrev cX2_allPurses : ByteArray := prog_4_method_24_code
def yX2_allPurses : MethodName := ⟨RX2, "allPurses", "()I"⟩
abbrev cX2_isDue : ByteArray := prog_4_method_25_code
def yX2_isDue : MethodName := ⟨RX2, "isDue", "(LBellHammer$Turn;)Z"⟩
abbrev cX2_reading : ByteArray := prog_4_method_26_code
def yX2_reading : MethodName := ⟨RX2, "reading", "(II)I"⟩
abbrev cX2_flightOf : ByteArray := prog_4_method_27_code
def yX2_flightOf : MethodName := ⟨RX2, "flightOf", "(II)LBellHammer$Flight;"⟩
abbrev cX2_flightWithArm : ByteArray := prog_4_method_28_code
def yX2_flightWithArm : MethodName := ⟨RX2, "flightWithArm", "(III)LBellHammer$Flight;"⟩
abbrev cX2_changeSpring : ByteArray := prog_4_method_29_code
def yX2_changeSpring : MethodName := ⟨RX2, "changeSpring", "(II)I"⟩
abbrev cX2_hit : ByteArray := prog_4_method_30_code
def yX2_hit : MethodName := ⟨RX2, "hit", "(II)V"⟩
abbrev cX2_giveTo : ByteArray := prog_4_method_31_code
def yX2_giveTo : MethodName := ⟨RX2, "giveTo", "(LBellHammer$Fist;)V"⟩
abbrev cX2_play : ByteArray := prog_4_method_32_code
def yX2_play : MethodName := ⟨RX2, "play", "(I)V"⟩
abbrev cX2_useElbows : ByteArray := prog_4_method_33_code
def yX2_useElbows : MethodName := ⟨RX2, "useElbows", "()V"⟩
abbrev cX2_takeTurns : ByteArray := prog_4_method_34_code
def yX2_takeTurns : MethodName := ⟨RX2, "takeTurns", "()V"⟩
abbrev cX2_fistInRow : ByteArray := prog_4_method_35_code
def yX2_fistInRow : MethodName := ⟨RX2, "fistInRow", "(I)I"⟩
abbrev cX2_digestBehind : ByteArray := prog_4_method_36_code
def yX2_digestBehind : MethodName := ⟨RX2, "digestBehind", "(J)J"⟩
def RX3 : String := "BellHammer$Fist"
def TX3 : u_T := fun k => match k with
  | 0 => ("BellHammer$Fist", "name", "J", false)
  | 1 => ("BellHammer$Fist", "arm", "I", false)
  | 2 => ("BellHammer$Fist", "aim", "I", false)
  | 3 => ("BellHammer$Fist", "elbows", "I", false)
  | 4 => ("BellHammer$Fist", "sore", "I", false)
  | 5 => ("BellHammer$Fist", "purse", "I", false)
  | 6 => ("BellHammer$Fist", "strikes", "I", false)
  | 7 => ("BellHammer$Fist", "best", "I", false)
  | 8 => ("BellHammer$Fist", "bells", "I", false)
  | _ => ("BellHammer$Fist", "struckThisRound", "Z", false)
def tyX3 : Nat → FieldType := fun k => match k with
  | 0 => .long
  | 1 => .int
  | 2 => .int
  | 3 => .int
  | 4 => .int
  | 5 => .int
  | 6 => .int
  | 7 => .int
  | 8 => .int
  | _ => .boolean
abbrev wsX30 : List Cond := u_ws RX3 TX3 10
theorem nmX3 : ∀ a, a < 10 → ∀ b, b < 10 → a ≠ b → (TX3 a).2.1 ≠ (TX3 b).2.1 := by decide +kernel
theorem tyX3_ok : ∀ k, k < 10 → parseFieldDescriptor (TX3 k).2.2.1 = some (tyX3 k) := by decide +kernel
abbrev cX3_init : ByteArray := prog_5_method_1_code
def yX3_init : MethodName := ⟨RX3, "<init>", "()V"⟩
abbrev cX3_tell : ByteArray := prog_5_method_2_code
def yX3_tell : MethodName := ⟨RX3, "tell", "(JIII)V"⟩
abbrev cX3_forceWithArm : ByteArray := prog_5_method_3_code
def yX3_forceWithArm : MethodName := ⟨RX3, "forceWithArm", "(I)I"⟩
abbrev cX3_endRound : ByteArray := prog_5_method_4_code
def yX3_endRound : MethodName := ⟨RX3, "endRound", "()V"⟩
abbrev cX3_copyFrom : ByteArray := prog_5_method_5_code
def yX3_copyFrom : MethodName := ⟨RX3, "copyFrom", "(LBellHammer$Fist;)V"⟩
def RX4 : String := "BellHammer$Flight"
def TX4 : u_T := fun k => match k with
  | 0 => ("BellHammer$Flight", "places", "[I", true)
  | 1 => ("BellHammer$Flight", "height", "I", false)
  | 2 => ("BellHammer$Flight", "bells", "I", false)
  | 3 => ("BellHammer$Flight", "ticks", "I", false)
  | 4 => ("BellHammer$Flight", "place", "I", false)
  | 5 => ("BellHammer$Flight", "speed", "I", false)
  | _ => ("BellHammer$Flight", "over", "Z", false)
def tyX4 : Nat → FieldType := fun k => match k with
  | 0 => .array .int
  | 1 => .int
  | 2 => .int
  | 3 => .int
  | 4 => .int
  | 5 => .int
  | _ => .boolean
abbrev wsX40 : List Cond := u_ws RX4 TX4 7
theorem nmX4 : ∀ a, a < 7 → ∀ b, b < 7 → a ≠ b → (TX4 a).2.1 ≠ (TX4 b).2.1 := by decide +kernel
theorem tyX4_ok : ∀ k, k < 7 → parseFieldDescriptor (TX4 k).2.2.1 = some (tyX4 k) := by decide +kernel
abbrev cX4_init : ByteArray := prog_6_method_1_code
def yX4_init : MethodName := ⟨RX4, "<init>", "()V"⟩
abbrev cX4_fly : ByteArray := prog_6_method_2_code
def yX4_fly : MethodName := ⟨RX4, "fly", "(LBellHammer$Rail;I)V"⟩
abbrev cX4_move : ByteArray := prog_6_method_3_code
def yX4_move : MethodName := ⟨RX4, "move", "(LBellHammer$Rail;)V"⟩
abbrev cX4_placeBehind : ByteArray := prog_6_method_4_code
def yX4_placeBehind : MethodName := ⟨RX4, "placeBehind", "(I)I"⟩
def RX5 : String := "BellHammer$Prize"
def TX5 : u_T := fun k => match k with
  | 0 => ("BellHammer$Prize", "name", "J", false)
  | 1 => ("BellHammer$Prize", "left", "I", false)
  | 2 => ("BellHammer$Prize", "given", "I", false)
  | 3 => ("BellHammer$Prize", "worthFrom", "I", false)
  | 4 => ("BellHammer$Prize", "testFrom", "I", false)
  | _ => ("BellHammer$Prize", "testTo", "I", false)
def tyX5 : Nat → FieldType := fun k => match k with
  | 0 => .long
  | 1 => .int
  | 2 => .int
  | 3 => .int
  | 4 => .int
  | _ => .int
abbrev wsX50 : List Cond := u_ws RX5 TX5 6
theorem nmX5 : ∀ a, a < 6 → ∀ b, b < 6 → a ≠ b → (TX5 a).2.1 ≠ (TX5 b).2.1 := by decide +kernel
theorem tyX5_ok : ∀ k, k < 6 → parseFieldDescriptor (TX5 k).2.2.1 = some (tyX5 k) := by decide +kernel
abbrev cX5_init : ByteArray := prog_7_method_1_code
def yX5_init : MethodName := ⟨RX5, "<init>", "()V"⟩
abbrev cX5_tell : ByteArray := prog_7_method_2_code
def yX5_tell : MethodName := ⟨RX5, "tell", "(JIIII)V"⟩
abbrev cX5_copyFrom : ByteArray := prog_7_method_3_code
def yX5_copyFrom : MethodName := ⟨RX5, "copyFrom", "(LBellHammer$Prize;)V"⟩
def RX6 : String := "BellHammer$Rail"
def TX6 : u_T := fun k => match k with
  | 0 => ("BellHammer$Rail", "rust", "[I", true)
  | 1 => ("BellHammer$Rail", "name", "J", false)
  | 2 => ("BellHammer$Rail", "high", "I", false)
  | 3 => ("BellHammer$Rail", "puck", "I", false)
  | 4 => ("BellHammer$Rail", "spring", "I", false)
  | 5 => ("BellHammer$Rail", "best", "I", false)
  | _ => ("BellHammer$Rail", "strikes", "I", false)
def tyX6 : Nat → FieldType := fun k => match k with
  | 0 => .array .int
  | 1 => .long
  | 2 => .int
  | 3 => .int
  | 4 => .int
  | 5 => .int
  | _ => .int
abbrev wsX60 : List Cond := u_ws RX6 TX6 7
theorem nmX6 : ∀ a, a < 7 → ∀ b, b < 7 → a ≠ b → (TX6 a).2.1 ≠ (TX6 b).2.1 := by decide +kernel
theorem tyX6_ok : ∀ k, k < 7 → parseFieldDescriptor (TX6 k).2.2.1 = some (tyX6 k) := by decide +kernel
abbrev cX6_init : ByteArray := prog_8_method_1_code
def yX6_init : MethodName := ⟨RX6, "<init>", "()V"⟩
abbrev cX6_tell : ByteArray := prog_8_method_2_code
def yX6_tell : MethodName := ⟨RX6, "tell", "(JIII)V"⟩
abbrev cX6_addRust : ByteArray := prog_8_method_3_code
def yX6_addRust : MethodName := ⟨RX6, "addRust", "(III)V"⟩
abbrev cX6_rustAt : ByteArray := prog_8_method_4_code
def yX6_rustAt : MethodName := ⟨RX6, "rustAt", "(I)I"⟩
abbrev cX6_copyFrom : ByteArray := prog_8_method_5_code
def yX6_copyFrom : MethodName := ⟨RX6, "copyFrom", "(LBellHammer$Rail;)V"⟩
def RX7 : String := "BellHammer$Reader"
def TX7 : u_T := fun k => match k with
  | 0 => ("BellHammer$Reader", "tokens", "LBellHammer$Tokens;", true)
  | 1 => ("BellHammer$Reader", "contest", "LBellHammer$Contest;", false)
  | 2 => ("BellHammer$Reader", "next", "I", false)
  | 3 => ("BellHammer$Reader", "error", "I", false)
  | _ => ("BellHammer$Reader", "errorByte", "I", false)
def tyX7 : Nat → FieldType := fun k => match k with
  | 0 => .object "BellHammer$Tokens"
  | 1 => .object "BellHammer$Contest"
  | 2 => .int
  | 3 => .int
  | _ => .int
abbrev wsX70 : List Cond := u_ws RX7 TX7 5
theorem nmX7 : ∀ a, a < 5 → ∀ b, b < 5 → a ≠ b → (TX7 a).2.1 ≠ (TX7 b).2.1 := by decide +kernel
theorem tyX7_ok : ∀ k, k < 5 → parseFieldDescriptor (TX7 k).2.2.1 = some (tyX7 k) := by decide +kernel
abbrev cX7_init : ByteArray := prog_9_method_1_code
def yX7_init : MethodName := ⟨RX7, "<init>", "(LBellHammer$Tokens;LBellHammer$Contest;)V"⟩
abbrev cX7_errorAtByte : ByteArray := prog_9_method_2_code
def yX7_errorAtByte : MethodName := ⟨RX7, "errorAtByte", "()I"⟩
abbrev cX7_readBill : ByteArray := prog_9_method_3_code
def yX7_readBill : MethodName := ⟨RX7, "readBill", "(LBellHammer$Contest;)I"⟩
abbrev cX7_readLine : ByteArray := prog_9_method_4_code
def yX7_readLine : MethodName := ⟨RX7, "readLine", "()V"⟩
abbrev cX7_readRail : ByteArray := prog_9_method_5_code
def yX7_readRail : MethodName := ⟨RX7, "readRail", "()V"⟩
abbrev cX7_readRust : ByteArray := prog_9_method_6_code
def yX7_readRust : MethodName := ⟨RX7, "readRust", "()V"⟩
abbrev cX7_readFist : ByteArray := prog_9_method_7_code
def yX7_readFist : MethodName := ⟨RX7, "readFist", "()V"⟩
abbrev cX7_readPrize : ByteArray := prog_9_method_8_code
def yX7_readPrize : MethodName := ⟨RX7, "readPrize", "()V"⟩
abbrev cX7_readTurn : ByteArray := prog_9_method_9_code
def yX7_readTurn : MethodName := ⟨RX7, "readTurn", "()V"⟩
abbrev cX7_readTest : ByteArray := prog_9_method_10_code
def yX7_readTest : MethodName := ⟨RX7, "readTest", "(I)V"⟩
abbrev cX7_readBoth : ByteArray := prog_9_method_11_code
def yX7_readBoth : MethodName := ⟨RX7, "readBoth", "(I)V"⟩
abbrev cX7_readSingle : ByteArray := prog_9_method_12_code
def yX7_readSingle : MethodName := ⟨RX7, "readSingle", "(I)V"⟩
abbrev cX7_readComparison : ByteArray := prog_9_method_13_code
def yX7_readComparison : MethodName := ⟨RX7, "readComparison", "(I)V"⟩
abbrev cX7_readSum : ByteArray := prog_9_method_14_code
def yX7_readSum : MethodName := ⟨RX7, "readSum", "(I)V"⟩
abbrev cX7_readProduct : ByteArray := prog_9_method_15_code
def yX7_readProduct : MethodName := ⟨RX7, "readProduct", "(I)V"⟩
abbrev cX7_readValue : ByteArray := prog_9_method_16_code
def yX7_readValue : MethodName := ⟨RX7, "readValue", "(I)V"⟩
abbrev cX7_readPair : ByteArray := prog_9_method_17_code
def yX7_readPair : MethodName := ⟨RX7, "readPair", "(II)V"⟩
abbrev cX7_readPlainValue : ByteArray := prog_9_method_18_code
def yX7_readPlainValue : MethodName := ⟨RX7, "readPlainValue", "(I)V"⟩
abbrev cX7_readNamedValue : ByteArray := prog_9_method_19_code
def yX7_readNamedValue : MethodName := ⟨RX7, "readNamedValue", "(I)V"⟩
abbrev cX7_indexOf : ByteArray := prog_9_method_20_code
def yX7_indexOf : MethodName := ⟨RX7, "indexOf", "(IJ)I"⟩
abbrev cX7_isComparing : ByteArray := prog_9_method_21_code
def yX7_isComparing : MethodName := ⟨RX7, "isComparing", "(I)Z"⟩
abbrev cX7_expectNewName : ByteArray := prog_9_method_22_code
def yX7_expectNewName : MethodName := ⟨RX7, "expectNewName", "(ZZ)V"⟩
abbrev cX7_knownName : ByteArray := prog_9_method_23_code
def yX7_knownName : MethodName := ⟨RX7, "knownName", "(I)I"⟩
abbrev cX7_numberBehind : ByteArray := prog_9_method_24_code
def yX7_numberBehind : MethodName := ⟨RX7, "numberBehind", "(III)I"⟩
abbrev cX7_numberOfTo : ByteArray := prog_9_method_25_code
def yX7_numberOfTo : MethodName := ⟨RX7, "numberOfTo", "(I)I"⟩
abbrev cX7_kind : ByteArray := prog_9_method_26_code
def yX7_kind : MethodName := ⟨RX7, "kind", "()I"⟩
abbrev cX7_value : ByteArray := prog_9_method_27_code
def yX7_value : MethodName := ⟨RX7, "value", "()J"⟩
abbrev cX7_expect : ByteArray := prog_9_method_28_code
def yX7_expect : MethodName := ⟨RX7, "expect", "(I)V"⟩
abbrev cX7_goesDeeper : ByteArray := prog_9_method_29_code
def yX7_goesDeeper : MethodName := ⟨RX7, "goesDeeper", "(II)Z"⟩
abbrev cX7_refuse : ByteArray := prog_9_method_30_code
def yX7_refuse : MethodName := ⟨RX7, "refuse", "()V"⟩
abbrev cX7_blame : ByteArray := prog_9_method_31_code
def yX7_blame : MethodName := ⟨RX7, "blame", "(I)V"⟩
def RX8 : String := "BellHammer$Tape"
def TX8 : u_T := fun k => match k with
  | 0 => ("BellHammer$Tape", "bytes", "[I", true)
  | _ => ("BellHammer$Tape", "length", "I", false)
def tyX8 : Nat → FieldType := fun k => match k with
  | 0 => .array .int
  | _ => .int
abbrev wsX80 : List Cond := u_ws RX8 TX8 2
theorem nmX8 : ∀ a, a < 2 → ∀ b, b < 2 → a ≠ b → (TX8 a).2.1 ≠ (TX8 b).2.1 := by decide +kernel
theorem tyX8_ok : ∀ k, k < 2 → parseFieldDescriptor (TX8 k).2.2.1 = some (tyX8 k) := by decide +kernel
abbrev cX8_init : ByteArray := prog_10_method_1_code
def yX8_init : MethodName := ⟨RX8, "<init>", "()V"⟩
abbrev cX8_hasRoomFor : ByteArray := prog_10_method_2_code
def yX8_hasRoomFor : MethodName := ⟨RX8, "hasRoomFor", "(I)Z"⟩
abbrev cX8_addNumber : ByteArray := prog_10_method_3_code
def yX8_addNumber : MethodName := ⟨RX8, "addNumber", "(I)V"⟩
abbrev cX8_shortenTo : ByteArray := prog_10_method_4_code
def yX8_shortenTo : MethodName := ⟨RX8, "shortenTo", "(I)V"⟩
abbrev cX8_byteAt : ByteArray := prog_10_method_5_code
def yX8_byteAt : MethodName := ⟨RX8, "byteAt", "(I)I"⟩
def RX9 : String := "BellHammer$Tokens"
def TX9 : u_T := fun k => match k with
  | 0 => ("BellHammer$Tokens", "kinds", "[I", true)
  | 1 => ("BellHammer$Tokens", "starts", "[I", true)
  | 2 => ("BellHammer$Tokens", "values", "[J", true)
  | 3 => ("BellHammer$Tokens", "keywordCodes", "[J", true)
  | _ => ("BellHammer$Tokens", "count", "I", false)
def tyX9 : Nat → FieldType := fun k => match k with
  | 0 => .array .int
  | 1 => .array .int
  | 2 => .array .long
  | 3 => .array .long
  | _ => .int
abbrev wsX90 : List Cond := u_ws RX9 TX9 5
theorem nmX9 : ∀ a, a < 5 → ∀ b, b < 5 → a ≠ b → (TX9 a).2.1 ≠ (TX9 b).2.1 := by decide +kernel
theorem tyX9_ok : ∀ k, k < 5 → parseFieldDescriptor (TX9 k).2.2.1 = some (tyX9 k) := by decide +kernel
abbrev cX9_init : ByteArray := prog_11_method_1_code
def yX9_init : MethodName := ⟨RX9, "<init>", "()V"⟩
abbrev cX9_kindAt : ByteArray := prog_11_method_2_code
def yX9_kindAt : MethodName := ⟨RX9, "kindAt", "(I)I"⟩
abbrev cX9_startAt : ByteArray := prog_11_method_3_code
def yX9_startAt : MethodName := ⟨RX9, "startAt", "(I)I"⟩
abbrev cX9_valueAt : ByteArray := prog_11_method_4_code
def yX9_valueAt : MethodName := ⟨RX9, "valueAt", "(I)J"⟩
abbrev cX9_readAll : ByteArray := prog_11_method_5_code
def yX9_readAll : MethodName := ⟨RX9, "readAll", "(LBellHammer$Tape;)V"⟩
abbrev cX9_behindBlanks : ByteArray := prog_11_method_6_code
def yX9_behindBlanks : MethodName := ⟨RX9, "behindBlanks", "(LBellHammer$Tape;I)I"⟩
abbrev cX9_readToken : ByteArray := prog_11_method_7_code
def yX9_readToken : MethodName := ⟨RX9, "readToken", "(LBellHammer$Tape;I)I"⟩
abbrev cX9_readWord : ByteArray := prog_11_method_8_code
def yX9_readWord : MethodName := ⟨RX9, "readWord", "(LBellHammer$Tape;I)I"⟩
abbrev cX9_readNumber : ByteArray := prog_11_method_9_code
def yX9_readNumber : MethodName := ⟨RX9, "readNumber", "(LBellHammer$Tape;I)I"⟩
abbrev cX9_readSymbol : ByteArray := prog_11_method_10_code
def yX9_readSymbol : MethodName := ⟨RX9, "readSymbol", "(ILBellHammer$Tape;I)I"⟩
abbrev cX9_addToken : ByteArray := prog_11_method_11_code
def yX9_addToken : MethodName := ⟨RX9, "addToken", "(IIJ)V"⟩
abbrev cX9_kindOfWord : ByteArray := prog_11_method_12_code
def yX9_kindOfWord : MethodName := ⟨RX9, "kindOfWord", "(J)I"⟩
abbrev cX9_codesOf : ByteArray := prog_11_method_13_code
def yX9_codesOf : MethodName := ⟨RX9, "codesOf", "(Ljava/lang/String;)[J"⟩
abbrev cX9_withSign : ByteArray := prog_11_method_14_code
def yX9_withSign : MethodName := ⟨RX9, "withSign", "(JI)J"⟩
abbrev cX9_isBlank : ByteArray := prog_11_method_15_code
def yX9_isBlank : MethodName := ⟨RX9, "isBlank", "(I)Z"⟩
abbrev cX9_isLetter : ByteArray := prog_11_method_16_code
def yX9_isLetter : MethodName := ⟨RX9, "isLetter", "(I)Z"⟩
abbrev cX9_isDigit : ByteArray := prog_11_method_17_code
def yX9_isDigit : MethodName := ⟨RX9, "isDigit", "(I)Z"⟩
abbrev cX9_isLetterOrDigit : ByteArray := prog_11_method_18_code
def yX9_isLetterOrDigit : MethodName := ⟨RX9, "isLetterOrDigit", "(I)Z"⟩
abbrev cX9_isSymbol : ByteArray := prog_11_method_19_code
def yX9_isSymbol : MethodName := ⟨RX9, "isSymbol", "(I)Z"⟩
def RX10 : String := "BellHammer$Turn"
def TX10 : u_T := fun k => match k with
  | 0 => ("BellHammer$Turn", "fist", "I", false)
  | 1 => ("BellHammer$Turn", "rail", "I", false)
  | 2 => ("BellHammer$Turn", "testFrom", "I", false)
  | _ => ("BellHammer$Turn", "testTo", "I", false)
def tyX10 : Nat → FieldType := fun k => match k with
  | 0 => .int
  | 1 => .int
  | 2 => .int
  | _ => .int
abbrev wsX100 : List Cond := u_ws RX10 TX10 4
theorem nmX10 : ∀ a, a < 4 → ∀ b, b < 4 → a ≠ b → (TX10 a).2.1 ≠ (TX10 b).2.1 := by decide +kernel
theorem tyX10_ok : ∀ k, k < 4 → parseFieldDescriptor (TX10 k).2.2.1 = some (tyX10 k) := by decide +kernel
abbrev cX10_init : ByteArray := prog_12_method_1_code
def yX10_init : MethodName := ⟨RX10, "<init>", "()V"⟩
abbrev cX10_tell : ByteArray := prog_12_method_2_code
def yX10_tell : MethodName := ⟨RX10, "tell", "(IIII)V"⟩
abbrev cX10_copyFrom : ByteArray := prog_12_method_3_code
def yX10_copyFrom : MethodName := ⟨RX10, "copyFrom", "(LBellHammer$Turn;)V"⟩
def RX11 : String := "BellHammer"
def TX11 : u_T := fun k => match k with
  | 0 => ("BellHammer", "tape", "LBellHammer$Tape;", true)
  | 1 => ("BellHammer", "tokens", "LBellHammer$Tokens;", true)
  | 2 => ("BellHammer", "reader", "LBellHammer$Reader;", true)
  | 3 => ("BellHammer", "now", "LBellHammer$Contest;", false)
  | 4 => ("BellHammer", "other", "LBellHammer$Contest;", false)
  | _ => ("BellHammer", "errorPosition", "I", false)
def tyX11 : Nat → FieldType := fun k => match k with
  | 0 => .object "BellHammer$Tape"
  | 1 => .object "BellHammer$Tokens"
  | 2 => .object "BellHammer$Reader"
  | 3 => .object "BellHammer$Contest"
  | 4 => .object "BellHammer$Contest"
  | _ => .int
abbrev wsX110 : List Cond := u_ws RX11 TX11 6
theorem nmX11 : ∀ a, a < 6 → ∀ b, b < 6 → a ≠ b → (TX11 a).2.1 ≠ (TX11 b).2.1 := by decide +kernel
theorem tyX11_ok : ∀ k, k < 6 → parseFieldDescriptor (TX11 k).2.2.1 = some (tyX11 k) := by decide +kernel
abbrev cX11_init : ByteArray := prog_1_method_1_code
def yX11_init : MethodName := ⟨RX11, "<init>", "()V"⟩
abbrev cX11_feed : ByteArray := prog_1_method_2_code
def yX11_feed : MethodName := ⟨RX11, "feed", "(IIIII)I"⟩
abbrev cX11_trim : ByteArray := prog_1_method_3_code
def yX11_trim : MethodName := ⟨RX11, "trim", "(I)I"⟩
abbrev cX11_teach : ByteArray := prog_1_method_4_code
def yX11_teach : MethodName := ⟨RX11, "teach", "()I"⟩
abbrev cX11_errorAt : ByteArray := prog_1_method_5_code
def yX11_errorAt : MethodName := ⟨RX11, "errorAt", "()I"⟩
abbrev cX11_count : ByteArray := prog_1_method_6_code
def yX11_count : MethodName := ⟨RX11, "count", "(I)I"⟩
abbrev cX11_rail : ByteArray := prog_1_method_7_code
def yX11_rail : MethodName := ⟨RX11, "rail", "(II)I"⟩
abbrev cX11_fist : ByteArray := prog_1_method_8_code
def yX11_fist : MethodName := ⟨RX11, "fist", "(II)I"⟩
abbrev cX11_prize : ByteArray := prog_1_method_9_code
def yX11_prize : MethodName := ⟨RX11, "prize", "(II)I"⟩
abbrev cX11_turn : ByteArray := prog_1_method_10_code
def yX11_turn : MethodName := ⟨RX11, "turn", "(II)I"⟩
abbrev cX11_board : ByteArray := prog_1_method_11_code
def yX11_board : MethodName := ⟨RX11, "board", "(I)I"⟩
abbrev cX11_strike : ByteArray := prog_1_method_12_code
def yX11_strike : MethodName := ⟨RX11, "strike", "(II)I"⟩
abbrev cX11_wind : ByteArray := prog_1_method_13_code
def yX11_wind : MethodName := ⟨RX11, "wind", "(II)I"⟩
abbrev cX11_pass : ByteArray := prog_1_method_14_code
def yX11_pass : MethodName := ⟨RX11, "pass", "(I)I"⟩
abbrev cX11_would : ByteArray := prog_1_method_15_code
def yX11_would : MethodName := ⟨RX11, "would", "(III)I"⟩
abbrev cX11_path : ByteArray := prog_1_method_16_code
def yX11_path : MethodName := ⟨RX11, "path", "(III)I"⟩
abbrev cX11_needs : ByteArray := prog_1_method_17_code
def yX11_needs : MethodName := ⟨RX11, "needs", "(II)I"⟩
abbrev cX11_foresee : ByteArray := prog_1_method_18_code
def yX11_foresee : MethodName := ⟨RX11, "foresee", "(II)I"⟩
abbrev cX11_advise : ByteArray := prog_1_method_19_code
def yX11_advise : MethodName := ⟨RX11, "advise", "(II)I"⟩
abbrev cX11_mean : ByteArray := prog_1_method_20_code
def yX11_mean : MethodName := ⟨RX11, "mean", "()D"⟩
abbrev cX11_digest : ByteArray := prog_1_method_21_code
def yX11_digest : MethodName := ⟨RX11, "digest", "()J"⟩
abbrev cX11_tellCount : ByteArray := prog_1_method_22_code
def yX11_tellCount : MethodName := ⟨RX11, "tellCount", "(I)I"⟩
def RX12 : String := "BellHammerModel$Bill"
def TX12 : u_T := fun k => match k with
  | 0 => ("BellHammerModel$Bill", "rails", "I", false)
  | 1 => ("BellHammerModel$Bill", "rusts", "I", false)
  | 2 => ("BellHammerModel$Bill", "fists", "I", false)
  | 3 => ("BellHammerModel$Bill", "prizes", "I", false)
  | 4 => ("BellHammerModel$Bill", "turns", "I", false)
  | 5 => ("BellHammerModel$Bill", "rail", "[I", true)
  | 6 => ("BellHammerModel$Bill", "rust", "[I", true)
  | 7 => ("BellHammerModel$Bill", "fist", "[I", true)
  | 8 => ("BellHammerModel$Bill", "prize", "[I", true)
  | 9 => ("BellHammerModel$Bill", "turn", "[I", true)
  | 10 => ("BellHammerModel$Bill", "nodes", "I", false)
  | 11 => ("BellHammerModel$Bill", "op", "[I", true)
  | 12 => ("BellHammerModel$Bill", "one", "[I", true)
  | _ => ("BellHammerModel$Bill", "two", "[I", true)
def tyX12 : Nat → FieldType := fun k => match k with
  | 0 => .int
  | 1 => .int
  | 2 => .int
  | 3 => .int
  | 4 => .int
  | 5 => .array .int
  | 6 => .array .int
  | 7 => .array .int
  | 8 => .array .int
  | 9 => .array .int
  | 10 => .int
  | 11 => .array .int
  | 12 => .array .int
  | _ => .array .int
abbrev wsX120 : List Cond := u_ws RX12 TX12 14
theorem nmX12 : ∀ a, a < 14 → ∀ b, b < 14 → a ≠ b → (TX12 a).2.1 ≠ (TX12 b).2.1 := by decide +kernel
theorem tyX12_ok : ∀ k, k < 14 → parseFieldDescriptor (TX12 k).2.2.1 = some (tyX12 k) := by decide +kernel
abbrev cX12_init : ByteArray := prog_15_method_1_code
def yX12_init : MethodName := ⟨RX12, "<init>", "()V"⟩
abbrev cX12_empty : ByteArray := prog_15_method_2_code
def yX12_empty : MethodName := ⟨RX12, "empty", "()V"⟩
abbrev cX12_node : ByteArray := prog_15_method_3_code
def yX12_node : MethodName := ⟨RX12, "node", "(III)I"⟩
def RX13 : String := "BellHammerModel$State"
def TX13 : u_T := fun k => match k with
  | 0 => ("BellHammerModel$State", "round", "I", false)
  | 1 => ("BellHammerModel$State", "strikes", "I", false)
  | 2 => ("BellHammerModel$State", "bells", "I", false)
  | 3 => ("BellHammerModel$State", "height", "I", false)
  | 4 => ("BellHammerModel$State", "rang", "I", false)
  | 5 => ("BellHammerModel$State", "boards", "I", false)
  | 6 => ("BellHammerModel$State", "board", "[I", true)
  | 7 => ("BellHammerModel$State", "rail", "[I", true)
  | 8 => ("BellHammerModel$State", "fist", "[I", true)
  | 9 => ("BellHammerModel$State", "prize", "[I", true)
  | _ => ("BellHammerModel$State", "row", "[I", true)
def tyX13 : Nat → FieldType := fun k => match k with
  | 0 => .int
  | 1 => .int
  | 2 => .int
  | 3 => .int
  | 4 => .int
  | 5 => .int
  | 6 => .array .int
  | 7 => .array .int
  | 8 => .array .int
  | 9 => .array .int
  | _ => .array .int
abbrev wsX130 : List Cond := u_ws RX13 TX13 11
theorem nmX13 : ∀ a, a < 11 → ∀ b, b < 11 → a ≠ b → (TX13 a).2.1 ≠ (TX13 b).2.1 := by decide +kernel
theorem tyX13_ok : ∀ k, k < 11 → parseFieldDescriptor (TX13 k).2.2.1 = some (tyX13 k) := by decide +kernel
abbrev cX13_init : ByteArray := prog_16_method_1_code
def yX13_init : MethodName := ⟨RX13, "<init>", "()V"⟩
abbrev cX13_copy : ByteArray := prog_16_method_2_code
def yX13_copy : MethodName := ⟨RX13, "copy", "([I[I)V"⟩
abbrev cX13_become : ByteArray := prog_16_method_3_code
def yX13_become : MethodName := ⟨RX13, "become", "(LBellHammerModel$State;)V"⟩
abbrev cX13_begin : ByteArray := prog_16_method_4_code
def yX13_begin : MethodName := ⟨RX13, "begin", "(LBellHammerModel$Bill;)V"⟩
def RX14 : String := "BellHammerModel"
def TX14 : u_T := fun k => match k with
  | 0 => ("BellHammerModel", "thrown", "I", false)
  | 1 => ("BellHammerModel", "tape", "[I", true)
  | 2 => ("BellHammerModel", "length", "I", false)
  | 3 => ("BellHammerModel", "wrong", "I", false)
  | 4 => ("BellHammerModel", "sort", "[I", true)
  | 5 => ("BellHammerModel", "value", "[I", true)
  | 6 => ("BellHammerModel", "begin", "[I", true)
  | 7 => ("BellHammerModel", "size", "[I", true)
  | 8 => ("BellHammerModel", "bill", "LBellHammerModel$Bill;", false)
  | 9 => ("BellHammerModel", "next", "LBellHammerModel$Bill;", false)
  | 10 => ("BellHammerModel", "railName", "[I", true)
  | 11 => ("BellHammerModel", "fistName", "[I", true)
  | 12 => ("BellHammerModel", "prizeName", "[I", true)
  | 13 => ("BellHammerModel", "at", "I", false)
  | 14 => ("BellHammerModel", "depth", "I", false)
  | 15 => ("BellHammerModel", "failed", "I", false)
  | 16 => ("BellHammerModel", "error", "I", false)
  | 17 => ("BellHammerModel", "errorToken", "I", false)
  | 18 => ("BellHammerModel", "s", "LBellHammerModel$State;", true)
  | 19 => ("BellHammerModel", "ahead", "LBellHammerModel$State;", true)
  | 20 => ("BellHammerModel", "top", "I", false)
  | 21 => ("BellHammerModel", "rings", "I", false)
  | 22 => ("BellHammerModel", "ticks", "I", false)
  | 23 => ("BellHammerModel", "asked", "I", false)
  | _ => ("BellHammerModel", "place", "I", false)
def tyX14 : Nat → FieldType := fun k => match k with
  | 0 => .int
  | 1 => .array .int
  | 2 => .int
  | 3 => .int
  | 4 => .array .int
  | 5 => .array .int
  | 6 => .array .int
  | 7 => .array .int
  | 8 => .object "BellHammerModel$Bill"
  | 9 => .object "BellHammerModel$Bill"
  | 10 => .array .int
  | 11 => .array .int
  | 12 => .array .int
  | 13 => .int
  | 14 => .int
  | 15 => .int
  | 16 => .int
  | 17 => .int
  | 18 => .object "BellHammerModel$State"
  | 19 => .object "BellHammerModel$State"
  | 20 => .int
  | 21 => .int
  | 22 => .int
  | 23 => .int
  | _ => .int
abbrev wsX140 : List Cond := u_ws RX14 TX14 25
theorem nmX14 : ∀ a, a < 25 → ∀ b, b < 25 → a ≠ b → (TX14 a).2.1 ≠ (TX14 b).2.1 := by decide +kernel
theorem tyX14_ok : ∀ k, k < 25 → parseFieldDescriptor (TX14 k).2.2.1 = some (tyX14 k) := by decide +kernel
abbrev cX14_init : ByteArray := prog_14_method_1_code
def yX14_init : MethodName := ⟨RX14, "<init>", "()V"⟩
abbrev cX14_thrown : ByteArray := prog_14_method_2_code
def yX14_thrown : MethodName := ⟨RX14, "thrown", "()I"⟩
abbrev cX14_no : ByteArray := prog_14_method_3_code
def yX14_no : MethodName := ⟨RX14, "no", "(I)I"⟩
abbrev cX14_isIn : ByteArray := prog_14_method_4_code
def yX14_isIn : MethodName := ⟨RX14, "isIn", "(III)Z"⟩
abbrev cX14_feed : ByteArray := prog_14_method_5_code
def yX14_feed : MethodName := ⟨RX14, "feed", "(IIIII)I"⟩
abbrev cX14_append : ByteArray := prog_14_method_6_code
def yX14_append : MethodName := ⟨RX14, "append", "(I)V"⟩
abbrev cX14_trim : ByteArray := prog_14_method_7_code
def yX14_trim : MethodName := ⟨RX14, "trim", "(I)I"⟩
abbrev cX14_byteAt : ByteArray := prog_14_method_8_code
def yX14_byteAt : MethodName := ⟨RX14, "byteAt", "(I)I"⟩
abbrev cX14_isLetter : ByteArray := prog_14_method_9_code
def yX14_isLetter : MethodName := ⟨RX14, "isLetter", "(I)Z"⟩
abbrev cX14_isDigit : ByteArray := prog_14_method_10_code
def yX14_isDigit : MethodName := ⟨RX14, "isDigit", "(I)Z"⟩
abbrev cX14_split : ByteArray := prog_14_method_11_code
def yX14_split : MethodName := ⟨RX14, "split", "()V"⟩
abbrev cX14_read : ByteArray := prog_14_method_12_code
def yX14_read : MethodName := ⟨RX14, "read", "(II)V"⟩
abbrev cX14_readWord : ByteArray := prog_14_method_13_code
def yX14_readWord : MethodName := ⟨RX14, "readWord", "(II)V"⟩
abbrev cX14_isWord : ByteArray := prog_14_method_14_code
def yX14_isWord : MethodName := ⟨RX14, "isWord", "(IILjava/lang/String;)Z"⟩
abbrev cX14_readNumber : ByteArray := prog_14_method_15_code
def yX14_readNumber : MethodName := ⟨RX14, "readNumber", "(II)V"⟩
abbrev cX14_isSame : ByteArray := prog_14_method_16_code
def yX14_isSame : MethodName := ⟨RX14, "isSame", "(II)Z"⟩
abbrev cX14_fail : ByteArray := prog_14_method_17_code
def yX14_fail : MethodName := ⟨RX14, "fail", "()V"⟩
abbrev cX14_isOk : ByteArray := prog_14_method_18_code
def yX14_isOk : MethodName := ⟨RX14, "isOk", "()Z"⟩
abbrev cX14_is : ByteArray := prog_14_method_19_code
def yX14_is : MethodName := ⟨RX14, "is", "(II)Z"⟩
abbrev cX14_take : ByteArray := prog_14_method_20_code
def yX14_take : MethodName := ⟨RX14, "take", "(II)V"⟩
abbrev cX14_tell : ByteArray := prog_14_method_21_code
def yX14_tell : MethodName := ⟨RX14, "tell", "(II)V"⟩
abbrev cX14_deeper : ByteArray := prog_14_method_22_code
def yX14_deeper : MethodName := ⟨RX14, "deeper", "()V"⟩
abbrev cX14_name : ByteArray := prog_14_method_23_code
def yX14_name : MethodName := ⟨RX14, "name", "()I"⟩
abbrev cX14_find : ByteArray := prog_14_method_24_code
def yX14_find : MethodName := ⟨RX14, "find", "([III)I"⟩
abbrev cX14_known : ByteArray := prog_14_method_25_code
def yX14_known : MethodName := ⟨RX14, "known", "([II)I"⟩
abbrev cX14_fresh : ByteArray := prog_14_method_26_code
def yX14_fresh : MethodName := ⟨RX14, "fresh", "([III)I"⟩
abbrev cX14_number : ByteArray := prog_14_method_27_code
def yX14_number : MethodName := ⟨RX14, "number", "(II)I"⟩
abbrev cX14_number_ : ByteArray := prog_14_method_28_code
def yX14_number_ : MethodName := ⟨RX14, "number", "(III)I"⟩
abbrev cX14_sum : ByteArray := prog_14_method_29_code
def yX14_sum : MethodName := ⟨RX14, "sum", "()I"⟩
abbrev cX14_product : ByteArray := prog_14_method_30_code
def yX14_product : MethodName := ⟨RX14, "product", "()I"⟩
abbrev cX14_one : ByteArray := prog_14_method_31_code
def yX14_one : MethodName := ⟨RX14, "one", "()I"⟩
abbrev cX14_named : ByteArray := prog_14_method_32_code
def yX14_named : MethodName := ⟨RX14, "named", "([II)I"⟩
abbrev cX14_inner : ByteArray := prog_14_method_33_code
def yX14_inner : MethodName := ⟨RX14, "inner", "()I"⟩
abbrev cX14_both : ByteArray := prog_14_method_34_code
def yX14_both : MethodName := ⟨RX14, "both", "(I)I"⟩
abbrev cX14_test : ByteArray := prog_14_method_35_code
def yX14_test : MethodName := ⟨RX14, "test", "()I"⟩
abbrev cX14_pair : ByteArray := prog_14_method_36_code
def yX14_pair : MethodName := ⟨RX14, "pair", "()I"⟩
abbrev cX14_single : ByteArray := prog_14_method_37_code
def yX14_single : MethodName := ⟨RX14, "single", "()I"⟩
abbrev cX14_line : ByteArray := prog_14_method_38_code
def yX14_line : MethodName := ⟨RX14, "line", "()V"⟩
abbrev cX14_put : ByteArray := prog_14_method_39_code
def yX14_put : MethodName := ⟨RX14, "put", "([IIIII)V"⟩
abbrev cX14_readRail : ByteArray := prog_14_method_40_code
def yX14_readRail : MethodName := ⟨RX14, "readRail", "()V"⟩
abbrev cX14_readRust : ByteArray := prog_14_method_41_code
def yX14_readRust : MethodName := ⟨RX14, "readRust", "()V"⟩
abbrev cX14_readFist : ByteArray := prog_14_method_42_code
def yX14_readFist : MethodName := ⟨RX14, "readFist", "()V"⟩
abbrev cX14_readPrize : ByteArray := prog_14_method_43_code
def yX14_readPrize : MethodName := ⟨RX14, "readPrize", "()V"⟩
abbrev cX14_readTurn : ByteArray := prog_14_method_44_code
def yX14_readTurn : MethodName := ⟨RX14, "readTurn", "()V"⟩
abbrev cX14_teach : ByteArray := prog_14_method_45_code
def yX14_teach : MethodName := ⟨RX14, "teach", "()I"⟩
abbrev cX14_begin : ByteArray := prog_14_method_46_code
def yX14_begin : MethodName := ⟨RX14, "begin", "()V"⟩
abbrev cX14_errorAt : ByteArray := prog_14_method_47_code
def yX14_errorAt : MethodName := ⟨RX14, "errorAt", "()I"⟩
abbrev cX14_reckon : ByteArray := prog_14_method_48_code
def yX14_reckon : MethodName := ⟨RX14, "reckon", "(LBellHammerModel$State;I)I"⟩
abbrev cX14_parts : ByteArray := prog_14_method_49_code
def yX14_parts : MethodName := ⟨RX14, "parts", "(II)I"⟩
abbrev cX14_holds : ByteArray := prog_14_method_50_code
def yX14_holds : MethodName := ⟨RX14, "holds", "(LBellHammerModel$State;I)Z"⟩
abbrev cX14_rustAt : ByteArray := prog_14_method_51_code
def yX14_rustAt : MethodName := ⟨RX14, "rustAt", "(II)I"⟩
abbrev cX14_fly : ByteArray := prog_14_method_52_code
def yX14_fly : MethodName := ⟨RX14, "fly", "(LBellHammerModel$State;III)V"⟩
abbrev cX14_strike : ByteArray := prog_14_method_53_code
def yX14_strike : MethodName := ⟨RX14, "strike", "(LBellHammerModel$State;II)V"⟩
abbrev cX14_reward : ByteArray := prog_14_method_54_code
def yX14_reward : MethodName := ⟨RX14, "reward", "(LBellHammerModel$State;I)V"⟩
abbrev cX14_elbowsAt : ByteArray := prog_14_method_55_code
def yX14_elbowsAt : MethodName := ⟨RX14, "elbowsAt", "(LBellHammerModel$State;I)I"⟩
abbrev cX14_push : ByteArray := prog_14_method_56_code
def yX14_push : MethodName := ⟨RX14, "push", "(LBellHammerModel$State;)V"⟩
abbrev cX14_isOn : ByteArray := prog_14_method_57_code
def yX14_isOn : MethodName := ⟨RX14, "isOn", "(LBellHammerModel$State;I)Z"⟩
abbrev cX14_round : ByteArray := prog_14_method_58_code
def yX14_round : MethodName := ⟨RX14, "round", "(LBellHammerModel$State;)V"⟩
abbrev cX14_rounds : ByteArray := prog_14_method_59_code
def yX14_rounds : MethodName := ⟨RX14, "rounds", "(LBellHammerModel$State;I)V"⟩
abbrev cX14_given : ByteArray := prog_14_method_60_code
def yX14_given : MethodName := ⟨RX14, "given", "(LBellHammerModel$State;)I"⟩
abbrev cX14_purses : ByteArray := prog_14_method_61_code
def yX14_purses : MethodName := ⟨RX14, "purses", "(LBellHammerModel$State;)I"⟩
abbrev cX14_counted : ByteArray := prog_14_method_62_code
def yX14_counted : MethodName := ⟨RX14, "counted", "(I)I"⟩
abbrev cX14_count : ByteArray := prog_14_method_63_code
def yX14_count : MethodName := ⟨RX14, "count", "(I)I"⟩
abbrev cX14_railTold : ByteArray := prog_14_method_64_code
def yX14_railTold : MethodName := ⟨RX14, "railTold", "(II)I"⟩
abbrev cX14_rail : ByteArray := prog_14_method_65_code
def yX14_rail : MethodName := ⟨RX14, "rail", "(II)I"⟩
abbrev cX14_isRail : ByteArray := prog_14_method_66_code
def yX14_isRail : MethodName := ⟨RX14, "isRail", "(I)Z"⟩
abbrev cX14_isFist : ByteArray := prog_14_method_67_code
def yX14_isFist : MethodName := ⟨RX14, "isFist", "(I)Z"⟩
abbrev cX14_placeOf : ByteArray := prog_14_method_68_code
def yX14_placeOf : MethodName := ⟨RX14, "placeOf", "(I)I"⟩
abbrev cX14_fistTold : ByteArray := prog_14_method_69_code
def yX14_fistTold : MethodName := ⟨RX14, "fistTold", "(II)I"⟩
abbrev cX14_fist : ByteArray := prog_14_method_70_code
def yX14_fist : MethodName := ⟨RX14, "fist", "(II)I"⟩
abbrev cX14_prizeTold : ByteArray := prog_14_method_71_code
def yX14_prizeTold : MethodName := ⟨RX14, "prizeTold", "(II)I"⟩
abbrev cX14_prize : ByteArray := prog_14_method_72_code
def yX14_prize : MethodName := ⟨RX14, "prize", "(II)I"⟩
abbrev cX14_turnTold : ByteArray := prog_14_method_73_code
def yX14_turnTold : MethodName := ⟨RX14, "turnTold", "(II)I"⟩
abbrev cX14_turn : ByteArray := prog_14_method_74_code
def yX14_turn : MethodName := ⟨RX14, "turn", "(II)I"⟩
abbrev cX14_board : ByteArray := prog_14_method_75_code
def yX14_board : MethodName := ⟨RX14, "board", "(I)I"⟩
abbrev cX14_strike_ : ByteArray := prog_14_method_76_code
def yX14_strike_ : MethodName := ⟨RX14, "strike", "(II)I"⟩
abbrev cX14_wind : ByteArray := prog_14_method_77_code
def yX14_wind : MethodName := ⟨RX14, "wind", "(II)I"⟩
abbrev cX14_pass : ByteArray := prog_14_method_78_code
def yX14_pass : MethodName := ⟨RX14, "pass", "(I)I"⟩
abbrev cX14_would : ByteArray := prog_14_method_79_code
def yX14_would : MethodName := ⟨RX14, "would", "(III)I"⟩
abbrev cX14_path : ByteArray := prog_14_method_80_code
def yX14_path : MethodName := ⟨RX14, "path", "(III)I"⟩
abbrev cX14_needs : ByteArray := prog_14_method_81_code
def yX14_needs : MethodName := ⟨RX14, "needs", "(II)I"⟩
abbrev cX14_foresee : ByteArray := prog_14_method_82_code
def yX14_foresee : MethodName := ⟨RX14, "foresee", "(II)I"⟩
abbrev cX14_pursesWith : ByteArray := prog_14_method_83_code
def yX14_pursesWith : MethodName := ⟨RX14, "pursesWith", "(III)I"⟩
abbrev cX14_advise : ByteArray := prog_14_method_84_code
def yX14_advise : MethodName := ⟨RX14, "advise", "(II)I"⟩
abbrev cX14_mean : ByteArray := prog_14_method_85_code
def yX14_mean : MethodName := ⟨RX14, "mean", "()D"⟩
abbrev cX14_digest : ByteArray := prog_14_method_86_code
def yX14_digest : MethodName := ⟨RX14, "digest", "()J"⟩
def RJ9 : String := "java/lang/Math"
def TJ9 : u_T := fun k => match k with
  | _ => ("", "", "", false)
def tyJ9 : Nat → FieldType := fun k => match k with
  | _ => .int
abbrev wsJ90 : List Cond := u_ws RJ9 TJ9 0
theorem nmJ9 : ∀ a, a < 0 → ∀ b, b < 0 → a ≠ b → (TJ9 a).2.1 ≠ (TJ9 b).2.1 := by decide +kernel
theorem tyJ9_ok : ∀ k, k < 0 → parseFieldDescriptor (TJ9 k).2.2.1 = some (tyJ9 k) := by decide +kernel
abbrev cJ9_max_7cf53 : ByteArray := prog_21_method_65_code
def yJ9_max_7cf53 : MethodName := ⟨RJ9, "max", "(II)I"⟩
abbrev cJ9_min_7cf53 : ByteArray := prog_21_method_69_code
def yJ9_min_7cf53 : MethodName := ⟨RJ9, "min", "(II)I"⟩
def RJ0 : String := "java/lang/String"
def TJ0 : u_T := fun k => match k with
  | _ => ("", "", "", false)
def tyJ0 : Nat → FieldType := fun k => match k with
  | _ => .int
abbrev wsJ00 : List Cond := u_ws RJ0 TJ0 0
theorem nmJ0 : ∀ a, a < 0 → ∀ b, b < 0 → a ≠ b → (TJ0 a).2.1 ≠ (TJ0 b).2.1 := by decide +kernel
theorem tyJ0_ok : ∀ k, k < 0 → parseFieldDescriptor (TJ0 k).2.2.1 = some (tyJ0 k) := by decide +kernel
abbrev cJ0_length_8abf5 : ByteArray := prog_23_method_54_code
def yJ0_length_8abf5 : MethodName := ⟨RJ0, "length", "()I"⟩
abbrev cJ0_charAt_5068e : ByteArray := prog_23_method_56_code
def yJ0_charAt_5068e : MethodName := ⟨RJ0, "charAt", "(I)C"⟩
abbrev cJ0_coder_7d493 : ByteArray := prog_23_method_152_code
def yJ0_coder_7d493 : MethodName := ⟨RJ0, "coder", "()B"⟩
abbrev cJ0_isLatin1_aae02 : ByteArray := prog_23_method_154_code
def yJ0_isLatin1_aae02 : MethodName := ⟨RJ0, "isLatin1", "()Z"⟩
abbrev cJ0_checkIndex_df160 : ByteArray := prog_23_method_155_code
def yJ0_checkIndex_df160 : MethodName := ⟨RJ0, "checkIndex", "(II)V"⟩
def RJ1 : String := "java/lang/StringLatin1"
def TJ1 : u_T := fun k => match k with
  | _ => ("", "", "", false)
def tyJ1 : Nat → FieldType := fun k => match k with
  | _ => .int
abbrev wsJ10 : List Cond := u_ws RJ1 TJ1 0
theorem nmJ1 : ∀ a, a < 0 → ∀ b, b < 0 → a ≠ b → (TJ1 a).2.1 ≠ (TJ1 b).2.1 := by decide +kernel
theorem tyJ1_ok : ∀ k, k < 0 → parseFieldDescriptor (TJ1 k).2.2.1 = some (tyJ1 k) := by decide +kernel
abbrev cJ1_charAt_3b067 : ByteArray := prog_24_method_2_code
def yJ1_charAt_3b067 : MethodName := ⟨RJ1, "charAt", "([BI)C"⟩
def RJ2 : String := "java/lang/StringUTF16"
def TJ2 : u_T := fun k => match k with
  | _ => ("", "", "", false)
def tyJ2 : Nat → FieldType := fun k => match k with
  | _ => .int
abbrev wsJ20 : List Cond := u_ws RJ2 TJ2 0
theorem nmJ2 : ∀ a, a < 0 → ∀ b, b < 0 → a ≠ b → (TJ2 a).2.1 ≠ (TJ2 b).2.1 := by decide +kernel
theorem tyJ2_ok : ∀ k, k < 0 → parseFieldDescriptor (TJ2 k).2.2.1 = some (tyJ2 k) := by decide +kernel
abbrev cJ2_getChar_3b067 : ByteArray := prog_25_method_5_code
def yJ2_getChar_3b067 : MethodName := ⟨RJ2, "getChar", "([BI)C"⟩
abbrev cJ2_length_9d52b : ByteArray := prog_25_method_6_code
def yJ2_length_9d52b : MethodName := ⟨RJ2, "length", "([B)I"⟩
abbrev cJ2_charAt_3b067 : ByteArray := prog_25_method_83_code
def yJ2_charAt_3b067 : MethodName := ⟨RJ2, "charAt", "([BI)C"⟩
abbrev cJ2_checkIndex_2214a : ByteArray := prog_25_method_91_code
def yJ2_checkIndex_2214a : MethodName := ⟨RJ2, "checkIndex", "(I[B)V"⟩
def RJ10 : String := "java/lang/System"
def TJ10 : u_T := fun k => match k with
  | _ => ("", "", "", false)
def tyJ10 : Nat → FieldType := fun k => match k with
  | _ => .int
abbrev wsJ100 : List Cond := u_ws RJ10 TJ10 0
theorem nmJ10 : ∀ a, a < 0 → ∀ b, b < 0 → a ≠ b → (TJ10 a).2.1 ≠ (TJ10 b).2.1 := by decide +kernel
theorem tyJ10_ok : ∀ k, k < 0 → parseFieldDescriptor (TJ10 k).2.2.1 = some (tyJ10 k) := by decide +kernel
def RJ3 : String := "jdk/internal/util/Preconditions"
def TJ3 : u_T := fun k => match k with
  | _ => ("", "", "", false)
def tyJ3 : Nat → FieldType := fun k => match k with
  | _ => .int
abbrev wsJ30 : List Cond := u_ws RJ3 TJ3 0
theorem nmJ3 : ∀ a, a < 0 → ∀ b, b < 0 → a ≠ b → (TJ3 a).2.1 ≠ (TJ3 b).2.1 := by decide +kernel
theorem tyJ3_ok : ∀ k, k < 0 → parseFieldDescriptor (TJ3 k).2.2.1 = some (tyJ3 k) := by decide +kernel
abbrev cJ3_checkIndex_8e157 : ByteArray := prog_28_method_11_code
def yJ3_checkIndex_8e157 : MethodName := ⟨RJ3, "checkIndex", "(IILjava/util/function/BiFunction;)I"⟩
def RL : String := "BellHammerLaw"
abbrev cL_feed : ByteArray := method_3_code
def yL_feed : MethodName := ⟨RL, "feed", "(LBellHammer;IIIII[J)I"⟩
abbrev cL_trim : ByteArray := method_4_code
def yL_trim : MethodName := ⟨RL, "trim", "(LBellHammer;I[J)I"⟩
abbrev cL_count : ByteArray := method_5_code
def yL_count : MethodName := ⟨RL, "count", "(LBellHammer;I[J)I"⟩
abbrev cL_rail : ByteArray := method_6_code
def yL_rail : MethodName := ⟨RL, "rail", "(LBellHammer;II[J)I"⟩
abbrev cL_fist : ByteArray := method_7_code
def yL_fist : MethodName := ⟨RL, "fist", "(LBellHammer;II[J)I"⟩
abbrev cL_prize : ByteArray := method_8_code
def yL_prize : MethodName := ⟨RL, "prize", "(LBellHammer;II[J)I"⟩
abbrev cL_turn : ByteArray := method_9_code
def yL_turn : MethodName := ⟨RL, "turn", "(LBellHammer;II[J)I"⟩
abbrev cL_board : ByteArray := method_10_code
def yL_board : MethodName := ⟨RL, "board", "(LBellHammer;I[J)I"⟩
abbrev cL_strike : ByteArray := method_11_code
def yL_strike : MethodName := ⟨RL, "strike", "(LBellHammer;II[J)I"⟩
abbrev cL_wind : ByteArray := method_12_code
def yL_wind : MethodName := ⟨RL, "wind", "(LBellHammer;II[J)I"⟩
abbrev cL_pass : ByteArray := method_13_code
def yL_pass : MethodName := ⟨RL, "pass", "(LBellHammer;I[J)I"⟩
abbrev cL_would : ByteArray := method_14_code
def yL_would : MethodName := ⟨RL, "would", "(LBellHammer;III[J)I"⟩
abbrev cL_path : ByteArray := method_15_code
def yL_path : MethodName := ⟨RL, "path", "(LBellHammer;III[J)I"⟩
abbrev cL_needs : ByteArray := method_16_code
def yL_needs : MethodName := ⟨RL, "needs", "(LBellHammer;II[J)I"⟩
abbrev cL_foresee : ByteArray := method_17_code
def yL_foresee : MethodName := ⟨RL, "foresee", "(LBellHammer;II[J)I"⟩
abbrev cL_advise : ByteArray := method_18_code
def yL_advise : MethodName := ⟨RL, "advise", "(LBellHammer;II[J)I"⟩
abbrev cL_law : ByteArray := code
def yL_law : MethodName := ⟨RL, "law", "([I)Z"⟩
abbrev vwCl : List vw_C := [(RX0, TX0, 2), (RX1, TX1, 5), (RX2, TX2, 19), (RX3, TX3, 10), (RX4, TX4, 7), (RX5, TX5, 6), (RX6, TX6, 7), (RX7, TX7, 5), (RX8, TX8, 2), (RX9, TX9, 5), (RX10, TX10, 4), (RX11, TX11, 6), (RX12, TX12, 14), (RX13, TX13, 11), (RX14, TX14, 25)]
/-- the words that every method is given: those of the tables that hold in every state of the run -/
def TB : List Cond := lw_tbl.filter goodWord
end
section
/-! THE ABSTRACT MACHINE: memory as functions of address and slot, a frame as lists; every rule is a row of the kit. -/
abbrev AV : Type := Int32 ⊕ Int64 ⊕ UInt64 ⊕ Option Nat
abbrev vI (x : Int32) : AV := Sum.inl x
abbrev vJ (x : Int64) : AV := Sum.inr (Sum.inl x)
abbrev vD (x : UInt64) : AV := Sum.inr (Sum.inr (Sum.inl x))
abbrev vR (a : Nat) : AV := Sum.inr (Sum.inr (Sum.inr (some a)))
def vV (v : AV) : Value := match v with
  | .inl x => .int x
  | .inr (.inl x) => .long x
  | .inr (.inr (.inl x)) => .double x
  | .inr (.inr (.inr r)) => va_rf r
def vC (v : AV) : Nat := match v with
  | .inl _ => 1
  | .inr (.inl _) => 2
  | .inr (.inr (.inl _)) => 2
  | .inr (.inr (.inr _)) => 1
theorem vV_cat (v : AV) : (vV v).category = vC v := by
  rcases v with x | x | x | (_ | a) <;> rfl
/-- the memory: our addresses, the heap's size, slots made, kind and length of a cell, its numbers, long numbers, references -/
def AMem : Type := List Nat × Nat × Nat × (Nat → Nat) × (Nat → Nat) × (Nat → Nat → Int32) × (Nat → Nat → Int64) × (Nat → Nat → Option Nat)
def mkM (ad : List Nat) (hs sl : Nat) (K ln : Nat → Nat) (I : Nat → Nat → Int32) (J : Nat → Nat → Int64) (R : Nat → Nat → Option Nat) : AMem := (ad, hs, sl, K, ln, I, J, R)
def AMem.ad (M : AMem) : List Nat := M.1
def AMem.hs (M : AMem) : Nat := M.2.1
def AMem.sl (M : AMem) : Nat := M.2.2.1
def AMem.K (M : AMem) : Nat → Nat := M.2.2.2.1
def AMem.ln (M : AMem) : Nat → Nat := M.2.2.2.2.1
def AMem.I (M : AMem) : Nat → Nat → Int32 := M.2.2.2.2.2.1
def AMem.J (M : AMem) : Nat → Nat → Int64 := M.2.2.2.2.2.2.1
def AMem.R (M : AMem) : Nat → Nat → Option Nat := M.2.2.2.2.2.2.2
def up2 {α : Type} (f : Nat → Nat → α) (a j : Nat) (v : α) : Nat → Nat → α := fun b i => if b = a ∧ i = j then v else f b i
def AMem.sI (M : AMem) (a j : Nat) (v : Int32) : AMem := mkM M.ad M.hs M.sl M.K M.ln (up2 M.I a j v) M.J M.R
def AMem.sJ (M : AMem) (a j : Nat) (v : Int64) : AMem := mkM M.ad M.hs M.sl M.K M.ln M.I (up2 M.J a j v) M.R
def AMem.sR (M : AMem) (a j : Nat) (v : Option Nat) : AMem := mkM M.ad M.hs M.sl M.K M.ln M.I M.J (up2 M.R a j v)
/-- a new cell of kind k and length n, of sz slots, at the heap's end -/
def AMem.nw (M : AMem) (k n : Nat) : AMem := mkM (M.ad ++ [M.hs]) (M.hs + 1) (M.sl + n) (fun b => if b = M.hs then k else M.K b) (fun b => if b = M.hs then n else M.ln b)
  (fun b i => if b = M.hs then 0 else M.I b i) (fun b i => if b = M.hs then 0 else M.J b i) (fun b i => if b = M.hs then none else M.R b i)
theorem sI_ad (M : AMem) (a j : Nat) (v : Int32) : (M.sI a j v).ad = M.ad := rfl
theorem sI_hs (M : AMem) (a j : Nat) (v : Int32) : (M.sI a j v).hs = M.hs := rfl
theorem sI_sl (M : AMem) (a j : Nat) (v : Int32) : (M.sI a j v).sl = M.sl := rfl
theorem sI_K (M : AMem) (a j : Nat) (v : Int32) : (M.sI a j v).K = M.K := rfl
theorem sI_ln (M : AMem) (a j : Nat) (v : Int32) : (M.sI a j v).ln = M.ln := rfl
theorem sI_I (M : AMem) (a j : Nat) (v : Int32) (b i : Nat) : (M.sI a j v).I b i = if b = a ∧ i = j then v else M.I b i := rfl
theorem sI_J (M : AMem) (a j : Nat) (v : Int32) : (M.sI a j v).J = M.J := rfl
theorem sI_R (M : AMem) (a j : Nat) (v : Int32) : (M.sI a j v).R = M.R := rfl
theorem sJ_ad (M : AMem) (a j : Nat) (v : Int64) : (M.sJ a j v).ad = M.ad := rfl
theorem sJ_hs (M : AMem) (a j : Nat) (v : Int64) : (M.sJ a j v).hs = M.hs := rfl
theorem sJ_sl (M : AMem) (a j : Nat) (v : Int64) : (M.sJ a j v).sl = M.sl := rfl
theorem sJ_K (M : AMem) (a j : Nat) (v : Int64) : (M.sJ a j v).K = M.K := rfl
theorem sJ_ln (M : AMem) (a j : Nat) (v : Int64) : (M.sJ a j v).ln = M.ln := rfl
theorem sJ_I (M : AMem) (a j : Nat) (v : Int64) : (M.sJ a j v).I = M.I := rfl
theorem sJ_J (M : AMem) (a j : Nat) (v : Int64) (b i : Nat) : (M.sJ a j v).J b i = if b = a ∧ i = j then v else M.J b i := rfl
theorem sJ_R (M : AMem) (a j : Nat) (v : Int64) : (M.sJ a j v).R = M.R := rfl
theorem sR_ad (M : AMem) (a j : Nat) (v : Option Nat) : (M.sR a j v).ad = M.ad := rfl
theorem sR_hs (M : AMem) (a j : Nat) (v : Option Nat) : (M.sR a j v).hs = M.hs := rfl
theorem sR_sl (M : AMem) (a j : Nat) (v : Option Nat) : (M.sR a j v).sl = M.sl := rfl
theorem sR_K (M : AMem) (a j : Nat) (v : Option Nat) : (M.sR a j v).K = M.K := rfl
theorem sR_ln (M : AMem) (a j : Nat) (v : Option Nat) : (M.sR a j v).ln = M.ln := rfl
theorem sR_I (M : AMem) (a j : Nat) (v : Option Nat) : (M.sR a j v).I = M.I := rfl
theorem sR_J (M : AMem) (a j : Nat) (v : Option Nat) : (M.sR a j v).J = M.J := rfl
theorem sR_R (M : AMem) (a j : Nat) (v : Option Nat) (b i : Nat) : (M.sR a j v).R b i = if b = a ∧ i = j then v else M.R b i := rfl
theorem nw_ad (M : AMem) (k n : Nat) : (M.nw k n).ad = M.ad ++ [M.hs] := rfl
theorem nw_hs (M : AMem) (k n : Nat) : (M.nw k n).hs = M.hs + 1 := rfl
theorem nw_sl (M : AMem) (k n : Nat) : (M.nw k n).sl = M.sl + n := rfl
theorem nw_K (M : AMem) (k n b : Nat) : (M.nw k n).K b = if b = M.hs then k else M.K b := rfl
theorem nw_ln (M : AMem) (k n b : Nat) : (M.nw k n).ln b = if b = M.hs then n else M.ln b := rfl
theorem nw_I (M : AMem) (k n b i : Nat) : (M.nw k n).I b i = if b = M.hs then 0 else M.I b i := rfl
theorem nw_J (M : AMem) (k n b i : Nat) : (M.nw k n).J b i = if b = M.hs then 0 else M.J b i := rfl
theorem nw_R (M : AMem) (k n b i : Nat) : (M.nw k n).R b i = if b = M.hs then none else M.R b i := rfl
/-- how many fields a class has, and of which kind each is: 0 number, 1 long number, 2 reference -/
def nF (ci : Nat) : Nat := match ci with
  | 0 => 2
  | 1 => 5
  | 2 => 19
  | 3 => 10
  | 4 => 7
  | 5 => 6
  | 6 => 7
  | 7 => 5
  | 8 => 2
  | 9 => 5
  | 10 => 4
  | 11 => 6
  | 12 => 14
  | 13 => 11
  | 14 => 25
  | _ => 0
def kF (ci j : Nat) : Nat := match ci with
  | 0 => [2, 0].getD j 0
  | 1 => [2, 2, 2, 0, 0].getD j 0
  | 2 => [2, 2, 2, 2, 2, 2, 2, 2, 0, 0, 0, 0, 0, 0, 0, 0, 0, 0, 0].getD j 0
  | 3 => [1, 0, 0, 0, 0, 0, 0, 0, 0, 0].getD j 0
  | 4 => [2, 0, 0, 0, 0, 0, 0].getD j 0
  | 5 => [1, 0, 0, 0, 0, 0].getD j 0
  | 6 => [2, 1, 0, 0, 0, 0, 0].getD j 0
  | 7 => [2, 2, 0, 0, 0].getD j 0
  | 8 => [2, 0].getD j 0
  | 9 => [2, 2, 2, 2, 0].getD j 0
  | 10 => [0, 0, 0, 0].getD j 0
  | 11 => [2, 2, 2, 2, 2, 0].getD j 0
  | 12 => [0, 0, 0, 0, 0, 2, 2, 2, 2, 2, 0, 2, 2, 2].getD j 0
  | 13 => [0, 0, 0, 0, 0, 0, 2, 2, 2, 2, 2].getD j 0
  | 14 => [0, 2, 0, 0, 2, 2, 2, 2, 2, 2, 2, 2, 2, 0, 0, 0, 0, 0, 2, 2, 0, 0, 0, 0, 0].getD j 0
  | _ => 0
/-- the claim's own: launch, class numbers and slots, array classes, where our cells begin, what holds of the statics -/
abbrev Gp : Type := Launch × va_G × (Nat → ClassId) × Nat × (State → Prop)
def Gp.l (G : Gp) : Launch := G.1
def Gp.D (G : Gp) : va_G := G.2.1
def Gp.ca (G : Gp) : Nat → ClassId := G.2.2.1
def Gp.base (G : Gp) : Nat := G.2.2.2.1
def Gp.ST (G : Gp) : State → Prop := G.2.2.2.2
/-- what holds of the statics goes on holding while nothing below our cells is written -/
def okG (G : Gp) : Prop := (∀ s U : State, s.WarmedH U.vm → (∀ q : Nat, q < G.base → U.heap[q]? = s.heap[q]?) → G.ST s → G.ST U) ∧ ∀ s U : State, s.vm = U.vm → s.heap = U.heap → G.ST s → G.ST U
def am_isN (w : Cond) : Bool := match w with
  | .fieldLinkNest .. => true
  | .methodLinkNest .. => true
  | _ => false
/-- the words on nest mates -/
def NL : List Cond := lw_tbl.filter am_isN
def SS (G : Gp) (s : State) : Prop := (∀ w ∈ NL, va_Nw w s) ∧ G.ST s
theorem am_NLwarm {s U : State} (hW : s.WarmedH U.vm) (h : ∀ w ∈ NL, va_Nw w s) : ∀ w ∈ NL, va_Nw w U := by
  intro w hw
  have h1 := h w hw
  have h2 := (List.mem_filter.mp hw).2
  cases w <;> first | exact va_Nw.warmF hW h1 | exact va_Nw.warmM hW h1 | (exact absurd h2 (by simp [am_isN]))
theorem am_NLsame {s U : State} (hv : s.vm = U.vm) (h : ∀ w ∈ NL, va_Nw w s) : ∀ w ∈ NL, va_Nw w U := by
  intro w hw
  have h1 := h w hw
  have h2 := (List.mem_filter.mp hw).2
  cases w <;> first | exact va_Nw.same rfl hv h1 | (exact absurd h2 (by simp [am_isN]))
theorem am_nlM (i : Nat) {w : Cond} (h : lw_tbl[i]? = some w) (hg : am_isN w = true) : w ∈ NL := List.mem_filter.mpr ⟨List.mem_of_getElem? h, hg⟩
/-- a method: its name, code, number of locals, type of its answer -/
abbrev MD : Type := MethodName × ByteArray × Nat × Option FieldType
def MD.y (Y : MD) : MethodName := Y.1
def MD.cc (Y : MD) : ByteArray := Y.2.1
def MD.nL (Y : MD) : Nat := Y.2.2.1
def MD.rt (Y : MD) : Option FieldType := Y.2.2.2
def tysOf (ca : Nat → ClassId) : List (ClassId × FieldType) := [(ca 0, .int), (ca 1, .long), (ca 2, .object RX6), (ca 3, .object RX3), (ca 4, .object RX5), (ca 5, .object RX10)]
def fv (M : AMem) (k a j : Nat) : Value := match k with
  | 0 => .int (M.I a j)
  | 1 => .long (M.J a j)
  | _ => va_rf (M.R a j)
def objL (M : AMem) (ci a : Nat) : List Value := (List.range (nF ci)).map (fun j => fv M (kF ci j) a j)
/-- kinds: 1 to 15 objects of class kind - 1; 20 int rows, 21 long rows, from 22 on rows of references -/
def cellOf (ca : Nat → ClassId) (M : AMem) (a : Nat) : va_E :=
  if M.K a < 20 then .inr (M.K a - 1, objL M (M.K a - 1) a)
  else if M.K a = 20 then .inl (ca 0, (M.ln a, .inl (M.I a)))
  else if M.K a = 21 then .inl (ca 1, (M.ln a, .inr (.inl (M.J a))))
  else .inl (ca (M.K a - 20), (M.ln a, .inr (.inr (.inr (.inr (M.R a))))))
abbrev wsM (G : Gp) (M : AMem) : va_W := va_pl M.ad (cellOf G.ca M)
def Wd (G : Gp) (M : AMem) (H : Heap) : Prop :=
  va_P G.D vwCl (wsM G M) H ∧ va_D (fun q => G.base ≤ q) (wsM G M) ∧ H.size = M.hs ∧ (∀ a, M.K a ≠ 0 → a ∈ M.ad) ∧ G.base ≤ M.hs
def Ctx (G : Gp) (Y : MD) (d : Nat) (p : Program) (R : Room) (s : State) (m : MethodId) (args : Array Value) (meth : Method) (c : Code) : Prop :=
  p.tables.exec = Jvm.exec ∧ c.code = Y.cc ∧ c.maxLocals = Y.nL ∧ s.vm.findClass Y.y.cls = some m.cls ∧ (∀ w ∈ TB, w.before args s = true) ∧ va_K G.D vwCl (tysOf G.ca) s ∧ G.base ≤ s.heap.size ∧ SS G s ∧ d + 2 ≤ R.frames ∧ (d + 2) * 40 ≤ R.locals ∧ meth.name = Y.y.name
def LH (lsr : Array Slot) (nL : Nat) (ls : List (Option AV)) : Prop := lsr.size = nL ∧ lv_wf lsr ∧ ls.length = nL ∧ ∀ (i : Nat) (v : AV), ls[i]? = some (some v) → lsr[i]? = some (.val (vV v))
/-- in one frame of the method: from one place to another -/
def Reach (G : Gp) (Y : MD) (d pc : Nat) (ls : List (Option AV)) (st : List AV) (M : AMem) (pc' : Nat) (ls' : List (Option AV)) (st' : List AV) (M' : AMem) : Prop :=
  M.hs ≤ M'.hs ∧ M.sl ≤ M'.sl ∧ ∀ (p : Program) (e : Env) (R : Room) (s : State) (m : MethodId) (args : Array Value) (below : List Frame) (meth : Method) (c : Code) (H : Heap) (locs : List Loc) (cells slots : Nat) (lsr : Array Slot) (Q : State → Prop),
    Ctx G Y d p R s m args meth c → Wd G M H → va_S (fun q => G.base ≤ q) s.heap H locs → LH lsr Y.nL ls → cells + (M'.hs - M.hs) ≤ R.cells → slots + (M'.sl - M.sl) ≤ R.slots →
    (∀ (H' : Heap) (locs' : List Loc) (lsr' : Array Slot), Wd G M' H' → va_S (fun q => G.base ≤ q) s.heap H' locs' → LH lsr' Y.nL ls' →
      W p G.l e R s m args below meth c H' locs' (cells + (M'.hs - M.hs)) (slots + (M'.sl - M.sl)) Q (F0 m pc' lsr' (st'.map vV))) →
    W p G.l e R s m args below meth c H locs cells slots Q (F0 m pc lsr (st.map vV))
theorem Reach.trans {G : Gp} {Y : MD} {d pc pc1 pc2 : Nat} {ls ls1 ls2 : List (Option AV)} {st st1 st2 : List AV} {M M1 M2 : AMem} (h1 : Reach G Y d pc ls st M pc1 ls1 st1 M1) (h2 : Reach G Y d pc1 ls1 st1 M1 pc2 ls2 st2 M2) : Reach G Y d pc ls st M pc2 ls2 st2 M2 := by
  obtain ⟨a1, b1, k1⟩ := h1
  obtain ⟨a2, b2, k2⟩ := h2
  refine ⟨Nat.le_trans a1 a2, Nat.le_trans b1 b2, ?_⟩
  intro p e R s m args below meth c H locs cells slots lsr Q hC hW hS hL hc hs kk
  refine k1 p e R s m args below meth c H locs cells slots lsr Q hC hW hS hL (by omega) (by omega) (fun H' locs' lsr' hW' hS' hL' => ?_)
  refine k2 p e R s m args below meth c H' locs' _ _ lsr' Q hC hW' hS' hL' (by omega) (by omega) (fun H2 locs2 lsr2 hW2 hS2 hL2 => ?_)
  have e1 : cells + (M1.hs - M.hs) + (M2.hs - M1.hs) = cells + (M2.hs - M.hs) := by omega
  have e2 : slots + (M1.sl - M.sl) + (M2.sl - M1.sl) = slots + (M2.sl - M.sl) := by omega
  rw [e1, e2]
  exact kk H2 locs2 lsr2 hW2 hS2 hL2
/-- where a walk ends: a return, or a place where it is left to another row -/
def isEnd (Y : MD) (pcR : Nat) (stR : List AV) (f : Option AV ⊕ Nat) : Prop := match f with
  | .inl none => decode Y.cc pcR = .ok (.return_, 1) ∧ stR = [] ∧ Y.rt = none
  | .inl (some (.inl x)) => stR = [vI x] ∧ decode Y.cc pcR = .ok (.ireturn, 1) ∧ ∃ ty, Y.rt = some ty ∧ narrow ty (.int x) = .int x
  | .inl (some (.inr (.inl x))) => stR = [vJ x] ∧ decode Y.cc pcR = .ok (.lreturn, 1) ∧ Y.rt = some .long
  | .inl (some (.inr (.inr (.inl x)))) => stR = [vD x] ∧ decode Y.cc pcR = .ok (.dreturn, 1) ∧ Y.rt = some .double
  | .inl (some (.inr (.inr (.inr r)))) => stR = [.inr (.inr (.inr r))] ∧ decode Y.cc pcR = .ok (.areturn, 1) ∧ ∃ rt, Y.rt = some rt ∧ ((∃ n, rt = .object n) ∨ ∃ t, rt = .array t)
  | .inr pc => pc = pcR ∧ stR = []
def MW (G : Gp) (Y : MD) (d pc : Nat) (ls : List (Option AV)) (st : List AV) (M : AMem) (Q : (Option AV ⊕ Nat) → AMem → Prop) : Prop :=
  ∃ (pcR : Nat) (lsR : List (Option AV)) (stR : List AV) (MR : AMem) (f : Option AV ⊕ Nat), Reach G Y d pc ls st M pcR lsR stR MR ∧ isEnd Y pcR stR f ∧ Q f MR
theorem MW.step {G : Gp} {Y : MD} {d pc pc1 : Nat} {ls ls1 : List (Option AV)} {st st1 : List AV} {M M1 : AMem} {Q : (Option AV ⊕ Nat) → AMem → Prop} (h : Reach G Y d pc ls st M pc1 ls1 st1 M1) (k : MW G Y d pc1 ls1 st1 M1 Q) : MW G Y d pc ls st M Q := by
  obtain ⟨pcR, lsR, stR, MR, f, a, b, c⟩ := k
  exact ⟨pcR, lsR, stR, MR, f, h.trans a, b, c⟩
theorem MW.weaken {G : Gp} {Y : MD} {d pc : Nat} {ls : List (Option AV)} {st : List AV} {M : AMem} {Q Q' : (Option AV ⊕ Nat) → AMem → Prop} (k : MW G Y d pc ls st M Q) (h : ∀ f M', Q f M' → Q' f M') : MW G Y d pc ls st M Q' := by
  obtain ⟨pcR, lsR, stR, MR, f, a, b, c⟩ := k
  exact ⟨pcR, lsR, stR, MR, f, a, b, h _ _ c⟩
theorem Reach.rf {G : Gp} {Y : MD} {d pc : Nat} {ls : List (Option AV)} {st : List AV} {M : AMem} : Reach G Y d pc ls st M pc ls st M :=
  ⟨Nat.le_refl _, Nat.le_refl _, fun p e R s m args below meth c H locs cells slots lsr Q hC hW hS hL hc hs kk => by
    have := kk H locs lsr hW hS hL
    rw [Nat.sub_self, Nat.sub_self] at this
    exact this⟩
/-- a deeper room serves as well -/
theorem Reach.deep {G : Gp} {Y : MD} {d d' pc pc1 : Nat} {ls ls1 : List (Option AV)} {st st1 : List AV} {M M1 : AMem} (hd : d ≤ d') (h : Reach G Y d pc ls st M pc1 ls1 st1 M1) : Reach G Y d' pc ls st M pc1 ls1 st1 M1 := by
  obtain ⟨a1, b1, k1⟩ := h
  refine ⟨a1, b1, ?_⟩
  intro p e R s m args below meth c H locs cells slots lsr Q hC hW hS hL hc hs kk
  obtain ⟨c1, c2, c3, c4, c5, c6, c7, c8, c9, c10, c11⟩ := hC
  exact k1 p e R s m args below meth c H locs cells slots lsr Q ⟨c1, c2, c3, c4, c5, c6, c7, c8, by omega, by omega, c11⟩ hW hS hL hc hs kk
theorem MW.deep {G : Gp} {Y : MD} {d d' pc : Nat} {ls : List (Option AV)} {st : List AV} {M : AMem} {Q : (Option AV ⊕ Nat) → AMem → Prop} (hd : d ≤ d') (k : MW G Y d pc ls st M Q) : MW G Y d' pc ls st M Q := by
  obtain ⟨pcR, lsR, stR, MR, f, a, b, c⟩ := k
  exact ⟨pcR, lsR, stR, MR, f, a.deep hd, b, c⟩
/-- a row that leaves memory and locals alone -/
theorem Reach.row {G : Gp} {Y : MD} {d pc pc1 : Nat} {ls : List (Option AV)} {st st1 : List AV} {M : AMem}
    (h : ∀ {p : Program} {e : Env} {R : Room} {s : State} {m : MethodId} {args : Array Value} {below : List Frame} {meth : Method} {c : Code} {H : Heap} {locs : List Loc} {cells slots : Nat} {lsr : Array Slot} {Q : State → Prop}, p.tables.exec = Jvm.exec → c.code = Y.cc → LH lsr Y.nL ls →
      W p G.l e R s m args below meth c H locs cells slots Q (F0 m pc1 lsr (st1.map vV)) → W p G.l e R s m args below meth c H locs cells slots Q (F0 m pc lsr (st.map vV))) : Reach G Y d pc ls st M pc1 ls st1 M :=
  ⟨Nat.le_refl _, Nat.le_refl _, fun p e R s m args below meth c H locs cells slots lsr Q hC hW hS hL hc hs kk => h hC.1 hC.2.1 hL (by
    have := kk H locs lsr hW hS hL
    rw [Nat.sub_self, Nat.sub_self] at this
    exact this)⟩
section AMrules
variable {G : Gp} {Y : MD} {d pc : Nat} {ls : List (Option AV)} {st : List AV} {M : AMem} {Q : (Option AV ⊕ Nat) → AMem → Prop}
theorem am_ret (hd : decode Y.cc pc = .ok (.return_, 1)) (hr : Y.rt = none) (k : Q (.inl none) M) : MW G Y d pc ls [] M Q := ⟨pc, ls, [], M, .inl none, Reach.rf, ⟨hd, rfl, hr⟩, k⟩
theorem am_iret {x : Int32} (hd : decode Y.cc pc = .ok (.ireturn, 1)) {ty : FieldType} (hr : Y.rt = some ty) (hn : narrow ty (.int x) = .int x) (k : Q (.inl (some (vI x))) M) : MW G Y d pc ls [vI x] M Q := ⟨pc, ls, [vI x], M, .inl (some (vI x)), Reach.rf, ⟨rfl, hd, ty, hr, hn⟩, k⟩
theorem am_lret {x : Int64} (hd : decode Y.cc pc = .ok (.lreturn, 1)) (hr : Y.rt = some .long) (k : Q (.inl (some (vJ x))) M) : MW G Y d pc ls [vJ x] M Q := ⟨pc, ls, [vJ x], M, .inl (some (vJ x)), Reach.rf, ⟨rfl, hd, hr⟩, k⟩
theorem am_dret {x : UInt64} (hd : decode Y.cc pc = .ok (.dreturn, 1)) (hr : Y.rt = some .double) (k : Q (.inl (some (vD x))) M) : MW G Y d pc ls [vD x] M Q := ⟨pc, ls, [vD x], M, .inl (some (vD x)), Reach.rf, ⟨rfl, hd, hr⟩, k⟩
theorem am_aret {a : Nat} (hd : decode Y.cc pc = .ok (.areturn, 1)) {rt : FieldType} (hr : Y.rt = some rt) (ho : (∃ n, rt = .object n) ∨ ∃ t, rt = .array t) (k : Q (.inl (some (vR a))) M) : MW G Y d pc ls [vR a] M Q := ⟨pc, ls, [vR a], M, .inl (some (vR a)), Reach.rf, ⟨rfl, hd, rt, hr, ho⟩, k⟩
theorem am_stop (k : Q (.inr pc) M) : MW G Y d pc ls [] M Q := ⟨pc, ls, [], M, .inr pc, Reach.rf, ⟨rfl, rfl⟩, k⟩
theorem am_iconst {n : Int} {v : Int32} (hd : decode Y.cc pc = .ok (.iconst n, 1)) (hv : Int32.ofInt n = v) {q : Nat} (hq : pc + 1 = q) (k : MW G Y d q ls (vI v :: st) M Q) : MW G Y d pc ls (st) M Q := by subst hq; exact MW.step (Reach.row fun hx hb hL kk => lv_iconst hx hb hd hv kk) k
theorem am_bipush {n : Int} {v : Int32} (hd : decode Y.cc pc = .ok (.bipush n, 2)) (hv : (Int8.ofInt n).toInt32 = v) {q : Nat} (hq : pc + 2 = q) (k : MW G Y d q ls (vI v :: st) M Q) : MW G Y d pc ls (st) M Q := by subst hq; exact MW.step (Reach.row fun hx hb hL kk => lv_bipush hx hb hd hv kk) k
theorem am_sipush {n : Int} {v : Int32} (hd : decode Y.cc pc = .ok (.sipush n, 3)) (hv : (Int16.ofInt n).toInt32 = v) {q : Nat} (hq : pc + 3 = q) (k : MW G Y d q ls (vI v :: st) M Q) : MW G Y d pc ls (st) M Q := by subst hq; exact MW.step (Reach.row fun hx hb hL kk => lv_sipush hx hb hd hv kk) k
theorem am_lconst {n : Fin 2} {v : Int64} (hd : decode Y.cc pc = .ok (.lconst n, 1)) (hv : Int64.ofNat (n : Nat) = v) {q : Nat} (hq : pc + 1 = q) (k : MW G Y d q ls (vJ v :: st) M Q) : MW G Y d pc ls (st) M Q := by subst hq; exact MW.step (Reach.row fun hx hb hL kk => lv_lconst hx hb hd hv kk) k
theorem am_iload {i : Nat} {x : Int32} (hd : decode Y.cc pc = .ok (.iload i, 2)) (hl : ls[i]? = some (some (vI x))) {q : Nat} (hq : pc + 2 = q) (k : MW G Y d q ls (vI x :: st) M Q) : MW G Y d pc ls (st) M Q := by subst hq; exact MW.step (Reach.row fun hx hb hL kk => lv_iload hx hb hd (hL.2.2.2 _ _ hl) kk) k
theorem am_iload_n {i : Fin 4} {x : Int32} (hd : decode Y.cc pc = .ok (.iload_n i, 1)) (hl : ls[(i : Nat)]? = some (some (vI x))) {q : Nat} (hq : pc + 1 = q) (k : MW G Y d q ls (vI x :: st) M Q) : MW G Y d pc ls (st) M Q := by subst hq; exact MW.step (Reach.row fun hx hb hL kk => lv_iload_n hx hb hd rfl (hL.2.2.2 _ _ hl) kk) k
theorem am_lload {i : Nat} {x : Int64} (hd : decode Y.cc pc = .ok (.lload i, 2)) (hl : ls[i]? = some (some (vJ x))) {q : Nat} (hq : pc + 2 = q) (k : MW G Y d q ls (vJ x :: st) M Q) : MW G Y d pc ls (st) M Q := by subst hq; exact MW.step (Reach.row fun hx hb hL kk => lv_lload hx hb hd (hL.2.2.2 _ _ hl) kk) k
theorem am_lload_n {i : Fin 4} {x : Int64} (hd : decode Y.cc pc = .ok (.lload_n i, 1)) (hl : ls[(i : Nat)]? = some (some (vJ x))) {q : Nat} (hq : pc + 1 = q) (k : MW G Y d q ls (vJ x :: st) M Q) : MW G Y d pc ls (st) M Q := by subst hq; exact MW.step (Reach.row fun hx hb hL kk => lv_lload_n hx hb hd rfl (hL.2.2.2 _ _ hl) kk) k
theorem am_aload {i : Nat} {x : Nat} (hd : decode Y.cc pc = .ok (.aload i, 2)) (hl : ls[i]? = some (some (vR x))) {q : Nat} (hq : pc + 2 = q) (k : MW G Y d q ls (vR x :: st) M Q) : MW G Y d pc ls (st) M Q := by subst hq; exact MW.step (Reach.row fun hx hb hL kk => lv_aload hx hb hd (hL.2.2.2 _ _ hl) kk) k
theorem am_aload_n {i : Fin 4} {x : Nat} (hd : decode Y.cc pc = .ok (.aload_n i, 1)) (hl : ls[(i : Nat)]? = some (some (vR x))) {q : Nat} (hq : pc + 1 = q) (k : MW G Y d q ls (vR x :: st) M Q) : MW G Y d pc ls (st) M Q := by subst hq; exact MW.step (Reach.row fun hx hb hL kk => lv_aload_n hx hb hd rfl (hL.2.2.2 _ _ hl) kk) k
theorem am_dload {i : Nat} {x : UInt64} (hd : decode Y.cc pc = .ok (.dload i, 2)) (hl : ls[i]? = some (some (vD x))) {q : Nat} (hq : pc + 2 = q) (k : MW G Y d q ls (vD x :: st) M Q) : MW G Y d pc ls (st) M Q := by subst hq; exact MW.step (Reach.row fun hx hb hL kk => lv_dload hx hb hd (hL.2.2.2 _ _ hl) kk) k
theorem am_iadd {x y : Int32} (hd : decode Y.cc pc = .ok (.iadd, 1)) {q : Nat} (hq : pc + 1 = q) (k : MW G Y d q ls (vI (x + y) :: st) M Q) : MW G Y d pc ls (vI y :: vI x :: st) M Q := by subst hq; exact MW.step (Reach.row fun hx hb hL kk => lv_iadd hx hb hd kk) k
theorem am_isub {x y : Int32} (hd : decode Y.cc pc = .ok (.isub, 1)) {q : Nat} (hq : pc + 1 = q) (k : MW G Y d q ls (vI (x - y) :: st) M Q) : MW G Y d pc ls (vI y :: vI x :: st) M Q := by subst hq; exact MW.step (Reach.row fun hx hb hL kk => lv_isub hx hb hd kk) k
theorem am_imul {x y : Int32} (hd : decode Y.cc pc = .ok (.imul, 1)) {q : Nat} (hq : pc + 1 = q) (k : MW G Y d q ls (vI (x * y) :: st) M Q) : MW G Y d pc ls (vI y :: vI x :: st) M Q := by subst hq; exact MW.step (Reach.row fun hx hb hL kk => lv_imul hx hb hd kk) k
theorem am_iand {x y : Int32} (hd : decode Y.cc pc = .ok (.iand, 1)) {q : Nat} (hq : pc + 1 = q) (k : MW G Y d q ls (vI (x &&& y) :: st) M Q) : MW G Y d pc ls (vI y :: vI x :: st) M Q := by subst hq; exact MW.step (Reach.row fun hx hb hL kk => lv_iand hx hb hd kk) k
theorem am_ior {x y : Int32} (hd : decode Y.cc pc = .ok (.ior, 1)) {q : Nat} (hq : pc + 1 = q) (k : MW G Y d q ls (vI (x ||| y) :: st) M Q) : MW G Y d pc ls (vI y :: vI x :: st) M Q := by subst hq; exact MW.step (Reach.row fun hx hb hL kk => lv_ior hx hb hd kk) k
theorem am_ishr {x y : Int32} (hd : decode Y.cc pc = .ok (.ishr, 1)) {q : Nat} (hq : pc + 1 = q) (k : MW G Y d q ls (vI (x >>> (y &&& 31)) :: st) M Q) : MW G Y d pc ls (vI y :: vI x :: st) M Q := by subst hq; exact MW.step (Reach.row fun hx hb hL kk => lv_ishr hx hb hd kk) k
theorem am_ishl {x y : Int32} (hd : decode Y.cc pc = .ok (.ishl, 1)) {q : Nat} (hq : pc + 1 = q) (k : MW G Y d q ls (vI (x <<< (y &&& 31)) :: st) M Q) : MW G Y d pc ls (vI y :: vI x :: st) M Q := by subst hq; exact MW.step (Reach.row fun hx hb hL kk => lv_ishl hx hb hd kk) k
theorem am_ladd {x y : Int64} (hd : decode Y.cc pc = .ok (.ladd, 1)) {q : Nat} (hq : pc + 1 = q) (k : MW G Y d q ls (vJ (x + y) :: st) M Q) : MW G Y d pc ls (vJ y :: vJ x :: st) M Q := by subst hq; exact MW.step (Reach.row fun hx hb hL kk => lv_ladd hx hb hd kk) k
theorem am_lmul {x y : Int64} (hd : decode Y.cc pc = .ok (.lmul, 1)) {q : Nat} (hq : pc + 1 = q) (k : MW G Y d q ls (vJ (x * y) :: st) M Q) : MW G Y d pc ls (vJ y :: vJ x :: st) M Q := by subst hq; exact MW.step (Reach.row fun hx hb hL kk => lv_lmul hx hb hd kk) k
theorem am_iushr {x y : Int32} (hd : decode Y.cc pc = .ok (.iushr, 1)) {q : Nat} (hq : pc + 1 = q) (k : MW G Y d q ls (vI ((x.toUInt32 >>> (y.toUInt32 &&& Int32.toUInt32 31)).toInt32) :: st) M Q) : MW G Y d pc ls (vI y :: vI x :: st) M Q := by subst hq; exact MW.step (Reach.row fun hx hb hL kk => lv_iushr hx hb hd rfl kk) k
theorem am_ineg {x : Int32} (hd : decode Y.cc pc = .ok (.ineg, 1)) {q : Nat} (hq : pc + 1 = q) (k : MW G Y d q ls (vI (-x) :: st) M Q) : MW G Y d pc ls (vI x :: st) M Q := by subst hq; exact MW.step (Reach.row fun hx hb hL kk => lv_ineg hx hb hd kk) k
theorem am_i2l {x : Int32} (hd : decode Y.cc pc = .ok (.i2l, 1)) {q : Nat} (hq : pc + 1 = q) (k : MW G Y d q ls (vJ x.toInt64 :: st) M Q) : MW G Y d pc ls (vI x :: st) M Q := by subst hq; exact MW.step (Reach.row fun hx hb hL kk => lv_i2l hx hb hd rfl kk) k
theorem am_l2i {x : Int64} (hd : decode Y.cc pc = .ok (.l2i, 1)) {q : Nat} (hq : pc + 1 = q) (k : MW G Y d q ls (vI x.toInt32 :: st) M Q) : MW G Y d pc ls (vJ x :: st) M Q := by subst hq; exact MW.step (Reach.row fun hx hb hL kk => lv_l2i hx hb hd rfl kk) k
theorem am_idiv {x y : Int32} (hd : decode Y.cc pc = .ok (.idiv, 1)) (hne : ¬ y = 0) {q : Nat} (hq : pc + 1 = q) (k : MW G Y d q ls (vI (x / y) :: st) M Q) : MW G Y d pc ls (vI y :: vI x :: st) M Q := by subst hq; exact MW.step (Reach.row fun hx hb hL kk => lv_idiv hx hb hd hne kk) k
theorem am_irem {x y : Int32} (hd : decode Y.cc pc = .ok (.irem, 1)) (hne : ¬ y = 0) {q : Nat} (hq : pc + 1 = q) (k : MW G Y d q ls (vI (x - x / y * y) :: st) M Q) : MW G Y d pc ls (vI y :: vI x :: st) M Q := by subst hq; exact MW.step (Reach.row fun hx hb hL kk => lv_irem hx hb hd hne kk) k
theorem am_lcmp {x y : Int64} (hd : decode Y.cc pc = .ok (.lcmp, 1)) {q : Nat} (hq : pc + 1 = q) (k : MW G Y d q ls (vI (lg_cmp x y) :: st) M Q) : MW G Y d pc ls (vJ y :: vJ x :: st) M Q := by subst hq; exact MW.step (Reach.row fun hx hb hL kk => W.lcmp hx hb hd kk) k
theorem am_i2d {x : Int32} (hd : decode Y.cc pc = .ok (.i2d, 1)) {q : Nat} (hq : pc + 1 = q) (k : MW G Y d q ls (vD (FP.i2d x) :: st) M Q) : MW G Y d pc ls (vI x :: st) M Q := by subst hq; exact MW.step (Reach.row fun hx hb hL kk => lv_i2d hx hb hd kk) k
theorem am_ddiv {x y : UInt64} (hd : decode Y.cc pc = .ok (.ddiv, 1)) (hne : vf_n64 (FP.ddiv x y)) {q : Nat} (hq : pc + 1 = q) (k : MW G Y d q ls (vD (FP.ddiv x y) :: st) M Q) : MW G Y d pc ls (vD y :: vD x :: st) M Q := by subst hq; exact MW.step (Reach.row fun hx hb hL kk => lv_ddiv hx hb hd hne kk) k
theorem am_dcmp {x y : UInt64} {op : CmpOp} (hd : decode Y.cc pc = .ok (.dcmp op, 1)) {q : Nat} (hq : pc + 1 = q) (k : MW G Y d q ls (vI (Op.cmpValue (FP.dcmp x y) op) :: st) M Q) : MW G Y d pc ls (vD y :: vD x :: st) M Q := by subst hq; exact MW.step (Reach.row fun hx hb hL kk => lv_dcmp hx hb hd kk) k
theorem am_dup {v : AV} (hd : decode Y.cc pc = .ok (.dup, 1)) (hv : vC v = 1) {q : Nat} (hq : pc + 1 = q) (k : MW G Y d q ls (v :: v :: st) M Q) : MW G Y d pc ls (v :: st) M Q := by subst hq; exact MW.step (Reach.row fun hx hb hL kk => lv_dup hx hb hd (by rw [vV_cat]; exact hv) kk) k
theorem am_pop {v : AV} (hd : decode Y.cc pc = .ok (.pop, 1)) (hv : vC v = 1) {q : Nat} (hq : pc + 1 = q) (k : MW G Y d q ls (st) M Q) : MW G Y d pc ls (v :: st) M Q := by subst hq; exact MW.step (Reach.row fun hx hb hL kk => lv_pop hx hb hd (by rw [vV_cat]; exact hv) kk) k
theorem am_goto {off : Int} {tgt : Nat} (hd : decode Y.cc pc = .ok (.goto off, 3)) (ht : (pc : Int) + off = (tgt : Int)) (k : MW G Y d tgt ls st M Q) : MW G Y d pc ls st M Q := MW.step (Reach.row fun hx hb hL kk => lv_goto hx hb hd ht kk) k
theorem am_icmp_eq {x y : Int32} {off : Int} {tgt : Nat} (hd : decode Y.cc pc = .ok (.if_icmp .eq off, 3)) (ht : (pc : Int) + off = (tgt : Int)) {q : Nat} (hq : pc + 3 = q) (kt : x = y → MW G Y d tgt ls st M Q) (kf : ¬ x = y → MW G Y d q ls st M Q) : MW G Y d pc ls (vI y :: vI x :: st) M Q := by
  subst hq
  by_cases h : x = y
  · exact MW.step (Reach.row fun hx hb hL kk => lv_icmp_eq hx hb hd ht (fun _ => kk) (fun hn => absurd h hn)) (kt h)
  · exact MW.step (Reach.row fun hx hb hL kk => lv_icmp_eq hx hb hd ht (fun hp => absurd hp h) (fun _ => kk)) (kf h)
theorem am_icmp_ne {x y : Int32} {off : Int} {tgt : Nat} (hd : decode Y.cc pc = .ok (.if_icmp .ne off, 3)) (ht : (pc : Int) + off = (tgt : Int)) {q : Nat} (hq : pc + 3 = q) (kt : ¬ x = y → MW G Y d tgt ls st M Q) (kf : x = y → MW G Y d q ls st M Q) : MW G Y d pc ls (vI y :: vI x :: st) M Q := by
  subst hq
  by_cases h : ¬ x = y
  · exact MW.step (Reach.row fun hx hb hL kk => lv_icmp_ne hx hb hd ht (fun _ => kk) (fun hn => absurd hn h)) (kt h)
  · exact MW.step (Reach.row fun hx hb hL kk => lv_icmp_ne hx hb hd ht (fun hp => absurd hp h) (fun _ => kk)) (kf (Classical.not_not.mp h))
theorem am_icmp_lt {x y : Int32} {off : Int} {tgt : Nat} (hd : decode Y.cc pc = .ok (.if_icmp .lt off, 3)) (ht : (pc : Int) + off = (tgt : Int)) {q : Nat} (hq : pc + 3 = q) (kt : x < y → MW G Y d tgt ls st M Q) (kf : ¬ x < y → MW G Y d q ls st M Q) : MW G Y d pc ls (vI y :: vI x :: st) M Q := by
  subst hq
  by_cases h : x < y
  · exact MW.step (Reach.row fun hx hb hL kk => lv_icmp_lt hx hb hd ht (fun _ => kk) (fun hn => absurd h hn)) (kt h)
  · exact MW.step (Reach.row fun hx hb hL kk => lv_icmp_lt hx hb hd ht (fun hp => absurd hp h) (fun _ => kk)) (kf h)
theorem am_icmp_ge {x y : Int32} {off : Int} {tgt : Nat} (hd : decode Y.cc pc = .ok (.if_icmp .ge off, 3)) (ht : (pc : Int) + off = (tgt : Int)) {q : Nat} (hq : pc + 3 = q) (kt : y ≤ x → MW G Y d tgt ls st M Q) (kf : ¬ y ≤ x → MW G Y d q ls st M Q) : MW G Y d pc ls (vI y :: vI x :: st) M Q := by
  subst hq
  by_cases h : y ≤ x
  · exact MW.step (Reach.row fun hx hb hL kk => lv_icmp_ge hx hb hd ht (fun _ => kk) (fun hn => absurd h hn)) (kt h)
  · exact MW.step (Reach.row fun hx hb hL kk => lv_icmp_ge hx hb hd ht (fun hp => absurd hp h) (fun _ => kk)) (kf h)
theorem am_icmp_gt {x y : Int32} {off : Int} {tgt : Nat} (hd : decode Y.cc pc = .ok (.if_icmp .gt off, 3)) (ht : (pc : Int) + off = (tgt : Int)) {q : Nat} (hq : pc + 3 = q) (kt : y < x → MW G Y d tgt ls st M Q) (kf : ¬ y < x → MW G Y d q ls st M Q) : MW G Y d pc ls (vI y :: vI x :: st) M Q := by
  subst hq
  by_cases h : y < x
  · exact MW.step (Reach.row fun hx hb hL kk => lv_icmp_gt hx hb hd ht (fun _ => kk) (fun hn => absurd h hn)) (kt h)
  · exact MW.step (Reach.row fun hx hb hL kk => lv_icmp_gt hx hb hd ht (fun hp => absurd hp h) (fun _ => kk)) (kf h)
theorem am_icmp_le {x y : Int32} {off : Int} {tgt : Nat} (hd : decode Y.cc pc = .ok (.if_icmp .le off, 3)) (ht : (pc : Int) + off = (tgt : Int)) {q : Nat} (hq : pc + 3 = q) (kt : x ≤ y → MW G Y d tgt ls st M Q) (kf : ¬ x ≤ y → MW G Y d q ls st M Q) : MW G Y d pc ls (vI y :: vI x :: st) M Q := by
  subst hq
  by_cases h : x ≤ y
  · exact MW.step (Reach.row fun hx hb hL kk => lv_icmp_le hx hb hd ht (fun _ => kk) (fun hn => absurd h hn)) (kt h)
  · exact MW.step (Reach.row fun hx hb hL kk => lv_icmp_le hx hb hd ht (fun hp => absurd hp h) (fun _ => kk)) (kf h)
theorem am_if_eq {x : Int32} {off : Int} {tgt : Nat} (hd : decode Y.cc pc = .ok (.ifCond .eq off, 3)) (ht : (pc : Int) + off = (tgt : Int)) {q : Nat} (hq : pc + 3 = q) (kt : x = 0 → MW G Y d tgt ls st M Q) (kf : ¬ x = 0 → MW G Y d q ls st M Q) : MW G Y d pc ls (vI x :: st) M Q := by
  subst hq
  by_cases h : x = 0
  · exact MW.step (Reach.row fun hx hb hL kk => lv_if_eq hx hb hd ht (fun _ => kk) (fun hn => absurd h hn)) (kt h)
  · exact MW.step (Reach.row fun hx hb hL kk => lv_if_eq hx hb hd ht (fun hp => absurd hp h) (fun _ => kk)) (kf h)
theorem am_if_ne {x : Int32} {off : Int} {tgt : Nat} (hd : decode Y.cc pc = .ok (.ifCond .ne off, 3)) (ht : (pc : Int) + off = (tgt : Int)) {q : Nat} (hq : pc + 3 = q) (kt : ¬ x = 0 → MW G Y d tgt ls st M Q) (kf : x = 0 → MW G Y d q ls st M Q) : MW G Y d pc ls (vI x :: st) M Q := by
  subst hq
  by_cases h : ¬ x = 0
  · exact MW.step (Reach.row fun hx hb hL kk => lv_if_ne hx hb hd ht (fun _ => kk) (fun hn => absurd hn h)) (kt h)
  · exact MW.step (Reach.row fun hx hb hL kk => lv_if_ne hx hb hd ht (fun hp => absurd hp h) (fun _ => kk)) (kf (Classical.not_not.mp h))
theorem am_if_lt {x : Int32} {off : Int} {tgt : Nat} (hd : decode Y.cc pc = .ok (.ifCond .lt off, 3)) (ht : (pc : Int) + off = (tgt : Int)) {q : Nat} (hq : pc + 3 = q) (kt : x < 0 → MW G Y d tgt ls st M Q) (kf : ¬ x < 0 → MW G Y d q ls st M Q) : MW G Y d pc ls (vI x :: st) M Q := by
  subst hq
  by_cases h : x < 0
  · exact MW.step (Reach.row fun hx hb hL kk => lv_if_lt hx hb hd ht (fun _ => kk) (fun hn => absurd h hn)) (kt h)
  · exact MW.step (Reach.row fun hx hb hL kk => lv_if_lt hx hb hd ht (fun hp => absurd hp h) (fun _ => kk)) (kf h)
theorem am_if_ge {x : Int32} {off : Int} {tgt : Nat} (hd : decode Y.cc pc = .ok (.ifCond .ge off, 3)) (ht : (pc : Int) + off = (tgt : Int)) {q : Nat} (hq : pc + 3 = q) (kt : 0 ≤ x → MW G Y d tgt ls st M Q) (kf : ¬ 0 ≤ x → MW G Y d q ls st M Q) : MW G Y d pc ls (vI x :: st) M Q := by
  subst hq
  by_cases h : 0 ≤ x
  · exact MW.step (Reach.row fun hx hb hL kk => lv_if_ge hx hb hd ht (fun _ => kk) (fun hn => absurd h hn)) (kt h)
  · exact MW.step (Reach.row fun hx hb hL kk => lv_if_ge hx hb hd ht (fun hp => absurd hp h) (fun _ => kk)) (kf h)
theorem am_if_gt {x : Int32} {off : Int} {tgt : Nat} (hd : decode Y.cc pc = .ok (.ifCond .gt off, 3)) (ht : (pc : Int) + off = (tgt : Int)) {q : Nat} (hq : pc + 3 = q) (kt : 0 < x → MW G Y d tgt ls st M Q) (kf : ¬ 0 < x → MW G Y d q ls st M Q) : MW G Y d pc ls (vI x :: st) M Q := by
  subst hq
  by_cases h : 0 < x
  · exact MW.step (Reach.row fun hx hb hL kk => lv_if_gt hx hb hd ht (fun _ => kk) (fun hn => absurd h hn)) (kt h)
  · exact MW.step (Reach.row fun hx hb hL kk => lv_if_gt hx hb hd ht (fun hp => absurd hp h) (fun _ => kk)) (kf h)
theorem am_if_le {x : Int32} {off : Int} {tgt : Nat} (hd : decode Y.cc pc = .ok (.ifCond .le off, 3)) (ht : (pc : Int) + off = (tgt : Int)) {q : Nat} (hq : pc + 3 = q) (kt : x ≤ 0 → MW G Y d tgt ls st M Q) (kf : ¬ x ≤ 0 → MW G Y d q ls st M Q) : MW G Y d pc ls (vI x :: st) M Q := by
  subst hq
  by_cases h : x ≤ 0
  · exact MW.step (Reach.row fun hx hb hL kk => lv_if_le hx hb hd ht (fun _ => kk) (fun hn => absurd h hn)) (kt h)
  · exact MW.step (Reach.row fun hx hb hL kk => lv_if_le hx hb hd ht (fun hp => absurd hp h) (fun _ => kk)) (kf h)
theorem am_tableOut {dflt lo hi : Int} {offs : Array Int} {len : Nat} {x : Int32} {tgt : Nat} (hd : decode Y.cc pc = .ok (.tableswitch dflt lo hi offs, len)) (h : x.toInt < lo ∨ hi < x.toInt) (ht : (pc : Int) + dflt = (tgt : Int)) (k : MW G Y d tgt ls st M Q) : MW G Y d pc ls (vI x :: st) M Q := MW.step (Reach.row fun hx hb hL kk => lv_tableOut hx hb hd h ht kk) k
theorem am_tableIn {dflt lo hi : Int} {offs : Array Int} {len : Nat} {x : Int32} {off : Int} {tgt : Nat} (hd : decode Y.cc pc = .ok (.tableswitch dflt lo hi offs, len)) (h1 : ¬ x.toInt < lo) (h2 : ¬ hi < x.toInt) (ho : offs[(x.toInt - lo).toNat]? = some off) (ht : (pc : Int) + off = (tgt : Int)) (k : MW G Y d tgt ls st M Q) : MW G Y d pc ls (vI x :: st) M Q := MW.step (Reach.row fun hx hb hL kk => lv_tableIn hx hb hd h1 h2 ho ht kk) k
theorem am_lookup {dflt : Int} {ps : Array (Int × Int)} {len : Nat} {x : Int32} {off : Int} {tgt : Nat} (hd : decode Y.cc pc = .ok (.lookupswitch dflt ps, len)) (hp : (ps.toList.zip (ps.toList.drop 1)).all (fun (a, next) => a.1 < next.1) = true) (ho : Op.lookupswitch.offset ps.toList dflt x.toInt = off) (ht : (pc : Int) + off = (tgt : Int)) (k : MW G Y d tgt ls st M Q) : MW G Y d pc ls (vI x :: st) M Q := MW.step (Reach.row fun hx hb hL kk => lv_lookup hx hb hd hp ho ht kk) k
theorem am_dup2_11 {v u : AV} (hd : decode Y.cc pc = .ok (.dup2, 1)) (hv : vC v = 1) (hu : vC u = 1) {q : Nat} (hq : pc + 1 = q) (k : MW G Y d q ls (v :: u :: v :: u :: st) M Q) : MW G Y d pc ls (v :: u :: st) M Q := by subst hq; exact MW.step (Reach.row fun hx hb hL kk => lv_dup2_11 hx hb hd (by rw [vV_cat]; exact hv) (by rw [vV_cat]; exact hu) kk) k
theorem am_dconst0 (hd : decode Y.cc pc = .ok (.dconst 0, 1)) {q : Nat} (hq : pc + 1 = q) (k : MW G Y d q ls (vD 0 :: st) M Q) : MW G Y d pc ls st M Q := by subst hq; exact MW.step (Reach.row fun hx hb hL kk => lv_dconst0 hx hb hd kk) k
end AMrules
end
section
/-! THE ABSTRACT MACHINE, second part: locals, cells, calls -/
def clr (ls : List (Option AV)) (i : Nat) : List (Option AV) := match i with
  | 0 => ls
  | j + 1 => match ls[j]? with
    | some (some w) => if vC w = 2 then ls.set j none else ls
    | _ => ls
def lsA (ls : List (Option AV)) (i : Nat) (v : AV) : List (Option AV) := (clr ls i).set i (some v)
def lsC (ls : List (Option AV)) (i : Nat) (v : AV) : List (Option AV) := ((clr ls i).set i (some v)).set (i + 1) none
def lsL (ls : List (Option AV)) : List (Nat × Value) := (List.range ls.length).filterMap (fun i => match ls[i]? with
  | some (some v) => some (i, vV v)
  | _ => none)
theorem am_lsL_mem {ls : List (Option AV)} {i : Nat} {v : AV} (h : ls[i]? = some (some v)) : (i, vV v) ∈ lsL ls := by
  refine List.mem_filterMap.mpr ⟨i, List.mem_range.mpr (List.getElem?_eq_some_iff.mp h).1, ?_⟩
  rw [h]
theorem am_LHhas {lsr : Array Slot} {nL : Nat} {ls : List (Option AV)} (h : LH lsr nL ls) : lv_has lsr nL (lsL ls) := by
  refine ⟨h.1, h.2.1, fun q hq => ?_⟩
  obtain ⟨i, -, hi⟩ := List.mem_filterMap.mp hq
  split at hi
  · rename_i v hv
    cases hi
    exact h.2.2.2 _ _ hv
  · cases hi
theorem am_clr_len (ls : List (Option AV)) (i : Nat) : (clr ls i).length = ls.length := by
  cases i with
  | zero => rfl
  | succ j =>
    simp only [clr]
    split
    · split <;> simp
    · rfl
theorem am_clr_get {ls : List (Option AV)} {i j : Nat} {w : AV} (h : (clr ls i)[j]? = some (some w)) : ls[j]? = some (some w) ∧ ¬ (j + 1 = i ∧ vC w = 2) := by
  cases i with
  | zero => exact ⟨h, fun q => by omega⟩
  | succ k =>
    simp only [clr] at h
    split at h
    · rename_i w' hw'
      split at h
      · rename_i h2
        by_cases e : j = k
        · subst e
          rw [List.getElem?_set] at h
          have hl := (List.getElem?_eq_some_iff.mp hw').1
          simp [hl] at h
        · rw [List.getElem?_set, if_neg (fun q => e q.symm)] at h
          exact ⟨h, fun q => e (by omega)⟩
      · rename_i h2
        refine ⟨h, fun q => ?_⟩
        have e : j = k := by omega
        subst e
        rw [hw'] at h
        cases h
        exact h2 q.2
    · rename_i hn
      refine ⟨h, fun q => ?_⟩
      have e : j = k := by omega
      subst e
      exact hn w h
theorem am_LH1 {lsr : Array Slot} {nL i : Nat} {ls : List (Option AV)} {v : AV} (hl : ls.length = nL) (h : lv_has lsr nL ((i, vV v) :: (lsL ls).filter (fun q => !(q.1 == i) && !(q.1 + 1 == i && q.2.category == 2)))) : LH lsr nL (lsA ls i v) := by
  obtain ⟨h1, h2, h3⟩ := h
  refine ⟨h1, h2, by simp [lsA, am_clr_len, hl], fun j w hw => ?_⟩
  simp only [lsA] at hw
  rw [List.getElem?_set] at hw
  by_cases e : i = j
  · subst e
    simp only [if_true] at hw
    split at hw
    · cases hw
      exact h3 _ List.mem_cons_self
    · cases hw
  · rw [if_neg e] at hw
    obtain ⟨a, b⟩ := am_clr_get hw
    refine h3 (j, vV w) (List.mem_cons_of_mem _ (List.mem_filter.mpr ⟨am_lsL_mem a, ?_⟩))
    have e2 : ¬ j = i := fun q => e q.symm
    simp only [vV_cat, Bool.and_eq_true, Bool.not_eq_true', beq_eq_false_iff_ne, ne_eq, Bool.and_eq_false_iff]
    refine ⟨e2, ?_⟩
    by_cases e3 : j + 1 = i
    · exact Or.inr (fun q => b ⟨e3, q⟩)
    · exact Or.inl e3
theorem am_LH2 {lsr : Array Slot} {nL i : Nat} {ls : List (Option AV)} {v : AV} (hl : ls.length = nL) (h : lv_has lsr nL ((i, vV v) :: (lsL ls).filter (fun q => !(q.1 == i) && (!(q.1 == i + 1) && !(q.1 + 1 == i && q.2.category == 2))))) : LH lsr nL (lsC ls i v) := by
  obtain ⟨h1, h2, h3⟩ := h
  refine ⟨h1, h2, by simp [lsC, am_clr_len, hl], fun j w hw => ?_⟩
  simp only [lsC] at hw
  rw [List.getElem?_set] at hw
  by_cases e1 : i + 1 = j
  · rw [if_pos e1] at hw
    split at hw <;> cases hw
  · rw [if_neg e1, List.getElem?_set] at hw
    by_cases e : i = j
    · subst e
      simp only [if_true] at hw
      split at hw
      · cases hw
        exact h3 _ List.mem_cons_self
      · cases hw
    · rw [if_neg e] at hw
      obtain ⟨a, b⟩ := am_clr_get hw
      refine h3 (j, vV w) (List.mem_cons_of_mem _ (List.mem_filter.mpr ⟨am_lsL_mem a, ?_⟩))
      have e2 : ¬ j = i := fun q => e q.symm
      have e4 : ¬ j = i + 1 := fun q => e1 q.symm
      simp only [vV_cat, Bool.and_eq_true, Bool.not_eq_true', beq_eq_false_iff_ne, ne_eq, Bool.and_eq_false_iff]
      refine ⟨e2, e4, ?_⟩
      by_cases e3 : j + 1 = i
      · exact Or.inr (fun q => b ⟨e3, q⟩)
      · exact Or.inl e3
section AMloc
variable {G : Gp} {Y : MD} {d pc pc1 : Nat} {ls ls1 : List (Option AV)} {st stB1' : List AV} {M : AMem} {Q : (Option AV ⊕ Nat) → AMem → Prop}
/-- a row that leaves the memory alone -/
theorem am_loc (h : ∀ {p : Program} {e : Env} {R : Room} {s : State} {m : MethodId} {args : Array Value} {below : List Frame} {meth : Method} {c : Code} {H : Heap} {locs : List Loc} {cells slots : Nat} {lsr : Array Slot} {Q : State → Prop}, p.tables.exec = Jvm.exec → c.code = Y.cc → LH lsr Y.nL ls → (∀ lsr' : Array Slot, LH lsr' Y.nL ls1 → W p G.l e R s m args below meth c H locs cells slots Q (F0 m pc1 lsr' (stB1'.map vV))) → W p G.l e R s m args below meth c H locs cells slots Q (F0 m pc lsr (st.map vV))) : Reach G Y d pc ls st M pc1 ls1 stB1' M :=
  ⟨Nat.le_refl _, Nat.le_refl _, fun p e R s m args below meth c H locs cells slots lsr Q hC hW hS hL hc hs kk => h hC.1 hC.2.1 hL (fun lsr' hL' => by
    have := kk H locs lsr' hW hS hL'
    rw [Nat.sub_self, Nat.sub_self] at this
    exact this)⟩
theorem am_istore {i : Nat} {x : Int32} (hd : decode Y.cc pc = .ok (.istore i, 2)) (hn : i < Y.nL) (hls : lsA ls i (vI x) = ls1) {q : Nat} (hq : pc + 2 = q) (k : MW G Y d q ls1 st M Q) : MW G Y d pc ls (vI x :: st) M Q := by subst hq; exact MW.step (am_loc fun hx hb hL kk => lv_istore hx hb hd (am_LHhas hL) hn rfl (fun lsr' h' => kk lsr' (hls ▸ am_LH1 hL.2.2.1 h'))) k
theorem am_istore_n {i : Fin 4} {x : Int32} (hd : decode Y.cc pc = .ok (.istore_n i, 1)) (hn : (i : Nat) < Y.nL) (hls : lsA ls i (vI x) = ls1) {q : Nat} (hq : pc + 1 = q) (k : MW G Y d q ls1 st M Q) : MW G Y d pc ls (vI x :: st) M Q := by subst hq; exact MW.step (am_loc fun hx hb hL kk => lv_istore_n hx hb hd rfl (am_LHhas hL) hn rfl (fun lsr' h' => kk lsr' (hls ▸ am_LH1 hL.2.2.1 h'))) k
theorem am_astore {i : Nat} {x : Nat} (hd : decode Y.cc pc = .ok (.astore i, 2)) (hn : i < Y.nL) (hls : lsA ls i (vR x) = ls1) {q : Nat} (hq : pc + 2 = q) (k : MW G Y d q ls1 st M Q) : MW G Y d pc ls (vR x :: st) M Q := by subst hq; exact MW.step (am_loc fun hx hb hL kk => lv_astore hx hb hd (am_LHhas hL) hn rfl (fun lsr' h' => kk lsr' (hls ▸ am_LH1 hL.2.2.1 h'))) k
theorem am_astore_n {i : Fin 4} {x : Nat} (hd : decode Y.cc pc = .ok (.astore_n i, 1)) (hn : (i : Nat) < Y.nL) (hls : lsA ls i (vR x) = ls1) {q : Nat} (hq : pc + 1 = q) (k : MW G Y d q ls1 st M Q) : MW G Y d pc ls (vR x :: st) M Q := by subst hq; exact MW.step (am_loc fun hx hb hL kk => lv_astore_n hx hb hd rfl (am_LHhas hL) hn rfl (fun lsr' h' => kk lsr' (hls ▸ am_LH1 hL.2.2.1 h'))) k
theorem am_lstore {i : Nat} {x : Int64} (hd : decode Y.cc pc = .ok (.lstore i, 2)) (hn : i + 1 < Y.nL) (hls : lsC ls i (vJ x) = ls1) {q : Nat} (hq : pc + 2 = q) (k : MW G Y d q ls1 st M Q) : MW G Y d pc ls (vJ x :: st) M Q := by subst hq; exact MW.step (am_loc fun hx hb hL kk => lv_lstore hx hb hd (am_LHhas hL) hn rfl (fun lsr' h' => kk lsr' (hls ▸ am_LH2 hL.2.2.1 h'))) k
theorem am_lstore_n {i : Fin 4} {x : Int64} (hd : decode Y.cc pc = .ok (.lstore_n i, 1)) (hn : (i : Nat) + 1 < Y.nL) (hls : lsC ls i (vJ x) = ls1) {q : Nat} (hq : pc + 1 = q) (k : MW G Y d q ls1 st M Q) : MW G Y d pc ls (vJ x :: st) M Q := by subst hq; exact MW.step (am_loc fun hx hb hL kk => lv_lstore_n hx hb hd rfl (am_LHhas hL) hn rfl (fun lsr' h' => kk lsr' (hls ▸ am_LH2 hL.2.2.1 h'))) k
theorem am_dstore {i : Nat} {x : UInt64} (hd : decode Y.cc pc = .ok (.dstore i, 2)) (hn : i + 1 < Y.nL) (hls : lsC ls i (vD x) = ls1) {q : Nat} (hq : pc + 2 = q) (k : MW G Y d q ls1 st M Q) : MW G Y d pc ls (vD x :: st) M Q := by subst hq; exact MW.step (am_loc fun hx hb hL kk => lv_dstore hx hb hd (am_LHhas hL) hn rfl (fun lsr' h' => kk lsr' (hls ▸ am_LH2 hL.2.2.1 h'))) k
theorem am_iinc {i : Nat} {n : Int} {x v : Int32} (hd : decode Y.cc pc = .ok (.iinc i n, 3)) (hl : ls[i]? = some (some (vI x))) (hn : i < Y.nL) (hv : x + Int32.ofInt n = v) (hls : lsA ls i (vI v) = ls1) (k : MW G Y d (pc + 3) ls1 st M Q) : MW G Y d pc ls st M Q := by
  obtain ⟨q, hq⟩ := List.getElem?_of_mem (am_lsL_mem hl)
  exact MW.step (am_loc fun hx hb hL kk => lv_iinc hx hb hd (am_LHhas hL) hq hv hn rfl (fun lsr' h' => kk lsr' (hls ▸ am_LH1 hL.2.2.1 h'))) k
end AMloc
theorem am_tb (i : Nat) {w : Cond} (h : lw_tbl[i]? = some w) (hg : goodWord w = true) : w ∈ TB := List.mem_filter.mpr ⟨List.mem_of_getElem? h, hg⟩
end
section
/-! THE ABSTRACT MACHINE, third part: cells -/
/-- which fields are final, which are boolean -/
def fnF (ci j : Nat) : Bool := match ci with
  | 0 => [true, false].getD j false
  | 1 => [true, true, true, false, false].getD j false
  | 2 => [true, true, true, true, true, true, true, true, false, false, false, false, false, false, false, false, false, false, false].getD j false
  | 3 => [false, false, false, false, false, false, false, false, false, false].getD j false
  | 4 => [true, false, false, false, false, false, false].getD j false
  | 5 => [false, false, false, false, false, false].getD j false
  | 6 => [true, false, false, false, false, false, false].getD j false
  | 7 => [true, false, false, false, false].getD j false
  | 8 => [true, false].getD j false
  | 9 => [true, true, true, true, false].getD j false
  | 10 => [false, false, false, false].getD j false
  | 11 => [true, true, true, false, false, false].getD j false
  | 12 => [false, false, false, false, false, true, true, true, true, true, false, true, true, true].getD j false
  | 13 => [false, false, false, false, false, false, true, true, true, true, true].getD j false
  | 14 => [false, true, false, false, true, true, true, true, false, false, true, true, true, false, false, false, false, false, true, true, false, false, false, false, false].getD j false
  | _ => false
def zF (ci j : Nat) : Bool := match ci with
  | 3 => [false, false, false, false, false, false, false, false, false, true].getD j false
  | 4 => [false, false, false, false, false, false, true].getD j false
  | _ => false
def am_KD (ci j : Nat) (t : FieldType) : Bool := match kF ci j with
  | 0 => if zF ci j then decide (t = .boolean) else decide (t = .int)
  | 1 => decide (t = .long)
  | _ => t.isReference
def ClF (ci : Nat) (C : String) (T : u_T) (N : Nat) (ty : Nat → FieldType) : Prop :=
  vwCl[ci]? = some (C, T, N) ∧ N = nF ci ∧ (∀ w ∈ u_ws C T N, w ∈ TB) ∧ (∀ k, k < N → parseFieldDescriptor (T k).2.2.1 = some (ty k)) ∧ (∀ a, a < N → ∀ b, b < N → a ≠ b → (T a).2.1 ≠ (T b).2.1) ∧
  (∀ j, j < N → (T j).1 = C ∧ (T j).2.2.2 = fnF ci j ∧ am_KD ci j (ty j) = true) ∧ ci + 1 < 20
set_option maxRecDepth 20000 in
theorem clX0 : ClF 0 RX0 TX0 2 tyX0 := ⟨rfl, rfl, List.forall_mem_cons.mpr ⟨am_tb 279 rfl rfl, List.forall_mem_cons.mpr ⟨am_tb 281 rfl rfl, fun _ h => absurd h List.not_mem_nil⟩⟩, tyX0_ok, nmX0, by decide +kernel, by decide⟩
set_option maxRecDepth 20000 in
theorem clX1 : ClF 1 RX1 TX1 5 tyX1 := ⟨rfl, rfl, List.forall_mem_cons.mpr ⟨am_tb 259 rfl rfl, List.forall_mem_cons.mpr ⟨am_tb 261 rfl rfl, List.forall_mem_cons.mpr ⟨am_tb 263 rfl rfl, List.forall_mem_cons.mpr ⟨am_tb 265 rfl rfl, List.forall_mem_cons.mpr ⟨am_tb 267 rfl rfl, fun _ h => absurd h List.not_mem_nil⟩⟩⟩⟩⟩, tyX1_ok, nmX1, by decide +kernel, by decide⟩
set_option maxRecDepth 20000 in
theorem clX2 : ClF 2 RX2 TX2 19 tyX2 := ⟨rfl, rfl, List.forall_mem_cons.mpr ⟨am_tb 490 rfl rfl, List.forall_mem_cons.mpr ⟨am_tb 492 rfl rfl, List.forall_mem_cons.mpr ⟨am_tb 494 rfl rfl, List.forall_mem_cons.mpr ⟨am_tb 496 rfl rfl, List.forall_mem_cons.mpr ⟨am_tb 498 rfl rfl, List.forall_mem_cons.mpr ⟨am_tb 500 rfl rfl, List.forall_mem_cons.mpr ⟨am_tb 502 rfl rfl, List.forall_mem_cons.mpr ⟨am_tb 504 rfl rfl, List.forall_mem_cons.mpr ⟨am_tb 506 rfl rfl, List.forall_mem_cons.mpr ⟨am_tb 508 rfl rfl, List.forall_mem_cons.mpr ⟨am_tb 510 rfl rfl, List.forall_mem_cons.mpr ⟨am_tb 512 rfl rfl, List.forall_mem_cons.mpr ⟨am_tb 514 rfl rfl, List.forall_mem_cons.mpr ⟨am_tb 516 rfl rfl, List.forall_mem_cons.mpr ⟨am_tb 518 rfl rfl, List.forall_mem_cons.mpr ⟨am_tb 520 rfl rfl, List.forall_mem_cons.mpr ⟨am_tb 522 rfl rfl, List.forall_mem_cons.mpr ⟨am_tb 524 rfl rfl, List.forall_mem_cons.mpr ⟨am_tb 526 rfl rfl, fun _ h => absurd h List.not_mem_nil⟩⟩⟩⟩⟩⟩⟩⟩⟩⟩⟩⟩⟩⟩⟩⟩⟩⟩⟩, tyX2_ok, nmX2, by decide +kernel, by decide⟩
set_option maxRecDepth 20000 in
theorem clX3 : ClF 3 RX3 TX3 10 tyX3 := ⟨rfl, rfl, List.forall_mem_cons.mpr ⟨am_tb 386 rfl rfl, List.forall_mem_cons.mpr ⟨am_tb 388 rfl rfl, List.forall_mem_cons.mpr ⟨am_tb 390 rfl rfl, List.forall_mem_cons.mpr ⟨am_tb 392 rfl rfl, List.forall_mem_cons.mpr ⟨am_tb 394 rfl rfl, List.forall_mem_cons.mpr ⟨am_tb 396 rfl rfl, List.forall_mem_cons.mpr ⟨am_tb 398 rfl rfl, List.forall_mem_cons.mpr ⟨am_tb 400 rfl rfl, List.forall_mem_cons.mpr ⟨am_tb 402 rfl rfl, List.forall_mem_cons.mpr ⟨am_tb 404 rfl rfl, fun _ h => absurd h List.not_mem_nil⟩⟩⟩⟩⟩⟩⟩⟩⟩⟩, tyX3_ok, nmX3, by decide +kernel, by decide⟩
set_option maxRecDepth 20000 in
theorem clX4 : ClF 4 RX4 TX4 7 tyX4 := ⟨rfl, rfl, List.forall_mem_cons.mpr ⟨am_tb 302 rfl rfl, List.forall_mem_cons.mpr ⟨am_tb 304 rfl rfl, List.forall_mem_cons.mpr ⟨am_tb 306 rfl rfl, List.forall_mem_cons.mpr ⟨am_tb 308 rfl rfl, List.forall_mem_cons.mpr ⟨am_tb 310 rfl rfl, List.forall_mem_cons.mpr ⟨am_tb 312 rfl rfl, List.forall_mem_cons.mpr ⟨am_tb 314 rfl rfl, fun _ h => absurd h List.not_mem_nil⟩⟩⟩⟩⟩⟩⟩, tyX4_ok, nmX4, by decide +kernel, by decide⟩
set_option maxRecDepth 20000 in
theorem clX5 : ClF 5 RX5 TX5 6 tyX5 := ⟨rfl, rfl, List.forall_mem_cons.mpr ⟨am_tb 424 rfl rfl, List.forall_mem_cons.mpr ⟨am_tb 426 rfl rfl, List.forall_mem_cons.mpr ⟨am_tb 428 rfl rfl, List.forall_mem_cons.mpr ⟨am_tb 430 rfl rfl, List.forall_mem_cons.mpr ⟨am_tb 432 rfl rfl, List.forall_mem_cons.mpr ⟨am_tb 434 rfl rfl, fun _ h => absurd h List.not_mem_nil⟩⟩⟩⟩⟩⟩, tyX5_ok, nmX5, by decide +kernel, by decide⟩
set_option maxRecDepth 20000 in
theorem clX6 : ClF 6 RX6 TX6 7 tyX6 := ⟨rfl, rfl, List.forall_mem_cons.mpr ⟨am_tb 346 rfl rfl, List.forall_mem_cons.mpr ⟨am_tb 348 rfl rfl, List.forall_mem_cons.mpr ⟨am_tb 350 rfl rfl, List.forall_mem_cons.mpr ⟨am_tb 352 rfl rfl, List.forall_mem_cons.mpr ⟨am_tb 354 rfl rfl, List.forall_mem_cons.mpr ⟨am_tb 356 rfl rfl, List.forall_mem_cons.mpr ⟨am_tb 358 rfl rfl, fun _ h => absurd h List.not_mem_nil⟩⟩⟩⟩⟩⟩⟩, tyX6_ok, nmX6, by decide +kernel, by decide⟩
set_option maxRecDepth 20000 in
theorem clX7 : ClF 7 RX7 TX7 5 tyX7 := ⟨rfl, rfl, List.forall_mem_cons.mpr ⟨am_tb 540 rfl rfl, List.forall_mem_cons.mpr ⟨am_tb 542 rfl rfl, List.forall_mem_cons.mpr ⟨am_tb 544 rfl rfl, List.forall_mem_cons.mpr ⟨am_tb 546 rfl rfl, List.forall_mem_cons.mpr ⟨am_tb 548 rfl rfl, fun _ h => absurd h List.not_mem_nil⟩⟩⟩⟩⟩, tyX7_ok, nmX7, by decide +kernel, by decide⟩
set_option maxRecDepth 20000 in
theorem clX8 : ClF 8 RX8 TX8 2 tyX8 := ⟨rfl, rfl, List.forall_mem_cons.mpr ⟨am_tb 151 rfl rfl, List.forall_mem_cons.mpr ⟨am_tb 153 rfl rfl, fun _ h => absurd h List.not_mem_nil⟩⟩, tyX8_ok, nmX8, by decide +kernel, by decide⟩
set_option maxRecDepth 20000 in
theorem clX9 : ClF 9 RX9 TX9 5 tyX9 := ⟨rfl, rfl, List.forall_mem_cons.mpr ⟨am_tb 227 rfl rfl, List.forall_mem_cons.mpr ⟨am_tb 229 rfl rfl, List.forall_mem_cons.mpr ⟨am_tb 231 rfl rfl, List.forall_mem_cons.mpr ⟨am_tb 233 rfl rfl, List.forall_mem_cons.mpr ⟨am_tb 235 rfl rfl, fun _ h => absurd h List.not_mem_nil⟩⟩⟩⟩⟩, tyX9_ok, nmX9, by decide +kernel, by decide⟩
set_option maxRecDepth 20000 in
theorem clX10 : ClF 10 RX10 TX10 4 tyX10 := ⟨rfl, rfl, List.forall_mem_cons.mpr ⟨am_tb 450 rfl rfl, List.forall_mem_cons.mpr ⟨am_tb 452 rfl rfl, List.forall_mem_cons.mpr ⟨am_tb 454 rfl rfl, List.forall_mem_cons.mpr ⟨am_tb 456 rfl rfl, fun _ h => absurd h List.not_mem_nil⟩⟩⟩⟩, tyX10_ok, nmX10, by decide +kernel, by decide⟩
set_option maxRecDepth 20000 in
theorem clX11 : ClF 11 RX11 TX11 6 tyX11 := ⟨rfl, rfl, List.forall_mem_cons.mpr ⟨am_tb 557 rfl rfl, List.forall_mem_cons.mpr ⟨am_tb 559 rfl rfl, List.forall_mem_cons.mpr ⟨am_tb 561 rfl rfl, List.forall_mem_cons.mpr ⟨am_tb 563 rfl rfl, List.forall_mem_cons.mpr ⟨am_tb 565 rfl rfl, List.forall_mem_cons.mpr ⟨am_tb 567 rfl rfl, fun _ h => absurd h List.not_mem_nil⟩⟩⟩⟩⟩⟩, tyX11_ok, nmX11, by decide +kernel, by decide⟩
set_option maxRecDepth 20000 in
theorem clX12 : ClF 12 RX12 TX12 14 tyX12 := ⟨rfl, rfl, List.forall_mem_cons.mpr ⟨am_tb 1322 rfl rfl, List.forall_mem_cons.mpr ⟨am_tb 1324 rfl rfl, List.forall_mem_cons.mpr ⟨am_tb 1326 rfl rfl, List.forall_mem_cons.mpr ⟨am_tb 1328 rfl rfl, List.forall_mem_cons.mpr ⟨am_tb 1330 rfl rfl, List.forall_mem_cons.mpr ⟨am_tb 1332 rfl rfl, List.forall_mem_cons.mpr ⟨am_tb 1334 rfl rfl, List.forall_mem_cons.mpr ⟨am_tb 1336 rfl rfl, List.forall_mem_cons.mpr ⟨am_tb 1338 rfl rfl, List.forall_mem_cons.mpr ⟨am_tb 1340 rfl rfl, List.forall_mem_cons.mpr ⟨am_tb 1342 rfl rfl, List.forall_mem_cons.mpr ⟨am_tb 1344 rfl rfl, List.forall_mem_cons.mpr ⟨am_tb 1346 rfl rfl, List.forall_mem_cons.mpr ⟨am_tb 1348 rfl rfl, fun _ h => absurd h List.not_mem_nil⟩⟩⟩⟩⟩⟩⟩⟩⟩⟩⟩⟩⟩⟩, tyX12_ok, nmX12, by decide +kernel, by decide⟩
set_option maxRecDepth 20000 in
theorem clX13 : ClF 13 RX13 TX13 11 tyX13 := ⟨rfl, rfl, List.forall_mem_cons.mpr ⟨am_tb 1379 rfl rfl, List.forall_mem_cons.mpr ⟨am_tb 1381 rfl rfl, List.forall_mem_cons.mpr ⟨am_tb 1383 rfl rfl, List.forall_mem_cons.mpr ⟨am_tb 1385 rfl rfl, List.forall_mem_cons.mpr ⟨am_tb 1387 rfl rfl, List.forall_mem_cons.mpr ⟨am_tb 1389 rfl rfl, List.forall_mem_cons.mpr ⟨am_tb 1391 rfl rfl, List.forall_mem_cons.mpr ⟨am_tb 1393 rfl rfl, List.forall_mem_cons.mpr ⟨am_tb 1395 rfl rfl, List.forall_mem_cons.mpr ⟨am_tb 1397 rfl rfl, List.forall_mem_cons.mpr ⟨am_tb 1399 rfl rfl, fun _ h => absurd h List.not_mem_nil⟩⟩⟩⟩⟩⟩⟩⟩⟩⟩⟩, tyX13_ok, nmX13, by decide +kernel, by decide⟩
set_option maxRecDepth 20000 in
theorem clX14 : ClF 14 RX14 TX14 25 tyX14 := ⟨rfl, rfl, List.forall_mem_cons.mpr ⟨am_tb 1427 rfl rfl, List.forall_mem_cons.mpr ⟨am_tb 1429 rfl rfl, List.forall_mem_cons.mpr ⟨am_tb 1431 rfl rfl, List.forall_mem_cons.mpr ⟨am_tb 1433 rfl rfl, List.forall_mem_cons.mpr ⟨am_tb 1435 rfl rfl, List.forall_mem_cons.mpr ⟨am_tb 1437 rfl rfl, List.forall_mem_cons.mpr ⟨am_tb 1439 rfl rfl, List.forall_mem_cons.mpr ⟨am_tb 1441 rfl rfl, List.forall_mem_cons.mpr ⟨am_tb 1443 rfl rfl, List.forall_mem_cons.mpr ⟨am_tb 1445 rfl rfl, List.forall_mem_cons.mpr ⟨am_tb 1447 rfl rfl, List.forall_mem_cons.mpr ⟨am_tb 1449 rfl rfl, List.forall_mem_cons.mpr ⟨am_tb 1451 rfl rfl, List.forall_mem_cons.mpr ⟨am_tb 1453 rfl rfl, List.forall_mem_cons.mpr ⟨am_tb 1455 rfl rfl, List.forall_mem_cons.mpr ⟨am_tb 1457 rfl rfl, List.forall_mem_cons.mpr ⟨am_tb 1459 rfl rfl, List.forall_mem_cons.mpr ⟨am_tb 1461 rfl rfl, List.forall_mem_cons.mpr ⟨am_tb 1463 rfl rfl, List.forall_mem_cons.mpr ⟨am_tb 1465 rfl rfl, List.forall_mem_cons.mpr ⟨am_tb 1467 rfl rfl, List.forall_mem_cons.mpr ⟨am_tb 1469 rfl rfl, List.forall_mem_cons.mpr ⟨am_tb 1471 rfl rfl, List.forall_mem_cons.mpr ⟨am_tb 1473 rfl rfl, List.forall_mem_cons.mpr ⟨am_tb 1475 rfl rfl, fun _ h => absurd h List.not_mem_nil⟩⟩⟩⟩⟩⟩⟩⟩⟩⟩⟩⟩⟩⟩⟩⟩⟩⟩⟩⟩⟩⟩⟩⟩⟩, tyX14_ok, nmX14, by decide +kernel, by decide⟩
/-- a field by its place in the class file's constants -/
def FL (own : String) (index ci j : Nat) : Prop := ∃ (C : String) (T : u_T) (N : Nat) (ty : Nat → FieldType), ClF ci C T N ty ∧ j < N ∧
  ((Cond.fieldLink own index (T j).1 (T j).2.1 (T j).2.2.1) ∈ TB ∨ ∃ host, (Cond.fieldLinkNest own index (T j).1 (T j).2.1 (T j).2.2.1 host) ∈ NL)
theorem am_objL_get {M : AMem} {ci a j : Nat} (h : j < nF ci) : (objL M ci a)[j]? = some (fv M (kF ci j) a j) := by
  simp [objL, h]
theorem am_objL_len (M : AMem) (ci a : Nat) : (objL M ci a).length = nF ci := by simp [objL]
theorem am_cell_obj {ca : Nat → ClassId} {M : AMem} {a ci : Nat} (h : M.K a = ci + 1) (hc : ci + 1 < 20) : cellOf ca M a = .inr (ci, objL M ci a) := by
  unfold cellOf
  rw [if_pos (by omega), h]
  rfl
theorem am_cell_I {ca : Nat → ClassId} {M : AMem} {a : Nat} (h : M.K a = 20) : cellOf ca M a = .inl (ca 0, (M.ln a, .inl (M.I a))) := by
  unfold cellOf
  rw [if_neg (by omega), if_pos h]
theorem am_cell_J {ca : Nat → ClassId} {M : AMem} {a : Nat} (h : M.K a = 21) : cellOf ca M a = .inl (ca 1, (M.ln a, .inr (.inl (M.J a)))) := by
  unfold cellOf
  rw [if_neg (by omega), if_neg (by omega), if_pos h]
theorem am_cell_R {ca : Nat → ClassId} {M : AMem} {a t : Nat} (h : M.K a = 22 + t) : cellOf ca M a = .inl (ca (t + 2), (M.ln a, .inr (.inr (.inr (.inr (M.R a)))))) := by
  unfold cellOf
  rw [if_neg (by omega), if_neg (by omega), if_neg (by omega), h, show 22 + t - 20 = t + 2 by omega]
theorem am_up2_ne {α : Type} {f : Nat → Nat → α} {a b j : Nat} {v : α} (h : b ≠ a) : up2 f a j v b = f b := by
  funext i
  exact if_neg (fun q => h q.1)
theorem am_up2_row {f : Nat → Nat → Int32} {a j : Nat} {v : Int32} : up2 f a j v a = upd (f a) j v := by
  funext i
  simp [up2, upd]
theorem am_up2_rowJ {f : Nat → Nat → Int64} {a j : Nat} {v : Int64} : up2 f a j v a = vp_updL (f a) j v := by
  funext i
  simp [up2, vp_updL]
theorem am_up2_rowR {f : Nat → Nat → Option Nat} {a j : Nat} {v : Option Nat} : up2 f a j v a = va_up (f a) j v := by
  funext i
  simp [up2, va_up]
/-- fields of an object that are one value apart -/
theorem am_objL_set {M M' : AMem} {ci a j : Nat} {v : Value} (h1 : ∀ i, i ≠ j → fv M' (kF ci i) a i = fv M (kF ci i) a i) (h2 : fv M' (kF ci j) a j = v) : objL M' ci a = (objL M ci a).set j v := by
  apply List.ext_getElem?
  intro i
  by_cases hi : i < nF ci
  · by_cases e : j = i
    · subst e
      rw [am_objL_get hi, List.getElem?_set_self (by rw [am_objL_len]; exact hi), h2]
    · rw [am_objL_get hi, List.getElem?_set_ne e, am_objL_get hi, h1 i (fun q => e q.symm)]
  · rw [List.getElem?_eq_none (by rw [am_objL_len]; omega), List.getElem?_eq_none (by rw [List.length_set, am_objL_len]; omega)]
theorem am_cell_off {ca : Nat → ClassId} {M M' : AMem} {b : Nat} (hK : M'.K b = M.K b) (hl : M'.ln b = M.ln b) (hI : M'.I b = M.I b) (hJ : M'.J b = M.J b) (hR : M'.R b = M.R b) : cellOf ca M' b = cellOf ca M b := by
  have ho : ∀ ci, objL M' ci b = objL M ci b := fun ci => by
    unfold objL
    congr 1
    funext j
    unfold fv
    rw [hI, hJ, hR]
  unfold cellOf
  rw [hK, hl, hI, hJ, hR, ho]
/-- a cell of ours, in the list of all -/
theorem am_in {G : Gp} {M : AMem} {H : Heap} {a : Nat} (h : Wd G M H) (ha : M.K a ≠ 0) : ∃ k : Nat, (wsM G M)[k]? = some (a, cellOf G.ca M a) := va_pl_get (X := []) (h.2.2.2.1 a ha)
/-- a cell written anew -/
theorem am_Wd_set {G : Gp} {M M' : AMem} {H H1 : Heap} {a k : Nat} {e : va_E} (h : Wd G M H) (ha : M.K a ≠ 0) (hk : (wsM G M)[k]? = some (a, cellOf G.ca M a)) (hP : va_P G.D vwCl ((wsM G M).set k (a, e)) H1) (hz : H1.size = H.size) (had : M'.ad = M.ad) (hhs : M'.hs = M.hs) (hKK : M'.K = M.K) (hself : cellOf G.ca M' a = e) (hoff : ∀ b, b ≠ a → cellOf G.ca M' b = cellOf G.ca M b) : Wd G M' H1 := by
  have hs : (wsM G M).set k (a, e) = wsM G M' := by
    have := va_pl_set (X := []) (e := e) h.2.1 (h.2.2.2.1 a ha) hk
    refine Eq.trans this ?_
    show va_pl M.ad _ = va_pl M'.ad _
    rw [had]
    exact va_pl_congr fun b => by
      by_cases q : b = a
      · subst q
        rw [hself]
        simp [va_up]
      · rw [hoff b q]
        simp [va_up, q]
  rw [hs] at hP
  refine ⟨hP, ?_, by rw [hz, h.2.2.1, hhs], by rw [hKK, had]; exact h.2.2.2.1, by rw [hhs]; exact h.2.2.2.2⟩
  rw [← hs]
  exact va_D.set h.2.1 hk
section AMcell
variable {G : Gp} {Y : MD} {d pc : Nat} {ls : List (Option AV)} {st : List AV} {M : AMem} {Q : (Option AV ⊕ Nat) → AMem → Prop}
/-- a row that reads memory -/
theorem am_read {pc1 : Nat} {st1' : List AV} (h : ∀ {p : Program} {e : Env} {R : Room} {s : State} {m : MethodId} {args : Array Value} {below : List Frame} {meth : Method} {c : Code} {H : Heap} {locs : List Loc} {cells slots : Nat} {lsr : Array Slot} {Q : State → Prop}, Ctx G Y d p R s m args meth c → Wd G M H → W p G.l e R s m args below meth c H locs cells slots Q (F0 m pc1 lsr (st1'.map vV)) → W p G.l e R s m args below meth c H locs cells slots Q (F0 m pc lsr (st.map vV))) : Reach G Y d pc ls st M pc1 ls st1' M :=
  ⟨Nat.le_refl _, Nat.le_refl _, fun p e R s m args below meth c H locs cells slots lsr Q hC hW hS hL hc hs kk => h hC hW (by
    have := kk H locs lsr hW hS hL
    rw [Nat.sub_self, Nat.sub_self] at this
    exact this)⟩
/-- a row that calls, and leaves memory alone -/
theorem am_read2 {pc1 : Nat} {st1' : List AV} (h : ∀ {p : Program} {e : Env} {R : Room} {s : State} {m : MethodId} {args : Array Value} {below : List Frame} {meth : Method} {c : Code} {H : Heap} {locs : List Loc} {cells slots : Nat} {lsr : Array Slot} {Q : State → Prop}, Ctx G Y d p R s m args meth c → Wd G M H → LH lsr Y.nL ls → cells ≤ R.cells → slots ≤ R.slots → W p G.l e R s m args below meth c H locs cells slots Q (F0 m pc1 lsr (st1'.map vV)) → W p G.l e R s m args below meth c H locs cells slots Q (F0 m pc lsr (st.map vV))) : Reach G Y d pc ls st M pc1 ls st1' M :=
  ⟨Nat.le_refl _, Nat.le_refl _, fun p e R s m args below meth c H locs cells slots lsr Q hC hW hS hL hc hs kk => h hC hW hL (by omega) (by omega) (by
    have := kk H locs lsr hW hS hL
    rw [Nat.sub_self, Nat.sub_self] at this
    exact this)⟩
/-- a row that writes a cell -/
theorem am_write {pc1 : Nat} {st1' : List AV} {M' : AMem} (hhs : M'.hs = M.hs) (hsl : M'.sl = M.sl) (h : ∀ {p : Program} {e : Env} {R : Room} {s : State} {m : MethodId} {args : Array Value} {below : List Frame} {meth : Method} {c : Code} {H : Heap} {locs : List Loc} {cells slots : Nat} {lsr : Array Slot} {Q : State → Prop}, Ctx G Y d p R s m args meth c → Wd G M H → va_S (fun q => G.base ≤ q) s.heap H locs → (∀ (H1 : Heap) (locs1 : List Loc), Wd G M' H1 → va_S (fun q => G.base ≤ q) s.heap H1 locs1 → W p G.l e R s m args below meth c H1 locs1 cells slots Q (F0 m pc1 lsr (st1'.map vV))) → W p G.l e R s m args below meth c H locs cells slots Q (F0 m pc lsr (st.map vV))) : Reach G Y d pc ls st M pc1 ls st1' M' :=
  ⟨Nat.le_of_eq hhs.symm, Nat.le_of_eq hsl.symm, fun p e R s m args below meth c H locs cells slots lsr Q hC hW hS hL hc hs kk => h hC hW hS (fun H1 locs1 hW1 hS1 => by
    have := kk H1 locs1 lsr hW1 hS1 hL
    rw [hhs, hsl, Nat.sub_self, Nat.sub_self] at this
    exact this)⟩
theorem am_getV {index ci j a : Nat} {v : AV} (hd : decode Y.cc pc = .ok (.getfield index, 3)) (hf : FL Y.y.cls index ci j) (hK : M.K a = ci + 1) (hv : fv M (kF ci j) a j = vV v) (k : MW G Y d (pc + 3) ls (v :: st) M Q) : MW G Y d pc ls (vR a :: st) M Q := by
  refine MW.step (am_read (pc1 := pc + 3) (st1' := v :: st) fun hC hW kk => ?_) k
  obtain ⟨C, T, N, ty, ⟨c1, rfl, c3, c4, c5, c6, c7⟩, hj, hl⟩ := hf
  obtain ⟨q, hq⟩ := am_in hW (show M.K a ≠ 0 by omega)
  rw [am_cell_obj hK c7] at hq
  have hv' : (objL M ci a)[j]? = some (vV v) := by rw [am_objL_get hj, hv]
  rcases hl with hl | ⟨host, hl⟩
  · exact va_get hC.1 hC.2.1 hC.2.2.2.2.1 c3 hC.2.2.2.1 hC.2.2.2.2.2.1 hW.1 q hq c1 j hj (hC.2.2.2.2.1 _ hl) (fun _ h9 => h9) hv' hd kk
  · exact va_getN hC.1 hC.2.1 hC.2.2.2.2.1 c3 hC.2.2.2.1 hC.2.2.2.2.2.1 hW.1 q hq c1 j hj (va_Nw.use rfl (hC.2.2.2.2.2.2.2.1.1 _ hl)) (fun _ h9 => h9) hv' hd kk
theorem am_getI {index ci j a : Nat} (hd : decode Y.cc pc = .ok (.getfield index, 3)) (hf : FL Y.y.cls index ci j) (hk : kF ci j = 0) (hK : M.K a = ci + 1) {q : Nat} (hq : pc + 3 = q) (k : MW G Y d q ls (vI (M.I a j) :: st) M Q) : MW G Y d pc ls (vR a :: st) M Q := by subst hq; exact am_getV hd hf hK (by rw [hk]; rfl) k
theorem am_getJ {index ci j a : Nat} (hd : decode Y.cc pc = .ok (.getfield index, 3)) (hf : FL Y.y.cls index ci j) (hk : kF ci j = 1) (hK : M.K a = ci + 1) {q : Nat} (hq : pc + 3 = q) (k : MW G Y d q ls (vJ (M.J a j) :: st) M Q) : MW G Y d pc ls (vR a :: st) M Q := by subst hq; exact am_getV hd hf hK (by rw [hk]; rfl) k
theorem am_getR {index ci j a b : Nat} (hd : decode Y.cc pc = .ok (.getfield index, 3)) (hf : FL Y.y.cls index ci j) (hk : kF ci j = 2) (hK : M.K a = ci + 1) (hR : M.R a j = some b) {q : Nat} (hq : pc + 3 = q) (k : MW G Y d q ls (vR b :: st) M Q) : MW G Y d pc ls (vR a :: st) M Q := by subst hq; exact am_getV hd hf hK (by rw [hk]; show va_rf (M.R a j) = _; rw [hR]; rfl) k
theorem am_fld {D : va_G} {cl : List vw_C} {ci a k : Nat} {fs : List Value} {H1 : Heap} {r : vw_C} {cell : Cell} {v : Value} (hc : cl[ci]? = some r) (q2 : cell.cls = D.1 ci) (q3 : cell.vm = .none) (q4 : ∀ x, x < r.2.2 → cell.slots[D.2 ci x]? = some (vp_V fs x)) (hap : ∀ x y, x < r.2.2 → y < r.2.2 → x ≠ y → D.2 ci x ≠ D.2 ci y) (hk : k < r.2.2) (hl : k < fs.length) (e1 : H1[a]? = some (cell.setSlot (D.2 ci k) v)) : va_at D cl (a, .inr (ci, fs.set k v)) H1 :=
  ⟨r, hc, t_OB.to (V := updV (vp_V fs) k v) ⟨_, e1, q2, q3, t_set q4 hap hk v⟩ (fun j _ => vp_updV_set hl v j)⟩
/-- putfield, whatever the value -/
theorem am_putV {index ci j a : Nat} {v : AV} {M' : AMem} (hd : decode Y.cc pc = .ok (.putfield index, 3)) (hf : FL Y.y.cls index ci j) (hK : M.K a = ci + 1) (hfin : fnF ci j = false ∨ (Y.y.name = "<init>" ∧ ∃ C T N, vwCl[ci]? = some (C, T, N) ∧ C = Y.y.cls ∧ (Cond.fieldLink Y.y.cls index (T j).1 (T j).2.1 (T j).2.2.1) ∈ TB)) (hfit : ∀ ty : FieldType, am_KD ci j ty = true → narrow ty (vV v) = vV v ∧ fits ty (vV v) = true) (had : M'.ad = M.ad) (hhs : M'.hs = M.hs) (hsl : M'.sl = M.sl) (hKK : M'.K = M.K) (hln : M'.ln = M.ln) (hself : ∀ i, i ≠ j → fv M' (kF ci i) a i = fv M (kF ci i) a i) (hj2 : fv M' (kF ci j) a j = vV v) (hoff : ∀ b, b ≠ a → M'.I b = M.I b ∧ M'.J b = M.J b ∧ M'.R b = M.R b) (k : MW G Y d (pc + 3) ls st M' Q) : MW G Y d pc ls (v :: vR a :: st) M Q := by
  refine MW.step (am_write (pc1 := pc + 3) (st1' := st) hhs hsl fun {p e R s m args below meth c H locs cells slots lsr Q0} hC hW hS kk => ?_) k
  obtain ⟨C, T, N, ty, ⟨c1, rfl, c3, c4, c5, c6, c7⟩, hj, hl⟩ := hf
  obtain ⟨q, hq⟩ := am_in hW (show M.K a ≠ 0 by omega)
  have hq0 := hq
  rw [am_cell_obj hK c7] at hq
  obtain ⟨hx, hb, hml, hown, hts, hKK', -, hSS, -, -, hnm⟩ := hC
  obtain ⟨f1, f2, f3⟩ := c6 j hj
  obtain ⟨hn, hft⟩ := hfit (ty j) f3
  have hd1 := c4 j hj
  have hap := va_apart (own := Y.y.cls) hts c3 ty c4 c5 hKK' c1
  obtain ⟨r, h1, cell, q1, q2, q3, q4⟩ := hW.1 q _ hq
  have hr : r = (C, T, nF ci) := Option.some.inj (h1.symm.trans c1)
  subst hr
  obtain ⟨hSl, hfc, kC, hkC, hkind⟩ := hKK'.1 ci _ c1
  obtain ⟨cf, kf, fi, f, hi, hsl'⟩ := hSl j hj
  have hlen : j < (objL M ci a).length := by rw [am_objL_len]; exact hj
  have hst := (u_facts hfc hkC (u_lays hts c3 hj) hi).1
  have done : ∀ H' : Heap, H'[a]? = some (cell.setSlot f.slot (vV v)) → H'.size = H.size → (∀ q : Nat, q ≠ a → H'[q]? = H[q]?) → W p G.l e R s m args below meth c H' (locs ++ [⟨a, f.slot⟩]) cells slots Q0 (F0 m (pc + 3) lsr (st.map vV)) := by
    intro H' e1 e2 e3
    rw [hsl'] at e1
    refine kk H' _ (am_Wd_set hW (show M.K a ≠ 0 by omega) hq0 (hW.1.set hW.2.1 hq (am_fld (D := G.D) h1 q2 q3 q4 hap hj hlen e1) e3) e2 had hhs hKK ?_ (fun b hb => ?_)) (hS.put e2 e3 (hW.2.1.2 q _ hq))
    · rw [am_cell_obj (by rw [hKK]; exact hK) c7, am_objL_set hself hj2]
    · obtain ⟨o1, o2, o3⟩ := hoff b hb
      exact am_cell_off (by rw [hKK]) (by rw [hln]) o1 o2 o3
  rcases hfin with hfin | ⟨hini, C', T', N', g1, g2, g3⟩
  · have hlay := hts _ (c3 _ (u_in_lay hj))
    unfold u_lay at hlay
    rw [if_neg (by rw [f2, hfin]; decide)] at hlay
    have h6 := u_store hfc hkC hkind hlay hi hd1 hn hft
    rcases hl with hl | ⟨host, hl⟩
    · exact W.putK hx hb (f := f) ⟨hown, hts _ hl, ⟨_, _, _, hi⟩, hst⟩ (by rw [q2]; exact h6) q1 q3 (by rw [hsl']; exact k2_hasslot (q4 j hj)) rfl rfl hd done
    · exact va_WputK hx hb (f := f) hown (va_Nw.use rfl (hSS.1 _ hl)) hi hst (by rw [q2]; exact h6) q1 q3 (by rw [hsl']; exact k2_hasslot (q4 j hj)) rfl rfl hd done
  · cases g1.symm.trans c1
    by_cases hfin : fnF ci j = true
    · have hlay := hts _ (c3 _ (u_in_lay hj))
      unfold u_lay at hlay
      rw [if_pos (by rw [f2, hfin])] at hlay
      have hcf : m.cls = cf := by
        obtain ⟨_, _, c', _, _, _, -, -, hf', -, -, -, hown2, -⟩ := Cond.laysFinal_spec hlay
        have e1 : c' = cf := by have := hi.symm.trans hf'; simp at this; exact this.1.symm
        rw [f1, g2] at hown2
        rw [← e1]; exact Option.some.inj (hown.symm.trans hown2)
      have h6 := u_fits hfc hkC hkind (Or.inr hlay) hi hd1 hn hft
      exact W.putFinK hx hb hown (hts _ g3) hi hst hcf (by rw [hnm]; exact hini) (by rw [q2]; exact h6) q1 q3 (by rw [hsl']; exact k2_hasslot (q4 j hj)) rfl rfl hd done
    · have hlay := hts _ (c3 _ (u_in_lay hj))
      unfold u_lay at hlay
      rw [if_neg (by rw [f2]; exact hfin)] at hlay
      have h6 := u_store hfc hkC hkind hlay hi hd1 hn hft
      exact W.putK hx hb (f := f) ⟨hown, hts _ g3, ⟨_, _, _, hi⟩, hst⟩ (by rw [q2]; exact h6) q1 q3 (by rw [hsl']; exact k2_hasslot (q4 j hj)) rfl rfl hd done
end AMcell
end
section
/-! THE ABSTRACT MACHINE, fourth part: put rules, arrays, new cells -/
section AMput
variable {G : Gp} {Y : MD} {d pc : Nat} {ls : List (Option AV)} {st : List AV} {M : AMem} {Q : (Option AV ⊕ Nat) → AMem → Prop}
/-- when a field may be written here -/
def FP (Y : MD) (index ci j : Nat) : Prop := fnF ci j = false ∨ (Y.y.name = "<init>" ∧ ∃ C T N, vwCl[ci]? = some (C, T, N) ∧ C = Y.y.cls ∧ (Cond.fieldLink Y.y.cls index (T j).1 (T j).2.1 (T j).2.2.1) ∈ TB)
theorem am_fitI {ci j : Nat} {x : Int32} (hk : kF ci j = 0) (hz : zF ci j = false ∨ x = 0 ∨ x = 1) : ∀ ty : FieldType, am_KD ci j ty = true → narrow ty (vV (vI x)) = vV (vI x) ∧ fits ty (vV (vI x)) = true := by
  intro ty h
  simp only [am_KD, hk] at h
  split at h
  · rename_i hz2
    have e : ty = .boolean := by simpa using h
    subst e
    rcases hz with hz | rfl | rfl
    · rw [hz] at hz2
      cases hz2
    · exact ⟨rfl, rfl⟩
    · exact ⟨rfl, rfl⟩
  · have e : ty = .int := by simpa using h
    subst e
    exact ⟨rfl, rfl⟩
theorem am_fitJ {ci j : Nat} {x : Int64} (hk : kF ci j = 1) : ∀ ty : FieldType, am_KD ci j ty = true → narrow ty (vV (vJ x)) = vV (vJ x) ∧ fits ty (vV (vJ x)) = true := by
  intro ty h
  simp only [am_KD, hk] at h
  have e : ty = .long := by simpa using h
  subst e
  exact ⟨rfl, rfl⟩
theorem am_fitR {ci j : Nat} {a : Nat} (hk : kF ci j = 2) : ∀ ty : FieldType, am_KD ci j ty = true → narrow ty (vV (vR a)) = vV (vR a) ∧ fits ty (vV (vR a)) = true := by
  intro ty h
  simp only [am_KD, hk] at h
  cases ty <;> first | exact ⟨rfl, rfl⟩ | (exact absurd h (by decide))
theorem am_putI {index ci j a : Nat} {x : Int32} (hd : decode Y.cc pc = .ok (.putfield index, 3)) (hf : FL Y.y.cls index ci j) (hk : kF ci j = 0) (hz : zF ci j = false ∨ x = 0 ∨ x = 1) (hfin : FP Y index ci j) (hK : M.K a = ci + 1) {q : Nat} (hq : pc + 3 = q) (k : MW G Y d q ls st (M.sI a j x) Q) : MW G Y d pc ls (vI x :: vR a :: st) M Q := by
  subst hq
  exact am_putV (M' := M.sI a j x) hd hf hK hfin (am_fitI hk hz) rfl rfl rfl rfl rfl (fun i hi => by
    unfold fv
    split
    · rw [sI_I, if_neg (fun q => hi q.2)]
    · rfl
    · rfl) (by rw [hk]; show Value.int ((M.sI a j x).I a j) = _; rw [sI_I, if_pos ⟨rfl, rfl⟩]; rfl) (fun b hb => ⟨am_up2_ne hb, rfl, rfl⟩) k
theorem am_putJ {index ci j a : Nat} {x : Int64} (hd : decode Y.cc pc = .ok (.putfield index, 3)) (hf : FL Y.y.cls index ci j) (hk : kF ci j = 1) (hfin : FP Y index ci j) (hK : M.K a = ci + 1) {q : Nat} (hq : pc + 3 = q) (k : MW G Y d q ls st (M.sJ a j x) Q) : MW G Y d pc ls (vJ x :: vR a :: st) M Q := by
  subst hq
  exact am_putV (M' := M.sJ a j x) hd hf hK hfin (am_fitJ hk) rfl rfl rfl rfl rfl (fun i hi => by
    unfold fv
    split
    · rfl
    · rw [sJ_J, if_neg (fun q => hi q.2)]
    · rfl) (by rw [hk]; show Value.long ((M.sJ a j x).J a j) = _; rw [sJ_J, if_pos ⟨rfl, rfl⟩]; rfl) (fun b hb => ⟨rfl, am_up2_ne hb, rfl⟩) k
theorem am_putR {index ci j a b : Nat} (hd : decode Y.cc pc = .ok (.putfield index, 3)) (hf : FL Y.y.cls index ci j) (hk : kF ci j = 2) (hfin : FP Y index ci j) (hK : M.K a = ci + 1) {q : Nat} (hq : pc + 3 = q) (k : MW G Y d q ls st (M.sR a j (some b)) Q) : MW G Y d pc ls (vR b :: vR a :: st) M Q := by
  subst hq
  exact am_putV (M' := M.sR a j (some b)) hd hf hK hfin (am_fitR hk) rfl rfl rfl rfl rfl (fun i hi => by
    unfold fv
    split
    · rfl
    · rfl
    · rw [sR_R, if_neg (fun q => hi q.2)]) (by rw [hk]; show va_rf ((M.sR a j (some b)).R a j) = _; rw [sR_R, if_pos ⟨rfl, rfl⟩]; rfl) (fun b hb => ⟨rfl, rfl, am_up2_ne hb⟩) k
theorem am_iaload {a : Nat} {i : Int32} (hd : decode Y.cc pc = .ok (.iaload, 1)) (hK : M.K a = 20) (hin : vp_in i (M.ln a)) {q : Nat} (hq : pc + 1 = q) (k : MW G Y d q ls (vI (M.I a i.toNatClampNeg) :: st) M Q) : MW G Y d pc ls (vI i :: vR a :: st) M Q := by
  subst hq
  refine MW.step (am_read (pc1 := pc + 1) (st1' := vI (M.I a i.toNatClampNeg) :: st) fun hC hW kk => ?_) k
  obtain ⟨q, hq⟩ := am_in hW (show M.K a ≠ 0 by omega)
  rw [am_cell_I hK] at hq
  exact va_iald hC.1 hC.2.1 hC.2.2.2.2.2.1 hW.1 q 0 hq rfl hin hd kk
theorem am_laload {a : Nat} {i : Int32} (hd : decode Y.cc pc = .ok (.laload, 1)) (hK : M.K a = 21) (hin : vp_in i (M.ln a)) {q : Nat} (hq : pc + 1 = q) (k : MW G Y d q ls (vJ (M.J a i.toNatClampNeg) :: st) M Q) : MW G Y d pc ls (vI i :: vR a :: st) M Q := by
  subst hq
  refine MW.step (am_read (pc1 := pc + 1) (st1' := vJ (M.J a i.toNatClampNeg) :: st) fun hC hW kk => ?_) k
  obtain ⟨q, hq⟩ := am_in hW (show M.K a ≠ 0 by omega)
  rw [am_cell_J hK] at hq
  exact va_lald hC.1 hC.2.1 hC.2.2.2.2.2.1 hW.1 q 1 hq rfl hin hd kk
theorem am_tys {ca : Nat → ClassId} {t : Nat} (h : t < 4) : ∃ C : String, (tysOf ca)[t + 2]? = some (ca (t + 2), .object C) ∧ ∃ ci T N, vwCl[ci]? = some (C, T, N) ∧ ci + 20 ≠ 0 := by
  rcases (show t = 0 ∨ t = 1 ∨ t = 2 ∨ t = 3 by omega) with rfl | rfl | rfl | rfl
  · exact ⟨RX6, rfl, 6, _, _, rfl, by decide⟩
  · exact ⟨RX3, rfl, 3, _, _, rfl, by decide⟩
  · exact ⟨RX5, rfl, 5, _, _, rfl, by decide⟩
  · exact ⟨RX10, rfl, 10, _, _, rfl, by decide⟩
theorem am_aaload {a t b : Nat} {i : Int32} (hd : decode Y.cc pc = .ok (.aaload, 1)) (hK : M.K a = 22 + t) (ht : t < 4) (hin : vp_in i (M.ln a)) (hR : M.R a i.toNatClampNeg = some b) {q : Nat} (hq : pc + 1 = q) (k : MW G Y d q ls (vR b :: st) M Q) : MW G Y d pc ls (vI i :: vR a :: st) M Q := by
  subst hq
  refine MW.step (am_read (pc1 := pc + 1) (st1' := vR b :: st) fun hC hW kk => ?_) k
  obtain ⟨q, hq⟩ := am_in hW (show M.K a ≠ 0 by omega)
  rw [am_cell_R hK] at hq
  obtain ⟨C, hC1, -⟩ := am_tys (ca := G.ca) ht
  refine va_aldq hC.1 hC.2.1 hC.2.2.2.2.2.1 hW.1 q (t + 2) hq hC1 hin hd ?_
  rw [hR]
  exact kk
theorem am_alen {a : Nat} {v : Int32} (hd : decode Y.cc pc = .ok (.arraylength, 1)) (hK : 20 ≤ M.K a ∧ M.K a < 26) (hv : nI (M.ln a) = v) {q : Nat} (hq : pc + 1 = q) (k : MW G Y d q ls (vI v :: st) M Q) : MW G Y d pc ls (vR a :: st) M Q := by
  subst hq
  refine MW.step (am_read (pc1 := pc + 1) (st1' := vI v :: st) fun hC hW kk => ?_) k
  obtain ⟨q, hq⟩ := am_in hW (show M.K a ≠ 0 by omega)
  rcases (show M.K a = 20 ∨ M.K a = 21 ∨ ∃ t, M.K a = 22 + t ∧ t < 4 by
    by_cases h1 : M.K a = 20
    · exact Or.inl h1
    · by_cases h2 : M.K a = 21
      · exact Or.inr (Or.inl h2)
      · exact Or.inr (Or.inr ⟨M.K a - 22, by omega, by omega⟩)) with h | h | ⟨t, h, ht⟩
  · rw [am_cell_I h] at hq
    exact va_alen hC.1 hC.2.1 hC.2.2.2.2.2.1 hW.1 q 0 hq (ty := .int) rfl hv hd kk
  · rw [am_cell_J h] at hq
    exact va_alen hC.1 hC.2.1 hC.2.2.2.2.2.1 hW.1 q 1 hq (ty := .long) rfl hv hd kk
  · rw [am_cell_R h] at hq
    obtain ⟨C, hC1, -⟩ := am_tys (ca := G.ca) ht
    exact va_alen hC.1 hC.2.1 hC.2.2.2.2.2.1 hW.1 q (t + 2) hq hC1 hv hd kk
theorem am_iastore {a : Nat} {i x : Int32} (hd : decode Y.cc pc = .ok (.iastore, 1)) (hK : M.K a = 20) (hin : vp_in i (M.ln a)) {q : Nat} (hq : pc + 1 = q) (k : MW G Y d q ls st (M.sI a i.toNatClampNeg x) Q) : MW G Y d pc ls (vI x :: vI i :: vR a :: st) M Q := by
  subst hq
  refine MW.step (am_write (pc1 := pc + 1) (st1' := st) (M' := M.sI a i.toNatClampNeg x) rfl rfl fun hC hW hS kk => ?_) k
  obtain ⟨q, hq⟩ := am_in hW (show M.K a ≠ 0 by omega)
  have hq0 := hq
  rw [am_cell_I hK] at hq
  refine W.iast hC.1 hC.2.1 (hW.1 q _ hq) ((hC.2.2.2.2.2.1.2 0 _ rfl).1 (M.ln a) (fun j => .int (M.I a j))) (fun z => by cases z) (by show ¬ (i < 0 ∨ (arrV _ _ _).slots.size ≤ _); rw [arrV_size]; exact hin) rfl rfl hd fun H1 e1 e2 e3 => ?_
  refine kk H1 _ (am_Wd_set (e := .inl (G.ca 0, (M.ln a, .inl (upd (M.I a) i.toNatClampNeg x)))) hW (show M.K a ≠ 0 by omega) hq0 (hW.1.set hW.2.1 hq ?_ e3) e2 rfl rfl rfl ?_ (fun b hb => am_cell_off rfl rfl (am_up2_ne hb) rfl rfl)) (hS.put e2 e3 (hW.2.1.2 q _ hq))
  · show H1[a]? = some (vp_cell _ _)
    rw [e1, vp_cell_i, vp_cell_i, arrV_store]
    congr 2
    funext z
    by_cases hz : z = i.toNatClampNeg <;> simp [updV, upd, hz]
  · rw [am_cell_I (M := M.sI a i.toNatClampNeg x) hK]
    show Sum.inl (G.ca 0, (M.ln a, Sum.inl (up2 M.I a i.toNatClampNeg x a))) = _
    rw [am_up2_row]
theorem am_lastore {a : Nat} {i : Int32} {x : Int64} (hd : decode Y.cc pc = .ok (.lastore, 1)) (hK : M.K a = 21) (hin : vp_in i (M.ln a)) {q : Nat} (hq : pc + 1 = q) (k : MW G Y d q ls st (M.sJ a i.toNatClampNeg x) Q) : MW G Y d pc ls (vJ x :: vI i :: vR a :: st) M Q := by
  subst hq
  refine MW.step (am_write (pc1 := pc + 1) (st1' := st) (M' := M.sJ a i.toNatClampNeg x) rfl rfl fun hC hW hS kk => ?_) k
  obtain ⟨q, hq⟩ := am_in hW (show M.K a ≠ 0 by omega)
  have hq0 := hq
  rw [am_cell_J hK] at hq
  refine W.last hC.1 hC.2.1 (hW.1 q _ hq) ((hC.2.2.2.2.2.1.2 1 _ rfl).1 (M.ln a) (fun j => .long (M.J a j))) (fun z => by cases z) (by show ¬ (i < 0 ∨ (arrV _ _ _).slots.size ≤ _); rw [arrV_size]; exact hin) rfl rfl hd fun H1 e1 e2 e3 => ?_
  refine kk H1 _ (am_Wd_set (e := .inl (G.ca 1, (M.ln a, .inr (.inl (vp_updL (M.J a) i.toNatClampNeg x))))) hW (show M.K a ≠ 0 by omega) hq0 (hW.1.set hW.2.1 hq ?_ e3) e2 rfl rfl rfl ?_ (fun b hb => am_cell_off rfl rfl rfl (am_up2_ne hb) rfl)) (hS.put e2 e3 (hW.2.1.2 q _ hq))
  · show H1[a]? = some (vp_cell _ _)
    rw [e1, vp_cell_l, vp_cell_l, arrV_store]
    congr 2
    funext z
    by_cases hz : z = i.toNatClampNeg <;> simp [updV, vp_updL, hz]
  · rw [am_cell_J (M := M.sJ a i.toNatClampNeg x) hK]
    show Sum.inl (G.ca 1, (M.ln a, Sum.inr (Sum.inl (up2 M.J a i.toNatClampNeg x a)))) = _
    rw [am_up2_rowJ]
theorem am_aastore {a t b ci : Nat} {i : Int32} {C : String} {T : u_T} {N : Nat} (hd : decode Y.cc pc = .ok (.aastore, 1)) (hK : M.K a = 22 + t) (hty : (tysOf G.ca)[t + 2]? = some (G.ca (t + 2), .object C)) (hc : vwCl[ci]? = some (C, T, N)) (hc20 : ci + 1 < 20) (hin : vp_in i (M.ln a)) (hKb : M.K b = ci + 1) {q : Nat} (hq : pc + 1 = q) (k : MW G Y d q ls st (M.sR a i.toNatClampNeg (some b)) Q) : MW G Y d pc ls (vR b :: vI i :: vR a :: st) M Q := by
  subst hq
  refine MW.step (am_write (pc1 := pc + 1) (st1' := st) (M' := M.sR a i.toNatClampNeg (some b)) rfl rfl fun hC hW hS kk => ?_) k
  obtain ⟨q, hq⟩ := am_in hW (show M.K a ≠ 0 by omega)
  obtain ⟨qb, hqb⟩ := am_in hW (show M.K b ≠ 0 by omega)
  have hq0 := hq
  rw [am_cell_R hK] at hq
  rw [am_cell_obj hKb hc20] at hqb
  have hlt : i.toNatClampNeg < M.ln a := Nat.not_le.mp fun q => hin (Or.inr q)
  have h0 : ¬ i < 0 := fun q => hin (Or.inl q)
  have hKK := hC.2.2.2.2.2.1
  obtain ⟨r', hr', cellV, g1, g2, g3, -⟩ := hW.1 qb _ hqb
  have hcls := (hKK.1 ci _ hc).2
  obtain ⟨kA, comp, k1, k2, k3, -⟩ := (hKK.2 (t + 2) _ hty).2
  have hcomp : comp = G.D.1 ci := Option.some.inj (k3.symm.trans hcls.1)
  subst hcomp
  obtain ⟨kC, hkC, -⟩ := hcls.2
  refine W.aast hC.1 hC.2.1 (hW.1 q _ hq) (fun q h => by cases h) (fun h => by cases h) k1 k2 rfl hkC ⟨h0, by show _ < (arrV _ _ _).slots.size; rw [arrV_size]; exact hlt⟩ g1 (fun q h => by rw [g3] at h; cases h) (by rw [g2]; exact hkC) (by rw [g2]; exact va_assign hcls) rfl rfl hd fun H1 e1 e2 e3 => ?_
  refine kk H1 _ (am_Wd_set (e := .inl (G.ca (t + 2), (M.ln a, .inr (.inr (.inr (.inr (va_up (M.R a) i.toNatClampNeg (some b)))))))) hW (show M.K a ≠ 0 by omega) hq0 (hW.1.set hW.2.1 hq ?_ e3) e2 rfl rfl rfl ?_ (fun b hb => am_cell_off rfl rfl rfl rfl (am_up2_ne hb))) (hS.put e2 e3 (hW.2.1.2 q _ hq))
  · show H1[a]? = some (vp_cell _ _)
    rw [e1, vp_cell_q, vp_cell_q, arrV_store]
    congr 2
    funext z
    by_cases hz : z = i.toNatClampNeg
    · subst hz
      simp [updV, va_up, va_rf]
    · simp [updV, va_up, hz]
  · rw [am_cell_R (M := M.sR a i.toNatClampNeg (some b)) hK]
    show Sum.inl (G.ca (t + 2), (M.ln a, Sum.inr (Sum.inr (Sum.inr (Sum.inr (up2 M.R a i.toNatClampNeg (some b) a)))))) = _
    rw [am_up2_rowR]
/-- a cell more, at the heap's end -/
theorem am_Wd_new {G : Gp} {M : AMem} {H H1 : Heap} {kd n : Nat} (h : Wd G M H) (hk : kd ≠ 0) (hat : va_at G.D vwCl (M.hs, cellOf G.ca (M.nw kd n) M.hs) H1) (hz : H1.size = M.hs + 1) (hoff : ∀ q : Nat, q < M.hs → H1[q]? = H[q]?) : Wd G (M.nw kd n) H1 := by
  obtain ⟨hP, hD, hs, hin, hb⟩ := h
  have hlt : ∀ b ∈ M.ad, b < M.hs := fun b hb => by
    have := va_pl_lt (X := []) hP hb
    rw [hs] at this
    exact this
  have hsame : ∀ b, b ≠ M.hs → cellOf G.ca (M.nw kd n) b = cellOf G.ca M b := fun b hb => by
    refine am_cell_off ?_ ?_ ?_ ?_ ?_
    · exact if_neg hb
    · exact if_neg hb
    · funext i
      exact if_neg hb
    · funext i
      exact if_neg hb
    · funext i
      exact if_neg hb
  have hws : wsM G (M.nw kd n) = wsM G M ++ [(M.hs, cellOf G.ca (M.nw kd n) M.hs)] := by
    show (M.ad ++ [M.hs]).map _ = M.ad.map _ ++ _
    rw [List.map_append]
    congr 1
    exact List.map_congr_left fun b hb => by rw [hsame b (Nat.ne_of_lt (hlt b hb))]
  have hP1 : va_P G.D vwCl (wsM G M) H1 := hP.kept (fun k q hk => hoff q.1 (by have := (hP k q hk).lt; rw [hs] at this; exact this))
  refine ⟨?_, ?_, hz, ?_, by show G.base ≤ M.hs + 1; omega⟩
  · rw [hws]
    refine hP1.app (fun k q hk => ?_)
    have hz : k < 1 := (List.getElem?_eq_some_iff.mp hk).1
    rw [show k = 0 by omega] at hk
    cases hk
    exact hat
  · rw [hws]
    exact hD.push hP hs.symm hb
  · intro a ha
    by_cases e : a = M.hs
    · subst e
      exact List.mem_append_right _ List.mem_cons_self
    · refine List.mem_append_left _ (hin a ?_)
      rw [nw_K, if_neg e] at ha
      exact ha
theorem am_S_new {A : Nat → Prop} {H0 H H1 : Heap} {locs : List Loc} (h : va_S A H0 H locs) (hz : H1.size = H.size + 1) (hoff : ∀ q : Nat, q < H.size → H1[q]? = H[q]?) : va_S A H0 H1 locs :=
  ⟨Nat.le_trans h.1 (by omega), fun q h1 h2 => (hoff q (Nat.lt_of_lt_of_le h1 h.1)).trans (h.2.1 q h1 h2), h.2.2⟩
def CN (own : String) (index ci : Nat) : Prop := ∃ (C : String) (T : u_T) (N : Nat) (ty : Nat → FieldType), ClF ci C T N ty ∧ (Cond.classLink own index C) ∈ TB ∧ (Cond.instantiable C N) ∈ TB ∧ (Cond.initialized C) ∈ TB
/-- a row that makes a cell -/
theorem am_make {pc1 kd n : Nat} {st1' : List AV} (h : ∀ {p : Program} {e : Env} {R : Room} {s : State} {m : MethodId} {args : Array Value} {below : List Frame} {meth : Method} {c : Code} {H : Heap} {locs : List Loc} {cells slots : Nat} {lsr : Array Slot} {Q : State → Prop}, Ctx G Y d p R s m args meth c → Wd G M H → va_S (fun q => G.base ≤ q) s.heap H locs → cells + 1 ≤ R.cells → slots + n ≤ R.slots → (∀ (H1 : Heap), Wd G (M.nw kd n) H1 → va_S (fun q => G.base ≤ q) s.heap H1 locs → W p G.l e R s m args below meth c H1 locs (cells + 1) (slots + n) Q (F0 m pc1 lsr (st1'.map vV))) → W p G.l e R s m args below meth c H locs cells slots Q (F0 m pc lsr (st.map vV))) : Reach G Y d pc ls st M pc1 ls st1' (M.nw kd n) :=
  ⟨by rw [nw_hs]; omega, by rw [nw_sl]; omega, fun p e R s m args below meth c H locs cells slots lsr Q hC hW hS hL hc hs kk => by
    have e1 : (M.nw kd n).hs - M.hs = 1 := by rw [nw_hs]; omega
    have e2 : (M.nw kd n).sl - M.sl = n := by rw [nw_sl]; omega
    rw [e1] at hc kk
    rw [e2] at hs kk
    exact h hC hW hS hc hs (fun H1 hW1 hS1 => kk H1 locs lsr hW1 hS1 hL)⟩
theorem am_new {index ci : Nat} (hd : decode Y.cc pc = .ok (.new index, 3)) (hc : CN Y.y.cls index ci) {q : Nat} (hq : pc + 3 = q) (k : MW G Y d q ls (vR M.hs :: st) (M.nw (ci + 1) (nF ci)) Q) : MW G Y d pc ls st M Q := by
  subst hq
  refine MW.step (am_make (pc1 := pc + 3) (st1' := vR M.hs :: st) fun hC hW hS hcl hsl kk => ?_) k
  obtain ⟨C, T, N, ty, ⟨c1, rfl, c3, c4, c5, c6, c7⟩, l1, l2, l3⟩ := hc
  have hts := hC.2.2.2.2.1
  have hKn := hC.2.2.2.2.2.1.1 ci _ c1
  refine W.newcK hC.1 hC.2.1 hC.2.2.2.1 (hts _ l1) (hts _ l2) (hts _ l3) rfl hd hcl hsl hKn.2.1 hW.2.2.1 fun H1 kC hkC e1 z1 o1 => ?_
  refine kk H1 (am_Wd_new hW (by omega) ?_ z1 o1) (am_S_new hS (by rw [z1, hW.2.2.1]) (fun q hq => o1 q (by rw [← hW.2.2.1]; exact hq)))
  rw [am_cell_obj (M := M.nw (ci + 1) (nF ci)) (by rw [nw_K, if_pos rfl]) c7]
  refine ⟨_, c1, (u_born ty hts c3 hKn hkC e1 c4).to (fun j hj => ?_)⟩
  have f3 := (c6 j hj).2.2
  have hg : (objL (M.nw (ci + 1) (nF ci)) ci M.hs)[j]? = some (fv (M.nw (ci + 1) (nF ci)) (kF ci j) M.hs j) := am_objL_get hj
  have hv : vp_V (objL (M.nw (ci + 1) (nF ci)) ci M.hs) j = fv (M.nw (ci + 1) (nF ci)) (kF ci j) M.hs j := by
    unfold vp_V
    rw [List.getD_eq_getElem?_getD, hg]
    rfl
  rw [hv]
  unfold am_KD at f3
  unfold fv
  split at f3
  · rename_i hk
    rw [hk]
    show _ = Value.int ((M.nw (ci + 1) (nF ci)).I M.hs j)
    rw [nw_I, if_pos rfl]
    split at f3
    · have e : ty j = .boolean := by simpa using f3
      rw [e]
      rfl
    · have e : ty j = .int := by simpa using f3
      rw [e]
      rfl
  · rename_i hk
    rw [hk]
    show _ = Value.long ((M.nw (ci + 1) (nF ci)).J M.hs j)
    rw [nw_J, if_pos rfl]
    have e : ty j = .long := by simpa using f3
    rw [e]
    rfl
  · rename_i h1 h2
    have hR : (M.nw (ci + 1) (nF ci)).R M.hs j = none := by rw [nw_R, if_pos rfl]
    split
    · rename_i hk
      exact absurd hk h1
    · rename_i hk
      exact absurd hk h2
    · rw [hR]
      revert f3
      cases ty j <;> first | (intro _; rfl) | (intro h; exact absurd h (by decide))
theorem am_newI {x : Int32} {n : Nat} (hd : decode Y.cc pc = .ok (.newarray .int, 2)) (hx0 : ¬ x < 0) (hn : x.toNatClampNeg = n) (hb : n * 4 ≤ 536870912) {q : Nat} (hq : pc + 2 = q) (k : MW G Y d q ls (vR M.hs :: st) (M.nw 20 n) Q) (hin : Cond.arrayClass .int ∈ TB) : MW G Y d pc ls (vI x :: st) M Q := by
  subst hq
  refine MW.step (am_make (pc1 := pc + 2) (st1' := vR M.hs :: st) fun hC hW hS hcl hsl kk => ?_) k
  refine va_newaK hC.1 hC.2.1 (atype := .int) (hC.2.2.2.2.1 _ hin) rfl hd rfl hx0 hn hb hcl hsl hW.2.2.1 fun H1 cA e1 z1 o1 hAr hNm => ?_
  have hcA : cA = G.ca 0 := Option.some.inj (hNm.symm.trans (hC.2.2.2.2.2.1.2 0 _ rfl).2)
  subst hcA
  refine kk H1 (am_Wd_new hW (by omega) ?_ z1 o1) (am_S_new hS (by rw [z1, hW.2.2.1]) (fun q hq => o1 q (by rw [← hW.2.2.1]; exact hq)))
  rw [am_cell_I (M := M.nw 20 n) (by rw [nw_K, if_pos rfl])]
  show H1[M.hs]? = some (vp_cell _ _)
  rw [e1, vp_cell_i]
  have h2 : (M.nw 20 n).ln M.hs = n := by rw [nw_ln, if_pos rfl]
  rw [h2]
  congr 2
  funext j
  rw [nw_I, if_pos rfl]
  rfl
theorem am_newJ {x : Int32} {n : Nat} (hd : decode Y.cc pc = .ok (.newarray .long, 2)) (hx0 : ¬ x < 0) (hn : x.toNatClampNeg = n) (hb : n * 8 ≤ 536870912) {q : Nat} (hq : pc + 2 = q) (k : MW G Y d q ls (vR M.hs :: st) (M.nw 21 n) Q) (hin : Cond.arrayClass .long ∈ TB) : MW G Y d pc ls (vI x :: st) M Q := by
  subst hq
  refine MW.step (am_make (pc1 := pc + 2) (st1' := vR M.hs :: st) fun hC hW hS hcl hsl kk => ?_) k
  refine va_newaK hC.1 hC.2.1 (atype := .long) (hC.2.2.2.2.1 _ hin) rfl hd rfl hx0 hn hb hcl hsl hW.2.2.1 fun H1 cA e1 z1 o1 hAr hNm => ?_
  have hcA : cA = G.ca 1 := Option.some.inj (hNm.symm.trans (hC.2.2.2.2.2.1.2 1 _ rfl).2)
  subst hcA
  refine kk H1 (am_Wd_new hW (by omega) ?_ z1 o1) (am_S_new hS (by rw [z1, hW.2.2.1]) (fun q hq => o1 q (by rw [← hW.2.2.1]; exact hq)))
  rw [am_cell_J (M := M.nw 21 n) (by rw [nw_K, if_pos rfl])]
  show H1[M.hs]? = some (vp_cell _ _)
  rw [e1, vp_cell_l]
  have h2 : (M.nw 21 n).ln M.hs = n := by rw [nw_ln, if_pos rfl]
  rw [h2]
  congr 2
  funext j
  rw [nw_J, if_pos rfl]
  rfl
theorem am_newR {index t : Nat} {C : String} {x : Int32} {n : Nat} (hd : decode Y.cc pc = .ok (.anewarray index, 3)) (hl : Cond.classLink Y.y.cls index C ∈ TB) (ho : Cond.arrayOver (.object C) ∈ TB) (hty : (tysOf G.ca)[t + 2]? = some (G.ca (t + 2), .object C)) (hx0 : ¬ x < 0) (hn : x.toNatClampNeg = n) (hb : n * 4 ≤ 536870912) {q : Nat} (hq : pc + 3 = q) (k : MW G Y d q ls (vR M.hs :: st) (M.nw (22 + t) n) Q) : MW G Y d pc ls (vI x :: st) M Q := by
  subst hq
  subst hn
  refine MW.step (am_make (pc1 := pc + 3) (st1' := vR M.hs :: st) fun {p e R s m args below meth c H locs cells slots lsr Q0} hC hW hS hcl hsl kk => ?_) k
  refine W.anew hC.1 hC.2.1 hC.2.2.2.1 (hC.2.2.2.2.1 _ hl) (hC.2.2.2.2.1 _ ho) rfl hd rfl hx0 hb hcl hsl fun cA kA comp f1 f2 f3 f4 => ?_
  obtain ⟨_, _, -, -, -, hNm⟩ := (hC.2.2.2.2.2.1.2 (t + 2) _ hty).2
  have hcA : cA = G.ca (t + 2) := Option.some.inj (f1.symm.trans hNm)
  subst hcA
  have hsz := hW.2.2.1
  generalize hH1 : H.push ({ cls := G.ca (t + 2), slots := Array.replicate x.toNatClampNeg .null, vm := .none } : Cell) = H1
  have z1 : H1.size = M.hs + 1 := by rw [← hH1, Array.size_push, hsz]
  have e1 : H1[M.hs]? = some (arrV (G.ca (t + 2)) x.toNatClampNeg (fun _ => .null)) := by rw [← hH1, ← hsz, Array.getElem?_push_size, ← arrV_new]
  have o1 : ∀ q : Nat, q < M.hs → H1[q]? = H[q]? := fun q hq => by rw [← hH1, Array.getElem?_push, if_neg (by omega)]
  rw [hsz]
  refine kk H1 (am_Wd_new hW (by omega) ?_ z1 o1) (am_S_new hS (by rw [z1, hsz]) (fun q hq => o1 q (by rw [← hsz]; exact hq)))
  rw [am_cell_R (M := M.nw (22 + t) x.toNatClampNeg) (by rw [nw_K, if_pos rfl])]
  show H1[M.hs]? = some (vp_cell _ _)
  rw [e1, vp_cell_q]
  have h2 : (M.nw (22 + t) x.toNatClampNeg).ln M.hs = x.toNatClampNeg := by rw [nw_ln, if_pos rfl]
  rw [h2]
  congr 2
  funext j
  rw [nw_R, if_pos rfl]
  rfl
end AMput
end
section
/-! THE ABSTRACT MACHINE, fifth part: calls -/
def entA (args : List AV) : List (Option AV) := args.flatMap (fun v => if vC v = 2 then [some v, none] else [some v])
/-- the locals of a method at its entry -/
def ent (nL : Nat) (args : List AV) : List (Option AV) := entA args ++ List.replicate (nL - (entA args).length) none
theorem am_entA_sl : ∀ args : List AV, (lg_sl (args.map vV)).length = (entA args).length := by
  intro args
  induction args with
  | nil => rfl
  | cons v t ih =>
    have e : ∀ (l : List Value) (x : Value), (lg_sl (x :: l)).length = (if x.category = 2 then 2 else 1) + (lg_sl l).length := by
      intro l x
      unfold lg_sl
      rw [List.flatMap_cons, List.length_append]
      congr 1
      split <;> rfl
    have e2 : (entA (v :: t)).length = (if vC v = 2 then 2 else 1) + (entA t).length := by
      unfold entA
      rw [List.flatMap_cons, List.length_append]
      congr 1
      split <;> rfl
    rw [List.map_cons, e, e2, ih, vV_cat]
theorem am_args : ∀ (args : List AV) (k i : Nat) (v : AV), (entA args)[i]? = some (some v) → (k + i, vV v) ∈ lv_args k (args.map vV) := by
  intro args
  induction args with
  | nil => intro k i v h; simp [entA] at h
  | cons u t ih =>
    intro k i v h
    have e2 : entA (u :: t) = (if vC u = 2 then [some u, none] else [some u]) ++ entA t := by
      unfold entA
      rw [List.flatMap_cons]
    rw [e2] at h
    show (k + i, vV v) ∈ (k, vV u) :: lv_args (if (vV u).category = 2 then k + 2 else k + 1) (t.map vV)
    rw [vV_cat]
    by_cases hc : vC u = 2
    · rw [if_pos hc] at h ⊢
      rcases i with _ | _ | i
      · simp at h
        rw [h]
        exact List.mem_cons_self
      · simp at h
      · refine List.mem_cons_of_mem _ ?_
        have := ih (k + 2) i v (by simpa using h)
        rw [show k + (i + 1 + 1) = k + 2 + i by omega]
        exact this
    · rw [if_neg hc] at h ⊢
      rcases i with _ | i
      · simp at h
        rw [h]
        exact List.mem_cons_self
      · refine List.mem_cons_of_mem _ ?_
        have := ih (k + 1) i v (by simpa using h)
        rw [show k + (i + 1) = k + 1 + i by omega]
        exact this
theorem am_entry {nL : Nat} {args : List AV} (h : (entA args).length ≤ nL) : ∃ ls : Array Slot, (lg_sl (args.map vV) ++ List.replicate (nL - (lg_sl (args.map vV)).length) Slot.unset).toArray = ls ∧ LH ls nL (ent nL args) := by
  refine ⟨_, rfl, ?_⟩
  have hl := lv_entry (args.map vV) (n := nL) (by rw [am_entA_sl]; exact h)
  refine ⟨hl.1, hl.2.1, by simp [ent]; omega, fun i v hv => ?_⟩
  unfold ent at hv
  have hv' : (entA args)[i]? = some (some v) := by
    by_cases hi : i < (entA args).length
    · rw [List.getElem?_append_left hi] at hv
      exact hv
    · rw [List.getElem?_append_right (by omega)] at hv
      have := List.mem_of_getElem? hv
      have := (List.mem_replicate.mp this).2
      cases this
  have := am_args args 0 i v hv'
  rw [Nat.zero_add] at this
  exact hl.2.2 _ this
def PB (G : Gp) (M : AMem) (U : State) : Prop := Wd G M U.heap ∧ va_K G.D vwCl (tysOf G.ca) U ∧ SS G U
def QB (G : Gp) (r : Option AV) (M' : AMem) : Array Value → State → Outcome → State → Prop := fun _ st o t => o = .returned (r.map vV) ∧ Wd G M' t.heap ∧ va_F (fun q => G.base ≤ q) st t
abbrev rmD (d mc ms : Nat) : Room := { frames := d + 2, cells := mc, slots := ms, locals := (d + 2) * 40 }
abbrev wsY (Y : MD) : List Cond := Cond.code Y.y Y.cc Y.nL Y.rt :: TB
/-- a walk from a method's entry to its return is a contract -/
theorem am_met {G : Gp} {Y : MD} {d : Nat} {args : List AV} {M M' : AMem} {pcR : Nat} {lsR : List (Option AV)} {stR : List AV} {r : Option AV} (hpl : plainName Y.y.cls = true) (hlen : (entA args).length ≤ Y.nL) (h : Reach G Y d 0 (ent Y.nL args) [] M pcR lsR stR M') (he : isEnd Y pcR stR (.inl r)) : Met G.l Y.y (wsY Y) (rmD d (M'.hs - M.hs) (M'.sl - M.sl)) (va_Pc (args.map vV) (PB G M)) (QB G r M') (M'.hs - M.hs) (M'.sl - M.sl) (fun q => G.base ≤ q) := by
  refine Met.ofW (cc := Y.cc) (maxL := Y.nL) (ret := Y.rt) hpl rfl ?_
  intro p e s m args' below meth c s₁ B hml hv
  obtain ⟨rfl, hW, hK, hST⟩ := hv
  have hts0 := atoms_spec (ws := wsY Y) B.pre
  have hC : Ctx G Y d p (rmD d (M'.hs - M.hs) (M'.sl - M.sl)) s m (args.map vV).toArray meth c :=
    ⟨B.exec, B.bytes, hml, findClass_of_methodNamed B.named, fun w hw => hts0 w (List.mem_cons_of_mem _ hw), hK, by rw [hW.2.2.1]; exact hW.2.2.2.2, hST, Nat.le_refl _, Nat.le_refl _, (name_of_methodNamed B.named B.method).1⟩
  obtain ⟨lsr, hls, hL⟩ := am_entry (nL := Y.nL) hlen
  rw [lg_entry_eq, hls]
  have hr := B.returns
  have hlocks := B.notSynchronized
  refine h.2.2 p e _ s m _ below meth c s.heap [] 0 0 lsr _ hC hW va_S.rf hL (by show 0 + _ ≤ M'.hs - M.hs; omega) (by show 0 + _ ≤ M'.sl - M.sl; omega) (fun H' locs' lsr' hW' hS' hL' => ?_)
  rw [Nat.zero_add, Nat.zero_add]
  have hq : ∀ t : State, t.heap = H' → QB G r M' (args.map vV).toArray s (.returned (r.map vV)) t := fun t ht => ⟨rfl, by rw [ht]; exact hW', hS'.F ht⟩
  rcases r with _ | (x | x | x | x)
  · obtain ⟨h1, rfl, h3⟩ := he
    rw [h3] at hr
    exact W.vret B.exec B.bytes hr (fun t ht _ => hq t ht) hS'.2.2 h1
  · obtain ⟨rfl, h1, ty, h3, h4⟩ := he
    rw [h3] at hr
    exact W.zret B.exec B.bytes hr h4 (fun t ht _ => hq t ht) hS'.2.2 h1
  · obtain ⟨rfl, h1, h3⟩ := he
    rw [h3] at hr
    exact W.lret B.exec B.bytes hr (fun t ht _ => hq t ht) hS'.2.2 h1
  · obtain ⟨rfl, h1, h3⟩ := he
    rw [h3] at hr
    exact W.dret B.exec B.bytes hr (fun t ht _ => hq t ht) hS'.2.2 h1
  · obtain ⟨rfl, h1, rt, h3, h4⟩ := he
    rw [h3] at hr
    refine W.aret B.exec B.bytes hr h4 ?_ (fun t ht _ => hq t ht) hS'.2.2 h1
    rcases x with _ | a
    · exact Or.inl rfl
    · exact Or.inr ⟨a, rfl⟩
section AMcall
variable {p : Program} {l : Launch} {e : Env} {R : Room} {s : State} {m : MethodId} {args : Array Value} {below : List Frame} {meth : Method} {c : Code} {H : Heap} {locs : List Loc} {cells slots : Nat} {Q : State → Prop}
theorem am_tail {G : Gp} {pc mc ms : Nat} {lsr : Array Slot} {rest st0 : List Value} {r : Option AV} {M1 : AMem} {a : Array Value} (hr : va_Run p l e R s m args below meth c H locs cells slots mc ms (F0 m pc lsr st0) rest (QB G r M1 a) (fun q => G.base ≤ q)) (hS : va_S (fun q => G.base ≤ q) s.heap H locs) (kk : ∀ (H1 : Heap) (locs1 : List Loc), Wd G M1 H1 → va_S (fun q => G.base ≤ q) s.heap H1 locs1 → W p l e R s m args below meth c H1 locs1 (cells + mc) (slots + ms) Q (F0 m (pc + 3) lsr ((r.map vV).toList ++ rest))) : W p l e R s m args below meth c H locs cells slots Q (F0 m pc lsr st0) := by
  intro T hT X
  obtain ⟨v, st₀, t, T', L, h0, X', hL, e1, e2, ⟨hv, hw, hz, hk⟩, stp⟩ := hr T hT X
  cases hv
  rw [h0] at hz hk
  obtain ⟨t2, a1, b1⟩ := kk T'.heap (locs ++ L) (by rw [e1]; exact hw) ⟨Nat.le_trans hS.1 (by rw [e1]; exact hz), fun q h1 h2 => by
      rw [e1, hk q (Nat.lt_of_lt_of_le h1 hS.1) h2]
      exact hS.2.1 q h1 h2, fun q hq => by
      rcases List.mem_append.mp hq with h | h
      · exact hS.2.2 q h
      · exact hL q h⟩ T' rfl X'
  exact ⟨t2, stp t2 a1, b1⟩
/-- what a start needs, in any state with that heap -/
theorem am_PB {G : Gp} {Y : MD} {d : Nat} {M : AMem} (hG : okG G) (hC : Ctx G Y d p R s m args meth c) (hW : Wd G M H) (hS : va_S (fun q => G.base ≤ q) s.heap H locs) {U : State} (hU : U.heap = H) (hal : s.WarmedH U.vm) : PB G M U := by
  refine ⟨by rw [hU]; exact hW, va_K.moved hal.alike hC.2.2.2.2.2.1, am_NLwarm hal hC.2.2.2.2.2.2.2.1.1, hG.1 s U hal (fun q hq => ?_) hC.2.2.2.2.2.2.2.1.2⟩
  rw [hU]
  exact hS.2.1 q (Nat.lt_of_lt_of_le hq hC.2.2.2.2.2.2.1) (Nat.not_le.mpr hq)
theorem am_blind {G : Gp} {M : AMem} {av : List Value} (hG : okG G) : FrameBlind (va_Pc av (PB G M)) := by
  intro a U g mk q
  obtain ⟨q0, q1, q2, q3⟩ := q
  exact ⟨q0, q1, va_K.moved (u := U) (U := U.calling g mk a) (Vm.Alike.refl U.vm) q2, am_NLsame (s := U) (U := U.calling g mk a) rfl q3.1, hG.2 U (U.calling g mk a) rfl rfl q3.2⟩
end AMcall
/-- a method as such: kind 0 by its object, 1 static, 2 a constructor -/
def MC (k : Nat) (Yc : MD) (n : Nat) : Prop :=
  (Cond.code Yc.y Yc.cc Yc.nL Yc.rt) ∈ TB ∧ (Cond.initialized Yc.y.cls) ∈ TB ∧ (Yc.y.cls ≠ "java/lang/invoke/MethodHandle" ∧ Yc.y.cls ≠ "java/lang/invoke/VarHandle") ∧ (parseMethodDescriptor Yc.y.desc).map (fun d => d.parameters.length) = some n ∧ plainName Yc.y.cls = true ∧ Yc.nL ≤ 21 ∧
  match k with
  | 0 => (Cond.instanceMethod Yc.y) ∈ TB ∧ (Cond.selects Yc.y.cls Yc.y Yc.y) ∈ TB
  | 1 => (Cond.static Yc.y) ∈ TB
  | _ => (Cond.instanceMethod Yc.y) ∈ TB ∧ Yc.y.name = "<init>" ∧ Yc.rt = none
/-- a method by its place in the constants -/
def ML (k : Nat) (own : String) (index : Nat) (Yc : MD) (n : Nat) : Prop := MC k Yc n ∧ ((Cond.methodLink own index Yc.y) ∈ TB ∨ ∃ host, (Cond.methodLinkNest own index Yc.y host) ∈ NL)
theorem am_goodTB {w : Cond} (h : w ∈ TB) : (w.onTables && w.keeps) = true ∨ ∃ ty, w = .arrayClass ty := good_of_word (List.mem_filter.mp h).2
theorem am_pay {Yc : MD} {args : Array Value} {s : State} (hts : ∀ w ∈ TB, w.before args s = true) (hc : (Cond.code Yc.y Yc.cc Yc.nL Yc.rt) ∈ TB) : ∀ w ∈ wsY Yc, ∀ (a' : Array Value) (U : State), s.WarmedH U.vm → w.before a' U = true := by
  intro w hw a' U hW
  have hin : w ∈ TB := by
    rcases List.mem_cons.mp hw with rfl | h
    · exact hc
    · exact h
  exact word_at hW (am_goodTB hin) (hts w hin)
theorem am_npar {Yc : MD} {n : Nat} (h : (parseMethodDescriptor Yc.y.desc).map (fun d => d.parameters.length) = some n) : ∀ sig, parseMethodDescriptor Yc.y.desc = some sig → n = sig.parameters.length := by
  intro sig hs
  rw [hs] at h
  exact (Option.some.inj h).symm
section AMinv
variable {G : Gp} {Y Yc : MD} {d d' pc : Nat} {ls : List (Option AV)} {st : List AV} {M : AMem} {Q : (Option AV ⊕ Nat) → AMem → Prop}
/-- what a call says: it returns r, the memory is M1 then -/
def Fn (G : Gp) (Y : MD) (d : Nat) (args : List AV) (M : AMem) (Q' : Option AV → AMem → Prop) : Prop := MW G Y d 0 (ent Y.nL args) [] M (fun f M1 => ∃ r, f = .inl r ∧ Q' r M1)
theorem am_sum (st : List AV) : ((st.map vV).map fun v => v.category) = st.map vC := by
  rw [List.map_map]
  exact List.map_congr_left fun v _ => vV_cat v
theorem am_call0 {index n ci : Nat} {As : List AV} {b : Nat} {Q' : Option AV → AMem → Prop} (hG : okG G) (hd : decode Y.cc pc = .ok (.invokevirtual index, 3)) (hl : ML 0 Y.y.cls index Yc n) (hn : As.length = n) (hK : M.K b = ci + 1) (hcl : ∃ T N, vwCl[ci]? = some (Yc.y.cls, T, N)) (hc20 : ci + 1 < 20) (hlen : (entA (vR b :: As)).length ≤ Yc.nL) (hdd : d' + 1 ≤ d) (hst : (st.map vC).sum ≤ 8) (hf : Fn G Yc d' (vR b :: As) M Q') {q : Nat} (hq : pc + 3 = q) (k : ∀ (r : Option AV) (M1 : AMem), Q' r M1 → MW G Y d q ls (r.toList ++ st) M1 Q) : MW G Y d pc ls (As.reverse ++ vR b :: st) M Q := by
  subst hq
  obtain ⟨pcR, lsR, stR, MR, f, hR, hE, r, rfl, hQ⟩ := hf
  obtain ⟨⟨l1, l2, l3, l4, l5, l6, l8, l9⟩, l7⟩ := hl
  have hM := am_met l5 hlen hR hE
  refine MW.step ?_ (k r MR hQ)
  refine ⟨hR.1, hR.2.1, fun p e R s m args below meth c H locs cells slots lsr Q0 hC hW hS hL hcc hss kk => ?_⟩
  have hts := hC.2.2.2.2.1
  have hfr := hC.2.2.2.2.2.2.2.2.1
  have hlo := hC.2.2.2.2.2.2.2.2.2.1
  obtain ⟨T, N, hcl⟩ := hcl
  obtain ⟨q, hq⟩ := am_in hW (show M.K b ≠ 0 by omega)
  rw [am_cell_obj hK hc20] at hq
  have hrecv := va_recv hC.2.2.2.2.2.1 hW.1 hcl hq
  have hstk : ((As.reverse ++ vR b :: st).map vV) = (As.map vV).reverse ++ Value.ref b :: st.map vV := by rw [List.map_append, List.map_reverse]; rfl
  have hav : (vR b :: As).map vV = Value.ref b :: As.map vV := rfl
  have hp : PreV s H Yc.y.cls b (va_Pc ((vR b :: As).map vV) (PB G M)) (As.map vV) := ⟨am_blind hG, hrecv, fun U hU hW1 => ⟨rfl, am_PB hG hC hW hS hU hW1⟩⟩
  have hrm : (rmD d' (MR.hs - M.hs) (MR.sl - M.sl)).frames + 1 ≤ R.frames ∧ 8 + (Yc.nL + 11) + (rmD d' (MR.hs - M.hs) (MR.sl - M.sl)).locals ≤ R.locals := by
    refine ⟨?_, ?_⟩
    · show d' + 2 + 1 ≤ R.frames
      omega
    · show 8 + (Yc.nL + 11) + (d' + 2) * 40 ≤ R.locals
      have : (d' + 3) * 40 ≤ (d + 2) * 40 := Nat.mul_le_mul_right 40 (by omega)
      omega
  have hmon : 2 * (F0 m pc lsr ((As.reverse ++ vR b :: st).map vV)).monitorRoom + ((st.map vV).map fun v => v.category).sum ≤ 8 := by
    show 2 * 0 + _ ≤ 8
    rw [am_sum]
    omega
  have hS5 : CallFix p m c Y.cc Y.nL s args TB Y.y.cls := ⟨hC.1, hC.2.1, hC.2.2.1, hC.2.2.2.1, hts⟩
  rcases l7 with l7 | ⟨host, l7⟩
  · refine am_tail (va_runV (As := As.map vV) (rest := st.map vV) hS5 hM ⟨⟨rfl, rfl, hrm.1, hrm.2, am_pay hts l1, List.mem_cons_self, hts _ l1, hts _ l2, l3, am_npar l4, hts _ l7⟩, hts _ l8, hts _ l9⟩ hp rfl (by rw [List.length_map]; exact hn) hL.1 hstk hmon hd ⟨hcc, hss⟩) hS (fun H1 locs1 hW1 hS1 => ?_)
    have := kk H1 locs1 lsr hW1 hS1 hL
    rw [List.map_append] at this
    rcases r with _ | v <;> exact this
  · refine am_tail (va_runVN (As := As.map vV) (rest := st.map vV) hS5 hM ⟨⟨⟨rfl, rfl, hrm.1, hrm.2, am_pay hts l1, List.mem_cons_self⟩, hts _ l1, hts _ l2, l3, am_npar l4, va_Nw.use rfl (hC.2.2.2.2.2.2.2.1.1 _ l7)⟩, hts _ l8, hts _ l9⟩ hp rfl (by rw [List.length_map]; exact hn) hL.1 hstk hmon hd ⟨hcc, hss⟩) hS (fun H1 locs1 hW1 hS1 => ?_)
    have := kk H1 locs1 lsr hW1 hS1 hL
    rw [List.map_append] at this
    rcases r with _ | v <;> exact this
theorem am_call1 {index n : Nat} {As : List AV} {Q' : Option AV → AMem → Prop} (hG : okG G) (hd : decode Y.cc pc = .ok (.invokestatic index, 3)) (hl : ML 1 Y.y.cls index Yc n) (hn : As.length = n) (hlen : (entA As).length ≤ Yc.nL) (hdd : d' + 1 ≤ d) (hst : (st.map vC).sum ≤ 8) (hf : Fn G Yc d' As M Q') {q : Nat} (hq : pc + 3 = q) (k : ∀ (r : Option AV) (M1 : AMem), Q' r M1 → MW G Y d q ls (r.toList ++ st) M1 Q) : MW G Y d pc ls (As.reverse ++ st) M Q := by
  subst hq
  obtain ⟨pcR, lsR, stR, MR, f, hR, hE, r, rfl, hQ⟩ := hf
  obtain ⟨⟨l1, l2, l3, l4, l5, l6, l8⟩, l7⟩ := hl
  have hM := am_met l5 hlen hR hE
  refine MW.step ?_ (k r MR hQ)
  refine ⟨hR.1, hR.2.1, fun p e R s m args below meth c H locs cells slots lsr Q0 hC hW hS hL hcc hss kk => ?_⟩
  have hts := hC.2.2.2.2.1
  have hfr := hC.2.2.2.2.2.2.2.2.1
  have hlo := hC.2.2.2.2.2.2.2.2.2.1
  have hstk : ((As.reverse ++ st).map vV) = (As.map vV).reverse ++ st.map vV := by rw [List.map_append, List.map_reverse]
  have hp : PreS s H (va_Pc (As.map vV) (PB G M)) (As.map vV) := ⟨am_blind hG, fun U hU hW1 => ⟨rfl, am_PB hG hC hW hS hU hW1⟩⟩
  have hrm : (rmD d' (MR.hs - M.hs) (MR.sl - M.sl)).frames + 1 ≤ R.frames ∧ 8 + (Yc.nL + 11) + (rmD d' (MR.hs - M.hs) (MR.sl - M.sl)).locals ≤ R.locals := by
    refine ⟨?_, ?_⟩
    · show d' + 2 + 1 ≤ R.frames
      omega
    · show 8 + (Yc.nL + 11) + (d' + 2) * 40 ≤ R.locals
      have : (d' + 3) * 40 ≤ (d + 2) * 40 := Nat.mul_le_mul_right 40 (by omega)
      omega
  have hmon : 2 * (F0 m pc lsr ((As.reverse ++ st).map vV)).monitorRoom + ((st.map vV).map fun v => v.category).sum ≤ 8 := by
    show 2 * 0 + _ ≤ 8
    rw [am_sum]
    omega
  have hS5 : CallFix p m c Y.cc Y.nL s args TB Y.y.cls := ⟨hC.1, hC.2.1, hC.2.2.1, hC.2.2.2.1, hts⟩
  rcases l7 with l7 | ⟨host, l7⟩
  · refine am_tail (va_runS (As := As.map vV) (rest := st.map vV) hS5 hM ⟨⟨rfl, rfl, hrm.1, hrm.2, am_pay hts l1, List.mem_cons_self, hts _ l1, hts _ l2, l3, am_npar l4, hts _ l7⟩, hts _ l8⟩ hp rfl (by rw [List.length_map]; exact hn) hL.1 hstk hmon hd ⟨hcc, hss⟩) hS (fun H1 locs1 hW1 hS1 => ?_)
    have := kk H1 locs1 lsr hW1 hS1 hL
    rw [List.map_append] at this
    rcases r with _ | v <;> exact this
  · refine am_tail (va_runSN (As := As.map vV) (rest := st.map vV) hS5 hM ⟨⟨⟨rfl, rfl, hrm.1, hrm.2, am_pay hts l1, List.mem_cons_self⟩, hts _ l1, hts _ l2, l3, am_npar l4, va_Nw.use rfl (hC.2.2.2.2.2.2.2.1.1 _ l7)⟩, hts _ l8, trivial⟩ hp rfl (by rw [List.length_map]; exact hn) hL.1 hstk hmon hd ⟨hcc, hss⟩) hS (fun H1 locs1 hW1 hS1 => ?_)
    have := kk H1 locs1 lsr hW1 hS1 hL
    rw [List.map_append] at this
    rcases r with _ | v <;> exact this
theorem am_call2 {index n : Nat} {As : List AV} {b : Nat} {Q' : Option AV → AMem → Prop} (hG : okG G) (hd : decode Y.cc pc = .ok (.invokespecial index, 3)) (hl : ML 2 Y.y.cls index Yc n) (hn : As.length = n) (hlen : (entA (vR b :: As)).length ≤ Yc.nL) (hdd : d' + 1 ≤ d) (hst : (st.map vC).sum ≤ 8) (hf : Fn G Yc d' (vR b :: As) M Q') {q : Nat} (hq : pc + 3 = q) (k : ∀ (r : Option AV) (M1 : AMem), Q' r M1 → MW G Y d q ls (r.toList ++ st) M1 Q) : MW G Y d pc ls (As.reverse ++ vR b :: st) M Q := by
  subst hq
  obtain ⟨pcR, lsR, stR, MR, f, hR, hE, r, rfl, hQ⟩ := hf
  obtain ⟨⟨l1, l2, l3, l4, l5, l6, l8, l9, l10⟩, l7⟩ := hl
  have hM := am_met l5 hlen hR hE
  have hWS : wsY Yc = Cond.code Yc.y Yc.cc Yc.nL none :: TB := by unfold wsY; rw [l10]
  refine MW.step ?_ (k r MR hQ)
  refine ⟨hR.1, hR.2.1, fun p e R s m args below meth c H locs cells slots lsr Q0 hC hW hS hL hcc hss kk => ?_⟩
  have hts := hC.2.2.2.2.1
  have hfr := hC.2.2.2.2.2.2.2.2.1
  have hlo := hC.2.2.2.2.2.2.2.2.2.1
  have hpay := am_pay hts l1
  have hcw : Cond.code Yc.y Yc.cc Yc.nL none ∈ wsY Yc := by rw [hWS]; exact List.mem_cons_self
  have hcb : (Cond.code Yc.y Yc.cc Yc.nL none).before args s = true := by have := hts _ l1; rw [l10] at this; exact this
  have hstk : ((As.reverse ++ vR b :: st).map vV) = (As.map vV).reverse ++ Value.ref b :: st.map vV := by rw [List.map_append, List.map_reverse]; rfl
  have hp : PreS s H (va_Pc ((vR b :: As).map vV) (PB G M)) (Value.ref b :: As.map vV) := ⟨am_blind hG, fun U hU hW1 => ⟨rfl, am_PB hG hC hW hS hU hW1⟩⟩
  have hrm : (rmD d' (MR.hs - M.hs) (MR.sl - M.sl)).frames + 1 ≤ R.frames ∧ 8 + (Yc.nL + 11) + (rmD d' (MR.hs - M.hs) (MR.sl - M.sl)).locals ≤ R.locals := by
    refine ⟨?_, ?_⟩
    · show d' + 2 + 1 ≤ R.frames
      omega
    · show 8 + (Yc.nL + 11) + (d' + 2) * 40 ≤ R.locals
      have : (d' + 3) * 40 ≤ (d + 2) * 40 := Nat.mul_le_mul_right 40 (by omega)
      omega
  have hmon : 2 * (F0 m pc lsr ((As.reverse ++ vR b :: st).map vV)).monitorRoom + ((st.map vV).map fun v => v.category).sum ≤ 8 := by
    show 2 * 0 + _ ≤ 8
    rw [am_sum]
    omega
  have hS5 : CallFix p m c Y.cc Y.nL s args TB Y.y.cls := ⟨hC.1, hC.2.1, hC.2.2.1, hC.2.2.2.1, hts⟩
  rcases l7 with l7 | ⟨host, l7⟩
  · refine am_tail (va_runI (As := As.map vV) (rest := st.map vV) hS5 hM ⟨⟨rfl, rfl, hrm.1, hrm.2, hpay, hcw, hcb, hts _ l2, l3, am_npar l4, hts _ l7⟩, l9, hts _ l8⟩ hp rfl (by rw [List.length_map]; exact hn) hL.1 hstk hmon hd ⟨hcc, hss⟩) hS (fun H1 locs1 hW1 hS1 => ?_)
    have := kk H1 locs1 lsr hW1 hS1 hL
    rw [List.map_append] at this
    rcases r with _ | v <;> exact this
  · refine am_tail (va_runIN (As := As.map vV) (rest := st.map vV) hS5 hM ⟨⟨⟨rfl, rfl, hrm.1, hrm.2, hpay, hcw⟩, hcb, hts _ l2, l3, am_npar l4, va_Nw.use rfl (hC.2.2.2.2.2.2.2.1.1 _ l7)⟩, l9, hts _ l8⟩ hp rfl (by rw [List.length_map]; exact hn) hL.1 hstk hmon hd ⟨hcc, hss⟩) hS (fun H1 locs1 hW1 hS1 => ?_)
    have := kk H1 locs1 lsr hW1 hS1 hL
    rw [List.map_append] at this
    rcases r with _ | v <;> exact this
/-- Object.<init> -/
theorem am_objInit {index a : Nat} (hd : decode Y.cc pc = .ok (.invokespecial index, 3)) (h1 : Cond.methodLink Y.y.cls index Lib.objectInit ∈ TB) (h2 : Cond.instanceMethod Lib.objectInit ∈ TB) (h3 : Cond.code Lib.objectInit ⟨#[0xb1]⟩ 1 none ∈ TB) (hst : (st.map vC).sum ≤ 8) {q : Nat} (hq : pc + 3 = q) (k : MW G Y d q ls st M Q) : MW G Y d pc ls (vR a :: st) M Q := by
  subst hq
  refine MW.step (am_read2 (pc1 := pc + 3) (st1' := st) fun {p e R s m args below meth c H locs cells slots lsr Q0} hC hW hL hcl hsl kk => ?_) k
  have hts := hC.2.2.2.2.1
  have hfr := hC.2.2.2.2.2.2.2.2.1
  have hlo := hC.2.2.2.2.2.2.2.2.2.1
  refine W.objInit hC.1 hC.2.1 hC.2.2.2.1 (hts _ h1) (hts _ h2) (hts _ h3) rfl ?_ (rest := st.map vV) rfl hd (by omega) ?_ kk
  · show lsr.size = _
    rw [hL.1, hC.2.2.1]
  · show 2 * 0 + ((st.map vV).map fun v => v.category).sum + 12 ≤ R.locals
    rw [am_sum]
    omega
theorem am_mmax {index : Nat} {x y : Int32} (hd : decode Y.cc pc = .ok (.invokestatic index, 3)) (h1 : Cond.methodLink Y.y.cls index Lib.Math.max.name ∈ TB) (h2 : Cond.static Lib.Math.max.name ∈ TB) (h3 : Cond.initialized "java/lang/Math" ∈ TB) (h4 : Cond.code Lib.Math.max.name Lib.Math.max.code 2 (some .int) ∈ TB) (hst : (st.map vC).sum ≤ 8) {q : Nat} (hq : pc + 3 = q) (k : MW G Y d q ls (vI (if x < y then y else x) :: st) M Q) : MW G Y d pc ls (vI y :: vI x :: st) M Q := by
  subst hq
  refine MW.step (am_read2 (pc1 := pc + 3) (st1' := vI (if x < y then y else x) :: st) fun {p e R s m args below meth c H locs cells slots lsr Q0} hC hW hL hcl hsl kk => ?_) k
  have hts := hC.2.2.2.2.1
  have hfr := hC.2.2.2.2.2.2.2.2.1
  have hlo := hC.2.2.2.2.2.2.2.2.2.1
  refine va_mmax hC.1 hC.2.1 (by rw [hL.1, hC.2.2.1]) hC.2.2.2.1 (hts _ h1) (hts _ h2) (hts _ h3) (hts _ h4) (by omega) ?_ hcl hsl hd kk
  rw [am_sum]
  omega
theorem am_mmin {index : Nat} {x y : Int32} (hd : decode Y.cc pc = .ok (.invokestatic index, 3)) (h1 : Cond.methodLink Y.y.cls index Lib.Math.min.name ∈ TB) (h2 : Cond.static Lib.Math.min.name ∈ TB) (h3 : Cond.initialized "java/lang/Math" ∈ TB) (h4 : Cond.code Lib.Math.min.name Lib.Math.min.code 2 (some .int) ∈ TB) (hst : (st.map vC).sum ≤ 8) {q : Nat} (hq : pc + 3 = q) (k : MW G Y d q ls (vI (if y < x then y else x) :: st) M Q) : MW G Y d pc ls (vI y :: vI x :: st) M Q := by
  subst hq
  refine MW.step (am_read2 (pc1 := pc + 3) (st1' := vI (if y < x then y else x) :: st) fun {p e R s m args below meth c H locs cells slots lsr Q0} hC hW hL hcl hsl kk => ?_) k
  have hts := hC.2.2.2.2.1
  have hfr := hC.2.2.2.2.2.2.2.2.1
  have hlo := hC.2.2.2.2.2.2.2.2.2.1
  refine va_mmin hC.1 hC.2.1 (by rw [hL.1, hC.2.2.1]) hC.2.2.2.1 (hts _ h1) (hts _ h2) (hts _ h3) (hts _ h4) (by omega) ?_ hcl hsl hd kk
  rw [am_sum]
  omega
theorem am_ldcI {index : Nat} {v : Int32} (hd : decode Y.cc pc = .ok (.ldc index, 2)) (h1 : Cond.constant Y.y.cls index v ∈ TB) {q : Nat} (hq : pc + 2 = q) (k : MW G Y d q ls (vI v :: st) M Q) : MW G Y d pc ls st M Q := by subst hq; exact MW.step (am_read (pc1 := pc + 2) (st1' := vI v :: st) fun hC hW kk => lv_ldc hC.1 hC.2.1 hC.2.2.2.1 (hC.2.2.2.2.1 _ h1) hd kk) k
theorem am_ldcJ {index : Nat} {v : Int64} (hd : decode Y.cc pc = .ok (.ldc2_w index, 3)) (h1 : Cond.constantLong Y.y.cls index v ∈ TB) {q : Nat} (hq : pc + 3 = q) (k : MW G Y d q ls (vJ v :: st) M Q) : MW G Y d pc ls st M Q := by subst hq; exact MW.step (am_read (pc1 := pc + 3) (st1' := vJ v :: st) fun hC hW kk => lv_ldc2 hC.1 hC.2.1 hC.2.2.2.1 (hC.2.2.2.2.1 _ h1) hd kk) k
end AMinv
end
section
/-! the methods, and the links of the constants -/
theorem am_any {l : List Cond} {i : Nat} {w : Cond} (h : (l[i]?).any (fun v => decide (v = w) && goodWord v) = true) : w ∈ l ∧ goodWord w = true := by
  obtain ⟨v, hv⟩ : ∃ v, l[i]? = some v := by
    cases e : l[i]? with
    | none => rw [e] at h; cases h
    | some v => exact ⟨v, rfl⟩
  rw [hv] at h
  simp only [Option.any_some, Bool.and_eq_true, decide_eq_true_eq] at h
  obtain ⟨h1, h2⟩ := h
  subst h1
  exact ⟨List.mem_of_getElem? hv, h2⟩
theorem am_anyN {l : List Cond} {i : Nat} {w : Cond} (h : (l[i]?).any (fun v => decide (v = w) && am_isN v) = true) : w ∈ l ∧ am_isN w = true := by
  obtain ⟨v, hv⟩ : ∃ v, l[i]? = some v := by
    cases e : l[i]? with
    | none => rw [e] at h; cases h
    | some v => exact ⟨v, rfl⟩
  rw [hv] at h
  simp only [Option.any_some, Bool.and_eq_true, decide_eq_true_eq] at h
  obtain ⟨h1, h2⟩ := h
  subst h1
  exact ⟨List.mem_of_getElem? hv, h2⟩
theorem am_ck1 {w : Cond} (h : w ∈ tables_1_1) : w ∈ lw_tbl := List.mem_append_right _ (List.mem_append_left _ h)
theorem tbc1 (i : Nat) {w : Cond} (h : tables_1_1[i]? = some w) (h2 : goodWord w = true) : w ∈ TB := List.mem_filter.mpr ⟨am_ck1 (List.mem_of_getElem? h), h2⟩
theorem tbn1 (i : Nat) {w : Cond} (h : tables_1_1[i]? = some w) (h2 : am_isN w = true) : w ∈ NL := List.mem_filter.mpr ⟨am_ck1 (List.mem_of_getElem? h), h2⟩
theorem am_ck2 {w : Cond} (h : w ∈ tables_1_2) : w ∈ lw_tbl := List.mem_append_right _ (List.mem_append_right _ (List.mem_append_left _ h))
theorem tbc2 (i : Nat) {w : Cond} (h : tables_1_2[i]? = some w) (h2 : goodWord w = true) : w ∈ TB := List.mem_filter.mpr ⟨am_ck2 (List.mem_of_getElem? h), h2⟩
theorem tbn2 (i : Nat) {w : Cond} (h : tables_1_2[i]? = some w) (h2 : am_isN w = true) : w ∈ NL := List.mem_filter.mpr ⟨am_ck2 (List.mem_of_getElem? h), h2⟩
theorem am_ck3 {w : Cond} (h : w ∈ tables_1_3) : w ∈ lw_tbl := List.mem_append_right _ (List.mem_append_right _ (List.mem_append_right _ (List.mem_append_left _ h)))
theorem tbc3 (i : Nat) {w : Cond} (h : tables_1_3[i]? = some w) (h2 : goodWord w = true) : w ∈ TB := List.mem_filter.mpr ⟨am_ck3 (List.mem_of_getElem? h), h2⟩
theorem tbn3 (i : Nat) {w : Cond} (h : tables_1_3[i]? = some w) (h2 : am_isN w = true) : w ∈ NL := List.mem_filter.mpr ⟨am_ck3 (List.mem_of_getElem? h), h2⟩
theorem am_ck4 {w : Cond} (h : w ∈ tables_1_4) : w ∈ lw_tbl := List.mem_append_right _ (List.mem_append_right _ (List.mem_append_right _ (List.mem_append_right _ (List.mem_append_left _ h))))
theorem tbc4 (i : Nat) {w : Cond} (h : tables_1_4[i]? = some w) (h2 : goodWord w = true) : w ∈ TB := List.mem_filter.mpr ⟨am_ck4 (List.mem_of_getElem? h), h2⟩
theorem tbn4 (i : Nat) {w : Cond} (h : tables_1_4[i]? = some w) (h2 : am_isN w = true) : w ∈ NL := List.mem_filter.mpr ⟨am_ck4 (List.mem_of_getElem? h), h2⟩
theorem am_ck5 {w : Cond} (h : w ∈ tables_1_5) : w ∈ lw_tbl := List.mem_append_right _ (List.mem_append_right _ (List.mem_append_right _ (List.mem_append_right _ (List.mem_append_right _ (List.mem_append_left _ h)))))
theorem tbc5 (i : Nat) {w : Cond} (h : tables_1_5[i]? = some w) (h2 : goodWord w = true) : w ∈ TB := List.mem_filter.mpr ⟨am_ck5 (List.mem_of_getElem? h), h2⟩
theorem tbn5 (i : Nat) {w : Cond} (h : tables_1_5[i]? = some w) (h2 : am_isN w = true) : w ∈ NL := List.mem_filter.mpr ⟨am_ck5 (List.mem_of_getElem? h), h2⟩
theorem am_ck6 {w : Cond} (h : w ∈ tables_1_6) : w ∈ lw_tbl := List.mem_append_right _ (List.mem_append_right _ (List.mem_append_right _ (List.mem_append_right _ (List.mem_append_right _ (List.mem_append_right _ (List.mem_append_left _ h))))))
theorem tbc6 (i : Nat) {w : Cond} (h : tables_1_6[i]? = some w) (h2 : goodWord w = true) : w ∈ TB := List.mem_filter.mpr ⟨am_ck6 (List.mem_of_getElem? h), h2⟩
theorem tbn6 (i : Nat) {w : Cond} (h : tables_1_6[i]? = some w) (h2 : am_isN w = true) : w ∈ NL := List.mem_filter.mpr ⟨am_ck6 (List.mem_of_getElem? h), h2⟩
theorem am_ck7 {w : Cond} (h : w ∈ tables_1_7) : w ∈ lw_tbl := List.mem_append_right _ (List.mem_append_right _ (List.mem_append_right _ (List.mem_append_right _ (List.mem_append_right _ (List.mem_append_right _ (List.mem_append_right _ (List.mem_append_left _ h)))))))
theorem tbc7 (i : Nat) {w : Cond} (h : tables_1_7[i]? = some w) (h2 : goodWord w = true) : w ∈ TB := List.mem_filter.mpr ⟨am_ck7 (List.mem_of_getElem? h), h2⟩
theorem tbn7 (i : Nat) {w : Cond} (h : tables_1_7[i]? = some w) (h2 : am_isN w = true) : w ∈ NL := List.mem_filter.mpr ⟨am_ck7 (List.mem_of_getElem? h), h2⟩
theorem am_ck8 {w : Cond} (h : w ∈ tables_1_8) : w ∈ lw_tbl := List.mem_append_right _ (List.mem_append_right _ (List.mem_append_right _ (List.mem_append_right _ (List.mem_append_right _ (List.mem_append_right _ (List.mem_append_right _ (List.mem_append_right _ (h))))))))
theorem tbc8 (i : Nat) {w : Cond} (h : tables_1_8[i]? = some w) (h2 : goodWord w = true) : w ∈ TB := List.mem_filter.mpr ⟨am_ck8 (List.mem_of_getElem? h), h2⟩
theorem tbn8 (i : Nat) {w : Cond} (h : tables_1_8[i]? = some w) (h2 : am_isN w = true) : w ∈ NL := List.mem_filter.mpr ⟨am_ck8 (List.mem_of_getElem? h), h2⟩
theorem tbs1 (i : Nat) {q : MethodName} (n : Nat) (hh : lw_privs_1[i]? = some (q, n)) : (Cond.selects q.cls q q) ∈ TB := by
  have h : (q, n) ∈ lw_privs_1 := List.mem_of_getElem? hh
  have h1 : (q, n) ∈ lw_privs := List.mem_append_left _ h
  exact List.mem_filter.mpr ⟨List.mem_append_left _ (List.mem_map.mpr ⟨(q, n), h1, rfl⟩), rfl⟩
theorem tbs2 (i : Nat) {q : MethodName} (n : Nat) (hh : lw_privs_2[i]? = some (q, n)) : (Cond.selects q.cls q q) ∈ TB := by
  have h : (q, n) ∈ lw_privs_2 := List.mem_of_getElem? hh
  have h1 : (q, n) ∈ lw_privs := List.mem_append_right _ (List.mem_append_left _ h)
  exact List.mem_filter.mpr ⟨List.mem_append_left _ (List.mem_map.mpr ⟨(q, n), h1, rfl⟩), rfl⟩
theorem tbs3 (i : Nat) {q : MethodName} (n : Nat) (hh : lw_privs_3[i]? = some (q, n)) : (Cond.selects q.cls q q) ∈ TB := by
  have h : (q, n) ∈ lw_privs_3 := List.mem_of_getElem? hh
  have h1 : (q, n) ∈ lw_privs := List.mem_append_right _ (List.mem_append_right _ (List.mem_append_left _ h))
  exact List.mem_filter.mpr ⟨List.mem_append_left _ (List.mem_map.mpr ⟨(q, n), h1, rfl⟩), rfl⟩
theorem tbs4 (i : Nat) {q : MethodName} (n : Nat) (hh : lw_privs_4[i]? = some (q, n)) : (Cond.selects q.cls q q) ∈ TB := by
  have h : (q, n) ∈ lw_privs_4 := List.mem_of_getElem? hh
  have h1 : (q, n) ∈ lw_privs := List.mem_append_right _ (List.mem_append_right _ (List.mem_append_right _ (List.mem_append_left _ h)))
  exact List.mem_filter.mpr ⟨List.mem_append_left _ (List.mem_map.mpr ⟨(q, n), h1, rfl⟩), rfl⟩
theorem tbs5 (i : Nat) {q : MethodName} (n : Nat) (hh : lw_privs_5[i]? = some (q, n)) : (Cond.selects q.cls q q) ∈ TB := by
  have h : (q, n) ∈ lw_privs_5 := List.mem_of_getElem? hh
  have h1 : (q, n) ∈ lw_privs := List.mem_append_right _ (List.mem_append_right _ (List.mem_append_right _ (List.mem_append_right _ (List.mem_append_left _ h))))
  exact List.mem_filter.mpr ⟨List.mem_append_left _ (List.mem_map.mpr ⟨(q, n), h1, rfl⟩), rfl⟩
theorem tbs6 (i : Nat) {q : MethodName} (n : Nat) (hh : lw_privs_6[i]? = some (q, n)) : (Cond.selects q.cls q q) ∈ TB := by
  have h : (q, n) ∈ lw_privs_6 := List.mem_of_getElem? hh
  have h1 : (q, n) ∈ lw_privs := List.mem_append_right _ (List.mem_append_right _ (List.mem_append_right _ (List.mem_append_right _ (List.mem_append_right _ (List.mem_append_left _ h)))))
  exact List.mem_filter.mpr ⟨List.mem_append_left _ (List.mem_map.mpr ⟨(q, n), h1, rfl⟩), rfl⟩
theorem tbs7 (i : Nat) {q : MethodName} (n : Nat) (hh : lw_privs_7[i]? = some (q, n)) : (Cond.selects q.cls q q) ∈ TB := by
  have h : (q, n) ∈ lw_privs_7 := List.mem_of_getElem? hh
  have h1 : (q, n) ∈ lw_privs := List.mem_append_right _ (List.mem_append_right _ (List.mem_append_right _ (List.mem_append_right _ (List.mem_append_right _ (List.mem_append_right _ (h))))))
  exact List.mem_filter.mpr ⟨List.mem_append_left _ (List.mem_map.mpr ⟨(q, n), h1, rfl⟩), rfl⟩
theorem tb_aI : Cond.arrayClass .int ∈ TB := tbc1 51 rfl rfl
theorem tb_aJ : Cond.arrayClass .long ∈ TB := tbc1 133 rfl rfl
abbrev mX11_init : MD := (yX11_init, cX11_init, 1, none)
abbrev mX8_init : MD := (yX8_init, cX8_init, 1, none)
abbrev mX9_init : MD := (yX9_init, cX9_init, 1, none)
abbrev mX9_codesOf : MD := (yX9_codesOf, cX9_codesOf, 7, (some (.array .long)))
abbrev mX9_withSign : MD := (yX9_withSign, cX9_withSign, 3, (some .long))
abbrev mX9_isLetter : MD := (yX9_isLetter, cX9_isLetter, 1, (some .boolean))
abbrev mX2_init : MD := (yX2_init, cX2_init, 2, none)
abbrev mX1_init : MD := (yX1_init, cX1_init, 1, none)
abbrev mX0_init : MD := (yX0_init, cX0_init, 1, none)
abbrev mX4_init : MD := (yX4_init, cX4_init, 1, none)
abbrev mX6_init : MD := (yX6_init, cX6_init, 1, none)
abbrev mX3_init : MD := (yX3_init, cX3_init, 1, none)
abbrev mX5_init : MD := (yX5_init, cX5_init, 1, none)
abbrev mX10_init : MD := (yX10_init, cX10_init, 1, none)
abbrev mX7_init : MD := (yX7_init, cX7_init, 3, none)
abbrev mX11_teach : MD := (yX11_teach, cX11_teach, 3, (some .int))
abbrev mX9_readAll : MD := (yX9_readAll, cX9_readAll, 5, none)
abbrev mX9_behindBlanks : MD := (yX9_behindBlanks, cX9_behindBlanks, 3, (some .int))
abbrev mX8_byteAt : MD := (yX8_byteAt, cX8_byteAt, 2, (some .int))
abbrev mX9_isBlank : MD := (yX9_isBlank, cX9_isBlank, 1, (some .boolean))
abbrev mX9_readToken : MD := (yX9_readToken, cX9_readToken, 4, (some .int))
abbrev mX9_readWord : MD := (yX9_readWord, cX9_readWord, 7, (some .int))
abbrev mX9_isLetterOrDigit : MD := (yX9_isLetterOrDigit, cX9_isLetterOrDigit, 1, (some .boolean))
abbrev mX9_isDigit : MD := (yX9_isDigit, cX9_isDigit, 1, (some .boolean))
abbrev mX9_kindOfWord : MD := (yX9_kindOfWord, cX9_kindOfWord, 4, (some .int))
abbrev mX9_addToken : MD := (yX9_addToken, cX9_addToken, 5, none)
abbrev mX9_readNumber : MD := (yX9_readNumber, cX9_readNumber, 6, (some .int))
abbrev mX9_readSymbol : MD := (yX9_readSymbol, cX9_readSymbol, 5, (some .int))
abbrev mX9_isSymbol : MD := (yX9_isSymbol, cX9_isSymbol, 2, (some .boolean))
abbrev mX8_shortenTo : MD := (yX8_shortenTo, cX8_shortenTo, 2, none)
abbrev mX2_clear : MD := (yX2_clear, cX2_clear, 1, none)
abbrev mX7_readBill : MD := (yX7_readBill, cX7_readBill, 3, (some .int))
abbrev mX7_kind : MD := (yX7_kind, cX7_kind, 1, (some .int))
abbrev mX9_kindAt : MD := (yX9_kindAt, cX9_kindAt, 2, (some .int))
abbrev mX7_readLine : MD := (yX7_readLine, cX7_readLine, 1, none)
abbrev mX7_readRail : MD := (yX7_readRail, cX7_readRail, 6, none)
abbrev mX7_expect : MD := (yX7_expect, cX7_expect, 2, none)
abbrev mX7_refuse : MD := (yX7_refuse, cX7_refuse, 1, none)
abbrev mX9_startAt : MD := (yX9_startAt, cX9_startAt, 2, (some .int))
abbrev mX7_value : MD := (yX7_value, cX7_value, 1, (some .long))
abbrev mX9_valueAt : MD := (yX9_valueAt, cX9_valueAt, 2, (some .long))
abbrev mX2_railNamed : MD := (yX2_railNamed, cX2_railNamed, 4, (some .int))
abbrev mX7_expectNewName : MD := (yX7_expectNewName, cX7_expectNewName, 3, none)
abbrev mX7_blame : MD := (yX7_blame, cX7_blame, 2, none)
abbrev mX7_numberBehind : MD := (yX7_numberBehind, cX7_numberBehind, 6, (some .int))
abbrev mX2_addRail : MD := (yX2_addRail, cX2_addRail, 6, none)
abbrev mX6_tell : MD := (yX6_tell, cX6_tell, 7, none)
abbrev mX7_readRust : MD := (yX7_readRust, cX7_readRust, 5, none)
abbrev mX7_knownName : MD := (yX7_knownName, cX7_knownName, 2, (some .int))
abbrev mX7_numberOfTo : MD := (yX7_numberOfTo, cX7_numberOfTo, 4, (some .int))
abbrev mX2_addRust : MD := (yX2_addRust, cX2_addRust, 5, none)
abbrev mX2_hasRail : MD := (yX2_hasRail, cX2_hasRail, 2, (some .boolean))
abbrev mX6_addRust : MD := (yX6_addRust, cX6_addRust, 5, none)
abbrev mX7_readFist : MD := (yX7_readFist, cX7_readFist, 6, none)
abbrev mX2_fistNamed : MD := (yX2_fistNamed, cX2_fistNamed, 4, (some .int))
abbrev mX2_addFist : MD := (yX2_addFist, cX2_addFist, 6, none)
abbrev mX3_tell : MD := (yX3_tell, cX3_tell, 6, none)
abbrev mX7_readPrize : MD := (yX7_readPrize, cX7_readPrize, 6, none)
abbrev mX2_prizeNamed : MD := (yX2_prizeNamed, cX2_prizeNamed, 4, (some .int))
abbrev mX7_readSum : MD := (yX7_readSum, cX7_readSum, 4, none)
abbrev mX7_readProduct : MD := (yX7_readProduct, cX7_readProduct, 4, none)
abbrev mX7_readValue : MD := (yX7_readValue, cX7_readValue, 3, none)
abbrev mX7_readPlainValue : MD := (yX7_readPlainValue, cX7_readPlainValue, 2, none)
abbrev mX1_add : MD := (yX1_add, cX1_add, 3, none)
abbrev mX7_readNamedValue : MD := (yX7_readNamedValue, cX7_readNamedValue, 3, none)
abbrev mX7_indexOf : MD := (yX7_indexOf, cX7_indexOf, 4, (some .int))
abbrev mX7_goesDeeper : MD := (yX7_goesDeeper, cX7_goesDeeper, 3, (some .boolean))
abbrev mX7_readPair : MD := (yX7_readPair, cX7_readPair, 3, none)
abbrev mX7_readTest : MD := (yX7_readTest, cX7_readTest, 3, none)
abbrev mX7_readBoth : MD := (yX7_readBoth, cX7_readBoth, 3, none)
abbrev mX7_readSingle : MD := (yX7_readSingle, cX7_readSingle, 2, none)
abbrev mX7_readComparison : MD := (yX7_readComparison, cX7_readComparison, 3, none)
abbrev mX7_isComparing : MD := (yX7_isComparing, cX7_isComparing, 1, (some .boolean))
abbrev mX2_addPrize : MD := (yX2_addPrize, cX2_addPrize, 7, none)
abbrev mX5_tell : MD := (yX5_tell, cX5_tell, 7, none)
abbrev mX7_readTurn : MD := (yX7_readTurn, cX7_readTurn, 4, none)
abbrev mX2_addTurn : MD := (yX2_addTurn, cX2_addTurn, 5, none)
abbrev mX10_tell : MD := (yX10_tell, cX10_tell, 5, none)
abbrev mX7_errorAtByte : MD := (yX7_errorAtByte, cX7_errorAtByte, 1, (some .int))
abbrev mX11_errorAt : MD := (yX11_errorAt, cX11_errorAt, 1, (some .int))
abbrev mX11_mean : MD := (yX11_mean, cX11_mean, 1, (some .double))
abbrev mX0_meanHeight : MD := (yX0_meanHeight, cX0_meanHeight, 3, (some .double))
abbrev mX0_heightAt : MD := (yX0_heightAt, cX0_heightAt, 2, (some .int))
abbrev mX0_has : MD := (yX0_has, cX0_has, 2, (some .boolean))
abbrev mX11_digest : MD := (yX11_digest, cX11_digest, 4, (some .long))
abbrev mX11_tellCount : MD := (yX11_tellCount, cX11_tellCount, 2, (some .int))
abbrev mX2_tellCountOf : MD := (yX2_tellCountOf, cX2_tellCountOf, 2, (some .int))
abbrev mX2_allPurses : MD := (yX2_allPurses, cX2_allPurses, 3, (some .int))
abbrev mX2_digestBehind : MD := (yX2_digestBehind, cX2_digestBehind, 7, (some .long))
abbrev mX2_tellRail : MD := (yX2_tellRail, cX2_tellRail, 4, (some .int))
abbrev mX2_tellFist : MD := (yX2_tellFist, cX2_tellFist, 4, (some .int))
abbrev mX2_hasFist : MD := (yX2_hasFist, cX2_hasFist, 2, (some .boolean))
abbrev mX2_placeOfPurse : MD := (yX2_placeOfPurse, cX2_placeOfPurse, 4, (some .int))
abbrev mX2_tellPrize : MD := (yX2_tellPrize, cX2_tellPrize, 4, (some .int))
abbrev mX2_hasPrize : MD := (yX2_hasPrize, cX2_hasPrize, 2, (some .boolean))
abbrev mX1_reckon : MD := (yX1_reckon, cX1_reckon, 9, (some .int))
abbrev mX1_push : MD := (yX1_push, cX1_push, 2, none)
abbrev mX1_pop : MD := (yX1_pop, cX1_pop, 1, (some .int))
abbrev mX2_reading : MD := (yX2_reading, cX2_reading, 3, (some .int))
abbrev mX1_isJoining : MD := (yX1_isJoining, cX1_isJoining, 1, (some .boolean))
abbrev mX1_joined : MD := (yX1_joined, cX1_joined, 3, (some .int))
abbrev mX1_compared : MD := (yX1_compared, cX1_compared, 4, (some .int))
abbrev mX2_tellTurn : MD := (yX2_tellTurn, cX2_tellTurn, 4, (some .int))
abbrev mX2_hasTurn : MD := (yX2_hasTurn, cX2_hasTurn, 2, (some .boolean))
abbrev mX2_placeInRow : MD := (yX2_placeInRow, cX2_placeInRow, 4, (some .int))
abbrev mX2_isDue : MD := (yX2_isDue, cX2_isDue, 2, (some .boolean))
abbrev mL_feed : MD := (yL_feed, cL_feed, 8, (some .int))
abbrev mX11_feed : MD := (yX11_feed, cX11_feed, 6, (some .int))
abbrev mX8_hasRoomFor : MD := (yX8_hasRoomFor, cX8_hasRoomFor, 2, (some .boolean))
abbrev mX8_addNumber : MD := (yX8_addNumber, cX8_addNumber, 3, none)
abbrev mL_trim : MD := (yL_trim, cL_trim, 4, (some .int))
abbrev mX11_trim : MD := (yX11_trim, cX11_trim, 2, (some .int))
abbrev mL_count : MD := (yL_count, cL_count, 4, (some .int))
abbrev mX11_count : MD := (yX11_count, cX11_count, 2, (some .int))
abbrev mL_rail : MD := (yL_rail, cL_rail, 5, (some .int))
abbrev mX11_rail : MD := (yX11_rail, cX11_rail, 3, (some .int))
abbrev mL_fist : MD := (yL_fist, cL_fist, 5, (some .int))
abbrev mX11_fist : MD := (yX11_fist, cX11_fist, 3, (some .int))
abbrev mL_prize : MD := (yL_prize, cL_prize, 5, (some .int))
abbrev mX11_prize : MD := (yX11_prize, cX11_prize, 3, (some .int))
abbrev mL_turn : MD := (yL_turn, cL_turn, 5, (some .int))
abbrev mX11_turn : MD := (yX11_turn, cX11_turn, 3, (some .int))
abbrev mL_board : MD := (yL_board, cL_board, 4, (some .int))
abbrev mX11_board : MD := (yX11_board, cX11_board, 2, (some .int))
abbrev mL_strike : MD := (yL_strike, cL_strike, 5, (some .int))
abbrev mX11_strike : MD := (yX11_strike, cX11_strike, 3, (some .int))
abbrev mX2_hit : MD := (yX2_hit, cX2_hit, 6, none)
abbrev mX3_forceWithArm : MD := (yX3_forceWithArm, cX3_forceWithArm, 3, (some .int))
abbrev mX4_fly : MD := (yX4_fly, cX4_fly, 4, none)
abbrev mX4_move : MD := (yX4_move, cX4_move, 3, none)
abbrev mX6_rustAt : MD := (yX6_rustAt, cX6_rustAt, 2, (some .int))
abbrev mX0_add : MD := (yX0_add, cX0_add, 3, none)
abbrev mX2_giveTo : MD := (yX2_giveTo, cX2_giveTo, 4, none)
abbrev mL_wind : MD := (yL_wind, cL_wind, 5, (some .int))
abbrev mX11_wind : MD := (yX11_wind, cX11_wind, 3, (some .int))
abbrev mX2_changeSpring : MD := (yX2_changeSpring, cX2_changeSpring, 4, (some .int))
abbrev mL_pass : MD := (yL_pass, cL_pass, 4, (some .int))
abbrev mX11_pass : MD := (yX11_pass, cX11_pass, 3, (some .int))
abbrev mX2_play : MD := (yX2_play, cX2_play, 4, none)
abbrev mX2_useElbows : MD := (yX2_useElbows, cX2_useElbows, 6, none)
abbrev mX2_fistInRow : MD := (yX2_fistInRow, cX2_fistInRow, 2, (some .int))
abbrev mX2_takeTurns : MD := (yX2_takeTurns, cX2_takeTurns, 3, none)
abbrev mX3_endRound : MD := (yX3_endRound, cX3_endRound, 1, none)
abbrev mL_would : MD := (yL_would, cL_would, 6, (some .int))
abbrev mX11_would : MD := (yX11_would, cX11_would, 5, (some .int))
abbrev mX2_flightOf : MD := (yX2_flightOf, cX2_flightOf, 3, (some (.object "BellHammer$Flight")))
abbrev mX2_flightWithArm : MD := (yX2_flightWithArm, cX2_flightWithArm, 4, (some (.object "BellHammer$Flight")))
abbrev mL_path : MD := (yL_path, cL_path, 6, (some .int))
abbrev mX11_path : MD := (yX11_path, cX11_path, 4, (some .int))
abbrev mX4_placeBehind : MD := (yX4_placeBehind, cX4_placeBehind, 2, (some .int))
abbrev mL_needs : MD := (yL_needs, cL_needs, 5, (some .int))
abbrev mX11_needs : MD := (yX11_needs, cX11_needs, 4, (some .int))
abbrev mL_foresee : MD := (yL_foresee, cL_foresee, 5, (some .int))
abbrev mX11_foresee : MD := (yX11_foresee, cX11_foresee, 3, (some .int))
abbrev mX2_copyFrom : MD := (yX2_copyFrom, cX2_copyFrom, 3, none)
abbrev mX1_copyFrom : MD := (yX1_copyFrom, cX1_copyFrom, 3, none)
abbrev mX0_copyFrom : MD := (yX0_copyFrom, cX0_copyFrom, 3, none)
abbrev mX6_copyFrom : MD := (yX6_copyFrom, cX6_copyFrom, 3, none)
abbrev mX3_copyFrom : MD := (yX3_copyFrom, cX3_copyFrom, 2, none)
abbrev mX5_copyFrom : MD := (yX5_copyFrom, cX5_copyFrom, 2, none)
abbrev mX10_copyFrom : MD := (yX10_copyFrom, cX10_copyFrom, 2, none)
abbrev mX2_copyNumbers : MD := (yX2_copyNumbers, cX2_copyNumbers, 2, none)
abbrev mL_advise : MD := (yL_advise, cL_advise, 5, (some .int))
abbrev mX11_advise : MD := (yX11_advise, cX11_advise, 7, (some .int))
abbrev mX14_init : MD := (yX14_init, cX14_init, 1, none)
abbrev mX12_init : MD := (yX12_init, cX12_init, 1, none)
abbrev mX13_init : MD := (yX13_init, cX13_init, 1, none)
abbrev mX14_thrown : MD := (yX14_thrown, cX14_thrown, 1, (some .int))
abbrev mX14_feed : MD := (yX14_feed, cX14_feed, 6, (some .int))
abbrev mX14_no : MD := (yX14_no, cX14_no, 2, (some .int))
abbrev mX14_append : MD := (yX14_append, cX14_append, 3, none)
abbrev mX14_trim : MD := (yX14_trim, cX14_trim, 2, (some .int))
abbrev mX14_isIn : MD := (yX14_isIn, cX14_isIn, 3, (some .boolean))
abbrev mX14_teach : MD := (yX14_teach, cX14_teach, 3, (some .int))
abbrev mX14_split : MD := (yX14_split, cX14_split, 4, none)
abbrev mX14_byteAt : MD := (yX14_byteAt, cX14_byteAt, 2, (some .int))
abbrev mX14_read : MD := (yX14_read, cX14_read, 4, none)
abbrev mX14_isLetter : MD := (yX14_isLetter, cX14_isLetter, 1, (some .boolean))
abbrev mX14_readWord : MD := (yX14_readWord, cX14_readWord, 5, none)
abbrev mX14_isDigit : MD := (yX14_isDigit, cX14_isDigit, 1, (some .boolean))
abbrev mX14_isWord : MD := (yX14_isWord, cX14_isWord, 5, (some .boolean))
abbrev mX14_readNumber : MD := (yX14_readNumber, cX14_readNumber, 5, none)
abbrev mX12_empty : MD := (yX12_empty, cX12_empty, 1, none)
abbrev mX14_isOk : MD := (yX14_isOk, cX14_isOk, 1, (some .boolean))
abbrev mX14_line : MD := (yX14_line, cX14_line, 1, none)
abbrev mX14_is : MD := (yX14_is, cX14_is, 3, (some .boolean))
abbrev mX14_readRail : MD := (yX14_readRail, cX14_readRail, 5, none)
abbrev mX14_fresh : MD := (yX14_fresh, cX14_fresh, 5, (some .int))
abbrev mX14_name : MD := (yX14_name, cX14_name, 1, (some .int))
abbrev mX14_fail : MD := (yX14_fail, cX14_fail, 1, none)
abbrev mX14_find : MD := (yX14_find, cX14_find, 5, (some .int))
abbrev mX14_isSame : MD := (yX14_isSame, cX14_isSame, 4, (some .boolean))
abbrev mX14_tell : MD := (yX14_tell, cX14_tell, 3, none)
abbrev mX14_number_ : MD := (yX14_number_, cX14_number_, 4, (some .int))
abbrev mX14_take : MD := (yX14_take, cX14_take, 3, none)
abbrev mX14_number : MD := (yX14_number, cX14_number, 3, (some .int))
abbrev mX14_put : MD := (yX14_put, cX14_put, 5, none)
abbrev mX14_readRust : MD := (yX14_readRust, cX14_readRust, 5, none)
abbrev mX14_known : MD := (yX14_known, cX14_known, 5, (some .int))
abbrev mX14_readFist : MD := (yX14_readFist, cX14_readFist, 5, none)
abbrev mX14_readPrize : MD := (yX14_readPrize, cX14_readPrize, 5, none)
abbrev mX14_sum : MD := (yX14_sum, cX14_sum, 3, (some .int))
abbrev mX14_product : MD := (yX14_product, cX14_product, 3, (some .int))
abbrev mX14_one : MD := (yX14_one, cX14_one, 2, (some .int))
abbrev mX12_node : MD := (yX12_node, cX12_node, 4, (some .int))
abbrev mX14_named : MD := (yX14_named, cX14_named, 4, (some .int))
abbrev mX14_deeper : MD := (yX14_deeper, cX14_deeper, 1, none)
abbrev mX14_inner : MD := (yX14_inner, cX14_inner, 2, (some .int))
abbrev mX14_both : MD := (yX14_both, cX14_both, 4, (some .int))
abbrev mX14_test : MD := (yX14_test, cX14_test, 2, (some .int))
abbrev mX14_pair : MD := (yX14_pair, cX14_pair, 2, (some .int))
abbrev mX14_single : MD := (yX14_single, cX14_single, 3, (some .int))
abbrev mX14_readTurn : MD := (yX14_readTurn, cX14_readTurn, 4, none)
abbrev mX14_begin : MD := (yX14_begin, cX14_begin, 2, none)
abbrev mX13_begin : MD := (yX13_begin, cX13_begin, 3, none)
abbrev mX14_errorAt : MD := (yX14_errorAt, cX14_errorAt, 1, (some .int))
abbrev mX14_count : MD := (yX14_count, cX14_count, 2, (some .int))
abbrev mX14_counted : MD := (yX14_counted, cX14_counted, 3, (some .int))
abbrev mX14_purses : MD := (yX14_purses, cX14_purses, 4, (some .int))
abbrev mX14_rail : MD := (yX14_rail, cX14_rail, 3, (some .int))
abbrev mX14_isRail : MD := (yX14_isRail, cX14_isRail, 2, (some .boolean))
abbrev mX14_railTold : MD := (yX14_railTold, cX14_railTold, 3, (some .int))
abbrev mX14_fist : MD := (yX14_fist, cX14_fist, 3, (some .int))
abbrev mX14_isFist : MD := (yX14_isFist, cX14_isFist, 2, (some .boolean))
abbrev mX14_fistTold : MD := (yX14_fistTold, cX14_fistTold, 3, (some .int))
abbrev mX14_placeOf : MD := (yX14_placeOf, cX14_placeOf, 4, (some .int))
abbrev mX14_prize : MD := (yX14_prize, cX14_prize, 3, (some .int))
abbrev mX14_prizeTold : MD := (yX14_prizeTold, cX14_prizeTold, 3, (some .int))
abbrev mX14_reckon : MD := (yX14_reckon, cX14_reckon, 5, (some .int))
abbrev mX14_parts : MD := (yX14_parts, cX14_parts, 2, (some .int))
abbrev mX14_holds : MD := (yX14_holds, cX14_holds, 5, (some .boolean))
abbrev mX14_turn : MD := (yX14_turn, cX14_turn, 3, (some .int))
abbrev mX14_turnTold : MD := (yX14_turnTold, cX14_turnTold, 4, (some .int))
abbrev mX14_isOn : MD := (yX14_isOn, cX14_isOn, 3, (some .boolean))
abbrev mX14_board : MD := (yX14_board, cX14_board, 2, (some .int))
abbrev mX14_strike_ : MD := (yX14_strike_, cX14_strike_, 3, (some .int))
abbrev mX14_strike : MD := (yX14_strike, cX14_strike, 6, none)
abbrev mX14_fly : MD := (yX14_fly, cX14_fly, 10, none)
abbrev mX14_rustAt : MD := (yX14_rustAt, cX14_rustAt, 5, (some .int))
abbrev mX14_reward : MD := (yX14_reward, cX14_reward, 4, none)
abbrev mX14_wind : MD := (yX14_wind, cX14_wind, 4, (some .int))
abbrev mX14_pass : MD := (yX14_pass, cX14_pass, 3, (some .int))
abbrev mX14_given : MD := (yX14_given, cX14_given, 4, (some .int))
abbrev mX14_rounds : MD := (yX14_rounds, cX14_rounds, 4, none)
abbrev mX14_round : MD := (yX14_round, cX14_round, 3, none)
abbrev mX14_push : MD := (yX14_push, cX14_push, 4, none)
abbrev mX14_elbowsAt : MD := (yX14_elbowsAt, cX14_elbowsAt, 3, (some .int))
abbrev mX14_would : MD := (yX14_would, cX14_would, 4, (some .int))
abbrev mX14_path : MD := (yX14_path, cX14_path, 4, (some .int))
abbrev mX14_needs : MD := (yX14_needs, cX14_needs, 4, (some .int))
abbrev mX14_foresee : MD := (yX14_foresee, cX14_foresee, 3, (some .int))
abbrev mX13_become : MD := (yX13_become, cX13_become, 2, none)
abbrev mX13_copy : MD := (yX13_copy, cX13_copy, 2, none)
abbrev mX14_advise : MD := (yX14_advise, cX14_advise, 7, (some .int))
abbrev mX14_pursesWith : MD := (yX14_pursesWith, cX14_pursesWith, 4, (some .int))
abbrev mX14_mean : MD := (yX14_mean, cX14_mean, 3, (some .double))
abbrev mX14_digest : MD := (yX14_digest, cX14_digest, 4, (some .long))
theorem flX11_10 : FL RX11 10 11 0 := ⟨RX11, TX11, 6, tyX11, clX11, by decide, Or.inl (tbc2 206 rfl rfl)⟩
theorem fpX11_10 : FP mX11_init 10 11 0 := Or.inr ⟨rfl, RX11, TX11, 6, rfl, rfl, tbc2 206 rfl rfl⟩
theorem flX11_19 : FL RX11 19 11 1 := ⟨RX11, TX11, 6, tyX11, clX11, by decide, Or.inl (tbc2 207 rfl rfl)⟩
theorem fpX11_19 : FP mX11_init 19 11 1 := Or.inr ⟨rfl, RX11, TX11, 6, rfl, rfl, tbc2 207 rfl rfl⟩
theorem flX11_26 : FL RX11 26 11 3 := ⟨RX11, TX11, 6, tyX11, clX11, by decide, Or.inl (tbc2 209 rfl rfl)⟩
theorem flX11_30 : FL RX11 30 11 4 := ⟨RX11, TX11, 6, tyX11, clX11, by decide, Or.inl (tbc2 210 rfl rfl)⟩
theorem flX11_38 : FL RX11 38 11 2 := ⟨RX11, TX11, 6, tyX11, clX11, by decide, Or.inl (tbc2 208 rfl rfl)⟩
theorem fpX11_38 : FP mX11_init 38 11 2 := Or.inr ⟨rfl, RX11, TX11, 6, rfl, rfl, tbc2 208 rfl rfl⟩
theorem flX11_42 : FL RX11 42 11 5 := ⟨RX11, TX11, 6, tyX11, clX11, by decide, Or.inl (tbc2 211 rfl rfl)⟩
theorem flX11_61 : FL RX11 61 8 1 := ⟨RX8, TX8, 2, tyX8, clX8, by decide, Or.inl (tbc1 44 rfl rfl)⟩
theorem flX11_87 : FL RX11 87 2 13 := ⟨RX2, TX2, 19, tyX2, clX2, by decide, Or.inl (tbc2 135 rfl rfl)⟩
theorem flX11_132 : FL RX11 132 2 1 := ⟨RX2, TX2, 19, tyX2, clX2, by decide, Or.inl (tbc2 117 rfl rfl)⟩
theorem flX11_152 : FL RX11 152 2 14 := ⟨RX2, TX2, 19, tyX2, clX2, by decide, Or.inl (tbc2 137 rfl rfl)⟩
theorem flX11_166 : FL RX11 166 2 18 := ⟨RX2, TX2, 19, tyX2, clX2, by decide, Or.inl (tbc2 144 rfl rfl)⟩
theorem flX11_178 : FL RX11 178 4 1 := ⟨RX4, TX4, 7, tyX4, clX4, by decide, Or.inl (tbc1 187 rfl rfl)⟩
theorem flX11_181 : FL RX11 181 4 2 := ⟨RX4, TX4, 7, tyX4, clX4, by decide, Or.inl (tbc1 190 rfl rfl)⟩
theorem flX11_184 : FL RX11 184 4 3 := ⟨RX4, TX4, 7, tyX4, clX4, by decide, Or.inl (tbc1 193 rfl rfl)⟩
theorem flX11_205 : FL RX11 205 2 17 := ⟨RX2, TX2, 19, tyX2, clX2, by decide, Or.inl (tbc2 142 rfl rfl)⟩
theorem flX11_208 : FL RX11 208 2 16 := ⟨RX2, TX2, 19, tyX2, clX2, by decide, Or.inl (tbc2 140 rfl rfl)⟩
theorem flX0_9 : FL RX0 9 0 0 := ⟨RX0, TX0, 2, tyX0, clX0, by decide, Or.inl (tbc1 171 rfl rfl)⟩
theorem fpX0_9 : FP mX0_init 9 0 0 := Or.inr ⟨rfl, RX0, TX0, 2, rfl, rfl, tbc1 171 rfl rfl⟩
theorem flX0_13 : FL RX0 13 0 1 := ⟨RX0, TX0, 2, tyX0, clX0, by decide, Or.inl (tbc1 173 rfl rfl)⟩
theorem flX1_11 : FL RX1 11 1 0 := ⟨RX1, TX1, 5, tyX1, clX1, by decide, Or.inl (tbc1 147 rfl rfl)⟩
theorem fpX1_11 : FP mX1_init 11 1 0 := Or.inr ⟨rfl, RX1, TX1, 5, rfl, rfl, tbc1 147 rfl rfl⟩
theorem flX1_17 : FL RX1 17 1 1 := ⟨RX1, TX1, 5, tyX1, clX1, by decide, Or.inl (tbc1 148 rfl rfl)⟩
theorem fpX1_17 : FP mX1_init 17 1 1 := Or.inr ⟨rfl, RX1, TX1, 5, rfl, rfl, tbc1 148 rfl rfl⟩
theorem flX1_20 : FL RX1 20 1 2 := ⟨RX1, TX1, 5, tyX1, clX1, by decide, Or.inl (tbc1 149 rfl rfl)⟩
theorem fpX1_20 : FP mX1_init 20 1 2 := Or.inr ⟨rfl, RX1, TX1, 5, rfl, rfl, tbc1 149 rfl rfl⟩
theorem flX1_23 : FL RX1 23 1 4 := ⟨RX1, TX1, 5, tyX1, clX1, by decide, Or.inl (tbc1 151 rfl rfl)⟩
theorem flX1_31 : FL RX1 31 1 3 := ⟨RX1, TX1, 5, tyX1, clX1, by decide, Or.inl (tbc1 150 rfl rfl)⟩
theorem flX2_12 : FL RX2 12 2 0 := ⟨RX2, TX2, 19, tyX2, clX2, by decide, Or.inl (tbc2 114 rfl rfl)⟩
theorem fpX2_12 : FP mX2_init 12 2 0 := Or.inr ⟨rfl, RX2, TX2, 19, rfl, rfl, tbc2 114 rfl rfl⟩
theorem flX2_21 : FL RX2 21 2 1 := ⟨RX2, TX2, 19, tyX2, clX2, by decide, Or.inl (tbc2 116 rfl rfl)⟩
theorem fpX2_21 : FP mX2_init 21 2 1 := Or.inr ⟨rfl, RX2, TX2, 19, rfl, rfl, tbc2 116 rfl rfl⟩
theorem flX2_28 : FL RX2 28 2 2 := ⟨RX2, TX2, 19, tyX2, clX2, by decide, Or.inl (tbc2 118 rfl rfl)⟩
theorem fpX2_28 : FP mX2_init 28 2 2 := Or.inr ⟨rfl, RX2, TX2, 19, rfl, rfl, tbc2 118 rfl rfl⟩
theorem flX2_34 : FL RX2 34 2 3 := ⟨RX2, TX2, 19, tyX2, clX2, by decide, Or.inl (tbc2 119 rfl rfl)⟩
theorem fpX2_34 : FP mX2_init 34 2 3 := Or.inr ⟨rfl, RX2, TX2, 19, rfl, rfl, tbc2 119 rfl rfl⟩
theorem flX2_40 : FL RX2 40 2 4 := ⟨RX2, TX2, 19, tyX2, clX2, by decide, Or.inl (tbc2 120 rfl rfl)⟩
theorem fpX2_40 : FP mX2_init 40 2 4 := Or.inr ⟨rfl, RX2, TX2, 19, rfl, rfl, tbc2 120 rfl rfl⟩
theorem flX2_46 : FL RX2 46 2 5 := ⟨RX2, TX2, 19, tyX2, clX2, by decide, Or.inl (tbc2 121 rfl rfl)⟩
theorem fpX2_46 : FP mX2_init 46 2 5 := Or.inr ⟨rfl, RX2, TX2, 19, rfl, rfl, tbc2 121 rfl rfl⟩
theorem flX2_52 : FL RX2 52 2 6 := ⟨RX2, TX2, 19, tyX2, clX2, by decide, Or.inl (tbc2 122 rfl rfl)⟩
theorem fpX2_52 : FP mX2_init 52 2 6 := Or.inr ⟨rfl, RX2, TX2, 19, rfl, rfl, tbc2 122 rfl rfl⟩
theorem flX2_56 : FL RX2 56 2 7 := ⟨RX2, TX2, 19, tyX2, clX2, by decide, Or.inl (tbc2 123 rfl rfl)⟩
theorem fpX2_56 : FP mX2_init 56 2 7 := Or.inr ⟨rfl, RX2, TX2, 19, rfl, rfl, tbc2 123 rfl rfl⟩
theorem flX2_64 : FL RX2 64 1 4 := ⟨RX1, TX1, 5, tyX1, clX1, by decide, Or.inl (tbc1 152 rfl rfl)⟩
theorem flX2_68 : FL RX2 68 0 1 := ⟨RX0, TX0, 2, tyX0, clX0, by decide, Or.inl (tbc1 172 rfl rfl)⟩
theorem flX2_69 : FL RX2 69 2 8 := ⟨RX2, TX2, 19, tyX2, clX2, by decide, Or.inl (tbc2 124 rfl rfl)⟩
theorem flX2_72 : FL RX2 72 2 9 := ⟨RX2, TX2, 19, tyX2, clX2, by decide, Or.inl (tbc2 126 rfl rfl)⟩
theorem flX2_75 : FL RX2 75 2 10 := ⟨RX2, TX2, 19, tyX2, clX2, by decide, Or.inl (tbc2 128 rfl rfl)⟩
theorem flX2_78 : FL RX2 78 2 11 := ⟨RX2, TX2, 19, tyX2, clX2, by decide, Or.inl (tbc2 130 rfl rfl)⟩
theorem flX2_81 : FL RX2 81 2 12 := ⟨RX2, TX2, 19, tyX2, clX2, by decide, Or.inl (tbc2 132 rfl rfl)⟩
theorem flX2_84 : FL RX2 84 2 13 := ⟨RX2, TX2, 19, tyX2, clX2, by decide, Or.inl (tbc2 134 rfl rfl)⟩
theorem flX2_87 : FL RX2 87 2 14 := ⟨RX2, TX2, 19, tyX2, clX2, by decide, Or.inl (tbc2 136 rfl rfl)⟩
theorem flX2_90 : FL RX2 90 2 15 := ⟨RX2, TX2, 19, tyX2, clX2, by decide, Or.inl (tbc2 138 rfl rfl)⟩
theorem flX2_93 : FL RX2 93 2 16 := ⟨RX2, TX2, 19, tyX2, clX2, by decide, Or.inl (tbc2 139 rfl rfl)⟩
theorem flX2_96 : FL RX2 96 2 17 := ⟨RX2, TX2, 19, tyX2, clX2, by decide, Or.inl (tbc2 141 rfl rfl)⟩
theorem flX2_99 : FL RX2 99 2 18 := ⟨RX2, TX2, 19, tyX2, clX2, by decide, Or.inl (tbc2 143 rfl rfl)⟩
theorem flX2_125 : FL RX2 125 6 1 := ⟨RX6, TX6, 7, tyX6, clX6, by decide, Or.inl (tbc1 227 rfl rfl)⟩
theorem flX2_129 : FL RX2 129 3 0 := ⟨RX3, TX3, 10, tyX3, clX3, by decide, Or.inl (tbc2 22 rfl rfl)⟩
theorem flX2_130 : FL RX2 130 5 0 := ⟨RX5, TX5, 6, tyX5, clX5, by decide, Or.inl (tbc2 68 rfl rfl)⟩
theorem flX2_154 : FL RX2 154 6 2 := ⟨RX6, TX6, 7, tyX6, clX6, by decide, Or.inl (tbc1 230 rfl rfl)⟩
theorem flX2_157 : FL RX2 157 6 3 := ⟨RX6, TX6, 7, tyX6, clX6, by decide, Or.inl (tbc1 233 rfl rfl)⟩
theorem flX2_160 : FL RX2 160 6 4 := ⟨RX6, TX6, 7, tyX6, clX6, by decide, Or.inl (tbc1 236 rfl rfl)⟩
theorem flX2_163 : FL RX2 163 6 5 := ⟨RX6, TX6, 7, tyX6, clX6, by decide, Or.inl (tbc1 238 rfl rfl)⟩
theorem flX2_166 : FL RX2 166 6 6 := ⟨RX6, TX6, 7, tyX6, clX6, by decide, Or.inl (tbc2 0 rfl rfl)⟩
theorem flX2_170 : FL RX2 170 3 1 := ⟨RX3, TX3, 10, tyX3, clX3, by decide, Or.inl (tbc2 24 rfl rfl)⟩
theorem flX2_173 : FL RX2 173 3 2 := ⟨RX3, TX3, 10, tyX3, clX3, by decide, Or.inl (tbc2 26 rfl rfl)⟩
theorem flX2_176 : FL RX2 176 3 3 := ⟨RX3, TX3, 10, tyX3, clX3, by decide, Or.inl (tbc2 28 rfl rfl)⟩
theorem flX2_179 : FL RX2 179 3 4 := ⟨RX3, TX3, 10, tyX3, clX3, by decide, Or.inl (tbc2 30 rfl rfl)⟩
theorem flX2_182 : FL RX2 182 3 5 := ⟨RX3, TX3, 10, tyX3, clX3, by decide, Or.inl (tbc2 32 rfl rfl)⟩
theorem flX2_185 : FL RX2 185 3 6 := ⟨RX3, TX3, 10, tyX3, clX3, by decide, Or.inl (tbc2 34 rfl rfl)⟩
theorem flX2_186 : FL RX2 186 3 7 := ⟨RX3, TX3, 10, tyX3, clX3, by decide, Or.inl (tbc2 36 rfl rfl)⟩
theorem flX2_187 : FL RX2 187 3 8 := ⟨RX3, TX3, 10, tyX3, clX3, by decide, Or.inl (tbc2 38 rfl rfl)⟩
theorem flX2_195 : FL RX2 195 5 1 := ⟨RX5, TX5, 6, tyX5, clX5, by decide, Or.inl (tbc2 70 rfl rfl)⟩
theorem flX2_198 : FL RX2 198 5 2 := ⟨RX5, TX5, 6, tyX5, clX5, by decide, Or.inl (tbc2 72 rfl rfl)⟩
theorem flX2_199 : FL RX2 199 5 3 := ⟨RX5, TX5, 6, tyX5, clX5, by decide, Or.inl (tbc2 74 rfl rfl)⟩
theorem flX2_202 : FL RX2 202 5 4 := ⟨RX5, TX5, 6, tyX5, clX5, by decide, Or.inl (tbc2 76 rfl rfl)⟩
theorem flX2_209 : FL RX2 209 5 5 := ⟨RX5, TX5, 6, tyX5, clX5, by decide, Or.inl (tbc2 78 rfl rfl)⟩
theorem flX2_215 : FL RX2 215 10 0 := ⟨RX10, TX10, 4, tyX10, clX10, by decide, Or.inl (tbc2 98 rfl rfl)⟩
theorem flX2_218 : FL RX2 218 10 1 := ⟨RX10, TX10, 4, tyX10, clX10, by decide, Or.inl (tbc2 100 rfl rfl)⟩
theorem flX2_228 : FL RX2 228 10 2 := ⟨RX10, TX10, 4, tyX10, clX10, by decide, Or.inl (tbc2 102 rfl rfl)⟩
theorem flX2_229 : FL RX2 229 10 3 := ⟨RX10, TX10, 4, tyX10, clX10, by decide, Or.inl (tbc2 104 rfl rfl)⟩
theorem flX2_241 : FL RX2 241 4 1 := ⟨RX4, TX4, 7, tyX4, clX4, by decide, Or.inl (tbc1 188 rfl rfl)⟩
theorem flX2_242 : FL RX2 242 4 2 := ⟨RX4, TX4, 7, tyX4, clX4, by decide, Or.inl (tbc1 191 rfl rfl)⟩
theorem flX2_247 : FL RX2 247 3 9 := ⟨RX3, TX3, 10, tyX3, clX3, by decide, Or.inl (tbc2 40 rfl rfl)⟩
theorem flX3_7 : FL RX3 7 3 0 := ⟨RX3, TX3, 10, tyX3, clX3, by decide, Or.inl (tbc2 21 rfl rfl)⟩
theorem flX3_13 : FL RX3 13 3 1 := ⟨RX3, TX3, 10, tyX3, clX3, by decide, Or.inl (tbc2 23 rfl rfl)⟩
theorem flX3_17 : FL RX3 17 3 2 := ⟨RX3, TX3, 10, tyX3, clX3, by decide, Or.inl (tbc2 25 rfl rfl)⟩
theorem flX3_20 : FL RX3 20 3 3 := ⟨RX3, TX3, 10, tyX3, clX3, by decide, Or.inl (tbc2 27 rfl rfl)⟩
theorem flX3_23 : FL RX3 23 3 4 := ⟨RX3, TX3, 10, tyX3, clX3, by decide, Or.inl (tbc2 29 rfl rfl)⟩
theorem flX3_26 : FL RX3 26 3 5 := ⟨RX3, TX3, 10, tyX3, clX3, by decide, Or.inl (tbc2 31 rfl rfl)⟩
theorem flX3_29 : FL RX3 29 3 6 := ⟨RX3, TX3, 10, tyX3, clX3, by decide, Or.inl (tbc2 33 rfl rfl)⟩
theorem flX3_32 : FL RX3 32 3 7 := ⟨RX3, TX3, 10, tyX3, clX3, by decide, Or.inl (tbc2 35 rfl rfl)⟩
theorem flX3_35 : FL RX3 35 3 8 := ⟨RX3, TX3, 10, tyX3, clX3, by decide, Or.inl (tbc2 37 rfl rfl)⟩
theorem flX3_38 : FL RX3 38 3 9 := ⟨RX3, TX3, 10, tyX3, clX3, by decide, Or.inl (tbc2 39 rfl rfl)⟩
theorem flX4_9 : FL RX4 9 4 0 := ⟨RX4, TX4, 7, tyX4, clX4, by decide, Or.inl (tbc1 185 rfl rfl)⟩
theorem fpX4_9 : FP mX4_init 9 4 0 := Or.inr ⟨rfl, RX4, TX4, 7, rfl, rfl, tbc1 185 rfl rfl⟩
theorem flX4_13 : FL RX4 13 4 1 := ⟨RX4, TX4, 7, tyX4, clX4, by decide, Or.inl (tbc1 186 rfl rfl)⟩
theorem flX4_17 : FL RX4 17 4 2 := ⟨RX4, TX4, 7, tyX4, clX4, by decide, Or.inl (tbc1 189 rfl rfl)⟩
theorem flX4_20 : FL RX4 20 4 3 := ⟨RX4, TX4, 7, tyX4, clX4, by decide, Or.inl (tbc1 192 rfl rfl)⟩
theorem flX4_23 : FL RX4 23 4 4 := ⟨RX4, TX4, 7, tyX4, clX4, by decide, Or.inl (tbc1 194 rfl rfl)⟩
theorem flX4_26 : FL RX4 26 6 3 := ⟨RX6, TX6, 7, tyX6, clX6, by decide, Or.inl (tbc1 232 rfl rfl)⟩
theorem flX4_31 : FL RX4 31 4 5 := ⟨RX4, TX4, 7, tyX4, clX4, by decide, Or.inl (tbc1 195 rfl rfl)⟩
theorem flX4_34 : FL RX4 34 4 6 := ⟨RX4, TX4, 7, tyX4, clX4, by decide, Or.inl (tbc1 196 rfl rfl)⟩
theorem flX4_42 : FL RX4 42 6 2 := ⟨RX6, TX6, 7, tyX6, clX6, by decide, Or.inl (tbc1 229 rfl rfl)⟩
theorem flX4_45 : FL RX4 45 6 4 := ⟨RX6, TX6, 7, tyX6, clX6, by decide, Or.inl (tbc1 235 rfl rfl)⟩
theorem flX5_7 : FL RX5 7 5 0 := ⟨RX5, TX5, 6, tyX5, clX5, by decide, Or.inl (tbc2 67 rfl rfl)⟩
theorem flX5_13 : FL RX5 13 5 1 := ⟨RX5, TX5, 6, tyX5, clX5, by decide, Or.inl (tbc2 69 rfl rfl)⟩
theorem flX5_17 : FL RX5 17 5 2 := ⟨RX5, TX5, 6, tyX5, clX5, by decide, Or.inl (tbc2 71 rfl rfl)⟩
theorem flX5_20 : FL RX5 20 5 3 := ⟨RX5, TX5, 6, tyX5, clX5, by decide, Or.inl (tbc2 73 rfl rfl)⟩
theorem flX5_23 : FL RX5 23 5 4 := ⟨RX5, TX5, 6, tyX5, clX5, by decide, Or.inl (tbc2 75 rfl rfl)⟩
theorem flX5_26 : FL RX5 26 5 5 := ⟨RX5, TX5, 6, tyX5, clX5, by decide, Or.inl (tbc2 77 rfl rfl)⟩
theorem flX6_9 : FL RX6 9 6 0 := ⟨RX6, TX6, 7, tyX6, clX6, by decide, Or.inl (tbc1 225 rfl rfl)⟩
theorem fpX6_9 : FP mX6_init 9 6 0 := Or.inr ⟨rfl, RX6, TX6, 7, rfl, rfl, tbc1 225 rfl rfl⟩
theorem flX6_13 : FL RX6 13 6 1 := ⟨RX6, TX6, 7, tyX6, clX6, by decide, Or.inl (tbc1 226 rfl rfl)⟩
theorem flX6_17 : FL RX6 17 6 2 := ⟨RX6, TX6, 7, tyX6, clX6, by decide, Or.inl (tbc1 228 rfl rfl)⟩
theorem flX6_21 : FL RX6 21 6 3 := ⟨RX6, TX6, 7, tyX6, clX6, by decide, Or.inl (tbc1 231 rfl rfl)⟩
theorem flX6_24 : FL RX6 24 6 4 := ⟨RX6, TX6, 7, tyX6, clX6, by decide, Or.inl (tbc1 234 rfl rfl)⟩
theorem flX6_27 : FL RX6 27 6 5 := ⟨RX6, TX6, 7, tyX6, clX6, by decide, Or.inl (tbc1 237 rfl rfl)⟩
theorem flX6_30 : FL RX6 30 6 6 := ⟨RX6, TX6, 7, tyX6, clX6, by decide, Or.inl (tbc1 239 rfl rfl)⟩
theorem flX7_9 : FL RX7 9 7 0 := ⟨RX7, TX7, 5, tyX7, clX7, by decide, Or.inl (tbc2 190 rfl rfl)⟩
theorem fpX7_9 : FP mX7_init 9 7 0 := Or.inr ⟨rfl, RX7, TX7, 5, rfl, rfl, tbc2 190 rfl rfl⟩
theorem flX7_15 : FL RX7 15 7 1 := ⟨RX7, TX7, 5, tyX7, clX7, by decide, Or.inl (tbc2 191 rfl rfl)⟩
theorem flX7_19 : FL RX7 19 7 4 := ⟨RX7, TX7, 5, tyX7, clX7, by decide, Or.inl (tbc2 194 rfl rfl)⟩
theorem flX7_23 : FL RX7 23 7 2 := ⟨RX7, TX7, 5, tyX7, clX7, by decide, Or.inl (tbc2 192 rfl rfl)⟩
theorem flX7_26 : FL RX7 26 7 3 := ⟨RX7, TX7, 5, tyX7, clX7, by decide, Or.inl (tbc2 193 rfl rfl)⟩
theorem flX7_70 : FL RX7 70 2 8 := ⟨RX2, TX2, 19, tyX2, clX2, by decide, Or.inl (tbc2 125 rfl rfl)⟩
theorem flX7_87 : FL RX7 87 2 9 := ⟨RX2, TX2, 19, tyX2, clX2, by decide, Or.inl (tbc2 127 rfl rfl)⟩
theorem flX7_107 : FL RX7 107 2 10 := ⟨RX2, TX2, 19, tyX2, clX2, by decide, Or.inl (tbc2 129 rfl rfl)⟩
theorem flX7_116 : FL RX7 116 2 11 := ⟨RX2, TX2, 19, tyX2, clX2, by decide, Or.inl (tbc2 131 rfl rfl)⟩
theorem flX7_119 : FL RX7 119 2 0 := ⟨RX2, TX2, 19, tyX2, clX2, by decide, Or.inl (tbc2 115 rfl rfl)⟩
theorem flX7_123 : FL RX7 123 1 4 := ⟨RX1, TX1, 5, tyX1, clX1, by decide, Or.inl (tbc1 153 rfl rfl)⟩
theorem flX7_138 : FL RX7 138 2 12 := ⟨RX2, TX2, 19, tyX2, clX2, by decide, Or.inl (tbc2 133 rfl rfl)⟩
theorem flX8_11 : FL RX8 11 8 0 := ⟨RX8, TX8, 2, tyX8, clX8, by decide, Or.inl (tbc1 42 rfl rfl)⟩
theorem fpX8_11 : FP mX8_init 11 8 0 := Or.inr ⟨rfl, RX8, TX8, 2, rfl, rfl, tbc1 42 rfl rfl⟩
theorem flX8_15 : FL RX8 15 8 1 := ⟨RX8, TX8, 2, tyX8, clX8, by decide, Or.inl (tbc1 43 rfl rfl)⟩
theorem flX9_11 : FL RX9 11 9 0 := ⟨RX9, TX9, 5, tyX9, clX9, by decide, Or.inl (tbc1 117 rfl rfl)⟩
theorem fpX9_11 : FP mX9_init 11 9 0 := Or.inr ⟨rfl, RX9, TX9, 5, rfl, rfl, tbc1 117 rfl rfl⟩
theorem flX9_15 : FL RX9 15 9 1 := ⟨RX9, TX9, 5, tyX9, clX9, by decide, Or.inl (tbc1 118 rfl rfl)⟩
theorem fpX9_15 : FP mX9_init 15 9 1 := Or.inr ⟨rfl, RX9, TX9, 5, rfl, rfl, tbc1 118 rfl rfl⟩
theorem flX9_18 : FL RX9 18 9 2 := ⟨RX9, TX9, 5, tyX9, clX9, by decide, Or.inl (tbc1 119 rfl rfl)⟩
theorem fpX9_18 : FP mX9_init 18 9 2 := Or.inr ⟨rfl, RX9, TX9, 5, rfl, rfl, tbc1 119 rfl rfl⟩
theorem flX9_28 : FL RX9 28 9 3 := ⟨RX9, TX9, 5, tyX9, clX9, by decide, Or.inl (tbc1 120 rfl rfl)⟩
theorem fpX9_28 : FP mX9_init 28 9 3 := Or.inr ⟨rfl, RX9, TX9, 5, rfl, rfl, tbc1 120 rfl rfl⟩
theorem flX9_31 : FL RX9 31 9 4 := ⟨RX9, TX9, 5, tyX9, clX9, by decide, Or.inl (tbc1 121 rfl rfl)⟩
theorem flX9_42 : FL RX9 42 8 1 := ⟨RX8, TX8, 2, tyX8, clX8, by decide, Or.inl (tbc1 45 rfl rfl)⟩
theorem flX10_7 : FL RX10 7 10 0 := ⟨RX10, TX10, 4, tyX10, clX10, by decide, Or.inl (tbc2 97 rfl rfl)⟩
theorem flX10_13 : FL RX10 13 10 1 := ⟨RX10, TX10, 4, tyX10, clX10, by decide, Or.inl (tbc2 99 rfl rfl)⟩
theorem flX10_16 : FL RX10 16 10 2 := ⟨RX10, TX10, 4, tyX10, clX10, by decide, Or.inl (tbc2 101 rfl rfl)⟩
theorem flX10_19 : FL RX10 19 10 3 := ⟨RX10, TX10, 4, tyX10, clX10, by decide, Or.inl (tbc2 103 rfl rfl)⟩
theorem flX14_9 : FL RX14 9 14 1 := ⟨RX14, TX14, 25, tyX14, clX14, by decide, Or.inl (tbc6 98 rfl rfl)⟩
theorem fpX14_9 : FP mX14_init 9 14 1 := Or.inr ⟨rfl, RX14, TX14, 25, rfl, rfl, tbc6 98 rfl rfl⟩
theorem flX14_13 : FL RX14 13 14 3 := ⟨RX14, TX14, 25, tyX14, clX14, by decide, Or.inl (tbc6 100 rfl rfl)⟩
theorem flX14_17 : FL RX14 17 14 4 := ⟨RX14, TX14, 25, tyX14, clX14, by decide, Or.inl (tbc6 101 rfl rfl)⟩
theorem fpX14_17 : FP mX14_init 17 14 4 := Or.inr ⟨rfl, RX14, TX14, 25, rfl, rfl, tbc6 101 rfl rfl⟩
theorem flX14_20 : FL RX14 20 14 5 := ⟨RX14, TX14, 25, tyX14, clX14, by decide, Or.inl (tbc6 102 rfl rfl)⟩
theorem fpX14_20 : FP mX14_init 20 14 5 := Or.inr ⟨rfl, RX14, TX14, 25, rfl, rfl, tbc6 102 rfl rfl⟩
theorem flX14_23 : FL RX14 23 14 6 := ⟨RX14, TX14, 25, tyX14, clX14, by decide, Or.inl (tbc6 103 rfl rfl)⟩
theorem fpX14_23 : FP mX14_init 23 14 6 := Or.inr ⟨rfl, RX14, TX14, 25, rfl, rfl, tbc6 103 rfl rfl⟩
theorem flX14_26 : FL RX14 26 14 7 := ⟨RX14, TX14, 25, tyX14, clX14, by decide, Or.inl (tbc6 104 rfl rfl)⟩
theorem fpX14_26 : FP mX14_init 26 14 7 := Or.inr ⟨rfl, RX14, TX14, 25, rfl, rfl, tbc6 104 rfl rfl⟩
theorem flX14_32 : FL RX14 32 14 8 := ⟨RX14, TX14, 25, tyX14, clX14, by decide, Or.inl (tbc6 105 rfl rfl)⟩
theorem flX14_36 : FL RX14 36 14 9 := ⟨RX14, TX14, 25, tyX14, clX14, by decide, Or.inl (tbc6 106 rfl rfl)⟩
theorem flX14_39 : FL RX14 39 14 10 := ⟨RX14, TX14, 25, tyX14, clX14, by decide, Or.inl (tbc6 107 rfl rfl)⟩
theorem fpX14_39 : FP mX14_init 39 14 10 := Or.inr ⟨rfl, RX14, TX14, 25, rfl, rfl, tbc6 107 rfl rfl⟩
theorem flX14_42 : FL RX14 42 14 11 := ⟨RX14, TX14, 25, tyX14, clX14, by decide, Or.inl (tbc6 108 rfl rfl)⟩
theorem fpX14_42 : FP mX14_init 42 14 11 := Or.inr ⟨rfl, RX14, TX14, 25, rfl, rfl, tbc6 108 rfl rfl⟩
theorem flX14_45 : FL RX14 45 14 12 := ⟨RX14, TX14, 25, tyX14, clX14, by decide, Or.inl (tbc6 109 rfl rfl)⟩
theorem fpX14_45 : FP mX14_init 45 14 12 := Or.inr ⟨rfl, RX14, TX14, 25, rfl, rfl, tbc6 109 rfl rfl⟩
theorem flX14_51 : FL RX14 51 14 18 := ⟨RX14, TX14, 25, tyX14, clX14, by decide, Or.inl (tbc6 115 rfl rfl)⟩
theorem fpX14_51 : FP mX14_init 51 14 18 := Or.inr ⟨rfl, RX14, TX14, 25, rfl, rfl, tbc6 115 rfl rfl⟩
theorem flX14_55 : FL RX14 55 14 19 := ⟨RX14, TX14, 25, tyX14, clX14, by decide, Or.inl (tbc6 116 rfl rfl)⟩
theorem fpX14_55 : FP mX14_init 55 14 19 := Or.inr ⟨rfl, RX14, TX14, 25, rfl, rfl, tbc6 116 rfl rfl⟩
theorem flX14_58 : FL RX14 58 14 0 := ⟨RX14, TX14, 25, tyX14, clX14, by decide, Or.inl (tbc6 97 rfl rfl)⟩
theorem flX14_61 : FL RX14 61 14 2 := ⟨RX14, TX14, 25, tyX14, clX14, by decide, Or.inl (tbc6 99 rfl rfl)⟩
theorem flX14_113 : FL RX14 113 14 15 := ⟨RX14, TX14, 25, tyX14, clX14, by decide, Or.inl (tbc6 112 rfl rfl)⟩
theorem flX14_116 : FL RX14 116 14 13 := ⟨RX14, TX14, 25, tyX14, clX14, by decide, Or.inl (tbc6 110 rfl rfl)⟩
theorem flX14_130 : FL RX14 130 14 16 := ⟨RX14, TX14, 25, tyX14, clX14, by decide, Or.inl (tbc6 113 rfl rfl)⟩
theorem flX14_133 : FL RX14 133 14 17 := ⟨RX14, TX14, 25, tyX14, clX14, by decide, Or.inl (tbc6 114 rfl rfl)⟩
theorem flX14_136 : FL RX14 136 14 14 := ⟨RX14, TX14, 25, tyX14, clX14, by decide, Or.inl (tbc6 111 rfl rfl)⟩
theorem flX14_170 : FL RX14 170 12 2 := ⟨RX12, TX12, 14, tyX12, clX12, by decide, Or.inr ⟨"BellHammerModel", tbn5 232 rfl rfl⟩⟩
theorem flX14_177 : FL RX14 177 12 0 := ⟨RX12, TX12, 14, tyX12, clX12, by decide, Or.inr ⟨"BellHammerModel", tbn5 228 rfl rfl⟩⟩
theorem flX14_180 : FL RX14 180 12 3 := ⟨RX12, TX12, 14, tyX12, clX12, by decide, Or.inr ⟨"BellHammerModel", tbn5 234 rfl rfl⟩⟩
theorem flX14_227 : FL RX14 227 12 5 := ⟨RX12, TX12, 14, tyX12, clX12, by decide, Or.inr ⟨"BellHammerModel", tbn5 239 rfl rfl⟩⟩
theorem flX14_234 : FL RX14 234 12 1 := ⟨RX12, TX12, 14, tyX12, clX12, by decide, Or.inr ⟨"BellHammerModel", tbn5 230 rfl rfl⟩⟩
theorem flX14_237 : FL RX14 237 12 6 := ⟨RX12, TX12, 14, tyX12, clX12, by decide, Or.inr ⟨"BellHammerModel", tbn6 1 rfl rfl⟩⟩
theorem flX14_240 : FL RX14 240 12 7 := ⟨RX12, TX12, 14, tyX12, clX12, by decide, Or.inr ⟨"BellHammerModel", tbn6 4 rfl rfl⟩⟩
theorem flX14_243 : FL RX14 243 12 8 := ⟨RX12, TX12, 14, tyX12, clX12, by decide, Or.inr ⟨"BellHammerModel", tbn6 7 rfl rfl⟩⟩
theorem flX14_246 : FL RX14 246 12 4 := ⟨RX12, TX12, 14, tyX12, clX12, by decide, Or.inr ⟨"BellHammerModel", tbn5 236 rfl rfl⟩⟩
theorem flX14_249 : FL RX14 249 12 9 := ⟨RX12, TX12, 14, tyX12, clX12, by decide, Or.inr ⟨"BellHammerModel", tbn6 9 rfl rfl⟩⟩
theorem flX14_266 : FL RX14 266 12 12 := ⟨RX12, TX12, 14, tyX12, clX12, by decide, Or.inr ⟨"BellHammerModel", tbn6 14 rfl rfl⟩⟩
theorem flX14_268 : FL RX14 268 12 13 := ⟨RX12, TX12, 14, tyX12, clX12, by decide, Or.inr ⟨"BellHammerModel", tbn6 16 rfl rfl⟩⟩
theorem flX14_271 : FL RX14 271 12 11 := ⟨RX12, TX12, 14, tyX12, clX12, by decide, Or.inr ⟨"BellHammerModel", tbn6 12 rfl rfl⟩⟩
theorem flX14_274 : FL RX14 274 13 3 := ⟨RX13, TX13, 11, tyX13, clX13, by decide, Or.inr ⟨"BellHammerModel", tbn6 59 rfl rfl⟩⟩
theorem flX14_277 : FL RX14 277 13 4 := ⟨RX13, TX13, 11, tyX13, clX13, by decide, Or.inr ⟨"BellHammerModel", tbn6 61 rfl rfl⟩⟩
theorem flX14_280 : FL RX14 280 13 0 := ⟨RX13, TX13, 11, tyX13, clX13, by decide, Or.inr ⟨"BellHammerModel", tbn6 53 rfl rfl⟩⟩
theorem flX14_283 : FL RX14 283 13 8 := ⟨RX13, TX13, 11, tyX13, clX13, by decide, Or.inr ⟨"BellHammerModel", tbn6 69 rfl rfl⟩⟩
theorem flX14_284 : FL RX14 284 13 7 := ⟨RX13, TX13, 11, tyX13, clX13, by decide, Or.inr ⟨"BellHammerModel", tbn6 67 rfl rfl⟩⟩
theorem flX14_285 : FL RX14 285 13 9 := ⟨RX13, TX13, 11, tyX13, clX13, by decide, Or.inr ⟨"BellHammerModel", tbn6 71 rfl rfl⟩⟩
theorem flX14_305 : FL RX14 305 14 20 := ⟨RX14, TX14, 25, tyX14, clX14, by decide, Or.inl (tbc6 117 rfl rfl)⟩
theorem flX14_308 : FL RX14 308 14 21 := ⟨RX14, TX14, 25, tyX14, clX14, by decide, Or.inl (tbc6 118 rfl rfl)⟩
theorem flX14_311 : FL RX14 311 14 22 := ⟨RX14, TX14, 25, tyX14, clX14, by decide, Or.inl (tbc6 119 rfl rfl)⟩
theorem flX14_314 : FL RX14 314 14 24 := ⟨RX14, TX14, 25, tyX14, clX14, by decide, Or.inl (tbc6 121 rfl rfl)⟩
theorem flX14_320 : FL RX14 320 14 23 := ⟨RX14, TX14, 25, tyX14, clX14, by decide, Or.inl (tbc6 120 rfl rfl)⟩
theorem flX14_327 : FL RX14 327 13 1 := ⟨RX13, TX13, 11, tyX13, clX13, by decide, Or.inr ⟨"BellHammerModel", tbn6 55 rfl rfl⟩⟩
theorem flX14_330 : FL RX14 330 13 2 := ⟨RX13, TX13, 11, tyX13, clX13, by decide, Or.inr ⟨"BellHammerModel", tbn6 57 rfl rfl⟩⟩
theorem flX14_333 : FL RX14 333 13 6 := ⟨RX13, TX13, 11, tyX13, clX13, by decide, Or.inr ⟨"BellHammerModel", tbn6 65 rfl rfl⟩⟩
theorem flX14_336 : FL RX14 336 13 5 := ⟨RX13, TX13, 11, tyX13, clX13, by decide, Or.inr ⟨"BellHammerModel", tbn6 63 rfl rfl⟩⟩
theorem flX14_343 : FL RX14 343 13 10 := ⟨RX13, TX13, 11, tyX13, clX13, by decide, Or.inr ⟨"BellHammerModel", tbn6 73 rfl rfl⟩⟩
theorem flX12_9 : FL RX12 9 12 5 := ⟨RX12, TX12, 14, tyX12, clX12, by decide, Or.inl (tbc5 237 rfl rfl)⟩
theorem fpX12_9 : FP mX12_init 9 12 5 := Or.inr ⟨rfl, RX12, TX12, 14, rfl, rfl, tbc5 237 rfl rfl⟩
theorem flX12_15 : FL RX12 15 12 6 := ⟨RX12, TX12, 14, tyX12, clX12, by decide, Or.inl (tbc6 0 rfl rfl)⟩
theorem fpX12_15 : FP mX12_init 15 12 6 := Or.inr ⟨rfl, RX12, TX12, 14, rfl, rfl, tbc6 0 rfl rfl⟩
theorem flX12_18 : FL RX12 18 12 7 := ⟨RX12, TX12, 14, tyX12, clX12, by decide, Or.inl (tbc6 2 rfl rfl)⟩
theorem fpX12_18 : FP mX12_init 18 12 7 := Or.inr ⟨rfl, RX12, TX12, 14, rfl, rfl, tbc6 2 rfl rfl⟩
theorem flX12_21 : FL RX12 21 12 8 := ⟨RX12, TX12, 14, tyX12, clX12, by decide, Or.inl (tbc6 5 rfl rfl)⟩
theorem fpX12_21 : FP mX12_init 21 12 8 := Or.inr ⟨rfl, RX12, TX12, 14, rfl, rfl, tbc6 5 rfl rfl⟩
theorem flX12_24 : FL RX12 24 12 9 := ⟨RX12, TX12, 14, tyX12, clX12, by decide, Or.inl (tbc6 8 rfl rfl)⟩
theorem fpX12_24 : FP mX12_init 24 12 9 := Or.inr ⟨rfl, RX12, TX12, 14, rfl, rfl, tbc6 8 rfl rfl⟩
theorem flX12_27 : FL RX12 27 12 11 := ⟨RX12, TX12, 14, tyX12, clX12, by decide, Or.inl (tbc6 11 rfl rfl)⟩
theorem fpX12_27 : FP mX12_init 27 12 11 := Or.inr ⟨rfl, RX12, TX12, 14, rfl, rfl, tbc6 11 rfl rfl⟩
theorem flX12_30 : FL RX12 30 12 12 := ⟨RX12, TX12, 14, tyX12, clX12, by decide, Or.inl (tbc6 13 rfl rfl)⟩
theorem fpX12_30 : FP mX12_init 30 12 12 := Or.inr ⟨rfl, RX12, TX12, 14, rfl, rfl, tbc6 13 rfl rfl⟩
theorem flX12_33 : FL RX12 33 12 13 := ⟨RX12, TX12, 14, tyX12, clX12, by decide, Or.inl (tbc6 15 rfl rfl)⟩
theorem fpX12_33 : FP mX12_init 33 12 13 := Or.inr ⟨rfl, RX12, TX12, 14, rfl, rfl, tbc6 15 rfl rfl⟩
theorem flX12_36 : FL RX12 36 12 0 := ⟨RX12, TX12, 14, tyX12, clX12, by decide, Or.inl (tbc5 227 rfl rfl)⟩
theorem flX12_40 : FL RX12 40 12 1 := ⟨RX12, TX12, 14, tyX12, clX12, by decide, Or.inl (tbc5 229 rfl rfl)⟩
theorem flX12_43 : FL RX12 43 12 2 := ⟨RX12, TX12, 14, tyX12, clX12, by decide, Or.inl (tbc5 231 rfl rfl)⟩
theorem flX12_46 : FL RX12 46 12 3 := ⟨RX12, TX12, 14, tyX12, clX12, by decide, Or.inl (tbc5 233 rfl rfl)⟩
theorem flX12_49 : FL RX12 49 12 4 := ⟨RX12, TX12, 14, tyX12, clX12, by decide, Or.inl (tbc5 235 rfl rfl)⟩
theorem flX12_52 : FL RX12 52 12 10 := ⟨RX12, TX12, 14, tyX12, clX12, by decide, Or.inl (tbc6 10 rfl rfl)⟩
theorem flX13_7 : FL RX13 7 13 6 := ⟨RX13, TX13, 11, tyX13, clX13, by decide, Or.inl (tbc6 64 rfl rfl)⟩
theorem fpX13_7 : FP mX13_init 7 13 6 := Or.inr ⟨rfl, RX13, TX13, 11, rfl, rfl, tbc6 64 rfl rfl⟩
theorem flX13_13 : FL RX13 13 13 7 := ⟨RX13, TX13, 11, tyX13, clX13, by decide, Or.inl (tbc6 66 rfl rfl)⟩
theorem fpX13_13 : FP mX13_init 13 13 7 := Or.inr ⟨rfl, RX13, TX13, 11, rfl, rfl, tbc6 66 rfl rfl⟩
theorem flX13_16 : FL RX13 16 13 8 := ⟨RX13, TX13, 11, tyX13, clX13, by decide, Or.inl (tbc6 68 rfl rfl)⟩
theorem fpX13_16 : FP mX13_init 16 13 8 := Or.inr ⟨rfl, RX13, TX13, 11, rfl, rfl, tbc6 68 rfl rfl⟩
theorem flX13_19 : FL RX13 19 13 9 := ⟨RX13, TX13, 11, tyX13, clX13, by decide, Or.inl (tbc6 70 rfl rfl)⟩
theorem fpX13_19 : FP mX13_init 19 13 9 := Or.inr ⟨rfl, RX13, TX13, 11, rfl, rfl, tbc6 70 rfl rfl⟩
theorem flX13_22 : FL RX13 22 13 10 := ⟨RX13, TX13, 11, tyX13, clX13, by decide, Or.inl (tbc6 72 rfl rfl)⟩
theorem fpX13_22 : FP mX13_init 22 13 10 := Or.inr ⟨rfl, RX13, TX13, 11, rfl, rfl, tbc6 72 rfl rfl⟩
theorem flX13_31 : FL RX13 31 13 0 := ⟨RX13, TX13, 11, tyX13, clX13, by decide, Or.inl (tbc6 52 rfl rfl)⟩
theorem flX13_35 : FL RX13 35 13 1 := ⟨RX13, TX13, 11, tyX13, clX13, by decide, Or.inl (tbc6 54 rfl rfl)⟩
theorem flX13_38 : FL RX13 38 13 2 := ⟨RX13, TX13, 11, tyX13, clX13, by decide, Or.inl (tbc6 56 rfl rfl)⟩
theorem flX13_41 : FL RX13 41 13 3 := ⟨RX13, TX13, 11, tyX13, clX13, by decide, Or.inl (tbc6 58 rfl rfl)⟩
theorem flX13_44 : FL RX13 44 13 4 := ⟨RX13, TX13, 11, tyX13, clX13, by decide, Or.inl (tbc6 60 rfl rfl)⟩
theorem flX13_47 : FL RX13 47 13 5 := ⟨RX13, TX13, 11, tyX13, clX13, by decide, Or.inl (tbc6 62 rfl rfl)⟩
theorem flX13_54 : FL RX13 54 12 5 := ⟨RX12, TX12, 14, tyX12, clX12, by decide, Or.inr ⟨"BellHammerModel", tbn5 238 rfl rfl⟩⟩
theorem flX13_57 : FL RX13 57 12 7 := ⟨RX12, TX12, 14, tyX12, clX12, by decide, Or.inr ⟨"BellHammerModel", tbn6 3 rfl rfl⟩⟩
theorem flX13_58 : FL RX13 58 12 8 := ⟨RX12, TX12, 14, tyX12, clX12, by decide, Or.inr ⟨"BellHammerModel", tbn6 6 rfl rfl⟩⟩
theorem mcX11_init : MC 2 mX11_init 0 := ⟨tbc1 32 rfl rfl, tbc1 1 rfl rfl, ⟨by decide, by decide⟩, by decide +kernel, by decide +kernel, by decide, tbc1 31 rfl rfl, rfl, rfl⟩
theorem mcX8_init : MC 2 mX8_init 0 := ⟨tbc1 40 rfl rfl, tbc1 2 rfl rfl, ⟨by decide, by decide⟩, by decide +kernel, by decide +kernel, by decide, tbc1 39 rfl rfl, rfl, rfl⟩
theorem mcX9_init : MC 2 mX9_init 0 := ⟨tbc1 56 rfl rfl, tbc1 3 rfl rfl, ⟨by decide, by decide⟩, by decide +kernel, by decide +kernel, by decide, tbc1 55 rfl rfl, rfl, rfl⟩
theorem mcX9_codesOf : MC 1 mX9_codesOf 1 := ⟨tbc1 61 rfl rfl, tbc1 3 rfl rfl, ⟨by decide, by decide⟩, by decide +kernel, by decide +kernel, by decide, tbc1 60 rfl rfl⟩
theorem mcX9_withSign : MC 1 mX9_withSign 2 := ⟨tbc1 112 rfl rfl, tbc1 3 rfl rfl, ⟨by decide, by decide⟩, by decide +kernel, by decide +kernel, by decide, tbc1 111 rfl rfl⟩
theorem mcX9_isLetter : MC 1 mX9_isLetter 1 := ⟨tbc1 116 rfl rfl, tbc1 3 rfl rfl, ⟨by decide, by decide⟩, by decide +kernel, by decide +kernel, by decide, tbc1 115 rfl rfl⟩
theorem mcX2_init : MC 2 mX2_init 0 := ⟨tbc1 139 rfl rfl, tbc1 8 rfl rfl, ⟨by decide, by decide⟩, by decide +kernel, by decide +kernel, by decide, tbc1 138 rfl rfl, rfl, rfl⟩
theorem mcX1_init : MC 2 mX1_init 0 := ⟨tbc1 145 rfl rfl, tbc1 9 rfl rfl, ⟨by decide, by decide⟩, by decide +kernel, by decide +kernel, by decide, tbc1 144 rfl rfl, rfl, rfl⟩
theorem mcX0_init : MC 2 mX0_init 0 := ⟨tbc1 169 rfl rfl, tbc1 10 rfl rfl, ⟨by decide, by decide⟩, by decide +kernel, by decide +kernel, by decide, tbc1 168 rfl rfl, rfl, rfl⟩
theorem mcX4_init : MC 2 mX4_init 0 := ⟨tbc1 183 rfl rfl, tbc1 11 rfl rfl, ⟨by decide, by decide⟩, by decide +kernel, by decide +kernel, by decide, tbc1 182 rfl rfl, rfl, rfl⟩
theorem mcX6_init : MC 2 mX6_init 0 := ⟨tbc1 223 rfl rfl, tbc1 12 rfl rfl, ⟨by decide, by decide⟩, by decide +kernel, by decide +kernel, by decide, tbc1 222 rfl rfl, rfl, rfl⟩
theorem mcX3_init : MC 2 mX3_init 0 := ⟨tbc2 19 rfl rfl, tbc1 13 rfl rfl, ⟨by decide, by decide⟩, by decide +kernel, by decide +kernel, by decide, tbc2 18 rfl rfl, rfl, rfl⟩
theorem mcX5_init : MC 2 mX5_init 0 := ⟨tbc2 65 rfl rfl, tbc1 14 rfl rfl, ⟨by decide, by decide⟩, by decide +kernel, by decide +kernel, by decide, tbc2 64 rfl rfl, rfl, rfl⟩
theorem mcX10_init : MC 2 mX10_init 0 := ⟨tbc2 95 rfl rfl, tbc1 15 rfl rfl, ⟨by decide, by decide⟩, by decide +kernel, by decide +kernel, by decide, tbc2 94 rfl rfl, rfl, rfl⟩
theorem mcX7_init : MC 2 mX7_init 2 := ⟨tbc2 188 rfl rfl, tbc1 16 rfl rfl, ⟨by decide, by decide⟩, by decide +kernel, by decide +kernel, by decide, tbc2 187 rfl rfl, rfl, rfl⟩
theorem mcX11_teach : MC 0 mX11_teach 0 := ⟨tbc2 228 rfl rfl, tbc1 1 rfl rfl, ⟨by decide, by decide⟩, by decide +kernel, by decide +kernel, by decide, tbc2 226 rfl rfl, tbc2 227 rfl rfl⟩
theorem mcX9_readAll : MC 0 mX9_readAll 1 := ⟨tbc2 232 rfl rfl, tbc1 3 rfl rfl, ⟨by decide, by decide⟩, by decide +kernel, by decide +kernel, by decide, tbc2 230 rfl rfl, tbc2 231 rfl rfl⟩
theorem mcX9_behindBlanks : MC 1 mX9_behindBlanks 2 := ⟨tbc2 235 rfl rfl, tbc1 3 rfl rfl, ⟨by decide, by decide⟩, by decide +kernel, by decide +kernel, by decide, tbc2 234 rfl rfl⟩
theorem mcX8_byteAt : MC 0 mX8_byteAt 1 := ⟨tbc2 239 rfl rfl, tbc1 2 rfl rfl, ⟨by decide, by decide⟩, by decide +kernel, by decide +kernel, by decide, tbc2 237 rfl rfl, tbc2 238 rfl rfl⟩
theorem mcX9_isBlank : MC 1 mX9_isBlank 1 := ⟨tbc3 2 rfl rfl, tbc1 3 rfl rfl, ⟨by decide, by decide⟩, by decide +kernel, by decide +kernel, by decide, tbc3 1 rfl rfl⟩
theorem mcX9_readToken : MC 0 mX9_readToken 2 := ⟨tbc3 6 rfl rfl, tbc1 3 rfl rfl, ⟨by decide, by decide⟩, by decide +kernel, by decide +kernel, by decide, tbc3 5 rfl rfl, tbs1 0 5 rfl⟩
theorem mcX9_readWord : MC 0 mX9_readWord 2 := ⟨tbc3 10 rfl rfl, tbc1 3 rfl rfl, ⟨by decide, by decide⟩, by decide +kernel, by decide +kernel, by decide, tbc3 9 rfl rfl, tbs1 1 5 rfl⟩
theorem mcX9_isLetterOrDigit : MC 1 mX9_isLetterOrDigit 1 := ⟨tbc3 13 rfl rfl, tbc1 3 rfl rfl, ⟨by decide, by decide⟩, by decide +kernel, by decide +kernel, by decide, tbc3 12 rfl rfl⟩
theorem mcX9_isDigit : MC 1 mX9_isDigit 1 := ⟨tbc3 16 rfl rfl, tbc1 3 rfl rfl, ⟨by decide, by decide⟩, by decide +kernel, by decide +kernel, by decide, tbc3 15 rfl rfl⟩
theorem mcX9_kindOfWord : MC 0 mX9_kindOfWord 1 := ⟨tbc3 20 rfl rfl, tbc1 3 rfl rfl, ⟨by decide, by decide⟩, by decide +kernel, by decide +kernel, by decide, tbc3 19 rfl rfl, tbs1 2 5 rfl⟩
theorem mcX9_addToken : MC 0 mX9_addToken 3 := ⟨tbc3 24 rfl rfl, tbc1 3 rfl rfl, ⟨by decide, by decide⟩, by decide +kernel, by decide +kernel, by decide, tbc3 23 rfl rfl, tbs1 3 5 rfl⟩
theorem mcX9_readNumber : MC 0 mX9_readNumber 2 := ⟨tbc3 28 rfl rfl, tbc1 3 rfl rfl, ⟨by decide, by decide⟩, by decide +kernel, by decide +kernel, by decide, tbc3 27 rfl rfl, tbs1 4 5 rfl⟩
theorem mcX9_readSymbol : MC 0 mX9_readSymbol 3 := ⟨tbc3 33 rfl rfl, tbc1 3 rfl rfl, ⟨by decide, by decide⟩, by decide +kernel, by decide +kernel, by decide, tbc3 32 rfl rfl, tbs1 5 5 rfl⟩
theorem mcX9_isSymbol : MC 1 mX9_isSymbol 1 := ⟨tbc3 36 rfl rfl, tbc1 3 rfl rfl, ⟨by decide, by decide⟩, by decide +kernel, by decide +kernel, by decide, tbc3 35 rfl rfl⟩
theorem mcX8_shortenTo : MC 0 mX8_shortenTo 1 := ⟨tbc3 41 rfl rfl, tbc1 2 rfl rfl, ⟨by decide, by decide⟩, by decide +kernel, by decide +kernel, by decide, tbc3 39 rfl rfl, tbc3 40 rfl rfl⟩
theorem mcX2_clear : MC 0 mX2_clear 0 := ⟨tbc3 45 rfl rfl, tbc1 8 rfl rfl, ⟨by decide, by decide⟩, by decide +kernel, by decide +kernel, by decide, tbc3 43 rfl rfl, tbc3 44 rfl rfl⟩
theorem mcX7_readBill : MC 0 mX7_readBill 1 := ⟨tbc3 49 rfl rfl, tbc1 16 rfl rfl, ⟨by decide, by decide⟩, by decide +kernel, by decide +kernel, by decide, tbc3 47 rfl rfl, tbc3 48 rfl rfl⟩
theorem mcX7_kind : MC 0 mX7_kind 0 := ⟨tbc3 53 rfl rfl, tbc1 16 rfl rfl, ⟨by decide, by decide⟩, by decide +kernel, by decide +kernel, by decide, tbc3 52 rfl rfl, tbs1 6 5 rfl⟩
theorem mcX9_kindAt : MC 0 mX9_kindAt 1 := ⟨tbc3 57 rfl rfl, tbc1 3 rfl rfl, ⟨by decide, by decide⟩, by decide +kernel, by decide +kernel, by decide, tbc3 55 rfl rfl, tbc3 56 rfl rfl⟩
theorem mcX7_readLine : MC 0 mX7_readLine 0 := ⟨tbc3 61 rfl rfl, tbc1 16 rfl rfl, ⟨by decide, by decide⟩, by decide +kernel, by decide +kernel, by decide, tbc3 60 rfl rfl, tbs1 7 5 rfl⟩
theorem mcX7_readRail : MC 0 mX7_readRail 0 := ⟨tbc3 65 rfl rfl, tbc1 16 rfl rfl, ⟨by decide, by decide⟩, by decide +kernel, by decide +kernel, by decide, tbc3 64 rfl rfl, tbs1 8 5 rfl⟩
theorem mcX7_expect : MC 0 mX7_expect 1 := ⟨tbc3 69 rfl rfl, tbc1 16 rfl rfl, ⟨by decide, by decide⟩, by decide +kernel, by decide +kernel, by decide, tbc3 68 rfl rfl, tbs1 9 5 rfl⟩
theorem mcX7_refuse : MC 0 mX7_refuse 0 := ⟨tbc3 73 rfl rfl, tbc1 16 rfl rfl, ⟨by decide, by decide⟩, by decide +kernel, by decide +kernel, by decide, tbc3 72 rfl rfl, tbs1 10 5 rfl⟩
theorem mcX9_startAt : MC 0 mX9_startAt 1 := ⟨tbc3 77 rfl rfl, tbc1 3 rfl rfl, ⟨by decide, by decide⟩, by decide +kernel, by decide +kernel, by decide, tbc3 75 rfl rfl, tbc3 76 rfl rfl⟩
theorem mcX7_value : MC 0 mX7_value 0 := ⟨tbc3 81 rfl rfl, tbc1 16 rfl rfl, ⟨by decide, by decide⟩, by decide +kernel, by decide +kernel, by decide, tbc3 80 rfl rfl, tbs1 11 5 rfl⟩
theorem mcX9_valueAt : MC 0 mX9_valueAt 1 := ⟨tbc3 85 rfl rfl, tbc1 3 rfl rfl, ⟨by decide, by decide⟩, by decide +kernel, by decide +kernel, by decide, tbc3 83 rfl rfl, tbc3 84 rfl rfl⟩
theorem mcX2_railNamed : MC 0 mX2_railNamed 1 := ⟨tbc3 89 rfl rfl, tbc1 8 rfl rfl, ⟨by decide, by decide⟩, by decide +kernel, by decide +kernel, by decide, tbc3 87 rfl rfl, tbc3 88 rfl rfl⟩
theorem mcX7_expectNewName : MC 0 mX7_expectNewName 2 := ⟨tbc3 93 rfl rfl, tbc1 16 rfl rfl, ⟨by decide, by decide⟩, by decide +kernel, by decide +kernel, by decide, tbc3 92 rfl rfl, tbs1 12 5 rfl⟩
theorem mcX7_blame : MC 0 mX7_blame 1 := ⟨tbc3 97 rfl rfl, tbc1 16 rfl rfl, ⟨by decide, by decide⟩, by decide +kernel, by decide +kernel, by decide, tbc3 96 rfl rfl, tbs1 13 5 rfl⟩
theorem mcX7_numberBehind : MC 0 mX7_numberBehind 3 := ⟨tbc3 101 rfl rfl, tbc1 16 rfl rfl, ⟨by decide, by decide⟩, by decide +kernel, by decide +kernel, by decide, tbc3 100 rfl rfl, tbs1 14 5 rfl⟩
theorem mcX2_addRail : MC 0 mX2_addRail 4 := ⟨tbc3 105 rfl rfl, tbc1 8 rfl rfl, ⟨by decide, by decide⟩, by decide +kernel, by decide +kernel, by decide, tbc3 103 rfl rfl, tbc3 104 rfl rfl⟩
theorem mcX6_tell : MC 0 mX6_tell 4 := ⟨tbc3 109 rfl rfl, tbc1 12 rfl rfl, ⟨by decide, by decide⟩, by decide +kernel, by decide +kernel, by decide, tbc3 107 rfl rfl, tbc3 108 rfl rfl⟩
theorem mcX7_readRust : MC 0 mX7_readRust 0 := ⟨tbc3 113 rfl rfl, tbc1 16 rfl rfl, ⟨by decide, by decide⟩, by decide +kernel, by decide +kernel, by decide, tbc3 112 rfl rfl, tbs1 15 5 rfl⟩
theorem mcX7_knownName : MC 0 mX7_knownName 1 := ⟨tbc3 117 rfl rfl, tbc1 16 rfl rfl, ⟨by decide, by decide⟩, by decide +kernel, by decide +kernel, by decide, tbc3 116 rfl rfl, tbs2 0 5 rfl⟩
theorem mcX7_numberOfTo : MC 0 mX7_numberOfTo 1 := ⟨tbc3 121 rfl rfl, tbc1 16 rfl rfl, ⟨by decide, by decide⟩, by decide +kernel, by decide +kernel, by decide, tbc3 120 rfl rfl, tbs2 1 5 rfl⟩
theorem mcX2_addRust : MC 0 mX2_addRust 4 := ⟨tbc3 126 rfl rfl, tbc1 8 rfl rfl, ⟨by decide, by decide⟩, by decide +kernel, by decide +kernel, by decide, tbc3 124 rfl rfl, tbc3 125 rfl rfl⟩
theorem mcX2_hasRail : MC 0 mX2_hasRail 1 := ⟨tbc3 130 rfl rfl, tbc1 8 rfl rfl, ⟨by decide, by decide⟩, by decide +kernel, by decide +kernel, by decide, tbc3 128 rfl rfl, tbc3 129 rfl rfl⟩
theorem mcX6_addRust : MC 0 mX6_addRust 3 := ⟨tbc3 134 rfl rfl, tbc1 12 rfl rfl, ⟨by decide, by decide⟩, by decide +kernel, by decide +kernel, by decide, tbc3 132 rfl rfl, tbc3 133 rfl rfl⟩
theorem mcX7_readFist : MC 0 mX7_readFist 0 := ⟨tbc3 138 rfl rfl, tbc1 16 rfl rfl, ⟨by decide, by decide⟩, by decide +kernel, by decide +kernel, by decide, tbc3 137 rfl rfl, tbs2 2 5 rfl⟩
theorem mcX2_fistNamed : MC 0 mX2_fistNamed 1 := ⟨tbc3 142 rfl rfl, tbc1 8 rfl rfl, ⟨by decide, by decide⟩, by decide +kernel, by decide +kernel, by decide, tbc3 140 rfl rfl, tbc3 141 rfl rfl⟩
theorem mcX2_addFist : MC 0 mX2_addFist 4 := ⟨tbc3 146 rfl rfl, tbc1 8 rfl rfl, ⟨by decide, by decide⟩, by decide +kernel, by decide +kernel, by decide, tbc3 144 rfl rfl, tbc3 145 rfl rfl⟩
theorem mcX3_tell : MC 0 mX3_tell 4 := ⟨tbc3 150 rfl rfl, tbc1 13 rfl rfl, ⟨by decide, by decide⟩, by decide +kernel, by decide +kernel, by decide, tbc3 148 rfl rfl, tbc3 149 rfl rfl⟩
theorem mcX7_readPrize : MC 0 mX7_readPrize 0 := ⟨tbc3 154 rfl rfl, tbc1 16 rfl rfl, ⟨by decide, by decide⟩, by decide +kernel, by decide +kernel, by decide, tbc3 153 rfl rfl, tbs2 3 5 rfl⟩
theorem mcX2_prizeNamed : MC 0 mX2_prizeNamed 1 := ⟨tbc3 158 rfl rfl, tbc1 8 rfl rfl, ⟨by decide, by decide⟩, by decide +kernel, by decide +kernel, by decide, tbc3 156 rfl rfl, tbc3 157 rfl rfl⟩
theorem mcX7_readSum : MC 0 mX7_readSum 1 := ⟨tbc3 162 rfl rfl, tbc1 16 rfl rfl, ⟨by decide, by decide⟩, by decide +kernel, by decide +kernel, by decide, tbc3 161 rfl rfl, tbs2 4 5 rfl⟩
theorem mcX7_readProduct : MC 0 mX7_readProduct 1 := ⟨tbc3 166 rfl rfl, tbc1 16 rfl rfl, ⟨by decide, by decide⟩, by decide +kernel, by decide +kernel, by decide, tbc3 165 rfl rfl, tbs2 5 5 rfl⟩
theorem mcX7_readValue : MC 0 mX7_readValue 1 := ⟨tbc3 170 rfl rfl, tbc1 16 rfl rfl, ⟨by decide, by decide⟩, by decide +kernel, by decide +kernel, by decide, tbc3 169 rfl rfl, tbs2 6 5 rfl⟩
theorem mcX7_readPlainValue : MC 0 mX7_readPlainValue 1 := ⟨tbc3 174 rfl rfl, tbc1 16 rfl rfl, ⟨by decide, by decide⟩, by decide +kernel, by decide +kernel, by decide, tbc3 173 rfl rfl, tbs2 7 5 rfl⟩
theorem mcX1_add : MC 0 mX1_add 2 := ⟨tbc3 178 rfl rfl, tbc1 9 rfl rfl, ⟨by decide, by decide⟩, by decide +kernel, by decide +kernel, by decide, tbc3 176 rfl rfl, tbc3 177 rfl rfl⟩
theorem mcX7_readNamedValue : MC 0 mX7_readNamedValue 1 := ⟨tbc3 182 rfl rfl, tbc1 16 rfl rfl, ⟨by decide, by decide⟩, by decide +kernel, by decide +kernel, by decide, tbc3 181 rfl rfl, tbs2 8 5 rfl⟩
theorem mcX7_indexOf : MC 0 mX7_indexOf 2 := ⟨tbc3 186 rfl rfl, tbc1 16 rfl rfl, ⟨by decide, by decide⟩, by decide +kernel, by decide +kernel, by decide, tbc3 185 rfl rfl, tbs2 9 5 rfl⟩
theorem mcX7_goesDeeper : MC 0 mX7_goesDeeper 2 := ⟨tbc3 190 rfl rfl, tbc1 16 rfl rfl, ⟨by decide, by decide⟩, by decide +kernel, by decide +kernel, by decide, tbc3 189 rfl rfl, tbs2 10 5 rfl⟩
theorem mcX7_readPair : MC 0 mX7_readPair 2 := ⟨tbc3 194 rfl rfl, tbc1 16 rfl rfl, ⟨by decide, by decide⟩, by decide +kernel, by decide +kernel, by decide, tbc3 193 rfl rfl, tbs2 11 5 rfl⟩
theorem mcX7_readTest : MC 0 mX7_readTest 1 := ⟨tbc3 198 rfl rfl, tbc1 16 rfl rfl, ⟨by decide, by decide⟩, by decide +kernel, by decide +kernel, by decide, tbc3 197 rfl rfl, tbs2 12 5 rfl⟩
theorem mcX7_readBoth : MC 0 mX7_readBoth 1 := ⟨tbc3 202 rfl rfl, tbc1 16 rfl rfl, ⟨by decide, by decide⟩, by decide +kernel, by decide +kernel, by decide, tbc3 201 rfl rfl, tbs2 13 5 rfl⟩
theorem mcX7_readSingle : MC 0 mX7_readSingle 1 := ⟨tbc3 206 rfl rfl, tbc1 16 rfl rfl, ⟨by decide, by decide⟩, by decide +kernel, by decide +kernel, by decide, tbc3 205 rfl rfl, tbs2 14 5 rfl⟩
theorem mcX7_readComparison : MC 0 mX7_readComparison 1 := ⟨tbc3 210 rfl rfl, tbc1 16 rfl rfl, ⟨by decide, by decide⟩, by decide +kernel, by decide +kernel, by decide, tbc3 209 rfl rfl, tbs2 15 5 rfl⟩
theorem mcX7_isComparing : MC 1 mX7_isComparing 1 := ⟨tbc3 213 rfl rfl, tbc1 16 rfl rfl, ⟨by decide, by decide⟩, by decide +kernel, by decide +kernel, by decide, tbc3 212 rfl rfl⟩
theorem mcX2_addPrize : MC 0 mX2_addPrize 5 := ⟨tbc3 217 rfl rfl, tbc1 8 rfl rfl, ⟨by decide, by decide⟩, by decide +kernel, by decide +kernel, by decide, tbc3 215 rfl rfl, tbc3 216 rfl rfl⟩
theorem mcX5_tell : MC 0 mX5_tell 5 := ⟨tbc3 221 rfl rfl, tbc1 14 rfl rfl, ⟨by decide, by decide⟩, by decide +kernel, by decide +kernel, by decide, tbc3 219 rfl rfl, tbc3 220 rfl rfl⟩
theorem mcX7_readTurn : MC 0 mX7_readTurn 0 := ⟨tbc3 225 rfl rfl, tbc1 16 rfl rfl, ⟨by decide, by decide⟩, by decide +kernel, by decide +kernel, by decide, tbc3 224 rfl rfl, tbs3 0 5 rfl⟩
theorem mcX2_addTurn : MC 0 mX2_addTurn 4 := ⟨tbc3 229 rfl rfl, tbc1 8 rfl rfl, ⟨by decide, by decide⟩, by decide +kernel, by decide +kernel, by decide, tbc3 227 rfl rfl, tbc3 228 rfl rfl⟩
theorem mcX10_tell : MC 0 mX10_tell 4 := ⟨tbc3 233 rfl rfl, tbc1 15 rfl rfl, ⟨by decide, by decide⟩, by decide +kernel, by decide +kernel, by decide, tbc3 231 rfl rfl, tbc3 232 rfl rfl⟩
theorem mcX7_errorAtByte : MC 0 mX7_errorAtByte 0 := ⟨tbc3 237 rfl rfl, tbc1 16 rfl rfl, ⟨by decide, by decide⟩, by decide +kernel, by decide +kernel, by decide, tbc3 235 rfl rfl, tbc3 236 rfl rfl⟩
theorem mcX11_errorAt : MC 0 mX11_errorAt 0 := ⟨tbc4 1 rfl rfl, tbc1 1 rfl rfl, ⟨by decide, by decide⟩, by decide +kernel, by decide +kernel, by decide, tbc3 239 rfl rfl, tbc4 0 rfl rfl⟩
theorem mcX11_mean : MC 0 mX11_mean 0 := ⟨tbc4 5 rfl rfl, tbc1 1 rfl rfl, ⟨by decide, by decide⟩, by decide +kernel, by decide +kernel, by decide, tbc4 3 rfl rfl, tbc4 4 rfl rfl⟩
theorem mcX0_meanHeight : MC 0 mX0_meanHeight 0 := ⟨tbc4 9 rfl rfl, tbc1 10 rfl rfl, ⟨by decide, by decide⟩, by decide +kernel, by decide +kernel, by decide, tbc4 7 rfl rfl, tbc4 8 rfl rfl⟩
theorem mcX0_heightAt : MC 0 mX0_heightAt 1 := ⟨tbc4 13 rfl rfl, tbc1 10 rfl rfl, ⟨by decide, by decide⟩, by decide +kernel, by decide +kernel, by decide, tbc4 11 rfl rfl, tbc4 12 rfl rfl⟩
theorem mcX0_has : MC 0 mX0_has 1 := ⟨tbc4 17 rfl rfl, tbc1 10 rfl rfl, ⟨by decide, by decide⟩, by decide +kernel, by decide +kernel, by decide, tbc4 15 rfl rfl, tbc4 16 rfl rfl⟩
theorem mcX11_digest : MC 0 mX11_digest 0 := ⟨tbc4 21 rfl rfl, tbc1 1 rfl rfl, ⟨by decide, by decide⟩, by decide +kernel, by decide +kernel, by decide, tbc4 19 rfl rfl, tbc4 20 rfl rfl⟩
theorem mcX11_tellCount : MC 0 mX11_tellCount 1 := ⟨tbc4 27 rfl rfl, tbc1 1 rfl rfl, ⟨by decide, by decide⟩, by decide +kernel, by decide +kernel, by decide, tbc4 26 rfl rfl, tbs3 1 6 rfl⟩
theorem mcX2_tellCountOf : MC 0 mX2_tellCountOf 1 := ⟨tbc4 31 rfl rfl, tbc1 8 rfl rfl, ⟨by decide, by decide⟩, by decide +kernel, by decide +kernel, by decide, tbc4 29 rfl rfl, tbc4 30 rfl rfl⟩
theorem mcX2_allPurses : MC 0 mX2_allPurses 0 := ⟨tbc4 35 rfl rfl, tbc1 8 rfl rfl, ⟨by decide, by decide⟩, by decide +kernel, by decide +kernel, by decide, tbc4 33 rfl rfl, tbc4 34 rfl rfl⟩
theorem mcX2_digestBehind : MC 0 mX2_digestBehind 1 := ⟨tbc4 39 rfl rfl, tbc1 8 rfl rfl, ⟨by decide, by decide⟩, by decide +kernel, by decide +kernel, by decide, tbc4 37 rfl rfl, tbc4 38 rfl rfl⟩
theorem mcX2_tellRail : MC 0 mX2_tellRail 2 := ⟨tbc4 44 rfl rfl, tbc1 8 rfl rfl, ⟨by decide, by decide⟩, by decide +kernel, by decide +kernel, by decide, tbc4 42 rfl rfl, tbc4 43 rfl rfl⟩
theorem mcX2_tellFist : MC 0 mX2_tellFist 2 := ⟨tbc4 48 rfl rfl, tbc1 8 rfl rfl, ⟨by decide, by decide⟩, by decide +kernel, by decide +kernel, by decide, tbc4 46 rfl rfl, tbc4 47 rfl rfl⟩
theorem mcX2_hasFist : MC 0 mX2_hasFist 1 := ⟨tbc4 52 rfl rfl, tbc1 8 rfl rfl, ⟨by decide, by decide⟩, by decide +kernel, by decide +kernel, by decide, tbc4 50 rfl rfl, tbc4 51 rfl rfl⟩
theorem mcX2_placeOfPurse : MC 0 mX2_placeOfPurse 1 := ⟨tbc4 56 rfl rfl, tbc1 8 rfl rfl, ⟨by decide, by decide⟩, by decide +kernel, by decide +kernel, by decide, tbc4 55 rfl rfl, tbs3 2 19 rfl⟩
theorem mcX2_tellPrize : MC 0 mX2_tellPrize 2 := ⟨tbc4 60 rfl rfl, tbc1 8 rfl rfl, ⟨by decide, by decide⟩, by decide +kernel, by decide +kernel, by decide, tbc4 58 rfl rfl, tbc4 59 rfl rfl⟩
theorem mcX2_hasPrize : MC 0 mX2_hasPrize 1 := ⟨tbc4 64 rfl rfl, tbc1 8 rfl rfl, ⟨by decide, by decide⟩, by decide +kernel, by decide +kernel, by decide, tbc4 62 rfl rfl, tbc4 63 rfl rfl⟩
theorem mcX1_reckon : MC 0 mX1_reckon 3 := ⟨tbc4 68 rfl rfl, tbc1 9 rfl rfl, ⟨by decide, by decide⟩, by decide +kernel, by decide +kernel, by decide, tbc4 66 rfl rfl, tbc4 67 rfl rfl⟩
theorem mcX1_push : MC 0 mX1_push 1 := ⟨tbc4 72 rfl rfl, tbc1 9 rfl rfl, ⟨by decide, by decide⟩, by decide +kernel, by decide +kernel, by decide, tbc4 71 rfl rfl, tbs3 3 5 rfl⟩
theorem mcX1_pop : MC 0 mX1_pop 0 := ⟨tbc4 76 rfl rfl, tbc1 9 rfl rfl, ⟨by decide, by decide⟩, by decide +kernel, by decide +kernel, by decide, tbc4 75 rfl rfl, tbs3 4 5 rfl⟩
theorem mcX2_reading : MC 0 mX2_reading 2 := ⟨tbc4 80 rfl rfl, tbc1 8 rfl rfl, ⟨by decide, by decide⟩, by decide +kernel, by decide +kernel, by decide, tbc4 78 rfl rfl, tbc4 79 rfl rfl⟩
theorem mcX1_isJoining : MC 1 mX1_isJoining 1 := ⟨tbc4 83 rfl rfl, tbc1 9 rfl rfl, ⟨by decide, by decide⟩, by decide +kernel, by decide +kernel, by decide, tbc4 82 rfl rfl⟩
theorem mcX1_joined : MC 1 mX1_joined 3 := ⟨tbc4 86 rfl rfl, tbc1 9 rfl rfl, ⟨by decide, by decide⟩, by decide +kernel, by decide +kernel, by decide, tbc4 85 rfl rfl⟩
theorem mcX1_compared : MC 1 mX1_compared 3 := ⟨tbc4 89 rfl rfl, tbc1 9 rfl rfl, ⟨by decide, by decide⟩, by decide +kernel, by decide +kernel, by decide, tbc4 88 rfl rfl⟩
theorem mcX2_tellTurn : MC 0 mX2_tellTurn 2 := ⟨tbc4 93 rfl rfl, tbc1 8 rfl rfl, ⟨by decide, by decide⟩, by decide +kernel, by decide +kernel, by decide, tbc4 91 rfl rfl, tbc4 92 rfl rfl⟩
theorem mcX2_hasTurn : MC 0 mX2_hasTurn 1 := ⟨tbc4 97 rfl rfl, tbc1 8 rfl rfl, ⟨by decide, by decide⟩, by decide +kernel, by decide +kernel, by decide, tbc4 95 rfl rfl, tbc4 96 rfl rfl⟩
theorem mcX2_placeInRow : MC 0 mX2_placeInRow 1 := ⟨tbc4 101 rfl rfl, tbc1 8 rfl rfl, ⟨by decide, by decide⟩, by decide +kernel, by decide +kernel, by decide, tbc4 100 rfl rfl, tbs3 5 19 rfl⟩
theorem mcX2_isDue : MC 0 mX2_isDue 1 := ⟨tbc4 105 rfl rfl, tbc1 8 rfl rfl, ⟨by decide, by decide⟩, by decide +kernel, by decide +kernel, by decide, tbc4 104 rfl rfl, tbs3 6 19 rfl⟩
theorem mcX11_feed : MC 0 mX11_feed 5 := ⟨tbc4 114 rfl rfl, tbc1 1 rfl rfl, ⟨by decide, by decide⟩, by decide +kernel, by decide +kernel, by decide, tbc4 112 rfl rfl, tbc4 113 rfl rfl⟩
theorem mcX8_hasRoomFor : MC 0 mX8_hasRoomFor 1 := ⟨tbc4 118 rfl rfl, tbc1 2 rfl rfl, ⟨by decide, by decide⟩, by decide +kernel, by decide +kernel, by decide, tbc4 116 rfl rfl, tbc4 117 rfl rfl⟩
theorem mcX8_addNumber : MC 0 mX8_addNumber 1 := ⟨tbc4 189 rfl rfl, tbc1 2 rfl rfl, ⟨by decide, by decide⟩, by decide +kernel, by decide +kernel, by decide, tbc4 187 rfl rfl, tbc4 188 rfl rfl⟩
theorem mcX11_trim : MC 0 mX11_trim 1 := ⟨tbc4 197 rfl rfl, tbc1 1 rfl rfl, ⟨by decide, by decide⟩, by decide +kernel, by decide +kernel, by decide, tbc4 195 rfl rfl, tbc4 196 rfl rfl⟩
theorem mcX11_count : MC 0 mX11_count 1 := ⟨tbc4 221 rfl rfl, tbc1 1 rfl rfl, ⟨by decide, by decide⟩, by decide +kernel, by decide +kernel, by decide, tbc4 219 rfl rfl, tbc4 220 rfl rfl⟩
theorem mcX11_rail : MC 0 mX11_rail 2 := ⟨tbc5 4 rfl rfl, tbc1 1 rfl rfl, ⟨by decide, by decide⟩, by decide +kernel, by decide +kernel, by decide, tbc5 2 rfl rfl, tbc5 3 rfl rfl⟩
theorem mcX11_fist : MC 0 mX11_fist 2 := ⟨tbc5 14 rfl rfl, tbc1 1 rfl rfl, ⟨by decide, by decide⟩, by decide +kernel, by decide +kernel, by decide, tbc5 12 rfl rfl, tbc5 13 rfl rfl⟩
theorem mcX11_prize : MC 0 mX11_prize 2 := ⟨tbc5 24 rfl rfl, tbc1 1 rfl rfl, ⟨by decide, by decide⟩, by decide +kernel, by decide +kernel, by decide, tbc5 22 rfl rfl, tbc5 23 rfl rfl⟩
theorem mcX11_turn : MC 0 mX11_turn 2 := ⟨tbc5 34 rfl rfl, tbc1 1 rfl rfl, ⟨by decide, by decide⟩, by decide +kernel, by decide +kernel, by decide, tbc5 32 rfl rfl, tbc5 33 rfl rfl⟩
theorem mcX11_board : MC 0 mX11_board 1 := ⟨tbc5 44 rfl rfl, tbc1 1 rfl rfl, ⟨by decide, by decide⟩, by decide +kernel, by decide +kernel, by decide, tbc5 42 rfl rfl, tbc5 43 rfl rfl⟩
theorem mcX11_strike : MC 0 mX11_strike 2 := ⟨tbc5 54 rfl rfl, tbc1 1 rfl rfl, ⟨by decide, by decide⟩, by decide +kernel, by decide +kernel, by decide, tbc5 52 rfl rfl, tbc5 53 rfl rfl⟩
theorem mcX2_hit : MC 0 mX2_hit 2 := ⟨tbc5 59 rfl rfl, tbc1 8 rfl rfl, ⟨by decide, by decide⟩, by decide +kernel, by decide +kernel, by decide, tbc5 57 rfl rfl, tbc5 58 rfl rfl⟩
theorem mcX3_forceWithArm : MC 0 mX3_forceWithArm 1 := ⟨tbc5 63 rfl rfl, tbc1 13 rfl rfl, ⟨by decide, by decide⟩, by decide +kernel, by decide +kernel, by decide, tbc5 61 rfl rfl, tbc5 62 rfl rfl⟩
theorem mcX4_fly : MC 0 mX4_fly 2 := ⟨tbc5 67 rfl rfl, tbc1 11 rfl rfl, ⟨by decide, by decide⟩, by decide +kernel, by decide +kernel, by decide, tbc5 65 rfl rfl, tbc5 66 rfl rfl⟩
theorem mcX4_move : MC 0 mX4_move 1 := ⟨tbc5 71 rfl rfl, tbc1 11 rfl rfl, ⟨by decide, by decide⟩, by decide +kernel, by decide +kernel, by decide, tbc5 70 rfl rfl, tbs3 8 7 rfl⟩
theorem mcX6_rustAt : MC 0 mX6_rustAt 1 := ⟨tbc5 75 rfl rfl, tbc1 12 rfl rfl, ⟨by decide, by decide⟩, by decide +kernel, by decide +kernel, by decide, tbc5 73 rfl rfl, tbc5 74 rfl rfl⟩
theorem mcX0_add : MC 0 mX0_add 1 := ⟨tbc5 79 rfl rfl, tbc1 10 rfl rfl, ⟨by decide, by decide⟩, by decide +kernel, by decide +kernel, by decide, tbc5 77 rfl rfl, tbc5 78 rfl rfl⟩
theorem mcX2_giveTo : MC 0 mX2_giveTo 1 := ⟨tbc5 83 rfl rfl, tbc1 8 rfl rfl, ⟨by decide, by decide⟩, by decide +kernel, by decide +kernel, by decide, tbc5 82 rfl rfl, tbs3 9 19 rfl⟩
theorem mcX11_wind : MC 0 mX11_wind 2 := ⟨tbc5 90 rfl rfl, tbc1 1 rfl rfl, ⟨by decide, by decide⟩, by decide +kernel, by decide +kernel, by decide, tbc5 88 rfl rfl, tbc5 89 rfl rfl⟩
theorem mcX2_changeSpring : MC 0 mX2_changeSpring 2 := ⟨tbc5 96 rfl rfl, tbc1 8 rfl rfl, ⟨by decide, by decide⟩, by decide +kernel, by decide +kernel, by decide, tbc5 94 rfl rfl, tbc5 95 rfl rfl⟩
theorem mcX11_pass : MC 0 mX11_pass 1 := ⟨tbc5 103 rfl rfl, tbc1 1 rfl rfl, ⟨by decide, by decide⟩, by decide +kernel, by decide +kernel, by decide, tbc5 101 rfl rfl, tbc5 102 rfl rfl⟩
theorem mcX2_play : MC 0 mX2_play 1 := ⟨tbc5 108 rfl rfl, tbc1 8 rfl rfl, ⟨by decide, by decide⟩, by decide +kernel, by decide +kernel, by decide, tbc5 106 rfl rfl, tbc5 107 rfl rfl⟩
theorem mcX2_useElbows : MC 0 mX2_useElbows 0 := ⟨tbc5 112 rfl rfl, tbc1 8 rfl rfl, ⟨by decide, by decide⟩, by decide +kernel, by decide +kernel, by decide, tbc5 111 rfl rfl, tbs3 10 19 rfl⟩
theorem mcX2_fistInRow : MC 0 mX2_fistInRow 1 := ⟨tbc5 116 rfl rfl, tbc1 8 rfl rfl, ⟨by decide, by decide⟩, by decide +kernel, by decide +kernel, by decide, tbc5 115 rfl rfl, tbs3 11 19 rfl⟩
theorem mcX2_takeTurns : MC 0 mX2_takeTurns 0 := ⟨tbc5 120 rfl rfl, tbc1 8 rfl rfl, ⟨by decide, by decide⟩, by decide +kernel, by decide +kernel, by decide, tbc5 119 rfl rfl, tbs3 12 19 rfl⟩
theorem mcX3_endRound : MC 0 mX3_endRound 0 := ⟨tbc5 125 rfl rfl, tbc1 13 rfl rfl, ⟨by decide, by decide⟩, by decide +kernel, by decide +kernel, by decide, tbc5 123 rfl rfl, tbc5 124 rfl rfl⟩
theorem mcX11_would : MC 0 mX11_would 3 := ⟨tbc5 132 rfl rfl, tbc1 1 rfl rfl, ⟨by decide, by decide⟩, by decide +kernel, by decide +kernel, by decide, tbc5 130 rfl rfl, tbc5 131 rfl rfl⟩
theorem mcX2_flightOf : MC 0 mX2_flightOf 2 := ⟨tbc5 137 rfl rfl, tbc1 8 rfl rfl, ⟨by decide, by decide⟩, by decide +kernel, by decide +kernel, by decide, tbc5 135 rfl rfl, tbc5 136 rfl rfl⟩
theorem mcX2_flightWithArm : MC 0 mX2_flightWithArm 3 := ⟨tbc5 141 rfl rfl, tbc1 8 rfl rfl, ⟨by decide, by decide⟩, by decide +kernel, by decide +kernel, by decide, tbc5 139 rfl rfl, tbc5 140 rfl rfl⟩
theorem mcX11_path : MC 0 mX11_path 3 := ⟨tbc5 148 rfl rfl, tbc1 1 rfl rfl, ⟨by decide, by decide⟩, by decide +kernel, by decide +kernel, by decide, tbc5 146 rfl rfl, tbc5 147 rfl rfl⟩
theorem mcX4_placeBehind : MC 0 mX4_placeBehind 1 := ⟨tbc5 153 rfl rfl, tbc1 11 rfl rfl, ⟨by decide, by decide⟩, by decide +kernel, by decide +kernel, by decide, tbc5 151 rfl rfl, tbc5 152 rfl rfl⟩
theorem mcX11_needs : MC 0 mX11_needs 2 := ⟨tbc5 160 rfl rfl, tbc1 1 rfl rfl, ⟨by decide, by decide⟩, by decide +kernel, by decide +kernel, by decide, tbc5 158 rfl rfl, tbc5 159 rfl rfl⟩
theorem mcX11_foresee : MC 0 mX11_foresee 2 := ⟨tbc5 168 rfl rfl, tbc1 1 rfl rfl, ⟨by decide, by decide⟩, by decide +kernel, by decide +kernel, by decide, tbc5 166 rfl rfl, tbc5 167 rfl rfl⟩
theorem mcX2_copyFrom : MC 0 mX2_copyFrom 1 := ⟨tbc5 173 rfl rfl, tbc1 8 rfl rfl, ⟨by decide, by decide⟩, by decide +kernel, by decide +kernel, by decide, tbc5 171 rfl rfl, tbc5 172 rfl rfl⟩
theorem mcX1_copyFrom : MC 0 mX1_copyFrom 1 := ⟨tbc5 177 rfl rfl, tbc1 9 rfl rfl, ⟨by decide, by decide⟩, by decide +kernel, by decide +kernel, by decide, tbc5 175 rfl rfl, tbc5 176 rfl rfl⟩
theorem mcX0_copyFrom : MC 0 mX0_copyFrom 1 := ⟨tbc5 182 rfl rfl, tbc1 10 rfl rfl, ⟨by decide, by decide⟩, by decide +kernel, by decide +kernel, by decide, tbc5 180 rfl rfl, tbc5 181 rfl rfl⟩
theorem mcX6_copyFrom : MC 0 mX6_copyFrom 1 := ⟨tbc5 186 rfl rfl, tbc1 12 rfl rfl, ⟨by decide, by decide⟩, by decide +kernel, by decide +kernel, by decide, tbc5 184 rfl rfl, tbc5 185 rfl rfl⟩
theorem mcX3_copyFrom : MC 0 mX3_copyFrom 1 := ⟨tbc5 191 rfl rfl, tbc1 13 rfl rfl, ⟨by decide, by decide⟩, by decide +kernel, by decide +kernel, by decide, tbc5 189 rfl rfl, tbc5 190 rfl rfl⟩
theorem mcX5_copyFrom : MC 0 mX5_copyFrom 1 := ⟨tbc5 195 rfl rfl, tbc1 14 rfl rfl, ⟨by decide, by decide⟩, by decide +kernel, by decide +kernel, by decide, tbc5 193 rfl rfl, tbc5 194 rfl rfl⟩
theorem mcX10_copyFrom : MC 0 mX10_copyFrom 1 := ⟨tbc5 200 rfl rfl, tbc1 15 rfl rfl, ⟨by decide, by decide⟩, by decide +kernel, by decide +kernel, by decide, tbc5 198 rfl rfl, tbc5 199 rfl rfl⟩
theorem mcX2_copyNumbers : MC 0 mX2_copyNumbers 1 := ⟨tbc5 205 rfl rfl, tbc1 8 rfl rfl, ⟨by decide, by decide⟩, by decide +kernel, by decide +kernel, by decide, tbc5 204 rfl rfl, tbs3 13 19 rfl⟩
theorem mcX11_advise : MC 0 mX11_advise 2 := ⟨tbc5 213 rfl rfl, tbc1 1 rfl rfl, ⟨by decide, by decide⟩, by decide +kernel, by decide +kernel, by decide, tbc5 211 rfl rfl, tbc5 212 rfl rfl⟩
theorem mcX14_init : MC 2 mX14_init 0 := ⟨tbc5 219 rfl rfl, tbc1 17 rfl rfl, ⟨by decide, by decide⟩, by decide +kernel, by decide +kernel, by decide, tbc5 218 rfl rfl, rfl, rfl⟩
theorem mcX12_init : MC 2 mX12_init 0 := ⟨tbc5 225 rfl rfl, tbc1 18 rfl rfl, ⟨by decide, by decide⟩, by decide +kernel, by decide +kernel, by decide, tbc5 224 rfl rfl, rfl, rfl⟩
theorem mcX13_init : MC 2 mX13_init 0 := ⟨tbc6 50 rfl rfl, tbc1 19 rfl rfl, ⟨by decide, by decide⟩, by decide +kernel, by decide +kernel, by decide, tbc6 49 rfl rfl, rfl, rfl⟩
theorem mcX14_thrown : MC 0 mX14_thrown 0 := ⟨tbc6 176 rfl rfl, tbc1 17 rfl rfl, ⟨by decide, by decide⟩, by decide +kernel, by decide +kernel, by decide, tbc6 174 rfl rfl, tbc6 175 rfl rfl⟩
theorem mcX14_feed : MC 0 mX14_feed 5 := ⟨tbc6 180 rfl rfl, tbc1 17 rfl rfl, ⟨by decide, by decide⟩, by decide +kernel, by decide +kernel, by decide, tbc6 178 rfl rfl, tbc6 179 rfl rfl⟩
theorem mcX14_no : MC 0 mX14_no 1 := ⟨tbc6 184 rfl rfl, tbc1 17 rfl rfl, ⟨by decide, by decide⟩, by decide +kernel, by decide +kernel, by decide, tbc6 183 rfl rfl, tbs3 14 25 rfl⟩
theorem mcX14_append : MC 0 mX14_append 1 := ⟨tbc6 188 rfl rfl, tbc1 17 rfl rfl, ⟨by decide, by decide⟩, by decide +kernel, by decide +kernel, by decide, tbc6 187 rfl rfl, tbs3 15 25 rfl⟩
theorem mcX14_trim : MC 0 mX14_trim 1 := ⟨tbc6 192 rfl rfl, tbc1 17 rfl rfl, ⟨by decide, by decide⟩, by decide +kernel, by decide +kernel, by decide, tbc6 190 rfl rfl, tbc6 191 rfl rfl⟩
theorem mcX14_isIn : MC 1 mX14_isIn 3 := ⟨tbc6 195 rfl rfl, tbc1 17 rfl rfl, ⟨by decide, by decide⟩, by decide +kernel, by decide +kernel, by decide, tbc6 194 rfl rfl⟩
theorem mcX14_teach : MC 0 mX14_teach 0 := ⟨tbc6 199 rfl rfl, tbc1 17 rfl rfl, ⟨by decide, by decide⟩, by decide +kernel, by decide +kernel, by decide, tbc6 197 rfl rfl, tbc6 198 rfl rfl⟩
theorem mcX14_split : MC 0 mX14_split 0 := ⟨tbc6 203 rfl rfl, tbc1 17 rfl rfl, ⟨by decide, by decide⟩, by decide +kernel, by decide +kernel, by decide, tbc6 202 rfl rfl, tbs4 0 25 rfl⟩
theorem mcX14_byteAt : MC 0 mX14_byteAt 1 := ⟨tbc6 207 rfl rfl, tbc1 17 rfl rfl, ⟨by decide, by decide⟩, by decide +kernel, by decide +kernel, by decide, tbc6 206 rfl rfl, tbs4 1 25 rfl⟩
theorem mcX14_read : MC 0 mX14_read 2 := ⟨tbc6 211 rfl rfl, tbc1 17 rfl rfl, ⟨by decide, by decide⟩, by decide +kernel, by decide +kernel, by decide, tbc6 210 rfl rfl, tbs4 2 25 rfl⟩
theorem mcX14_isLetter : MC 1 mX14_isLetter 1 := ⟨tbc6 214 rfl rfl, tbc1 17 rfl rfl, ⟨by decide, by decide⟩, by decide +kernel, by decide +kernel, by decide, tbc6 213 rfl rfl⟩
theorem mcX14_readWord : MC 0 mX14_readWord 2 := ⟨tbc6 218 rfl rfl, tbc1 17 rfl rfl, ⟨by decide, by decide⟩, by decide +kernel, by decide +kernel, by decide, tbc6 217 rfl rfl, tbs4 3 25 rfl⟩
theorem mcX14_isDigit : MC 1 mX14_isDigit 1 := ⟨tbc6 221 rfl rfl, tbc1 17 rfl rfl, ⟨by decide, by decide⟩, by decide +kernel, by decide +kernel, by decide, tbc6 220 rfl rfl⟩
theorem mcX14_isWord : MC 0 mX14_isWord 3 := ⟨tbc6 227 rfl rfl, tbc1 17 rfl rfl, ⟨by decide, by decide⟩, by decide +kernel, by decide +kernel, by decide, tbc6 226 rfl rfl, tbs4 4 25 rfl⟩
theorem mcX14_readNumber : MC 0 mX14_readNumber 2 := ⟨tbc6 233 rfl rfl, tbc1 17 rfl rfl, ⟨by decide, by decide⟩, by decide +kernel, by decide +kernel, by decide, tbc6 232 rfl rfl, tbs4 5 25 rfl⟩
theorem mcX12_empty : MC 0 mX12_empty 0 := ⟨tbc6 237 rfl rfl, tbc1 18 rfl rfl, ⟨by decide, by decide⟩, by decide +kernel, by decide +kernel, by decide, tbc6 235 rfl rfl, tbc6 236 rfl rfl⟩
theorem mcX14_isOk : MC 0 mX14_isOk 0 := ⟨tbc7 1 rfl rfl, tbc1 17 rfl rfl, ⟨by decide, by decide⟩, by decide +kernel, by decide +kernel, by decide, tbc7 0 rfl rfl, tbs4 6 25 rfl⟩
theorem mcX14_line : MC 0 mX14_line 0 := ⟨tbc7 5 rfl rfl, tbc1 17 rfl rfl, ⟨by decide, by decide⟩, by decide +kernel, by decide +kernel, by decide, tbc7 4 rfl rfl, tbs4 7 25 rfl⟩
theorem mcX14_is : MC 0 mX14_is 2 := ⟨tbc7 9 rfl rfl, tbc1 17 rfl rfl, ⟨by decide, by decide⟩, by decide +kernel, by decide +kernel, by decide, tbc7 8 rfl rfl, tbs4 8 25 rfl⟩
theorem mcX14_readRail : MC 0 mX14_readRail 0 := ⟨tbc7 13 rfl rfl, tbc1 17 rfl rfl, ⟨by decide, by decide⟩, by decide +kernel, by decide +kernel, by decide, tbc7 12 rfl rfl, tbs4 9 25 rfl⟩
theorem mcX14_fresh : MC 0 mX14_fresh 3 := ⟨tbc7 17 rfl rfl, tbc1 17 rfl rfl, ⟨by decide, by decide⟩, by decide +kernel, by decide +kernel, by decide, tbc7 16 rfl rfl, tbs4 10 25 rfl⟩
theorem mcX14_name : MC 0 mX14_name 0 := ⟨tbc7 21 rfl rfl, tbc1 17 rfl rfl, ⟨by decide, by decide⟩, by decide +kernel, by decide +kernel, by decide, tbc7 20 rfl rfl, tbs4 11 25 rfl⟩
theorem mcX14_fail : MC 0 mX14_fail 0 := ⟨tbc7 25 rfl rfl, tbc1 17 rfl rfl, ⟨by decide, by decide⟩, by decide +kernel, by decide +kernel, by decide, tbc7 24 rfl rfl, tbs4 12 25 rfl⟩
theorem mcX14_find : MC 0 mX14_find 3 := ⟨tbc7 29 rfl rfl, tbc1 17 rfl rfl, ⟨by decide, by decide⟩, by decide +kernel, by decide +kernel, by decide, tbc7 28 rfl rfl, tbs4 13 25 rfl⟩
theorem mcX14_isSame : MC 0 mX14_isSame 2 := ⟨tbc7 33 rfl rfl, tbc1 17 rfl rfl, ⟨by decide, by decide⟩, by decide +kernel, by decide +kernel, by decide, tbc7 32 rfl rfl, tbs4 14 25 rfl⟩
theorem mcX14_tell : MC 0 mX14_tell 2 := ⟨tbc7 37 rfl rfl, tbc1 17 rfl rfl, ⟨by decide, by decide⟩, by decide +kernel, by decide +kernel, by decide, tbc7 36 rfl rfl, tbs4 15 25 rfl⟩
theorem mcX14_number_ : MC 0 mX14_number_ 3 := ⟨tbc7 41 rfl rfl, tbc1 17 rfl rfl, ⟨by decide, by decide⟩, by decide +kernel, by decide +kernel, by decide, tbc7 40 rfl rfl, tbs5 0 25 rfl⟩
theorem mcX14_take : MC 0 mX14_take 2 := ⟨tbc7 45 rfl rfl, tbc1 17 rfl rfl, ⟨by decide, by decide⟩, by decide +kernel, by decide +kernel, by decide, tbc7 44 rfl rfl, tbs5 1 25 rfl⟩
theorem mcX14_number : MC 0 mX14_number 2 := ⟨tbc7 49 rfl rfl, tbc1 17 rfl rfl, ⟨by decide, by decide⟩, by decide +kernel, by decide +kernel, by decide, tbc7 48 rfl rfl, tbs5 2 25 rfl⟩
theorem mcX14_put : MC 1 mX14_put 5 := ⟨tbc7 52 rfl rfl, tbc1 17 rfl rfl, ⟨by decide, by decide⟩, by decide +kernel, by decide +kernel, by decide, tbc7 51 rfl rfl⟩
theorem mcX14_readRust : MC 0 mX14_readRust 0 := ⟨tbc7 56 rfl rfl, tbc1 17 rfl rfl, ⟨by decide, by decide⟩, by decide +kernel, by decide +kernel, by decide, tbc7 55 rfl rfl, tbs5 3 25 rfl⟩
theorem mcX14_known : MC 0 mX14_known 2 := ⟨tbc7 60 rfl rfl, tbc1 17 rfl rfl, ⟨by decide, by decide⟩, by decide +kernel, by decide +kernel, by decide, tbc7 59 rfl rfl, tbs5 4 25 rfl⟩
theorem mcX14_readFist : MC 0 mX14_readFist 0 := ⟨tbc7 64 rfl rfl, tbc1 17 rfl rfl, ⟨by decide, by decide⟩, by decide +kernel, by decide +kernel, by decide, tbc7 63 rfl rfl, tbs5 5 25 rfl⟩
theorem mcX14_readPrize : MC 0 mX14_readPrize 0 := ⟨tbc7 68 rfl rfl, tbc1 17 rfl rfl, ⟨by decide, by decide⟩, by decide +kernel, by decide +kernel, by decide, tbc7 67 rfl rfl, tbs5 6 25 rfl⟩
theorem mcX14_sum : MC 0 mX14_sum 0 := ⟨tbc7 72 rfl rfl, tbc1 17 rfl rfl, ⟨by decide, by decide⟩, by decide +kernel, by decide +kernel, by decide, tbc7 71 rfl rfl, tbs5 7 25 rfl⟩
theorem mcX14_product : MC 0 mX14_product 0 := ⟨tbc7 76 rfl rfl, tbc1 17 rfl rfl, ⟨by decide, by decide⟩, by decide +kernel, by decide +kernel, by decide, tbc7 75 rfl rfl, tbs5 8 25 rfl⟩
theorem mcX14_one : MC 0 mX14_one 0 := ⟨tbc7 80 rfl rfl, tbc1 17 rfl rfl, ⟨by decide, by decide⟩, by decide +kernel, by decide +kernel, by decide, tbc7 79 rfl rfl, tbs5 9 25 rfl⟩
theorem mcX12_node : MC 0 mX12_node 3 := ⟨tbc7 85 rfl rfl, tbc1 18 rfl rfl, ⟨by decide, by decide⟩, by decide +kernel, by decide +kernel, by decide, tbc7 83 rfl rfl, tbc7 84 rfl rfl⟩
theorem mcX14_named : MC 0 mX14_named 2 := ⟨tbc7 89 rfl rfl, tbc1 17 rfl rfl, ⟨by decide, by decide⟩, by decide +kernel, by decide +kernel, by decide, tbc7 88 rfl rfl, tbs5 10 25 rfl⟩
theorem mcX14_deeper : MC 0 mX14_deeper 0 := ⟨tbc7 93 rfl rfl, tbc1 17 rfl rfl, ⟨by decide, by decide⟩, by decide +kernel, by decide +kernel, by decide, tbc7 92 rfl rfl, tbs5 11 25 rfl⟩
theorem mcX14_inner : MC 0 mX14_inner 0 := ⟨tbc7 97 rfl rfl, tbc1 17 rfl rfl, ⟨by decide, by decide⟩, by decide +kernel, by decide +kernel, by decide, tbc7 96 rfl rfl, tbs5 12 25 rfl⟩
theorem mcX14_both : MC 0 mX14_both 1 := ⟨tbc7 101 rfl rfl, tbc1 17 rfl rfl, ⟨by decide, by decide⟩, by decide +kernel, by decide +kernel, by decide, tbc7 100 rfl rfl, tbs5 13 25 rfl⟩
theorem mcX14_test : MC 0 mX14_test 0 := ⟨tbc7 105 rfl rfl, tbc1 17 rfl rfl, ⟨by decide, by decide⟩, by decide +kernel, by decide +kernel, by decide, tbc7 104 rfl rfl, tbs5 14 25 rfl⟩
theorem mcX14_pair : MC 0 mX14_pair 0 := ⟨tbc7 109 rfl rfl, tbc1 17 rfl rfl, ⟨by decide, by decide⟩, by decide +kernel, by decide +kernel, by decide, tbc7 108 rfl rfl, tbs5 15 25 rfl⟩
theorem mcX14_single : MC 0 mX14_single 0 := ⟨tbc7 113 rfl rfl, tbc1 17 rfl rfl, ⟨by decide, by decide⟩, by decide +kernel, by decide +kernel, by decide, tbc7 112 rfl rfl, tbs6 0 25 rfl⟩
theorem mcX14_readTurn : MC 0 mX14_readTurn 0 := ⟨tbc7 117 rfl rfl, tbc1 17 rfl rfl, ⟨by decide, by decide⟩, by decide +kernel, by decide +kernel, by decide, tbc7 116 rfl rfl, tbs6 1 25 rfl⟩
theorem mcX14_begin : MC 0 mX14_begin 0 := ⟨tbc7 121 rfl rfl, tbc1 17 rfl rfl, ⟨by decide, by decide⟩, by decide +kernel, by decide +kernel, by decide, tbc7 120 rfl rfl, tbs6 2 25 rfl⟩
theorem mcX13_begin : MC 0 mX13_begin 1 := ⟨tbc7 125 rfl rfl, tbc1 19 rfl rfl, ⟨by decide, by decide⟩, by decide +kernel, by decide +kernel, by decide, tbc7 123 rfl rfl, tbc7 124 rfl rfl⟩
theorem mcX14_errorAt : MC 0 mX14_errorAt 0 := ⟨tbc7 129 rfl rfl, tbc1 17 rfl rfl, ⟨by decide, by decide⟩, by decide +kernel, by decide +kernel, by decide, tbc7 127 rfl rfl, tbc7 128 rfl rfl⟩
theorem mcX14_count : MC 0 mX14_count 1 := ⟨tbc7 133 rfl rfl, tbc1 17 rfl rfl, ⟨by decide, by decide⟩, by decide +kernel, by decide +kernel, by decide, tbc7 131 rfl rfl, tbc7 132 rfl rfl⟩
theorem mcX14_counted : MC 0 mX14_counted 1 := ⟨tbc7 137 rfl rfl, tbc1 17 rfl rfl, ⟨by decide, by decide⟩, by decide +kernel, by decide +kernel, by decide, tbc7 136 rfl rfl, tbs6 3 25 rfl⟩
theorem mcX14_purses : MC 0 mX14_purses 1 := ⟨tbc7 141 rfl rfl, tbc1 17 rfl rfl, ⟨by decide, by decide⟩, by decide +kernel, by decide +kernel, by decide, tbc7 140 rfl rfl, tbs6 4 25 rfl⟩
theorem mcX14_rail : MC 0 mX14_rail 2 := ⟨tbc7 145 rfl rfl, tbc1 17 rfl rfl, ⟨by decide, by decide⟩, by decide +kernel, by decide +kernel, by decide, tbc7 143 rfl rfl, tbc7 144 rfl rfl⟩
theorem mcX14_isRail : MC 0 mX14_isRail 1 := ⟨tbc7 149 rfl rfl, tbc1 17 rfl rfl, ⟨by decide, by decide⟩, by decide +kernel, by decide +kernel, by decide, tbc7 148 rfl rfl, tbs6 5 25 rfl⟩
theorem mcX14_railTold : MC 0 mX14_railTold 2 := ⟨tbc7 153 rfl rfl, tbc1 17 rfl rfl, ⟨by decide, by decide⟩, by decide +kernel, by decide +kernel, by decide, tbc7 152 rfl rfl, tbs6 6 25 rfl⟩
theorem mcX14_fist : MC 0 mX14_fist 2 := ⟨tbc7 157 rfl rfl, tbc1 17 rfl rfl, ⟨by decide, by decide⟩, by decide +kernel, by decide +kernel, by decide, tbc7 155 rfl rfl, tbc7 156 rfl rfl⟩
theorem mcX14_isFist : MC 0 mX14_isFist 1 := ⟨tbc7 161 rfl rfl, tbc1 17 rfl rfl, ⟨by decide, by decide⟩, by decide +kernel, by decide +kernel, by decide, tbc7 160 rfl rfl, tbs6 7 25 rfl⟩
theorem mcX14_fistTold : MC 0 mX14_fistTold 2 := ⟨tbc7 165 rfl rfl, tbc1 17 rfl rfl, ⟨by decide, by decide⟩, by decide +kernel, by decide +kernel, by decide, tbc7 164 rfl rfl, tbs6 8 25 rfl⟩
theorem mcX14_placeOf : MC 0 mX14_placeOf 1 := ⟨tbc7 169 rfl rfl, tbc1 17 rfl rfl, ⟨by decide, by decide⟩, by decide +kernel, by decide +kernel, by decide, tbc7 168 rfl rfl, tbs6 9 25 rfl⟩
theorem mcX14_prize : MC 0 mX14_prize 2 := ⟨tbc7 173 rfl rfl, tbc1 17 rfl rfl, ⟨by decide, by decide⟩, by decide +kernel, by decide +kernel, by decide, tbc7 171 rfl rfl, tbc7 172 rfl rfl⟩
theorem mcX14_prizeTold : MC 0 mX14_prizeTold 2 := ⟨tbc7 177 rfl rfl, tbc1 17 rfl rfl, ⟨by decide, by decide⟩, by decide +kernel, by decide +kernel, by decide, tbc7 176 rfl rfl, tbs6 10 25 rfl⟩
theorem mcX14_reckon : MC 0 mX14_reckon 2 := ⟨tbc7 181 rfl rfl, tbc1 17 rfl rfl, ⟨by decide, by decide⟩, by decide +kernel, by decide +kernel, by decide, tbc7 180 rfl rfl, tbs6 11 25 rfl⟩
theorem mcX14_parts : MC 1 mX14_parts 2 := ⟨tbc7 190 rfl rfl, tbc1 17 rfl rfl, ⟨by decide, by decide⟩, by decide +kernel, by decide +kernel, by decide, tbc7 189 rfl rfl⟩
theorem mcX14_holds : MC 0 mX14_holds 2 := ⟨tbc7 194 rfl rfl, tbc1 17 rfl rfl, ⟨by decide, by decide⟩, by decide +kernel, by decide +kernel, by decide, tbc7 193 rfl rfl, tbs6 12 25 rfl⟩
theorem mcX14_turn : MC 0 mX14_turn 2 := ⟨tbc7 198 rfl rfl, tbc1 17 rfl rfl, ⟨by decide, by decide⟩, by decide +kernel, by decide +kernel, by decide, tbc7 196 rfl rfl, tbc7 197 rfl rfl⟩
theorem mcX14_turnTold : MC 0 mX14_turnTold 2 := ⟨tbc7 202 rfl rfl, tbc1 17 rfl rfl, ⟨by decide, by decide⟩, by decide +kernel, by decide +kernel, by decide, tbc7 201 rfl rfl, tbs6 13 25 rfl⟩
theorem mcX14_isOn : MC 0 mX14_isOn 2 := ⟨tbc7 206 rfl rfl, tbc1 17 rfl rfl, ⟨by decide, by decide⟩, by decide +kernel, by decide +kernel, by decide, tbc7 205 rfl rfl, tbs6 14 25 rfl⟩
theorem mcX14_board : MC 0 mX14_board 1 := ⟨tbc7 210 rfl rfl, tbc1 17 rfl rfl, ⟨by decide, by decide⟩, by decide +kernel, by decide +kernel, by decide, tbc7 208 rfl rfl, tbc7 209 rfl rfl⟩
theorem mcX14_strike_ : MC 0 mX14_strike_ 2 := ⟨tbc7 214 rfl rfl, tbc1 17 rfl rfl, ⟨by decide, by decide⟩, by decide +kernel, by decide +kernel, by decide, tbc7 212 rfl rfl, tbc7 213 rfl rfl⟩
theorem mcX14_strike : MC 0 mX14_strike 3 := ⟨tbc7 218 rfl rfl, tbc1 17 rfl rfl, ⟨by decide, by decide⟩, by decide +kernel, by decide +kernel, by decide, tbc7 217 rfl rfl, tbs6 15 25 rfl⟩
theorem mcX14_fly : MC 0 mX14_fly 4 := ⟨tbc7 222 rfl rfl, tbc1 17 rfl rfl, ⟨by decide, by decide⟩, by decide +kernel, by decide +kernel, by decide, tbc7 221 rfl rfl, tbs7 0 25 rfl⟩
theorem mcX14_rustAt : MC 0 mX14_rustAt 2 := ⟨tbc7 226 rfl rfl, tbc1 17 rfl rfl, ⟨by decide, by decide⟩, by decide +kernel, by decide +kernel, by decide, tbc7 225 rfl rfl, tbs7 1 25 rfl⟩
theorem mcX14_reward : MC 0 mX14_reward 2 := ⟨tbc7 230 rfl rfl, tbc1 17 rfl rfl, ⟨by decide, by decide⟩, by decide +kernel, by decide +kernel, by decide, tbc7 229 rfl rfl, tbs7 2 25 rfl⟩
theorem mcX14_wind : MC 0 mX14_wind 2 := ⟨tbc7 234 rfl rfl, tbc1 17 rfl rfl, ⟨by decide, by decide⟩, by decide +kernel, by decide +kernel, by decide, tbc7 232 rfl rfl, tbc7 233 rfl rfl⟩
theorem mcX14_pass : MC 0 mX14_pass 1 := ⟨tbc7 238 rfl rfl, tbc1 17 rfl rfl, ⟨by decide, by decide⟩, by decide +kernel, by decide +kernel, by decide, tbc7 236 rfl rfl, tbc7 237 rfl rfl⟩
theorem mcX14_given : MC 0 mX14_given 1 := ⟨tbc8 2 rfl rfl, tbc1 17 rfl rfl, ⟨by decide, by decide⟩, by decide +kernel, by decide +kernel, by decide, tbc8 1 rfl rfl, tbs7 3 25 rfl⟩
theorem mcX14_rounds : MC 0 mX14_rounds 2 := ⟨tbc8 6 rfl rfl, tbc1 17 rfl rfl, ⟨by decide, by decide⟩, by decide +kernel, by decide +kernel, by decide, tbc8 5 rfl rfl, tbs7 4 25 rfl⟩
theorem mcX14_round : MC 0 mX14_round 1 := ⟨tbc8 10 rfl rfl, tbc1 17 rfl rfl, ⟨by decide, by decide⟩, by decide +kernel, by decide +kernel, by decide, tbc8 9 rfl rfl, tbs7 5 25 rfl⟩
theorem mcX14_push : MC 0 mX14_push 1 := ⟨tbc8 14 rfl rfl, tbc1 17 rfl rfl, ⟨by decide, by decide⟩, by decide +kernel, by decide +kernel, by decide, tbc8 13 rfl rfl, tbs7 6 25 rfl⟩
theorem mcX14_elbowsAt : MC 0 mX14_elbowsAt 2 := ⟨tbc8 18 rfl rfl, tbc1 17 rfl rfl, ⟨by decide, by decide⟩, by decide +kernel, by decide +kernel, by decide, tbc8 17 rfl rfl, tbs7 7 25 rfl⟩
theorem mcX14_would : MC 0 mX14_would 3 := ⟨tbc8 22 rfl rfl, tbc1 17 rfl rfl, ⟨by decide, by decide⟩, by decide +kernel, by decide +kernel, by decide, tbc8 20 rfl rfl, tbc8 21 rfl rfl⟩
theorem mcX14_path : MC 0 mX14_path 3 := ⟨tbc8 26 rfl rfl, tbc1 17 rfl rfl, ⟨by decide, by decide⟩, by decide +kernel, by decide +kernel, by decide, tbc8 24 rfl rfl, tbc8 25 rfl rfl⟩
theorem mcX14_needs : MC 0 mX14_needs 2 := ⟨tbc8 30 rfl rfl, tbc1 17 rfl rfl, ⟨by decide, by decide⟩, by decide +kernel, by decide +kernel, by decide, tbc8 28 rfl rfl, tbc8 29 rfl rfl⟩
theorem mcX14_foresee : MC 0 mX14_foresee 2 := ⟨tbc8 34 rfl rfl, tbc1 17 rfl rfl, ⟨by decide, by decide⟩, by decide +kernel, by decide +kernel, by decide, tbc8 32 rfl rfl, tbc8 33 rfl rfl⟩
theorem mcX13_become : MC 0 mX13_become 1 := ⟨tbc8 38 rfl rfl, tbc1 19 rfl rfl, ⟨by decide, by decide⟩, by decide +kernel, by decide +kernel, by decide, tbc8 36 rfl rfl, tbc8 37 rfl rfl⟩
theorem mcX13_copy : MC 1 mX13_copy 2 := ⟨tbc8 41 rfl rfl, tbc1 19 rfl rfl, ⟨by decide, by decide⟩, by decide +kernel, by decide +kernel, by decide, tbc8 40 rfl rfl⟩
theorem mcX14_advise : MC 0 mX14_advise 2 := ⟨tbc8 48 rfl rfl, tbc1 17 rfl rfl, ⟨by decide, by decide⟩, by decide +kernel, by decide +kernel, by decide, tbc8 46 rfl rfl, tbc8 47 rfl rfl⟩
theorem mcX14_pursesWith : MC 0 mX14_pursesWith 3 := ⟨tbc8 52 rfl rfl, tbc1 17 rfl rfl, ⟨by decide, by decide⟩, by decide +kernel, by decide +kernel, by decide, tbc8 51 rfl rfl, tbs7 8 25 rfl⟩
theorem mcX14_mean : MC 0 mX14_mean 0 := ⟨tbc8 56 rfl rfl, tbc1 17 rfl rfl, ⟨by decide, by decide⟩, by decide +kernel, by decide +kernel, by decide, tbc8 54 rfl rfl, tbc8 55 rfl rfl⟩
theorem mcX14_digest : MC 0 mX14_digest 0 := ⟨tbc8 60 rfl rfl, tbc1 17 rfl rfl, ⟨by decide, by decide⟩, by decide +kernel, by decide +kernel, by decide, tbc8 58 rfl rfl, tbc8 59 rfl rfl⟩
theorem mlX11_9 : ML 2 RX11 9 mX8_init 0 := ⟨mcX8_init, Or.inr ⟨"BellHammer", tbn1 38 rfl rfl⟩⟩
theorem mlX11_18 : ML 2 RX11 18 mX9_init 0 := ⟨mcX9_init, Or.inl (tbc1 54 rfl rfl)⟩
theorem mlX11_25 : ML 2 RX11 25 mX2_init 0 := ⟨mcX2_init, Or.inl (tbc1 137 rfl rfl)⟩
theorem mlX11_35 : ML 2 RX11 35 mX7_init 2 := ⟨mcX7_init, Or.inl (tbc2 186 rfl rfl)⟩
theorem mlX11_46 : ML 0 RX11 46 mX8_hasRoomFor 1 := ⟨mcX8_hasRoomFor, Or.inl (tbc4 115 rfl rfl)⟩
theorem mlX11_57 : ML 0 RX11 57 mX8_addNumber 1 := ⟨mcX8_addNumber, Or.inl (tbc4 186 rfl rfl)⟩
theorem mlX11_69 : ML 0 RX11 69 mX8_shortenTo 1 := ⟨mcX8_shortenTo, Or.inl (tbc3 38 rfl rfl)⟩
theorem mlX11_72 : ML 0 RX11 72 mX9_readAll 1 := ⟨mcX9_readAll, Or.inl (tbc2 229 rfl rfl)⟩
theorem mlX11_76 : ML 0 RX11 76 mX2_clear 0 := ⟨mcX2_clear, Or.inl (tbc3 42 rfl rfl)⟩
theorem mlX11_79 : ML 0 RX11 79 mX7_readBill 1 := ⟨mcX7_readBill, Or.inl (tbc3 46 rfl rfl)⟩
theorem mlX11_83 : ML 0 RX11 83 mX7_errorAtByte 0 := ⟨mcX7_errorAtByte, Or.inl (tbc3 234 rfl rfl)⟩
theorem mlX11_95 : ML 0 RX11 95 mX11_tellCount 1 := ⟨mcX11_tellCount, Or.inl (tbc4 24 rfl rfl)⟩
theorem mlX11_99 : ML 0 RX11 99 mX2_hasRail 1 := ⟨mcX2_hasRail, Or.inl (tbc5 5 rfl rfl)⟩
theorem mlX11_104 : ML 0 RX11 104 mX2_tellRail 2 := ⟨mcX2_tellRail, Or.inl (tbc5 7 rfl rfl)⟩
theorem mlX11_108 : ML 0 RX11 108 mX2_hasFist 1 := ⟨mcX2_hasFist, Or.inl (tbc5 15 rfl rfl)⟩
theorem mlX11_113 : ML 0 RX11 113 mX2_tellFist 2 := ⟨mcX2_tellFist, Or.inl (tbc5 17 rfl rfl)⟩
theorem mlX11_116 : ML 0 RX11 116 mX2_hasPrize 1 := ⟨mcX2_hasPrize, Or.inl (tbc5 25 rfl rfl)⟩
theorem mlX11_121 : ML 0 RX11 121 mX2_tellPrize 2 := ⟨mcX2_tellPrize, Or.inl (tbc5 27 rfl rfl)⟩
theorem mlX11_124 : ML 0 RX11 124 mX2_hasTurn 1 := ⟨mcX2_hasTurn, Or.inl (tbc5 35 rfl rfl)⟩
theorem mlX11_129 : ML 0 RX11 129 mX2_tellTurn 2 := ⟨mcX2_tellTurn, Or.inl (tbc5 37 rfl rfl)⟩
theorem mlX11_136 : ML 0 RX11 136 mX0_has 1 := ⟨mcX0_has, Or.inl (tbc5 45 rfl rfl)⟩
theorem mlX11_143 : ML 0 RX11 143 mX0_heightAt 1 := ⟨mcX0_heightAt, Or.inl (tbc5 47 rfl rfl)⟩
theorem mlX11_148 : ML 0 RX11 148 mX2_hit 2 := ⟨mcX2_hit, Or.inl (tbc5 56 rfl rfl)⟩
theorem mlX11_161 : ML 0 RX11 161 mX2_changeSpring 2 := ⟨mcX2_changeSpring, Or.inl (tbc5 93 rfl rfl)⟩
theorem mlX11_169 : ML 0 RX11 169 mX2_play 1 := ⟨mcX2_play, Or.inl (tbc5 105 rfl rfl)⟩
theorem mlX11_174 : ML 0 RX11 174 mX2_flightOf 2 := ⟨mcX2_flightOf, Or.inl (tbc5 134 rfl rfl)⟩
theorem mlX11_189 : ML 0 RX11 189 mX4_placeBehind 1 := ⟨mcX4_placeBehind, Or.inl (tbc5 150 rfl rfl)⟩
theorem mlX11_192 : ML 0 RX11 192 mX2_flightWithArm 3 := ⟨mcX2_flightWithArm, Or.inl (tbc5 161 rfl rfl)⟩
theorem mlX11_198 : ML 0 RX11 198 mX2_copyFrom 1 := ⟨mcX2_copyFrom, Or.inl (tbc5 170 rfl rfl)⟩
theorem mlX11_202 : ML 0 RX11 202 mX2_allPurses 0 := ⟨mcX2_allPurses, Or.inl (tbc5 206 rfl rfl)⟩
theorem mlX11_213 : ML 0 RX11 213 mX0_meanHeight 0 := ⟨mcX0_meanHeight, Or.inl (tbc4 6 rfl rfl)⟩
theorem mlX11_221 : ML 0 RX11 221 mX2_digestBehind 1 := ⟨mcX2_digestBehind, Or.inl (tbc4 36 rfl rfl)⟩
theorem mlX11_225 : ML 0 RX11 225 mX2_tellCountOf 1 := ⟨mcX2_tellCountOf, Or.inl (tbc4 28 rfl rfl)⟩
theorem mlX0_17 : ML 0 RX0 17 mX0_has 1 := ⟨mcX0_has, Or.inl (tbc4 14 rfl rfl)⟩
theorem mlX0_21 : ML 0 RX0 21 mX0_heightAt 1 := ⟨mcX0_heightAt, Or.inl (tbc4 10 rfl rfl)⟩
theorem mlX1_27 : ML 0 RX1 27 mX1_add 2 := ⟨mcX1_add, Or.inl (tbc5 178 rfl rfl)⟩
theorem mlX1_34 : ML 0 RX1 34 mX1_push 1 := ⟨mcX1_push, Or.inl (tbc4 69 rfl rfl)⟩
theorem mlX1_38 : ML 0 RX1 38 mX1_pop 0 := ⟨mcX1_pop, Or.inl (tbc4 73 rfl rfl)⟩
theorem mlX1_42 : ML 0 RX1 42 mX2_reading 2 := ⟨mcX2_reading, Or.inl (tbc4 77 rfl rfl)⟩
theorem mlX1_48 : ML 1 RX1 48 mX1_isJoining 1 := ⟨mcX1_isJoining, Or.inl (tbc4 81 rfl rfl)⟩
theorem mlX1_52 : ML 1 RX1 52 mX1_joined 3 := ⟨mcX1_joined, Or.inl (tbc4 84 rfl rfl)⟩
theorem mlX1_56 : ML 1 RX1 56 mX1_compared 3 := ⟨mcX1_compared, Or.inl (tbc4 87 rfl rfl)⟩
theorem mlX2_11 : ML 2 RX2 11 mX1_init 0 := ⟨mcX1_init, Or.inr ⟨"BellHammer", tbn1 143 rfl rfl⟩⟩
theorem mlX2_20 : ML 2 RX2 20 mX0_init 0 := ⟨mcX0_init, Or.inr ⟨"BellHammer", tbn1 167 rfl rfl⟩⟩
theorem mlX2_27 : ML 2 RX2 27 mX4_init 0 := ⟨mcX4_init, Or.inr ⟨"BellHammer", tbn1 181 rfl rfl⟩⟩
theorem mlX2_60 : ML 2 RX2 60 mX6_init 0 := ⟨mcX6_init, Or.inr ⟨"BellHammer", tbn1 221 rfl rfl⟩⟩
theorem mlX2_61 : ML 2 RX2 61 mX3_init 0 := ⟨mcX3_init, Or.inr ⟨"BellHammer", tbn2 17 rfl rfl⟩⟩
theorem mlX2_62 : ML 2 RX2 62 mX5_init 0 := ⟨mcX5_init, Or.inr ⟨"BellHammer", tbn2 63 rfl rfl⟩⟩
theorem mlX2_63 : ML 2 RX2 63 mX10_init 0 := ⟨mcX10_init, Or.inr ⟨"BellHammer", tbn2 93 rfl rfl⟩⟩
theorem mlX2_102 : ML 0 RX2 102 mX1_copyFrom 1 := ⟨mcX1_copyFrom, Or.inl (tbc5 174 rfl rfl)⟩
theorem mlX2_106 : ML 0 RX2 106 mX0_copyFrom 1 := ⟨mcX0_copyFrom, Or.inl (tbc5 179 rfl rfl)⟩
theorem mlX2_109 : ML 0 RX2 109 mX6_copyFrom 1 := ⟨mcX6_copyFrom, Or.inl (tbc5 183 rfl rfl)⟩
theorem mlX2_112 : ML 0 RX2 112 mX3_copyFrom 1 := ⟨mcX3_copyFrom, Or.inl (tbc5 188 rfl rfl)⟩
theorem mlX2_115 : ML 0 RX2 115 mX5_copyFrom 1 := ⟨mcX5_copyFrom, Or.inl (tbc5 192 rfl rfl)⟩
theorem mlX2_118 : ML 0 RX2 118 mX10_copyFrom 1 := ⟨mcX10_copyFrom, Or.inl (tbc5 197 rfl rfl)⟩
theorem mlX2_121 : ML 0 RX2 121 mX2_copyNumbers 1 := ⟨mcX2_copyNumbers, Or.inl (tbc5 202 rfl rfl)⟩
theorem mlX2_131 : ML 0 RX2 131 mX6_tell 4 := ⟨mcX6_tell, Or.inl (tbc3 106 rfl rfl)⟩
theorem mlX2_135 : ML 0 RX2 135 mX2_hasRail 1 := ⟨mcX2_hasRail, Or.inl (tbc3 127 rfl rfl)⟩
theorem mlX2_139 : ML 0 RX2 139 mX6_addRust 3 := ⟨mcX6_addRust, Or.inl (tbc3 131 rfl rfl)⟩
theorem mlX2_143 : ML 0 RX2 143 mX3_tell 4 := ⟨mcX3_tell, Or.inl (tbc3 147 rfl rfl)⟩
theorem mlX2_144 : ML 0 RX2 144 mX5_tell 5 := ⟨mcX5_tell, Or.inl (tbc3 218 rfl rfl)⟩
theorem mlX2_147 : ML 0 RX2 147 mX10_tell 4 := ⟨mcX10_tell, Or.inl (tbc3 230 rfl rfl)⟩
theorem mlX2_150 : ML 0 RX2 150 mX2_allPurses 0 := ⟨mcX2_allPurses, Or.inl (tbc4 32 rfl rfl)⟩
theorem mlX2_167 : ML 0 RX2 167 mX2_hasFist 1 := ⟨mcX2_hasFist, Or.inl (tbc4 49 rfl rfl)⟩
theorem mlX2_188 : ML 0 RX2 188 mX2_placeOfPurse 1 := ⟨mcX2_placeOfPurse, Or.inl (tbc4 53 rfl rfl)⟩
theorem mlX2_192 : ML 0 RX2 192 mX2_hasPrize 1 := ⟨mcX2_hasPrize, Or.inl (tbc4 61 rfl rfl)⟩
theorem mlX2_205 : ML 0 RX2 205 mX1_reckon 3 := ⟨mcX1_reckon, Or.inl (tbc4 65 rfl rfl)⟩
theorem mlX2_212 : ML 0 RX2 212 mX2_hasTurn 1 := ⟨mcX2_hasTurn, Or.inl (tbc4 94 rfl rfl)⟩
theorem mlX2_221 : ML 0 RX2 221 mX2_placeInRow 1 := ⟨mcX2_placeInRow, Or.inl (tbc4 98 rfl rfl)⟩
theorem mlX2_224 : ML 0 RX2 224 mX2_isDue 1 := ⟨mcX2_isDue, Or.inl (tbc4 102 rfl rfl)⟩
theorem mlX2_230 : ML 0 RX2 230 mX2_flightWithArm 3 := ⟨mcX2_flightWithArm, Or.inl (tbc5 138 rfl rfl)⟩
theorem mlX2_234 : ML 0 RX2 234 mX3_forceWithArm 1 := ⟨mcX3_forceWithArm, Or.inl (tbc5 60 rfl rfl)⟩
theorem mlX2_237 : ML 0 RX2 237 mX4_fly 2 := ⟨mcX4_fly, Or.inl (tbc5 64 rfl rfl)⟩
theorem mlX2_243 : ML 0 RX2 243 mX0_add 1 := ⟨mcX0_add, Or.inl (tbc5 76 rfl rfl)⟩
theorem mlX2_251 : ML 0 RX2 251 mX2_giveTo 1 := ⟨mcX2_giveTo, Or.inl (tbc5 80 rfl rfl)⟩
theorem mlX2_254 : ML 0 RX2 254 mX2_useElbows 0 := ⟨mcX2_useElbows, Or.inl (tbc5 109 rfl rfl)⟩
theorem mlX2_257 : ML 0 RX2 257 mX2_takeTurns 0 := ⟨mcX2_takeTurns, Or.inl (tbc5 117 rfl rfl)⟩
theorem mlX2_260 : ML 0 RX2 260 mX3_endRound 0 := ⟨mcX3_endRound, Or.inl (tbc5 122 rfl rfl)⟩
theorem mlX2_263 : ML 0 RX2 263 mX2_fistInRow 1 := ⟨mcX2_fistInRow, Or.inl (tbc5 113 rfl rfl)⟩
theorem mlX2_266 : ML 0 RX2 266 mX2_hit 2 := ⟨mcX2_hit, Or.inl (tbc5 121 rfl rfl)⟩
theorem mlX2_272 : ML 0 RX2 272 mX2_tellRail 2 := ⟨mcX2_tellRail, Or.inl (tbc4 41 rfl rfl)⟩
theorem mlX2_276 : ML 0 RX2 276 mX2_tellFist 2 := ⟨mcX2_tellFist, Or.inl (tbc4 45 rfl rfl)⟩
theorem mlX2_279 : ML 0 RX2 279 mX2_tellPrize 2 := ⟨mcX2_tellPrize, Or.inl (tbc4 57 rfl rfl)⟩
theorem mlX2_282 : ML 0 RX2 282 mX2_tellTurn 2 := ⟨mcX2_tellTurn, Or.inl (tbc4 90 rfl rfl)⟩
theorem mlX2_285 : ML 0 RX2 285 mX0_heightAt 1 := ⟨mcX0_heightAt, Or.inl (tbc4 106 rfl rfl)⟩
theorem mlX4_38 : ML 0 RX4 38 mX4_move 1 := ⟨mcX4_move, Or.inl (tbc5 68 rfl rfl)⟩
theorem mlX4_48 : ML 0 RX4 48 mX6_rustAt 1 := ⟨mcX6_rustAt, Or.inl (tbc5 72 rfl rfl)⟩
theorem mlX5_29 : ML 0 RX5 29 mX5_tell 5 := ⟨mcX5_tell, Or.inl (tbc5 196 rfl rfl)⟩
theorem mlX6_33 : ML 0 RX6 33 mX6_rustAt 1 := ⟨mcX6_rustAt, Or.inl (tbc5 187 rfl rfl)⟩
theorem mlX7_31 : ML 0 RX7 31 mX7_kind 0 := ⟨mcX7_kind, Or.inl (tbc3 50 rfl rfl)⟩
theorem mlX7_35 : ML 0 RX7 35 mX7_readLine 0 := ⟨mcX7_readLine, Or.inl (tbc3 58 rfl rfl)⟩
theorem mlX7_38 : ML 0 RX7 38 mX7_expect 1 := ⟨mcX7_expect, Or.inl (tbc3 66 rfl rfl)⟩
theorem mlX7_42 : ML 0 RX7 42 mX7_readRail 0 := ⟨mcX7_readRail, Or.inl (tbc3 62 rfl rfl)⟩
theorem mlX7_45 : ML 0 RX7 45 mX7_readRust 0 := ⟨mcX7_readRust, Or.inl (tbc3 110 rfl rfl)⟩
theorem mlX7_48 : ML 0 RX7 48 mX7_readFist 0 := ⟨mcX7_readFist, Or.inl (tbc3 135 rfl rfl)⟩
theorem mlX7_51 : ML 0 RX7 51 mX7_readPrize 0 := ⟨mcX7_readPrize, Or.inl (tbc3 151 rfl rfl)⟩
theorem mlX7_54 : ML 0 RX7 54 mX7_readTurn 0 := ⟨mcX7_readTurn, Or.inl (tbc3 222 rfl rfl)⟩
theorem mlX7_57 : ML 0 RX7 57 mX7_refuse 0 := ⟨mcX7_refuse, Or.inl (tbc3 70 rfl rfl)⟩
theorem mlX7_60 : ML 0 RX7 60 mX7_value 0 := ⟨mcX7_value, Or.inl (tbc3 78 rfl rfl)⟩
theorem mlX7_64 : ML 0 RX7 64 mX2_railNamed 1 := ⟨mcX2_railNamed, Or.inl (tbc3 86 rfl rfl)⟩
theorem mlX7_73 : ML 0 RX7 73 mX7_expectNewName 2 := ⟨mcX7_expectNewName, Or.inl (tbc3 90 rfl rfl)⟩
theorem mlX7_77 : ML 0 RX7 77 mX7_numberBehind 3 := ⟨mcX7_numberBehind, Or.inl (tbc3 98 rfl rfl)⟩
theorem mlX7_83 : ML 0 RX7 83 mX2_addRail 4 := ⟨mcX2_addRail, Or.inl (tbc3 102 rfl rfl)⟩
theorem mlX7_90 : ML 0 RX7 90 mX7_blame 1 := ⟨mcX7_blame, Or.inl (tbc3 94 rfl rfl)⟩
theorem mlX7_93 : ML 0 RX7 93 mX7_knownName 1 := ⟨mcX7_knownName, Or.inl (tbc3 114 rfl rfl)⟩
theorem mlX7_97 : ML 0 RX7 97 mX7_numberOfTo 1 := ⟨mcX7_numberOfTo, Or.inl (tbc3 118 rfl rfl)⟩
theorem mlX7_100 : ML 0 RX7 100 mX2_addRust 4 := ⟨mcX2_addRust, Or.inl (tbc3 123 rfl rfl)⟩
theorem mlX7_104 : ML 0 RX7 104 mX2_fistNamed 1 := ⟨mcX2_fistNamed, Or.inl (tbc3 139 rfl rfl)⟩
theorem mlX7_110 : ML 0 RX7 110 mX2_addFist 4 := ⟨mcX2_addFist, Or.inl (tbc3 143 rfl rfl)⟩
theorem mlX7_113 : ML 0 RX7 113 mX2_prizeNamed 1 := ⟨mcX2_prizeNamed, Or.inl (tbc3 155 rfl rfl)⟩
theorem mlX7_128 : ML 0 RX7 128 mX7_readSum 1 := ⟨mcX7_readSum, Or.inl (tbc3 159 rfl rfl)⟩
theorem mlX7_131 : ML 0 RX7 131 mX7_readTest 1 := ⟨mcX7_readTest, Or.inl (tbc3 195 rfl rfl)⟩
theorem mlX7_134 : ML 0 RX7 134 mX2_addPrize 5 := ⟨mcX2_addPrize, Or.inl (tbc3 214 rfl rfl)⟩
theorem mlX7_141 : ML 0 RX7 141 mX2_addTurn 4 := ⟨mcX2_addTurn, Or.inl (tbc3 226 rfl rfl)⟩
theorem mlX7_144 : ML 0 RX7 144 mX7_readBoth 1 := ⟨mcX7_readBoth, Or.inl (tbc3 199 rfl rfl)⟩
theorem mlX7_147 : ML 0 RX7 147 mX1_add 2 := ⟨mcX1_add, Or.inl (tbc3 175 rfl rfl)⟩
theorem mlX7_151 : ML 0 RX7 151 mX7_readSingle 1 := ⟨mcX7_readSingle, Or.inl (tbc3 203 rfl rfl)⟩
theorem mlX7_154 : ML 0 RX7 154 mX7_goesDeeper 2 := ⟨mcX7_goesDeeper, Or.inl (tbc3 187 rfl rfl)⟩
theorem mlX7_158 : ML 0 RX7 158 mX7_readPlainValue 1 := ⟨mcX7_readPlainValue, Or.inl (tbc3 171 rfl rfl)⟩
theorem mlX7_161 : ML 0 RX7 161 mX7_readComparison 1 := ⟨mcX7_readComparison, Or.inl (tbc3 207 rfl rfl)⟩
theorem mlX7_164 : ML 1 RX7 164 mX7_isComparing 1 := ⟨mcX7_isComparing, Or.inl (tbc3 211 rfl rfl)⟩
theorem mlX7_168 : ML 0 RX7 168 mX7_readProduct 1 := ⟨mcX7_readProduct, Or.inl (tbc3 163 rfl rfl)⟩
theorem mlX7_171 : ML 0 RX7 171 mX7_readValue 1 := ⟨mcX7_readValue, Or.inl (tbc3 167 rfl rfl)⟩
theorem mlX7_174 : ML 0 RX7 174 mX7_readNamedValue 1 := ⟨mcX7_readNamedValue, Or.inl (tbc3 179 rfl rfl)⟩
theorem mlX7_177 : ML 0 RX7 177 mX7_readPair 2 := ⟨mcX7_readPair, Or.inl (tbc3 191 rfl rfl)⟩
theorem mlX7_180 : ML 0 RX7 180 mX7_indexOf 2 := ⟨mcX7_indexOf, Or.inl (tbc3 183 rfl rfl)⟩
theorem mlX7_186 : ML 0 RX7 186 mX9_kindAt 1 := ⟨mcX9_kindAt, Or.inl (tbc3 54 rfl rfl)⟩
theorem mlX7_189 : ML 0 RX7 189 mX9_valueAt 1 := ⟨mcX9_valueAt, Or.inl (tbc3 82 rfl rfl)⟩
theorem mlX7_193 : ML 0 RX7 193 mX9_startAt 1 := ⟨mcX9_startAt, Or.inl (tbc3 74 rfl rfl)⟩
theorem mlX9_24 : ML 1 RX9 24 mX9_codesOf 1 := ⟨mcX9_codesOf, Or.inl (tbc1 59 rfl rfl)⟩
theorem mlX9_35 : ML 1 RX9 35 mX9_behindBlanks 2 := ⟨mcX9_behindBlanks, Or.inl (tbc2 233 rfl rfl)⟩
theorem mlX9_39 : ML 0 RX9 39 mX9_readToken 2 := ⟨mcX9_readToken, Or.inl (tbc3 3 rfl rfl)⟩
theorem mlX9_47 : ML 0 RX9 47 mX9_addToken 3 := ⟨mcX9_addToken, Or.inl (tbc3 21 rfl rfl)⟩
theorem mlX9_51 : ML 0 RX9 51 mX8_byteAt 1 := ⟨mcX8_byteAt, Or.inl (tbc2 236 rfl rfl)⟩
theorem mlX9_55 : ML 1 RX9 55 mX9_isBlank 1 := ⟨mcX9_isBlank, Or.inl (tbc3 0 rfl rfl)⟩
theorem mlX9_59 : ML 1 RX9 59 mX9_isLetter 1 := ⟨mcX9_isLetter, Or.inl (tbc1 114 rfl rfl)⟩
theorem mlX9_62 : ML 0 RX9 62 mX9_readWord 2 := ⟨mcX9_readWord, Or.inl (tbc3 7 rfl rfl)⟩
theorem mlX9_65 : ML 1 RX9 65 mX9_isDigit 1 := ⟨mcX9_isDigit, Or.inl (tbc3 14 rfl rfl)⟩
theorem mlX9_68 : ML 0 RX9 68 mX9_readNumber 2 := ⟨mcX9_readNumber, Or.inl (tbc3 25 rfl rfl)⟩
theorem mlX9_71 : ML 0 RX9 71 mX9_readSymbol 3 := ⟨mcX9_readSymbol, Or.inl (tbc3 30 rfl rfl)⟩
theorem mlX9_75 : ML 1 RX9 75 mX9_isLetterOrDigit 1 := ⟨mcX9_isLetterOrDigit, Or.inl (tbc3 11 rfl rfl)⟩
theorem mlX9_78 : ML 1 RX9 78 mX9_withSign 2 := ⟨mcX9_withSign, Or.inl (tbc1 110 rfl rfl)⟩
theorem mlX9_82 : ML 0 RX9 82 mX9_kindOfWord 1 := ⟨mcX9_kindOfWord, Or.inl (tbc3 17 rfl rfl)⟩
theorem mlX9_88 : ML 1 RX9 88 mX9_isSymbol 1 := ⟨mcX9_isSymbol, Or.inl (tbc3 34 rfl rfl)⟩
theorem mlX10_22 : ML 0 RX10 22 mX10_tell 4 := ⟨mcX10_tell, Or.inl (tbc5 201 rfl rfl)⟩
theorem mlL_7 : ML 0 RL 7 mX11_feed 5 := ⟨mcX11_feed, Or.inl (tbc4 111 rfl rfl)⟩
theorem mlL_15 : ML 0 RL 15 mX11_trim 1 := ⟨mcX11_trim, Or.inl (tbc4 194 rfl rfl)⟩
theorem mlL_21 : ML 0 RL 21 mX11_count 1 := ⟨mcX11_count, Or.inl (tbc4 218 rfl rfl)⟩
theorem mlL_26 : ML 0 RL 26 mX11_rail 2 := ⟨mcX11_rail, Or.inl (tbc5 1 rfl rfl)⟩
theorem mlL_30 : ML 0 RL 30 mX11_fist 2 := ⟨mcX11_fist, Or.inl (tbc5 11 rfl rfl)⟩
theorem mlL_33 : ML 0 RL 33 mX11_prize 2 := ⟨mcX11_prize, Or.inl (tbc5 21 rfl rfl)⟩
theorem mlL_36 : ML 0 RL 36 mX11_turn 2 := ⟨mcX11_turn, Or.inl (tbc5 31 rfl rfl)⟩
theorem mlL_39 : ML 0 RL 39 mX11_board 1 := ⟨mcX11_board, Or.inl (tbc5 41 rfl rfl)⟩
theorem mlL_42 : ML 0 RL 42 mX11_strike 2 := ⟨mcX11_strike, Or.inl (tbc5 51 rfl rfl)⟩
theorem mlL_45 : ML 0 RL 45 mX11_wind 2 := ⟨mcX11_wind, Or.inl (tbc5 87 rfl rfl)⟩
theorem mlL_48 : ML 0 RL 48 mX11_pass 1 := ⟨mcX11_pass, Or.inl (tbc5 100 rfl rfl)⟩
theorem mlL_51 : ML 0 RL 51 mX11_would 3 := ⟨mcX11_would, Or.inl (tbc5 129 rfl rfl)⟩
theorem mlL_55 : ML 0 RL 55 mX11_path 3 := ⟨mcX11_path, Or.inl (tbc5 145 rfl rfl)⟩
theorem mlL_58 : ML 0 RL 58 mX11_needs 2 := ⟨mcX11_needs, Or.inl (tbc5 157 rfl rfl)⟩
theorem mlL_61 : ML 0 RL 61 mX11_foresee 2 := ⟨mcX11_foresee, Or.inl (tbc5 165 rfl rfl)⟩
theorem mlL_64 : ML 0 RL 64 mX11_advise 2 := ⟨mcX11_advise, Or.inl (tbc5 210 rfl rfl)⟩
theorem mlL_67 : ML 2 RL 67 mX11_init 0 := ⟨mcX11_init, Or.inl (tbc1 30 rfl rfl)⟩
theorem mlL_70 : ML 2 RL 70 mX14_init 0 := ⟨mcX14_init, Or.inl (tbc5 217 rfl rfl)⟩
theorem mlL_76 : ML 0 RL 76 mX14_feed 5 := ⟨mcX14_feed, Or.inl (tbc6 177 rfl rfl)⟩
theorem mlL_77 : ML 0 RL 77 mX14_thrown 0 := ⟨mcX14_thrown, Or.inl (tbc6 173 rfl rfl)⟩
theorem mlL_84 : ML 0 RL 84 mX14_trim 1 := ⟨mcX14_trim, Or.inl (tbc6 189 rfl rfl)⟩
theorem mlL_85 : ML 0 RL 85 mX11_teach 0 := ⟨mcX11_teach, Or.inl (tbc2 225 rfl rfl)⟩
theorem mlL_88 : ML 0 RL 88 mX14_teach 0 := ⟨mcX14_teach, Or.inl (tbc6 196 rfl rfl)⟩
theorem mlL_89 : ML 0 RL 89 mX11_errorAt 0 := ⟨mcX11_errorAt, Or.inl (tbc3 238 rfl rfl)⟩
theorem mlL_92 : ML 0 RL 92 mX14_errorAt 0 := ⟨mcX14_errorAt, Or.inl (tbc7 126 rfl rfl)⟩
theorem mlL_95 : ML 0 RL 95 mX14_count 1 := ⟨mcX14_count, Or.inl (tbc7 130 rfl rfl)⟩
theorem mlL_99 : ML 0 RL 99 mX14_rail 2 := ⟨mcX14_rail, Or.inl (tbc7 142 rfl rfl)⟩
theorem mlL_102 : ML 0 RL 102 mX14_fist 2 := ⟨mcX14_fist, Or.inl (tbc7 154 rfl rfl)⟩
theorem mlL_105 : ML 0 RL 105 mX14_prize 2 := ⟨mcX14_prize, Or.inl (tbc7 170 rfl rfl)⟩
theorem mlL_108 : ML 0 RL 108 mX14_turn 2 := ⟨mcX14_turn, Or.inl (tbc7 195 rfl rfl)⟩
theorem mlL_111 : ML 0 RL 111 mX14_board 1 := ⟨mcX14_board, Or.inl (tbc7 207 rfl rfl)⟩
theorem mlL_114 : ML 0 RL 114 mX14_strike_ 2 := ⟨mcX14_strike_, Or.inl (tbc7 211 rfl rfl)⟩
theorem mlL_117 : ML 0 RL 117 mX14_wind 2 := ⟨mcX14_wind, Or.inl (tbc7 231 rfl rfl)⟩
theorem mlL_120 : ML 0 RL 120 mX14_pass 1 := ⟨mcX14_pass, Or.inl (tbc7 235 rfl rfl)⟩
theorem mlL_124 : ML 0 RL 124 mX14_would 3 := ⟨mcX14_would, Or.inl (tbc8 19 rfl rfl)⟩
theorem mlL_127 : ML 0 RL 127 mX14_path 3 := ⟨mcX14_path, Or.inl (tbc8 23 rfl rfl)⟩
theorem mlL_130 : ML 0 RL 130 mX14_needs 2 := ⟨mcX14_needs, Or.inl (tbc8 27 rfl rfl)⟩
theorem mlL_133 : ML 0 RL 133 mX14_foresee 2 := ⟨mcX14_foresee, Or.inl (tbc8 31 rfl rfl)⟩
theorem mlL_136 : ML 0 RL 136 mX14_advise 2 := ⟨mcX14_advise, Or.inl (tbc8 45 rfl rfl)⟩
theorem mlL_137 : ML 0 RL 137 mX11_mean 0 := ⟨mcX11_mean, Or.inl (tbc4 2 rfl rfl)⟩
theorem mlL_141 : ML 0 RL 141 mX14_mean 0 := ⟨mcX14_mean, Or.inl (tbc8 53 rfl rfl)⟩
theorem mlL_142 : ML 0 RL 142 mX11_digest 0 := ⟨mcX11_digest, Or.inl (tbc4 18 rfl rfl)⟩
theorem mlL_146 : ML 0 RL 146 mX14_digest 0 := ⟨mcX14_digest, Or.inl (tbc8 57 rfl rfl)⟩
theorem mlX14_31 : ML 2 RX14 31 mX12_init 0 := ⟨mcX12_init, Or.inr ⟨"BellHammerModel", tbn5 223 rfl rfl⟩⟩
theorem mlX14_50 : ML 2 RX14 50 mX13_init 0 := ⟨mcX13_init, Or.inr ⟨"BellHammerModel", tbn6 48 rfl rfl⟩⟩
theorem mlX14_64 : ML 0 RX14 64 mX14_no 1 := ⟨mcX14_no, Or.inl (tbc6 181 rfl rfl)⟩
theorem mlX14_68 : ML 0 RX14 68 mX14_append 1 := ⟨mcX14_append, Or.inl (tbc6 185 rfl rfl)⟩
theorem mlX14_72 : ML 1 RX14 72 mX14_isIn 3 := ⟨mcX14_isIn, Or.inl (tbc6 193 rfl rfl)⟩
theorem mlX14_76 : ML 0 RX14 76 mX14_byteAt 1 := ⟨mcX14_byteAt, Or.inl (tbc6 204 rfl rfl)⟩
theorem mlX14_79 : ML 0 RX14 79 mX14_read 2 := ⟨mcX14_read, Or.inl (tbc6 208 rfl rfl)⟩
theorem mlX14_83 : ML 1 RX14 83 mX14_isLetter 1 := ⟨mcX14_isLetter, Or.inl (tbc6 212 rfl rfl)⟩
theorem mlX14_87 : ML 0 RX14 87 mX14_readWord 2 := ⟨mcX14_readWord, Or.inl (tbc6 215 rfl rfl)⟩
theorem mlX14_90 : ML 1 RX14 90 mX14_isDigit 1 := ⟨mcX14_isDigit, Or.inl (tbc6 219 rfl rfl)⟩
theorem mlX14_93 : ML 0 RX14 93 mX14_readNumber 2 := ⟨mcX14_readNumber, Or.inl (tbc6 230 rfl rfl)⟩
theorem mlX14_100 : ML 0 RX14 100 mX14_isWord 3 := ⟨mcX14_isWord, Or.inl (tbc6 224 rfl rfl)⟩
theorem mlX14_119 : ML 0 RX14 119 mX14_isOk 0 := ⟨mcX14_isOk, Or.inl (tbc6 238 rfl rfl)⟩
theorem mlX14_123 : ML 0 RX14 123 mX14_is 2 := ⟨mcX14_is, Or.inl (tbc7 6 rfl rfl)⟩
theorem mlX14_127 : ML 0 RX14 127 mX14_fail 0 := ⟨mcX14_fail, Or.inl (tbc7 22 rfl rfl)⟩
theorem mlX14_139 : ML 0 RX14 139 mX14_isSame 2 := ⟨mcX14_isSame, Or.inl (tbc7 30 rfl rfl)⟩
theorem mlX14_142 : ML 0 RX14 142 mX14_name 0 := ⟨mcX14_name, Or.inl (tbc7 18 rfl rfl)⟩
theorem mlX14_145 : ML 0 RX14 145 mX14_find 3 := ⟨mcX14_find, Or.inl (tbc7 26 rfl rfl)⟩
theorem mlX14_149 : ML 0 RX14 149 mX14_tell 2 := ⟨mcX14_tell, Or.inl (tbc7 34 rfl rfl)⟩
theorem mlX14_152 : ML 0 RX14 152 mX14_take 2 := ⟨mcX14_take, Or.inl (tbc7 42 rfl rfl)⟩
theorem mlX14_155 : ML 0 RX14 155 mX14_number 2 := ⟨mcX14_number, Or.inl (tbc7 46 rfl rfl)⟩
theorem mlX14_159 : ML 0 RX14 159 mX14_product 0 := ⟨mcX14_product, Or.inl (tbc7 73 rfl rfl)⟩
theorem mlX14_162 : ML 0 RX14 162 mX12_node 3 := ⟨mcX12_node, Or.inl (tbc7 82 rfl rfl)⟩
theorem mlX14_166 : ML 0 RX14 166 mX14_one 0 := ⟨mcX14_one, Or.inl (tbc7 77 rfl rfl)⟩
theorem mlX14_173 : ML 0 RX14 173 mX14_named 2 := ⟨mcX14_named, Or.inl (tbc7 86 rfl rfl)⟩
theorem mlX14_183 : ML 0 RX14 183 mX14_deeper 0 := ⟨mcX14_deeper, Or.inl (tbc7 90 rfl rfl)⟩
theorem mlX14_186 : ML 0 RX14 186 mX14_inner 0 := ⟨mcX14_inner, Or.inl (tbc7 94 rfl rfl)⟩
theorem mlX14_189 : ML 0 RX14 189 mX14_both 1 := ⟨mcX14_both, Or.inl (tbc7 98 rfl rfl)⟩
theorem mlX14_192 : ML 0 RX14 192 mX14_known 2 := ⟨mcX14_known, Or.inl (tbc7 57 rfl rfl)⟩
theorem mlX14_195 : ML 0 RX14 195 mX14_sum 0 := ⟨mcX14_sum, Or.inl (tbc7 69 rfl rfl)⟩
theorem mlX14_198 : ML 0 RX14 198 mX14_pair 0 := ⟨mcX14_pair, Or.inl (tbc7 106 rfl rfl)⟩
theorem mlX14_201 : ML 0 RX14 201 mX14_single 0 := ⟨mcX14_single, Or.inl (tbc7 110 rfl rfl)⟩
theorem mlX14_204 : ML 0 RX14 204 mX14_test 0 := ⟨mcX14_test, Or.inl (tbc7 102 rfl rfl)⟩
theorem mlX14_207 : ML 0 RX14 207 mX14_readRail 0 := ⟨mcX14_readRail, Or.inl (tbc7 10 rfl rfl)⟩
theorem mlX14_210 : ML 0 RX14 210 mX14_readRust 0 := ⟨mcX14_readRust, Or.inl (tbc7 53 rfl rfl)⟩
theorem mlX14_213 : ML 0 RX14 213 mX14_readFist 0 := ⟨mcX14_readFist, Or.inl (tbc7 61 rfl rfl)⟩
theorem mlX14_216 : ML 0 RX14 216 mX14_readPrize 0 := ⟨mcX14_readPrize, Or.inl (tbc7 65 rfl rfl)⟩
theorem mlX14_219 : ML 0 RX14 219 mX14_readTurn 0 := ⟨mcX14_readTurn, Or.inl (tbc7 114 rfl rfl)⟩
theorem mlX14_222 : ML 0 RX14 222 mX14_fresh 3 := ⟨mcX14_fresh, Or.inl (tbc7 14 rfl rfl)⟩
theorem mlX14_225 : ML 0 RX14 225 mX14_number_ 3 := ⟨mcX14_number_, Or.inl (tbc7 38 rfl rfl)⟩
theorem mlX14_230 : ML 1 RX14 230 mX14_put 5 := ⟨mcX14_put, Or.inl (tbc7 50 rfl rfl)⟩
theorem mlX14_252 : ML 0 RX14 252 mX14_split 0 := ⟨mcX14_split, Or.inl (tbc6 200 rfl rfl)⟩
theorem mlX14_255 : ML 0 RX14 255 mX12_empty 0 := ⟨mcX12_empty, Or.inl (tbc6 234 rfl rfl)⟩
theorem mlX14_258 : ML 0 RX14 258 mX14_line 0 := ⟨mcX14_line, Or.inl (tbc7 2 rfl rfl)⟩
theorem mlX14_261 : ML 0 RX14 261 mX14_begin 0 := ⟨mcX14_begin, Or.inl (tbc7 118 rfl rfl)⟩
theorem mlX14_263 : ML 0 RX14 263 mX13_begin 1 := ⟨mcX13_begin, Or.inl (tbc7 122 rfl rfl)⟩
theorem mlX14_286 : ML 0 RX14 286 mX14_reckon 2 := ⟨mcX14_reckon, Or.inl (tbc7 178 rfl rfl)⟩
theorem mlX14_298 : ML 1 RX14 298 mX14_parts 2 := ⟨mcX14_parts, Or.inl (tbc7 188 rfl rfl)⟩
theorem mlX14_301 : ML 0 RX14 301 mX14_holds 2 := ⟨mcX14_holds, Or.inl (tbc7 191 rfl rfl)⟩
theorem mlX14_317 : ML 0 RX14 317 mX14_rustAt 2 := ⟨mcX14_rustAt, Or.inl (tbc7 223 rfl rfl)⟩
theorem mlX14_323 : ML 0 RX14 323 mX14_fly 4 := ⟨mcX14_fly, Or.inl (tbc7 219 rfl rfl)⟩
theorem mlX14_339 : ML 0 RX14 339 mX14_reward 2 := ⟨mcX14_reward, Or.inl (tbc7 227 rfl rfl)⟩
theorem mlX14_346 : ML 0 RX14 346 mX14_elbowsAt 2 := ⟨mcX14_elbowsAt, Or.inl (tbc8 15 rfl rfl)⟩
theorem mlX14_349 : ML 0 RX14 349 mX14_push 1 := ⟨mcX14_push, Or.inl (tbc8 11 rfl rfl)⟩
theorem mlX14_353 : ML 0 RX14 353 mX14_isOn 2 := ⟨mcX14_isOn, Or.inl (tbc7 203 rfl rfl)⟩
theorem mlX14_356 : ML 0 RX14 356 mX14_strike 3 := ⟨mcX14_strike, Or.inl (tbc7 215 rfl rfl)⟩
theorem mlX14_360 : ML 0 RX14 360 mX14_round 1 := ⟨mcX14_round, Or.inl (tbc8 7 rfl rfl)⟩
theorem mlX14_362 : ML 0 RX14 362 mX14_purses 1 := ⟨mcX14_purses, Or.inl (tbc7 138 rfl rfl)⟩
theorem mlX14_366 : ML 0 RX14 366 mX14_counted 1 := ⟨mcX14_counted, Or.inl (tbc7 134 rfl rfl)⟩
theorem mlX14_369 : ML 0 RX14 369 mX14_isRail 1 := ⟨mcX14_isRail, Or.inl (tbc7 146 rfl rfl)⟩
theorem mlX14_372 : ML 0 RX14 372 mX14_railTold 2 := ⟨mcX14_railTold, Or.inl (tbc7 150 rfl rfl)⟩
theorem mlX14_375 : ML 0 RX14 375 mX14_placeOf 1 := ⟨mcX14_placeOf, Or.inl (tbc7 166 rfl rfl)⟩
theorem mlX14_378 : ML 0 RX14 378 mX14_isFist 1 := ⟨mcX14_isFist, Or.inl (tbc7 158 rfl rfl)⟩
theorem mlX14_381 : ML 0 RX14 381 mX14_fistTold 2 := ⟨mcX14_fistTold, Or.inl (tbc7 162 rfl rfl)⟩
theorem mlX14_384 : ML 0 RX14 384 mX14_prizeTold 2 := ⟨mcX14_prizeTold, Or.inl (tbc7 174 rfl rfl)⟩
theorem mlX14_387 : ML 0 RX14 387 mX14_turnTold 2 := ⟨mcX14_turnTold, Or.inl (tbc7 199 rfl rfl)⟩
theorem mlX14_390 : ML 0 RX14 390 mX14_given 1 := ⟨mcX14_given, Or.inl (tbc7 239 rfl rfl)⟩
theorem mlX14_393 : ML 0 RX14 393 mX14_rounds 2 := ⟨mcX14_rounds, Or.inl (tbc8 3 rfl rfl)⟩
theorem mlX14_396 : ML 0 RX14 396 mX13_become 1 := ⟨mcX13_become, Or.inl (tbc8 35 rfl rfl)⟩
theorem mlX14_399 : ML 0 RX14 399 mX14_pursesWith 3 := ⟨mcX14_pursesWith, Or.inl (tbc8 49 rfl rfl)⟩
theorem mlX13_50 : ML 1 RX13 50 mX13_copy 2 := ⟨mcX13_copy, Or.inl (tbc8 39 rfl rfl)⟩
theorem cnX11_7 : CN RX11 7 8 := ⟨RX8, TX8, 2, tyX8, clX8, tbc1 36 rfl rfl, tbc1 37 rfl rfl, tbc1 2 rfl rfl⟩
theorem cnX11_16 : CN RX11 16 9 := ⟨RX9, TX9, 5, tyX9, clX9, tbc1 52 rfl rfl, tbc1 53 rfl rfl, tbc1 3 rfl rfl⟩
theorem cnX11_23 : CN RX11 23 2 := ⟨RX2, TX2, 19, tyX2, clX2, tbc1 135 rfl rfl, tbc1 136 rfl rfl, tbc1 8 rfl rfl⟩
theorem cnX11_33 : CN RX11 33 7 := ⟨RX7, TX7, 5, tyX7, clX7, tbc2 184 rfl rfl, tbc2 185 rfl rfl, tbc1 16 rfl rfl⟩
theorem cnX2_9 : CN RX2 9 1 := ⟨RX1, TX1, 5, tyX1, clX1, tbc1 141 rfl rfl, tbc1 142 rfl rfl, tbc1 9 rfl rfl⟩
theorem cnX2_18 : CN RX2 18 0 := ⟨RX0, TX0, 2, tyX0, clX0, tbc1 165 rfl rfl, tbc1 166 rfl rfl, tbc1 10 rfl rfl⟩
theorem cnX2_25 : CN RX2 25 4 := ⟨RX4, TX4, 7, tyX4, clX4, tbc1 179 rfl rfl, tbc1 180 rfl rfl, tbc1 11 rfl rfl⟩
theorem cnX2_32 : CN RX2 32 6 := ⟨RX6, TX6, 7, tyX6, clX6, tbc1 212 rfl rfl, tbc1 220 rfl rfl, tbc1 12 rfl rfl⟩
theorem cnX2_38 : CN RX2 38 3 := ⟨RX3, TX3, 10, tyX3, clX3, tbc1 214 rfl rfl, tbc2 16 rfl rfl, tbc1 13 rfl rfl⟩
theorem cnX2_44 : CN RX2 44 5 := ⟨RX5, TX5, 6, tyX5, clX5, tbc1 216 rfl rfl, tbc2 62 rfl rfl, tbc1 14 rfl rfl⟩
theorem cnX2_50 : CN RX2 50 10 := ⟨RX10, TX10, 4, tyX10, clX10, tbc1 218 rfl rfl, tbc2 92 rfl rfl, tbc1 15 rfl rfl⟩
theorem cnL_8 : CN RL 8 11 := ⟨RX11, TX11, 6, tyX11, clX11, tbc1 28 rfl rfl, tbc1 29 rfl rfl, tbc1 1 rfl rfl⟩
theorem cnL_68 : CN RL 68 14 := ⟨RX14, TX14, 25, tyX14, clX14, tbc5 215 rfl rfl, tbc5 216 rfl rfl, tbc1 17 rfl rfl⟩
theorem cnX14_29 : CN RX14 29 12 := ⟨RX12, TX12, 14, tyX12, clX12, tbc5 221 rfl rfl, tbc5 222 rfl rfl, tbc1 18 rfl rfl⟩
theorem cnX14_48 : CN RX14 48 13 := ⟨RX13, TX13, 11, tyX13, clX13, tbc6 46 rfl rfl, tbc6 47 rfl rfl, tbc1 19 rfl rfl⟩
end
section
/-! rules and facts that the walks use beside the machine's own -/
theorem am_ci1 : Int32.ofInt 1 = 1 := by decide +kernel
section AMkit
variable {G : Gp} {Y : MD} {d pc : Nat} {ls ls1 : List (Option AV)} {st : List AV} {M : AMem} {Q : (Option AV ⊕ Nat) → AMem → Prop}
theorem am_iincW {i : Nat} {n : Int} {x w : Int32} (hd : decode Y.cc pc = .ok (.iinc i n, 3)) (hl : ls[i]? = some (some (vI x))) (hn : i < Y.nL) (hw : Int32.ofInt n = w) (hls : lsA ls i (vI (x + w)) = ls1) {q : Nat} (hq : pc + 3 = q) (k : MW G Y d q ls1 st M Q) : MW G Y d pc ls st M Q := by
  subst hq
  exact am_iinc hd hl hn (by rw [hw]) hls k
theorem am_alenI {a : Nat} {v : Int32} (hd : decode Y.cc pc = .ok (.arraylength, 1)) (hK : M.K a = 20) (hv : nI (M.ln a) = v) {q : Nat} (hq : pc + 1 = q) (k : MW G Y d q ls (vI v :: st) M Q) : MW G Y d pc ls (vR a :: st) M Q := am_alen hd (by omega) hv hq k
theorem am_alenJ {a : Nat} {v : Int32} (hd : decode Y.cc pc = .ok (.arraylength, 1)) (hK : M.K a = 21) (hv : nI (M.ln a) = v) {q : Nat} (hq : pc + 1 = q) (k : MW G Y d q ls (vI v :: st) M Q) : MW G Y d pc ls (vR a :: st) M Q := am_alen hd (by omega) hv hq k
theorem am_alenR {a t : Nat} {v : Int32} (hd : decode Y.cc pc = .ok (.arraylength, 1)) (hK : M.K a = 22 + t) (ht : t < 4) (hv : nI (M.ln a) = v) {q : Nat} (hq : pc + 1 = q) (k : MW G Y d q ls (vI v :: st) M Q) : MW G Y d pc ls (vR a :: st) M Q := am_alen hd (by omega) hv hq k
end AMkit
/-- the memory in its parts: what never changes behind the making of the cells, and what does -/
def mw (S : AMem) (I : Nat → Nat → Int32) (J : Nat → Nat → Int64) (R : Nat → Nat → Option Nat) : AMem := mkM S.ad S.hs S.sl S.K S.ln I J R
theorem mw_self (M : AMem) : mw M M.I M.J M.R = M := rfl
section CM
variable {G : Gp} {Y Yc : MD} {d d' pc : Nat} {ls ls1 : List (Option AV)} {st : List AV} {S : AMem} {I : Nat → Nat → Int32} {J : Nat → Nat → Int64} {R : Nat → Nat → Option Nat} {Q : (Option AV ⊕ Nat) → AMem → Prop}
theorem cm_getI {index ci j a : Nat} (hd : decode Y.cc pc = .ok (.getfield index, 3)) (hf : FL Y.y.cls index ci j) (hk : kF ci j = 0) (hK : S.K a = ci + 1) {q : Nat} (hq : pc + 3 = q) (k : MW G Y d q ls (vI (I a j) :: st) (mw S I J R) Q) : MW G Y d pc ls (vR a :: st) (mw S I J R) Q := am_getI (M := mw S I J R) hd hf hk hK hq k
theorem cm_getJ {index ci j a : Nat} (hd : decode Y.cc pc = .ok (.getfield index, 3)) (hf : FL Y.y.cls index ci j) (hk : kF ci j = 1) (hK : S.K a = ci + 1) {q : Nat} (hq : pc + 3 = q) (k : MW G Y d q ls (vJ (J a j) :: st) (mw S I J R) Q) : MW G Y d pc ls (vR a :: st) (mw S I J R) Q := am_getJ (M := mw S I J R) hd hf hk hK hq k
theorem cm_getR {index ci j a b : Nat} (hd : decode Y.cc pc = .ok (.getfield index, 3)) (hf : FL Y.y.cls index ci j) (hk : kF ci j = 2) (hK : S.K a = ci + 1) (hR : R a j = some b) {q : Nat} (hq : pc + 3 = q) (k : MW G Y d q ls (vR b :: st) (mw S I J R) Q) : MW G Y d pc ls (vR a :: st) (mw S I J R) Q := am_getR (M := mw S I J R) hd hf hk hK hR hq k
theorem cm_putI {index ci j a : Nat} {x : Int32} (hd : decode Y.cc pc = .ok (.putfield index, 3)) (hf : FL Y.y.cls index ci j) (hk : kF ci j = 0) (hz : zF ci j = false ∨ x = 0 ∨ x = 1) (hfin : FP Y index ci j) (hK : S.K a = ci + 1) {q : Nat} (hq : pc + 3 = q) (k : MW G Y d q ls st (mw S (up2 I a j x) J R) Q) : MW G Y d pc ls (vI x :: vR a :: st) (mw S I J R) Q := am_putI (M := mw S I J R) hd hf hk hz hfin hK hq k
theorem cm_putJ {index ci j a : Nat} {x : Int64} (hd : decode Y.cc pc = .ok (.putfield index, 3)) (hf : FL Y.y.cls index ci j) (hk : kF ci j = 1) (hfin : FP Y index ci j) (hK : S.K a = ci + 1) {q : Nat} (hq : pc + 3 = q) (k : MW G Y d q ls st (mw S I (up2 J a j x) R) Q) : MW G Y d pc ls (vJ x :: vR a :: st) (mw S I J R) Q := am_putJ (M := mw S I J R) hd hf hk hfin hK hq k
theorem cm_putR {index ci j a b : Nat} (hd : decode Y.cc pc = .ok (.putfield index, 3)) (hf : FL Y.y.cls index ci j) (hk : kF ci j = 2) (hfin : FP Y index ci j) (hK : S.K a = ci + 1) {q : Nat} (hq : pc + 3 = q) (k : MW G Y d q ls st (mw S I J (up2 R a j (some b))) Q) : MW G Y d pc ls (vR b :: vR a :: st) (mw S I J R) Q := am_putR (M := mw S I J R) hd hf hk hfin hK hq k
theorem cm_iaload {a : Nat} {i : Int32} (hd : decode Y.cc pc = .ok (.iaload, 1)) (hK : S.K a = 20) (hin : vp_in i (S.ln a)) {q : Nat} (hq : pc + 1 = q) (k : MW G Y d q ls (vI (I a i.toNatClampNeg) :: st) (mw S I J R) Q) : MW G Y d pc ls (vI i :: vR a :: st) (mw S I J R) Q := am_iaload (M := mw S I J R) hd hK hin hq k
theorem cm_laload {a : Nat} {i : Int32} (hd : decode Y.cc pc = .ok (.laload, 1)) (hK : S.K a = 21) (hin : vp_in i (S.ln a)) {q : Nat} (hq : pc + 1 = q) (k : MW G Y d q ls (vJ (J a i.toNatClampNeg) :: st) (mw S I J R) Q) : MW G Y d pc ls (vI i :: vR a :: st) (mw S I J R) Q := am_laload (M := mw S I J R) hd hK hin hq k
theorem cm_aaload {a t b : Nat} {i : Int32} (hd : decode Y.cc pc = .ok (.aaload, 1)) (hK : S.K a = 22 + t) (ht : t < 4) (hin : vp_in i (S.ln a)) (hR : R a i.toNatClampNeg = some b) {q : Nat} (hq : pc + 1 = q) (k : MW G Y d q ls (vR b :: st) (mw S I J R) Q) : MW G Y d pc ls (vI i :: vR a :: st) (mw S I J R) Q := am_aaload (M := mw S I J R) hd hK ht hin hR hq k
theorem cm_iastore {a : Nat} {i x : Int32} (hd : decode Y.cc pc = .ok (.iastore, 1)) (hK : S.K a = 20) (hin : vp_in i (S.ln a)) {q : Nat} (hq : pc + 1 = q) (k : MW G Y d q ls st (mw S (up2 I a i.toNatClampNeg x) J R) Q) : MW G Y d pc ls (vI x :: vI i :: vR a :: st) (mw S I J R) Q := am_iastore (M := mw S I J R) hd hK hin hq k
theorem cm_lastore {a : Nat} {i : Int32} {x : Int64} (hd : decode Y.cc pc = .ok (.lastore, 1)) (hK : S.K a = 21) (hin : vp_in i (S.ln a)) {q : Nat} (hq : pc + 1 = q) (k : MW G Y d q ls st (mw S I (up2 J a i.toNatClampNeg x) R) Q) : MW G Y d pc ls (vJ x :: vI i :: vR a :: st) (mw S I J R) Q := am_lastore (M := mw S I J R) hd hK hin hq k
theorem cm_alenI {a : Nat} {v : Int32} (hd : decode Y.cc pc = .ok (.arraylength, 1)) (hK : S.K a = 20) (hv : nI (S.ln a) = v) {q : Nat} (hq : pc + 1 = q) (k : MW G Y d q ls (vI v :: st) (mw S I J R) Q) : MW G Y d pc ls (vR a :: st) (mw S I J R) Q := am_alenI (M := mw S I J R) hd hK hv hq k
theorem cm_alenJ {a : Nat} {v : Int32} (hd : decode Y.cc pc = .ok (.arraylength, 1)) (hK : S.K a = 21) (hv : nI (S.ln a) = v) {q : Nat} (hq : pc + 1 = q) (k : MW G Y d q ls (vI v :: st) (mw S I J R) Q) : MW G Y d pc ls (vR a :: st) (mw S I J R) Q := am_alenJ (M := mw S I J R) hd hK hv hq k
theorem cm_alenR {a t : Nat} {v : Int32} (hd : decode Y.cc pc = .ok (.arraylength, 1)) (hK : S.K a = 22 + t) (ht : t < 4) (hv : nI (S.ln a) = v) {q : Nat} (hq : pc + 1 = q) (k : MW G Y d q ls (vI v :: st) (mw S I J R) Q) : MW G Y d pc ls (vR a :: st) (mw S I J R) Q := am_alenR (M := mw S I J R) hd hK ht hv hq k
theorem cm_call0 {index n ci : Nat} {As : List AV} {b : Nat} {Q' : Option AV → AMem → Prop} (hG : okG G) (hd : decode Y.cc pc = .ok (.invokevirtual index, 3)) (hl : ML 0 Y.y.cls index Yc n) (hn : As.length = n) (hK : S.K b = ci + 1) (hcl : ∃ T N, vwCl[ci]? = some (Yc.y.cls, T, N)) (hc20 : ci + 1 < 20) (hlen : (entA (vR b :: As)).length ≤ Yc.nL) (hdd : d' + 1 ≤ d) (hst : (st.map vC).sum ≤ 8) (hf : Fn G Yc d' (vR b :: As) (mw S I J R) Q') {q : Nat} (hq : pc + 3 = q) (k : ∀ (r : Option AV) (M1 : AMem), Q' r M1 → MW G Y d q ls (r.toList ++ st) M1 Q) : MW G Y d pc ls (As.reverse ++ vR b :: st) (mw S I J R) Q := am_call0 (M := mw S I J R) hG hd hl hn hK hcl hc20 hlen hdd hst hf hq k
end CM
theorem up2_at {α : Type} {f : Nat → Nat → α} {a j : Nat} {v : α} (b i : Nat) : up2 f a j v b i = if b = a ∧ i = j then v else f b i := rfl
theorem up2_s {α : Type} {f : Nat → Nat → α} {a j : Nat} {v : α} : up2 f a j v a j = v := if_pos ⟨rfl, rfl⟩
theorem up2_j {α : Type} {f : Nat → Nat → α} {a j : Nat} {v : α} {b i : Nat} (h : i ≠ j) : up2 f a j v b i = f b i := if_neg (fun q => h q.2)
theorem up2_a {α : Type} {f : Nat → Nat → α} {a j : Nat} {v : α} {b i : Nat} (h : b ≠ a) : up2 f a j v b i = f b i := if_neg (fun q => h q.1)
end
section
theorem kc_b10 : (Int8.ofInt 10).toInt32 = 10 := by decide +kernel
theorem kc_im1 : Int32.ofInt (-1) = (-1) := by decide +kernel
theorem kc_i0 : Int32.ofInt 0 = 0 := by decide +kernel
theorem kc_i1 : Int32.ofInt 1 = 1 := by decide +kernel
theorem dX0_add_0 : decode cX0_add 0 = .ok (.aload_n 0, 1) := by decide +kernel
theorem dX0_add_1 : decode cX0_add 1 = .ok (.getfield 9, 3) := by decide +kernel
theorem dX0_add_4 : decode cX0_add 4 = .ok (.arraylength, 1) := by decide +kernel
theorem dX0_add_5 : decode cX0_add 5 = .ok (.iconst 1, 1) := by decide +kernel
theorem dX0_add_6 : decode cX0_add 6 = .ok (.isub, 1) := by decide +kernel
theorem dX0_add_7 : decode cX0_add 7 = .ok (.istore_n 2, 1) := by decide +kernel
theorem dX0_add_8 : decode cX0_add 8 = .ok (.iload_n 2, 1) := by decide +kernel
theorem dX0_add_9 : decode cX0_add 9 = .ok (.ifCond .le 23, 3) := by decide +kernel
theorem dX0_add_12 : decode cX0_add 12 = .ok (.aload_n 0, 1) := by decide +kernel
theorem dX0_add_13 : decode cX0_add 13 = .ok (.getfield 9, 3) := by decide +kernel
theorem dX0_add_16 : decode cX0_add 16 = .ok (.iload_n 2, 1) := by decide +kernel
theorem dX0_add_17 : decode cX0_add 17 = .ok (.aload_n 0, 1) := by decide +kernel
theorem dX0_add_18 : decode cX0_add 18 = .ok (.getfield 9, 3) := by decide +kernel
theorem dX0_add_21 : decode cX0_add 21 = .ok (.iload_n 2, 1) := by decide +kernel
theorem dX0_add_22 : decode cX0_add 22 = .ok (.iconst 1, 1) := by decide +kernel
theorem dX0_add_23 : decode cX0_add 23 = .ok (.isub, 1) := by decide +kernel
theorem dX0_add_24 : decode cX0_add 24 = .ok (.iaload, 1) := by decide +kernel
theorem dX0_add_25 : decode cX0_add 25 = .ok (.iastore, 1) := by decide +kernel
theorem dX0_add_26 : decode cX0_add 26 = .ok (.iinc 2 (-1), 3) := by decide +kernel
theorem dX0_add_29 : decode cX0_add 29 = .ok (.goto (-21), 3) := by decide +kernel
theorem dX0_add_32 : decode cX0_add 32 = .ok (.aload_n 0, 1) := by decide +kernel
theorem dX0_add_33 : decode cX0_add 33 = .ok (.getfield 9, 3) := by decide +kernel
theorem dX0_add_36 : decode cX0_add 36 = .ok (.iconst 0, 1) := by decide +kernel
theorem dX0_add_37 : decode cX0_add 37 = .ok (.iload_n 1, 1) := by decide +kernel
theorem dX0_add_38 : decode cX0_add 38 = .ok (.iastore, 1) := by decide +kernel
theorem dX0_add_39 : decode cX0_add 39 = .ok (.aload_n 0, 1) := by decide +kernel
theorem dX0_add_40 : decode cX0_add 40 = .ok (.getfield 13, 3) := by decide +kernel
theorem dX0_add_43 : decode cX0_add 43 = .ok (.bipush 10, 2) := by decide +kernel
theorem dX0_add_45 : decode cX0_add 45 = .ok (.if_icmp .ge 13, 3) := by decide +kernel
theorem dX0_add_48 : decode cX0_add 48 = .ok (.aload_n 0, 1) := by decide +kernel
theorem dX0_add_49 : decode cX0_add 49 = .ok (.dup, 1) := by decide +kernel
theorem dX0_add_50 : decode cX0_add 50 = .ok (.getfield 13, 3) := by decide +kernel
theorem dX0_add_53 : decode cX0_add 53 = .ok (.iconst 1, 1) := by decide +kernel
theorem dX0_add_54 : decode cX0_add 54 = .ok (.iadd, 1) := by decide +kernel
theorem dX0_add_55 : decode cX0_add 55 = .ok (.putfield 13, 3) := by decide +kernel
theorem dX0_add_58 : decode cX0_add 58 = .ok (.return_, 1) := by decide +kernel
theorem dX0_copyFrom_0 : decode cX0_copyFrom 0 = .ok (.aload_n 0, 1) := by decide +kernel
theorem dX0_copyFrom_1 : decode cX0_copyFrom 1 = .ok (.aload_n 1, 1) := by decide +kernel
theorem dX0_copyFrom_2 : decode cX0_copyFrom 2 = .ok (.getfield 13, 3) := by decide +kernel
theorem dX0_copyFrom_5 : decode cX0_copyFrom 5 = .ok (.putfield 13, 3) := by decide +kernel
theorem dX0_copyFrom_8 : decode cX0_copyFrom 8 = .ok (.iconst 0, 1) := by decide +kernel
theorem dX0_copyFrom_9 : decode cX0_copyFrom 9 = .ok (.istore_n 2, 1) := by decide +kernel
theorem dX0_copyFrom_10 : decode cX0_copyFrom 10 = .ok (.iload_n 2, 1) := by decide +kernel
theorem dX0_copyFrom_11 : decode cX0_copyFrom 11 = .ok (.aload_n 0, 1) := by decide +kernel
theorem dX0_copyFrom_12 : decode cX0_copyFrom 12 = .ok (.getfield 9, 3) := by decide +kernel
theorem dX0_copyFrom_15 : decode cX0_copyFrom 15 = .ok (.arraylength, 1) := by decide +kernel
theorem dX0_copyFrom_16 : decode cX0_copyFrom 16 = .ok (.if_icmp .ge 20, 3) := by decide +kernel
theorem dX0_copyFrom_19 : decode cX0_copyFrom 19 = .ok (.aload_n 0, 1) := by decide +kernel
theorem dX0_copyFrom_20 : decode cX0_copyFrom 20 = .ok (.getfield 9, 3) := by decide +kernel
theorem dX0_copyFrom_23 : decode cX0_copyFrom 23 = .ok (.iload_n 2, 1) := by decide +kernel
theorem dX0_copyFrom_24 : decode cX0_copyFrom 24 = .ok (.aload_n 1, 1) := by decide +kernel
theorem dX0_copyFrom_25 : decode cX0_copyFrom 25 = .ok (.iload_n 2, 1) := by decide +kernel
theorem dX0_copyFrom_26 : decode cX0_copyFrom 26 = .ok (.invokevirtual 21, 3) := by decide +kernel
theorem dX0_copyFrom_29 : decode cX0_copyFrom 29 = .ok (.iastore, 1) := by decide +kernel
theorem dX0_copyFrom_30 : decode cX0_copyFrom 30 = .ok (.iinc 2 1, 3) := by decide +kernel
theorem dX0_copyFrom_33 : decode cX0_copyFrom 33 = .ok (.goto (-23), 3) := by decide +kernel
theorem dX0_copyFrom_36 : decode cX0_copyFrom 36 = .ok (.return_, 1) := by decide +kernel
theorem dX0_has_0 : decode cX0_has 0 = .ok (.iload_n 1, 1) := by decide +kernel
theorem dX0_has_1 : decode cX0_has 1 = .ok (.ifCond .lt 24, 3) := by decide +kernel
theorem dX0_has_4 : decode cX0_has 4 = .ok (.iload_n 1, 1) := by decide +kernel
theorem dX0_has_5 : decode cX0_has 5 = .ok (.aload_n 0, 1) := by decide +kernel
theorem dX0_has_6 : decode cX0_has 6 = .ok (.getfield 13, 3) := by decide +kernel
theorem dX0_has_9 : decode cX0_has 9 = .ok (.if_icmp .ge 16, 3) := by decide +kernel
theorem dX0_has_12 : decode cX0_has 12 = .ok (.iload_n 1, 1) := by decide +kernel
theorem dX0_has_13 : decode cX0_has 13 = .ok (.aload_n 0, 1) := by decide +kernel
theorem dX0_has_14 : decode cX0_has 14 = .ok (.getfield 9, 3) := by decide +kernel
theorem dX0_has_17 : decode cX0_has 17 = .ok (.arraylength, 1) := by decide +kernel
theorem dX0_has_18 : decode cX0_has 18 = .ok (.if_icmp .ge 7, 3) := by decide +kernel
theorem dX0_has_21 : decode cX0_has 21 = .ok (.iconst 1, 1) := by decide +kernel
theorem dX0_has_22 : decode cX0_has 22 = .ok (.goto 4, 3) := by decide +kernel
theorem dX0_has_25 : decode cX0_has 25 = .ok (.iconst 0, 1) := by decide +kernel
theorem dX0_has_26 : decode cX0_has 26 = .ok (.ireturn, 1) := by decide +kernel
theorem dX0_heightAt_0 : decode cX0_heightAt 0 = .ok (.aload_n 0, 1) := by decide +kernel
theorem dX0_heightAt_1 : decode cX0_heightAt 1 = .ok (.iload_n 1, 1) := by decide +kernel
theorem dX0_heightAt_2 : decode cX0_heightAt 2 = .ok (.invokevirtual 17, 3) := by decide +kernel
theorem dX0_heightAt_5 : decode cX0_heightAt 5 = .ok (.ifCond .eq 12, 3) := by decide +kernel
theorem dX0_heightAt_8 : decode cX0_heightAt 8 = .ok (.aload_n 0, 1) := by decide +kernel
theorem dX0_heightAt_9 : decode cX0_heightAt 9 = .ok (.getfield 9, 3) := by decide +kernel
theorem dX0_heightAt_12 : decode cX0_heightAt 12 = .ok (.iload_n 1, 1) := by decide +kernel
theorem dX0_heightAt_13 : decode cX0_heightAt 13 = .ok (.iaload, 1) := by decide +kernel
theorem dX0_heightAt_14 : decode cX0_heightAt 14 = .ok (.goto 4, 3) := by decide +kernel
theorem dX0_heightAt_17 : decode cX0_heightAt 17 = .ok (.iconst 0, 1) := by decide +kernel
theorem dX0_heightAt_18 : decode cX0_heightAt 18 = .ok (.ireturn, 1) := by decide +kernel
/-! the class's leaves: Board, Fist, Prize, Rail, Tape, Turn -/
def bI (c : Prop) [Decidable c] : Int32 := if c then 1 else 0
theorem bI_t {c : Prop} [Decidable c] (h : c) : bI c = 1 := if_pos h
theorem bI_f {c : Prop} [Decidable c] (h : ¬ c) : bI c = 0 := if_neg h
theorem bI_e0 {c : Prop} [Decidable c] : bI c = 0 ↔ ¬ c := by
  by_cases h : c
  · rw [bI_t h]
    exact ⟨fun q => absurd q (by decide), fun q => absurd h q⟩
  · rw [bI_f h]
    exact ⟨fun _ => h, fun _ => rfl⟩
theorem bI_n0 {c : Prop} [Decidable c] : ¬ bI c = 0 ↔ c := by
  rw [bI_e0]
  exact Classical.not_not
theorem bI_c {c e : Prop} [Decidable c] [Decidable e] (h : c ↔ e) : bI c = bI e := by
  by_cases q : c
  · rw [bI_t q, bI_t (h.mp q)]
  · rw [bI_f q, bI_f (fun z => q (h.mpr z))]
/-- a loop that counts up -/
theorem k_loop {σ : Type} {n : Nat} {Inv W : Nat → σ → Prop} (hs : ∀ i s, i < n → Inv i s → (∀ s', Inv (i + 1) s' → W (i + 1) s') → W i s) (he : ∀ s, Inv n s → W n s) : ∀ i s, i ≤ n → Inv i s → W i s := by
  have key : ∀ (m i : Nat) (s : σ), i + m = n → Inv i s → W i s := by
    intro m
    induction m with
    | zero =>
      intro i s hi h
      have e : i = n := by omega
      subst e
      exact he s h
    | succ m ih =>
      intro i s hi h
      exact hs i s (by omega) h (fun s' h' => ih (i + 1) s' (by omega) h')
  intro i s hi h
  exact key (n - i) i s (by omega) h
theorem k_inI {i : Int32} {n : Nat} {v : Int32} (hv : v = nI n) (hn : n < 2 ^ 31) (h0 : ¬ i < 0) (h1 : i < v) : vp_in i n := by
  intro q
  rcases q with q | q
  · exact h0 q
  · obtain ⟨k, hk, rfl⟩ := nI_of h0
    rw [nI_clamp hk] at q
    rw [hv, nI_ltI hk hn] at h1
    omega
section LeafB
variable {G : Gp} {S : AMem} {I : Nat → Nat → Int32} {J : Nat → Nat → Int64} {R : Nat → Nat → Option Nat} {a b a2 b2 : Nat}
theorem k_X0_has {i : Int32} (h1 : S.K a = 1) (h2 : R a 0 = some b) (h3 : S.K b = 20) (h4 : S.ln b = 10) : Fn G mX0_has 0 [vR a, vI i] (mw S I J R) (fun rr M1 => rr = some (vI (bI (0 ≤ i ∧ i < I a 1 ∧ i < 10))) ∧ M1 = mw S I J R) := by
  refine am_iload_n (q := 1) dX0_has_0 rfl rfl ?_
  refine am_if_lt (tgt := 25) (q := 4) dX0_has_1 rfl rfl (fun hc => ?_) (fun hc => ?_)
  · refine am_iconst (q := 26) (v := 0) dX0_has_25 kc_i0 rfl ?_
    exact am_iret dX0_has_26 rfl rfl ⟨_, rfl, by rw [bI_f (fun z => Int32.not_le.mpr hc z.1)], rfl⟩
  · refine am_iload_n (q := 5) dX0_has_4 rfl rfl ?_
    refine am_aload_n (q := 6) dX0_has_5 rfl rfl ?_
    refine cm_getI (q := 9) dX0_has_6 flX0_13 rfl (by assumption) rfl ?_
    refine am_icmp_ge (tgt := 25) (q := 12) dX0_has_9 rfl rfl (fun hc2 => ?_) (fun hc2 => ?_)
    · refine am_iconst (q := 26) (v := 0) dX0_has_25 kc_i0 rfl ?_
      exact am_iret dX0_has_26 rfl rfl ⟨_, rfl, by rw [bI_f (fun z => Int32.not_le.mpr z.2.1 hc2)], rfl⟩
    · refine am_iload_n (q := 13) dX0_has_12 rfl rfl ?_
      refine am_aload_n (q := 14) dX0_has_13 rfl rfl ?_
      refine cm_getR (q := 17) dX0_has_14 flX0_9 rfl (by assumption) (by assumption) rfl ?_
      refine cm_alenI (q := 18) dX0_has_17 (by assumption) (by rw [h4] : nI (S.ln b) = nI 10) rfl ?_
      refine am_icmp_ge (tgt := 25) (q := 21) dX0_has_18 rfl rfl (fun hc3 => ?_) (fun hc3 => ?_)
      · refine am_iconst (q := 26) (v := 0) dX0_has_25 kc_i0 rfl ?_
        exact am_iret dX0_has_26 rfl rfl ⟨_, rfl, by rw [bI_f (fun z => Int32.not_le.mpr z.2.2 hc3)], rfl⟩
      · refine am_iconst (q := 22) (v := 1) dX0_has_21 kc_i1 rfl ?_
        refine am_goto (tgt := 26) dX0_has_22 rfl ?_
        exact am_iret dX0_has_26 rfl rfl ⟨_, rfl, by rw [bI_t ⟨Int32.not_lt.mp hc, Int32.not_le.mp hc2, Int32.not_le.mp hc3⟩], rfl⟩
theorem k_X0_heightAt {i : Int32} (hG : okG G) (h1 : S.K a = 1) (h2 : R a 0 = some b) (h3 : S.K b = 20) (h4 : S.ln b = 10) : Fn G mX0_heightAt 1 [vR a, vI i] (mw S I J R) (fun rr M1 => rr = some (vI (if 0 ≤ i ∧ i < I a 1 ∧ i < 10 then I b i.toNatClampNeg else 0)) ∧ M1 = mw S I J R) := by
  refine am_aload_n (q := 1) dX0_heightAt_0 rfl rfl ?_
  refine am_iload_n (q := 2) dX0_heightAt_1 rfl rfl ?_
  refine cm_call0 (q := 5) (As := [_]) hG dX0_heightAt_2 mlX0_17 rfl (by assumption) ⟨_, _, rfl⟩ (Nat.le_of_ble_eq_true rfl) (Nat.le_of_ble_eq_true rfl) (Nat.le_of_ble_eq_true rfl) (Nat.le_of_ble_eq_true rfl) (k_X0_has h1 h2 h3 h4) rfl ?_
  rintro _ _ ⟨rfl, rfl⟩
  refine am_if_eq (tgt := 17) (q := 8) dX0_heightAt_5 rfl rfl (fun hc => ?_) (fun hc => ?_)
  · refine am_iconst (q := 18) (v := 0) dX0_heightAt_17 kc_i0 rfl ?_
    exact am_iret dX0_heightAt_18 rfl rfl ⟨_, rfl, by rw [if_neg (bI_e0.mp hc)], rfl⟩
  · have hz := bI_n0.mp hc
    refine am_aload_n (q := 9) dX0_heightAt_8 rfl rfl ?_
    refine cm_getR (q := 12) dX0_heightAt_9 flX0_9 rfl (by assumption) (by assumption) rfl ?_
    refine am_iload_n (q := 13) dX0_heightAt_12 rfl rfl ?_
    refine cm_iaload (q := 14) dX0_heightAt_13 (by assumption) (by rw [h4]; exact k_inI (v := 10) rfl (by decide) (Int32.not_lt.mpr hz.1) hz.2.2) rfl ?_
    refine am_goto (tgt := 18) dX0_heightAt_14 rfl ?_
    exact am_iret dX0_heightAt_18 rfl rfl ⟨_, rfl, by rw [if_pos hz], rfl⟩
/-- Board.add: the heights move on by one, the new one stands ahead -/
theorem k_X0_add {v : Int32} (h1 : S.K a = 1) (h2 : R a 0 = some b) (h3 : S.K b = 20) (h4 : S.ln b = 10) (hab : a ≠ b) : Fn G mX0_add 0 [vR a, vI v] (mw S I J R) (fun rr M1 => rr = none ∧ M1 = mw S (fun x j => if x = b ∧ j = 0 then v else if x = b ∧ j < 10 then I b (j - 1) else if x = a ∧ j = 1 then (if I a 1 < 10 then I a 1 + 1 else I a 1) else I x j) J R) := by
  refine am_aload_n (q := 1) dX0_add_0 rfl rfl ?_
  refine cm_getR (q := 4) dX0_add_1 flX0_9 rfl (by assumption) (by assumption) rfl ?_
  refine cm_alenI (q := 5) dX0_add_4 (by assumption) (by rw [h4] : nI (S.ln b) = nI 10) rfl ?_
  refine am_iconst (q := 6) (v := 1) dX0_add_5 kc_i1 rfl ?_
  refine am_isub (q := 7) dX0_add_6 rfl ?_
  refine am_istore_n (q := 8) (ls1 := [_, _, _]) dX0_add_7 (Nat.le_of_ble_eq_true rfl) rfl rfl ?_
  have hsub : nI 10 - 1 = nI 9 := by decide +kernel
  rw [hsub]
  refine k_loop (σ := Nat → Nat → Int32) (n := 9) (Inv := fun i I1 => ∀ x j, I1 x j = if x = b ∧ 9 < j + i ∧ j < 10 then I b (j - 1) else I x j) (W := fun i I1 => MW G mX0_add 0 8 [some (vR a), some (vI v), some (vI (nI (9 - i)))] [] (mw S I1 J R) _) ?_ ?_ 0 I (Nat.zero_le _) (fun x j => by rw [if_neg (by omega)])
  · intro i I1 hi hI ih
    have hcl : (nI (9 - i)).toNatClampNeg = 9 - i := nI_clamp (by omega)
    have hp1 : nI (9 - i) - 1 = nI (9 - (i + 1)) := by rw [show 9 - i = 9 - (i + 1) + 1 by omega, nI_pred]
    have hp2 : nI (9 - i) + -1 = nI (9 - (i + 1)) := by rw [show 9 - i = 9 - (i + 1) + 1 by omega, pk_m1]
    have hcl2 : (nI (9 - (i + 1))).toNatClampNeg = 9 - (i + 1) := nI_clamp (by omega)
    have hin : vp_in (nI (9 - i)) (S.ln b) := by rw [h4]; exact vp_in_nI (by omega) (by decide)
    have hin2 : vp_in (nI (9 - i) - 1) (S.ln b) := by rw [h4, hp1]; exact vp_in_nI (by omega) (by decide)
    refine am_iload_n (q := 9) dX0_add_8 rfl rfl ?_
    refine am_if_le (tgt := 32) (q := 12) dX0_add_9 rfl rfl (fun hz => absurd hz (nI_nle (by omega) (by omega))) (fun _ => ?_)
    refine am_aload_n (q := 13) dX0_add_12 rfl rfl ?_
    refine cm_getR (q := 16) dX0_add_13 flX0_9 rfl (by assumption) (by assumption) rfl ?_
    refine am_iload_n (q := 17) dX0_add_16 rfl rfl ?_
    refine am_aload_n (q := 18) dX0_add_17 rfl rfl ?_
    refine cm_getR (q := 21) dX0_add_18 flX0_9 rfl (by assumption) (by assumption) rfl ?_
    refine am_iload_n (q := 22) dX0_add_21 rfl rfl ?_
    refine am_iconst (q := 23) (v := 1) dX0_add_22 kc_i1 rfl ?_
    refine am_isub (q := 24) dX0_add_23 rfl ?_
    refine cm_iaload (q := 25) dX0_add_24 (by assumption) hin2 rfl ?_
    refine cm_iastore (q := 26) dX0_add_25 (by assumption) hin rfl ?_
    refine am_iincW (q := 29) (ls1 := [_, _, _]) (w := (-1)) dX0_add_26 rfl (Nat.le_of_ble_eq_true rfl) kc_im1 rfl rfl ?_
    refine am_goto (tgt := 8) dX0_add_29 rfl ?_
    rw [hp2]
    refine ih _ fun x j => ?_
    rw [up2_at, hcl, hp1, hcl2, hI, hI]
    by_cases e : x = b ∧ j = 9 - i
    · obtain ⟨rfl, rfl⟩ := e
      rw [if_pos ⟨rfl, rfl⟩, if_neg (by omega), if_pos ⟨rfl, by omega, by omega⟩, show 9 - (i + 1) = 9 - i - 1 by omega]
    · rw [if_neg e]
      by_cases e2 : x = b
      · subst e2
        have e3 : ¬ j = 9 - i := fun q => e ⟨rfl, q⟩
        by_cases e4 : 9 < j + i ∧ j < 10
        · rw [if_pos ⟨rfl, e4⟩, if_pos ⟨rfl, by omega, e4.2⟩]
        · rw [if_neg (fun q => e4 q.2), if_neg (fun q => e4 ⟨by omega, q.2.2⟩)]
      · rw [if_neg (fun q => e2 q.1), if_neg (fun q => e2 q.1)]
  · intro I1 hI
    refine am_iload_n (q := 9) dX0_add_8 rfl rfl ?_
    refine am_if_le (tgt := 32) (q := 12) dX0_add_9 rfl rfl (fun _ => ?_) (fun hz => absurd (by decide +kernel) hz)
    refine am_aload_n (q := 33) dX0_add_32 rfl rfl ?_
    refine cm_getR (q := 36) dX0_add_33 flX0_9 rfl (by assumption) (by assumption) rfl ?_
    refine am_iconst (q := 37) (v := 0) dX0_add_36 kc_i0 rfl ?_
    refine am_iload_n (q := 38) dX0_add_37 rfl rfl ?_
    refine cm_iastore (q := 39) dX0_add_38 (by assumption) (by rw [h4]; exact vp_in_nI (n := 0) (by decide) (by decide)) rfl ?_
    refine am_aload_n (q := 40) dX0_add_39 rfl rfl ?_
    refine cm_getI (q := 43) dX0_add_40 flX0_13 rfl (by assumption) rfl ?_
    refine am_bipush (q := 45) (v := 10) dX0_add_43 kc_b10 rfl ?_
    have ha1 : up2 I1 b (0 : Int32).toNatClampNeg v a 1 = I a 1 := by rw [up2_a hab, hI, if_neg (fun q => hab q.1)]
    have fin : ∀ x j, up2 I1 b (0 : Int32).toNatClampNeg v x j = if x = b ∧ j = 0 then v else if x = b ∧ j < 10 then I b (j - 1) else I x j := by
      intro x j
      rw [up2_at, hI]
      show (if x = b ∧ j = 0 then v else _) = _
      by_cases e : x = b ∧ j = 0
      · rw [if_pos e, if_pos e]
      · rw [if_neg e, if_neg e]
        congr 1
        exact propext ⟨fun q => ⟨q.1, q.2.2⟩, fun q => ⟨q.1, by
          have : ¬ j = 0 := fun z => e ⟨q.1, z⟩
          omega, q.2⟩⟩
    rw [ha1]
    refine am_icmp_ge (tgt := 58) (q := 48) dX0_add_45 rfl rfl (fun hc => ?_) (fun hc => ?_)
    · exact am_ret dX0_add_58 rfl ⟨_, rfl, rfl, by
        congr 1
        funext x j
        rw [fin, if_neg (show ¬ I a 1 < 10 from Int32.not_lt.mpr hc)]
        by_cases e : x = a ∧ j = 1
        · obtain ⟨rfl, rfl⟩ := e
          rw [if_neg (fun q => hab q.1), if_neg (fun q => hab q.1), if_neg (fun q => hab q.1), if_neg (fun q => hab q.1), if_pos ⟨rfl, rfl⟩]
        · rw [if_neg e]⟩
    · refine am_aload_n (q := 49) dX0_add_48 rfl rfl ?_
      refine am_dup (q := 50) dX0_add_49 rfl rfl ?_
      refine cm_getI (q := 53) dX0_add_50 flX0_13 rfl (by assumption) rfl ?_
      refine am_iconst (q := 54) (v := 1) dX0_add_53 kc_i1 rfl ?_
      refine am_iadd (q := 55) dX0_add_54 rfl ?_
      refine cm_putI (q := 58) dX0_add_55 flX0_13 rfl (Or.inl rfl) (Or.inl rfl) (by assumption) rfl ?_
      exact am_ret dX0_add_58 rfl ⟨_, rfl, rfl, by
        congr 1
        funext x j
        rw [ha1, if_pos (show I a 1 < 10 from Int32.not_le.mp hc)]
        by_cases e : x = a ∧ j = 1
        · obtain ⟨rfl, rfl⟩ := e
          rw [up2_s, if_neg (fun q => hab q.1), if_neg (fun q => hab q.1), if_pos ⟨rfl, rfl⟩]
        · rw [up2_at, if_neg e, fin, if_neg e]⟩
theorem k_X0_copyFrom (hG : okG G) (h1 : S.K a = 1) (h2 : R a 0 = some b) (h3 : S.K b = 20) (h4 : S.ln b = 10) (g1 : S.K a2 = 1) (g2 : R a2 0 = some b2) (g3 : S.K b2 = 20) (g4 : S.ln b2 = 10) (n1 : a2 ≠ a) (n2 : a2 ≠ b) (n3 : b2 ≠ a) (n4 : b2 ≠ b) (n5 : a ≠ b) : Fn G mX0_copyFrom 2 [vR a, vR a2] (mw S I J R) (fun rr M1 => rr = none ∧ M1 = mw S (fun x j => if x = b ∧ j < 10 then (if nI j < I a2 1 then I b2 j else 0) else if x = a ∧ j = 1 then I a2 1 else I x j) J R) := by
  refine am_aload_n (q := 1) dX0_copyFrom_0 rfl rfl ?_
  refine am_aload_n (q := 2) dX0_copyFrom_1 rfl rfl ?_
  refine cm_getI (q := 5) dX0_copyFrom_2 flX0_13 rfl (by assumption) rfl ?_
  refine cm_putI (q := 8) dX0_copyFrom_5 flX0_13 rfl (Or.inl rfl) (Or.inl rfl) (by assumption) rfl ?_
  refine am_iconst (q := 9) (v := 0) dX0_copyFrom_8 kc_i0 rfl ?_
  refine am_istore_n (q := 10) (ls1 := [_, _, _]) dX0_copyFrom_9 (Nat.le_of_ble_eq_true rfl) rfl rfl ?_
  refine k_loop (σ := Nat → Nat → Int32) (n := 10) (Inv := fun i I1 => ∀ x j, I1 x j = if x = b ∧ j < i then (if nI j < I a2 1 then I b2 j else 0) else if x = a ∧ j = 1 then I a2 1 else I x j) (W := fun i I1 => MW G mX0_copyFrom 2 10 [some (vR a), some (vR a2), some (vI (nI i))] [] (mw S I1 J R) _) ?_ ?_ 0 _ (Nat.zero_le _) (fun x j => by rw [if_neg (by omega), up2_at])
  · intro i I1 hi hI ih
    have hcl : (nI i).toNatClampNeg = i := nI_clamp (by omega)
    have hin : vp_in (nI i) (S.ln b) := by rw [h4]; exact vp_in_nI (by omega) (by decide)
    have e1 : I1 a2 1 = I a2 1 := by rw [hI, if_neg (fun q => n2 q.1), if_neg (fun q => n1 q.1)]
    have e2 : I1 b2 i = I b2 i := by rw [hI, if_neg (fun q => n4 q.1), if_neg (fun q => n3 q.1)]
    refine am_iload_n (q := 11) dX0_copyFrom_10 rfl rfl ?_
    refine am_aload_n (q := 12) dX0_copyFrom_11 rfl rfl ?_
    refine cm_getR (q := 15) dX0_copyFrom_12 flX0_9 rfl (by assumption) (by assumption) rfl ?_
    refine cm_alenI (q := 16) dX0_copyFrom_15 (by assumption) (by rw [h4] : nI (S.ln b) = nI 10) rfl ?_
    refine am_icmp_ge (tgt := 36) (q := 19) dX0_copyFrom_16 rfl rfl (fun hz => absurd hz (nI_ge (by omega) (by decide))) (fun _ => ?_)
    refine am_aload_n (q := 20) dX0_copyFrom_19 rfl rfl ?_
    refine cm_getR (q := 23) dX0_copyFrom_20 flX0_9 rfl (by assumption) (by assumption) rfl ?_
    refine am_iload_n (q := 24) dX0_copyFrom_23 rfl rfl ?_
    refine am_aload_n (q := 25) dX0_copyFrom_24 rfl rfl ?_
    refine am_iload_n (q := 26) dX0_copyFrom_25 rfl rfl ?_
    refine cm_call0 (q := 29) (As := [_]) hG dX0_copyFrom_26 mlX0_21 rfl (by assumption) ⟨_, _, rfl⟩ (Nat.le_of_ble_eq_true rfl) (Nat.le_of_ble_eq_true rfl) (Nat.le_of_ble_eq_true rfl) (Nat.le_of_ble_eq_true rfl) (k_X0_heightAt hG g1 g2 g3 g4) rfl ?_
    rintro _ _ ⟨rfl, rfl⟩
    refine cm_iastore (q := 30) dX0_copyFrom_29 (by assumption) hin rfl ?_
    refine am_iincW (q := 33) (ls1 := [_, _, _]) (w := 1) dX0_copyFrom_30 rfl (Nat.le_of_ble_eq_true rfl) kc_i1 rfl rfl ?_
    refine am_goto (tgt := 10) dX0_copyFrom_33 rfl ?_
    rw [nI_1]
    refine ih _ fun x j => ?_
    rw [up2_at, hcl, e1, e2, hI]
    have e3 : (0 : Int32) ≤ nI i ∧ nI i < I a2 1 ∧ nI i < 10 ↔ nI i < I a2 1 := ⟨fun q => q.2.1, fun q => ⟨nI_pos' (by omega), q, nI_lt (b := 10) (by omega) (by decide)⟩⟩
    have e4 : (if (0 : Int32) ≤ nI i ∧ nI i < I a2 1 ∧ nI i < 10 then I b2 i else 0) = if nI i < I a2 1 then I b2 i else 0 := by
      by_cases q : nI i < I a2 1
      · rw [if_pos q, if_pos (e3.mpr q)]
      · rw [if_neg q, if_neg (fun z => q (e3.mp z))]
    rw [e4]
    grind
  · intro I1 hI
    refine am_iload_n (q := 11) dX0_copyFrom_10 rfl rfl ?_
    refine am_aload_n (q := 12) dX0_copyFrom_11 rfl rfl ?_
    refine cm_getR (q := 15) dX0_copyFrom_12 flX0_9 rfl (by assumption) (by assumption) rfl ?_
    refine cm_alenI (q := 16) dX0_copyFrom_15 (by assumption) (by rw [h4] : nI (S.ln b) = nI 10) rfl ?_
    refine am_icmp_ge (tgt := 36) (q := 19) dX0_copyFrom_16 rfl rfl (fun _ => ?_) (fun hz => absurd (Int32.le_refl _) hz)
    exact am_ret dX0_copyFrom_36 rfl ⟨_, rfl, rfl, by
      congr 1
      funext x j
      exact hI x j⟩
end LeafB
end
section
theorem kc_i3 : Int32.ofInt 3 = 3 := by decide +kernel
theorem kc_s256 : (Int16.ofInt 256).toInt32 = 256 := by decide +kernel
theorem kc_s2000 : (Int16.ofInt 2000).toInt32 = 2000 := by decide +kernel
theorem dX10_copyFrom_0 : decode cX10_copyFrom 0 = .ok (.aload_n 0, 1) := by decide +kernel
theorem dX10_copyFrom_1 : decode cX10_copyFrom 1 = .ok (.aload_n 1, 1) := by decide +kernel
theorem dX10_copyFrom_2 : decode cX10_copyFrom 2 = .ok (.getfield 7, 3) := by decide +kernel
theorem dX10_copyFrom_5 : decode cX10_copyFrom 5 = .ok (.aload_n 1, 1) := by decide +kernel
theorem dX10_copyFrom_6 : decode cX10_copyFrom 6 = .ok (.getfield 13, 3) := by decide +kernel
theorem dX10_copyFrom_9 : decode cX10_copyFrom 9 = .ok (.aload_n 1, 1) := by decide +kernel
theorem dX10_copyFrom_10 : decode cX10_copyFrom 10 = .ok (.getfield 16, 3) := by decide +kernel
theorem dX10_copyFrom_13 : decode cX10_copyFrom 13 = .ok (.aload_n 1, 1) := by decide +kernel
theorem dX10_copyFrom_14 : decode cX10_copyFrom 14 = .ok (.getfield 19, 3) := by decide +kernel
theorem dX10_copyFrom_17 : decode cX10_copyFrom 17 = .ok (.invokevirtual 22, 3) := by decide +kernel
theorem dX10_copyFrom_20 : decode cX10_copyFrom 20 = .ok (.return_, 1) := by decide +kernel
theorem dX10_tell_0 : decode cX10_tell 0 = .ok (.aload_n 0, 1) := by decide +kernel
theorem dX10_tell_1 : decode cX10_tell 1 = .ok (.iload_n 1, 1) := by decide +kernel
theorem dX10_tell_2 : decode cX10_tell 2 = .ok (.putfield 7, 3) := by decide +kernel
theorem dX10_tell_5 : decode cX10_tell 5 = .ok (.aload_n 0, 1) := by decide +kernel
theorem dX10_tell_6 : decode cX10_tell 6 = .ok (.iload_n 2, 1) := by decide +kernel
theorem dX10_tell_7 : decode cX10_tell 7 = .ok (.putfield 13, 3) := by decide +kernel
theorem dX10_tell_10 : decode cX10_tell 10 = .ok (.aload_n 0, 1) := by decide +kernel
theorem dX10_tell_11 : decode cX10_tell 11 = .ok (.iload_n 3, 1) := by decide +kernel
theorem dX10_tell_12 : decode cX10_tell 12 = .ok (.putfield 16, 3) := by decide +kernel
theorem dX10_tell_15 : decode cX10_tell 15 = .ok (.aload_n 0, 1) := by decide +kernel
theorem dX10_tell_16 : decode cX10_tell 16 = .ok (.iload 4, 2) := by decide +kernel
theorem dX10_tell_18 : decode cX10_tell 18 = .ok (.putfield 19, 3) := by decide +kernel
theorem dX10_tell_21 : decode cX10_tell 21 = .ok (.return_, 1) := by decide +kernel
theorem dX3_copyFrom_0 : decode cX3_copyFrom 0 = .ok (.aload_n 0, 1) := by decide +kernel
theorem dX3_copyFrom_1 : decode cX3_copyFrom 1 = .ok (.aload_n 1, 1) := by decide +kernel
theorem dX3_copyFrom_2 : decode cX3_copyFrom 2 = .ok (.getfield 7, 3) := by decide +kernel
theorem dX3_copyFrom_5 : decode cX3_copyFrom 5 = .ok (.putfield 7, 3) := by decide +kernel
theorem dX3_copyFrom_8 : decode cX3_copyFrom 8 = .ok (.aload_n 0, 1) := by decide +kernel
theorem dX3_copyFrom_9 : decode cX3_copyFrom 9 = .ok (.aload_n 1, 1) := by decide +kernel
theorem dX3_copyFrom_10 : decode cX3_copyFrom 10 = .ok (.getfield 13, 3) := by decide +kernel
theorem dX3_copyFrom_13 : decode cX3_copyFrom 13 = .ok (.putfield 13, 3) := by decide +kernel
theorem dX3_copyFrom_16 : decode cX3_copyFrom 16 = .ok (.aload_n 0, 1) := by decide +kernel
theorem dX3_copyFrom_17 : decode cX3_copyFrom 17 = .ok (.aload_n 1, 1) := by decide +kernel
theorem dX3_copyFrom_18 : decode cX3_copyFrom 18 = .ok (.getfield 17, 3) := by decide +kernel
theorem dX3_copyFrom_21 : decode cX3_copyFrom 21 = .ok (.putfield 17, 3) := by decide +kernel
theorem dX3_copyFrom_24 : decode cX3_copyFrom 24 = .ok (.aload_n 0, 1) := by decide +kernel
theorem dX3_copyFrom_25 : decode cX3_copyFrom 25 = .ok (.aload_n 1, 1) := by decide +kernel
theorem dX3_copyFrom_26 : decode cX3_copyFrom 26 = .ok (.getfield 20, 3) := by decide +kernel
theorem dX3_copyFrom_29 : decode cX3_copyFrom 29 = .ok (.putfield 20, 3) := by decide +kernel
theorem dX3_copyFrom_32 : decode cX3_copyFrom 32 = .ok (.aload_n 0, 1) := by decide +kernel
theorem dX3_copyFrom_33 : decode cX3_copyFrom 33 = .ok (.aload_n 1, 1) := by decide +kernel
theorem dX3_copyFrom_34 : decode cX3_copyFrom 34 = .ok (.getfield 23, 3) := by decide +kernel
theorem dX3_copyFrom_37 : decode cX3_copyFrom 37 = .ok (.putfield 23, 3) := by decide +kernel
theorem dX3_copyFrom_40 : decode cX3_copyFrom 40 = .ok (.aload_n 0, 1) := by decide +kernel
theorem dX3_copyFrom_41 : decode cX3_copyFrom 41 = .ok (.aload_n 1, 1) := by decide +kernel
theorem dX3_copyFrom_42 : decode cX3_copyFrom 42 = .ok (.getfield 26, 3) := by decide +kernel
theorem dX3_copyFrom_45 : decode cX3_copyFrom 45 = .ok (.putfield 26, 3) := by decide +kernel
theorem dX3_copyFrom_48 : decode cX3_copyFrom 48 = .ok (.aload_n 0, 1) := by decide +kernel
theorem dX3_copyFrom_49 : decode cX3_copyFrom 49 = .ok (.aload_n 1, 1) := by decide +kernel
theorem dX3_copyFrom_50 : decode cX3_copyFrom 50 = .ok (.getfield 29, 3) := by decide +kernel
theorem dX3_copyFrom_53 : decode cX3_copyFrom 53 = .ok (.putfield 29, 3) := by decide +kernel
theorem dX3_copyFrom_56 : decode cX3_copyFrom 56 = .ok (.aload_n 0, 1) := by decide +kernel
theorem dX3_copyFrom_57 : decode cX3_copyFrom 57 = .ok (.aload_n 1, 1) := by decide +kernel
theorem dX3_copyFrom_58 : decode cX3_copyFrom 58 = .ok (.getfield 32, 3) := by decide +kernel
theorem dX3_copyFrom_61 : decode cX3_copyFrom 61 = .ok (.putfield 32, 3) := by decide +kernel
theorem dX3_copyFrom_64 : decode cX3_copyFrom 64 = .ok (.aload_n 0, 1) := by decide +kernel
theorem dX3_copyFrom_65 : decode cX3_copyFrom 65 = .ok (.aload_n 1, 1) := by decide +kernel
theorem dX3_copyFrom_66 : decode cX3_copyFrom 66 = .ok (.getfield 35, 3) := by decide +kernel
theorem dX3_copyFrom_69 : decode cX3_copyFrom 69 = .ok (.putfield 35, 3) := by decide +kernel
theorem dX3_copyFrom_72 : decode cX3_copyFrom 72 = .ok (.aload_n 0, 1) := by decide +kernel
theorem dX3_copyFrom_73 : decode cX3_copyFrom 73 = .ok (.aload_n 1, 1) := by decide +kernel
theorem dX3_copyFrom_74 : decode cX3_copyFrom 74 = .ok (.getfield 38, 3) := by decide +kernel
theorem dX3_copyFrom_77 : decode cX3_copyFrom 77 = .ok (.putfield 38, 3) := by decide +kernel
theorem dX3_copyFrom_80 : decode cX3_copyFrom 80 = .ok (.return_, 1) := by decide +kernel
theorem dX3_endRound_0 : decode cX3_endRound 0 = .ok (.aload_n 0, 1) := by decide +kernel
theorem dX3_endRound_1 : decode cX3_endRound 1 = .ok (.getfield 38, 3) := by decide +kernel
theorem dX3_endRound_4 : decode cX3_endRound 4 = .ok (.ifCond .ne 25, 3) := by decide +kernel
theorem dX3_endRound_7 : decode cX3_endRound 7 = .ok (.aload_n 0, 1) := by decide +kernel
theorem dX3_endRound_8 : decode cX3_endRound 8 = .ok (.aload_n 0, 1) := by decide +kernel
theorem dX3_endRound_9 : decode cX3_endRound 9 = .ok (.getfield 23, 3) := by decide +kernel
theorem dX3_endRound_12 : decode cX3_endRound 12 = .ok (.iconst 3, 1) := by decide +kernel
theorem dX3_endRound_13 : decode cX3_endRound 13 = .ok (.if_icmp .le 12, 3) := by decide +kernel
theorem dX3_endRound_16 : decode cX3_endRound 16 = .ok (.aload_n 0, 1) := by decide +kernel
theorem dX3_endRound_17 : decode cX3_endRound 17 = .ok (.getfield 23, 3) := by decide +kernel
theorem dX3_endRound_20 : decode cX3_endRound 20 = .ok (.iconst 3, 1) := by decide +kernel
theorem dX3_endRound_21 : decode cX3_endRound 21 = .ok (.isub, 1) := by decide +kernel
theorem dX3_endRound_22 : decode cX3_endRound 22 = .ok (.goto 4, 3) := by decide +kernel
theorem dX3_endRound_25 : decode cX3_endRound 25 = .ok (.iconst 0, 1) := by decide +kernel
theorem dX3_endRound_26 : decode cX3_endRound 26 = .ok (.putfield 23, 3) := by decide +kernel
theorem dX3_endRound_29 : decode cX3_endRound 29 = .ok (.aload_n 0, 1) := by decide +kernel
theorem dX3_endRound_30 : decode cX3_endRound 30 = .ok (.iconst 0, 1) := by decide +kernel
theorem dX3_endRound_31 : decode cX3_endRound 31 = .ok (.putfield 38, 3) := by decide +kernel
theorem dX3_endRound_34 : decode cX3_endRound 34 = .ok (.return_, 1) := by decide +kernel
theorem dX3_forceWithArm_0 : decode cX3_forceWithArm 0 = .ok (.iload_n 1, 1) := by decide +kernel
theorem dX3_forceWithArm_1 : decode cX3_forceWithArm 1 = .ok (.aload_n 0, 1) := by decide +kernel
theorem dX3_forceWithArm_2 : decode cX3_forceWithArm 2 = .ok (.getfield 17, 3) := by decide +kernel
theorem dX3_forceWithArm_5 : decode cX3_forceWithArm 5 = .ok (.iadd, 1) := by decide +kernel
theorem dX3_forceWithArm_6 : decode cX3_forceWithArm 6 = .ok (.aload_n 0, 1) := by decide +kernel
theorem dX3_forceWithArm_7 : decode cX3_forceWithArm 7 = .ok (.getfield 23, 3) := by decide +kernel
theorem dX3_forceWithArm_10 : decode cX3_forceWithArm 10 = .ok (.isub, 1) := by decide +kernel
theorem dX3_forceWithArm_11 : decode cX3_forceWithArm 11 = .ok (.istore_n 2, 1) := by decide +kernel
theorem dX3_forceWithArm_12 : decode cX3_forceWithArm 12 = .ok (.iload_n 2, 1) := by decide +kernel
theorem dX3_forceWithArm_13 : decode cX3_forceWithArm 13 = .ok (.ifCond .le 7, 3) := by decide +kernel
theorem dX3_forceWithArm_16 : decode cX3_forceWithArm 16 = .ok (.iload_n 2, 1) := by decide +kernel
theorem dX3_forceWithArm_17 : decode cX3_forceWithArm 17 = .ok (.goto 4, 3) := by decide +kernel
theorem dX3_forceWithArm_20 : decode cX3_forceWithArm 20 = .ok (.iconst 0, 1) := by decide +kernel
theorem dX3_forceWithArm_21 : decode cX3_forceWithArm 21 = .ok (.ireturn, 1) := by decide +kernel
theorem dX3_tell_0 : decode cX3_tell 0 = .ok (.aload_n 0, 1) := by decide +kernel
theorem dX3_tell_1 : decode cX3_tell 1 = .ok (.lload_n 1, 1) := by decide +kernel
theorem dX3_tell_2 : decode cX3_tell 2 = .ok (.putfield 7, 3) := by decide +kernel
theorem dX3_tell_5 : decode cX3_tell 5 = .ok (.aload_n 0, 1) := by decide +kernel
theorem dX3_tell_6 : decode cX3_tell 6 = .ok (.iload_n 3, 1) := by decide +kernel
theorem dX3_tell_7 : decode cX3_tell 7 = .ok (.putfield 13, 3) := by decide +kernel
theorem dX3_tell_10 : decode cX3_tell 10 = .ok (.aload_n 0, 1) := by decide +kernel
theorem dX3_tell_11 : decode cX3_tell 11 = .ok (.iload 4, 2) := by decide +kernel
theorem dX3_tell_13 : decode cX3_tell 13 = .ok (.putfield 17, 3) := by decide +kernel
theorem dX3_tell_16 : decode cX3_tell 16 = .ok (.aload_n 0, 1) := by decide +kernel
theorem dX3_tell_17 : decode cX3_tell 17 = .ok (.iload 5, 2) := by decide +kernel
theorem dX3_tell_19 : decode cX3_tell 19 = .ok (.putfield 20, 3) := by decide +kernel
theorem dX3_tell_22 : decode cX3_tell 22 = .ok (.aload_n 0, 1) := by decide +kernel
theorem dX3_tell_23 : decode cX3_tell 23 = .ok (.iconst 0, 1) := by decide +kernel
theorem dX3_tell_24 : decode cX3_tell 24 = .ok (.putfield 23, 3) := by decide +kernel
theorem dX3_tell_27 : decode cX3_tell 27 = .ok (.aload_n 0, 1) := by decide +kernel
theorem dX3_tell_28 : decode cX3_tell 28 = .ok (.iconst 0, 1) := by decide +kernel
theorem dX3_tell_29 : decode cX3_tell 29 = .ok (.putfield 26, 3) := by decide +kernel
theorem dX3_tell_32 : decode cX3_tell 32 = .ok (.aload_n 0, 1) := by decide +kernel
theorem dX3_tell_33 : decode cX3_tell 33 = .ok (.iconst 0, 1) := by decide +kernel
theorem dX3_tell_34 : decode cX3_tell 34 = .ok (.putfield 29, 3) := by decide +kernel
theorem dX3_tell_37 : decode cX3_tell 37 = .ok (.aload_n 0, 1) := by decide +kernel
theorem dX3_tell_38 : decode cX3_tell 38 = .ok (.iconst 0, 1) := by decide +kernel
theorem dX3_tell_39 : decode cX3_tell 39 = .ok (.putfield 32, 3) := by decide +kernel
theorem dX3_tell_42 : decode cX3_tell 42 = .ok (.aload_n 0, 1) := by decide +kernel
theorem dX3_tell_43 : decode cX3_tell 43 = .ok (.iconst 0, 1) := by decide +kernel
theorem dX3_tell_44 : decode cX3_tell 44 = .ok (.putfield 35, 3) := by decide +kernel
theorem dX3_tell_47 : decode cX3_tell 47 = .ok (.aload_n 0, 1) := by decide +kernel
theorem dX3_tell_48 : decode cX3_tell 48 = .ok (.iconst 0, 1) := by decide +kernel
theorem dX3_tell_49 : decode cX3_tell 49 = .ok (.putfield 38, 3) := by decide +kernel
theorem dX3_tell_52 : decode cX3_tell 52 = .ok (.return_, 1) := by decide +kernel
theorem dX5_copyFrom_0 : decode cX5_copyFrom 0 = .ok (.aload_n 0, 1) := by decide +kernel
theorem dX5_copyFrom_1 : decode cX5_copyFrom 1 = .ok (.aload_n 1, 1) := by decide +kernel
theorem dX5_copyFrom_2 : decode cX5_copyFrom 2 = .ok (.getfield 7, 3) := by decide +kernel
theorem dX5_copyFrom_5 : decode cX5_copyFrom 5 = .ok (.aload_n 1, 1) := by decide +kernel
theorem dX5_copyFrom_6 : decode cX5_copyFrom 6 = .ok (.getfield 13, 3) := by decide +kernel
theorem dX5_copyFrom_9 : decode cX5_copyFrom 9 = .ok (.aload_n 1, 1) := by decide +kernel
theorem dX5_copyFrom_10 : decode cX5_copyFrom 10 = .ok (.getfield 20, 3) := by decide +kernel
theorem dX5_copyFrom_13 : decode cX5_copyFrom 13 = .ok (.aload_n 1, 1) := by decide +kernel
theorem dX5_copyFrom_14 : decode cX5_copyFrom 14 = .ok (.getfield 23, 3) := by decide +kernel
theorem dX5_copyFrom_17 : decode cX5_copyFrom 17 = .ok (.aload_n 1, 1) := by decide +kernel
theorem dX5_copyFrom_18 : decode cX5_copyFrom 18 = .ok (.getfield 26, 3) := by decide +kernel
theorem dX5_copyFrom_21 : decode cX5_copyFrom 21 = .ok (.invokevirtual 29, 3) := by decide +kernel
theorem dX5_copyFrom_24 : decode cX5_copyFrom 24 = .ok (.aload_n 0, 1) := by decide +kernel
theorem dX5_copyFrom_25 : decode cX5_copyFrom 25 = .ok (.aload_n 1, 1) := by decide +kernel
theorem dX5_copyFrom_26 : decode cX5_copyFrom 26 = .ok (.getfield 17, 3) := by decide +kernel
theorem dX5_copyFrom_29 : decode cX5_copyFrom 29 = .ok (.putfield 17, 3) := by decide +kernel
theorem dX5_copyFrom_32 : decode cX5_copyFrom 32 = .ok (.return_, 1) := by decide +kernel
theorem dX5_tell_0 : decode cX5_tell 0 = .ok (.aload_n 0, 1) := by decide +kernel
theorem dX5_tell_1 : decode cX5_tell 1 = .ok (.lload_n 1, 1) := by decide +kernel
theorem dX5_tell_2 : decode cX5_tell 2 = .ok (.putfield 7, 3) := by decide +kernel
theorem dX5_tell_5 : decode cX5_tell 5 = .ok (.aload_n 0, 1) := by decide +kernel
theorem dX5_tell_6 : decode cX5_tell 6 = .ok (.iload_n 3, 1) := by decide +kernel
theorem dX5_tell_7 : decode cX5_tell 7 = .ok (.putfield 13, 3) := by decide +kernel
theorem dX5_tell_10 : decode cX5_tell 10 = .ok (.aload_n 0, 1) := by decide +kernel
theorem dX5_tell_11 : decode cX5_tell 11 = .ok (.iconst 0, 1) := by decide +kernel
theorem dX5_tell_12 : decode cX5_tell 12 = .ok (.putfield 17, 3) := by decide +kernel
theorem dX5_tell_15 : decode cX5_tell 15 = .ok (.aload_n 0, 1) := by decide +kernel
theorem dX5_tell_16 : decode cX5_tell 16 = .ok (.iload 4, 2) := by decide +kernel
theorem dX5_tell_18 : decode cX5_tell 18 = .ok (.putfield 20, 3) := by decide +kernel
theorem dX5_tell_21 : decode cX5_tell 21 = .ok (.aload_n 0, 1) := by decide +kernel
theorem dX5_tell_22 : decode cX5_tell 22 = .ok (.iload 5, 2) := by decide +kernel
theorem dX5_tell_24 : decode cX5_tell 24 = .ok (.putfield 23, 3) := by decide +kernel
theorem dX5_tell_27 : decode cX5_tell 27 = .ok (.aload_n 0, 1) := by decide +kernel
theorem dX5_tell_28 : decode cX5_tell 28 = .ok (.iload 6, 2) := by decide +kernel
theorem dX5_tell_30 : decode cX5_tell 30 = .ok (.putfield 26, 3) := by decide +kernel
theorem dX5_tell_33 : decode cX5_tell 33 = .ok (.return_, 1) := by decide +kernel
theorem dX6_addRust_0 : decode cX6_addRust 0 = .ok (.iconst 0, 1) := by decide +kernel
theorem dX6_addRust_1 : decode cX6_addRust 1 = .ok (.istore 4, 2) := by decide +kernel
theorem dX6_addRust_3 : decode cX6_addRust 3 = .ok (.iload 4, 2) := by decide +kernel
theorem dX6_addRust_5 : decode cX6_addRust 5 = .ok (.aload_n 0, 1) := by decide +kernel
theorem dX6_addRust_6 : decode cX6_addRust 6 = .ok (.getfield 9, 3) := by decide +kernel
theorem dX6_addRust_9 : decode cX6_addRust 9 = .ok (.arraylength, 1) := by decide +kernel
theorem dX6_addRust_10 : decode cX6_addRust 10 = .ok (.if_icmp .ge 32, 3) := by decide +kernel
theorem dX6_addRust_13 : decode cX6_addRust 13 = .ok (.iload 4, 2) := by decide +kernel
theorem dX6_addRust_15 : decode cX6_addRust 15 = .ok (.iload_n 1, 1) := by decide +kernel
theorem dX6_addRust_16 : decode cX6_addRust 16 = .ok (.if_icmp .lt 20, 3) := by decide +kernel
theorem dX6_addRust_19 : decode cX6_addRust 19 = .ok (.iload 4, 2) := by decide +kernel
theorem dX6_addRust_21 : decode cX6_addRust 21 = .ok (.iload_n 2, 1) := by decide +kernel
theorem dX6_addRust_22 : decode cX6_addRust 22 = .ok (.if_icmp .gt 14, 3) := by decide +kernel
theorem dX6_addRust_25 : decode cX6_addRust 25 = .ok (.aload_n 0, 1) := by decide +kernel
theorem dX6_addRust_26 : decode cX6_addRust 26 = .ok (.getfield 9, 3) := by decide +kernel
theorem dX6_addRust_29 : decode cX6_addRust 29 = .ok (.iload 4, 2) := by decide +kernel
theorem dX6_addRust_31 : decode cX6_addRust 31 = .ok (.dup2, 1) := by decide +kernel
theorem dX6_addRust_32 : decode cX6_addRust 32 = .ok (.iaload, 1) := by decide +kernel
theorem dX6_addRust_33 : decode cX6_addRust 33 = .ok (.iload_n 3, 1) := by decide +kernel
theorem dX6_addRust_34 : decode cX6_addRust 34 = .ok (.iadd, 1) := by decide +kernel
theorem dX6_addRust_35 : decode cX6_addRust 35 = .ok (.iastore, 1) := by decide +kernel
theorem dX6_addRust_36 : decode cX6_addRust 36 = .ok (.iinc 4 1, 3) := by decide +kernel
theorem dX6_addRust_39 : decode cX6_addRust 39 = .ok (.goto (-36), 3) := by decide +kernel
theorem dX6_addRust_42 : decode cX6_addRust 42 = .ok (.return_, 1) := by decide +kernel
theorem dX6_copyFrom_0 : decode cX6_copyFrom 0 = .ok (.aload_n 0, 1) := by decide +kernel
theorem dX6_copyFrom_1 : decode cX6_copyFrom 1 = .ok (.aload_n 1, 1) := by decide +kernel
theorem dX6_copyFrom_2 : decode cX6_copyFrom 2 = .ok (.getfield 13, 3) := by decide +kernel
theorem dX6_copyFrom_5 : decode cX6_copyFrom 5 = .ok (.putfield 13, 3) := by decide +kernel
theorem dX6_copyFrom_8 : decode cX6_copyFrom 8 = .ok (.aload_n 0, 1) := by decide +kernel
theorem dX6_copyFrom_9 : decode cX6_copyFrom 9 = .ok (.aload_n 1, 1) := by decide +kernel
theorem dX6_copyFrom_10 : decode cX6_copyFrom 10 = .ok (.getfield 17, 3) := by decide +kernel
theorem dX6_copyFrom_13 : decode cX6_copyFrom 13 = .ok (.putfield 17, 3) := by decide +kernel
theorem dX6_copyFrom_16 : decode cX6_copyFrom 16 = .ok (.aload_n 0, 1) := by decide +kernel
theorem dX6_copyFrom_17 : decode cX6_copyFrom 17 = .ok (.aload_n 1, 1) := by decide +kernel
theorem dX6_copyFrom_18 : decode cX6_copyFrom 18 = .ok (.getfield 21, 3) := by decide +kernel
theorem dX6_copyFrom_21 : decode cX6_copyFrom 21 = .ok (.putfield 21, 3) := by decide +kernel
theorem dX6_copyFrom_24 : decode cX6_copyFrom 24 = .ok (.aload_n 0, 1) := by decide +kernel
theorem dX6_copyFrom_25 : decode cX6_copyFrom 25 = .ok (.aload_n 1, 1) := by decide +kernel
theorem dX6_copyFrom_26 : decode cX6_copyFrom 26 = .ok (.getfield 24, 3) := by decide +kernel
theorem dX6_copyFrom_29 : decode cX6_copyFrom 29 = .ok (.putfield 24, 3) := by decide +kernel
theorem dX6_copyFrom_32 : decode cX6_copyFrom 32 = .ok (.aload_n 0, 1) := by decide +kernel
theorem dX6_copyFrom_33 : decode cX6_copyFrom 33 = .ok (.aload_n 1, 1) := by decide +kernel
theorem dX6_copyFrom_34 : decode cX6_copyFrom 34 = .ok (.getfield 27, 3) := by decide +kernel
theorem dX6_copyFrom_37 : decode cX6_copyFrom 37 = .ok (.putfield 27, 3) := by decide +kernel
theorem dX6_copyFrom_40 : decode cX6_copyFrom 40 = .ok (.aload_n 0, 1) := by decide +kernel
theorem dX6_copyFrom_41 : decode cX6_copyFrom 41 = .ok (.aload_n 1, 1) := by decide +kernel
theorem dX6_copyFrom_42 : decode cX6_copyFrom 42 = .ok (.getfield 30, 3) := by decide +kernel
theorem dX6_copyFrom_45 : decode cX6_copyFrom 45 = .ok (.putfield 30, 3) := by decide +kernel
theorem dX6_copyFrom_48 : decode cX6_copyFrom 48 = .ok (.iconst 0, 1) := by decide +kernel
theorem dX6_copyFrom_49 : decode cX6_copyFrom 49 = .ok (.istore_n 2, 1) := by decide +kernel
theorem dX6_copyFrom_50 : decode cX6_copyFrom 50 = .ok (.iload_n 2, 1) := by decide +kernel
theorem dX6_copyFrom_51 : decode cX6_copyFrom 51 = .ok (.aload_n 0, 1) := by decide +kernel
theorem dX6_copyFrom_52 : decode cX6_copyFrom 52 = .ok (.getfield 9, 3) := by decide +kernel
theorem dX6_copyFrom_55 : decode cX6_copyFrom 55 = .ok (.arraylength, 1) := by decide +kernel
theorem dX6_copyFrom_56 : decode cX6_copyFrom 56 = .ok (.if_icmp .ge 20, 3) := by decide +kernel
theorem dX6_copyFrom_59 : decode cX6_copyFrom 59 = .ok (.aload_n 0, 1) := by decide +kernel
theorem dX6_copyFrom_60 : decode cX6_copyFrom 60 = .ok (.getfield 9, 3) := by decide +kernel
theorem dX6_copyFrom_63 : decode cX6_copyFrom 63 = .ok (.iload_n 2, 1) := by decide +kernel
theorem dX6_copyFrom_64 : decode cX6_copyFrom 64 = .ok (.aload_n 1, 1) := by decide +kernel
theorem dX6_copyFrom_65 : decode cX6_copyFrom 65 = .ok (.iload_n 2, 1) := by decide +kernel
theorem dX6_copyFrom_66 : decode cX6_copyFrom 66 = .ok (.invokevirtual 33, 3) := by decide +kernel
theorem dX6_copyFrom_69 : decode cX6_copyFrom 69 = .ok (.iastore, 1) := by decide +kernel
theorem dX6_copyFrom_70 : decode cX6_copyFrom 70 = .ok (.iinc 2 1, 3) := by decide +kernel
theorem dX6_copyFrom_73 : decode cX6_copyFrom 73 = .ok (.goto (-23), 3) := by decide +kernel
theorem dX6_copyFrom_76 : decode cX6_copyFrom 76 = .ok (.return_, 1) := by decide +kernel
theorem dX6_rustAt_0 : decode cX6_rustAt 0 = .ok (.iload_n 1, 1) := by decide +kernel
theorem dX6_rustAt_1 : decode cX6_rustAt 1 = .ok (.ifCond .lt 21, 3) := by decide +kernel
theorem dX6_rustAt_4 : decode cX6_rustAt 4 = .ok (.iload_n 1, 1) := by decide +kernel
theorem dX6_rustAt_5 : decode cX6_rustAt 5 = .ok (.aload_n 0, 1) := by decide +kernel
theorem dX6_rustAt_6 : decode cX6_rustAt 6 = .ok (.getfield 9, 3) := by decide +kernel
theorem dX6_rustAt_9 : decode cX6_rustAt 9 = .ok (.arraylength, 1) := by decide +kernel
theorem dX6_rustAt_10 : decode cX6_rustAt 10 = .ok (.if_icmp .ge 12, 3) := by decide +kernel
theorem dX6_rustAt_13 : decode cX6_rustAt 13 = .ok (.aload_n 0, 1) := by decide +kernel
theorem dX6_rustAt_14 : decode cX6_rustAt 14 = .ok (.getfield 9, 3) := by decide +kernel
theorem dX6_rustAt_17 : decode cX6_rustAt 17 = .ok (.iload_n 1, 1) := by decide +kernel
theorem dX6_rustAt_18 : decode cX6_rustAt 18 = .ok (.iaload, 1) := by decide +kernel
theorem dX6_rustAt_19 : decode cX6_rustAt 19 = .ok (.goto 4, 3) := by decide +kernel
theorem dX6_rustAt_22 : decode cX6_rustAt 22 = .ok (.iconst 0, 1) := by decide +kernel
theorem dX6_rustAt_23 : decode cX6_rustAt 23 = .ok (.ireturn, 1) := by decide +kernel
theorem dX6_tell_0 : decode cX6_tell 0 = .ok (.aload_n 0, 1) := by decide +kernel
theorem dX6_tell_1 : decode cX6_tell 1 = .ok (.lload_n 1, 1) := by decide +kernel
theorem dX6_tell_2 : decode cX6_tell 2 = .ok (.putfield 13, 3) := by decide +kernel
theorem dX6_tell_5 : decode cX6_tell 5 = .ok (.aload_n 0, 1) := by decide +kernel
theorem dX6_tell_6 : decode cX6_tell 6 = .ok (.iload_n 3, 1) := by decide +kernel
theorem dX6_tell_7 : decode cX6_tell 7 = .ok (.putfield 17, 3) := by decide +kernel
theorem dX6_tell_10 : decode cX6_tell 10 = .ok (.aload_n 0, 1) := by decide +kernel
theorem dX6_tell_11 : decode cX6_tell 11 = .ok (.iload 4, 2) := by decide +kernel
theorem dX6_tell_13 : decode cX6_tell 13 = .ok (.putfield 21, 3) := by decide +kernel
theorem dX6_tell_16 : decode cX6_tell 16 = .ok (.aload_n 0, 1) := by decide +kernel
theorem dX6_tell_17 : decode cX6_tell 17 = .ok (.iload 5, 2) := by decide +kernel
theorem dX6_tell_19 : decode cX6_tell 19 = .ok (.putfield 24, 3) := by decide +kernel
theorem dX6_tell_22 : decode cX6_tell 22 = .ok (.aload_n 0, 1) := by decide +kernel
theorem dX6_tell_23 : decode cX6_tell 23 = .ok (.iconst 0, 1) := by decide +kernel
theorem dX6_tell_24 : decode cX6_tell 24 = .ok (.putfield 27, 3) := by decide +kernel
theorem dX6_tell_27 : decode cX6_tell 27 = .ok (.aload_n 0, 1) := by decide +kernel
theorem dX6_tell_28 : decode cX6_tell 28 = .ok (.iconst 0, 1) := by decide +kernel
theorem dX6_tell_29 : decode cX6_tell 29 = .ok (.putfield 30, 3) := by decide +kernel
theorem dX6_tell_32 : decode cX6_tell 32 = .ok (.iconst 0, 1) := by decide +kernel
theorem dX6_tell_33 : decode cX6_tell 33 = .ok (.istore 6, 2) := by decide +kernel
theorem dX6_tell_35 : decode cX6_tell 35 = .ok (.iload 6, 2) := by decide +kernel
theorem dX6_tell_37 : decode cX6_tell 37 = .ok (.aload_n 0, 1) := by decide +kernel
theorem dX6_tell_38 : decode cX6_tell 38 = .ok (.getfield 9, 3) := by decide +kernel
theorem dX6_tell_41 : decode cX6_tell 41 = .ok (.arraylength, 1) := by decide +kernel
theorem dX6_tell_42 : decode cX6_tell 42 = .ok (.if_icmp .ge 17, 3) := by decide +kernel
theorem dX6_tell_45 : decode cX6_tell 45 = .ok (.aload_n 0, 1) := by decide +kernel
theorem dX6_tell_46 : decode cX6_tell 46 = .ok (.getfield 9, 3) := by decide +kernel
theorem dX6_tell_49 : decode cX6_tell 49 = .ok (.iload 6, 2) := by decide +kernel
theorem dX6_tell_51 : decode cX6_tell 51 = .ok (.iconst 0, 1) := by decide +kernel
theorem dX6_tell_52 : decode cX6_tell 52 = .ok (.iastore, 1) := by decide +kernel
theorem dX6_tell_53 : decode cX6_tell 53 = .ok (.iinc 6 1, 3) := by decide +kernel
theorem dX6_tell_56 : decode cX6_tell 56 = .ok (.goto (-21), 3) := by decide +kernel
theorem dX6_tell_59 : decode cX6_tell 59 = .ok (.return_, 1) := by decide +kernel
theorem dX8_byteAt_0 : decode cX8_byteAt 0 = .ok (.iload_n 1, 1) := by decide +kernel
theorem dX8_byteAt_1 : decode cX8_byteAt 1 = .ok (.ifCond .lt 29, 3) := by decide +kernel
theorem dX8_byteAt_4 : decode cX8_byteAt 4 = .ok (.iload_n 1, 1) := by decide +kernel
theorem dX8_byteAt_5 : decode cX8_byteAt 5 = .ok (.aload_n 0, 1) := by decide +kernel
theorem dX8_byteAt_6 : decode cX8_byteAt 6 = .ok (.getfield 15, 3) := by decide +kernel
theorem dX8_byteAt_9 : decode cX8_byteAt 9 = .ok (.if_icmp .ge 21, 3) := by decide +kernel
theorem dX8_byteAt_12 : decode cX8_byteAt 12 = .ok (.iload_n 1, 1) := by decide +kernel
theorem dX8_byteAt_13 : decode cX8_byteAt 13 = .ok (.aload_n 0, 1) := by decide +kernel
theorem dX8_byteAt_14 : decode cX8_byteAt 14 = .ok (.getfield 11, 3) := by decide +kernel
theorem dX8_byteAt_17 : decode cX8_byteAt 17 = .ok (.arraylength, 1) := by decide +kernel
theorem dX8_byteAt_18 : decode cX8_byteAt 18 = .ok (.if_icmp .ge 12, 3) := by decide +kernel
theorem dX8_byteAt_21 : decode cX8_byteAt 21 = .ok (.aload_n 0, 1) := by decide +kernel
theorem dX8_byteAt_22 : decode cX8_byteAt 22 = .ok (.getfield 11, 3) := by decide +kernel
theorem dX8_byteAt_25 : decode cX8_byteAt 25 = .ok (.iload_n 1, 1) := by decide +kernel
theorem dX8_byteAt_26 : decode cX8_byteAt 26 = .ok (.iaload, 1) := by decide +kernel
theorem dX8_byteAt_27 : decode cX8_byteAt 27 = .ok (.goto 6, 3) := by decide +kernel
theorem dX8_byteAt_30 : decode cX8_byteAt 30 = .ok (.sipush 256, 3) := by decide +kernel
theorem dX8_byteAt_33 : decode cX8_byteAt 33 = .ok (.ireturn, 1) := by decide +kernel
theorem dX8_hasRoomFor_0 : decode cX8_hasRoomFor 0 = .ok (.aload_n 0, 1) := by decide +kernel
theorem dX8_hasRoomFor_1 : decode cX8_hasRoomFor 1 = .ok (.getfield 15, 3) := by decide +kernel
theorem dX8_hasRoomFor_4 : decode cX8_hasRoomFor 4 = .ok (.iload_n 1, 1) := by decide +kernel
theorem dX8_hasRoomFor_5 : decode cX8_hasRoomFor 5 = .ok (.iadd, 1) := by decide +kernel
theorem dX8_hasRoomFor_6 : decode cX8_hasRoomFor 6 = .ok (.sipush 2000, 3) := by decide +kernel
theorem dX8_hasRoomFor_9 : decode cX8_hasRoomFor 9 = .ok (.if_icmp .gt 7, 3) := by decide +kernel
theorem dX8_hasRoomFor_12 : decode cX8_hasRoomFor 12 = .ok (.iconst 1, 1) := by decide +kernel
theorem dX8_hasRoomFor_13 : decode cX8_hasRoomFor 13 = .ok (.goto 4, 3) := by decide +kernel
theorem dX8_hasRoomFor_16 : decode cX8_hasRoomFor 16 = .ok (.iconst 0, 1) := by decide +kernel
theorem dX8_hasRoomFor_17 : decode cX8_hasRoomFor 17 = .ok (.ireturn, 1) := by decide +kernel
theorem dX8_shortenTo_0 : decode cX8_shortenTo 0 = .ok (.aload_n 0, 1) := by decide +kernel
theorem dX8_shortenTo_1 : decode cX8_shortenTo 1 = .ok (.iload_n 1, 1) := by decide +kernel
theorem dX8_shortenTo_2 : decode cX8_shortenTo 2 = .ok (.putfield 15, 3) := by decide +kernel
theorem dX8_shortenTo_5 : decode cX8_shortenTo 5 = .ok (.return_, 1) := by decide +kernel
/-! the class's leaves, second part: Fist, Prize, Rail, Tape, Turn -/
section LeafC
variable {G : Gp} {S : AMem} {I : Nat → Nat → Int32} {J : Nat → Nat → Int64} {R : Nat → Nat → Option Nat} {a b a2 b2 : Nat}
theorem k_X3_tell {x : Int64} {p q r : Int32} (h1 : S.K a = 4) : Fn G mX3_tell 0 [vR a, vJ x, vI p, vI q, vI r] (mw S I J R) (fun rr M1 => rr = none ∧ M1 = mw S (up2 (up2 (up2 (up2 (up2 (up2 (up2 (up2 (up2 I a 1 p) a 2 q) a 3 r) a 4 0) a 5 0) a 6 0) a 7 0) a 8 0) a 9 0) (up2 J a 0 x) R) := by
  refine am_aload_n (q := 1) dX3_tell_0 rfl rfl ?_
  refine am_lload_n (q := 2) dX3_tell_1 rfl rfl ?_
  refine cm_putJ (q := 5) dX3_tell_2 flX3_7 rfl (Or.inl rfl) (by assumption) rfl ?_
  refine am_aload_n (q := 6) dX3_tell_5 rfl rfl ?_
  refine am_iload_n (q := 7) dX3_tell_6 rfl rfl ?_
  refine cm_putI (q := 10) dX3_tell_7 flX3_13 rfl (Or.inl rfl) (Or.inl rfl) (by assumption) rfl ?_
  refine am_aload_n (q := 11) dX3_tell_10 rfl rfl ?_
  refine am_iload (q := 13) dX3_tell_11 rfl rfl ?_
  refine cm_putI (q := 16) dX3_tell_13 flX3_17 rfl (Or.inl rfl) (Or.inl rfl) (by assumption) rfl ?_
  refine am_aload_n (q := 17) dX3_tell_16 rfl rfl ?_
  refine am_iload (q := 19) dX3_tell_17 rfl rfl ?_
  refine cm_putI (q := 22) dX3_tell_19 flX3_20 rfl (Or.inl rfl) (Or.inl rfl) (by assumption) rfl ?_
  refine am_aload_n (q := 23) dX3_tell_22 rfl rfl ?_
  refine am_iconst (q := 24) (v := 0) dX3_tell_23 kc_i0 rfl ?_
  refine cm_putI (q := 27) dX3_tell_24 flX3_23 rfl (Or.inl rfl) (Or.inl rfl) (by assumption) rfl ?_
  refine am_aload_n (q := 28) dX3_tell_27 rfl rfl ?_
  refine am_iconst (q := 29) (v := 0) dX3_tell_28 kc_i0 rfl ?_
  refine cm_putI (q := 32) dX3_tell_29 flX3_26 rfl (Or.inl rfl) (Or.inl rfl) (by assumption) rfl ?_
  refine am_aload_n (q := 33) dX3_tell_32 rfl rfl ?_
  refine am_iconst (q := 34) (v := 0) dX3_tell_33 kc_i0 rfl ?_
  refine cm_putI (q := 37) dX3_tell_34 flX3_29 rfl (Or.inl rfl) (Or.inl rfl) (by assumption) rfl ?_
  refine am_aload_n (q := 38) dX3_tell_37 rfl rfl ?_
  refine am_iconst (q := 39) (v := 0) dX3_tell_38 kc_i0 rfl ?_
  refine cm_putI (q := 42) dX3_tell_39 flX3_32 rfl (Or.inl rfl) (Or.inl rfl) (by assumption) rfl ?_
  refine am_aload_n (q := 43) dX3_tell_42 rfl rfl ?_
  refine am_iconst (q := 44) (v := 0) dX3_tell_43 kc_i0 rfl ?_
  refine cm_putI (q := 47) dX3_tell_44 flX3_35 rfl (Or.inl rfl) (Or.inl rfl) (by assumption) rfl ?_
  refine am_aload_n (q := 48) dX3_tell_47 rfl rfl ?_
  refine am_iconst (q := 49) (v := 0) dX3_tell_48 kc_i0 rfl ?_
  refine cm_putI (q := 52) dX3_tell_49 flX3_38 rfl (Or.inr (Or.inl rfl)) (Or.inl rfl) (by assumption) rfl ?_
  exact am_ret dX3_tell_52 rfl ⟨_, rfl, rfl, rfl⟩
theorem k_X3_forceWithArm {p : Int32} (h1 : S.K a = 4) : Fn G mX3_forceWithArm 0 [vR a, vI p] (mw S I J R) (fun rr M1 => rr = some (vI (if 0 < p + I a 2 - I a 4 then p + I a 2 - I a 4 else 0)) ∧ M1 = mw S I J R) := by
  refine am_iload_n (q := 1) dX3_forceWithArm_0 rfl rfl ?_
  refine am_aload_n (q := 2) dX3_forceWithArm_1 rfl rfl ?_
  refine cm_getI (q := 5) dX3_forceWithArm_2 flX3_17 rfl (by assumption) rfl ?_
  refine am_iadd (q := 6) dX3_forceWithArm_5 rfl ?_
  refine am_aload_n (q := 7) dX3_forceWithArm_6 rfl rfl ?_
  refine cm_getI (q := 10) dX3_forceWithArm_7 flX3_23 rfl (by assumption) rfl ?_
  refine am_isub (q := 11) dX3_forceWithArm_10 rfl ?_
  refine am_istore_n (q := 12) (ls1 := [_, _, _]) dX3_forceWithArm_11 (Nat.le_of_ble_eq_true rfl) rfl rfl ?_
  refine am_iload_n (q := 13) dX3_forceWithArm_12 rfl rfl ?_
  refine am_if_le (tgt := 20) (q := 16) dX3_forceWithArm_13 rfl rfl (fun hc => ?_) (fun hc => ?_)
  · refine am_iconst (q := 21) (v := 0) dX3_forceWithArm_20 kc_i0 rfl ?_
    exact am_iret dX3_forceWithArm_21 rfl rfl ⟨_, rfl, by rw [if_neg (by simpa using hc)], rfl⟩
  · refine am_iload_n (q := 17) dX3_forceWithArm_16 rfl rfl ?_
    refine am_goto (tgt := 21) dX3_forceWithArm_17 rfl ?_
    exact am_iret dX3_forceWithArm_21 rfl rfl ⟨_, rfl, by rw [if_pos (by simpa using hc)], rfl⟩
theorem k_X3_endRound (h1 : S.K a = 4) : Fn G mX3_endRound 0 [vR a] (mw S I J R) (fun rr M1 => rr = none ∧ M1 = mw S (up2 (if I a 9 = 0 then up2 I a 4 (if 3 < I a 4 then I a 4 - 3 else 0) else I) a 9 0) J R) := by
  refine am_aload_n (q := 1) dX3_endRound_0 rfl rfl ?_
  refine cm_getI (q := 4) dX3_endRound_1 flX3_38 rfl (by assumption) rfl ?_
  refine am_if_ne (tgt := 29) (q := 7) dX3_endRound_4 rfl rfl (fun hc => ?_) (fun hc => ?_)
  · refine am_aload_n (q := 30) dX3_endRound_29 rfl rfl ?_
    refine am_iconst (q := 31) (v := 0) dX3_endRound_30 kc_i0 rfl ?_
    refine cm_putI (q := 34) dX3_endRound_31 flX3_38 rfl (Or.inr (Or.inl rfl)) (Or.inl rfl) (by assumption) rfl ?_
    exact am_ret dX3_endRound_34 rfl ⟨_, rfl, rfl, by rw [if_neg hc]⟩
  · refine am_aload_n (q := 8) dX3_endRound_7 rfl rfl ?_
    refine am_aload_n (q := 9) dX3_endRound_8 rfl rfl ?_
    refine cm_getI (q := 12) dX3_endRound_9 flX3_23 rfl (by assumption) rfl ?_
    refine am_iconst (q := 13) (v := 3) dX3_endRound_12 kc_i3 rfl ?_
    refine am_icmp_le (tgt := 25) (q := 16) dX3_endRound_13 rfl rfl (fun hc2 => ?_) (fun hc2 => ?_)
    · refine am_iconst (q := 26) (v := 0) dX3_endRound_25 kc_i0 rfl ?_
      refine cm_putI (q := 29) dX3_endRound_26 flX3_23 rfl (Or.inl rfl) (Or.inl rfl) (by assumption) rfl ?_
      refine am_aload_n (q := 30) dX3_endRound_29 rfl rfl ?_
      refine am_iconst (q := 31) (v := 0) dX3_endRound_30 kc_i0 rfl ?_
      refine cm_putI (q := 34) dX3_endRound_31 flX3_38 rfl (Or.inr (Or.inl rfl)) (Or.inl rfl) (by assumption) rfl ?_
      exact am_ret dX3_endRound_34 rfl ⟨_, rfl, rfl, by rw [if_pos hc, if_neg (Int32.not_lt.mpr hc2)]⟩
    · refine am_aload_n (q := 17) dX3_endRound_16 rfl rfl ?_
      refine cm_getI (q := 20) dX3_endRound_17 flX3_23 rfl (by assumption) rfl ?_
      refine am_iconst (q := 21) (v := 3) dX3_endRound_20 kc_i3 rfl ?_
      refine am_isub (q := 22) dX3_endRound_21 rfl ?_
      refine am_goto (tgt := 26) dX3_endRound_22 rfl ?_
      refine cm_putI (q := 29) dX3_endRound_26 flX3_23 rfl (Or.inl rfl) (Or.inl rfl) (by assumption) rfl ?_
      refine am_aload_n (q := 30) dX3_endRound_29 rfl rfl ?_
      refine am_iconst (q := 31) (v := 0) dX3_endRound_30 kc_i0 rfl ?_
      refine cm_putI (q := 34) dX3_endRound_31 flX3_38 rfl (Or.inr (Or.inl rfl)) (Or.inl rfl) (by assumption) rfl ?_
      exact am_ret dX3_endRound_34 rfl ⟨_, rfl, rfl, by rw [if_pos hc, if_pos (Int32.not_le.mp hc2)]⟩
theorem k_X3_copyFrom (h1 : S.K a = 4) (h2 : S.K b = 4) (hab : b ≠ a) (h9 : I b 9 = 0 ∨ I b 9 = 1) : Fn G mX3_copyFrom 0 [vR a, vR b] (mw S I J R) (fun rr M1 => rr = none ∧ M1 = mw S (fun x j => if x = a ∧ 1 ≤ j ∧ j ≤ 9 then I b j else I x j) (up2 J a 0 (J b 0)) R) := by
  refine am_aload_n (q := 1) dX3_copyFrom_0 rfl rfl ?_
  refine am_aload_n (q := 2) dX3_copyFrom_1 rfl rfl ?_
  refine cm_getJ (q := 5) dX3_copyFrom_2 flX3_7 rfl (by assumption) rfl ?_
  refine cm_putJ (q := 8) dX3_copyFrom_5 flX3_7 rfl (Or.inl rfl) (by assumption) rfl ?_
  refine am_aload_n (q := 9) dX3_copyFrom_8 rfl rfl ?_
  refine am_aload_n (q := 10) dX3_copyFrom_9 rfl rfl ?_
  refine cm_getI (q := 13) dX3_copyFrom_10 flX3_13 rfl (by assumption) rfl ?_
  refine cm_putI (q := 16) dX3_copyFrom_13 flX3_13 rfl (Or.inl rfl) (Or.inl rfl) (by assumption) rfl ?_
  refine am_aload_n (q := 17) dX3_copyFrom_16 rfl rfl ?_
  refine am_aload_n (q := 18) dX3_copyFrom_17 rfl rfl ?_
  refine cm_getI (q := 21) dX3_copyFrom_18 flX3_17 rfl (by assumption) rfl ?_
  refine cm_putI (q := 24) dX3_copyFrom_21 flX3_17 rfl (Or.inl rfl) (Or.inl rfl) (by assumption) rfl ?_
  refine am_aload_n (q := 25) dX3_copyFrom_24 rfl rfl ?_
  refine am_aload_n (q := 26) dX3_copyFrom_25 rfl rfl ?_
  refine cm_getI (q := 29) dX3_copyFrom_26 flX3_20 rfl (by assumption) rfl ?_
  refine cm_putI (q := 32) dX3_copyFrom_29 flX3_20 rfl (Or.inl rfl) (Or.inl rfl) (by assumption) rfl ?_
  refine am_aload_n (q := 33) dX3_copyFrom_32 rfl rfl ?_
  refine am_aload_n (q := 34) dX3_copyFrom_33 rfl rfl ?_
  refine cm_getI (q := 37) dX3_copyFrom_34 flX3_23 rfl (by assumption) rfl ?_
  refine cm_putI (q := 40) dX3_copyFrom_37 flX3_23 rfl (Or.inl rfl) (Or.inl rfl) (by assumption) rfl ?_
  refine am_aload_n (q := 41) dX3_copyFrom_40 rfl rfl ?_
  refine am_aload_n (q := 42) dX3_copyFrom_41 rfl rfl ?_
  refine cm_getI (q := 45) dX3_copyFrom_42 flX3_26 rfl (by assumption) rfl ?_
  refine cm_putI (q := 48) dX3_copyFrom_45 flX3_26 rfl (Or.inl rfl) (Or.inl rfl) (by assumption) rfl ?_
  refine am_aload_n (q := 49) dX3_copyFrom_48 rfl rfl ?_
  refine am_aload_n (q := 50) dX3_copyFrom_49 rfl rfl ?_
  refine cm_getI (q := 53) dX3_copyFrom_50 flX3_29 rfl (by assumption) rfl ?_
  refine cm_putI (q := 56) dX3_copyFrom_53 flX3_29 rfl (Or.inl rfl) (Or.inl rfl) (by assumption) rfl ?_
  refine am_aload_n (q := 57) dX3_copyFrom_56 rfl rfl ?_
  refine am_aload_n (q := 58) dX3_copyFrom_57 rfl rfl ?_
  refine cm_getI (q := 61) dX3_copyFrom_58 flX3_32 rfl (by assumption) rfl ?_
  refine cm_putI (q := 64) dX3_copyFrom_61 flX3_32 rfl (Or.inl rfl) (Or.inl rfl) (by assumption) rfl ?_
  refine am_aload_n (q := 65) dX3_copyFrom_64 rfl rfl ?_
  refine am_aload_n (q := 66) dX3_copyFrom_65 rfl rfl ?_
  refine cm_getI (q := 69) dX3_copyFrom_66 flX3_35 rfl (by assumption) rfl ?_
  refine cm_putI (q := 72) dX3_copyFrom_69 flX3_35 rfl (Or.inl rfl) (Or.inl rfl) (by assumption) rfl ?_
  refine am_aload_n (q := 73) dX3_copyFrom_72 rfl rfl ?_
  refine am_aload_n (q := 74) dX3_copyFrom_73 rfl rfl ?_
  refine cm_getI (q := 77) dX3_copyFrom_74 flX3_38 rfl (by assumption) rfl ?_
  refine cm_putI (q := 80) dX3_copyFrom_77 flX3_38 rfl (Or.inr (by
      simp only [up2_a hab]
      exact h9)) (Or.inl rfl) (by assumption) rfl ?_
  exact am_ret dX3_copyFrom_80 rfl ⟨_, rfl, rfl, by
      congr 1
      funext x j
      simp only [up2_at]
      grind (splits := 30)⟩
theorem k_X5_tell {x : Int64} {p q r t : Int32} (h1 : S.K a = 6) : Fn G mX5_tell 0 [vR a, vJ x, vI p, vI q, vI r, vI t] (mw S I J R) (fun rr M1 => rr = none ∧ M1 = mw S (up2 (up2 (up2 (up2 (up2 I a 1 p) a 2 0) a 3 q) a 4 r) a 5 t) (up2 J a 0 x) R) := by
  refine am_aload_n (q := 1) dX5_tell_0 rfl rfl ?_
  refine am_lload_n (q := 2) dX5_tell_1 rfl rfl ?_
  refine cm_putJ (q := 5) dX5_tell_2 flX5_7 rfl (Or.inl rfl) (by assumption) rfl ?_
  refine am_aload_n (q := 6) dX5_tell_5 rfl rfl ?_
  refine am_iload_n (q := 7) dX5_tell_6 rfl rfl ?_
  refine cm_putI (q := 10) dX5_tell_7 flX5_13 rfl (Or.inl rfl) (Or.inl rfl) (by assumption) rfl ?_
  refine am_aload_n (q := 11) dX5_tell_10 rfl rfl ?_
  refine am_iconst (q := 12) (v := 0) dX5_tell_11 kc_i0 rfl ?_
  refine cm_putI (q := 15) dX5_tell_12 flX5_17 rfl (Or.inl rfl) (Or.inl rfl) (by assumption) rfl ?_
  refine am_aload_n (q := 16) dX5_tell_15 rfl rfl ?_
  refine am_iload (q := 18) dX5_tell_16 rfl rfl ?_
  refine cm_putI (q := 21) dX5_tell_18 flX5_20 rfl (Or.inl rfl) (Or.inl rfl) (by assumption) rfl ?_
  refine am_aload_n (q := 22) dX5_tell_21 rfl rfl ?_
  refine am_iload (q := 24) dX5_tell_22 rfl rfl ?_
  refine cm_putI (q := 27) dX5_tell_24 flX5_23 rfl (Or.inl rfl) (Or.inl rfl) (by assumption) rfl ?_
  refine am_aload_n (q := 28) dX5_tell_27 rfl rfl ?_
  refine am_iload (q := 30) dX5_tell_28 rfl rfl ?_
  refine cm_putI (q := 33) dX5_tell_30 flX5_26 rfl (Or.inl rfl) (Or.inl rfl) (by assumption) rfl ?_
  exact am_ret dX5_tell_33 rfl ⟨_, rfl, rfl, rfl⟩
theorem k_X5_copyFrom (hG : okG G) (h1 : S.K a = 6) (h2 : S.K b = 6) (hab : b ≠ a) : Fn G mX5_copyFrom 1 [vR a, vR b] (mw S I J R) (fun rr M1 => rr = none ∧ M1 = mw S (fun x j => if x = a ∧ 1 ≤ j ∧ j ≤ 5 then I b j else I x j) (up2 J a 0 (J b 0)) R) := by
  refine am_aload_n (q := 1) dX5_copyFrom_0 rfl rfl ?_
  refine am_aload_n (q := 2) dX5_copyFrom_1 rfl rfl ?_
  refine cm_getJ (q := 5) dX5_copyFrom_2 flX5_7 rfl (by assumption) rfl ?_
  refine am_aload_n (q := 6) dX5_copyFrom_5 rfl rfl ?_
  refine cm_getI (q := 9) dX5_copyFrom_6 flX5_13 rfl (by assumption) rfl ?_
  refine am_aload_n (q := 10) dX5_copyFrom_9 rfl rfl ?_
  refine cm_getI (q := 13) dX5_copyFrom_10 flX5_20 rfl (by assumption) rfl ?_
  refine am_aload_n (q := 14) dX5_copyFrom_13 rfl rfl ?_
  refine cm_getI (q := 17) dX5_copyFrom_14 flX5_23 rfl (by assumption) rfl ?_
  refine am_aload_n (q := 18) dX5_copyFrom_17 rfl rfl ?_
  refine cm_getI (q := 21) dX5_copyFrom_18 flX5_26 rfl (by assumption) rfl ?_
  refine cm_call0 (q := 24) (As := [_, _, _, _, _]) hG dX5_copyFrom_21 mlX5_29 rfl (by assumption) ⟨_, _, rfl⟩ (Nat.le_of_ble_eq_true rfl) (Nat.le_of_ble_eq_true rfl) (Nat.le_of_ble_eq_true rfl) (Nat.le_of_ble_eq_true rfl) (k_X5_tell h1) rfl ?_
  rintro _ _ ⟨rfl, rfl⟩
  refine am_aload_n (q := 25) dX5_copyFrom_24 rfl rfl ?_
  refine am_aload_n (q := 26) dX5_copyFrom_25 rfl rfl ?_
  refine cm_getI (q := 29) dX5_copyFrom_26 flX5_17 rfl (by assumption) rfl ?_
  refine cm_putI (q := 32) dX5_copyFrom_29 flX5_17 rfl (Or.inl rfl) (Or.inl rfl) (by assumption) rfl ?_
  exact am_ret dX5_copyFrom_32 rfl ⟨_, rfl, rfl, by
      congr 1
      funext x j
      simp only [up2_at]
      grind (splits := 30)⟩
theorem k_X10_tell {p q r t : Int32} (h1 : S.K a = 11) : Fn G mX10_tell 0 [vR a, vI p, vI q, vI r, vI t] (mw S I J R) (fun rr M1 => rr = none ∧ M1 = mw S (up2 (up2 (up2 (up2 I a 0 p) a 1 q) a 2 r) a 3 t) J R) := by
  refine am_aload_n (q := 1) dX10_tell_0 rfl rfl ?_
  refine am_iload_n (q := 2) dX10_tell_1 rfl rfl ?_
  refine cm_putI (q := 5) dX10_tell_2 flX10_7 rfl (Or.inl rfl) (Or.inl rfl) (by assumption) rfl ?_
  refine am_aload_n (q := 6) dX10_tell_5 rfl rfl ?_
  refine am_iload_n (q := 7) dX10_tell_6 rfl rfl ?_
  refine cm_putI (q := 10) dX10_tell_7 flX10_13 rfl (Or.inl rfl) (Or.inl rfl) (by assumption) rfl ?_
  refine am_aload_n (q := 11) dX10_tell_10 rfl rfl ?_
  refine am_iload_n (q := 12) dX10_tell_11 rfl rfl ?_
  refine cm_putI (q := 15) dX10_tell_12 flX10_16 rfl (Or.inl rfl) (Or.inl rfl) (by assumption) rfl ?_
  refine am_aload_n (q := 16) dX10_tell_15 rfl rfl ?_
  refine am_iload (q := 18) dX10_tell_16 rfl rfl ?_
  refine cm_putI (q := 21) dX10_tell_18 flX10_19 rfl (Or.inl rfl) (Or.inl rfl) (by assumption) rfl ?_
  exact am_ret dX10_tell_21 rfl ⟨_, rfl, rfl, rfl⟩
theorem k_X10_copyFrom (hG : okG G) (h1 : S.K a = 11) (h2 : S.K b = 11) : Fn G mX10_copyFrom 1 [vR a, vR b] (mw S I J R) (fun rr M1 => rr = none ∧ M1 = mw S (fun x j => if x = a ∧ j ≤ 3 then I b j else I x j) J R) := by
  refine am_aload_n (q := 1) dX10_copyFrom_0 rfl rfl ?_
  refine am_aload_n (q := 2) dX10_copyFrom_1 rfl rfl ?_
  refine cm_getI (q := 5) dX10_copyFrom_2 flX10_7 rfl (by assumption) rfl ?_
  refine am_aload_n (q := 6) dX10_copyFrom_5 rfl rfl ?_
  refine cm_getI (q := 9) dX10_copyFrom_6 flX10_13 rfl (by assumption) rfl ?_
  refine am_aload_n (q := 10) dX10_copyFrom_9 rfl rfl ?_
  refine cm_getI (q := 13) dX10_copyFrom_10 flX10_16 rfl (by assumption) rfl ?_
  refine am_aload_n (q := 14) dX10_copyFrom_13 rfl rfl ?_
  refine cm_getI (q := 17) dX10_copyFrom_14 flX10_19 rfl (by assumption) rfl ?_
  refine cm_call0 (q := 20) (As := [_, _, _, _]) hG dX10_copyFrom_17 mlX10_22 rfl (by assumption) ⟨_, _, rfl⟩ (Nat.le_of_ble_eq_true rfl) (Nat.le_of_ble_eq_true rfl) (Nat.le_of_ble_eq_true rfl) (Nat.le_of_ble_eq_true rfl) (k_X10_tell h1) rfl ?_
  rintro _ _ ⟨rfl, rfl⟩
  exact am_ret dX10_copyFrom_20 rfl ⟨_, rfl, rfl, by
      congr 1
      funext x j
      simp only [up2_at]
      grind (splits := 30)⟩
theorem k_X6_rustAt {i : Int32} (h1 : S.K a = 7) (h2 : R a 0 = some b) (h3 : S.K b = 20) (h4 : S.ln b = 100) : Fn G mX6_rustAt 0 [vR a, vI i] (mw S I J R) (fun rr M1 => rr = some (vI (if 0 ≤ i ∧ i < 100 then I b i.toNatClampNeg else 0)) ∧ M1 = mw S I J R) := by
  refine am_iload_n (q := 1) dX6_rustAt_0 rfl rfl ?_
  refine am_if_lt (tgt := 22) (q := 4) dX6_rustAt_1 rfl rfl (fun hc => ?_) (fun hc => ?_)
  · refine am_iconst (q := 23) (v := 0) dX6_rustAt_22 kc_i0 rfl ?_
    exact am_iret dX6_rustAt_23 rfl rfl ⟨_, rfl, by rw [if_neg (fun z => Int32.not_le.mpr hc z.1)], rfl⟩
  · refine am_iload_n (q := 5) dX6_rustAt_4 rfl rfl ?_
    refine am_aload_n (q := 6) dX6_rustAt_5 rfl rfl ?_
    refine cm_getR (q := 9) dX6_rustAt_6 flX6_9 rfl (by assumption) (by assumption) rfl ?_
    refine cm_alenI (q := 10) dX6_rustAt_9 (by assumption) (by rw [h4] : nI (S.ln b) = nI 100) rfl ?_
    refine am_icmp_ge (tgt := 22) (q := 13) dX6_rustAt_10 rfl rfl (fun hc2 => ?_) (fun hc2 => ?_)
    · refine am_iconst (q := 23) (v := 0) dX6_rustAt_22 kc_i0 rfl ?_
      exact am_iret dX6_rustAt_23 rfl rfl ⟨_, rfl, by rw [if_neg (fun z => Int32.not_le.mpr z.2 hc2)], rfl⟩
    · refine am_aload_n (q := 14) dX6_rustAt_13 rfl rfl ?_
      refine cm_getR (q := 17) dX6_rustAt_14 flX6_9 rfl (by assumption) (by assumption) rfl ?_
      refine am_iload_n (q := 18) dX6_rustAt_17 rfl rfl ?_
      refine cm_iaload (q := 19) dX6_rustAt_18 (by assumption) (by rw [h4]; exact k_inI (v := 100) rfl (by decide) hc (Int32.not_le.mp hc2)) rfl ?_
      refine am_goto (tgt := 23) dX6_rustAt_19 rfl ?_
      exact am_iret dX6_rustAt_23 rfl rfl ⟨_, rfl, by rw [if_pos ⟨Int32.not_lt.mp hc, Int32.not_le.mp hc2⟩], rfl⟩
theorem k_X6_tell {x : Int64} {p q r : Int32} (h1 : S.K a = 7) (h2 : R a 0 = some b) (h3 : S.K b = 20) (h4 : S.ln b = 100) (hab : a ≠ b) : Fn G mX6_tell 0 [vR a, vJ x, vI p, vI q, vI r] (mw S I J R) (fun rr M1 => rr = none ∧ M1 = mw S (fun x j => if x = b ∧ j < 100 then 0 else up2 (up2 (up2 (up2 (up2 I a 2 p) a 3 q) a 4 r) a 5 0) a 6 0 x j) (up2 J a 1 x) R) := by
  refine am_aload_n (q := 1) dX6_tell_0 rfl rfl ?_
  refine am_lload_n (q := 2) dX6_tell_1 rfl rfl ?_
  refine cm_putJ (q := 5) dX6_tell_2 flX6_13 rfl (Or.inl rfl) (by assumption) rfl ?_
  refine am_aload_n (q := 6) dX6_tell_5 rfl rfl ?_
  refine am_iload_n (q := 7) dX6_tell_6 rfl rfl ?_
  refine cm_putI (q := 10) dX6_tell_7 flX6_17 rfl (Or.inl rfl) (Or.inl rfl) (by assumption) rfl ?_
  refine am_aload_n (q := 11) dX6_tell_10 rfl rfl ?_
  refine am_iload (q := 13) dX6_tell_11 rfl rfl ?_
  refine cm_putI (q := 16) dX6_tell_13 flX6_21 rfl (Or.inl rfl) (Or.inl rfl) (by assumption) rfl ?_
  refine am_aload_n (q := 17) dX6_tell_16 rfl rfl ?_
  refine am_iload (q := 19) dX6_tell_17 rfl rfl ?_
  refine cm_putI (q := 22) dX6_tell_19 flX6_24 rfl (Or.inl rfl) (Or.inl rfl) (by assumption) rfl ?_
  refine am_aload_n (q := 23) dX6_tell_22 rfl rfl ?_
  refine am_iconst (q := 24) (v := 0) dX6_tell_23 kc_i0 rfl ?_
  refine cm_putI (q := 27) dX6_tell_24 flX6_27 rfl (Or.inl rfl) (Or.inl rfl) (by assumption) rfl ?_
  refine am_aload_n (q := 28) dX6_tell_27 rfl rfl ?_
  refine am_iconst (q := 29) (v := 0) dX6_tell_28 kc_i0 rfl ?_
  refine cm_putI (q := 32) dX6_tell_29 flX6_30 rfl (Or.inl rfl) (Or.inl rfl) (by assumption) rfl ?_
  refine am_iconst (q := 33) (v := 0) dX6_tell_32 kc_i0 rfl ?_
  refine am_istore (q := 35) (ls1 := [_, _, _, _, _, _, _]) dX6_tell_33 (Nat.le_of_ble_eq_true rfl) rfl rfl ?_
  refine k_loop (σ := Nat → Nat → Int32) (n := 100) (Inv := fun i I1 => ∀ x j, I1 x j = if x = b ∧ j < i then 0 else up2 (up2 (up2 (up2 (up2 I a 2 p) a 3 q) a 4 r) a 5 0) a 6 0 x j) (W := fun i I1 => MW G mX6_tell 0 35 [some (vR a), some (vJ x), none, some (vI p), some (vI q), some (vI r), some (vI (nI i))] [] (mw S I1 (up2 J a 1 x) R) _) ?_ ?_ 0 _ (Nat.zero_le _) (fun x j => by rw [if_neg (by omega)])
  · intro i I1 hi hI ih
    have hcl : (nI i).toNatClampNeg = i := nI_clamp (by omega)
    refine am_iload (q := 37) dX6_tell_35 rfl rfl ?_
    refine am_aload_n (q := 38) dX6_tell_37 rfl rfl ?_
    refine cm_getR (q := 41) dX6_tell_38 flX6_9 rfl (by assumption) (by assumption) rfl ?_
    refine cm_alenI (q := 42) dX6_tell_41 (by assumption) (by rw [h4] : nI (S.ln b) = nI 100) rfl ?_
    refine am_icmp_ge (tgt := 59) (q := 45) dX6_tell_42 rfl rfl (fun hz => absurd hz (nI_ge (by omega) (by decide))) (fun _ => ?_)
    refine am_aload_n (q := 46) dX6_tell_45 rfl rfl ?_
    refine cm_getR (q := 49) dX6_tell_46 flX6_9 rfl (by assumption) (by assumption) rfl ?_
    refine am_iload (q := 51) dX6_tell_49 rfl rfl ?_
    refine am_iconst (q := 52) (v := 0) dX6_tell_51 kc_i0 rfl ?_
    refine cm_iastore (q := 53) dX6_tell_52 (by assumption) (by rw [h4]; exact vp_in_nI (by omega) (by decide)) rfl ?_
    refine am_iincW (q := 56) (ls1 := [_, _, _, _, _, _, _]) (w := 1) dX6_tell_53 rfl (Nat.le_of_ble_eq_true rfl) kc_i1 rfl rfl ?_
    refine am_goto (tgt := 35) dX6_tell_56 rfl ?_
    rw [nI_1]
    refine ih _ fun x j => ?_
    rw [up2_at, hcl, hI]
    grind (splits := 30)
  · intro I1 hI
    refine am_iload (q := 37) dX6_tell_35 rfl rfl ?_
    refine am_aload_n (q := 38) dX6_tell_37 rfl rfl ?_
    refine cm_getR (q := 41) dX6_tell_38 flX6_9 rfl (by assumption) (by assumption) rfl ?_
    refine cm_alenI (q := 42) dX6_tell_41 (by assumption) (by rw [h4] : nI (S.ln b) = nI 100) rfl ?_
    refine am_icmp_ge (tgt := 59) (q := 45) dX6_tell_42 rfl rfl (fun _ => ?_) (fun hz => absurd (Int32.le_refl _) hz)
    exact am_ret dX6_tell_59 rfl ⟨_, rfl, rfl, by
      congr 1
      funext x j
      exact hI x j⟩
theorem k_X6_addRust {p q r : Int32} (h1 : S.K a = 7) (h2 : R a 0 = some b) (h3 : S.K b = 20) (h4 : S.ln b = 100) : Fn G mX6_addRust 0 [vR a, vI p, vI q, vI r] (mw S I J R) (fun rr M1 => rr = none ∧ M1 = mw S (fun x j => if x = b ∧ j < 100 ∧ p ≤ nI j ∧ nI j ≤ q then I x j + r else I x j) J R) := by
  refine am_iconst (q := 1) (v := 0) dX6_addRust_0 kc_i0 rfl ?_
  refine am_istore (q := 3) (ls1 := [_, _, _, _, _]) dX6_addRust_1 (Nat.le_of_ble_eq_true rfl) rfl rfl ?_
  refine k_loop (σ := Nat → Nat → Int32) (n := 100) (Inv := fun i I1 => ∀ x j, I1 x j = if x = b ∧ j < i ∧ p ≤ nI j ∧ nI j ≤ q then I x j + r else I x j) (W := fun i I1 => MW G mX6_addRust 0 3 [some (vR a), some (vI p), some (vI q), some (vI r), some (vI (nI i))] [] (mw S I1 J R) _) ?_ ?_ 0 _ (Nat.zero_le _) (fun x j => by rw [if_neg (by omega)])
  · intro i I1 hi hI ih
    have hcl : (nI i).toNatClampNeg = i := nI_clamp (by omega)
    have hin : vp_in (nI i) (S.ln b) := by rw [h4]; exact vp_in_nI (by omega) (by decide)
    refine am_iload (q := 5) dX6_addRust_3 rfl rfl ?_
    refine am_aload_n (q := 6) dX6_addRust_5 rfl rfl ?_
    refine cm_getR (q := 9) dX6_addRust_6 flX6_9 rfl (by assumption) (by assumption) rfl ?_
    refine cm_alenI (q := 10) dX6_addRust_9 (by assumption) (by rw [h4] : nI (S.ln b) = nI 100) rfl ?_
    refine am_icmp_ge (tgt := 42) (q := 13) dX6_addRust_10 rfl rfl (fun hz => absurd hz (nI_ge (by omega) (by decide))) (fun _ => ?_)
    refine am_iload (q := 15) dX6_addRust_13 rfl rfl ?_
    refine am_iload_n (q := 16) dX6_addRust_15 rfl rfl ?_
    refine am_icmp_lt (tgt := 36) (q := 19) dX6_addRust_16 rfl rfl (fun hc => ?_) (fun hc => ?_)
    · refine am_iincW (q := 39) (ls1 := [_, _, _, _, _]) (w := 1) dX6_addRust_36 rfl (Nat.le_of_ble_eq_true rfl) kc_i1 rfl rfl ?_
      refine am_goto (tgt := 3) dX6_addRust_39 rfl ?_
      rw [nI_1]
      refine ih _ fun x j => ?_
      have := Int32.not_le.mpr hc
      rw [hI]
      grind (splits := 30)
    · refine am_iload (q := 21) dX6_addRust_19 rfl rfl ?_
      refine am_iload_n (q := 22) dX6_addRust_21 rfl rfl ?_
      refine am_icmp_gt (tgt := 36) (q := 25) dX6_addRust_22 rfl rfl (fun hc2 => ?_) (fun hc2 => ?_)
      · refine am_iincW (q := 39) (ls1 := [_, _, _, _, _]) (w := 1) dX6_addRust_36 rfl (Nat.le_of_ble_eq_true rfl) kc_i1 rfl rfl ?_
        refine am_goto (tgt := 3) dX6_addRust_39 rfl ?_
        rw [nI_1]
        refine ih _ fun x j => ?_
        have := Int32.not_le.mpr hc2
        rw [hI]
        grind (splits := 30)
      · have e1 := Int32.not_lt.mp hc
        have e2 := Int32.not_lt.mp hc2
        refine am_aload_n (q := 26) dX6_addRust_25 rfl rfl ?_
        refine cm_getR (q := 29) dX6_addRust_26 flX6_9 rfl (by assumption) (by assumption) rfl ?_
        refine am_iload (q := 31) dX6_addRust_29 rfl rfl ?_
        refine am_dup2_11 (q := 32) dX6_addRust_31 rfl rfl rfl ?_
        refine cm_iaload (q := 33) dX6_addRust_32 (by assumption) hin rfl ?_
        refine am_iload_n (q := 34) dX6_addRust_33 rfl rfl ?_
        refine am_iadd (q := 35) dX6_addRust_34 rfl ?_
        refine cm_iastore (q := 36) dX6_addRust_35 (by assumption) hin rfl ?_
        refine am_iincW (q := 39) (ls1 := [_, _, _, _, _]) (w := 1) dX6_addRust_36 rfl (Nat.le_of_ble_eq_true rfl) kc_i1 rfl rfl ?_
        refine am_goto (tgt := 3) dX6_addRust_39 rfl ?_
        rw [nI_1]
        refine ih _ fun x j => ?_
        rw [up2_at, hcl, hI, hI]
        grind (splits := 30)
  · intro I1 hI
    refine am_iload (q := 5) dX6_addRust_3 rfl rfl ?_
    refine am_aload_n (q := 6) dX6_addRust_5 rfl rfl ?_
    refine cm_getR (q := 9) dX6_addRust_6 flX6_9 rfl (by assumption) (by assumption) rfl ?_
    refine cm_alenI (q := 10) dX6_addRust_9 (by assumption) (by rw [h4] : nI (S.ln b) = nI 100) rfl ?_
    refine am_icmp_ge (tgt := 42) (q := 13) dX6_addRust_10 rfl rfl (fun _ => ?_) (fun hz => absurd (Int32.le_refl _) hz)
    exact am_ret dX6_addRust_42 rfl ⟨_, rfl, rfl, by
      congr 1
      funext x j
      exact hI x j⟩
theorem k_X6_copyFrom (hG : okG G) (h1 : S.K a = 7) (h2 : R a 0 = some b) (h3 : S.K b = 20) (h4 : S.ln b = 100) (g1 : S.K a2 = 7) (g2 : R a2 0 = some b2) (g3 : S.K b2 = 20) (g4 : S.ln b2 = 100) (n1 : a2 ≠ a) (n2 : a2 ≠ b) (n3 : b2 ≠ a) (n4 : b2 ≠ b) (n5 : a ≠ b) : Fn G mX6_copyFrom 1 [vR a, vR a2] (mw S I J R) (fun rr M1 => rr = none ∧ M1 = mw S (fun x j => if x = b ∧ j < 100 then I b2 j else if x = a ∧ 2 ≤ j ∧ j ≤ 6 then I a2 j else I x j) (up2 J a 1 (J a2 1)) R) := by
  refine am_aload_n (q := 1) dX6_copyFrom_0 rfl rfl ?_
  refine am_aload_n (q := 2) dX6_copyFrom_1 rfl rfl ?_
  refine cm_getJ (q := 5) dX6_copyFrom_2 flX6_13 rfl (by assumption) rfl ?_
  refine cm_putJ (q := 8) dX6_copyFrom_5 flX6_13 rfl (Or.inl rfl) (by assumption) rfl ?_
  refine am_aload_n (q := 9) dX6_copyFrom_8 rfl rfl ?_
  refine am_aload_n (q := 10) dX6_copyFrom_9 rfl rfl ?_
  refine cm_getI (q := 13) dX6_copyFrom_10 flX6_17 rfl (by assumption) rfl ?_
  refine cm_putI (q := 16) dX6_copyFrom_13 flX6_17 rfl (Or.inl rfl) (Or.inl rfl) (by assumption) rfl ?_
  refine am_aload_n (q := 17) dX6_copyFrom_16 rfl rfl ?_
  refine am_aload_n (q := 18) dX6_copyFrom_17 rfl rfl ?_
  refine cm_getI (q := 21) dX6_copyFrom_18 flX6_21 rfl (by assumption) rfl ?_
  refine cm_putI (q := 24) dX6_copyFrom_21 flX6_21 rfl (Or.inl rfl) (Or.inl rfl) (by assumption) rfl ?_
  refine am_aload_n (q := 25) dX6_copyFrom_24 rfl rfl ?_
  refine am_aload_n (q := 26) dX6_copyFrom_25 rfl rfl ?_
  refine cm_getI (q := 29) dX6_copyFrom_26 flX6_24 rfl (by assumption) rfl ?_
  refine cm_putI (q := 32) dX6_copyFrom_29 flX6_24 rfl (Or.inl rfl) (Or.inl rfl) (by assumption) rfl ?_
  refine am_aload_n (q := 33) dX6_copyFrom_32 rfl rfl ?_
  refine am_aload_n (q := 34) dX6_copyFrom_33 rfl rfl ?_
  refine cm_getI (q := 37) dX6_copyFrom_34 flX6_27 rfl (by assumption) rfl ?_
  refine cm_putI (q := 40) dX6_copyFrom_37 flX6_27 rfl (Or.inl rfl) (Or.inl rfl) (by assumption) rfl ?_
  refine am_aload_n (q := 41) dX6_copyFrom_40 rfl rfl ?_
  refine am_aload_n (q := 42) dX6_copyFrom_41 rfl rfl ?_
  refine cm_getI (q := 45) dX6_copyFrom_42 flX6_30 rfl (by assumption) rfl ?_
  refine cm_putI (q := 48) dX6_copyFrom_45 flX6_30 rfl (Or.inl rfl) (Or.inl rfl) (by assumption) rfl ?_
  refine am_iconst (q := 49) (v := 0) dX6_copyFrom_48 kc_i0 rfl ?_
  refine am_istore_n (q := 50) (ls1 := [_, _, _]) dX6_copyFrom_49 (Nat.le_of_ble_eq_true rfl) rfl rfl ?_
  refine k_loop (σ := Nat → Nat → Int32) (n := 100) (Inv := fun i I1 => ∀ x j, I1 x j = if x = b ∧ j < i then I b2 j else if x = a ∧ 2 ≤ j ∧ j ≤ 6 then I a2 j else I x j) (W := fun i I1 => MW G mX6_copyFrom 1 50 [some (vR a), some (vR a2), some (vI (nI i))] [] (mw S I1 (up2 J a 1 (J a2 1)) R) _) ?_ ?_ 0 _ (Nat.zero_le _) (fun x j => by
      simp only [up2_at]
      grind (splits := 30))
  · intro i I1 hi hI ih
    have hcl : (nI i).toNatClampNeg = i := nI_clamp (by omega)
    have e2 : I1 b2 i = I b2 i := by rw [hI]; grind (splits := 30)
    have e3 : (0 : Int32) ≤ nI i ∧ nI i < 100 := ⟨nI_pos' (by omega), nI_lt (b := 100) (by omega) (by decide)⟩
    refine am_iload_n (q := 51) dX6_copyFrom_50 rfl rfl ?_
    refine am_aload_n (q := 52) dX6_copyFrom_51 rfl rfl ?_
    refine cm_getR (q := 55) dX6_copyFrom_52 flX6_9 rfl (by assumption) (by assumption) rfl ?_
    refine cm_alenI (q := 56) dX6_copyFrom_55 (by assumption) (by rw [h4] : nI (S.ln b) = nI 100) rfl ?_
    refine am_icmp_ge (tgt := 76) (q := 59) dX6_copyFrom_56 rfl rfl (fun hz => absurd hz (nI_ge (by omega) (by decide))) (fun _ => ?_)
    refine am_aload_n (q := 60) dX6_copyFrom_59 rfl rfl ?_
    refine cm_getR (q := 63) dX6_copyFrom_60 flX6_9 rfl (by assumption) (by assumption) rfl ?_
    refine am_iload_n (q := 64) dX6_copyFrom_63 rfl rfl ?_
    refine am_aload_n (q := 65) dX6_copyFrom_64 rfl rfl ?_
    refine am_iload_n (q := 66) dX6_copyFrom_65 rfl rfl ?_
    refine cm_call0 (q := 69) (As := [_]) hG dX6_copyFrom_66 mlX6_33 rfl (by assumption) ⟨_, _, rfl⟩ (Nat.le_of_ble_eq_true rfl) (Nat.le_of_ble_eq_true rfl) (Nat.le_of_ble_eq_true rfl) (Nat.le_of_ble_eq_true rfl) (k_X6_rustAt g1 g2 g3 g4) rfl ?_
    rintro _ _ ⟨rfl, rfl⟩
    refine cm_iastore (q := 70) dX6_copyFrom_69 (by assumption) (by rw [h4]; exact vp_in_nI (by omega) (by decide)) rfl ?_
    refine am_iincW (q := 73) (ls1 := [_, _, _]) (w := 1) dX6_copyFrom_70 rfl (Nat.le_of_ble_eq_true rfl) kc_i1 rfl rfl ?_
    refine am_goto (tgt := 50) dX6_copyFrom_73 rfl ?_
    rw [nI_1]
    refine ih _ fun x j => ?_
    rw [up2_at, hcl, if_pos e3, e2, hI]
    grind (splits := 30)
  · intro I1 hI
    refine am_iload_n (q := 51) dX6_copyFrom_50 rfl rfl ?_
    refine am_aload_n (q := 52) dX6_copyFrom_51 rfl rfl ?_
    refine cm_getR (q := 55) dX6_copyFrom_52 flX6_9 rfl (by assumption) (by assumption) rfl ?_
    refine cm_alenI (q := 56) dX6_copyFrom_55 (by assumption) (by rw [h4] : nI (S.ln b) = nI 100) rfl ?_
    refine am_icmp_ge (tgt := 76) (q := 59) dX6_copyFrom_56 rfl rfl (fun _ => ?_) (fun hz => absurd (Int32.le_refl _) hz)
    exact am_ret dX6_copyFrom_76 rfl ⟨_, rfl, rfl, by
      congr 1
      funext x j
      exact hI x j⟩
theorem k_X8_hasRoomFor {i : Int32} (h1 : S.K a = 9) : Fn G mX8_hasRoomFor 0 [vR a, vI i] (mw S I J R) (fun rr M1 => rr = some (vI (bI (I a 1 + i ≤ 2000))) ∧ M1 = mw S I J R) := by
  refine am_aload_n (q := 1) dX8_hasRoomFor_0 rfl rfl ?_
  refine cm_getI (q := 4) dX8_hasRoomFor_1 flX8_15 rfl (by assumption) rfl ?_
  refine am_iload_n (q := 5) dX8_hasRoomFor_4 rfl rfl ?_
  refine am_iadd (q := 6) dX8_hasRoomFor_5 rfl ?_
  refine am_sipush (q := 9) (v := 2000) dX8_hasRoomFor_6 kc_s2000 rfl ?_
  refine am_icmp_gt (tgt := 16) (q := 12) dX8_hasRoomFor_9 rfl rfl (fun hc => ?_) (fun hc => ?_)
  · refine am_iconst (q := 17) (v := 0) dX8_hasRoomFor_16 kc_i0 rfl ?_
    exact am_iret dX8_hasRoomFor_17 rfl rfl ⟨_, rfl, by rw [bI_f (Int32.not_le.mpr hc)], rfl⟩
  · refine am_iconst (q := 13) (v := 1) dX8_hasRoomFor_12 kc_i1 rfl ?_
    refine am_goto (tgt := 17) dX8_hasRoomFor_13 rfl ?_
    exact am_iret dX8_hasRoomFor_17 rfl rfl ⟨_, rfl, by rw [bI_t (Int32.not_lt.mp hc)], rfl⟩
theorem k_X8_shortenTo {i : Int32} (h1 : S.K a = 9) : Fn G mX8_shortenTo 0 [vR a, vI i] (mw S I J R) (fun rr M1 => rr = none ∧ M1 = mw S (up2 I a 1 i) J R) := by
  refine am_aload_n (q := 1) dX8_shortenTo_0 rfl rfl ?_
  refine am_iload_n (q := 2) dX8_shortenTo_1 rfl rfl ?_
  refine cm_putI (q := 5) dX8_shortenTo_2 flX8_15 rfl (Or.inl rfl) (Or.inl rfl) (by assumption) rfl ?_
  exact am_ret dX8_shortenTo_5 rfl ⟨_, rfl, rfl, rfl⟩
theorem k_X8_byteAt {i : Int32} (h1 : S.K a = 9) (h2 : R a 0 = some b) (h3 : S.K b = 20) (h4 : S.ln b = 2000) : Fn G mX8_byteAt 0 [vR a, vI i] (mw S I J R) (fun rr M1 => rr = some (vI (if 0 ≤ i ∧ i < I a 1 ∧ i < 2000 then I b i.toNatClampNeg else 256)) ∧ M1 = mw S I J R) := by
  refine am_iload_n (q := 1) dX8_byteAt_0 rfl rfl ?_
  refine am_if_lt (tgt := 30) (q := 4) dX8_byteAt_1 rfl rfl (fun hc => ?_) (fun hc => ?_)
  · refine am_sipush (q := 33) (v := 256) dX8_byteAt_30 kc_s256 rfl ?_
    exact am_iret dX8_byteAt_33 rfl rfl ⟨_, rfl, by rw [if_neg (fun z => Int32.not_le.mpr hc z.1)], rfl⟩
  · refine am_iload_n (q := 5) dX8_byteAt_4 rfl rfl ?_
    refine am_aload_n (q := 6) dX8_byteAt_5 rfl rfl ?_
    refine cm_getI (q := 9) dX8_byteAt_6 flX8_15 rfl (by assumption) rfl ?_
    refine am_icmp_ge (tgt := 30) (q := 12) dX8_byteAt_9 rfl rfl (fun hc2 => ?_) (fun hc2 => ?_)
    · refine am_sipush (q := 33) (v := 256) dX8_byteAt_30 kc_s256 rfl ?_
      exact am_iret dX8_byteAt_33 rfl rfl ⟨_, rfl, by rw [if_neg (fun z => Int32.not_le.mpr z.2.1 hc2)], rfl⟩
    · refine am_iload_n (q := 13) dX8_byteAt_12 rfl rfl ?_
      refine am_aload_n (q := 14) dX8_byteAt_13 rfl rfl ?_
      refine cm_getR (q := 17) dX8_byteAt_14 flX8_11 rfl (by assumption) (by assumption) rfl ?_
      refine cm_alenI (q := 18) dX8_byteAt_17 (by assumption) (by rw [h4] : nI (S.ln b) = nI 2000) rfl ?_
      refine am_icmp_ge (tgt := 30) (q := 21) dX8_byteAt_18 rfl rfl (fun hc3 => ?_) (fun hc3 => ?_)
      · refine am_sipush (q := 33) (v := 256) dX8_byteAt_30 kc_s256 rfl ?_
        exact am_iret dX8_byteAt_33 rfl rfl ⟨_, rfl, by rw [if_neg (fun z => Int32.not_le.mpr z.2.2 hc3)], rfl⟩
      · refine am_aload_n (q := 22) dX8_byteAt_21 rfl rfl ?_
        refine cm_getR (q := 25) dX8_byteAt_22 flX8_11 rfl (by assumption) (by assumption) rfl ?_
        refine am_iload_n (q := 26) dX8_byteAt_25 rfl rfl ?_
        refine cm_iaload (q := 27) dX8_byteAt_26 (by assumption) (by rw [h4]; exact k_inI (v := 2000) rfl (by decide) hc (Int32.not_le.mp hc3)) rfl ?_
        refine am_goto (tgt := 33) dX8_byteAt_27 rfl ?_
        exact am_iret dX8_byteAt_33 rfl rfl ⟨_, rfl, by rw [if_pos ⟨Int32.not_lt.mp hc, Int32.not_le.mp hc2, Int32.not_le.mp hc3⟩], rfl⟩
end LeafC
end
section
theorem kc_bm20 : (Int8.ofInt (-20)).toInt32 = (-20) := by decide +kernel
theorem kc_b20 : (Int8.ofInt 20).toInt32 = 20 := by decide +kernel
theorem kc_b30 : (Int8.ofInt 30).toInt32 = 30 := by decide +kernel
theorem kc_i4 : Int32.ofInt 4 = 4 := by decide +kernel
theorem dX4_fly_0 : decode cX4_fly 0 = .ok (.aload_n 0, 1) := by decide +kernel
theorem dX4_fly_1 : decode cX4_fly 1 = .ok (.iconst 0, 1) := by decide +kernel
theorem dX4_fly_2 : decode cX4_fly 2 = .ok (.putfield 13, 3) := by decide +kernel
theorem dX4_fly_5 : decode cX4_fly 5 = .ok (.aload_n 0, 1) := by decide +kernel
theorem dX4_fly_6 : decode cX4_fly 6 = .ok (.iconst 0, 1) := by decide +kernel
theorem dX4_fly_7 : decode cX4_fly 7 = .ok (.putfield 17, 3) := by decide +kernel
theorem dX4_fly_10 : decode cX4_fly 10 = .ok (.aload_n 0, 1) := by decide +kernel
theorem dX4_fly_11 : decode cX4_fly 11 = .ok (.iconst 0, 1) := by decide +kernel
theorem dX4_fly_12 : decode cX4_fly 12 = .ok (.putfield 20, 3) := by decide +kernel
theorem dX4_fly_15 : decode cX4_fly 15 = .ok (.aload_n 0, 1) := by decide +kernel
theorem dX4_fly_16 : decode cX4_fly 16 = .ok (.iconst 0, 1) := by decide +kernel
theorem dX4_fly_17 : decode cX4_fly 17 = .ok (.putfield 23, 3) := by decide +kernel
theorem dX4_fly_20 : decode cX4_fly 20 = .ok (.aload_n 0, 1) := by decide +kernel
theorem dX4_fly_21 : decode cX4_fly 21 = .ok (.aload_n 1, 1) := by decide +kernel
theorem dX4_fly_22 : decode cX4_fly 22 = .ok (.getfield 26, 3) := by decide +kernel
theorem dX4_fly_25 : decode cX4_fly 25 = .ok (.ifCond .le 14, 3) := by decide +kernel
theorem dX4_fly_28 : decode cX4_fly 28 = .ok (.iconst 4, 1) := by decide +kernel
theorem dX4_fly_29 : decode cX4_fly 29 = .ok (.iload_n 2, 1) := by decide +kernel
theorem dX4_fly_30 : decode cX4_fly 30 = .ok (.imul, 1) := by decide +kernel
theorem dX4_fly_31 : decode cX4_fly 31 = .ok (.aload_n 1, 1) := by decide +kernel
theorem dX4_fly_32 : decode cX4_fly 32 = .ok (.getfield 26, 3) := by decide +kernel
theorem dX4_fly_35 : decode cX4_fly 35 = .ok (.idiv, 1) := by decide +kernel
theorem dX4_fly_36 : decode cX4_fly 36 = .ok (.goto 4, 3) := by decide +kernel
theorem dX4_fly_40 : decode cX4_fly 40 = .ok (.putfield 31, 3) := by decide +kernel
theorem dX4_fly_43 : decode cX4_fly 43 = .ok (.aload_n 0, 1) := by decide +kernel
theorem dX4_fly_44 : decode cX4_fly 44 = .ok (.aload_n 0, 1) := by decide +kernel
theorem dX4_fly_45 : decode cX4_fly 45 = .ok (.getfield 31, 3) := by decide +kernel
theorem dX4_fly_48 : decode cX4_fly 48 = .ok (.ifCond .ne 7, 3) := by decide +kernel
theorem dX4_fly_51 : decode cX4_fly 51 = .ok (.iconst 1, 1) := by decide +kernel
theorem dX4_fly_52 : decode cX4_fly 52 = .ok (.goto 4, 3) := by decide +kernel
theorem dX4_fly_55 : decode cX4_fly 55 = .ok (.iconst 0, 1) := by decide +kernel
theorem dX4_fly_56 : decode cX4_fly 56 = .ok (.putfield 34, 3) := by decide +kernel
theorem dX4_fly_59 : decode cX4_fly 59 = .ok (.iconst 1, 1) := by decide +kernel
theorem dX4_fly_60 : decode cX4_fly 60 = .ok (.istore_n 3, 1) := by decide +kernel
theorem dX4_fly_61 : decode cX4_fly 61 = .ok (.iload_n 3, 1) := by decide +kernel
theorem dX4_fly_62 : decode cX4_fly 62 = .ok (.aload_n 0, 1) := by decide +kernel
theorem dX4_fly_63 : decode cX4_fly 63 = .ok (.getfield 9, 3) := by decide +kernel
theorem dX4_fly_66 : decode cX4_fly 66 = .ok (.arraylength, 1) := by decide +kernel
theorem dX4_fly_67 : decode cX4_fly 67 = .ok (.if_icmp .ge 62, 3) := by decide +kernel
theorem dX4_fly_70 : decode cX4_fly 70 = .ok (.aload_n 0, 1) := by decide +kernel
theorem dX4_fly_71 : decode cX4_fly 71 = .ok (.getfield 34, 3) := by decide +kernel
theorem dX4_fly_74 : decode cX4_fly 74 = .ok (.ifCond .ne 55, 3) := by decide +kernel
theorem dX4_fly_77 : decode cX4_fly 77 = .ok (.aload_n 0, 1) := by decide +kernel
theorem dX4_fly_78 : decode cX4_fly 78 = .ok (.aload_n 1, 1) := by decide +kernel
theorem dX4_fly_79 : decode cX4_fly 79 = .ok (.invokevirtual 38, 3) := by decide +kernel
theorem dX4_fly_82 : decode cX4_fly 82 = .ok (.aload_n 0, 1) := by decide +kernel
theorem dX4_fly_83 : decode cX4_fly 83 = .ok (.getfield 9, 3) := by decide +kernel
theorem dX4_fly_86 : decode cX4_fly 86 = .ok (.iload_n 3, 1) := by decide +kernel
theorem dX4_fly_87 : decode cX4_fly 87 = .ok (.aload_n 0, 1) := by decide +kernel
theorem dX4_fly_88 : decode cX4_fly 88 = .ok (.getfield 23, 3) := by decide +kernel
theorem dX4_fly_91 : decode cX4_fly 91 = .ok (.iastore, 1) := by decide +kernel
theorem dX4_fly_92 : decode cX4_fly 92 = .ok (.aload_n 0, 1) := by decide +kernel
theorem dX4_fly_93 : decode cX4_fly 93 = .ok (.aload_n 0, 1) := by decide +kernel
theorem dX4_fly_94 : decode cX4_fly 94 = .ok (.getfield 23, 3) := by decide +kernel
theorem dX4_fly_97 : decode cX4_fly 97 = .ok (.aload_n 0, 1) := by decide +kernel
theorem dX4_fly_98 : decode cX4_fly 98 = .ok (.getfield 13, 3) := by decide +kernel
theorem dX4_fly_101 : decode cX4_fly 101 = .ok (.if_icmp .le 10, 3) := by decide +kernel
theorem dX4_fly_104 : decode cX4_fly 104 = .ok (.aload_n 0, 1) := by decide +kernel
theorem dX4_fly_105 : decode cX4_fly 105 = .ok (.getfield 23, 3) := by decide +kernel
theorem dX4_fly_108 : decode cX4_fly 108 = .ok (.goto 7, 3) := by decide +kernel
theorem dX4_fly_111 : decode cX4_fly 111 = .ok (.aload_n 0, 1) := by decide +kernel
theorem dX4_fly_112 : decode cX4_fly 112 = .ok (.getfield 13, 3) := by decide +kernel
theorem dX4_fly_115 : decode cX4_fly 115 = .ok (.putfield 13, 3) := by decide +kernel
theorem dX4_fly_118 : decode cX4_fly 118 = .ok (.aload_n 0, 1) := by decide +kernel
theorem dX4_fly_119 : decode cX4_fly 119 = .ok (.iload_n 3, 1) := by decide +kernel
theorem dX4_fly_120 : decode cX4_fly 120 = .ok (.putfield 20, 3) := by decide +kernel
theorem dX4_fly_123 : decode cX4_fly 123 = .ok (.iinc 3 1, 3) := by decide +kernel
theorem dX4_fly_126 : decode cX4_fly 126 = .ok (.goto (-65), 3) := by decide +kernel
theorem dX4_fly_129 : decode cX4_fly 129 = .ok (.return_, 1) := by decide +kernel
theorem dX4_move_0 : decode cX4_move 0 = .ok (.aload_n 0, 1) := by decide +kernel
theorem dX4_move_1 : decode cX4_move 1 = .ok (.dup, 1) := by decide +kernel
theorem dX4_move_2 : decode cX4_move 2 = .ok (.getfield 23, 3) := by decide +kernel
theorem dX4_move_5 : decode cX4_move 5 = .ok (.aload_n 0, 1) := by decide +kernel
theorem dX4_move_6 : decode cX4_move 6 = .ok (.getfield 31, 3) := by decide +kernel
theorem dX4_move_9 : decode cX4_move 9 = .ok (.iadd, 1) := by decide +kernel
theorem dX4_move_10 : decode cX4_move 10 = .ok (.putfield 23, 3) := by decide +kernel
theorem dX4_move_13 : decode cX4_move 13 = .ok (.aload_n 0, 1) := by decide +kernel
theorem dX4_move_14 : decode cX4_move 14 = .ok (.getfield 23, 3) := by decide +kernel
theorem dX4_move_17 : decode cX4_move 17 = .ok (.aload_n 1, 1) := by decide +kernel
theorem dX4_move_18 : decode cX4_move 18 = .ok (.getfield 42, 3) := by decide +kernel
theorem dX4_move_21 : decode cX4_move 21 = .ok (.if_icmp .lt 41, 3) := by decide +kernel
theorem dX4_move_24 : decode cX4_move 24 = .ok (.aload_n 0, 1) := by decide +kernel
theorem dX4_move_25 : decode cX4_move 25 = .ok (.aload_n 1, 1) := by decide +kernel
theorem dX4_move_26 : decode cX4_move 26 = .ok (.getfield 42, 3) := by decide +kernel
theorem dX4_move_29 : decode cX4_move 29 = .ok (.putfield 23, 3) := by decide +kernel
theorem dX4_move_32 : decode cX4_move 32 = .ok (.aload_n 0, 1) := by decide +kernel
theorem dX4_move_33 : decode cX4_move 33 = .ok (.dup, 1) := by decide +kernel
theorem dX4_move_34 : decode cX4_move 34 = .ok (.getfield 17, 3) := by decide +kernel
theorem dX4_move_37 : decode cX4_move 37 = .ok (.iconst 1, 1) := by decide +kernel
theorem dX4_move_38 : decode cX4_move 38 = .ok (.iadd, 1) := by decide +kernel
theorem dX4_move_39 : decode cX4_move 39 = .ok (.putfield 17, 3) := by decide +kernel
theorem dX4_move_42 : decode cX4_move 42 = .ok (.aload_n 0, 1) := by decide +kernel
theorem dX4_move_43 : decode cX4_move 43 = .ok (.aload_n 0, 1) := by decide +kernel
theorem dX4_move_44 : decode cX4_move 44 = .ok (.getfield 31, 3) := by decide +kernel
theorem dX4_move_47 : decode cX4_move 47 = .ok (.aload_n 1, 1) := by decide +kernel
theorem dX4_move_48 : decode cX4_move 48 = .ok (.getfield 45, 3) := by decide +kernel
theorem dX4_move_51 : decode cX4_move 51 = .ok (.imul, 1) := by decide +kernel
theorem dX4_move_52 : decode cX4_move 52 = .ok (.bipush 20, 2) := by decide +kernel
theorem dX4_move_54 : decode cX4_move 54 = .ok (.idiv, 1) := by decide +kernel
theorem dX4_move_55 : decode cX4_move 55 = .ok (.ineg, 1) := by decide +kernel
theorem dX4_move_56 : decode cX4_move 56 = .ok (.putfield 31, 3) := by decide +kernel
theorem dX4_move_59 : decode cX4_move 59 = .ok (.goto 49, 3) := by decide +kernel
theorem dX4_move_62 : decode cX4_move 62 = .ok (.aload_n 0, 1) := by decide +kernel
theorem dX4_move_63 : decode cX4_move 63 = .ok (.getfield 23, 3) := by decide +kernel
theorem dX4_move_66 : decode cX4_move 66 = .ok (.ifCond .gt 42, 3) := by decide +kernel
theorem dX4_move_69 : decode cX4_move 69 = .ok (.aload_n 0, 1) := by decide +kernel
theorem dX4_move_70 : decode cX4_move 70 = .ok (.iconst 0, 1) := by decide +kernel
theorem dX4_move_71 : decode cX4_move 71 = .ok (.putfield 23, 3) := by decide +kernel
theorem dX4_move_74 : decode cX4_move 74 = .ok (.aload_n 0, 1) := by decide +kernel
theorem dX4_move_75 : decode cX4_move 75 = .ok (.aload_n 0, 1) := by decide +kernel
theorem dX4_move_76 : decode cX4_move 76 = .ok (.getfield 31, 3) := by decide +kernel
theorem dX4_move_79 : decode cX4_move 79 = .ok (.ineg, 1) := by decide +kernel
theorem dX4_move_80 : decode cX4_move 80 = .ok (.aload_n 1, 1) := by decide +kernel
theorem dX4_move_81 : decode cX4_move 81 = .ok (.getfield 45, 3) := by decide +kernel
theorem dX4_move_84 : decode cX4_move 84 = .ok (.imul, 1) := by decide +kernel
theorem dX4_move_85 : decode cX4_move 85 = .ok (.bipush 30, 2) := by decide +kernel
theorem dX4_move_87 : decode cX4_move 87 = .ok (.idiv, 1) := by decide +kernel
theorem dX4_move_88 : decode cX4_move 88 = .ok (.putfield 31, 3) := by decide +kernel
theorem dX4_move_91 : decode cX4_move 91 = .ok (.aload_n 0, 1) := by decide +kernel
theorem dX4_move_92 : decode cX4_move 92 = .ok (.aload_n 0, 1) := by decide +kernel
theorem dX4_move_93 : decode cX4_move 93 = .ok (.getfield 31, 3) := by decide +kernel
theorem dX4_move_96 : decode cX4_move 96 = .ok (.iconst 1, 1) := by decide +kernel
theorem dX4_move_97 : decode cX4_move 97 = .ok (.if_icmp .gt 7, 3) := by decide +kernel
theorem dX4_move_100 : decode cX4_move 100 = .ok (.iconst 1, 1) := by decide +kernel
theorem dX4_move_101 : decode cX4_move 101 = .ok (.goto 4, 3) := by decide +kernel
theorem dX4_move_104 : decode cX4_move 104 = .ok (.iconst 0, 1) := by decide +kernel
theorem dX4_move_105 : decode cX4_move 105 = .ok (.putfield 34, 3) := by decide +kernel
theorem dX4_move_108 : decode cX4_move 108 = .ok (.aload_n 0, 1) := by decide +kernel
theorem dX4_move_109 : decode cX4_move 109 = .ok (.getfield 31, 3) := by decide +kernel
theorem dX4_move_112 : decode cX4_move 112 = .ok (.ifCond .le 35, 3) := by decide +kernel
theorem dX4_move_115 : decode cX4_move 115 = .ok (.aload_n 0, 1) := by decide +kernel
theorem dX4_move_116 : decode cX4_move 116 = .ok (.getfield 31, 3) := by decide +kernel
theorem dX4_move_119 : decode cX4_move 119 = .ok (.iconst 1, 1) := by decide +kernel
theorem dX4_move_120 : decode cX4_move 120 = .ok (.isub, 1) := by decide +kernel
theorem dX4_move_121 : decode cX4_move 121 = .ok (.aload_n 1, 1) := by decide +kernel
theorem dX4_move_122 : decode cX4_move 122 = .ok (.aload_n 0, 1) := by decide +kernel
theorem dX4_move_123 : decode cX4_move 123 = .ok (.getfield 23, 3) := by decide +kernel
theorem dX4_move_126 : decode cX4_move 126 = .ok (.invokevirtual 48, 3) := by decide +kernel
theorem dX4_move_129 : decode cX4_move 129 = .ok (.isub, 1) := by decide +kernel
theorem dX4_move_130 : decode cX4_move 130 = .ok (.istore_n 2, 1) := by decide +kernel
theorem dX4_move_131 : decode cX4_move 131 = .ok (.aload_n 0, 1) := by decide +kernel
theorem dX4_move_132 : decode cX4_move 132 = .ok (.iload_n 2, 1) := by decide +kernel
theorem dX4_move_133 : decode cX4_move 133 = .ok (.ifCond .le 7, 3) := by decide +kernel
theorem dX4_move_136 : decode cX4_move 136 = .ok (.iload_n 2, 1) := by decide +kernel
theorem dX4_move_137 : decode cX4_move 137 = .ok (.goto 4, 3) := by decide +kernel
theorem dX4_move_140 : decode cX4_move 140 = .ok (.iconst 0, 1) := by decide +kernel
theorem dX4_move_141 : decode cX4_move 141 = .ok (.putfield 31, 3) := by decide +kernel
theorem dX4_move_144 : decode cX4_move 144 = .ok (.goto 29, 3) := by decide +kernel
theorem dX4_move_147 : decode cX4_move 147 = .ok (.aload_n 0, 1) := by decide +kernel
theorem dX4_move_148 : decode cX4_move 148 = .ok (.aload_n 0, 1) := by decide +kernel
theorem dX4_move_149 : decode cX4_move 149 = .ok (.getfield 31, 3) := by decide +kernel
theorem dX4_move_152 : decode cX4_move 152 = .ok (.iconst 1, 1) := by decide +kernel
theorem dX4_move_153 : decode cX4_move 153 = .ok (.isub, 1) := by decide +kernel
theorem dX4_move_154 : decode cX4_move 154 = .ok (.bipush (-20), 2) := by decide +kernel
theorem dX4_move_156 : decode cX4_move 156 = .ok (.if_icmp .le 12, 3) := by decide +kernel
theorem dX4_move_159 : decode cX4_move 159 = .ok (.aload_n 0, 1) := by decide +kernel
theorem dX4_move_160 : decode cX4_move 160 = .ok (.getfield 31, 3) := by decide +kernel
theorem dX4_move_163 : decode cX4_move 163 = .ok (.iconst 1, 1) := by decide +kernel
theorem dX4_move_164 : decode cX4_move 164 = .ok (.isub, 1) := by decide +kernel
theorem dX4_move_165 : decode cX4_move 165 = .ok (.goto 5, 3) := by decide +kernel
theorem dX4_move_168 : decode cX4_move 168 = .ok (.bipush (-20), 2) := by decide +kernel
theorem dX4_move_170 : decode cX4_move 170 = .ok (.putfield 31, 3) := by decide +kernel
theorem dX4_move_173 : decode cX4_move 173 = .ok (.return_, 1) := by decide +kernel
theorem dX4_placeBehind_0 : decode cX4_placeBehind 0 = .ok (.iload_n 1, 1) := by decide +kernel
theorem dX4_placeBehind_1 : decode cX4_placeBehind 1 = .ok (.ifCond .le 29, 3) := by decide +kernel
theorem dX4_placeBehind_4 : decode cX4_placeBehind 4 = .ok (.iload_n 1, 1) := by decide +kernel
theorem dX4_placeBehind_5 : decode cX4_placeBehind 5 = .ok (.aload_n 0, 1) := by decide +kernel
theorem dX4_placeBehind_6 : decode cX4_placeBehind 6 = .ok (.getfield 20, 3) := by decide +kernel
theorem dX4_placeBehind_9 : decode cX4_placeBehind 9 = .ok (.if_icmp .gt 21, 3) := by decide +kernel
theorem dX4_placeBehind_12 : decode cX4_placeBehind 12 = .ok (.iload_n 1, 1) := by decide +kernel
theorem dX4_placeBehind_13 : decode cX4_placeBehind 13 = .ok (.aload_n 0, 1) := by decide +kernel
theorem dX4_placeBehind_14 : decode cX4_placeBehind 14 = .ok (.getfield 9, 3) := by decide +kernel
theorem dX4_placeBehind_17 : decode cX4_placeBehind 17 = .ok (.arraylength, 1) := by decide +kernel
theorem dX4_placeBehind_18 : decode cX4_placeBehind 18 = .ok (.if_icmp .ge 12, 3) := by decide +kernel
theorem dX4_placeBehind_21 : decode cX4_placeBehind 21 = .ok (.aload_n 0, 1) := by decide +kernel
theorem dX4_placeBehind_22 : decode cX4_placeBehind 22 = .ok (.getfield 9, 3) := by decide +kernel
theorem dX4_placeBehind_25 : decode cX4_placeBehind 25 = .ok (.iload_n 1, 1) := by decide +kernel
theorem dX4_placeBehind_26 : decode cX4_placeBehind 26 = .ok (.iaload, 1) := by decide +kernel
theorem dX4_placeBehind_27 : decode cX4_placeBehind 27 = .ok (.goto 4, 3) := by decide +kernel
theorem dX4_placeBehind_30 : decode cX4_placeBehind 30 = .ok (.iconst 0, 1) := by decide +kernel
theorem dX4_placeBehind_31 : decode cX4_placeBehind 31 = .ok (.ireturn, 1) := by decide +kernel
/-! the flight: what it is, and the class's Flight -/
def fP (hi pl v : Int32) : Int32 := if hi ≤ pl + v then hi else if pl + v ≤ 0 then 0 else pl + v
def fV (hi sp pl v : Int32) : Int32 := if hi ≤ pl + v then -(v * sp / 20) else if pl + v ≤ 0 then -v * sp / 30 else v
def fO (hi sp pl v o : Int32) : Int32 := if hi ≤ pl + v then o else if pl + v ≤ 0 then bI (-v * sp / 30 ≤ 1) else o
def fB (hi pl v b : Int32) : Int32 := if hi ≤ pl + v then b + 1 else b
def fW (r v : Int32) : Int32 := if 0 < v then (if 0 < v - 1 - r then v - 1 - r else 0) else if -20 < v - 1 then v - 1 else -20
/-- behind n ticks: place, speed, height, bells, ticks, whether it is over -/
def flS (hi sp : Int32) (ru : Int32 → Int32) (v0 : Int32) : Nat → Int32 × Int32 × Int32 × Int32 × Nat × Int32
  | 0 => (0, v0, 0, 0, 0, bI (v0 = 0))
  | n + 1 =>
    let s := flS hi sp ru v0 n
    if s.2.2.2.2.2 = 0 then
      (fP hi s.1 s.2.1, fW (ru (fP hi s.1 s.2.1)) (fV hi sp s.1 s.2.1), if s.2.2.1 < fP hi s.1 s.2.1 then fP hi s.1 s.2.1 else s.2.2.1, fB hi s.1 s.2.1 s.2.2.2.1, s.2.2.2.2.1 + 1, fO hi sp s.1 s.2.1 s.2.2.2.2.2)
    else s
theorem flS_stop {hi sp : Int32} {ru : Int32 → Int32} {v0 : Int32} {n : Nat} (h : (flS hi sp ru v0 n).2.2.2.2.2 ≠ 0) : ∀ m, flS hi sp ru v0 (n + m) = flS hi sp ru v0 n := by
  intro m
  induction m with
  | zero => rfl
  | succ m ih =>
    show (if (flS hi sp ru v0 (n + m)).2.2.2.2.2 = 0 then _ else flS hi sp ru v0 (n + m)) = _
    rw [ih, if_neg h]
theorem flS_ticks {hi sp : Int32} {ru : Int32 → Int32} {v0 : Int32} : ∀ n, (flS hi sp ru v0 n).2.2.2.2.1 ≤ n ∧ ((flS hi sp ru v0 n).2.2.2.2.2 = 0 → (flS hi sp ru v0 n).2.2.2.2.1 = n) ∧ flS hi sp ru v0 (flS hi sp ru v0 n).2.2.2.2.1 = flS hi sp ru v0 n ∧ ∀ m, m < (flS hi sp ru v0 n).2.2.2.2.1 → (flS hi sp ru v0 m).2.2.2.2.2 = 0 := by
  intro n
  induction n with
  | zero => exact ⟨Nat.le_refl _, fun _ => rfl, rfl, fun m h => absurd h (Nat.not_lt_zero m)⟩
  | succ n ih =>
    obtain ⟨h1, h2, h3, h4⟩ := ih
    by_cases h : (flS hi sp ru v0 n).2.2.2.2.2 = 0
    · have e := h2 h
      have et : (flS hi sp ru v0 (n + 1)).2.2.2.2.1 = n + 1 := by
        show (if (flS hi sp ru v0 n).2.2.2.2.2 = 0 then _ else flS hi sp ru v0 n).2.2.2.2.1 = n + 1
        rw [if_pos h]
        show (flS hi sp ru v0 n).2.2.2.2.1 + 1 = n + 1
        rw [e]
      refine ⟨by rw [et]; exact Nat.le_refl _, fun _ => et, by rw [et], fun m hm => ?_⟩
      rw [et] at hm
      by_cases q : m = n
      · rw [q]
        exact h
      · exact h4 m (by rw [e]; omega)
    · have e : flS hi sp ru v0 (n + 1) = flS hi sp ru v0 n := flS_stop h 1
      rw [e]
      exact ⟨by omega, fun q => absurd q h, h3, h4⟩
theorem k_nm {P : (Nat → Nat → Int32) → Prop} (I0 : Nat → Nat → Int32) (h : ∀ Im : Nat → Nat → Int32, (∀ x j, Im x j = I0 x j) → P Im) : P I0 := h I0 (fun _ _ => rfl)
section FlightB
variable {G : Gp} {S : AMem} {I : Nat → Nat → Int32} {J : Nat → Nat → Int64} {R : Nat → Nat → Option Nat} {a b r u : Nat}
/-- the rust of the class at a place -/
def ruC (I : Nat → Nat → Int32) (u : Nat) (p : Int32) : Int32 := if 0 ≤ p ∧ p < 100 then I u p.toNatClampNeg else 0
theorem k_X4_move_tail (hG : okG G) (h1 : S.K a = 5) (g1 : S.K r = 7) (g2 : R r 0 = some u) (g3 : S.K u = 20) (g4 : S.ln u = 100) {I0 : Nat → Nat → Int32} {Q : (Option AV ⊕ Nat) → AMem → Prop} (hQ : Q (.inl none) (mw S (up2 I0 a 5 (fW (ruC I0 u (I0 a 4)) (I0 a 5))) J R)) : MW G mX4_move 1 108 [some (vR a), some (vR r), none] [] (mw S I0 J R) Q := by
  refine am_aload_n (q := 109) dX4_move_108 rfl rfl ?_
  refine cm_getI (q := 112) dX4_move_109 flX4_31 rfl (by assumption) rfl ?_
  refine am_if_le (tgt := 147) (q := 115) dX4_move_112 rfl rfl (fun hc => ?_) (fun hc => ?_)
  · refine am_aload_n (q := 148) dX4_move_147 rfl rfl ?_
    refine am_aload_n (q := 149) dX4_move_148 rfl rfl ?_
    refine cm_getI (q := 152) dX4_move_149 flX4_31 rfl (by assumption) rfl ?_
    refine am_iconst (q := 153) (v := 1) dX4_move_152 kc_i1 rfl ?_
    refine am_isub (q := 154) dX4_move_153 rfl ?_
    refine am_bipush (q := 156) (v := (-20)) dX4_move_154 kc_bm20 rfl ?_
    refine am_icmp_le (tgt := 168) (q := 159) dX4_move_156 rfl rfl (fun hc2 => ?_) (fun hc2 => ?_)
    · refine am_bipush (q := 170) (v := (-20)) dX4_move_168 kc_bm20 rfl ?_
      refine cm_putI (q := 173) dX4_move_170 flX4_31 rfl (Or.inl rfl) (Or.inl rfl) (by assumption) rfl ?_
      exact am_ret dX4_move_173 rfl (by rw [fW, if_neg (Int32.not_lt.mpr hc), if_neg (Int32.not_lt.mpr hc2)] at hQ; exact hQ)
    · refine am_aload_n (q := 160) dX4_move_159 rfl rfl ?_
      refine cm_getI (q := 163) dX4_move_160 flX4_31 rfl (by assumption) rfl ?_
      refine am_iconst (q := 164) (v := 1) dX4_move_163 kc_i1 rfl ?_
      refine am_isub (q := 165) dX4_move_164 rfl ?_
      refine am_goto (tgt := 170) dX4_move_165 rfl ?_
      refine cm_putI (q := 173) dX4_move_170 flX4_31 rfl (Or.inl rfl) (Or.inl rfl) (by assumption) rfl ?_
      exact am_ret dX4_move_173 rfl (by rw [fW, if_neg (Int32.not_lt.mpr hc), if_pos (Int32.not_le.mp hc2)] at hQ; exact hQ)
  · refine am_aload_n (q := 116) dX4_move_115 rfl rfl ?_
    refine cm_getI (q := 119) dX4_move_116 flX4_31 rfl (by assumption) rfl ?_
    refine am_iconst (q := 120) (v := 1) dX4_move_119 kc_i1 rfl ?_
    refine am_isub (q := 121) dX4_move_120 rfl ?_
    refine am_aload_n (q := 122) dX4_move_121 rfl rfl ?_
    refine am_aload_n (q := 123) dX4_move_122 rfl rfl ?_
    refine cm_getI (q := 126) dX4_move_123 flX4_23 rfl (by assumption) rfl ?_
    refine cm_call0 (q := 129) (As := [_]) hG dX4_move_126 mlX4_48 rfl (by assumption) ⟨_, _, rfl⟩ (Nat.le_of_ble_eq_true rfl) (Nat.le_of_ble_eq_true rfl) (Nat.le_of_ble_eq_true rfl) (Nat.le_of_ble_eq_true rfl) (k_X6_rustAt g1 g2 g3 g4) rfl ?_
    rintro _ _ ⟨rfl, rfl⟩
    refine am_isub (q := 130) dX4_move_129 rfl ?_
    refine am_istore_n (q := 131) (ls1 := [_, _, _]) dX4_move_130 (Nat.le_of_ble_eq_true rfl) rfl rfl ?_
    refine am_aload_n (q := 132) dX4_move_131 rfl rfl ?_
    refine am_iload_n (q := 133) dX4_move_132 rfl rfl ?_
    refine am_if_le (tgt := 140) (q := 136) dX4_move_133 rfl rfl (fun hc2 => ?_) (fun hc2 => ?_)
    · refine am_iconst (q := 141) (v := 0) dX4_move_140 kc_i0 rfl ?_
      refine cm_putI (q := 144) dX4_move_141 flX4_31 rfl (Or.inl rfl) (Or.inl rfl) (by assumption) rfl ?_
      refine am_goto (tgt := 173) dX4_move_144 rfl ?_
      exact am_ret dX4_move_173 rfl (by have hc3 : I0 a 5 - 1 - ruC I0 u (I0 a 4) ≤ 0 := hc2; rw [fW, if_pos (Int32.not_le.mp hc), if_neg (Int32.not_lt.mpr hc3)] at hQ; exact hQ)
    · refine am_iload_n (q := 137) dX4_move_136 rfl rfl ?_
      refine am_goto (tgt := 141) dX4_move_137 rfl ?_
      refine cm_putI (q := 144) dX4_move_141 flX4_31 rfl (Or.inl rfl) (Or.inl rfl) (by assumption) rfl ?_
      refine am_goto (tgt := 173) dX4_move_144 rfl ?_
      exact am_ret dX4_move_173 rfl (by have hc3 : ¬ I0 a 5 - 1 - ruC I0 u (I0 a 4) ≤ 0 := hc2; rw [fW, if_pos (Int32.not_le.mp hc), if_pos (Int32.not_le.mp hc3)] at hQ; exact hQ)
theorem k_X4_move (hG : okG G) (h1 : S.K a = 5) (g1 : S.K r = 7) (g2 : R r 0 = some u) (g3 : S.K u = 20) (g4 : S.ln u = 100) : Fn G mX4_move 1 [vR a, vR r] (mw S I J R) (fun rr M1 => rr = none ∧ M1 = mw S (fun x j => if x = a ∧ j = 4 then fP (I r 2) (I a 4) (I a 5) else if x = a ∧ j = 5 then fW (ruC I u (fP (I r 2) (I a 4) (I a 5))) (fV (I r 2) (I r 4) (I a 4) (I a 5)) else if x = a ∧ j = 2 then fB (I r 2) (I a 4) (I a 5) (I a 2) else if x = a ∧ j = 6 then fO (I r 2) (I r 4) (I a 4) (I a 5) (I a 6) else I x j) J R) := by
  have n1 : r ≠ a := fun e => by rw [e, h1] at g1; exact absurd g1 (by decide)
  have n2 : u ≠ a := fun e => by rw [e, h1] at g3; exact absurd g3 (by decide)
  refine am_aload_n (q := 1) dX4_move_0 rfl rfl ?_
  refine am_dup (q := 2) dX4_move_1 rfl rfl ?_
  refine cm_getI (q := 5) dX4_move_2 flX4_23 rfl (by assumption) rfl ?_
  refine am_aload_n (q := 6) dX4_move_5 rfl rfl ?_
  refine cm_getI (q := 9) dX4_move_6 flX4_31 rfl (by assumption) rfl ?_
  refine am_iadd (q := 10) dX4_move_9 rfl ?_
  refine cm_putI (q := 13) dX4_move_10 flX4_23 rfl (Or.inl rfl) (Or.inl rfl) (by assumption) rfl ?_
  refine am_aload_n (q := 14) dX4_move_13 rfl rfl ?_
  refine cm_getI (q := 17) dX4_move_14 flX4_23 rfl (by assumption) rfl ?_
  refine am_aload_n (q := 18) dX4_move_17 rfl rfl ?_
  refine cm_getI (q := 21) dX4_move_18 flX4_42 rfl (by assumption) rfl ?_
  rw [up2_s, up2_a n1]
  have hru : ∀ (I0 : Nat → Nat → Int32) (p : Int32), (∀ j, I0 u j = I u j) → ruC I0 u p = ruC I u p := fun I0 p h => by unfold ruC; rw [h]
  refine am_icmp_lt (tgt := 62) (q := 24) dX4_move_21 rfl rfl (fun hc => ?_) (fun hc => ?_)
  · refine am_aload_n (q := 63) dX4_move_62 rfl rfl ?_
    refine cm_getI (q := 66) dX4_move_63 flX4_23 rfl (by assumption) rfl ?_
    refine am_if_gt (tgt := 108) (q := 69) dX4_move_66 rfl rfl (fun hc2 => ?_) (fun hc2 => ?_)
    · refine k_X4_move_tail hG h1 g1 g2 g3 g4 ⟨_, rfl, rfl, ?_⟩
      rw [hru _ _ (fun j => by rw [up2_a n2])]
      rw [up2_s] at hc2
      simp only [fP, fV, fO, fB]
      rw [if_neg (Int32.not_le.mpr hc), if_neg (Int32.not_le.mpr hc2), if_neg (Int32.not_le.mpr hc), if_neg (Int32.not_le.mpr hc2)]
      congr 1
      funext x j
      simp only [up2_at]
      grind (splits := 30)
    · rw [up2_s] at hc2
      have hc3 := Int32.not_lt.mp hc2
      have hb1 : ¬ I r 2 ≤ I a 4 + I a 5 := Int32.not_le.mpr hc
      refine am_aload_n (q := 70) dX4_move_69 rfl rfl ?_
      refine am_iconst (q := 71) (v := 0) dX4_move_70 kc_i0 rfl ?_
      refine cm_putI (q := 74) dX4_move_71 flX4_23 rfl (Or.inl rfl) (Or.inl rfl) (by assumption) rfl ?_
      refine am_aload_n (q := 75) dX4_move_74 rfl rfl ?_
      refine am_aload_n (q := 76) dX4_move_75 rfl rfl ?_
      refine cm_getI (q := 79) dX4_move_76 flX4_31 rfl (by assumption) rfl ?_
      refine am_ineg (q := 80) dX4_move_79 rfl ?_
      refine am_aload_n (q := 81) dX4_move_80 rfl rfl ?_
      refine cm_getI (q := 84) dX4_move_81 flX4_45 rfl (by assumption) rfl ?_
      refine am_imul (q := 85) dX4_move_84 rfl ?_
      refine am_bipush (q := 87) (v := 30) dX4_move_85 kc_b30 rfl ?_
      refine am_idiv (q := 88) dX4_move_87 (by decide) rfl ?_
      refine cm_putI (q := 91) dX4_move_88 flX4_31 rfl (Or.inl rfl) (Or.inl rfl) (by assumption) rfl ?_
      refine am_aload_n (q := 92) dX4_move_91 rfl rfl ?_
      refine am_aload_n (q := 93) dX4_move_92 rfl rfl ?_
      refine cm_getI (q := 96) dX4_move_93 flX4_31 rfl (by assumption) rfl ?_
      refine am_iconst (q := 97) (v := 1) dX4_move_96 kc_i1 rfl ?_
      simp only [up2_s, up2_a n1, up2_j (show (5 : Nat) ≠ 4 by decide)]
      refine am_icmp_gt (tgt := 104) (q := 100) dX4_move_97 rfl rfl (fun hc4 => ?_) (fun hc4 => ?_)
      · refine am_iconst (q := 105) (v := 0) dX4_move_104 kc_i0 rfl ?_
        refine cm_putI (q := 108) dX4_move_105 flX4_34 rfl (Or.inr (Or.inl rfl)) (Or.inl rfl) (by assumption) rfl ?_
        refine k_X4_move_tail hG h1 g1 g2 g3 g4 ⟨_, rfl, rfl, ?_⟩
        rw [hru _ _ (fun j => by simp only [up2_a n2])]
        simp only [fP, fV, fO, fB]
        rw [if_neg hb1, if_neg hb1, if_neg hb1, if_neg hb1, if_pos hc3, if_pos hc3, if_pos hc3, bI_f (Int32.not_le.mpr hc4)]
        congr 1
        funext x j
        simp only [up2_at]
        grind (splits := 30)
      · refine am_iconst (q := 101) (v := 1) dX4_move_100 kc_i1 rfl ?_
        refine am_goto (tgt := 105) dX4_move_101 rfl ?_
        refine cm_putI (q := 108) dX4_move_105 flX4_34 rfl (Or.inr (Or.inr rfl)) (Or.inl rfl) (by assumption) rfl ?_
        refine k_X4_move_tail hG h1 g1 g2 g3 g4 ⟨_, rfl, rfl, ?_⟩
        rw [hru _ _ (fun j => by simp only [up2_a n2])]
        simp only [fP, fV, fO, fB]
        rw [if_neg hb1, if_neg hb1, if_neg hb1, if_neg hb1, if_pos hc3, if_pos hc3, if_pos hc3, bI_t (Int32.not_lt.mp hc4)]
        congr 1
        funext x j
        simp only [up2_at]
        grind (splits := 30)
  · have hb1 : I r 2 ≤ I a 4 + I a 5 := Int32.not_lt.mp hc
    refine am_aload_n (q := 25) dX4_move_24 rfl rfl ?_
    refine am_aload_n (q := 26) dX4_move_25 rfl rfl ?_
    refine cm_getI (q := 29) dX4_move_26 flX4_42 rfl (by assumption) rfl ?_
    refine cm_putI (q := 32) dX4_move_29 flX4_23 rfl (Or.inl rfl) (Or.inl rfl) (by assumption) rfl ?_
    refine am_aload_n (q := 33) dX4_move_32 rfl rfl ?_
    refine am_dup (q := 34) dX4_move_33 rfl rfl ?_
    refine cm_getI (q := 37) dX4_move_34 flX4_17 rfl (by assumption) rfl ?_
    refine am_iconst (q := 38) (v := 1) dX4_move_37 kc_i1 rfl ?_
    refine am_iadd (q := 39) dX4_move_38 rfl ?_
    refine cm_putI (q := 42) dX4_move_39 flX4_17 rfl (Or.inl rfl) (Or.inl rfl) (by assumption) rfl ?_
    refine am_aload_n (q := 43) dX4_move_42 rfl rfl ?_
    refine am_aload_n (q := 44) dX4_move_43 rfl rfl ?_
    refine cm_getI (q := 47) dX4_move_44 flX4_31 rfl (by assumption) rfl ?_
    refine am_aload_n (q := 48) dX4_move_47 rfl rfl ?_
    refine cm_getI (q := 51) dX4_move_48 flX4_45 rfl (by assumption) rfl ?_
    refine am_imul (q := 52) dX4_move_51 rfl ?_
    refine am_bipush (q := 54) (v := 20) dX4_move_52 kc_b20 rfl ?_
    refine am_idiv (q := 55) dX4_move_54 (by decide) rfl ?_
    refine am_ineg (q := 56) dX4_move_55 rfl ?_
    refine cm_putI (q := 59) dX4_move_56 flX4_31 rfl (Or.inl rfl) (Or.inl rfl) (by assumption) rfl ?_
    refine am_goto (tgt := 108) dX4_move_59 rfl ?_
    simp only [up2_s, up2_a n1, up2_j (show (5 : Nat) ≠ 4 by decide), up2_j (show (5 : Nat) ≠ 2 by decide), up2_j (show (2 : Nat) ≠ 4 by decide)]
    refine k_X4_move_tail hG h1 g1 g2 g3 g4 ⟨_, rfl, rfl, ?_⟩
    rw [hru _ _ (fun j => by simp only [up2_a n2])]
    simp only [fP, fV, fO, fB]
    rw [if_pos hb1, if_pos hb1, if_pos hb1, if_pos hb1]
    congr 1
    funext x j
    simp only [up2_at]
    grind (splits := 30)
theorem k_X4_placeBehind {t : Int32} (h1 : S.K a = 5) (h2 : R a 0 = some b) (h3 : S.K b = 20) (h4 : S.ln b = 301) : Fn G mX4_placeBehind 0 [vR a, vI t] (mw S I J R) (fun rr M1 => rr = some (vI (if 0 < t ∧ t ≤ I a 3 ∧ t < 301 then I b t.toNatClampNeg else 0)) ∧ M1 = mw S I J R) := by
  refine am_iload_n (q := 1) dX4_placeBehind_0 rfl rfl ?_
  refine am_if_le (tgt := 30) (q := 4) dX4_placeBehind_1 rfl rfl (fun hc => ?_) (fun hc => ?_)
  · refine am_iconst (q := 31) (v := 0) dX4_placeBehind_30 kc_i0 rfl ?_
    exact am_iret dX4_placeBehind_31 rfl rfl ⟨_, rfl, by rw [if_neg (fun z => Int32.not_lt.mpr hc z.1)], rfl⟩
  · refine am_iload_n (q := 5) dX4_placeBehind_4 rfl rfl ?_
    refine am_aload_n (q := 6) dX4_placeBehind_5 rfl rfl ?_
    refine cm_getI (q := 9) dX4_placeBehind_6 flX4_20 rfl (by assumption) rfl ?_
    refine am_icmp_gt (tgt := 30) (q := 12) dX4_placeBehind_9 rfl rfl (fun hc2 => ?_) (fun hc2 => ?_)
    · refine am_iconst (q := 31) (v := 0) dX4_placeBehind_30 kc_i0 rfl ?_
      exact am_iret dX4_placeBehind_31 rfl rfl ⟨_, rfl, by rw [if_neg (fun z => Int32.not_lt.mpr z.2.1 hc2)], rfl⟩
    · refine am_iload_n (q := 13) dX4_placeBehind_12 rfl rfl ?_
      refine am_aload_n (q := 14) dX4_placeBehind_13 rfl rfl ?_
      refine cm_getR (q := 17) dX4_placeBehind_14 flX4_9 rfl (by assumption) (by assumption) rfl ?_
      refine cm_alenI (q := 18) dX4_placeBehind_17 (by assumption) (by rw [h4] : nI (S.ln b) = nI 301) rfl ?_
      refine am_icmp_ge (tgt := 30) (q := 21) dX4_placeBehind_18 rfl rfl (fun hc3 => ?_) (fun hc3 => ?_)
      · refine am_iconst (q := 31) (v := 0) dX4_placeBehind_30 kc_i0 rfl ?_
        exact am_iret dX4_placeBehind_31 rfl rfl ⟨_, rfl, by rw [if_neg (fun z => Int32.not_le.mpr z.2.2 hc3)], rfl⟩
      · refine am_aload_n (q := 22) dX4_placeBehind_21 rfl rfl ?_
        refine cm_getR (q := 25) dX4_placeBehind_22 flX4_9 rfl (by assumption) (by assumption) rfl ?_
        refine am_iload_n (q := 26) dX4_placeBehind_25 rfl rfl ?_
        refine cm_iaload (q := 27) dX4_placeBehind_26 (by assumption) (by rw [h4]; exact k_inI (v := 301) rfl (by decide) (Int32.not_lt.mpr (Int32.le_of_lt (Int32.not_le.mp hc))) (Int32.not_le.mp hc3)) rfl ?_
        refine am_goto (tgt := 31) dX4_placeBehind_27 rfl ?_
        exact am_iret dX4_placeBehind_31 rfl rfl ⟨_, rfl, by rw [if_pos ⟨Int32.not_le.mp hc, Int32.not_lt.mp hc2, Int32.not_le.mp hc3⟩], rfl⟩
/-- what a flight leaves in the object: by the iteration -/
def FlyC (a b r u : Nat) (v0 : Int32) (I I1 : Nat → Nat → Int32) (n : Nat) : Prop :=
  (∀ x j, x ≠ a → x ≠ b → I1 x j = I x j) ∧
  I1 a 4 = (flS (I r 2) (I r 4) (ruC I u) v0 n).1 ∧ I1 a 5 = (flS (I r 2) (I r 4) (ruC I u) v0 n).2.1 ∧ I1 a 1 = (flS (I r 2) (I r 4) (ruC I u) v0 n).2.2.1 ∧ I1 a 2 = (flS (I r 2) (I r 4) (ruC I u) v0 n).2.2.2.1 ∧ I1 a 3 = nI (flS (I r 2) (I r 4) (ruC I u) v0 n).2.2.2.2.1 ∧ I1 a 6 = (flS (I r 2) (I r 4) (ruC I u) v0 n).2.2.2.2.2 ∧
  ∀ t, 1 ≤ t → t ≤ (flS (I r 2) (I r 4) (ruC I u) v0 n).2.2.2.2.1 → I1 b t = (flS (I r 2) (I r 4) (ruC I u) v0 t).1
theorem k_X4_fly {f : Int32} (hG : okG G) (h1 : S.K a = 5) (h2 : R a 0 = some b) (h3 : S.K b = 20) (h4 : S.ln b = 301) (g1 : S.K r = 7) (g2 : R r 0 = some u) (g3 : S.K u = 20) (g4 : S.ln u = 100) (hbu : b ≠ u) (hp : 0 < I r 3) : Fn G mX4_fly 2 [vR a, vR r, vI f] (mw S I J R) (fun rr M1 => rr = none ∧ ∃ I1, M1 = mw S I1 J R ∧ FlyC a b r u (4 * f / I r 3) I I1 300) := by
  have n1 : r ≠ a := fun e => by rw [e, h1] at g1; exact absurd g1 (by decide)
  have n2 : u ≠ a := fun e => by rw [e, h1] at g3; exact absurd g3 (by decide)
  have n3 : r ≠ b := fun e => by rw [e, h3] at g1; exact absurd g1 (by decide)
  have n4 : a ≠ b := fun e => by rw [e, h3] at h1; exact absurd h1 (by decide)
  have hp0 : ¬ I r 3 = 0 := fun e => by rw [e] at hp; exact absurd hp (by decide)
  -- the loop
  have loop : ∀ (I0 : Nat → Nat → Int32), FlyC a b r u (4 * f / I r 3) I I0 0 → MW G mX4_fly 2 61 [some (vR a), some (vR r), some (vI f), some (vI 1)] [] (mw S I0 J R) (fun f1 M1 => ∃ rr, f1 = .inl rr ∧ (rr = none ∧ ∃ I1, M1 = mw S I1 J R ∧ FlyC a b r u (4 * f / I r 3) I I1 300)) := by
    intro I0 h0
    have hstop : ∀ (k : Nat) (I1 : Nat → Nat → Int32), k ≤ 300 → FlyC a b r u (4 * f / I r 3) I I1 k → (flS (I r 2) (I r 4) (ruC I u) (4 * f / I r 3) k).2.2.2.2.2 ≠ 0 → FlyC a b r u (4 * f / I r 3) I I1 300 := by
      intro k I1 hk hF ho
      have e := flS_stop ho (300 - k)
      rw [show k + (300 - k) = 300 by omega] at e
      unfold FlyC
      rw [e]
      exact hF
    refine k_loop (σ := Nat → Nat → Int32) (n := 300) (Inv := fun k I1 => FlyC a b r u (4 * f / I r 3) I I1 k) (W := fun k I1 => MW G mX4_fly 2 61 [some (vR a), some (vR r), some (vI f), some (vI (nI (k + 1)))] [] (mw S I1 J R) _) ?_ ?_ 0 I0 (Nat.zero_le _) h0
    · intro k I1 hk hF ih
      refine am_iload_n (q := 62) dX4_fly_61 rfl rfl ?_
      refine am_aload_n (q := 63) dX4_fly_62 rfl rfl ?_
      refine cm_getR (q := 66) dX4_fly_63 flX4_9 rfl (by assumption) (by assumption) rfl ?_
      refine cm_alenI (q := 67) dX4_fly_66 (by assumption) (by rw [h4] : nI (S.ln b) = nI 301) rfl ?_
      refine am_icmp_ge (tgt := 129) (q := 70) dX4_fly_67 rfl rfl (fun hz => absurd hz (nI_ge (by omega) (by decide))) (fun _ => ?_)
      refine am_aload_n (q := 71) dX4_fly_70 rfl rfl ?_
      refine cm_getI (q := 74) dX4_fly_71 flX4_34 rfl (by assumption) rfl ?_
      refine am_if_ne (tgt := 129) (q := 77) dX4_fly_74 rfl rfl (fun ho => ?_) (fun ho => ?_)
      · exact am_ret dX4_fly_129 rfl ⟨_, rfl, rfl, I1, rfl, hstop k I1 (by omega) hF (by rw [← hF.2.2.2.2.2.2.1]; exact ho)⟩
      · have hz := hF
        obtain ⟨z0, z4, z5, z1, z2, z3, z6, zp⟩ := hz
        have er : ∀ j, I1 r j = I r j := fun j => z0 r j n1 n3
        have eu : ∀ p, ruC I1 u p = ruC I u p := fun p => by unfold ruC; rw [z0 u _ n2 (fun q => hbu q.symm)]
        have hcl : (nI (k + 1)).toNatClampNeg = k + 1 := nI_clamp (by omega)
        have ho' : (flS (I r 2) (I r 4) (ruC I u) (4 * f / I r 3) k).2.2.2.2.2 = 0 := by rw [← z6]; exact ho
        have hT := (flS_ticks (hi := I r 2) (sp := I r 4) (ru := ruC I u) (v0 := 4 * f / I r 3) k).2.1 ho'
        have hstep : flS (I r 2) (I r 4) (ruC I u) (4 * f / I r 3) (k + 1) = (fP (I r 2) (I1 a 4) (I1 a 5), fW (ruC I u (fP (I r 2) (I1 a 4) (I1 a 5))) (fV (I r 2) (I r 4) (I1 a 4) (I1 a 5)), if I1 a 1 < fP (I r 2) (I1 a 4) (I1 a 5) then fP (I r 2) (I1 a 4) (I1 a 5) else I1 a 1, fB (I r 2) (I1 a 4) (I1 a 5) (I1 a 2), k + 1, fO (I r 2) (I r 4) (I1 a 4) (I1 a 5) (I1 a 6)) := by
          rw [z4, z5, z1, z2, z6]
          show (if (flS (I r 2) (I r 4) (ruC I u) (4 * f / I r 3) k).2.2.2.2.2 = 0 then _ else _) = _
          rw [if_pos ho', hT]
        refine am_aload_n (q := 78) dX4_fly_77 rfl rfl ?_
        refine am_aload_n (q := 79) dX4_fly_78 rfl rfl ?_
        refine cm_call0 (q := 82) (As := [_]) hG dX4_fly_79 mlX4_38 rfl (by assumption) ⟨_, _, rfl⟩ (Nat.le_of_ble_eq_true rfl) (Nat.le_of_ble_eq_true rfl) (Nat.le_of_ble_eq_true rfl) (Nat.le_of_ble_eq_true rfl) (k_X4_move hG h1 g1 g2 g3 g4) rfl ?_
        rintro _ _ ⟨rfl, rfl⟩
        rw [er, er]
        simp only [eu]
        have go : ∀ (I2 : Nat → Nat → Int32), (∀ x j, I2 x j = if x = b ∧ j = k + 1 then fP (I r 2) (I1 a 4) (I1 a 5) else if x = a ∧ j = 4 then fP (I r 2) (I1 a 4) (I1 a 5) else if x = a ∧ j = 5 then fW (ruC I u (fP (I r 2) (I1 a 4) (I1 a 5))) (fV (I r 2) (I r 4) (I1 a 4) (I1 a 5)) else if x = a ∧ j = 2 then fB (I r 2) (I1 a 4) (I1 a 5) (I1 a 2) else if x = a ∧ j = 6 then fO (I r 2) (I r 4) (I1 a 4) (I1 a 5) (I1 a 6) else if x = a ∧ j = 1 then (if I1 a 1 < fP (I r 2) (I1 a 4) (I1 a 5) then fP (I r 2) (I1 a 4) (I1 a 5) else I1 a 1) else I1 x j) → MW G mX4_fly 2 118 [some (vR a), some (vR r), some (vI f), some (vI (nI (k + 1)))] [] (mw S I2 J R) (fun f1 M1 => ∃ rr, f1 = .inl rr ∧ (rr = none ∧ ∃ I1, M1 = mw S I1 J R ∧ FlyC a b r u (4 * f / I r 3) I I1 300)) := by
          intro I2 hI2
          refine am_aload_n (q := 119) dX4_fly_118 rfl rfl ?_
          refine am_iload_n (q := 120) dX4_fly_119 rfl rfl ?_
          refine cm_putI (q := 123) dX4_fly_120 flX4_20 rfl (Or.inl rfl) (Or.inl rfl) (by assumption) rfl ?_
          refine am_iincW (q := 126) (ls1 := [_, _, _, _]) (w := 1) dX4_fly_123 rfl (Nat.le_of_ble_eq_true rfl) kc_i1 rfl rfl ?_
          refine am_goto (tgt := 61) dX4_fly_126 rfl ?_
          rw [nI_1]
          refine ih _ ?_
          unfold FlyC
          rw [hstep]
          refine ⟨fun x j q1 q2 => ?_, ?_, ?_, ?_, ?_, ?_, ?_, fun t q1 q2 => ?_⟩
          · rw [up2_a q1, hI2]
            have := z0 x j q1 q2
            grind (splits := 30)
          · rw [up2_j (by decide), hI2]
            grind (splits := 30)
          · rw [up2_j (by decide), hI2]
            grind (splits := 30)
          · rw [up2_j (by decide), hI2]
            grind (splits := 30)
          · rw [up2_j (by decide), hI2]
            grind (splits := 30)
          · rw [up2_s]
          · rw [up2_j (by decide), hI2]
            grind (splits := 30)
          · rw [up2_a (fun q => n4 q.symm), hI2]
            by_cases e : t = k + 1
            · subst e
              rw [if_pos ⟨rfl, rfl⟩, hstep]
            · rw [if_neg (fun q => e q.2), if_neg (fun q => n4 q.1.symm), if_neg (fun q => n4 q.1.symm), if_neg (fun q => n4 q.1.symm), if_neg (fun q => n4 q.1.symm), if_neg (fun q => n4 q.1.symm)]
              have q3 : t ≤ k + 1 := q2
              exact zp t q1 (by rw [hT]; omega)
        refine k_nm (P := fun Im => MW G mX4_fly 2 82 _ _ (mw S Im J R) _) _ (fun Im hIm => ?_)
        have m4 : Im a 4 = fP (I r 2) (I1 a 4) (I1 a 5) := by rw [hIm]; exact if_pos ⟨rfl, rfl⟩
        have m1 : Im a 1 = I1 a 1 := by rw [hIm]; grind (splits := 30)
        refine am_aload_n (q := 83) dX4_fly_82 rfl rfl ?_
        refine cm_getR (q := 86) dX4_fly_83 flX4_9 rfl (by assumption) (by assumption) rfl ?_
        refine am_iload_n (q := 87) dX4_fly_86 rfl rfl ?_
        refine am_aload_n (q := 88) dX4_fly_87 rfl rfl ?_
        refine cm_getI (q := 91) dX4_fly_88 flX4_23 rfl (by assumption) rfl ?_
        refine cm_iastore (q := 92) dX4_fly_91 (by assumption) (by rw [h4]; exact vp_in_nI (by omega) (by decide)) rfl ?_
        refine am_aload_n (q := 93) dX4_fly_92 rfl rfl ?_
        refine am_aload_n (q := 94) dX4_fly_93 rfl rfl ?_
        refine cm_getI (q := 97) dX4_fly_94 flX4_23 rfl (by assumption) rfl ?_
        refine am_aload_n (q := 98) dX4_fly_97 rfl rfl ?_
        refine cm_getI (q := 101) dX4_fly_98 flX4_13 rfl (by assumption) rfl ?_
        rw [up2_a n4, up2_a n4, m4, m1, hcl]
        refine am_icmp_le (tgt := 111) (q := 104) dX4_fly_101 rfl rfl (fun hq => ?_) (fun hq => ?_)
        · refine am_aload_n (q := 112) dX4_fly_111 rfl rfl ?_
          refine cm_getI (q := 115) dX4_fly_112 flX4_13 rfl (by assumption) rfl ?_
          refine cm_putI (q := 118) dX4_fly_115 flX4_13 rfl (Or.inl rfl) (Or.inl rfl) (by assumption) rfl ?_
          refine go _ fun x j => ?_
          have := Int32.not_lt.mpr hq
          simp only [up2_at, hIm]
          grind (splits := 30)
        · refine am_aload_n (q := 105) dX4_fly_104 rfl rfl ?_
          refine cm_getI (q := 108) dX4_fly_105 flX4_23 rfl (by assumption) rfl ?_
          refine am_goto (tgt := 115) dX4_fly_108 rfl ?_
          refine cm_putI (q := 118) dX4_fly_115 flX4_13 rfl (Or.inl rfl) (Or.inl rfl) (by assumption) rfl ?_
          refine go _ fun x j => ?_
          have := Int32.not_le.mp hq
          simp only [up2_at, hIm]
          grind (splits := 30)
    · intro I1 hF
      refine am_iload_n (q := 62) dX4_fly_61 rfl rfl ?_
      refine am_aload_n (q := 63) dX4_fly_62 rfl rfl ?_
      refine cm_getR (q := 66) dX4_fly_63 flX4_9 rfl (by assumption) (by assumption) rfl ?_
      refine cm_alenI (q := 67) dX4_fly_66 (by assumption) (by rw [h4] : nI (S.ln b) = nI 301) rfl ?_
      refine am_icmp_ge (tgt := 129) (q := 70) dX4_fly_67 rfl rfl (fun _ => ?_) (fun hz => absurd (Int32.le_refl _) hz)
      exact am_ret dX4_fly_129 rfl ⟨_, rfl, rfl, I1, rfl, hF⟩
  have fin : ∀ (I0 : Nat → Nat → Int32), (∀ x j, x ≠ a → I0 x j = I x j) → I0 a 1 = 0 → I0 a 2 = 0 → I0 a 3 = 0 → I0 a 4 = 0 → I0 a 5 = 4 * f / I r 3 → MW G mX4_fly 2 43 [some (vR a), some (vR r), some (vI f), none] [] (mw S I0 J R) (fun f1 M1 => ∃ rr, f1 = .inl rr ∧ (rr = none ∧ ∃ I1, M1 = mw S I1 J R ∧ FlyC a b r u (4 * f / I r 3) I I1 300)) := by
    intro I0 e0 e1 e2 e3 e4 e5
    have done : ∀ o : Int32, o = bI (4 * f / I r 3 = 0) → FlyC a b r u (4 * f / I r 3) I (up2 I0 a 6 o) 0 := by
      intro o ho
      refine ⟨fun x j q1 q2 => ?_, ?_, ?_, ?_, ?_, ?_, ?_, fun t q1 q2 => ?_⟩
      · rw [up2_a q1]
        exact e0 x j q1
      · rw [up2_j (by decide), e4]
        rfl
      · rw [up2_j (by decide), e5]
        rfl
      · rw [up2_j (by decide), e1]
        rfl
      · rw [up2_j (by decide), e2]
        rfl
      · rw [up2_j (by decide), e3]
        rfl
      · rw [up2_s, ho]
        rfl
      · exact absurd (Nat.le_trans q1 q2) (show ¬ 1 ≤ 0 by decide)
    refine am_aload_n (q := 44) dX4_fly_43 rfl rfl ?_
    refine am_aload_n (q := 45) dX4_fly_44 rfl rfl ?_
    refine cm_getI (q := 48) dX4_fly_45 flX4_31 rfl (by assumption) rfl ?_
    refine am_if_ne (tgt := 55) (q := 51) dX4_fly_48 rfl rfl (fun hv => ?_) (fun hv => ?_)
    · rw [e5] at hv
      refine am_iconst (q := 56) (v := 0) dX4_fly_55 kc_i0 rfl ?_
      refine cm_putI (q := 59) dX4_fly_56 flX4_34 rfl (Or.inr (Or.inl rfl)) (Or.inl rfl) (by assumption) rfl ?_
      refine am_iconst (q := 60) (v := 1) dX4_fly_59 kc_i1 rfl ?_
      refine am_istore_n (q := 61) (ls1 := [_, _, _, _]) dX4_fly_60 (Nat.le_of_ble_eq_true rfl) rfl rfl ?_
      exact loop _ (done 0 (bI_f hv).symm)
    · rw [e5] at hv
      refine am_iconst (q := 52) (v := 1) dX4_fly_51 kc_i1 rfl ?_
      refine am_goto (tgt := 56) dX4_fly_52 rfl ?_
      refine cm_putI (q := 59) dX4_fly_56 flX4_34 rfl (Or.inr (Or.inr rfl)) (Or.inl rfl) (by assumption) rfl ?_
      refine am_iconst (q := 60) (v := 1) dX4_fly_59 kc_i1 rfl ?_
      refine am_istore_n (q := 61) (ls1 := [_, _, _, _]) dX4_fly_60 (Nat.le_of_ble_eq_true rfl) rfl rfl ?_
      exact loop _ (done 1 (bI_t hv).symm)
  refine am_aload_n (q := 1) dX4_fly_0 rfl rfl ?_
  refine am_iconst (q := 2) (v := 0) dX4_fly_1 kc_i0 rfl ?_
  refine cm_putI (q := 5) dX4_fly_2 flX4_13 rfl (Or.inl rfl) (Or.inl rfl) (by assumption) rfl ?_
  refine am_aload_n (q := 6) dX4_fly_5 rfl rfl ?_
  refine am_iconst (q := 7) (v := 0) dX4_fly_6 kc_i0 rfl ?_
  refine cm_putI (q := 10) dX4_fly_7 flX4_17 rfl (Or.inl rfl) (Or.inl rfl) (by assumption) rfl ?_
  refine am_aload_n (q := 11) dX4_fly_10 rfl rfl ?_
  refine am_iconst (q := 12) (v := 0) dX4_fly_11 kc_i0 rfl ?_
  refine cm_putI (q := 15) dX4_fly_12 flX4_20 rfl (Or.inl rfl) (Or.inl rfl) (by assumption) rfl ?_
  refine am_aload_n (q := 16) dX4_fly_15 rfl rfl ?_
  refine am_iconst (q := 17) (v := 0) dX4_fly_16 kc_i0 rfl ?_
  refine cm_putI (q := 20) dX4_fly_17 flX4_23 rfl (Or.inl rfl) (Or.inl rfl) (by assumption) rfl ?_
  refine am_aload_n (q := 21) dX4_fly_20 rfl rfl ?_
  refine am_aload_n (q := 22) dX4_fly_21 rfl rfl ?_
  refine cm_getI (q := 25) dX4_fly_22 flX4_26 rfl (by assumption) rfl ?_
  simp only [up2_a n1]
  refine am_if_le (tgt := 39) (q := 28) dX4_fly_25 rfl rfl (fun hz => absurd hz (Int32.not_le.mpr hp)) (fun _ => ?_)
  refine am_iconst (q := 29) (v := 4) dX4_fly_28 kc_i4 rfl ?_
  refine am_iload_n (q := 30) dX4_fly_29 rfl rfl ?_
  refine am_imul (q := 31) dX4_fly_30 rfl ?_
  refine am_aload_n (q := 32) dX4_fly_31 rfl rfl ?_
  refine cm_getI (q := 35) dX4_fly_32 flX4_26 rfl (by assumption) rfl ?_
  refine am_idiv (q := 36) dX4_fly_35 (by simp only [up2_a n1]; exact hp0) rfl ?_
  refine am_goto (tgt := 40) dX4_fly_36 rfl ?_
  refine cm_putI (q := 43) dX4_fly_40 flX4_31 rfl (Or.inl rfl) (Or.inl rfl) (by assumption) rfl ?_
  simp only [up2_a n1]
  refine fin _ (fun x j q => by simp only [up2_a q]) ?_ ?_ ?_ ?_ up2_s
  · simp only [up2_at]
    grind (splits := 30)
  · simp only [up2_at]
    grind (splits := 30)
  · simp only [up2_at]
    grind (splits := 30)
  · simp only [up2_at]
    grind (splits := 30)
end FlightB
end
section
theorem kc_b42 : (Int8.ofInt 42).toInt32 = 42 := by decide +kernel
theorem kc_b43 : (Int8.ofInt 43).toInt32 = 43 := by decide +kernel
theorem kc_b45 : (Int8.ofInt 45).toInt32 = 45 := by decide +kernel
theorem kc_b47 : (Int8.ofInt 47).toInt32 = 47 := by decide +kernel
theorem kc_s328 : (Int16.ofInt 328).toInt32 = 328 := by decide +kernel
theorem dX1_compared_0 : decode cX1_compared 0 = .ok (.iload_n 0, 1) := by decide +kernel
theorem dX1_compared_1 : decode cX1_compared 1 = .ok (.lookupswitch 99 #[(60, 43), (61, 71), (62, 57), (260, 85)], 43) := by decide +kernel
theorem dX1_compared_44 : decode cX1_compared 44 = .ok (.iload_n 1, 1) := by decide +kernel
theorem dX1_compared_45 : decode cX1_compared 45 = .ok (.iload_n 2, 1) := by decide +kernel
theorem dX1_compared_46 : decode cX1_compared 46 = .ok (.if_icmp .ge 7, 3) := by decide +kernel
theorem dX1_compared_49 : decode cX1_compared 49 = .ok (.iconst 1, 1) := by decide +kernel
theorem dX1_compared_50 : decode cX1_compared 50 = .ok (.goto 4, 3) := by decide +kernel
theorem dX1_compared_53 : decode cX1_compared 53 = .ok (.iconst 0, 1) := by decide +kernel
theorem dX1_compared_54 : decode cX1_compared 54 = .ok (.istore_n 3, 1) := by decide +kernel
theorem dX1_compared_55 : decode cX1_compared 55 = .ok (.goto 56, 3) := by decide +kernel
theorem dX1_compared_58 : decode cX1_compared 58 = .ok (.iload_n 1, 1) := by decide +kernel
theorem dX1_compared_59 : decode cX1_compared 59 = .ok (.iload_n 2, 1) := by decide +kernel
theorem dX1_compared_60 : decode cX1_compared 60 = .ok (.if_icmp .le 7, 3) := by decide +kernel
theorem dX1_compared_63 : decode cX1_compared 63 = .ok (.iconst 1, 1) := by decide +kernel
theorem dX1_compared_64 : decode cX1_compared 64 = .ok (.goto 4, 3) := by decide +kernel
theorem dX1_compared_67 : decode cX1_compared 67 = .ok (.iconst 0, 1) := by decide +kernel
theorem dX1_compared_68 : decode cX1_compared 68 = .ok (.istore_n 3, 1) := by decide +kernel
theorem dX1_compared_69 : decode cX1_compared 69 = .ok (.goto 42, 3) := by decide +kernel
theorem dX1_compared_72 : decode cX1_compared 72 = .ok (.iload_n 1, 1) := by decide +kernel
theorem dX1_compared_73 : decode cX1_compared 73 = .ok (.iload_n 2, 1) := by decide +kernel
theorem dX1_compared_74 : decode cX1_compared 74 = .ok (.if_icmp .ne 7, 3) := by decide +kernel
theorem dX1_compared_77 : decode cX1_compared 77 = .ok (.iconst 1, 1) := by decide +kernel
theorem dX1_compared_78 : decode cX1_compared 78 = .ok (.goto 4, 3) := by decide +kernel
theorem dX1_compared_81 : decode cX1_compared 81 = .ok (.iconst 0, 1) := by decide +kernel
theorem dX1_compared_82 : decode cX1_compared 82 = .ok (.istore_n 3, 1) := by decide +kernel
theorem dX1_compared_83 : decode cX1_compared 83 = .ok (.goto 28, 3) := by decide +kernel
theorem dX1_compared_86 : decode cX1_compared 86 = .ok (.iload_n 1, 1) := by decide +kernel
theorem dX1_compared_87 : decode cX1_compared 87 = .ok (.iload_n 2, 1) := by decide +kernel
theorem dX1_compared_88 : decode cX1_compared 88 = .ok (.if_icmp .gt 7, 3) := by decide +kernel
theorem dX1_compared_91 : decode cX1_compared 91 = .ok (.iconst 1, 1) := by decide +kernel
theorem dX1_compared_92 : decode cX1_compared 92 = .ok (.goto 4, 3) := by decide +kernel
theorem dX1_compared_95 : decode cX1_compared 95 = .ok (.iconst 0, 1) := by decide +kernel
theorem dX1_compared_96 : decode cX1_compared 96 = .ok (.istore_n 3, 1) := by decide +kernel
theorem dX1_compared_97 : decode cX1_compared 97 = .ok (.goto 14, 3) := by decide +kernel
theorem dX1_compared_100 : decode cX1_compared 100 = .ok (.iload_n 1, 1) := by decide +kernel
theorem dX1_compared_101 : decode cX1_compared 101 = .ok (.iload_n 2, 1) := by decide +kernel
theorem dX1_compared_102 : decode cX1_compared 102 = .ok (.if_icmp .lt 7, 3) := by decide +kernel
theorem dX1_compared_105 : decode cX1_compared 105 = .ok (.iconst 1, 1) := by decide +kernel
theorem dX1_compared_106 : decode cX1_compared 106 = .ok (.goto 4, 3) := by decide +kernel
theorem dX1_compared_109 : decode cX1_compared 109 = .ok (.iconst 0, 1) := by decide +kernel
theorem dX1_compared_110 : decode cX1_compared 110 = .ok (.istore_n 3, 1) := by decide +kernel
theorem dX1_compared_111 : decode cX1_compared 111 = .ok (.iload_n 3, 1) := by decide +kernel
theorem dX1_compared_112 : decode cX1_compared 112 = .ok (.ifCond .eq 7, 3) := by decide +kernel
theorem dX1_compared_115 : decode cX1_compared 115 = .ok (.iconst 1, 1) := by decide +kernel
theorem dX1_compared_116 : decode cX1_compared 116 = .ok (.goto 4, 3) := by decide +kernel
theorem dX1_compared_119 : decode cX1_compared 119 = .ok (.iconst 0, 1) := by decide +kernel
theorem dX1_compared_120 : decode cX1_compared 120 = .ok (.ireturn, 1) := by decide +kernel
theorem dX1_isJoining_0 : decode cX1_isJoining 0 = .ok (.iload_n 0, 1) := by decide +kernel
theorem dX1_isJoining_1 : decode cX1_isJoining 1 = .ok (.bipush 43, 2) := by decide +kernel
theorem dX1_isJoining_3 : decode cX1_isJoining 3 = .ok (.if_icmp .eq 28, 3) := by decide +kernel
theorem dX1_isJoining_6 : decode cX1_isJoining 6 = .ok (.iload_n 0, 1) := by decide +kernel
theorem dX1_isJoining_7 : decode cX1_isJoining 7 = .ok (.bipush 45, 2) := by decide +kernel
theorem dX1_isJoining_9 : decode cX1_isJoining 9 = .ok (.if_icmp .eq 22, 3) := by decide +kernel
theorem dX1_isJoining_12 : decode cX1_isJoining 12 = .ok (.iload_n 0, 1) := by decide +kernel
theorem dX1_isJoining_13 : decode cX1_isJoining 13 = .ok (.bipush 42, 2) := by decide +kernel
theorem dX1_isJoining_15 : decode cX1_isJoining 15 = .ok (.if_icmp .eq 16, 3) := by decide +kernel
theorem dX1_isJoining_18 : decode cX1_isJoining 18 = .ok (.iload_n 0, 1) := by decide +kernel
theorem dX1_isJoining_19 : decode cX1_isJoining 19 = .ok (.bipush 47, 2) := by decide +kernel
theorem dX1_isJoining_21 : decode cX1_isJoining 21 = .ok (.if_icmp .eq 10, 3) := by decide +kernel
theorem dX1_isJoining_24 : decode cX1_isJoining 24 = .ok (.iload_n 0, 1) := by decide +kernel
theorem dX1_isJoining_25 : decode cX1_isJoining 25 = .ok (.sipush 328, 3) := by decide +kernel
theorem dX1_isJoining_28 : decode cX1_isJoining 28 = .ok (.if_icmp .lt 7, 3) := by decide +kernel
theorem dX1_isJoining_31 : decode cX1_isJoining 31 = .ok (.iconst 1, 1) := by decide +kernel
theorem dX1_isJoining_32 : decode cX1_isJoining 32 = .ok (.goto 4, 3) := by decide +kernel
theorem dX1_isJoining_35 : decode cX1_isJoining 35 = .ok (.iconst 0, 1) := by decide +kernel
theorem dX1_isJoining_36 : decode cX1_isJoining 36 = .ok (.ireturn, 1) := by decide +kernel
theorem dX1_joined_0 : decode cX1_joined 0 = .ok (.iload_n 0, 1) := by decide +kernel
theorem dX1_joined_1 : decode cX1_joined 1 = .ok (.lookupswitch 117 #[(42, 75), (43, 67), (45, 71), (47, 79), (328, 113), (330, 91), (331, 102)], 67) := by decide +kernel
theorem dX1_joined_68 : decode cX1_joined 68 = .ok (.iload_n 1, 1) := by decide +kernel
theorem dX1_joined_69 : decode cX1_joined 69 = .ok (.iload_n 2, 1) := by decide +kernel
theorem dX1_joined_70 : decode cX1_joined 70 = .ok (.iadd, 1) := by decide +kernel
theorem dX1_joined_71 : decode cX1_joined 71 = .ok (.ireturn, 1) := by decide +kernel
theorem dX1_joined_72 : decode cX1_joined 72 = .ok (.iload_n 1, 1) := by decide +kernel
theorem dX1_joined_73 : decode cX1_joined 73 = .ok (.iload_n 2, 1) := by decide +kernel
theorem dX1_joined_74 : decode cX1_joined 74 = .ok (.isub, 1) := by decide +kernel
theorem dX1_joined_75 : decode cX1_joined 75 = .ok (.ireturn, 1) := by decide +kernel
theorem dX1_joined_76 : decode cX1_joined 76 = .ok (.iload_n 1, 1) := by decide +kernel
theorem dX1_joined_77 : decode cX1_joined 77 = .ok (.iload_n 2, 1) := by decide +kernel
theorem dX1_joined_78 : decode cX1_joined 78 = .ok (.imul, 1) := by decide +kernel
theorem dX1_joined_79 : decode cX1_joined 79 = .ok (.ireturn, 1) := by decide +kernel
theorem dX1_joined_80 : decode cX1_joined 80 = .ok (.iload_n 2, 1) := by decide +kernel
theorem dX1_joined_81 : decode cX1_joined 81 = .ok (.ifCond .ne 7, 3) := by decide +kernel
theorem dX1_joined_84 : decode cX1_joined 84 = .ok (.iconst 0, 1) := by decide +kernel
theorem dX1_joined_85 : decode cX1_joined 85 = .ok (.goto 6, 3) := by decide +kernel
theorem dX1_joined_88 : decode cX1_joined 88 = .ok (.iload_n 1, 1) := by decide +kernel
theorem dX1_joined_89 : decode cX1_joined 89 = .ok (.iload_n 2, 1) := by decide +kernel
theorem dX1_joined_90 : decode cX1_joined 90 = .ok (.idiv, 1) := by decide +kernel
theorem dX1_joined_91 : decode cX1_joined 91 = .ok (.ireturn, 1) := by decide +kernel
theorem dX1_joined_92 : decode cX1_joined 92 = .ok (.iload_n 1, 1) := by decide +kernel
theorem dX1_joined_93 : decode cX1_joined 93 = .ok (.iload_n 2, 1) := by decide +kernel
theorem dX1_joined_94 : decode cX1_joined 94 = .ok (.if_icmp .ge 7, 3) := by decide +kernel
theorem dX1_joined_97 : decode cX1_joined 97 = .ok (.iload_n 1, 1) := by decide +kernel
theorem dX1_joined_98 : decode cX1_joined 98 = .ok (.goto 4, 3) := by decide +kernel
theorem dX1_joined_101 : decode cX1_joined 101 = .ok (.iload_n 2, 1) := by decide +kernel
theorem dX1_joined_102 : decode cX1_joined 102 = .ok (.ireturn, 1) := by decide +kernel
theorem dX1_joined_103 : decode cX1_joined 103 = .ok (.iload_n 1, 1) := by decide +kernel
theorem dX1_joined_104 : decode cX1_joined 104 = .ok (.iload_n 2, 1) := by decide +kernel
theorem dX1_joined_105 : decode cX1_joined 105 = .ok (.if_icmp .le 7, 3) := by decide +kernel
theorem dX1_joined_108 : decode cX1_joined 108 = .ok (.iload_n 1, 1) := by decide +kernel
theorem dX1_joined_109 : decode cX1_joined 109 = .ok (.goto 4, 3) := by decide +kernel
theorem dX1_joined_112 : decode cX1_joined 112 = .ok (.iload_n 2, 1) := by decide +kernel
theorem dX1_joined_113 : decode cX1_joined 113 = .ok (.ireturn, 1) := by decide +kernel
theorem dX1_joined_114 : decode cX1_joined 114 = .ok (.iload_n 1, 1) := by decide +kernel
theorem dX1_joined_115 : decode cX1_joined 115 = .ok (.iload_n 2, 1) := by decide +kernel
theorem dX1_joined_116 : decode cX1_joined 116 = .ok (.iand, 1) := by decide +kernel
theorem dX1_joined_117 : decode cX1_joined 117 = .ok (.ireturn, 1) := by decide +kernel
theorem dX1_joined_118 : decode cX1_joined 118 = .ok (.iload_n 1, 1) := by decide +kernel
theorem dX1_joined_119 : decode cX1_joined 119 = .ok (.iload_n 2, 1) := by decide +kernel
theorem dX1_joined_120 : decode cX1_joined 120 = .ok (.ior, 1) := by decide +kernel
theorem dX1_joined_121 : decode cX1_joined 121 = .ok (.ireturn, 1) := by decide +kernel
theorem dX1_pop_0 : decode cX1_pop 0 = .ok (.aload_n 0, 1) := by decide +kernel
theorem dX1_pop_1 : decode cX1_pop 1 = .ok (.getfield 31, 3) := by decide +kernel
theorem dX1_pop_4 : decode cX1_pop 4 = .ok (.ifCond .le 15, 3) := by decide +kernel
theorem dX1_pop_7 : decode cX1_pop 7 = .ok (.aload_n 0, 1) := by decide +kernel
theorem dX1_pop_8 : decode cX1_pop 8 = .ok (.getfield 31, 3) := by decide +kernel
theorem dX1_pop_11 : decode cX1_pop 11 = .ok (.aload_n 0, 1) := by decide +kernel
theorem dX1_pop_12 : decode cX1_pop 12 = .ok (.getfield 20, 3) := by decide +kernel
theorem dX1_pop_15 : decode cX1_pop 15 = .ok (.arraylength, 1) := by decide +kernel
theorem dX1_pop_16 : decode cX1_pop 16 = .ok (.if_icmp .le 5, 3) := by decide +kernel
theorem dX1_pop_19 : decode cX1_pop 19 = .ok (.iconst 0, 1) := by decide +kernel
theorem dX1_pop_20 : decode cX1_pop 20 = .ok (.ireturn, 1) := by decide +kernel
theorem dX1_pop_21 : decode cX1_pop 21 = .ok (.aload_n 0, 1) := by decide +kernel
theorem dX1_pop_22 : decode cX1_pop 22 = .ok (.dup, 1) := by decide +kernel
theorem dX1_pop_23 : decode cX1_pop 23 = .ok (.getfield 31, 3) := by decide +kernel
theorem dX1_pop_26 : decode cX1_pop 26 = .ok (.iconst 1, 1) := by decide +kernel
theorem dX1_pop_27 : decode cX1_pop 27 = .ok (.isub, 1) := by decide +kernel
theorem dX1_pop_28 : decode cX1_pop 28 = .ok (.putfield 31, 3) := by decide +kernel
theorem dX1_pop_31 : decode cX1_pop 31 = .ok (.aload_n 0, 1) := by decide +kernel
theorem dX1_pop_32 : decode cX1_pop 32 = .ok (.getfield 20, 3) := by decide +kernel
theorem dX1_pop_35 : decode cX1_pop 35 = .ok (.aload_n 0, 1) := by decide +kernel
theorem dX1_pop_36 : decode cX1_pop 36 = .ok (.getfield 31, 3) := by decide +kernel
theorem dX1_pop_39 : decode cX1_pop 39 = .ok (.iaload, 1) := by decide +kernel
theorem dX1_pop_40 : decode cX1_pop 40 = .ok (.ireturn, 1) := by decide +kernel
theorem dX1_push_0 : decode cX1_push 0 = .ok (.aload_n 0, 1) := by decide +kernel
theorem dX1_push_1 : decode cX1_push 1 = .ok (.getfield 31, 3) := by decide +kernel
theorem dX1_push_4 : decode cX1_push 4 = .ok (.ifCond .lt 35, 3) := by decide +kernel
theorem dX1_push_7 : decode cX1_push 7 = .ok (.aload_n 0, 1) := by decide +kernel
theorem dX1_push_8 : decode cX1_push 8 = .ok (.getfield 31, 3) := by decide +kernel
theorem dX1_push_11 : decode cX1_push 11 = .ok (.aload_n 0, 1) := by decide +kernel
theorem dX1_push_12 : decode cX1_push 12 = .ok (.getfield 20, 3) := by decide +kernel
theorem dX1_push_15 : decode cX1_push 15 = .ok (.arraylength, 1) := by decide +kernel
theorem dX1_push_16 : decode cX1_push 16 = .ok (.if_icmp .ge 23, 3) := by decide +kernel
theorem dX1_push_19 : decode cX1_push 19 = .ok (.aload_n 0, 1) := by decide +kernel
theorem dX1_push_20 : decode cX1_push 20 = .ok (.getfield 20, 3) := by decide +kernel
theorem dX1_push_23 : decode cX1_push 23 = .ok (.aload_n 0, 1) := by decide +kernel
theorem dX1_push_24 : decode cX1_push 24 = .ok (.getfield 31, 3) := by decide +kernel
theorem dX1_push_27 : decode cX1_push 27 = .ok (.iload_n 1, 1) := by decide +kernel
theorem dX1_push_28 : decode cX1_push 28 = .ok (.iastore, 1) := by decide +kernel
theorem dX1_push_29 : decode cX1_push 29 = .ok (.aload_n 0, 1) := by decide +kernel
theorem dX1_push_30 : decode cX1_push 30 = .ok (.dup, 1) := by decide +kernel
theorem dX1_push_31 : decode cX1_push 31 = .ok (.getfield 31, 3) := by decide +kernel
theorem dX1_push_34 : decode cX1_push 34 = .ok (.iconst 1, 1) := by decide +kernel
theorem dX1_push_35 : decode cX1_push 35 = .ok (.iadd, 1) := by decide +kernel
theorem dX1_push_36 : decode cX1_push 36 = .ok (.putfield 31, 3) := by decide +kernel
theorem dX1_push_39 : decode cX1_push 39 = .ok (.return_, 1) := by decide +kernel
/-! Code: the row of steps and its reckoning -/
theorem k_ti {x v : Int32} {n : Int} (hv : v.toInt = n) (h : ¬ x = v) : ¬ n = x.toInt := fun e => h (Int32.toInt_inj.mp (by rw [hv, e]))
def jnE (k l r : Int32) : Int32 := if k = 43 then l + r else if k = 45 then l - r else if k = 42 then l * r else if k = 47 then (if r = 0 then 0 else l / r) else if k = 330 then (if l < r then l else r) else if k = 331 then (if r < l then l else r) else if k = 328 then l &&& r else l ||| r
def cmE (k l r : Int32) : Int32 := if k = 60 then bI (l < r) else if k = 62 then bI (r < l) else if k = 61 then bI (l = r) else if k = 260 then bI (l ≤ r) else bI (r ≤ l)
def ijE (k : Int32) : Prop := k = 43 ∨ k = 45 ∨ k = 42 ∨ k = 47 ∨ 328 ≤ k
/-- a step on a stack, the latest value first; an empty stack gives 0 -/
def stE (rd : Int32 → Int32 → Int32) (k g : Int32) (st : List Int32) : List Int32 :=
  if k = 259 then g :: st
  else if k = 262 then (-(st.headD 0)) :: st.tail
  else if k = 327 then (1 - st.headD 0) :: st.tail
  else if 319 ≤ k ∧ k ≤ 326 then rd k g :: st
  else (if k = 43 ∨ k = 45 ∨ k = 42 ∨ k = 47 ∨ 328 ≤ k then jnE k (st.tail.headD 0) (st.headD 0) else cmE k (st.tail.headD 0) (st.headD 0)) :: st.tail.tail
/-- the steps from p on, n of them -/
def evE (rd : Int32 → Int32 → Int32) (K A : Nat → Int32) (p : Nat) : Nat → List Int32 → List Int32
  | 0, st => st
  | n + 1, st => evE rd K A (p + 1) n (stE rd (K p) (A p) st)
section CodeB
variable {G : Gp} {S : AMem} {I : Nat → Nat → Int32} {J : Nat → Nat → Int64} {R : Nat → Nat → Option Nat} {a kk aa ss c : Nat}
theorem k_X1_isJoining {k : Int32} : Fn G mX1_isJoining 0 [vI k] (mw S I J R) (fun rr M1 => rr = some (vI (bI (k = 43 ∨ k = 45 ∨ k = 42 ∨ k = 47 ∨ 328 ≤ k))) ∧ M1 = mw S I J R) := by
  refine am_iload_n (q := 1) dX1_isJoining_0 rfl rfl ?_
  refine am_bipush (q := 3) (v := 43) dX1_isJoining_1 kc_b43 rfl ?_
  refine am_icmp_eq (tgt := 31) (q := 6) dX1_isJoining_3 rfl rfl (fun h1 => ?_) (fun h1 => ?_)
  · refine am_iconst (q := 32) (v := 1) dX1_isJoining_31 kc_i1 rfl ?_
    refine am_goto (tgt := 36) dX1_isJoining_32 rfl ?_
    exact am_iret dX1_isJoining_36 rfl rfl ⟨_, rfl, by rw [bI_t (Or.inl h1)], rfl⟩
  · refine am_iload_n (q := 7) dX1_isJoining_6 rfl rfl ?_
    refine am_bipush (q := 9) (v := 45) dX1_isJoining_7 kc_b45 rfl ?_
    refine am_icmp_eq (tgt := 31) (q := 12) dX1_isJoining_9 rfl rfl (fun h2 => ?_) (fun h2 => ?_)
    · refine am_iconst (q := 32) (v := 1) dX1_isJoining_31 kc_i1 rfl ?_
      refine am_goto (tgt := 36) dX1_isJoining_32 rfl ?_
      exact am_iret dX1_isJoining_36 rfl rfl ⟨_, rfl, by rw [bI_t (Or.inr (Or.inl h2))], rfl⟩
    · refine am_iload_n (q := 13) dX1_isJoining_12 rfl rfl ?_
      refine am_bipush (q := 15) (v := 42) dX1_isJoining_13 kc_b42 rfl ?_
      refine am_icmp_eq (tgt := 31) (q := 18) dX1_isJoining_15 rfl rfl (fun h3 => ?_) (fun h3 => ?_)
      · refine am_iconst (q := 32) (v := 1) dX1_isJoining_31 kc_i1 rfl ?_
        refine am_goto (tgt := 36) dX1_isJoining_32 rfl ?_
        exact am_iret dX1_isJoining_36 rfl rfl ⟨_, rfl, by rw [bI_t (Or.inr (Or.inr (Or.inl h3)))], rfl⟩
      · refine am_iload_n (q := 19) dX1_isJoining_18 rfl rfl ?_
        refine am_bipush (q := 21) (v := 47) dX1_isJoining_19 kc_b47 rfl ?_
        refine am_icmp_eq (tgt := 31) (q := 24) dX1_isJoining_21 rfl rfl (fun h4 => ?_) (fun h4 => ?_)
        · refine am_iconst (q := 32) (v := 1) dX1_isJoining_31 kc_i1 rfl ?_
          refine am_goto (tgt := 36) dX1_isJoining_32 rfl ?_
          exact am_iret dX1_isJoining_36 rfl rfl ⟨_, rfl, by rw [bI_t (Or.inr (Or.inr (Or.inr (Or.inl h4))))], rfl⟩
        · refine am_iload_n (q := 25) dX1_isJoining_24 rfl rfl ?_
          refine am_sipush (q := 28) (v := 328) dX1_isJoining_25 kc_s328 rfl ?_
          refine am_icmp_lt (tgt := 35) (q := 31) dX1_isJoining_28 rfl rfl (fun h5 => ?_) (fun h5 => ?_)
          · refine am_iconst (q := 36) (v := 0) dX1_isJoining_35 kc_i0 rfl ?_
            exact am_iret dX1_isJoining_36 rfl rfl ⟨_, rfl, by rw [bI_f (fun z => by
              rcases z with z | z | z | z | z
              · exact h1 z
              · exact h2 z
              · exact h3 z
              · exact h4 z
              · exact Int32.not_le.mpr h5 z)], rfl⟩
          · refine am_iconst (q := 32) (v := 1) dX1_isJoining_31 kc_i1 rfl ?_
            refine am_goto (tgt := 36) dX1_isJoining_32 rfl ?_
            exact am_iret dX1_isJoining_36 rfl rfl ⟨_, rfl, by rw [bI_t (Or.inr (Or.inr (Or.inr (Or.inr (Int32.not_lt.mp h5)))))], rfl⟩
theorem k_X1_joined {k l r : Int32} : Fn G mX1_joined 0 [vI k, vI l, vI r] (mw S I J R) (fun rr M1 => rr = some (vI (jnE k l r)) ∧ M1 = mw S I J R) := by
  by_cases h43 : k = 43
  · subst h43
    refine am_iload_n (q := 1) dX1_joined_0 rfl rfl ?_
    refine am_lookup (tgt := 68) dX1_joined_1 (by decide) rfl rfl ?_
    refine am_iload_n (q := 69) dX1_joined_68 rfl rfl ?_
    refine am_iload_n (q := 70) dX1_joined_69 rfl rfl ?_
    refine am_iadd (q := 71) dX1_joined_70 rfl ?_
    exact am_iret dX1_joined_71 rfl rfl ⟨_, rfl, rfl, rfl⟩
  by_cases h45 : k = 45
  · subst h45
    refine am_iload_n (q := 1) dX1_joined_0 rfl rfl ?_
    refine am_lookup (tgt := 72) dX1_joined_1 (by decide) rfl rfl ?_
    refine am_iload_n (q := 73) dX1_joined_72 rfl rfl ?_
    refine am_iload_n (q := 74) dX1_joined_73 rfl rfl ?_
    refine am_isub (q := 75) dX1_joined_74 rfl ?_
    exact am_iret dX1_joined_75 rfl rfl ⟨_, rfl, rfl, rfl⟩
  by_cases h42 : k = 42
  · subst h42
    refine am_iload_n (q := 1) dX1_joined_0 rfl rfl ?_
    refine am_lookup (tgt := 76) dX1_joined_1 (by decide) rfl rfl ?_
    refine am_iload_n (q := 77) dX1_joined_76 rfl rfl ?_
    refine am_iload_n (q := 78) dX1_joined_77 rfl rfl ?_
    refine am_imul (q := 79) dX1_joined_78 rfl ?_
    exact am_iret dX1_joined_79 rfl rfl ⟨_, rfl, rfl, rfl⟩
  by_cases h47 : k = 47
  · subst h47
    have e : jnE 47 l r = if r = 0 then 0 else l / r := rfl
    refine am_iload_n (q := 1) dX1_joined_0 rfl rfl ?_
    refine am_lookup (tgt := 80) dX1_joined_1 (by decide) rfl rfl ?_
    refine am_iload_n (q := 81) dX1_joined_80 rfl rfl ?_
    refine am_if_ne (tgt := 88) (q := 84) dX1_joined_81 rfl rfl (fun hr => ?_) (fun hr => ?_)
    · refine am_iload_n (q := 89) dX1_joined_88 rfl rfl ?_
      refine am_iload_n (q := 90) dX1_joined_89 rfl rfl ?_
      refine am_idiv (q := 91) dX1_joined_90 hr rfl ?_
      exact am_iret dX1_joined_91 rfl rfl ⟨_, rfl, by rw [e, if_neg hr], rfl⟩
    · refine am_iconst (q := 85) (v := 0) dX1_joined_84 kc_i0 rfl ?_
      refine am_goto (tgt := 91) dX1_joined_85 rfl ?_
      exact am_iret dX1_joined_91 rfl rfl ⟨_, rfl, by rw [e, if_pos hr], rfl⟩
  by_cases h330 : k = 330
  · subst h330
    have e : jnE 330 l r = if l < r then l else r := rfl
    refine am_iload_n (q := 1) dX1_joined_0 rfl rfl ?_
    refine am_lookup (tgt := 92) dX1_joined_1 (by decide) rfl rfl ?_
    refine am_iload_n (q := 93) dX1_joined_92 rfl rfl ?_
    refine am_iload_n (q := 94) dX1_joined_93 rfl rfl ?_
    refine am_icmp_ge (tgt := 101) (q := 97) dX1_joined_94 rfl rfl (fun hr => ?_) (fun hr => ?_)
    · refine am_iload_n (q := 102) dX1_joined_101 rfl rfl ?_
      exact am_iret dX1_joined_102 rfl rfl ⟨_, rfl, by rw [e, if_neg (Int32.not_lt.mpr hr)], rfl⟩
    · refine am_iload_n (q := 98) dX1_joined_97 rfl rfl ?_
      refine am_goto (tgt := 102) dX1_joined_98 rfl ?_
      exact am_iret dX1_joined_102 rfl rfl ⟨_, rfl, by rw [e, if_pos (Int32.not_le.mp hr)], rfl⟩
  by_cases h331 : k = 331
  · subst h331
    have e : jnE 331 l r = if r < l then l else r := rfl
    refine am_iload_n (q := 1) dX1_joined_0 rfl rfl ?_
    refine am_lookup (tgt := 103) dX1_joined_1 (by decide) rfl rfl ?_
    refine am_iload_n (q := 104) dX1_joined_103 rfl rfl ?_
    refine am_iload_n (q := 105) dX1_joined_104 rfl rfl ?_
    refine am_icmp_le (tgt := 112) (q := 108) dX1_joined_105 rfl rfl (fun hr => ?_) (fun hr => ?_)
    · refine am_iload_n (q := 113) dX1_joined_112 rfl rfl ?_
      exact am_iret dX1_joined_113 rfl rfl ⟨_, rfl, by rw [e, if_neg (Int32.not_lt.mpr hr)], rfl⟩
    · refine am_iload_n (q := 109) dX1_joined_108 rfl rfl ?_
      refine am_goto (tgt := 113) dX1_joined_109 rfl ?_
      exact am_iret dX1_joined_113 rfl rfl ⟨_, rfl, by rw [e, if_pos (Int32.not_le.mp hr)], rfl⟩
  by_cases h328 : k = 328
  · subst h328
    refine am_iload_n (q := 1) dX1_joined_0 rfl rfl ?_
    refine am_lookup (tgt := 114) dX1_joined_1 (by decide) rfl rfl ?_
    refine am_iload_n (q := 115) dX1_joined_114 rfl rfl ?_
    refine am_iload_n (q := 116) dX1_joined_115 rfl rfl ?_
    refine am_iand (q := 117) dX1_joined_116 rfl ?_
    exact am_iret dX1_joined_117 rfl rfl ⟨_, rfl, rfl, rfl⟩
  · have ho : Op.lookupswitch.offset (#[(42, 75), (43, 67), (45, 71), (47, 79), (328, 113), (330, 91), (331, 102)] : Array (Int × Int)).toList 117 k.toInt = 117 := by
      show Op.lookupswitch.offset [(42, 75), (43, 67), (45, 71), (47, 79), (328, 113), (330, 91), (331, 102)] 117 k.toInt = 117
      simp only [Op.lookupswitch.offset]
      rw [if_neg (k_ti (v := 42) (n := 42) rfl h42), if_neg (k_ti (v := 43) (n := 43) rfl h43), if_neg (k_ti (v := 45) (n := 45) rfl h45), if_neg (k_ti (v := 47) (n := 47) rfl h47), if_neg (k_ti (v := 328) (n := 328) rfl h328), if_neg (k_ti (v := 330) (n := 330) rfl h330), if_neg (k_ti (v := 331) (n := 331) rfl h331)]
    have e : jnE k l r = l ||| r := by
      unfold jnE
      rw [if_neg h43, if_neg h45, if_neg h42, if_neg h47, if_neg h330, if_neg h331, if_neg h328]
    refine am_iload_n (q := 1) dX1_joined_0 rfl rfl ?_
    refine am_lookup (tgt := 118) dX1_joined_1 (by decide) ho rfl ?_
    refine am_iload_n (q := 119) dX1_joined_118 rfl rfl ?_
    refine am_iload_n (q := 120) dX1_joined_119 rfl rfl ?_
    refine am_ior (q := 121) dX1_joined_120 rfl ?_
    exact am_iret dX1_joined_121 rfl rfl ⟨_, rfl, by rw [e], rfl⟩
theorem k_X1_compared {k l r : Int32} : Fn G mX1_compared 0 [vI k, vI l, vI r] (mw S I J R) (fun rr M1 => rr = some (vI (cmE k l r)) ∧ M1 = mw S I J R) := by
  have tl : ∀ x : Int32, x = 0 ∨ x = 1 → x = cmE k l r → MW G mX1_compared 0 111 [some (vI k), some (vI l), some (vI r), some (vI x)] [] (mw S I J R) (fun f M1 => ∃ rr, f = .inl rr ∧ (rr = some (vI (cmE k l r)) ∧ M1 = mw S I J R)) := by
    intro x hx he
    rcases hx with rfl | rfl
    · refine am_iload_n (q := 112) dX1_compared_111 rfl rfl ?_
      refine am_if_eq (tgt := 119) (q := 115) dX1_compared_112 rfl rfl (fun _ => ?_) (fun hz => absurd rfl hz)
      refine am_iconst (q := 120) (v := 0) dX1_compared_119 kc_i0 rfl ?_
      exact am_iret dX1_compared_120 rfl rfl ⟨_, rfl, by rw [← he], rfl⟩
    · refine am_iload_n (q := 112) dX1_compared_111 rfl rfl ?_
      refine am_if_eq (tgt := 119) (q := 115) dX1_compared_112 rfl rfl (fun hz => absurd hz (by decide)) (fun _ => ?_)
      refine am_iconst (q := 116) (v := 1) dX1_compared_115 kc_i1 rfl ?_
      refine am_goto (tgt := 120) dX1_compared_116 rfl ?_
      exact am_iret dX1_compared_120 rfl rfl ⟨_, rfl, by rw [← he], rfl⟩
  by_cases h60 : k = 60
  · subst h60
    have e : cmE 60 l r = bI (l < r) := rfl
    refine am_iload_n (q := 1) dX1_compared_0 rfl rfl ?_
    refine am_lookup (tgt := 44) dX1_compared_1 (by decide) rfl rfl ?_
    refine am_iload_n (q := 45) dX1_compared_44 rfl rfl ?_
    refine am_iload_n (q := 46) dX1_compared_45 rfl rfl ?_
    refine am_icmp_ge (tgt := 53) (q := 49) dX1_compared_46 rfl rfl (fun hr => ?_) (fun hr => ?_)
    · refine am_iconst (q := 54) (v := 0) dX1_compared_53 kc_i0 rfl ?_
      refine am_istore_n (q := 55) (ls1 := [_, _, _, _]) dX1_compared_54 (Nat.le_of_ble_eq_true rfl) rfl rfl ?_
      refine am_goto (tgt := 111) dX1_compared_55 rfl ?_
      exact tl 0 (Or.inl rfl) (by rw [e, bI_f (Int32.not_lt.mpr hr)])
    · refine am_iconst (q := 50) (v := 1) dX1_compared_49 kc_i1 rfl ?_
      refine am_goto (tgt := 54) dX1_compared_50 rfl ?_
      refine am_istore_n (q := 55) (ls1 := [_, _, _, _]) dX1_compared_54 (Nat.le_of_ble_eq_true rfl) rfl rfl ?_
      refine am_goto (tgt := 111) dX1_compared_55 rfl ?_
      exact tl 1 (Or.inr rfl) (by rw [e, bI_t (Int32.not_le.mp hr)])
  by_cases h62 : k = 62
  · subst h62
    have e : cmE 62 l r = bI (r < l) := rfl
    refine am_iload_n (q := 1) dX1_compared_0 rfl rfl ?_
    refine am_lookup (tgt := 58) dX1_compared_1 (by decide) rfl rfl ?_
    refine am_iload_n (q := 59) dX1_compared_58 rfl rfl ?_
    refine am_iload_n (q := 60) dX1_compared_59 rfl rfl ?_
    refine am_icmp_le (tgt := 67) (q := 63) dX1_compared_60 rfl rfl (fun hr => ?_) (fun hr => ?_)
    · refine am_iconst (q := 68) (v := 0) dX1_compared_67 kc_i0 rfl ?_
      refine am_istore_n (q := 69) (ls1 := [_, _, _, _]) dX1_compared_68 (Nat.le_of_ble_eq_true rfl) rfl rfl ?_
      refine am_goto (tgt := 111) dX1_compared_69 rfl ?_
      exact tl 0 (Or.inl rfl) (by rw [e, bI_f (Int32.not_lt.mpr hr)])
    · refine am_iconst (q := 64) (v := 1) dX1_compared_63 kc_i1 rfl ?_
      refine am_goto (tgt := 68) dX1_compared_64 rfl ?_
      refine am_istore_n (q := 69) (ls1 := [_, _, _, _]) dX1_compared_68 (Nat.le_of_ble_eq_true rfl) rfl rfl ?_
      refine am_goto (tgt := 111) dX1_compared_69 rfl ?_
      exact tl 1 (Or.inr rfl) (by rw [e, bI_t (Int32.not_le.mp hr)])
  by_cases h61 : k = 61
  · subst h61
    have e : cmE 61 l r = bI (l = r) := rfl
    refine am_iload_n (q := 1) dX1_compared_0 rfl rfl ?_
    refine am_lookup (tgt := 72) dX1_compared_1 (by decide) rfl rfl ?_
    refine am_iload_n (q := 73) dX1_compared_72 rfl rfl ?_
    refine am_iload_n (q := 74) dX1_compared_73 rfl rfl ?_
    refine am_icmp_ne (tgt := 81) (q := 77) dX1_compared_74 rfl rfl (fun hr => ?_) (fun hr => ?_)
    · refine am_iconst (q := 82) (v := 0) dX1_compared_81 kc_i0 rfl ?_
      refine am_istore_n (q := 83) (ls1 := [_, _, _, _]) dX1_compared_82 (Nat.le_of_ble_eq_true rfl) rfl rfl ?_
      refine am_goto (tgt := 111) dX1_compared_83 rfl ?_
      exact tl 0 (Or.inl rfl) (by rw [e, bI_f hr])
    · refine am_iconst (q := 78) (v := 1) dX1_compared_77 kc_i1 rfl ?_
      refine am_goto (tgt := 82) dX1_compared_78 rfl ?_
      refine am_istore_n (q := 83) (ls1 := [_, _, _, _]) dX1_compared_82 (Nat.le_of_ble_eq_true rfl) rfl rfl ?_
      refine am_goto (tgt := 111) dX1_compared_83 rfl ?_
      exact tl 1 (Or.inr rfl) (by rw [e, bI_t hr])
  by_cases h260 : k = 260
  · subst h260
    have e : cmE 260 l r = bI (l ≤ r) := rfl
    refine am_iload_n (q := 1) dX1_compared_0 rfl rfl ?_
    refine am_lookup (tgt := 86) dX1_compared_1 (by decide) rfl rfl ?_
    refine am_iload_n (q := 87) dX1_compared_86 rfl rfl ?_
    refine am_iload_n (q := 88) dX1_compared_87 rfl rfl ?_
    refine am_icmp_gt (tgt := 95) (q := 91) dX1_compared_88 rfl rfl (fun hr => ?_) (fun hr => ?_)
    · refine am_iconst (q := 96) (v := 0) dX1_compared_95 kc_i0 rfl ?_
      refine am_istore_n (q := 97) (ls1 := [_, _, _, _]) dX1_compared_96 (Nat.le_of_ble_eq_true rfl) rfl rfl ?_
      refine am_goto (tgt := 111) dX1_compared_97 rfl ?_
      exact tl 0 (Or.inl rfl) (by rw [e, bI_f (Int32.not_le.mpr hr)])
    · refine am_iconst (q := 92) (v := 1) dX1_compared_91 kc_i1 rfl ?_
      refine am_goto (tgt := 96) dX1_compared_92 rfl ?_
      refine am_istore_n (q := 97) (ls1 := [_, _, _, _]) dX1_compared_96 (Nat.le_of_ble_eq_true rfl) rfl rfl ?_
      refine am_goto (tgt := 111) dX1_compared_97 rfl ?_
      exact tl 1 (Or.inr rfl) (by rw [e, bI_t (Int32.not_lt.mp hr)])
  · have ho : Op.lookupswitch.offset (#[(60, 43), (61, 71), (62, 57), (260, 85)] : Array (Int × Int)).toList 99 k.toInt = 99 := by
      show Op.lookupswitch.offset [(60, 43), (61, 71), (62, 57), (260, 85)] 99 k.toInt = 99
      simp only [Op.lookupswitch.offset]
      rw [if_neg (k_ti (v := 60) (n := 60) rfl h60), if_neg (k_ti (v := 61) (n := 61) rfl h61), if_neg (k_ti (v := 62) (n := 62) rfl h62), if_neg (k_ti (v := 260) (n := 260) rfl h260)]
    have e : cmE k l r = bI (r ≤ l) := by
      unfold cmE
      rw [if_neg h60, if_neg h62, if_neg h61, if_neg h260]
    refine am_iload_n (q := 1) dX1_compared_0 rfl rfl ?_
    refine am_lookup (tgt := 100) dX1_compared_1 (by decide) ho rfl ?_
    refine am_iload_n (q := 101) dX1_compared_100 rfl rfl ?_
    refine am_iload_n (q := 102) dX1_compared_101 rfl rfl ?_
    refine am_icmp_lt (tgt := 109) (q := 105) dX1_compared_102 rfl rfl (fun hr => ?_) (fun hr => ?_)
    · refine am_iconst (q := 110) (v := 0) dX1_compared_109 kc_i0 rfl ?_
      refine am_istore_n (q := 111) (ls1 := [_, _, _, _]) dX1_compared_110 (Nat.le_of_ble_eq_true rfl) rfl rfl ?_
      exact tl 0 (Or.inl rfl) (by rw [e, bI_f (Int32.not_le.mpr hr)])
    · refine am_iconst (q := 106) (v := 1) dX1_compared_105 kc_i1 rfl ?_
      refine am_goto (tgt := 110) dX1_compared_106 rfl ?_
      refine am_istore_n (q := 111) (ls1 := [_, _, _, _]) dX1_compared_110 (Nat.le_of_ble_eq_true rfl) rfl rfl ?_
      exact tl 1 (Or.inr rfl) (by rw [e, bI_t (Int32.not_lt.mp hr)])
theorem k_X1_push {v : Int32} {t : Nat} (h1 : S.K a = 2) (h2 : R a 2 = some ss) (h3 : S.K ss = 20) (h4 : S.ln ss = 400) (ht : I a 3 = nI t) (hlt : t < 400) : Fn G mX1_push 0 [vR a, vI v] (mw S I J R) (fun rr M1 => rr = none ∧ M1 = mw S (up2 (up2 I ss t v) a 3 (nI (t + 1))) J R) := by
  have n1 : a ≠ ss := fun e => by rw [e, h3] at h1; exact absurd h1 (by decide)
  refine am_aload_n (q := 1) dX1_push_0 rfl rfl ?_
  refine cm_getI (q := 4) dX1_push_1 flX1_31 rfl (by assumption) rfl ?_
  rw [ht]
  refine am_if_lt (tgt := 39) (q := 7) dX1_push_4 rfl rfl (fun hz => absurd hz (nI_pos (by omega))) (fun _ => ?_)
  refine am_aload_n (q := 8) dX1_push_7 rfl rfl ?_
  refine cm_getI (q := 11) dX1_push_8 flX1_31 rfl (by assumption) rfl ?_
  refine am_aload_n (q := 12) dX1_push_11 rfl rfl ?_
  refine cm_getR (q := 15) dX1_push_12 flX1_20 rfl (by assumption) (by assumption) rfl ?_
  refine cm_alenI (q := 16) dX1_push_15 (by assumption) (by rw [h4] : nI (S.ln ss) = nI 400) rfl ?_
  rw [ht]
  refine am_icmp_ge (tgt := 39) (q := 19) dX1_push_16 rfl rfl (fun hz => absurd hz (nI_ge (by omega) (by decide))) (fun _ => ?_)
  refine am_aload_n (q := 20) dX1_push_19 rfl rfl ?_
  refine cm_getR (q := 23) dX1_push_20 flX1_20 rfl (by assumption) (by assumption) rfl ?_
  refine am_aload_n (q := 24) dX1_push_23 rfl rfl ?_
  refine cm_getI (q := 27) dX1_push_24 flX1_31 rfl (by assumption) rfl ?_
  rw [ht]
  refine am_iload_n (q := 28) dX1_push_27 rfl rfl ?_
  refine cm_iastore (q := 29) dX1_push_28 (by assumption) (by rw [h4]; exact vp_in_nI (by omega) (by decide)) rfl ?_
  refine am_aload_n (q := 30) dX1_push_29 rfl rfl ?_
  refine am_dup (q := 31) dX1_push_30 rfl rfl ?_
  refine cm_getI (q := 34) dX1_push_31 flX1_31 rfl (by assumption) rfl ?_
  refine am_iconst (q := 35) (v := 1) dX1_push_34 kc_i1 rfl ?_
  refine am_iadd (q := 36) dX1_push_35 rfl ?_
  refine cm_putI (q := 39) dX1_push_36 flX1_31 rfl (Or.inl rfl) (Or.inl rfl) (by assumption) rfl ?_
  exact am_ret dX1_push_39 rfl ⟨_, rfl, rfl, by
    rw [nI_clamp (by omega), up2_a n1, ht, nI_1]⟩
theorem k_X1_pop0 (h1 : S.K a = 2) (ht : I a 3 = 0) : Fn G mX1_pop 0 [vR a] (mw S I J R) (fun rr M1 => rr = some (vI 0) ∧ M1 = mw S I J R) := by
  refine am_aload_n (q := 1) dX1_pop_0 rfl rfl ?_
  refine cm_getI (q := 4) dX1_pop_1 flX1_31 rfl (by assumption) rfl ?_
  rw [ht]
  refine am_if_le (tgt := 19) (q := 7) dX1_pop_4 rfl rfl (fun _ => ?_) (fun hz => absurd (Int32.le_refl _) hz)
  refine am_iconst (q := 20) (v := 0) dX1_pop_19 kc_i0 rfl ?_
  exact am_iret dX1_pop_20 rfl rfl ⟨_, rfl, rfl, rfl⟩
theorem k_X1_pop {t : Nat} (h1 : S.K a = 2) (h2 : R a 2 = some ss) (h3 : S.K ss = 20) (h4 : S.ln ss = 400) (ht : I a 3 = nI (t + 1)) (hlt : t < 400) : Fn G mX1_pop 0 [vR a] (mw S I J R) (fun rr M1 => rr = some (vI (I ss t)) ∧ M1 = mw S (up2 I a 3 (nI t)) J R) := by
  have n1 : ss ≠ a := fun e => by rw [e, h1] at h3; exact absurd h3 (by decide)
  have e1 : nI (t + 1) - 1 = nI t := nI_pred t
  refine am_aload_n (q := 1) dX1_pop_0 rfl rfl ?_
  refine cm_getI (q := 4) dX1_pop_1 flX1_31 rfl (by assumption) rfl ?_
  rw [ht]
  refine am_if_le (tgt := 19) (q := 7) dX1_pop_4 rfl rfl (fun hz => absurd hz (nI_nle (by omega) (by omega))) (fun _ => ?_)
  refine am_aload_n (q := 8) dX1_pop_7 rfl rfl ?_
  refine cm_getI (q := 11) dX1_pop_8 flX1_31 rfl (by assumption) rfl ?_
  refine am_aload_n (q := 12) dX1_pop_11 rfl rfl ?_
  refine cm_getR (q := 15) dX1_pop_12 flX1_20 rfl (by assumption) (by assumption) rfl ?_
  refine cm_alenI (q := 16) dX1_pop_15 (by assumption) (by rw [h4] : nI (S.ln ss) = nI 400) rfl ?_
  rw [ht]
  refine am_icmp_le (tgt := 21) (q := 19) dX1_pop_16 rfl rfl (fun _ => ?_) (fun hz => absurd (nI_le (by omega) (by decide)) hz)
  refine am_aload_n (q := 22) dX1_pop_21 rfl rfl ?_
  refine am_dup (q := 23) dX1_pop_22 rfl rfl ?_
  refine cm_getI (q := 26) dX1_pop_23 flX1_31 rfl (by assumption) rfl ?_
  refine am_iconst (q := 27) (v := 1) dX1_pop_26 kc_i1 rfl ?_
  refine am_isub (q := 28) dX1_pop_27 rfl ?_
  refine cm_putI (q := 31) dX1_pop_28 flX1_31 rfl (Or.inl rfl) (Or.inl rfl) (by assumption) rfl ?_
  refine am_aload_n (q := 32) dX1_pop_31 rfl rfl ?_
  refine cm_getR (q := 35) dX1_pop_32 flX1_20 rfl (by assumption) (by assumption) rfl ?_
  refine am_aload_n (q := 36) dX1_pop_35 rfl rfl ?_
  refine cm_getI (q := 39) dX1_pop_36 flX1_31 rfl (by assumption) rfl ?_
  rw [up2_s, ht, e1]
  refine cm_iaload (q := 40) dX1_pop_39 (by assumption) (by rw [h4]; exact vp_in_nI (by omega) (by decide)) rfl ?_
  exact am_iret dX1_pop_40 rfl rfl ⟨_, rfl, by rw [nI_clamp (by omega), up2_a n1], rfl⟩
end CodeB
end
section
theorem kc_s259 : (Int16.ofInt 259).toInt32 = 259 := by decide +kernel
theorem kc_s262 : (Int16.ofInt 262).toInt32 = 262 := by decide +kernel
theorem kc_s319 : (Int16.ofInt 319).toInt32 = 319 := by decide +kernel
theorem kc_s326 : (Int16.ofInt 326).toInt32 = 326 := by decide +kernel
theorem kc_s327 : (Int16.ofInt 327).toInt32 = 327 := by decide +kernel
theorem dX1_reckon_0 : decode cX1_reckon 0 = .ok (.aload_n 0, 1) := by decide +kernel
theorem dX1_reckon_1 : decode cX1_reckon 1 = .ok (.iconst 0, 1) := by decide +kernel
theorem dX1_reckon_2 : decode cX1_reckon 2 = .ok (.putfield 31, 3) := by decide +kernel
theorem dX1_reckon_5 : decode cX1_reckon 5 = .ok (.iload_n 1, 1) := by decide +kernel
theorem dX1_reckon_6 : decode cX1_reckon 6 = .ok (.istore 4, 2) := by decide +kernel
theorem dX1_reckon_8 : decode cX1_reckon 8 = .ok (.iload 4, 2) := by decide +kernel
theorem dX1_reckon_10 : decode cX1_reckon 10 = .ok (.iload_n 2, 1) := by decide +kernel
theorem dX1_reckon_11 : decode cX1_reckon 11 = .ok (.if_icmp .ge 219, 3) := by decide +kernel
theorem dX1_reckon_14 : decode cX1_reckon 14 = .ok (.iload 4, 2) := by decide +kernel
theorem dX1_reckon_16 : decode cX1_reckon 16 = .ok (.ifCond .lt 32, 3) := by decide +kernel
theorem dX1_reckon_19 : decode cX1_reckon 19 = .ok (.iload 4, 2) := by decide +kernel
theorem dX1_reckon_21 : decode cX1_reckon 21 = .ok (.aload_n 0, 1) := by decide +kernel
theorem dX1_reckon_22 : decode cX1_reckon 22 = .ok (.getfield 23, 3) := by decide +kernel
theorem dX1_reckon_25 : decode cX1_reckon 25 = .ok (.if_icmp .ge 23, 3) := by decide +kernel
theorem dX1_reckon_28 : decode cX1_reckon 28 = .ok (.iload 4, 2) := by decide +kernel
theorem dX1_reckon_30 : decode cX1_reckon 30 = .ok (.aload_n 0, 1) := by decide +kernel
theorem dX1_reckon_31 : decode cX1_reckon 31 = .ok (.getfield 11, 3) := by decide +kernel
theorem dX1_reckon_34 : decode cX1_reckon 34 = .ok (.arraylength, 1) := by decide +kernel
theorem dX1_reckon_35 : decode cX1_reckon 35 = .ok (.if_icmp .ge 13, 3) := by decide +kernel
theorem dX1_reckon_38 : decode cX1_reckon 38 = .ok (.aload_n 0, 1) := by decide +kernel
theorem dX1_reckon_39 : decode cX1_reckon 39 = .ok (.getfield 11, 3) := by decide +kernel
theorem dX1_reckon_42 : decode cX1_reckon 42 = .ok (.iload 4, 2) := by decide +kernel
theorem dX1_reckon_44 : decode cX1_reckon 44 = .ok (.iaload, 1) := by decide +kernel
theorem dX1_reckon_45 : decode cX1_reckon 45 = .ok (.goto 6, 3) := by decide +kernel
theorem dX1_reckon_51 : decode cX1_reckon 51 = .ok (.istore 5, 2) := by decide +kernel
theorem dX1_reckon_53 : decode cX1_reckon 53 = .ok (.iload 4, 2) := by decide +kernel
theorem dX1_reckon_55 : decode cX1_reckon 55 = .ok (.ifCond .lt 32, 3) := by decide +kernel
theorem dX1_reckon_58 : decode cX1_reckon 58 = .ok (.iload 4, 2) := by decide +kernel
theorem dX1_reckon_60 : decode cX1_reckon 60 = .ok (.aload_n 0, 1) := by decide +kernel
theorem dX1_reckon_61 : decode cX1_reckon 61 = .ok (.getfield 23, 3) := by decide +kernel
theorem dX1_reckon_64 : decode cX1_reckon 64 = .ok (.if_icmp .ge 23, 3) := by decide +kernel
theorem dX1_reckon_67 : decode cX1_reckon 67 = .ok (.iload 4, 2) := by decide +kernel
theorem dX1_reckon_69 : decode cX1_reckon 69 = .ok (.aload_n 0, 1) := by decide +kernel
theorem dX1_reckon_70 : decode cX1_reckon 70 = .ok (.getfield 17, 3) := by decide +kernel
theorem dX1_reckon_73 : decode cX1_reckon 73 = .ok (.arraylength, 1) := by decide +kernel
theorem dX1_reckon_74 : decode cX1_reckon 74 = .ok (.if_icmp .ge 13, 3) := by decide +kernel
theorem dX1_reckon_77 : decode cX1_reckon 77 = .ok (.aload_n 0, 1) := by decide +kernel
theorem dX1_reckon_78 : decode cX1_reckon 78 = .ok (.getfield 17, 3) := by decide +kernel
theorem dX1_reckon_81 : decode cX1_reckon 81 = .ok (.iload 4, 2) := by decide +kernel
theorem dX1_reckon_83 : decode cX1_reckon 83 = .ok (.iaload, 1) := by decide +kernel
theorem dX1_reckon_84 : decode cX1_reckon 84 = .ok (.goto 4, 3) := by decide +kernel
theorem dX1_reckon_88 : decode cX1_reckon 88 = .ok (.istore 6, 2) := by decide +kernel
theorem dX1_reckon_90 : decode cX1_reckon 90 = .ok (.iload 5, 2) := by decide +kernel
theorem dX1_reckon_92 : decode cX1_reckon 92 = .ok (.sipush 259, 3) := by decide +kernel
theorem dX1_reckon_95 : decode cX1_reckon 95 = .ok (.if_icmp .ne 12, 3) := by decide +kernel
theorem dX1_reckon_98 : decode cX1_reckon 98 = .ok (.aload_n 0, 1) := by decide +kernel
theorem dX1_reckon_99 : decode cX1_reckon 99 = .ok (.iload 6, 2) := by decide +kernel
theorem dX1_reckon_101 : decode cX1_reckon 101 = .ok (.invokevirtual 34, 3) := by decide +kernel
theorem dX1_reckon_104 : decode cX1_reckon 104 = .ok (.goto 120, 3) := by decide +kernel
theorem dX1_reckon_107 : decode cX1_reckon 107 = .ok (.iload 5, 2) := by decide +kernel
theorem dX1_reckon_109 : decode cX1_reckon 109 = .ok (.sipush 262, 3) := by decide +kernel
theorem dX1_reckon_112 : decode cX1_reckon 112 = .ok (.if_icmp .ne 15, 3) := by decide +kernel
theorem dX1_reckon_115 : decode cX1_reckon 115 = .ok (.aload_n 0, 1) := by decide +kernel
theorem dX1_reckon_116 : decode cX1_reckon 116 = .ok (.aload_n 0, 1) := by decide +kernel
theorem dX1_reckon_117 : decode cX1_reckon 117 = .ok (.invokevirtual 38, 3) := by decide +kernel
theorem dX1_reckon_120 : decode cX1_reckon 120 = .ok (.ineg, 1) := by decide +kernel
theorem dX1_reckon_121 : decode cX1_reckon 121 = .ok (.invokevirtual 34, 3) := by decide +kernel
theorem dX1_reckon_124 : decode cX1_reckon 124 = .ok (.goto 100, 3) := by decide +kernel
theorem dX1_reckon_127 : decode cX1_reckon 127 = .ok (.iload 5, 2) := by decide +kernel
theorem dX1_reckon_129 : decode cX1_reckon 129 = .ok (.sipush 327, 3) := by decide +kernel
theorem dX1_reckon_132 : decode cX1_reckon 132 = .ok (.if_icmp .ne 16, 3) := by decide +kernel
theorem dX1_reckon_135 : decode cX1_reckon 135 = .ok (.aload_n 0, 1) := by decide +kernel
theorem dX1_reckon_136 : decode cX1_reckon 136 = .ok (.iconst 1, 1) := by decide +kernel
theorem dX1_reckon_137 : decode cX1_reckon 137 = .ok (.aload_n 0, 1) := by decide +kernel
theorem dX1_reckon_138 : decode cX1_reckon 138 = .ok (.invokevirtual 38, 3) := by decide +kernel
theorem dX1_reckon_141 : decode cX1_reckon 141 = .ok (.isub, 1) := by decide +kernel
theorem dX1_reckon_142 : decode cX1_reckon 142 = .ok (.invokevirtual 34, 3) := by decide +kernel
theorem dX1_reckon_145 : decode cX1_reckon 145 = .ok (.goto 79, 3) := by decide +kernel
theorem dX1_reckon_148 : decode cX1_reckon 148 = .ok (.iload 5, 2) := by decide +kernel
theorem dX1_reckon_150 : decode cX1_reckon 150 = .ok (.sipush 319, 3) := by decide +kernel
theorem dX1_reckon_153 : decode cX1_reckon 153 = .ok (.if_icmp .lt 26, 3) := by decide +kernel
theorem dX1_reckon_156 : decode cX1_reckon 156 = .ok (.iload 5, 2) := by decide +kernel
theorem dX1_reckon_158 : decode cX1_reckon 158 = .ok (.sipush 326, 3) := by decide +kernel
theorem dX1_reckon_161 : decode cX1_reckon 161 = .ok (.if_icmp .gt 18, 3) := by decide +kernel
theorem dX1_reckon_164 : decode cX1_reckon 164 = .ok (.aload_n 0, 1) := by decide +kernel
theorem dX1_reckon_165 : decode cX1_reckon 165 = .ok (.aload_n 3, 1) := by decide +kernel
theorem dX1_reckon_166 : decode cX1_reckon 166 = .ok (.iload 5, 2) := by decide +kernel
theorem dX1_reckon_168 : decode cX1_reckon 168 = .ok (.iload 6, 2) := by decide +kernel
theorem dX1_reckon_170 : decode cX1_reckon 170 = .ok (.invokevirtual 42, 3) := by decide +kernel
theorem dX1_reckon_173 : decode cX1_reckon 173 = .ok (.invokevirtual 34, 3) := by decide +kernel
theorem dX1_reckon_176 : decode cX1_reckon 176 = .ok (.goto 48, 3) := by decide +kernel
theorem dX1_reckon_179 : decode cX1_reckon 179 = .ok (.aload_n 0, 1) := by decide +kernel
theorem dX1_reckon_180 : decode cX1_reckon 180 = .ok (.invokevirtual 38, 3) := by decide +kernel
theorem dX1_reckon_183 : decode cX1_reckon 183 = .ok (.istore 7, 2) := by decide +kernel
theorem dX1_reckon_185 : decode cX1_reckon 185 = .ok (.aload_n 0, 1) := by decide +kernel
theorem dX1_reckon_186 : decode cX1_reckon 186 = .ok (.invokevirtual 38, 3) := by decide +kernel
theorem dX1_reckon_189 : decode cX1_reckon 189 = .ok (.istore 8, 2) := by decide +kernel
theorem dX1_reckon_191 : decode cX1_reckon 191 = .ok (.aload_n 0, 1) := by decide +kernel
theorem dX1_reckon_192 : decode cX1_reckon 192 = .ok (.iload 5, 2) := by decide +kernel
theorem dX1_reckon_194 : decode cX1_reckon 194 = .ok (.invokestatic 48, 3) := by decide +kernel
theorem dX1_reckon_197 : decode cX1_reckon 197 = .ok (.ifCond .eq 15, 3) := by decide +kernel
theorem dX1_reckon_200 : decode cX1_reckon 200 = .ok (.iload 5, 2) := by decide +kernel
theorem dX1_reckon_202 : decode cX1_reckon 202 = .ok (.iload 8, 2) := by decide +kernel
theorem dX1_reckon_204 : decode cX1_reckon 204 = .ok (.iload 7, 2) := by decide +kernel
theorem dX1_reckon_206 : decode cX1_reckon 206 = .ok (.invokestatic 52, 3) := by decide +kernel
theorem dX1_reckon_209 : decode cX1_reckon 209 = .ok (.goto 12, 3) := by decide +kernel
theorem dX1_reckon_212 : decode cX1_reckon 212 = .ok (.iload 5, 2) := by decide +kernel
theorem dX1_reckon_214 : decode cX1_reckon 214 = .ok (.iload 8, 2) := by decide +kernel
theorem dX1_reckon_216 : decode cX1_reckon 216 = .ok (.iload 7, 2) := by decide +kernel
theorem dX1_reckon_218 : decode cX1_reckon 218 = .ok (.invokestatic 56, 3) := by decide +kernel
theorem dX1_reckon_221 : decode cX1_reckon 221 = .ok (.invokevirtual 34, 3) := by decide +kernel
theorem dX1_reckon_224 : decode cX1_reckon 224 = .ok (.iinc 4 1, 3) := by decide +kernel
theorem dX1_reckon_227 : decode cX1_reckon 227 = .ok (.goto (-219), 3) := by decide +kernel
theorem dX1_reckon_230 : decode cX1_reckon 230 = .ok (.aload_n 0, 1) := by decide +kernel
theorem dX1_reckon_231 : decode cX1_reckon 231 = .ok (.invokevirtual 38, 3) := by decide +kernel
theorem dX1_reckon_234 : decode cX1_reckon 234 = .ok (.ireturn, 1) := by decide +kernel
/-! Code.reckon, by a stack that is a list -/
section ReckB
variable {G : Gp} {S : AMem} {I : Nat → Nat → Int32} {J : Nat → Nat → Int64} {R : Nat → Nat → Option Nat} {a kk aa ss c : Nat}
/-- the stack holds the list, its latest value on top -/
def SK (a ss : Nat) (I : Nat → Nat → Int32) (st : List Int32) : Prop := I a 3 = nI st.length ∧ ∀ i x, st[i]? = some x → I ss (st.length - 1 - i) = x
/-- nothing but the stack has changed -/
def OffK (a ss : Nat) (I I1 : Nat → Nat → Int32) : Prop := ∀ x j, x ≠ ss → (x ≠ a ∨ j ≠ 3) → I1 x j = I x j
theorem OffK.tr {I I1 I2 : Nat → Nat → Int32} (h1 : OffK a ss I I1) (h2 : OffK a ss I1 I2) : OffK a ss I I2 := fun x j q1 q2 => (h2 x j q1 q2).trans (h1 x j q1 q2)
theorem kq_push {v : Int32} {st : List Int32} (h1 : S.K a = 2) (h2 : R a 2 = some ss) (h3 : S.K ss = 20) (h4 : S.ln ss = 400) (hs : SK a ss I st) (hlt : st.length < 400) : Fn G mX1_push 0 [vR a, vI v] (mw S I J R) (fun rr M1 => rr = none ∧ ∃ I1, M1 = mw S I1 J R ∧ SK a ss I1 (v :: st) ∧ OffK a ss I I1) := by
  have n1 : a ≠ ss := fun e => by rw [e, h3] at h1; exact absurd h1 (by decide)
  refine MW.weaken (k_X1_push h1 h2 h3 h4 hs.1 hlt) ?_
  rintro _ _ ⟨_, rfl, rfl, rfl⟩
  refine ⟨_, rfl, rfl, _, rfl, ⟨by rw [up2_s]; rfl, fun i x hx => ?_⟩, fun x j q1 q2 => ?_⟩
  · rw [up2_a n1.symm]
    rcases i with _ | i
    · simp at hx
      subst hx
      show up2 I ss st.length v ss (st.length + 1 - 1 - 0) = v
      rw [show st.length + 1 - 1 - 0 = st.length by omega, up2_s]
    · have hx' : st[i]? = some x := by simpa using hx
      have hi : i < st.length := (List.getElem?_eq_some_iff.mp hx').1
      show up2 I ss st.length v ss (st.length + 1 - 1 - (i + 1)) = x
      rw [up2_j (by omega), show st.length + 1 - 1 - (i + 1) = st.length - 1 - i by omega]
      exact hs.2 i x hx'
  · rw [up2_at, if_neg (by
      rintro ⟨e1, e2⟩
      rcases q2 with q2 | q2
      · exact q2 e1
      · exact q2 e2), up2_a q1]
theorem kq_pop {st : List Int32} (h1 : S.K a = 2) (h2 : R a 2 = some ss) (h3 : S.K ss = 20) (h4 : S.ln ss = 400) (hs : SK a ss I st) (hlt : st.length ≤ 400) : Fn G mX1_pop 0 [vR a] (mw S I J R) (fun rr M1 => rr = some (vI (st.headD 0)) ∧ ∃ I1, M1 = mw S I1 J R ∧ SK a ss I1 st.tail ∧ OffK a ss I I1) := by
  have n1 : a ≠ ss := fun e => by rw [e, h3] at h1; exact absurd h1 (by decide)
  cases st with
  | nil =>
    refine MW.weaken (k_X1_pop0 h1 hs.1) ?_
    rintro _ _ ⟨_, rfl, rfl, rfl⟩
    exact ⟨_, rfl, rfl, I, rfl, hs, fun _ _ _ _ => rfl⟩
  | cons y t =>
    have hl : (y :: t).length = t.length + 1 := rfl
    rw [hl] at hlt
    refine MW.weaken (k_X1_pop (t := t.length) h1 h2 h3 h4 hs.1 (by omega)) ?_
    rintro _ _ ⟨_, rfl, rfl, rfl⟩
    have e : I ss t.length = y := by
      have := hs.2 0 y rfl
      rw [hl, show t.length + 1 - 1 - 0 = t.length by omega] at this
      exact this
    refine ⟨_, rfl, by rw [e]; rfl, _, rfl, ⟨up2_s, fun i x hx => ?_⟩, fun x j q1 q2 => ?_⟩
    · rw [up2_a n1.symm]
      have hi : i < t.length := (List.getElem?_eq_some_iff.mp hx).1
      have := hs.2 (i + 1) x (by simpa using hx)
      rw [hl, show t.length + 1 - 1 - (i + 1) = t.length - 1 - i by omega] at this
      exact this
    · rw [up2_at, if_neg (by
        rintro ⟨e1, e2⟩
        rcases q2 with q2 | q2
        · exact q2 e1
        · exact q2 e2)]
theorem stE_len {rd : Int32 → Int32 → Int32} {k g : Int32} {st : List Int32} : (stE rd k g st).length ≤ st.length + 1 := by
  unfold stE
  have h1 : st.tail.length ≤ st.length := by cases st <;> simp
  have h2 : st.tail.tail.length ≤ st.length := by cases st with
    | nil => simp
    | cons y t => cases t <;> simp; omega
  split
  · simp
  · split
    · simp; try omega
    · split
      · simp; try omega
      · split
        · simp
        · simp; try omega
set_option maxHeartbeats 4000000 in
theorem k_X1_reckon {rd : Int32 → Int32 → Int32} {p n z : Nat} (hG : okG G) (h1 : S.K a = 2) (h2 : R a 2 = some ss) (h3 : S.K ss = 20) (h4 : S.ln ss = 400) (g1 : R a 0 = some kk) (g2 : S.K kk = 20) (g3 : S.ln kk = 400) (g4 : R a 1 = some aa) (g5 : S.K aa = 20) (g6 : S.ln aa = 400) (d1 : kk ≠ ss) (d2 : aa ≠ ss) (hc : S.K c = 3)
    (hz : I a 4 = nI z) (hpz : p + n ≤ z) (hz4 : z ≤ 400)
    (hrd : ∀ (I1 : Nat → Nat → Int32) (k g : Int32), OffK a ss I I1 → 319 ≤ k → k ≤ 326 → Fn G mX2_reading 1 [vR c, vI k, vI g] (mw S I1 J R) (fun rr M1 => rr = some (vI (rd k g)) ∧ M1 = mw S I1 J R)) :
    Fn G mX1_reckon 2 [vR a, vI (nI p), vI (nI (p + n)), vR c] (mw S I J R) (fun rr M1 => rr = some (vI ((evE rd (I kk) (I aa) p n []).headD 0)) ∧ ∃ I1, M1 = mw S I1 J R ∧ OffK a ss I I1) := by
  have n1 : a ≠ ss := fun e => by rw [e, h3] at h1; exact absurd h1 (by decide)
  have n2 : kk ≠ a := fun e => by rw [e, h1] at g2; exact absurd g2 (by decide)
  have n3 : aa ≠ a := fun e => by rw [e, h1] at g5; exact absurd g5 (by decide)
  refine am_aload_n (q := 1) dX1_reckon_0 rfl rfl ?_
  refine am_iconst (q := 2) (v := 0) dX1_reckon_1 kc_i0 rfl ?_
  refine cm_putI (q := 5) dX1_reckon_2 flX1_31 rfl (Or.inl rfl) (Or.inl rfl) (by assumption) rfl ?_
  refine am_iload_n (q := 6) dX1_reckon_5 rfl rfl ?_
  refine am_istore (q := 8) (ls1 := [_, _, _, _, _, _, _, _, _]) dX1_reckon_6 (Nat.le_of_ble_eq_true rfl) rfl rfl ?_
  refine k_loop (σ := (Nat → Nat → Int32) × List Int32 × Option AV × Option AV × Option AV × Option AV) (n := n) (Inv := fun m s => SK a ss s.1 s.2.1 ∧ s.2.1.length ≤ m ∧ OffK a ss I s.1 ∧ evE rd (I kk) (I aa) (p + m) (n - m) s.2.1 = evE rd (I kk) (I aa) p n [])
    (W := fun m s => MW G mX1_reckon 2 8 [some (vR a), some (vI (nI p)), some (vI (nI (p + n))), some (vR c), some (vI (nI (p + m))), s.2.2.1, s.2.2.2.1, s.2.2.2.2.1, s.2.2.2.2.2] [] (mw S s.1 J R) _) ?_ ?_ 0 (up2 I a 3 0, [], none, none, none, none) (Nat.zero_le _) ⟨⟨up2_s, fun i x hx => by simp at hx⟩, Nat.le_refl _, fun x j q1 q2 => by
      show up2 I a 3 0 x j = I x j
      rw [up2_at, if_neg (by
        rintro ⟨e1, e2⟩
        rcases q2 with q2 | q2
        · exact q2 e1
        · exact q2 e2)], rfl⟩
  · rintro m ⟨I0, st, x5, x6, x7, x8⟩ hm ⟨hSK, hlen, hOff, hev⟩ ih
    dsimp only at hSK hlen hOff hev ih ⊢
    have ez : I0 a 4 = nI z := by rw [hOff a 4 n1 (Or.inr (by decide)), hz]
    have ek : I0 kk (p + m) = I kk (p + m) := hOff _ _ d1 (Or.inl n2)
    have ea : I0 aa (p + m) = I aa (p + m) := hOff _ _ d2 (Or.inl n3)
    have hcl : (nI (p + m)).toNatClampNeg = p + m := nI_clamp (by omega)
    have hin1 : vp_in (nI (p + m)) (S.ln kk) := by rw [g3]; exact vp_in_nI (by omega) (by decide)
    have hin2 : vp_in (nI (p + m)) (S.ln aa) := by rw [g6]; exact vp_in_nI (by omega) (by decide)
    -- the next turn of the loop
    have nxt : ∀ (I1 : Nat → Nat → Int32) (y5 y6 y7 y8 : Option AV), SK a ss I1 (stE rd (I kk (p + m)) (I aa (p + m)) st) → OffK a ss I I1 → MW G mX1_reckon 2 224 [some (vR a), some (vI (nI p)), some (vI (nI (p + n))), some (vR c), some (vI (nI (p + m))), y5, y6, y7, y8] [] (mw S I1 J R) (fun f M1 => ∃ r, f = .inl r ∧ (r = some (vI ((evE rd (I kk) (I aa) p n []).headD 0)) ∧ ∃ I1, M1 = mw S I1 J R ∧ OffK a ss I I1)) := by
      intro I1 y5 y6 y7 y8 hS1 hO1
      refine am_iincW (q := 227) (ls1 := [_, _, _, _, _, _, _, _, _]) (w := 1) dX1_reckon_224 rfl (Nat.le_of_ble_eq_true rfl) kc_i1 rfl rfl ?_
      refine am_goto (tgt := 8) dX1_reckon_227 rfl ?_
      rw [nI_1, Nat.add_assoc]
      refine ih (I1, stE rd (I kk (p + m)) (I aa (p + m)) st, y5, y6, y7, y8) ⟨hS1, Nat.le_trans stE_len (by omega), hO1, ?_⟩
      rw [← hev, show n - m = (n - (m + 1)) + 1 by omega]
      rfl
    refine am_iload (q := 10) dX1_reckon_8 rfl rfl ?_
    refine am_iload_n (q := 11) dX1_reckon_10 rfl rfl ?_
    refine am_icmp_ge (tgt := 230) (q := 14) dX1_reckon_11 rfl rfl (fun hz => absurd hz (nI_ge (by omega) (by omega))) (fun _ => ?_)
    refine am_iload (q := 16) dX1_reckon_14 rfl rfl ?_
    refine am_if_lt (tgt := 48) (q := 19) dX1_reckon_16 rfl rfl (fun hz => absurd hz (nI_pos (by omega))) (fun _ => ?_)
    refine am_iload (q := 21) dX1_reckon_19 rfl rfl ?_
    refine am_aload_n (q := 22) dX1_reckon_21 rfl rfl ?_
    refine cm_getI (q := 25) dX1_reckon_22 flX1_23 rfl (by assumption) rfl ?_
    rw [ez]
    refine am_icmp_ge (tgt := 48) (q := 28) dX1_reckon_25 rfl rfl (fun hz => absurd hz (nI_ge (by omega) (by omega))) (fun _ => ?_)
    refine am_iload (q := 30) dX1_reckon_28 rfl rfl ?_
    refine am_aload_n (q := 31) dX1_reckon_30 rfl rfl ?_
    refine cm_getR (q := 34) dX1_reckon_31 flX1_11 rfl (by assumption) (by assumption) rfl ?_
    refine cm_alenI (q := 35) dX1_reckon_34 (by assumption) (by rw [g3] : nI (S.ln kk) = nI 400) rfl ?_
    refine am_icmp_ge (tgt := 48) (q := 38) dX1_reckon_35 rfl rfl (fun hz => absurd hz (nI_ge (by omega) (by decide))) (fun _ => ?_)
    refine am_aload_n (q := 39) dX1_reckon_38 rfl rfl ?_
    refine cm_getR (q := 42) dX1_reckon_39 flX1_11 rfl (by assumption) (by assumption) rfl ?_
    refine am_iload (q := 44) dX1_reckon_42 rfl rfl ?_
    refine cm_iaload (q := 45) dX1_reckon_44 (by assumption) hin1 rfl ?_
    refine am_goto (tgt := 51) dX1_reckon_45 rfl ?_
    rw [hcl, ek]
    refine am_istore (q := 53) (ls1 := [_, _, _, _, _, _, _, _, _]) dX1_reckon_51 (Nat.le_of_ble_eq_true rfl) rfl rfl ?_
    refine am_iload (q := 55) dX1_reckon_53 rfl rfl ?_
    refine am_if_lt (tgt := 87) (q := 58) dX1_reckon_55 rfl rfl (fun hz => absurd hz (nI_pos (by omega))) (fun _ => ?_)
    refine am_iload (q := 60) dX1_reckon_58 rfl rfl ?_
    refine am_aload_n (q := 61) dX1_reckon_60 rfl rfl ?_
    refine cm_getI (q := 64) dX1_reckon_61 flX1_23 rfl (by assumption) rfl ?_
    rw [ez]
    refine am_icmp_ge (tgt := 87) (q := 67) dX1_reckon_64 rfl rfl (fun hz => absurd hz (nI_ge (by omega) (by omega))) (fun _ => ?_)
    refine am_iload (q := 69) dX1_reckon_67 rfl rfl ?_
    refine am_aload_n (q := 70) dX1_reckon_69 rfl rfl ?_
    refine cm_getR (q := 73) dX1_reckon_70 flX1_17 rfl (by assumption) (by assumption) rfl ?_
    refine cm_alenI (q := 74) dX1_reckon_73 (by assumption) (by rw [g6] : nI (S.ln aa) = nI 400) rfl ?_
    refine am_icmp_ge (tgt := 87) (q := 77) dX1_reckon_74 rfl rfl (fun hz => absurd hz (nI_ge (by omega) (by decide))) (fun _ => ?_)
    refine am_aload_n (q := 78) dX1_reckon_77 rfl rfl ?_
    refine cm_getR (q := 81) dX1_reckon_78 flX1_17 rfl (by assumption) (by assumption) rfl ?_
    refine am_iload (q := 83) dX1_reckon_81 rfl rfl ?_
    refine cm_iaload (q := 84) dX1_reckon_83 (by assumption) hin2 rfl ?_
    refine am_goto (tgt := 88) dX1_reckon_84 rfl ?_
    rw [hcl, ea]
    generalize hk : I kk (p + m) = k at nxt ⊢
    generalize hg : I aa (p + m) = g at nxt ⊢
    refine am_istore (q := 90) (ls1 := [_, _, _, _, _, _, _, _, _]) dX1_reckon_88 (Nat.le_of_ble_eq_true rfl) rfl rfl ?_
    refine am_iload (q := 92) dX1_reckon_90 rfl rfl ?_
    refine am_sipush (q := 95) (v := 259) dX1_reckon_92 kc_s259 rfl ?_
    refine am_icmp_ne (tgt := 107) (q := 98) dX1_reckon_95 rfl rfl (fun hk1 => ?_) (fun hk1 => ?_)
    · refine am_iload (q := 109) dX1_reckon_107 rfl rfl ?_
      refine am_sipush (q := 112) (v := 262) dX1_reckon_109 kc_s262 rfl ?_
      refine am_icmp_ne (tgt := 127) (q := 115) dX1_reckon_112 rfl rfl (fun hk2 => ?_) (fun hk2 => ?_)
      · refine am_iload (q := 129) dX1_reckon_127 rfl rfl ?_
        refine am_sipush (q := 132) (v := 327) dX1_reckon_129 kc_s327 rfl ?_
        refine am_icmp_ne (tgt := 148) (q := 135) dX1_reckon_132 rfl rfl (fun hk3 => ?_) (fun hk3 => ?_)
        · have joinE : ∀ (st2 : List Int32) (I2 : Nat → Nat → Int32), st2 = st → ¬ (319 ≤ k ∧ k ≤ 326) → SK a ss I2 st2 → OffK a ss I I2 → MW G mX1_reckon 2 179 [some (vR a), some (vI (nI p)), some (vI (nI (p + n))), some (vR c), some (vI (nI (p + m))), some (vI k), some (vI g), x7, x8] [] (mw S I2 J R) (fun f M1 => ∃ r, f = .inl r ∧ (r = some (vI ((evE rd (I kk) (I aa) p n []).headD 0)) ∧ ∃ I1, M1 = mw S I1 J R ∧ OffK a ss I I1)) := by
            intro st2 I2 e2 hk4 hS2 hO2
            subst e2
            have hl2 : st2.tail.length ≤ 400 := by
              have : st2.tail.length ≤ st2.length := by cases st2 <;> simp
              omega
            have hl3 : st2.tail.tail.length < 400 := by
              have : st2.tail.tail.length ≤ st2.length := by cases st2 with
                | nil => simp
                | cons y t => cases t <;> simp; omega
              omega
            refine am_aload_n (q := 180) dX1_reckon_179 rfl rfl ?_
            refine cm_call0 (q := 183) (As := []) hG dX1_reckon_180 mlX1_38 rfl (by assumption) ⟨_, _, rfl⟩ (Nat.le_of_ble_eq_true rfl) (Nat.le_of_ble_eq_true rfl) (Nat.le_of_ble_eq_true rfl) (Nat.le_of_ble_eq_true rfl) (kq_pop h1 h2 h3 h4 hS2 (by omega)) rfl ?_
            rintro _ _ ⟨rfl, I3, rfl, hS3, hO3⟩
            refine am_istore (q := 185) (ls1 := [_, _, _, _, _, _, _, _, _]) dX1_reckon_183 (Nat.le_of_ble_eq_true rfl) rfl rfl ?_
            refine am_aload_n (q := 186) dX1_reckon_185 rfl rfl ?_
            refine cm_call0 (q := 189) (As := []) hG dX1_reckon_186 mlX1_38 rfl (by assumption) ⟨_, _, rfl⟩ (Nat.le_of_ble_eq_true rfl) (Nat.le_of_ble_eq_true rfl) (Nat.le_of_ble_eq_true rfl) (Nat.le_of_ble_eq_true rfl) (kq_pop h1 h2 h3 h4 hS3 hl2) rfl ?_
            rintro _ _ ⟨rfl, I4, rfl, hS4, hO4⟩
            refine am_istore (q := 191) (ls1 := [_, _, _, _, _, _, _, _, _]) dX1_reckon_189 (Nat.le_of_ble_eq_true rfl) rfl rfl ?_
            refine am_aload_n (q := 192) dX1_reckon_191 rfl rfl ?_
            refine am_iload (q := 194) dX1_reckon_192 rfl rfl ?_
            refine am_call1 (q := 197) (As := [_]) hG dX1_reckon_194 mlX1_48 rfl (Nat.le_of_ble_eq_true rfl) (Nat.le_of_ble_eq_true rfl) (Nat.le_of_ble_eq_true rfl) k_X1_isJoining rfl ?_
            rintro _ _ ⟨rfl, rfl⟩
            have hO := (hO2.tr hO3).tr hO4
            refine am_if_eq (tgt := 212) (q := 200) dX1_reckon_197 rfl rfl (fun hj => ?_) (fun hj => ?_)
            · have hj2 := bI_e0.mp hj
              refine am_iload (q := 214) dX1_reckon_212 rfl rfl ?_
              refine am_iload (q := 216) dX1_reckon_214 rfl rfl ?_
              refine am_iload (q := 218) dX1_reckon_216 rfl rfl ?_
              refine am_call1 (q := 221) (As := [_, _, _]) hG dX1_reckon_218 mlX1_56 rfl (Nat.le_of_ble_eq_true rfl) (Nat.le_of_ble_eq_true rfl) (Nat.le_of_ble_eq_true rfl) k_X1_compared rfl ?_
              rintro _ _ ⟨rfl, rfl⟩
              refine cm_call0 (q := 224) (As := [_]) hG dX1_reckon_221 mlX1_34 rfl (by assumption) ⟨_, _, rfl⟩ (Nat.le_of_ble_eq_true rfl) (Nat.le_of_ble_eq_true rfl) (Nat.le_of_ble_eq_true rfl) (Nat.le_of_ble_eq_true rfl) (kq_push h1 h2 h3 h4 hS4 hl3) rfl ?_
              rintro _ _ ⟨rfl, I5, rfl, hS5, hO5⟩
              refine nxt I5 _ _ _ _ ?_ (hO.tr hO5)
              unfold stE
              rw [if_neg hk1, if_neg hk2, if_neg hk3, if_neg hk4, if_neg hj2]
              exact hS5
            · have hj2 := bI_n0.mp hj
              refine am_iload (q := 202) dX1_reckon_200 rfl rfl ?_
              refine am_iload (q := 204) dX1_reckon_202 rfl rfl ?_
              refine am_iload (q := 206) dX1_reckon_204 rfl rfl ?_
              refine am_call1 (q := 209) (As := [_, _, _]) hG dX1_reckon_206 mlX1_52 rfl (Nat.le_of_ble_eq_true rfl) (Nat.le_of_ble_eq_true rfl) (Nat.le_of_ble_eq_true rfl) k_X1_joined rfl ?_
              rintro _ _ ⟨rfl, rfl⟩
              refine am_goto (tgt := 221) dX1_reckon_209 rfl ?_
              refine cm_call0 (q := 224) (As := [_]) hG dX1_reckon_221 mlX1_34 rfl (by assumption) ⟨_, _, rfl⟩ (Nat.le_of_ble_eq_true rfl) (Nat.le_of_ble_eq_true rfl) (Nat.le_of_ble_eq_true rfl) (Nat.le_of_ble_eq_true rfl) (kq_push h1 h2 h3 h4 hS4 hl3) rfl ?_
              rintro _ _ ⟨rfl, I5, rfl, hS5, hO5⟩
              refine nxt I5 _ _ _ _ ?_ (hO.tr hO5)
              unfold stE
              rw [if_neg hk1, if_neg hk2, if_neg hk3, if_neg hk4, if_pos hj2]
              exact hS5
          refine am_iload (q := 150) dX1_reckon_148 rfl rfl ?_
          refine am_sipush (q := 153) (v := 319) dX1_reckon_150 kc_s319 rfl ?_
          refine am_icmp_lt (tgt := 179) (q := 156) dX1_reckon_153 rfl rfl (fun hk4 => ?_) (fun hk4 => ?_)
          · exact joinE st I0 rfl (fun q => Int32.not_le.mpr hk4 q.1) hSK hOff
          · refine am_iload (q := 158) dX1_reckon_156 rfl rfl ?_
            refine am_sipush (q := 161) (v := 326) dX1_reckon_158 kc_s326 rfl ?_
            refine am_icmp_gt (tgt := 179) (q := 164) dX1_reckon_161 rfl rfl (fun hk5 => ?_) (fun hk5 => ?_)
            · exact joinE st I0 rfl (fun q => Int32.not_le.mpr hk5 q.2) hSK hOff
            · have hb := Int32.not_lt.mp hk4
              have hb2 := Int32.not_lt.mp hk5
              refine am_aload_n (q := 165) dX1_reckon_164 rfl rfl ?_
              refine am_aload_n (q := 166) dX1_reckon_165 rfl rfl ?_
              refine am_iload (q := 168) dX1_reckon_166 rfl rfl ?_
              refine am_iload (q := 170) dX1_reckon_168 rfl rfl ?_
              refine cm_call0 (q := 173) (As := [_, _]) hG dX1_reckon_170 mlX1_42 rfl (by assumption) ⟨_, _, rfl⟩ (Nat.le_of_ble_eq_true rfl) (Nat.le_of_ble_eq_true rfl) (Nat.le_of_ble_eq_true rfl) (Nat.le_of_ble_eq_true rfl) (hrd I0 k g hOff hb hb2) rfl ?_
              rintro _ _ ⟨rfl, rfl⟩
              refine cm_call0 (q := 176) (As := [_]) hG dX1_reckon_173 mlX1_34 rfl (by assumption) ⟨_, _, rfl⟩ (Nat.le_of_ble_eq_true rfl) (Nat.le_of_ble_eq_true rfl) (Nat.le_of_ble_eq_true rfl) (Nat.le_of_ble_eq_true rfl) (kq_push h1 h2 h3 h4 hSK (by omega)) rfl ?_
              rintro _ _ ⟨rfl, I5, rfl, hS5, hO5⟩
              refine am_goto (tgt := 224) dX1_reckon_176 rfl ?_
              refine nxt I5 _ _ _ _ ?_ (hOff.tr hO5)
              unfold stE
              rw [if_neg hk1, if_neg hk2, if_neg hk3, if_pos ⟨hb, hb2⟩]
              exact hS5
        · have hl2 : st.tail.length < 400 := by
            have : st.tail.length ≤ st.length := by cases st <;> simp
            omega
          refine am_aload_n (q := 136) dX1_reckon_135 rfl rfl ?_
          refine am_iconst (q := 137) (v := 1) dX1_reckon_136 kc_i1 rfl ?_
          refine am_aload_n (q := 138) dX1_reckon_137 rfl rfl ?_
          refine cm_call0 (q := 141) (As := []) hG dX1_reckon_138 mlX1_38 rfl (by assumption) ⟨_, _, rfl⟩ (Nat.le_of_ble_eq_true rfl) (Nat.le_of_ble_eq_true rfl) (Nat.le_of_ble_eq_true rfl) (Nat.le_of_ble_eq_true rfl) (kq_pop h1 h2 h3 h4 hSK (by omega)) rfl ?_
          rintro _ _ ⟨rfl, I4, rfl, hS4, hO4⟩
          refine am_isub (q := 142) dX1_reckon_141 rfl ?_
          refine cm_call0 (q := 145) (As := [_]) hG dX1_reckon_142 mlX1_34 rfl (by assumption) ⟨_, _, rfl⟩ (Nat.le_of_ble_eq_true rfl) (Nat.le_of_ble_eq_true rfl) (Nat.le_of_ble_eq_true rfl) (Nat.le_of_ble_eq_true rfl) (kq_push h1 h2 h3 h4 hS4 hl2) rfl ?_
          rintro _ _ ⟨rfl, I5, rfl, hS5, hO5⟩
          refine am_goto (tgt := 224) dX1_reckon_145 rfl ?_
          refine nxt I5 _ _ _ _ ?_ ((hOff.tr hO4).tr hO5)
          unfold stE
          rw [if_neg hk1, if_neg hk2, if_pos hk3]
          exact hS5
      · have hl2 : st.tail.length < 400 := by
          have : st.tail.length ≤ st.length := by cases st <;> simp
          omega
        refine am_aload_n (q := 116) dX1_reckon_115 rfl rfl ?_
        refine am_aload_n (q := 117) dX1_reckon_116 rfl rfl ?_
        refine cm_call0 (q := 120) (As := []) hG dX1_reckon_117 mlX1_38 rfl (by assumption) ⟨_, _, rfl⟩ (Nat.le_of_ble_eq_true rfl) (Nat.le_of_ble_eq_true rfl) (Nat.le_of_ble_eq_true rfl) (Nat.le_of_ble_eq_true rfl) (kq_pop h1 h2 h3 h4 hSK (by omega)) rfl ?_
        rintro _ _ ⟨rfl, I4, rfl, hS4, hO4⟩
        refine am_ineg (q := 121) dX1_reckon_120 rfl ?_
        refine cm_call0 (q := 124) (As := [_]) hG dX1_reckon_121 mlX1_34 rfl (by assumption) ⟨_, _, rfl⟩ (Nat.le_of_ble_eq_true rfl) (Nat.le_of_ble_eq_true rfl) (Nat.le_of_ble_eq_true rfl) (Nat.le_of_ble_eq_true rfl) (kq_push h1 h2 h3 h4 hS4 hl2) rfl ?_
        rintro _ _ ⟨rfl, I5, rfl, hS5, hO5⟩
        refine am_goto (tgt := 224) dX1_reckon_124 rfl ?_
        refine nxt I5 _ _ _ _ ?_ ((hOff.tr hO4).tr hO5)
        unfold stE
        rw [if_neg hk1, if_pos hk2]
        exact hS5
    · refine am_aload_n (q := 99) dX1_reckon_98 rfl rfl ?_
      refine am_iload (q := 101) dX1_reckon_99 rfl rfl ?_
      refine cm_call0 (q := 104) (As := [_]) hG dX1_reckon_101 mlX1_34 rfl (by assumption) ⟨_, _, rfl⟩ (Nat.le_of_ble_eq_true rfl) (Nat.le_of_ble_eq_true rfl) (Nat.le_of_ble_eq_true rfl) (Nat.le_of_ble_eq_true rfl) (kq_push h1 h2 h3 h4 hSK (by omega)) rfl ?_
      rintro _ _ ⟨rfl, I5, rfl, hS5, hO5⟩
      refine am_goto (tgt := 224) dX1_reckon_104 rfl ?_
      refine nxt I5 _ _ _ _ ?_ (hOff.tr hO5)
      unfold stE
      rw [if_pos hk1]
      exact hS5
  · rintro ⟨I0, st, x5, x6, x7, x8⟩ ⟨hSK, hlen, hOff, hev⟩
    dsimp only at hSK hlen hOff hev ⊢
    rw [Nat.sub_self] at hev
    refine am_iload (q := 10) dX1_reckon_8 rfl rfl ?_
    refine am_iload_n (q := 11) dX1_reckon_10 rfl rfl ?_
    refine am_icmp_ge (tgt := 230) (q := 14) dX1_reckon_11 rfl rfl (fun _ => ?_) (fun hz => absurd (Int32.le_refl _) hz)
    refine am_aload_n (q := 231) dX1_reckon_230 rfl rfl ?_
    refine cm_call0 (q := 234) (As := []) hG dX1_reckon_231 mlX1_38 rfl (by assumption) ⟨_, _, rfl⟩ (Nat.le_of_ble_eq_true rfl) (Nat.le_of_ble_eq_true rfl) (Nat.le_of_ble_eq_true rfl) (Nat.le_of_ble_eq_true rfl) (kq_pop h1 h2 h3 h4 hSK (by omega)) rfl ?_
    rintro _ _ ⟨rfl, I4, rfl, hS4, hO4⟩
    exact am_iret dX1_reckon_234 rfl rfl ⟨_, rfl, by rw [← hev]; rfl, I4, rfl, hOff.tr hO4⟩
end ReckB
end
section
/-! the mathematical contest, and what it is in the class -/
/-- the cells of a contest at c -/
def CT (S : AMem) (R : Nat → Nat → Option Nat) (c : Nat) : Prop :=
  S.K c = 3 ∧ R c 0 = some (c + 1) ∧ R c 1 = some (c + 5) ∧ R c 2 = some (c + 7) ∧ R c 3 = some (c + 9) ∧ R c 4 = some (c + 10) ∧ R c 5 = some (c + 11) ∧ R c 6 = some (c + 12) ∧ R c 7 = some (c + 13) ∧
  (S.K (c + 1) = 2 ∧ R (c + 1) 0 = some (c + 2) ∧ R (c + 1) 1 = some (c + 3) ∧ R (c + 1) 2 = some (c + 4) ∧ S.K (c + 2) = 20 ∧ S.ln (c + 2) = 400 ∧ S.K (c + 3) = 20 ∧ S.ln (c + 3) = 400 ∧ S.K (c + 4) = 20 ∧ S.ln (c + 4) = 400) ∧
  (S.K (c + 5) = 1 ∧ R (c + 5) 0 = some (c + 6) ∧ S.K (c + 6) = 20 ∧ S.ln (c + 6) = 10) ∧
  (S.K (c + 7) = 5 ∧ R (c + 7) 0 = some (c + 8) ∧ S.K (c + 8) = 20 ∧ S.ln (c + 8) = 301) ∧
  (S.K (c + 9) = 22 ∧ S.ln (c + 9) = 4 ∧ ∀ i, i < 4 → R (c + 9) i = some (c + 14 + 2 * i) ∧ S.K (c + 14 + 2 * i) = 7 ∧ R (c + 14 + 2 * i) 0 = some (c + 15 + 2 * i) ∧ S.K (c + 15 + 2 * i) = 20 ∧ S.ln (c + 15 + 2 * i) = 100) ∧
  (S.K (c + 10) = 23 ∧ S.ln (c + 10) = 8 ∧ ∀ i, i < 8 → R (c + 10) i = some (c + 22 + i) ∧ S.K (c + 22 + i) = 4) ∧
  (S.K (c + 11) = 24 ∧ S.ln (c + 11) = 8 ∧ ∀ i, i < 8 → R (c + 11) i = some (c + 30 + i) ∧ S.K (c + 30 + i) = 6) ∧
  (S.K (c + 12) = 25 ∧ S.ln (c + 12) = 20 ∧ ∀ i, i < 20 → R (c + 12) i = some (c + 38 + i) ∧ S.K (c + 38 + i) = 11) ∧
  S.K (c + 13) = 20 ∧ S.ln (c + 13) = 20
/-- what a sum or a test means: a number, by the readings -/
abbrev Sem : Type := (Int32 → Int32 → Int32) → Int32
/-- what is told: rails, fists, prizes, turns; rust by rail and place; a turn's fist, rail, test; a prize's worth and test -/
abbrev BS : Type := (Nat × Nat × Nat × Nat) × (Nat → Nat → Int32) × (Nat → Nat) × (Nat → Nat) × (Nat → Option Sem) × (Nat → Sem) × (Nat → Sem)
def BS.nR (B : BS) : Nat := B.1.1
def BS.nF (B : BS) : Nat := B.1.2.1
def BS.nP (B : BS) : Nat := B.1.2.2.1
def BS.nT (B : BS) : Nat := B.1.2.2.2
def BS.rust (B : BS) : Nat → Nat → Int32 := B.2.1
def BS.tF (B : BS) : Nat → Nat := B.2.2.1
def BS.tR (B : BS) : Nat → Nat := B.2.2.2.1
def BS.tt (B : BS) : Nat → Option Sem := B.2.2.2.2.1
def BS.wo (B : BS) : Nat → Sem := B.2.2.2.2.2.1
def BS.te (B : BS) : Nat → Sem := B.2.2.2.2.2.2
/-- how it stands. fist: 0 arm 1 aim 2 elbows 3 sore 4 purse 5 strikes 6 best 7 bells 8 struck; rail: 0 high 1 puck 2 spring 3 best 4 strikes; prize: 0 left 1 given; g: 0 round 1 height 2 bells 3 strikes 4 bells in all; the row of turns; the board and how many stand on it -/
abbrev MS : Type := (Nat → Nat → Int32) × (Nat → Nat → Int32) × (Nat → Nat → Int32) × (Nat → Int32) × (Nat → Nat) × (Nat → Int32) × Nat
def MS.fist (m : MS) : Nat → Nat → Int32 := m.1
def MS.rail (m : MS) : Nat → Nat → Int32 := m.2.1
def MS.prize (m : MS) : Nat → Nat → Int32 := m.2.2.1
def MS.g (m : MS) : Nat → Int32 := m.2.2.2.1
def MS.row (m : MS) : Nat → Nat := m.2.2.2.2.1
def MS.bd (m : MS) : Nat → Int32 := m.2.2.2.2.2.1
def MS.nb (m : MS) : Nat := m.2.2.2.2.2.2
def mkMS (fist rail prize : Nat → Nat → Int32) (g : Nat → Int32) (row : Nat → Nat) (bd : Nat → Int32) (nb : Nat) : MS := (fist, rail, prize, g, row, bd, nb)
/-- what a word of the language reads -/
def rdM (B : BS) (m : MS) (k a : Int32) : Int32 :=
  if k = 319 then m.g 1 else if k = 320 then m.g 2 else if k = 321 then m.g 0
  else if k = 326 then bI (0 < m.g 2)
  else if k = 322 then (if 0 ≤ a ∧ a < nI B.nF then m.fist a.toNatClampNeg 4 else 0)
  else if k = 323 then (if 0 ≤ a ∧ a < nI B.nF then m.fist a.toNatClampNeg 3 else 0)
  else if k = 324 then (if 0 ≤ a ∧ a < nI B.nR then m.rail a.toNatClampNeg 3 else 0)
  else (if 0 ≤ a ∧ a < nI B.nP then m.prize a.toNatClampNeg 0 else 0)
def ruM (B : BS) (r : Nat) (p : Int32) : Int32 := if 0 ≤ p ∧ p < 100 then B.rust r p.toNatClampNeg else 0
def fcM (m : MS) (f : Nat) (arm : Int32) : Int32 := if 0 < arm + m.fist f 1 - m.fist f 3 then arm + m.fist f 1 - m.fist f 3 else 0
/-- the flight of fist f at rail r with an arm, behind so many ticks -/
def flM (B : BS) (m : MS) (f r : Nat) (arm : Int32) (n : Nat) : Int32 × Int32 × Int32 × Int32 × Nat × Int32 := flS (m.rail r 0) (m.rail r 2) (ruM B r) (4 * fcM m f arm / m.rail r 1) n
/-- the first prize from k on, of n more, that is given -/
def fpM (B : BS) (m : MS) : Nat → Nat → Option Nat
  | _, 0 => none
  | k, n + 1 => if 0 < m.prize k 0 ∧ B.te k (rdM B m) ≠ 0 then some k else fpM B m (k + 1) n
def up1 {α : Type} (f : Nat → α) (k : Nat) (v : α) : Nat → α := fun j => if j = k then v else f j
def givM (B : BS) (m : MS) (f : Nat) : MS := match fpM B m 0 B.nP with
  | none => m
  | some k =>
    let m1 := mkMS m.fist m.rail (up2 (up2 m.prize k 0 (m.prize k 0 - 1)) k 1 (m.prize k 1 + 1)) m.g m.row m.bd m.nb
    mkMS (up2 m1.fist f 4 (m1.fist f 4 + B.wo k (rdM B m1))) m1.rail m1.prize m1.g m1.row m1.bd m1.nb
/-- a strike, ahead of the prizes -/
def stkM (B : BS) (m : MS) (f r : Nat) : MS :=
  let fl := flM B m f r (m.fist f 0) 300
  let h := fl.2.2.1
  let b := fl.2.2.2.1
  mkMS (fun i j => if i = f then (if j = 3 then (if m.fist f 3 + m.rail r 1 < 60 then m.fist f 3 + m.rail r 1 else 60) else if j = 5 then m.fist f 5 + 1 else if j = 6 then (if m.fist f 6 < h then h else m.fist f 6) else if j = 7 then m.fist f 7 + b else if j = 8 then 1 else m.fist i j) else m.fist i j)
    (fun i j => if i = r then (if j = 3 then (if m.rail r 3 < h then h else m.rail r 3) else if j = 4 then m.rail r 4 + 1 else m.rail i j) else m.rail i j)
    m.prize (fun j => if j = 1 then h else if j = 2 then b else if j = 3 then m.g 3 + 1 else if j = 4 then m.g 4 + b else m.g j) m.row (fun k => if k = 0 then h else m.bd (k - 1)) (if m.nb < 10 then m.nb + 1 else m.nb)
def hitM (B : BS) (m : MS) (f r : Nat) : MS := givM B (stkM B m f r) f
/-- the turn at a place of the row is due -/
def dueM (B : BS) (m : MS) (t : Nat) : Prop := match B.tt t with
  | none => True
  | some s => s (rdM B m) ≠ 0
/-- elbows: the places from k on, of n more -/
def elbM (B : BS) : Nat → Nat → MS → MS
  | _, 0, m => m
  | k, n + 1, m => elbM B (k + 1) n (if m.fist (B.tF (m.row (k - 1))) 2 + 2 < m.fist (B.tF (m.row k)) 2 then
      mkMS (up2 m.fist (B.tF (m.row k)) 2 (m.fist (B.tF (m.row k)) 2 - 1)) m.rail m.prize m.g (up1 (up1 m.row k (m.row (k - 1))) (k - 1) (m.row k)) m.bd m.nb else m)
noncomputable def trnM (B : BS) : Nat → Nat → MS → MS
  | _, 0, m => m
  | k, n + 1, m => trnM B (k + 1) n (@ite _ (dueM B m (m.row k)) (Classical.propDecidable _) (hitM B m (B.tF (m.row k)) (B.tR (m.row k))) m)
def rstM (m : MS) (nF : Nat) : MS := mkMS (fun i j => if i < nF then (if j = 8 then 0 else if j = 3 then (if m.fist i 8 = 0 then (if 3 < m.fist i 3 then m.fist i 3 - 3 else 0) else m.fist i 3) else m.fist i j) else m.fist i j) m.rail m.prize m.g m.row m.bd m.nb
noncomputable def rndM (B : BS) (m : MS) : MS :=
  let m1 := rstM (trnM B 0 B.nT (elbM B 1 (B.nT - 1) m)) B.nF
  mkMS m1.fist m1.rail m1.prize (up1 m1.g 0 (m1.g 0 + 1)) m1.row m1.bd m1.nb
noncomputable def plyM (B : BS) : Nat → MS → MS
  | 0, m => m
  | n + 1, m => plyM B n (rndM B m)
def sumM (f : Nat → Int32) : Nat → Int32
  | 0 => 0
  | n + 1 => sumM f n + f n
def pursM (B : BS) (m : MS) : Int32 := sumM (fun i => m.fist i 4) B.nF
def gvnM (B : BS) (m : MS) : Int32 := sumM (fun i => m.prize i 1) B.nP
def plcM (B : BS) (m : MS) (p : Int32) : Int32 := 1 + sumM (fun i => bI (p < m.fist i 4)) B.nF
/-- a row of steps means s -/
def SegC (I : Nat → Nat → Int32) (c p q : Nat) (s : Sem) : Prop := ∀ rd, (evE rd (I (c + 2)) (I (c + 3)) p (q - p) []).headD 0 = s rd
/-- what is told, in the class -/
def AbB (I : Nat → Nat → Int32) (c : Nat) (B : BS) : Prop :=
  (I c 8 = nI B.nR ∧ B.nR ≤ 4) ∧ (I c 10 = nI B.nF ∧ B.nF ≤ 8) ∧ (I c 11 = nI B.nP ∧ B.nP ≤ 8) ∧ (I c 12 = nI B.nT ∧ B.nT ≤ 20) ∧
  (∀ i, i < B.nR → ∀ p, p < 100 → I (c + 15 + 2 * i) p = B.rust i p) ∧
  (∀ i, i < B.nT → I (c + 38 + i) 0 = nI (B.tF i) ∧ B.tF i < B.nF ∧ I (c + 38 + i) 1 = nI (B.tR i) ∧ B.tR i < B.nR) ∧
  ∃ z, I (c + 1) 4 = nI z ∧ z ≤ 400 ∧
  (∀ i, i < B.nT → ∃ p q, I (c + 38 + i) 2 = nI p ∧ I (c + 38 + i) 3 = nI q ∧ p ≤ q ∧ q ≤ z ∧ (match B.tt i with | none => p = q | some s => p < q ∧ SegC I c p q s)) ∧
  (∀ i, i < B.nP → ∃ p q t, I (c + 30 + i) 3 = nI p ∧ I (c + 30 + i) 4 = nI q ∧ I (c + 30 + i) 5 = nI t ∧ p ≤ q ∧ q ≤ t ∧ t ≤ z ∧ SegC I c p q (B.wo i) ∧ SegC I c q t (B.te i))
/-- how it stands, in the class -/
def AbM (I : Nat → Nat → Int32) (c : Nat) (B : BS) (m : MS) : Prop :=
  (∀ i, i < B.nF → ∀ j, j < 9 → I (c + 22 + i) (j + 1) = m.fist i j) ∧
  (∀ i, i < B.nR → ∀ j, j < 5 → I (c + 14 + 2 * i) (j + 2) = m.rail i j) ∧
  (∀ i, i < B.nP → ∀ j, j < 2 → I (c + 30 + i) (j + 1) = m.prize i j) ∧
  (∀ j, j < 5 → I c (13 + j) = m.g j) ∧ I c 18 = gvnM B m ∧
  (∀ k, k < B.nT → I (c + 13) k = nI (m.row k) ∧ m.row k < B.nT) ∧
  (∀ k, k < m.nb → I (c + 6) k = m.bd k) ∧ I (c + 5) 1 = nI m.nb ∧ m.nb ≤ 10 ∧
  (∀ i, i < B.nR → 0 < m.rail i 1) ∧ (∀ i, i < 8 → I (c + 22 + i) 9 = 0 ∨ I (c + 22 + i) 9 = 1)
/-- nothing but the contest at c has changed -/
def OffC (c : Nat) (I I1 : Nat → Nat → Int32) : Prop := ∀ x j, (x < c ∨ c + 58 ≤ x) → I1 x j = I x j
theorem OffC.rf {c : Nat} {I : Nat → Nat → Int32} : OffC c I I := fun _ _ _ => rfl
theorem OffC.tr {c : Nat} {I I1 I2 : Nat → Nat → Int32} (h1 : OffC c I I1) (h2 : OffC c I1 I2) : OffC c I I2 := fun x j q => (h2 x j q).trans (h1 x j q)
end
section
theorem dX2_fistNamed_0 : decode cX2_fistNamed 0 = .ok (.iconst 0, 1) := by decide +kernel
theorem dX2_fistNamed_1 : decode cX2_fistNamed 1 = .ok (.istore_n 3, 1) := by decide +kernel
theorem dX2_fistNamed_2 : decode cX2_fistNamed 2 = .ok (.iload_n 3, 1) := by decide +kernel
theorem dX2_fistNamed_3 : decode cX2_fistNamed 3 = .ok (.aload_n 0, 1) := by decide +kernel
theorem dX2_fistNamed_4 : decode cX2_fistNamed 4 = .ok (.getfield 75, 3) := by decide +kernel
theorem dX2_fistNamed_7 : decode cX2_fistNamed 7 = .ok (.if_icmp .ge 34, 3) := by decide +kernel
theorem dX2_fistNamed_10 : decode cX2_fistNamed 10 = .ok (.iload_n 3, 1) := by decide +kernel
theorem dX2_fistNamed_11 : decode cX2_fistNamed 11 = .ok (.aload_n 0, 1) := by decide +kernel
theorem dX2_fistNamed_12 : decode cX2_fistNamed 12 = .ok (.getfield 40, 3) := by decide +kernel
theorem dX2_fistNamed_15 : decode cX2_fistNamed 15 = .ok (.arraylength, 1) := by decide +kernel
theorem dX2_fistNamed_16 : decode cX2_fistNamed 16 = .ok (.if_icmp .ge 25, 3) := by decide +kernel
theorem dX2_fistNamed_19 : decode cX2_fistNamed 19 = .ok (.aload_n 0, 1) := by decide +kernel
theorem dX2_fistNamed_20 : decode cX2_fistNamed 20 = .ok (.getfield 40, 3) := by decide +kernel
theorem dX2_fistNamed_23 : decode cX2_fistNamed 23 = .ok (.iload_n 3, 1) := by decide +kernel
theorem dX2_fistNamed_24 : decode cX2_fistNamed 24 = .ok (.aaload, 1) := by decide +kernel
theorem dX2_fistNamed_25 : decode cX2_fistNamed 25 = .ok (.getfield 129, 3) := by decide +kernel
theorem dX2_fistNamed_28 : decode cX2_fistNamed 28 = .ok (.lload_n 1, 1) := by decide +kernel
theorem dX2_fistNamed_29 : decode cX2_fistNamed 29 = .ok (.lcmp, 1) := by decide +kernel
theorem dX2_fistNamed_30 : decode cX2_fistNamed 30 = .ok (.ifCond .ne 5, 3) := by decide +kernel
theorem dX2_fistNamed_33 : decode cX2_fistNamed 33 = .ok (.iload_n 3, 1) := by decide +kernel
theorem dX2_fistNamed_34 : decode cX2_fistNamed 34 = .ok (.ireturn, 1) := by decide +kernel
theorem dX2_fistNamed_35 : decode cX2_fistNamed 35 = .ok (.iinc 3 1, 3) := by decide +kernel
theorem dX2_fistNamed_38 : decode cX2_fistNamed 38 = .ok (.goto (-36), 3) := by decide +kernel
theorem dX2_fistNamed_41 : decode cX2_fistNamed 41 = .ok (.iconst (-1), 1) := by decide +kernel
theorem dX2_fistNamed_42 : decode cX2_fistNamed 42 = .ok (.ireturn, 1) := by decide +kernel
theorem dX2_hasFist_0 : decode cX2_hasFist 0 = .ok (.iload_n 1, 1) := by decide +kernel
theorem dX2_hasFist_1 : decode cX2_hasFist 1 = .ok (.ifCond .lt 24, 3) := by decide +kernel
theorem dX2_hasFist_4 : decode cX2_hasFist 4 = .ok (.iload_n 1, 1) := by decide +kernel
theorem dX2_hasFist_5 : decode cX2_hasFist 5 = .ok (.aload_n 0, 1) := by decide +kernel
theorem dX2_hasFist_6 : decode cX2_hasFist 6 = .ok (.getfield 75, 3) := by decide +kernel
theorem dX2_hasFist_9 : decode cX2_hasFist 9 = .ok (.if_icmp .ge 16, 3) := by decide +kernel
theorem dX2_hasFist_12 : decode cX2_hasFist 12 = .ok (.iload_n 1, 1) := by decide +kernel
theorem dX2_hasFist_13 : decode cX2_hasFist 13 = .ok (.aload_n 0, 1) := by decide +kernel
theorem dX2_hasFist_14 : decode cX2_hasFist 14 = .ok (.getfield 40, 3) := by decide +kernel
theorem dX2_hasFist_17 : decode cX2_hasFist 17 = .ok (.arraylength, 1) := by decide +kernel
theorem dX2_hasFist_18 : decode cX2_hasFist 18 = .ok (.if_icmp .ge 7, 3) := by decide +kernel
theorem dX2_hasFist_21 : decode cX2_hasFist 21 = .ok (.iconst 1, 1) := by decide +kernel
theorem dX2_hasFist_22 : decode cX2_hasFist 22 = .ok (.goto 4, 3) := by decide +kernel
theorem dX2_hasFist_25 : decode cX2_hasFist 25 = .ok (.iconst 0, 1) := by decide +kernel
theorem dX2_hasFist_26 : decode cX2_hasFist 26 = .ok (.ireturn, 1) := by decide +kernel
theorem dX2_hasPrize_0 : decode cX2_hasPrize 0 = .ok (.iload_n 1, 1) := by decide +kernel
theorem dX2_hasPrize_1 : decode cX2_hasPrize 1 = .ok (.ifCond .lt 24, 3) := by decide +kernel
theorem dX2_hasPrize_4 : decode cX2_hasPrize 4 = .ok (.iload_n 1, 1) := by decide +kernel
theorem dX2_hasPrize_5 : decode cX2_hasPrize 5 = .ok (.aload_n 0, 1) := by decide +kernel
theorem dX2_hasPrize_6 : decode cX2_hasPrize 6 = .ok (.getfield 78, 3) := by decide +kernel
theorem dX2_hasPrize_9 : decode cX2_hasPrize 9 = .ok (.if_icmp .ge 16, 3) := by decide +kernel
theorem dX2_hasPrize_12 : decode cX2_hasPrize 12 = .ok (.iload_n 1, 1) := by decide +kernel
theorem dX2_hasPrize_13 : decode cX2_hasPrize 13 = .ok (.aload_n 0, 1) := by decide +kernel
theorem dX2_hasPrize_14 : decode cX2_hasPrize 14 = .ok (.getfield 46, 3) := by decide +kernel
theorem dX2_hasPrize_17 : decode cX2_hasPrize 17 = .ok (.arraylength, 1) := by decide +kernel
theorem dX2_hasPrize_18 : decode cX2_hasPrize 18 = .ok (.if_icmp .ge 7, 3) := by decide +kernel
theorem dX2_hasPrize_21 : decode cX2_hasPrize 21 = .ok (.iconst 1, 1) := by decide +kernel
theorem dX2_hasPrize_22 : decode cX2_hasPrize 22 = .ok (.goto 4, 3) := by decide +kernel
theorem dX2_hasPrize_25 : decode cX2_hasPrize 25 = .ok (.iconst 0, 1) := by decide +kernel
theorem dX2_hasPrize_26 : decode cX2_hasPrize 26 = .ok (.ireturn, 1) := by decide +kernel
theorem dX2_hasRail_0 : decode cX2_hasRail 0 = .ok (.iload_n 1, 1) := by decide +kernel
theorem dX2_hasRail_1 : decode cX2_hasRail 1 = .ok (.ifCond .lt 24, 3) := by decide +kernel
theorem dX2_hasRail_4 : decode cX2_hasRail 4 = .ok (.iload_n 1, 1) := by decide +kernel
theorem dX2_hasRail_5 : decode cX2_hasRail 5 = .ok (.aload_n 0, 1) := by decide +kernel
theorem dX2_hasRail_6 : decode cX2_hasRail 6 = .ok (.getfield 69, 3) := by decide +kernel
theorem dX2_hasRail_9 : decode cX2_hasRail 9 = .ok (.if_icmp .ge 16, 3) := by decide +kernel
theorem dX2_hasRail_12 : decode cX2_hasRail 12 = .ok (.iload_n 1, 1) := by decide +kernel
theorem dX2_hasRail_13 : decode cX2_hasRail 13 = .ok (.aload_n 0, 1) := by decide +kernel
theorem dX2_hasRail_14 : decode cX2_hasRail 14 = .ok (.getfield 34, 3) := by decide +kernel
theorem dX2_hasRail_17 : decode cX2_hasRail 17 = .ok (.arraylength, 1) := by decide +kernel
theorem dX2_hasRail_18 : decode cX2_hasRail 18 = .ok (.if_icmp .ge 7, 3) := by decide +kernel
theorem dX2_hasRail_21 : decode cX2_hasRail 21 = .ok (.iconst 1, 1) := by decide +kernel
theorem dX2_hasRail_22 : decode cX2_hasRail 22 = .ok (.goto 4, 3) := by decide +kernel
theorem dX2_hasRail_25 : decode cX2_hasRail 25 = .ok (.iconst 0, 1) := by decide +kernel
theorem dX2_hasRail_26 : decode cX2_hasRail 26 = .ok (.ireturn, 1) := by decide +kernel
theorem dX2_hasTurn_0 : decode cX2_hasTurn 0 = .ok (.iload_n 1, 1) := by decide +kernel
theorem dX2_hasTurn_1 : decode cX2_hasTurn 1 = .ok (.ifCond .lt 24, 3) := by decide +kernel
theorem dX2_hasTurn_4 : decode cX2_hasTurn 4 = .ok (.iload_n 1, 1) := by decide +kernel
theorem dX2_hasTurn_5 : decode cX2_hasTurn 5 = .ok (.aload_n 0, 1) := by decide +kernel
theorem dX2_hasTurn_6 : decode cX2_hasTurn 6 = .ok (.getfield 81, 3) := by decide +kernel
theorem dX2_hasTurn_9 : decode cX2_hasTurn 9 = .ok (.if_icmp .ge 16, 3) := by decide +kernel
theorem dX2_hasTurn_12 : decode cX2_hasTurn 12 = .ok (.iload_n 1, 1) := by decide +kernel
theorem dX2_hasTurn_13 : decode cX2_hasTurn 13 = .ok (.aload_n 0, 1) := by decide +kernel
theorem dX2_hasTurn_14 : decode cX2_hasTurn 14 = .ok (.getfield 52, 3) := by decide +kernel
theorem dX2_hasTurn_17 : decode cX2_hasTurn 17 = .ok (.arraylength, 1) := by decide +kernel
theorem dX2_hasTurn_18 : decode cX2_hasTurn 18 = .ok (.if_icmp .ge 7, 3) := by decide +kernel
theorem dX2_hasTurn_21 : decode cX2_hasTurn 21 = .ok (.iconst 1, 1) := by decide +kernel
theorem dX2_hasTurn_22 : decode cX2_hasTurn 22 = .ok (.goto 4, 3) := by decide +kernel
theorem dX2_hasTurn_25 : decode cX2_hasTurn 25 = .ok (.iconst 0, 1) := by decide +kernel
theorem dX2_hasTurn_26 : decode cX2_hasTurn 26 = .ok (.ireturn, 1) := by decide +kernel
theorem dX2_prizeNamed_0 : decode cX2_prizeNamed 0 = .ok (.iconst 0, 1) := by decide +kernel
theorem dX2_prizeNamed_1 : decode cX2_prizeNamed 1 = .ok (.istore_n 3, 1) := by decide +kernel
theorem dX2_prizeNamed_2 : decode cX2_prizeNamed 2 = .ok (.iload_n 3, 1) := by decide +kernel
theorem dX2_prizeNamed_3 : decode cX2_prizeNamed 3 = .ok (.aload_n 0, 1) := by decide +kernel
theorem dX2_prizeNamed_4 : decode cX2_prizeNamed 4 = .ok (.getfield 78, 3) := by decide +kernel
theorem dX2_prizeNamed_7 : decode cX2_prizeNamed 7 = .ok (.if_icmp .ge 34, 3) := by decide +kernel
theorem dX2_prizeNamed_10 : decode cX2_prizeNamed 10 = .ok (.iload_n 3, 1) := by decide +kernel
theorem dX2_prizeNamed_11 : decode cX2_prizeNamed 11 = .ok (.aload_n 0, 1) := by decide +kernel
theorem dX2_prizeNamed_12 : decode cX2_prizeNamed 12 = .ok (.getfield 46, 3) := by decide +kernel
theorem dX2_prizeNamed_15 : decode cX2_prizeNamed 15 = .ok (.arraylength, 1) := by decide +kernel
theorem dX2_prizeNamed_16 : decode cX2_prizeNamed 16 = .ok (.if_icmp .ge 25, 3) := by decide +kernel
theorem dX2_prizeNamed_19 : decode cX2_prizeNamed 19 = .ok (.aload_n 0, 1) := by decide +kernel
theorem dX2_prizeNamed_20 : decode cX2_prizeNamed 20 = .ok (.getfield 46, 3) := by decide +kernel
theorem dX2_prizeNamed_23 : decode cX2_prizeNamed 23 = .ok (.iload_n 3, 1) := by decide +kernel
theorem dX2_prizeNamed_24 : decode cX2_prizeNamed 24 = .ok (.aaload, 1) := by decide +kernel
theorem dX2_prizeNamed_25 : decode cX2_prizeNamed 25 = .ok (.getfield 130, 3) := by decide +kernel
theorem dX2_prizeNamed_28 : decode cX2_prizeNamed 28 = .ok (.lload_n 1, 1) := by decide +kernel
theorem dX2_prizeNamed_29 : decode cX2_prizeNamed 29 = .ok (.lcmp, 1) := by decide +kernel
theorem dX2_prizeNamed_30 : decode cX2_prizeNamed 30 = .ok (.ifCond .ne 5, 3) := by decide +kernel
theorem dX2_prizeNamed_33 : decode cX2_prizeNamed 33 = .ok (.iload_n 3, 1) := by decide +kernel
theorem dX2_prizeNamed_34 : decode cX2_prizeNamed 34 = .ok (.ireturn, 1) := by decide +kernel
theorem dX2_prizeNamed_35 : decode cX2_prizeNamed 35 = .ok (.iinc 3 1, 3) := by decide +kernel
theorem dX2_prizeNamed_38 : decode cX2_prizeNamed 38 = .ok (.goto (-36), 3) := by decide +kernel
theorem dX2_prizeNamed_41 : decode cX2_prizeNamed 41 = .ok (.iconst (-1), 1) := by decide +kernel
theorem dX2_prizeNamed_42 : decode cX2_prizeNamed 42 = .ok (.ireturn, 1) := by decide +kernel
theorem dX2_railNamed_0 : decode cX2_railNamed 0 = .ok (.iconst 0, 1) := by decide +kernel
theorem dX2_railNamed_1 : decode cX2_railNamed 1 = .ok (.istore_n 3, 1) := by decide +kernel
theorem dX2_railNamed_2 : decode cX2_railNamed 2 = .ok (.iload_n 3, 1) := by decide +kernel
theorem dX2_railNamed_3 : decode cX2_railNamed 3 = .ok (.aload_n 0, 1) := by decide +kernel
theorem dX2_railNamed_4 : decode cX2_railNamed 4 = .ok (.getfield 69, 3) := by decide +kernel
theorem dX2_railNamed_7 : decode cX2_railNamed 7 = .ok (.if_icmp .ge 34, 3) := by decide +kernel
theorem dX2_railNamed_10 : decode cX2_railNamed 10 = .ok (.iload_n 3, 1) := by decide +kernel
theorem dX2_railNamed_11 : decode cX2_railNamed 11 = .ok (.aload_n 0, 1) := by decide +kernel
theorem dX2_railNamed_12 : decode cX2_railNamed 12 = .ok (.getfield 34, 3) := by decide +kernel
theorem dX2_railNamed_15 : decode cX2_railNamed 15 = .ok (.arraylength, 1) := by decide +kernel
theorem dX2_railNamed_16 : decode cX2_railNamed 16 = .ok (.if_icmp .ge 25, 3) := by decide +kernel
theorem dX2_railNamed_19 : decode cX2_railNamed 19 = .ok (.aload_n 0, 1) := by decide +kernel
theorem dX2_railNamed_20 : decode cX2_railNamed 20 = .ok (.getfield 34, 3) := by decide +kernel
theorem dX2_railNamed_23 : decode cX2_railNamed 23 = .ok (.iload_n 3, 1) := by decide +kernel
theorem dX2_railNamed_24 : decode cX2_railNamed 24 = .ok (.aaload, 1) := by decide +kernel
theorem dX2_railNamed_25 : decode cX2_railNamed 25 = .ok (.getfield 125, 3) := by decide +kernel
theorem dX2_railNamed_28 : decode cX2_railNamed 28 = .ok (.lload_n 1, 1) := by decide +kernel
theorem dX2_railNamed_29 : decode cX2_railNamed 29 = .ok (.lcmp, 1) := by decide +kernel
theorem dX2_railNamed_30 : decode cX2_railNamed 30 = .ok (.ifCond .ne 5, 3) := by decide +kernel
theorem dX2_railNamed_33 : decode cX2_railNamed 33 = .ok (.iload_n 3, 1) := by decide +kernel
theorem dX2_railNamed_34 : decode cX2_railNamed 34 = .ok (.ireturn, 1) := by decide +kernel
theorem dX2_railNamed_35 : decode cX2_railNamed 35 = .ok (.iinc 3 1, 3) := by decide +kernel
theorem dX2_railNamed_38 : decode cX2_railNamed 38 = .ok (.goto (-36), 3) := by decide +kernel
theorem dX2_railNamed_41 : decode cX2_railNamed 41 = .ok (.iconst (-1), 1) := by decide +kernel
theorem dX2_railNamed_42 : decode cX2_railNamed 42 = .ok (.ireturn, 1) := by decide +kernel
theorem dX2_reading_0 : decode cX2_reading 0 = .ok (.iload_n 1, 1) := by decide +kernel
theorem dX2_reading_1 : decode cX2_reading 1 = .ok (.tableswitch 141 319 326 #[47, 52, 57, 75, 97, 119, 141, 62], 47) := by decide +kernel
theorem dX2_reading_48 : decode cX2_reading 48 = .ok (.aload_n 0, 1) := by decide +kernel
theorem dX2_reading_49 : decode cX2_reading 49 = .ok (.getfield 87, 3) := by decide +kernel
theorem dX2_reading_52 : decode cX2_reading 52 = .ok (.ireturn, 1) := by decide +kernel
theorem dX2_reading_53 : decode cX2_reading 53 = .ok (.aload_n 0, 1) := by decide +kernel
theorem dX2_reading_54 : decode cX2_reading 54 = .ok (.getfield 90, 3) := by decide +kernel
theorem dX2_reading_57 : decode cX2_reading 57 = .ok (.ireturn, 1) := by decide +kernel
theorem dX2_reading_58 : decode cX2_reading 58 = .ok (.aload_n 0, 1) := by decide +kernel
theorem dX2_reading_59 : decode cX2_reading 59 = .ok (.getfield 84, 3) := by decide +kernel
theorem dX2_reading_62 : decode cX2_reading 62 = .ok (.ireturn, 1) := by decide +kernel
theorem dX2_reading_63 : decode cX2_reading 63 = .ok (.aload_n 0, 1) := by decide +kernel
theorem dX2_reading_64 : decode cX2_reading 64 = .ok (.getfield 90, 3) := by decide +kernel
theorem dX2_reading_67 : decode cX2_reading 67 = .ok (.ifCond .le 7, 3) := by decide +kernel
theorem dX2_reading_70 : decode cX2_reading 70 = .ok (.iconst 1, 1) := by decide +kernel
theorem dX2_reading_71 : decode cX2_reading 71 = .ok (.goto 4, 3) := by decide +kernel
theorem dX2_reading_74 : decode cX2_reading 74 = .ok (.iconst 0, 1) := by decide +kernel
theorem dX2_reading_75 : decode cX2_reading 75 = .ok (.ireturn, 1) := by decide +kernel
theorem dX2_reading_76 : decode cX2_reading 76 = .ok (.aload_n 0, 1) := by decide +kernel
theorem dX2_reading_77 : decode cX2_reading 77 = .ok (.iload_n 2, 1) := by decide +kernel
theorem dX2_reading_78 : decode cX2_reading 78 = .ok (.invokevirtual 167, 3) := by decide +kernel
theorem dX2_reading_81 : decode cX2_reading 81 = .ok (.ifCond .eq 15, 3) := by decide +kernel
theorem dX2_reading_84 : decode cX2_reading 84 = .ok (.aload_n 0, 1) := by decide +kernel
theorem dX2_reading_85 : decode cX2_reading 85 = .ok (.getfield 40, 3) := by decide +kernel
theorem dX2_reading_88 : decode cX2_reading 88 = .ok (.iload_n 2, 1) := by decide +kernel
theorem dX2_reading_89 : decode cX2_reading 89 = .ok (.aaload, 1) := by decide +kernel
theorem dX2_reading_90 : decode cX2_reading 90 = .ok (.getfield 182, 3) := by decide +kernel
theorem dX2_reading_93 : decode cX2_reading 93 = .ok (.goto 4, 3) := by decide +kernel
theorem dX2_reading_96 : decode cX2_reading 96 = .ok (.iconst 0, 1) := by decide +kernel
theorem dX2_reading_97 : decode cX2_reading 97 = .ok (.ireturn, 1) := by decide +kernel
theorem dX2_reading_98 : decode cX2_reading 98 = .ok (.aload_n 0, 1) := by decide +kernel
theorem dX2_reading_99 : decode cX2_reading 99 = .ok (.iload_n 2, 1) := by decide +kernel
theorem dX2_reading_100 : decode cX2_reading 100 = .ok (.invokevirtual 167, 3) := by decide +kernel
theorem dX2_reading_103 : decode cX2_reading 103 = .ok (.ifCond .eq 15, 3) := by decide +kernel
theorem dX2_reading_106 : decode cX2_reading 106 = .ok (.aload_n 0, 1) := by decide +kernel
theorem dX2_reading_107 : decode cX2_reading 107 = .ok (.getfield 40, 3) := by decide +kernel
theorem dX2_reading_110 : decode cX2_reading 110 = .ok (.iload_n 2, 1) := by decide +kernel
theorem dX2_reading_111 : decode cX2_reading 111 = .ok (.aaload, 1) := by decide +kernel
theorem dX2_reading_112 : decode cX2_reading 112 = .ok (.getfield 179, 3) := by decide +kernel
theorem dX2_reading_115 : decode cX2_reading 115 = .ok (.goto 4, 3) := by decide +kernel
theorem dX2_reading_118 : decode cX2_reading 118 = .ok (.iconst 0, 1) := by decide +kernel
theorem dX2_reading_119 : decode cX2_reading 119 = .ok (.ireturn, 1) := by decide +kernel
theorem dX2_reading_120 : decode cX2_reading 120 = .ok (.aload_n 0, 1) := by decide +kernel
theorem dX2_reading_121 : decode cX2_reading 121 = .ok (.iload_n 2, 1) := by decide +kernel
theorem dX2_reading_122 : decode cX2_reading 122 = .ok (.invokevirtual 135, 3) := by decide +kernel
theorem dX2_reading_125 : decode cX2_reading 125 = .ok (.ifCond .eq 15, 3) := by decide +kernel
theorem dX2_reading_128 : decode cX2_reading 128 = .ok (.aload_n 0, 1) := by decide +kernel
theorem dX2_reading_129 : decode cX2_reading 129 = .ok (.getfield 34, 3) := by decide +kernel
theorem dX2_reading_132 : decode cX2_reading 132 = .ok (.iload_n 2, 1) := by decide +kernel
theorem dX2_reading_133 : decode cX2_reading 133 = .ok (.aaload, 1) := by decide +kernel
theorem dX2_reading_134 : decode cX2_reading 134 = .ok (.getfield 163, 3) := by decide +kernel
theorem dX2_reading_137 : decode cX2_reading 137 = .ok (.goto 4, 3) := by decide +kernel
theorem dX2_reading_140 : decode cX2_reading 140 = .ok (.iconst 0, 1) := by decide +kernel
theorem dX2_reading_141 : decode cX2_reading 141 = .ok (.ireturn, 1) := by decide +kernel
theorem dX2_reading_142 : decode cX2_reading 142 = .ok (.aload_n 0, 1) := by decide +kernel
theorem dX2_reading_143 : decode cX2_reading 143 = .ok (.iload_n 2, 1) := by decide +kernel
theorem dX2_reading_144 : decode cX2_reading 144 = .ok (.invokevirtual 192, 3) := by decide +kernel
theorem dX2_reading_147 : decode cX2_reading 147 = .ok (.ifCond .eq 15, 3) := by decide +kernel
theorem dX2_reading_150 : decode cX2_reading 150 = .ok (.aload_n 0, 1) := by decide +kernel
theorem dX2_reading_151 : decode cX2_reading 151 = .ok (.getfield 46, 3) := by decide +kernel
theorem dX2_reading_154 : decode cX2_reading 154 = .ok (.iload_n 2, 1) := by decide +kernel
theorem dX2_reading_155 : decode cX2_reading 155 = .ok (.aaload, 1) := by decide +kernel
theorem dX2_reading_156 : decode cX2_reading 156 = .ok (.getfield 195, 3) := by decide +kernel
theorem dX2_reading_159 : decode cX2_reading 159 = .ok (.goto 4, 3) := by decide +kernel
theorem dX2_reading_162 : decode cX2_reading 162 = .ok (.iconst 0, 1) := by decide +kernel
theorem dX2_reading_163 : decode cX2_reading 163 = .ok (.ireturn, 1) := by decide +kernel
/-! the contest's readings -/
section ReadR
variable {G : Gp} {Y : MD} {d pc : Nat} {ls : List (Option AV)} {st : List AV} {S : AMem} {I : Nat → Nat → Int32} {J : Nat → Nat → Int64} {R : Nat → Nat → Option Nat} {Q : (Option AV ⊕ Nat) → AMem → Prop}
theorem cm_aaloadK {a t b : Nat} {i : Int32} (hd : decode Y.cc pc = .ok (.aaload, 1)) (hK : S.K a = t) (ht : 22 ≤ t ∧ t < 26) (hin : vp_in i (S.ln a)) (hR : R a i.toNatClampNeg = some b) {q : Nat} (hq : pc + 1 = q) (k : MW G Y d q ls (vR b :: st) (mw S I J R) Q) : MW G Y d pc ls (vI i :: vR a :: st) (mw S I J R) Q := by
  have e : t = 22 + (t - 22) := by omega
  rw [e] at hK
  exact cm_aaload hd hK (by omega) hin hR hq k
theorem cm_alenK {a t : Nat} {v : Int32} (hd : decode Y.cc pc = .ok (.arraylength, 1)) (hK : S.K a = t) (ht : 22 ≤ t ∧ t < 26) (hv : nI (S.ln a) = v) {q : Nat} (hq : pc + 1 = q) (k : MW G Y d q ls (vI v :: st) (mw S I J R) Q) : MW G Y d pc ls (vR a :: st) (mw S I J R) Q := by
  have e : t = 22 + (t - 22) := by omega
  rw [e] at hK
  exact cm_alenR hd hK (by omega) hv hq k
end ReadR
theorem k_ix {i : Int32} {n : Nat} (h0 : ¬ i < 0) (h1 : i < nI n) (hn : n < 2 ^ 31) : ∃ k, k < n ∧ i = nI k := by
  obtain ⟨k, hk, rfl⟩ := nI_of h0
  exact ⟨k, (nI_ltI hk hn).mp h1, rfl⟩
theorem k_rng8 {k : Int32} (h1 : 319 ≤ k) (h2 : k ≤ 326) : k = 319 ∨ k = 320 ∨ k = 321 ∨ k = 322 ∨ k = 323 ∨ k = 324 ∨ k = 325 ∨ k = 326 := by
  have a1 := Int32.le_iff_toInt_le.mp h1
  have a2 := Int32.le_iff_toInt_le.mp h2
  have e1 : (319 : Int32).toInt = 319 := by decide +kernel
  have e2 : (326 : Int32).toInt = 326 := by decide +kernel
  rw [e1] at a1
  rw [e2] at a2
  have hz : Int32.ofInt k.toInt = k := Int32.ofInt_toInt k
  have : k.toInt = 319 ∨ k.toInt = 320 ∨ k.toInt = 321 ∨ k.toInt = 322 ∨ k.toInt = 323 ∨ k.toInt = 324 ∨ k.toInt = 325 ∨ k.toInt = 326 := by omega
  rcases this with e | e | e | e | e | e | e | e
  · exact Or.inl (by rw [← hz, e]; rfl)
  · exact Or.inr (Or.inl (by rw [← hz, e]; rfl))
  · exact Or.inr (Or.inr (Or.inl (by rw [← hz, e]; rfl)))
  · exact Or.inr (Or.inr (Or.inr (Or.inl (by rw [← hz, e]; rfl))))
  · exact Or.inr (Or.inr (Or.inr (Or.inr (Or.inl (by rw [← hz, e]; rfl)))))
  · exact Or.inr (Or.inr (Or.inr (Or.inr (Or.inr (Or.inl (by rw [← hz, e]; rfl))))))
  · exact Or.inr (Or.inr (Or.inr (Or.inr (Or.inr (Or.inr (Or.inl (by rw [← hz, e]; rfl)))))))
  · exact Or.inr (Or.inr (Or.inr (Or.inr (Or.inr (Or.inr (Or.inr (by rw [← hz, e]; rfl)))))))
/-- the first of a row of names -/
def fndJ (f : Nat → Int64) (v : Int64) : Nat → Nat → Int32
  | _, 0 => -1
  | k, n + 1 => if f k = v then nI k else fndJ f v (k + 1) n
/-- only what a reckoning or a flight needs for itself has changed -/
def Qt (c : Nat) (I I1 : Nat → Nat → Int32) : Prop := ∀ x j, (x ≠ c + 1 ∨ j ≠ 3) → x ≠ c + 4 → x ≠ c + 7 → x ≠ c + 8 → I1 x j = I x j
theorem Qt.rf {c : Nat} {I : Nat → Nat → Int32} : Qt c I I := fun _ _ _ _ _ _ => rfl
theorem Qt.tr {c : Nat} {I I1 I2 : Nat → Nat → Int32} (h1 : Qt c I I1) (h2 : Qt c I1 I2) : Qt c I I2 := fun x j p q r s => (h2 x j p q r s).trans (h1 x j p q r s)
theorem Qt.off {c : Nat} {I I1 : Nat → Nat → Int32} (h1 : Qt c I I1) : OffC c I I1 := fun x j q => h1 x j (Or.inl (by omega)) (by omega) (by omega) (by omega)
theorem OffK.qt {c : Nat} {I I1 : Nat → Nat → Int32} (h : OffK (c + 1) (c + 4) I I1) : Qt c I I1 := fun x j p q _ _ => h x j q (by
  rcases p with p | p
  · exact Or.inl p
  · exact Or.inr p)
theorem AbB.qt {c : Nat} {I I1 : Nat → Nat → Int32} {B : BS} (h : AbB I c B) (q : Qt c I I1) : AbB I1 c B := by
  obtain ⟨⟨a1, a2⟩, ⟨a3, a4⟩, ⟨a5, a6⟩, ⟨a7, a8⟩, b1, b2, z, b3, b4, b5, b6⟩ := h
  have q2 : I1 (c + 2) = I (c + 2) := funext fun j => q _ _ (Or.inl (by omega)) (by omega) (by omega) (by omega)
  have q3 : I1 (c + 3) = I (c + 3) := funext fun j => q _ _ (Or.inl (by omega)) (by omega) (by omega) (by omega)
  have qs : ∀ p r s, SegC I c p r s → SegC I1 c p r s := by
    intro p r s hs rd
    rw [q2, q3]
    exact hs rd
  refine ⟨⟨?_, a2⟩, ⟨?_, a4⟩, ⟨?_, a6⟩, ⟨?_, a8⟩, ?_, ?_, z, ?_, b4, ?_, ?_⟩
  · rw [q _ _ (Or.inl (by omega)) (by omega) (by omega) (by omega)]; exact a1
  · rw [q _ _ (Or.inl (by omega)) (by omega) (by omega) (by omega)]; exact a3
  · rw [q _ _ (Or.inl (by omega)) (by omega) (by omega) (by omega)]; exact a5
  · rw [q _ _ (Or.inl (by omega)) (by omega) (by omega) (by omega)]; exact a7
  · intro i hi p hp
    rw [q _ _ (Or.inl (by omega)) (by omega) (by omega) (by omega)]
    exact b1 i hi p hp
  · intro i hi
    rw [q _ _ (Or.inl (by omega)) (by omega) (by omega) (by omega), q _ _ (Or.inl (by omega)) (by omega) (by omega) (by omega)]
    exact b2 i hi
  · rw [q _ _ (Or.inr (by decide)) (by omega) (by omega) (by omega)]; exact b3
  · intro i hi
    obtain ⟨p, r, e1, e2, e3, e4, e5⟩ := b5 i hi
    refine ⟨p, r, ?_, ?_, e3, e4, ?_⟩
    · rw [q _ _ (Or.inl (by omega)) (by omega) (by omega) (by omega)]; exact e1
    · rw [q _ _ (Or.inl (by omega)) (by omega) (by omega) (by omega)]; exact e2
    · cases hh : B.tt i with
      | none => rw [hh] at e5; exact e5
      | some s => rw [hh] at e5; exact ⟨e5.1, qs _ _ _ e5.2⟩
  · intro i hi
    obtain ⟨p, r, t, e1, e2, e3, e4, e5, e6, e7, e8⟩ := b6 i hi
    refine ⟨p, r, t, ?_, ?_, ?_, e4, e5, e6, qs _ _ _ e7, qs _ _ _ e8⟩
    · rw [q _ _ (Or.inl (by omega)) (by omega) (by omega) (by omega)]; exact e1
    · rw [q _ _ (Or.inl (by omega)) (by omega) (by omega) (by omega)]; exact e2
    · rw [q _ _ (Or.inl (by omega)) (by omega) (by omega) (by omega)]; exact e3
theorem AbM.qt {c : Nat} {I I1 : Nat → Nat → Int32} {B : BS} {m : MS} (hB : AbB I c B) (h : AbM I c B m) (q : Qt c I I1) : AbM I1 c B m := by
  obtain ⟨a1, a2, a3, a4, a5, a6, a7, a8, a9, a10, a11⟩ := h
  obtain ⟨⟨_, u1⟩, ⟨_, u2⟩, ⟨_, u3⟩, ⟨_, u4⟩, _⟩ := hB
  refine ⟨?_, ?_, ?_, ?_, ?_, ?_, ?_, ?_, a9, a10, ?_⟩
  · intro i hi j hj
    rw [q _ _ (Or.inl (by omega)) (by omega) (by omega) (by omega)]; exact a1 i hi j hj
  · intro i hi j hj
    rw [q _ _ (Or.inl (by omega)) (by omega) (by omega) (by omega)]; exact a2 i hi j hj
  · intro i hi j hj
    rw [q _ _ (Or.inl (by omega)) (by omega) (by omega) (by omega)]; exact a3 i hi j hj
  · intro j hj
    rw [q _ _ (Or.inl (by omega)) (by omega) (by omega) (by omega)]; exact a4 j hj
  · rw [q _ _ (Or.inl (by omega)) (by omega) (by omega) (by omega)]; exact a5
  · intro k hk
    rw [q _ _ (Or.inl (by omega)) (by omega) (by omega) (by omega)]; exact a6 k hk
  · intro k hk
    rw [q _ _ (Or.inl (by omega)) (by omega) (by omega) (by omega)]; exact a7 k hk
  · rw [q _ _ (Or.inl (by omega)) (by omega) (by omega) (by omega)]; exact a8
  · intro i hi
    rw [q _ _ (Or.inl (by omega)) (by omega) (by omega) (by omega)]; exact a11 i hi
section ReadM
variable {G : Gp} {S : AMem} {I : Nat → Nat → Int32} {J : Nat → Nat → Int64} {R : Nat → Nat → Option Nat} {c : Nat} {B : BS} {m : MS}
theorem k_X2_hasRail {i : Int32} {n : Nat} (hct : CT S R c) (hn : I c 8 = nI n) (hn4 : n ≤ 4) : Fn G mX2_hasRail 0 [vR c, vI i] (mw S I J R) (fun rr M1 => rr = some (vI (bI (0 ≤ i ∧ i < nI n))) ∧ M1 = mw S I J R) := by
  obtain ⟨kc, rc0, rc1, rc2, rc3, rc4, rc5, rc6, rc7, ⟨kd, rd0, rd1, rd2, kd2, ld2, kd3, ld3, kd4, ld4⟩, ⟨kb, rb, kb6, lb6⟩, ⟨kf, rf, kf8, lf8⟩, ⟨kr, lr, hr⟩, ⟨kfi, lfi, hfi⟩, ⟨kp, lp, hpz⟩, ⟨kt, lt, htu⟩, kw, lw⟩ := id hct
  refine am_iload_n (q := 1) dX2_hasRail_0 rfl rfl ?_
  refine am_if_lt (tgt := 25) (q := 4) dX2_hasRail_1 rfl rfl (fun hc => ?_) (fun hc => ?_)
  · refine am_iconst (q := 26) (v := 0) dX2_hasRail_25 kc_i0 rfl ?_
    exact am_iret dX2_hasRail_26 rfl rfl ⟨_, rfl, by rw [bI_f (fun z => Int32.not_le.mpr hc z.1)], rfl⟩
  · refine am_iload_n (q := 5) dX2_hasRail_4 rfl rfl ?_
    refine am_aload_n (q := 6) dX2_hasRail_5 rfl rfl ?_
    refine cm_getI (q := 9) dX2_hasRail_6 flX2_69 rfl (by assumption) rfl ?_
    rw [hn]
    refine am_icmp_ge (tgt := 25) (q := 12) dX2_hasRail_9 rfl rfl (fun hc2 => ?_) (fun hc2 => ?_)
    · refine am_iconst (q := 26) (v := 0) dX2_hasRail_25 kc_i0 rfl ?_
      exact am_iret dX2_hasRail_26 rfl rfl ⟨_, rfl, by rw [bI_f (fun z => Int32.not_le.mpr z.2 hc2)], rfl⟩
    · obtain ⟨k, hk, rfl⟩ := k_ix hc (Int32.not_le.mp hc2) (by omega)
      refine am_iload_n (q := 13) dX2_hasRail_12 rfl rfl ?_
      refine am_aload_n (q := 14) dX2_hasRail_13 rfl rfl ?_
      refine cm_getR (q := 17) dX2_hasRail_14 flX2_34 rfl (by assumption) (by assumption) rfl ?_
      refine cm_alenK (q := 18) dX2_hasRail_17 (by assumption) (by decide) (by rw [lr] : nI (S.ln (c + 9)) = nI 4) rfl ?_
      refine am_icmp_ge (tgt := 25) (q := 21) dX2_hasRail_18 rfl rfl (fun hz => absurd hz (nI_ge (by omega) (by decide))) (fun _ => ?_)
      refine am_iconst (q := 22) (v := 1) dX2_hasRail_21 kc_i1 rfl ?_
      refine am_goto (tgt := 26) dX2_hasRail_22 rfl ?_
      exact am_iret dX2_hasRail_26 rfl rfl ⟨_, rfl, by rw [bI_t ⟨Int32.not_lt.mp hc, Int32.not_le.mp hc2⟩], rfl⟩
theorem k_X2_hasFist {i : Int32} {n : Nat} (hct : CT S R c) (hn : I c 10 = nI n) (hn4 : n ≤ 8) : Fn G mX2_hasFist 0 [vR c, vI i] (mw S I J R) (fun rr M1 => rr = some (vI (bI (0 ≤ i ∧ i < nI n))) ∧ M1 = mw S I J R) := by
  obtain ⟨kc, rc0, rc1, rc2, rc3, rc4, rc5, rc6, rc7, ⟨kd, rd0, rd1, rd2, kd2, ld2, kd3, ld3, kd4, ld4⟩, ⟨kb, rb, kb6, lb6⟩, ⟨kf, rf, kf8, lf8⟩, ⟨kr, lr, hr⟩, ⟨kfi, lfi, hfi⟩, ⟨kp, lp, hpz⟩, ⟨kt, lt, htu⟩, kw, lw⟩ := id hct
  refine am_iload_n (q := 1) dX2_hasFist_0 rfl rfl ?_
  refine am_if_lt (tgt := 25) (q := 4) dX2_hasFist_1 rfl rfl (fun hc => ?_) (fun hc => ?_)
  · refine am_iconst (q := 26) (v := 0) dX2_hasFist_25 kc_i0 rfl ?_
    exact am_iret dX2_hasFist_26 rfl rfl ⟨_, rfl, by rw [bI_f (fun z => Int32.not_le.mpr hc z.1)], rfl⟩
  · refine am_iload_n (q := 5) dX2_hasFist_4 rfl rfl ?_
    refine am_aload_n (q := 6) dX2_hasFist_5 rfl rfl ?_
    refine cm_getI (q := 9) dX2_hasFist_6 flX2_75 rfl (by assumption) rfl ?_
    rw [hn]
    refine am_icmp_ge (tgt := 25) (q := 12) dX2_hasFist_9 rfl rfl (fun hc2 => ?_) (fun hc2 => ?_)
    · refine am_iconst (q := 26) (v := 0) dX2_hasFist_25 kc_i0 rfl ?_
      exact am_iret dX2_hasFist_26 rfl rfl ⟨_, rfl, by rw [bI_f (fun z => Int32.not_le.mpr z.2 hc2)], rfl⟩
    · obtain ⟨k, hk, rfl⟩ := k_ix hc (Int32.not_le.mp hc2) (by omega)
      refine am_iload_n (q := 13) dX2_hasFist_12 rfl rfl ?_
      refine am_aload_n (q := 14) dX2_hasFist_13 rfl rfl ?_
      refine cm_getR (q := 17) dX2_hasFist_14 flX2_40 rfl (by assumption) (by assumption) rfl ?_
      refine cm_alenK (q := 18) dX2_hasFist_17 (by assumption) (by decide) (by rw [lfi] : nI (S.ln (c + 10)) = nI 8) rfl ?_
      refine am_icmp_ge (tgt := 25) (q := 21) dX2_hasFist_18 rfl rfl (fun hz => absurd hz (nI_ge (by omega) (by decide))) (fun _ => ?_)
      refine am_iconst (q := 22) (v := 1) dX2_hasFist_21 kc_i1 rfl ?_
      refine am_goto (tgt := 26) dX2_hasFist_22 rfl ?_
      exact am_iret dX2_hasFist_26 rfl rfl ⟨_, rfl, by rw [bI_t ⟨Int32.not_lt.mp hc, Int32.not_le.mp hc2⟩], rfl⟩
theorem k_X2_hasPrize {i : Int32} {n : Nat} (hct : CT S R c) (hn : I c 11 = nI n) (hn4 : n ≤ 8) : Fn G mX2_hasPrize 0 [vR c, vI i] (mw S I J R) (fun rr M1 => rr = some (vI (bI (0 ≤ i ∧ i < nI n))) ∧ M1 = mw S I J R) := by
  obtain ⟨kc, rc0, rc1, rc2, rc3, rc4, rc5, rc6, rc7, ⟨kd, rd0, rd1, rd2, kd2, ld2, kd3, ld3, kd4, ld4⟩, ⟨kb, rb, kb6, lb6⟩, ⟨kf, rf, kf8, lf8⟩, ⟨kr, lr, hr⟩, ⟨kfi, lfi, hfi⟩, ⟨kp, lp, hpz⟩, ⟨kt, lt, htu⟩, kw, lw⟩ := id hct
  refine am_iload_n (q := 1) dX2_hasPrize_0 rfl rfl ?_
  refine am_if_lt (tgt := 25) (q := 4) dX2_hasPrize_1 rfl rfl (fun hc => ?_) (fun hc => ?_)
  · refine am_iconst (q := 26) (v := 0) dX2_hasPrize_25 kc_i0 rfl ?_
    exact am_iret dX2_hasPrize_26 rfl rfl ⟨_, rfl, by rw [bI_f (fun z => Int32.not_le.mpr hc z.1)], rfl⟩
  · refine am_iload_n (q := 5) dX2_hasPrize_4 rfl rfl ?_
    refine am_aload_n (q := 6) dX2_hasPrize_5 rfl rfl ?_
    refine cm_getI (q := 9) dX2_hasPrize_6 flX2_78 rfl (by assumption) rfl ?_
    rw [hn]
    refine am_icmp_ge (tgt := 25) (q := 12) dX2_hasPrize_9 rfl rfl (fun hc2 => ?_) (fun hc2 => ?_)
    · refine am_iconst (q := 26) (v := 0) dX2_hasPrize_25 kc_i0 rfl ?_
      exact am_iret dX2_hasPrize_26 rfl rfl ⟨_, rfl, by rw [bI_f (fun z => Int32.not_le.mpr z.2 hc2)], rfl⟩
    · obtain ⟨k, hk, rfl⟩ := k_ix hc (Int32.not_le.mp hc2) (by omega)
      refine am_iload_n (q := 13) dX2_hasPrize_12 rfl rfl ?_
      refine am_aload_n (q := 14) dX2_hasPrize_13 rfl rfl ?_
      refine cm_getR (q := 17) dX2_hasPrize_14 flX2_46 rfl (by assumption) (by assumption) rfl ?_
      refine cm_alenK (q := 18) dX2_hasPrize_17 (by assumption) (by decide) (by rw [lp] : nI (S.ln (c + 11)) = nI 8) rfl ?_
      refine am_icmp_ge (tgt := 25) (q := 21) dX2_hasPrize_18 rfl rfl (fun hz => absurd hz (nI_ge (by omega) (by decide))) (fun _ => ?_)
      refine am_iconst (q := 22) (v := 1) dX2_hasPrize_21 kc_i1 rfl ?_
      refine am_goto (tgt := 26) dX2_hasPrize_22 rfl ?_
      exact am_iret dX2_hasPrize_26 rfl rfl ⟨_, rfl, by rw [bI_t ⟨Int32.not_lt.mp hc, Int32.not_le.mp hc2⟩], rfl⟩
theorem k_X2_hasTurn {i : Int32} {n : Nat} (hct : CT S R c) (hn : I c 12 = nI n) (hn4 : n ≤ 20) : Fn G mX2_hasTurn 0 [vR c, vI i] (mw S I J R) (fun rr M1 => rr = some (vI (bI (0 ≤ i ∧ i < nI n))) ∧ M1 = mw S I J R) := by
  obtain ⟨kc, rc0, rc1, rc2, rc3, rc4, rc5, rc6, rc7, ⟨kd, rd0, rd1, rd2, kd2, ld2, kd3, ld3, kd4, ld4⟩, ⟨kb, rb, kb6, lb6⟩, ⟨kf, rf, kf8, lf8⟩, ⟨kr, lr, hr⟩, ⟨kfi, lfi, hfi⟩, ⟨kp, lp, hpz⟩, ⟨kt, lt, htu⟩, kw, lw⟩ := id hct
  refine am_iload_n (q := 1) dX2_hasTurn_0 rfl rfl ?_
  refine am_if_lt (tgt := 25) (q := 4) dX2_hasTurn_1 rfl rfl (fun hc => ?_) (fun hc => ?_)
  · refine am_iconst (q := 26) (v := 0) dX2_hasTurn_25 kc_i0 rfl ?_
    exact am_iret dX2_hasTurn_26 rfl rfl ⟨_, rfl, by rw [bI_f (fun z => Int32.not_le.mpr hc z.1)], rfl⟩
  · refine am_iload_n (q := 5) dX2_hasTurn_4 rfl rfl ?_
    refine am_aload_n (q := 6) dX2_hasTurn_5 rfl rfl ?_
    refine cm_getI (q := 9) dX2_hasTurn_6 flX2_81 rfl (by assumption) rfl ?_
    rw [hn]
    refine am_icmp_ge (tgt := 25) (q := 12) dX2_hasTurn_9 rfl rfl (fun hc2 => ?_) (fun hc2 => ?_)
    · refine am_iconst (q := 26) (v := 0) dX2_hasTurn_25 kc_i0 rfl ?_
      exact am_iret dX2_hasTurn_26 rfl rfl ⟨_, rfl, by rw [bI_f (fun z => Int32.not_le.mpr z.2 hc2)], rfl⟩
    · obtain ⟨k, hk, rfl⟩ := k_ix hc (Int32.not_le.mp hc2) (by omega)
      refine am_iload_n (q := 13) dX2_hasTurn_12 rfl rfl ?_
      refine am_aload_n (q := 14) dX2_hasTurn_13 rfl rfl ?_
      refine cm_getR (q := 17) dX2_hasTurn_14 flX2_52 rfl (by assumption) (by assumption) rfl ?_
      refine cm_alenK (q := 18) dX2_hasTurn_17 (by assumption) (by decide) (by rw [lt] : nI (S.ln (c + 12)) = nI 20) rfl ?_
      refine am_icmp_ge (tgt := 25) (q := 21) dX2_hasTurn_18 rfl rfl (fun hz => absurd hz (nI_ge (by omega) (by decide))) (fun _ => ?_)
      refine am_iconst (q := 22) (v := 1) dX2_hasTurn_21 kc_i1 rfl ?_
      refine am_goto (tgt := 26) dX2_hasTurn_22 rfl ?_
      exact am_iret dX2_hasTurn_26 rfl rfl ⟨_, rfl, by rw [bI_t ⟨Int32.not_lt.mp hc, Int32.not_le.mp hc2⟩], rfl⟩
theorem k_X2_railNamed {v : Int64} {n : Nat} (hct : CT S R c) (hn : I c 8 = nI n) (hn4 : n ≤ 4) : Fn G mX2_railNamed 0 [vR c, vJ v] (mw S I J R) (fun rr M1 => rr = some (vI (fndJ (fun i => J (c + 14 + 2 * i) 1) v 0 n)) ∧ M1 = mw S I J R) := by
  obtain ⟨kc, rc0, rc1, rc2, rc3, rc4, rc5, rc6, rc7, ⟨kd, rd0, rd1, rd2, kd2, ld2, kd3, ld3, kd4, ld4⟩, ⟨kb, rb, kb6, lb6⟩, ⟨kf, rf, kf8, lf8⟩, ⟨kr, lr, hr⟩, ⟨kfi, lfi, hfi⟩, ⟨kp, lp, hpz⟩, ⟨kt, lt, htu⟩, kw, lw⟩ := id hct
  refine am_iconst (q := 1) (v := 0) dX2_railNamed_0 kc_i0 rfl ?_
  refine am_istore_n (q := 2) (ls1 := [_, _, _, _]) dX2_railNamed_1 (Nat.le_of_ble_eq_true rfl) rfl rfl ?_
  refine k_loop (σ := Unit) (n := n) (Inv := fun i _ => fndJ (fun i => J (c + 14 + 2 * i) 1) v i (n - i) = fndJ (fun i => J (c + 14 + 2 * i) 1) v 0 n) (W := fun i _ => MW G mX2_railNamed 0 2 [some (vR c), some (vJ v), none, some (vI (nI i))] [] (mw S I J R) _) ?_ ?_ 0 () (Nat.zero_le _) rfl
  · rintro i ⟨⟩ hi hinv ih
    obtain ⟨r1, r2, r3, r4, r5⟩ := hr i (by omega)
    have hin : vp_in (nI i) (S.ln (c + 9)) := by rw [lr]; exact vp_in_nI (by omega) (by decide)
    have hR : R (c + 9) (nI i).toNatClampNeg = some (c + 14 + 2 * i) := by rw [nI_clamp (by omega)]; exact r1
    rw [show n - i = (n - (i + 1)) + 1 by omega, fndJ] at hinv
    refine am_iload_n (q := 3) dX2_railNamed_2 rfl rfl ?_
    refine am_aload_n (q := 4) dX2_railNamed_3 rfl rfl ?_
    refine cm_getI (q := 7) dX2_railNamed_4 flX2_69 rfl (by assumption) rfl ?_
    rw [hn]
    refine am_icmp_ge (tgt := 41) (q := 10) dX2_railNamed_7 rfl rfl (fun hz => absurd hz (nI_ge (by omega) (by omega))) (fun _ => ?_)
    refine am_iload_n (q := 11) dX2_railNamed_10 rfl rfl ?_
    refine am_aload_n (q := 12) dX2_railNamed_11 rfl rfl ?_
    refine cm_getR (q := 15) dX2_railNamed_12 flX2_34 rfl (by assumption) (by assumption) rfl ?_
    refine cm_alenK (q := 16) dX2_railNamed_15 (by assumption) (by decide) (by rw [lr] : nI (S.ln (c + 9)) = nI 4) rfl ?_
    refine am_icmp_ge (tgt := 41) (q := 19) dX2_railNamed_16 rfl rfl (fun hz => absurd hz (nI_ge (by omega) (by decide))) (fun _ => ?_)
    refine am_aload_n (q := 20) dX2_railNamed_19 rfl rfl ?_
    refine cm_getR (q := 23) dX2_railNamed_20 flX2_34 rfl (by assumption) (by assumption) rfl ?_
    refine am_iload_n (q := 24) dX2_railNamed_23 rfl rfl ?_
    refine cm_aaloadK (q := 25) dX2_railNamed_24 (by assumption) (by decide) hin hR rfl ?_
    refine cm_getJ (q := 28) dX2_railNamed_25 flX2_125 rfl (by assumption) rfl ?_
    refine am_lload_n (q := 29) dX2_railNamed_28 rfl rfl ?_
    refine am_lcmp (q := 30) dX2_railNamed_29 rfl ?_
    refine am_if_ne (tgt := 35) (q := 33) dX2_railNamed_30 rfl rfl (fun hc => ?_) (fun hc => ?_)
    · rw [lg_cmp_eq] at hc
      rw [if_neg hc] at hinv
      refine am_iincW (q := 38) (ls1 := [_, _, _, _]) (w := 1) dX2_railNamed_35 rfl (Nat.le_of_ble_eq_true rfl) kc_i1 rfl rfl ?_
      refine am_goto (tgt := 2) dX2_railNamed_38 rfl ?_
      rw [nI_1]
      exact ih () hinv
    · rw [lg_cmp_eq] at hc
      rw [if_pos hc] at hinv
      refine am_iload_n (q := 34) dX2_railNamed_33 rfl rfl ?_
      exact am_iret dX2_railNamed_34 rfl rfl ⟨_, rfl, by rw [← hinv], rfl⟩
  · rintro ⟨⟩ hinv
    rw [Nat.sub_self] at hinv
    refine am_iload_n (q := 3) dX2_railNamed_2 rfl rfl ?_
    refine am_aload_n (q := 4) dX2_railNamed_3 rfl rfl ?_
    refine cm_getI (q := 7) dX2_railNamed_4 flX2_69 rfl (by assumption) rfl ?_
    rw [hn]
    refine am_icmp_ge (tgt := 41) (q := 10) dX2_railNamed_7 rfl rfl (fun _ => ?_) (fun hz => absurd (Int32.le_refl _) hz)
    refine am_iconst (q := 42) (v := (-1)) dX2_railNamed_41 kc_im1 rfl ?_
    exact am_iret dX2_railNamed_42 rfl rfl ⟨_, rfl, by rw [← hinv]; rfl, rfl⟩
theorem k_X2_fistNamed {v : Int64} {n : Nat} (hct : CT S R c) (hn : I c 10 = nI n) (hn4 : n ≤ 8) : Fn G mX2_fistNamed 0 [vR c, vJ v] (mw S I J R) (fun rr M1 => rr = some (vI (fndJ (fun i => J (c + 22 + i) 0) v 0 n)) ∧ M1 = mw S I J R) := by
  obtain ⟨kc, rc0, rc1, rc2, rc3, rc4, rc5, rc6, rc7, ⟨kd, rd0, rd1, rd2, kd2, ld2, kd3, ld3, kd4, ld4⟩, ⟨kb, rb, kb6, lb6⟩, ⟨kf, rf, kf8, lf8⟩, ⟨kr, lr, hr⟩, ⟨kfi, lfi, hfi⟩, ⟨kp, lp, hpz⟩, ⟨kt, lt, htu⟩, kw, lw⟩ := id hct
  refine am_iconst (q := 1) (v := 0) dX2_fistNamed_0 kc_i0 rfl ?_
  refine am_istore_n (q := 2) (ls1 := [_, _, _, _]) dX2_fistNamed_1 (Nat.le_of_ble_eq_true rfl) rfl rfl ?_
  refine k_loop (σ := Unit) (n := n) (Inv := fun i _ => fndJ (fun i => J (c + 22 + i) 0) v i (n - i) = fndJ (fun i => J (c + 22 + i) 0) v 0 n) (W := fun i _ => MW G mX2_fistNamed 0 2 [some (vR c), some (vJ v), none, some (vI (nI i))] [] (mw S I J R) _) ?_ ?_ 0 () (Nat.zero_le _) rfl
  · rintro i ⟨⟩ hi hinv ih
    obtain ⟨r1, r2⟩ := hfi i (by omega)
    have hin : vp_in (nI i) (S.ln (c + 10)) := by rw [lfi]; exact vp_in_nI (by omega) (by decide)
    have hR : R (c + 10) (nI i).toNatClampNeg = some (c + 22 + i) := by rw [nI_clamp (by omega)]; exact r1
    rw [show n - i = (n - (i + 1)) + 1 by omega, fndJ] at hinv
    refine am_iload_n (q := 3) dX2_fistNamed_2 rfl rfl ?_
    refine am_aload_n (q := 4) dX2_fistNamed_3 rfl rfl ?_
    refine cm_getI (q := 7) dX2_fistNamed_4 flX2_75 rfl (by assumption) rfl ?_
    rw [hn]
    refine am_icmp_ge (tgt := 41) (q := 10) dX2_fistNamed_7 rfl rfl (fun hz => absurd hz (nI_ge (by omega) (by omega))) (fun _ => ?_)
    refine am_iload_n (q := 11) dX2_fistNamed_10 rfl rfl ?_
    refine am_aload_n (q := 12) dX2_fistNamed_11 rfl rfl ?_
    refine cm_getR (q := 15) dX2_fistNamed_12 flX2_40 rfl (by assumption) (by assumption) rfl ?_
    refine cm_alenK (q := 16) dX2_fistNamed_15 (by assumption) (by decide) (by rw [lfi] : nI (S.ln (c + 10)) = nI 8) rfl ?_
    refine am_icmp_ge (tgt := 41) (q := 19) dX2_fistNamed_16 rfl rfl (fun hz => absurd hz (nI_ge (by omega) (by decide))) (fun _ => ?_)
    refine am_aload_n (q := 20) dX2_fistNamed_19 rfl rfl ?_
    refine cm_getR (q := 23) dX2_fistNamed_20 flX2_40 rfl (by assumption) (by assumption) rfl ?_
    refine am_iload_n (q := 24) dX2_fistNamed_23 rfl rfl ?_
    refine cm_aaloadK (q := 25) dX2_fistNamed_24 (by assumption) (by decide) hin hR rfl ?_
    refine cm_getJ (q := 28) dX2_fistNamed_25 flX2_129 rfl (by assumption) rfl ?_
    refine am_lload_n (q := 29) dX2_fistNamed_28 rfl rfl ?_
    refine am_lcmp (q := 30) dX2_fistNamed_29 rfl ?_
    refine am_if_ne (tgt := 35) (q := 33) dX2_fistNamed_30 rfl rfl (fun hc => ?_) (fun hc => ?_)
    · rw [lg_cmp_eq] at hc
      rw [if_neg hc] at hinv
      refine am_iincW (q := 38) (ls1 := [_, _, _, _]) (w := 1) dX2_fistNamed_35 rfl (Nat.le_of_ble_eq_true rfl) kc_i1 rfl rfl ?_
      refine am_goto (tgt := 2) dX2_fistNamed_38 rfl ?_
      rw [nI_1]
      exact ih () hinv
    · rw [lg_cmp_eq] at hc
      rw [if_pos hc] at hinv
      refine am_iload_n (q := 34) dX2_fistNamed_33 rfl rfl ?_
      exact am_iret dX2_fistNamed_34 rfl rfl ⟨_, rfl, by rw [← hinv], rfl⟩
  · rintro ⟨⟩ hinv
    rw [Nat.sub_self] at hinv
    refine am_iload_n (q := 3) dX2_fistNamed_2 rfl rfl ?_
    refine am_aload_n (q := 4) dX2_fistNamed_3 rfl rfl ?_
    refine cm_getI (q := 7) dX2_fistNamed_4 flX2_75 rfl (by assumption) rfl ?_
    rw [hn]
    refine am_icmp_ge (tgt := 41) (q := 10) dX2_fistNamed_7 rfl rfl (fun _ => ?_) (fun hz => absurd (Int32.le_refl _) hz)
    refine am_iconst (q := 42) (v := (-1)) dX2_fistNamed_41 kc_im1 rfl ?_
    exact am_iret dX2_fistNamed_42 rfl rfl ⟨_, rfl, by rw [← hinv]; rfl, rfl⟩
theorem k_X2_prizeNamed {v : Int64} {n : Nat} (hct : CT S R c) (hn : I c 11 = nI n) (hn4 : n ≤ 8) : Fn G mX2_prizeNamed 0 [vR c, vJ v] (mw S I J R) (fun rr M1 => rr = some (vI (fndJ (fun i => J (c + 30 + i) 0) v 0 n)) ∧ M1 = mw S I J R) := by
  obtain ⟨kc, rc0, rc1, rc2, rc3, rc4, rc5, rc6, rc7, ⟨kd, rd0, rd1, rd2, kd2, ld2, kd3, ld3, kd4, ld4⟩, ⟨kb, rb, kb6, lb6⟩, ⟨kf, rf, kf8, lf8⟩, ⟨kr, lr, hr⟩, ⟨kfi, lfi, hfi⟩, ⟨kp, lp, hpz⟩, ⟨kt, lt, htu⟩, kw, lw⟩ := id hct
  refine am_iconst (q := 1) (v := 0) dX2_prizeNamed_0 kc_i0 rfl ?_
  refine am_istore_n (q := 2) (ls1 := [_, _, _, _]) dX2_prizeNamed_1 (Nat.le_of_ble_eq_true rfl) rfl rfl ?_
  refine k_loop (σ := Unit) (n := n) (Inv := fun i _ => fndJ (fun i => J (c + 30 + i) 0) v i (n - i) = fndJ (fun i => J (c + 30 + i) 0) v 0 n) (W := fun i _ => MW G mX2_prizeNamed 0 2 [some (vR c), some (vJ v), none, some (vI (nI i))] [] (mw S I J R) _) ?_ ?_ 0 () (Nat.zero_le _) rfl
  · rintro i ⟨⟩ hi hinv ih
    obtain ⟨r1, r2⟩ := hpz i (by omega)
    have hin : vp_in (nI i) (S.ln (c + 11)) := by rw [lp]; exact vp_in_nI (by omega) (by decide)
    have hR : R (c + 11) (nI i).toNatClampNeg = some (c + 30 + i) := by rw [nI_clamp (by omega)]; exact r1
    rw [show n - i = (n - (i + 1)) + 1 by omega, fndJ] at hinv
    refine am_iload_n (q := 3) dX2_prizeNamed_2 rfl rfl ?_
    refine am_aload_n (q := 4) dX2_prizeNamed_3 rfl rfl ?_
    refine cm_getI (q := 7) dX2_prizeNamed_4 flX2_78 rfl (by assumption) rfl ?_
    rw [hn]
    refine am_icmp_ge (tgt := 41) (q := 10) dX2_prizeNamed_7 rfl rfl (fun hz => absurd hz (nI_ge (by omega) (by omega))) (fun _ => ?_)
    refine am_iload_n (q := 11) dX2_prizeNamed_10 rfl rfl ?_
    refine am_aload_n (q := 12) dX2_prizeNamed_11 rfl rfl ?_
    refine cm_getR (q := 15) dX2_prizeNamed_12 flX2_46 rfl (by assumption) (by assumption) rfl ?_
    refine cm_alenK (q := 16) dX2_prizeNamed_15 (by assumption) (by decide) (by rw [lp] : nI (S.ln (c + 11)) = nI 8) rfl ?_
    refine am_icmp_ge (tgt := 41) (q := 19) dX2_prizeNamed_16 rfl rfl (fun hz => absurd hz (nI_ge (by omega) (by decide))) (fun _ => ?_)
    refine am_aload_n (q := 20) dX2_prizeNamed_19 rfl rfl ?_
    refine cm_getR (q := 23) dX2_prizeNamed_20 flX2_46 rfl (by assumption) (by assumption) rfl ?_
    refine am_iload_n (q := 24) dX2_prizeNamed_23 rfl rfl ?_
    refine cm_aaloadK (q := 25) dX2_prizeNamed_24 (by assumption) (by decide) hin hR rfl ?_
    refine cm_getJ (q := 28) dX2_prizeNamed_25 flX2_130 rfl (by assumption) rfl ?_
    refine am_lload_n (q := 29) dX2_prizeNamed_28 rfl rfl ?_
    refine am_lcmp (q := 30) dX2_prizeNamed_29 rfl ?_
    refine am_if_ne (tgt := 35) (q := 33) dX2_prizeNamed_30 rfl rfl (fun hc => ?_) (fun hc => ?_)
    · rw [lg_cmp_eq] at hc
      rw [if_neg hc] at hinv
      refine am_iincW (q := 38) (ls1 := [_, _, _, _]) (w := 1) dX2_prizeNamed_35 rfl (Nat.le_of_ble_eq_true rfl) kc_i1 rfl rfl ?_
      refine am_goto (tgt := 2) dX2_prizeNamed_38 rfl ?_
      rw [nI_1]
      exact ih () hinv
    · rw [lg_cmp_eq] at hc
      rw [if_pos hc] at hinv
      refine am_iload_n (q := 34) dX2_prizeNamed_33 rfl rfl ?_
      exact am_iret dX2_prizeNamed_34 rfl rfl ⟨_, rfl, by rw [← hinv], rfl⟩
  · rintro ⟨⟩ hinv
    rw [Nat.sub_self] at hinv
    refine am_iload_n (q := 3) dX2_prizeNamed_2 rfl rfl ?_
    refine am_aload_n (q := 4) dX2_prizeNamed_3 rfl rfl ?_
    refine cm_getI (q := 7) dX2_prizeNamed_4 flX2_78 rfl (by assumption) rfl ?_
    rw [hn]
    refine am_icmp_ge (tgt := 41) (q := 10) dX2_prizeNamed_7 rfl rfl (fun _ => ?_) (fun hz => absurd (Int32.le_refl _) hz)
    refine am_iconst (q := 42) (v := (-1)) dX2_prizeNamed_41 kc_im1 rfl ?_
    exact am_iret dX2_prizeNamed_42 rfl rfl ⟨_, rfl, by rw [← hinv]; rfl, rfl⟩
theorem rdM_b (g : Int32) : rdM B m 319 g = m.g 1 ∧ rdM B m 320 g = m.g 2 ∧ rdM B m 321 g = m.g 0 ∧ rdM B m 326 g = bI (0 < m.g 2) ∧ rdM B m 322 g = (if 0 ≤ g ∧ g < nI B.nF then m.fist g.toNatClampNeg 4 else 0) ∧ rdM B m 323 g = (if 0 ≤ g ∧ g < nI B.nF then m.fist g.toNatClampNeg 3 else 0) ∧ rdM B m 324 g = (if 0 ≤ g ∧ g < nI B.nR then m.rail g.toNatClampNeg 3 else 0) ∧ rdM B m 325 g = (if 0 ≤ g ∧ g < nI B.nP then m.prize g.toNatClampNeg 0 else 0) := ⟨rfl, rfl, rfl, rfl, rfl, rfl, rfl, rfl⟩
theorem k_X2_reading {k g : Int32} (hG : okG G) (hct : CT S R c) (hB : AbB I c B) (hm : AbM I c B m) (h1 : 319 ≤ k) (h2 : k ≤ 326) : Fn G mX2_reading 1 [vR c, vI k, vI g] (mw S I J R) (fun rr M1 => rr = some (vI (rdM B m k g)) ∧ M1 = mw S I J R) := by
  have hct2 := hct
  obtain ⟨kc, rc0, rc1, rc2, rc3, rc4, rc5, rc6, rc7, ⟨kd, rd0, rd1, rd2, kd2, ld2, kd3, ld3, kd4, ld4⟩, ⟨kb, rb, kb6, lb6⟩, ⟨kf, rf, kf8, lf8⟩, ⟨kr, lr, hr⟩, ⟨kfi, lfi, hfi⟩, ⟨kp, lp, hpz⟩, ⟨kt, lt, htu⟩, kw, lw⟩ := id hct2
  obtain ⟨⟨u1, u2⟩, ⟨u3, u4⟩, ⟨u5, u6⟩, _⟩ := hB
  obtain ⟨a1, a2, a3, a4, _⟩ := hm
  obtain ⟨e1, e2, e3, e4, e5, e6, e7, e8⟩ := @rdM_b B m g
  have g0 : I c 13 = m.g 0 := a4 0 (by decide)
  have g1 : I c 14 = m.g 1 := a4 1 (by decide)
  have g2 : I c 15 = m.g 2 := a4 2 (by decide)
  rcases k_rng8 h1 h2 with rfl | rfl | rfl | rfl | rfl | rfl | rfl | rfl
  · refine am_iload_n (q := 1) dX2_reading_0 rfl rfl ?_
    refine am_tableIn (tgt := 48) dX2_reading_1 (by decide) (by decide) rfl rfl ?_
    refine am_aload_n (q := 49) dX2_reading_48 rfl rfl ?_
    refine cm_getI (q := 52) dX2_reading_49 flX2_87 rfl (by assumption) rfl ?_
    exact am_iret dX2_reading_52 rfl rfl ⟨_, rfl, by rw [e1, g1], rfl⟩
  · refine am_iload_n (q := 1) dX2_reading_0 rfl rfl ?_
    refine am_tableIn (tgt := 53) dX2_reading_1 (by decide) (by decide) rfl rfl ?_
    refine am_aload_n (q := 54) dX2_reading_53 rfl rfl ?_
    refine cm_getI (q := 57) dX2_reading_54 flX2_90 rfl (by assumption) rfl ?_
    exact am_iret dX2_reading_57 rfl rfl ⟨_, rfl, by rw [e2, g2], rfl⟩
  · refine am_iload_n (q := 1) dX2_reading_0 rfl rfl ?_
    refine am_tableIn (tgt := 58) dX2_reading_1 (by decide) (by decide) rfl rfl ?_
    refine am_aload_n (q := 59) dX2_reading_58 rfl rfl ?_
    refine cm_getI (q := 62) dX2_reading_59 flX2_84 rfl (by assumption) rfl ?_
    exact am_iret dX2_reading_62 rfl rfl ⟨_, rfl, by rw [e3, g0], rfl⟩
  · refine am_iload_n (q := 1) dX2_reading_0 rfl rfl ?_
    refine am_tableIn (tgt := 76) dX2_reading_1 (by decide) (by decide) rfl rfl ?_
    refine am_aload_n (q := 77) dX2_reading_76 rfl rfl ?_
    refine am_iload_n (q := 78) dX2_reading_77 rfl rfl ?_
    refine cm_call0 (q := 81) (As := [_]) hG dX2_reading_78 mlX2_167 rfl (by assumption) ⟨_, _, rfl⟩ (Nat.le_of_ble_eq_true rfl) (Nat.le_of_ble_eq_true rfl) (Nat.le_of_ble_eq_true rfl) (Nat.le_of_ble_eq_true rfl) (k_X2_hasFist hct u3 u4) rfl ?_
    rintro _ _ ⟨rfl, rfl⟩
    refine am_if_eq (tgt := 96) (q := 84) dX2_reading_81 rfl rfl (fun hc => ?_) (fun hc => ?_)
    · refine am_iconst (q := 97) (v := 0) dX2_reading_96 kc_i0 rfl ?_
      exact am_iret dX2_reading_97 rfl rfl ⟨_, rfl, by rw [e5, if_neg (bI_e0.mp hc)], rfl⟩
    · have hc2 := bI_n0.mp hc
      obtain ⟨i, hi, rfl⟩ := k_ix (Int32.not_lt.mpr hc2.1) hc2.2 (by omega)
      have hcl : (nI i).toNatClampNeg = i := nI_clamp (by omega)
      obtain ⟨r1, r2⟩ := hfi i (by omega)
      have hin : vp_in (nI i) (S.ln (c + 10)) := by rw [lfi]; exact vp_in_nI (by omega) (by decide)
      have hR : R (c + 10) (nI i).toNatClampNeg = some (c + 22 + i) := by rw [hcl]; exact r1
      have hv : I (c + 22 + i) 5 = m.fist i 4 := a1 i hi 4 (by decide)
      refine am_aload_n (q := 85) dX2_reading_84 rfl rfl ?_
      refine cm_getR (q := 88) dX2_reading_85 flX2_40 rfl (by assumption) (by assumption) rfl ?_
      refine am_iload_n (q := 89) dX2_reading_88 rfl rfl ?_
      refine cm_aaloadK (q := 90) dX2_reading_89 (by assumption) (by decide) hin hR rfl ?_
      refine cm_getI (q := 93) dX2_reading_90 flX2_182 rfl (by assumption) rfl ?_
      refine am_goto (tgt := 97) dX2_reading_93 rfl ?_
      exact am_iret dX2_reading_97 rfl rfl ⟨_, rfl, by rw [e5, if_pos hc2, hcl, hv], rfl⟩
  · refine am_iload_n (q := 1) dX2_reading_0 rfl rfl ?_
    refine am_tableIn (tgt := 98) dX2_reading_1 (by decide) (by decide) rfl rfl ?_
    refine am_aload_n (q := 99) dX2_reading_98 rfl rfl ?_
    refine am_iload_n (q := 100) dX2_reading_99 rfl rfl ?_
    refine cm_call0 (q := 103) (As := [_]) hG dX2_reading_100 mlX2_167 rfl (by assumption) ⟨_, _, rfl⟩ (Nat.le_of_ble_eq_true rfl) (Nat.le_of_ble_eq_true rfl) (Nat.le_of_ble_eq_true rfl) (Nat.le_of_ble_eq_true rfl) (k_X2_hasFist hct u3 u4) rfl ?_
    rintro _ _ ⟨rfl, rfl⟩
    refine am_if_eq (tgt := 118) (q := 106) dX2_reading_103 rfl rfl (fun hc => ?_) (fun hc => ?_)
    · refine am_iconst (q := 119) (v := 0) dX2_reading_118 kc_i0 rfl ?_
      exact am_iret dX2_reading_119 rfl rfl ⟨_, rfl, by rw [e6, if_neg (bI_e0.mp hc)], rfl⟩
    · have hc2 := bI_n0.mp hc
      obtain ⟨i, hi, rfl⟩ := k_ix (Int32.not_lt.mpr hc2.1) hc2.2 (by omega)
      have hcl : (nI i).toNatClampNeg = i := nI_clamp (by omega)
      obtain ⟨r1, r2⟩ := hfi i (by omega)
      have hin : vp_in (nI i) (S.ln (c + 10)) := by rw [lfi]; exact vp_in_nI (by omega) (by decide)
      have hR : R (c + 10) (nI i).toNatClampNeg = some (c + 22 + i) := by rw [hcl]; exact r1
      have hv : I (c + 22 + i) 4 = m.fist i 3 := a1 i hi 3 (by decide)
      refine am_aload_n (q := 107) dX2_reading_106 rfl rfl ?_
      refine cm_getR (q := 110) dX2_reading_107 flX2_40 rfl (by assumption) (by assumption) rfl ?_
      refine am_iload_n (q := 111) dX2_reading_110 rfl rfl ?_
      refine cm_aaloadK (q := 112) dX2_reading_111 (by assumption) (by decide) hin hR rfl ?_
      refine cm_getI (q := 115) dX2_reading_112 flX2_179 rfl (by assumption) rfl ?_
      refine am_goto (tgt := 119) dX2_reading_115 rfl ?_
      exact am_iret dX2_reading_119 rfl rfl ⟨_, rfl, by rw [e6, if_pos hc2, hcl, hv], rfl⟩
  · refine am_iload_n (q := 1) dX2_reading_0 rfl rfl ?_
    refine am_tableIn (tgt := 120) dX2_reading_1 (by decide) (by decide) rfl rfl ?_
    refine am_aload_n (q := 121) dX2_reading_120 rfl rfl ?_
    refine am_iload_n (q := 122) dX2_reading_121 rfl rfl ?_
    refine cm_call0 (q := 125) (As := [_]) hG dX2_reading_122 mlX2_135 rfl (by assumption) ⟨_, _, rfl⟩ (Nat.le_of_ble_eq_true rfl) (Nat.le_of_ble_eq_true rfl) (Nat.le_of_ble_eq_true rfl) (Nat.le_of_ble_eq_true rfl) (k_X2_hasRail hct u1 u2) rfl ?_
    rintro _ _ ⟨rfl, rfl⟩
    refine am_if_eq (tgt := 140) (q := 128) dX2_reading_125 rfl rfl (fun hc => ?_) (fun hc => ?_)
    · refine am_iconst (q := 141) (v := 0) dX2_reading_140 kc_i0 rfl ?_
      exact am_iret dX2_reading_141 rfl rfl ⟨_, rfl, by rw [e7, if_neg (bI_e0.mp hc)], rfl⟩
    · have hc2 := bI_n0.mp hc
      obtain ⟨i, hi, rfl⟩ := k_ix (Int32.not_lt.mpr hc2.1) hc2.2 (by omega)
      have hcl : (nI i).toNatClampNeg = i := nI_clamp (by omega)
      obtain ⟨r1, r2, r3, r4, r5⟩ := hr i (by omega)
      have hin : vp_in (nI i) (S.ln (c + 9)) := by rw [lr]; exact vp_in_nI (by omega) (by decide)
      have hR : R (c + 9) (nI i).toNatClampNeg = some (c + 14 + 2 * i) := by rw [hcl]; exact r1
      have hv : I (c + 14 + 2 * i) 5 = m.rail i 3 := a2 i hi 3 (by decide)
      refine am_aload_n (q := 129) dX2_reading_128 rfl rfl ?_
      refine cm_getR (q := 132) dX2_reading_129 flX2_34 rfl (by assumption) (by assumption) rfl ?_
      refine am_iload_n (q := 133) dX2_reading_132 rfl rfl ?_
      refine cm_aaloadK (q := 134) dX2_reading_133 (by assumption) (by decide) hin hR rfl ?_
      refine cm_getI (q := 137) dX2_reading_134 flX2_163 rfl (by assumption) rfl ?_
      refine am_goto (tgt := 141) dX2_reading_137 rfl ?_
      exact am_iret dX2_reading_141 rfl rfl ⟨_, rfl, by rw [e7, if_pos hc2, hcl, hv], rfl⟩
  · refine am_iload_n (q := 1) dX2_reading_0 rfl rfl ?_
    refine am_tableIn (tgt := 142) dX2_reading_1 (by decide) (by decide) rfl rfl ?_
    refine am_aload_n (q := 143) dX2_reading_142 rfl rfl ?_
    refine am_iload_n (q := 144) dX2_reading_143 rfl rfl ?_
    refine cm_call0 (q := 147) (As := [_]) hG dX2_reading_144 mlX2_192 rfl (by assumption) ⟨_, _, rfl⟩ (Nat.le_of_ble_eq_true rfl) (Nat.le_of_ble_eq_true rfl) (Nat.le_of_ble_eq_true rfl) (Nat.le_of_ble_eq_true rfl) (k_X2_hasPrize hct u5 u6) rfl ?_
    rintro _ _ ⟨rfl, rfl⟩
    refine am_if_eq (tgt := 162) (q := 150) dX2_reading_147 rfl rfl (fun hc => ?_) (fun hc => ?_)
    · refine am_iconst (q := 163) (v := 0) dX2_reading_162 kc_i0 rfl ?_
      exact am_iret dX2_reading_163 rfl rfl ⟨_, rfl, by rw [e8, if_neg (bI_e0.mp hc)], rfl⟩
    · have hc2 := bI_n0.mp hc
      obtain ⟨i, hi, rfl⟩ := k_ix (Int32.not_lt.mpr hc2.1) hc2.2 (by omega)
      have hcl : (nI i).toNatClampNeg = i := nI_clamp (by omega)
      obtain ⟨r1, r2⟩ := hpz i (by omega)
      have hin : vp_in (nI i) (S.ln (c + 11)) := by rw [lp]; exact vp_in_nI (by omega) (by decide)
      have hR : R (c + 11) (nI i).toNatClampNeg = some (c + 30 + i) := by rw [hcl]; exact r1
      have hv : I (c + 30 + i) 1 = m.prize i 0 := a3 i hi 0 (by decide)
      refine am_aload_n (q := 151) dX2_reading_150 rfl rfl ?_
      refine cm_getR (q := 154) dX2_reading_151 flX2_46 rfl (by assumption) (by assumption) rfl ?_
      refine am_iload_n (q := 155) dX2_reading_154 rfl rfl ?_
      refine cm_aaloadK (q := 156) dX2_reading_155 (by assumption) (by decide) hin hR rfl ?_
      refine cm_getI (q := 159) dX2_reading_156 flX2_195 rfl (by assumption) rfl ?_
      refine am_goto (tgt := 163) dX2_reading_159 rfl ?_
      exact am_iret dX2_reading_163 rfl rfl ⟨_, rfl, by rw [e8, if_pos hc2, hcl, hv], rfl⟩
  · refine am_iload_n (q := 1) dX2_reading_0 rfl rfl ?_
    refine am_tableIn (tgt := 63) dX2_reading_1 (by decide) (by decide) rfl rfl ?_
    refine am_aload_n (q := 64) dX2_reading_63 rfl rfl ?_
    refine cm_getI (q := 67) dX2_reading_64 flX2_90 rfl (by assumption) rfl ?_
    rw [g2]
    refine am_if_le (tgt := 74) (q := 70) dX2_reading_67 rfl rfl (fun hc => ?_) (fun hc => ?_)
    · refine am_iconst (q := 75) (v := 0) dX2_reading_74 kc_i0 rfl ?_
      exact am_iret dX2_reading_75 rfl rfl ⟨_, rfl, by rw [e4, bI_f (Int32.not_lt.mpr hc)], rfl⟩
    · refine am_iconst (q := 71) (v := 1) dX2_reading_70 kc_i1 rfl ?_
      refine am_goto (tgt := 75) dX2_reading_71 rfl ?_
      exact am_iret dX2_reading_75 rfl rfl ⟨_, rfl, by rw [e4, bI_t (Int32.not_le.mp hc)], rfl⟩
end ReadM
end
section
/-! what a change of one cell is to the mathematical contest -/
theorem AbB.cg {c : Nat} {I I1 : Nat → Nat → Int32} {B : BS} (h : AbB I c B) (q : ∀ x j, (x = c ∧ 8 ≤ j ∧ j ≤ 12) ∨ (x = c + 1 ∧ j = 4) ∨ x = c + 2 ∨ x = c + 3 ∨ (∃ i, i < 4 ∧ x = c + 15 + 2 * i) ∨ c + 38 ≤ x ∨ (c + 30 ≤ x ∧ x < c + 38 ∧ 3 ≤ j) → I1 x j = I x j) : AbB I1 c B := by
  obtain ⟨⟨a1, a2⟩, ⟨a3, a4⟩, ⟨a5, a6⟩, ⟨a7, a8⟩, b1, b2, z, b3, b4, b5, b6⟩ := h
  have q2 : I1 (c + 2) = I (c + 2) := funext fun j => q _ _ (by omega)
  have q3 : I1 (c + 3) = I (c + 3) := funext fun j => q _ _ (by omega)
  have qs : ∀ p r s, SegC I c p r s → SegC I1 c p r s := by
    intro p r s hs rd
    rw [q2, q3]
    exact hs rd
  refine ⟨⟨?_, a2⟩, ⟨?_, a4⟩, ⟨?_, a6⟩, ⟨?_, a8⟩, ?_, ?_, z, ?_, b4, ?_, ?_⟩
  · rw [q _ _ (by omega)]; exact a1
  · rw [q _ _ (by omega)]; exact a3
  · rw [q _ _ (by omega)]; exact a5
  · rw [q _ _ (by omega)]; exact a7
  · intro i hi p hp
    rw [q _ _ (Or.inr (Or.inr (Or.inr (Or.inr (Or.inl ⟨i, by omega, rfl⟩)))))]
    exact b1 i hi p hp
  · intro i hi
    rw [q _ _ (by omega), q _ _ (by omega)]
    exact b2 i hi
  · rw [q _ _ (by omega)]; exact b3
  · intro i hi
    obtain ⟨p, r, e1, e2, e3, e4, e5⟩ := b5 i hi
    refine ⟨p, r, ?_, ?_, e3, e4, ?_⟩
    · rw [q _ _ (by omega)]; exact e1
    · rw [q _ _ (by omega)]; exact e2
    · cases hh : B.tt i with
      | none => rw [hh] at e5; exact e5
      | some s => rw [hh] at e5; exact ⟨e5.1, qs _ _ _ e5.2⟩
  · intro i hi
    obtain ⟨p, r, t, e1, e2, e3, e4, e5, e6, e7, e8⟩ := b6 i hi
    refine ⟨p, r, t, ?_, ?_, ?_, e4, e5, e6, qs _ _ _ e7, qs _ _ _ e8⟩
    · rw [q _ _ (by omega)]; exact e1
    · rw [q _ _ (by omega)]; exact e2
    · rw [q _ _ (by omega)]; exact e3
theorem OffC.up {c a j : Nat} {I I1 : Nat → Nat → Int32} {v : Int32} (h : OffC c I I1) (h1 : c ≤ a ∧ a < c + 58) : OffC c I (up2 I1 a j v) := fun x i q => by
  rw [up2_a (by omega)]
  exact h x i q
theorem AbB.up {c a j : Nat} {I : Nat → Nat → Int32} {B : BS} {v : Int32} (h : AbB I c B) (q : ¬ ((a = c ∧ 8 ≤ j ∧ j ≤ 12) ∨ (a = c + 1 ∧ j = 4) ∨ a = c + 2 ∨ a = c + 3 ∨ (∃ i, i < 4 ∧ a = c + 15 + 2 * i) ∨ c + 38 ≤ a ∨ (c + 30 ≤ a ∧ a < c + 38 ∧ 3 ≤ j))) : AbB (up2 I a j v) c B := by
  refine h.cg fun x i hx => ?_
  rw [up2_at, if_neg]
  rintro ⟨rfl, rfl⟩
  exact q hx
theorem AbB.upF {c i j : Nat} {I : Nat → Nat → Int32} {B : BS} {v : Int32} (h : AbB I c B) (hi : i < 8) : AbB (up2 I (c + 22 + i) j v) c B := h.up (by
  rintro (q | q | q | q | ⟨k, hk, q⟩ | q | q) <;> omega)
theorem AbB.upR {c i j : Nat} {I : Nat → Nat → Int32} {B : BS} {v : Int32} (h : AbB I c B) (hi : i < 4) : AbB (up2 I (c + 14 + 2 * i) j v) c B := h.up (by
  rintro (q | q | q | q | ⟨k, hk, q⟩ | q | q) <;> omega)
theorem AbB.upP {c i j : Nat} {I : Nat → Nat → Int32} {B : BS} {v : Int32} (h : AbB I c B) (hi : i < 8) (hj : j < 3) : AbB (up2 I (c + 30 + i) j v) c B := h.up (by
  rintro (q | q | q | q | ⟨k, hk, q⟩ | q | q) <;> omega)
theorem AbB.upG {c j : Nat} {I : Nat → Nat → Int32} {B : BS} {v : Int32} (h : AbB I c B) (hj : 13 ≤ j) : AbB (up2 I c j v) c B := h.up (by
  rintro (q | q | q | q | ⟨k, hk, q⟩ | q | q) <;> omega)
theorem AbB.upW {c j : Nat} {I : Nat → Nat → Int32} {B : BS} {v : Int32} (h : AbB I c B) : AbB (up2 I (c + 13) j v) c B := h.up (by
  rintro (q | q | q | q | ⟨k, hk, q⟩ | q | q) <;> omega)
theorem up1_at {α : Type} {f : Nat → α} {k : Nat} {v : α} (j : Nat) : up1 f k v j = if j = k then v else f j := rfl
theorem sumM_cg {f g : Nat → Int32} {n : Nat} (h : ∀ i, i < n → f i = g i) : sumM f n = sumM g n := by
  induction n with
  | zero => rfl
  | succ n ih => rw [sumM, sumM, ih (fun i hi => h i (by omega)), h n (by omega)]
theorem sumM_up {f g : Nat → Int32} {n k : Nat} {d : Int32} (hk : k < n) (h : ∀ i, i < n → g i = if i = k then f i + d else f i) : sumM g n = sumM f n + d := by
  induction n with
  | zero => exact absurd hk (Nat.not_lt_zero _)
  | succ n ih =>
    rw [sumM, sumM]
    by_cases e : k = n
    · rw [h n (by omega), if_pos e.symm, sumM_cg (g := f) (n := n) (fun i hi => by rw [h i (by omega), if_neg (by omega)]), Int32.add_assoc]
    · rw [ih (by omega) (fun i hi => h i (by omega)), h n (by omega), if_neg (fun q => e q.symm), Int32.add_assoc, Int32.add_assoc, Int32.add_comm d]
section Upd
variable {c i j : Nat} {I : Nat → Nat → Int32} {B : BS} {m : MS} {v : Int32}
theorem AbM.setF (hB : AbB I c B) (h : AbM I c B m) (hi : i < B.nF) (hj : j < 9) (h8 : j = 8 → v = 0 ∨ v = 1) : AbM (up2 I (c + 22 + i) (j + 1) v) c B (mkMS (up2 m.fist i j v) m.rail m.prize m.g m.row m.bd m.nb) := by
  obtain ⟨a1, a2, a3, a4, a5, a6, a7, a8, a9, a10, a11⟩ := h
  obtain ⟨⟨_, u1⟩, ⟨_, u2⟩, ⟨_, u3⟩, ⟨_, u4⟩, _⟩ := hB
  refine ⟨?_, ?_, ?_, ?_, ?_, ?_, ?_, ?_, a9, a10, ?_⟩
  · intro x hx y hy
    show up2 I _ _ _ _ _ = up2 _ _ _ _ _ _
    rw [up2_at, up2_at]
    by_cases e : x = i ∧ y = j
    · rw [if_pos e, if_pos ⟨by omega, by omega⟩]
    · rw [if_neg e, if_neg (fun q => e ⟨by omega, by omega⟩)]
      exact a1 x hx y hy
  · intro x hx y hy
    rw [up2_a (by omega)]; exact a2 x hx y hy
  · intro x hx y hy
    rw [up2_a (by omega)]; exact a3 x hx y hy
  · intro y hy
    rw [up2_a (by omega)]; exact a4 y hy
  · rw [up2_a (by omega)]; exact a5
  · intro k hk
    rw [up2_a (by omega)]; exact a6 k hk
  · intro k hk
    rw [up2_a (by omega)]; exact a7 k hk
  · rw [up2_a (by omega)]; exact a8
  · intro x hx
    rw [up2_at]
    by_cases e : c + 22 + x = c + 22 + i ∧ 9 = j + 1
    · rw [if_pos e]
      exact h8 (by omega)
    · rw [if_neg e]
      exact a11 x hx
theorem AbM.setR (hB : AbB I c B) (h : AbM I c B m) (hi : i < B.nR) (hj : j < 5) (h1 : j ≠ 1) : AbM (up2 I (c + 14 + 2 * i) (j + 2) v) c B (mkMS m.fist (up2 m.rail i j v) m.prize m.g m.row m.bd m.nb) := by
  obtain ⟨a1, a2, a3, a4, a5, a6, a7, a8, a9, a10, a11⟩ := h
  obtain ⟨⟨_, u1⟩, ⟨_, u2⟩, ⟨_, u3⟩, ⟨_, u4⟩, _⟩ := hB
  refine ⟨?_, ?_, ?_, ?_, ?_, ?_, ?_, ?_, a9, ?_, ?_⟩
  · intro x hx y hy
    rw [up2_a (by omega)]; exact a1 x hx y hy
  · intro x hx y hy
    show up2 I _ _ _ _ _ = up2 _ _ _ _ _ _
    rw [up2_at, up2_at]
    by_cases e : x = i ∧ y = j
    · rw [if_pos e, if_pos ⟨by omega, by omega⟩]
    · rw [if_neg e, if_neg (fun q => e ⟨by omega, by omega⟩)]
      exact a2 x hx y hy
  · intro x hx y hy
    rw [up2_a (by omega)]; exact a3 x hx y hy
  · intro y hy
    rw [up2_a (by omega)]; exact a4 y hy
  · rw [up2_a (by omega)]; exact a5
  · intro k hk
    rw [up2_a (by omega)]; exact a6 k hk
  · intro k hk
    rw [up2_a (by omega)]; exact a7 k hk
  · rw [up2_a (by omega)]; exact a8
  · intro x hx
    show 0 < up2 _ _ _ _ _ _
    rw [up2_j (by omega)]
    exact a10 x hx
  · intro x hx
    rw [up2_a (by omega)]; exact a11 x hx
theorem AbM.setG (hB : AbB I c B) (h : AbM I c B m) (hj : j < 5) : AbM (up2 I c (13 + j) v) c B (mkMS m.fist m.rail m.prize (up1 m.g j v) m.row m.bd m.nb) := by
  obtain ⟨a1, a2, a3, a4, a5, a6, a7, a8, a9, a10, a11⟩ := h
  refine ⟨?_, ?_, ?_, ?_, ?_, ?_, ?_, ?_, a9, a10, ?_⟩
  · intro x hx y hy
    rw [up2_a (by omega)]; exact a1 x hx y hy
  · intro x hx y hy
    rw [up2_a (by omega)]; exact a2 x hx y hy
  · intro x hx y hy
    rw [up2_a (by omega)]; exact a3 x hx y hy
  · intro y hy
    show up2 I _ _ _ _ _ = up1 _ _ _ _
    rw [up2_at, up1_at]
    by_cases e : y = j
    · rw [if_pos e, if_pos ⟨rfl, by omega⟩]
    · rw [if_neg e, if_neg (fun q => e (by omega))]
      exact a4 y hy
  · rw [up2_j (by omega)]; exact a5
  · intro k hk
    rw [up2_a (by omega)]; exact a6 k hk
  · intro k hk
    rw [up2_a (by omega)]; exact a7 k hk
  · rw [up2_a (by omega)]; exact a8
  · intro x hx
    rw [up2_a (by omega)]; exact a11 x hx
/-- a prize is given: one less is left, one more is given, by the prize and in all -/
theorem AbM.setP (hB : AbB I c B) (h : AbM I c B m) (hi : i < B.nP) : AbM (up2 (up2 (up2 I (c + 30 + i) 1 (m.prize i 0 - 1)) (c + 30 + i) 2 (m.prize i 1 + 1)) c 18 (gvnM B m + 1)) c B (mkMS m.fist m.rail (up2 (up2 m.prize i 0 (m.prize i 0 - 1)) i 1 (m.prize i 1 + 1)) m.g m.row m.bd m.nb) := by
  obtain ⟨a1, a2, a3, a4, a5, a6, a7, a8, a9, a10, a11⟩ := h
  obtain ⟨⟨_, u1⟩, ⟨_, u2⟩, ⟨_, u3⟩, ⟨_, u4⟩, _⟩ := hB
  refine ⟨?_, ?_, ?_, ?_, ?_, ?_, ?_, ?_, a9, a10, ?_⟩
  · intro x hx y hy
    rw [up2_a (by omega), up2_a (by omega), up2_a (by omega)]; exact a1 x hx y hy
  · intro x hx y hy
    rw [up2_a (by omega), up2_a (by omega), up2_a (by omega)]; exact a2 x hx y hy
  · intro x hx y hy
    rw [up2_a (by omega)]
    show up2 (up2 I _ _ _) _ _ _ _ _ = up2 (up2 _ _ _ _) _ _ _ _ _
    rw [up2_at, up2_at, up2_at, up2_at, a3 x hx y hy]
    have e1 : (c + 30 + x = c + 30 + i ∧ y + 1 = 2) = (x = i ∧ y = 1) := propext ⟨fun q => ⟨by omega, by omega⟩, fun q => ⟨by omega, by omega⟩⟩
    have e2 : (c + 30 + x = c + 30 + i ∧ y + 1 = 1) = (x = i ∧ y = 0) := propext ⟨fun q => ⟨by omega, by omega⟩, fun q => ⟨by omega, by omega⟩⟩
    simp only [e1, e2]
  · intro y hy
    rw [up2_j (by omega), up2_a (by omega), up2_a (by omega)]; exact a4 y hy
  · rw [up2_s]
    refine (sumM_up (f := fun x => m.prize x 1) (k := i) hi ?_).symm
    intro x hx
    show up2 (up2 _ _ _ _) _ _ _ _ _ = _
    rw [up2_at]
    by_cases e : x = i
    · rw [if_pos ⟨e, rfl⟩, if_pos e, e]
    · rw [if_neg (fun q => e q.1), if_neg e, up2_a e]
  · intro k hk
    rw [up2_a (by omega), up2_a (by omega), up2_a (by omega)]; exact a6 k hk
  · intro k hk
    rw [up2_a (by omega), up2_a (by omega), up2_a (by omega)]; exact a7 k hk
  · rw [up2_a (by omega), up2_a (by omega), up2_a (by omega)]; exact a8
  · intro x hx
    rw [up2_a (by omega), up2_a (by omega), up2_a (by omega)]; exact a11 x hx
end Upd
end
section
theorem dX2_allPurses_0 : decode cX2_allPurses 0 = .ok (.iconst 0, 1) := by decide +kernel
theorem dX2_allPurses_1 : decode cX2_allPurses 1 = .ok (.istore_n 1, 1) := by decide +kernel
theorem dX2_allPurses_2 : decode cX2_allPurses 2 = .ok (.iconst 0, 1) := by decide +kernel
theorem dX2_allPurses_3 : decode cX2_allPurses 3 = .ok (.istore_n 2, 1) := by decide +kernel
theorem dX2_allPurses_4 : decode cX2_allPurses 4 = .ok (.iload_n 2, 1) := by decide +kernel
theorem dX2_allPurses_5 : decode cX2_allPurses 5 = .ok (.aload_n 0, 1) := by decide +kernel
theorem dX2_allPurses_6 : decode cX2_allPurses 6 = .ok (.getfield 75, 3) := by decide +kernel
theorem dX2_allPurses_9 : decode cX2_allPurses 9 = .ok (.if_icmp .ge 30, 3) := by decide +kernel
theorem dX2_allPurses_12 : decode cX2_allPurses 12 = .ok (.iload_n 2, 1) := by decide +kernel
theorem dX2_allPurses_13 : decode cX2_allPurses 13 = .ok (.aload_n 0, 1) := by decide +kernel
theorem dX2_allPurses_14 : decode cX2_allPurses 14 = .ok (.getfield 40, 3) := by decide +kernel
theorem dX2_allPurses_17 : decode cX2_allPurses 17 = .ok (.arraylength, 1) := by decide +kernel
theorem dX2_allPurses_18 : decode cX2_allPurses 18 = .ok (.if_icmp .ge 21, 3) := by decide +kernel
theorem dX2_allPurses_21 : decode cX2_allPurses 21 = .ok (.iload_n 1, 1) := by decide +kernel
theorem dX2_allPurses_22 : decode cX2_allPurses 22 = .ok (.aload_n 0, 1) := by decide +kernel
theorem dX2_allPurses_23 : decode cX2_allPurses 23 = .ok (.getfield 40, 3) := by decide +kernel
theorem dX2_allPurses_26 : decode cX2_allPurses 26 = .ok (.iload_n 2, 1) := by decide +kernel
theorem dX2_allPurses_27 : decode cX2_allPurses 27 = .ok (.aaload, 1) := by decide +kernel
theorem dX2_allPurses_28 : decode cX2_allPurses 28 = .ok (.getfield 182, 3) := by decide +kernel
theorem dX2_allPurses_31 : decode cX2_allPurses 31 = .ok (.iadd, 1) := by decide +kernel
theorem dX2_allPurses_32 : decode cX2_allPurses 32 = .ok (.istore_n 1, 1) := by decide +kernel
theorem dX2_allPurses_33 : decode cX2_allPurses 33 = .ok (.iinc 2 1, 3) := by decide +kernel
theorem dX2_allPurses_36 : decode cX2_allPurses 36 = .ok (.goto (-32), 3) := by decide +kernel
theorem dX2_allPurses_39 : decode cX2_allPurses 39 = .ok (.iload_n 1, 1) := by decide +kernel
theorem dX2_allPurses_40 : decode cX2_allPurses 40 = .ok (.ireturn, 1) := by decide +kernel
theorem dX2_isDue_0 : decode cX2_isDue 0 = .ok (.aload_n 1, 1) := by decide +kernel
theorem dX2_isDue_1 : decode cX2_isDue 1 = .ok (.getfield 228, 3) := by decide +kernel
theorem dX2_isDue_4 : decode cX2_isDue 4 = .ok (.aload_n 1, 1) := by decide +kernel
theorem dX2_isDue_5 : decode cX2_isDue 5 = .ok (.getfield 229, 3) := by decide +kernel
theorem dX2_isDue_8 : decode cX2_isDue 8 = .ok (.if_icmp .eq 22, 3) := by decide +kernel
theorem dX2_isDue_11 : decode cX2_isDue 11 = .ok (.aload_n 0, 1) := by decide +kernel
theorem dX2_isDue_12 : decode cX2_isDue 12 = .ok (.getfield 12, 3) := by decide +kernel
theorem dX2_isDue_15 : decode cX2_isDue 15 = .ok (.aload_n 1, 1) := by decide +kernel
theorem dX2_isDue_16 : decode cX2_isDue 16 = .ok (.getfield 228, 3) := by decide +kernel
theorem dX2_isDue_19 : decode cX2_isDue 19 = .ok (.aload_n 1, 1) := by decide +kernel
theorem dX2_isDue_20 : decode cX2_isDue 20 = .ok (.getfield 229, 3) := by decide +kernel
theorem dX2_isDue_23 : decode cX2_isDue 23 = .ok (.aload_n 0, 1) := by decide +kernel
theorem dX2_isDue_24 : decode cX2_isDue 24 = .ok (.invokevirtual 205, 3) := by decide +kernel
theorem dX2_isDue_27 : decode cX2_isDue 27 = .ok (.ifCond .eq 7, 3) := by decide +kernel
theorem dX2_isDue_30 : decode cX2_isDue 30 = .ok (.iconst 1, 1) := by decide +kernel
theorem dX2_isDue_31 : decode cX2_isDue 31 = .ok (.goto 4, 3) := by decide +kernel
theorem dX2_isDue_34 : decode cX2_isDue 34 = .ok (.iconst 0, 1) := by decide +kernel
theorem dX2_isDue_35 : decode cX2_isDue 35 = .ok (.ireturn, 1) := by decide +kernel
theorem dX2_placeInRow_0 : decode cX2_placeInRow 0 = .ok (.iconst 0, 1) := by decide +kernel
theorem dX2_placeInRow_1 : decode cX2_placeInRow 1 = .ok (.istore_n 2, 1) := by decide +kernel
theorem dX2_placeInRow_2 : decode cX2_placeInRow 2 = .ok (.iconst 0, 1) := by decide +kernel
theorem dX2_placeInRow_3 : decode cX2_placeInRow 3 = .ok (.istore_n 3, 1) := by decide +kernel
theorem dX2_placeInRow_4 : decode cX2_placeInRow 4 = .ok (.iload_n 3, 1) := by decide +kernel
theorem dX2_placeInRow_5 : decode cX2_placeInRow 5 = .ok (.aload_n 0, 1) := by decide +kernel
theorem dX2_placeInRow_6 : decode cX2_placeInRow 6 = .ok (.getfield 81, 3) := by decide +kernel
theorem dX2_placeInRow_9 : decode cX2_placeInRow 9 = .ok (.if_icmp .ge 30, 3) := by decide +kernel
theorem dX2_placeInRow_12 : decode cX2_placeInRow 12 = .ok (.iload_n 3, 1) := by decide +kernel
theorem dX2_placeInRow_13 : decode cX2_placeInRow 13 = .ok (.aload_n 0, 1) := by decide +kernel
theorem dX2_placeInRow_14 : decode cX2_placeInRow 14 = .ok (.getfield 56, 3) := by decide +kernel
theorem dX2_placeInRow_17 : decode cX2_placeInRow 17 = .ok (.arraylength, 1) := by decide +kernel
theorem dX2_placeInRow_18 : decode cX2_placeInRow 18 = .ok (.if_icmp .ge 21, 3) := by decide +kernel
theorem dX2_placeInRow_21 : decode cX2_placeInRow 21 = .ok (.aload_n 0, 1) := by decide +kernel
theorem dX2_placeInRow_22 : decode cX2_placeInRow 22 = .ok (.getfield 56, 3) := by decide +kernel
theorem dX2_placeInRow_25 : decode cX2_placeInRow 25 = .ok (.iload_n 3, 1) := by decide +kernel
theorem dX2_placeInRow_26 : decode cX2_placeInRow 26 = .ok (.iaload, 1) := by decide +kernel
theorem dX2_placeInRow_27 : decode cX2_placeInRow 27 = .ok (.iload_n 1, 1) := by decide +kernel
theorem dX2_placeInRow_28 : decode cX2_placeInRow 28 = .ok (.if_icmp .ne 5, 3) := by decide +kernel
theorem dX2_placeInRow_31 : decode cX2_placeInRow 31 = .ok (.iload_n 3, 1) := by decide +kernel
theorem dX2_placeInRow_32 : decode cX2_placeInRow 32 = .ok (.istore_n 2, 1) := by decide +kernel
theorem dX2_placeInRow_33 : decode cX2_placeInRow 33 = .ok (.iinc 3 1, 3) := by decide +kernel
theorem dX2_placeInRow_36 : decode cX2_placeInRow 36 = .ok (.goto (-32), 3) := by decide +kernel
theorem dX2_placeInRow_39 : decode cX2_placeInRow 39 = .ok (.iload_n 2, 1) := by decide +kernel
theorem dX2_placeInRow_40 : decode cX2_placeInRow 40 = .ok (.ireturn, 1) := by decide +kernel
theorem dX2_placeOfPurse_0 : decode cX2_placeOfPurse 0 = .ok (.iconst 1, 1) := by decide +kernel
theorem dX2_placeOfPurse_1 : decode cX2_placeOfPurse 1 = .ok (.istore_n 2, 1) := by decide +kernel
theorem dX2_placeOfPurse_2 : decode cX2_placeOfPurse 2 = .ok (.iconst 0, 1) := by decide +kernel
theorem dX2_placeOfPurse_3 : decode cX2_placeOfPurse 3 = .ok (.istore_n 3, 1) := by decide +kernel
theorem dX2_placeOfPurse_4 : decode cX2_placeOfPurse 4 = .ok (.iload_n 3, 1) := by decide +kernel
theorem dX2_placeOfPurse_5 : decode cX2_placeOfPurse 5 = .ok (.aload_n 0, 1) := by decide +kernel
theorem dX2_placeOfPurse_6 : decode cX2_placeOfPurse 6 = .ok (.getfield 75, 3) := by decide +kernel
theorem dX2_placeOfPurse_9 : decode cX2_placeOfPurse 9 = .ok (.if_icmp .ge 34, 3) := by decide +kernel
theorem dX2_placeOfPurse_12 : decode cX2_placeOfPurse 12 = .ok (.iload_n 3, 1) := by decide +kernel
theorem dX2_placeOfPurse_13 : decode cX2_placeOfPurse 13 = .ok (.aload_n 0, 1) := by decide +kernel
theorem dX2_placeOfPurse_14 : decode cX2_placeOfPurse 14 = .ok (.getfield 40, 3) := by decide +kernel
theorem dX2_placeOfPurse_17 : decode cX2_placeOfPurse 17 = .ok (.arraylength, 1) := by decide +kernel
theorem dX2_placeOfPurse_18 : decode cX2_placeOfPurse 18 = .ok (.if_icmp .ge 25, 3) := by decide +kernel
theorem dX2_placeOfPurse_21 : decode cX2_placeOfPurse 21 = .ok (.aload_n 0, 1) := by decide +kernel
theorem dX2_placeOfPurse_22 : decode cX2_placeOfPurse 22 = .ok (.getfield 40, 3) := by decide +kernel
theorem dX2_placeOfPurse_25 : decode cX2_placeOfPurse 25 = .ok (.iload_n 3, 1) := by decide +kernel
theorem dX2_placeOfPurse_26 : decode cX2_placeOfPurse 26 = .ok (.aaload, 1) := by decide +kernel
theorem dX2_placeOfPurse_27 : decode cX2_placeOfPurse 27 = .ok (.getfield 182, 3) := by decide +kernel
theorem dX2_placeOfPurse_30 : decode cX2_placeOfPurse 30 = .ok (.iload_n 1, 1) := by decide +kernel
theorem dX2_placeOfPurse_31 : decode cX2_placeOfPurse 31 = .ok (.if_icmp .le 6, 3) := by decide +kernel
theorem dX2_placeOfPurse_34 : decode cX2_placeOfPurse 34 = .ok (.iinc 2 1, 3) := by decide +kernel
theorem dX2_placeOfPurse_37 : decode cX2_placeOfPurse 37 = .ok (.iinc 3 1, 3) := by decide +kernel
theorem dX2_placeOfPurse_40 : decode cX2_placeOfPurse 40 = .ok (.goto (-36), 3) := by decide +kernel
theorem dX2_placeOfPurse_43 : decode cX2_placeOfPurse 43 = .ok (.iload_n 2, 1) := by decide +kernel
theorem dX2_placeOfPurse_44 : decode cX2_placeOfPurse 44 = .ok (.ireturn, 1) := by decide +kernel
/-! sums, places, tests, flights and prizes -/
theorem nI_0' : nI 0 = 0 := rfl
theorem k_nIinj {p q : Nat} (hp : p < 2 ^ 31) (hq : q < 2 ^ 31) (h : nI p = nI q) : p = q := by
  have := congrArg Int32.toNatClampNeg h
  rwa [nI_clamp hp, nI_clamp hq] at this
section Give
variable {G : Gp} {S : AMem} {I : Nat → Nat → Int32} {J : Nat → Nat → Int64} {R : Nat → Nat → Option Nat} {c : Nat} {B : BS} {m : MS}
theorem k_X2_allPurses (hct : CT S R c) (hB : AbB I c B) (hm : AbM I c B m) : Fn G mX2_allPurses 0 [vR c] (mw S I J R) (fun rr M1 => rr = some (vI (pursM B m)) ∧ M1 = mw S I J R) := by
  obtain ⟨kc, rc0, rc1, rc2, rc3, rc4, rc5, rc6, rc7, ⟨kd, rd0, rd1, rd2, kd2, ld2, kd3, ld3, kd4, ld4⟩, ⟨kb, rb, kb6, lb6⟩, ⟨kf, rf, kf8, lf8⟩, ⟨kr, lr, hr⟩, ⟨kfi, lfi, hfi⟩, ⟨kp, lp, hpz⟩, ⟨kt, lt, htu⟩, kw, lw⟩ := id hct
  obtain ⟨_, ⟨u3, u4⟩, _⟩ := hB
  obtain ⟨a1, _⟩ := hm
  refine am_iconst (q := 1) (v := 0) dX2_allPurses_0 kc_i0 rfl ?_
  refine am_istore_n (q := 2) (ls1 := [_, _, _]) dX2_allPurses_1 (Nat.le_of_ble_eq_true rfl) rfl rfl ?_
  refine am_iconst (q := 3) (v := 0) dX2_allPurses_2 kc_i0 rfl ?_
  refine am_istore_n (q := 4) (ls1 := [_, _, _]) dX2_allPurses_3 (Nat.le_of_ble_eq_true rfl) rfl rfl ?_
  refine k_loop (σ := Unit) (n := B.nF) (Inv := fun i _ => True) (W := fun i _ => MW G mX2_allPurses 0 4 [some (vR c), some (vI (sumM (fun i => m.fist i 4) i)), some (vI (nI i))] [] (mw S I J R) _) ?_ ?_ 0 () (Nat.zero_le _) trivial
  · rintro i ⟨⟩ hi _ ih
    obtain ⟨r1, r2⟩ := hfi i (by omega)
    have hin : vp_in (nI i) (S.ln (c + 10)) := by rw [lfi]; exact vp_in_nI (by omega) (by decide)
    have hR : R (c + 10) (nI i).toNatClampNeg = some (c + 22 + i) := by rw [nI_clamp (by omega)]; exact r1
    refine am_iload_n (q := 5) dX2_allPurses_4 rfl rfl ?_
    refine am_aload_n (q := 6) dX2_allPurses_5 rfl rfl ?_
    refine cm_getI (q := 9) dX2_allPurses_6 flX2_75 rfl (by assumption) rfl ?_
    rw [u3]
    refine am_icmp_ge (tgt := 39) (q := 12) dX2_allPurses_9 rfl rfl (fun hz => absurd hz (nI_ge (by omega) (by omega))) (fun _ => ?_)
    refine am_iload_n (q := 13) dX2_allPurses_12 rfl rfl ?_
    refine am_aload_n (q := 14) dX2_allPurses_13 rfl rfl ?_
    refine cm_getR (q := 17) dX2_allPurses_14 flX2_40 rfl (by assumption) (by assumption) rfl ?_
    refine cm_alenK (q := 18) dX2_allPurses_17 (by assumption) (by decide) (by rw [lfi] : nI (S.ln (c + 10)) = nI 8) rfl ?_
    refine am_icmp_ge (tgt := 39) (q := 21) dX2_allPurses_18 rfl rfl (fun hz => absurd hz (nI_ge (by omega) (by decide))) (fun _ => ?_)
    refine am_iload_n (q := 22) dX2_allPurses_21 rfl rfl ?_
    refine am_aload_n (q := 23) dX2_allPurses_22 rfl rfl ?_
    refine cm_getR (q := 26) dX2_allPurses_23 flX2_40 rfl (by assumption) (by assumption) rfl ?_
    refine am_iload_n (q := 27) dX2_allPurses_26 rfl rfl ?_
    refine cm_aaloadK (q := 28) dX2_allPurses_27 (by assumption) (by decide) hin hR rfl ?_
    refine cm_getI (q := 31) dX2_allPurses_28 flX2_182 rfl (by assumption) rfl ?_
    rw [a1 i hi 4 (by decide)]
    refine am_iadd (q := 32) dX2_allPurses_31 rfl ?_
    refine am_istore_n (q := 33) (ls1 := [_, _, _]) dX2_allPurses_32 (Nat.le_of_ble_eq_true rfl) rfl rfl ?_
    refine am_iincW (q := 36) (ls1 := [_, _, _]) (w := 1) dX2_allPurses_33 rfl (Nat.le_of_ble_eq_true rfl) kc_i1 rfl rfl ?_
    refine am_goto (tgt := 4) dX2_allPurses_36 rfl ?_
    rw [nI_1]
    exact ih () trivial
  · rintro ⟨⟩ _
    refine am_iload_n (q := 5) dX2_allPurses_4 rfl rfl ?_
    refine am_aload_n (q := 6) dX2_allPurses_5 rfl rfl ?_
    refine cm_getI (q := 9) dX2_allPurses_6 flX2_75 rfl (by assumption) rfl ?_
    rw [u3]
    refine am_icmp_ge (tgt := 39) (q := 12) dX2_allPurses_9 rfl rfl (fun _ => ?_) (fun hz => absurd (Int32.le_refl _) hz)
    refine am_iload_n (q := 40) dX2_allPurses_39 rfl rfl ?_
    exact am_iret dX2_allPurses_40 rfl rfl ⟨_, rfl, rfl, rfl⟩
theorem k_X2_placeOfPurse {p : Int32} (hct : CT S R c) (hB : AbB I c B) (hm : AbM I c B m) : Fn G mX2_placeOfPurse 0 [vR c, vI p] (mw S I J R) (fun rr M1 => rr = some (vI (plcM B m p)) ∧ M1 = mw S I J R) := by
  obtain ⟨kc, rc0, rc1, rc2, rc3, rc4, rc5, rc6, rc7, ⟨kd, rd0, rd1, rd2, kd2, ld2, kd3, ld3, kd4, ld4⟩, ⟨kb, rb, kb6, lb6⟩, ⟨kf, rf, kf8, lf8⟩, ⟨kr, lr, hr⟩, ⟨kfi, lfi, hfi⟩, ⟨kp, lp, hpz⟩, ⟨kt, lt, htu⟩, kw, lw⟩ := id hct
  obtain ⟨_, ⟨u3, u4⟩, _⟩ := hB
  obtain ⟨a1, _⟩ := hm
  refine am_iconst (q := 1) (v := 1) dX2_placeOfPurse_0 kc_i1 rfl ?_
  refine am_istore_n (q := 2) (ls1 := [_, _, _, _]) dX2_placeOfPurse_1 (Nat.le_of_ble_eq_true rfl) rfl rfl ?_
  refine am_iconst (q := 3) (v := 0) dX2_placeOfPurse_2 kc_i0 rfl ?_
  refine am_istore_n (q := 4) (ls1 := [_, _, _, _]) dX2_placeOfPurse_3 (Nat.le_of_ble_eq_true rfl) rfl rfl ?_
  refine k_loop (σ := Unit) (n := B.nF) (Inv := fun i _ => True) (W := fun i _ => MW G mX2_placeOfPurse 0 4 [some (vR c), some (vI p), some (vI (1 + sumM (fun i => bI (p < m.fist i 4)) i)), some (vI (nI i))] [] (mw S I J R) _) ?_ ?_ 0 () (Nat.zero_le _) trivial
  · rintro i ⟨⟩ hi _ ih
    obtain ⟨r1, r2⟩ := hfi i (by omega)
    have hin : vp_in (nI i) (S.ln (c + 10)) := by rw [lfi]; exact vp_in_nI (by omega) (by decide)
    have hR : R (c + 10) (nI i).toNatClampNeg = some (c + 22 + i) := by rw [nI_clamp (by omega)]; exact r1
    have ih := ih () trivial
    dsimp only [sumM] at ih
    refine am_iload_n (q := 5) dX2_placeOfPurse_4 rfl rfl ?_
    refine am_aload_n (q := 6) dX2_placeOfPurse_5 rfl rfl ?_
    refine cm_getI (q := 9) dX2_placeOfPurse_6 flX2_75 rfl (by assumption) rfl ?_
    rw [u3]
    refine am_icmp_ge (tgt := 43) (q := 12) dX2_placeOfPurse_9 rfl rfl (fun hz => absurd hz (nI_ge (by omega) (by omega))) (fun _ => ?_)
    refine am_iload_n (q := 13) dX2_placeOfPurse_12 rfl rfl ?_
    refine am_aload_n (q := 14) dX2_placeOfPurse_13 rfl rfl ?_
    refine cm_getR (q := 17) dX2_placeOfPurse_14 flX2_40 rfl (by assumption) (by assumption) rfl ?_
    refine cm_alenK (q := 18) dX2_placeOfPurse_17 (by assumption) (by decide) (by rw [lfi] : nI (S.ln (c + 10)) = nI 8) rfl ?_
    refine am_icmp_ge (tgt := 43) (q := 21) dX2_placeOfPurse_18 rfl rfl (fun hz => absurd hz (nI_ge (by omega) (by decide))) (fun _ => ?_)
    refine am_aload_n (q := 22) dX2_placeOfPurse_21 rfl rfl ?_
    refine cm_getR (q := 25) dX2_placeOfPurse_22 flX2_40 rfl (by assumption) (by assumption) rfl ?_
    refine am_iload_n (q := 26) dX2_placeOfPurse_25 rfl rfl ?_
    refine cm_aaloadK (q := 27) dX2_placeOfPurse_26 (by assumption) (by decide) hin hR rfl ?_
    refine cm_getI (q := 30) dX2_placeOfPurse_27 flX2_182 rfl (by assumption) rfl ?_
    rw [a1 i hi 4 (by decide)]
    refine am_iload_n (q := 31) dX2_placeOfPurse_30 rfl rfl ?_
    refine am_icmp_le (tgt := 37) (q := 34) dX2_placeOfPurse_31 rfl rfl (fun hc => ?_) (fun hc => ?_)
    · rw [bI_f (Int32.not_lt.mpr hc), Int32.add_zero] at ih
      refine am_iincW (q := 40) (ls1 := [_, _, _, _]) (w := 1) dX2_placeOfPurse_37 rfl (Nat.le_of_ble_eq_true rfl) kc_i1 rfl rfl ?_
      refine am_goto (tgt := 4) dX2_placeOfPurse_40 rfl ?_
      rw [nI_1]
      exact ih
    · rw [bI_t (Int32.not_le.mp hc), ← Int32.add_assoc] at ih
      refine am_iincW (q := 37) (ls1 := [_, _, _, _]) (w := 1) dX2_placeOfPurse_34 rfl (Nat.le_of_ble_eq_true rfl) kc_i1 rfl rfl ?_
      refine am_iincW (q := 40) (ls1 := [_, _, _, _]) (w := 1) dX2_placeOfPurse_37 rfl (Nat.le_of_ble_eq_true rfl) kc_i1 rfl rfl ?_
      refine am_goto (tgt := 4) dX2_placeOfPurse_40 rfl ?_
      rw [nI_1]
      exact ih
  · rintro ⟨⟩ _
    refine am_iload_n (q := 5) dX2_placeOfPurse_4 rfl rfl ?_
    refine am_aload_n (q := 6) dX2_placeOfPurse_5 rfl rfl ?_
    refine cm_getI (q := 9) dX2_placeOfPurse_6 flX2_75 rfl (by assumption) rfl ?_
    rw [u3]
    refine am_icmp_ge (tgt := 43) (q := 12) dX2_placeOfPurse_9 rfl rfl (fun _ => ?_) (fun hz => absurd (Int32.le_refl _) hz)
    refine am_iload_n (q := 44) dX2_placeOfPurse_43 rfl rfl ?_
    exact am_iret dX2_placeOfPurse_44 rfl rfl ⟨_, rfl, rfl, rfl⟩
/-- the last place of a turn in the row -/
def lstM (m : MS) (t : Int32) : Nat → Int32
  | 0 => 0
  | n + 1 => if nI (m.row n) = t then nI n else lstM m t n
theorem k_X2_placeInRow {t : Int32} (hct : CT S R c) (hB : AbB I c B) (hm : AbM I c B m) : Fn G mX2_placeInRow 0 [vR c, vI t] (mw S I J R) (fun rr M1 => rr = some (vI (lstM m t B.nT)) ∧ M1 = mw S I J R) := by
  obtain ⟨kc, rc0, rc1, rc2, rc3, rc4, rc5, rc6, rc7, ⟨kd, rd0, rd1, rd2, kd2, ld2, kd3, ld3, kd4, ld4⟩, ⟨kb, rb, kb6, lb6⟩, ⟨kf, rf, kf8, lf8⟩, ⟨kr, lr, hr⟩, ⟨kfi, lfi, hfi⟩, ⟨kp, lp, hpz⟩, ⟨kt, lt, htu⟩, kw, lw⟩ := id hct
  obtain ⟨_, _, _, ⟨u3, u4⟩, _⟩ := hB
  obtain ⟨_, _, _, _, _, a1, _⟩ := hm
  refine am_iconst (q := 1) (v := 0) dX2_placeInRow_0 kc_i0 rfl ?_
  refine am_istore_n (q := 2) (ls1 := [_, _, _, _]) dX2_placeInRow_1 (Nat.le_of_ble_eq_true rfl) rfl rfl ?_
  refine am_iconst (q := 3) (v := 0) dX2_placeInRow_2 kc_i0 rfl ?_
  refine am_istore_n (q := 4) (ls1 := [_, _, _, _]) dX2_placeInRow_3 (Nat.le_of_ble_eq_true rfl) rfl rfl ?_
  refine k_loop (σ := Unit) (n := B.nT) (Inv := fun i _ => True) (W := fun i _ => MW G mX2_placeInRow 0 4 [some (vR c), some (vI t), some (vI (lstM m t i)), some (vI (nI i))] [] (mw S I J R) _) ?_ ?_ 0 () (Nat.zero_le _) trivial
  · rintro i ⟨⟩ hi _ ih
    have hin : vp_in (nI i) (S.ln (c + 13)) := by rw [lw]; exact vp_in_nI (by omega) (by decide)
    have ih := ih () trivial
    dsimp only [lstM] at ih
    refine am_iload_n (q := 5) dX2_placeInRow_4 rfl rfl ?_
    refine am_aload_n (q := 6) dX2_placeInRow_5 rfl rfl ?_
    refine cm_getI (q := 9) dX2_placeInRow_6 flX2_81 rfl (by assumption) rfl ?_
    rw [u3]
    refine am_icmp_ge (tgt := 39) (q := 12) dX2_placeInRow_9 rfl rfl (fun hz => absurd hz (nI_ge (by omega) (by omega))) (fun _ => ?_)
    refine am_iload_n (q := 13) dX2_placeInRow_12 rfl rfl ?_
    refine am_aload_n (q := 14) dX2_placeInRow_13 rfl rfl ?_
    refine cm_getR (q := 17) dX2_placeInRow_14 flX2_56 rfl (by assumption) (by assumption) rfl ?_
    refine cm_alenI (q := 18) dX2_placeInRow_17 (by assumption) (by rw [lw] : nI (S.ln (c + 13)) = nI 20) rfl ?_
    refine am_icmp_ge (tgt := 39) (q := 21) dX2_placeInRow_18 rfl rfl (fun hz => absurd hz (nI_ge (by omega) (by decide))) (fun _ => ?_)
    refine am_aload_n (q := 22) dX2_placeInRow_21 rfl rfl ?_
    refine cm_getR (q := 25) dX2_placeInRow_22 flX2_56 rfl (by assumption) (by assumption) rfl ?_
    refine am_iload_n (q := 26) dX2_placeInRow_25 rfl rfl ?_
    refine cm_iaload (q := 27) dX2_placeInRow_26 (by assumption) hin rfl ?_
    rw [nI_clamp (by omega), (a1 i hi).1]
    refine am_iload_n (q := 28) dX2_placeInRow_27 rfl rfl ?_
    refine am_icmp_ne (tgt := 33) (q := 31) dX2_placeInRow_28 rfl rfl (fun hc => ?_) (fun hc => ?_)
    · rw [if_neg hc] at ih
      refine am_iincW (q := 36) (ls1 := [_, _, _, _]) (w := 1) dX2_placeInRow_33 rfl (Nat.le_of_ble_eq_true rfl) kc_i1 rfl rfl ?_
      refine am_goto (tgt := 4) dX2_placeInRow_36 rfl ?_
      rw [nI_1]
      exact ih
    · rw [if_pos hc] at ih
      refine am_iload_n (q := 32) dX2_placeInRow_31 rfl rfl ?_
      refine am_istore_n (q := 33) (ls1 := [_, _, _, _]) dX2_placeInRow_32 (Nat.le_of_ble_eq_true rfl) rfl rfl ?_
      refine am_iincW (q := 36) (ls1 := [_, _, _, _]) (w := 1) dX2_placeInRow_33 rfl (Nat.le_of_ble_eq_true rfl) kc_i1 rfl rfl ?_
      refine am_goto (tgt := 4) dX2_placeInRow_36 rfl ?_
      rw [nI_1]
      exact ih
  · rintro ⟨⟩ _
    refine am_iload_n (q := 5) dX2_placeInRow_4 rfl rfl ?_
    refine am_aload_n (q := 6) dX2_placeInRow_5 rfl rfl ?_
    refine cm_getI (q := 9) dX2_placeInRow_6 flX2_81 rfl (by assumption) rfl ?_
    rw [u3]
    refine am_icmp_ge (tgt := 39) (q := 12) dX2_placeInRow_9 rfl rfl (fun _ => ?_) (fun hz => absurd (Int32.le_refl _) hz)
    refine am_iload_n (q := 40) dX2_placeInRow_39 rfl rfl ?_
    exact am_iret dX2_placeInRow_40 rfl rfl ⟨_, rfl, rfl, rfl⟩
/-- a reckoning of what is told -/
theorem k_rk {p q : Nat} {s : Sem} (hG : okG G) (hct : CT S R c) (hB : AbB I c B) (hm : AbM I c B m) (hpq : p ≤ q) {z : Nat} (hz : I (c + 1) 4 = nI z) (hz4 : z ≤ 400) (hqz : q ≤ z) (hs : SegC I c p q s) : Fn G mX1_reckon 2 [vR (c + 1), vI (nI p), vI (nI q), vR c] (mw S I J R) (fun rr M1 => rr = some (vI (s (rdM B m))) ∧ ∃ I1, M1 = mw S I1 J R ∧ Qt c I I1) := by
  have hct2 := hct
  obtain ⟨kc, rc0, rc1, rc2, rc3, rc4, rc5, rc6, rc7, ⟨kd, rd0, rd1, rd2, kd2, ld2, kd3, ld3, kd4, ld4⟩, ⟨kb, rb, kb6, lb6⟩, ⟨kf, rf, kf8, lf8⟩, ⟨kr, lr, hr⟩, ⟨kfi, lfi, hfi⟩, ⟨kp, lp, hpz⟩, ⟨kt, lt, htu⟩, kw, lw⟩ := id hct2
  have h := k_X1_reckon (G := G) (S := S) (I := I) (J := J) (R := R) (rd := rdM B m) (p := p) (n := q - p) (z := z) hG kd rd2 kd4 ld4 rd0 kd2 ld2 rd1 kd3 ld3 (by omega) (by omega) kc hz (by omega) hz4 (fun I1 k g ho e1 e2 => k_X2_reading hG hct (hB.qt ho.qt) (AbM.qt hB hm ho.qt) e1 e2)
  rw [show p + (q - p) = q by omega] at h
  refine MW.weaken h ?_
  rintro f M1 ⟨r, e1, e2, I1, e3, e4⟩
  exact ⟨r, e1, by rw [e2, hs], I1, e3, e4.qt⟩
theorem k_X2_isDue {t : Nat} (hG : okG G) (hct : CT S R c) (hB : AbB I c B) (hm : AbM I c B m) (ht : t < B.nT) : Fn G mX2_isDue 3 [vR c, vR (c + 38 + t)] (mw S I J R) (fun rr M1 => ∃ v, rr = some (vI v) ∧ (v ≠ 0 ↔ dueM B m t) ∧ ∃ I1, M1 = mw S I1 J R ∧ Qt c I I1) := by
  have hct2 := hct
  obtain ⟨kc, rc0, rc1, rc2, rc3, rc4, rc5, rc6, rc7, ⟨kd, rd0, rd1, rd2, kd2, ld2, kd3, ld3, kd4, ld4⟩, ⟨kb, rb, kb6, lb6⟩, ⟨kf, rf, kf8, lf8⟩, ⟨kr, lr, hr⟩, ⟨kfi, lfi, hfi⟩, ⟨kp, lp, hpz⟩, ⟨kt, lt, htu⟩, kw, lw⟩ := id hct2
  obtain ⟨_, _, _, ⟨_, u4⟩, _, _, z, hz, hz4, htt, _⟩ := id hB
  obtain ⟨p, q, e1, e2, e3, e4, e5⟩ := htt t ht
  obtain ⟨r1, r2⟩ := htu t (by omega)
  unfold dueM
  refine am_aload_n (q := 1) dX2_isDue_0 rfl rfl ?_
  refine cm_getI (q := 4) dX2_isDue_1 flX2_228 rfl (by assumption) rfl ?_
  refine am_aload_n (q := 5) dX2_isDue_4 rfl rfl ?_
  refine cm_getI (q := 8) dX2_isDue_5 flX2_229 rfl (by assumption) rfl ?_
  rw [e1, e2]
  cases hh : B.tt t with
  | none =>
    rw [hh] at e5
    refine am_icmp_eq (tgt := 30) (q := 11) dX2_isDue_8 rfl rfl (fun _ => ?_) (fun hz => absurd (show nI p = nI q from congrArg nI e5) hz)
    refine am_iconst (q := 31) (v := 1) dX2_isDue_30 kc_i1 rfl ?_
    refine am_goto (tgt := 35) dX2_isDue_31 rfl ?_
    exact am_iret dX2_isDue_35 rfl rfl ⟨_, rfl, 1, rfl, ⟨fun _ => trivial, fun _ => by decide⟩, I, rfl, Qt.rf⟩
  | some s =>
    rw [hh] at e5
    obtain ⟨e5, e6⟩ := e5
    refine am_icmp_eq (tgt := 30) (q := 11) dX2_isDue_8 rfl rfl (fun hz => absurd hz (show ¬ nI p = nI q from fun e => absurd (k_nIinj (by omega) (by omega) e) (by omega))) (fun _ => ?_)
    refine am_aload_n (q := 12) dX2_isDue_11 rfl rfl ?_
    refine cm_getR (q := 15) dX2_isDue_12 flX2_12 rfl (by assumption) (by assumption) rfl ?_
    refine am_aload_n (q := 16) dX2_isDue_15 rfl rfl ?_
    refine cm_getI (q := 19) dX2_isDue_16 flX2_228 rfl (by assumption) rfl ?_
    refine am_aload_n (q := 20) dX2_isDue_19 rfl rfl ?_
    refine cm_getI (q := 23) dX2_isDue_20 flX2_229 rfl (by assumption) rfl ?_
    rw [e1, e2]
    refine am_aload_n (q := 24) dX2_isDue_23 rfl rfl ?_
    refine cm_call0 (q := 27) (As := [_, _, _]) hG dX2_isDue_24 mlX2_205 rfl (by assumption) ⟨_, _, rfl⟩ (Nat.le_of_ble_eq_true rfl) (Nat.le_of_ble_eq_true rfl) (Nat.le_of_ble_eq_true rfl) (Nat.le_of_ble_eq_true rfl) (k_rk hG hct hB hm e3 hz hz4 e4 e6) rfl ?_
    rintro _ _ ⟨rfl, I1, rfl, hq⟩
    refine am_if_eq (tgt := 34) (q := 30) dX2_isDue_27 rfl rfl (fun hc => ?_) (fun hc => ?_)
    · refine am_iconst (q := 35) (v := 0) dX2_isDue_34 kc_i0 rfl ?_
      exact am_iret dX2_isDue_35 rfl rfl ⟨_, rfl, 0, rfl, ⟨fun h => absurd rfl h, fun h => absurd hc h⟩, I1, rfl, hq⟩
    · refine am_iconst (q := 31) (v := 1) dX2_isDue_30 kc_i1 rfl ?_
      refine am_goto (tgt := 35) dX2_isDue_31 rfl ?_
      exact am_iret dX2_isDue_35 rfl rfl ⟨_, rfl, 1, rfl, ⟨fun _ => hc, fun _ => by decide⟩, I1, rfl, hq⟩
/-- what the last flight is -/
def FlyM (I : Nat → Nat → Int32) (c : Nat) (s : Nat → Int32 × Int32 × Int32 × Int32 × Nat × Int32) : Prop :=
  I (c + 7) 4 = (s 300).1 ∧ I (c + 7) 5 = (s 300).2.1 ∧ I (c + 7) 1 = (s 300).2.2.1 ∧ I (c + 7) 2 = (s 300).2.2.2.1 ∧ I (c + 7) 3 = nI (s 300).2.2.2.2.1 ∧ I (c + 7) 6 = (s 300).2.2.2.2.2 ∧ ∀ t, 1 ≤ t → t ≤ (s 300).2.2.2.2.1 → I (c + 8) t = (s t).1
theorem k_flyM {f r : Nat} {arm : Int32} (hG : okG G) (hct : CT S R c) (hB : AbB I c B) (hm : AbM I c B m) (hr : r < B.nR) : Fn G mX4_fly 2 [vR (c + 7), vR (c + 14 + 2 * r), vI (fcM m f arm)] (mw S I J R) (fun rr M1 => rr = none ∧ ∃ I1, M1 = mw S I1 J R ∧ Qt c I I1 ∧ FlyM I1 c (flM B m f r arm)) := by
  have hct2 := hct
  have hrr := hr
  obtain ⟨kc, rc0, rc1, rc2, rc3, rc4, rc5, rc6, rc7, ⟨kd, rd0, rd1, rd2, kd2, ld2, kd3, ld3, kd4, ld4⟩, ⟨kb, rb, kb6, lb6⟩, ⟨kf, rf, kf8, lf8⟩, ⟨kr, lr, hr⟩, ⟨kfi, lfi, hfi⟩, ⟨kp, lp, hpz⟩, ⟨kt, lt, htu⟩, kw, lw⟩ := id hct2
  obtain ⟨⟨_, u2⟩, _, _, _, hru, _⟩ := hB
  obtain ⟨a1, a2, a3, a4, a5, a6, a7, a8, a9, a10, a11⟩ := hm
  obtain ⟨r1, r2, r3, r4, r5⟩ := hr r (by omega)
  have e0 : I (c + 14 + 2 * r) 2 = m.rail r 0 := a2 r hrr 0 (by decide)
  have e1 : I (c + 14 + 2 * r) 3 = m.rail r 1 := a2 r hrr 1 (by decide)
  have e2 : I (c + 14 + 2 * r) 4 = m.rail r 2 := a2 r hrr 2 (by decide)
  have eu : ruC I (c + 15 + 2 * r) = ruM B r := by
    funext p
    unfold ruC ruM
    by_cases hp : 0 ≤ p ∧ p < 100
    · rw [if_pos hp, if_pos hp]
      obtain ⟨k, hk, rfl⟩ := k_ix (n := 100) (Int32.not_lt.mpr hp.1) hp.2 (by decide)
      rw [nI_clamp (by omega)]
      exact hru r hrr k hk
    · rw [if_neg hp, if_neg hp]
  have h := k_X4_fly (G := G) (S := S) (I := I) (J := J) (R := R) (f := fcM m f arm) hG kf rf kf8 lf8 r2 r3 r4 r5 (by omega) (by rw [e1]; exact a10 r hrr)
  refine MW.weaken h ?_
  rintro g M1 ⟨rr, h1, h2, I1, h3, h4⟩
  unfold FlyC at h4
  rw [e0, e1, e2, eu] at h4
  obtain ⟨h5, h6⟩ := h4
  refine ⟨rr, h1, h2, I1, h3, fun x j _ _ q1 q2 => h5 x j q1 q2, ?_⟩
  unfold FlyM flM
  exact h6
theorem k_fcM {f : Nat} {arm : Int32} (hct : CT S R c) (hB : AbB I c B) (hm : AbM I c B m) (hf : f < B.nF) : Fn G mX3_forceWithArm 0 [vR (c + 22 + f), vI arm] (mw S I J R) (fun rr M1 => rr = some (vI (fcM m f arm)) ∧ M1 = mw S I J R) := by
  have hct2 := hct
  have hff := hf
  obtain ⟨kc, rc0, rc1, rc2, rc3, rc4, rc5, rc6, rc7, ⟨kd, rd0, rd1, rd2, kd2, ld2, kd3, ld3, kd4, ld4⟩, ⟨kb, rb, kb6, lb6⟩, ⟨kf, rf, kf8, lf8⟩, ⟨kr, lr, hr⟩, ⟨kfi, lfi, hfi⟩, ⟨kp, lp, hpz⟩, ⟨kt, lt, htu⟩, kw, lw⟩ := id hct2
  obtain ⟨_, ⟨_, u2⟩, _⟩ := hB
  obtain ⟨a1, _⟩ := hm
  obtain ⟨r1, r2⟩ := hfi f (by omega)
  have h := k_X3_forceWithArm (G := G) (S := S) (I := I) (J := J) (R := R) (p := arm) r2
  have e1 : I (c + 22 + f) 2 = m.fist f 1 := a1 f hff 1 (by decide)
  have e2 : I (c + 22 + f) 4 = m.fist f 3 := a1 f hff 3 (by decide)
  rw [e1, e2] at h
  exact h
end Give
end
section
theorem dX2_giveTo_0 : decode cX2_giveTo 0 = .ok (.iconst 0, 1) := by decide +kernel
theorem dX2_giveTo_1 : decode cX2_giveTo 1 = .ok (.istore_n 2, 1) := by decide +kernel
theorem dX2_giveTo_2 : decode cX2_giveTo 2 = .ok (.iload_n 2, 1) := by decide +kernel
theorem dX2_giveTo_3 : decode cX2_giveTo 3 = .ok (.aload_n 0, 1) := by decide +kernel
theorem dX2_giveTo_4 : decode cX2_giveTo 4 = .ok (.getfield 78, 3) := by decide +kernel
theorem dX2_giveTo_7 : decode cX2_giveTo 7 = .ok (.if_icmp .ge 107, 3) := by decide +kernel
theorem dX2_giveTo_10 : decode cX2_giveTo 10 = .ok (.iload_n 2, 1) := by decide +kernel
theorem dX2_giveTo_11 : decode cX2_giveTo 11 = .ok (.aload_n 0, 1) := by decide +kernel
theorem dX2_giveTo_12 : decode cX2_giveTo 12 = .ok (.getfield 46, 3) := by decide +kernel
theorem dX2_giveTo_15 : decode cX2_giveTo 15 = .ok (.arraylength, 1) := by decide +kernel
theorem dX2_giveTo_16 : decode cX2_giveTo 16 = .ok (.if_icmp .ge 98, 3) := by decide +kernel
theorem dX2_giveTo_19 : decode cX2_giveTo 19 = .ok (.aload_n 0, 1) := by decide +kernel
theorem dX2_giveTo_20 : decode cX2_giveTo 20 = .ok (.getfield 46, 3) := by decide +kernel
theorem dX2_giveTo_23 : decode cX2_giveTo 23 = .ok (.iload_n 2, 1) := by decide +kernel
theorem dX2_giveTo_24 : decode cX2_giveTo 24 = .ok (.aaload, 1) := by decide +kernel
theorem dX2_giveTo_25 : decode cX2_giveTo 25 = .ok (.astore_n 3, 1) := by decide +kernel
theorem dX2_giveTo_26 : decode cX2_giveTo 26 = .ok (.aload_n 3, 1) := by decide +kernel
theorem dX2_giveTo_27 : decode cX2_giveTo 27 = .ok (.getfield 195, 3) := by decide +kernel
theorem dX2_giveTo_30 : decode cX2_giveTo 30 = .ok (.ifCond .le 78, 3) := by decide +kernel
theorem dX2_giveTo_33 : decode cX2_giveTo 33 = .ok (.aload_n 0, 1) := by decide +kernel
theorem dX2_giveTo_34 : decode cX2_giveTo 34 = .ok (.getfield 12, 3) := by decide +kernel
theorem dX2_giveTo_37 : decode cX2_giveTo 37 = .ok (.aload_n 3, 1) := by decide +kernel
theorem dX2_giveTo_38 : decode cX2_giveTo 38 = .ok (.getfield 202, 3) := by decide +kernel
theorem dX2_giveTo_41 : decode cX2_giveTo 41 = .ok (.aload_n 3, 1) := by decide +kernel
theorem dX2_giveTo_42 : decode cX2_giveTo 42 = .ok (.getfield 209, 3) := by decide +kernel
theorem dX2_giveTo_45 : decode cX2_giveTo 45 = .ok (.aload_n 0, 1) := by decide +kernel
theorem dX2_giveTo_46 : decode cX2_giveTo 46 = .ok (.invokevirtual 205, 3) := by decide +kernel
theorem dX2_giveTo_49 : decode cX2_giveTo 49 = .ok (.ifCond .eq 59, 3) := by decide +kernel
theorem dX2_giveTo_52 : decode cX2_giveTo 52 = .ok (.aload_n 3, 1) := by decide +kernel
theorem dX2_giveTo_53 : decode cX2_giveTo 53 = .ok (.dup, 1) := by decide +kernel
theorem dX2_giveTo_54 : decode cX2_giveTo 54 = .ok (.getfield 195, 3) := by decide +kernel
theorem dX2_giveTo_57 : decode cX2_giveTo 57 = .ok (.iconst 1, 1) := by decide +kernel
theorem dX2_giveTo_58 : decode cX2_giveTo 58 = .ok (.isub, 1) := by decide +kernel
theorem dX2_giveTo_59 : decode cX2_giveTo 59 = .ok (.putfield 195, 3) := by decide +kernel
theorem dX2_giveTo_62 : decode cX2_giveTo 62 = .ok (.aload_n 3, 1) := by decide +kernel
theorem dX2_giveTo_63 : decode cX2_giveTo 63 = .ok (.dup, 1) := by decide +kernel
theorem dX2_giveTo_64 : decode cX2_giveTo 64 = .ok (.getfield 198, 3) := by decide +kernel
theorem dX2_giveTo_67 : decode cX2_giveTo 67 = .ok (.iconst 1, 1) := by decide +kernel
theorem dX2_giveTo_68 : decode cX2_giveTo 68 = .ok (.iadd, 1) := by decide +kernel
theorem dX2_giveTo_69 : decode cX2_giveTo 69 = .ok (.putfield 198, 3) := by decide +kernel
theorem dX2_giveTo_72 : decode cX2_giveTo 72 = .ok (.aload_n 0, 1) := by decide +kernel
theorem dX2_giveTo_73 : decode cX2_giveTo 73 = .ok (.dup, 1) := by decide +kernel
theorem dX2_giveTo_74 : decode cX2_giveTo 74 = .ok (.getfield 99, 3) := by decide +kernel
theorem dX2_giveTo_77 : decode cX2_giveTo 77 = .ok (.iconst 1, 1) := by decide +kernel
theorem dX2_giveTo_78 : decode cX2_giveTo 78 = .ok (.iadd, 1) := by decide +kernel
theorem dX2_giveTo_79 : decode cX2_giveTo 79 = .ok (.putfield 99, 3) := by decide +kernel
theorem dX2_giveTo_82 : decode cX2_giveTo 82 = .ok (.aload_n 1, 1) := by decide +kernel
theorem dX2_giveTo_83 : decode cX2_giveTo 83 = .ok (.dup, 1) := by decide +kernel
theorem dX2_giveTo_84 : decode cX2_giveTo 84 = .ok (.getfield 182, 3) := by decide +kernel
theorem dX2_giveTo_87 : decode cX2_giveTo 87 = .ok (.aload_n 0, 1) := by decide +kernel
theorem dX2_giveTo_88 : decode cX2_giveTo 88 = .ok (.getfield 12, 3) := by decide +kernel
theorem dX2_giveTo_91 : decode cX2_giveTo 91 = .ok (.aload_n 3, 1) := by decide +kernel
theorem dX2_giveTo_92 : decode cX2_giveTo 92 = .ok (.getfield 199, 3) := by decide +kernel
theorem dX2_giveTo_95 : decode cX2_giveTo 95 = .ok (.aload_n 3, 1) := by decide +kernel
theorem dX2_giveTo_96 : decode cX2_giveTo 96 = .ok (.getfield 202, 3) := by decide +kernel
theorem dX2_giveTo_99 : decode cX2_giveTo 99 = .ok (.aload_n 0, 1) := by decide +kernel
theorem dX2_giveTo_100 : decode cX2_giveTo 100 = .ok (.invokevirtual 205, 3) := by decide +kernel
theorem dX2_giveTo_103 : decode cX2_giveTo 103 = .ok (.iadd, 1) := by decide +kernel
theorem dX2_giveTo_104 : decode cX2_giveTo 104 = .ok (.putfield 182, 3) := by decide +kernel
theorem dX2_giveTo_107 : decode cX2_giveTo 107 = .ok (.return_, 1) := by decide +kernel
theorem dX2_giveTo_108 : decode cX2_giveTo 108 = .ok (.iinc 2 1, 3) := by decide +kernel
theorem dX2_giveTo_111 : decode cX2_giveTo 111 = .ok (.goto (-109), 3) := by decide +kernel
theorem dX2_giveTo_114 : decode cX2_giveTo 114 = .ok (.return_, 1) := by decide +kernel
/-! a prize is given -/
section Gift
variable {G : Gp} {S : AMem} {I : Nat → Nat → Int32} {J : Nat → Nat → Int64} {R : Nat → Nat → Option Nat} {c : Nat} {B : BS} {m : MS}
theorem k_X2_giveTo {f : Nat} (hG : okG G) (hct : CT S R c) (hB : AbB I c B) (hm : AbM I c B m) (hf : f < B.nF) : Fn G mX2_giveTo 3 [vR c, vR (c + 22 + f)] (mw S I J R) (fun rr M1 => rr = none ∧ ∃ I1, M1 = mw S I1 J R ∧ AbB I1 c B ∧ AbM I1 c B (givM B m f) ∧ OffC c I I1) := by
  have hct2 := hct
  obtain ⟨kc, rc0, rc1, rc2, rc3, rc4, rc5, rc6, rc7, ⟨kd, rd0, rd1, rd2, kd2, ld2, kd3, ld3, kd4, ld4⟩, ⟨kb, rb, kb6, lb6⟩, ⟨kf, rf, kf8, lf8⟩, ⟨kr, lr, hr⟩, ⟨kfi, lfi, hfi⟩, ⟨kp, lp, hpz⟩, ⟨kt, lt, htu⟩, kw, lw⟩ := id hct2
  have hu := hB
  obtain ⟨_, ⟨_, u4⟩, ⟨u5, u6⟩, _⟩ := hu
  obtain ⟨_, kff⟩ := hfi f (by omega)
  refine am_iconst (q := 1) (v := 0) dX2_giveTo_0 kc_i0 rfl ?_
  refine am_istore_n (q := 2) (ls1 := [_, _, _, _]) dX2_giveTo_1 (Nat.le_of_ble_eq_true rfl) rfl rfl ?_
  refine k_loop (σ := (Nat → Nat → Int32) × Option AV) (n := B.nP) (Inv := fun i s => fpM B m i (B.nP - i) = fpM B m 0 B.nP ∧ AbB s.1 c B ∧ AbM s.1 c B m ∧ OffC c I s.1) (W := fun i s => MW G mX2_giveTo 3 2 [some (vR c), some (vR (c + 22 + f)), some (vI (nI i)), s.2] [] (mw S s.1 J R) _) ?_ ?_ 0 (I, none) (Nat.zero_le _) ⟨rfl, hB, hm, OffC.rf⟩
  · rintro i ⟨I0, x3⟩ hi ⟨hinv, hB0, hm0, hO0⟩ ih
    dsimp only at hinv hB0 hm0 hO0 ih ⊢
    have u7 : I0 c 11 = nI B.nP := hB0.2.2.1.1
    obtain ⟨r1, r2⟩ := hpz i (by omega)
    have hin : vp_in (nI i) (S.ln (c + 11)) := by rw [lp]; exact vp_in_nI (by omega) (by decide)
    have hR : R (c + 11) (nI i).toNatClampNeg = some (c + 30 + i) := by rw [nI_clamp (by omega)]; exact r1
    have e1 : I0 (c + 30 + i) 1 = m.prize i 0 := hm0.2.2.1 i hi 0 (by decide)
    rw [show B.nP - i = (B.nP - (i + 1)) + 1 by omega, fpM] at hinv
    have nxt : ∀ (I1 : Nat → Nat → Int32) (y3 : Option AV), ¬ (0 < m.prize i 0 ∧ B.te i (rdM B m) ≠ 0) → Qt c I0 I1 → MW G mX2_giveTo 3 108 [some (vR c), some (vR (c + 22 + f)), some (vI (nI i)), y3] [] (mw S I1 J R) (fun f_1 M1 => ∃ r, f_1 = .inl r ∧ (r = none ∧ ∃ I1, M1 = mw S I1 J R ∧ AbB I1 c B ∧ AbM I1 c B (givM B m f) ∧ OffC c I I1)) := by
      intro I1 y3 hno hq
      rw [if_neg hno] at hinv
      refine am_iincW (q := 111) (ls1 := [_, _, _, _]) (w := 1) dX2_giveTo_108 rfl (Nat.le_of_ble_eq_true rfl) kc_i1 rfl rfl ?_
      refine am_goto (tgt := 2) dX2_giveTo_111 rfl ?_
      rw [nI_1]
      exact ih (I1, y3) ⟨hinv, hB0.qt hq, AbM.qt hB0 hm0 hq, hO0.tr hq.off⟩
    refine am_iload_n (q := 3) dX2_giveTo_2 rfl rfl ?_
    refine am_aload_n (q := 4) dX2_giveTo_3 rfl rfl ?_
    refine cm_getI (q := 7) dX2_giveTo_4 flX2_78 rfl (by assumption) rfl ?_
    rw [u7]
    refine am_icmp_ge (tgt := 114) (q := 10) dX2_giveTo_7 rfl rfl (fun hz => absurd hz (nI_ge (by omega) (by omega))) (fun _ => ?_)
    refine am_iload_n (q := 11) dX2_giveTo_10 rfl rfl ?_
    refine am_aload_n (q := 12) dX2_giveTo_11 rfl rfl ?_
    refine cm_getR (q := 15) dX2_giveTo_12 flX2_46 rfl (by assumption) (by assumption) rfl ?_
    refine cm_alenK (q := 16) dX2_giveTo_15 (by assumption) (by decide) (by rw [lp] : nI (S.ln (c + 11)) = nI 8) rfl ?_
    refine am_icmp_ge (tgt := 114) (q := 19) dX2_giveTo_16 rfl rfl (fun hz => absurd hz (nI_ge (by omega) (by decide))) (fun _ => ?_)
    refine am_aload_n (q := 20) dX2_giveTo_19 rfl rfl ?_
    refine cm_getR (q := 23) dX2_giveTo_20 flX2_46 rfl (by assumption) (by assumption) rfl ?_
    refine am_iload_n (q := 24) dX2_giveTo_23 rfl rfl ?_
    refine cm_aaloadK (q := 25) dX2_giveTo_24 (by assumption) (by decide) hin hR rfl ?_
    refine am_astore_n (q := 26) (ls1 := [_, _, _, _]) dX2_giveTo_25 (Nat.le_of_ble_eq_true rfl) rfl rfl ?_
    refine am_aload_n (q := 27) dX2_giveTo_26 rfl rfl ?_
    refine cm_getI (q := 30) dX2_giveTo_27 flX2_195 rfl (by assumption) rfl ?_
    rw [e1]
    refine am_if_le (tgt := 108) (q := 33) dX2_giveTo_30 rfl rfl (fun hc1 => ?_) (fun hc1 => ?_)
    · exact nxt I0 _ (fun q => Int32.not_lt.mpr hc1 q.1) Qt.rf
    · obtain ⟨_, _, _, _, _, _, z, hz, hz4, _, hpp⟩ := id hB0
      obtain ⟨p, q, t, w1, w2, w3, w4, w5, w6, w7, w8⟩ := hpp i hi
      refine am_aload_n (q := 34) dX2_giveTo_33 rfl rfl ?_
      refine cm_getR (q := 37) dX2_giveTo_34 flX2_12 rfl (by assumption) (by assumption) rfl ?_
      refine am_aload_n (q := 38) dX2_giveTo_37 rfl rfl ?_
      refine cm_getI (q := 41) dX2_giveTo_38 flX2_202 rfl (by assumption) rfl ?_
      refine am_aload_n (q := 42) dX2_giveTo_41 rfl rfl ?_
      refine cm_getI (q := 45) dX2_giveTo_42 flX2_209 rfl (by assumption) rfl ?_
      refine am_aload_n (q := 46) dX2_giveTo_45 rfl rfl ?_
      rw [w2, w3]
      refine cm_call0 (q := 49) (As := [_, _, _]) hG dX2_giveTo_46 mlX2_205 rfl (by assumption) ⟨_, _, rfl⟩ (Nat.le_of_ble_eq_true rfl) (Nat.le_of_ble_eq_true rfl) (Nat.le_of_ble_eq_true rfl) (Nat.le_of_ble_eq_true rfl) (k_rk hG hct hB0 hm0 w5 hz hz4 w6 w8) rfl ?_
      rintro _ _ ⟨rfl, I1, rfl, hq1⟩
      refine am_if_eq (tgt := 108) (q := 52) dX2_giveTo_49 rfl rfl (fun hc2 => ?_) (fun hc2 => ?_)
      · exact nxt I1 _ (fun q => q.2 hc2) hq1
      · have hB1 := hB0.qt hq1
        have hm1 := AbM.qt hB0 hm0 hq1
        have hO1 := hO0.tr hq1.off
        have hfp : fpM B m 0 B.nP = some i := by
          rw [← hinv]
          exact if_pos ⟨Int32.not_le.mp hc1, hc2⟩
        have d1 : I1 (c + 30 + i) 1 = m.prize i 0 := hm1.2.2.1 i hi 0 (by decide)
        have d2 : I1 (c + 30 + i) 2 = m.prize i 1 := hm1.2.2.1 i hi 1 (by decide)
        have d3 : I1 c 18 = gvnM B m := hm1.2.2.2.2.1
        refine am_aload_n (q := 53) dX2_giveTo_52 rfl rfl ?_
        refine am_dup (q := 54) dX2_giveTo_53 rfl rfl ?_
        refine cm_getI (q := 57) dX2_giveTo_54 flX2_195 rfl (by assumption) rfl ?_
        refine am_iconst (q := 58) (v := 1) dX2_giveTo_57 kc_i1 rfl ?_
        rw [d1]
        refine am_isub (q := 59) dX2_giveTo_58 rfl ?_
        refine cm_putI (q := 62) dX2_giveTo_59 flX2_195 rfl (Or.inl rfl) (Or.inl rfl) (by assumption) rfl ?_
        refine am_aload_n (q := 63) dX2_giveTo_62 rfl rfl ?_
        refine am_dup (q := 64) dX2_giveTo_63 rfl rfl ?_
        refine cm_getI (q := 67) dX2_giveTo_64 flX2_198 rfl (by assumption) rfl ?_
        rw [up2_j (by decide), d2]
        refine am_iconst (q := 68) (v := 1) dX2_giveTo_67 kc_i1 rfl ?_
        refine am_iadd (q := 69) dX2_giveTo_68 rfl ?_
        refine cm_putI (q := 72) dX2_giveTo_69 flX2_198 rfl (Or.inl rfl) (Or.inl rfl) (by assumption) rfl ?_
        refine am_aload_n (q := 73) dX2_giveTo_72 rfl rfl ?_
        refine am_dup (q := 74) dX2_giveTo_73 rfl rfl ?_
        refine cm_getI (q := 77) dX2_giveTo_74 flX2_99 rfl (by assumption) rfl ?_
        rw [up2_a (by omega), up2_a (by omega), d3]
        refine am_iconst (q := 78) (v := 1) dX2_giveTo_77 kc_i1 rfl ?_
        refine am_iadd (q := 79) dX2_giveTo_78 rfl ?_
        refine cm_putI (q := 82) dX2_giveTo_79 flX2_99 rfl (Or.inl rfl) (Or.inl rfl) (by assumption) rfl ?_
        have hB2 := ((hB1.upP (i := i) (j := 1) (v := m.prize i 0 - 1) (by omega) (by decide)).upP (i := i) (j := 2) (v := m.prize i 1 + 1) (by omega) (by decide)).upG (j := 18) (v := gvnM B m + 1) (by decide)
        have hm2 := AbM.setP hB1 hm1 hi
        have hO2 := ((hO1.up (a := c + 30 + i) (j := 1) (v := m.prize i 0 - 1) (by omega)).up (a := c + 30 + i) (j := 2) (v := m.prize i 1 + 1) (by omega)).up (a := c) (j := 18) (v := gvnM B m + 1) (by omega)
        generalize up2 (up2 (up2 I1 (c + 30 + i) 1 (m.prize i 0 - 1)) (c + 30 + i) 2 (m.prize i 1 + 1)) c 18 (gvnM B m + 1) = I2 at hB2 hm2 hO2 ⊢
        generalize hm1e : mkMS m.fist m.rail (up2 (up2 m.prize i 0 (m.prize i 0 - 1)) i 1 (m.prize i 1 + 1)) m.g m.row m.bd m.nb = m1 at hm2
        have hgv : givM B m f = mkMS (up2 m1.fist f 4 (m1.fist f 4 + B.wo i (rdM B m1))) m1.rail m1.prize m1.g m1.row m1.bd m1.nb := by
          unfold givM
          rw [hfp, ← hm1e]
        obtain ⟨_, _, _, _, _, _, z2, hz2, hz42, _, hpp2⟩ := id hB2
        obtain ⟨p2, q2, t2, y1, y2, y3, y4, y5, y6, y7, y8⟩ := hpp2 i hi
        have d4 : I2 (c + 22 + f) 5 = m1.fist f 4 := hm2.1 f hf 4 (by decide)
        refine am_aload_n (q := 83) dX2_giveTo_82 rfl rfl ?_
        refine am_dup (q := 84) dX2_giveTo_83 rfl rfl ?_
        refine cm_getI (q := 87) dX2_giveTo_84 flX2_182 rfl (by assumption) rfl ?_
        refine am_aload_n (q := 88) dX2_giveTo_87 rfl rfl ?_
        refine cm_getR (q := 91) dX2_giveTo_88 flX2_12 rfl (by assumption) (by assumption) rfl ?_
        refine am_aload_n (q := 92) dX2_giveTo_91 rfl rfl ?_
        refine cm_getI (q := 95) dX2_giveTo_92 flX2_199 rfl (by assumption) rfl ?_
        refine am_aload_n (q := 96) dX2_giveTo_95 rfl rfl ?_
        refine cm_getI (q := 99) dX2_giveTo_96 flX2_202 rfl (by assumption) rfl ?_
        refine am_aload_n (q := 100) dX2_giveTo_99 rfl rfl ?_
        rw [d4, y1, y2]
        refine cm_call0 (q := 103) (As := [_, _, _]) hG dX2_giveTo_100 mlX2_205 rfl (by assumption) ⟨_, _, rfl⟩ (Nat.le_of_ble_eq_true rfl) (Nat.le_of_ble_eq_true rfl) (Nat.le_of_ble_eq_true rfl) (Nat.le_of_ble_eq_true rfl) (k_rk hG hct hB2 hm2 y4 hz2 hz42 (by omega) y7) rfl ?_
        rintro _ _ ⟨rfl, I3, rfl, hq3⟩
        refine am_iadd (q := 104) dX2_giveTo_103 rfl ?_
        refine cm_putI (q := 107) dX2_giveTo_104 flX2_182 rfl (Or.inl rfl) (Or.inl rfl) (by assumption) rfl ?_
        exact am_ret dX2_giveTo_107 rfl ⟨_, rfl, rfl, _, rfl, (hB2.qt hq3).upF (by omega), by rw [hgv]; exact AbM.setF (j := 4) (hB2.qt hq3) (AbM.qt hB2 hm2 hq3) hf (by decide) (fun e => absurd e (by decide)), (hO2.tr hq3.off).up (by omega)⟩
  · rintro ⟨I0, x3⟩ ⟨hinv, hB0, hm0, hO0⟩
    dsimp only at hinv hB0 hm0 hO0 ⊢
    have u7 : I0 c 11 = nI B.nP := hB0.2.2.1.1
    rw [Nat.sub_self, fpM] at hinv
    have hgv : givM B m f = m := by
      unfold givM
      rw [← hinv]
    rw [hgv]
    refine am_iload_n (q := 3) dX2_giveTo_2 rfl rfl ?_
    refine am_aload_n (q := 4) dX2_giveTo_3 rfl rfl ?_
    refine cm_getI (q := 7) dX2_giveTo_4 flX2_78 rfl (by assumption) rfl ?_
    rw [u7]
    refine am_icmp_ge (tgt := 114) (q := 10) dX2_giveTo_7 rfl rfl (fun _ => ?_) (fun hz => absurd (Int32.le_refl _) hz)
    exact am_ret dX2_giveTo_114 rfl ⟨_, rfl, rfl, _, rfl, hB0, hm0, hO0⟩
end Gift
end
section
theorem kc_b60 : (Int8.ofInt 60).toInt32 = 60 := by decide +kernel
theorem dX2_hit_0 : decode cX2_hit 0 = .ok (.aload_n 0, 1) := by decide +kernel
theorem dX2_hit_1 : decode cX2_hit 1 = .ok (.iload_n 1, 1) := by decide +kernel
theorem dX2_hit_2 : decode cX2_hit 2 = .ok (.invokevirtual 167, 3) := by decide +kernel
theorem dX2_hit_5 : decode cX2_hit 5 = .ok (.ifCond .eq 11, 3) := by decide +kernel
theorem dX2_hit_8 : decode cX2_hit 8 = .ok (.aload_n 0, 1) := by decide +kernel
theorem dX2_hit_9 : decode cX2_hit 9 = .ok (.iload_n 2, 1) := by decide +kernel
theorem dX2_hit_10 : decode cX2_hit 10 = .ok (.invokevirtual 135, 3) := by decide +kernel
theorem dX2_hit_13 : decode cX2_hit 13 = .ok (.ifCond .ne 4, 3) := by decide +kernel
theorem dX2_hit_17 : decode cX2_hit 17 = .ok (.aload_n 0, 1) := by decide +kernel
theorem dX2_hit_18 : decode cX2_hit 18 = .ok (.getfield 40, 3) := by decide +kernel
theorem dX2_hit_21 : decode cX2_hit 21 = .ok (.iload_n 1, 1) := by decide +kernel
theorem dX2_hit_22 : decode cX2_hit 22 = .ok (.aaload, 1) := by decide +kernel
theorem dX2_hit_23 : decode cX2_hit 23 = .ok (.astore_n 3, 1) := by decide +kernel
theorem dX2_hit_24 : decode cX2_hit 24 = .ok (.aload_n 0, 1) := by decide +kernel
theorem dX2_hit_25 : decode cX2_hit 25 = .ok (.getfield 34, 3) := by decide +kernel
theorem dX2_hit_28 : decode cX2_hit 28 = .ok (.iload_n 2, 1) := by decide +kernel
theorem dX2_hit_29 : decode cX2_hit 29 = .ok (.aaload, 1) := by decide +kernel
theorem dX2_hit_30 : decode cX2_hit 30 = .ok (.astore 4, 2) := by decide +kernel
theorem dX2_hit_32 : decode cX2_hit 32 = .ok (.aload_n 0, 1) := by decide +kernel
theorem dX2_hit_33 : decode cX2_hit 33 = .ok (.getfield 28, 3) := by decide +kernel
theorem dX2_hit_36 : decode cX2_hit 36 = .ok (.aload 4, 2) := by decide +kernel
theorem dX2_hit_38 : decode cX2_hit 38 = .ok (.aload_n 3, 1) := by decide +kernel
theorem dX2_hit_39 : decode cX2_hit 39 = .ok (.aload_n 3, 1) := by decide +kernel
theorem dX2_hit_40 : decode cX2_hit 40 = .ok (.getfield 170, 3) := by decide +kernel
theorem dX2_hit_43 : decode cX2_hit 43 = .ok (.invokevirtual 234, 3) := by decide +kernel
theorem dX2_hit_46 : decode cX2_hit 46 = .ok (.invokevirtual 237, 3) := by decide +kernel
theorem dX2_hit_49 : decode cX2_hit 49 = .ok (.aload_n 0, 1) := by decide +kernel
theorem dX2_hit_50 : decode cX2_hit 50 = .ok (.aload_n 0, 1) := by decide +kernel
theorem dX2_hit_51 : decode cX2_hit 51 = .ok (.getfield 28, 3) := by decide +kernel
theorem dX2_hit_54 : decode cX2_hit 54 = .ok (.getfield 241, 3) := by decide +kernel
theorem dX2_hit_57 : decode cX2_hit 57 = .ok (.putfield 87, 3) := by decide +kernel
theorem dX2_hit_60 : decode cX2_hit 60 = .ok (.aload_n 0, 1) := by decide +kernel
theorem dX2_hit_61 : decode cX2_hit 61 = .ok (.aload_n 0, 1) := by decide +kernel
theorem dX2_hit_62 : decode cX2_hit 62 = .ok (.getfield 28, 3) := by decide +kernel
theorem dX2_hit_65 : decode cX2_hit 65 = .ok (.getfield 242, 3) := by decide +kernel
theorem dX2_hit_68 : decode cX2_hit 68 = .ok (.putfield 90, 3) := by decide +kernel
theorem dX2_hit_71 : decode cX2_hit 71 = .ok (.aload_n 0, 1) := by decide +kernel
theorem dX2_hit_72 : decode cX2_hit 72 = .ok (.dup, 1) := by decide +kernel
theorem dX2_hit_73 : decode cX2_hit 73 = .ok (.getfield 93, 3) := by decide +kernel
theorem dX2_hit_76 : decode cX2_hit 76 = .ok (.iconst 1, 1) := by decide +kernel
theorem dX2_hit_77 : decode cX2_hit 77 = .ok (.iadd, 1) := by decide +kernel
theorem dX2_hit_78 : decode cX2_hit 78 = .ok (.putfield 93, 3) := by decide +kernel
theorem dX2_hit_81 : decode cX2_hit 81 = .ok (.aload_n 0, 1) := by decide +kernel
theorem dX2_hit_82 : decode cX2_hit 82 = .ok (.dup, 1) := by decide +kernel
theorem dX2_hit_83 : decode cX2_hit 83 = .ok (.getfield 96, 3) := by decide +kernel
theorem dX2_hit_86 : decode cX2_hit 86 = .ok (.aload_n 0, 1) := by decide +kernel
theorem dX2_hit_87 : decode cX2_hit 87 = .ok (.getfield 90, 3) := by decide +kernel
theorem dX2_hit_90 : decode cX2_hit 90 = .ok (.iadd, 1) := by decide +kernel
theorem dX2_hit_91 : decode cX2_hit 91 = .ok (.putfield 96, 3) := by decide +kernel
theorem dX2_hit_94 : decode cX2_hit 94 = .ok (.aload_n 0, 1) := by decide +kernel
theorem dX2_hit_95 : decode cX2_hit 95 = .ok (.getfield 21, 3) := by decide +kernel
theorem dX2_hit_98 : decode cX2_hit 98 = .ok (.aload_n 0, 1) := by decide +kernel
theorem dX2_hit_99 : decode cX2_hit 99 = .ok (.getfield 87, 3) := by decide +kernel
theorem dX2_hit_102 : decode cX2_hit 102 = .ok (.invokevirtual 243, 3) := by decide +kernel
theorem dX2_hit_105 : decode cX2_hit 105 = .ok (.aload 4, 2) := by decide +kernel
theorem dX2_hit_107 : decode cX2_hit 107 = .ok (.dup, 1) := by decide +kernel
theorem dX2_hit_108 : decode cX2_hit 108 = .ok (.getfield 166, 3) := by decide +kernel
theorem dX2_hit_111 : decode cX2_hit 111 = .ok (.iconst 1, 1) := by decide +kernel
theorem dX2_hit_112 : decode cX2_hit 112 = .ok (.iadd, 1) := by decide +kernel
theorem dX2_hit_113 : decode cX2_hit 113 = .ok (.putfield 166, 3) := by decide +kernel
theorem dX2_hit_116 : decode cX2_hit 116 = .ok (.aload 4, 2) := by decide +kernel
theorem dX2_hit_118 : decode cX2_hit 118 = .ok (.aload_n 0, 1) := by decide +kernel
theorem dX2_hit_119 : decode cX2_hit 119 = .ok (.getfield 87, 3) := by decide +kernel
theorem dX2_hit_122 : decode cX2_hit 122 = .ok (.aload 4, 2) := by decide +kernel
theorem dX2_hit_124 : decode cX2_hit 124 = .ok (.getfield 163, 3) := by decide +kernel
theorem dX2_hit_127 : decode cX2_hit 127 = .ok (.if_icmp .le 10, 3) := by decide +kernel
theorem dX2_hit_130 : decode cX2_hit 130 = .ok (.aload_n 0, 1) := by decide +kernel
theorem dX2_hit_131 : decode cX2_hit 131 = .ok (.getfield 87, 3) := by decide +kernel
theorem dX2_hit_134 : decode cX2_hit 134 = .ok (.goto 8, 3) := by decide +kernel
theorem dX2_hit_137 : decode cX2_hit 137 = .ok (.aload 4, 2) := by decide +kernel
theorem dX2_hit_139 : decode cX2_hit 139 = .ok (.getfield 163, 3) := by decide +kernel
theorem dX2_hit_142 : decode cX2_hit 142 = .ok (.putfield 163, 3) := by decide +kernel
theorem dX2_hit_145 : decode cX2_hit 145 = .ok (.aload_n 3, 1) := by decide +kernel
theorem dX2_hit_146 : decode cX2_hit 146 = .ok (.dup, 1) := by decide +kernel
theorem dX2_hit_147 : decode cX2_hit 147 = .ok (.getfield 185, 3) := by decide +kernel
theorem dX2_hit_150 : decode cX2_hit 150 = .ok (.iconst 1, 1) := by decide +kernel
theorem dX2_hit_151 : decode cX2_hit 151 = .ok (.iadd, 1) := by decide +kernel
theorem dX2_hit_152 : decode cX2_hit 152 = .ok (.putfield 185, 3) := by decide +kernel
theorem dX2_hit_155 : decode cX2_hit 155 = .ok (.aload_n 3, 1) := by decide +kernel
theorem dX2_hit_156 : decode cX2_hit 156 = .ok (.aload_n 0, 1) := by decide +kernel
theorem dX2_hit_157 : decode cX2_hit 157 = .ok (.getfield 87, 3) := by decide +kernel
theorem dX2_hit_160 : decode cX2_hit 160 = .ok (.aload_n 3, 1) := by decide +kernel
theorem dX2_hit_161 : decode cX2_hit 161 = .ok (.getfield 186, 3) := by decide +kernel
theorem dX2_hit_164 : decode cX2_hit 164 = .ok (.if_icmp .le 10, 3) := by decide +kernel
theorem dX2_hit_167 : decode cX2_hit 167 = .ok (.aload_n 0, 1) := by decide +kernel
theorem dX2_hit_168 : decode cX2_hit 168 = .ok (.getfield 87, 3) := by decide +kernel
theorem dX2_hit_171 : decode cX2_hit 171 = .ok (.goto 7, 3) := by decide +kernel
theorem dX2_hit_174 : decode cX2_hit 174 = .ok (.aload_n 3, 1) := by decide +kernel
theorem dX2_hit_175 : decode cX2_hit 175 = .ok (.getfield 186, 3) := by decide +kernel
theorem dX2_hit_178 : decode cX2_hit 178 = .ok (.putfield 186, 3) := by decide +kernel
theorem dX2_hit_181 : decode cX2_hit 181 = .ok (.aload_n 3, 1) := by decide +kernel
theorem dX2_hit_182 : decode cX2_hit 182 = .ok (.dup, 1) := by decide +kernel
theorem dX2_hit_183 : decode cX2_hit 183 = .ok (.getfield 187, 3) := by decide +kernel
theorem dX2_hit_186 : decode cX2_hit 186 = .ok (.aload_n 0, 1) := by decide +kernel
theorem dX2_hit_187 : decode cX2_hit 187 = .ok (.getfield 90, 3) := by decide +kernel
theorem dX2_hit_190 : decode cX2_hit 190 = .ok (.iadd, 1) := by decide +kernel
theorem dX2_hit_191 : decode cX2_hit 191 = .ok (.putfield 187, 3) := by decide +kernel
theorem dX2_hit_194 : decode cX2_hit 194 = .ok (.aload_n 3, 1) := by decide +kernel
theorem dX2_hit_195 : decode cX2_hit 195 = .ok (.iconst 1, 1) := by decide +kernel
theorem dX2_hit_196 : decode cX2_hit 196 = .ok (.putfield 247, 3) := by decide +kernel
theorem dX2_hit_199 : decode cX2_hit 199 = .ok (.aload_n 3, 1) := by decide +kernel
theorem dX2_hit_200 : decode cX2_hit 200 = .ok (.getfield 179, 3) := by decide +kernel
theorem dX2_hit_203 : decode cX2_hit 203 = .ok (.aload 4, 2) := by decide +kernel
theorem dX2_hit_205 : decode cX2_hit 205 = .ok (.getfield 157, 3) := by decide +kernel
theorem dX2_hit_208 : decode cX2_hit 208 = .ok (.iadd, 1) := by decide +kernel
theorem dX2_hit_209 : decode cX2_hit 209 = .ok (.istore 5, 2) := by decide +kernel
theorem dX2_hit_211 : decode cX2_hit 211 = .ok (.aload_n 3, 1) := by decide +kernel
theorem dX2_hit_212 : decode cX2_hit 212 = .ok (.iload 5, 2) := by decide +kernel
theorem dX2_hit_214 : decode cX2_hit 214 = .ok (.bipush 60, 2) := by decide +kernel
theorem dX2_hit_216 : decode cX2_hit 216 = .ok (.if_icmp .ge 8, 3) := by decide +kernel
theorem dX2_hit_219 : decode cX2_hit 219 = .ok (.iload 5, 2) := by decide +kernel
theorem dX2_hit_221 : decode cX2_hit 221 = .ok (.goto 5, 3) := by decide +kernel
theorem dX2_hit_224 : decode cX2_hit 224 = .ok (.bipush 60, 2) := by decide +kernel
theorem dX2_hit_226 : decode cX2_hit 226 = .ok (.putfield 179, 3) := by decide +kernel
theorem dX2_hit_229 : decode cX2_hit 229 = .ok (.aload_n 0, 1) := by decide +kernel
theorem dX2_hit_230 : decode cX2_hit 230 = .ok (.aload_n 3, 1) := by decide +kernel
theorem dX2_hit_231 : decode cX2_hit 231 = .ok (.invokevirtual 251, 3) := by decide +kernel
theorem dX2_hit_234 : decode cX2_hit 234 = .ok (.return_, 1) := by decide +kernel
/-! a strike -/
theorem k_inr {f n : Nat} (h : f < n) (hn : n < 2 ^ 31) : 0 ≤ nI f ∧ nI f < nI n := ⟨Int32.not_lt.mp (nI_pos (by omega)), (nI_ltI (by omega) hn).mpr h⟩
theorem AbM.setB {c : Nat} {I I1 : Nat → Nat → Int32} {B : BS} {m : MS} {v : Int32} (hB : AbB I c B) (h : AbM I c B m) (hI : ∀ x j, I1 x j = if x = c + 6 ∧ j = 0 then v else if x = c + 6 ∧ j < 10 then I (c + 6) (j - 1) else if x = c + 5 ∧ j = 1 then (if I (c + 5) 1 < 10 then I (c + 5) 1 + 1 else I (c + 5) 1) else I x j) : AbM I1 c B (mkMS m.fist m.rail m.prize m.g m.row (fun k => if k = 0 then v else m.bd (k - 1)) (if m.nb < 10 then m.nb + 1 else m.nb)) := by
  have o : ∀ x j, x ≠ c + 6 → x ≠ c + 5 → I1 x j = I x j := fun x j q1 q2 => by rw [hI, if_neg (fun q => q1 q.1), if_neg (fun q => q1 q.1), if_neg (fun q => q2 q.1)]
  obtain ⟨a1, a2, a3, a4, a5, a6, a7, a8, a9, a10, a11⟩ := h
  obtain ⟨⟨_, u1⟩, ⟨_, u2⟩, ⟨_, u3⟩, ⟨_, u4⟩, _⟩ := hB
  refine ⟨?_, ?_, ?_, ?_, ?_, ?_, ?_, ?_, ?_, a10, ?_⟩
  · intro x hx y hy
    rw [o _ _ (by omega) (by omega)]; exact a1 x hx y hy
  · intro x hx y hy
    rw [o _ _ (by omega) (by omega)]; exact a2 x hx y hy
  · intro x hx y hy
    rw [o _ _ (by omega) (by omega)]; exact a3 x hx y hy
  · intro y hy
    rw [o _ _ (by omega) (by omega)]; exact a4 y hy
  · rw [o _ _ (by omega) (by omega)]; exact a5
  · intro k hk
    rw [o _ _ (by omega) (by omega)]; exact a6 k hk
  · intro k hk
    have hk2 : k < (if m.nb < 10 then m.nb + 1 else m.nb) := hk
    show I1 (c + 6) k = if k = 0 then v else m.bd (k - 1)
    rw [hI]
    by_cases e : k = 0
    · rw [if_pos ⟨rfl, e⟩, if_pos e]
    · have h3 : k - 1 < m.nb ∧ k < 10 := by
        split at hk2 <;> omega
      rw [if_neg (fun q => e q.2), if_pos ⟨rfl, h3.2⟩, if_neg e]
      exact a7 _ h3.1
  · show I1 (c + 5) 1 = nI (if m.nb < 10 then m.nb + 1 else m.nb)
    rw [hI, if_neg (by omega), if_neg (by omega), if_pos ⟨rfl, rfl⟩, a8]
    have e10 : nI m.nb < 10 ↔ m.nb < 10 := nI_ltI (b := 10) (by omega) (by decide)
    by_cases e : m.nb < 10
    · rw [if_pos (e10.mpr e), if_pos e]
      exact nI_1 _
    · rw [if_neg (fun q => e (e10.mp q)), if_neg e]
  · show (if m.nb < 10 then m.nb + 1 else m.nb) ≤ 10
    split <;> omega
  · intro x hx
    rw [o _ _ (by omega) (by omega)]; exact a11 x hx
theorem stkM_e {B : BS} {m : MS} {f r : Nat} {h b : Int32} (l1 : h = (flM B m f r (m.fist f 0) 300).2.2.1) (l2 : b = (flM B m f r (m.fist f 0) 300).2.2.2.1) : stkM B m f r = mkMS
    (up2 (up2 (up2 (up2 (up2 m.fist f 5 (m.fist f 5 + 1)) f 6 (if m.fist f 6 < h then h else m.fist f 6)) f 7 (m.fist f 7 + b)) f 8 1) f 3 (if m.fist f 3 + m.rail r 1 < 60 then m.fist f 3 + m.rail r 1 else 60))
    (up2 (up2 m.rail r 4 (m.rail r 4 + 1)) r 3 (if m.rail r 3 < h then h else m.rail r 3)) m.prize (up1 (up1 (up1 (up1 m.g 1 h) 2 b) 3 (m.g 3 + 1)) 4 (m.g 4 + b)) m.row (fun k => if k = 0 then h else m.bd (k - 1)) (if m.nb < 10 then m.nb + 1 else m.nb) := by
  unfold stkM mkMS
  generalize flM B m f r (m.fist f 0) 300 = fl at l1 l2 ⊢
  subst l1 l2
  dsimp only
  have e1 : ∀ (F1 F2 R1 R2 : Nat → Nat → Int32) (g1 g2 : Nat → Int32) (p : Nat → Nat → Int32) (w : Nat → Nat) (bd : Nat → Int32) (n : Nat), (∀ x j, F1 x j = F2 x j) → (∀ x j, R1 x j = R2 x j) → (∀ j, g1 j = g2 j) → ((F1, R1, p, g1, w, bd, n) : MS) = (F2, R2, p, g2, w, bd, n) := by
    intro F1 F2 R1 R2 g1 g2 p w bd n q1 q2 q3
    have z1 : F1 = F2 := funext fun x => funext fun j => q1 x j
    have z2 : R1 = R2 := funext fun x => funext fun j => q2 x j
    have z3 : g1 = g2 := funext q3
    rw [z1, z2, z3]
  refine e1 _ _ _ _ _ _ _ _ _ _ ?_ ?_ ?_
  · intro x j
    simp only [up2_at]
    grind (splits := 30)
  · intro x j
    simp only [up2_at]
    grind (splits := 30)
  · intro j
    simp only [up1_at]
    grind (splits := 30)
section Hit
variable {G : Gp} {S : AMem} {I : Nat → Nat → Int32} {J : Nat → Nat → Int64} {R : Nat → Nat → Option Nat} {c : Nat} {B : BS} {m : MS} {Q : (Option AV ⊕ Nat) → AMem → Prop}
theorem k_hit3 {f r : Nat} {s p : Int32} {x5 : Option AV} (hG : okG G) (hct : CT S R c) (hB : AbB I c B) (hm : AbM I c B m) (hf : f < B.nF) (hr0 : r < B.nR) (hs : m.fist f 3 = s) (hp : m.rail r 1 = p)
    (hQ : ∀ I1, AbB I1 c B → AbM I1 c B (givM B (mkMS (up2 (up2 m.fist f 8 1) f 3 (if s + p < 60 then s + p else 60)) m.rail m.prize m.g m.row m.bd m.nb) f) → OffC c I I1 → Q (.inl none) (mw S I1 J R)) : MW G mX2_hit 4 194 [some (vR c), some (vI (nI f)), some (vI (nI r)), some (vR (c + 22 + f)), some (vR (c + 14 + 2 * r)), x5] [] (mw S I J R) Q := by
  have hct2 := hct
  obtain ⟨kc, rc0, rc1, rc2, rc3, rc4, rc5, rc6, rc7, ⟨kd, rd0, rd1, rd2, kd2, ld2, kd3, ld3, kd4, ld4⟩, ⟨kb, rb, kb6, lb6⟩, ⟨kf, rf, kf8, lf8⟩, ⟨kr, lr, hr⟩, ⟨kfi, lfi, hfi⟩, ⟨kp, lp, hpz⟩, ⟨kt, lt, htu⟩, kw, lw⟩ := id hct2
  obtain ⟨⟨u1, u2⟩, ⟨u3, u4⟩, _⟩ := id hB
  obtain ⟨f1, f2⟩ := hfi f (by omega)
  obtain ⟨r1, r2, r3, r4, r5⟩ := hr r (by omega)
  have hB12 := hB.upF (i := f) (j := 9) (v := 1) (by omega)
  have hm12 := AbM.setF (i := f) (j := 8) (v := 1) hB hm hf (by decide) (fun _ => Or.inr rfl)
  have hO12 := (OffC.rf (c := c) (I := I)).up (a := c + 22 + f) (j := 9) (v := 1) (by omega)
  refine am_aload_n (q := 195) dX2_hit_194 rfl rfl ?_
  refine am_iconst (q := 196) (v := 1) dX2_hit_195 kc_i1 rfl ?_
  refine cm_putI (q := 199) dX2_hit_196 flX2_247 rfl (Or.inr (Or.inr rfl)) (Or.inl rfl) (by assumption) rfl ?_
  refine am_aload_n (q := 200) dX2_hit_199 rfl rfl ?_
  refine cm_getI (q := 203) dX2_hit_200 flX2_179 rfl (by assumption) rfl ?_
  generalize up2 I (c + 22 + f) 9 1 = I12 at hB12 hm12 hO12 ⊢
  rw [show I12 (c + 22 + f) 4 = s from ((hm12.1 f hf 3 (by decide)).trans (up2_j (by decide))).trans hs]
  refine am_aload (q := 205) dX2_hit_203 rfl rfl ?_
  refine cm_getI (q := 208) dX2_hit_205 flX2_157 rfl (by assumption) rfl ?_
  rw [show I12 (c + 14 + 2 * r) 3 = p from (hm12.2.1 r hr0 1 (by decide)).trans hp]
  have s3 : ∀ v : Int32, v = (if s + p < 60 then s + p else 60) → MW G mX2_hit 4 226 [some (vR c), some (vI (nI f)), some (vI (nI r)), some (vR (c + 22 + f)), some (vR (c + 14 + 2 * r)), some (vI (s + p))] [vI v, vR (c + 22 + f)] (mw S I12 J R) Q := by
    intro v hv
    rw [← hv] at hQ
    have hB13 := hB12.upF (i := f) (j := 4) (v := v) (by omega)
    have hm13 := AbM.setF (i := f) (j := 3) (v := v) hB12 hm12 hf (by decide) (fun e => absurd e (by decide))
    have hO13 := hO12.up (a := c + 22 + f) (j := 4) (v := v) (by omega)
    refine cm_putI (q := 229) dX2_hit_226 flX2_179 rfl (Or.inl rfl) (Or.inl rfl) (by assumption) rfl ?_
    refine am_aload_n (q := 230) dX2_hit_229 rfl rfl ?_
    refine am_aload_n (q := 231) dX2_hit_230 rfl rfl ?_
    refine cm_call0 (q := 234) (As := [_]) hG dX2_hit_231 mlX2_251 rfl (by assumption) ⟨_, _, rfl⟩ (Nat.le_of_ble_eq_true rfl) (Nat.le_of_ble_eq_true rfl) (Nat.le_of_ble_eq_true rfl) (Nat.le_of_ble_eq_true rfl) (k_X2_giveTo hG hct hB13 hm13 hf) rfl ?_
    rintro _ _ ⟨rfl, I14, rfl, hB14, hm14, hO14⟩
    exact am_ret dX2_hit_234 rfl (hQ _ hB14 hm14 (hO13.tr hO14))
  refine am_iadd (q := 209) dX2_hit_208 rfl ?_
  refine am_istore (q := 211) (ls1 := [_, _, _, _, _, _]) dX2_hit_209 (Nat.le_of_ble_eq_true rfl) rfl rfl ?_
  refine am_aload_n (q := 212) dX2_hit_211 rfl rfl ?_
  refine am_iload (q := 214) dX2_hit_212 rfl rfl ?_
  refine am_bipush (q := 216) (v := 60) dX2_hit_214 kc_b60 rfl ?_
  refine am_icmp_ge (tgt := 224) (q := 219) dX2_hit_216 rfl rfl (fun hc => ?_) (fun hc => ?_)
  · refine am_bipush (q := 226) (v := 60) dX2_hit_224 kc_b60 rfl ?_
    exact s3 _ (if_neg (Int32.not_lt.mpr hc)).symm
  · refine am_iload (q := 221) dX2_hit_219 rfl rfl ?_
    refine am_goto (tgt := 226) dX2_hit_221 rfl ?_
    exact s3 _ (if_pos (Int32.not_le.mp hc)).symm
theorem k_hit2 {f r : Nat} {h b p : Int32} (hG : okG G) (hct : CT S R c) (hB : AbB I c B) (hm : AbM I c B m) (hf : f < B.nF) (hr0 : r < B.nR) (hh : m.g 1 = h) (hb : m.g 2 = b) (hp : m.rail r 1 = p)
    (hQ : ∀ I1, AbB I1 c B → AbM I1 c B (givM B (mkMS (up2 (up2 (up2 (up2 (up2 m.fist f 5 (m.fist f 5 + 1)) f 6 (if m.fist f 6 < h then h else m.fist f 6)) f 7 (m.fist f 7 + b)) f 8 1) f 3 (if m.fist f 3 + p < 60 then m.fist f 3 + p else 60)) m.rail m.prize m.g m.row m.bd m.nb) f) → OffC c I I1 → Q (.inl none) (mw S I1 J R)) : MW G mX2_hit 4 145 [some (vR c), some (vI (nI f)), some (vI (nI r)), some (vR (c + 22 + f)), some (vR (c + 14 + 2 * r)), none] [] (mw S I J R) Q := by
  have hct2 := hct
  obtain ⟨kc, rc0, rc1, rc2, rc3, rc4, rc5, rc6, rc7, ⟨kd, rd0, rd1, rd2, kd2, ld2, kd3, ld3, kd4, ld4⟩, ⟨kb, rb, kb6, lb6⟩, ⟨kf, rf, kf8, lf8⟩, ⟨kr, lr, hr⟩, ⟨kfi, lfi, hfi⟩, ⟨kp, lp, hpz⟩, ⟨kt, lt, htu⟩, kw, lw⟩ := id hct2
  obtain ⟨⟨u1, u2⟩, ⟨u3, u4⟩, _⟩ := id hB
  obtain ⟨f1, f2⟩ := hfi f (by omega)
  obtain ⟨r1, r2, r3, r4, r5⟩ := hr r (by omega)
  refine am_aload_n (q := 146) dX2_hit_145 rfl rfl ?_
  refine am_dup (q := 147) dX2_hit_146 rfl rfl ?_
  refine cm_getI (q := 150) dX2_hit_147 flX2_185 rfl (by assumption) rfl ?_
  rw [show I (c + 22 + f) 6 = m.fist f 5 from hm.1 f hf 5 (by decide)]
  refine am_iconst (q := 151) (v := 1) dX2_hit_150 kc_i1 rfl ?_
  refine am_iadd (q := 152) dX2_hit_151 rfl ?_
  refine cm_putI (q := 155) dX2_hit_152 flX2_185 rfl (Or.inl rfl) (Or.inl rfl) (by assumption) rfl ?_
  have hB9 := hB.upF (i := f) (j := 6) (v := m.fist f 5 + 1) (by omega)
  have hm9 := AbM.setF (i := f) (j := 5) (v := m.fist f 5 + 1) hB hm hf (by decide) (fun e => absurd e (by decide))
  have hO9 := (OffC.rf (c := c) (I := I)).up (a := c + 22 + f) (j := 6) (v := m.fist f 5 + 1) (by omega)
  generalize up2 I (c + 22 + f) 6 (m.fist f 5 + 1) = I9 at hB9 hm9 hO9 ⊢
  have k3 : I9 c 14 = h := (hm9.2.2.2.1 1 (by decide)).trans hh
  have k4 : I9 (c + 22 + f) 7 = m.fist f 6 := (hm9.1 f hf 6 (by decide)).trans (up2_j (by decide))
  have s2 : ∀ v : Int32, v = (if m.fist f 6 < h then h else m.fist f 6) → MW G mX2_hit 4 178 [some (vR c), some (vI (nI f)), some (vI (nI r)), some (vR (c + 22 + f)), some (vR (c + 14 + 2 * r)), none] [vI v, vR (c + 22 + f)] (mw S I9 J R) Q := by
    intro v hv
    rw [← hv] at hQ
    have hB10 := hB9.upF (i := f) (j := 7) (v := v) (by omega)
    have hm10 := AbM.setF (i := f) (j := 6) (v := v) hB9 hm9 hf (by decide) (fun e => absurd e (by decide))
    have hO10 := hO9.up (a := c + 22 + f) (j := 7) (v := v) (by omega)
    refine cm_putI (q := 181) dX2_hit_178 flX2_186 rfl (Or.inl rfl) (Or.inl rfl) (by assumption) rfl ?_
    refine am_aload_n (q := 182) dX2_hit_181 rfl rfl ?_
    refine am_dup (q := 183) dX2_hit_182 rfl rfl ?_
    refine cm_getI (q := 186) dX2_hit_183 flX2_187 rfl (by assumption) rfl ?_
    refine am_aload_n (q := 187) dX2_hit_186 rfl rfl ?_
    refine cm_getI (q := 190) dX2_hit_187 flX2_90 rfl (by assumption) rfl ?_
    generalize up2 I9 (c + 22 + f) 7 v = I10 at hB10 hm10 hO10 ⊢
    rw [show I10 (c + 22 + f) 8 = m.fist f 7 from ((hm10.1 f hf 7 (by decide)).trans (up2_j (by decide))).trans (up2_j (by decide)), show I10 c 15 = b from (hm10.2.2.2.1 2 (by decide)).trans hb]
    refine am_iadd (q := 191) dX2_hit_190 rfl ?_
    refine cm_putI (q := 194) dX2_hit_191 flX2_187 rfl (Or.inl rfl) (Or.inl rfl) (by assumption) rfl ?_
    refine k_hit3 hG hct (hB10.upF (i := f) (j := 8) (v := m.fist f 7 + b) (by omega)) (AbM.setF (i := f) (j := 7) (v := m.fist f 7 + b) hB10 hm10 hf (by decide) (fun e => absurd e (by decide))) hf hr0 (s := m.fist f 3) (p := p) (((up2_j (by decide)).trans (up2_j (by decide))).trans (up2_j (by decide))) hp ?_
    intro I1 q1 q2 q3
    exact hQ I1 q1 q2 ((hO10.up (a := c + 22 + f) (j := 8) (v := m.fist f 7 + b) (by omega)).tr q3)
  refine am_aload_n (q := 156) dX2_hit_155 rfl rfl ?_
  refine am_aload_n (q := 157) dX2_hit_156 rfl rfl ?_
  refine cm_getI (q := 160) dX2_hit_157 flX2_87 rfl (by assumption) rfl ?_
  refine am_aload_n (q := 161) dX2_hit_160 rfl rfl ?_
  refine cm_getI (q := 164) dX2_hit_161 flX2_186 rfl (by assumption) rfl ?_
  rw [k3, k4]
  refine am_icmp_le (tgt := 174) (q := 167) dX2_hit_164 rfl rfl (fun hc => ?_) (fun hc => ?_)
  · refine am_aload_n (q := 175) dX2_hit_174 rfl rfl ?_
    refine cm_getI (q := 178) dX2_hit_175 flX2_186 rfl (by assumption) rfl ?_
    rw [k4]
    exact s2 _ (if_neg (Int32.not_lt.mpr hc)).symm
  · refine am_aload_n (q := 168) dX2_hit_167 rfl rfl ?_
    refine cm_getI (q := 171) dX2_hit_168 flX2_87 rfl (by assumption) rfl ?_
    refine am_goto (tgt := 178) dX2_hit_171 rfl ?_
    rw [k3]
    exact s2 _ (if_pos (Int32.not_le.mp hc)).symm
theorem k_hit1 {f r : Nat} {h b : Int32} (hG : okG G) (hct : CT S R c) (hB : AbB I c B) (hm : AbM I c B m) (hf : f < B.nF) (hr0 : r < B.nR) (hh : m.g 1 = h) (hb : m.g 2 = b)
    (hQ : ∀ I1, AbB I1 c B → AbM I1 c B (givM B (mkMS (up2 (up2 (up2 (up2 (up2 m.fist f 5 (m.fist f 5 + 1)) f 6 (if m.fist f 6 < h then h else m.fist f 6)) f 7 (m.fist f 7 + b)) f 8 1) f 3 (if m.fist f 3 + m.rail r 1 < 60 then m.fist f 3 + m.rail r 1 else 60)) (up2 (up2 m.rail r 4 (m.rail r 4 + 1)) r 3 (if m.rail r 3 < h then h else m.rail r 3)) m.prize m.g m.row m.bd m.nb) f) → OffC c I I1 → Q (.inl none) (mw S I1 J R)) : MW G mX2_hit 4 105 [some (vR c), some (vI (nI f)), some (vI (nI r)), some (vR (c + 22 + f)), some (vR (c + 14 + 2 * r)), none] [] (mw S I J R) Q := by
  have hct2 := hct
  obtain ⟨kc, rc0, rc1, rc2, rc3, rc4, rc5, rc6, rc7, ⟨kd, rd0, rd1, rd2, kd2, ld2, kd3, ld3, kd4, ld4⟩, ⟨kb, rb, kb6, lb6⟩, ⟨kf, rf, kf8, lf8⟩, ⟨kr, lr, hr⟩, ⟨kfi, lfi, hfi⟩, ⟨kp, lp, hpz⟩, ⟨kt, lt, htu⟩, kw, lw⟩ := id hct2
  obtain ⟨⟨u1, u2⟩, ⟨u3, u4⟩, _⟩ := id hB
  obtain ⟨f1, f2⟩ := hfi f (by omega)
  obtain ⟨r1, r2, r3, r4, r5⟩ := hr r (by omega)
  refine am_aload (q := 107) dX2_hit_105 rfl rfl ?_
  refine am_dup (q := 108) dX2_hit_107 rfl rfl ?_
  refine cm_getI (q := 111) dX2_hit_108 flX2_166 rfl (by assumption) rfl ?_
  rw [show I (c + 14 + 2 * r) 6 = m.rail r 4 from hm.2.1 r hr0 4 (by decide)]
  refine am_iconst (q := 112) (v := 1) dX2_hit_111 kc_i1 rfl ?_
  refine am_iadd (q := 113) dX2_hit_112 rfl ?_
  refine cm_putI (q := 116) dX2_hit_113 flX2_166 rfl (Or.inl rfl) (Or.inl rfl) (by assumption) rfl ?_
  have hB7 := hB.upR (i := r) (j := 6) (v := m.rail r 4 + 1) (by omega)
  have hm7 := AbM.setR (i := r) (j := 4) (v := m.rail r 4 + 1) hB hm hr0 (by decide) (by decide)
  have hO7 := (OffC.rf (c := c) (I := I)).up (a := c + 14 + 2 * r) (j := 6) (v := m.rail r 4 + 1) (by omega)
  generalize up2 I (c + 14 + 2 * r) 6 (m.rail r 4 + 1) = I7 at hB7 hm7 hO7 ⊢
  have k1 : I7 c 14 = h := (hm7.2.2.2.1 1 (by decide)).trans hh
  have k2 : I7 (c + 14 + 2 * r) 5 = m.rail r 3 := (hm7.2.1 r hr0 3 (by decide)).trans (up2_j (by decide))
  have s1 : ∀ v : Int32, v = (if m.rail r 3 < h then h else m.rail r 3) → MW G mX2_hit 4 142 [some (vR c), some (vI (nI f)), some (vI (nI r)), some (vR (c + 22 + f)), some (vR (c + 14 + 2 * r)), none] [vI v, vR (c + 14 + 2 * r)] (mw S I7 J R) Q := by
    intro v hv
    rw [← hv] at hQ
    refine cm_putI (q := 145) dX2_hit_142 flX2_163 rfl (Or.inl rfl) (Or.inl rfl) (by assumption) rfl ?_
    refine k_hit2 hG hct (hB7.upR (i := r) (j := 5) (v := v) (by omega)) (AbM.setR (i := r) (j := 3) (v := v) hB7 hm7 hr0 (by decide) (by decide)) hf hr0 (h := h) (b := b) (p := m.rail r 1) hh hb ((up2_j (by decide)).trans (up2_j (by decide))) ?_
    intro I1 q1 q2 q3
    exact hQ I1 q1 q2 ((hO7.up (a := c + 14 + 2 * r) (j := 5) (v := v) (by omega)).tr q3)
  refine am_aload (q := 118) dX2_hit_116 rfl rfl ?_
  refine am_aload_n (q := 119) dX2_hit_118 rfl rfl ?_
  refine cm_getI (q := 122) dX2_hit_119 flX2_87 rfl (by assumption) rfl ?_
  refine am_aload (q := 124) dX2_hit_122 rfl rfl ?_
  refine cm_getI (q := 127) dX2_hit_124 flX2_163 rfl (by assumption) rfl ?_
  rw [k1, k2]
  refine am_icmp_le (tgt := 137) (q := 130) dX2_hit_127 rfl rfl (fun hc => ?_) (fun hc => ?_)
  · refine am_aload (q := 139) dX2_hit_137 rfl rfl ?_
    refine cm_getI (q := 142) dX2_hit_139 flX2_163 rfl (by assumption) rfl ?_
    rw [k2]
    exact s1 _ (if_neg (Int32.not_lt.mpr hc)).symm
  · refine am_aload_n (q := 131) dX2_hit_130 rfl rfl ?_
    refine cm_getI (q := 134) dX2_hit_131 flX2_87 rfl (by assumption) rfl ?_
    refine am_goto (tgt := 142) dX2_hit_134 rfl ?_
    rw [k1]
    exact s1 _ (if_pos (Int32.not_le.mp hc)).symm
theorem k_X2_hit {f r : Nat} (hG : okG G) (hct : CT S R c) (hB : AbB I c B) (hm : AbM I c B m) (hf : f < B.nF) (hr0 : r < B.nR) : Fn G mX2_hit 4 [vR c, vI (nI f), vI (nI r)] (mw S I J R) (fun rr M1 => rr = none ∧ ∃ I1, M1 = mw S I1 J R ∧ AbB I1 c B ∧ AbM I1 c B (hitM B m f r) ∧ OffC c I I1) := by
  have hct2 := hct
  obtain ⟨kc, rc0, rc1, rc2, rc3, rc4, rc5, rc6, rc7, ⟨kd, rd0, rd1, rd2, kd2, ld2, kd3, ld3, kd4, ld4⟩, ⟨kb, rb, kb6, lb6⟩, ⟨kf, rf, kf8, lf8⟩, ⟨kr, lr, hr⟩, ⟨kfi, lfi, hfi⟩, ⟨kp, lp, hpz⟩, ⟨kt, lt, htu⟩, kw, lw⟩ := id hct2
  obtain ⟨⟨u1, u2⟩, ⟨u3, u4⟩, _⟩ := id hB
  obtain ⟨f1, f2⟩ := hfi f (by omega)
  obtain ⟨r1, r2, r3, r4, r5⟩ := hr r (by omega)
  have hinF : vp_in (nI f) (S.ln (c + 10)) := by rw [lfi]; exact vp_in_nI (by omega) (by decide)
  have hRF : R (c + 10) (nI f).toNatClampNeg = some (c + 22 + f) := by rw [nI_clamp (by omega)]; exact f1
  have hinR : vp_in (nI r) (S.ln (c + 9)) := by rw [lr]; exact vp_in_nI (by omega) (by decide)
  have hRR : R (c + 9) (nI r).toNatClampNeg = some (c + 14 + 2 * r) := by rw [nI_clamp (by omega)]; exact r1
  refine am_aload_n (q := 1) dX2_hit_0 rfl rfl ?_
  refine am_iload_n (q := 2) dX2_hit_1 rfl rfl ?_
  refine cm_call0 (q := 5) (As := [_]) hG dX2_hit_2 mlX2_167 rfl (by assumption) ⟨_, _, rfl⟩ (Nat.le_of_ble_eq_true rfl) (Nat.le_of_ble_eq_true rfl) (Nat.le_of_ble_eq_true rfl) (Nat.le_of_ble_eq_true rfl) (k_X2_hasFist hct u3 u4) rfl ?_
  rintro _ _ ⟨rfl, rfl⟩
  refine am_if_eq (tgt := 16) (q := 8) dX2_hit_5 rfl rfl (fun hz => absurd hz (bI_n0.mpr (k_inr hf (by omega)))) (fun _ => ?_)
  refine am_aload_n (q := 9) dX2_hit_8 rfl rfl ?_
  refine am_iload_n (q := 10) dX2_hit_9 rfl rfl ?_
  refine cm_call0 (q := 13) (As := [_]) hG dX2_hit_10 mlX2_135 rfl (by assumption) ⟨_, _, rfl⟩ (Nat.le_of_ble_eq_true rfl) (Nat.le_of_ble_eq_true rfl) (Nat.le_of_ble_eq_true rfl) (Nat.le_of_ble_eq_true rfl) (k_X2_hasRail hct u1 u2) rfl ?_
  rintro _ _ ⟨rfl, rfl⟩
  refine am_if_ne (tgt := 17) (q := 16) dX2_hit_13 rfl rfl (fun _ => ?_) (fun hz => absurd hz (bI_n0.mpr (k_inr hr0 (by omega))))
  refine am_aload_n (q := 18) dX2_hit_17 rfl rfl ?_
  refine cm_getR (q := 21) dX2_hit_18 flX2_40 rfl (by assumption) (by assumption) rfl ?_
  refine am_iload_n (q := 22) dX2_hit_21 rfl rfl ?_
  refine cm_aaloadK (q := 23) dX2_hit_22 (by assumption) (by decide) hinF hRF rfl ?_
  refine am_astore_n (q := 24) (ls1 := [_, _, _, _, _, _]) dX2_hit_23 (Nat.le_of_ble_eq_true rfl) rfl rfl ?_
  refine am_aload_n (q := 25) dX2_hit_24 rfl rfl ?_
  refine cm_getR (q := 28) dX2_hit_25 flX2_34 rfl (by assumption) (by assumption) rfl ?_
  refine am_iload_n (q := 29) dX2_hit_28 rfl rfl ?_
  refine cm_aaloadK (q := 30) dX2_hit_29 (by assumption) (by decide) hinR hRR rfl ?_
  refine am_astore (q := 32) (ls1 := [_, _, _, _, _, _]) dX2_hit_30 (Nat.le_of_ble_eq_true rfl) rfl rfl ?_
  refine am_aload_n (q := 33) dX2_hit_32 rfl rfl ?_
  refine cm_getR (q := 36) dX2_hit_33 flX2_28 rfl (by assumption) (by assumption) rfl ?_
  refine am_aload (q := 38) dX2_hit_36 rfl rfl ?_
  refine am_aload_n (q := 39) dX2_hit_38 rfl rfl ?_
  refine am_aload_n (q := 40) dX2_hit_39 rfl rfl ?_
  refine cm_getI (q := 43) dX2_hit_40 flX2_170 rfl (by assumption) rfl ?_
  rw [show I (c + 22 + f) 1 = m.fist f 0 from hm.1 f hf 0 (by decide)]
  refine cm_call0 (q := 46) (As := [_]) hG dX2_hit_43 mlX2_234 rfl (by assumption) ⟨_, _, rfl⟩ (Nat.le_of_ble_eq_true rfl) (Nat.le_of_ble_eq_true rfl) (Nat.le_of_ble_eq_true rfl) (Nat.le_of_ble_eq_true rfl) (k_fcM hct hB hm hf) rfl ?_
  rintro _ _ ⟨rfl, rfl⟩
  refine cm_call0 (q := 49) (As := [_, _]) hG dX2_hit_46 mlX2_237 rfl (by assumption) ⟨_, _, rfl⟩ (Nat.le_of_ble_eq_true rfl) (Nat.le_of_ble_eq_true rfl) (Nat.le_of_ble_eq_true rfl) (Nat.le_of_ble_eq_true rfl) (k_flyM hG hct hB hm hr0) rfl ?_
  rintro _ _ ⟨rfl, I1, rfl, hq, hfl⟩
  have hB1 := hB.qt hq
  have hm1 := AbM.qt hB hm hq
  have hO1 := hq.off
  obtain ⟨_, _, l1, l2, _⟩ := hfl
  have hst := stkM_e l1 l2
  have n1 : c + 5 ≠ c + 6 := by omega
  refine am_aload_n (q := 50) dX2_hit_49 rfl rfl ?_
  refine am_aload_n (q := 51) dX2_hit_50 rfl rfl ?_
  refine cm_getR (q := 54) dX2_hit_51 flX2_28 rfl (by assumption) (by assumption) rfl ?_
  refine cm_getI (q := 57) dX2_hit_54 flX2_241 rfl (by assumption) rfl ?_
  refine cm_putI (q := 60) dX2_hit_57 flX2_87 rfl (Or.inl rfl) (Or.inl rfl) (by assumption) rfl ?_
  refine am_aload_n (q := 61) dX2_hit_60 rfl rfl ?_
  refine am_aload_n (q := 62) dX2_hit_61 rfl rfl ?_
  refine cm_getR (q := 65) dX2_hit_62 flX2_28 rfl (by assumption) (by assumption) rfl ?_
  refine cm_getI (q := 68) dX2_hit_65 flX2_242 rfl (by assumption) rfl ?_
  -- the height
  rw [up2_a (by omega)]
  generalize I1 (c + 7) 1 = h at hst ⊢
  generalize I1 (c + 7) 2 = b at hst ⊢
  have hB2 := hB1.upG (j := 14) (v := h) (by decide)
  have hm2 := AbM.setG (j := 1) (v := h) hB1 hm1 (by decide)
  have hO2 := hO1.up (a := c) (j := 14) (v := h) (by omega)
  generalize up2 I1 c 14 h = I2 at hB2 hm2 hO2 ⊢
  refine cm_putI (q := 71) dX2_hit_68 flX2_90 rfl (Or.inl rfl) (Or.inl rfl) (by assumption) rfl ?_
  refine am_aload_n (q := 72) dX2_hit_71 rfl rfl ?_
  refine am_dup (q := 73) dX2_hit_72 rfl rfl ?_
  refine cm_getI (q := 76) dX2_hit_73 flX2_93 rfl (by assumption) rfl ?_
  have hB3 := hB2.upG (j := 15) (v := b) (by decide)
  have hm3 := AbM.setG (j := 2) (v := b) hB2 hm2 (by decide)
  have hO3 := hO2.up (a := c) (j := 15) (v := b) (by omega)
  generalize up2 I2 c 15 b = I3 at hB3 hm3 hO3 ⊢
  rw [show I3 c 16 = m.g 3 from hm3.2.2.2.1 3 (by decide)]
  refine am_iconst (q := 77) (v := 1) dX2_hit_76 kc_i1 rfl ?_
  refine am_iadd (q := 78) dX2_hit_77 rfl ?_
  refine cm_putI (q := 81) dX2_hit_78 flX2_93 rfl (Or.inl rfl) (Or.inl rfl) (by assumption) rfl ?_
  refine am_aload_n (q := 82) dX2_hit_81 rfl rfl ?_
  refine am_dup (q := 83) dX2_hit_82 rfl rfl ?_
  refine cm_getI (q := 86) dX2_hit_83 flX2_96 rfl (by assumption) rfl ?_
  refine am_aload_n (q := 87) dX2_hit_86 rfl rfl ?_
  refine cm_getI (q := 90) dX2_hit_87 flX2_90 rfl (by assumption) rfl ?_
  have hB4 := hB3.upG (j := 16) (v := m.g 3 + 1) (by decide)
  have hm4 := AbM.setG (j := 3) (v := m.g 3 + 1) hB3 hm3 (by decide)
  have hO4 := hO3.up (a := c) (j := 16) (v := m.g 3 + 1) (by omega)
  generalize up2 I3 c 16 (m.g 3 + 1) = I4 at hB4 hm4 hO4 ⊢
  rw [show I4 c 17 = m.g 4 from hm4.2.2.2.1 4 (by decide), show I4 c 15 = b from hm4.2.2.2.1 2 (by decide)]
  refine am_iadd (q := 91) dX2_hit_90 rfl ?_
  refine cm_putI (q := 94) dX2_hit_91 flX2_96 rfl (Or.inl rfl) (Or.inl rfl) (by assumption) rfl ?_
  refine am_aload_n (q := 95) dX2_hit_94 rfl rfl ?_
  refine cm_getR (q := 98) dX2_hit_95 flX2_21 rfl (by assumption) (by assumption) rfl ?_
  refine am_aload_n (q := 99) dX2_hit_98 rfl rfl ?_
  refine cm_getI (q := 102) dX2_hit_99 flX2_87 rfl (by assumption) rfl ?_
  have hB5 := hB4.upG (j := 17) (v := m.g 4 + b) (by decide)
  have hm5 := AbM.setG (j := 4) (v := m.g 4 + b) hB4 hm4 (by decide)
  have hO5 := hO4.up (a := c) (j := 17) (v := m.g 4 + b) (by omega)
  generalize up2 I4 c 17 (m.g 4 + b) = I5 at hB5 hm5 hO5 ⊢
  rw [show I5 c 14 = h from hm5.2.2.2.1 1 (by decide)]
  refine cm_call0 (q := 105) (As := [_]) hG dX2_hit_102 mlX2_243 rfl (by assumption) ⟨_, _, rfl⟩ (Nat.le_of_ble_eq_true rfl) (Nat.le_of_ble_eq_true rfl) (Nat.le_of_ble_eq_true rfl) (Nat.le_of_ble_eq_true rfl) (k_X0_add kb rb kb6 lb6 n1) rfl ?_
  rintro _ _ ⟨rfl, rfl⟩
  refine k_nm (P := fun I6 => MW G mX2_hit 4 105 _ _ (mw S I6 J R) _) _ ?_
  intro I6 hI6
  have hm6 := AbM.setB hB5 hm5 hI6
  have hB6 : AbB I6 c B := hB5.cg fun x j q => by
    rw [hI6, if_neg, if_neg, if_neg]
    · rintro ⟨rfl, rfl⟩
      rcases q with q | q | q | q | ⟨k, hk, q⟩ | q | q <;> omega
    · rintro ⟨rfl, _⟩
      rcases q with q | q | q | q | ⟨k, hk, q⟩ | q | q <;> omega
    · rintro ⟨rfl, rfl⟩
      rcases q with q | q | q | q | ⟨k, hk, q⟩ | q | q <;> omega
  have hO6 : OffC c I I6 := fun x j q => by
    rw [hI6, if_neg (by omega), if_neg (by omega), if_neg (by omega)]
    exact hO5 x j q
  refine k_hit1 hG hct hB6 hm6 hf hr0 (h := h) (b := b) rfl rfl ?_
  intro I7 q1 q2 q3
  refine ⟨_, rfl, rfl, I7, rfl, q1, ?_, hO6.tr q3⟩
  unfold hitM
  rw [hst]
  exact q2
end Hit
end
section
theorem kc_i2 : Int32.ofInt 2 = 2 := by decide +kernel
theorem dX2_fistInRow_0 : decode cX2_fistInRow 0 = .ok (.iload_n 1, 1) := by decide +kernel
theorem dX2_fistInRow_1 : decode cX2_fistInRow 1 = .ok (.ifCond .lt 42, 3) := by decide +kernel
theorem dX2_fistInRow_4 : decode cX2_fistInRow 4 = .ok (.iload_n 1, 1) := by decide +kernel
theorem dX2_fistInRow_5 : decode cX2_fistInRow 5 = .ok (.aload_n 0, 1) := by decide +kernel
theorem dX2_fistInRow_6 : decode cX2_fistInRow 6 = .ok (.getfield 56, 3) := by decide +kernel
theorem dX2_fistInRow_9 : decode cX2_fistInRow 9 = .ok (.arraylength, 1) := by decide +kernel
theorem dX2_fistInRow_10 : decode cX2_fistInRow 10 = .ok (.if_icmp .ge 33, 3) := by decide +kernel
theorem dX2_fistInRow_13 : decode cX2_fistInRow 13 = .ok (.aload_n 0, 1) := by decide +kernel
theorem dX2_fistInRow_14 : decode cX2_fistInRow 14 = .ok (.aload_n 0, 1) := by decide +kernel
theorem dX2_fistInRow_15 : decode cX2_fistInRow 15 = .ok (.getfield 56, 3) := by decide +kernel
theorem dX2_fistInRow_18 : decode cX2_fistInRow 18 = .ok (.iload_n 1, 1) := by decide +kernel
theorem dX2_fistInRow_19 : decode cX2_fistInRow 19 = .ok (.iaload, 1) := by decide +kernel
theorem dX2_fistInRow_20 : decode cX2_fistInRow 20 = .ok (.invokevirtual 212, 3) := by decide +kernel
theorem dX2_fistInRow_23 : decode cX2_fistInRow 23 = .ok (.ifCond .eq 20, 3) := by decide +kernel
theorem dX2_fistInRow_26 : decode cX2_fistInRow 26 = .ok (.aload_n 0, 1) := by decide +kernel
theorem dX2_fistInRow_27 : decode cX2_fistInRow 27 = .ok (.getfield 52, 3) := by decide +kernel
theorem dX2_fistInRow_30 : decode cX2_fistInRow 30 = .ok (.aload_n 0, 1) := by decide +kernel
theorem dX2_fistInRow_31 : decode cX2_fistInRow 31 = .ok (.getfield 56, 3) := by decide +kernel
theorem dX2_fistInRow_34 : decode cX2_fistInRow 34 = .ok (.iload_n 1, 1) := by decide +kernel
theorem dX2_fistInRow_35 : decode cX2_fistInRow 35 = .ok (.iaload, 1) := by decide +kernel
theorem dX2_fistInRow_36 : decode cX2_fistInRow 36 = .ok (.aaload, 1) := by decide +kernel
theorem dX2_fistInRow_37 : decode cX2_fistInRow 37 = .ok (.getfield 215, 3) := by decide +kernel
theorem dX2_fistInRow_40 : decode cX2_fistInRow 40 = .ok (.goto 4, 3) := by decide +kernel
theorem dX2_fistInRow_44 : decode cX2_fistInRow 44 = .ok (.ireturn, 1) := by decide +kernel
theorem dX2_takeTurns_0 : decode cX2_takeTurns 0 = .ok (.iconst 0, 1) := by decide +kernel
theorem dX2_takeTurns_1 : decode cX2_takeTurns 1 = .ok (.istore_n 1, 1) := by decide +kernel
theorem dX2_takeTurns_2 : decode cX2_takeTurns 2 = .ok (.iload_n 1, 1) := by decide +kernel
theorem dX2_takeTurns_3 : decode cX2_takeTurns 3 = .ok (.aload_n 0, 1) := by decide +kernel
theorem dX2_takeTurns_4 : decode cX2_takeTurns 4 = .ok (.getfield 81, 3) := by decide +kernel
theorem dX2_takeTurns_7 : decode cX2_takeTurns 7 = .ok (.if_icmp .ge 68, 3) := by decide +kernel
theorem dX2_takeTurns_10 : decode cX2_takeTurns 10 = .ok (.iload_n 1, 1) := by decide +kernel
theorem dX2_takeTurns_11 : decode cX2_takeTurns 11 = .ok (.aload_n 0, 1) := by decide +kernel
theorem dX2_takeTurns_12 : decode cX2_takeTurns 12 = .ok (.getfield 56, 3) := by decide +kernel
theorem dX2_takeTurns_15 : decode cX2_takeTurns 15 = .ok (.arraylength, 1) := by decide +kernel
theorem dX2_takeTurns_16 : decode cX2_takeTurns 16 = .ok (.if_icmp .ge 59, 3) := by decide +kernel
theorem dX2_takeTurns_19 : decode cX2_takeTurns 19 = .ok (.aload_n 0, 1) := by decide +kernel
theorem dX2_takeTurns_20 : decode cX2_takeTurns 20 = .ok (.getfield 56, 3) := by decide +kernel
theorem dX2_takeTurns_23 : decode cX2_takeTurns 23 = .ok (.iload_n 1, 1) := by decide +kernel
theorem dX2_takeTurns_24 : decode cX2_takeTurns 24 = .ok (.iaload, 1) := by decide +kernel
theorem dX2_takeTurns_25 : decode cX2_takeTurns 25 = .ok (.istore_n 2, 1) := by decide +kernel
theorem dX2_takeTurns_26 : decode cX2_takeTurns 26 = .ok (.aload_n 0, 1) := by decide +kernel
theorem dX2_takeTurns_27 : decode cX2_takeTurns 27 = .ok (.iload_n 2, 1) := by decide +kernel
theorem dX2_takeTurns_28 : decode cX2_takeTurns 28 = .ok (.invokevirtual 212, 3) := by decide +kernel
theorem dX2_takeTurns_31 : decode cX2_takeTurns 31 = .ok (.ifCond .eq 38, 3) := by decide +kernel
theorem dX2_takeTurns_34 : decode cX2_takeTurns 34 = .ok (.aload_n 0, 1) := by decide +kernel
theorem dX2_takeTurns_35 : decode cX2_takeTurns 35 = .ok (.aload_n 0, 1) := by decide +kernel
theorem dX2_takeTurns_36 : decode cX2_takeTurns 36 = .ok (.getfield 52, 3) := by decide +kernel
theorem dX2_takeTurns_39 : decode cX2_takeTurns 39 = .ok (.iload_n 2, 1) := by decide +kernel
theorem dX2_takeTurns_40 : decode cX2_takeTurns 40 = .ok (.aaload, 1) := by decide +kernel
theorem dX2_takeTurns_41 : decode cX2_takeTurns 41 = .ok (.invokevirtual 224, 3) := by decide +kernel
theorem dX2_takeTurns_44 : decode cX2_takeTurns 44 = .ok (.ifCond .eq 25, 3) := by decide +kernel
theorem dX2_takeTurns_47 : decode cX2_takeTurns 47 = .ok (.aload_n 0, 1) := by decide +kernel
theorem dX2_takeTurns_48 : decode cX2_takeTurns 48 = .ok (.aload_n 0, 1) := by decide +kernel
theorem dX2_takeTurns_49 : decode cX2_takeTurns 49 = .ok (.getfield 52, 3) := by decide +kernel
theorem dX2_takeTurns_52 : decode cX2_takeTurns 52 = .ok (.iload_n 2, 1) := by decide +kernel
theorem dX2_takeTurns_53 : decode cX2_takeTurns 53 = .ok (.aaload, 1) := by decide +kernel
theorem dX2_takeTurns_54 : decode cX2_takeTurns 54 = .ok (.getfield 215, 3) := by decide +kernel
theorem dX2_takeTurns_57 : decode cX2_takeTurns 57 = .ok (.aload_n 0, 1) := by decide +kernel
theorem dX2_takeTurns_58 : decode cX2_takeTurns 58 = .ok (.getfield 52, 3) := by decide +kernel
theorem dX2_takeTurns_61 : decode cX2_takeTurns 61 = .ok (.iload_n 2, 1) := by decide +kernel
theorem dX2_takeTurns_62 : decode cX2_takeTurns 62 = .ok (.aaload, 1) := by decide +kernel
theorem dX2_takeTurns_63 : decode cX2_takeTurns 63 = .ok (.getfield 218, 3) := by decide +kernel
theorem dX2_takeTurns_66 : decode cX2_takeTurns 66 = .ok (.invokevirtual 266, 3) := by decide +kernel
theorem dX2_takeTurns_69 : decode cX2_takeTurns 69 = .ok (.iinc 1 1, 3) := by decide +kernel
theorem dX2_takeTurns_72 : decode cX2_takeTurns 72 = .ok (.goto (-70), 3) := by decide +kernel
theorem dX2_takeTurns_75 : decode cX2_takeTurns 75 = .ok (.return_, 1) := by decide +kernel
theorem dX2_useElbows_0 : decode cX2_useElbows 0 = .ok (.iconst 1, 1) := by decide +kernel
theorem dX2_useElbows_1 : decode cX2_useElbows 1 = .ok (.istore_n 1, 1) := by decide +kernel
theorem dX2_useElbows_2 : decode cX2_useElbows 2 = .ok (.iload_n 1, 1) := by decide +kernel
theorem dX2_useElbows_3 : decode cX2_useElbows 3 = .ok (.aload_n 0, 1) := by decide +kernel
theorem dX2_useElbows_4 : decode cX2_useElbows 4 = .ok (.getfield 81, 3) := by decide +kernel
theorem dX2_useElbows_7 : decode cX2_useElbows 7 = .ok (.if_icmp .ge 130, 3) := by decide +kernel
theorem dX2_useElbows_10 : decode cX2_useElbows 10 = .ok (.iload_n 1, 1) := by decide +kernel
theorem dX2_useElbows_11 : decode cX2_useElbows 11 = .ok (.aload_n 0, 1) := by decide +kernel
theorem dX2_useElbows_12 : decode cX2_useElbows 12 = .ok (.getfield 56, 3) := by decide +kernel
theorem dX2_useElbows_15 : decode cX2_useElbows 15 = .ok (.arraylength, 1) := by decide +kernel
theorem dX2_useElbows_16 : decode cX2_useElbows 16 = .ok (.if_icmp .ge 121, 3) := by decide +kernel
theorem dX2_useElbows_19 : decode cX2_useElbows 19 = .ok (.aload_n 0, 1) := by decide +kernel
theorem dX2_useElbows_20 : decode cX2_useElbows 20 = .ok (.iload_n 1, 1) := by decide +kernel
theorem dX2_useElbows_21 : decode cX2_useElbows 21 = .ok (.invokevirtual 263, 3) := by decide +kernel
theorem dX2_useElbows_24 : decode cX2_useElbows 24 = .ok (.istore_n 2, 1) := by decide +kernel
theorem dX2_useElbows_25 : decode cX2_useElbows 25 = .ok (.aload_n 0, 1) := by decide +kernel
theorem dX2_useElbows_26 : decode cX2_useElbows 26 = .ok (.iload_n 1, 1) := by decide +kernel
theorem dX2_useElbows_27 : decode cX2_useElbows 27 = .ok (.iconst 1, 1) := by decide +kernel
theorem dX2_useElbows_28 : decode cX2_useElbows 28 = .ok (.isub, 1) := by decide +kernel
theorem dX2_useElbows_29 : decode cX2_useElbows 29 = .ok (.invokevirtual 263, 3) := by decide +kernel
theorem dX2_useElbows_32 : decode cX2_useElbows 32 = .ok (.istore_n 3, 1) := by decide +kernel
theorem dX2_useElbows_33 : decode cX2_useElbows 33 = .ok (.aload_n 0, 1) := by decide +kernel
theorem dX2_useElbows_34 : decode cX2_useElbows 34 = .ok (.iload_n 2, 1) := by decide +kernel
theorem dX2_useElbows_35 : decode cX2_useElbows 35 = .ok (.invokevirtual 167, 3) := by decide +kernel
theorem dX2_useElbows_38 : decode cX2_useElbows 38 = .ok (.ifCond .eq 15, 3) := by decide +kernel
theorem dX2_useElbows_41 : decode cX2_useElbows 41 = .ok (.aload_n 0, 1) := by decide +kernel
theorem dX2_useElbows_42 : decode cX2_useElbows 42 = .ok (.iload_n 3, 1) := by decide +kernel
theorem dX2_useElbows_43 : decode cX2_useElbows 43 = .ok (.invokevirtual 167, 3) := by decide +kernel
theorem dX2_useElbows_46 : decode cX2_useElbows 46 = .ok (.ifCond .eq 7, 3) := by decide +kernel
theorem dX2_useElbows_49 : decode cX2_useElbows 49 = .ok (.iconst 1, 1) := by decide +kernel
theorem dX2_useElbows_50 : decode cX2_useElbows 50 = .ok (.goto 4, 3) := by decide +kernel
theorem dX2_useElbows_54 : decode cX2_useElbows 54 = .ok (.istore 4, 2) := by decide +kernel
theorem dX2_useElbows_56 : decode cX2_useElbows 56 = .ok (.iload 4, 2) := by decide +kernel
theorem dX2_useElbows_58 : decode cX2_useElbows 58 = .ok (.ifCond .eq 73, 3) := by decide +kernel
theorem dX2_useElbows_61 : decode cX2_useElbows 61 = .ok (.aload_n 0, 1) := by decide +kernel
theorem dX2_useElbows_62 : decode cX2_useElbows 62 = .ok (.getfield 40, 3) := by decide +kernel
theorem dX2_useElbows_65 : decode cX2_useElbows 65 = .ok (.iload_n 2, 1) := by decide +kernel
theorem dX2_useElbows_66 : decode cX2_useElbows 66 = .ok (.aaload, 1) := by decide +kernel
theorem dX2_useElbows_67 : decode cX2_useElbows 67 = .ok (.getfield 176, 3) := by decide +kernel
theorem dX2_useElbows_70 : decode cX2_useElbows 70 = .ok (.aload_n 0, 1) := by decide +kernel
theorem dX2_useElbows_71 : decode cX2_useElbows 71 = .ok (.getfield 40, 3) := by decide +kernel
theorem dX2_useElbows_74 : decode cX2_useElbows 74 = .ok (.iload_n 3, 1) := by decide +kernel
theorem dX2_useElbows_75 : decode cX2_useElbows 75 = .ok (.aaload, 1) := by decide +kernel
theorem dX2_useElbows_76 : decode cX2_useElbows 76 = .ok (.getfield 176, 3) := by decide +kernel
theorem dX2_useElbows_79 : decode cX2_useElbows 79 = .ok (.iconst 2, 1) := by decide +kernel
theorem dX2_useElbows_80 : decode cX2_useElbows 80 = .ok (.iadd, 1) := by decide +kernel
theorem dX2_useElbows_81 : decode cX2_useElbows 81 = .ok (.if_icmp .le 50, 3) := by decide +kernel
theorem dX2_useElbows_84 : decode cX2_useElbows 84 = .ok (.aload_n 0, 1) := by decide +kernel
theorem dX2_useElbows_85 : decode cX2_useElbows 85 = .ok (.getfield 56, 3) := by decide +kernel
theorem dX2_useElbows_88 : decode cX2_useElbows 88 = .ok (.iload_n 1, 1) := by decide +kernel
theorem dX2_useElbows_89 : decode cX2_useElbows 89 = .ok (.iaload, 1) := by decide +kernel
theorem dX2_useElbows_90 : decode cX2_useElbows 90 = .ok (.istore 5, 2) := by decide +kernel
theorem dX2_useElbows_92 : decode cX2_useElbows 92 = .ok (.aload_n 0, 1) := by decide +kernel
theorem dX2_useElbows_93 : decode cX2_useElbows 93 = .ok (.getfield 56, 3) := by decide +kernel
theorem dX2_useElbows_96 : decode cX2_useElbows 96 = .ok (.iload_n 1, 1) := by decide +kernel
theorem dX2_useElbows_97 : decode cX2_useElbows 97 = .ok (.aload_n 0, 1) := by decide +kernel
theorem dX2_useElbows_98 : decode cX2_useElbows 98 = .ok (.getfield 56, 3) := by decide +kernel
theorem dX2_useElbows_101 : decode cX2_useElbows 101 = .ok (.iload_n 1, 1) := by decide +kernel
theorem dX2_useElbows_102 : decode cX2_useElbows 102 = .ok (.iconst 1, 1) := by decide +kernel
theorem dX2_useElbows_103 : decode cX2_useElbows 103 = .ok (.isub, 1) := by decide +kernel
theorem dX2_useElbows_104 : decode cX2_useElbows 104 = .ok (.iaload, 1) := by decide +kernel
theorem dX2_useElbows_105 : decode cX2_useElbows 105 = .ok (.iastore, 1) := by decide +kernel
theorem dX2_useElbows_106 : decode cX2_useElbows 106 = .ok (.aload_n 0, 1) := by decide +kernel
theorem dX2_useElbows_107 : decode cX2_useElbows 107 = .ok (.getfield 56, 3) := by decide +kernel
theorem dX2_useElbows_110 : decode cX2_useElbows 110 = .ok (.iload_n 1, 1) := by decide +kernel
theorem dX2_useElbows_111 : decode cX2_useElbows 111 = .ok (.iconst 1, 1) := by decide +kernel
theorem dX2_useElbows_112 : decode cX2_useElbows 112 = .ok (.isub, 1) := by decide +kernel
theorem dX2_useElbows_113 : decode cX2_useElbows 113 = .ok (.iload 5, 2) := by decide +kernel
theorem dX2_useElbows_115 : decode cX2_useElbows 115 = .ok (.iastore, 1) := by decide +kernel
theorem dX2_useElbows_116 : decode cX2_useElbows 116 = .ok (.aload_n 0, 1) := by decide +kernel
theorem dX2_useElbows_117 : decode cX2_useElbows 117 = .ok (.getfield 40, 3) := by decide +kernel
theorem dX2_useElbows_120 : decode cX2_useElbows 120 = .ok (.iload_n 2, 1) := by decide +kernel
theorem dX2_useElbows_121 : decode cX2_useElbows 121 = .ok (.aaload, 1) := by decide +kernel
theorem dX2_useElbows_122 : decode cX2_useElbows 122 = .ok (.dup, 1) := by decide +kernel
theorem dX2_useElbows_123 : decode cX2_useElbows 123 = .ok (.getfield 176, 3) := by decide +kernel
theorem dX2_useElbows_126 : decode cX2_useElbows 126 = .ok (.iconst 1, 1) := by decide +kernel
theorem dX2_useElbows_127 : decode cX2_useElbows 127 = .ok (.isub, 1) := by decide +kernel
theorem dX2_useElbows_128 : decode cX2_useElbows 128 = .ok (.putfield 176, 3) := by decide +kernel
theorem dX2_useElbows_131 : decode cX2_useElbows 131 = .ok (.iinc 1 1, 3) := by decide +kernel
theorem dX2_useElbows_134 : decode cX2_useElbows 134 = .ok (.goto (-132), 3) := by decide +kernel
theorem dX2_useElbows_137 : decode cX2_useElbows 137 = .ok (.return_, 1) := by decide +kernel
/-! elbows, turns, rounds -/
theorem k_nIs (i : Nat) : nI (i + 1) - 1 = nI i := by
  rw [← nI_1, Int32.add_sub_cancel]
theorem AbM.setW {c : Nat} {I : Nat → Nat → Int32} {B : BS} {m : MS} {k t : Nat} (h : AbM I c B m) (ht : t < B.nT) (hk : k < 2 ^ 31) : AbM (up2 I (c + 13) k (nI t)) c B (mkMS m.fist m.rail m.prize m.g (up1 m.row k t) m.bd m.nb) := by
  obtain ⟨a1, a2, a3, a4, a5, a6, a7, a8, a9, a10, a11⟩ := h
  refine ⟨?_, ?_, ?_, ?_, ?_, ?_, ?_, ?_, a9, a10, ?_⟩
  · intro x hx y hy
    rw [up2_a (by omega)]; exact a1 x hx y hy
  · intro x hx y hy
    rw [up2_a (by omega)]; exact a2 x hx y hy
  · intro x hx y hy
    rw [up2_a (by omega)]; exact a3 x hx y hy
  · intro y hy
    rw [up2_a (by omega)]; exact a4 y hy
  · rw [up2_a (by omega)]; exact a5
  · intro y hy
    show up2 I _ _ _ _ _ = nI (up1 _ _ _ _) ∧ up1 _ _ _ _ < _
    rw [up2_at, up1_at]
    by_cases e : y = k
    · rw [if_pos e, if_pos ⟨rfl, e⟩]
      exact ⟨rfl, ht⟩
    · rw [if_neg e, if_neg (fun q => e q.2)]
      exact a6 y hy
  · intro k hk
    rw [up2_a (by omega)]; exact a7 k hk
  · rw [up2_a (by omega)]; exact a8
  · intro x hx
    rw [up2_a (by omega)]; exact a11 x hx
section Play
variable {G : Gp} {S : AMem} {I : Nat → Nat → Int32} {J : Nat → Nat → Int64} {R : Nat → Nat → Option Nat} {c : Nat} {B : BS} {m : MS}
theorem k_X2_fistInRow {k : Nat} (hG : okG G) (hct : CT S R c) (hB : AbB I c B) (hm : AbM I c B m) (hk : k < B.nT) : Fn G mX2_fistInRow 1 [vR c, vI (nI k)] (mw S I J R) (fun rr M1 => rr = some (vI (nI (B.tF (m.row k)))) ∧ M1 = mw S I J R) := by
  have hct2 := hct
  obtain ⟨kc, rc0, rc1, rc2, rc3, rc4, rc5, rc6, rc7, ⟨kd, rd0, rd1, rd2, kd2, ld2, kd3, ld3, kd4, ld4⟩, ⟨kb, rb, kb6, lb6⟩, ⟨kf, rf, kf8, lf8⟩, ⟨kr, lr, hr⟩, ⟨kfi, lfi, hfi⟩, ⟨kp, lp, hpz⟩, ⟨kt, lt, htu⟩, kw, lw⟩ := id hct2
  obtain ⟨_, _, _, ⟨u3, u4⟩, _, htr, _⟩ := hB
  obtain ⟨_, _, _, _, _, a1, _⟩ := hm
  have hin : vp_in (nI k) (S.ln (c + 13)) := by rw [lw]; exact vp_in_nI (by omega) (by decide)
  obtain ⟨e1, e2⟩ := a1 k hk
  obtain ⟨t1, t2⟩ := htu (m.row k) (by omega)
  have hin2 : vp_in (nI (m.row k)) (S.ln (c + 12)) := by rw [lt]; exact vp_in_nI (by omega) (by decide)
  have hR : R (c + 12) (nI (m.row k)).toNatClampNeg = some (c + 38 + m.row k) := by rw [nI_clamp (by omega)]; exact t1
  refine am_iload_n (q := 1) dX2_fistInRow_0 rfl rfl ?_
  refine am_if_lt (tgt := 43) (q := 4) dX2_fistInRow_1 rfl rfl (fun hz => absurd hz (nI_pos (by omega))) (fun _ => ?_)
  refine am_iload_n (q := 5) dX2_fistInRow_4 rfl rfl ?_
  refine am_aload_n (q := 6) dX2_fistInRow_5 rfl rfl ?_
  refine cm_getR (q := 9) dX2_fistInRow_6 flX2_56 rfl (by assumption) (by assumption) rfl ?_
  refine cm_alenI (q := 10) dX2_fistInRow_9 (by assumption) (by rw [lw] : nI (S.ln (c + 13)) = nI 20) rfl ?_
  refine am_icmp_ge (tgt := 43) (q := 13) dX2_fistInRow_10 rfl rfl (fun hz => absurd hz (nI_ge (by omega) (by decide))) (fun _ => ?_)
  refine am_aload_n (q := 14) dX2_fistInRow_13 rfl rfl ?_
  refine am_aload_n (q := 15) dX2_fistInRow_14 rfl rfl ?_
  refine cm_getR (q := 18) dX2_fistInRow_15 flX2_56 rfl (by assumption) (by assumption) rfl ?_
  refine am_iload_n (q := 19) dX2_fistInRow_18 rfl rfl ?_
  refine cm_iaload (q := 20) dX2_fistInRow_19 (by assumption) hin rfl ?_
  rw [nI_clamp (by omega), e1]
  refine cm_call0 (q := 23) (As := [_]) hG dX2_fistInRow_20 mlX2_212 rfl (by assumption) ⟨_, _, rfl⟩ (Nat.le_of_ble_eq_true rfl) (Nat.le_of_ble_eq_true rfl) (Nat.le_of_ble_eq_true rfl) (Nat.le_of_ble_eq_true rfl) (k_X2_hasTurn hct u3 u4) rfl ?_
  rintro _ _ ⟨rfl, rfl⟩
  refine am_if_eq (tgt := 43) (q := 26) dX2_fistInRow_23 rfl rfl (fun hz => absurd hz (bI_n0.mpr (k_inr e2 (by omega)))) (fun _ => ?_)
  refine am_aload_n (q := 27) dX2_fistInRow_26 rfl rfl ?_
  refine cm_getR (q := 30) dX2_fistInRow_27 flX2_52 rfl (by assumption) (by assumption) rfl ?_
  refine am_aload_n (q := 31) dX2_fistInRow_30 rfl rfl ?_
  refine cm_getR (q := 34) dX2_fistInRow_31 flX2_56 rfl (by assumption) (by assumption) rfl ?_
  refine am_iload_n (q := 35) dX2_fistInRow_34 rfl rfl ?_
  refine cm_iaload (q := 36) dX2_fistInRow_35 (by assumption) hin rfl ?_
  rw [nI_clamp (by omega), e1]
  refine cm_aaloadK (q := 37) dX2_fistInRow_36 (by assumption) (by decide) hin2 hR rfl ?_
  refine cm_getI (q := 40) dX2_fistInRow_37 flX2_215 rfl (by assumption) rfl ?_
  rw [(htr _ e2).1]
  refine am_goto (tgt := 44) dX2_fistInRow_40 rfl ?_
  exact am_iret dX2_fistInRow_44 rfl rfl ⟨_, rfl, rfl, rfl⟩
set_option maxHeartbeats 4000000 in
theorem k_X2_takeTurns (hG : okG G) (hct : CT S R c) (hB : AbB I c B) (hm : AbM I c B m) : Fn G mX2_takeTurns 5 [vR c] (mw S I J R) (fun rr M1 => rr = none ∧ ∃ I1, M1 = mw S I1 J R ∧ AbB I1 c B ∧ AbM I1 c B (trnM B 0 B.nT m) ∧ OffC c I I1) := by
  have hct2 := hct
  obtain ⟨kc, rc0, rc1, rc2, rc3, rc4, rc5, rc6, rc7, ⟨kd, rd0, rd1, rd2, kd2, ld2, kd3, ld3, kd4, ld4⟩, ⟨kb, rb, kb6, lb6⟩, ⟨kf, rf, kf8, lf8⟩, ⟨kr, lr, hr⟩, ⟨kfi, lfi, hfi⟩, ⟨kp, lp, hpz⟩, ⟨kt, lt, htu⟩, kw, lw⟩ := id hct2
  have u4 : B.nT ≤ 20 := hB.2.2.2.1.2
  refine am_iconst (q := 1) (v := 0) dX2_takeTurns_0 kc_i0 rfl ?_
  refine am_istore_n (q := 2) (ls1 := [_, _, _]) dX2_takeTurns_1 (Nat.le_of_ble_eq_true rfl) rfl rfl ?_
  refine k_loop (σ := (Nat → Nat → Int32) × MS × Option AV) (n := B.nT) (Inv := fun i s => trnM B i (B.nT - i) s.2.1 = trnM B 0 B.nT m ∧ AbB s.1 c B ∧ AbM s.1 c B s.2.1 ∧ OffC c I s.1) (W := fun i s => MW G mX2_takeTurns 5 2 [some (vR c), some (vI (nI i)), s.2.2] [] (mw S s.1 J R) _) ?_ ?_ 0 (I, m, none) (Nat.zero_le _) ⟨rfl, hB, hm, OffC.rf⟩
  · rintro i ⟨I0, m0, x2⟩ hi ⟨hinv, hB0, hm0, hO0⟩ ih
    dsimp only at hinv hB0 hm0 hO0 ih ⊢
    have u3 : I0 c 12 = nI B.nT := hB0.2.2.2.1.1
    have hin : vp_in (nI i) (S.ln (c + 13)) := by rw [lw]; exact vp_in_nI (by omega) (by decide)
    obtain ⟨e1, e2⟩ := hm0.2.2.2.2.2.1 i hi
    obtain ⟨t1, t2⟩ := htu (m0.row i) (by omega)
    have hin2 : vp_in (nI (m0.row i)) (S.ln (c + 12)) := by rw [lt]; exact vp_in_nI (by omega) (by decide)
    have hR : R (c + 12) (nI (m0.row i)).toNatClampNeg = some (c + 38 + m0.row i) := by rw [nI_clamp (by omega)]; exact t1
    rw [show B.nT - i = (B.nT - (i + 1)) + 1 by omega, trnM] at hinv
    refine am_iload_n (q := 3) dX2_takeTurns_2 rfl rfl ?_
    refine am_aload_n (q := 4) dX2_takeTurns_3 rfl rfl ?_
    refine cm_getI (q := 7) dX2_takeTurns_4 flX2_81 rfl (by assumption) rfl ?_
    rw [u3]
    refine am_icmp_ge (tgt := 75) (q := 10) dX2_takeTurns_7 rfl rfl (fun hz => absurd hz (nI_ge (by omega) (by omega))) (fun _ => ?_)
    refine am_iload_n (q := 11) dX2_takeTurns_10 rfl rfl ?_
    refine am_aload_n (q := 12) dX2_takeTurns_11 rfl rfl ?_
    refine cm_getR (q := 15) dX2_takeTurns_12 flX2_56 rfl (by assumption) (by assumption) rfl ?_
    refine cm_alenI (q := 16) dX2_takeTurns_15 (by assumption) (by rw [lw] : nI (S.ln (c + 13)) = nI 20) rfl ?_
    refine am_icmp_ge (tgt := 75) (q := 19) dX2_takeTurns_16 rfl rfl (fun hz => absurd hz (nI_ge (by omega) (by decide))) (fun _ => ?_)
    refine am_aload_n (q := 20) dX2_takeTurns_19 rfl rfl ?_
    refine cm_getR (q := 23) dX2_takeTurns_20 flX2_56 rfl (by assumption) (by assumption) rfl ?_
    refine am_iload_n (q := 24) dX2_takeTurns_23 rfl rfl ?_
    refine cm_iaload (q := 25) dX2_takeTurns_24 (by assumption) hin rfl ?_
    rw [nI_clamp (by omega), e1]
    refine am_istore_n (q := 26) (ls1 := [_, _, _]) dX2_takeTurns_25 (Nat.le_of_ble_eq_true rfl) rfl rfl ?_
    refine am_aload_n (q := 27) dX2_takeTurns_26 rfl rfl ?_
    refine am_iload_n (q := 28) dX2_takeTurns_27 rfl rfl ?_
    refine cm_call0 (q := 31) (As := [_]) hG dX2_takeTurns_28 mlX2_212 rfl (by assumption) ⟨_, _, rfl⟩ (Nat.le_of_ble_eq_true rfl) (Nat.le_of_ble_eq_true rfl) (Nat.le_of_ble_eq_true rfl) (Nat.le_of_ble_eq_true rfl) (k_X2_hasTurn hct u3 u4) rfl ?_
    rintro _ _ ⟨rfl, rfl⟩
    refine am_if_eq (tgt := 69) (q := 34) dX2_takeTurns_31 rfl rfl (fun hz => absurd hz (bI_n0.mpr (k_inr e2 (by omega)))) (fun _ => ?_)
    refine am_aload_n (q := 35) dX2_takeTurns_34 rfl rfl ?_
    refine am_aload_n (q := 36) dX2_takeTurns_35 rfl rfl ?_
    refine cm_getR (q := 39) dX2_takeTurns_36 flX2_52 rfl (by assumption) (by assumption) rfl ?_
    refine am_iload_n (q := 40) dX2_takeTurns_39 rfl rfl ?_
    refine cm_aaloadK (q := 41) dX2_takeTurns_40 (by assumption) (by decide) hin2 hR rfl ?_
    refine cm_call0 (q := 44) (As := [_]) hG dX2_takeTurns_41 mlX2_224 rfl (by assumption) ⟨_, _, rfl⟩ (Nat.le_of_ble_eq_true rfl) (Nat.le_of_ble_eq_true rfl) (Nat.le_of_ble_eq_true rfl) (Nat.le_of_ble_eq_true rfl) (k_X2_isDue hG hct hB0 hm0 e2) rfl ?_
    rintro _ _ ⟨v, rfl, hv, I1, rfl, hq⟩
    have hB1 := hB0.qt hq
    have hm1 := AbM.qt hB0 hm0 hq
    have hO1 := hO0.tr hq.off
    obtain ⟨w1, w2, w3, w4⟩ := hB1.2.2.2.2.2.1 (m0.row i) e2
    refine am_if_eq (tgt := 69) (q := 47) dX2_takeTurns_44 rfl rfl (fun hc => ?_) (fun hc => ?_)
    · rw [if_neg (fun q => hv.mpr q hc)] at hinv
      refine am_iincW (q := 72) (ls1 := [_, _, _]) (w := 1) dX2_takeTurns_69 rfl (Nat.le_of_ble_eq_true rfl) kc_i1 rfl rfl ?_
      refine am_goto (tgt := 2) dX2_takeTurns_72 rfl ?_
      rw [nI_1]
      exact ih (I1, m0, _) ⟨hinv, hB1, hm1, hO1⟩
    · rw [if_pos (hv.mp hc)] at hinv
      refine am_aload_n (q := 48) dX2_takeTurns_47 rfl rfl ?_
      refine am_aload_n (q := 49) dX2_takeTurns_48 rfl rfl ?_
      refine cm_getR (q := 52) dX2_takeTurns_49 flX2_52 rfl (by assumption) (by assumption) rfl ?_
      refine am_iload_n (q := 53) dX2_takeTurns_52 rfl rfl ?_
      refine cm_aaloadK (q := 54) dX2_takeTurns_53 (by assumption) (by decide) hin2 hR rfl ?_
      refine cm_getI (q := 57) dX2_takeTurns_54 flX2_215 rfl (by assumption) rfl ?_
      rw [w1]
      refine am_aload_n (q := 58) dX2_takeTurns_57 rfl rfl ?_
      refine cm_getR (q := 61) dX2_takeTurns_58 flX2_52 rfl (by assumption) (by assumption) rfl ?_
      refine am_iload_n (q := 62) dX2_takeTurns_61 rfl rfl ?_
      refine cm_aaloadK (q := 63) dX2_takeTurns_62 (by assumption) (by decide) hin2 hR rfl ?_
      refine cm_getI (q := 66) dX2_takeTurns_63 flX2_218 rfl (by assumption) rfl ?_
      rw [w3]
      refine cm_call0 (q := 69) (As := [_, _]) hG dX2_takeTurns_66 mlX2_266 rfl (by assumption) ⟨_, _, rfl⟩ (Nat.le_of_ble_eq_true rfl) (Nat.le_of_ble_eq_true rfl) (Nat.le_of_ble_eq_true rfl) (Nat.le_of_ble_eq_true rfl) (k_X2_hit hG hct hB1 hm1 w2 w4) rfl ?_
      rintro _ _ ⟨rfl, I2, rfl, hB2, hm2, hO2⟩
      refine am_iincW (q := 72) (ls1 := [_, _, _]) (w := 1) dX2_takeTurns_69 rfl (Nat.le_of_ble_eq_true rfl) kc_i1 rfl rfl ?_
      refine am_goto (tgt := 2) dX2_takeTurns_72 rfl ?_
      rw [nI_1]
      exact ih (I2, _, _) ⟨hinv, hB2, hm2, hO1.tr hO2⟩
  · rintro ⟨I0, m0, x2⟩ ⟨hinv, hB0, hm0, hO0⟩
    dsimp only at hinv hB0 hm0 hO0 ⊢
    rw [Nat.sub_self, trnM] at hinv
    rw [← hinv]
    refine am_iload_n (q := 3) dX2_takeTurns_2 rfl rfl ?_
    refine am_aload_n (q := 4) dX2_takeTurns_3 rfl rfl ?_
    refine cm_getI (q := 7) dX2_takeTurns_4 flX2_81 rfl (by assumption) rfl ?_
    rw [show I0 c 12 = nI B.nT from hB0.2.2.2.1.1]
    refine am_icmp_ge (tgt := 75) (q := 10) dX2_takeTurns_7 rfl rfl (fun _ => ?_) (fun hz => absurd (Int32.le_refl _) hz)
    exact am_ret dX2_takeTurns_75 rfl ⟨_, rfl, rfl, _, rfl, hB0, hm0, hO0⟩
set_option maxHeartbeats 4000000 in
theorem k_X2_useElbows (hG : okG G) (hct : CT S R c) (hB : AbB I c B) (hm : AbM I c B m) : Fn G mX2_useElbows 2 [vR c] (mw S I J R) (fun rr M1 => rr = none ∧ ∃ I1, M1 = mw S I1 J R ∧ AbB I1 c B ∧ AbM I1 c B (elbM B 1 (B.nT - 1) m) ∧ OffC c I I1) := by
  have hct2 := hct
  obtain ⟨kc, rc0, rc1, rc2, rc3, rc4, rc5, rc6, rc7, ⟨kd, rd0, rd1, rd2, kd2, ld2, kd3, ld3, kd4, ld4⟩, ⟨kb, rb, kb6, lb6⟩, ⟨kf, rf, kf8, lf8⟩, ⟨kr, lr, hr⟩, ⟨kfi, lfi, hfi⟩, ⟨kp, lp, hpz⟩, ⟨kt, lt, htu⟩, kw, lw⟩ := id hct2
  have u4 : B.nT ≤ 20 := hB.2.2.2.1.2
  have u5 : B.nF ≤ 8 := hB.2.1.2
  refine am_iconst (q := 1) (v := 1) dX2_useElbows_0 kc_i1 rfl ?_
  refine am_istore_n (q := 2) (ls1 := [_, _, _, _, _, _]) dX2_useElbows_1 (Nat.le_of_ble_eq_true rfl) rfl rfl ?_
  refine k_loop (σ := (Nat → Nat → Int32) × MS × Option AV × Option AV × Option AV × Option AV) (n := B.nT - 1) (Inv := fun i s => elbM B (i + 1) (B.nT - 1 - i) s.2.1 = elbM B 1 (B.nT - 1) m ∧ AbB s.1 c B ∧ AbM s.1 c B s.2.1 ∧ OffC c I s.1) (W := fun i s => MW G mX2_useElbows 2 2 [some (vR c), some (vI (nI (i + 1))), s.2.2.1, s.2.2.2.1, s.2.2.2.2.1, s.2.2.2.2.2] [] (mw S s.1 J R) _) ?_ ?_ 0 (I, m, none, none, none, none) (Nat.zero_le _) ⟨rfl, hB, hm, OffC.rf⟩
  · rintro i ⟨I0, m0, x2, x3, x4, x5⟩ hi ⟨hinv, hB0, hm0, hO0⟩ ih
    dsimp only at hinv hB0 hm0 hO0 ih ⊢
    have u3 : I0 c 12 = nI B.nT := hB0.2.2.2.1.1
    have v3 : I0 c 10 = nI B.nF := hB0.2.1.1
    have hin : vp_in (nI (i + 1)) (S.ln (c + 13)) := by rw [lw]; exact vp_in_nI (by omega) (by decide)
    have hin0 : vp_in (nI i) (S.ln (c + 13)) := by rw [lw]; exact vp_in_nI (by omega) (by decide)
    obtain ⟨e1, e2⟩ := hm0.2.2.2.2.2.1 (i + 1) (by omega)
    obtain ⟨e3, e4⟩ := hm0.2.2.2.2.2.1 i (by omega)
    obtain ⟨w1, w2, w3, w4⟩ := hB0.2.2.2.2.2.1 (m0.row (i + 1)) e2
    obtain ⟨y1, y2, y3, y4⟩ := hB0.2.2.2.2.2.1 (m0.row i) e4
    have i1 : I0 (c + 22 + B.tF (m0.row (i + 1))) 3 = m0.fist (B.tF (m0.row (i + 1))) 2 := hm0.1 _ w2 2 (by decide)
    have i2 : I0 (c + 22 + B.tF (m0.row i)) 3 = m0.fist (B.tF (m0.row i)) 2 := hm0.1 _ y2 2 (by decide)
    have hc0 : (nI i).toNatClampNeg = i := nI_clamp (by omega)
    have hc1 : (nI (i + 1)).toNatClampNeg = i + 1 := nI_clamp (by omega)
    obtain ⟨f1, f2⟩ := hfi (B.tF (m0.row (i + 1))) (by omega)
    obtain ⟨g1, g2⟩ := hfi (B.tF (m0.row i)) (by omega)
    have hinF : vp_in (nI (B.tF (m0.row (i + 1)))) (S.ln (c + 10)) := by rw [lfi]; exact vp_in_nI (by omega) (by decide)
    have hRF : R (c + 10) (nI (B.tF (m0.row (i + 1)))).toNatClampNeg = some (c + 22 + B.tF (m0.row (i + 1))) := by rw [nI_clamp (by omega)]; exact f1
    have hinG : vp_in (nI (B.tF (m0.row i))) (S.ln (c + 10)) := by rw [lfi]; exact vp_in_nI (by omega) (by decide)
    have hRG : R (c + 10) (nI (B.tF (m0.row i))).toNatClampNeg = some (c + 22 + B.tF (m0.row i)) := by rw [nI_clamp (by omega)]; exact g1
    rw [show B.nT - 1 - i = (B.nT - 1 - (i + 1)) + 1 by omega, elbM, show i + 1 - 1 = i by omega] at hinv
    refine am_iload_n (q := 3) dX2_useElbows_2 rfl rfl ?_
    refine am_aload_n (q := 4) dX2_useElbows_3 rfl rfl ?_
    refine cm_getI (q := 7) dX2_useElbows_4 flX2_81 rfl (by assumption) rfl ?_
    rw [u3]
    refine am_icmp_ge (tgt := 137) (q := 10) dX2_useElbows_7 rfl rfl (fun hz => absurd hz (nI_ge (by omega) (by omega))) (fun _ => ?_)
    refine am_iload_n (q := 11) dX2_useElbows_10 rfl rfl ?_
    refine am_aload_n (q := 12) dX2_useElbows_11 rfl rfl ?_
    refine cm_getR (q := 15) dX2_useElbows_12 flX2_56 rfl (by assumption) (by assumption) rfl ?_
    refine cm_alenI (q := 16) dX2_useElbows_15 (by assumption) (by rw [lw] : nI (S.ln (c + 13)) = nI 20) rfl ?_
    refine am_icmp_ge (tgt := 137) (q := 19) dX2_useElbows_16 rfl rfl (fun hz => absurd hz (nI_ge (by omega) (by decide))) (fun _ => ?_)
    refine am_aload_n (q := 20) dX2_useElbows_19 rfl rfl ?_
    refine am_iload_n (q := 21) dX2_useElbows_20 rfl rfl ?_
    refine cm_call0 (q := 24) (As := [_]) hG dX2_useElbows_21 mlX2_263 rfl (by assumption) ⟨_, _, rfl⟩ (Nat.le_of_ble_eq_true rfl) (Nat.le_of_ble_eq_true rfl) (Nat.le_of_ble_eq_true rfl) (Nat.le_of_ble_eq_true rfl) (k_X2_fistInRow hG hct hB0 hm0 (by omega)) rfl ?_
    rintro _ _ ⟨rfl, rfl⟩
    refine am_istore_n (q := 25) (ls1 := [_, _, _, _, _, _]) dX2_useElbows_24 (Nat.le_of_ble_eq_true rfl) rfl rfl ?_
    refine am_aload_n (q := 26) dX2_useElbows_25 rfl rfl ?_
    refine am_iload_n (q := 27) dX2_useElbows_26 rfl rfl ?_
    refine am_iconst (q := 28) (v := 1) dX2_useElbows_27 kc_i1 rfl ?_
    refine am_isub (q := 29) dX2_useElbows_28 rfl ?_
    rw [k_nIs]
    refine cm_call0 (q := 32) (As := [_]) hG dX2_useElbows_29 mlX2_263 rfl (by assumption) ⟨_, _, rfl⟩ (Nat.le_of_ble_eq_true rfl) (Nat.le_of_ble_eq_true rfl) (Nat.le_of_ble_eq_true rfl) (Nat.le_of_ble_eq_true rfl) (k_X2_fistInRow hG hct hB0 hm0 (by omega)) rfl ?_
    rintro _ _ ⟨rfl, rfl⟩
    refine am_istore_n (q := 33) (ls1 := [_, _, _, _, _, _]) dX2_useElbows_32 (Nat.le_of_ble_eq_true rfl) rfl rfl ?_
    refine am_aload_n (q := 34) dX2_useElbows_33 rfl rfl ?_
    refine am_iload_n (q := 35) dX2_useElbows_34 rfl rfl ?_
    refine cm_call0 (q := 38) (As := [_]) hG dX2_useElbows_35 mlX2_167 rfl (by assumption) ⟨_, _, rfl⟩ (Nat.le_of_ble_eq_true rfl) (Nat.le_of_ble_eq_true rfl) (Nat.le_of_ble_eq_true rfl) (Nat.le_of_ble_eq_true rfl) (k_X2_hasFist hct v3 u5) rfl ?_
    rintro _ _ ⟨rfl, rfl⟩
    refine am_if_eq (tgt := 53) (q := 41) dX2_useElbows_38 rfl rfl (fun hz => absurd hz (bI_n0.mpr (k_inr w2 (by omega)))) (fun _ => ?_)
    refine am_aload_n (q := 42) dX2_useElbows_41 rfl rfl ?_
    refine am_iload_n (q := 43) dX2_useElbows_42 rfl rfl ?_
    refine cm_call0 (q := 46) (As := [_]) hG dX2_useElbows_43 mlX2_167 rfl (by assumption) ⟨_, _, rfl⟩ (Nat.le_of_ble_eq_true rfl) (Nat.le_of_ble_eq_true rfl) (Nat.le_of_ble_eq_true rfl) (Nat.le_of_ble_eq_true rfl) (k_X2_hasFist hct v3 u5) rfl ?_
    rintro _ _ ⟨rfl, rfl⟩
    refine am_if_eq (tgt := 53) (q := 49) dX2_useElbows_46 rfl rfl (fun hz => absurd hz (bI_n0.mpr (k_inr y2 (by omega)))) (fun _ => ?_)
    refine am_iconst (q := 50) (v := 1) dX2_useElbows_49 kc_i1 rfl ?_
    refine am_goto (tgt := 54) dX2_useElbows_50 rfl ?_
    refine am_istore (q := 56) (ls1 := [_, _, _, _, _, _]) dX2_useElbows_54 (Nat.le_of_ble_eq_true rfl) rfl rfl ?_
    refine am_iload (q := 58) dX2_useElbows_56 rfl rfl ?_
    refine am_if_eq (tgt := 131) (q := 61) dX2_useElbows_58 rfl rfl (fun hz => absurd hz (by decide)) (fun _ => ?_)
    refine am_aload_n (q := 62) dX2_useElbows_61 rfl rfl ?_
    refine cm_getR (q := 65) dX2_useElbows_62 flX2_40 rfl (by assumption) (by assumption) rfl ?_
    refine am_iload_n (q := 66) dX2_useElbows_65 rfl rfl ?_
    refine cm_aaloadK (q := 67) dX2_useElbows_66 (by assumption) (by decide) hinF hRF rfl ?_
    refine cm_getI (q := 70) dX2_useElbows_67 flX2_176 rfl (by assumption) rfl ?_
    rw [i1]
    refine am_aload_n (q := 71) dX2_useElbows_70 rfl rfl ?_
    refine cm_getR (q := 74) dX2_useElbows_71 flX2_40 rfl (by assumption) (by assumption) rfl ?_
    refine am_iload_n (q := 75) dX2_useElbows_74 rfl rfl ?_
    refine cm_aaloadK (q := 76) dX2_useElbows_75 (by assumption) (by decide) hinG hRG rfl ?_
    refine cm_getI (q := 79) dX2_useElbows_76 flX2_176 rfl (by assumption) rfl ?_
    rw [i2]
    refine am_iconst (q := 80) (v := 2) dX2_useElbows_79 kc_i2 rfl ?_
    refine am_iadd (q := 81) dX2_useElbows_80 rfl ?_
    refine am_icmp_le (tgt := 131) (q := 84) dX2_useElbows_81 rfl rfl (fun hc => ?_) (fun hc => ?_)
    · rw [if_neg (Int32.not_lt.mpr hc)] at hinv
      refine am_iincW (q := 134) (ls1 := [_, _, _, _, _, _]) (w := 1) dX2_useElbows_131 rfl (Nat.le_of_ble_eq_true rfl) kc_i1 rfl rfl ?_
      refine am_goto (tgt := 2) dX2_useElbows_134 rfl ?_
      rw [nI_1]
      exact ih (I0, m0, _, _, _, _) ⟨hinv, hB0, hm0, hO0⟩
    · rw [if_pos (Int32.not_le.mp hc)] at hinv
      refine am_aload_n (q := 85) dX2_useElbows_84 rfl rfl ?_
      refine cm_getR (q := 88) dX2_useElbows_85 flX2_56 rfl (by assumption) (by assumption) rfl ?_
      refine am_iload_n (q := 89) dX2_useElbows_88 rfl rfl ?_
      refine cm_iaload (q := 90) dX2_useElbows_89 (by assumption) hin rfl ?_
      rw [hc1, e1]
      refine am_istore (q := 92) (ls1 := [_, _, _, _, _, _]) dX2_useElbows_90 (Nat.le_of_ble_eq_true rfl) rfl rfl ?_
      refine am_aload_n (q := 93) dX2_useElbows_92 rfl rfl ?_
      refine cm_getR (q := 96) dX2_useElbows_93 flX2_56 rfl (by assumption) (by assumption) rfl ?_
      refine am_iload_n (q := 97) dX2_useElbows_96 rfl rfl ?_
      refine am_aload_n (q := 98) dX2_useElbows_97 rfl rfl ?_
      refine cm_getR (q := 101) dX2_useElbows_98 flX2_56 rfl (by assumption) (by assumption) rfl ?_
      refine am_iload_n (q := 102) dX2_useElbows_101 rfl rfl ?_
      refine am_iconst (q := 103) (v := 1) dX2_useElbows_102 kc_i1 rfl ?_
      refine am_isub (q := 104) dX2_useElbows_103 rfl ?_
      rw [k_nIs]
      refine cm_iaload (q := 105) dX2_useElbows_104 (by assumption) hin0 rfl ?_
      rw [hc0, e3]
      refine cm_iastore (q := 106) dX2_useElbows_105 (by assumption) hin rfl ?_
      rw [hc1]
      refine am_aload_n (q := 107) dX2_useElbows_106 rfl rfl ?_
      refine cm_getR (q := 110) dX2_useElbows_107 flX2_56 rfl (by assumption) (by assumption) rfl ?_
      refine am_iload_n (q := 111) dX2_useElbows_110 rfl rfl ?_
      refine am_iconst (q := 112) (v := 1) dX2_useElbows_111 kc_i1 rfl ?_
      refine am_isub (q := 113) dX2_useElbows_112 rfl ?_
      rw [k_nIs]
      refine am_iload (q := 115) dX2_useElbows_113 rfl rfl ?_
      refine cm_iastore (q := 116) dX2_useElbows_115 (by assumption) hin0 rfl ?_
      rw [hc0]
      have hB2 := (hB0.upW (j := i + 1) (v := nI (m0.row i))).upW (j := i) (v := nI (m0.row (i + 1)))
      have hm2 := AbM.setW (AbM.setW (k := i + 1) (t := m0.row i) hm0 e4 (by omega)) (k := i) (t := m0.row (i + 1)) e2 (by omega)
      have hO2 := (hO0.up (a := c + 13) (j := i + 1) (v := nI (m0.row i)) (by omega)).up (a := c + 13) (j := i) (v := nI (m0.row (i + 1))) (by omega)
      generalize up2 (up2 I0 (c + 13) (i + 1) (nI (m0.row i))) (c + 13) i (nI (m0.row (i + 1))) = I2 at hB2 hm2 hO2 ⊢
      refine am_aload_n (q := 117) dX2_useElbows_116 rfl rfl ?_
      refine cm_getR (q := 120) dX2_useElbows_117 flX2_40 rfl (by assumption) (by assumption) rfl ?_
      refine am_iload_n (q := 121) dX2_useElbows_120 rfl rfl ?_
      refine cm_aaloadK (q := 122) dX2_useElbows_121 (by assumption) (by decide) hinF hRF rfl ?_
      refine am_dup (q := 123) dX2_useElbows_122 rfl rfl ?_
      refine cm_getI (q := 126) dX2_useElbows_123 flX2_176 rfl (by assumption) rfl ?_
      rw [show I2 (c + 22 + B.tF (m0.row (i + 1))) 3 = m0.fist (B.tF (m0.row (i + 1))) 2 from hm2.1 _ w2 2 (by decide)]
      refine am_iconst (q := 127) (v := 1) dX2_useElbows_126 kc_i1 rfl ?_
      refine am_isub (q := 128) dX2_useElbows_127 rfl ?_
      refine cm_putI (q := 131) dX2_useElbows_128 flX2_176 rfl (Or.inl rfl) (Or.inl rfl) (by assumption) rfl ?_
      refine am_iincW (q := 134) (ls1 := [_, _, _, _, _, _]) (w := 1) dX2_useElbows_131 rfl (Nat.le_of_ble_eq_true rfl) kc_i1 rfl rfl ?_
      refine am_goto (tgt := 2) dX2_useElbows_134 rfl ?_
      rw [nI_1]
      exact ih (_, _, _, _, _, _) ⟨hinv, hB2.upF (j := 3) (by omega), AbM.setF (j := 2) hB2 hm2 w2 (by decide) (fun e => absurd e (by decide)), hO2.up (by omega)⟩
  · rintro ⟨I0, m0, x2, x3, x4, x5⟩ ⟨hinv, hB0, hm0, hO0⟩
    dsimp only at hinv hB0 hm0 hO0 ⊢
    rw [Nat.sub_self, elbM] at hinv
    rw [← hinv]
    refine am_iload_n (q := 3) dX2_useElbows_2 rfl rfl ?_
    refine am_aload_n (q := 4) dX2_useElbows_3 rfl rfl ?_
    refine cm_getI (q := 7) dX2_useElbows_4 flX2_81 rfl (by assumption) rfl ?_
    rw [show I0 c 12 = nI B.nT from hB0.2.2.2.1.1]
    refine am_icmp_ge (tgt := 137) (q := 10) dX2_useElbows_7 rfl rfl (fun _ => ?_) (fun hz => absurd (Int32.not_lt.mp fun q => absurd ((nI_ltI (by omega) (by omega)).mp q) (by omega)) hz)
    exact am_ret dX2_useElbows_137 rfl ⟨_, rfl, rfl, _, rfl, hB0, hm0, hO0⟩
end Play
end
section
theorem dX2_play_0 : decode cX2_play 0 = .ok (.iconst 0, 1) := by decide +kernel
theorem dX2_play_1 : decode cX2_play 1 = .ok (.istore_n 2, 1) := by decide +kernel
theorem dX2_play_2 : decode cX2_play 2 = .ok (.iload_n 2, 1) := by decide +kernel
theorem dX2_play_3 : decode cX2_play 3 = .ok (.iload_n 1, 1) := by decide +kernel
theorem dX2_play_4 : decode cX2_play 4 = .ok (.if_icmp .ge 61, 3) := by decide +kernel
theorem dX2_play_7 : decode cX2_play 7 = .ok (.aload_n 0, 1) := by decide +kernel
theorem dX2_play_8 : decode cX2_play 8 = .ok (.invokevirtual 254, 3) := by decide +kernel
theorem dX2_play_11 : decode cX2_play 11 = .ok (.aload_n 0, 1) := by decide +kernel
theorem dX2_play_12 : decode cX2_play 12 = .ok (.invokevirtual 257, 3) := by decide +kernel
theorem dX2_play_15 : decode cX2_play 15 = .ok (.iconst 0, 1) := by decide +kernel
theorem dX2_play_16 : decode cX2_play 16 = .ok (.istore_n 3, 1) := by decide +kernel
theorem dX2_play_17 : decode cX2_play 17 = .ok (.iload_n 3, 1) := by decide +kernel
theorem dX2_play_18 : decode cX2_play 18 = .ok (.aload_n 0, 1) := by decide +kernel
theorem dX2_play_19 : decode cX2_play 19 = .ok (.getfield 75, 3) := by decide +kernel
theorem dX2_play_22 : decode cX2_play 22 = .ok (.if_icmp .ge 27, 3) := by decide +kernel
theorem dX2_play_25 : decode cX2_play 25 = .ok (.iload_n 3, 1) := by decide +kernel
theorem dX2_play_26 : decode cX2_play 26 = .ok (.aload_n 0, 1) := by decide +kernel
theorem dX2_play_27 : decode cX2_play 27 = .ok (.getfield 40, 3) := by decide +kernel
theorem dX2_play_30 : decode cX2_play 30 = .ok (.arraylength, 1) := by decide +kernel
theorem dX2_play_31 : decode cX2_play 31 = .ok (.if_icmp .ge 18, 3) := by decide +kernel
theorem dX2_play_34 : decode cX2_play 34 = .ok (.aload_n 0, 1) := by decide +kernel
theorem dX2_play_35 : decode cX2_play 35 = .ok (.getfield 40, 3) := by decide +kernel
theorem dX2_play_38 : decode cX2_play 38 = .ok (.iload_n 3, 1) := by decide +kernel
theorem dX2_play_39 : decode cX2_play 39 = .ok (.aaload, 1) := by decide +kernel
theorem dX2_play_40 : decode cX2_play 40 = .ok (.invokevirtual 260, 3) := by decide +kernel
theorem dX2_play_43 : decode cX2_play 43 = .ok (.iinc 3 1, 3) := by decide +kernel
theorem dX2_play_46 : decode cX2_play 46 = .ok (.goto (-29), 3) := by decide +kernel
theorem dX2_play_49 : decode cX2_play 49 = .ok (.aload_n 0, 1) := by decide +kernel
theorem dX2_play_50 : decode cX2_play 50 = .ok (.dup, 1) := by decide +kernel
theorem dX2_play_51 : decode cX2_play 51 = .ok (.getfield 84, 3) := by decide +kernel
theorem dX2_play_54 : decode cX2_play 54 = .ok (.iconst 1, 1) := by decide +kernel
theorem dX2_play_55 : decode cX2_play 55 = .ok (.iadd, 1) := by decide +kernel
theorem dX2_play_56 : decode cX2_play 56 = .ok (.putfield 84, 3) := by decide +kernel
theorem dX2_play_59 : decode cX2_play 59 = .ok (.iinc 2 1, 3) := by decide +kernel
theorem dX2_play_62 : decode cX2_play 62 = .ok (.goto (-60), 3) := by decide +kernel
theorem dX2_play_65 : decode cX2_play 65 = .ok (.return_, 1) := by decide +kernel
/-! the round's end, play, flights, springs -/
theorem mk_cg {F1 F2 R1 R2 P1 P2 : Nat → Nat → Int32} {g1 g2 : Nat → Int32} {w : Nat → Nat} {bd : Nat → Int32} {n : Nat} (h1 : ∀ x j, F1 x j = F2 x j) (h2 : ∀ x j, R1 x j = R2 x j) (h3 : ∀ x j, P1 x j = P2 x j) (h4 : ∀ j, g1 j = g2 j) : mkMS F1 R1 P1 g1 w bd n = mkMS F2 R2 P2 g2 w bd n := by
  have z1 : F1 = F2 := funext fun x => funext fun j => h1 x j
  have z2 : R1 = R2 := funext fun x => funext fun j => h2 x j
  have z3 : P1 = P2 := funext fun x => funext fun j => h3 x j
  have z4 : g1 = g2 := funext h4
  rw [z1, z2, z3, z4]
theorem rstM_f {m : MS} {n x j : Nat} : (rstM m n).fist x j = if x < n then (if j = 8 then 0 else if j = 3 then (if m.fist x 8 = 0 then (if 3 < m.fist x 3 then m.fist x 3 - 3 else 0) else m.fist x 3) else m.fist x j) else m.fist x j := rfl
theorem rstM_s {m : MS} {n : Nat} : rstM m (n + 1) = (if m.fist n 8 = 0 then mkMS (up2 (up2 (rstM m n).fist n 3 (if 3 < m.fist n 3 then m.fist n 3 - 3 else 0)) n 8 0) (rstM m n).rail (rstM m n).prize (rstM m n).g (rstM m n).row (rstM m n).bd (rstM m n).nb else mkMS (up2 (rstM m n).fist n 8 0) (rstM m n).rail (rstM m n).prize (rstM m n).g (rstM m n).row (rstM m n).bd (rstM m n).nb) := by
  by_cases h : m.fist n 8 = 0
  · rw [if_pos h]
    refine mk_cg ?_ (fun _ _ => rfl) (fun _ _ => rfl) (fun _ => rfl)
    intro x j
    simp only [up2_at, rstM_f]
    grind (splits := 30)
  · rw [if_neg h]
    refine mk_cg ?_ (fun _ _ => rfl) (fun _ _ => rfl) (fun _ => rfl)
    intro x j
    simp only [up2_at, rstM_f]
    grind (splits := 30)
theorem rstM_0 {m : MS} : rstM m 0 = m := by
  obtain ⟨a, b, c, d, e, f, g⟩ := m
  refine mk_cg (fun x j => ?_) (fun _ _ => rfl) (fun _ _ => rfl) (fun _ => rfl)
  rw [if_neg (Nat.not_lt_zero x)]
  rfl
section Round
variable {G : Gp} {S : AMem} {I : Nat → Nat → Int32} {J : Nat → Nat → Int64} {R : Nat → Nat → Option Nat} {c : Nat} {B : BS} {m : MS}
theorem k_play1 {x x3 : Option AV} {y : Int32} (hG : okG G) (hct : CT S R c) (hB : AbB I c B) (hm : AbM I c B m) {Q : (Option AV ⊕ Nat) → AMem → Prop}
    (hQ : ∀ I1, AbB I1 c B → AbM I1 c B (rndM B m) → OffC c I I1 → ∀ x3, MW G mX2_play 6 59 [some (vR c), x, some (vI y), x3] [] (mw S I1 J R) Q) : MW G mX2_play 6 7 [some (vR c), x, some (vI y), x3] [] (mw S I J R) Q := by
  have hct2 := hct
  obtain ⟨kc, rc0, rc1, rc2, rc3, rc4, rc5, rc6, rc7, ⟨kd, rd0, rd1, rd2, kd2, ld2, kd3, ld3, kd4, ld4⟩, ⟨kb, rb, kb6, lb6⟩, ⟨kf, rf, kf8, lf8⟩, ⟨kr, lr, hr⟩, ⟨kfi, lfi, hfi⟩, ⟨kp, lp, hpz⟩, ⟨kt, lt, htu⟩, kw, lw⟩ := id hct2
  have u4 : B.nF ≤ 8 := hB.2.1.2
  refine am_aload_n (q := 8) dX2_play_7 rfl rfl ?_
  refine cm_call0 (q := 11) (As := []) hG dX2_play_8 mlX2_254 rfl (by assumption) ⟨_, _, rfl⟩ (Nat.le_of_ble_eq_true rfl) (Nat.le_of_ble_eq_true rfl) (Nat.le_of_ble_eq_true rfl) (Nat.le_of_ble_eq_true rfl) (k_X2_useElbows hG hct hB hm) rfl ?_
  rintro _ _ ⟨rfl, I1, rfl, hB1, hm1, hO1⟩
  refine am_aload_n (q := 12) dX2_play_11 rfl rfl ?_
  refine cm_call0 (q := 15) (As := []) hG dX2_play_12 mlX2_257 rfl (by assumption) ⟨_, _, rfl⟩ (Nat.le_of_ble_eq_true rfl) (Nat.le_of_ble_eq_true rfl) (Nat.le_of_ble_eq_true rfl) (Nat.le_of_ble_eq_true rfl) (k_X2_takeTurns hG hct hB1 hm1) rfl ?_
  rintro _ _ ⟨rfl, I2, rfl, hB2, hm2, hO2⟩
  refine am_iconst (q := 16) (v := 0) dX2_play_15 kc_i0 rfl ?_
  refine am_istore_n (q := 17) (ls1 := [_, _, _, _]) dX2_play_16 (Nat.le_of_ble_eq_true rfl) rfl rfl ?_
  have hO := hO1.tr hO2
  unfold rndM at hQ
  generalize trnM B 0 B.nT (elbM B 1 (B.nT - 1) m) = m2 at hm2 hQ
  refine k_loop (σ := Nat → Nat → Int32) (n := B.nF) (Inv := fun i I3 => AbB I3 c B ∧ AbM I3 c B (rstM m2 i) ∧ OffC c I I3) (W := fun i I3 => MW G mX2_play 6 17 [some (vR c), x, some (vI y), some (vI (nI i))] [] (mw S I3 J R) _) ?_ ?_ 0 I2 (Nat.zero_le _) ⟨hB2, by rw [rstM_0]; exact hm2, hO⟩
  · rintro i I3 hi ⟨hB3, hm3, hO3⟩ ih
    obtain ⟨f1, f2⟩ := hfi i (by omega)
    have hin : vp_in (nI i) (S.ln (c + 10)) := by rw [lfi]; exact vp_in_nI (by omega) (by decide)
    have hR : R (c + 10) (nI i).toNatClampNeg = some (c + 22 + i) := by rw [nI_clamp (by omega)]; exact f1
    have e1 : I3 (c + 22 + i) 9 = m2.fist i 8 := (hm3.1 i hi 8 (by decide)).trans (by rw [rstM_f, if_neg (Nat.lt_irrefl _)])
    have e2 : I3 (c + 22 + i) 4 = m2.fist i 3 := (hm3.1 i hi 3 (by decide)).trans (by rw [rstM_f, if_neg (Nat.lt_irrefl _)])
    refine am_iload_n (q := 18) dX2_play_17 rfl rfl ?_
    refine am_aload_n (q := 19) dX2_play_18 rfl rfl ?_
    refine cm_getI (q := 22) dX2_play_19 flX2_75 rfl (by assumption) rfl ?_
    rw [show I3 c 10 = nI B.nF from hB3.2.1.1]
    refine am_icmp_ge (tgt := 49) (q := 25) dX2_play_22 rfl rfl (fun hz => absurd hz (nI_ge (by omega) (by omega))) (fun _ => ?_)
    refine am_iload_n (q := 26) dX2_play_25 rfl rfl ?_
    refine am_aload_n (q := 27) dX2_play_26 rfl rfl ?_
    refine cm_getR (q := 30) dX2_play_27 flX2_40 rfl (by assumption) (by assumption) rfl ?_
    refine cm_alenK (q := 31) dX2_play_30 (by assumption) (by decide) (by rw [lfi] : nI (S.ln (c + 10)) = nI 8) rfl ?_
    refine am_icmp_ge (tgt := 49) (q := 34) dX2_play_31 rfl rfl (fun hz => absurd hz (nI_ge (by omega) (by decide))) (fun _ => ?_)
    refine am_aload_n (q := 35) dX2_play_34 rfl rfl ?_
    refine cm_getR (q := 38) dX2_play_35 flX2_40 rfl (by assumption) (by assumption) rfl ?_
    refine am_iload_n (q := 39) dX2_play_38 rfl rfl ?_
    refine cm_aaloadK (q := 40) dX2_play_39 (by assumption) (by decide) hin hR rfl ?_
    refine cm_call0 (q := 43) (As := []) hG dX2_play_40 mlX2_260 rfl (by assumption) ⟨_, _, rfl⟩ (Nat.le_of_ble_eq_true rfl) (Nat.le_of_ble_eq_true rfl) (Nat.le_of_ble_eq_true rfl) (Nat.le_of_ble_eq_true rfl) (k_X3_endRound f2) rfl ?_
    rintro _ _ ⟨rfl, rfl⟩
    rw [e1, e2]
    refine am_iincW (q := 46) (ls1 := [_, _, _, _]) (w := 1) dX2_play_43 rfl (Nat.le_of_ble_eq_true rfl) kc_i1 rfl rfl ?_
    refine am_goto (tgt := 17) dX2_play_46 rfl ?_
    rw [nI_1]
    refine ih _ ?_
    rw [rstM_s]
    by_cases h : m2.fist i 8 = 0
    · rw [if_pos h, if_pos h]
      exact ⟨(hB3.upF (by omega)).upF (by omega), AbM.setF (j := 8) (hB3.upF (j := 4) (by omega)) (AbM.setF (j := 3) hB3 hm3 hi (by decide) (fun e => absurd e (by decide))) hi (by decide) (fun _ => Or.inl rfl), (hO3.up (by omega)).up (by omega)⟩
    · rw [if_neg h, if_neg h]
      exact ⟨hB3.upF (by omega), AbM.setF (j := 8) hB3 hm3 hi (by decide) (fun _ => Or.inl rfl), hO3.up (by omega)⟩
  · rintro I3 ⟨hB3, hm3, hO3⟩
    refine am_iload_n (q := 18) dX2_play_17 rfl rfl ?_
    refine am_aload_n (q := 19) dX2_play_18 rfl rfl ?_
    refine cm_getI (q := 22) dX2_play_19 flX2_75 rfl (by assumption) rfl ?_
    rw [show I3 c 10 = nI B.nF from hB3.2.1.1]
    refine am_icmp_ge (tgt := 49) (q := 25) dX2_play_22 rfl rfl (fun _ => ?_) (fun hz => absurd (Int32.le_refl _) hz)
    refine am_aload_n (q := 50) dX2_play_49 rfl rfl ?_
    refine am_dup (q := 51) dX2_play_50 rfl rfl ?_
    refine cm_getI (q := 54) dX2_play_51 flX2_84 rfl (by assumption) rfl ?_
    rw [show I3 c 13 = (rstM m2 B.nF).g 0 from hm3.2.2.2.1 0 (by decide)]
    refine am_iconst (q := 55) (v := 1) dX2_play_54 kc_i1 rfl ?_
    refine am_iadd (q := 56) dX2_play_55 rfl ?_
    refine cm_putI (q := 59) dX2_play_56 flX2_84 rfl (Or.inl rfl) (Or.inl rfl) (by assumption) rfl ?_
    exact hQ _ (hB3.upG (j := 13) (by decide)) (AbM.setG (j := 0) hB3 hm3 (by decide)) (hO3.up (by omega)) _
theorem k_X2_play {n : Nat} (hG : okG G) (hct : CT S R c) (hB : AbB I c B) (hm : AbM I c B m) (hn : n < 2 ^ 31) : Fn G mX2_play 6 [vR c, vI (nI n)] (mw S I J R) (fun rr M1 => rr = none ∧ ∃ I1, M1 = mw S I1 J R ∧ AbB I1 c B ∧ AbM I1 c B (plyM B n m) ∧ OffC c I I1) := by
  refine am_iconst (q := 1) (v := 0) dX2_play_0 kc_i0 rfl ?_
  refine am_istore_n (q := 2) (ls1 := [_, _, _, _]) dX2_play_1 (Nat.le_of_ble_eq_true rfl) rfl rfl ?_
  refine k_loop (σ := (Nat → Nat → Int32) × MS × Option AV) (n := n) (Inv := fun i s => plyM B (n - i) s.2.1 = plyM B n m ∧ AbB s.1 c B ∧ AbM s.1 c B s.2.1 ∧ OffC c I s.1) (W := fun i s => MW G mX2_play 6 2 [some (vR c), some (vI (nI n)), some (vI (nI i)), s.2.2] [] (mw S s.1 J R) _) ?_ ?_ 0 (I, m, none) (Nat.zero_le _) ⟨rfl, hB, hm, OffC.rf⟩
  · rintro i ⟨I0, m0, x3⟩ hi ⟨hinv, hB0, hm0, hO0⟩ ih
    dsimp only at hinv hB0 hm0 hO0 ih ⊢
    rw [show n - i = (n - (i + 1)) + 1 by omega, plyM] at hinv
    refine am_iload_n (q := 3) dX2_play_2 rfl rfl ?_
    refine am_iload_n (q := 4) dX2_play_3 rfl rfl ?_
    refine am_icmp_ge (tgt := 65) (q := 7) dX2_play_4 rfl rfl (fun hz => absurd hz (nI_ge (by omega) (by omega))) (fun _ => ?_)
    refine k_play1 hG hct hB0 hm0 ?_
    intro I1 hB1 hm1 hO1 y3
    refine am_iincW (q := 62) (ls1 := [_, _, _, _]) (w := 1) dX2_play_59 rfl (Nat.le_of_ble_eq_true rfl) kc_i1 rfl rfl ?_
    refine am_goto (tgt := 2) dX2_play_62 rfl ?_
    rw [nI_1]
    exact ih (I1, _, y3) ⟨hinv, hB1, hm1, hO0.tr hO1⟩
  · rintro ⟨I0, m0, x3⟩ ⟨hinv, hB0, hm0, hO0⟩
    dsimp only at hinv hB0 hm0 hO0 ⊢
    rw [Nat.sub_self, plyM] at hinv
    rw [← hinv]
    refine am_iload_n (q := 3) dX2_play_2 rfl rfl ?_
    refine am_iload_n (q := 4) dX2_play_3 rfl rfl ?_
    refine am_icmp_ge (tgt := 65) (q := 7) dX2_play_4 rfl rfl (fun _ => ?_) (fun hz => absurd (Int32.le_refl _) hz)
    exact am_ret dX2_play_65 rfl ⟨_, rfl, rfl, _, rfl, hB0, hm0, hO0⟩
end Round
end
section
theorem dX2_changeSpring_0 : decode cX2_changeSpring 0 = .ok (.aload_n 0, 1) := by decide +kernel
theorem dX2_changeSpring_1 : decode cX2_changeSpring 1 = .ok (.iload_n 1, 1) := by decide +kernel
theorem dX2_changeSpring_2 : decode cX2_changeSpring 2 = .ok (.invokevirtual 135, 3) := by decide +kernel
theorem dX2_changeSpring_5 : decode cX2_changeSpring 5 = .ok (.ifCond .ne 5, 3) := by decide +kernel
theorem dX2_changeSpring_10 : decode cX2_changeSpring 10 = .ok (.aload_n 0, 1) := by decide +kernel
theorem dX2_changeSpring_11 : decode cX2_changeSpring 11 = .ok (.getfield 34, 3) := by decide +kernel
theorem dX2_changeSpring_14 : decode cX2_changeSpring 14 = .ok (.iload_n 1, 1) := by decide +kernel
theorem dX2_changeSpring_15 : decode cX2_changeSpring 15 = .ok (.aaload, 1) := by decide +kernel
theorem dX2_changeSpring_16 : decode cX2_changeSpring 16 = .ok (.getfield 160, 3) := by decide +kernel
theorem dX2_changeSpring_19 : decode cX2_changeSpring 19 = .ok (.istore_n 3, 1) := by decide +kernel
theorem dX2_changeSpring_20 : decode cX2_changeSpring 20 = .ok (.aload_n 0, 1) := by decide +kernel
theorem dX2_changeSpring_21 : decode cX2_changeSpring 21 = .ok (.getfield 34, 3) := by decide +kernel
theorem dX2_changeSpring_24 : decode cX2_changeSpring 24 = .ok (.iload_n 1, 1) := by decide +kernel
theorem dX2_changeSpring_25 : decode cX2_changeSpring 25 = .ok (.aaload, 1) := by decide +kernel
theorem dX2_changeSpring_26 : decode cX2_changeSpring 26 = .ok (.iload_n 2, 1) := by decide +kernel
theorem dX2_changeSpring_27 : decode cX2_changeSpring 27 = .ok (.putfield 160, 3) := by decide +kernel
theorem dX2_changeSpring_30 : decode cX2_changeSpring 30 = .ok (.iload_n 3, 1) := by decide +kernel
theorem dX2_changeSpring_31 : decode cX2_changeSpring 31 = .ok (.ireturn, 1) := by decide +kernel
theorem dX2_flightOf_0 : decode cX2_flightOf 0 = .ok (.aload_n 0, 1) := by decide +kernel
theorem dX2_flightOf_1 : decode cX2_flightOf 1 = .ok (.iload_n 1, 1) := by decide +kernel
theorem dX2_flightOf_2 : decode cX2_flightOf 2 = .ok (.iload_n 2, 1) := by decide +kernel
theorem dX2_flightOf_3 : decode cX2_flightOf 3 = .ok (.aload_n 0, 1) := by decide +kernel
theorem dX2_flightOf_4 : decode cX2_flightOf 4 = .ok (.iload_n 1, 1) := by decide +kernel
theorem dX2_flightOf_5 : decode cX2_flightOf 5 = .ok (.invokevirtual 167, 3) := by decide +kernel
theorem dX2_flightOf_8 : decode cX2_flightOf 8 = .ok (.ifCond .eq 15, 3) := by decide +kernel
theorem dX2_flightOf_11 : decode cX2_flightOf 11 = .ok (.aload_n 0, 1) := by decide +kernel
theorem dX2_flightOf_12 : decode cX2_flightOf 12 = .ok (.getfield 40, 3) := by decide +kernel
theorem dX2_flightOf_15 : decode cX2_flightOf 15 = .ok (.iload_n 1, 1) := by decide +kernel
theorem dX2_flightOf_16 : decode cX2_flightOf 16 = .ok (.aaload, 1) := by decide +kernel
theorem dX2_flightOf_17 : decode cX2_flightOf 17 = .ok (.getfield 170, 3) := by decide +kernel
theorem dX2_flightOf_20 : decode cX2_flightOf 20 = .ok (.goto 4, 3) := by decide +kernel
theorem dX2_flightOf_24 : decode cX2_flightOf 24 = .ok (.invokevirtual 230, 3) := by decide +kernel
theorem dX2_flightOf_27 : decode cX2_flightOf 27 = .ok (.areturn, 1) := by decide +kernel
theorem dX2_flightWithArm_0 : decode cX2_flightWithArm 0 = .ok (.aload_n 0, 1) := by decide +kernel
theorem dX2_flightWithArm_1 : decode cX2_flightWithArm 1 = .ok (.iload_n 1, 1) := by decide +kernel
theorem dX2_flightWithArm_2 : decode cX2_flightWithArm 2 = .ok (.invokevirtual 167, 3) := by decide +kernel
theorem dX2_flightWithArm_5 : decode cX2_flightWithArm 5 = .ok (.ifCond .eq 34, 3) := by decide +kernel
theorem dX2_flightWithArm_8 : decode cX2_flightWithArm 8 = .ok (.aload_n 0, 1) := by decide +kernel
theorem dX2_flightWithArm_9 : decode cX2_flightWithArm 9 = .ok (.iload_n 2, 1) := by decide +kernel
theorem dX2_flightWithArm_10 : decode cX2_flightWithArm 10 = .ok (.invokevirtual 135, 3) := by decide +kernel
theorem dX2_flightWithArm_13 : decode cX2_flightWithArm 13 = .ok (.ifCond .eq 26, 3) := by decide +kernel
theorem dX2_flightWithArm_16 : decode cX2_flightWithArm 16 = .ok (.aload_n 0, 1) := by decide +kernel
theorem dX2_flightWithArm_17 : decode cX2_flightWithArm 17 = .ok (.getfield 28, 3) := by decide +kernel
theorem dX2_flightWithArm_20 : decode cX2_flightWithArm 20 = .ok (.aload_n 0, 1) := by decide +kernel
theorem dX2_flightWithArm_21 : decode cX2_flightWithArm 21 = .ok (.getfield 34, 3) := by decide +kernel
theorem dX2_flightWithArm_24 : decode cX2_flightWithArm 24 = .ok (.iload_n 2, 1) := by decide +kernel
theorem dX2_flightWithArm_25 : decode cX2_flightWithArm 25 = .ok (.aaload, 1) := by decide +kernel
theorem dX2_flightWithArm_26 : decode cX2_flightWithArm 26 = .ok (.aload_n 0, 1) := by decide +kernel
theorem dX2_flightWithArm_27 : decode cX2_flightWithArm 27 = .ok (.getfield 40, 3) := by decide +kernel
theorem dX2_flightWithArm_30 : decode cX2_flightWithArm 30 = .ok (.iload_n 1, 1) := by decide +kernel
theorem dX2_flightWithArm_31 : decode cX2_flightWithArm 31 = .ok (.aaload, 1) := by decide +kernel
theorem dX2_flightWithArm_32 : decode cX2_flightWithArm 32 = .ok (.iload_n 3, 1) := by decide +kernel
theorem dX2_flightWithArm_33 : decode cX2_flightWithArm 33 = .ok (.invokevirtual 234, 3) := by decide +kernel
theorem dX2_flightWithArm_36 : decode cX2_flightWithArm 36 = .ok (.invokevirtual 237, 3) := by decide +kernel
theorem dX2_flightWithArm_39 : decode cX2_flightWithArm 39 = .ok (.aload_n 0, 1) := by decide +kernel
theorem dX2_flightWithArm_40 : decode cX2_flightWithArm 40 = .ok (.getfield 28, 3) := by decide +kernel
theorem dX2_flightWithArm_43 : decode cX2_flightWithArm 43 = .ok (.areturn, 1) := by decide +kernel
theorem dX2_tellCountOf_0 : decode cX2_tellCountOf 0 = .ok (.iload_n 1, 1) := by decide +kernel
theorem dX2_tellCountOf_1 : decode cX2_tellCountOf 1 = .ok (.tableswitch 87 0 7 #[47, 52, 57, 62, 67, 72, 77, 82], 47) := by decide +kernel
theorem dX2_tellCountOf_48 : decode cX2_tellCountOf 48 = .ok (.aload_n 0, 1) := by decide +kernel
theorem dX2_tellCountOf_49 : decode cX2_tellCountOf 49 = .ok (.getfield 84, 3) := by decide +kernel
theorem dX2_tellCountOf_52 : decode cX2_tellCountOf 52 = .ok (.ireturn, 1) := by decide +kernel
theorem dX2_tellCountOf_53 : decode cX2_tellCountOf 53 = .ok (.aload_n 0, 1) := by decide +kernel
theorem dX2_tellCountOf_54 : decode cX2_tellCountOf 54 = .ok (.getfield 69, 3) := by decide +kernel
theorem dX2_tellCountOf_57 : decode cX2_tellCountOf 57 = .ok (.ireturn, 1) := by decide +kernel
theorem dX2_tellCountOf_58 : decode cX2_tellCountOf 58 = .ok (.aload_n 0, 1) := by decide +kernel
theorem dX2_tellCountOf_59 : decode cX2_tellCountOf 59 = .ok (.getfield 75, 3) := by decide +kernel
theorem dX2_tellCountOf_62 : decode cX2_tellCountOf 62 = .ok (.ireturn, 1) := by decide +kernel
theorem dX2_tellCountOf_63 : decode cX2_tellCountOf 63 = .ok (.aload_n 0, 1) := by decide +kernel
theorem dX2_tellCountOf_64 : decode cX2_tellCountOf 64 = .ok (.getfield 78, 3) := by decide +kernel
theorem dX2_tellCountOf_67 : decode cX2_tellCountOf 67 = .ok (.ireturn, 1) := by decide +kernel
theorem dX2_tellCountOf_68 : decode cX2_tellCountOf 68 = .ok (.aload_n 0, 1) := by decide +kernel
theorem dX2_tellCountOf_69 : decode cX2_tellCountOf 69 = .ok (.getfield 81, 3) := by decide +kernel
theorem dX2_tellCountOf_72 : decode cX2_tellCountOf 72 = .ok (.ireturn, 1) := by decide +kernel
theorem dX2_tellCountOf_73 : decode cX2_tellCountOf 73 = .ok (.aload_n 0, 1) := by decide +kernel
theorem dX2_tellCountOf_74 : decode cX2_tellCountOf 74 = .ok (.getfield 93, 3) := by decide +kernel
theorem dX2_tellCountOf_77 : decode cX2_tellCountOf 77 = .ok (.ireturn, 1) := by decide +kernel
theorem dX2_tellCountOf_78 : decode cX2_tellCountOf 78 = .ok (.aload_n 0, 1) := by decide +kernel
theorem dX2_tellCountOf_79 : decode cX2_tellCountOf 79 = .ok (.getfield 96, 3) := by decide +kernel
theorem dX2_tellCountOf_82 : decode cX2_tellCountOf 82 = .ok (.ireturn, 1) := by decide +kernel
theorem dX2_tellCountOf_83 : decode cX2_tellCountOf 83 = .ok (.aload_n 0, 1) := by decide +kernel
theorem dX2_tellCountOf_84 : decode cX2_tellCountOf 84 = .ok (.invokevirtual 150, 3) := by decide +kernel
theorem dX2_tellCountOf_87 : decode cX2_tellCountOf 87 = .ok (.ireturn, 1) := by decide +kernel
theorem dX2_tellCountOf_88 : decode cX2_tellCountOf 88 = .ok (.aload_n 0, 1) := by decide +kernel
theorem dX2_tellCountOf_89 : decode cX2_tellCountOf 89 = .ok (.getfield 21, 3) := by decide +kernel
theorem dX2_tellCountOf_92 : decode cX2_tellCountOf 92 = .ok (.getfield 68, 3) := by decide +kernel
theorem dX2_tellCountOf_95 : decode cX2_tellCountOf 95 = .ok (.ireturn, 1) := by decide +kernel
theorem dX2_tellFist_0 : decode cX2_tellFist 0 = .ok (.aload_n 0, 1) := by decide +kernel
theorem dX2_tellFist_1 : decode cX2_tellFist 1 = .ok (.iload_n 1, 1) := by decide +kernel
theorem dX2_tellFist_2 : decode cX2_tellFist 2 = .ok (.invokevirtual 167, 3) := by decide +kernel
theorem dX2_tellFist_5 : decode cX2_tellFist 5 = .ok (.ifCond .ne 5, 3) := by decide +kernel
theorem dX2_tellFist_10 : decode cX2_tellFist 10 = .ok (.aload_n 0, 1) := by decide +kernel
theorem dX2_tellFist_11 : decode cX2_tellFist 11 = .ok (.getfield 40, 3) := by decide +kernel
theorem dX2_tellFist_14 : decode cX2_tellFist 14 = .ok (.iload_n 1, 1) := by decide +kernel
theorem dX2_tellFist_15 : decode cX2_tellFist 15 = .ok (.aaload, 1) := by decide +kernel
theorem dX2_tellFist_16 : decode cX2_tellFist 16 = .ok (.astore_n 3, 1) := by decide +kernel
theorem dX2_tellFist_17 : decode cX2_tellFist 17 = .ok (.iload_n 2, 1) := by decide +kernel
theorem dX2_tellFist_18 : decode cX2_tellFist 18 = .ok (.tableswitch 86 0 7 #[46, 51, 56, 61, 66, 71, 76, 81], 46) := by decide +kernel
theorem dX2_tellFist_64 : decode cX2_tellFist 64 = .ok (.aload_n 3, 1) := by decide +kernel
theorem dX2_tellFist_65 : decode cX2_tellFist 65 = .ok (.getfield 170, 3) := by decide +kernel
theorem dX2_tellFist_68 : decode cX2_tellFist 68 = .ok (.ireturn, 1) := by decide +kernel
theorem dX2_tellFist_69 : decode cX2_tellFist 69 = .ok (.aload_n 3, 1) := by decide +kernel
theorem dX2_tellFist_70 : decode cX2_tellFist 70 = .ok (.getfield 173, 3) := by decide +kernel
theorem dX2_tellFist_73 : decode cX2_tellFist 73 = .ok (.ireturn, 1) := by decide +kernel
theorem dX2_tellFist_74 : decode cX2_tellFist 74 = .ok (.aload_n 3, 1) := by decide +kernel
theorem dX2_tellFist_75 : decode cX2_tellFist 75 = .ok (.getfield 176, 3) := by decide +kernel
theorem dX2_tellFist_78 : decode cX2_tellFist 78 = .ok (.ireturn, 1) := by decide +kernel
theorem dX2_tellFist_79 : decode cX2_tellFist 79 = .ok (.aload_n 3, 1) := by decide +kernel
theorem dX2_tellFist_80 : decode cX2_tellFist 80 = .ok (.getfield 179, 3) := by decide +kernel
theorem dX2_tellFist_83 : decode cX2_tellFist 83 = .ok (.ireturn, 1) := by decide +kernel
theorem dX2_tellFist_84 : decode cX2_tellFist 84 = .ok (.aload_n 3, 1) := by decide +kernel
theorem dX2_tellFist_85 : decode cX2_tellFist 85 = .ok (.getfield 182, 3) := by decide +kernel
theorem dX2_tellFist_88 : decode cX2_tellFist 88 = .ok (.ireturn, 1) := by decide +kernel
theorem dX2_tellFist_89 : decode cX2_tellFist 89 = .ok (.aload_n 3, 1) := by decide +kernel
theorem dX2_tellFist_90 : decode cX2_tellFist 90 = .ok (.getfield 185, 3) := by decide +kernel
theorem dX2_tellFist_93 : decode cX2_tellFist 93 = .ok (.ireturn, 1) := by decide +kernel
theorem dX2_tellFist_94 : decode cX2_tellFist 94 = .ok (.aload_n 3, 1) := by decide +kernel
theorem dX2_tellFist_95 : decode cX2_tellFist 95 = .ok (.getfield 186, 3) := by decide +kernel
theorem dX2_tellFist_98 : decode cX2_tellFist 98 = .ok (.ireturn, 1) := by decide +kernel
theorem dX2_tellFist_99 : decode cX2_tellFist 99 = .ok (.aload_n 3, 1) := by decide +kernel
theorem dX2_tellFist_100 : decode cX2_tellFist 100 = .ok (.getfield 187, 3) := by decide +kernel
theorem dX2_tellFist_103 : decode cX2_tellFist 103 = .ok (.ireturn, 1) := by decide +kernel
theorem dX2_tellFist_104 : decode cX2_tellFist 104 = .ok (.aload_n 0, 1) := by decide +kernel
theorem dX2_tellFist_105 : decode cX2_tellFist 105 = .ok (.aload_n 3, 1) := by decide +kernel
theorem dX2_tellFist_106 : decode cX2_tellFist 106 = .ok (.getfield 182, 3) := by decide +kernel
theorem dX2_tellFist_109 : decode cX2_tellFist 109 = .ok (.invokevirtual 188, 3) := by decide +kernel
theorem dX2_tellFist_112 : decode cX2_tellFist 112 = .ok (.ireturn, 1) := by decide +kernel
theorem dX2_tellPrize_0 : decode cX2_tellPrize 0 = .ok (.aload_n 0, 1) := by decide +kernel
theorem dX2_tellPrize_1 : decode cX2_tellPrize 1 = .ok (.iload_n 1, 1) := by decide +kernel
theorem dX2_tellPrize_2 : decode cX2_tellPrize 2 = .ok (.invokevirtual 192, 3) := by decide +kernel
theorem dX2_tellPrize_5 : decode cX2_tellPrize 5 = .ok (.ifCond .ne 5, 3) := by decide +kernel
theorem dX2_tellPrize_10 : decode cX2_tellPrize 10 = .ok (.aload_n 0, 1) := by decide +kernel
theorem dX2_tellPrize_11 : decode cX2_tellPrize 11 = .ok (.getfield 46, 3) := by decide +kernel
theorem dX2_tellPrize_14 : decode cX2_tellPrize 14 = .ok (.iload_n 1, 1) := by decide +kernel
theorem dX2_tellPrize_15 : decode cX2_tellPrize 15 = .ok (.aaload, 1) := by decide +kernel
theorem dX2_tellPrize_16 : decode cX2_tellPrize 16 = .ok (.astore_n 3, 1) := by decide +kernel
theorem dX2_tellPrize_17 : decode cX2_tellPrize 17 = .ok (.iload_n 2, 1) := by decide +kernel
theorem dX2_tellPrize_18 : decode cX2_tellPrize 18 = .ok (.tableswitch 53 0 2 #[26, 31, 36], 26) := by decide +kernel
theorem dX2_tellPrize_44 : decode cX2_tellPrize 44 = .ok (.aload_n 3, 1) := by decide +kernel
theorem dX2_tellPrize_45 : decode cX2_tellPrize 45 = .ok (.getfield 195, 3) := by decide +kernel
theorem dX2_tellPrize_48 : decode cX2_tellPrize 48 = .ok (.ireturn, 1) := by decide +kernel
theorem dX2_tellPrize_49 : decode cX2_tellPrize 49 = .ok (.aload_n 3, 1) := by decide +kernel
theorem dX2_tellPrize_50 : decode cX2_tellPrize 50 = .ok (.getfield 198, 3) := by decide +kernel
theorem dX2_tellPrize_53 : decode cX2_tellPrize 53 = .ok (.ireturn, 1) := by decide +kernel
theorem dX2_tellPrize_54 : decode cX2_tellPrize 54 = .ok (.aload_n 0, 1) := by decide +kernel
theorem dX2_tellPrize_55 : decode cX2_tellPrize 55 = .ok (.getfield 12, 3) := by decide +kernel
theorem dX2_tellPrize_58 : decode cX2_tellPrize 58 = .ok (.aload_n 3, 1) := by decide +kernel
theorem dX2_tellPrize_59 : decode cX2_tellPrize 59 = .ok (.getfield 199, 3) := by decide +kernel
theorem dX2_tellPrize_62 : decode cX2_tellPrize 62 = .ok (.aload_n 3, 1) := by decide +kernel
theorem dX2_tellPrize_63 : decode cX2_tellPrize 63 = .ok (.getfield 202, 3) := by decide +kernel
theorem dX2_tellPrize_66 : decode cX2_tellPrize 66 = .ok (.aload_n 0, 1) := by decide +kernel
theorem dX2_tellPrize_67 : decode cX2_tellPrize 67 = .ok (.invokevirtual 205, 3) := by decide +kernel
theorem dX2_tellPrize_70 : decode cX2_tellPrize 70 = .ok (.ireturn, 1) := by decide +kernel
theorem dX2_tellPrize_71 : decode cX2_tellPrize 71 = .ok (.aload_n 0, 1) := by decide +kernel
theorem dX2_tellPrize_72 : decode cX2_tellPrize 72 = .ok (.getfield 12, 3) := by decide +kernel
theorem dX2_tellPrize_75 : decode cX2_tellPrize 75 = .ok (.aload_n 3, 1) := by decide +kernel
theorem dX2_tellPrize_76 : decode cX2_tellPrize 76 = .ok (.getfield 202, 3) := by decide +kernel
theorem dX2_tellPrize_79 : decode cX2_tellPrize 79 = .ok (.aload_n 3, 1) := by decide +kernel
theorem dX2_tellPrize_80 : decode cX2_tellPrize 80 = .ok (.getfield 209, 3) := by decide +kernel
theorem dX2_tellPrize_83 : decode cX2_tellPrize 83 = .ok (.aload_n 0, 1) := by decide +kernel
theorem dX2_tellPrize_84 : decode cX2_tellPrize 84 = .ok (.invokevirtual 205, 3) := by decide +kernel
theorem dX2_tellPrize_87 : decode cX2_tellPrize 87 = .ok (.ireturn, 1) := by decide +kernel
theorem dX2_tellRail_0 : decode cX2_tellRail 0 = .ok (.aload_n 0, 1) := by decide +kernel
theorem dX2_tellRail_1 : decode cX2_tellRail 1 = .ok (.iload_n 1, 1) := by decide +kernel
theorem dX2_tellRail_2 : decode cX2_tellRail 2 = .ok (.invokevirtual 135, 3) := by decide +kernel
theorem dX2_tellRail_5 : decode cX2_tellRail 5 = .ok (.ifCond .ne 5, 3) := by decide +kernel
theorem dX2_tellRail_10 : decode cX2_tellRail 10 = .ok (.aload_n 0, 1) := by decide +kernel
theorem dX2_tellRail_11 : decode cX2_tellRail 11 = .ok (.getfield 34, 3) := by decide +kernel
theorem dX2_tellRail_14 : decode cX2_tellRail 14 = .ok (.iload_n 1, 1) := by decide +kernel
theorem dX2_tellRail_15 : decode cX2_tellRail 15 = .ok (.aaload, 1) := by decide +kernel
theorem dX2_tellRail_16 : decode cX2_tellRail 16 = .ok (.astore_n 3, 1) := by decide +kernel
theorem dX2_tellRail_17 : decode cX2_tellRail 17 = .ok (.iload_n 2, 1) := by decide +kernel
theorem dX2_tellRail_18 : decode cX2_tellRail 18 = .ok (.tableswitch 50 0 3 #[30, 35, 40, 45], 30) := by decide +kernel
theorem dX2_tellRail_48 : decode cX2_tellRail 48 = .ok (.aload_n 3, 1) := by decide +kernel
theorem dX2_tellRail_49 : decode cX2_tellRail 49 = .ok (.getfield 154, 3) := by decide +kernel
theorem dX2_tellRail_52 : decode cX2_tellRail 52 = .ok (.ireturn, 1) := by decide +kernel
theorem dX2_tellRail_53 : decode cX2_tellRail 53 = .ok (.aload_n 3, 1) := by decide +kernel
theorem dX2_tellRail_54 : decode cX2_tellRail 54 = .ok (.getfield 157, 3) := by decide +kernel
theorem dX2_tellRail_57 : decode cX2_tellRail 57 = .ok (.ireturn, 1) := by decide +kernel
theorem dX2_tellRail_58 : decode cX2_tellRail 58 = .ok (.aload_n 3, 1) := by decide +kernel
theorem dX2_tellRail_59 : decode cX2_tellRail 59 = .ok (.getfield 160, 3) := by decide +kernel
theorem dX2_tellRail_62 : decode cX2_tellRail 62 = .ok (.ireturn, 1) := by decide +kernel
theorem dX2_tellRail_63 : decode cX2_tellRail 63 = .ok (.aload_n 3, 1) := by decide +kernel
theorem dX2_tellRail_64 : decode cX2_tellRail 64 = .ok (.getfield 163, 3) := by decide +kernel
theorem dX2_tellRail_67 : decode cX2_tellRail 67 = .ok (.ireturn, 1) := by decide +kernel
theorem dX2_tellRail_68 : decode cX2_tellRail 68 = .ok (.aload_n 3, 1) := by decide +kernel
theorem dX2_tellRail_69 : decode cX2_tellRail 69 = .ok (.getfield 166, 3) := by decide +kernel
theorem dX2_tellRail_72 : decode cX2_tellRail 72 = .ok (.ireturn, 1) := by decide +kernel
theorem dX2_tellTurn_0 : decode cX2_tellTurn 0 = .ok (.aload_n 0, 1) := by decide +kernel
theorem dX2_tellTurn_1 : decode cX2_tellTurn 1 = .ok (.iload_n 1, 1) := by decide +kernel
theorem dX2_tellTurn_2 : decode cX2_tellTurn 2 = .ok (.invokevirtual 212, 3) := by decide +kernel
theorem dX2_tellTurn_5 : decode cX2_tellTurn 5 = .ok (.ifCond .ne 5, 3) := by decide +kernel
theorem dX2_tellTurn_10 : decode cX2_tellTurn 10 = .ok (.aload_n 0, 1) := by decide +kernel
theorem dX2_tellTurn_11 : decode cX2_tellTurn 11 = .ok (.getfield 52, 3) := by decide +kernel
theorem dX2_tellTurn_14 : decode cX2_tellTurn 14 = .ok (.iload_n 1, 1) := by decide +kernel
theorem dX2_tellTurn_15 : decode cX2_tellTurn 15 = .ok (.aaload, 1) := by decide +kernel
theorem dX2_tellTurn_16 : decode cX2_tellTurn 16 = .ok (.astore_n 3, 1) := by decide +kernel
theorem dX2_tellTurn_17 : decode cX2_tellTurn 17 = .ok (.iload_n 2, 1) := by decide +kernel
theorem dX2_tellTurn_18 : decode cX2_tellTurn 18 = .ok (.tableswitch 42 0 2 #[26, 31, 36], 26) := by decide +kernel
theorem dX2_tellTurn_44 : decode cX2_tellTurn 44 = .ok (.aload_n 3, 1) := by decide +kernel
theorem dX2_tellTurn_45 : decode cX2_tellTurn 45 = .ok (.getfield 215, 3) := by decide +kernel
theorem dX2_tellTurn_48 : decode cX2_tellTurn 48 = .ok (.ireturn, 1) := by decide +kernel
theorem dX2_tellTurn_49 : decode cX2_tellTurn 49 = .ok (.aload_n 3, 1) := by decide +kernel
theorem dX2_tellTurn_50 : decode cX2_tellTurn 50 = .ok (.getfield 218, 3) := by decide +kernel
theorem dX2_tellTurn_53 : decode cX2_tellTurn 53 = .ok (.ireturn, 1) := by decide +kernel
theorem dX2_tellTurn_54 : decode cX2_tellTurn 54 = .ok (.aload_n 0, 1) := by decide +kernel
theorem dX2_tellTurn_55 : decode cX2_tellTurn 55 = .ok (.iload_n 1, 1) := by decide +kernel
theorem dX2_tellTurn_56 : decode cX2_tellTurn 56 = .ok (.invokevirtual 221, 3) := by decide +kernel
theorem dX2_tellTurn_59 : decode cX2_tellTurn 59 = .ok (.ireturn, 1) := by decide +kernel
theorem dX2_tellTurn_60 : decode cX2_tellTurn 60 = .ok (.aload_n 0, 1) := by decide +kernel
theorem dX2_tellTurn_61 : decode cX2_tellTurn 61 = .ok (.aload_n 3, 1) := by decide +kernel
theorem dX2_tellTurn_62 : decode cX2_tellTurn 62 = .ok (.invokevirtual 224, 3) := by decide +kernel
theorem dX2_tellTurn_65 : decode cX2_tellTurn 65 = .ok (.ifCond .eq 7, 3) := by decide +kernel
theorem dX2_tellTurn_68 : decode cX2_tellTurn 68 = .ok (.iconst 1, 1) := by decide +kernel
theorem dX2_tellTurn_69 : decode cX2_tellTurn 69 = .ok (.goto 4, 3) := by decide +kernel
theorem dX2_tellTurn_72 : decode cX2_tellTurn 72 = .ok (.iconst 0, 1) := by decide +kernel
theorem dX2_tellTurn_73 : decode cX2_tellTurn 73 = .ok (.ireturn, 1) := by decide +kernel
/-! what is told when asked -/
theorem k_c5 {w : Nat} (h : w < 5) : w = 0 ∨ w = 1 ∨ w = 2 ∨ w = 3 ∨ w = 4 := by omega
theorem k_c4 {w : Nat} (h : w < 4) : w = 0 ∨ w = 1 ∨ w = 2 ∨ w = 3 := by omega
theorem k_c9 {w : Nat} (h : w < 9) : w = 0 ∨ w = 1 ∨ w = 2 ∨ w = 3 ∨ w = 4 ∨ w = 5 ∨ w = 6 ∨ w = 7 ∨ w = 8 := by omega
def tlF (B : BS) (m : MS) (i w : Nat) : Int32 := if w = 8 then plcM B m (m.fist i 4) else m.fist i w
def tlP (B : BS) (m : MS) (i w : Nat) : Int32 := if w = 2 then B.wo i (rdM B m) else if w = 3 then B.te i (rdM B m) else m.prize i w
noncomputable def dueI (B : BS) (m : MS) (t : Nat) : Int32 := @ite _ (dueM B m t) (Classical.propDecidable _) 1 0
noncomputable def tlT (B : BS) (m : MS) (i w : Nat) : Int32 := if w = 0 then nI (B.tF i) else if w = 1 then nI (B.tR i) else if w = 2 then lstM m (nI i) B.nT else dueI B m i
def tlC (B : BS) (m : MS) (w : Nat) : Int32 := if w = 0 then m.g 0 else if w = 1 then nI B.nR else if w = 2 then nI B.nF else if w = 3 then nI B.nP else if w = 4 then nI B.nT else if w = 5 then m.g 3 else if w = 6 then m.g 4 else if w = 7 then pursM B m else nI m.nb
section Ask
variable {G : Gp} {S : AMem} {I : Nat → Nat → Int32} {J : Nat → Nat → Int64} {R : Nat → Nat → Option Nat} {c : Nat} {B : BS} {m : MS}
theorem k_X2_tellRail {i w : Nat} (hG : okG G) (hct : CT S R c) (hB : AbB I c B) (hm : AbM I c B m) (hi : i < B.nR) (hw : w < 5) : Fn G mX2_tellRail 1 [vR c, vI (nI i), vI (nI w)] (mw S I J R) (fun rr M1 => rr = some (vI (m.rail i w)) ∧ M1 = mw S I J R) := by
  have hct2 := hct
  obtain ⟨kc, rc0, rc1, rc2, rc3, rc4, rc5, rc6, rc7, ⟨kd, rd0, rd1, rd2, kd2, ld2, kd3, ld3, kd4, ld4⟩, ⟨kb, rb, kb6, lb6⟩, ⟨kf, rf, kf8, lf8⟩, ⟨kr, lr, hr⟩, ⟨kfi, lfi, hfi⟩, ⟨kp, lp, hpz⟩, ⟨kt, lt, htu⟩, kw, lw⟩ := id hct2
  obtain ⟨⟨u1, u2⟩, ⟨u3, u4⟩, ⟨u5, u6⟩, ⟨u7, u8⟩, _⟩ := id hB
  obtain ⟨r1, r2, r3, r4, r5⟩ := hr i (by omega)
  have hin : vp_in (nI i) (S.ln (c + 9)) := by rw [lr]; exact vp_in_nI (by omega) (by decide)
  have hR : R (c + 9) (nI i).toNatClampNeg = some (c + 14 + 2 * i) := by rw [nI_clamp (by omega)]; exact r1
  refine am_aload_n (q := 1) dX2_tellRail_0 rfl rfl ?_
  refine am_iload_n (q := 2) dX2_tellRail_1 rfl rfl ?_
  refine cm_call0 (q := 5) (As := [_]) hG dX2_tellRail_2 mlX2_135 rfl (by assumption) ⟨_, _, rfl⟩ (Nat.le_of_ble_eq_true rfl) (Nat.le_of_ble_eq_true rfl) (Nat.le_of_ble_eq_true rfl) (Nat.le_of_ble_eq_true rfl) (k_X2_hasRail hct u1 u2) rfl ?_
  rintro _ _ ⟨rfl, rfl⟩
  refine am_if_ne (tgt := 10) (q := 8) dX2_tellRail_5 rfl rfl (fun _ => ?_) (fun hz => absurd hz (bI_n0.mpr (k_inr hi (by omega))))
  refine am_aload_n (q := 11) dX2_tellRail_10 rfl rfl ?_
  refine cm_getR (q := 14) dX2_tellRail_11 flX2_34 rfl (by assumption) (by assumption) rfl ?_
  refine am_iload_n (q := 15) dX2_tellRail_14 rfl rfl ?_
  refine cm_aaloadK (q := 16) dX2_tellRail_15 (by assumption) (by decide) hin hR rfl ?_
  refine am_astore_n (q := 17) (ls1 := [_, _, _, _]) dX2_tellRail_16 (Nat.le_of_ble_eq_true rfl) rfl rfl ?_
  have hv := hm.2.1 i hi w hw
  rcases k_c5 hw with rfl | rfl | rfl | rfl | rfl
  · refine am_iload_n (q := 18) dX2_tellRail_17 rfl rfl ?_
    refine am_tableIn (tgt := 48) dX2_tellRail_18 (by decide) (by decide) rfl rfl ?_
    refine am_aload_n (q := 49) dX2_tellRail_48 rfl rfl ?_
    refine cm_getI (q := 52) dX2_tellRail_49 flX2_154 rfl (by assumption) rfl ?_
    exact am_iret dX2_tellRail_52 rfl rfl ⟨_, rfl, by rw [← hv], rfl⟩
  · refine am_iload_n (q := 18) dX2_tellRail_17 rfl rfl ?_
    refine am_tableIn (tgt := 53) dX2_tellRail_18 (by decide) (by decide) rfl rfl ?_
    refine am_aload_n (q := 54) dX2_tellRail_53 rfl rfl ?_
    refine cm_getI (q := 57) dX2_tellRail_54 flX2_157 rfl (by assumption) rfl ?_
    exact am_iret dX2_tellRail_57 rfl rfl ⟨_, rfl, by rw [← hv], rfl⟩
  · refine am_iload_n (q := 18) dX2_tellRail_17 rfl rfl ?_
    refine am_tableIn (tgt := 58) dX2_tellRail_18 (by decide) (by decide) rfl rfl ?_
    refine am_aload_n (q := 59) dX2_tellRail_58 rfl rfl ?_
    refine cm_getI (q := 62) dX2_tellRail_59 flX2_160 rfl (by assumption) rfl ?_
    exact am_iret dX2_tellRail_62 rfl rfl ⟨_, rfl, by rw [← hv], rfl⟩
  · refine am_iload_n (q := 18) dX2_tellRail_17 rfl rfl ?_
    refine am_tableIn (tgt := 63) dX2_tellRail_18 (by decide) (by decide) rfl rfl ?_
    refine am_aload_n (q := 64) dX2_tellRail_63 rfl rfl ?_
    refine cm_getI (q := 67) dX2_tellRail_64 flX2_163 rfl (by assumption) rfl ?_
    exact am_iret dX2_tellRail_67 rfl rfl ⟨_, rfl, by rw [← hv], rfl⟩
  · refine am_iload_n (q := 18) dX2_tellRail_17 rfl rfl ?_
    refine am_tableOut (tgt := 68) dX2_tellRail_18 (by decide) rfl ?_
    refine am_aload_n (q := 69) dX2_tellRail_68 rfl rfl ?_
    refine cm_getI (q := 72) dX2_tellRail_69 flX2_166 rfl (by assumption) rfl ?_
    exact am_iret dX2_tellRail_72 rfl rfl ⟨_, rfl, by rw [← hv], rfl⟩
theorem k_X2_tellFist {i w : Nat} (hG : okG G) (hct : CT S R c) (hB : AbB I c B) (hm : AbM I c B m) (hi : i < B.nF) (hw : w < 9) : Fn G mX2_tellFist 1 [vR c, vI (nI i), vI (nI w)] (mw S I J R) (fun rr M1 => rr = some (vI (tlF B m i w)) ∧ M1 = mw S I J R) := by
  have hct2 := hct
  obtain ⟨kc, rc0, rc1, rc2, rc3, rc4, rc5, rc6, rc7, ⟨kd, rd0, rd1, rd2, kd2, ld2, kd3, ld3, kd4, ld4⟩, ⟨kb, rb, kb6, lb6⟩, ⟨kf, rf, kf8, lf8⟩, ⟨kr, lr, hr⟩, ⟨kfi, lfi, hfi⟩, ⟨kp, lp, hpz⟩, ⟨kt, lt, htu⟩, kw, lw⟩ := id hct2
  obtain ⟨⟨u1, u2⟩, ⟨u3, u4⟩, ⟨u5, u6⟩, ⟨u7, u8⟩, _⟩ := id hB
  obtain ⟨r1, r2⟩ := hfi i (by omega)
  have hin : vp_in (nI i) (S.ln (c + 10)) := by rw [lfi]; exact vp_in_nI (by omega) (by decide)
  have hR : R (c + 10) (nI i).toNatClampNeg = some (c + 22 + i) := by rw [nI_clamp (by omega)]; exact r1
  refine am_aload_n (q := 1) dX2_tellFist_0 rfl rfl ?_
  refine am_iload_n (q := 2) dX2_tellFist_1 rfl rfl ?_
  refine cm_call0 (q := 5) (As := [_]) hG dX2_tellFist_2 mlX2_167 rfl (by assumption) ⟨_, _, rfl⟩ (Nat.le_of_ble_eq_true rfl) (Nat.le_of_ble_eq_true rfl) (Nat.le_of_ble_eq_true rfl) (Nat.le_of_ble_eq_true rfl) (k_X2_hasFist hct u3 u4) rfl ?_
  rintro _ _ ⟨rfl, rfl⟩
  refine am_if_ne (tgt := 10) (q := 8) dX2_tellFist_5 rfl rfl (fun _ => ?_) (fun hz => absurd hz (bI_n0.mpr (k_inr hi (by omega))))
  refine am_aload_n (q := 11) dX2_tellFist_10 rfl rfl ?_
  refine cm_getR (q := 14) dX2_tellFist_11 flX2_40 rfl (by assumption) (by assumption) rfl ?_
  refine am_iload_n (q := 15) dX2_tellFist_14 rfl rfl ?_
  refine cm_aaloadK (q := 16) dX2_tellFist_15 (by assumption) (by decide) hin hR rfl ?_
  refine am_astore_n (q := 17) (ls1 := [_, _, _, _]) dX2_tellFist_16 (Nat.le_of_ble_eq_true rfl) rfl rfl ?_
  have hv := hm.1 i hi w (by omega)
  rcases k_c9 hw with rfl | rfl | rfl | rfl | rfl | rfl | rfl | rfl | rfl
  · refine am_iload_n (q := 18) dX2_tellFist_17 rfl rfl ?_
    refine am_tableIn (tgt := 64) dX2_tellFist_18 (by decide) (by decide) rfl rfl ?_
    refine am_aload_n (q := 65) dX2_tellFist_64 rfl rfl ?_
    refine cm_getI (q := 68) dX2_tellFist_65 flX2_170 rfl (by assumption) rfl ?_
    exact am_iret dX2_tellFist_68 rfl rfl ⟨_, rfl, by rw [show tlF B m i 0 = m.fist i 0 from rfl, ← hv], rfl⟩
  · refine am_iload_n (q := 18) dX2_tellFist_17 rfl rfl ?_
    refine am_tableIn (tgt := 69) dX2_tellFist_18 (by decide) (by decide) rfl rfl ?_
    refine am_aload_n (q := 70) dX2_tellFist_69 rfl rfl ?_
    refine cm_getI (q := 73) dX2_tellFist_70 flX2_173 rfl (by assumption) rfl ?_
    exact am_iret dX2_tellFist_73 rfl rfl ⟨_, rfl, by rw [show tlF B m i 1 = m.fist i 1 from rfl, ← hv], rfl⟩
  · refine am_iload_n (q := 18) dX2_tellFist_17 rfl rfl ?_
    refine am_tableIn (tgt := 74) dX2_tellFist_18 (by decide) (by decide) rfl rfl ?_
    refine am_aload_n (q := 75) dX2_tellFist_74 rfl rfl ?_
    refine cm_getI (q := 78) dX2_tellFist_75 flX2_176 rfl (by assumption) rfl ?_
    exact am_iret dX2_tellFist_78 rfl rfl ⟨_, rfl, by rw [show tlF B m i 2 = m.fist i 2 from rfl, ← hv], rfl⟩
  · refine am_iload_n (q := 18) dX2_tellFist_17 rfl rfl ?_
    refine am_tableIn (tgt := 79) dX2_tellFist_18 (by decide) (by decide) rfl rfl ?_
    refine am_aload_n (q := 80) dX2_tellFist_79 rfl rfl ?_
    refine cm_getI (q := 83) dX2_tellFist_80 flX2_179 rfl (by assumption) rfl ?_
    exact am_iret dX2_tellFist_83 rfl rfl ⟨_, rfl, by rw [show tlF B m i 3 = m.fist i 3 from rfl, ← hv], rfl⟩
  · refine am_iload_n (q := 18) dX2_tellFist_17 rfl rfl ?_
    refine am_tableIn (tgt := 84) dX2_tellFist_18 (by decide) (by decide) rfl rfl ?_
    refine am_aload_n (q := 85) dX2_tellFist_84 rfl rfl ?_
    refine cm_getI (q := 88) dX2_tellFist_85 flX2_182 rfl (by assumption) rfl ?_
    exact am_iret dX2_tellFist_88 rfl rfl ⟨_, rfl, by rw [show tlF B m i 4 = m.fist i 4 from rfl, ← hv], rfl⟩
  · refine am_iload_n (q := 18) dX2_tellFist_17 rfl rfl ?_
    refine am_tableIn (tgt := 89) dX2_tellFist_18 (by decide) (by decide) rfl rfl ?_
    refine am_aload_n (q := 90) dX2_tellFist_89 rfl rfl ?_
    refine cm_getI (q := 93) dX2_tellFist_90 flX2_185 rfl (by assumption) rfl ?_
    exact am_iret dX2_tellFist_93 rfl rfl ⟨_, rfl, by rw [show tlF B m i 5 = m.fist i 5 from rfl, ← hv], rfl⟩
  · refine am_iload_n (q := 18) dX2_tellFist_17 rfl rfl ?_
    refine am_tableIn (tgt := 94) dX2_tellFist_18 (by decide) (by decide) rfl rfl ?_
    refine am_aload_n (q := 95) dX2_tellFist_94 rfl rfl ?_
    refine cm_getI (q := 98) dX2_tellFist_95 flX2_186 rfl (by assumption) rfl ?_
    exact am_iret dX2_tellFist_98 rfl rfl ⟨_, rfl, by rw [show tlF B m i 6 = m.fist i 6 from rfl, ← hv], rfl⟩
  · refine am_iload_n (q := 18) dX2_tellFist_17 rfl rfl ?_
    refine am_tableIn (tgt := 99) dX2_tellFist_18 (by decide) (by decide) rfl rfl ?_
    refine am_aload_n (q := 100) dX2_tellFist_99 rfl rfl ?_
    refine cm_getI (q := 103) dX2_tellFist_100 flX2_187 rfl (by assumption) rfl ?_
    exact am_iret dX2_tellFist_103 rfl rfl ⟨_, rfl, by rw [show tlF B m i 7 = m.fist i 7 from rfl, ← hv], rfl⟩
  · refine am_iload_n (q := 18) dX2_tellFist_17 rfl rfl ?_
    refine am_tableOut (tgt := 104) dX2_tellFist_18 (by decide) rfl ?_
    refine am_aload_n (q := 105) dX2_tellFist_104 rfl rfl ?_
    refine am_aload_n (q := 106) dX2_tellFist_105 rfl rfl ?_
    refine cm_getI (q := 109) dX2_tellFist_106 flX2_182 rfl (by assumption) rfl ?_
    rw [show I (c + 22 + i) 5 = m.fist i 4 from hm.1 i hi 4 (by decide)]
    refine cm_call0 (q := 112) (As := [_]) hG dX2_tellFist_109 mlX2_188 rfl (by assumption) ⟨_, _, rfl⟩ (Nat.le_of_ble_eq_true rfl) (Nat.le_of_ble_eq_true rfl) (Nat.le_of_ble_eq_true rfl) (Nat.le_of_ble_eq_true rfl) (k_X2_placeOfPurse hct hB hm) rfl ?_
    rintro _ _ ⟨rfl, rfl⟩
    exact am_iret dX2_tellFist_112 rfl rfl ⟨_, rfl, rfl, rfl⟩
theorem k_X2_tellPrize {i w : Nat} (hG : okG G) (hct : CT S R c) (hB : AbB I c B) (hm : AbM I c B m) (hi : i < B.nP) (hw : w < 4) : Fn G mX2_tellPrize 3 [vR c, vI (nI i), vI (nI w)] (mw S I J R) (fun rr M1 => rr = some (vI (tlP B m i w)) ∧ ∃ I1, M1 = mw S I1 J R ∧ Qt c I I1) := by
  have hct2 := hct
  obtain ⟨kc, rc0, rc1, rc2, rc3, rc4, rc5, rc6, rc7, ⟨kd, rd0, rd1, rd2, kd2, ld2, kd3, ld3, kd4, ld4⟩, ⟨kb, rb, kb6, lb6⟩, ⟨kf, rf, kf8, lf8⟩, ⟨kr, lr, hr⟩, ⟨kfi, lfi, hfi⟩, ⟨kp, lp, hpz⟩, ⟨kt, lt, htu⟩, kw, lw⟩ := id hct2
  obtain ⟨⟨u1, u2⟩, ⟨u3, u4⟩, ⟨u5, u6⟩, ⟨u7, u8⟩, _⟩ := id hB
  obtain ⟨r1, r2⟩ := hpz i (by omega)
  have hin : vp_in (nI i) (S.ln (c + 11)) := by rw [lp]; exact vp_in_nI (by omega) (by decide)
  have hR : R (c + 11) (nI i).toNatClampNeg = some (c + 30 + i) := by rw [nI_clamp (by omega)]; exact r1
  refine am_aload_n (q := 1) dX2_tellPrize_0 rfl rfl ?_
  refine am_iload_n (q := 2) dX2_tellPrize_1 rfl rfl ?_
  refine cm_call0 (q := 5) (As := [_]) hG dX2_tellPrize_2 mlX2_192 rfl (by assumption) ⟨_, _, rfl⟩ (Nat.le_of_ble_eq_true rfl) (Nat.le_of_ble_eq_true rfl) (Nat.le_of_ble_eq_true rfl) (Nat.le_of_ble_eq_true rfl) (k_X2_hasPrize hct u5 u6) rfl ?_
  rintro _ _ ⟨rfl, rfl⟩
  refine am_if_ne (tgt := 10) (q := 8) dX2_tellPrize_5 rfl rfl (fun _ => ?_) (fun hz => absurd hz (bI_n0.mpr (k_inr hi (by omega))))
  refine am_aload_n (q := 11) dX2_tellPrize_10 rfl rfl ?_
  refine cm_getR (q := 14) dX2_tellPrize_11 flX2_46 rfl (by assumption) (by assumption) rfl ?_
  refine am_iload_n (q := 15) dX2_tellPrize_14 rfl rfl ?_
  refine cm_aaloadK (q := 16) dX2_tellPrize_15 (by assumption) (by decide) hin hR rfl ?_
  refine am_astore_n (q := 17) (ls1 := [_, _, _, _]) dX2_tellPrize_16 (Nat.le_of_ble_eq_true rfl) rfl rfl ?_
  obtain ⟨_, _, _, _, _, _, z, hz, hz4, _, hpp⟩ := id hB
  obtain ⟨p, q, t, w1, w2, w3, w4, w5, w6, w7, w8⟩ := hpp i hi
  rcases k_c4 hw with rfl | rfl | rfl | rfl
  · have hv : I (c + 30 + i) 1 = m.prize i 0 := hm.2.2.1 i hi 0 (by decide)
    refine am_iload_n (q := 18) dX2_tellPrize_17 rfl rfl ?_
    refine am_tableIn (tgt := 44) dX2_tellPrize_18 (by decide) (by decide) rfl rfl ?_
    refine am_aload_n (q := 45) dX2_tellPrize_44 rfl rfl ?_
    refine cm_getI (q := 48) dX2_tellPrize_45 flX2_195 rfl (by assumption) rfl ?_
    exact am_iret dX2_tellPrize_48 rfl rfl ⟨_, rfl, by rw [show tlP B m i 0 = m.prize i 0 from rfl, hv], I, rfl, Qt.rf⟩
  · have hv : I (c + 30 + i) 2 = m.prize i 1 := hm.2.2.1 i hi 1 (by decide)
    refine am_iload_n (q := 18) dX2_tellPrize_17 rfl rfl ?_
    refine am_tableIn (tgt := 49) dX2_tellPrize_18 (by decide) (by decide) rfl rfl ?_
    refine am_aload_n (q := 50) dX2_tellPrize_49 rfl rfl ?_
    refine cm_getI (q := 53) dX2_tellPrize_50 flX2_198 rfl (by assumption) rfl ?_
    exact am_iret dX2_tellPrize_53 rfl rfl ⟨_, rfl, by rw [show tlP B m i 1 = m.prize i 1 from rfl, hv], I, rfl, Qt.rf⟩
  · refine am_iload_n (q := 18) dX2_tellPrize_17 rfl rfl ?_
    refine am_tableIn (tgt := 54) dX2_tellPrize_18 (by decide) (by decide) rfl rfl ?_
    refine am_aload_n (q := 55) dX2_tellPrize_54 rfl rfl ?_
    refine cm_getR (q := 58) dX2_tellPrize_55 flX2_12 rfl (by assumption) (by assumption) rfl ?_
    refine am_aload_n (q := 59) dX2_tellPrize_58 rfl rfl ?_
    refine cm_getI (q := 62) dX2_tellPrize_59 flX2_199 rfl (by assumption) rfl ?_
    refine am_aload_n (q := 63) dX2_tellPrize_62 rfl rfl ?_
    refine cm_getI (q := 66) dX2_tellPrize_63 flX2_202 rfl (by assumption) rfl ?_
    refine am_aload_n (q := 67) dX2_tellPrize_66 rfl rfl ?_
    rw [w1, w2]
    refine cm_call0 (q := 70) (As := [_, _, _]) hG dX2_tellPrize_67 mlX2_205 rfl (by assumption) ⟨_, _, rfl⟩ (Nat.le_of_ble_eq_true rfl) (Nat.le_of_ble_eq_true rfl) (Nat.le_of_ble_eq_true rfl) (Nat.le_of_ble_eq_true rfl) (k_rk hG hct hB hm w4 hz hz4 (by omega) w7) rfl ?_
    rintro _ _ ⟨rfl, I1, rfl, hq⟩
    exact am_iret dX2_tellPrize_70 rfl rfl ⟨_, rfl, rfl, I1, rfl, hq⟩
  · refine am_iload_n (q := 18) dX2_tellPrize_17 rfl rfl ?_
    refine am_tableOut (tgt := 71) dX2_tellPrize_18 (by decide) rfl ?_
    refine am_aload_n (q := 72) dX2_tellPrize_71 rfl rfl ?_
    refine cm_getR (q := 75) dX2_tellPrize_72 flX2_12 rfl (by assumption) (by assumption) rfl ?_
    refine am_aload_n (q := 76) dX2_tellPrize_75 rfl rfl ?_
    refine cm_getI (q := 79) dX2_tellPrize_76 flX2_202 rfl (by assumption) rfl ?_
    refine am_aload_n (q := 80) dX2_tellPrize_79 rfl rfl ?_
    refine cm_getI (q := 83) dX2_tellPrize_80 flX2_209 rfl (by assumption) rfl ?_
    refine am_aload_n (q := 84) dX2_tellPrize_83 rfl rfl ?_
    rw [w2, w3]
    refine cm_call0 (q := 87) (As := [_, _, _]) hG dX2_tellPrize_84 mlX2_205 rfl (by assumption) ⟨_, _, rfl⟩ (Nat.le_of_ble_eq_true rfl) (Nat.le_of_ble_eq_true rfl) (Nat.le_of_ble_eq_true rfl) (Nat.le_of_ble_eq_true rfl) (k_rk hG hct hB hm w5 hz hz4 w6 w8) rfl ?_
    rintro _ _ ⟨rfl, I1, rfl, hq⟩
    exact am_iret dX2_tellPrize_87 rfl rfl ⟨_, rfl, rfl, I1, rfl, hq⟩
theorem k_X2_tellTurn {i w : Nat} (hG : okG G) (hct : CT S R c) (hB : AbB I c B) (hm : AbM I c B m) (hi : i < B.nT) (hw : w < 4) : Fn G mX2_tellTurn 4 [vR c, vI (nI i), vI (nI w)] (mw S I J R) (fun rr M1 => rr = some (vI (tlT B m i w)) ∧ ∃ I1, M1 = mw S I1 J R ∧ Qt c I I1) := by
  have hct2 := hct
  obtain ⟨kc, rc0, rc1, rc2, rc3, rc4, rc5, rc6, rc7, ⟨kd, rd0, rd1, rd2, kd2, ld2, kd3, ld3, kd4, ld4⟩, ⟨kb, rb, kb6, lb6⟩, ⟨kf, rf, kf8, lf8⟩, ⟨kr, lr, hr⟩, ⟨kfi, lfi, hfi⟩, ⟨kp, lp, hpz⟩, ⟨kt, lt, htu⟩, kw, lw⟩ := id hct2
  obtain ⟨⟨u1, u2⟩, ⟨u3, u4⟩, ⟨u5, u6⟩, ⟨u7, u8⟩, _⟩ := id hB
  obtain ⟨r1, r2⟩ := htu i (by omega)
  have hin : vp_in (nI i) (S.ln (c + 12)) := by rw [lt]; exact vp_in_nI (by omega) (by decide)
  have hR : R (c + 12) (nI i).toNatClampNeg = some (c + 38 + i) := by rw [nI_clamp (by omega)]; exact r1
  refine am_aload_n (q := 1) dX2_tellTurn_0 rfl rfl ?_
  refine am_iload_n (q := 2) dX2_tellTurn_1 rfl rfl ?_
  refine cm_call0 (q := 5) (As := [_]) hG dX2_tellTurn_2 mlX2_212 rfl (by assumption) ⟨_, _, rfl⟩ (Nat.le_of_ble_eq_true rfl) (Nat.le_of_ble_eq_true rfl) (Nat.le_of_ble_eq_true rfl) (Nat.le_of_ble_eq_true rfl) (k_X2_hasTurn hct u7 u8) rfl ?_
  rintro _ _ ⟨rfl, rfl⟩
  refine am_if_ne (tgt := 10) (q := 8) dX2_tellTurn_5 rfl rfl (fun _ => ?_) (fun hz => absurd hz (bI_n0.mpr (k_inr hi (by omega))))
  refine am_aload_n (q := 11) dX2_tellTurn_10 rfl rfl ?_
  refine cm_getR (q := 14) dX2_tellTurn_11 flX2_52 rfl (by assumption) (by assumption) rfl ?_
  refine am_iload_n (q := 15) dX2_tellTurn_14 rfl rfl ?_
  refine cm_aaloadK (q := 16) dX2_tellTurn_15 (by assumption) (by decide) hin hR rfl ?_
  refine am_astore_n (q := 17) (ls1 := [_, _, _, _]) dX2_tellTurn_16 (Nat.le_of_ble_eq_true rfl) rfl rfl ?_
  obtain ⟨w1, w2, w3, w4⟩ := hB.2.2.2.2.2.1 i hi
  rcases k_c4 hw with rfl | rfl | rfl | rfl
  · refine am_iload_n (q := 18) dX2_tellTurn_17 rfl rfl ?_
    refine am_tableIn (tgt := 44) dX2_tellTurn_18 (by decide) (by decide) rfl rfl ?_
    refine am_aload_n (q := 45) dX2_tellTurn_44 rfl rfl ?_
    refine cm_getI (q := 48) dX2_tellTurn_45 flX2_215 rfl (by assumption) rfl ?_
    exact am_iret dX2_tellTurn_48 rfl rfl ⟨_, rfl, by rw [w1]; rfl, I, rfl, Qt.rf⟩
  · refine am_iload_n (q := 18) dX2_tellTurn_17 rfl rfl ?_
    refine am_tableIn (tgt := 49) dX2_tellTurn_18 (by decide) (by decide) rfl rfl ?_
    refine am_aload_n (q := 50) dX2_tellTurn_49 rfl rfl ?_
    refine cm_getI (q := 53) dX2_tellTurn_50 flX2_218 rfl (by assumption) rfl ?_
    exact am_iret dX2_tellTurn_53 rfl rfl ⟨_, rfl, by rw [w3]; rfl, I, rfl, Qt.rf⟩
  · refine am_iload_n (q := 18) dX2_tellTurn_17 rfl rfl ?_
    refine am_tableIn (tgt := 54) dX2_tellTurn_18 (by decide) (by decide) rfl rfl ?_
    refine am_aload_n (q := 55) dX2_tellTurn_54 rfl rfl ?_
    refine am_iload_n (q := 56) dX2_tellTurn_55 rfl rfl ?_
    refine cm_call0 (q := 59) (As := [_]) hG dX2_tellTurn_56 mlX2_221 rfl (by assumption) ⟨_, _, rfl⟩ (Nat.le_of_ble_eq_true rfl) (Nat.le_of_ble_eq_true rfl) (Nat.le_of_ble_eq_true rfl) (Nat.le_of_ble_eq_true rfl) (k_X2_placeInRow hct hB hm) rfl ?_
    rintro _ _ ⟨rfl, rfl⟩
    exact am_iret dX2_tellTurn_59 rfl rfl ⟨_, rfl, rfl, I, rfl, Qt.rf⟩
  · have e3 : tlT B m i 3 = dueI B m i := rfl
    unfold dueI at e3
    refine am_iload_n (q := 18) dX2_tellTurn_17 rfl rfl ?_
    refine am_tableOut (tgt := 60) dX2_tellTurn_18 (by decide) rfl ?_
    refine am_aload_n (q := 61) dX2_tellTurn_60 rfl rfl ?_
    refine am_aload_n (q := 62) dX2_tellTurn_61 rfl rfl ?_
    refine cm_call0 (q := 65) (As := [_]) hG dX2_tellTurn_62 mlX2_224 rfl (by assumption) ⟨_, _, rfl⟩ (Nat.le_of_ble_eq_true rfl) (Nat.le_of_ble_eq_true rfl) (Nat.le_of_ble_eq_true rfl) (Nat.le_of_ble_eq_true rfl) (k_X2_isDue hG hct hB hm hi) rfl ?_
    rintro _ _ ⟨v, rfl, hv, I1, rfl, hq⟩
    refine am_if_eq (tgt := 72) (q := 68) dX2_tellTurn_65 rfl rfl (fun hc => ?_) (fun hc => ?_)
    · rw [if_neg (fun q => hv.mpr q hc)] at e3
      refine am_iconst (q := 73) (v := 0) dX2_tellTurn_72 kc_i0 rfl ?_
      exact am_iret dX2_tellTurn_73 rfl rfl ⟨_, rfl, by rw [e3], I1, rfl, hq⟩
    · rw [if_pos (hv.mp hc)] at e3
      refine am_iconst (q := 69) (v := 1) dX2_tellTurn_68 kc_i1 rfl ?_
      refine am_goto (tgt := 73) dX2_tellTurn_69 rfl ?_
      exact am_iret dX2_tellTurn_73 rfl rfl ⟨_, rfl, by rw [e3], I1, rfl, hq⟩
theorem k_X2_tellCountOf {w : Nat} (hG : okG G) (hct : CT S R c) (hB : AbB I c B) (hm : AbM I c B m) (hw : w < 9) : Fn G mX2_tellCountOf 1 [vR c, vI (nI w)] (mw S I J R) (fun rr M1 => rr = some (vI (tlC B m w)) ∧ M1 = mw S I J R) := by
  have hct2 := hct
  obtain ⟨kc, rc0, rc1, rc2, rc3, rc4, rc5, rc6, rc7, ⟨kd, rd0, rd1, rd2, kd2, ld2, kd3, ld3, kd4, ld4⟩, ⟨kb, rb, kb6, lb6⟩, ⟨kf, rf, kf8, lf8⟩, ⟨kr, lr, hr⟩, ⟨kfi, lfi, hfi⟩, ⟨kp, lp, hpz⟩, ⟨kt, lt, htu⟩, kw, lw⟩ := id hct2
  obtain ⟨⟨u1, u2⟩, ⟨u3, u4⟩, ⟨u5, u6⟩, ⟨u7, u8⟩, _⟩ := id hB
  have g0 : I c 13 = m.g 0 := hm.2.2.2.1 0 (by decide)
  have g3 : I c 16 = m.g 3 := hm.2.2.2.1 3 (by decide)
  have g4 : I c 17 = m.g 4 := hm.2.2.2.1 4 (by decide)
  rcases k_c9 hw with rfl | rfl | rfl | rfl | rfl | rfl | rfl | rfl | rfl
  · refine am_iload_n (q := 1) dX2_tellCountOf_0 rfl rfl ?_
    refine am_tableIn (tgt := 48) dX2_tellCountOf_1 (by decide) (by decide) rfl rfl ?_
    refine am_aload_n (q := 49) dX2_tellCountOf_48 rfl rfl ?_
    refine cm_getI (q := 52) dX2_tellCountOf_49 flX2_84 rfl (by assumption) rfl ?_
    exact am_iret dX2_tellCountOf_52 rfl rfl ⟨_, rfl, by rw [g0]; rfl, rfl⟩
  · refine am_iload_n (q := 1) dX2_tellCountOf_0 rfl rfl ?_
    refine am_tableIn (tgt := 53) dX2_tellCountOf_1 (by decide) (by decide) rfl rfl ?_
    refine am_aload_n (q := 54) dX2_tellCountOf_53 rfl rfl ?_
    refine cm_getI (q := 57) dX2_tellCountOf_54 flX2_69 rfl (by assumption) rfl ?_
    exact am_iret dX2_tellCountOf_57 rfl rfl ⟨_, rfl, by rw [u1]; rfl, rfl⟩
  · refine am_iload_n (q := 1) dX2_tellCountOf_0 rfl rfl ?_
    refine am_tableIn (tgt := 58) dX2_tellCountOf_1 (by decide) (by decide) rfl rfl ?_
    refine am_aload_n (q := 59) dX2_tellCountOf_58 rfl rfl ?_
    refine cm_getI (q := 62) dX2_tellCountOf_59 flX2_75 rfl (by assumption) rfl ?_
    exact am_iret dX2_tellCountOf_62 rfl rfl ⟨_, rfl, by rw [u3]; rfl, rfl⟩
  · refine am_iload_n (q := 1) dX2_tellCountOf_0 rfl rfl ?_
    refine am_tableIn (tgt := 63) dX2_tellCountOf_1 (by decide) (by decide) rfl rfl ?_
    refine am_aload_n (q := 64) dX2_tellCountOf_63 rfl rfl ?_
    refine cm_getI (q := 67) dX2_tellCountOf_64 flX2_78 rfl (by assumption) rfl ?_
    exact am_iret dX2_tellCountOf_67 rfl rfl ⟨_, rfl, by rw [u5]; rfl, rfl⟩
  · refine am_iload_n (q := 1) dX2_tellCountOf_0 rfl rfl ?_
    refine am_tableIn (tgt := 68) dX2_tellCountOf_1 (by decide) (by decide) rfl rfl ?_
    refine am_aload_n (q := 69) dX2_tellCountOf_68 rfl rfl ?_
    refine cm_getI (q := 72) dX2_tellCountOf_69 flX2_81 rfl (by assumption) rfl ?_
    exact am_iret dX2_tellCountOf_72 rfl rfl ⟨_, rfl, by rw [u7]; rfl, rfl⟩
  · refine am_iload_n (q := 1) dX2_tellCountOf_0 rfl rfl ?_
    refine am_tableIn (tgt := 73) dX2_tellCountOf_1 (by decide) (by decide) rfl rfl ?_
    refine am_aload_n (q := 74) dX2_tellCountOf_73 rfl rfl ?_
    refine cm_getI (q := 77) dX2_tellCountOf_74 flX2_93 rfl (by assumption) rfl ?_
    exact am_iret dX2_tellCountOf_77 rfl rfl ⟨_, rfl, by rw [g3]; rfl, rfl⟩
  · refine am_iload_n (q := 1) dX2_tellCountOf_0 rfl rfl ?_
    refine am_tableIn (tgt := 78) dX2_tellCountOf_1 (by decide) (by decide) rfl rfl ?_
    refine am_aload_n (q := 79) dX2_tellCountOf_78 rfl rfl ?_
    refine cm_getI (q := 82) dX2_tellCountOf_79 flX2_96 rfl (by assumption) rfl ?_
    exact am_iret dX2_tellCountOf_82 rfl rfl ⟨_, rfl, by rw [g4]; rfl, rfl⟩
  · refine am_iload_n (q := 1) dX2_tellCountOf_0 rfl rfl ?_
    refine am_tableIn (tgt := 83) dX2_tellCountOf_1 (by decide) (by decide) rfl rfl ?_
    refine am_aload_n (q := 84) dX2_tellCountOf_83 rfl rfl ?_
    refine cm_call0 (q := 87) (As := []) hG dX2_tellCountOf_84 mlX2_150 rfl (by assumption) ⟨_, _, rfl⟩ (Nat.le_of_ble_eq_true rfl) (Nat.le_of_ble_eq_true rfl) (Nat.le_of_ble_eq_true rfl) (Nat.le_of_ble_eq_true rfl) (k_X2_allPurses hct hB hm) rfl ?_
    rintro _ _ ⟨rfl, rfl⟩
    exact am_iret dX2_tellCountOf_87 rfl rfl ⟨_, rfl, rfl, rfl⟩
  · refine am_iload_n (q := 1) dX2_tellCountOf_0 rfl rfl ?_
    refine am_tableOut (tgt := 88) dX2_tellCountOf_1 (by decide) rfl ?_
    refine am_aload_n (q := 89) dX2_tellCountOf_88 rfl rfl ?_
    refine cm_getR (q := 92) dX2_tellCountOf_89 flX2_21 rfl (by assumption) (by assumption) rfl ?_
    refine cm_getI (q := 95) dX2_tellCountOf_92 flX2_68 rfl (by assumption) rfl ?_
    exact am_iret dX2_tellCountOf_95 rfl rfl ⟨_, rfl, by rw [hm.2.2.2.2.2.2.2.1]; rfl, rfl⟩
theorem k_X2_flightWithArm {f r : Nat} {arm : Int32} (hG : okG G) (hct : CT S R c) (hB : AbB I c B) (hm : AbM I c B m) (hf : f < B.nF) (hr0 : r < B.nR) : Fn G mX2_flightWithArm 3 [vR c, vI (nI f), vI (nI r), vI arm] (mw S I J R) (fun rr M1 => rr = some (vR (c + 7)) ∧ ∃ I1, M1 = mw S I1 J R ∧ Qt c I I1 ∧ FlyM I1 c (flM B m f r arm)) := by
  have hct2 := hct
  obtain ⟨kc, rc0, rc1, rc2, rc3, rc4, rc5, rc6, rc7, ⟨kd, rd0, rd1, rd2, kd2, ld2, kd3, ld3, kd4, ld4⟩, ⟨kb, rb, kb6, lb6⟩, ⟨kf, rf, kf8, lf8⟩, ⟨kr, lr, hr⟩, ⟨kfi, lfi, hfi⟩, ⟨kp, lp, hpz⟩, ⟨kt, lt, htu⟩, kw, lw⟩ := id hct2
  obtain ⟨⟨u1, u2⟩, ⟨u3, u4⟩, _⟩ := id hB
  obtain ⟨f1, f2⟩ := hfi f (by omega)
  obtain ⟨r1, r2, r3, r4, r5⟩ := hr r (by omega)
  have hinF : vp_in (nI f) (S.ln (c + 10)) := by rw [lfi]; exact vp_in_nI (by omega) (by decide)
  have hRF : R (c + 10) (nI f).toNatClampNeg = some (c + 22 + f) := by rw [nI_clamp (by omega)]; exact f1
  have hinR : vp_in (nI r) (S.ln (c + 9)) := by rw [lr]; exact vp_in_nI (by omega) (by decide)
  have hRR : R (c + 9) (nI r).toNatClampNeg = some (c + 14 + 2 * r) := by rw [nI_clamp (by omega)]; exact r1
  refine am_aload_n (q := 1) dX2_flightWithArm_0 rfl rfl ?_
  refine am_iload_n (q := 2) dX2_flightWithArm_1 rfl rfl ?_
  refine cm_call0 (q := 5) (As := [_]) hG dX2_flightWithArm_2 mlX2_167 rfl (by assumption) ⟨_, _, rfl⟩ (Nat.le_of_ble_eq_true rfl) (Nat.le_of_ble_eq_true rfl) (Nat.le_of_ble_eq_true rfl) (Nat.le_of_ble_eq_true rfl) (k_X2_hasFist hct u3 u4) rfl ?_
  rintro _ _ ⟨rfl, rfl⟩
  refine am_if_eq (tgt := 39) (q := 8) dX2_flightWithArm_5 rfl rfl (fun hz => absurd hz (bI_n0.mpr (k_inr hf (by omega)))) (fun _ => ?_)
  refine am_aload_n (q := 9) dX2_flightWithArm_8 rfl rfl ?_
  refine am_iload_n (q := 10) dX2_flightWithArm_9 rfl rfl ?_
  refine cm_call0 (q := 13) (As := [_]) hG dX2_flightWithArm_10 mlX2_135 rfl (by assumption) ⟨_, _, rfl⟩ (Nat.le_of_ble_eq_true rfl) (Nat.le_of_ble_eq_true rfl) (Nat.le_of_ble_eq_true rfl) (Nat.le_of_ble_eq_true rfl) (k_X2_hasRail hct u1 u2) rfl ?_
  rintro _ _ ⟨rfl, rfl⟩
  refine am_if_eq (tgt := 39) (q := 16) dX2_flightWithArm_13 rfl rfl (fun hz => absurd hz (bI_n0.mpr (k_inr hr0 (by omega)))) (fun _ => ?_)
  refine am_aload_n (q := 17) dX2_flightWithArm_16 rfl rfl ?_
  refine cm_getR (q := 20) dX2_flightWithArm_17 flX2_28 rfl (by assumption) (by assumption) rfl ?_
  refine am_aload_n (q := 21) dX2_flightWithArm_20 rfl rfl ?_
  refine cm_getR (q := 24) dX2_flightWithArm_21 flX2_34 rfl (by assumption) (by assumption) rfl ?_
  refine am_iload_n (q := 25) dX2_flightWithArm_24 rfl rfl ?_
  refine cm_aaloadK (q := 26) dX2_flightWithArm_25 (by assumption) (by decide) hinR hRR rfl ?_
  refine am_aload_n (q := 27) dX2_flightWithArm_26 rfl rfl ?_
  refine cm_getR (q := 30) dX2_flightWithArm_27 flX2_40 rfl (by assumption) (by assumption) rfl ?_
  refine am_iload_n (q := 31) dX2_flightWithArm_30 rfl rfl ?_
  refine cm_aaloadK (q := 32) dX2_flightWithArm_31 (by assumption) (by decide) hinF hRF rfl ?_
  refine am_iload_n (q := 33) dX2_flightWithArm_32 rfl rfl ?_
  refine cm_call0 (q := 36) (As := [_]) hG dX2_flightWithArm_33 mlX2_234 rfl (by assumption) ⟨_, _, rfl⟩ (Nat.le_of_ble_eq_true rfl) (Nat.le_of_ble_eq_true rfl) (Nat.le_of_ble_eq_true rfl) (Nat.le_of_ble_eq_true rfl) (k_fcM hct hB hm hf) rfl ?_
  rintro _ _ ⟨rfl, rfl⟩
  refine cm_call0 (q := 39) (As := [_, _]) hG dX2_flightWithArm_36 mlX2_237 rfl (by assumption) ⟨_, _, rfl⟩ (Nat.le_of_ble_eq_true rfl) (Nat.le_of_ble_eq_true rfl) (Nat.le_of_ble_eq_true rfl) (Nat.le_of_ble_eq_true rfl) (k_flyM hG hct hB hm hr0) rfl ?_
  rintro _ _ ⟨rfl, I1, rfl, hq, hfl⟩
  refine am_aload_n (q := 40) dX2_flightWithArm_39 rfl rfl ?_
  refine cm_getR (q := 43) dX2_flightWithArm_40 flX2_28 rfl (by assumption) (by assumption) rfl ?_
  exact am_aret dX2_flightWithArm_43 rfl (Or.inl ⟨_, rfl⟩) ⟨_, rfl, rfl, I1, rfl, hq, hfl⟩
theorem k_X2_flightOf {f r : Nat} (hG : okG G) (hct : CT S R c) (hB : AbB I c B) (hm : AbM I c B m) (hf : f < B.nF) (hr0 : r < B.nR) : Fn G mX2_flightOf 4 [vR c, vI (nI f), vI (nI r)] (mw S I J R) (fun rr M1 => rr = some (vR (c + 7)) ∧ ∃ I1, M1 = mw S I1 J R ∧ Qt c I I1 ∧ FlyM I1 c (flM B m f r (m.fist f 0))) := by
  have hct2 := hct
  obtain ⟨kc, rc0, rc1, rc2, rc3, rc4, rc5, rc6, rc7, ⟨kd, rd0, rd1, rd2, kd2, ld2, kd3, ld3, kd4, ld4⟩, ⟨kb, rb, kb6, lb6⟩, ⟨kf, rf, kf8, lf8⟩, ⟨kr, lr, hr⟩, ⟨kfi, lfi, hfi⟩, ⟨kp, lp, hpz⟩, ⟨kt, lt, htu⟩, kw, lw⟩ := id hct2
  obtain ⟨⟨u1, u2⟩, ⟨u3, u4⟩, _⟩ := id hB
  obtain ⟨f1, f2⟩ := hfi f (by omega)
  have hinF : vp_in (nI f) (S.ln (c + 10)) := by rw [lfi]; exact vp_in_nI (by omega) (by decide)
  have hRF : R (c + 10) (nI f).toNatClampNeg = some (c + 22 + f) := by rw [nI_clamp (by omega)]; exact f1
  refine am_aload_n (q := 1) dX2_flightOf_0 rfl rfl ?_
  refine am_iload_n (q := 2) dX2_flightOf_1 rfl rfl ?_
  refine am_iload_n (q := 3) dX2_flightOf_2 rfl rfl ?_
  refine am_aload_n (q := 4) dX2_flightOf_3 rfl rfl ?_
  refine am_iload_n (q := 5) dX2_flightOf_4 rfl rfl ?_
  refine cm_call0 (q := 8) (As := [_]) hG dX2_flightOf_5 mlX2_167 rfl (by assumption) ⟨_, _, rfl⟩ (Nat.le_of_ble_eq_true rfl) (Nat.le_of_ble_eq_true rfl) (Nat.le_of_ble_eq_true rfl) (Nat.le_of_ble_eq_true rfl) (k_X2_hasFist hct u3 u4) rfl ?_
  rintro _ _ ⟨rfl, rfl⟩
  refine am_if_eq (tgt := 23) (q := 11) dX2_flightOf_8 rfl rfl (fun hz => absurd hz (bI_n0.mpr (k_inr hf (by omega)))) (fun _ => ?_)
  refine am_aload_n (q := 12) dX2_flightOf_11 rfl rfl ?_
  refine cm_getR (q := 15) dX2_flightOf_12 flX2_40 rfl (by assumption) (by assumption) rfl ?_
  refine am_iload_n (q := 16) dX2_flightOf_15 rfl rfl ?_
  refine cm_aaloadK (q := 17) dX2_flightOf_16 (by assumption) (by decide) hinF hRF rfl ?_
  refine cm_getI (q := 20) dX2_flightOf_17 flX2_170 rfl (by assumption) rfl ?_
  rw [show I (c + 22 + f) 1 = m.fist f 0 from hm.1 f hf 0 (by decide)]
  refine am_goto (tgt := 24) dX2_flightOf_20 rfl ?_
  refine cm_call0 (q := 27) (As := [_, _, _]) hG dX2_flightOf_24 mlX2_230 rfl (by assumption) ⟨_, _, rfl⟩ (Nat.le_of_ble_eq_true rfl) (Nat.le_of_ble_eq_true rfl) (Nat.le_of_ble_eq_true rfl) (Nat.le_of_ble_eq_true rfl) (k_X2_flightWithArm hG hct hB hm hf hr0) rfl ?_
  rintro _ _ ⟨rfl, I1, rfl, hq, hfl⟩
  exact am_aret dX2_flightOf_27 rfl (Or.inl ⟨_, rfl⟩) ⟨_, rfl, rfl, I1, rfl, hq, hfl⟩
theorem k_X2_changeSpring {r : Nat} {s : Int32} (hG : okG G) (hct : CT S R c) (hB : AbB I c B) (hm : AbM I c B m) (hr0 : r < B.nR) : Fn G mX2_changeSpring 1 [vR c, vI (nI r), vI s] (mw S I J R) (fun rr M1 => rr = some (vI (m.rail r 2)) ∧ ∃ I1, M1 = mw S I1 J R ∧ AbB I1 c B ∧ AbM I1 c B (mkMS m.fist (up2 m.rail r 2 s) m.prize m.g m.row m.bd m.nb) ∧ OffC c I I1) := by
  have hct2 := hct
  obtain ⟨kc, rc0, rc1, rc2, rc3, rc4, rc5, rc6, rc7, ⟨kd, rd0, rd1, rd2, kd2, ld2, kd3, ld3, kd4, ld4⟩, ⟨kb, rb, kb6, lb6⟩, ⟨kf, rf, kf8, lf8⟩, ⟨kr, lr, hr⟩, ⟨kfi, lfi, hfi⟩, ⟨kp, lp, hpz⟩, ⟨kt, lt, htu⟩, kw, lw⟩ := id hct2
  obtain ⟨⟨u1, u2⟩, _⟩ := id hB
  obtain ⟨r1, r2, r3, r4, r5⟩ := hr r (by omega)
  have hinR : vp_in (nI r) (S.ln (c + 9)) := by rw [lr]; exact vp_in_nI (by omega) (by decide)
  have hRR : R (c + 9) (nI r).toNatClampNeg = some (c + 14 + 2 * r) := by rw [nI_clamp (by omega)]; exact r1
  refine am_aload_n (q := 1) dX2_changeSpring_0 rfl rfl ?_
  refine am_iload_n (q := 2) dX2_changeSpring_1 rfl rfl ?_
  refine cm_call0 (q := 5) (As := [_]) hG dX2_changeSpring_2 mlX2_135 rfl (by assumption) ⟨_, _, rfl⟩ (Nat.le_of_ble_eq_true rfl) (Nat.le_of_ble_eq_true rfl) (Nat.le_of_ble_eq_true rfl) (Nat.le_of_ble_eq_true rfl) (k_X2_hasRail hct u1 u2) rfl ?_
  rintro _ _ ⟨rfl, rfl⟩
  refine am_if_ne (tgt := 10) (q := 8) dX2_changeSpring_5 rfl rfl (fun _ => ?_) (fun hz => absurd hz (bI_n0.mpr (k_inr hr0 (by omega))))
  refine am_aload_n (q := 11) dX2_changeSpring_10 rfl rfl ?_
  refine cm_getR (q := 14) dX2_changeSpring_11 flX2_34 rfl (by assumption) (by assumption) rfl ?_
  refine am_iload_n (q := 15) dX2_changeSpring_14 rfl rfl ?_
  refine cm_aaloadK (q := 16) dX2_changeSpring_15 (by assumption) (by decide) hinR hRR rfl ?_
  refine cm_getI (q := 19) dX2_changeSpring_16 flX2_160 rfl (by assumption) rfl ?_
  rw [show I (c + 14 + 2 * r) 4 = m.rail r 2 from hm.2.1 r hr0 2 (by decide)]
  refine am_istore_n (q := 20) (ls1 := [_, _, _, _]) dX2_changeSpring_19 (Nat.le_of_ble_eq_true rfl) rfl rfl ?_
  refine am_aload_n (q := 21) dX2_changeSpring_20 rfl rfl ?_
  refine cm_getR (q := 24) dX2_changeSpring_21 flX2_34 rfl (by assumption) (by assumption) rfl ?_
  refine am_iload_n (q := 25) dX2_changeSpring_24 rfl rfl ?_
  refine cm_aaloadK (q := 26) dX2_changeSpring_25 (by assumption) (by decide) hinR hRR rfl ?_
  refine am_iload_n (q := 27) dX2_changeSpring_26 rfl rfl ?_
  refine cm_putI (q := 30) dX2_changeSpring_27 flX2_160 rfl (Or.inl rfl) (Or.inl rfl) (by assumption) rfl ?_
  refine am_iload_n (q := 31) dX2_changeSpring_30 rfl rfl ?_
  exact am_iret dX2_changeSpring_31 rfl rfl ⟨_, rfl, rfl, _, rfl, hB.upR (by omega), AbM.setR (j := 2) hB hm hr0 (by decide) (by decide), OffC.rf.up (by omega)⟩
end Ask
end
section
theorem kc_b8 : (Int8.ofInt 8).toInt32 = 8 := by decide +kernel
theorem dX2_digestBehind_0 : decode cX2_digestBehind 0 = .ok (.lload_n 1, 1) := by decide +kernel
theorem dX2_digestBehind_1 : decode cX2_digestBehind 1 = .ok (.lstore_n 3, 1) := by decide +kernel
theorem dX2_digestBehind_2 : decode cX2_digestBehind 2 = .ok (.iconst 0, 1) := by decide +kernel
theorem dX2_digestBehind_3 : decode cX2_digestBehind 3 = .ok (.istore 5, 2) := by decide +kernel
theorem dX2_digestBehind_5 : decode cX2_digestBehind 5 = .ok (.iload 5, 2) := by decide +kernel
theorem dX2_digestBehind_7 : decode cX2_digestBehind 7 = .ok (.aload_n 0, 1) := by decide +kernel
theorem dX2_digestBehind_8 : decode cX2_digestBehind 8 = .ok (.getfield 69, 3) := by decide +kernel
theorem dX2_digestBehind_11 : decode cX2_digestBehind 11 = .ok (.if_icmp .ge 50, 3) := by decide +kernel
theorem dX2_digestBehind_14 : decode cX2_digestBehind 14 = .ok (.iload 5, 2) := by decide +kernel
theorem dX2_digestBehind_16 : decode cX2_digestBehind 16 = .ok (.aload_n 0, 1) := by decide +kernel
theorem dX2_digestBehind_17 : decode cX2_digestBehind 17 = .ok (.getfield 34, 3) := by decide +kernel
theorem dX2_digestBehind_20 : decode cX2_digestBehind 20 = .ok (.arraylength, 1) := by decide +kernel
theorem dX2_digestBehind_21 : decode cX2_digestBehind 21 = .ok (.if_icmp .ge 40, 3) := by decide +kernel
theorem dX2_digestBehind_24 : decode cX2_digestBehind 24 = .ok (.iconst 0, 1) := by decide +kernel
theorem dX2_digestBehind_25 : decode cX2_digestBehind 25 = .ok (.istore 6, 2) := by decide +kernel
theorem dX2_digestBehind_27 : decode cX2_digestBehind 27 = .ok (.iload 6, 2) := by decide +kernel
theorem dX2_digestBehind_29 : decode cX2_digestBehind 29 = .ok (.iconst 4, 1) := by decide +kernel
theorem dX2_digestBehind_30 : decode cX2_digestBehind 30 = .ok (.if_icmp .gt 25, 3) := by decide +kernel
theorem dX2_digestBehind_33 : decode cX2_digestBehind 33 = .ok (.lload_n 3, 1) := by decide +kernel
theorem dX2_digestBehind_34 : decode cX2_digestBehind 34 = .ok (.ldc2_w 270, 3) := by decide +kernel
theorem dX2_digestBehind_37 : decode cX2_digestBehind 37 = .ok (.lmul, 1) := by decide +kernel
theorem dX2_digestBehind_38 : decode cX2_digestBehind 38 = .ok (.aload_n 0, 1) := by decide +kernel
theorem dX2_digestBehind_39 : decode cX2_digestBehind 39 = .ok (.iload 5, 2) := by decide +kernel
theorem dX2_digestBehind_41 : decode cX2_digestBehind 41 = .ok (.iload 6, 2) := by decide +kernel
theorem dX2_digestBehind_43 : decode cX2_digestBehind 43 = .ok (.invokevirtual 272, 3) := by decide +kernel
theorem dX2_digestBehind_46 : decode cX2_digestBehind 46 = .ok (.i2l, 1) := by decide +kernel
theorem dX2_digestBehind_47 : decode cX2_digestBehind 47 = .ok (.ladd, 1) := by decide +kernel
theorem dX2_digestBehind_48 : decode cX2_digestBehind 48 = .ok (.lstore_n 3, 1) := by decide +kernel
theorem dX2_digestBehind_49 : decode cX2_digestBehind 49 = .ok (.iinc 6 1, 3) := by decide +kernel
theorem dX2_digestBehind_52 : decode cX2_digestBehind 52 = .ok (.goto (-25), 3) := by decide +kernel
theorem dX2_digestBehind_55 : decode cX2_digestBehind 55 = .ok (.iinc 5 1, 3) := by decide +kernel
theorem dX2_digestBehind_58 : decode cX2_digestBehind 58 = .ok (.goto (-53), 3) := by decide +kernel
theorem dX2_digestBehind_61 : decode cX2_digestBehind 61 = .ok (.iconst 0, 1) := by decide +kernel
theorem dX2_digestBehind_62 : decode cX2_digestBehind 62 = .ok (.istore 5, 2) := by decide +kernel
theorem dX2_digestBehind_64 : decode cX2_digestBehind 64 = .ok (.iload 5, 2) := by decide +kernel
theorem dX2_digestBehind_66 : decode cX2_digestBehind 66 = .ok (.aload_n 0, 1) := by decide +kernel
theorem dX2_digestBehind_67 : decode cX2_digestBehind 67 = .ok (.getfield 75, 3) := by decide +kernel
theorem dX2_digestBehind_70 : decode cX2_digestBehind 70 = .ok (.if_icmp .ge 51, 3) := by decide +kernel
theorem dX2_digestBehind_73 : decode cX2_digestBehind 73 = .ok (.iload 5, 2) := by decide +kernel
theorem dX2_digestBehind_75 : decode cX2_digestBehind 75 = .ok (.aload_n 0, 1) := by decide +kernel
theorem dX2_digestBehind_76 : decode cX2_digestBehind 76 = .ok (.getfield 40, 3) := by decide +kernel
theorem dX2_digestBehind_79 : decode cX2_digestBehind 79 = .ok (.arraylength, 1) := by decide +kernel
theorem dX2_digestBehind_80 : decode cX2_digestBehind 80 = .ok (.if_icmp .ge 41, 3) := by decide +kernel
theorem dX2_digestBehind_83 : decode cX2_digestBehind 83 = .ok (.iconst 0, 1) := by decide +kernel
theorem dX2_digestBehind_84 : decode cX2_digestBehind 84 = .ok (.istore 6, 2) := by decide +kernel
theorem dX2_digestBehind_86 : decode cX2_digestBehind 86 = .ok (.iload 6, 2) := by decide +kernel
theorem dX2_digestBehind_88 : decode cX2_digestBehind 88 = .ok (.bipush 8, 2) := by decide +kernel
theorem dX2_digestBehind_90 : decode cX2_digestBehind 90 = .ok (.if_icmp .gt 25, 3) := by decide +kernel
theorem dX2_digestBehind_93 : decode cX2_digestBehind 93 = .ok (.lload_n 3, 1) := by decide +kernel
theorem dX2_digestBehind_94 : decode cX2_digestBehind 94 = .ok (.ldc2_w 270, 3) := by decide +kernel
theorem dX2_digestBehind_97 : decode cX2_digestBehind 97 = .ok (.lmul, 1) := by decide +kernel
theorem dX2_digestBehind_98 : decode cX2_digestBehind 98 = .ok (.aload_n 0, 1) := by decide +kernel
theorem dX2_digestBehind_99 : decode cX2_digestBehind 99 = .ok (.iload 5, 2) := by decide +kernel
theorem dX2_digestBehind_101 : decode cX2_digestBehind 101 = .ok (.iload 6, 2) := by decide +kernel
theorem dX2_digestBehind_103 : decode cX2_digestBehind 103 = .ok (.invokevirtual 276, 3) := by decide +kernel
theorem dX2_digestBehind_106 : decode cX2_digestBehind 106 = .ok (.i2l, 1) := by decide +kernel
theorem dX2_digestBehind_107 : decode cX2_digestBehind 107 = .ok (.ladd, 1) := by decide +kernel
theorem dX2_digestBehind_108 : decode cX2_digestBehind 108 = .ok (.lstore_n 3, 1) := by decide +kernel
theorem dX2_digestBehind_109 : decode cX2_digestBehind 109 = .ok (.iinc 6 1, 3) := by decide +kernel
theorem dX2_digestBehind_112 : decode cX2_digestBehind 112 = .ok (.goto (-26), 3) := by decide +kernel
theorem dX2_digestBehind_115 : decode cX2_digestBehind 115 = .ok (.iinc 5 1, 3) := by decide +kernel
theorem dX2_digestBehind_118 : decode cX2_digestBehind 118 = .ok (.goto (-54), 3) := by decide +kernel
theorem dX2_digestBehind_121 : decode cX2_digestBehind 121 = .ok (.iconst 0, 1) := by decide +kernel
theorem dX2_digestBehind_122 : decode cX2_digestBehind 122 = .ok (.istore 5, 2) := by decide +kernel
theorem dX2_digestBehind_124 : decode cX2_digestBehind 124 = .ok (.iload 5, 2) := by decide +kernel
theorem dX2_digestBehind_126 : decode cX2_digestBehind 126 = .ok (.aload_n 0, 1) := by decide +kernel
theorem dX2_digestBehind_127 : decode cX2_digestBehind 127 = .ok (.getfield 78, 3) := by decide +kernel
theorem dX2_digestBehind_130 : decode cX2_digestBehind 130 = .ok (.if_icmp .ge 50, 3) := by decide +kernel
theorem dX2_digestBehind_133 : decode cX2_digestBehind 133 = .ok (.iload 5, 2) := by decide +kernel
theorem dX2_digestBehind_135 : decode cX2_digestBehind 135 = .ok (.aload_n 0, 1) := by decide +kernel
theorem dX2_digestBehind_136 : decode cX2_digestBehind 136 = .ok (.getfield 46, 3) := by decide +kernel
theorem dX2_digestBehind_139 : decode cX2_digestBehind 139 = .ok (.arraylength, 1) := by decide +kernel
theorem dX2_digestBehind_140 : decode cX2_digestBehind 140 = .ok (.if_icmp .ge 40, 3) := by decide +kernel
theorem dX2_digestBehind_143 : decode cX2_digestBehind 143 = .ok (.iconst 0, 1) := by decide +kernel
theorem dX2_digestBehind_144 : decode cX2_digestBehind 144 = .ok (.istore 6, 2) := by decide +kernel
theorem dX2_digestBehind_146 : decode cX2_digestBehind 146 = .ok (.iload 6, 2) := by decide +kernel
theorem dX2_digestBehind_148 : decode cX2_digestBehind 148 = .ok (.iconst 3, 1) := by decide +kernel
theorem dX2_digestBehind_149 : decode cX2_digestBehind 149 = .ok (.if_icmp .gt 25, 3) := by decide +kernel
theorem dX2_digestBehind_152 : decode cX2_digestBehind 152 = .ok (.lload_n 3, 1) := by decide +kernel
theorem dX2_digestBehind_153 : decode cX2_digestBehind 153 = .ok (.ldc2_w 270, 3) := by decide +kernel
theorem dX2_digestBehind_156 : decode cX2_digestBehind 156 = .ok (.lmul, 1) := by decide +kernel
theorem dX2_digestBehind_157 : decode cX2_digestBehind 157 = .ok (.aload_n 0, 1) := by decide +kernel
theorem dX2_digestBehind_158 : decode cX2_digestBehind 158 = .ok (.iload 5, 2) := by decide +kernel
theorem dX2_digestBehind_160 : decode cX2_digestBehind 160 = .ok (.iload 6, 2) := by decide +kernel
theorem dX2_digestBehind_162 : decode cX2_digestBehind 162 = .ok (.invokevirtual 279, 3) := by decide +kernel
theorem dX2_digestBehind_165 : decode cX2_digestBehind 165 = .ok (.i2l, 1) := by decide +kernel
theorem dX2_digestBehind_166 : decode cX2_digestBehind 166 = .ok (.ladd, 1) := by decide +kernel
theorem dX2_digestBehind_167 : decode cX2_digestBehind 167 = .ok (.lstore_n 3, 1) := by decide +kernel
theorem dX2_digestBehind_168 : decode cX2_digestBehind 168 = .ok (.iinc 6 1, 3) := by decide +kernel
theorem dX2_digestBehind_171 : decode cX2_digestBehind 171 = .ok (.goto (-25), 3) := by decide +kernel
theorem dX2_digestBehind_174 : decode cX2_digestBehind 174 = .ok (.iinc 5 1, 3) := by decide +kernel
theorem dX2_digestBehind_177 : decode cX2_digestBehind 177 = .ok (.goto (-53), 3) := by decide +kernel
theorem dX2_digestBehind_180 : decode cX2_digestBehind 180 = .ok (.iconst 0, 1) := by decide +kernel
theorem dX2_digestBehind_181 : decode cX2_digestBehind 181 = .ok (.istore 5, 2) := by decide +kernel
theorem dX2_digestBehind_183 : decode cX2_digestBehind 183 = .ok (.iload 5, 2) := by decide +kernel
theorem dX2_digestBehind_185 : decode cX2_digestBehind 185 = .ok (.aload_n 0, 1) := by decide +kernel
theorem dX2_digestBehind_186 : decode cX2_digestBehind 186 = .ok (.getfield 81, 3) := by decide +kernel
theorem dX2_digestBehind_189 : decode cX2_digestBehind 189 = .ok (.if_icmp .ge 50, 3) := by decide +kernel
theorem dX2_digestBehind_192 : decode cX2_digestBehind 192 = .ok (.iload 5, 2) := by decide +kernel
theorem dX2_digestBehind_194 : decode cX2_digestBehind 194 = .ok (.aload_n 0, 1) := by decide +kernel
theorem dX2_digestBehind_195 : decode cX2_digestBehind 195 = .ok (.getfield 52, 3) := by decide +kernel
theorem dX2_digestBehind_198 : decode cX2_digestBehind 198 = .ok (.arraylength, 1) := by decide +kernel
theorem dX2_digestBehind_199 : decode cX2_digestBehind 199 = .ok (.if_icmp .ge 40, 3) := by decide +kernel
theorem dX2_digestBehind_202 : decode cX2_digestBehind 202 = .ok (.iconst 0, 1) := by decide +kernel
theorem dX2_digestBehind_203 : decode cX2_digestBehind 203 = .ok (.istore 6, 2) := by decide +kernel
theorem dX2_digestBehind_205 : decode cX2_digestBehind 205 = .ok (.iload 6, 2) := by decide +kernel
theorem dX2_digestBehind_207 : decode cX2_digestBehind 207 = .ok (.iconst 3, 1) := by decide +kernel
theorem dX2_digestBehind_208 : decode cX2_digestBehind 208 = .ok (.if_icmp .gt 25, 3) := by decide +kernel
theorem dX2_digestBehind_211 : decode cX2_digestBehind 211 = .ok (.lload_n 3, 1) := by decide +kernel
theorem dX2_digestBehind_212 : decode cX2_digestBehind 212 = .ok (.ldc2_w 270, 3) := by decide +kernel
theorem dX2_digestBehind_215 : decode cX2_digestBehind 215 = .ok (.lmul, 1) := by decide +kernel
theorem dX2_digestBehind_216 : decode cX2_digestBehind 216 = .ok (.aload_n 0, 1) := by decide +kernel
theorem dX2_digestBehind_217 : decode cX2_digestBehind 217 = .ok (.iload 5, 2) := by decide +kernel
theorem dX2_digestBehind_219 : decode cX2_digestBehind 219 = .ok (.iload 6, 2) := by decide +kernel
theorem dX2_digestBehind_221 : decode cX2_digestBehind 221 = .ok (.invokevirtual 282, 3) := by decide +kernel
theorem dX2_digestBehind_224 : decode cX2_digestBehind 224 = .ok (.i2l, 1) := by decide +kernel
theorem dX2_digestBehind_225 : decode cX2_digestBehind 225 = .ok (.ladd, 1) := by decide +kernel
theorem dX2_digestBehind_226 : decode cX2_digestBehind 226 = .ok (.lstore_n 3, 1) := by decide +kernel
theorem dX2_digestBehind_227 : decode cX2_digestBehind 227 = .ok (.iinc 6 1, 3) := by decide +kernel
theorem dX2_digestBehind_230 : decode cX2_digestBehind 230 = .ok (.goto (-25), 3) := by decide +kernel
theorem dX2_digestBehind_233 : decode cX2_digestBehind 233 = .ok (.iinc 5 1, 3) := by decide +kernel
theorem dX2_digestBehind_236 : decode cX2_digestBehind 236 = .ok (.goto (-53), 3) := by decide +kernel
theorem dX2_digestBehind_239 : decode cX2_digestBehind 239 = .ok (.iconst 0, 1) := by decide +kernel
theorem dX2_digestBehind_240 : decode cX2_digestBehind 240 = .ok (.istore 5, 2) := by decide +kernel
theorem dX2_digestBehind_242 : decode cX2_digestBehind 242 = .ok (.iload 5, 2) := by decide +kernel
theorem dX2_digestBehind_244 : decode cX2_digestBehind 244 = .ok (.aload_n 0, 1) := by decide +kernel
theorem dX2_digestBehind_245 : decode cX2_digestBehind 245 = .ok (.getfield 21, 3) := by decide +kernel
theorem dX2_digestBehind_248 : decode cX2_digestBehind 248 = .ok (.getfield 68, 3) := by decide +kernel
theorem dX2_digestBehind_251 : decode cX2_digestBehind 251 = .ok (.if_icmp .ge 26, 3) := by decide +kernel
theorem dX2_digestBehind_254 : decode cX2_digestBehind 254 = .ok (.lload_n 3, 1) := by decide +kernel
theorem dX2_digestBehind_255 : decode cX2_digestBehind 255 = .ok (.ldc2_w 270, 3) := by decide +kernel
theorem dX2_digestBehind_258 : decode cX2_digestBehind 258 = .ok (.lmul, 1) := by decide +kernel
theorem dX2_digestBehind_259 : decode cX2_digestBehind 259 = .ok (.aload_n 0, 1) := by decide +kernel
theorem dX2_digestBehind_260 : decode cX2_digestBehind 260 = .ok (.getfield 21, 3) := by decide +kernel
theorem dX2_digestBehind_263 : decode cX2_digestBehind 263 = .ok (.iload 5, 2) := by decide +kernel
theorem dX2_digestBehind_265 : decode cX2_digestBehind 265 = .ok (.invokevirtual 285, 3) := by decide +kernel
theorem dX2_digestBehind_268 : decode cX2_digestBehind 268 = .ok (.i2l, 1) := by decide +kernel
theorem dX2_digestBehind_269 : decode cX2_digestBehind 269 = .ok (.ladd, 1) := by decide +kernel
theorem dX2_digestBehind_270 : decode cX2_digestBehind 270 = .ok (.lstore_n 3, 1) := by decide +kernel
theorem dX2_digestBehind_271 : decode cX2_digestBehind 271 = .ok (.iinc 5 1, 3) := by decide +kernel
theorem dX2_digestBehind_274 : decode cX2_digestBehind 274 = .ok (.goto (-32), 3) := by decide +kernel
theorem dX2_digestBehind_277 : decode cX2_digestBehind 277 = .ok (.lload_n 3, 1) := by decide +kernel
theorem dX2_digestBehind_278 : decode cX2_digestBehind 278 = .ok (.lreturn, 1) := by decide +kernel
/-! the digest -/
def dgI (f : Nat → Int32) : Nat → Int64 → Int64
  | 0, d => d
  | n + 1, d => dgI f n d * 31 + (f n).toInt64
def dgO (F : Nat → Int64 → Int64) : Nat → Int64 → Int64
  | 0, d => d
  | n + 1, d => F n (dgO F n d)
noncomputable def digM (B : BS) (m : MS) (d : Int64) : Int64 := dgI m.bd m.nb (dgO (fun i => dgI (tlT B m i) 4) B.nT (dgO (fun i => dgI (tlP B m i) 4) B.nP (dgO (fun i => dgI (tlF B m i) 9) B.nF (dgO (fun i => dgI (m.rail i) 5) B.nR d))))
section Dig
variable {G : Gp} {S : AMem} {I : Nat → Nat → Int32} {J : Nat → Nat → Int64} {R : Nat → Nat → Option Nat} {c : Nat} {B : BS} {m : MS} {Q : (Option AV ⊕ Nat) → AMem → Prop}
theorem k_dgRail {d0 cur : Int64} {x6 : Option AV} (hG : okG G) (hct : CT S R c) (hB : AbB I c B) (hm : AbM I c B m) (hQ : ∀ I1 x6, Qt c I I1 → MW G mX2_digestBehind 5 61 [some (vR c), some (vJ d0), none, some (vJ (dgO (fun i => dgI (m.rail i) 5) B.nR cur)), none, some (vI (nI B.nR)), x6] [] (mw S I1 J R) Q) : MW G mX2_digestBehind 5 5 [some (vR c), some (vJ d0), none, some (vJ (cur)), none, some (vI (0)), x6] [] (mw S I J R) Q := by
  have hct2 := hct
  obtain ⟨kc, rc0, rc1, rc2, rc3, rc4, rc5, rc6, rc7, ⟨kd, rd0, rd1, rd2, kd2, ld2, kd3, ld3, kd4, ld4⟩, ⟨kb, rb, kb6, lb6⟩, ⟨kf, rf, kf8, lf8⟩, ⟨kr, lr, hr⟩, ⟨kfi, lfi, hfi⟩, ⟨kp, lp, hpz⟩, ⟨kt, lt, htu⟩, kw, lw⟩ := id hct2
  have u4 : B.nR ≤ 4 := hB.1.2
  refine k_loop (σ := (Nat → Nat → Int32) × Option AV) (n := B.nR) (Inv := fun i s => Qt c I s.1) (W := fun i s => MW G mX2_digestBehind 5 5 [some (vR c), some (vJ d0), none, some (vJ (dgO (fun i => dgI (m.rail i) 5) i cur)), none, some (vI (nI i)), s.2] [] (mw S s.1 J R) _) ?_ ?_ 0 (I, x6) (Nat.zero_le _) Qt.rf
  · rintro i ⟨I0, y6⟩ hi hq0 ih
    dsimp only at hq0 ih ⊢
    have hB0 := hB.qt hq0
    have hm0 := AbM.qt hB hm hq0
    have u3 : I0 c 8 = nI B.nR := hB0.1.1
    refine am_iload (q := 7) dX2_digestBehind_5 rfl rfl ?_
    refine am_aload_n (q := 8) dX2_digestBehind_7 rfl rfl ?_
    refine cm_getI (q := 11) dX2_digestBehind_8 flX2_69 rfl (by assumption) rfl ?_
    rw [u3]
    refine am_icmp_ge (tgt := 61) (q := 14) dX2_digestBehind_11 rfl rfl (fun hz => absurd hz (nI_ge (by omega) (by omega))) (fun _ => ?_)
    refine am_iload (q := 16) dX2_digestBehind_14 rfl rfl ?_
    refine am_aload_n (q := 17) dX2_digestBehind_16 rfl rfl ?_
    refine cm_getR (q := 20) dX2_digestBehind_17 flX2_34 rfl (by assumption) (by assumption) rfl ?_
    refine cm_alenK (q := 21) dX2_digestBehind_20 (by assumption) (by decide) (by rw [lr] : nI (S.ln (c + 9)) = nI 4) rfl ?_
    refine am_icmp_ge (tgt := 61) (q := 24) dX2_digestBehind_21 rfl rfl (fun hz => absurd hz (nI_ge (by omega) (by decide))) (fun _ => ?_)
    refine am_iconst (q := 25) (v := 0) dX2_digestBehind_24 kc_i0 rfl ?_
    refine am_istore (q := 27) (ls1 := [_, _, _, _, _, _, _]) dX2_digestBehind_25 (Nat.le_of_ble_eq_true rfl) rfl rfl ?_
    generalize hcu : dgO (fun i => dgI (m.rail i) 5) i cur = cu at ih ⊢
    refine k_loop (σ := Nat → Nat → Int32) (n := 5) (Inv := fun w I1 => Qt c I I1) (W := fun w I1 => MW G mX2_digestBehind 5 27 [some (vR c), some (vJ d0), none, some (vJ (dgI (m.rail i) w cu)), none, some (vI (nI i)), some (vI (nI w))] [] (mw S I1 J R) _) ?_ ?_ 0 I0 (Nat.zero_le _) hq0
    · intro w I1 hw hq1 ih2
      refine am_iload (q := 29) dX2_digestBehind_27 rfl rfl ?_
      refine am_iconst (q := 30) (v := 4) dX2_digestBehind_29 kc_i4 rfl ?_
      refine am_icmp_gt (tgt := 55) (q := 33) dX2_digestBehind_30 rfl rfl (fun hz => absurd hz (fun q => absurd ((nI_ltI (a := 4) (b := w) (by decide) (by omega)).mp q) (by omega))) (fun _ => ?_)
      refine am_lload_n (q := 34) dX2_digestBehind_33 rfl rfl ?_
      refine am_ldcJ (q := 37) (v := 31) dX2_digestBehind_34 (tbc4 40 rfl rfl) rfl ?_
      refine am_lmul (q := 38) dX2_digestBehind_37 rfl ?_
      refine am_aload_n (q := 39) dX2_digestBehind_38 rfl rfl ?_
      refine am_iload (q := 41) dX2_digestBehind_39 rfl rfl ?_
      refine am_iload (q := 43) dX2_digestBehind_41 rfl rfl ?_
      refine cm_call0 (q := 46) (As := [_, _]) hG dX2_digestBehind_43 mlX2_272 rfl (by assumption) ⟨_, _, rfl⟩ (Nat.le_of_ble_eq_true rfl) (Nat.le_of_ble_eq_true rfl) (Nat.le_of_ble_eq_true rfl) (Nat.le_of_ble_eq_true rfl) (k_X2_tellRail hG hct (hB.qt hq1) (AbM.qt hB hm hq1) hi hw) rfl ?_
      rintro _ _ ⟨rfl, rfl⟩
      refine am_i2l (q := 47) dX2_digestBehind_46 rfl ?_
      refine am_ladd (q := 48) dX2_digestBehind_47 rfl ?_
      refine am_lstore_n (q := 49) (ls1 := [_, _, _, _, _, _, _]) dX2_digestBehind_48 (Nat.le_of_ble_eq_true rfl) rfl rfl ?_
      refine am_iincW (q := 52) (ls1 := [_, _, _, _, _, _, _]) (w := 1) dX2_digestBehind_49 rfl (Nat.le_of_ble_eq_true rfl) kc_i1 rfl rfl ?_
      refine am_goto (tgt := 27) dX2_digestBehind_52 rfl ?_
      rw [nI_1]
      exact ih2 I1 hq1
    · intro I1 hq1
      refine am_iload (q := 29) dX2_digestBehind_27 rfl rfl ?_
      refine am_iconst (q := 30) (v := 4) dX2_digestBehind_29 kc_i4 rfl ?_
      refine am_icmp_gt (tgt := 55) (q := 33) dX2_digestBehind_30 rfl rfl (fun _ => ?_) (fun hz => absurd ((nI_ltI (a := 4) (b := 5) (by decide) (by decide)).mpr (by decide)) hz)
      refine am_iincW (q := 58) (ls1 := [_, _, _, _, _, _, _]) (w := 1) dX2_digestBehind_55 rfl (Nat.le_of_ble_eq_true rfl) kc_i1 rfl rfl ?_
      refine am_goto (tgt := 5) dX2_digestBehind_58 rfl ?_
      rw [nI_1]
      have ih3 := ih (I1, some (vI (nI 5))) hq1
      rw [dgO, hcu] at ih3
      exact ih3
  · rintro ⟨I0, y6⟩ hq0
    dsimp only at hq0 ⊢
    refine am_iload (q := 7) dX2_digestBehind_5 rfl rfl ?_
    refine am_aload_n (q := 8) dX2_digestBehind_7 rfl rfl ?_
    refine cm_getI (q := 11) dX2_digestBehind_8 flX2_69 rfl (by assumption) rfl ?_
    rw [show I0 c 8 = nI B.nR from (hB.qt hq0).1.1]
    refine am_icmp_ge (tgt := 61) (q := 14) dX2_digestBehind_11 rfl rfl (fun _ => ?_) (fun hz => absurd (Int32.le_refl _) hz)
    exact hQ I0 y6 hq0
theorem k_dgFist {d0 cur : Int64} {x6 : Option AV} (hG : okG G) (hct : CT S R c) (hB : AbB I c B) (hm : AbM I c B m) (hQ : ∀ I1 x6, Qt c I I1 → MW G mX2_digestBehind 5 121 [some (vR c), some (vJ d0), none, some (vJ (dgO (fun i => dgI (tlF B m i) 9) B.nF cur)), none, some (vI (nI B.nF)), x6] [] (mw S I1 J R) Q) : MW G mX2_digestBehind 5 64 [some (vR c), some (vJ d0), none, some (vJ (cur)), none, some (vI (0)), x6] [] (mw S I J R) Q := by
  have hct2 := hct
  obtain ⟨kc, rc0, rc1, rc2, rc3, rc4, rc5, rc6, rc7, ⟨kd, rd0, rd1, rd2, kd2, ld2, kd3, ld3, kd4, ld4⟩, ⟨kb, rb, kb6, lb6⟩, ⟨kf, rf, kf8, lf8⟩, ⟨kr, lr, hr⟩, ⟨kfi, lfi, hfi⟩, ⟨kp, lp, hpz⟩, ⟨kt, lt, htu⟩, kw, lw⟩ := id hct2
  have u4 : B.nF ≤ 8 := hB.2.1.2
  refine k_loop (σ := (Nat → Nat → Int32) × Option AV) (n := B.nF) (Inv := fun i s => Qt c I s.1) (W := fun i s => MW G mX2_digestBehind 5 64 [some (vR c), some (vJ d0), none, some (vJ (dgO (fun i => dgI (tlF B m i) 9) i cur)), none, some (vI (nI i)), s.2] [] (mw S s.1 J R) _) ?_ ?_ 0 (I, x6) (Nat.zero_le _) Qt.rf
  · rintro i ⟨I0, y6⟩ hi hq0 ih
    dsimp only at hq0 ih ⊢
    have hB0 := hB.qt hq0
    have hm0 := AbM.qt hB hm hq0
    have u3 : I0 c 10 = nI B.nF := hB0.2.1.1
    refine am_iload (q := 66) dX2_digestBehind_64 rfl rfl ?_
    refine am_aload_n (q := 67) dX2_digestBehind_66 rfl rfl ?_
    refine cm_getI (q := 70) dX2_digestBehind_67 flX2_75 rfl (by assumption) rfl ?_
    rw [u3]
    refine am_icmp_ge (tgt := 121) (q := 73) dX2_digestBehind_70 rfl rfl (fun hz => absurd hz (nI_ge (by omega) (by omega))) (fun _ => ?_)
    refine am_iload (q := 75) dX2_digestBehind_73 rfl rfl ?_
    refine am_aload_n (q := 76) dX2_digestBehind_75 rfl rfl ?_
    refine cm_getR (q := 79) dX2_digestBehind_76 flX2_40 rfl (by assumption) (by assumption) rfl ?_
    refine cm_alenK (q := 80) dX2_digestBehind_79 (by assumption) (by decide) (by rw [lfi] : nI (S.ln (c + 10)) = nI 8) rfl ?_
    refine am_icmp_ge (tgt := 121) (q := 83) dX2_digestBehind_80 rfl rfl (fun hz => absurd hz (nI_ge (by omega) (by decide))) (fun _ => ?_)
    refine am_iconst (q := 84) (v := 0) dX2_digestBehind_83 kc_i0 rfl ?_
    refine am_istore (q := 86) (ls1 := [_, _, _, _, _, _, _]) dX2_digestBehind_84 (Nat.le_of_ble_eq_true rfl) rfl rfl ?_
    generalize hcu : dgO (fun i => dgI (tlF B m i) 9) i cur = cu at ih ⊢
    refine k_loop (σ := Nat → Nat → Int32) (n := 9) (Inv := fun w I1 => Qt c I I1) (W := fun w I1 => MW G mX2_digestBehind 5 86 [some (vR c), some (vJ d0), none, some (vJ (dgI (tlF B m i) w cu)), none, some (vI (nI i)), some (vI (nI w))] [] (mw S I1 J R) _) ?_ ?_ 0 I0 (Nat.zero_le _) hq0
    · intro w I1 hw hq1 ih2
      refine am_iload (q := 88) dX2_digestBehind_86 rfl rfl ?_
      refine am_bipush (q := 90) (v := 8) dX2_digestBehind_88 kc_b8 rfl ?_
      refine am_icmp_gt (tgt := 115) (q := 93) dX2_digestBehind_90 rfl rfl (fun hz => absurd hz (fun q => absurd ((nI_ltI (a := 8) (b := w) (by decide) (by omega)).mp q) (by omega))) (fun _ => ?_)
      refine am_lload_n (q := 94) dX2_digestBehind_93 rfl rfl ?_
      refine am_ldcJ (q := 97) (v := 31) dX2_digestBehind_94 (tbc4 40 rfl rfl) rfl ?_
      refine am_lmul (q := 98) dX2_digestBehind_97 rfl ?_
      refine am_aload_n (q := 99) dX2_digestBehind_98 rfl rfl ?_
      refine am_iload (q := 101) dX2_digestBehind_99 rfl rfl ?_
      refine am_iload (q := 103) dX2_digestBehind_101 rfl rfl ?_
      refine cm_call0 (q := 106) (As := [_, _]) hG dX2_digestBehind_103 mlX2_276 rfl (by assumption) ⟨_, _, rfl⟩ (Nat.le_of_ble_eq_true rfl) (Nat.le_of_ble_eq_true rfl) (Nat.le_of_ble_eq_true rfl) (Nat.le_of_ble_eq_true rfl) (k_X2_tellFist hG hct (hB.qt hq1) (AbM.qt hB hm hq1) hi hw) rfl ?_
      rintro _ _ ⟨rfl, rfl⟩
      refine am_i2l (q := 107) dX2_digestBehind_106 rfl ?_
      refine am_ladd (q := 108) dX2_digestBehind_107 rfl ?_
      refine am_lstore_n (q := 109) (ls1 := [_, _, _, _, _, _, _]) dX2_digestBehind_108 (Nat.le_of_ble_eq_true rfl) rfl rfl ?_
      refine am_iincW (q := 112) (ls1 := [_, _, _, _, _, _, _]) (w := 1) dX2_digestBehind_109 rfl (Nat.le_of_ble_eq_true rfl) kc_i1 rfl rfl ?_
      refine am_goto (tgt := 86) dX2_digestBehind_112 rfl ?_
      rw [nI_1]
      exact ih2 I1 hq1
    · intro I1 hq1
      refine am_iload (q := 88) dX2_digestBehind_86 rfl rfl ?_
      refine am_bipush (q := 90) (v := 8) dX2_digestBehind_88 kc_b8 rfl ?_
      refine am_icmp_gt (tgt := 115) (q := 93) dX2_digestBehind_90 rfl rfl (fun _ => ?_) (fun hz => absurd ((nI_ltI (a := 8) (b := 9) (by decide) (by decide)).mpr (by decide)) hz)
      refine am_iincW (q := 118) (ls1 := [_, _, _, _, _, _, _]) (w := 1) dX2_digestBehind_115 rfl (Nat.le_of_ble_eq_true rfl) kc_i1 rfl rfl ?_
      refine am_goto (tgt := 64) dX2_digestBehind_118 rfl ?_
      rw [nI_1]
      have ih3 := ih (I1, some (vI (nI 9))) hq1
      rw [dgO, hcu] at ih3
      exact ih3
  · rintro ⟨I0, y6⟩ hq0
    dsimp only at hq0 ⊢
    refine am_iload (q := 66) dX2_digestBehind_64 rfl rfl ?_
    refine am_aload_n (q := 67) dX2_digestBehind_66 rfl rfl ?_
    refine cm_getI (q := 70) dX2_digestBehind_67 flX2_75 rfl (by assumption) rfl ?_
    rw [show I0 c 10 = nI B.nF from (hB.qt hq0).2.1.1]
    refine am_icmp_ge (tgt := 121) (q := 73) dX2_digestBehind_70 rfl rfl (fun _ => ?_) (fun hz => absurd (Int32.le_refl _) hz)
    exact hQ I0 y6 hq0
theorem k_dgPrize {d0 cur : Int64} {x6 : Option AV} (hG : okG G) (hct : CT S R c) (hB : AbB I c B) (hm : AbM I c B m) (hQ : ∀ I1 x6, Qt c I I1 → MW G mX2_digestBehind 5 180 [some (vR c), some (vJ d0), none, some (vJ (dgO (fun i => dgI (tlP B m i) 4) B.nP cur)), none, some (vI (nI B.nP)), x6] [] (mw S I1 J R) Q) : MW G mX2_digestBehind 5 124 [some (vR c), some (vJ d0), none, some (vJ (cur)), none, some (vI (0)), x6] [] (mw S I J R) Q := by
  have hct2 := hct
  obtain ⟨kc, rc0, rc1, rc2, rc3, rc4, rc5, rc6, rc7, ⟨kd, rd0, rd1, rd2, kd2, ld2, kd3, ld3, kd4, ld4⟩, ⟨kb, rb, kb6, lb6⟩, ⟨kf, rf, kf8, lf8⟩, ⟨kr, lr, hr⟩, ⟨kfi, lfi, hfi⟩, ⟨kp, lp, hpz⟩, ⟨kt, lt, htu⟩, kw, lw⟩ := id hct2
  have u4 : B.nP ≤ 8 := hB.2.2.1.2
  refine k_loop (σ := (Nat → Nat → Int32) × Option AV) (n := B.nP) (Inv := fun i s => Qt c I s.1) (W := fun i s => MW G mX2_digestBehind 5 124 [some (vR c), some (vJ d0), none, some (vJ (dgO (fun i => dgI (tlP B m i) 4) i cur)), none, some (vI (nI i)), s.2] [] (mw S s.1 J R) _) ?_ ?_ 0 (I, x6) (Nat.zero_le _) Qt.rf
  · rintro i ⟨I0, y6⟩ hi hq0 ih
    dsimp only at hq0 ih ⊢
    have hB0 := hB.qt hq0
    have hm0 := AbM.qt hB hm hq0
    have u3 : I0 c 11 = nI B.nP := hB0.2.2.1.1
    refine am_iload (q := 126) dX2_digestBehind_124 rfl rfl ?_
    refine am_aload_n (q := 127) dX2_digestBehind_126 rfl rfl ?_
    refine cm_getI (q := 130) dX2_digestBehind_127 flX2_78 rfl (by assumption) rfl ?_
    rw [u3]
    refine am_icmp_ge (tgt := 180) (q := 133) dX2_digestBehind_130 rfl rfl (fun hz => absurd hz (nI_ge (by omega) (by omega))) (fun _ => ?_)
    refine am_iload (q := 135) dX2_digestBehind_133 rfl rfl ?_
    refine am_aload_n (q := 136) dX2_digestBehind_135 rfl rfl ?_
    refine cm_getR (q := 139) dX2_digestBehind_136 flX2_46 rfl (by assumption) (by assumption) rfl ?_
    refine cm_alenK (q := 140) dX2_digestBehind_139 (by assumption) (by decide) (by rw [lp] : nI (S.ln (c + 11)) = nI 8) rfl ?_
    refine am_icmp_ge (tgt := 180) (q := 143) dX2_digestBehind_140 rfl rfl (fun hz => absurd hz (nI_ge (by omega) (by decide))) (fun _ => ?_)
    refine am_iconst (q := 144) (v := 0) dX2_digestBehind_143 kc_i0 rfl ?_
    refine am_istore (q := 146) (ls1 := [_, _, _, _, _, _, _]) dX2_digestBehind_144 (Nat.le_of_ble_eq_true rfl) rfl rfl ?_
    generalize hcu : dgO (fun i => dgI (tlP B m i) 4) i cur = cu at ih ⊢
    refine k_loop (σ := Nat → Nat → Int32) (n := 4) (Inv := fun w I1 => Qt c I I1) (W := fun w I1 => MW G mX2_digestBehind 5 146 [some (vR c), some (vJ d0), none, some (vJ (dgI (tlP B m i) w cu)), none, some (vI (nI i)), some (vI (nI w))] [] (mw S I1 J R) _) ?_ ?_ 0 I0 (Nat.zero_le _) hq0
    · intro w I1 hw hq1 ih2
      refine am_iload (q := 148) dX2_digestBehind_146 rfl rfl ?_
      refine am_iconst (q := 149) (v := 3) dX2_digestBehind_148 kc_i3 rfl ?_
      refine am_icmp_gt (tgt := 174) (q := 152) dX2_digestBehind_149 rfl rfl (fun hz => absurd hz (fun q => absurd ((nI_ltI (a := 3) (b := w) (by decide) (by omega)).mp q) (by omega))) (fun _ => ?_)
      refine am_lload_n (q := 153) dX2_digestBehind_152 rfl rfl ?_
      refine am_ldcJ (q := 156) (v := 31) dX2_digestBehind_153 (tbc4 40 rfl rfl) rfl ?_
      refine am_lmul (q := 157) dX2_digestBehind_156 rfl ?_
      refine am_aload_n (q := 158) dX2_digestBehind_157 rfl rfl ?_
      refine am_iload (q := 160) dX2_digestBehind_158 rfl rfl ?_
      refine am_iload (q := 162) dX2_digestBehind_160 rfl rfl ?_
      refine cm_call0 (q := 165) (As := [_, _]) hG dX2_digestBehind_162 mlX2_279 rfl (by assumption) ⟨_, _, rfl⟩ (Nat.le_of_ble_eq_true rfl) (Nat.le_of_ble_eq_true rfl) (Nat.le_of_ble_eq_true rfl) (Nat.le_of_ble_eq_true rfl) (k_X2_tellPrize hG hct (hB.qt hq1) (AbM.qt hB hm hq1) hi hw) rfl ?_
      rintro _ _ ⟨rfl, I2, rfl, hq2⟩
      refine am_i2l (q := 166) dX2_digestBehind_165 rfl ?_
      refine am_ladd (q := 167) dX2_digestBehind_166 rfl ?_
      refine am_lstore_n (q := 168) (ls1 := [_, _, _, _, _, _, _]) dX2_digestBehind_167 (Nat.le_of_ble_eq_true rfl) rfl rfl ?_
      refine am_iincW (q := 171) (ls1 := [_, _, _, _, _, _, _]) (w := 1) dX2_digestBehind_168 rfl (Nat.le_of_ble_eq_true rfl) kc_i1 rfl rfl ?_
      refine am_goto (tgt := 146) dX2_digestBehind_171 rfl ?_
      rw [nI_1]
      exact ih2 I2 (hq1.tr hq2)
    · intro I1 hq1
      refine am_iload (q := 148) dX2_digestBehind_146 rfl rfl ?_
      refine am_iconst (q := 149) (v := 3) dX2_digestBehind_148 kc_i3 rfl ?_
      refine am_icmp_gt (tgt := 174) (q := 152) dX2_digestBehind_149 rfl rfl (fun _ => ?_) (fun hz => absurd ((nI_ltI (a := 3) (b := 4) (by decide) (by decide)).mpr (by decide)) hz)
      refine am_iincW (q := 177) (ls1 := [_, _, _, _, _, _, _]) (w := 1) dX2_digestBehind_174 rfl (Nat.le_of_ble_eq_true rfl) kc_i1 rfl rfl ?_
      refine am_goto (tgt := 124) dX2_digestBehind_177 rfl ?_
      rw [nI_1]
      have ih3 := ih (I1, some (vI (nI 4))) hq1
      rw [dgO, hcu] at ih3
      exact ih3
  · rintro ⟨I0, y6⟩ hq0
    dsimp only at hq0 ⊢
    refine am_iload (q := 126) dX2_digestBehind_124 rfl rfl ?_
    refine am_aload_n (q := 127) dX2_digestBehind_126 rfl rfl ?_
    refine cm_getI (q := 130) dX2_digestBehind_127 flX2_78 rfl (by assumption) rfl ?_
    rw [show I0 c 11 = nI B.nP from (hB.qt hq0).2.2.1.1]
    refine am_icmp_ge (tgt := 180) (q := 133) dX2_digestBehind_130 rfl rfl (fun _ => ?_) (fun hz => absurd (Int32.le_refl _) hz)
    exact hQ I0 y6 hq0
theorem k_dgTurn {d0 cur : Int64} {x6 : Option AV} (hG : okG G) (hct : CT S R c) (hB : AbB I c B) (hm : AbM I c B m) (hQ : ∀ I1 x6, Qt c I I1 → MW G mX2_digestBehind 5 239 [some (vR c), some (vJ d0), none, some (vJ (dgO (fun i => dgI (tlT B m i) 4) B.nT cur)), none, some (vI (nI B.nT)), x6] [] (mw S I1 J R) Q) : MW G mX2_digestBehind 5 183 [some (vR c), some (vJ d0), none, some (vJ (cur)), none, some (vI (0)), x6] [] (mw S I J R) Q := by
  have hct2 := hct
  obtain ⟨kc, rc0, rc1, rc2, rc3, rc4, rc5, rc6, rc7, ⟨kd, rd0, rd1, rd2, kd2, ld2, kd3, ld3, kd4, ld4⟩, ⟨kb, rb, kb6, lb6⟩, ⟨kf, rf, kf8, lf8⟩, ⟨kr, lr, hr⟩, ⟨kfi, lfi, hfi⟩, ⟨kp, lp, hpz⟩, ⟨kt, lt, htu⟩, kw, lw⟩ := id hct2
  have u4 : B.nT ≤ 20 := hB.2.2.2.1.2
  refine k_loop (σ := (Nat → Nat → Int32) × Option AV) (n := B.nT) (Inv := fun i s => Qt c I s.1) (W := fun i s => MW G mX2_digestBehind 5 183 [some (vR c), some (vJ d0), none, some (vJ (dgO (fun i => dgI (tlT B m i) 4) i cur)), none, some (vI (nI i)), s.2] [] (mw S s.1 J R) _) ?_ ?_ 0 (I, x6) (Nat.zero_le _) Qt.rf
  · rintro i ⟨I0, y6⟩ hi hq0 ih
    dsimp only at hq0 ih ⊢
    have hB0 := hB.qt hq0
    have hm0 := AbM.qt hB hm hq0
    have u3 : I0 c 12 = nI B.nT := hB0.2.2.2.1.1
    refine am_iload (q := 185) dX2_digestBehind_183 rfl rfl ?_
    refine am_aload_n (q := 186) dX2_digestBehind_185 rfl rfl ?_
    refine cm_getI (q := 189) dX2_digestBehind_186 flX2_81 rfl (by assumption) rfl ?_
    rw [u3]
    refine am_icmp_ge (tgt := 239) (q := 192) dX2_digestBehind_189 rfl rfl (fun hz => absurd hz (nI_ge (by omega) (by omega))) (fun _ => ?_)
    refine am_iload (q := 194) dX2_digestBehind_192 rfl rfl ?_
    refine am_aload_n (q := 195) dX2_digestBehind_194 rfl rfl ?_
    refine cm_getR (q := 198) dX2_digestBehind_195 flX2_52 rfl (by assumption) (by assumption) rfl ?_
    refine cm_alenK (q := 199) dX2_digestBehind_198 (by assumption) (by decide) (by rw [lt] : nI (S.ln (c + 12)) = nI 20) rfl ?_
    refine am_icmp_ge (tgt := 239) (q := 202) dX2_digestBehind_199 rfl rfl (fun hz => absurd hz (nI_ge (by omega) (by decide))) (fun _ => ?_)
    refine am_iconst (q := 203) (v := 0) dX2_digestBehind_202 kc_i0 rfl ?_
    refine am_istore (q := 205) (ls1 := [_, _, _, _, _, _, _]) dX2_digestBehind_203 (Nat.le_of_ble_eq_true rfl) rfl rfl ?_
    generalize hcu : dgO (fun i => dgI (tlT B m i) 4) i cur = cu at ih ⊢
    refine k_loop (σ := Nat → Nat → Int32) (n := 4) (Inv := fun w I1 => Qt c I I1) (W := fun w I1 => MW G mX2_digestBehind 5 205 [some (vR c), some (vJ d0), none, some (vJ (dgI (tlT B m i) w cu)), none, some (vI (nI i)), some (vI (nI w))] [] (mw S I1 J R) _) ?_ ?_ 0 I0 (Nat.zero_le _) hq0
    · intro w I1 hw hq1 ih2
      refine am_iload (q := 207) dX2_digestBehind_205 rfl rfl ?_
      refine am_iconst (q := 208) (v := 3) dX2_digestBehind_207 kc_i3 rfl ?_
      refine am_icmp_gt (tgt := 233) (q := 211) dX2_digestBehind_208 rfl rfl (fun hz => absurd hz (fun q => absurd ((nI_ltI (a := 3) (b := w) (by decide) (by omega)).mp q) (by omega))) (fun _ => ?_)
      refine am_lload_n (q := 212) dX2_digestBehind_211 rfl rfl ?_
      refine am_ldcJ (q := 215) (v := 31) dX2_digestBehind_212 (tbc4 40 rfl rfl) rfl ?_
      refine am_lmul (q := 216) dX2_digestBehind_215 rfl ?_
      refine am_aload_n (q := 217) dX2_digestBehind_216 rfl rfl ?_
      refine am_iload (q := 219) dX2_digestBehind_217 rfl rfl ?_
      refine am_iload (q := 221) dX2_digestBehind_219 rfl rfl ?_
      refine cm_call0 (q := 224) (As := [_, _]) hG dX2_digestBehind_221 mlX2_282 rfl (by assumption) ⟨_, _, rfl⟩ (Nat.le_of_ble_eq_true rfl) (Nat.le_of_ble_eq_true rfl) (Nat.le_of_ble_eq_true rfl) (Nat.le_of_ble_eq_true rfl) (k_X2_tellTurn hG hct (hB.qt hq1) (AbM.qt hB hm hq1) hi hw) rfl ?_
      rintro _ _ ⟨rfl, I2, rfl, hq2⟩
      refine am_i2l (q := 225) dX2_digestBehind_224 rfl ?_
      refine am_ladd (q := 226) dX2_digestBehind_225 rfl ?_
      refine am_lstore_n (q := 227) (ls1 := [_, _, _, _, _, _, _]) dX2_digestBehind_226 (Nat.le_of_ble_eq_true rfl) rfl rfl ?_
      refine am_iincW (q := 230) (ls1 := [_, _, _, _, _, _, _]) (w := 1) dX2_digestBehind_227 rfl (Nat.le_of_ble_eq_true rfl) kc_i1 rfl rfl ?_
      refine am_goto (tgt := 205) dX2_digestBehind_230 rfl ?_
      rw [nI_1]
      exact ih2 I2 (hq1.tr hq2)
    · intro I1 hq1
      refine am_iload (q := 207) dX2_digestBehind_205 rfl rfl ?_
      refine am_iconst (q := 208) (v := 3) dX2_digestBehind_207 kc_i3 rfl ?_
      refine am_icmp_gt (tgt := 233) (q := 211) dX2_digestBehind_208 rfl rfl (fun _ => ?_) (fun hz => absurd ((nI_ltI (a := 3) (b := 4) (by decide) (by decide)).mpr (by decide)) hz)
      refine am_iincW (q := 236) (ls1 := [_, _, _, _, _, _, _]) (w := 1) dX2_digestBehind_233 rfl (Nat.le_of_ble_eq_true rfl) kc_i1 rfl rfl ?_
      refine am_goto (tgt := 183) dX2_digestBehind_236 rfl ?_
      rw [nI_1]
      have ih3 := ih (I1, some (vI (nI 4))) hq1
      rw [dgO, hcu] at ih3
      exact ih3
  · rintro ⟨I0, y6⟩ hq0
    dsimp only at hq0 ⊢
    refine am_iload (q := 185) dX2_digestBehind_183 rfl rfl ?_
    refine am_aload_n (q := 186) dX2_digestBehind_185 rfl rfl ?_
    refine cm_getI (q := 189) dX2_digestBehind_186 flX2_81 rfl (by assumption) rfl ?_
    rw [show I0 c 12 = nI B.nT from (hB.qt hq0).2.2.2.1.1]
    refine am_icmp_ge (tgt := 239) (q := 192) dX2_digestBehind_189 rfl rfl (fun _ => ?_) (fun hz => absurd (Int32.le_refl _) hz)
    exact hQ I0 y6 hq0
theorem k_X2_digestBehind {d0 : Int64} (hG : okG G) (hct : CT S R c) (hB : AbB I c B) (hm : AbM I c B m) : Fn G mX2_digestBehind 5 [vR c, vJ d0] (mw S I J R) (fun rr M1 => rr = some (vJ (digM B m d0)) ∧ ∃ I1, M1 = mw S I1 J R ∧ Qt c I I1) := by
  have hct2 := hct
  obtain ⟨kc, rc0, rc1, rc2, rc3, rc4, rc5, rc6, rc7, ⟨kd, rd0, rd1, rd2, kd2, ld2, kd3, ld3, kd4, ld4⟩, ⟨kb, rb, kb6, lb6⟩, ⟨kf, rf, kf8, lf8⟩, ⟨kr, lr, hr⟩, ⟨kfi, lfi, hfi⟩, ⟨kp, lp, hpz⟩, ⟨kt, lt, htu⟩, kw, lw⟩ := id hct2
  unfold digM
  refine am_lload_n (q := 1) dX2_digestBehind_0 rfl rfl ?_
  refine am_lstore_n (q := 2) (ls1 := [_, _, _, _, _, _, _]) dX2_digestBehind_1 (Nat.le_of_ble_eq_true rfl) rfl rfl ?_
  refine am_iconst (q := 3) (v := 0) dX2_digestBehind_2 kc_i0 rfl ?_
  refine am_istore (q := 5) (ls1 := [_, _, _, _, _, _, _]) dX2_digestBehind_3 (Nat.le_of_ble_eq_true rfl) rfl rfl ?_
  refine k_dgRail hG hct hB hm ?_
  intro I1 x6 hq1
  refine am_iconst (q := 62) (v := 0) dX2_digestBehind_61 kc_i0 rfl ?_
  refine am_istore (q := 64) (ls1 := [_, _, _, _, _, _, _]) dX2_digestBehind_62 (Nat.le_of_ble_eq_true rfl) rfl rfl ?_
  have hB1 := hB.qt hq1
  have hm1 := AbM.qt hB hm hq1
  refine k_dgFist hG hct hB1 hm1 ?_
  intro I2 y6 hq2
  refine am_iconst (q := 122) (v := 0) dX2_digestBehind_121 kc_i0 rfl ?_
  refine am_istore (q := 124) (ls1 := [_, _, _, _, _, _, _]) dX2_digestBehind_122 (Nat.le_of_ble_eq_true rfl) rfl rfl ?_
  have hB2 := hB1.qt hq2
  have hm2 := AbM.qt hB1 hm1 hq2
  refine k_dgPrize hG hct hB2 hm2 ?_
  intro I3 z6 hq3
  refine am_iconst (q := 181) (v := 0) dX2_digestBehind_180 kc_i0 rfl ?_
  refine am_istore (q := 183) (ls1 := [_, _, _, _, _, _, _]) dX2_digestBehind_181 (Nat.le_of_ble_eq_true rfl) rfl rfl ?_
  have hB3 := hB2.qt hq3
  have hm3 := AbM.qt hB2 hm2 hq3
  refine k_dgTurn hG hct hB3 hm3 ?_
  intro I4 w6 hq4
  refine am_iconst (q := 240) (v := 0) dX2_digestBehind_239 kc_i0 rfl ?_
  refine am_istore (q := 242) (ls1 := [_, _, _, _, _, _, _]) dX2_digestBehind_240 (Nat.le_of_ble_eq_true rfl) rfl rfl ?_
  have hB4 := hB3.qt hq4
  have hm4 := AbM.qt hB3 hm3 hq4
  generalize dgO (fun i => dgI (tlT B m i) 4) B.nT _ = cu
  have hb : I4 (c + 5) 1 = nI m.nb := hm4.2.2.2.2.2.2.2.1
  have hb10 : m.nb ≤ 10 := hm4.2.2.2.2.2.2.2.2.1
  refine k_loop (σ := Unit) (n := m.nb) (Inv := fun _ _ => True) (W := fun i _ => MW G mX2_digestBehind 5 242 [some (vR c), some (vJ d0), none, some (vJ (dgI m.bd i cu)), none, some (vI (nI i)), w6] [] (mw S I4 J R) _) ?_ ?_ 0 () (Nat.zero_le _) trivial
  · rintro i ⟨⟩ hi _ ih
    have hv : (if 0 ≤ nI i ∧ nI i < I4 (c + 5) 1 ∧ nI i < 10 then I4 (c + 6) (nI i).toNatClampNeg else 0) = m.bd i := by
      have q := k_inr hi (by omega)
      rw [hb, if_pos ⟨q.1, q.2, (nI_ltI (b := 10) (by omega) (by decide)).mpr (by omega)⟩, nI_clamp (by omega)]
      exact hm4.2.2.2.2.2.2.1 i hi
    refine am_iload (q := 244) dX2_digestBehind_242 rfl rfl ?_
    refine am_aload_n (q := 245) dX2_digestBehind_244 rfl rfl ?_
    refine cm_getR (q := 248) dX2_digestBehind_245 flX2_21 rfl (by assumption) (by assumption) rfl ?_
    refine cm_getI (q := 251) dX2_digestBehind_248 flX2_68 rfl (by assumption) rfl ?_
    rw [hb]
    refine am_icmp_ge (tgt := 277) (q := 254) dX2_digestBehind_251 rfl rfl (fun hz => absurd hz (nI_ge (by omega) (by omega))) (fun _ => ?_)
    refine am_lload_n (q := 255) dX2_digestBehind_254 rfl rfl ?_
    refine am_ldcJ (q := 258) (v := 31) dX2_digestBehind_255 (tbc4 40 rfl rfl) rfl ?_
    refine am_lmul (q := 259) dX2_digestBehind_258 rfl ?_
    refine am_aload_n (q := 260) dX2_digestBehind_259 rfl rfl ?_
    refine cm_getR (q := 263) dX2_digestBehind_260 flX2_21 rfl (by assumption) (by assumption) rfl ?_
    refine am_iload (q := 265) dX2_digestBehind_263 rfl rfl ?_
    refine cm_call0 (q := 268) (As := [_]) hG dX2_digestBehind_265 mlX2_285 rfl (by assumption) ⟨_, _, rfl⟩ (Nat.le_of_ble_eq_true rfl) (Nat.le_of_ble_eq_true rfl) (Nat.le_of_ble_eq_true rfl) (Nat.le_of_ble_eq_true rfl) (k_X0_heightAt hG kb rb kb6 lb6) rfl ?_
    rintro _ _ ⟨rfl, rfl⟩
    rw [hv]
    refine am_i2l (q := 269) dX2_digestBehind_268 rfl ?_
    refine am_ladd (q := 270) dX2_digestBehind_269 rfl ?_
    refine am_lstore_n (q := 271) (ls1 := [_, _, _, _, _, _, _]) dX2_digestBehind_270 (Nat.le_of_ble_eq_true rfl) rfl rfl ?_
    refine am_iincW (q := 274) (ls1 := [_, _, _, _, _, _, _]) (w := 1) dX2_digestBehind_271 rfl (Nat.le_of_ble_eq_true rfl) kc_i1 rfl rfl ?_
    refine am_goto (tgt := 242) dX2_digestBehind_274 rfl ?_
    rw [nI_1]
    exact ih () trivial
  · rintro ⟨⟩ _
    refine am_iload (q := 244) dX2_digestBehind_242 rfl rfl ?_
    refine am_aload_n (q := 245) dX2_digestBehind_244 rfl rfl ?_
    refine cm_getR (q := 248) dX2_digestBehind_245 flX2_21 rfl (by assumption) (by assumption) rfl ?_
    refine cm_getI (q := 251) dX2_digestBehind_248 flX2_68 rfl (by assumption) rfl ?_
    rw [hb]
    refine am_icmp_ge (tgt := 277) (q := 254) dX2_digestBehind_251 rfl rfl (fun _ => ?_) (fun hz => absurd (Int32.le_refl _) hz)
    refine am_lload_n (q := 278) dX2_digestBehind_277 rfl rfl ?_
    exact am_lret dX2_digestBehind_278 rfl ⟨_, rfl, rfl, I4, rfl, ((hq1.tr hq2).tr hq3).tr hq4⟩
end Dig
end
section
theorem dX1_add_0 : decode cX1_add 0 = .ok (.aload_n 0, 1) := by decide +kernel
theorem dX1_add_1 : decode cX1_add 1 = .ok (.getfield 23, 3) := by decide +kernel
theorem dX1_add_4 : decode cX1_add 4 = .ok (.ifCond .lt 57, 3) := by decide +kernel
theorem dX1_add_7 : decode cX1_add 7 = .ok (.aload_n 0, 1) := by decide +kernel
theorem dX1_add_8 : decode cX1_add 8 = .ok (.getfield 23, 3) := by decide +kernel
theorem dX1_add_11 : decode cX1_add 11 = .ok (.aload_n 0, 1) := by decide +kernel
theorem dX1_add_12 : decode cX1_add 12 = .ok (.getfield 11, 3) := by decide +kernel
theorem dX1_add_15 : decode cX1_add 15 = .ok (.arraylength, 1) := by decide +kernel
theorem dX1_add_16 : decode cX1_add 16 = .ok (.if_icmp .ge 45, 3) := by decide +kernel
theorem dX1_add_19 : decode cX1_add 19 = .ok (.aload_n 0, 1) := by decide +kernel
theorem dX1_add_20 : decode cX1_add 20 = .ok (.getfield 23, 3) := by decide +kernel
theorem dX1_add_23 : decode cX1_add 23 = .ok (.aload_n 0, 1) := by decide +kernel
theorem dX1_add_24 : decode cX1_add 24 = .ok (.getfield 17, 3) := by decide +kernel
theorem dX1_add_27 : decode cX1_add 27 = .ok (.arraylength, 1) := by decide +kernel
theorem dX1_add_28 : decode cX1_add 28 = .ok (.if_icmp .ge 33, 3) := by decide +kernel
theorem dX1_add_31 : decode cX1_add 31 = .ok (.aload_n 0, 1) := by decide +kernel
theorem dX1_add_32 : decode cX1_add 32 = .ok (.getfield 11, 3) := by decide +kernel
theorem dX1_add_35 : decode cX1_add 35 = .ok (.aload_n 0, 1) := by decide +kernel
theorem dX1_add_36 : decode cX1_add 36 = .ok (.getfield 23, 3) := by decide +kernel
theorem dX1_add_39 : decode cX1_add 39 = .ok (.iload_n 1, 1) := by decide +kernel
theorem dX1_add_40 : decode cX1_add 40 = .ok (.iastore, 1) := by decide +kernel
theorem dX1_add_41 : decode cX1_add 41 = .ok (.aload_n 0, 1) := by decide +kernel
theorem dX1_add_42 : decode cX1_add 42 = .ok (.getfield 17, 3) := by decide +kernel
theorem dX1_add_45 : decode cX1_add 45 = .ok (.aload_n 0, 1) := by decide +kernel
theorem dX1_add_46 : decode cX1_add 46 = .ok (.getfield 23, 3) := by decide +kernel
theorem dX1_add_49 : decode cX1_add 49 = .ok (.iload_n 2, 1) := by decide +kernel
theorem dX1_add_50 : decode cX1_add 50 = .ok (.iastore, 1) := by decide +kernel
theorem dX1_add_51 : decode cX1_add 51 = .ok (.aload_n 0, 1) := by decide +kernel
theorem dX1_add_52 : decode cX1_add 52 = .ok (.dup, 1) := by decide +kernel
theorem dX1_add_53 : decode cX1_add 53 = .ok (.getfield 23, 3) := by decide +kernel
theorem dX1_add_56 : decode cX1_add 56 = .ok (.iconst 1, 1) := by decide +kernel
theorem dX1_add_57 : decode cX1_add 57 = .ok (.iadd, 1) := by decide +kernel
theorem dX1_add_58 : decode cX1_add 58 = .ok (.putfield 23, 3) := by decide +kernel
theorem dX1_add_61 : decode cX1_add 61 = .ok (.return_, 1) := by decide +kernel
theorem dX1_copyFrom_0 : decode cX1_copyFrom 0 = .ok (.aload_n 0, 1) := by decide +kernel
theorem dX1_copyFrom_1 : decode cX1_copyFrom 1 = .ok (.iconst 0, 1) := by decide +kernel
theorem dX1_copyFrom_2 : decode cX1_copyFrom 2 = .ok (.putfield 23, 3) := by decide +kernel
theorem dX1_copyFrom_5 : decode cX1_copyFrom 5 = .ok (.iconst 0, 1) := by decide +kernel
theorem dX1_copyFrom_6 : decode cX1_copyFrom 6 = .ok (.istore_n 2, 1) := by decide +kernel
theorem dX1_copyFrom_7 : decode cX1_copyFrom 7 = .ok (.iload_n 2, 1) := by decide +kernel
theorem dX1_copyFrom_8 : decode cX1_copyFrom 8 = .ok (.aload_n 1, 1) := by decide +kernel
theorem dX1_copyFrom_9 : decode cX1_copyFrom 9 = .ok (.getfield 23, 3) := by decide +kernel
theorem dX1_copyFrom_12 : decode cX1_copyFrom 12 = .ok (.if_icmp .ge 43, 3) := by decide +kernel
theorem dX1_copyFrom_15 : decode cX1_copyFrom 15 = .ok (.iload_n 2, 1) := by decide +kernel
theorem dX1_copyFrom_16 : decode cX1_copyFrom 16 = .ok (.aload_n 1, 1) := by decide +kernel
theorem dX1_copyFrom_17 : decode cX1_copyFrom 17 = .ok (.getfield 11, 3) := by decide +kernel
theorem dX1_copyFrom_20 : decode cX1_copyFrom 20 = .ok (.arraylength, 1) := by decide +kernel
theorem dX1_copyFrom_21 : decode cX1_copyFrom 21 = .ok (.if_icmp .ge 34, 3) := by decide +kernel
theorem dX1_copyFrom_24 : decode cX1_copyFrom 24 = .ok (.iload_n 2, 1) := by decide +kernel
theorem dX1_copyFrom_25 : decode cX1_copyFrom 25 = .ok (.aload_n 1, 1) := by decide +kernel
theorem dX1_copyFrom_26 : decode cX1_copyFrom 26 = .ok (.getfield 17, 3) := by decide +kernel
theorem dX1_copyFrom_29 : decode cX1_copyFrom 29 = .ok (.arraylength, 1) := by decide +kernel
theorem dX1_copyFrom_30 : decode cX1_copyFrom 30 = .ok (.if_icmp .ge 25, 3) := by decide +kernel
theorem dX1_copyFrom_33 : decode cX1_copyFrom 33 = .ok (.aload_n 0, 1) := by decide +kernel
theorem dX1_copyFrom_34 : decode cX1_copyFrom 34 = .ok (.aload_n 1, 1) := by decide +kernel
theorem dX1_copyFrom_35 : decode cX1_copyFrom 35 = .ok (.getfield 11, 3) := by decide +kernel
theorem dX1_copyFrom_38 : decode cX1_copyFrom 38 = .ok (.iload_n 2, 1) := by decide +kernel
theorem dX1_copyFrom_39 : decode cX1_copyFrom 39 = .ok (.iaload, 1) := by decide +kernel
theorem dX1_copyFrom_40 : decode cX1_copyFrom 40 = .ok (.aload_n 1, 1) := by decide +kernel
theorem dX1_copyFrom_41 : decode cX1_copyFrom 41 = .ok (.getfield 17, 3) := by decide +kernel
theorem dX1_copyFrom_44 : decode cX1_copyFrom 44 = .ok (.iload_n 2, 1) := by decide +kernel
theorem dX1_copyFrom_45 : decode cX1_copyFrom 45 = .ok (.iaload, 1) := by decide +kernel
theorem dX1_copyFrom_46 : decode cX1_copyFrom 46 = .ok (.invokevirtual 27, 3) := by decide +kernel
theorem dX1_copyFrom_49 : decode cX1_copyFrom 49 = .ok (.iinc 2 1, 3) := by decide +kernel
theorem dX1_copyFrom_52 : decode cX1_copyFrom 52 = .ok (.goto (-45), 3) := by decide +kernel
theorem dX1_copyFrom_55 : decode cX1_copyFrom 55 = .ok (.return_, 1) := by decide +kernel
/-! code and contests are copied -/
section CopyA
variable {G : Gp} {S : AMem} {I : Nat → Nat → Int32} {J : Nat → Nat → Int64} {R : Nat → Nat → Option Nat} {a kk aa a2 kk2 aa2 : Nat}
theorem k_X1_add {k g : Int32} {z : Nat} (h1 : S.K a = 2) (g1 : R a 0 = some kk) (g2 : S.K kk = 20) (g3 : S.ln kk = 400) (g4 : R a 1 = some aa) (g5 : S.K aa = 20) (g6 : S.ln aa = 400) (hka : kk ≠ aa) (hz : I a 4 = nI z) (hz4 : z < 400) : Fn G mX1_add 0 [vR a, vI k, vI g] (mw S I J R) (fun rr M1 => rr = none ∧ M1 = mw S (fun x j => if x = kk ∧ j = z then k else if x = aa ∧ j = z then g else if x = a ∧ j = 4 then nI (z + 1) else I x j) J R) := by
  have n1 : a ≠ kk := fun e => by rw [e, g2] at h1; exact absurd h1 (by decide)
  have n2 : a ≠ aa := fun e => by rw [e, g5] at h1; exact absurd h1 (by decide)
  have hin : vp_in (nI z) (S.ln kk) := by rw [g3]; exact vp_in_nI (by omega) (by decide)
  have hin2 : vp_in (nI z) (S.ln aa) := by rw [g6]; exact vp_in_nI (by omega) (by decide)
  have hcl : (nI z).toNatClampNeg = z := nI_clamp (by omega)
  refine am_aload_n (q := 1) dX1_add_0 rfl rfl ?_
  refine cm_getI (q := 4) dX1_add_1 flX1_23 rfl (by assumption) rfl ?_
  rw [hz]
  refine am_if_lt (tgt := 61) (q := 7) dX1_add_4 rfl rfl (fun hz => absurd hz (nI_pos (by omega))) (fun _ => ?_)
  refine am_aload_n (q := 8) dX1_add_7 rfl rfl ?_
  refine cm_getI (q := 11) dX1_add_8 flX1_23 rfl (by assumption) rfl ?_
  rw [hz]
  refine am_aload_n (q := 12) dX1_add_11 rfl rfl ?_
  refine cm_getR (q := 15) dX1_add_12 flX1_11 rfl (by assumption) (by assumption) rfl ?_
  refine cm_alenI (q := 16) dX1_add_15 (by assumption) (by rw [g3] : nI (S.ln kk) = nI 400) rfl ?_
  refine am_icmp_ge (tgt := 61) (q := 19) dX1_add_16 rfl rfl (fun hz => absurd hz (nI_ge (by omega) (by decide))) (fun _ => ?_)
  refine am_aload_n (q := 20) dX1_add_19 rfl rfl ?_
  refine cm_getI (q := 23) dX1_add_20 flX1_23 rfl (by assumption) rfl ?_
  rw [hz]
  refine am_aload_n (q := 24) dX1_add_23 rfl rfl ?_
  refine cm_getR (q := 27) dX1_add_24 flX1_17 rfl (by assumption) (by assumption) rfl ?_
  refine cm_alenI (q := 28) dX1_add_27 (by assumption) (by rw [g6] : nI (S.ln aa) = nI 400) rfl ?_
  refine am_icmp_ge (tgt := 61) (q := 31) dX1_add_28 rfl rfl (fun hz => absurd hz (nI_ge (by omega) (by decide))) (fun _ => ?_)
  refine am_aload_n (q := 32) dX1_add_31 rfl rfl ?_
  refine cm_getR (q := 35) dX1_add_32 flX1_11 rfl (by assumption) (by assumption) rfl ?_
  refine am_aload_n (q := 36) dX1_add_35 rfl rfl ?_
  refine cm_getI (q := 39) dX1_add_36 flX1_23 rfl (by assumption) rfl ?_
  rw [hz]
  refine am_iload_n (q := 40) dX1_add_39 rfl rfl ?_
  refine cm_iastore (q := 41) dX1_add_40 (by assumption) hin rfl ?_
  refine am_aload_n (q := 42) dX1_add_41 rfl rfl ?_
  refine cm_getR (q := 45) dX1_add_42 flX1_17 rfl (by assumption) (by assumption) rfl ?_
  refine am_aload_n (q := 46) dX1_add_45 rfl rfl ?_
  refine cm_getI (q := 49) dX1_add_46 flX1_23 rfl (by assumption) rfl ?_
  rw [hcl, up2_a n1, hz]
  refine am_iload_n (q := 50) dX1_add_49 rfl rfl ?_
  refine cm_iastore (q := 51) dX1_add_50 (by assumption) hin2 rfl ?_
  refine am_aload_n (q := 52) dX1_add_51 rfl rfl ?_
  refine am_dup (q := 53) dX1_add_52 rfl rfl ?_
  refine cm_getI (q := 56) dX1_add_53 flX1_23 rfl (by assumption) rfl ?_
  rw [hcl, up2_a n2, up2_a n1, hz]
  refine am_iconst (q := 57) (v := 1) dX1_add_56 kc_i1 rfl ?_
  refine am_iadd (q := 58) dX1_add_57 rfl ?_
  refine cm_putI (q := 61) dX1_add_58 flX1_23 rfl (Or.inl rfl) (Or.inl rfl) (by assumption) rfl ?_
  exact am_ret dX1_add_61 rfl ⟨_, rfl, rfl, by
    congr 1
    funext x j
    rw [nI_1]
    simp only [up2_at]
    grind (splits := 30)⟩
theorem k_X1_addFull {k g : Int32} (h1 : S.K a = 2) (g1 : R a 0 = some kk) (g2 : S.K kk = 20) (g3 : S.ln kk = 400) (hz : I a 4 = nI 400) : Fn G mX1_add 0 [vR a, vI k, vI g] (mw S I J R) (fun rr M1 => rr = none ∧ M1 = mw S I J R) := by
  refine am_aload_n (q := 1) dX1_add_0 rfl rfl ?_
  refine cm_getI (q := 4) dX1_add_1 flX1_23 rfl (by assumption) rfl ?_
  rw [hz]
  refine am_if_lt (tgt := 61) (q := 7) dX1_add_4 rfl rfl (fun hz => absurd hz (by decide)) (fun _ => ?_)
  refine am_aload_n (q := 8) dX1_add_7 rfl rfl ?_
  refine cm_getI (q := 11) dX1_add_8 flX1_23 rfl (by assumption) rfl ?_
  rw [hz]
  refine am_aload_n (q := 12) dX1_add_11 rfl rfl ?_
  refine cm_getR (q := 15) dX1_add_12 flX1_11 rfl (by assumption) (by assumption) rfl ?_
  refine cm_alenI (q := 16) dX1_add_15 (by assumption) (by rw [g3] : nI (S.ln kk) = nI 400) rfl ?_
  refine am_icmp_ge (tgt := 61) (q := 19) dX1_add_16 rfl rfl (fun _ => ?_) (fun hz => absurd (Int32.le_refl _) hz)
  exact am_ret dX1_add_61 rfl ⟨_, rfl, rfl, rfl⟩
theorem k_X1_copyFrom {z : Nat} (hG : okG G) (h1 : S.K a = 2) (g1 : R a 0 = some kk) (g2 : S.K kk = 20) (g3 : S.ln kk = 400) (g4 : R a 1 = some aa) (g5 : S.K aa = 20) (g6 : S.ln aa = 400) (hka : kk ≠ aa) (h2 : S.K a2 = 2) (f1 : R a2 0 = some kk2) (f2 : S.K kk2 = 20) (f3 : S.ln kk2 = 400) (f4 : R a2 1 = some aa2) (f5 : S.K aa2 = 20) (f6 : S.ln aa2 = 400) (n1 : kk2 ≠ kk) (n2 : kk2 ≠ aa) (n3 : aa2 ≠ kk) (n4 : aa2 ≠ aa) (n5 : a2 ≠ a) (hz : I a2 4 = nI z) (hz4 : z ≤ 400) : Fn G mX1_copyFrom 1 [vR a, vR a2] (mw S I J R) (fun rr M1 => rr = none ∧ ∃ I1, M1 = mw S I1 J R ∧ ∀ x j, I1 x j = if x = kk ∧ j < z then I kk2 j else if x = aa ∧ j < z then I aa2 j else if x = a ∧ j = 4 then nI z else I x j) := by
  have o1 : a ≠ kk := fun e => by rw [e, g2] at h1; exact absurd h1 (by decide)
  have o2 : a ≠ aa := fun e => by rw [e, g5] at h1; exact absurd h1 (by decide)
  have o3 : a2 ≠ kk := fun e => by rw [e, g2] at h2; exact absurd h2 (by decide)
  have o4 : a2 ≠ aa := fun e => by rw [e, g5] at h2; exact absurd h2 (by decide)
  have o5 : kk2 ≠ a := fun e => by rw [e, h1] at f2; exact absurd f2 (by decide)
  have o6 : aa2 ≠ a := fun e => by rw [e, h1] at f5; exact absurd f5 (by decide)
  refine am_aload_n (q := 1) dX1_copyFrom_0 rfl rfl ?_
  refine am_iconst (q := 2) (v := 0) dX1_copyFrom_1 kc_i0 rfl ?_
  refine cm_putI (q := 5) dX1_copyFrom_2 flX1_23 rfl (Or.inl rfl) (Or.inl rfl) (by assumption) rfl ?_
  refine am_iconst (q := 6) (v := 0) dX1_copyFrom_5 kc_i0 rfl ?_
  refine am_istore_n (q := 7) (ls1 := [_, _, _]) dX1_copyFrom_6 (Nat.le_of_ble_eq_true rfl) rfl rfl ?_
  refine k_loop (σ := Nat → Nat → Int32) (n := z) (Inv := fun i I1 => ∀ x j, I1 x j = if x = kk ∧ j < i then I kk2 j else if x = aa ∧ j < i then I aa2 j else if x = a ∧ j = 4 then nI i else I x j) (W := fun i I1 => MW G mX1_copyFrom 1 7 [some (vR a), some (vR a2), some (vI (nI i))] [] (mw S I1 J R) _) ?_ ?_ 0 _ (Nat.zero_le _) (fun x j => by
      simp only [up2_at]
      show (if x = a ∧ j = 4 then (0 : Int32) else I x j) = if x = kk ∧ j < 0 then _ else if x = aa ∧ j < 0 then _ else if x = a ∧ j = 4 then (0 : Int32) else _
      rw [if_neg (show ¬ (x = kk ∧ j < 0) from fun q => Nat.not_lt_zero _ q.2), if_neg (show ¬ (x = aa ∧ j < 0) from fun q => Nat.not_lt_zero _ q.2)])
  · intro i I1 hi hI ih
    have hcl : (nI i).toNatClampNeg = i := nI_clamp (by omega)
    have e1 : I1 a2 4 = nI z := by rw [hI, if_neg (fun q => o3 q.1), if_neg (fun q => o4 q.1), if_neg (fun q => n5 q.1), hz]
    have e2 : I1 kk2 i = I kk2 i := by rw [hI, if_neg (fun q => n1 q.1), if_neg (fun q => n2 q.1), if_neg (fun q => o5 q.1)]
    have e3 : I1 aa2 i = I aa2 i := by rw [hI, if_neg (fun q => n3 q.1), if_neg (fun q => n4 q.1), if_neg (fun q => o6 q.1)]
    have e4 : I1 a 4 = nI i := by rw [hI, if_neg (fun q => o1 q.1), if_neg (fun q => o2 q.1), if_pos ⟨rfl, rfl⟩]
    refine am_iload_n (q := 8) dX1_copyFrom_7 rfl rfl ?_
    refine am_aload_n (q := 9) dX1_copyFrom_8 rfl rfl ?_
    refine cm_getI (q := 12) dX1_copyFrom_9 flX1_23 rfl (by assumption) rfl ?_
    rw [e1]
    refine am_icmp_ge (tgt := 55) (q := 15) dX1_copyFrom_12 rfl rfl (fun hz => absurd hz (nI_ge (by omega) (by omega))) (fun _ => ?_)
    refine am_iload_n (q := 16) dX1_copyFrom_15 rfl rfl ?_
    refine am_aload_n (q := 17) dX1_copyFrom_16 rfl rfl ?_
    refine cm_getR (q := 20) dX1_copyFrom_17 flX1_11 rfl (by assumption) (by assumption) rfl ?_
    refine cm_alenI (q := 21) dX1_copyFrom_20 (by assumption) (by rw [f3] : nI (S.ln kk2) = nI 400) rfl ?_
    refine am_icmp_ge (tgt := 55) (q := 24) dX1_copyFrom_21 rfl rfl (fun hz => absurd hz (nI_ge (by omega) (by decide))) (fun _ => ?_)
    refine am_iload_n (q := 25) dX1_copyFrom_24 rfl rfl ?_
    refine am_aload_n (q := 26) dX1_copyFrom_25 rfl rfl ?_
    refine cm_getR (q := 29) dX1_copyFrom_26 flX1_17 rfl (by assumption) (by assumption) rfl ?_
    refine cm_alenI (q := 30) dX1_copyFrom_29 (by assumption) (by rw [f6] : nI (S.ln aa2) = nI 400) rfl ?_
    refine am_icmp_ge (tgt := 55) (q := 33) dX1_copyFrom_30 rfl rfl (fun hz => absurd hz (nI_ge (by omega) (by decide))) (fun _ => ?_)
    refine am_aload_n (q := 34) dX1_copyFrom_33 rfl rfl ?_
    refine am_aload_n (q := 35) dX1_copyFrom_34 rfl rfl ?_
    refine cm_getR (q := 38) dX1_copyFrom_35 flX1_11 rfl (by assumption) (by assumption) rfl ?_
    refine am_iload_n (q := 39) dX1_copyFrom_38 rfl rfl ?_
    refine cm_iaload (q := 40) dX1_copyFrom_39 (by assumption) (by rw [f3]; exact vp_in_nI (by omega) (by decide)) rfl ?_
    rw [hcl, e2]
    refine am_aload_n (q := 41) dX1_copyFrom_40 rfl rfl ?_
    refine cm_getR (q := 44) dX1_copyFrom_41 flX1_17 rfl (by assumption) (by assumption) rfl ?_
    refine am_iload_n (q := 45) dX1_copyFrom_44 rfl rfl ?_
    refine cm_iaload (q := 46) dX1_copyFrom_45 (by assumption) (by rw [f6]; exact vp_in_nI (by omega) (by decide)) rfl ?_
    rw [hcl, e3]
    refine cm_call0 (q := 49) (As := [_, _]) hG dX1_copyFrom_46 mlX1_27 rfl (by assumption) ⟨_, _, rfl⟩ (Nat.le_of_ble_eq_true rfl) (Nat.le_of_ble_eq_true rfl) (Nat.le_of_ble_eq_true rfl) (Nat.le_of_ble_eq_true rfl) (k_X1_add h1 g1 g2 g3 g4 g5 g6 hka e4 (by omega)) rfl ?_
    rintro _ _ ⟨rfl, rfl⟩
    refine am_iincW (q := 52) (ls1 := [_, _, _]) (w := 1) dX1_copyFrom_49 rfl (Nat.le_of_ble_eq_true rfl) kc_i1 rfl rfl ?_
    refine am_goto (tgt := 7) dX1_copyFrom_52 rfl ?_
    rw [nI_1]
    refine ih _ fun x j => ?_
    rw [hI]
    grind (splits := 30)
  · intro I1 hI
    have e1 : I1 a2 4 = nI z := by rw [hI, if_neg (fun q => o3 q.1), if_neg (fun q => o4 q.1), if_neg (fun q => n5 q.1), hz]
    refine am_iload_n (q := 8) dX1_copyFrom_7 rfl rfl ?_
    refine am_aload_n (q := 9) dX1_copyFrom_8 rfl rfl ?_
    refine cm_getI (q := 12) dX1_copyFrom_9 flX1_23 rfl (by assumption) rfl ?_
    rw [e1]
    refine am_icmp_ge (tgt := 55) (q := 15) dX1_copyFrom_12 rfl rfl (fun _ => ?_) (fun hz => absurd (Int32.le_refl _) hz)
    exact am_ret dX1_copyFrom_55 rfl ⟨_, rfl, rfl, I1, rfl, hI⟩
end CopyA
theorem evE_cg {rd : Int32 → Int32 → Int32} {K K2 A A2 : Nat → Int32} : ∀ (n p : Nat) (st : List Int32), (∀ j, p ≤ j → j < p + n → K j = K2 j ∧ A j = A2 j) → evE rd K A p n st = evE rd K2 A2 p n st := by
  intro n
  induction n with
  | zero => intro p st h; rfl
  | succ n ih =>
    intro p st h
    obtain ⟨e1, e2⟩ := h p (Nat.le_refl _) (by omega)
    rw [evE, evE, e1, e2]
    exact ih (p + 1) _ (fun j q1 q2 => h j (by omega) (by omega))
end
section
theorem dX2_copyFrom_24 : decode cX2_copyFrom 24 = .ok (.iload_n 2, 1) := by decide +kernel
theorem dX2_copyFrom_25 : decode cX2_copyFrom 25 = .ok (.aload_n 0, 1) := by decide +kernel
theorem dX2_copyFrom_26 : decode cX2_copyFrom 26 = .ok (.getfield 34, 3) := by decide +kernel
theorem dX2_copyFrom_29 : decode cX2_copyFrom 29 = .ok (.arraylength, 1) := by decide +kernel
theorem dX2_copyFrom_30 : decode cX2_copyFrom 30 = .ok (.if_icmp .ge 33, 3) := by decide +kernel
theorem dX2_copyFrom_33 : decode cX2_copyFrom 33 = .ok (.iload_n 2, 1) := by decide +kernel
theorem dX2_copyFrom_34 : decode cX2_copyFrom 34 = .ok (.aload_n 1, 1) := by decide +kernel
theorem dX2_copyFrom_35 : decode cX2_copyFrom 35 = .ok (.getfield 34, 3) := by decide +kernel
theorem dX2_copyFrom_38 : decode cX2_copyFrom 38 = .ok (.arraylength, 1) := by decide +kernel
theorem dX2_copyFrom_39 : decode cX2_copyFrom 39 = .ok (.if_icmp .ge 24, 3) := by decide +kernel
theorem dX2_copyFrom_42 : decode cX2_copyFrom 42 = .ok (.aload_n 0, 1) := by decide +kernel
theorem dX2_copyFrom_43 : decode cX2_copyFrom 43 = .ok (.getfield 34, 3) := by decide +kernel
theorem dX2_copyFrom_46 : decode cX2_copyFrom 46 = .ok (.iload_n 2, 1) := by decide +kernel
theorem dX2_copyFrom_47 : decode cX2_copyFrom 47 = .ok (.aaload, 1) := by decide +kernel
theorem dX2_copyFrom_48 : decode cX2_copyFrom 48 = .ok (.aload_n 1, 1) := by decide +kernel
theorem dX2_copyFrom_49 : decode cX2_copyFrom 49 = .ok (.getfield 34, 3) := by decide +kernel
theorem dX2_copyFrom_52 : decode cX2_copyFrom 52 = .ok (.iload_n 2, 1) := by decide +kernel
theorem dX2_copyFrom_53 : decode cX2_copyFrom 53 = .ok (.aaload, 1) := by decide +kernel
theorem dX2_copyFrom_54 : decode cX2_copyFrom 54 = .ok (.invokevirtual 109, 3) := by decide +kernel
theorem dX2_copyFrom_57 : decode cX2_copyFrom 57 = .ok (.iinc 2 1, 3) := by decide +kernel
theorem dX2_copyFrom_60 : decode cX2_copyFrom 60 = .ok (.goto (-36), 3) := by decide +kernel
theorem dX2_copyFrom_65 : decode cX2_copyFrom 65 = .ok (.iload_n 2, 1) := by decide +kernel
theorem dX2_copyFrom_66 : decode cX2_copyFrom 66 = .ok (.aload_n 0, 1) := by decide +kernel
theorem dX2_copyFrom_67 : decode cX2_copyFrom 67 = .ok (.getfield 40, 3) := by decide +kernel
theorem dX2_copyFrom_70 : decode cX2_copyFrom 70 = .ok (.arraylength, 1) := by decide +kernel
theorem dX2_copyFrom_71 : decode cX2_copyFrom 71 = .ok (.if_icmp .ge 33, 3) := by decide +kernel
theorem dX2_copyFrom_74 : decode cX2_copyFrom 74 = .ok (.iload_n 2, 1) := by decide +kernel
theorem dX2_copyFrom_75 : decode cX2_copyFrom 75 = .ok (.aload_n 1, 1) := by decide +kernel
theorem dX2_copyFrom_76 : decode cX2_copyFrom 76 = .ok (.getfield 40, 3) := by decide +kernel
theorem dX2_copyFrom_79 : decode cX2_copyFrom 79 = .ok (.arraylength, 1) := by decide +kernel
theorem dX2_copyFrom_80 : decode cX2_copyFrom 80 = .ok (.if_icmp .ge 24, 3) := by decide +kernel
theorem dX2_copyFrom_83 : decode cX2_copyFrom 83 = .ok (.aload_n 0, 1) := by decide +kernel
theorem dX2_copyFrom_84 : decode cX2_copyFrom 84 = .ok (.getfield 40, 3) := by decide +kernel
theorem dX2_copyFrom_87 : decode cX2_copyFrom 87 = .ok (.iload_n 2, 1) := by decide +kernel
theorem dX2_copyFrom_88 : decode cX2_copyFrom 88 = .ok (.aaload, 1) := by decide +kernel
theorem dX2_copyFrom_89 : decode cX2_copyFrom 89 = .ok (.aload_n 1, 1) := by decide +kernel
theorem dX2_copyFrom_90 : decode cX2_copyFrom 90 = .ok (.getfield 40, 3) := by decide +kernel
theorem dX2_copyFrom_93 : decode cX2_copyFrom 93 = .ok (.iload_n 2, 1) := by decide +kernel
theorem dX2_copyFrom_94 : decode cX2_copyFrom 94 = .ok (.aaload, 1) := by decide +kernel
theorem dX2_copyFrom_95 : decode cX2_copyFrom 95 = .ok (.invokevirtual 112, 3) := by decide +kernel
theorem dX2_copyFrom_98 : decode cX2_copyFrom 98 = .ok (.iinc 2 1, 3) := by decide +kernel
theorem dX2_copyFrom_101 : decode cX2_copyFrom 101 = .ok (.goto (-36), 3) := by decide +kernel
theorem dX2_copyFrom_106 : decode cX2_copyFrom 106 = .ok (.iload_n 2, 1) := by decide +kernel
theorem dX2_copyFrom_107 : decode cX2_copyFrom 107 = .ok (.aload_n 0, 1) := by decide +kernel
theorem dX2_copyFrom_108 : decode cX2_copyFrom 108 = .ok (.getfield 46, 3) := by decide +kernel
theorem dX2_copyFrom_111 : decode cX2_copyFrom 111 = .ok (.arraylength, 1) := by decide +kernel
theorem dX2_copyFrom_112 : decode cX2_copyFrom 112 = .ok (.if_icmp .ge 33, 3) := by decide +kernel
theorem dX2_copyFrom_115 : decode cX2_copyFrom 115 = .ok (.iload_n 2, 1) := by decide +kernel
theorem dX2_copyFrom_116 : decode cX2_copyFrom 116 = .ok (.aload_n 1, 1) := by decide +kernel
theorem dX2_copyFrom_117 : decode cX2_copyFrom 117 = .ok (.getfield 46, 3) := by decide +kernel
theorem dX2_copyFrom_120 : decode cX2_copyFrom 120 = .ok (.arraylength, 1) := by decide +kernel
theorem dX2_copyFrom_121 : decode cX2_copyFrom 121 = .ok (.if_icmp .ge 24, 3) := by decide +kernel
theorem dX2_copyFrom_124 : decode cX2_copyFrom 124 = .ok (.aload_n 0, 1) := by decide +kernel
theorem dX2_copyFrom_125 : decode cX2_copyFrom 125 = .ok (.getfield 46, 3) := by decide +kernel
theorem dX2_copyFrom_128 : decode cX2_copyFrom 128 = .ok (.iload_n 2, 1) := by decide +kernel
theorem dX2_copyFrom_129 : decode cX2_copyFrom 129 = .ok (.aaload, 1) := by decide +kernel
theorem dX2_copyFrom_130 : decode cX2_copyFrom 130 = .ok (.aload_n 1, 1) := by decide +kernel
theorem dX2_copyFrom_131 : decode cX2_copyFrom 131 = .ok (.getfield 46, 3) := by decide +kernel
theorem dX2_copyFrom_134 : decode cX2_copyFrom 134 = .ok (.iload_n 2, 1) := by decide +kernel
theorem dX2_copyFrom_135 : decode cX2_copyFrom 135 = .ok (.aaload, 1) := by decide +kernel
theorem dX2_copyFrom_136 : decode cX2_copyFrom 136 = .ok (.invokevirtual 115, 3) := by decide +kernel
theorem dX2_copyFrom_139 : decode cX2_copyFrom 139 = .ok (.iinc 2 1, 3) := by decide +kernel
theorem dX2_copyFrom_142 : decode cX2_copyFrom 142 = .ok (.goto (-36), 3) := by decide +kernel
/-! a contest is copied -/
section CopyC
variable {G : Gp} {S : AMem} {I : Nat → Nat → Int32} {J : Nat → Nat → Int64} {R : Nat → Nat → Option Nat} {c c2 : Nat} {B : BS} {m : MS} {Q : (Option AV ⊕ Nat) → AMem → Prop}
/-- the names outside have stayed -/
def OffJ (c : Nat) (J J1 : Nat → Nat → Int64) : Prop := ∀ x j, (x < c ∨ c + 58 ≤ x) → J1 x j = J x j
theorem OffJ.rf : OffJ c J J := fun _ _ _ => rfl
theorem OffJ.tr {J1 J2 : Nat → Nat → Int64} (h1 : OffJ c J J1) (h2 : OffJ c J1 J2) : OffJ c J J2 := fun x j q => (h2 x j q).trans (h1 x j q)
theorem OffJ.up {J1 : Nat → Nat → Int64} {a j : Nat} {v : Int64} (h : OffJ c J J1) (h1 : c ≤ a ∧ a < c + 58) : OffJ c J (up2 J1 a j v) := fun x i q => by
  rw [up2_a (by omega)]
  exact h x i q
theorem k_cpRail (hG : okG G) (hct : CT S R c) (hct2 : CT S R c2) (hd : c + 58 ≤ c2 ∨ c2 + 58 ≤ c)
    (hQ : ∀ I1 J1, (∀ x j, (x < c + 14 ∨ c + 22 ≤ x) → I1 x j = I x j) → (∀ k, k < 4 → (∀ j, j < 100 → I1 (c + 15 + 2 * k) j = I (c2 + 15 + 2 * k) j) ∧ ∀ j, 2 ≤ j → j ≤ 6 → I1 (c + 14 + 2 * k) j = I (c2 + 14 + 2 * k) j) → OffJ c J J1 → MW G mX2_copyFrom 3 63 [some (vR c), some (vR c2), some (vI (nI 4))] [] (mw S I1 J1 R) Q) : MW G mX2_copyFrom 3 24 [some (vR c), some (vR c2), some (vI (0))] [] (mw S I J R) Q := by
  obtain ⟨kc, rc0, rc1, rc2, rc3, rc4, rc5, rc6, rc7, _, _, _, ⟨kr, lr, hr⟩, ⟨kfi, lfi, hfi⟩, ⟨kp, lp, hpz⟩, ⟨kt, lt, htu⟩, kw, lw⟩ := hct
  obtain ⟨zc, zc0, zc1, zc2, zc3, zc4, zc5, zc6, zc7, _, _, _, ⟨zr, zlr, zhr⟩, ⟨zfi, zlfi, zhfi⟩, ⟨zp, zlp, zhpz⟩, ⟨zt, zlt, zhtu⟩, zw, zlw⟩ := hct2
  refine k_loop (σ := (Nat → Nat → Int32) × (Nat → Nat → Int64)) (n := 4) (Inv := fun i s => (∀ x j, (x < c + 14 ∨ c + 22 ≤ x) → s.1 x j = I x j) ∧ (∀ k, k < i → (∀ j, j < 100 → s.1 (c + 15 + 2 * k) j = I (c2 + 15 + 2 * k) j) ∧ ∀ j, 2 ≤ j → j ≤ 6 → s.1 (c + 14 + 2 * k) j = I (c2 + 14 + 2 * k) j) ∧ OffJ c J s.2) (W := fun i s => MW G mX2_copyFrom 3 24 [some (vR c), some (vR c2), some (vI (nI i))] [] (mw S s.1 s.2 R) _) ?_ ?_ 0 (I, J) (Nat.zero_le _) ⟨fun _ _ _ => rfl, fun k hk => absurd hk (Nat.not_lt_zero _), OffJ.rf⟩
  · rintro i ⟨I1, J1⟩ hi ⟨hI, hk, hJ⟩ ih
    dsimp only at hI hk hJ ih ⊢
    obtain ⟨r1, r2, r3, r4, r5⟩ := hr i hi
    obtain ⟨z1, z2, z3, z4, z5⟩ := zhr i hi
    have hcl : (nI i).toNatClampNeg = i := nI_clamp (by omega)
    have hin : vp_in (nI i) (S.ln (c + 9)) := by rw [lr]; exact vp_in_nI (by omega) (by decide)
    have hin2 : vp_in (nI i) (S.ln (c2 + 9)) := by rw [zlr]; exact vp_in_nI (by omega) (by decide)
    have hR : R (c + 9) (nI i).toNatClampNeg = some (c + 14 + 2 * i) := by rw [hcl]; exact r1
    have hR2 : R (c2 + 9) (nI i).toNatClampNeg = some (c2 + 14 + 2 * i) := by rw [hcl]; exact z1
    refine am_iload_n (q := 25) dX2_copyFrom_24 rfl rfl ?_
    refine am_aload_n (q := 26) dX2_copyFrom_25 rfl rfl ?_
    refine cm_getR (q := 29) dX2_copyFrom_26 flX2_34 rfl (by assumption) (by assumption) rfl ?_
    refine cm_alenK (q := 30) dX2_copyFrom_29 (by assumption) (by decide) (by rw [lr] : nI (S.ln (c + 9)) = nI 4) rfl ?_
    refine am_icmp_ge (tgt := 63) (q := 33) dX2_copyFrom_30 rfl rfl (fun hz => absurd hz (nI_ge (by omega) (by decide))) (fun _ => ?_)
    refine am_iload_n (q := 34) dX2_copyFrom_33 rfl rfl ?_
    refine am_aload_n (q := 35) dX2_copyFrom_34 rfl rfl ?_
    refine cm_getR (q := 38) dX2_copyFrom_35 flX2_34 rfl (by assumption) (by assumption) rfl ?_
    refine cm_alenK (q := 39) dX2_copyFrom_38 (by assumption) (by decide) (by rw [zlr] : nI (S.ln (c2 + 9)) = nI 4) rfl ?_
    refine am_icmp_ge (tgt := 63) (q := 42) dX2_copyFrom_39 rfl rfl (fun hz => absurd hz (nI_ge (by omega) (by decide))) (fun _ => ?_)
    refine am_aload_n (q := 43) dX2_copyFrom_42 rfl rfl ?_
    refine cm_getR (q := 46) dX2_copyFrom_43 flX2_34 rfl (by assumption) (by assumption) rfl ?_
    refine am_iload_n (q := 47) dX2_copyFrom_46 rfl rfl ?_
    refine cm_aaloadK (q := 48) dX2_copyFrom_47 (by assumption) (by decide) hin hR rfl ?_
    refine am_aload_n (q := 49) dX2_copyFrom_48 rfl rfl ?_
    refine cm_getR (q := 52) dX2_copyFrom_49 flX2_34 rfl (by assumption) (by assumption) rfl ?_
    refine am_iload_n (q := 53) dX2_copyFrom_52 rfl rfl ?_
    refine cm_aaloadK (q := 54) dX2_copyFrom_53 (by assumption) (by decide) hin2 hR2 rfl ?_
    refine cm_call0 (q := 57) (As := [_]) hG dX2_copyFrom_54 mlX2_109 rfl (by assumption) ⟨_, _, rfl⟩ (Nat.le_of_ble_eq_true rfl) (Nat.le_of_ble_eq_true rfl) (Nat.le_of_ble_eq_true rfl) (Nat.le_of_ble_eq_true rfl) (k_X6_copyFrom hG r2 r3 r4 r5 z2 z3 z4 z5 (by omega) (by omega) (by omega) (by omega) (by omega)) rfl ?_
    rintro _ _ ⟨rfl, rfl⟩
    refine am_iincW (q := 60) (ls1 := [_, _, _]) (w := 1) dX2_copyFrom_57 rfl (Nat.le_of_ble_eq_true rfl) kc_i1 rfl rfl ?_
    refine am_goto (tgt := 24) dX2_copyFrom_60 rfl ?_
    rw [nI_1]
    refine ih (_, _) ⟨fun x j q => ?_, fun k hk2 => ?_, hJ.up (by omega)⟩
    · show (if x = c + 15 + 2 * i ∧ j < 100 then _ else if x = c + 14 + 2 * i ∧ 2 ≤ j ∧ j ≤ 6 then _ else I1 x j) = I x j
      rw [if_neg (by omega), if_neg (by omega)]
      exact hI x j q
    · have o : ∀ x j, (x < c + 14 ∨ c + 22 ≤ x) → I1 x j = I x j := hI
      by_cases e : k = i
      · subst e
        refine ⟨fun j hj => ?_, fun j hj hj2 => ?_⟩
        · show (if _ ∧ _ then _ else _) = _
          rw [if_pos ⟨rfl, hj⟩]
          exact o _ _ (by omega)
        · show (if _ ∧ _ then _ else if _ ∧ _ then _ else _) = _
          rw [if_neg (by omega), if_pos ⟨rfl, hj, hj2⟩]
          exact o _ _ (by omega)
      · obtain ⟨q1, q2⟩ := hk k (by omega)
        refine ⟨fun j hj => ?_, fun j hj hj2 => ?_⟩
        · show (if _ ∧ _ then _ else if _ ∧ _ then _ else _) = _
          rw [if_neg (by omega), if_neg (by omega)]
          exact q1 j hj
        · show (if _ ∧ _ then _ else if _ ∧ _ then _ else _) = _
          rw [if_neg (by omega), if_neg (by omega)]
          exact q2 j hj hj2
  · rintro ⟨I1, J1⟩ ⟨hI, hk, hJ⟩
    dsimp only at hI hk hJ ⊢
    refine am_iload_n (q := 25) dX2_copyFrom_24 rfl rfl ?_
    refine am_aload_n (q := 26) dX2_copyFrom_25 rfl rfl ?_
    refine cm_getR (q := 29) dX2_copyFrom_26 flX2_34 rfl (by assumption) (by assumption) rfl ?_
    refine cm_alenK (q := 30) dX2_copyFrom_29 (by assumption) (by decide) (by rw [lr] : nI (S.ln (c + 9)) = nI 4) rfl ?_
    refine am_icmp_ge (tgt := 63) (q := 33) dX2_copyFrom_30 rfl rfl (fun _ => ?_) (fun hz => absurd (Int32.le_refl _) hz)
    exact hQ I1 J1 hI hk hJ
theorem k_cpFist (hG : okG G) (hct : CT S R c) (hct2 : CT S R c2) (hd : c + 58 ≤ c2 ∨ c2 + 58 ≤ c) (h9a : ∀ i, i < 8 → I (c2 + 22 + i) 9 = 0 ∨ I (c2 + 22 + i) 9 = 1)
    (hQ : ∀ I1 J1, (∀ x j, (x < c + 22 ∨ c + 30 ≤ x) → I1 x j = I x j) → (∀ k, k < 8 → ∀ j, 1 ≤ j → j ≤ 9 → I1 (c + 22 + k) j = I (c2 + 22 + k) j) → OffJ c J J1 → MW G mX2_copyFrom 3 104 [some (vR c), some (vR c2), some (vI (nI 8))] [] (mw S I1 J1 R) Q) : MW G mX2_copyFrom 3 65 [some (vR c), some (vR c2), some (vI (0))] [] (mw S I J R) Q := by
  obtain ⟨kc, rc0, rc1, rc2, rc3, rc4, rc5, rc6, rc7, _, _, _, ⟨kr, lr, hr⟩, ⟨kfi, lfi, hfi⟩, ⟨kp, lp, hpz⟩, ⟨kt, lt, htu⟩, kw, lw⟩ := hct
  obtain ⟨zc, zc0, zc1, zc2, zc3, zc4, zc5, zc6, zc7, _, _, _, ⟨zr, zlr, zhr⟩, ⟨zfi, zlfi, zhfi⟩, ⟨zp, zlp, zhpz⟩, ⟨zt, zlt, zhtu⟩, zw, zlw⟩ := hct2
  refine k_loop (σ := (Nat → Nat → Int32) × (Nat → Nat → Int64)) (n := 8) (Inv := fun i s => (∀ x j, (x < c + 22 ∨ c + 30 ≤ x) → s.1 x j = I x j) ∧ (∀ k, k < i → ∀ j, 1 ≤ j → j ≤ 9 → s.1 (c + 22 + k) j = I (c2 + 22 + k) j) ∧ OffJ c J s.2) (W := fun i s => MW G mX2_copyFrom 3 65 [some (vR c), some (vR c2), some (vI (nI i))] [] (mw S s.1 s.2 R) _) ?_ ?_ 0 (I, J) (Nat.zero_le _) ⟨fun _ _ _ => rfl, fun k hk => absurd hk (Nat.not_lt_zero _), OffJ.rf⟩
  · rintro i ⟨I1, J1⟩ hi ⟨hI, hk, hJ⟩ ih
    dsimp only at hI hk hJ ih ⊢
    obtain ⟨r1, r2⟩ := hfi i hi
    obtain ⟨z1, z2⟩ := zhfi i hi
    have hcl : (nI i).toNatClampNeg = i := nI_clamp (by omega)
    have hin : vp_in (nI i) (S.ln (c + 10)) := by rw [lfi]; exact vp_in_nI (by omega) (by decide)
    have hin2 : vp_in (nI i) (S.ln (c2 + 10)) := by rw [zlfi]; exact vp_in_nI (by omega) (by decide)
    have hR : R (c + 10) (nI i).toNatClampNeg = some (c + 22 + i) := by rw [hcl]; exact r1
    have hR2 : R (c2 + 10) (nI i).toNatClampNeg = some (c2 + 22 + i) := by rw [hcl]; exact z1
    have h9 : I1 (c2 + 22 + i) 9 = 0 ∨ I1 (c2 + 22 + i) 9 = 1 := by rw [hI _ _ (by omega)]; exact h9a i hi
    refine am_iload_n (q := 66) dX2_copyFrom_65 rfl rfl ?_
    refine am_aload_n (q := 67) dX2_copyFrom_66 rfl rfl ?_
    refine cm_getR (q := 70) dX2_copyFrom_67 flX2_40 rfl (by assumption) (by assumption) rfl ?_
    refine cm_alenK (q := 71) dX2_copyFrom_70 (by assumption) (by decide) (by rw [lfi] : nI (S.ln (c + 10)) = nI 8) rfl ?_
    refine am_icmp_ge (tgt := 104) (q := 74) dX2_copyFrom_71 rfl rfl (fun hz => absurd hz (nI_ge (by omega) (by decide))) (fun _ => ?_)
    refine am_iload_n (q := 75) dX2_copyFrom_74 rfl rfl ?_
    refine am_aload_n (q := 76) dX2_copyFrom_75 rfl rfl ?_
    refine cm_getR (q := 79) dX2_copyFrom_76 flX2_40 rfl (by assumption) (by assumption) rfl ?_
    refine cm_alenK (q := 80) dX2_copyFrom_79 (by assumption) (by decide) (by rw [zlfi] : nI (S.ln (c2 + 10)) = nI 8) rfl ?_
    refine am_icmp_ge (tgt := 104) (q := 83) dX2_copyFrom_80 rfl rfl (fun hz => absurd hz (nI_ge (by omega) (by decide))) (fun _ => ?_)
    refine am_aload_n (q := 84) dX2_copyFrom_83 rfl rfl ?_
    refine cm_getR (q := 87) dX2_copyFrom_84 flX2_40 rfl (by assumption) (by assumption) rfl ?_
    refine am_iload_n (q := 88) dX2_copyFrom_87 rfl rfl ?_
    refine cm_aaloadK (q := 89) dX2_copyFrom_88 (by assumption) (by decide) hin hR rfl ?_
    refine am_aload_n (q := 90) dX2_copyFrom_89 rfl rfl ?_
    refine cm_getR (q := 93) dX2_copyFrom_90 flX2_40 rfl (by assumption) (by assumption) rfl ?_
    refine am_iload_n (q := 94) dX2_copyFrom_93 rfl rfl ?_
    refine cm_aaloadK (q := 95) dX2_copyFrom_94 (by assumption) (by decide) hin2 hR2 rfl ?_
    refine cm_call0 (q := 98) (As := [_]) hG dX2_copyFrom_95 mlX2_112 rfl (by assumption) ⟨_, _, rfl⟩ (Nat.le_of_ble_eq_true rfl) (Nat.le_of_ble_eq_true rfl) (Nat.le_of_ble_eq_true rfl) (Nat.le_of_ble_eq_true rfl) (k_X3_copyFrom r2 z2 (by omega) h9) rfl ?_
    rintro _ _ ⟨rfl, rfl⟩
    refine am_iincW (q := 101) (ls1 := [_, _, _]) (w := 1) dX2_copyFrom_98 rfl (Nat.le_of_ble_eq_true rfl) kc_i1 rfl rfl ?_
    refine am_goto (tgt := 65) dX2_copyFrom_101 rfl ?_
    rw [nI_1]
    refine ih (_, _) ⟨fun x j q => ?_, fun k hk2 => ?_, hJ.up (by omega)⟩
    · show (if x = c + 22 + i ∧ 1 ≤ j ∧ j ≤ 9 then _ else I1 x j) = I x j
      rw [if_neg (by omega)]
      exact hI x j q
    · refine fun j hj hj2 => ?_
      by_cases e : k = i
      · subst e
        show (if _ ∧ _ then _ else _) = _
        rw [if_pos ⟨rfl, hj, hj2⟩]
        exact hI _ _ (by omega)
      · show (if _ ∧ _ then _ else _) = _
        rw [if_neg (by omega)]
        exact hk k (by omega) j hj hj2
  · rintro ⟨I1, J1⟩ ⟨hI, hk, hJ⟩
    dsimp only at hI hk hJ ⊢
    refine am_iload_n (q := 66) dX2_copyFrom_65 rfl rfl ?_
    refine am_aload_n (q := 67) dX2_copyFrom_66 rfl rfl ?_
    refine cm_getR (q := 70) dX2_copyFrom_67 flX2_40 rfl (by assumption) (by assumption) rfl ?_
    refine cm_alenK (q := 71) dX2_copyFrom_70 (by assumption) (by decide) (by rw [lfi] : nI (S.ln (c + 10)) = nI 8) rfl ?_
    refine am_icmp_ge (tgt := 104) (q := 74) dX2_copyFrom_71 rfl rfl (fun _ => ?_) (fun hz => absurd (Int32.le_refl _) hz)
    exact hQ I1 J1 hI hk hJ
theorem k_cpPrize (hG : okG G) (hct : CT S R c) (hct2 : CT S R c2) (hd : c + 58 ≤ c2 ∨ c2 + 58 ≤ c)
    (hQ : ∀ I1 J1, (∀ x j, (x < c + 30 ∨ c + 38 ≤ x) → I1 x j = I x j) → (∀ k, k < 8 → ∀ j, 1 ≤ j → j ≤ 5 → I1 (c + 30 + k) j = I (c2 + 30 + k) j) → OffJ c J J1 → MW G mX2_copyFrom 3 145 [some (vR c), some (vR c2), some (vI (nI 8))] [] (mw S I1 J1 R) Q) : MW G mX2_copyFrom 3 106 [some (vR c), some (vR c2), some (vI (0))] [] (mw S I J R) Q := by
  obtain ⟨kc, rc0, rc1, rc2, rc3, rc4, rc5, rc6, rc7, _, _, _, ⟨kr, lr, hr⟩, ⟨kfi, lfi, hfi⟩, ⟨kp, lp, hpz⟩, ⟨kt, lt, htu⟩, kw, lw⟩ := hct
  obtain ⟨zc, zc0, zc1, zc2, zc3, zc4, zc5, zc6, zc7, _, _, _, ⟨zr, zlr, zhr⟩, ⟨zfi, zlfi, zhfi⟩, ⟨zp, zlp, zhpz⟩, ⟨zt, zlt, zhtu⟩, zw, zlw⟩ := hct2
  refine k_loop (σ := (Nat → Nat → Int32) × (Nat → Nat → Int64)) (n := 8) (Inv := fun i s => (∀ x j, (x < c + 30 ∨ c + 38 ≤ x) → s.1 x j = I x j) ∧ (∀ k, k < i → ∀ j, 1 ≤ j → j ≤ 5 → s.1 (c + 30 + k) j = I (c2 + 30 + k) j) ∧ OffJ c J s.2) (W := fun i s => MW G mX2_copyFrom 3 106 [some (vR c), some (vR c2), some (vI (nI i))] [] (mw S s.1 s.2 R) _) ?_ ?_ 0 (I, J) (Nat.zero_le _) ⟨fun _ _ _ => rfl, fun k hk => absurd hk (Nat.not_lt_zero _), OffJ.rf⟩
  · rintro i ⟨I1, J1⟩ hi ⟨hI, hk, hJ⟩ ih
    dsimp only at hI hk hJ ih ⊢
    obtain ⟨r1, r2⟩ := hpz i hi
    obtain ⟨z1, z2⟩ := zhpz i hi
    have hcl : (nI i).toNatClampNeg = i := nI_clamp (by omega)
    have hin : vp_in (nI i) (S.ln (c + 11)) := by rw [lp]; exact vp_in_nI (by omega) (by decide)
    have hin2 : vp_in (nI i) (S.ln (c2 + 11)) := by rw [zlp]; exact vp_in_nI (by omega) (by decide)
    have hR : R (c + 11) (nI i).toNatClampNeg = some (c + 30 + i) := by rw [hcl]; exact r1
    have hR2 : R (c2 + 11) (nI i).toNatClampNeg = some (c2 + 30 + i) := by rw [hcl]; exact z1
    refine am_iload_n (q := 107) dX2_copyFrom_106 rfl rfl ?_
    refine am_aload_n (q := 108) dX2_copyFrom_107 rfl rfl ?_
    refine cm_getR (q := 111) dX2_copyFrom_108 flX2_46 rfl (by assumption) (by assumption) rfl ?_
    refine cm_alenK (q := 112) dX2_copyFrom_111 (by assumption) (by decide) (by rw [lp] : nI (S.ln (c + 11)) = nI 8) rfl ?_
    refine am_icmp_ge (tgt := 145) (q := 115) dX2_copyFrom_112 rfl rfl (fun hz => absurd hz (nI_ge (by omega) (by decide))) (fun _ => ?_)
    refine am_iload_n (q := 116) dX2_copyFrom_115 rfl rfl ?_
    refine am_aload_n (q := 117) dX2_copyFrom_116 rfl rfl ?_
    refine cm_getR (q := 120) dX2_copyFrom_117 flX2_46 rfl (by assumption) (by assumption) rfl ?_
    refine cm_alenK (q := 121) dX2_copyFrom_120 (by assumption) (by decide) (by rw [zlp] : nI (S.ln (c2 + 11)) = nI 8) rfl ?_
    refine am_icmp_ge (tgt := 145) (q := 124) dX2_copyFrom_121 rfl rfl (fun hz => absurd hz (nI_ge (by omega) (by decide))) (fun _ => ?_)
    refine am_aload_n (q := 125) dX2_copyFrom_124 rfl rfl ?_
    refine cm_getR (q := 128) dX2_copyFrom_125 flX2_46 rfl (by assumption) (by assumption) rfl ?_
    refine am_iload_n (q := 129) dX2_copyFrom_128 rfl rfl ?_
    refine cm_aaloadK (q := 130) dX2_copyFrom_129 (by assumption) (by decide) hin hR rfl ?_
    refine am_aload_n (q := 131) dX2_copyFrom_130 rfl rfl ?_
    refine cm_getR (q := 134) dX2_copyFrom_131 flX2_46 rfl (by assumption) (by assumption) rfl ?_
    refine am_iload_n (q := 135) dX2_copyFrom_134 rfl rfl ?_
    refine cm_aaloadK (q := 136) dX2_copyFrom_135 (by assumption) (by decide) hin2 hR2 rfl ?_
    refine cm_call0 (q := 139) (As := [_]) hG dX2_copyFrom_136 mlX2_115 rfl (by assumption) ⟨_, _, rfl⟩ (Nat.le_of_ble_eq_true rfl) (Nat.le_of_ble_eq_true rfl) (Nat.le_of_ble_eq_true rfl) (Nat.le_of_ble_eq_true rfl) (k_X5_copyFrom hG r2 z2 (by omega)) rfl ?_
    rintro _ _ ⟨rfl, rfl⟩
    refine am_iincW (q := 142) (ls1 := [_, _, _]) (w := 1) dX2_copyFrom_139 rfl (Nat.le_of_ble_eq_true rfl) kc_i1 rfl rfl ?_
    refine am_goto (tgt := 106) dX2_copyFrom_142 rfl ?_
    rw [nI_1]
    refine ih (_, _) ⟨fun x j q => ?_, fun k hk2 => ?_, hJ.up (by omega)⟩
    · show (if x = c + 30 + i ∧ 1 ≤ j ∧ j ≤ 5 then _ else I1 x j) = I x j
      rw [if_neg (by omega)]
      exact hI x j q
    · refine fun j hj hj2 => ?_
      by_cases e : k = i
      · subst e
        show (if _ ∧ _ then _ else _) = _
        rw [if_pos ⟨rfl, hj, hj2⟩]
        exact hI _ _ (by omega)
      · show (if _ ∧ _ then _ else _) = _
        rw [if_neg (by omega)]
        exact hk k (by omega) j hj hj2
  · rintro ⟨I1, J1⟩ ⟨hI, hk, hJ⟩
    dsimp only at hI hk hJ ⊢
    refine am_iload_n (q := 107) dX2_copyFrom_106 rfl rfl ?_
    refine am_aload_n (q := 108) dX2_copyFrom_107 rfl rfl ?_
    refine cm_getR (q := 111) dX2_copyFrom_108 flX2_46 rfl (by assumption) (by assumption) rfl ?_
    refine cm_alenK (q := 112) dX2_copyFrom_111 (by assumption) (by decide) (by rw [lp] : nI (S.ln (c + 11)) = nI 8) rfl ?_
    refine am_icmp_ge (tgt := 145) (q := 115) dX2_copyFrom_112 rfl rfl (fun _ => ?_) (fun hz => absurd (Int32.le_refl _) hz)
    exact hQ I1 J1 hI hk hJ
end CopyC
end
section
theorem dX2_copyFrom_0 : decode cX2_copyFrom 0 = .ok (.aload_n 0, 1) := by decide +kernel
theorem dX2_copyFrom_1 : decode cX2_copyFrom 1 = .ok (.getfield 12, 3) := by decide +kernel
theorem dX2_copyFrom_4 : decode cX2_copyFrom 4 = .ok (.aload_n 1, 1) := by decide +kernel
theorem dX2_copyFrom_5 : decode cX2_copyFrom 5 = .ok (.getfield 12, 3) := by decide +kernel
theorem dX2_copyFrom_8 : decode cX2_copyFrom 8 = .ok (.invokevirtual 102, 3) := by decide +kernel
theorem dX2_copyFrom_11 : decode cX2_copyFrom 11 = .ok (.aload_n 0, 1) := by decide +kernel
theorem dX2_copyFrom_12 : decode cX2_copyFrom 12 = .ok (.getfield 21, 3) := by decide +kernel
theorem dX2_copyFrom_15 : decode cX2_copyFrom 15 = .ok (.aload_n 1, 1) := by decide +kernel
theorem dX2_copyFrom_16 : decode cX2_copyFrom 16 = .ok (.getfield 21, 3) := by decide +kernel
theorem dX2_copyFrom_19 : decode cX2_copyFrom 19 = .ok (.invokevirtual 106, 3) := by decide +kernel
theorem dX2_copyFrom_22 : decode cX2_copyFrom 22 = .ok (.iconst 0, 1) := by decide +kernel
theorem dX2_copyFrom_23 : decode cX2_copyFrom 23 = .ok (.istore_n 2, 1) := by decide +kernel
theorem dX2_copyFrom_63 : decode cX2_copyFrom 63 = .ok (.iconst 0, 1) := by decide +kernel
theorem dX2_copyFrom_64 : decode cX2_copyFrom 64 = .ok (.istore_n 2, 1) := by decide +kernel
theorem dX2_copyFrom_104 : decode cX2_copyFrom 104 = .ok (.iconst 0, 1) := by decide +kernel
theorem dX2_copyFrom_105 : decode cX2_copyFrom 105 = .ok (.istore_n 2, 1) := by decide +kernel
theorem dX2_copyFrom_145 : decode cX2_copyFrom 145 = .ok (.iconst 0, 1) := by decide +kernel
theorem dX2_copyFrom_146 : decode cX2_copyFrom 146 = .ok (.istore_n 2, 1) := by decide +kernel
theorem dX2_copyFrom_147 : decode cX2_copyFrom 147 = .ok (.iload_n 2, 1) := by decide +kernel
theorem dX2_copyFrom_148 : decode cX2_copyFrom 148 = .ok (.aload_n 0, 1) := by decide +kernel
theorem dX2_copyFrom_149 : decode cX2_copyFrom 149 = .ok (.getfield 52, 3) := by decide +kernel
theorem dX2_copyFrom_152 : decode cX2_copyFrom 152 = .ok (.arraylength, 1) := by decide +kernel
theorem dX2_copyFrom_153 : decode cX2_copyFrom 153 = .ok (.if_icmp .ge 45, 3) := by decide +kernel
theorem dX2_copyFrom_156 : decode cX2_copyFrom 156 = .ok (.iload_n 2, 1) := by decide +kernel
theorem dX2_copyFrom_157 : decode cX2_copyFrom 157 = .ok (.aload_n 1, 1) := by decide +kernel
theorem dX2_copyFrom_158 : decode cX2_copyFrom 158 = .ok (.getfield 52, 3) := by decide +kernel
theorem dX2_copyFrom_161 : decode cX2_copyFrom 161 = .ok (.arraylength, 1) := by decide +kernel
theorem dX2_copyFrom_162 : decode cX2_copyFrom 162 = .ok (.if_icmp .ge 36, 3) := by decide +kernel
theorem dX2_copyFrom_165 : decode cX2_copyFrom 165 = .ok (.aload_n 0, 1) := by decide +kernel
theorem dX2_copyFrom_166 : decode cX2_copyFrom 166 = .ok (.getfield 52, 3) := by decide +kernel
theorem dX2_copyFrom_169 : decode cX2_copyFrom 169 = .ok (.iload_n 2, 1) := by decide +kernel
theorem dX2_copyFrom_170 : decode cX2_copyFrom 170 = .ok (.aaload, 1) := by decide +kernel
theorem dX2_copyFrom_171 : decode cX2_copyFrom 171 = .ok (.aload_n 1, 1) := by decide +kernel
theorem dX2_copyFrom_172 : decode cX2_copyFrom 172 = .ok (.getfield 52, 3) := by decide +kernel
theorem dX2_copyFrom_175 : decode cX2_copyFrom 175 = .ok (.iload_n 2, 1) := by decide +kernel
theorem dX2_copyFrom_176 : decode cX2_copyFrom 176 = .ok (.aaload, 1) := by decide +kernel
theorem dX2_copyFrom_177 : decode cX2_copyFrom 177 = .ok (.invokevirtual 118, 3) := by decide +kernel
theorem dX2_copyFrom_180 : decode cX2_copyFrom 180 = .ok (.aload_n 0, 1) := by decide +kernel
theorem dX2_copyFrom_181 : decode cX2_copyFrom 181 = .ok (.getfield 56, 3) := by decide +kernel
theorem dX2_copyFrom_184 : decode cX2_copyFrom 184 = .ok (.iload_n 2, 1) := by decide +kernel
theorem dX2_copyFrom_185 : decode cX2_copyFrom 185 = .ok (.aload_n 1, 1) := by decide +kernel
theorem dX2_copyFrom_186 : decode cX2_copyFrom 186 = .ok (.getfield 56, 3) := by decide +kernel
theorem dX2_copyFrom_189 : decode cX2_copyFrom 189 = .ok (.iload_n 2, 1) := by decide +kernel
theorem dX2_copyFrom_190 : decode cX2_copyFrom 190 = .ok (.iaload, 1) := by decide +kernel
theorem dX2_copyFrom_191 : decode cX2_copyFrom 191 = .ok (.iastore, 1) := by decide +kernel
theorem dX2_copyFrom_192 : decode cX2_copyFrom 192 = .ok (.iinc 2 1, 3) := by decide +kernel
theorem dX2_copyFrom_195 : decode cX2_copyFrom 195 = .ok (.goto (-48), 3) := by decide +kernel
theorem dX2_copyFrom_198 : decode cX2_copyFrom 198 = .ok (.aload_n 0, 1) := by decide +kernel
theorem dX2_copyFrom_199 : decode cX2_copyFrom 199 = .ok (.aload_n 1, 1) := by decide +kernel
theorem dX2_copyFrom_200 : decode cX2_copyFrom 200 = .ok (.invokevirtual 121, 3) := by decide +kernel
theorem dX2_copyFrom_203 : decode cX2_copyFrom 203 = .ok (.return_, 1) := by decide +kernel
theorem dX2_copyNumbers_0 : decode cX2_copyNumbers 0 = .ok (.aload_n 0, 1) := by decide +kernel
theorem dX2_copyNumbers_1 : decode cX2_copyNumbers 1 = .ok (.aload_n 1, 1) := by decide +kernel
theorem dX2_copyNumbers_2 : decode cX2_copyNumbers 2 = .ok (.getfield 69, 3) := by decide +kernel
theorem dX2_copyNumbers_5 : decode cX2_copyNumbers 5 = .ok (.putfield 69, 3) := by decide +kernel
theorem dX2_copyNumbers_8 : decode cX2_copyNumbers 8 = .ok (.aload_n 0, 1) := by decide +kernel
theorem dX2_copyNumbers_9 : decode cX2_copyNumbers 9 = .ok (.aload_n 1, 1) := by decide +kernel
theorem dX2_copyNumbers_10 : decode cX2_copyNumbers 10 = .ok (.getfield 72, 3) := by decide +kernel
theorem dX2_copyNumbers_13 : decode cX2_copyNumbers 13 = .ok (.putfield 72, 3) := by decide +kernel
theorem dX2_copyNumbers_16 : decode cX2_copyNumbers 16 = .ok (.aload_n 0, 1) := by decide +kernel
theorem dX2_copyNumbers_17 : decode cX2_copyNumbers 17 = .ok (.aload_n 1, 1) := by decide +kernel
theorem dX2_copyNumbers_18 : decode cX2_copyNumbers 18 = .ok (.getfield 75, 3) := by decide +kernel
theorem dX2_copyNumbers_21 : decode cX2_copyNumbers 21 = .ok (.putfield 75, 3) := by decide +kernel
theorem dX2_copyNumbers_24 : decode cX2_copyNumbers 24 = .ok (.aload_n 0, 1) := by decide +kernel
theorem dX2_copyNumbers_25 : decode cX2_copyNumbers 25 = .ok (.aload_n 1, 1) := by decide +kernel
theorem dX2_copyNumbers_26 : decode cX2_copyNumbers 26 = .ok (.getfield 78, 3) := by decide +kernel
theorem dX2_copyNumbers_29 : decode cX2_copyNumbers 29 = .ok (.putfield 78, 3) := by decide +kernel
theorem dX2_copyNumbers_32 : decode cX2_copyNumbers 32 = .ok (.aload_n 0, 1) := by decide +kernel
theorem dX2_copyNumbers_33 : decode cX2_copyNumbers 33 = .ok (.aload_n 1, 1) := by decide +kernel
theorem dX2_copyNumbers_34 : decode cX2_copyNumbers 34 = .ok (.getfield 81, 3) := by decide +kernel
theorem dX2_copyNumbers_37 : decode cX2_copyNumbers 37 = .ok (.putfield 81, 3) := by decide +kernel
theorem dX2_copyNumbers_40 : decode cX2_copyNumbers 40 = .ok (.aload_n 0, 1) := by decide +kernel
theorem dX2_copyNumbers_41 : decode cX2_copyNumbers 41 = .ok (.aload_n 1, 1) := by decide +kernel
theorem dX2_copyNumbers_42 : decode cX2_copyNumbers 42 = .ok (.getfield 84, 3) := by decide +kernel
theorem dX2_copyNumbers_45 : decode cX2_copyNumbers 45 = .ok (.putfield 84, 3) := by decide +kernel
theorem dX2_copyNumbers_48 : decode cX2_copyNumbers 48 = .ok (.aload_n 0, 1) := by decide +kernel
theorem dX2_copyNumbers_49 : decode cX2_copyNumbers 49 = .ok (.aload_n 1, 1) := by decide +kernel
theorem dX2_copyNumbers_50 : decode cX2_copyNumbers 50 = .ok (.getfield 87, 3) := by decide +kernel
theorem dX2_copyNumbers_53 : decode cX2_copyNumbers 53 = .ok (.putfield 87, 3) := by decide +kernel
theorem dX2_copyNumbers_56 : decode cX2_copyNumbers 56 = .ok (.aload_n 0, 1) := by decide +kernel
theorem dX2_copyNumbers_57 : decode cX2_copyNumbers 57 = .ok (.aload_n 1, 1) := by decide +kernel
theorem dX2_copyNumbers_58 : decode cX2_copyNumbers 58 = .ok (.getfield 90, 3) := by decide +kernel
theorem dX2_copyNumbers_61 : decode cX2_copyNumbers 61 = .ok (.putfield 90, 3) := by decide +kernel
theorem dX2_copyNumbers_64 : decode cX2_copyNumbers 64 = .ok (.aload_n 0, 1) := by decide +kernel
theorem dX2_copyNumbers_65 : decode cX2_copyNumbers 65 = .ok (.aload_n 1, 1) := by decide +kernel
theorem dX2_copyNumbers_66 : decode cX2_copyNumbers 66 = .ok (.getfield 93, 3) := by decide +kernel
theorem dX2_copyNumbers_69 : decode cX2_copyNumbers 69 = .ok (.putfield 93, 3) := by decide +kernel
theorem dX2_copyNumbers_72 : decode cX2_copyNumbers 72 = .ok (.aload_n 0, 1) := by decide +kernel
theorem dX2_copyNumbers_73 : decode cX2_copyNumbers 73 = .ok (.aload_n 1, 1) := by decide +kernel
theorem dX2_copyNumbers_74 : decode cX2_copyNumbers 74 = .ok (.getfield 96, 3) := by decide +kernel
theorem dX2_copyNumbers_77 : decode cX2_copyNumbers 77 = .ok (.putfield 96, 3) := by decide +kernel
theorem dX2_copyNumbers_80 : decode cX2_copyNumbers 80 = .ok (.aload_n 0, 1) := by decide +kernel
theorem dX2_copyNumbers_81 : decode cX2_copyNumbers 81 = .ok (.aload_n 1, 1) := by decide +kernel
theorem dX2_copyNumbers_82 : decode cX2_copyNumbers 82 = .ok (.getfield 99, 3) := by decide +kernel
theorem dX2_copyNumbers_85 : decode cX2_copyNumbers 85 = .ok (.putfield 99, 3) := by decide +kernel
theorem dX2_copyNumbers_88 : decode cX2_copyNumbers 88 = .ok (.return_, 1) := by decide +kernel
/-! numbers, turns, a whole contest is copied -/
section CopyD
variable {G : Gp} {S : AMem} {I : Nat → Nat → Int32} {J : Nat → Nat → Int64} {R : Nat → Nat → Option Nat} {c c2 : Nat} {B : BS} {m : MS} {Q : (Option AV ⊕ Nat) → AMem → Prop}
theorem k_X2_copyNumbers (h1 : S.K c = 3) (h2 : S.K c2 = 3) (hne : c2 ≠ c) : Fn G mX2_copyNumbers 0 [vR c, vR c2] (mw S I J R) (fun rr M1 => rr = none ∧ M1 = mw S (fun x j => if x = c ∧ 8 ≤ j ∧ j ≤ 18 then I c2 j else I x j) J R) := by
  refine am_aload_n (q := 1) dX2_copyNumbers_0 rfl rfl ?_
  refine am_aload_n (q := 2) dX2_copyNumbers_1 rfl rfl ?_
  refine cm_getI (q := 5) dX2_copyNumbers_2 flX2_69 rfl (by assumption) rfl ?_
  refine cm_putI (q := 8) dX2_copyNumbers_5 flX2_69 rfl (Or.inl rfl) (Or.inl rfl) (by assumption) rfl ?_
  refine am_aload_n (q := 9) dX2_copyNumbers_8 rfl rfl ?_
  refine am_aload_n (q := 10) dX2_copyNumbers_9 rfl rfl ?_
  refine cm_getI (q := 13) dX2_copyNumbers_10 flX2_72 rfl (by assumption) rfl ?_
  rw [up2_a hne]
  refine cm_putI (q := 16) dX2_copyNumbers_13 flX2_72 rfl (Or.inl rfl) (Or.inl rfl) (by assumption) rfl ?_
  refine am_aload_n (q := 17) dX2_copyNumbers_16 rfl rfl ?_
  refine am_aload_n (q := 18) dX2_copyNumbers_17 rfl rfl ?_
  refine cm_getI (q := 21) dX2_copyNumbers_18 flX2_75 rfl (by assumption) rfl ?_
  rw [up2_a hne, up2_a hne]
  refine cm_putI (q := 24) dX2_copyNumbers_21 flX2_75 rfl (Or.inl rfl) (Or.inl rfl) (by assumption) rfl ?_
  refine am_aload_n (q := 25) dX2_copyNumbers_24 rfl rfl ?_
  refine am_aload_n (q := 26) dX2_copyNumbers_25 rfl rfl ?_
  refine cm_getI (q := 29) dX2_copyNumbers_26 flX2_78 rfl (by assumption) rfl ?_
  rw [up2_a hne, up2_a hne, up2_a hne]
  refine cm_putI (q := 32) dX2_copyNumbers_29 flX2_78 rfl (Or.inl rfl) (Or.inl rfl) (by assumption) rfl ?_
  refine am_aload_n (q := 33) dX2_copyNumbers_32 rfl rfl ?_
  refine am_aload_n (q := 34) dX2_copyNumbers_33 rfl rfl ?_
  refine cm_getI (q := 37) dX2_copyNumbers_34 flX2_81 rfl (by assumption) rfl ?_
  rw [up2_a hne, up2_a hne, up2_a hne, up2_a hne]
  refine cm_putI (q := 40) dX2_copyNumbers_37 flX2_81 rfl (Or.inl rfl) (Or.inl rfl) (by assumption) rfl ?_
  refine am_aload_n (q := 41) dX2_copyNumbers_40 rfl rfl ?_
  refine am_aload_n (q := 42) dX2_copyNumbers_41 rfl rfl ?_
  refine cm_getI (q := 45) dX2_copyNumbers_42 flX2_84 rfl (by assumption) rfl ?_
  rw [up2_a hne, up2_a hne, up2_a hne, up2_a hne, up2_a hne]
  refine cm_putI (q := 48) dX2_copyNumbers_45 flX2_84 rfl (Or.inl rfl) (Or.inl rfl) (by assumption) rfl ?_
  refine am_aload_n (q := 49) dX2_copyNumbers_48 rfl rfl ?_
  refine am_aload_n (q := 50) dX2_copyNumbers_49 rfl rfl ?_
  refine cm_getI (q := 53) dX2_copyNumbers_50 flX2_87 rfl (by assumption) rfl ?_
  rw [up2_a hne, up2_a hne, up2_a hne, up2_a hne, up2_a hne, up2_a hne]
  refine cm_putI (q := 56) dX2_copyNumbers_53 flX2_87 rfl (Or.inl rfl) (Or.inl rfl) (by assumption) rfl ?_
  refine am_aload_n (q := 57) dX2_copyNumbers_56 rfl rfl ?_
  refine am_aload_n (q := 58) dX2_copyNumbers_57 rfl rfl ?_
  refine cm_getI (q := 61) dX2_copyNumbers_58 flX2_90 rfl (by assumption) rfl ?_
  rw [up2_a hne, up2_a hne, up2_a hne, up2_a hne, up2_a hne, up2_a hne, up2_a hne]
  refine cm_putI (q := 64) dX2_copyNumbers_61 flX2_90 rfl (Or.inl rfl) (Or.inl rfl) (by assumption) rfl ?_
  refine am_aload_n (q := 65) dX2_copyNumbers_64 rfl rfl ?_
  refine am_aload_n (q := 66) dX2_copyNumbers_65 rfl rfl ?_
  refine cm_getI (q := 69) dX2_copyNumbers_66 flX2_93 rfl (by assumption) rfl ?_
  rw [up2_a hne, up2_a hne, up2_a hne, up2_a hne, up2_a hne, up2_a hne, up2_a hne, up2_a hne]
  refine cm_putI (q := 72) dX2_copyNumbers_69 flX2_93 rfl (Or.inl rfl) (Or.inl rfl) (by assumption) rfl ?_
  refine am_aload_n (q := 73) dX2_copyNumbers_72 rfl rfl ?_
  refine am_aload_n (q := 74) dX2_copyNumbers_73 rfl rfl ?_
  refine cm_getI (q := 77) dX2_copyNumbers_74 flX2_96 rfl (by assumption) rfl ?_
  rw [up2_a hne, up2_a hne, up2_a hne, up2_a hne, up2_a hne, up2_a hne, up2_a hne, up2_a hne, up2_a hne]
  refine cm_putI (q := 80) dX2_copyNumbers_77 flX2_96 rfl (Or.inl rfl) (Or.inl rfl) (by assumption) rfl ?_
  refine am_aload_n (q := 81) dX2_copyNumbers_80 rfl rfl ?_
  refine am_aload_n (q := 82) dX2_copyNumbers_81 rfl rfl ?_
  refine cm_getI (q := 85) dX2_copyNumbers_82 flX2_99 rfl (by assumption) rfl ?_
  rw [up2_a hne, up2_a hne, up2_a hne, up2_a hne, up2_a hne, up2_a hne, up2_a hne, up2_a hne, up2_a hne, up2_a hne]
  refine cm_putI (q := 88) dX2_copyNumbers_85 flX2_99 rfl (Or.inl rfl) (Or.inl rfl) (by assumption) rfl ?_
  exact am_ret dX2_copyNumbers_88 rfl ⟨_, rfl, rfl, by
    congr 1
    funext x j
    by_cases e : x = c ∧ 8 ≤ j ∧ j ≤ 18
    · rw [if_pos e]
      obtain ⟨rfl, e1, e2⟩ := e
      have e3 : j = 8 ∨ j = 9 ∨ j = 10 ∨ j = 11 ∨ j = 12 ∨ j = 13 ∨ j = 14 ∨ j = 15 ∨ j = 16 ∨ j = 17 ∨ j = 18 := by omega
      simp only [up2_at]
      rcases e3 with rfl | rfl | rfl | rfl | rfl | rfl | rfl | rfl | rfl | rfl | rfl <;> simp
    · rw [if_neg e]
      simp only [up2_at]
      grind (splits := 30)⟩
theorem k_cpTurn (hG : okG G) (hct : CT S R c) (hct2 : CT S R c2) (hd : c + 58 ≤ c2 ∨ c2 + 58 ≤ c)
    (hQ : ∀ I1, (∀ x j, (x < c + 38 ∨ c + 58 ≤ x) → x ≠ c + 13 → I1 x j = I x j) → (∀ k, k < 20 → (∀ j, j ≤ 3 → I1 (c + 38 + k) j = I (c2 + 38 + k) j) ∧ I1 (c + 13) k = I (c2 + 13) k) → MW G mX2_copyFrom 3 198 [some (vR c), some (vR c2), some (vI (nI 20))] [] (mw S I1 J R) Q) : MW G mX2_copyFrom 3 147 [some (vR c), some (vR c2), some (vI (0))] [] (mw S I J R) Q := by
  obtain ⟨kc, rc0, rc1, rc2, rc3, rc4, rc5, rc6, rc7, _, _, _, ⟨kr, lr, hr⟩, ⟨kfi, lfi, hfi⟩, ⟨kp, lp, hpz⟩, ⟨kt, lt, htu⟩, kw, lw⟩ := hct
  obtain ⟨zc, zc0, zc1, zc2, zc3, zc4, zc5, zc6, zc7, _, _, _, ⟨zr, zlr, zhr⟩, ⟨zfi, zlfi, zhfi⟩, ⟨zp, zlp, zhpz⟩, ⟨zt, zlt, zhtu⟩, zw, zlw⟩ := hct2
  refine k_loop (σ := Nat → Nat → Int32) (n := 20) (Inv := fun i I1 => (∀ x j, (x < c + 38 ∨ c + 58 ≤ x) → x ≠ c + 13 → I1 x j = I x j) ∧ (∀ k, k < i → (∀ j, j ≤ 3 → I1 (c + 38 + k) j = I (c2 + 38 + k) j) ∧ I1 (c + 13) k = I (c2 + 13) k)) (W := fun i I1 => MW G mX2_copyFrom 3 147 [some (vR c), some (vR c2), some (vI (nI i))] [] (mw S I1 J R) _) ?_ ?_ 0 I (Nat.zero_le _) ⟨fun _ _ _ _ => rfl, fun k hk => absurd hk (Nat.not_lt_zero _)⟩
  · rintro i I1 hi ⟨hI, hk⟩ ih
    obtain ⟨r1, r2⟩ := htu i hi
    obtain ⟨z1, z2⟩ := zhtu i hi
    have hcl : (nI i).toNatClampNeg = i := nI_clamp (by omega)
    have hin : vp_in (nI i) (S.ln (c + 12)) := by rw [lt]; exact vp_in_nI (by omega) (by decide)
    have hin2 : vp_in (nI i) (S.ln (c2 + 12)) := by rw [zlt]; exact vp_in_nI (by omega) (by decide)
    have hin3 : vp_in (nI i) (S.ln (c + 13)) := by rw [lw]; exact vp_in_nI (by omega) (by decide)
    have hin4 : vp_in (nI i) (S.ln (c2 + 13)) := by rw [zlw]; exact vp_in_nI (by omega) (by decide)
    have hR : R (c + 12) (nI i).toNatClampNeg = some (c + 38 + i) := by rw [hcl]; exact r1
    have hR2 : R (c2 + 12) (nI i).toNatClampNeg = some (c2 + 38 + i) := by rw [hcl]; exact z1
    refine am_iload_n (q := 148) dX2_copyFrom_147 rfl rfl ?_
    refine am_aload_n (q := 149) dX2_copyFrom_148 rfl rfl ?_
    refine cm_getR (q := 152) dX2_copyFrom_149 flX2_52 rfl (by assumption) (by assumption) rfl ?_
    refine cm_alenK (q := 153) dX2_copyFrom_152 (by assumption) (by decide) (by rw [lt] : nI (S.ln (c + 12)) = nI 20) rfl ?_
    refine am_icmp_ge (tgt := 198) (q := 156) dX2_copyFrom_153 rfl rfl (fun hz => absurd hz (nI_ge (by omega) (by decide))) (fun _ => ?_)
    refine am_iload_n (q := 157) dX2_copyFrom_156 rfl rfl ?_
    refine am_aload_n (q := 158) dX2_copyFrom_157 rfl rfl ?_
    refine cm_getR (q := 161) dX2_copyFrom_158 flX2_52 rfl (by assumption) (by assumption) rfl ?_
    refine cm_alenK (q := 162) dX2_copyFrom_161 (by assumption) (by decide) (by rw [zlt] : nI (S.ln (c2 + 12)) = nI 20) rfl ?_
    refine am_icmp_ge (tgt := 198) (q := 165) dX2_copyFrom_162 rfl rfl (fun hz => absurd hz (nI_ge (by omega) (by decide))) (fun _ => ?_)
    refine am_aload_n (q := 166) dX2_copyFrom_165 rfl rfl ?_
    refine cm_getR (q := 169) dX2_copyFrom_166 flX2_52 rfl (by assumption) (by assumption) rfl ?_
    refine am_iload_n (q := 170) dX2_copyFrom_169 rfl rfl ?_
    refine cm_aaloadK (q := 171) dX2_copyFrom_170 (by assumption) (by decide) hin hR rfl ?_
    refine am_aload_n (q := 172) dX2_copyFrom_171 rfl rfl ?_
    refine cm_getR (q := 175) dX2_copyFrom_172 flX2_52 rfl (by assumption) (by assumption) rfl ?_
    refine am_iload_n (q := 176) dX2_copyFrom_175 rfl rfl ?_
    refine cm_aaloadK (q := 177) dX2_copyFrom_176 (by assumption) (by decide) hin2 hR2 rfl ?_
    refine cm_call0 (q := 180) (As := [_]) hG dX2_copyFrom_177 mlX2_118 rfl (by assumption) ⟨_, _, rfl⟩ (Nat.le_of_ble_eq_true rfl) (Nat.le_of_ble_eq_true rfl) (Nat.le_of_ble_eq_true rfl) (Nat.le_of_ble_eq_true rfl) (k_X10_copyFrom hG r2 z2) rfl ?_
    rintro _ _ ⟨rfl, rfl⟩
    refine k_nm (P := fun I6 => MW G mX2_copyFrom 3 180 _ _ (mw S I6 J R) _) _ ?_
    intro I6 hI6
    refine am_aload_n (q := 181) dX2_copyFrom_180 rfl rfl ?_
    refine cm_getR (q := 184) dX2_copyFrom_181 flX2_56 rfl (by assumption) (by assumption) rfl ?_
    refine am_iload_n (q := 185) dX2_copyFrom_184 rfl rfl ?_
    refine am_aload_n (q := 186) dX2_copyFrom_185 rfl rfl ?_
    refine cm_getR (q := 189) dX2_copyFrom_186 flX2_56 rfl (by assumption) (by assumption) rfl ?_
    refine am_iload_n (q := 190) dX2_copyFrom_189 rfl rfl ?_
    refine cm_iaload (q := 191) dX2_copyFrom_190 (by assumption) hin4 rfl ?_
    rw [hcl]
    refine cm_iastore (q := 192) dX2_copyFrom_191 (by assumption) hin3 rfl ?_
    refine am_iincW (q := 195) (ls1 := [_, _, _]) (w := 1) dX2_copyFrom_192 rfl (Nat.le_of_ble_eq_true rfl) kc_i1 rfl rfl ?_
    refine am_goto (tgt := 147) dX2_copyFrom_195 rfl ?_
    rw [nI_1, hcl]
    have e0 : I6 (c2 + 13) i = I (c2 + 13) i := by rw [hI6, if_neg (by omega)]; exact hI _ _ (by omega) (by omega)
    rw [e0]
    refine ih _ ⟨fun x j q q2 => ?_, fun k hk2 => ⟨fun j hj => ?_, ?_⟩⟩
    · rw [up2_a q2, hI6, if_neg (by omega)]
      exact hI x j q q2
    · rw [up2_a (by omega), hI6]
      by_cases e : k = i
      · subst e
        rw [if_pos ⟨rfl, hj⟩]
        exact hI _ _ (by omega) (by omega)
      · rw [if_neg (by omega)]
        exact (hk k (by omega)).1 j hj
    · rw [up2_at]
      by_cases e : k = i
      · rw [if_pos ⟨rfl, e⟩, e]
      · rw [if_neg (fun q => e q.2), hI6, if_neg (by omega)]
        exact (hk k (by omega)).2
  · rintro I1 ⟨hI, hk⟩
    refine am_iload_n (q := 148) dX2_copyFrom_147 rfl rfl ?_
    refine am_aload_n (q := 149) dX2_copyFrom_148 rfl rfl ?_
    refine cm_getR (q := 152) dX2_copyFrom_149 flX2_52 rfl (by assumption) (by assumption) rfl ?_
    refine cm_alenK (q := 153) dX2_copyFrom_152 (by assumption) (by decide) (by rw [lt] : nI (S.ln (c + 12)) = nI 20) rfl ?_
    refine am_icmp_ge (tgt := 198) (q := 156) dX2_copyFrom_153 rfl rfl (fun _ => ?_) (fun hz => absurd (Int32.le_refl _) hz)
    exact hQ I1 hI hk
theorem k_X2_copyFrom (hG : okG G) (hct : CT S R c) (hct2 : CT S R c2) (hd : c + 58 ≤ c2 ∨ c2 + 58 ≤ c) (hB : AbB I c2 B) (hm : AbM I c2 B m) : Fn G mX2_copyFrom 3 [vR c, vR c2] (mw S I J R) (fun rr M1 => rr = none ∧ ∃ I1 J1, M1 = mw S I1 J1 R ∧ AbB I1 c B ∧ AbM I1 c B m ∧ OffC c I I1 ∧ OffJ c J J1) := by
  obtain ⟨⟨a1, a2⟩, ⟨a3, a4⟩, ⟨a5, a6⟩, ⟨a7, a8⟩, b1, b2, z, b3, b4, b5, b6⟩ := hB
  obtain ⟨m1, m2, m3, m4, m5, m6, m7, m8, m9, m10, m11⟩ := hm
  have hct3 := hct
  have hct4 := hct2
  obtain ⟨kc, rc0, rc1, rc2, rc3, rc4, rc5, rc6, rc7, ⟨kd, rd0, rd1, rd2, kd2, ld2, kd3, ld3, kd4, ld4⟩, ⟨kb, rb, kb6, lb6⟩, _⟩ := hct3
  obtain ⟨zc, zc0, zc1, zc2, zc3, zc4, zc5, zc6, zc7, ⟨zd, zd0, zd1, zd2, zd2k, zd2l, zd3k, zd3l, zd4k, zd4l⟩, ⟨zb, zrb, zb6, zlb6⟩, _⟩ := hct4
  have n1 : c ≠ c + 1 ∧ c + 2 ≠ c + 3 := by omega
  refine am_aload_n (q := 1) dX2_copyFrom_0 rfl rfl ?_
  refine cm_getR (q := 4) dX2_copyFrom_1 flX2_12 rfl (by assumption) (by assumption) rfl ?_
  refine am_aload_n (q := 5) dX2_copyFrom_4 rfl rfl ?_
  refine cm_getR (q := 8) dX2_copyFrom_5 flX2_12 rfl (by assumption) (by assumption) rfl ?_
  refine cm_call0 (q := 11) (As := [_]) hG dX2_copyFrom_8 mlX2_102 rfl (by assumption) ⟨_, _, rfl⟩ (Nat.le_of_ble_eq_true rfl) (Nat.le_of_ble_eq_true rfl) (Nat.le_of_ble_eq_true rfl) (Nat.le_of_ble_eq_true rfl) (k_X1_copyFrom hG kd rd0 kd2 ld2 rd1 kd3 ld3 (by omega) zd zd0 zd2k zd2l zd1 zd3k zd3l (by omega) (by omega) (by omega) (by omega) (by omega) b3 b4) rfl ?_
  rintro _ _ ⟨rfl, I1, rfl, hI1⟩
  refine am_aload_n (q := 12) dX2_copyFrom_11 rfl rfl ?_
  refine cm_getR (q := 15) dX2_copyFrom_12 flX2_21 rfl (by assumption) (by assumption) rfl ?_
  refine am_aload_n (q := 16) dX2_copyFrom_15 rfl rfl ?_
  refine cm_getR (q := 19) dX2_copyFrom_16 flX2_21 rfl (by assumption) (by assumption) rfl ?_
  refine cm_call0 (q := 22) (As := [_]) hG dX2_copyFrom_19 mlX2_106 rfl (by assumption) ⟨_, _, rfl⟩ (Nat.le_of_ble_eq_true rfl) (Nat.le_of_ble_eq_true rfl) (Nat.le_of_ble_eq_true rfl) (Nat.le_of_ble_eq_true rfl) (k_X0_copyFrom hG kb rb kb6 lb6 zb zrb zb6 zlb6 (by omega) (by omega) (by omega) (by omega) (by omega)) rfl ?_
  rintro _ _ ⟨rfl, rfl⟩
  refine am_iconst (q := 23) (v := 0) dX2_copyFrom_22 kc_i0 rfl ?_
  refine am_istore_n (q := 24) (ls1 := [_, _, _]) dX2_copyFrom_23 (Nat.le_of_ble_eq_true rfl) rfl rfl ?_
  refine k_nm (P := fun I2 => MW G mX2_copyFrom 3 24 _ _ (mw S I2 J R) _) _ ?_
  intro I2 hI2
  have o1 : ∀ x j, (x < c + 1 ∨ c + 4 ≤ x) → I1 x j = I x j := fun x j q => by rw [hI1, if_neg (by omega), if_neg (by omega), if_neg (by omega)]
  have o2 : ∀ x j, (x < c + 5 ∨ c + 7 ≤ x) → I2 x j = I1 x j := fun x j q => by rw [hI2, if_neg (by omega), if_neg (by omega)]
  refine k_cpRail hG hct hct2 hd ?_
  intro I3 J3 o3 f3 j3
  refine am_iconst (q := 64) (v := 0) dX2_copyFrom_63 kc_i0 rfl ?_
  refine am_istore_n (q := 65) (ls1 := [_, _, _]) dX2_copyFrom_64 (Nat.le_of_ble_eq_true rfl) rfl rfl ?_
  have h9a : ∀ i, i < 8 → I3 (c2 + 22 + i) 9 = 0 ∨ I3 (c2 + 22 + i) 9 = 1 := fun i hi => by
    rw [o3 _ _ (by omega), o2 _ _ (by omega), o1 _ _ (by omega)]
    exact m11 i hi
  refine k_cpFist hG hct hct2 hd h9a ?_
  intro I4 J4 o4 f4 j4
  refine am_iconst (q := 105) (v := 0) dX2_copyFrom_104 kc_i0 rfl ?_
  refine am_istore_n (q := 106) (ls1 := [_, _, _]) dX2_copyFrom_105 (Nat.le_of_ble_eq_true rfl) rfl rfl ?_
  refine k_cpPrize hG hct hct2 hd ?_
  intro I5 J5 o5 f5 j5
  refine am_iconst (q := 146) (v := 0) dX2_copyFrom_145 kc_i0 rfl ?_
  refine am_istore_n (q := 147) (ls1 := [_, _, _]) dX2_copyFrom_146 (Nat.le_of_ble_eq_true rfl) rfl rfl ?_
  refine k_cpTurn hG hct hct2 hd ?_
  intro I6 o6 f6
  refine am_aload_n (q := 199) dX2_copyFrom_198 rfl rfl ?_
  refine am_aload_n (q := 200) dX2_copyFrom_199 rfl rfl ?_
  refine cm_call0 (q := 203) (As := [_]) hG dX2_copyFrom_200 mlX2_121 rfl (by assumption) ⟨_, _, rfl⟩ (Nat.le_of_ble_eq_true rfl) (Nat.le_of_ble_eq_true rfl) (Nat.le_of_ble_eq_true rfl) (Nat.le_of_ble_eq_true rfl) (k_X2_copyNumbers kc zc (by omega)) rfl ?_
  rintro _ _ ⟨rfl, rfl⟩
  refine k_nm (P := fun I7 => MW G mX2_copyFrom 3 203 _ _ (mw S I7 J5 R) _) _ ?_
  intro I7 hI7
  have o7 : ∀ x j, x ≠ c → I7 x j = I6 x j := fun x j q => by rw [hI7, if_neg (fun z => q z.1)]
  -- each of the cells
  have gn : ∀ j, 8 ≤ j → j ≤ 18 → I7 c j = I c2 j := fun j q1 q2 => by
    rw [hI7, if_pos ⟨rfl, q1, q2⟩, o6 _ _ (by omega) (by omega), o5 _ _ (by omega), o4 _ _ (by omega), o3 _ _ (by omega), o2 _ _ (by omega), o1 _ _ (by omega)]
  have gk : ∀ j, j < z → I7 (c + 2) j = I (c2 + 2) j := fun j q => by
    rw [o7 _ _ (by omega), o6 _ _ (by omega) (by omega), o5 _ _ (by omega), o4 _ _ (by omega), o3 _ _ (by omega), o2 _ _ (by omega), hI1, if_pos ⟨rfl, q⟩]
  have ga : ∀ j, j < z → I7 (c + 3) j = I (c2 + 3) j := fun j q => by
    rw [o7 _ _ (by omega), o6 _ _ (by omega) (by omega), o5 _ _ (by omega), o4 _ _ (by omega), o3 _ _ (by omega), o2 _ _ (by omega), hI1, if_neg (by omega), if_pos ⟨rfl, q⟩]
  have gz : I7 (c + 1) 4 = nI z := by
    rw [o7 _ _ (by omega), o6 _ _ (by omega) (by omega), o5 _ _ (by omega), o4 _ _ (by omega), o3 _ _ (by omega), o2 _ _ (by omega), hI1, if_neg (by omega), if_neg (by omega), if_pos ⟨rfl, rfl⟩]
  have gb1 : I7 (c + 5) 1 = nI m.nb := by
    rw [o7 _ _ (by omega), o6 _ _ (by omega) (by omega), o5 _ _ (by omega), o4 _ _ (by omega), o3 _ _ (by omega), hI2, if_neg (by omega), if_pos ⟨rfl, rfl⟩, o1 _ _ (by omega)]
    exact m8
  have gb : ∀ k, k < m.nb → I7 (c + 6) k = m.bd k := fun k q => by
    rw [o7 _ _ (by omega), o6 _ _ (by omega) (by omega), o5 _ _ (by omega), o4 _ _ (by omega), o3 _ _ (by omega), hI2, if_pos ⟨rfl, by omega⟩, o1 (c2 + 5) _ (by omega), o1 (c2 + 6) _ (by omega), m8, if_pos (k_inr q (by omega)).2]
    exact m7 k q
  have gru : ∀ i, i < 4 → ∀ j, j < 100 → I7 (c + 15 + 2 * i) j = I (c2 + 15 + 2 * i) j := fun i hi j hj => by
    rw [o7 _ _ (by omega), o6 _ _ (by omega) (by omega), o5 _ _ (by omega), o4 _ _ (by omega), (f3 i hi).1 j hj, o2 _ _ (by omega), o1 _ _ (by omega)]
  have gra : ∀ i, i < 4 → ∀ j, 2 ≤ j → j ≤ 6 → I7 (c + 14 + 2 * i) j = I (c2 + 14 + 2 * i) j := fun i hi j hj hj2 => by
    rw [o7 _ _ (by omega), o6 _ _ (by omega) (by omega), o5 _ _ (by omega), o4 _ _ (by omega), (f3 i hi).2 j hj hj2, o2 _ _ (by omega), o1 _ _ (by omega)]
  have gfi : ∀ i, i < 8 → ∀ j, 1 ≤ j → j ≤ 9 → I7 (c + 22 + i) j = I (c2 + 22 + i) j := fun i hi j hj hj2 => by
    rw [o7 _ _ (by omega), o6 _ _ (by omega) (by omega), o5 _ _ (by omega), f4 i hi j hj hj2, o3 _ _ (by omega), o2 _ _ (by omega), o1 _ _ (by omega)]
  have gpr : ∀ i, i < 8 → ∀ j, 1 ≤ j → j ≤ 5 → I7 (c + 30 + i) j = I (c2 + 30 + i) j := fun i hi j hj hj2 => by
    rw [o7 _ _ (by omega), o6 _ _ (by omega) (by omega), f5 i hi j hj hj2, o4 _ _ (by omega), o3 _ _ (by omega), o2 _ _ (by omega), o1 _ _ (by omega)]
  have gtu : ∀ i, i < 20 → ∀ j, j ≤ 3 → I7 (c + 38 + i) j = I (c2 + 38 + i) j := fun i hi j hj => by
    rw [o7 _ _ (by omega), (f6 i hi).1 j hj, o5 _ _ (by omega), o4 _ _ (by omega), o3 _ _ (by omega), o2 _ _ (by omega), o1 _ _ (by omega)]
  have gw : ∀ i, i < 20 → I7 (c + 13) i = I (c2 + 13) i := fun i hi => by
    rw [o7 _ _ (by omega), (f6 i hi).2, o5 _ _ (by omega), o4 _ _ (by omega), o3 _ _ (by omega), o2 _ _ (by omega), o1 _ _ (by omega)]
  have hseg : ∀ p q s, q ≤ z → SegC I c2 p q s → SegC I7 c p q s := by
    intro p q s hq hs rd
    rw [← hs rd, evE_cg (q - p) p [] (fun j h1 h2 => ⟨gk j (by omega), ga j (by omega)⟩)]
  have hB7 : AbB I7 c B := by
    refine ⟨⟨(gn _ (by decide) (by decide)).trans a1, a2⟩, ⟨(gn _ (by decide) (by decide)).trans a3, a4⟩, ⟨(gn _ (by decide) (by decide)).trans a5, a6⟩, ⟨(gn _ (by decide) (by decide)).trans a7, a8⟩, ?_, ?_, z, gz, b4, ?_, ?_⟩
    · intro i hi p hp
      rw [gru i (by omega) p hp]
      exact b1 i hi p hp
    · intro i hi
      rw [gtu i (by omega) 0 (by decide), gtu i (by omega) 1 (by decide)]
      exact b2 i hi
    · intro i hi
      obtain ⟨p, r, e1, e2, e3, e4, e5⟩ := b5 i hi
      refine ⟨p, r, (gtu i (by omega) 2 (by decide)).trans e1, (gtu i (by omega) 3 (by decide)).trans e2, e3, e4, ?_⟩
      cases hh : B.tt i with
      | none => rw [hh] at e5; exact e5
      | some s => rw [hh] at e5; exact ⟨e5.1, hseg _ _ _ e4 e5.2⟩
    · intro i hi
      obtain ⟨p, r, t, e1, e2, e3, e4, e5, e6, e7, e8⟩ := b6 i hi
      exact ⟨p, r, t, (gpr i (by omega) 3 (by decide) (by decide)).trans e1, (gpr i (by omega) 4 (by decide) (by decide)).trans e2, (gpr i (by omega) 5 (by decide) (by decide)).trans e3, e4, e5, e6, hseg _ _ _ (by omega) e7, hseg _ _ _ (by omega) e8⟩
  have hm7 : AbM I7 c B m := by
    refine ⟨?_, ?_, ?_, ?_, (gn 18 (by decide) (by decide)).trans m5, ?_, gb, gb1, m9, m10, ?_⟩
    · intro i hi j hj
      rw [gfi i (by omega) (j + 1) (by omega) (by omega)]
      exact m1 i hi j hj
    · intro i hi j hj
      rw [gra i (by omega) (j + 2) (by omega) (by omega)]
      exact m2 i hi j hj
    · intro i hi j hj
      rw [gpr i (by omega) (j + 1) (by omega) (by omega)]
      exact m3 i hi j hj
    · intro j hj
      rw [gn (13 + j) (by omega) (by omega)]
      exact m4 j hj
    · intro k hk
      rw [gw k (by omega)]
      exact m6 k hk
    · intro i hi
      rw [gfi i hi 9 (by decide) (by decide)]
      exact m11 i hi
  have hO7 : OffC c I I7 := fun x j q => by
    rw [o7 _ _ (by omega), o6 _ _ (by omega) (by omega), o5 _ _ (by omega), o4 _ _ (by omega), o3 _ _ (by omega), o2 _ _ (by omega), o1 _ _ (by omega)]
  exact am_ret dX2_copyFrom_203 rfl ⟨_, rfl, rfl, I7, J5, rfl, hB7, hm7, hO7, (j3.tr j4).tr j5⟩
end CopyD
end
section
theorem kc_s257 : (Int16.ofInt 257).toInt32 = 257 := by decide +kernel
theorem dX7_blame_0 : decode cX7_blame 0 = .ok (.aload_n 0, 1) := by decide +kernel
theorem dX7_blame_1 : decode cX7_blame 1 = .ok (.getfield 26, 3) := by decide +kernel
theorem dX7_blame_4 : decode cX7_blame 4 = .ok (.ifCond .ne 23, 3) := by decide +kernel
theorem dX7_blame_7 : decode cX7_blame 7 = .ok (.aload_n 0, 1) := by decide +kernel
theorem dX7_blame_8 : decode cX7_blame 8 = .ok (.iload_n 1, 1) := by decide +kernel
theorem dX7_blame_9 : decode cX7_blame 9 = .ok (.putfield 26, 3) := by decide +kernel
theorem dX7_blame_12 : decode cX7_blame 12 = .ok (.aload_n 0, 1) := by decide +kernel
theorem dX7_blame_13 : decode cX7_blame 13 = .ok (.aload_n 0, 1) := by decide +kernel
theorem dX7_blame_14 : decode cX7_blame 14 = .ok (.getfield 9, 3) := by decide +kernel
theorem dX7_blame_17 : decode cX7_blame 17 = .ok (.aload_n 0, 1) := by decide +kernel
theorem dX7_blame_18 : decode cX7_blame 18 = .ok (.getfield 23, 3) := by decide +kernel
theorem dX7_blame_21 : decode cX7_blame 21 = .ok (.invokevirtual 193, 3) := by decide +kernel
theorem dX7_blame_24 : decode cX7_blame 24 = .ok (.putfield 19, 3) := by decide +kernel
theorem dX7_blame_27 : decode cX7_blame 27 = .ok (.return_, 1) := by decide +kernel
theorem dX7_expect_0 : decode cX7_expect 0 = .ok (.aload_n 0, 1) := by decide +kernel
theorem dX7_expect_1 : decode cX7_expect 1 = .ok (.invokevirtual 31, 3) := by decide +kernel
theorem dX7_expect_4 : decode cX7_expect 4 = .ok (.iload_n 1, 1) := by decide +kernel
theorem dX7_expect_5 : decode cX7_expect 5 = .ok (.if_icmp .ne 16, 3) := by decide +kernel
theorem dX7_expect_8 : decode cX7_expect 8 = .ok (.aload_n 0, 1) := by decide +kernel
theorem dX7_expect_9 : decode cX7_expect 9 = .ok (.dup, 1) := by decide +kernel
theorem dX7_expect_10 : decode cX7_expect 10 = .ok (.getfield 23, 3) := by decide +kernel
theorem dX7_expect_13 : decode cX7_expect 13 = .ok (.iconst 1, 1) := by decide +kernel
theorem dX7_expect_14 : decode cX7_expect 14 = .ok (.iadd, 1) := by decide +kernel
theorem dX7_expect_15 : decode cX7_expect 15 = .ok (.putfield 23, 3) := by decide +kernel
theorem dX7_expect_18 : decode cX7_expect 18 = .ok (.goto 7, 3) := by decide +kernel
theorem dX7_expect_21 : decode cX7_expect 21 = .ok (.aload_n 0, 1) := by decide +kernel
theorem dX7_expect_22 : decode cX7_expect 22 = .ok (.invokevirtual 57, 3) := by decide +kernel
theorem dX7_expect_25 : decode cX7_expect 25 = .ok (.return_, 1) := by decide +kernel
theorem dX7_goesDeeper_0 : decode cX7_goesDeeper 0 = .ok (.iload_n 2, 1) := by decide +kernel
theorem dX7_goesDeeper_1 : decode cX7_goesDeeper 1 = .ok (.bipush 8, 2) := by decide +kernel
theorem dX7_goesDeeper_3 : decode cX7_goesDeeper 3 = .ok (.if_icmp .ge 11, 3) := by decide +kernel
theorem dX7_goesDeeper_6 : decode cX7_goesDeeper 6 = .ok (.aload_n 0, 1) := by decide +kernel
theorem dX7_goesDeeper_7 : decode cX7_goesDeeper 7 = .ok (.iload_n 1, 1) := by decide +kernel
theorem dX7_goesDeeper_8 : decode cX7_goesDeeper 8 = .ok (.invokevirtual 38, 3) := by decide +kernel
theorem dX7_goesDeeper_11 : decode cX7_goesDeeper 11 = .ok (.goto 7, 3) := by decide +kernel
theorem dX7_goesDeeper_14 : decode cX7_goesDeeper 14 = .ok (.aload_n 0, 1) := by decide +kernel
theorem dX7_goesDeeper_15 : decode cX7_goesDeeper 15 = .ok (.invokevirtual 57, 3) := by decide +kernel
theorem dX7_goesDeeper_18 : decode cX7_goesDeeper 18 = .ok (.aload_n 0, 1) := by decide +kernel
theorem dX7_goesDeeper_19 : decode cX7_goesDeeper 19 = .ok (.getfield 26, 3) := by decide +kernel
theorem dX7_goesDeeper_22 : decode cX7_goesDeeper 22 = .ok (.iconst 1, 1) := by decide +kernel
theorem dX7_goesDeeper_23 : decode cX7_goesDeeper 23 = .ok (.if_icmp .eq 7, 3) := by decide +kernel
theorem dX7_goesDeeper_26 : decode cX7_goesDeeper 26 = .ok (.iconst 1, 1) := by decide +kernel
theorem dX7_goesDeeper_27 : decode cX7_goesDeeper 27 = .ok (.goto 4, 3) := by decide +kernel
theorem dX7_goesDeeper_30 : decode cX7_goesDeeper 30 = .ok (.iconst 0, 1) := by decide +kernel
theorem dX7_goesDeeper_31 : decode cX7_goesDeeper 31 = .ok (.ireturn, 1) := by decide +kernel
theorem dX7_kind_0 : decode cX7_kind 0 = .ok (.aload_n 0, 1) := by decide +kernel
theorem dX7_kind_1 : decode cX7_kind 1 = .ok (.getfield 26, 3) := by decide +kernel
theorem dX7_kind_4 : decode cX7_kind 4 = .ok (.iconst 1, 1) := by decide +kernel
theorem dX7_kind_5 : decode cX7_kind 5 = .ok (.if_icmp .ne 9, 3) := by decide +kernel
theorem dX7_kind_8 : decode cX7_kind 8 = .ok (.sipush 257, 3) := by decide +kernel
theorem dX7_kind_11 : decode cX7_kind 11 = .ok (.goto 14, 3) := by decide +kernel
theorem dX7_kind_14 : decode cX7_kind 14 = .ok (.aload_n 0, 1) := by decide +kernel
theorem dX7_kind_15 : decode cX7_kind 15 = .ok (.getfield 9, 3) := by decide +kernel
theorem dX7_kind_18 : decode cX7_kind 18 = .ok (.aload_n 0, 1) := by decide +kernel
theorem dX7_kind_19 : decode cX7_kind 19 = .ok (.getfield 23, 3) := by decide +kernel
theorem dX7_kind_22 : decode cX7_kind 22 = .ok (.invokevirtual 186, 3) := by decide +kernel
theorem dX7_kind_25 : decode cX7_kind 25 = .ok (.ireturn, 1) := by decide +kernel
theorem dX7_refuse_0 : decode cX7_refuse 0 = .ok (.aload_n 0, 1) := by decide +kernel
theorem dX7_refuse_1 : decode cX7_refuse 1 = .ok (.getfield 26, 3) := by decide +kernel
theorem dX7_refuse_4 : decode cX7_refuse 4 = .ok (.iconst 1, 1) := by decide +kernel
theorem dX7_refuse_5 : decode cX7_refuse 5 = .ok (.if_icmp .eq 23, 3) := by decide +kernel
theorem dX7_refuse_8 : decode cX7_refuse 8 = .ok (.aload_n 0, 1) := by decide +kernel
theorem dX7_refuse_9 : decode cX7_refuse 9 = .ok (.iconst 1, 1) := by decide +kernel
theorem dX7_refuse_10 : decode cX7_refuse 10 = .ok (.putfield 26, 3) := by decide +kernel
theorem dX7_refuse_13 : decode cX7_refuse 13 = .ok (.aload_n 0, 1) := by decide +kernel
theorem dX7_refuse_14 : decode cX7_refuse 14 = .ok (.aload_n 0, 1) := by decide +kernel
theorem dX7_refuse_15 : decode cX7_refuse 15 = .ok (.getfield 9, 3) := by decide +kernel
theorem dX7_refuse_18 : decode cX7_refuse 18 = .ok (.aload_n 0, 1) := by decide +kernel
theorem dX7_refuse_19 : decode cX7_refuse 19 = .ok (.getfield 23, 3) := by decide +kernel
theorem dX7_refuse_22 : decode cX7_refuse 22 = .ok (.invokevirtual 193, 3) := by decide +kernel
theorem dX7_refuse_25 : decode cX7_refuse 25 = .ok (.putfield 19, 3) := by decide +kernel
theorem dX7_refuse_28 : decode cX7_refuse 28 = .ok (.return_, 1) := by decide +kernel
theorem dX7_value_0 : decode cX7_value 0 = .ok (.aload_n 0, 1) := by decide +kernel
theorem dX7_value_1 : decode cX7_value 1 = .ok (.getfield 26, 3) := by decide +kernel
theorem dX7_value_4 : decode cX7_value 4 = .ok (.iconst 1, 1) := by decide +kernel
theorem dX7_value_5 : decode cX7_value 5 = .ok (.if_icmp .ne 7, 3) := by decide +kernel
theorem dX7_value_8 : decode cX7_value 8 = .ok (.lconst 0, 1) := by decide +kernel
theorem dX7_value_9 : decode cX7_value 9 = .ok (.goto 14, 3) := by decide +kernel
theorem dX7_value_12 : decode cX7_value 12 = .ok (.aload_n 0, 1) := by decide +kernel
theorem dX7_value_13 : decode cX7_value 13 = .ok (.getfield 9, 3) := by decide +kernel
theorem dX7_value_16 : decode cX7_value 16 = .ok (.aload_n 0, 1) := by decide +kernel
theorem dX7_value_17 : decode cX7_value 17 = .ok (.getfield 23, 3) := by decide +kernel
theorem dX7_value_20 : decode cX7_value 20 = .ok (.invokevirtual 189, 3) := by decide +kernel
theorem dX7_value_23 : decode cX7_value 23 = .ok (.lreturn, 1) := by decide +kernel
theorem dX9_kindAt_0 : decode cX9_kindAt 0 = .ok (.iload_n 1, 1) := by decide +kernel
theorem dX9_kindAt_1 : decode cX9_kindAt 1 = .ok (.ifCond .lt 29, 3) := by decide +kernel
theorem dX9_kindAt_4 : decode cX9_kindAt 4 = .ok (.iload_n 1, 1) := by decide +kernel
theorem dX9_kindAt_5 : decode cX9_kindAt 5 = .ok (.aload_n 0, 1) := by decide +kernel
theorem dX9_kindAt_6 : decode cX9_kindAt 6 = .ok (.getfield 31, 3) := by decide +kernel
theorem dX9_kindAt_9 : decode cX9_kindAt 9 = .ok (.if_icmp .ge 21, 3) := by decide +kernel
theorem dX9_kindAt_12 : decode cX9_kindAt 12 = .ok (.iload_n 1, 1) := by decide +kernel
theorem dX9_kindAt_13 : decode cX9_kindAt 13 = .ok (.aload_n 0, 1) := by decide +kernel
theorem dX9_kindAt_14 : decode cX9_kindAt 14 = .ok (.getfield 11, 3) := by decide +kernel
theorem dX9_kindAt_17 : decode cX9_kindAt 17 = .ok (.arraylength, 1) := by decide +kernel
theorem dX9_kindAt_18 : decode cX9_kindAt 18 = .ok (.if_icmp .ge 12, 3) := by decide +kernel
theorem dX9_kindAt_21 : decode cX9_kindAt 21 = .ok (.aload_n 0, 1) := by decide +kernel
theorem dX9_kindAt_22 : decode cX9_kindAt 22 = .ok (.getfield 11, 3) := by decide +kernel
theorem dX9_kindAt_25 : decode cX9_kindAt 25 = .ok (.iload_n 1, 1) := by decide +kernel
theorem dX9_kindAt_26 : decode cX9_kindAt 26 = .ok (.iaload, 1) := by decide +kernel
theorem dX9_kindAt_27 : decode cX9_kindAt 27 = .ok (.goto 6, 3) := by decide +kernel
theorem dX9_kindAt_30 : decode cX9_kindAt 30 = .ok (.sipush 257, 3) := by decide +kernel
theorem dX9_kindAt_33 : decode cX9_kindAt 33 = .ok (.ireturn, 1) := by decide +kernel
theorem dX9_startAt_0 : decode cX9_startAt 0 = .ok (.iload_n 1, 1) := by decide +kernel
theorem dX9_startAt_1 : decode cX9_startAt 1 = .ok (.ifCond .lt 29, 3) := by decide +kernel
theorem dX9_startAt_4 : decode cX9_startAt 4 = .ok (.iload_n 1, 1) := by decide +kernel
theorem dX9_startAt_5 : decode cX9_startAt 5 = .ok (.aload_n 0, 1) := by decide +kernel
theorem dX9_startAt_6 : decode cX9_startAt 6 = .ok (.getfield 31, 3) := by decide +kernel
theorem dX9_startAt_9 : decode cX9_startAt 9 = .ok (.if_icmp .ge 21, 3) := by decide +kernel
theorem dX9_startAt_12 : decode cX9_startAt 12 = .ok (.iload_n 1, 1) := by decide +kernel
theorem dX9_startAt_13 : decode cX9_startAt 13 = .ok (.aload_n 0, 1) := by decide +kernel
theorem dX9_startAt_14 : decode cX9_startAt 14 = .ok (.getfield 15, 3) := by decide +kernel
theorem dX9_startAt_17 : decode cX9_startAt 17 = .ok (.arraylength, 1) := by decide +kernel
theorem dX9_startAt_18 : decode cX9_startAt 18 = .ok (.if_icmp .ge 12, 3) := by decide +kernel
theorem dX9_startAt_21 : decode cX9_startAt 21 = .ok (.aload_n 0, 1) := by decide +kernel
theorem dX9_startAt_22 : decode cX9_startAt 22 = .ok (.getfield 15, 3) := by decide +kernel
theorem dX9_startAt_25 : decode cX9_startAt 25 = .ok (.iload_n 1, 1) := by decide +kernel
theorem dX9_startAt_26 : decode cX9_startAt 26 = .ok (.iaload, 1) := by decide +kernel
theorem dX9_startAt_27 : decode cX9_startAt 27 = .ok (.goto 4, 3) := by decide +kernel
theorem dX9_startAt_30 : decode cX9_startAt 30 = .ok (.iconst 0, 1) := by decide +kernel
theorem dX9_startAt_31 : decode cX9_startAt 31 = .ok (.ireturn, 1) := by decide +kernel
theorem dX9_valueAt_0 : decode cX9_valueAt 0 = .ok (.iload_n 1, 1) := by decide +kernel
theorem dX9_valueAt_1 : decode cX9_valueAt 1 = .ok (.ifCond .lt 29, 3) := by decide +kernel
theorem dX9_valueAt_4 : decode cX9_valueAt 4 = .ok (.iload_n 1, 1) := by decide +kernel
theorem dX9_valueAt_5 : decode cX9_valueAt 5 = .ok (.aload_n 0, 1) := by decide +kernel
theorem dX9_valueAt_6 : decode cX9_valueAt 6 = .ok (.getfield 31, 3) := by decide +kernel
theorem dX9_valueAt_9 : decode cX9_valueAt 9 = .ok (.if_icmp .ge 21, 3) := by decide +kernel
theorem dX9_valueAt_12 : decode cX9_valueAt 12 = .ok (.iload_n 1, 1) := by decide +kernel
theorem dX9_valueAt_13 : decode cX9_valueAt 13 = .ok (.aload_n 0, 1) := by decide +kernel
theorem dX9_valueAt_14 : decode cX9_valueAt 14 = .ok (.getfield 18, 3) := by decide +kernel
theorem dX9_valueAt_17 : decode cX9_valueAt 17 = .ok (.arraylength, 1) := by decide +kernel
theorem dX9_valueAt_18 : decode cX9_valueAt 18 = .ok (.if_icmp .ge 12, 3) := by decide +kernel
theorem dX9_valueAt_21 : decode cX9_valueAt 21 = .ok (.aload_n 0, 1) := by decide +kernel
theorem dX9_valueAt_22 : decode cX9_valueAt 22 = .ok (.getfield 18, 3) := by decide +kernel
theorem dX9_valueAt_25 : decode cX9_valueAt 25 = .ok (.iload_n 1, 1) := by decide +kernel
theorem dX9_valueAt_26 : decode cX9_valueAt 26 = .ok (.laload, 1) := by decide +kernel
theorem dX9_valueAt_27 : decode cX9_valueAt 27 = .ok (.goto 4, 3) := by decide +kernel
theorem dX9_valueAt_30 : decode cX9_valueAt 30 = .ok (.lconst 0, 1) := by decide +kernel
theorem dX9_valueAt_31 : decode cX9_valueAt 31 = .ok (.lreturn, 1) := by decide +kernel
/-! tokens as they were cut, and the reader's first steps -/
/-- tokens: how many, kinds, starts, values -/
abbrev Toks : Type := Nat × (Nat → Int32) × (Nat → Int32) × (Nat → Int64)
def Toks.n (T : Toks) : Nat := T.1
def Toks.k (T : Toks) (i : Nat) : Int32 := if i < T.n then T.2.1 i else 257
def Toks.s (T : Toks) (i : Nat) : Int32 := if i < T.n then T.2.2.1 i else 0
def Toks.v (T : Toks) (i : Nat) : Int64 := if i < T.n then T.2.2.2 i else 0
/-- the cells of the tokens at t -/
def TC (S : AMem) (R : Nat → Nat → Option Nat) (t : Nat) : Prop := S.K t = 10 ∧ R t 0 = some (t + 1) ∧ R t 1 = some (t + 2) ∧ R t 2 = some (t + 3) ∧ R t 3 = some (t + 4) ∧ S.K (t + 1) = 20 ∧ S.ln (t + 1) = 401 ∧ S.K (t + 2) = 20 ∧ S.ln (t + 2) = 401 ∧ S.K (t + 3) = 21 ∧ S.ln (t + 3) = 401 ∧ S.K (t + 4) = 21 ∧ S.ln (t + 4) = 32
def AbT (I : Nat → Nat → Int32) (J : Nat → Nat → Int64) (t : Nat) (T : Toks) : Prop := I t 4 = nI T.n ∧ T.n ≤ 401 ∧ (∀ i, i < T.n → I (t + 1) i = T.2.1 i) ∧ (∀ i, i < T.n → I (t + 2) i = T.2.2.1 i) ∧ ∀ i, i < T.n → J (t + 3) i = T.2.2.2 i
/-- where the reader stands: the next token, the error, its byte -/
abbrev PS : Type := Nat × Int32 × Int32
def AbP (I : Nat → Nat → Int32) (x : Nat) (T : Toks) (s : PS) : Prop := I x 2 = nI s.1 ∧ I x 3 = s.2.1 ∧ I x 4 = s.2.2 ∧ s.1 ≤ T.n
def pK (T : Toks) (s : PS) : Int32 := if s.2.1 = 1 then 257 else T.k s.1
def pV (T : Toks) (s : PS) : Int64 := if s.2.1 = 1 then 0 else T.v s.1
def pRef (T : Toks) (s : PS) : PS := if s.2.1 = 1 then s else (s.1, 1, T.s s.1)
def pBl (T : Toks) (n : Int32) (s : PS) : PS := if s.2.1 = 0 then (s.1, n, T.s s.1) else s
def pEx (T : Toks) (k : Int32) (s : PS) : PS := if pK T s = k then (s.1 + 1, s.2.1, s.2.2) else pRef T s
def pDp (T : Toks) (k : Int32) (d : Nat) (s : PS) : PS := if d < 8 then pEx T k s else pRef T s
/-- nothing but the reader at x has changed -/
def OffR (x : Nat) (I I1 : Nat → Nat → Int32) : Prop := ∀ y j, y ≠ x → I1 y j = I y j
theorem OffR.rf {x : Nat} {I : Nat → Nat → Int32} : OffR x I I := fun _ _ _ => rfl
theorem OffR.tr {x : Nat} {I I1 I2 : Nat → Nat → Int32} (h1 : OffR x I I1) (h2 : OffR x I1 I2) : OffR x I I2 := fun y j q => (h2 y j q).trans (h1 y j q)
theorem AbT.off {x t : Nat} {I I1 : Nat → Nat → Int32} {J : Nat → Nat → Int64} {T : Toks} (h : AbT I J t T) (ho : OffR x I I1) (h1 : x < t ∨ t + 4 < x) : AbT I1 J t T := by
  obtain ⟨a1, a2, a3, a4, a5⟩ := h
  refine ⟨(ho _ _ (by omega)).trans a1, a2, fun i hi => (ho _ _ (by omega)).trans (a3 i hi), fun i hi => (ho _ _ (by omega)).trans (a4 i hi), a5⟩
section Rd
variable {G : Gp} {S : AMem} {I : Nat → Nat → Int32} {J : Nat → Nat → Int64} {R : Nat → Nat → Option Nat} {t x c : Nat} {T : Toks} {s : PS}
theorem k_X9_kindAt {i : Nat} (ht : TC S R t) (hT : AbT I J t T) (hi : i ≤ T.n) : Fn G mX9_kindAt 0 [vR t, vI (nI i)] (mw S I J R) (fun rr M1 => rr = some (vI (T.k i)) ∧ M1 = mw S I J R) := by
  obtain ⟨t0, t1, t2, t3, t4, t5, t6, t7, t8, t9, t10, _⟩ := ht
  obtain ⟨a1, a2, a3, a4, a5⟩ := hT
  refine am_iload_n (q := 1) dX9_kindAt_0 rfl rfl ?_
  refine am_if_lt (tgt := 30) (q := 4) dX9_kindAt_1 rfl rfl (fun hz => absurd hz (nI_pos (by omega))) (fun _ => ?_)
  refine am_iload_n (q := 5) dX9_kindAt_4 rfl rfl ?_
  refine am_aload_n (q := 6) dX9_kindAt_5 rfl rfl ?_
  refine cm_getI (q := 9) dX9_kindAt_6 flX9_31 rfl (by assumption) rfl ?_
  rw [a1]
  unfold Toks.k
  by_cases h : i < T.n
  · rw [if_pos h, ← a3 i h]
    refine am_icmp_ge (tgt := 30) (q := 12) dX9_kindAt_9 rfl rfl (fun hz => absurd hz (nI_ge (by omega) (by omega))) (fun _ => ?_)
    refine am_iload_n (q := 13) dX9_kindAt_12 rfl rfl ?_
    refine am_aload_n (q := 14) dX9_kindAt_13 rfl rfl ?_
    refine cm_getR (q := 17) dX9_kindAt_14 flX9_11 rfl (by assumption) (by assumption) rfl ?_
    refine cm_alenI (q := 18) dX9_kindAt_17 (by assumption) (by rw [t6] : nI (S.ln (t + 1)) = nI 401) rfl ?_
    refine am_icmp_ge (tgt := 30) (q := 21) dX9_kindAt_18 rfl rfl (fun hz => absurd hz (nI_ge (by omega) (by decide))) (fun _ => ?_)
    refine am_aload_n (q := 22) dX9_kindAt_21 rfl rfl ?_
    refine cm_getR (q := 25) dX9_kindAt_22 flX9_11 rfl (by assumption) (by assumption) rfl ?_
    refine am_iload_n (q := 26) dX9_kindAt_25 rfl rfl ?_
    refine cm_iaload (q := 27) dX9_kindAt_26 (by assumption) (by rw [t6]; exact vp_in_nI (by omega) (by decide)) rfl ?_
    refine am_goto (tgt := 33) dX9_kindAt_27 rfl ?_
    exact am_iret dX9_kindAt_33 rfl rfl ⟨_, rfl, by rw [nI_clamp (by omega)], rfl⟩
  · rw [if_neg h]
    refine am_icmp_ge (tgt := 30) (q := 12) dX9_kindAt_9 rfl rfl (fun _ => ?_) (fun hz => absurd (Int32.not_lt.mp fun q => h ((nI_ltI (by omega) (by omega)).mp q)) hz)
    refine am_sipush (q := 33) (v := 257) dX9_kindAt_30 kc_s257 rfl ?_
    exact am_iret dX9_kindAt_33 rfl rfl ⟨_, rfl, rfl, rfl⟩
theorem k_X9_startAt {i : Nat} (ht : TC S R t) (hT : AbT I J t T) (hi : i ≤ T.n) : Fn G mX9_startAt 0 [vR t, vI (nI i)] (mw S I J R) (fun rr M1 => rr = some (vI (T.s i)) ∧ M1 = mw S I J R) := by
  obtain ⟨t0, t1, t2, t3, t4, t5, t6, t7, t8, t9, t10, _⟩ := ht
  obtain ⟨a1, a2, a3, a4, a5⟩ := hT
  refine am_iload_n (q := 1) dX9_startAt_0 rfl rfl ?_
  refine am_if_lt (tgt := 30) (q := 4) dX9_startAt_1 rfl rfl (fun hz => absurd hz (nI_pos (by omega))) (fun _ => ?_)
  refine am_iload_n (q := 5) dX9_startAt_4 rfl rfl ?_
  refine am_aload_n (q := 6) dX9_startAt_5 rfl rfl ?_
  refine cm_getI (q := 9) dX9_startAt_6 flX9_31 rfl (by assumption) rfl ?_
  rw [a1]
  unfold Toks.s
  by_cases h : i < T.n
  · rw [if_pos h, ← a4 i h]
    refine am_icmp_ge (tgt := 30) (q := 12) dX9_startAt_9 rfl rfl (fun hz => absurd hz (nI_ge (by omega) (by omega))) (fun _ => ?_)
    refine am_iload_n (q := 13) dX9_startAt_12 rfl rfl ?_
    refine am_aload_n (q := 14) dX9_startAt_13 rfl rfl ?_
    refine cm_getR (q := 17) dX9_startAt_14 flX9_15 rfl (by assumption) (by assumption) rfl ?_
    refine cm_alenI (q := 18) dX9_startAt_17 (by assumption) (by rw [t8] : nI (S.ln (t + 2)) = nI 401) rfl ?_
    refine am_icmp_ge (tgt := 30) (q := 21) dX9_startAt_18 rfl rfl (fun hz => absurd hz (nI_ge (by omega) (by decide))) (fun _ => ?_)
    refine am_aload_n (q := 22) dX9_startAt_21 rfl rfl ?_
    refine cm_getR (q := 25) dX9_startAt_22 flX9_15 rfl (by assumption) (by assumption) rfl ?_
    refine am_iload_n (q := 26) dX9_startAt_25 rfl rfl ?_
    refine cm_iaload (q := 27) dX9_startAt_26 (by assumption) (by rw [t8]; exact vp_in_nI (by omega) (by decide)) rfl ?_
    refine am_goto (tgt := 31) dX9_startAt_27 rfl ?_
    exact am_iret dX9_startAt_31 rfl rfl ⟨_, rfl, by rw [nI_clamp (by omega)], rfl⟩
  · rw [if_neg h]
    refine am_icmp_ge (tgt := 30) (q := 12) dX9_startAt_9 rfl rfl (fun _ => ?_) (fun hz => absurd (Int32.not_lt.mp fun q => h ((nI_ltI (by omega) (by omega)).mp q)) hz)
    refine am_iconst (q := 31) (v := 0) dX9_startAt_30 kc_i0 rfl ?_
    exact am_iret dX9_startAt_31 rfl rfl ⟨_, rfl, rfl, rfl⟩
theorem k_X9_valueAt {i : Nat} (ht : TC S R t) (hT : AbT I J t T) (hi : i ≤ T.n) : Fn G mX9_valueAt 0 [vR t, vI (nI i)] (mw S I J R) (fun rr M1 => rr = some (vJ (T.v i)) ∧ M1 = mw S I J R) := by
  obtain ⟨t0, t1, t2, t3, t4, t5, t6, t7, t8, t9, t10, _⟩ := ht
  obtain ⟨a1, a2, a3, a4, a5⟩ := hT
  refine am_iload_n (q := 1) dX9_valueAt_0 rfl rfl ?_
  refine am_if_lt (tgt := 30) (q := 4) dX9_valueAt_1 rfl rfl (fun hz => absurd hz (nI_pos (by omega))) (fun _ => ?_)
  refine am_iload_n (q := 5) dX9_valueAt_4 rfl rfl ?_
  refine am_aload_n (q := 6) dX9_valueAt_5 rfl rfl ?_
  refine cm_getI (q := 9) dX9_valueAt_6 flX9_31 rfl (by assumption) rfl ?_
  rw [a1]
  unfold Toks.v
  by_cases h : i < T.n
  · rw [if_pos h, ← a5 i h]
    refine am_icmp_ge (tgt := 30) (q := 12) dX9_valueAt_9 rfl rfl (fun hz => absurd hz (nI_ge (by omega) (by omega))) (fun _ => ?_)
    refine am_iload_n (q := 13) dX9_valueAt_12 rfl rfl ?_
    refine am_aload_n (q := 14) dX9_valueAt_13 rfl rfl ?_
    refine cm_getR (q := 17) dX9_valueAt_14 flX9_18 rfl (by assumption) (by assumption) rfl ?_
    refine cm_alenJ (q := 18) dX9_valueAt_17 (by assumption) (by rw [t10] : nI (S.ln (t + 3)) = nI 401) rfl ?_
    refine am_icmp_ge (tgt := 30) (q := 21) dX9_valueAt_18 rfl rfl (fun hz => absurd hz (nI_ge (by omega) (by decide))) (fun _ => ?_)
    refine am_aload_n (q := 22) dX9_valueAt_21 rfl rfl ?_
    refine cm_getR (q := 25) dX9_valueAt_22 flX9_18 rfl (by assumption) (by assumption) rfl ?_
    refine am_iload_n (q := 26) dX9_valueAt_25 rfl rfl ?_
    refine cm_laload (q := 27) dX9_valueAt_26 (by assumption) (by rw [t10]; exact vp_in_nI (by omega) (by decide)) rfl ?_
    refine am_goto (tgt := 31) dX9_valueAt_27 rfl ?_
    exact am_lret dX9_valueAt_31 rfl ⟨_, rfl, by rw [nI_clamp (by omega)], rfl⟩
  · rw [if_neg h]
    refine am_icmp_ge (tgt := 30) (q := 12) dX9_valueAt_9 rfl rfl (fun _ => ?_) (fun hz => absurd (Int32.not_lt.mp fun q => h ((nI_ltI (by omega) (by omega)).mp q)) hz)
    refine am_lconst (q := 31) (v := 0) dX9_valueAt_30 rfl rfl ?_
    exact am_lret dX9_valueAt_31 rfl ⟨_, rfl, rfl, rfl⟩
theorem k_X7_kind (hG : okG G) (ht : TC S R t) (hT : AbT I J t T) (hx : S.K x = 8) (hr : R x 0 = some t) (hs : AbP I x T s) : Fn G mX7_kind 1 [vR x] (mw S I J R) (fun rr M1 => rr = some (vI (pK T s)) ∧ M1 = mw S I J R) := by
  have kt := ht.1
  obtain ⟨s1, s2, s3, s4⟩ := hs
  refine am_aload_n (q := 1) dX7_kind_0 rfl rfl ?_
  refine cm_getI (q := 4) dX7_kind_1 flX7_26 rfl (by assumption) rfl ?_
  rw [s2]
  unfold pK
  refine am_iconst (q := 5) (v := 1) dX7_kind_4 kc_i1 rfl ?_
  refine am_icmp_ne (tgt := 14) (q := 8) dX7_kind_5 rfl rfl (fun hc => ?_) (fun hc => ?_)
  · rw [if_neg hc]
    refine am_aload_n (q := 15) dX7_kind_14 rfl rfl ?_
    refine cm_getR (q := 18) dX7_kind_15 flX7_9 rfl (by assumption) (by assumption) rfl ?_
    refine am_aload_n (q := 19) dX7_kind_18 rfl rfl ?_
    refine cm_getI (q := 22) dX7_kind_19 flX7_23 rfl (by assumption) rfl ?_
    rw [s1]
    refine cm_call0 (q := 25) (As := [_]) hG dX7_kind_22 mlX7_186 rfl (by assumption) ⟨_, _, rfl⟩ (Nat.le_of_ble_eq_true rfl) (Nat.le_of_ble_eq_true rfl) (Nat.le_of_ble_eq_true rfl) (Nat.le_of_ble_eq_true rfl) (k_X9_kindAt ht hT s4) rfl ?_
    rintro _ _ ⟨rfl, rfl⟩
    exact am_iret dX7_kind_25 rfl rfl ⟨_, rfl, rfl, rfl⟩
  · rw [if_pos hc]
    refine am_sipush (q := 11) (v := 257) dX7_kind_8 kc_s257 rfl ?_
    refine am_goto (tgt := 25) dX7_kind_11 rfl ?_
    exact am_iret dX7_kind_25 rfl rfl ⟨_, rfl, rfl, rfl⟩
theorem k_X7_value (hG : okG G) (ht : TC S R t) (hT : AbT I J t T) (hx : S.K x = 8) (hr : R x 0 = some t) (hs : AbP I x T s) : Fn G mX7_value 1 [vR x] (mw S I J R) (fun rr M1 => rr = some (vJ (pV T s)) ∧ M1 = mw S I J R) := by
  have kt := ht.1
  obtain ⟨s1, s2, s3, s4⟩ := hs
  refine am_aload_n (q := 1) dX7_value_0 rfl rfl ?_
  refine cm_getI (q := 4) dX7_value_1 flX7_26 rfl (by assumption) rfl ?_
  rw [s2]
  unfold pV
  refine am_iconst (q := 5) (v := 1) dX7_value_4 kc_i1 rfl ?_
  refine am_icmp_ne (tgt := 12) (q := 8) dX7_value_5 rfl rfl (fun hc => ?_) (fun hc => ?_)
  · rw [if_neg hc]
    refine am_aload_n (q := 13) dX7_value_12 rfl rfl ?_
    refine cm_getR (q := 16) dX7_value_13 flX7_9 rfl (by assumption) (by assumption) rfl ?_
    refine am_aload_n (q := 17) dX7_value_16 rfl rfl ?_
    refine cm_getI (q := 20) dX7_value_17 flX7_23 rfl (by assumption) rfl ?_
    rw [s1]
    refine cm_call0 (q := 23) (As := [_]) hG dX7_value_20 mlX7_189 rfl (by assumption) ⟨_, _, rfl⟩ (Nat.le_of_ble_eq_true rfl) (Nat.le_of_ble_eq_true rfl) (Nat.le_of_ble_eq_true rfl) (Nat.le_of_ble_eq_true rfl) (k_X9_valueAt ht hT s4) rfl ?_
    rintro _ _ ⟨rfl, rfl⟩
    exact am_lret dX7_value_23 rfl ⟨_, rfl, rfl, rfl⟩
  · rw [if_pos hc]
    refine am_lconst (q := 9) (v := 0) dX7_value_8 rfl rfl ?_
    refine am_goto (tgt := 23) dX7_value_9 rfl ?_
    exact am_lret dX7_value_23 rfl ⟨_, rfl, rfl, rfl⟩
theorem k_X7_refuse (hG : okG G) (ht : TC S R t) (hT : AbT I J t T) (hx : S.K x = 8) (hr : R x 0 = some t) (hxt : x < t ∨ t + 4 < x) (hs : AbP I x T s) : Fn G mX7_refuse 1 [vR x] (mw S I J R) (fun rr M1 => rr = none ∧ ∃ I1, M1 = mw S I1 J R ∧ AbP I1 x T (pRef T s) ∧ OffR x I I1) := by
  have kt := ht.1
  have hs0 := hs
  obtain ⟨s1, s2, s3, s4⟩ := hs
  refine am_aload_n (q := 1) dX7_refuse_0 rfl rfl ?_
  refine cm_getI (q := 4) dX7_refuse_1 flX7_26 rfl (by assumption) rfl ?_
  rw [s2]
  unfold pRef
  refine am_iconst (q := 5) (v := 1) dX7_refuse_4 kc_i1 rfl ?_
  refine am_icmp_eq (tgt := 28) (q := 8) dX7_refuse_5 rfl rfl (fun hc => ?_) (fun hc => ?_)
  · rw [if_pos hc]
    exact am_ret dX7_refuse_28 rfl ⟨_, rfl, rfl, I, rfl, hs0, OffR.rf⟩
  · rw [if_neg hc]
    have ho : OffR x I (up2 I x 3 1) := fun y j q => up2_a q
    refine am_aload_n (q := 9) dX7_refuse_8 rfl rfl ?_
    refine am_iconst (q := 10) (v := 1) dX7_refuse_9 kc_i1 rfl ?_
    refine cm_putI (q := 13) dX7_refuse_10 flX7_26 rfl (Or.inl rfl) (Or.inl rfl) (by assumption) rfl ?_
    refine am_aload_n (q := 14) dX7_refuse_13 rfl rfl ?_
    refine am_aload_n (q := 15) dX7_refuse_14 rfl rfl ?_
    refine cm_getR (q := 18) dX7_refuse_15 flX7_9 rfl (by assumption) (by assumption) rfl ?_
    refine am_aload_n (q := 19) dX7_refuse_18 rfl rfl ?_
    refine cm_getI (q := 22) dX7_refuse_19 flX7_23 rfl (by assumption) rfl ?_
    rw [up2_j (by decide), s1]
    refine cm_call0 (q := 25) (As := [_]) hG dX7_refuse_22 mlX7_193 rfl (by assumption) ⟨_, _, rfl⟩ (Nat.le_of_ble_eq_true rfl) (Nat.le_of_ble_eq_true rfl) (Nat.le_of_ble_eq_true rfl) (Nat.le_of_ble_eq_true rfl) (k_X9_startAt ht (hT.off ho hxt) s4) rfl ?_
    rintro _ _ ⟨rfl, rfl⟩
    refine cm_putI (q := 28) dX7_refuse_25 flX7_19 rfl (Or.inl rfl) (Or.inl rfl) (by assumption) rfl ?_
    exact am_ret dX7_refuse_28 rfl ⟨_, rfl, rfl, _, rfl, ⟨by rw [up2_j (by decide), up2_j (by decide)]; exact s1, by rw [up2_j (by decide), up2_s], up2_s, s4⟩, fun y j q => by rw [up2_a q, up2_a q]⟩
theorem k_X7_blame {n : Int32} (hG : okG G) (ht : TC S R t) (hT : AbT I J t T) (hx : S.K x = 8) (hr : R x 0 = some t) (hxt : x < t ∨ t + 4 < x) (hs : AbP I x T s) : Fn G mX7_blame 1 [vR x, vI n] (mw S I J R) (fun rr M1 => rr = none ∧ ∃ I1, M1 = mw S I1 J R ∧ AbP I1 x T (pBl T n s) ∧ OffR x I I1) := by
  have kt := ht.1
  have hs0 := hs
  obtain ⟨s1, s2, s3, s4⟩ := hs
  refine am_aload_n (q := 1) dX7_blame_0 rfl rfl ?_
  refine cm_getI (q := 4) dX7_blame_1 flX7_26 rfl (by assumption) rfl ?_
  rw [s2]
  unfold pBl
  refine am_if_ne (tgt := 27) (q := 7) dX7_blame_4 rfl rfl (fun hc => ?_) (fun hc => ?_)
  · rw [if_neg hc]
    exact am_ret dX7_blame_27 rfl ⟨_, rfl, rfl, I, rfl, hs0, OffR.rf⟩
  · rw [if_pos hc]
    have ho : OffR x I (up2 I x 3 n) := fun y j q => up2_a q
    refine am_aload_n (q := 8) dX7_blame_7 rfl rfl ?_
    refine am_iload_n (q := 9) dX7_blame_8 rfl rfl ?_
    refine cm_putI (q := 12) dX7_blame_9 flX7_26 rfl (Or.inl rfl) (Or.inl rfl) (by assumption) rfl ?_
    refine am_aload_n (q := 13) dX7_blame_12 rfl rfl ?_
    refine am_aload_n (q := 14) dX7_blame_13 rfl rfl ?_
    refine cm_getR (q := 17) dX7_blame_14 flX7_9 rfl (by assumption) (by assumption) rfl ?_
    refine am_aload_n (q := 18) dX7_blame_17 rfl rfl ?_
    refine cm_getI (q := 21) dX7_blame_18 flX7_23 rfl (by assumption) rfl ?_
    rw [up2_j (by decide), s1]
    refine cm_call0 (q := 24) (As := [_]) hG dX7_blame_21 mlX7_193 rfl (by assumption) ⟨_, _, rfl⟩ (Nat.le_of_ble_eq_true rfl) (Nat.le_of_ble_eq_true rfl) (Nat.le_of_ble_eq_true rfl) (Nat.le_of_ble_eq_true rfl) (k_X9_startAt ht (hT.off ho hxt) s4) rfl ?_
    rintro _ _ ⟨rfl, rfl⟩
    refine cm_putI (q := 27) dX7_blame_24 flX7_19 rfl (Or.inl rfl) (Or.inl rfl) (by assumption) rfl ?_
    exact am_ret dX7_blame_27 rfl ⟨_, rfl, rfl, _, rfl, ⟨by rw [up2_j (by decide), up2_j (by decide)]; exact s1, by rw [up2_j (by decide), up2_s], up2_s, s4⟩, fun y j q => by rw [up2_a q, up2_a q]⟩
theorem k_X7_expect {k : Int32} (hG : okG G) (ht : TC S R t) (hT : AbT I J t T) (hx : S.K x = 8) (hr : R x 0 = some t) (hxt : x < t ∨ t + 4 < x) (hs : AbP I x T s) (hk : k ≠ 257) : Fn G mX7_expect 2 [vR x, vI k] (mw S I J R) (fun rr M1 => rr = none ∧ ∃ I1, M1 = mw S I1 J R ∧ AbP I1 x T (pEx T k s) ∧ OffR x I I1) := by
  have kt := ht.1
  have hn : T.n ≤ 401 := hT.2.1
  obtain ⟨s1, s2, s3, s4⟩ := id hs
  unfold pEx
  refine am_aload_n (q := 1) dX7_expect_0 rfl rfl ?_
  refine cm_call0 (q := 4) (As := []) hG dX7_expect_1 mlX7_31 rfl (by assumption) ⟨_, _, rfl⟩ (Nat.le_of_ble_eq_true rfl) (Nat.le_of_ble_eq_true rfl) (Nat.le_of_ble_eq_true rfl) (Nat.le_of_ble_eq_true rfl) (k_X7_kind hG ht hT hx hr hs) rfl ?_
  rintro _ _ ⟨rfl, rfl⟩
  refine am_iload_n (q := 5) dX7_expect_4 rfl rfl ?_
  refine am_icmp_ne (tgt := 21) (q := 8) dX7_expect_5 rfl rfl (fun hc => ?_) (fun hc => ?_)
  · rw [if_neg hc]
    refine am_aload_n (q := 22) dX7_expect_21 rfl rfl ?_
    refine cm_call0 (q := 25) (As := []) hG dX7_expect_22 mlX7_57 rfl (by assumption) ⟨_, _, rfl⟩ (Nat.le_of_ble_eq_true rfl) (Nat.le_of_ble_eq_true rfl) (Nat.le_of_ble_eq_true rfl) (Nat.le_of_ble_eq_true rfl) (k_X7_refuse hG ht hT hx hr hxt hs) rfl ?_
    rintro _ _ ⟨rfl, I1, rfl, hp, ho⟩
    exact am_ret dX7_expect_25 rfl ⟨_, rfl, rfl, I1, rfl, hp, ho⟩
  · rw [if_pos hc]
    have hlt : s.1 < T.n := by
      unfold pK Toks.k at hc
      split at hc
      · exact absurd hc.symm hk
      · split at hc
        · assumption
        · exact absurd hc.symm hk
    refine am_aload_n (q := 9) dX7_expect_8 rfl rfl ?_
    refine am_dup (q := 10) dX7_expect_9 rfl rfl ?_
    refine cm_getI (q := 13) dX7_expect_10 flX7_23 rfl (by assumption) rfl ?_
    rw [s1]
    refine am_iconst (q := 14) (v := 1) dX7_expect_13 kc_i1 rfl ?_
    refine am_iadd (q := 15) dX7_expect_14 rfl ?_
    refine cm_putI (q := 18) dX7_expect_15 flX7_23 rfl (Or.inl rfl) (Or.inl rfl) (by assumption) rfl ?_
    refine am_goto (tgt := 25) dX7_expect_18 rfl ?_
    exact am_ret dX7_expect_25 rfl ⟨_, rfl, rfl, _, rfl, ⟨by rw [nI_1]; exact up2_s, by rw [up2_j (by decide)]; exact s2, by rw [up2_j (by decide)]; exact s3, hlt⟩, fun y j q => up2_a q⟩
theorem k_X7_goesDeeper {k : Int32} {d : Nat} (hG : okG G) (ht : TC S R t) (hT : AbT I J t T) (hx : S.K x = 8) (hr : R x 0 = some t) (hxt : x < t ∨ t + 4 < x) (hs : AbP I x T s) (hk : k ≠ 257) (hd : d < 1000) : Fn G mX7_goesDeeper 3 [vR x, vI k, vI (nI d)] (mw S I J R) (fun rr M1 => rr = some (vI (bI ((pDp T k d s).2.1 ≠ 1))) ∧ ∃ I1, M1 = mw S I1 J R ∧ AbP I1 x T (pDp T k d s) ∧ OffR x I I1) := by
  have fin : ∀ (I1 : Nat → Nat → Int32) (s1 : PS), AbP I1 x T s1 → OffR x I I1 → MW G mX7_goesDeeper 3 18 [some (vR x), some (vI k), some (vI (nI d))] [] (mw S I1 J R) (fun f M1 => ∃ r, f = .inl r ∧ (r = some (vI (bI (s1.2.1 ≠ 1))) ∧ ∃ I1, M1 = mw S I1 J R ∧ AbP I1 x T s1 ∧ OffR x I I1)) := by
    intro I1 s1 h1 h2
    have h3 := h1.2.1
    refine am_aload_n (q := 19) dX7_goesDeeper_18 rfl rfl ?_
    refine cm_getI (q := 22) dX7_goesDeeper_19 flX7_26 rfl (by assumption) rfl ?_
    rw [h3]
    refine am_iconst (q := 23) (v := 1) dX7_goesDeeper_22 kc_i1 rfl ?_
    refine am_icmp_eq (tgt := 30) (q := 26) dX7_goesDeeper_23 rfl rfl (fun hc => ?_) (fun hc => ?_)
    · refine am_iconst (q := 31) (v := 0) dX7_goesDeeper_30 kc_i0 rfl ?_
      exact am_iret dX7_goesDeeper_31 rfl rfl ⟨_, rfl, by rw [bI_f (fun q => q hc)], I1, rfl, h1, h2⟩
    · refine am_iconst (q := 27) (v := 1) dX7_goesDeeper_26 kc_i1 rfl ?_
      refine am_goto (tgt := 31) dX7_goesDeeper_27 rfl ?_
      exact am_iret dX7_goesDeeper_31 rfl rfl ⟨_, rfl, by rw [bI_t hc], I1, rfl, h1, h2⟩
  unfold pDp
  by_cases h : d < 8
  · rw [if_pos h]
    refine am_iload_n (q := 1) dX7_goesDeeper_0 rfl rfl ?_
    refine am_bipush (q := 3) (v := 8) dX7_goesDeeper_1 kc_b8 rfl ?_
    refine am_icmp_ge (tgt := 14) (q := 6) dX7_goesDeeper_3 rfl rfl (fun hz => absurd hz (nI_ge (b := 8) (by omega) (by decide))) (fun _ => ?_)
    refine am_aload_n (q := 7) dX7_goesDeeper_6 rfl rfl ?_
    refine am_iload_n (q := 8) dX7_goesDeeper_7 rfl rfl ?_
    refine cm_call0 (q := 11) (As := [_]) hG dX7_goesDeeper_8 mlX7_38 rfl (by assumption) ⟨_, _, rfl⟩ (Nat.le_of_ble_eq_true rfl) (Nat.le_of_ble_eq_true rfl) (Nat.le_of_ble_eq_true rfl) (Nat.le_of_ble_eq_true rfl) (k_X7_expect hG ht hT hx hr hxt hs hk) rfl ?_
    rintro _ _ ⟨rfl, I1, rfl, hp, ho⟩
    refine am_goto (tgt := 18) dX7_goesDeeper_11 rfl ?_
    exact fin I1 _ hp ho
  · rw [if_neg h]
    refine am_iload_n (q := 1) dX7_goesDeeper_0 rfl rfl ?_
    refine am_bipush (q := 3) (v := 8) dX7_goesDeeper_1 kc_b8 rfl ?_
    refine am_icmp_ge (tgt := 14) (q := 6) dX7_goesDeeper_3 rfl rfl (fun _ => ?_) (fun hz => absurd (Int32.not_lt.mp fun q => h ((nI_ltI (b := 8) (by omega) (by decide)).mp q)) hz)
    refine am_aload_n (q := 15) dX7_goesDeeper_14 rfl rfl ?_
    refine cm_call0 (q := 18) (As := []) hG dX7_goesDeeper_15 mlX7_57 rfl (by assumption) ⟨_, _, rfl⟩ (Nat.le_of_ble_eq_true rfl) (Nat.le_of_ble_eq_true rfl) (Nat.le_of_ble_eq_true rfl) (Nat.le_of_ble_eq_true rfl) (k_X7_refuse hG ht hT hx hr hxt hs) rfl ?_
    rintro _ _ ⟨rfl, I1, rfl, hp, ho⟩
    exact fin I1 _ hp ho
end Rd
end
section
theorem kc_i5 : Int32.ofInt 5 = 5 := by decide +kernel
theorem kc_s258 : (Int16.ofInt 258).toInt32 = 258 := by decide +kernel
theorem dX7_expectNewName_0 : decode cX7_expectNewName 0 = .ok (.aload_n 0, 1) := by decide +kernel
theorem dX7_expectNewName_1 : decode cX7_expectNewName 1 = .ok (.invokevirtual 31, 3) := by decide +kernel
theorem dX7_expectNewName_4 : decode cX7_expectNewName 4 = .ok (.sipush 258, 3) := by decide +kernel
theorem dX7_expectNewName_7 : decode cX7_expectNewName 7 = .ok (.if_icmp .ne 12, 3) := by decide +kernel
theorem dX7_expectNewName_10 : decode cX7_expectNewName 10 = .ok (.iload_n 1, 1) := by decide +kernel
theorem dX7_expectNewName_11 : decode cX7_expectNewName 11 = .ok (.ifCond .eq 8, 3) := by decide +kernel
theorem dX7_expectNewName_14 : decode cX7_expectNewName 14 = .ok (.aload_n 0, 1) := by decide +kernel
theorem dX7_expectNewName_15 : decode cX7_expectNewName 15 = .ok (.iconst 2, 1) := by decide +kernel
theorem dX7_expectNewName_16 : decode cX7_expectNewName 16 = .ok (.invokevirtual 90, 3) := by decide +kernel
theorem dX7_expectNewName_19 : decode cX7_expectNewName 19 = .ok (.aload_n 0, 1) := by decide +kernel
theorem dX7_expectNewName_20 : decode cX7_expectNewName 20 = .ok (.invokevirtual 31, 3) := by decide +kernel
theorem dX7_expectNewName_23 : decode cX7_expectNewName 23 = .ok (.sipush 258, 3) := by decide +kernel
theorem dX7_expectNewName_26 : decode cX7_expectNewName 26 = .ok (.if_icmp .ne 12, 3) := by decide +kernel
theorem dX7_expectNewName_29 : decode cX7_expectNewName 29 = .ok (.iload_n 2, 1) := by decide +kernel
theorem dX7_expectNewName_30 : decode cX7_expectNewName 30 = .ok (.ifCond .eq 8, 3) := by decide +kernel
theorem dX7_expectNewName_33 : decode cX7_expectNewName 33 = .ok (.aload_n 0, 1) := by decide +kernel
theorem dX7_expectNewName_34 : decode cX7_expectNewName 34 = .ok (.iconst 4, 1) := by decide +kernel
theorem dX7_expectNewName_35 : decode cX7_expectNewName 35 = .ok (.invokevirtual 90, 3) := by decide +kernel
theorem dX7_expectNewName_38 : decode cX7_expectNewName 38 = .ok (.aload_n 0, 1) := by decide +kernel
theorem dX7_expectNewName_39 : decode cX7_expectNewName 39 = .ok (.sipush 258, 3) := by decide +kernel
theorem dX7_expectNewName_42 : decode cX7_expectNewName 42 = .ok (.invokevirtual 38, 3) := by decide +kernel
theorem dX7_expectNewName_45 : decode cX7_expectNewName 45 = .ok (.return_, 1) := by decide +kernel
theorem dX7_knownName_0 : decode cX7_knownName 0 = .ok (.aload_n 0, 1) := by decide +kernel
theorem dX7_knownName_1 : decode cX7_knownName 1 = .ok (.invokevirtual 31, 3) := by decide +kernel
theorem dX7_knownName_4 : decode cX7_knownName 4 = .ok (.sipush 258, 3) := by decide +kernel
theorem dX7_knownName_7 : decode cX7_knownName 7 = .ok (.if_icmp .ne 12, 3) := by decide +kernel
theorem dX7_knownName_10 : decode cX7_knownName 10 = .ok (.iload_n 1, 1) := by decide +kernel
theorem dX7_knownName_11 : decode cX7_knownName 11 = .ok (.ifCond .ge 8, 3) := by decide +kernel
theorem dX7_knownName_14 : decode cX7_knownName 14 = .ok (.aload_n 0, 1) := by decide +kernel
theorem dX7_knownName_15 : decode cX7_knownName 15 = .ok (.iconst 3, 1) := by decide +kernel
theorem dX7_knownName_16 : decode cX7_knownName 16 = .ok (.invokevirtual 90, 3) := by decide +kernel
theorem dX7_knownName_19 : decode cX7_knownName 19 = .ok (.aload_n 0, 1) := by decide +kernel
theorem dX7_knownName_20 : decode cX7_knownName 20 = .ok (.sipush 258, 3) := by decide +kernel
theorem dX7_knownName_23 : decode cX7_knownName 23 = .ok (.invokevirtual 38, 3) := by decide +kernel
theorem dX7_knownName_26 : decode cX7_knownName 26 = .ok (.iload_n 1, 1) := by decide +kernel
theorem dX7_knownName_27 : decode cX7_knownName 27 = .ok (.ireturn, 1) := by decide +kernel
theorem dX7_numberBehind_0 : decode cX7_numberBehind 0 = .ok (.aload_n 0, 1) := by decide +kernel
theorem dX7_numberBehind_1 : decode cX7_numberBehind 1 = .ok (.iload_n 1, 1) := by decide +kernel
theorem dX7_numberBehind_2 : decode cX7_numberBehind 2 = .ok (.invokevirtual 38, 3) := by decide +kernel
theorem dX7_numberBehind_5 : decode cX7_numberBehind 5 = .ok (.aload_n 0, 1) := by decide +kernel
theorem dX7_numberBehind_6 : decode cX7_numberBehind 6 = .ok (.invokevirtual 60, 3) := by decide +kernel
theorem dX7_numberBehind_9 : decode cX7_numberBehind 9 = .ok (.lstore 4, 2) := by decide +kernel
theorem dX7_numberBehind_11 : decode cX7_numberBehind 11 = .ok (.aload_n 0, 1) := by decide +kernel
theorem dX7_numberBehind_12 : decode cX7_numberBehind 12 = .ok (.invokevirtual 31, 3) := by decide +kernel
theorem dX7_numberBehind_15 : decode cX7_numberBehind 15 = .ok (.sipush 259, 3) := by decide +kernel
theorem dX7_numberBehind_18 : decode cX7_numberBehind 18 = .ok (.if_icmp .ne 24, 3) := by decide +kernel
theorem dX7_numberBehind_21 : decode cX7_numberBehind 21 = .ok (.lload 4, 2) := by decide +kernel
theorem dX7_numberBehind_23 : decode cX7_numberBehind 23 = .ok (.iload_n 2, 1) := by decide +kernel
theorem dX7_numberBehind_24 : decode cX7_numberBehind 24 = .ok (.i2l, 1) := by decide +kernel
theorem dX7_numberBehind_25 : decode cX7_numberBehind 25 = .ok (.lcmp, 1) := by decide +kernel
theorem dX7_numberBehind_26 : decode cX7_numberBehind 26 = .ok (.ifCond .lt 11, 3) := by decide +kernel
theorem dX7_numberBehind_29 : decode cX7_numberBehind 29 = .ok (.lload 4, 2) := by decide +kernel
theorem dX7_numberBehind_31 : decode cX7_numberBehind 31 = .ok (.iload_n 3, 1) := by decide +kernel
theorem dX7_numberBehind_32 : decode cX7_numberBehind 32 = .ok (.i2l, 1) := by decide +kernel
theorem dX7_numberBehind_33 : decode cX7_numberBehind 33 = .ok (.lcmp, 1) := by decide +kernel
theorem dX7_numberBehind_34 : decode cX7_numberBehind 34 = .ok (.ifCond .le 8, 3) := by decide +kernel
theorem dX7_numberBehind_37 : decode cX7_numberBehind 37 = .ok (.aload_n 0, 1) := by decide +kernel
theorem dX7_numberBehind_38 : decode cX7_numberBehind 38 = .ok (.iconst 5, 1) := by decide +kernel
theorem dX7_numberBehind_39 : decode cX7_numberBehind 39 = .ok (.invokevirtual 90, 3) := by decide +kernel
theorem dX7_numberBehind_42 : decode cX7_numberBehind 42 = .ok (.aload_n 0, 1) := by decide +kernel
theorem dX7_numberBehind_43 : decode cX7_numberBehind 43 = .ok (.sipush 259, 3) := by decide +kernel
theorem dX7_numberBehind_46 : decode cX7_numberBehind 46 = .ok (.invokevirtual 38, 3) := by decide +kernel
theorem dX7_numberBehind_49 : decode cX7_numberBehind 49 = .ok (.lload 4, 2) := by decide +kernel
theorem dX7_numberBehind_51 : decode cX7_numberBehind 51 = .ok (.l2i, 1) := by decide +kernel
theorem dX7_numberBehind_52 : decode cX7_numberBehind 52 = .ok (.ireturn, 1) := by decide +kernel
/-! the reader's names and numbers -/
def RD (S : AMem) (R : Nat → Nat → Option Nat) (x t : Nat) : Prop := TC S R t ∧ S.K x = 8 ∧ R x 0 = some t ∧ (x < t ∨ t + 4 < x)
def pKn (T : Toks) (i : Int32) (s : PS) : PS := pEx T 258 (if pK T s = 258 ∧ i < 0 then pBl T 3 s else s)
def pN1 (T : Toks) (a n : Int32) (s : PS) : PS := if pK T s = 258 ∧ a ≠ 0 then pBl T n s else s
def pNew (T : Toks) (a b : Int32) (s : PS) : PS := pEx T 258 (pN1 T b 4 (pN1 T a 2 s))
def pNum (T : Toks) (kw lo hi : Int32) (s : PS) : PS := pEx T 259 (if pK T (pEx T kw s) = 259 ∧ (pV T (pEx T kw s) < lo.toInt64 ∨ hi.toInt64 < pV T (pEx T kw s)) then pBl T 5 (pEx T kw s) else pEx T kw s)
def pT1 (T : Toks) (v : Int64) (s : PS) : PS := if pK T s = 259 ∧ 99 < v then pBl T 5 s else s
def pT2 (T : Toks) (v : Int64) (f : Int32) (s : PS) : PS := if pK T s = 259 ∧ v < f.toInt64 then pBl T 6 s else s
def pTo (T : Toks) (f : Int32) (s : PS) : PS := pEx T 259 (pT2 T (pV T (pEx T 307 s)) f (pT1 T (pV T (pEx T 307 s)) (pEx T 307 s)))
section Nm
variable {G : Gp} {S : AMem} {I : Nat → Nat → Int32} {J : Nat → Nat → Int64} {R : Nat → Nat → Option Nat} {t x c : Nat} {T : Toks} {s : PS}
theorem kx_kind (hG : okG G) (h : RD S R x t) (hT : AbT I J t T) (hs : AbP I x T s) : Fn G mX7_kind 1 [vR x] (mw S I J R) (fun rr M1 => rr = some (vI (pK T s)) ∧ M1 = mw S I J R) := k_X7_kind hG h.1 hT h.2.1 h.2.2.1 hs
theorem kx_value (hG : okG G) (h : RD S R x t) (hT : AbT I J t T) (hs : AbP I x T s) : Fn G mX7_value 1 [vR x] (mw S I J R) (fun rr M1 => rr = some (vJ (pV T s)) ∧ M1 = mw S I J R) := k_X7_value hG h.1 hT h.2.1 h.2.2.1 hs
theorem kx_expect {k : Int32} (hG : okG G) (h : RD S R x t) (hT : AbT I J t T) (hs : AbP I x T s) (hk : k ≠ 257) : Fn G mX7_expect 2 [vR x, vI k] (mw S I J R) (fun rr M1 => rr = none ∧ ∃ I1, M1 = mw S I1 J R ∧ AbP I1 x T (pEx T k s) ∧ OffR x I I1) := k_X7_expect hG h.1 hT h.2.1 h.2.2.1 h.2.2.2 hs hk
theorem kx_blame {n : Int32} (hG : okG G) (h : RD S R x t) (hT : AbT I J t T) (hs : AbP I x T s) : Fn G mX7_blame 1 [vR x, vI n] (mw S I J R) (fun rr M1 => rr = none ∧ ∃ I1, M1 = mw S I1 J R ∧ AbP I1 x T (pBl T n s) ∧ OffR x I I1) := k_X7_blame hG h.1 hT h.2.1 h.2.2.1 h.2.2.2 hs
theorem k_X7_knownName {i : Int32} (hG : okG G) (h : RD S R x t) (hT : AbT I J t T) (hs : AbP I x T s) : Fn G mX7_knownName 3 [vR x, vI i] (mw S I J R) (fun rr M1 => rr = some (vI i) ∧ ∃ I1, M1 = mw S I1 J R ∧ AbP I1 x T (pKn T i s) ∧ OffR x I I1) := by
  obtain ⟨h1, hx, hr, hxt⟩ := id h
  have fin : ∀ (I1 : Nat → Nat → Int32) (s1 : PS), AbP I1 x T s1 → OffR x I I1 → MW G mX7_knownName 3 19 [some (vR x), some (vI i)] [] (mw S I1 J R) (fun f M1 => ∃ r, f = .inl r ∧ (r = some (vI i) ∧ ∃ I1, M1 = mw S I1 J R ∧ AbP I1 x T (pEx T 258 s1) ∧ OffR x I I1)) := by
    intro I1 s1 q1 q2
    refine am_aload_n (q := 20) dX7_knownName_19 rfl rfl ?_
    refine am_sipush (q := 23) (v := 258) dX7_knownName_20 kc_s258 rfl ?_
    refine cm_call0 (q := 26) (As := [_]) hG dX7_knownName_23 mlX7_38 rfl (by assumption) ⟨_, _, rfl⟩ (Nat.le_of_ble_eq_true rfl) (Nat.le_of_ble_eq_true rfl) (Nat.le_of_ble_eq_true rfl) (Nat.le_of_ble_eq_true rfl) (kx_expect hG h (hT.off q2 hxt) q1 (by decide)) rfl ?_
    rintro _ _ ⟨rfl, I2, rfl, hp, ho⟩
    refine am_iload_n (q := 27) dX7_knownName_26 rfl rfl ?_
    exact am_iret dX7_knownName_27 rfl rfl ⟨_, rfl, rfl, I2, rfl, hp, q2.tr ho⟩
  unfold pKn
  refine am_aload_n (q := 1) dX7_knownName_0 rfl rfl ?_
  refine cm_call0 (q := 4) (As := []) hG dX7_knownName_1 mlX7_31 rfl (by assumption) ⟨_, _, rfl⟩ (Nat.le_of_ble_eq_true rfl) (Nat.le_of_ble_eq_true rfl) (Nat.le_of_ble_eq_true rfl) (Nat.le_of_ble_eq_true rfl) (kx_kind hG h hT hs) rfl ?_
  rintro _ _ ⟨rfl, rfl⟩
  refine am_sipush (q := 7) (v := 258) dX7_knownName_4 kc_s258 rfl ?_
  refine am_icmp_ne (tgt := 19) (q := 10) dX7_knownName_7 rfl rfl (fun hc => ?_) (fun hc => ?_)
  · rw [if_neg (fun q => hc q.1)]
    exact fin I s hs OffR.rf
  · refine am_iload_n (q := 11) dX7_knownName_10 rfl rfl ?_
    refine am_if_ge (tgt := 19) (q := 14) dX7_knownName_11 rfl rfl (fun hc2 => ?_) (fun hc2 => ?_)
    · rw [if_neg (fun q => Int32.not_lt.mpr hc2 q.2)]
      exact fin I s hs OffR.rf
    · rw [if_pos ⟨hc, Int32.not_le.mp hc2⟩]
      refine am_aload_n (q := 15) dX7_knownName_14 rfl rfl ?_
      refine am_iconst (q := 16) (v := 3) dX7_knownName_15 kc_i3 rfl ?_
      refine cm_call0 (q := 19) (As := [_]) hG dX7_knownName_16 mlX7_90 rfl (by assumption) ⟨_, _, rfl⟩ (Nat.le_of_ble_eq_true rfl) (Nat.le_of_ble_eq_true rfl) (Nat.le_of_ble_eq_true rfl) (Nat.le_of_ble_eq_true rfl) (kx_blame hG h hT hs) rfl ?_
      rintro _ _ ⟨rfl, I1, rfl, hp, ho⟩
      exact fin I1 _ hp ho
theorem k_X7_expectNewName {a b : Int32} (hG : okG G) (h : RD S R x t) (hT : AbT I J t T) (hs : AbP I x T s) : Fn G mX7_expectNewName 3 [vR x, vI a, vI b] (mw S I J R) (fun rr M1 => rr = none ∧ ∃ I1, M1 = mw S I1 J R ∧ AbP I1 x T (pNew T a b s) ∧ OffR x I I1) := by
  obtain ⟨h1, hx, hr, hxt⟩ := id h
  have fin : ∀ (I1 : Nat → Nat → Int32) (s1 : PS), AbP I1 x T s1 → OffR x I I1 → MW G mX7_expectNewName 3 38 [some (vR x), some (vI a), some (vI b)] [] (mw S I1 J R) (fun f M1 => ∃ r, f = .inl r ∧ (r = none ∧ ∃ I1, M1 = mw S I1 J R ∧ AbP I1 x T (pEx T 258 s1) ∧ OffR x I I1)) := by
    intro I1 s1 q1 q2
    refine am_aload_n (q := 39) dX7_expectNewName_38 rfl rfl ?_
    refine am_sipush (q := 42) (v := 258) dX7_expectNewName_39 kc_s258 rfl ?_
    refine cm_call0 (q := 45) (As := [_]) hG dX7_expectNewName_42 mlX7_38 rfl (by assumption) ⟨_, _, rfl⟩ (Nat.le_of_ble_eq_true rfl) (Nat.le_of_ble_eq_true rfl) (Nat.le_of_ble_eq_true rfl) (Nat.le_of_ble_eq_true rfl) (kx_expect hG h (hT.off q2 hxt) q1 (by decide)) rfl ?_
    rintro _ _ ⟨rfl, I2, rfl, hp, ho⟩
    exact am_ret dX7_expectNewName_45 rfl ⟨_, rfl, rfl, I2, rfl, hp, q2.tr ho⟩
  have mid : ∀ (I1 : Nat → Nat → Int32) (s1 : PS), AbP I1 x T s1 → OffR x I I1 → MW G mX7_expectNewName 3 19 [some (vR x), some (vI a), some (vI b)] [] (mw S I1 J R) (fun f M1 => ∃ r, f = .inl r ∧ (r = none ∧ ∃ I1, M1 = mw S I1 J R ∧ AbP I1 x T (pEx T 258 (pN1 T b 4 s1)) ∧ OffR x I I1)) := by
    intro I1 s1 q1 q2
    have hT1 := hT.off q2 hxt
    unfold pN1
    refine am_aload_n (q := 20) dX7_expectNewName_19 rfl rfl ?_
    refine cm_call0 (q := 23) (As := []) hG dX7_expectNewName_20 mlX7_31 rfl (by assumption) ⟨_, _, rfl⟩ (Nat.le_of_ble_eq_true rfl) (Nat.le_of_ble_eq_true rfl) (Nat.le_of_ble_eq_true rfl) (Nat.le_of_ble_eq_true rfl) (kx_kind hG h hT1 q1) rfl ?_
    rintro _ _ ⟨rfl, rfl⟩
    refine am_sipush (q := 26) (v := 258) dX7_expectNewName_23 kc_s258 rfl ?_
    refine am_icmp_ne (tgt := 38) (q := 29) dX7_expectNewName_26 rfl rfl (fun hc => ?_) (fun hc => ?_)
    · rw [if_neg (fun q => hc q.1)]
      exact fin I1 s1 q1 q2
    · refine am_iload_n (q := 30) dX7_expectNewName_29 rfl rfl ?_
      refine am_if_eq (tgt := 38) (q := 33) dX7_expectNewName_30 rfl rfl (fun hc2 => ?_) (fun hc2 => ?_)
      · rw [if_neg (fun q => q.2 hc2)]
        exact fin I1 s1 q1 q2
      · rw [if_pos ⟨hc, hc2⟩]
        refine am_aload_n (q := 34) dX7_expectNewName_33 rfl rfl ?_
        refine am_iconst (q := 35) (v := 4) dX7_expectNewName_34 kc_i4 rfl ?_
        refine cm_call0 (q := 38) (As := [_]) hG dX7_expectNewName_35 mlX7_90 rfl (by assumption) ⟨_, _, rfl⟩ (Nat.le_of_ble_eq_true rfl) (Nat.le_of_ble_eq_true rfl) (Nat.le_of_ble_eq_true rfl) (Nat.le_of_ble_eq_true rfl) (kx_blame hG h hT1 q1) rfl ?_
        rintro _ _ ⟨rfl, I2, rfl, hp, ho⟩
        exact fin I2 _ hp (q2.tr ho)
  unfold pNew
  have e : pN1 T a 2 s = pN1 T a 2 s := rfl
  conv at e => rhs; unfold pN1
  refine am_aload_n (q := 1) dX7_expectNewName_0 rfl rfl ?_
  refine cm_call0 (q := 4) (As := []) hG dX7_expectNewName_1 mlX7_31 rfl (by assumption) ⟨_, _, rfl⟩ (Nat.le_of_ble_eq_true rfl) (Nat.le_of_ble_eq_true rfl) (Nat.le_of_ble_eq_true rfl) (Nat.le_of_ble_eq_true rfl) (kx_kind hG h hT hs) rfl ?_
  rintro _ _ ⟨rfl, rfl⟩
  refine am_sipush (q := 7) (v := 258) dX7_expectNewName_4 kc_s258 rfl ?_
  refine am_icmp_ne (tgt := 19) (q := 10) dX7_expectNewName_7 rfl rfl (fun hc => ?_) (fun hc => ?_)
  · rw [if_neg (fun q => hc q.1)] at e
    rw [e]
    exact mid I s hs OffR.rf
  · refine am_iload_n (q := 11) dX7_expectNewName_10 rfl rfl ?_
    refine am_if_eq (tgt := 19) (q := 14) dX7_expectNewName_11 rfl rfl (fun hc2 => ?_) (fun hc2 => ?_)
    · rw [if_neg (fun q => q.2 hc2)] at e
      rw [e]
      exact mid I s hs OffR.rf
    · rw [if_pos ⟨hc, hc2⟩] at e
      rw [e]
      refine am_aload_n (q := 15) dX7_expectNewName_14 rfl rfl ?_
      refine am_iconst (q := 16) (v := 2) dX7_expectNewName_15 kc_i2 rfl ?_
      refine cm_call0 (q := 19) (As := [_]) hG dX7_expectNewName_16 mlX7_90 rfl (by assumption) ⟨_, _, rfl⟩ (Nat.le_of_ble_eq_true rfl) (Nat.le_of_ble_eq_true rfl) (Nat.le_of_ble_eq_true rfl) (Nat.le_of_ble_eq_true rfl) (kx_blame hG h hT hs) rfl ?_
      rintro _ _ ⟨rfl, I1, rfl, hp, ho⟩
      exact mid I1 _ hp ho
theorem k_X7_numberBehind {kw lo hi : Int32} (hG : okG G) (h : RD S R x t) (hT : AbT I J t T) (hs : AbP I x T s) (hk : kw ≠ 257) : Fn G mX7_numberBehind 3 [vR x, vI kw, vI lo, vI hi] (mw S I J R) (fun rr M1 => rr = some (vI (pV T (pEx T kw s)).toInt32) ∧ ∃ I1, M1 = mw S I1 J R ∧ AbP I1 x T (pNum T kw lo hi s) ∧ OffR x I I1) := by
  obtain ⟨h1, hx, hr, hxt⟩ := id h
  unfold pNum
  refine am_aload_n (q := 1) dX7_numberBehind_0 rfl rfl ?_
  refine am_iload_n (q := 2) dX7_numberBehind_1 rfl rfl ?_
  refine cm_call0 (q := 5) (As := [_]) hG dX7_numberBehind_2 mlX7_38 rfl (by assumption) ⟨_, _, rfl⟩ (Nat.le_of_ble_eq_true rfl) (Nat.le_of_ble_eq_true rfl) (Nat.le_of_ble_eq_true rfl) (Nat.le_of_ble_eq_true rfl) (kx_expect hG h hT hs hk) rfl ?_
  rintro _ _ ⟨rfl, I0, rfl, hp0, ho0⟩
  generalize pEx T kw s = s0 at hp0 ⊢
  have hT0 := hT.off ho0 hxt
  have fin : ∀ (I1 : Nat → Nat → Int32) (s1 : PS), AbP I1 x T s1 → OffR x I I1 → MW G mX7_numberBehind 3 42 [some (vR x), some (vI kw), some (vI lo), some (vI hi), some (vJ (pV T s0)), none] [] (mw S I1 J R) (fun f M1 => ∃ r, f = .inl r ∧ (r = some (vI (pV T s0).toInt32) ∧ ∃ I1, M1 = mw S I1 J R ∧ AbP I1 x T (pEx T 259 s1) ∧ OffR x I I1)) := by
    intro I1 s1 q1 q2
    refine am_aload_n (q := 43) dX7_numberBehind_42 rfl rfl ?_
    refine am_sipush (q := 46) (v := 259) dX7_numberBehind_43 kc_s259 rfl ?_
    refine cm_call0 (q := 49) (As := [_]) hG dX7_numberBehind_46 mlX7_38 rfl (by assumption) ⟨_, _, rfl⟩ (Nat.le_of_ble_eq_true rfl) (Nat.le_of_ble_eq_true rfl) (Nat.le_of_ble_eq_true rfl) (Nat.le_of_ble_eq_true rfl) (kx_expect hG h (hT.off q2 hxt) q1 (by decide)) rfl ?_
    rintro _ _ ⟨rfl, I2, rfl, hp, ho⟩
    refine am_lload (q := 51) dX7_numberBehind_49 rfl rfl ?_
    refine am_l2i (q := 52) dX7_numberBehind_51 rfl ?_
    exact am_iret dX7_numberBehind_52 rfl rfl ⟨_, rfl, rfl, I2, rfl, hp, q2.tr ho⟩
  refine am_aload_n (q := 6) dX7_numberBehind_5 rfl rfl ?_
  refine cm_call0 (q := 9) (As := []) hG dX7_numberBehind_6 mlX7_60 rfl (by assumption) ⟨_, _, rfl⟩ (Nat.le_of_ble_eq_true rfl) (Nat.le_of_ble_eq_true rfl) (Nat.le_of_ble_eq_true rfl) (Nat.le_of_ble_eq_true rfl) (kx_value hG h hT0 hp0) rfl ?_
  rintro _ _ ⟨rfl, rfl⟩
  refine am_lstore (q := 11) (ls1 := [_, _, _, _, _, _]) dX7_numberBehind_9 (Nat.le_of_ble_eq_true rfl) rfl rfl ?_
  refine am_aload_n (q := 12) dX7_numberBehind_11 rfl rfl ?_
  refine cm_call0 (q := 15) (As := []) hG dX7_numberBehind_12 mlX7_31 rfl (by assumption) ⟨_, _, rfl⟩ (Nat.le_of_ble_eq_true rfl) (Nat.le_of_ble_eq_true rfl) (Nat.le_of_ble_eq_true rfl) (Nat.le_of_ble_eq_true rfl) (kx_kind hG h hT0 hp0) rfl ?_
  rintro _ _ ⟨rfl, rfl⟩
  refine am_sipush (q := 18) (v := 259) dX7_numberBehind_15 kc_s259 rfl ?_
  have bad : pK T s0 = 259 → (pV T s0 < lo.toInt64 ∨ hi.toInt64 < pV T s0) → MW G mX7_numberBehind 3 37 [some (vR x), some (vI kw), some (vI lo), some (vI hi), some (vJ (pV T s0)), none] [] (mw S I0 J R) (fun f M1 => ∃ r, f = .inl r ∧ (r = some (vI (pV T s0).toInt32) ∧ ∃ I1, M1 = mw S I1 J R ∧ AbP I1 x T (pEx T 259 (if pK T s0 = 259 ∧ (pV T s0 < lo.toInt64 ∨ hi.toInt64 < pV T s0) then pBl T 5 s0 else s0)) ∧ OffR x I I1)) := by
    intro q1 q2
    rw [if_pos ⟨q1, q2⟩]
    refine am_aload_n (q := 38) dX7_numberBehind_37 rfl rfl ?_
    refine am_iconst (q := 39) (v := 5) dX7_numberBehind_38 kc_i5 rfl ?_
    refine cm_call0 (q := 42) (As := [_]) hG dX7_numberBehind_39 mlX7_90 rfl (by assumption) ⟨_, _, rfl⟩ (Nat.le_of_ble_eq_true rfl) (Nat.le_of_ble_eq_true rfl) (Nat.le_of_ble_eq_true rfl) (Nat.le_of_ble_eq_true rfl) (kx_blame hG h hT0 hp0) rfl ?_
    rintro _ _ ⟨rfl, I1, rfl, hp, ho⟩
    exact fin I1 _ hp (ho0.tr ho)
  refine am_icmp_ne (tgt := 42) (q := 21) dX7_numberBehind_18 rfl rfl (fun hc => ?_) (fun hc => ?_)
  · rw [if_neg (fun q => hc q.1)]
    exact fin I0 _ hp0 ho0
  · refine am_lload (q := 23) dX7_numberBehind_21 rfl rfl ?_
    refine am_iload_n (q := 24) dX7_numberBehind_23 rfl rfl ?_
    refine am_i2l (q := 25) dX7_numberBehind_24 rfl ?_
    refine am_lcmp (q := 26) dX7_numberBehind_25 rfl ?_
    refine am_if_lt (tgt := 37) (q := 29) dX7_numberBehind_26 rfl rfl (fun hc2 => ?_) (fun hc2 => ?_)
    · exact bad hc (Or.inl ((lg_cmp_lt _ _).mp hc2))
    · refine am_lload (q := 31) dX7_numberBehind_29 rfl rfl ?_
      refine am_iload_n (q := 32) dX7_numberBehind_31 rfl rfl ?_
      refine am_i2l (q := 33) dX7_numberBehind_32 rfl ?_
      refine am_lcmp (q := 34) dX7_numberBehind_33 rfl ?_
      refine am_if_le (tgt := 42) (q := 37) dX7_numberBehind_34 rfl rfl (fun hc3 => ?_) (fun hc3 => ?_)
      · rw [if_neg]
        · exact fin I0 _ hp0 ho0
        · rintro ⟨_, q | q⟩
          · exact hc2 ((lg_cmp_lt _ _).mpr q)
          · exact absurd q (Int64.not_lt.mpr ((lg_cmp_le _ _).mp hc3))
      · exact bad hc (Or.inr (Int64.not_le.mp fun q => hc3 ((lg_cmp_le _ _).mpr q)))
end Nm
end
section
theorem kc_b61 : (Int8.ofInt 61).toInt32 = 61 := by decide +kernel
theorem kc_b62 : (Int8.ofInt 62).toInt32 = 62 := by decide +kernel
theorem kc_s260 : (Int16.ofInt 260).toInt32 = 260 := by decide +kernel
theorem kc_s261 : (Int16.ofInt 261).toInt32 = 261 := by decide +kernel
theorem kc_s324 : (Int16.ofInt 324).toInt32 = 324 := by decide +kernel
theorem kc_s325 : (Int16.ofInt 325).toInt32 = 325 := by decide +kernel
theorem dX7_indexOf_0 : decode cX7_indexOf 0 = .ok (.iload_n 1, 1) := by decide +kernel
theorem dX7_indexOf_1 : decode cX7_indexOf 1 = .ok (.sipush 324, 3) := by decide +kernel
theorem dX7_indexOf_4 : decode cX7_indexOf 4 = .ok (.if_icmp .ne 12, 3) := by decide +kernel
theorem dX7_indexOf_7 : decode cX7_indexOf 7 = .ok (.aload_n 0, 1) := by decide +kernel
theorem dX7_indexOf_8 : decode cX7_indexOf 8 = .ok (.getfield 15, 3) := by decide +kernel
theorem dX7_indexOf_11 : decode cX7_indexOf 11 = .ok (.lload_n 2, 1) := by decide +kernel
theorem dX7_indexOf_12 : decode cX7_indexOf 12 = .ok (.invokevirtual 64, 3) := by decide +kernel
theorem dX7_indexOf_15 : decode cX7_indexOf 15 = .ok (.ireturn, 1) := by decide +kernel
theorem dX7_indexOf_16 : decode cX7_indexOf 16 = .ok (.iload_n 1, 1) := by decide +kernel
theorem dX7_indexOf_17 : decode cX7_indexOf 17 = .ok (.sipush 325, 3) := by decide +kernel
theorem dX7_indexOf_20 : decode cX7_indexOf 20 = .ok (.if_icmp .ne 14, 3) := by decide +kernel
theorem dX7_indexOf_23 : decode cX7_indexOf 23 = .ok (.aload_n 0, 1) := by decide +kernel
theorem dX7_indexOf_24 : decode cX7_indexOf 24 = .ok (.getfield 15, 3) := by decide +kernel
theorem dX7_indexOf_27 : decode cX7_indexOf 27 = .ok (.lload_n 2, 1) := by decide +kernel
theorem dX7_indexOf_28 : decode cX7_indexOf 28 = .ok (.invokevirtual 113, 3) := by decide +kernel
theorem dX7_indexOf_31 : decode cX7_indexOf 31 = .ok (.goto 11, 3) := by decide +kernel
theorem dX7_indexOf_34 : decode cX7_indexOf 34 = .ok (.aload_n 0, 1) := by decide +kernel
theorem dX7_indexOf_35 : decode cX7_indexOf 35 = .ok (.getfield 15, 3) := by decide +kernel
theorem dX7_indexOf_38 : decode cX7_indexOf 38 = .ok (.lload_n 2, 1) := by decide +kernel
theorem dX7_indexOf_39 : decode cX7_indexOf 39 = .ok (.invokevirtual 104, 3) := by decide +kernel
theorem dX7_indexOf_42 : decode cX7_indexOf 42 = .ok (.ireturn, 1) := by decide +kernel
theorem dX7_isComparing_0 : decode cX7_isComparing 0 = .ok (.iload_n 0, 1) := by decide +kernel
theorem dX7_isComparing_1 : decode cX7_isComparing 1 = .ok (.bipush 60, 2) := by decide +kernel
theorem dX7_isComparing_3 : decode cX7_isComparing 3 = .ok (.if_icmp .eq 29, 3) := by decide +kernel
theorem dX7_isComparing_6 : decode cX7_isComparing 6 = .ok (.iload_n 0, 1) := by decide +kernel
theorem dX7_isComparing_7 : decode cX7_isComparing 7 = .ok (.bipush 62, 2) := by decide +kernel
theorem dX7_isComparing_9 : decode cX7_isComparing 9 = .ok (.if_icmp .eq 23, 3) := by decide +kernel
theorem dX7_isComparing_12 : decode cX7_isComparing 12 = .ok (.iload_n 0, 1) := by decide +kernel
theorem dX7_isComparing_13 : decode cX7_isComparing 13 = .ok (.bipush 61, 2) := by decide +kernel
theorem dX7_isComparing_15 : decode cX7_isComparing 15 = .ok (.if_icmp .eq 17, 3) := by decide +kernel
theorem dX7_isComparing_18 : decode cX7_isComparing 18 = .ok (.iload_n 0, 1) := by decide +kernel
theorem dX7_isComparing_19 : decode cX7_isComparing 19 = .ok (.sipush 260, 3) := by decide +kernel
theorem dX7_isComparing_22 : decode cX7_isComparing 22 = .ok (.if_icmp .eq 10, 3) := by decide +kernel
theorem dX7_isComparing_25 : decode cX7_isComparing 25 = .ok (.iload_n 0, 1) := by decide +kernel
theorem dX7_isComparing_26 : decode cX7_isComparing 26 = .ok (.sipush 261, 3) := by decide +kernel
theorem dX7_isComparing_29 : decode cX7_isComparing 29 = .ok (.if_icmp .ne 7, 3) := by decide +kernel
theorem dX7_isComparing_32 : decode cX7_isComparing 32 = .ok (.iconst 1, 1) := by decide +kernel
theorem dX7_isComparing_33 : decode cX7_isComparing 33 = .ok (.goto 4, 3) := by decide +kernel
theorem dX7_isComparing_36 : decode cX7_isComparing 36 = .ok (.iconst 0, 1) := by decide +kernel
theorem dX7_isComparing_37 : decode cX7_isComparing 37 = .ok (.ireturn, 1) := by decide +kernel
theorem dX7_readNamedValue_0 : decode cX7_readNamedValue 0 = .ok (.aload_n 0, 1) := by decide +kernel
theorem dX7_readNamedValue_1 : decode cX7_readNamedValue 1 = .ok (.iload_n 1, 1) := by decide +kernel
theorem dX7_readNamedValue_2 : decode cX7_readNamedValue 2 = .ok (.invokevirtual 38, 3) := by decide +kernel
theorem dX7_readNamedValue_5 : decode cX7_readNamedValue 5 = .ok (.aload_n 0, 1) := by decide +kernel
theorem dX7_readNamedValue_6 : decode cX7_readNamedValue 6 = .ok (.aload_n 0, 1) := by decide +kernel
theorem dX7_readNamedValue_7 : decode cX7_readNamedValue 7 = .ok (.iload_n 1, 1) := by decide +kernel
theorem dX7_readNamedValue_8 : decode cX7_readNamedValue 8 = .ok (.aload_n 0, 1) := by decide +kernel
theorem dX7_readNamedValue_9 : decode cX7_readNamedValue 9 = .ok (.invokevirtual 60, 3) := by decide +kernel
theorem dX7_readNamedValue_12 : decode cX7_readNamedValue 12 = .ok (.invokevirtual 180, 3) := by decide +kernel
theorem dX7_readNamedValue_15 : decode cX7_readNamedValue 15 = .ok (.invokevirtual 93, 3) := by decide +kernel
theorem dX7_readNamedValue_18 : decode cX7_readNamedValue 18 = .ok (.istore_n 2, 1) := by decide +kernel
theorem dX7_readNamedValue_19 : decode cX7_readNamedValue 19 = .ok (.aload_n 0, 1) := by decide +kernel
theorem dX7_readNamedValue_20 : decode cX7_readNamedValue 20 = .ok (.getfield 15, 3) := by decide +kernel
theorem dX7_readNamedValue_23 : decode cX7_readNamedValue 23 = .ok (.getfield 119, 3) := by decide +kernel
theorem dX7_readNamedValue_26 : decode cX7_readNamedValue 26 = .ok (.iload_n 1, 1) := by decide +kernel
theorem dX7_readNamedValue_27 : decode cX7_readNamedValue 27 = .ok (.iload_n 2, 1) := by decide +kernel
theorem dX7_readNamedValue_28 : decode cX7_readNamedValue 28 = .ok (.invokevirtual 147, 3) := by decide +kernel
theorem dX7_readNamedValue_31 : decode cX7_readNamedValue 31 = .ok (.return_, 1) := by decide +kernel
theorem dX7_readPlainValue_0 : decode cX7_readPlainValue 0 = .ok (.aload_n 0, 1) := by decide +kernel
theorem dX7_readPlainValue_1 : decode cX7_readPlainValue 1 = .ok (.getfield 15, 3) := by decide +kernel
theorem dX7_readPlainValue_4 : decode cX7_readPlainValue 4 = .ok (.getfield 119, 3) := by decide +kernel
theorem dX7_readPlainValue_7 : decode cX7_readPlainValue 7 = .ok (.iload_n 1, 1) := by decide +kernel
theorem dX7_readPlainValue_8 : decode cX7_readPlainValue 8 = .ok (.aload_n 0, 1) := by decide +kernel
theorem dX7_readPlainValue_9 : decode cX7_readPlainValue 9 = .ok (.invokevirtual 60, 3) := by decide +kernel
theorem dX7_readPlainValue_12 : decode cX7_readPlainValue 12 = .ok (.l2i, 1) := by decide +kernel
theorem dX7_readPlainValue_13 : decode cX7_readPlainValue 13 = .ok (.invokevirtual 147, 3) := by decide +kernel
theorem dX7_readPlainValue_16 : decode cX7_readPlainValue 16 = .ok (.aload_n 0, 1) := by decide +kernel
theorem dX7_readPlainValue_17 : decode cX7_readPlainValue 17 = .ok (.iload_n 1, 1) := by decide +kernel
theorem dX7_readPlainValue_18 : decode cX7_readPlainValue 18 = .ok (.invokevirtual 38, 3) := by decide +kernel
theorem dX7_readPlainValue_21 : decode cX7_readPlainValue 21 = .ok (.return_, 1) := by decide +kernel
/-! the reader's code: plain values, named values -/
abbrev Cd : Type := List (Int32 × Int32)
def adC (L : Cd) (x : Int32 × Int32) : Cd := if L.length < 400 then L ++ [x] else L
def AbC (I : Nat → Nat → Int32) (c : Nat) (L : Cd) : Prop := I (c + 1) 4 = nI L.length ∧ L.length ≤ 400 ∧ ∀ i, i < L.length → I (c + 2) i = (L.getD i (0, 0)).1 ∧ I (c + 3) i = (L.getD i (0, 0)).2
/-- nothing but the reader at x and the code of the contest at c has changed -/
def OffE (x c : Nat) (I I1 : Nat → Nat → Int32) : Prop := ∀ y j, y ≠ x → (y ≠ c + 1 ∨ j ≠ 4) → y ≠ c + 2 → y ≠ c + 3 → I1 y j = I y j
def OffD (c : Nat) (I I1 : Nat → Nat → Int32) : Prop := ∀ y j, (y ≠ c + 1 ∨ j ≠ 4) → y ≠ c + 2 → y ≠ c + 3 → I1 y j = I y j
theorem OffD.e {x c : Nat} {I I1 : Nat → Nat → Int32} (h : OffD c I I1) : OffE x c I I1 := fun y j _ p q r => h y j p q r
theorem OffE.rf {x c : Nat} {I : Nat → Nat → Int32} : OffE x c I I := fun _ _ _ _ _ _ => rfl
theorem OffE.tr {x c : Nat} {I I1 I2 : Nat → Nat → Int32} (h1 : OffE x c I I1) (h2 : OffE x c I1 I2) : OffE x c I I2 := fun y j p q r s => (h2 y j p q r s).trans (h1 y j p q r s)
theorem OffR.e {x c : Nat} {I I1 : Nat → Nat → Int32} (h : OffR x I I1) : OffE x c I I1 := fun y j p _ _ _ => h y j p
theorem AbC.off {x c : Nat} {I I1 : Nat → Nat → Int32} {L : Cd} (h : AbC I c L) (ho : OffR x I I1) (hx : x < c ∨ c + 58 ≤ x) : AbC I1 c L := by
  obtain ⟨h1, h2, h3⟩ := h
  refine ⟨(ho _ _ (by omega)).trans h1, h2, fun i hi => ?_⟩
  rw [ho _ _ (by omega), ho _ _ (by omega)]
  exact h3 i hi
/-- the index that a name has where a word of the kind stands -/
def ixM (J : Nat → Nat → Int64) (c n1 n2 n3 : Nat) (k : Int32) (v : Int64) : Int32 := if k = 324 then fndJ (fun i => J (c + 14 + 2 * i) 1) v 0 n1 else if k = 325 then fndJ (fun i => J (c + 30 + i) 0) v 0 n3 else fndJ (fun i => J (c + 22 + i) 0) v 0 n2
def Cnt (I : Nat → Nat → Int32) (c n1 n2 n3 : Nat) : Prop := I c 8 = nI n1 ∧ n1 ≤ 4 ∧ I c 10 = nI n2 ∧ n2 ≤ 8 ∧ I c 11 = nI n3 ∧ n3 ≤ 8
theorem Cnt.off {x c n1 n2 n3 : Nat} {I I1 : Nat → Nat → Int32} (h : Cnt I c n1 n2 n3) (ho : OffE x c I I1) (hx : x < c ∨ c + 58 ≤ x) : Cnt I1 c n1 n2 n3 := by
  obtain ⟨h1, h2, h3, h4, h5, h6⟩ := h
  have e : ∀ j, I1 c j = I c j := fun j => ho _ _ (by omega) (Or.inl (by omega)) (by omega) (by omega)
  exact ⟨(e 8).trans h1, h2, (e 10).trans h3, h4, (e 11).trans h5, h6⟩
theorem AbT.offE {x t c : Nat} {I I1 : Nat → Nat → Int32} {J : Nat → Nat → Int64} {T : Toks} (h : AbT I J t T) (ho : OffE x c I I1) (h1 : x < t ∨ t + 4 < x) (h2 : t + 4 < c ∨ c + 58 ≤ t) : AbT I1 J t T := by
  obtain ⟨a1, a2, a3, a4, a5⟩ := h
  refine ⟨(ho _ _ (by omega) (Or.inl (by omega)) (by omega) (by omega)).trans a1, a2, fun i hi => (ho _ _ (by omega) (Or.inl (by omega)) (by omega) (by omega)).trans (a3 i hi), fun i hi => (ho _ _ (by omega) (Or.inl (by omega)) (by omega) (by omega)).trans (a4 i hi), a5⟩
/-- the reader, its tokens and its contest lie apart -/
def RX (S : AMem) (R : Nat → Nat → Option Nat) (x t c : Nat) : Prop := RD S R x t ∧ CT S R c ∧ R x 1 = some c ∧ (x < c ∨ c + 58 ≤ x) ∧ (t + 4 < c ∨ c + 58 ≤ t)
section Vl
variable {G : Gp} {S : AMem} {I : Nat → Nat → Int32} {J : Nat → Nat → Int64} {R : Nat → Nat → Option Nat} {t x c n1 n2 n3 : Nat} {T : Toks} {s : PS} {L : Cd}
theorem k_X7_isComparing {k : Int32} : Fn G mX7_isComparing 0 [vI k] (mw S I J R) (fun rr M1 => rr = some (vI (bI (k = 60 ∨ k = 62 ∨ k = 61 ∨ k = 260 ∨ k = 261))) ∧ M1 = mw S I J R) := by
  refine am_iload_n (q := 1) dX7_isComparing_0 rfl rfl ?_
  refine am_bipush (q := 3) (v := 60) dX7_isComparing_1 kc_b60 rfl ?_
  refine am_icmp_eq (tgt := 32) (q := 6) dX7_isComparing_3 rfl rfl (fun h1 => ?_) (fun h1 => ?_)
  · refine am_iconst (q := 33) (v := 1) dX7_isComparing_32 kc_i1 rfl ?_
    refine am_goto (tgt := 37) dX7_isComparing_33 rfl ?_
    exact am_iret dX7_isComparing_37 rfl rfl ⟨_, rfl, by rw [bI_t (Or.inl h1)], rfl⟩
  · refine am_iload_n (q := 7) dX7_isComparing_6 rfl rfl ?_
    refine am_bipush (q := 9) (v := 62) dX7_isComparing_7 kc_b62 rfl ?_
    refine am_icmp_eq (tgt := 32) (q := 12) dX7_isComparing_9 rfl rfl (fun h2 => ?_) (fun h2 => ?_)
    · refine am_iconst (q := 33) (v := 1) dX7_isComparing_32 kc_i1 rfl ?_
      refine am_goto (tgt := 37) dX7_isComparing_33 rfl ?_
      exact am_iret dX7_isComparing_37 rfl rfl ⟨_, rfl, by rw [bI_t (Or.inr (Or.inl h2))], rfl⟩
    · refine am_iload_n (q := 13) dX7_isComparing_12 rfl rfl ?_
      refine am_bipush (q := 15) (v := 61) dX7_isComparing_13 kc_b61 rfl ?_
      refine am_icmp_eq (tgt := 32) (q := 18) dX7_isComparing_15 rfl rfl (fun h3 => ?_) (fun h3 => ?_)
      · refine am_iconst (q := 33) (v := 1) dX7_isComparing_32 kc_i1 rfl ?_
        refine am_goto (tgt := 37) dX7_isComparing_33 rfl ?_
        exact am_iret dX7_isComparing_37 rfl rfl ⟨_, rfl, by rw [bI_t (Or.inr (Or.inr (Or.inl h3)))], rfl⟩
      · refine am_iload_n (q := 19) dX7_isComparing_18 rfl rfl ?_
        refine am_sipush (q := 22) (v := 260) dX7_isComparing_19 kc_s260 rfl ?_
        refine am_icmp_eq (tgt := 32) (q := 25) dX7_isComparing_22 rfl rfl (fun h4 => ?_) (fun h4 => ?_)
        · refine am_iconst (q := 33) (v := 1) dX7_isComparing_32 kc_i1 rfl ?_
          refine am_goto (tgt := 37) dX7_isComparing_33 rfl ?_
          exact am_iret dX7_isComparing_37 rfl rfl ⟨_, rfl, by rw [bI_t (Or.inr (Or.inr (Or.inr (Or.inl h4))))], rfl⟩
        · refine am_iload_n (q := 26) dX7_isComparing_25 rfl rfl ?_
          refine am_sipush (q := 29) (v := 261) dX7_isComparing_26 kc_s261 rfl ?_
          refine am_icmp_ne (tgt := 36) (q := 32) dX7_isComparing_29 rfl rfl (fun h5 => ?_) (fun h5 => ?_)
          · refine am_iconst (q := 37) (v := 0) dX7_isComparing_36 kc_i0 rfl ?_
            exact am_iret dX7_isComparing_37 rfl rfl ⟨_, rfl, by
              rw [bI_f]
              rintro (q | q | q | q | q)
              · exact h1 q
              · exact h2 q
              · exact h3 q
              · exact h4 q
              · exact h5 q, rfl⟩
          · refine am_iconst (q := 33) (v := 1) dX7_isComparing_32 kc_i1 rfl ?_
            refine am_goto (tgt := 37) dX7_isComparing_33 rfl ?_
            exact am_iret dX7_isComparing_37 rfl rfl ⟨_, rfl, by rw [bI_t (Or.inr (Or.inr (Or.inr (Or.inr h5))))], rfl⟩
theorem k_adC {k g : Int32} (hct : CT S R c) (hL : AbC I c L) : Fn G mX1_add 0 [vR (c + 1), vI k, vI g] (mw S I J R) (fun rr M1 => rr = none ∧ ∃ I1, M1 = mw S I1 J R ∧ AbC I1 c (adC L (k, g)) ∧ OffD c I I1) := by
  obtain ⟨kc, rc0, rc1, rc2, rc3, rc4, rc5, rc6, rc7, ⟨kd, rd0, rd1, rd2, kd2, ld2, kd3, ld3, kd4, ld4⟩, ⟨kb, rb, kb6, lb6⟩, ⟨kf, rf, kf8, lf8⟩, ⟨kr, lr, hr⟩, ⟨kfi, lfi, hfi⟩, ⟨kp, lp, hpz⟩, ⟨kt, lt, htu⟩, kw, lw⟩ := id hct
  obtain ⟨l1, l2, l3⟩ := hL
  by_cases h : L.length < 400
  · refine MW.weaken (k_X1_add (k := k) (g := g) kd rd0 kd2 ld2 rd1 kd3 ld3 (by omega) l1 h) ?_
    rintro f M1 ⟨r, e1, e2, rfl⟩
    refine ⟨r, e1, e2, _, rfl, ?_, ?_⟩
    · unfold adC
      rw [if_pos h]
      refine ⟨?_, by simp; omega, fun i hi => ?_⟩
      · show (if c + 1 = c + 2 ∧ 4 = L.length then _ else if c + 1 = c + 3 ∧ 4 = L.length then _ else if c + 1 = c + 1 ∧ 4 = 4 then nI (L.length + 1) else _) = _
        rw [if_neg (by omega), if_neg (by omega), if_pos ⟨rfl, rfl⟩]
        simp
      · have hi2 : i < L.length + 1 := by simpa using hi
        show (if c + 2 = c + 2 ∧ i = L.length then k else if c + 2 = c + 3 ∧ i = L.length then g else if c + 2 = c + 1 ∧ i = 4 then _ else I (c + 2) i) = _ ∧ (if c + 3 = c + 2 ∧ i = L.length then k else if c + 3 = c + 3 ∧ i = L.length then g else if c + 3 = c + 1 ∧ i = 4 then _ else I (c + 3) i) = _
        by_cases e : i = L.length
        · rw [if_pos ⟨rfl, e⟩, if_neg (by omega), if_pos ⟨rfl, e⟩, e]
          simp
        · obtain ⟨q1, q2⟩ := l3 i (by omega)
          rw [if_neg (by omega), if_neg (by omega), if_neg (by omega), if_neg (by omega), if_neg (by omega), if_neg (by omega), q1, q2]
          have hlt : i < L.length := by omega
          simp [List.getD, List.getElem?_append_left hlt]
    · intro y j q2 q3 q4
      show (if y = c + 2 ∧ j = L.length then _ else if y = c + 3 ∧ j = L.length then _ else if y = c + 1 ∧ j = 4 then _ else I y j) = _
      rw [if_neg (fun z => q3 z.1), if_neg (fun z => q4 z.1), if_neg (fun z => by omega)]
  · have hz : I (c + 1) 4 = nI 400 := by rw [l1, show L.length = 400 by omega]
    refine MW.weaken (k_X1_addFull (k := k) (g := g) kd rd0 kd2 ld2 hz) ?_
    rintro f M1 ⟨r, e1, e2, rfl⟩
    refine ⟨r, e1, e2, I, rfl, ?_, fun _ _ _ _ _ => rfl⟩
    unfold adC
    rw [if_neg h]
    exact ⟨l1, l2, l3⟩
theorem AbP.offD {I1 : Nat → Nat → Int32} (h : AbP I x T s) (ho : OffD c I I1) (hx : x < c ∨ c + 58 ≤ x) : AbP I1 x T s := by
  obtain ⟨h1, h2, h3, h4⟩ := h
  exact ⟨(ho _ _ (by omega) (by omega) (by omega)).trans h1, (ho _ _ (by omega) (by omega) (by omega)).trans h2, (ho _ _ (by omega) (by omega) (by omega)).trans h3, h4⟩
/-- what stands while a bill is read: tokens, reader, code, counts -/
def AbE (I : Nat → Nat → Int32) (J : Nat → Nat → Int64) (x t c n1 n2 n3 : Nat) (T : Toks) (s : PS × Cd) : Prop := AbT I J t T ∧ AbP I x T s.1 ∧ AbC I c s.2 ∧ Cnt I c n1 n2 n3
theorem AbE.r {I1 : Nat → Nat → Int32} {s1 : PS} {s : PS × Cd} (hX : RX S R x t c) (h : AbE I J x t c n1 n2 n3 T s) (hp : AbP I1 x T s1) (ho : OffR x I I1) : AbE I1 J x t c n1 n2 n3 T (s1, s.2) :=
  ⟨h.1.off ho hX.1.2.2.2, hp, h.2.2.1.off ho hX.2.2.2.1, h.2.2.2.off ho.e hX.2.2.2.1⟩
theorem AbE.d {I1 : Nat → Nat → Int32} {L1 : Cd} {s : PS × Cd} (hX : RX S R x t c) (h : AbE I J x t c n1 n2 n3 T s) (hp : AbC I1 c L1) (ho : OffD c I I1) : AbE I1 J x t c n1 n2 n3 T (s.1, L1) :=
  ⟨h.1.offE (x := x) ho.e hX.1.2.2.2 hX.2.2.2.2, h.2.1.offD ho hX.2.2.2.1, hp, h.2.2.2.off (x := x) ho.e hX.2.2.2.1⟩
def eEx (T : Toks) (k : Int32) (s : PS × Cd) : PS × Cd := (pEx T k s.1, s.2)
def eRef (T : Toks) (s : PS × Cd) : PS × Cd := (pRef T s.1, s.2)
def eDp (T : Toks) (k : Int32) (d : Nat) (s : PS × Cd) : PS × Cd := (pDp T k d s.1, s.2)
def eAd (k g : Int32) (s : PS × Cd) : PS × Cd := (s.1, adC s.2 (k, g))
def ePl (T : Toks) (k : Int32) (s : PS × Cd) : PS × Cd := eEx T k (eAd k (pV T s.1).toInt32 s)
def eNm (T : Toks) (ix : Int32 → Int64 → Int32) (k : Int32) (s : PS × Cd) : PS × Cd := eAd k (ix k (pV T (pEx T k s.1))) (pKn T (ix k (pV T (pEx T k s.1))) (pEx T k s.1), s.2)
section Ee
variable {s : PS × Cd}
theorem ke_expect {k : Int32} (hG : okG G) (hX : RX S R x t c) (h : AbE I J x t c n1 n2 n3 T s) (hk : k ≠ 257) : Fn G mX7_expect 2 [vR x, vI k] (mw S I J R) (fun rr M1 => rr = none ∧ ∃ I1, M1 = mw S I1 J R ∧ AbE I1 J x t c n1 n2 n3 T (eEx T k s) ∧ OffE x c I I1) := by
  refine MW.weaken (kx_expect hG hX.1 h.1 h.2.1 hk) ?_
  rintro f M1 ⟨r, e1, e2, I1, e3, e4, e5⟩
  exact ⟨r, e1, e2, I1, e3, h.r hX e4 e5, e5.e⟩
theorem ke_refuse (hG : okG G) (hX : RX S R x t c) (h : AbE I J x t c n1 n2 n3 T s) : Fn G mX7_refuse 1 [vR x] (mw S I J R) (fun rr M1 => rr = none ∧ ∃ I1, M1 = mw S I1 J R ∧ AbE I1 J x t c n1 n2 n3 T (eRef T s) ∧ OffE x c I I1) := by
  refine MW.weaken (k_X7_refuse hG hX.1.1 h.1 hX.1.2.1 hX.1.2.2.1 hX.1.2.2.2 h.2.1) ?_
  rintro f M1 ⟨r, e1, e2, I1, e3, e4, e5⟩
  exact ⟨r, e1, e2, I1, e3, h.r hX e4 e5, e5.e⟩
theorem ke_deeper {k : Int32} {d' : Nat} (hG : okG G) (hX : RX S R x t c) (h : AbE I J x t c n1 n2 n3 T s) (hk : k ≠ 257) (hd : d' < 1000) : Fn G mX7_goesDeeper 3 [vR x, vI k, vI (nI d')] (mw S I J R) (fun rr M1 => rr = some (vI (bI ((eDp T k d' s).1.2.1 ≠ 1))) ∧ ∃ I1, M1 = mw S I1 J R ∧ AbE I1 J x t c n1 n2 n3 T (eDp T k d' s) ∧ OffE x c I I1) := by
  refine MW.weaken (k_X7_goesDeeper hG hX.1.1 h.1 hX.1.2.1 hX.1.2.2.1 hX.1.2.2.2 h.2.1 hk hd) ?_
  rintro f M1 ⟨r, e1, e2, I1, e3, e4, e5⟩
  exact ⟨r, e1, e2, I1, e3, h.r hX e4 e5, e5.e⟩
theorem ke_kind (hG : okG G) (hX : RX S R x t c) (h : AbE I J x t c n1 n2 n3 T s) : Fn G mX7_kind 1 [vR x] (mw S I J R) (fun rr M1 => rr = some (vI (pK T s.1)) ∧ M1 = mw S I J R) := kx_kind hG hX.1 h.1 h.2.1
theorem ke_value (hG : okG G) (hX : RX S R x t c) (h : AbE I J x t c n1 n2 n3 T s) : Fn G mX7_value 1 [vR x] (mw S I J R) (fun rr M1 => rr = some (vJ (pV T s.1)) ∧ M1 = mw S I J R) := kx_value hG hX.1 h.1 h.2.1
theorem ke_add {k g : Int32} (hX : RX S R x t c) (h : AbE I J x t c n1 n2 n3 T s) : Fn G mX1_add 0 [vR (c + 1), vI k, vI g] (mw S I J R) (fun rr M1 => rr = none ∧ ∃ I1, M1 = mw S I1 J R ∧ AbE I1 J x t c n1 n2 n3 T (eAd k g s) ∧ OffE x c I I1) := by
  refine MW.weaken (k_adC (k := k) (g := g) hX.2.1 h.2.2.1) ?_
  rintro f M1 ⟨r, e1, e2, I1, e3, e4, e5⟩
  exact ⟨r, e1, e2, I1, e3, h.d hX e4 e5, e5.e⟩
theorem k_X7_indexOf {k : Int32} {v : Int64} (hG : okG G) (hX : RX S R x t c) (h : AbE I J x t c n1 n2 n3 T s) : Fn G mX7_indexOf 1 [vR x, vI k, vJ v] (mw S I J R) (fun rr M1 => rr = some (vI (ixM J c n1 n2 n3 k v)) ∧ M1 = mw S I J R) := by
  obtain ⟨⟨hT, hx, hr, hxt⟩, hct, hr1, hxc, htc⟩ := hX
  obtain ⟨_, _, _, ⟨c1, c2, c3, c4, c5, c6⟩⟩ := h
  have kc := hct.1
  unfold ixM
  refine am_iload_n (q := 1) dX7_indexOf_0 rfl rfl ?_
  refine am_sipush (q := 4) (v := 324) dX7_indexOf_1 kc_s324 rfl ?_
  refine am_icmp_ne (tgt := 16) (q := 7) dX7_indexOf_4 rfl rfl (fun hc => ?_) (fun hc => ?_)
  · rw [if_neg hc]
    refine am_iload_n (q := 17) dX7_indexOf_16 rfl rfl ?_
    refine am_sipush (q := 20) (v := 325) dX7_indexOf_17 kc_s325 rfl ?_
    refine am_icmp_ne (tgt := 34) (q := 23) dX7_indexOf_20 rfl rfl (fun hc2 => ?_) (fun hc2 => ?_)
    · rw [if_neg hc2]
      refine am_aload_n (q := 35) dX7_indexOf_34 rfl rfl ?_
      refine cm_getR (q := 38) dX7_indexOf_35 flX7_15 rfl (by assumption) (by assumption) rfl ?_
      refine am_lload_n (q := 39) dX7_indexOf_38 rfl rfl ?_
      refine cm_call0 (q := 42) (As := [_]) hG dX7_indexOf_39 mlX7_104 rfl (by assumption) ⟨_, _, rfl⟩ (Nat.le_of_ble_eq_true rfl) (Nat.le_of_ble_eq_true rfl) (Nat.le_of_ble_eq_true rfl) (Nat.le_of_ble_eq_true rfl) (k_X2_fistNamed hct c3 c4) rfl ?_
      rintro _ _ ⟨rfl, rfl⟩
      exact am_iret dX7_indexOf_42 rfl rfl ⟨_, rfl, rfl, rfl⟩
    · rw [if_pos hc2]
      refine am_aload_n (q := 24) dX7_indexOf_23 rfl rfl ?_
      refine cm_getR (q := 27) dX7_indexOf_24 flX7_15 rfl (by assumption) (by assumption) rfl ?_
      refine am_lload_n (q := 28) dX7_indexOf_27 rfl rfl ?_
      refine cm_call0 (q := 31) (As := [_]) hG dX7_indexOf_28 mlX7_113 rfl (by assumption) ⟨_, _, rfl⟩ (Nat.le_of_ble_eq_true rfl) (Nat.le_of_ble_eq_true rfl) (Nat.le_of_ble_eq_true rfl) (Nat.le_of_ble_eq_true rfl) (k_X2_prizeNamed hct c5 c6) rfl ?_
      rintro _ _ ⟨rfl, rfl⟩
      refine am_goto (tgt := 42) dX7_indexOf_31 rfl ?_
      exact am_iret dX7_indexOf_42 rfl rfl ⟨_, rfl, rfl, rfl⟩
  · rw [if_pos hc]
    refine am_aload_n (q := 8) dX7_indexOf_7 rfl rfl ?_
    refine cm_getR (q := 11) dX7_indexOf_8 flX7_15 rfl (by assumption) (by assumption) rfl ?_
    refine am_lload_n (q := 12) dX7_indexOf_11 rfl rfl ?_
    refine cm_call0 (q := 15) (As := [_]) hG dX7_indexOf_12 mlX7_64 rfl (by assumption) ⟨_, _, rfl⟩ (Nat.le_of_ble_eq_true rfl) (Nat.le_of_ble_eq_true rfl) (Nat.le_of_ble_eq_true rfl) (Nat.le_of_ble_eq_true rfl) (k_X2_railNamed hct c1 c2) rfl ?_
    rintro _ _ ⟨rfl, rfl⟩
    exact am_iret dX7_indexOf_15 rfl rfl ⟨_, rfl, rfl, rfl⟩
theorem k_X7_readPlainValue {k : Int32} (hG : okG G) (hX : RX S R x t c) (h : AbE I J x t c n1 n2 n3 T s) (hk : k ≠ 257) : Fn G mX7_readPlainValue 3 [vR x, vI k] (mw S I J R) (fun rr M1 => rr = none ∧ ∃ I1, M1 = mw S I1 J R ∧ AbE I1 J x t c n1 n2 n3 T (ePl T k s) ∧ OffE x c I I1) := by
  obtain ⟨⟨hT, hx, hr, hxt⟩, hct, hr1, hxc, htc⟩ := id hX
  obtain ⟨kc, rc0, _, _, _, _, _, _, _, ⟨kd, _⟩, _⟩ := hct
  refine am_aload_n (q := 1) dX7_readPlainValue_0 rfl rfl ?_
  refine cm_getR (q := 4) dX7_readPlainValue_1 flX7_15 rfl (by assumption) (by assumption) rfl ?_
  refine cm_getR (q := 7) dX7_readPlainValue_4 flX7_119 rfl (by assumption) (by assumption) rfl ?_
  refine am_iload_n (q := 8) dX7_readPlainValue_7 rfl rfl ?_
  refine am_aload_n (q := 9) dX7_readPlainValue_8 rfl rfl ?_
  refine cm_call0 (q := 12) (As := []) hG dX7_readPlainValue_9 mlX7_60 rfl (by assumption) ⟨_, _, rfl⟩ (Nat.le_of_ble_eq_true rfl) (Nat.le_of_ble_eq_true rfl) (Nat.le_of_ble_eq_true rfl) (Nat.le_of_ble_eq_true rfl) (ke_value hG hX h) rfl ?_
  rintro _ _ ⟨rfl, rfl⟩
  refine am_l2i (q := 13) dX7_readPlainValue_12 rfl ?_
  refine cm_call0 (q := 16) (As := [_, _]) hG dX7_readPlainValue_13 mlX7_147 rfl (by assumption) ⟨_, _, rfl⟩ (Nat.le_of_ble_eq_true rfl) (Nat.le_of_ble_eq_true rfl) (Nat.le_of_ble_eq_true rfl) (Nat.le_of_ble_eq_true rfl) (ke_add hX h) rfl ?_
  rintro _ _ ⟨rfl, I1, rfl, h1, o1⟩
  refine am_aload_n (q := 17) dX7_readPlainValue_16 rfl rfl ?_
  refine am_iload_n (q := 18) dX7_readPlainValue_17 rfl rfl ?_
  refine cm_call0 (q := 21) (As := [_]) hG dX7_readPlainValue_18 mlX7_38 rfl (by assumption) ⟨_, _, rfl⟩ (Nat.le_of_ble_eq_true rfl) (Nat.le_of_ble_eq_true rfl) (Nat.le_of_ble_eq_true rfl) (Nat.le_of_ble_eq_true rfl) (ke_expect hG hX h1 hk) rfl ?_
  rintro _ _ ⟨rfl, I2, rfl, h2, o2⟩
  exact am_ret dX7_readPlainValue_21 rfl ⟨_, rfl, rfl, I2, rfl, h2, o1.tr o2⟩
theorem k_X7_readNamedValue {k : Int32} (hG : okG G) (hX : RX S R x t c) (h : AbE I J x t c n1 n2 n3 T s) (hk : k ≠ 257) : Fn G mX7_readNamedValue 4 [vR x, vI k] (mw S I J R) (fun rr M1 => rr = none ∧ ∃ I1, M1 = mw S I1 J R ∧ AbE I1 J x t c n1 n2 n3 T (eNm T (ixM J c n1 n2 n3) k s) ∧ OffE x c I I1) := by
  obtain ⟨⟨hT, hx, hr, hxt⟩, hct, hr1, hxc, htc⟩ := id hX
  obtain ⟨kc, rc0, _, _, _, _, _, _, _, ⟨kd, _⟩, _⟩ := hct
  refine am_aload_n (q := 1) dX7_readNamedValue_0 rfl rfl ?_
  refine am_iload_n (q := 2) dX7_readNamedValue_1 rfl rfl ?_
  refine cm_call0 (q := 5) (As := [_]) hG dX7_readNamedValue_2 mlX7_38 rfl (by assumption) ⟨_, _, rfl⟩ (Nat.le_of_ble_eq_true rfl) (Nat.le_of_ble_eq_true rfl) (Nat.le_of_ble_eq_true rfl) (Nat.le_of_ble_eq_true rfl) (ke_expect hG hX h hk) rfl ?_
  rintro _ _ ⟨rfl, I1, rfl, h1, o1⟩
  refine am_aload_n (q := 6) dX7_readNamedValue_5 rfl rfl ?_
  refine am_aload_n (q := 7) dX7_readNamedValue_6 rfl rfl ?_
  refine am_iload_n (q := 8) dX7_readNamedValue_7 rfl rfl ?_
  refine am_aload_n (q := 9) dX7_readNamedValue_8 rfl rfl ?_
  refine cm_call0 (q := 12) (As := []) hG dX7_readNamedValue_9 mlX7_60 rfl (by assumption) ⟨_, _, rfl⟩ (Nat.le_of_ble_eq_true rfl) (Nat.le_of_ble_eq_true rfl) (Nat.le_of_ble_eq_true rfl) (Nat.le_of_ble_eq_true rfl) (ke_value hG hX h1) rfl ?_
  rintro _ _ ⟨rfl, rfl⟩
  refine cm_call0 (q := 15) (As := [_, _]) hG dX7_readNamedValue_12 mlX7_180 rfl (by assumption) ⟨_, _, rfl⟩ (Nat.le_of_ble_eq_true rfl) (Nat.le_of_ble_eq_true rfl) (Nat.le_of_ble_eq_true rfl) (Nat.le_of_ble_eq_true rfl) (k_X7_indexOf hG hX h1) rfl ?_
  rintro _ _ ⟨rfl, rfl⟩
  refine cm_call0 (q := 18) (As := [_]) hG dX7_readNamedValue_15 mlX7_93 rfl (by assumption) ⟨_, _, rfl⟩ (Nat.le_of_ble_eq_true rfl) (Nat.le_of_ble_eq_true rfl) (Nat.le_of_ble_eq_true rfl) (Nat.le_of_ble_eq_true rfl) (k_X7_knownName hG hX.1 h1.1 h1.2.1) rfl ?_
  rintro _ _ ⟨rfl, I2, rfl, hp, ho⟩
  refine am_istore_n (q := 19) (ls1 := [_, _, _]) dX7_readNamedValue_18 (Nat.le_of_ble_eq_true rfl) rfl rfl ?_
  have h2 := h1.r hX hp ho
  refine am_aload_n (q := 20) dX7_readNamedValue_19 rfl rfl ?_
  refine cm_getR (q := 23) dX7_readNamedValue_20 flX7_15 rfl (by assumption) (by assumption) rfl ?_
  refine cm_getR (q := 26) dX7_readNamedValue_23 flX7_119 rfl (by assumption) (by assumption) rfl ?_
  refine am_iload_n (q := 27) dX7_readNamedValue_26 rfl rfl ?_
  refine am_iload_n (q := 28) dX7_readNamedValue_27 rfl rfl ?_
  refine cm_call0 (q := 31) (As := [_, _]) hG dX7_readNamedValue_28 mlX7_147 rfl (by assumption) ⟨_, _, rfl⟩ (Nat.le_of_ble_eq_true rfl) (Nat.le_of_ble_eq_true rfl) (Nat.le_of_ble_eq_true rfl) (Nat.le_of_ble_eq_true rfl) (ke_add hX h2) rfl ?_
  rintro _ _ ⟨rfl, I3, rfl, h3, o3⟩
  exact am_ret dX7_readNamedValue_31 rfl ⟨_, rfl, rfl, I3, rfl, h3, (o1.tr ho.e).tr o3⟩
end Ee
end Vl
end
section
theorem kc_s400 : (Int16.ofInt 400).toInt32 = 400 := by decide +kernel
theorem dX7_readProduct_0 : decode cX7_readProduct 0 = .ok (.aload_n 0, 1) := by decide +kernel
theorem dX7_readProduct_1 : decode cX7_readProduct 1 = .ok (.iload_n 1, 1) := by decide +kernel
theorem dX7_readProduct_2 : decode cX7_readProduct 2 = .ok (.invokevirtual 171, 3) := by decide +kernel
theorem dX7_readProduct_5 : decode cX7_readProduct 5 = .ok (.iconst 0, 1) := by decide +kernel
theorem dX7_readProduct_6 : decode cX7_readProduct 6 = .ok (.istore_n 2, 1) := by decide +kernel
theorem dX7_readProduct_7 : decode cX7_readProduct 7 = .ok (.iload_n 2, 1) := by decide +kernel
theorem dX7_readProduct_8 : decode cX7_readProduct 8 = .ok (.sipush 400, 3) := by decide +kernel
theorem dX7_readProduct_11 : decode cX7_readProduct 11 = .ok (.if_icmp .ge 54, 3) := by decide +kernel
theorem dX7_readProduct_14 : decode cX7_readProduct 14 = .ok (.aload_n 0, 1) := by decide +kernel
theorem dX7_readProduct_15 : decode cX7_readProduct 15 = .ok (.invokevirtual 31, 3) := by decide +kernel
theorem dX7_readProduct_18 : decode cX7_readProduct 18 = .ok (.bipush 42, 2) := by decide +kernel
theorem dX7_readProduct_20 : decode cX7_readProduct 20 = .ok (.if_icmp .eq 12, 3) := by decide +kernel
theorem dX7_readProduct_23 : decode cX7_readProduct 23 = .ok (.aload_n 0, 1) := by decide +kernel
theorem dX7_readProduct_24 : decode cX7_readProduct 24 = .ok (.invokevirtual 31, 3) := by decide +kernel
theorem dX7_readProduct_27 : decode cX7_readProduct 27 = .ok (.bipush 47, 2) := by decide +kernel
theorem dX7_readProduct_29 : decode cX7_readProduct 29 = .ok (.if_icmp .ne 36, 3) := by decide +kernel
theorem dX7_readProduct_32 : decode cX7_readProduct 32 = .ok (.aload_n 0, 1) := by decide +kernel
theorem dX7_readProduct_33 : decode cX7_readProduct 33 = .ok (.invokevirtual 31, 3) := by decide +kernel
theorem dX7_readProduct_36 : decode cX7_readProduct 36 = .ok (.istore_n 3, 1) := by decide +kernel
theorem dX7_readProduct_37 : decode cX7_readProduct 37 = .ok (.aload_n 0, 1) := by decide +kernel
theorem dX7_readProduct_38 : decode cX7_readProduct 38 = .ok (.iload_n 3, 1) := by decide +kernel
theorem dX7_readProduct_39 : decode cX7_readProduct 39 = .ok (.invokevirtual 38, 3) := by decide +kernel
theorem dX7_readProduct_42 : decode cX7_readProduct 42 = .ok (.aload_n 0, 1) := by decide +kernel
theorem dX7_readProduct_43 : decode cX7_readProduct 43 = .ok (.iload_n 1, 1) := by decide +kernel
theorem dX7_readProduct_44 : decode cX7_readProduct 44 = .ok (.invokevirtual 171, 3) := by decide +kernel
theorem dX7_readProduct_47 : decode cX7_readProduct 47 = .ok (.aload_n 0, 1) := by decide +kernel
theorem dX7_readProduct_48 : decode cX7_readProduct 48 = .ok (.getfield 15, 3) := by decide +kernel
theorem dX7_readProduct_51 : decode cX7_readProduct 51 = .ok (.getfield 119, 3) := by decide +kernel
theorem dX7_readProduct_54 : decode cX7_readProduct 54 = .ok (.iload_n 3, 1) := by decide +kernel
theorem dX7_readProduct_55 : decode cX7_readProduct 55 = .ok (.iconst 0, 1) := by decide +kernel
theorem dX7_readProduct_56 : decode cX7_readProduct 56 = .ok (.invokevirtual 147, 3) := by decide +kernel
theorem dX7_readProduct_59 : decode cX7_readProduct 59 = .ok (.iinc 2 1, 3) := by decide +kernel
theorem dX7_readProduct_62 : decode cX7_readProduct 62 = .ok (.goto (-55), 3) := by decide +kernel
theorem dX7_readProduct_65 : decode cX7_readProduct 65 = .ok (.return_, 1) := by decide +kernel
theorem dX7_readSum_0 : decode cX7_readSum 0 = .ok (.aload_n 0, 1) := by decide +kernel
theorem dX7_readSum_1 : decode cX7_readSum 1 = .ok (.iload_n 1, 1) := by decide +kernel
theorem dX7_readSum_2 : decode cX7_readSum 2 = .ok (.invokevirtual 168, 3) := by decide +kernel
theorem dX7_readSum_5 : decode cX7_readSum 5 = .ok (.iconst 0, 1) := by decide +kernel
theorem dX7_readSum_6 : decode cX7_readSum 6 = .ok (.istore_n 2, 1) := by decide +kernel
theorem dX7_readSum_7 : decode cX7_readSum 7 = .ok (.iload_n 2, 1) := by decide +kernel
theorem dX7_readSum_8 : decode cX7_readSum 8 = .ok (.sipush 400, 3) := by decide +kernel
theorem dX7_readSum_11 : decode cX7_readSum 11 = .ok (.if_icmp .ge 54, 3) := by decide +kernel
theorem dX7_readSum_14 : decode cX7_readSum 14 = .ok (.aload_n 0, 1) := by decide +kernel
theorem dX7_readSum_15 : decode cX7_readSum 15 = .ok (.invokevirtual 31, 3) := by decide +kernel
theorem dX7_readSum_18 : decode cX7_readSum 18 = .ok (.bipush 43, 2) := by decide +kernel
theorem dX7_readSum_20 : decode cX7_readSum 20 = .ok (.if_icmp .eq 12, 3) := by decide +kernel
theorem dX7_readSum_23 : decode cX7_readSum 23 = .ok (.aload_n 0, 1) := by decide +kernel
theorem dX7_readSum_24 : decode cX7_readSum 24 = .ok (.invokevirtual 31, 3) := by decide +kernel
theorem dX7_readSum_27 : decode cX7_readSum 27 = .ok (.bipush 45, 2) := by decide +kernel
theorem dX7_readSum_29 : decode cX7_readSum 29 = .ok (.if_icmp .ne 36, 3) := by decide +kernel
theorem dX7_readSum_32 : decode cX7_readSum 32 = .ok (.aload_n 0, 1) := by decide +kernel
theorem dX7_readSum_33 : decode cX7_readSum 33 = .ok (.invokevirtual 31, 3) := by decide +kernel
theorem dX7_readSum_36 : decode cX7_readSum 36 = .ok (.istore_n 3, 1) := by decide +kernel
theorem dX7_readSum_37 : decode cX7_readSum 37 = .ok (.aload_n 0, 1) := by decide +kernel
theorem dX7_readSum_38 : decode cX7_readSum 38 = .ok (.iload_n 3, 1) := by decide +kernel
theorem dX7_readSum_39 : decode cX7_readSum 39 = .ok (.invokevirtual 38, 3) := by decide +kernel
theorem dX7_readSum_42 : decode cX7_readSum 42 = .ok (.aload_n 0, 1) := by decide +kernel
theorem dX7_readSum_43 : decode cX7_readSum 43 = .ok (.iload_n 1, 1) := by decide +kernel
theorem dX7_readSum_44 : decode cX7_readSum 44 = .ok (.invokevirtual 168, 3) := by decide +kernel
theorem dX7_readSum_47 : decode cX7_readSum 47 = .ok (.aload_n 0, 1) := by decide +kernel
theorem dX7_readSum_48 : decode cX7_readSum 48 = .ok (.getfield 15, 3) := by decide +kernel
theorem dX7_readSum_51 : decode cX7_readSum 51 = .ok (.getfield 119, 3) := by decide +kernel
theorem dX7_readSum_54 : decode cX7_readSum 54 = .ok (.iload_n 3, 1) := by decide +kernel
theorem dX7_readSum_55 : decode cX7_readSum 55 = .ok (.iconst 0, 1) := by decide +kernel
theorem dX7_readSum_56 : decode cX7_readSum 56 = .ok (.invokevirtual 147, 3) := by decide +kernel
theorem dX7_readSum_59 : decode cX7_readSum 59 = .ok (.iinc 2 1, 3) := by decide +kernel
theorem dX7_readSum_62 : decode cX7_readSum 62 = .ok (.goto (-55), 3) := by decide +kernel
theorem dX7_readSum_65 : decode cX7_readSum 65 = .ok (.return_, 1) := by decide +kernel
/-! the reader's products and sums -/
/-- a row of parts joined by the signs a and b -/
def eLoop (T : Toks) (p : PS × Cd → PS × Cd) (a b : Int32) : Nat → PS × Cd → PS × Cd
  | 0, s => s
  | n + 1, s => if pK T s.1 = a ∨ pK T s.1 = b then eLoop T p a b n (eAd (pK T s.1) 0 (p (eEx T (pK T s.1) s))) else s
def eProd (T : Toks) (p : PS × Cd → PS × Cd) (s : PS × Cd) : PS × Cd := eLoop T p 42 47 400 (p s)
def eSum1 (T : Toks) (p : PS × Cd → PS × Cd) (s : PS × Cd) : PS × Cd := eLoop T p 43 45 400 (p s)
/-- a reading method of one depth keeps to V -/
def KV (G : Gp) (S : AMem) (J : Nat → Nat → Int64) (R : Nat → Nat → Option Nat) (x t c n1 n2 n3 : Nat) (T : Toks) (Y : MD) (dp dep : Nat) (V : PS × Cd → PS × Cd) : Prop := ∀ (I : Nat → Nat → Int32) (s : PS × Cd), AbE I J x t c n1 n2 n3 T s → Fn G Y dp [vR x, vI (nI dep)] (mw S I J R) (fun rr M1 => rr = none ∧ ∃ I1, M1 = mw S I1 J R ∧ AbE I1 J x t c n1 n2 n3 T (V s) ∧ OffE x c I I1)
section Lp
variable {G : Gp} {S : AMem} {J : Nat → Nat → Int64} {R : Nat → Nat → Option Nat} {t x c n1 n2 n3 : Nat} {T : Toks}
theorem k_X7_readProduct {V : PS × Cd → PS × Cd} {dv dep : Nat} (hG : okG G) (hX : RX S R x t c) (hdv : 2 ≤ dv) (hV : KV G S J R x t c n1 n2 n3 T mX7_readValue dv dep V) : KV G S J R x t c n1 n2 n3 T mX7_readProduct (dv + 1) dep (eProd T V) := by
  intro I s h
  obtain ⟨⟨hT, hx, hr, hxt⟩, hct, hr1, hxc, htc⟩ := id hX
  obtain ⟨kc, rc0, _, _, _, _, _, _, _, ⟨kd, _⟩, _⟩ := hct
  unfold eProd
  refine am_aload_n (q := 1) dX7_readProduct_0 rfl rfl ?_
  refine am_iload_n (q := 2) dX7_readProduct_1 rfl rfl ?_
  refine cm_call0 (q := 5) (As := [_]) hG dX7_readProduct_2 mlX7_171 rfl (by assumption) ⟨_, _, rfl⟩ (Nat.le_of_ble_eq_true rfl) (Nat.le_of_ble_eq_true rfl) (by omega) (Nat.le_of_ble_eq_true rfl) (hV I s h) rfl ?_
  rintro _ _ ⟨rfl, I0, rfl, h0, o0⟩
  refine am_iconst (q := 6) (v := 0) dX7_readProduct_5 kc_i0 rfl ?_
  refine am_istore_n (q := 7) (ls1 := [_, _, _, _]) dX7_readProduct_6 (Nat.le_of_ble_eq_true rfl) rfl rfl ?_
  refine k_loop (σ := (Nat → Nat → Int32) × (PS × Cd) × Option AV) (n := 400) (Inv := fun i q => eLoop T V 42 47 (400 - i) q.2.1 = eLoop T V 42 47 400 (V s) ∧ AbE q.1 J x t c n1 n2 n3 T q.2.1 ∧ OffE x c I q.1) (W := fun i q => MW G mX7_readProduct (dv + 1) 7 [some (vR x), some (vI (nI dep)), some (vI (nI i)), q.2.2] [] (mw S q.1 J R) _) ?_ ?_ 0 (I0, V s, none) (Nat.zero_le _) ⟨rfl, h0, o0⟩
  · rintro i ⟨I1, s1, x3⟩ hi ⟨hinv, h1, o1⟩ ih
    dsimp only at hinv h1 o1 ih ⊢
    rw [show 400 - i = (400 - (i + 1)) + 1 by omega, eLoop] at hinv
    have go : (pK T s1.1 = 42 ∨ pK T s1.1 = 47) → MW G mX7_readProduct (dv + 1) 32 [some (vR x), some (vI (nI dep)), some (vI (nI i)), x3] [] (mw S I1 J R) (fun f M1 => ∃ r, f = .inl r ∧ (r = none ∧ ∃ I1, M1 = mw S I1 J R ∧ AbE I1 J x t c n1 n2 n3 T (eLoop T V 42 47 400 (V s)) ∧ OffE x c I I1)) := by
      intro hk
      rw [if_pos hk] at hinv
      have hk2 : pK T s1.1 ≠ 257 := by
        rcases hk with e | e <;> rw [e] <;> decide
      refine am_aload_n (q := 33) dX7_readProduct_32 rfl rfl ?_
      refine cm_call0 (q := 36) (As := []) hG dX7_readProduct_33 mlX7_31 rfl (by assumption) ⟨_, _, rfl⟩ (Nat.le_of_ble_eq_true rfl) (Nat.le_of_ble_eq_true rfl) (by omega) (Nat.le_of_ble_eq_true rfl) (ke_kind hG hX h1) rfl ?_
      rintro _ _ ⟨rfl, rfl⟩
      refine am_istore_n (q := 37) (ls1 := [_, _, _, _]) dX7_readProduct_36 (Nat.le_of_ble_eq_true rfl) rfl rfl ?_
      refine am_aload_n (q := 38) dX7_readProduct_37 rfl rfl ?_
      refine am_iload_n (q := 39) dX7_readProduct_38 rfl rfl ?_
      refine cm_call0 (q := 42) (As := [_]) hG dX7_readProduct_39 mlX7_38 rfl (by assumption) ⟨_, _, rfl⟩ (Nat.le_of_ble_eq_true rfl) (Nat.le_of_ble_eq_true rfl) (by omega) (Nat.le_of_ble_eq_true rfl) (ke_expect hG hX h1 hk2) rfl ?_
      rintro _ _ ⟨rfl, I2, rfl, h2, o2⟩
      refine am_aload_n (q := 43) dX7_readProduct_42 rfl rfl ?_
      refine am_iload_n (q := 44) dX7_readProduct_43 rfl rfl ?_
      refine cm_call0 (q := 47) (As := [_]) hG dX7_readProduct_44 mlX7_171 rfl (by assumption) ⟨_, _, rfl⟩ (Nat.le_of_ble_eq_true rfl) (Nat.le_of_ble_eq_true rfl) (by omega) (Nat.le_of_ble_eq_true rfl) (hV I2 _ h2) rfl ?_
      rintro _ _ ⟨rfl, I3, rfl, h3, o3⟩
      refine am_aload_n (q := 48) dX7_readProduct_47 rfl rfl ?_
      refine cm_getR (q := 51) dX7_readProduct_48 flX7_15 rfl (by assumption) (by assumption) rfl ?_
      refine cm_getR (q := 54) dX7_readProduct_51 flX7_119 rfl (by assumption) (by assumption) rfl ?_
      refine am_iload_n (q := 55) dX7_readProduct_54 rfl rfl ?_
      refine am_iconst (q := 56) (v := 0) dX7_readProduct_55 kc_i0 rfl ?_
      refine cm_call0 (q := 59) (As := [_, _]) hG dX7_readProduct_56 mlX7_147 rfl (by assumption) ⟨_, _, rfl⟩ (Nat.le_of_ble_eq_true rfl) (Nat.le_of_ble_eq_true rfl) (by omega) (Nat.le_of_ble_eq_true rfl) (ke_add hX h3) rfl ?_
      rintro _ _ ⟨rfl, I4, rfl, h4, o4⟩
      refine am_iincW (q := 62) (ls1 := [_, _, _, _]) (w := 1) dX7_readProduct_59 rfl (Nat.le_of_ble_eq_true rfl) kc_i1 rfl rfl ?_
      refine am_goto (tgt := 7) dX7_readProduct_62 rfl ?_
      rw [nI_1]
      exact ih (I4, _, _) ⟨hinv, h4, ((o1.tr o2).tr o3).tr o4⟩
    refine am_iload_n (q := 8) dX7_readProduct_7 rfl rfl ?_
    refine am_sipush (q := 11) (v := 400) dX7_readProduct_8 kc_s400 rfl ?_
    refine am_icmp_ge (tgt := 65) (q := 14) dX7_readProduct_11 rfl rfl (fun hz => absurd hz (nI_ge (b := 400) (by omega) (by decide))) (fun _ => ?_)
    refine am_aload_n (q := 15) dX7_readProduct_14 rfl rfl ?_
    refine cm_call0 (q := 18) (As := []) hG dX7_readProduct_15 mlX7_31 rfl (by assumption) ⟨_, _, rfl⟩ (Nat.le_of_ble_eq_true rfl) (Nat.le_of_ble_eq_true rfl) (by omega) (Nat.le_of_ble_eq_true rfl) (ke_kind hG hX h1) rfl ?_
    rintro _ _ ⟨rfl, rfl⟩
    refine am_bipush (q := 20) (v := 42) dX7_readProduct_18 kc_b42 rfl ?_
    refine am_icmp_eq (tgt := 32) (q := 23) dX7_readProduct_20 rfl rfl (fun hc => ?_) (fun hc => ?_)
    · exact go (Or.inl hc)
    · refine am_aload_n (q := 24) dX7_readProduct_23 rfl rfl ?_
      refine cm_call0 (q := 27) (As := []) hG dX7_readProduct_24 mlX7_31 rfl (by assumption) ⟨_, _, rfl⟩ (Nat.le_of_ble_eq_true rfl) (Nat.le_of_ble_eq_true rfl) (by omega) (Nat.le_of_ble_eq_true rfl) (ke_kind hG hX h1) rfl ?_
      rintro _ _ ⟨rfl, rfl⟩
      refine am_bipush (q := 29) (v := 47) dX7_readProduct_27 kc_b47 rfl ?_
      refine am_icmp_ne (tgt := 65) (q := 32) dX7_readProduct_29 rfl rfl (fun hc2 => ?_) (fun hc2 => ?_)
      · rw [if_neg (fun q => q.elim hc hc2)] at hinv
        rw [← hinv]
        exact am_ret dX7_readProduct_65 rfl ⟨_, rfl, rfl, I1, rfl, h1, o1⟩
      · exact go (Or.inr hc2)
  · rintro ⟨I1, s1, x3⟩ ⟨hinv, h1, o1⟩
    dsimp only at hinv h1 o1 ⊢
    rw [Nat.sub_self, eLoop] at hinv
    rw [← hinv]
    refine am_iload_n (q := 8) dX7_readProduct_7 rfl rfl ?_
    refine am_sipush (q := 11) (v := 400) dX7_readProduct_8 kc_s400 rfl ?_
    refine am_icmp_ge (tgt := 65) (q := 14) dX7_readProduct_11 rfl rfl (fun _ => ?_) (fun hz => absurd (Int32.le_refl _) hz)
    exact am_ret dX7_readProduct_65 rfl ⟨_, rfl, rfl, I1, rfl, h1, o1⟩
theorem k_X7_readSum {V : PS × Cd → PS × Cd} {dv dep : Nat} (hG : okG G) (hX : RX S R x t c) (hdv : 2 ≤ dv) (hV : KV G S J R x t c n1 n2 n3 T mX7_readProduct dv dep V) : KV G S J R x t c n1 n2 n3 T mX7_readSum (dv + 1) dep (eSum1 T V) := by
  intro I s h
  obtain ⟨⟨hT, hx, hr, hxt⟩, hct, hr1, hxc, htc⟩ := id hX
  obtain ⟨kc, rc0, _, _, _, _, _, _, _, ⟨kd, _⟩, _⟩ := hct
  unfold eSum1
  refine am_aload_n (q := 1) dX7_readSum_0 rfl rfl ?_
  refine am_iload_n (q := 2) dX7_readSum_1 rfl rfl ?_
  refine cm_call0 (q := 5) (As := [_]) hG dX7_readSum_2 mlX7_168 rfl (by assumption) ⟨_, _, rfl⟩ (Nat.le_of_ble_eq_true rfl) (Nat.le_of_ble_eq_true rfl) (by omega) (Nat.le_of_ble_eq_true rfl) (hV I s h) rfl ?_
  rintro _ _ ⟨rfl, I0, rfl, h0, o0⟩
  refine am_iconst (q := 6) (v := 0) dX7_readSum_5 kc_i0 rfl ?_
  refine am_istore_n (q := 7) (ls1 := [_, _, _, _]) dX7_readSum_6 (Nat.le_of_ble_eq_true rfl) rfl rfl ?_
  refine k_loop (σ := (Nat → Nat → Int32) × (PS × Cd) × Option AV) (n := 400) (Inv := fun i q => eLoop T V 43 45 (400 - i) q.2.1 = eLoop T V 43 45 400 (V s) ∧ AbE q.1 J x t c n1 n2 n3 T q.2.1 ∧ OffE x c I q.1) (W := fun i q => MW G mX7_readSum (dv + 1) 7 [some (vR x), some (vI (nI dep)), some (vI (nI i)), q.2.2] [] (mw S q.1 J R) _) ?_ ?_ 0 (I0, V s, none) (Nat.zero_le _) ⟨rfl, h0, o0⟩
  · rintro i ⟨I1, s1, x3⟩ hi ⟨hinv, h1, o1⟩ ih
    dsimp only at hinv h1 o1 ih ⊢
    rw [show 400 - i = (400 - (i + 1)) + 1 by omega, eLoop] at hinv
    have go : (pK T s1.1 = 43 ∨ pK T s1.1 = 45) → MW G mX7_readSum (dv + 1) 32 [some (vR x), some (vI (nI dep)), some (vI (nI i)), x3] [] (mw S I1 J R) (fun f M1 => ∃ r, f = .inl r ∧ (r = none ∧ ∃ I1, M1 = mw S I1 J R ∧ AbE I1 J x t c n1 n2 n3 T (eLoop T V 43 45 400 (V s)) ∧ OffE x c I I1)) := by
      intro hk
      rw [if_pos hk] at hinv
      have hk2 : pK T s1.1 ≠ 257 := by
        rcases hk with e | e <;> rw [e] <;> decide
      refine am_aload_n (q := 33) dX7_readSum_32 rfl rfl ?_
      refine cm_call0 (q := 36) (As := []) hG dX7_readSum_33 mlX7_31 rfl (by assumption) ⟨_, _, rfl⟩ (Nat.le_of_ble_eq_true rfl) (Nat.le_of_ble_eq_true rfl) (by omega) (Nat.le_of_ble_eq_true rfl) (ke_kind hG hX h1) rfl ?_
      rintro _ _ ⟨rfl, rfl⟩
      refine am_istore_n (q := 37) (ls1 := [_, _, _, _]) dX7_readSum_36 (Nat.le_of_ble_eq_true rfl) rfl rfl ?_
      refine am_aload_n (q := 38) dX7_readSum_37 rfl rfl ?_
      refine am_iload_n (q := 39) dX7_readSum_38 rfl rfl ?_
      refine cm_call0 (q := 42) (As := [_]) hG dX7_readSum_39 mlX7_38 rfl (by assumption) ⟨_, _, rfl⟩ (Nat.le_of_ble_eq_true rfl) (Nat.le_of_ble_eq_true rfl) (by omega) (Nat.le_of_ble_eq_true rfl) (ke_expect hG hX h1 hk2) rfl ?_
      rintro _ _ ⟨rfl, I2, rfl, h2, o2⟩
      refine am_aload_n (q := 43) dX7_readSum_42 rfl rfl ?_
      refine am_iload_n (q := 44) dX7_readSum_43 rfl rfl ?_
      refine cm_call0 (q := 47) (As := [_]) hG dX7_readSum_44 mlX7_168 rfl (by assumption) ⟨_, _, rfl⟩ (Nat.le_of_ble_eq_true rfl) (Nat.le_of_ble_eq_true rfl) (by omega) (Nat.le_of_ble_eq_true rfl) (hV I2 _ h2) rfl ?_
      rintro _ _ ⟨rfl, I3, rfl, h3, o3⟩
      refine am_aload_n (q := 48) dX7_readSum_47 rfl rfl ?_
      refine cm_getR (q := 51) dX7_readSum_48 flX7_15 rfl (by assumption) (by assumption) rfl ?_
      refine cm_getR (q := 54) dX7_readSum_51 flX7_119 rfl (by assumption) (by assumption) rfl ?_
      refine am_iload_n (q := 55) dX7_readSum_54 rfl rfl ?_
      refine am_iconst (q := 56) (v := 0) dX7_readSum_55 kc_i0 rfl ?_
      refine cm_call0 (q := 59) (As := [_, _]) hG dX7_readSum_56 mlX7_147 rfl (by assumption) ⟨_, _, rfl⟩ (Nat.le_of_ble_eq_true rfl) (Nat.le_of_ble_eq_true rfl) (by omega) (Nat.le_of_ble_eq_true rfl) (ke_add hX h3) rfl ?_
      rintro _ _ ⟨rfl, I4, rfl, h4, o4⟩
      refine am_iincW (q := 62) (ls1 := [_, _, _, _]) (w := 1) dX7_readSum_59 rfl (Nat.le_of_ble_eq_true rfl) kc_i1 rfl rfl ?_
      refine am_goto (tgt := 7) dX7_readSum_62 rfl ?_
      rw [nI_1]
      exact ih (I4, _, _) ⟨hinv, h4, ((o1.tr o2).tr o3).tr o4⟩
    refine am_iload_n (q := 8) dX7_readSum_7 rfl rfl ?_
    refine am_sipush (q := 11) (v := 400) dX7_readSum_8 kc_s400 rfl ?_
    refine am_icmp_ge (tgt := 65) (q := 14) dX7_readSum_11 rfl rfl (fun hz => absurd hz (nI_ge (b := 400) (by omega) (by decide))) (fun _ => ?_)
    refine am_aload_n (q := 15) dX7_readSum_14 rfl rfl ?_
    refine cm_call0 (q := 18) (As := []) hG dX7_readSum_15 mlX7_31 rfl (by assumption) ⟨_, _, rfl⟩ (Nat.le_of_ble_eq_true rfl) (Nat.le_of_ble_eq_true rfl) (by omega) (Nat.le_of_ble_eq_true rfl) (ke_kind hG hX h1) rfl ?_
    rintro _ _ ⟨rfl, rfl⟩
    refine am_bipush (q := 20) (v := 43) dX7_readSum_18 kc_b43 rfl ?_
    refine am_icmp_eq (tgt := 32) (q := 23) dX7_readSum_20 rfl rfl (fun hc => ?_) (fun hc => ?_)
    · exact go (Or.inl hc)
    · refine am_aload_n (q := 24) dX7_readSum_23 rfl rfl ?_
      refine cm_call0 (q := 27) (As := []) hG dX7_readSum_24 mlX7_31 rfl (by assumption) ⟨_, _, rfl⟩ (Nat.le_of_ble_eq_true rfl) (Nat.le_of_ble_eq_true rfl) (by omega) (Nat.le_of_ble_eq_true rfl) (ke_kind hG hX h1) rfl ?_
      rintro _ _ ⟨rfl, rfl⟩
      refine am_bipush (q := 29) (v := 45) dX7_readSum_27 kc_b45 rfl ?_
      refine am_icmp_ne (tgt := 65) (q := 32) dX7_readSum_29 rfl rfl (fun hc2 => ?_) (fun hc2 => ?_)
      · rw [if_neg (fun q => q.elim hc hc2)] at hinv
        rw [← hinv]
        exact am_ret dX7_readSum_65 rfl ⟨_, rfl, rfl, I1, rfl, h1, o1⟩
      · exact go (Or.inr hc2)
  · rintro ⟨I1, s1, x3⟩ ⟨hinv, h1, o1⟩
    dsimp only at hinv h1 o1 ⊢
    rw [Nat.sub_self, eLoop] at hinv
    rw [← hinv]
    refine am_iload_n (q := 8) dX7_readSum_7 rfl rfl ?_
    refine am_sipush (q := 11) (v := 400) dX7_readSum_8 kc_s400 rfl ?_
    refine am_icmp_ge (tgt := 65) (q := 14) dX7_readSum_11 rfl rfl (fun _ => ?_) (fun hz => absurd (Int32.le_refl _) hz)
    exact am_ret dX7_readSum_65 rfl ⟨_, rfl, rfl, I1, rfl, h1, o1⟩
end Lp
end
