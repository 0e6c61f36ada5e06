-- ===== PART A: goes FIRST, ahead of the names: the tables' words, and 'selects' of the private methods out of them =====
/-- a private method of a class that the tables say can be made, by its rows of tables_1 -/
def lw_okq (q : MethodName × Nat) : Prop := (q.1.cls ≠ "java/lang/invoke/MethodHandle" ∧ q.1.cls ≠ "java/lang/invoke/VarHandle") ∧ Cond.instantiable q.1.cls q.2 ∈ tables_1 ∧ Cond.privateMethod q.1 ∈ tables_1 ∧ Cond.instanceMethod q.1 ∈ tables_1
theorem lw_p0 : lw_okq (⟨"Joinhand", "shaped", "()LJoinhand$Page;"⟩, 11) := ⟨⟨by decide +kernel, by decide +kernel⟩, List.mem_of_getElem? (i := 23) (by decide +kernel), List.mem_of_getElem? (i := 421) (by decide +kernel), List.mem_of_getElem? (i := 422) (by decide +kernel)⟩
theorem lw_p1 : lw_okq (⟨"Joinhand", "shape", "(LJoinhand$Page;IIZ)V"⟩, 11) := ⟨⟨by decide +kernel, by decide +kernel⟩, List.mem_of_getElem? (i := 23) (by decide +kernel), List.mem_of_getElem? (i := 429) (by decide +kernel), List.mem_of_getElem? (i := 430) (by decide +kernel)⟩
theorem lw_p2 : lw_okq (⟨"Joinhand$Runs", "open", "(IZI)V"⟩, 11) := ⟨⟨by decide +kernel, by decide +kernel⟩, List.mem_of_getElem? (i := 245) (by decide +kernel), List.mem_of_getElem? (i := 440) (by decide +kernel), List.mem_of_getElem? (i := 441) (by decide +kernel)⟩
theorem lw_p3 : lw_okq (⟨"Joinhand$Runs", "formOf", "(LJoinhand$Text;I)I"⟩, 11) := ⟨⟨by decide +kernel, by decide +kernel⟩, List.mem_of_getElem? (i := 245) (by decide +kernel), List.mem_of_getElem? (i := 444) (by decide +kernel), List.mem_of_getElem? (i := 445) (by decide +kernel)⟩
theorem lw_p4 : lw_okq (⟨"Joinhand$Runs", "canReachBack", "(LJoinhand$Text;I)Z"⟩, 11) := ⟨⟨by decide +kernel, by decide +kernel⟩, List.mem_of_getElem? (i := 245) (by decide +kernel), List.mem_of_getElem? (i := 448) (by decide +kernel), List.mem_of_getElem? (i := 449) (by decide +kernel)⟩
theorem lw_p5 : lw_okq (⟨"Joinhand$Runs", "canReachOn", "(LJoinhand$Text;I)Z"⟩, 11) := ⟨⟨by decide +kernel, by decide +kernel⟩, List.mem_of_getElem? (i := 245) (by decide +kernel), List.mem_of_getElem? (i := 456) (by decide +kernel), List.mem_of_getElem? (i := 457) (by decide +kernel)⟩
theorem lw_p6 : lw_okq (⟨"Joinhand$Opening", "beginJ", "(LJoinhand$Text;LJoinhand$Runs;II)V"⟩, 1) := ⟨⟨by decide +kernel, by decide +kernel⟩, List.mem_of_getElem? (i := 160) (by decide +kernel), List.mem_of_getElem? (i := 471) (by decide +kernel), List.mem_of_getElem? (i := 472) (by decide +kernel)⟩
theorem lw_p7 : lw_okq (⟨"Joinhand$Opening", "addSyllable", "(LJoinhand$Text;II)V"⟩, 1) := ⟨⟨by decide +kernel, by decide +kernel⟩, List.mem_of_getElem? (i := 160) (by decide +kernel), List.mem_of_getElem? (i := 504) (by decide +kernel), List.mem_of_getElem? (i := 505) (by decide +kernel)⟩
theorem lw_p8 : lw_okq (⟨"Joinhand$Opening", "climb", "(I)V"⟩, 1) := ⟨⟨by decide +kernel, by decide +kernel⟩, List.mem_of_getElem? (i := 160) (by decide +kernel), List.mem_of_getElem? (i := 508) (by decide +kernel), List.mem_of_getElem? (i := 509) (by decide +kernel)⟩
theorem lw_p9 : lw_okq (⟨"Joinhand$Opening", "setAhead", "(I)V"⟩, 1) := ⟨⟨by decide +kernel, by decide +kernel⟩, List.mem_of_getElem? (i := 160) (by decide +kernel), List.mem_of_getElem? (i := 527) (by decide +kernel), List.mem_of_getElem? (i := 528) (by decide +kernel)⟩
theorem lw_p10 : lw_okq (⟨"Joinhand$Changes", "goBack", "(LJoinhand$Lookup;)V"⟩, 9) := ⟨⟨by decide +kernel, by decide +kernel⟩, List.mem_of_getElem? (i := 170) (by decide +kernel), List.mem_of_getElem? (i := 551) (by decide +kernel), List.mem_of_getElem? (i := 552) (by decide +kernel)⟩
theorem lw_p11 : lw_okq (⟨"Joinhand$Changes", "firstFit", "(LJoinhand$Lookup;I)I"⟩, 9) := ⟨⟨by decide +kernel, by decide +kernel⟩, List.mem_of_getElem? (i := 170) (by decide +kernel), List.mem_of_getElem? (i := 567) (by decide +kernel), List.mem_of_getElem? (i := 568) (by decide +kernel)⟩
theorem lw_p12 : lw_okq (⟨"Joinhand$Changes", "fits", "(I[ILJoinhand$Glyph;)Z"⟩, 9) := ⟨⟨by decide +kernel, by decide +kernel⟩, List.mem_of_getElem? (i := 170) (by decide +kernel), List.mem_of_getElem? (i := 595) (by decide +kernel), List.mem_of_getElem? (i := 596) (by decide +kernel)⟩
theorem lw_p13 : lw_okq (⟨"Joinhand$Changes", "call", "([II)I"⟩, 9) := ⟨⟨by decide +kernel, by decide +kernel⟩, List.mem_of_getElem? (i := 170) (by decide +kernel), List.mem_of_getElem? (i := 604) (by decide +kernel), List.mem_of_getElem? (i := 605) (by decide +kernel)⟩
theorem lw_p14 : lw_okq (⟨"Joinhand$Changes", "change", "(I[II)I"⟩, 9) := ⟨⟨by decide +kernel, by decide +kernel⟩, List.mem_of_getElem? (i := 170) (by decide +kernel), List.mem_of_getElem? (i := 612) (by decide +kernel), List.mem_of_getElem? (i := 613) (by decide +kernel)⟩
theorem lw_p15 : lw_okq (⟨"Joinhand$Changes", "giveParts", "(I)V"⟩, 9) := ⟨⟨by decide +kernel, by decide +kernel⟩, List.mem_of_getElem? (i := 170) (by decide +kernel), List.mem_of_getElem? (i := 624) (by decide +kernel), List.mem_of_getElem? (i := 625) (by decide +kernel)⟩
def lw_privs_1 : List (MethodName × Nat) := [(⟨"Joinhand", "shaped", "()LJoinhand$Page;"⟩, 11), (⟨"Joinhand", "shape", "(LJoinhand$Page;IIZ)V"⟩, 11), (⟨"Joinhand$Runs", "open", "(IZI)V"⟩, 11), (⟨"Joinhand$Runs", "formOf", "(LJoinhand$Text;I)I"⟩, 11), (⟨"Joinhand$Runs", "canReachBack", "(LJoinhand$Text;I)Z"⟩, 11), (⟨"Joinhand$Runs", "canReachOn", "(LJoinhand$Text;I)Z"⟩, 11), (⟨"Joinhand$Opening", "beginJ", "(LJoinhand$Text;LJoinhand$Runs;II)V"⟩, 1), (⟨"Joinhand$Opening", "addSyllable", "(LJoinhand$Text;II)V"⟩, 1), (⟨"Joinhand$Opening", "climb", "(I)V"⟩, 1), (⟨"Joinhand$Opening", "setAhead", "(I)V"⟩, 1), (⟨"Joinhand$Changes", "goBack", "(LJoinhand$Lookup;)V"⟩, 9), (⟨"Joinhand$Changes", "firstFit", "(LJoinhand$Lookup;I)I"⟩, 9), (⟨"Joinhand$Changes", "fits", "(I[ILJoinhand$Glyph;)Z"⟩, 9), (⟨"Joinhand$Changes", "call", "([II)I"⟩, 9), (⟨"Joinhand$Changes", "change", "(I[II)I"⟩, 9), (⟨"Joinhand$Changes", "giveParts", "(I)V"⟩, 9)]
theorem lw_r1 : ∀ q ∈ lw_privs_1, lw_okq q := List.forall_mem_cons.mpr ⟨lw_p0, List.forall_mem_cons.mpr ⟨lw_p1, List.forall_mem_cons.mpr ⟨lw_p2, List.forall_mem_cons.mpr ⟨lw_p3, List.forall_mem_cons.mpr ⟨lw_p4, List.forall_mem_cons.mpr ⟨lw_p5, List.forall_mem_cons.mpr ⟨lw_p6, List.forall_mem_cons.mpr ⟨lw_p7, List.forall_mem_cons.mpr ⟨lw_p8, List.forall_mem_cons.mpr ⟨lw_p9, List.forall_mem_cons.mpr ⟨lw_p10, List.forall_mem_cons.mpr ⟨lw_p11, List.forall_mem_cons.mpr ⟨lw_p12, List.forall_mem_cons.mpr ⟨lw_p13, List.forall_mem_cons.mpr ⟨lw_p14, List.forall_mem_cons.mpr ⟨lw_p15, fun _ h => absurd h List.not_mem_nil⟩⟩⟩⟩⟩⟩⟩⟩⟩⟩⟩⟩⟩⟩⟩⟩
theorem lw_p16 : lw_okq (⟨"Joinhand$Changes", "mergeClusters", "(I)V"⟩, 9) := ⟨⟨by decide +kernel, by decide +kernel⟩, List.mem_of_getElem? (i := 170) (by decide +kernel), List.mem_of_getElem? (i := 632) (by decide +kernel), List.mem_of_getElem? (i := 633) (by decide +kernel)⟩
theorem lw_p17 : lw_okq (⟨"Joinhand$Changes", "fuse", "(II)V"⟩, 9) := ⟨⟨by decide +kernel, by decide +kernel⟩, List.mem_of_getElem? (i := 170) (by decide +kernel), List.mem_of_getElem? (i := 637) (by decide +kernel), List.mem_of_getElem? (i := 638) (by decide +kernel)⟩
theorem lw_p18 : lw_okq (⟨"Joinhand$Opening", "lastKiller", "(II)I"⟩, 1) := ⟨⟨by decide +kernel, by decide +kernel⟩, List.mem_of_getElem? (i := 160) (by decide +kernel), List.mem_of_getElem? (i := 650) (by decide +kernel), List.mem_of_getElem? (i := 651) (by decide +kernel)⟩
theorem lw_p19 : lw_okq (⟨"Joinhand$Places", "addToPairs", "(LJoinhand$Lookup;)V"⟩, 3) := ⟨⟨by decide +kernel, by decide +kernel⟩, List.mem_of_getElem? (i := 204) (by decide +kernel), List.mem_of_getElem? (i := 673) (by decide +kernel), List.mem_of_getElem? (i := 674) (by decide +kernel)⟩
theorem lw_p20 : lw_okq (⟨"Joinhand$Places", "pairRule", "(LJoinhand$Lookup;II)I"⟩, 3) := ⟨⟨by decide +kernel, by decide +kernel⟩, List.mem_of_getElem? (i := 204) (by decide +kernel), List.mem_of_getElem? (i := 679) (by decide +kernel), List.mem_of_getElem? (i := 680) (by decide +kernel)⟩
theorem lw_p21 : lw_okq (⟨"Joinhand$Places", "linkHeights", "(LJoinhand$Lookup;)V"⟩, 3) := ⟨⟨by decide +kernel, by decide +kernel⟩, List.mem_of_getElem? (i := 204) (by decide +kernel), List.mem_of_getElem? (i := 685) (by decide +kernel), List.mem_of_getElem? (i := 686) (by decide +kernel)⟩
theorem lw_p22 : lw_okq (⟨"Joinhand$Places", "setMarks", "(LJoinhand$Lookup;)V"⟩, 3) := ⟨⟨by decide +kernel, by decide +kernel⟩, List.mem_of_getElem? (i := 204) (by decide +kernel), List.mem_of_getElem? (i := 695) (by decide +kernel), List.mem_of_getElem? (i := 696) (by decide +kernel)⟩
theorem lw_p23 : lw_okq (⟨"Joinhand$Places", "setOnBase", "(LJoinhand$Lookup;LJoinhand$Glyph;I)V"⟩, 3) := ⟨⟨by decide +kernel, by decide +kernel⟩, List.mem_of_getElem? (i := 204) (by decide +kernel), List.mem_of_getElem? (i := 700) (by decide +kernel), List.mem_of_getElem? (i := 701) (by decide +kernel)⟩
theorem lw_p24 : lw_okq (⟨"Joinhand$Places", "setOnMark", "(LJoinhand$Lookup;LJoinhand$Glyph;I)V"⟩, 3) := ⟨⟨by decide +kernel, by decide +kernel⟩, List.mem_of_getElem? (i := 204) (by decide +kernel), List.mem_of_getElem? (i := 704) (by decide +kernel), List.mem_of_getElem? (i := 705) (by decide +kernel)⟩
theorem lw_p25 : lw_okq (⟨"java/lang/Throwable", "fillInStackTrace", "(I)Ljava/lang/Throwable;"⟩, 6) := ⟨⟨by decide +kernel, by decide +kernel⟩, List.mem_of_getElem? (i := 763) (by decide +kernel), List.mem_of_getElem? (i := 761) (by decide +kernel), List.mem_of_getElem? (i := 762) (by decide +kernel)⟩
theorem lw_p26 : lw_okq (⟨"Joinhand", "needSign", "(I)V"⟩, 11) := ⟨⟨by decide +kernel, by decide +kernel⟩, List.mem_of_getElem? (i := 23) (by decide +kernel), List.mem_of_getElem? (i := 998) (by decide +kernel), List.mem_of_getElem? (i := 999) (by decide +kernel)⟩
theorem lw_p27 : lw_okq (⟨"Joinhand$Page", "fromBeginning", "(II)I"⟩, 11) := ⟨⟨by decide +kernel, by decide +kernel⟩, List.mem_of_getElem? (i := 239) (by decide +kernel), List.mem_of_getElem? (i := 1088) (by decide +kernel), List.mem_of_getElem? (i := 1089) (by decide +kernel)⟩
theorem lw_p28 : lw_okq (⟨"Joinhand$Line", "setStrokes", "(LJoinhand$Page;LJoinhand$Text;I)V"⟩, 3) := ⟨⟨by decide +kernel, by decide +kernel⟩, List.mem_of_getElem? (i := 220) (by decide +kernel), List.mem_of_getElem? (i := 1136) (by decide +kernel), List.mem_of_getElem? (i := 1137) (by decide +kernel)⟩
theorem lw_p29 : lw_okq (⟨"Joinhand$Line", "widenBlanks", "(LJoinhand$Text;)V"⟩, 3) := ⟨⟨by decide +kernel, by decide +kernel⟩, List.mem_of_getElem? (i := 220) (by decide +kernel), List.mem_of_getElem? (i := 1146) (by decide +kernel), List.mem_of_getElem? (i := 1147) (by decide +kernel)⟩
theorem lw_p30 : lw_okq (⟨"JoinhandModel", "isLookup", "(I)Z"⟩, 58) := ⟨⟨by decide +kernel, by decide +kernel⟩, List.mem_of_getElem? (i := 1157) (by decide +kernel), List.mem_of_getElem? (i := 1357) (by decide +kernel), List.mem_of_getElem? (i := 1358) (by decide +kernel)⟩
theorem lw_p31 : lw_okq (⟨"JoinhandModel", "begins", "(II)I"⟩, 58) := ⟨⟨by decide +kernel, by decide +kernel⟩, List.mem_of_getElem? (i := 1157) (by decide +kernel), List.mem_of_getElem? (i := 1411) (by decide +kernel), List.mem_of_getElem? (i := 1412) (by decide +kernel)⟩
def lw_privs_2 : List (MethodName × Nat) := [(⟨"Joinhand$Changes", "mergeClusters", "(I)V"⟩, 9), (⟨"Joinhand$Changes", "fuse", "(II)V"⟩, 9), (⟨"Joinhand$Opening", "lastKiller", "(II)I"⟩, 1), (⟨"Joinhand$Places", "addToPairs", "(LJoinhand$Lookup;)V"⟩, 3), (⟨"Joinhand$Places", "pairRule", "(LJoinhand$Lookup;II)I"⟩, 3), (⟨"Joinhand$Places", "linkHeights", "(LJoinhand$Lookup;)V"⟩, 3), (⟨"Joinhand$Places", "setMarks", "(LJoinhand$Lookup;)V"⟩, 3), (⟨"Joinhand$Places", "setOnBase", "(LJoinhand$Lookup;LJoinhand$Glyph;I)V"⟩, 3), (⟨"Joinhand$Places", "setOnMark", "(LJoinhand$Lookup;LJoinhand$Glyph;I)V"⟩, 3), (⟨"java/lang/Throwable", "fillInStackTrace", "(I)Ljava/lang/Throwable;"⟩, 6), (⟨"Joinhand", "needSign", "(I)V"⟩, 11), (⟨"Joinhand$Page", "fromBeginning", "(II)I"⟩, 11), (⟨"Joinhand$Line", "setStrokes", "(LJoinhand$Page;LJoinhand$Text;I)V"⟩, 3), (⟨"Joinhand$Line", "widenBlanks", "(LJoinhand$Text;)V"⟩, 3), (⟨"JoinhandModel", "isLookup", "(I)Z"⟩, 58), (⟨"JoinhandModel", "begins", "(II)I"⟩, 58)]
theorem lw_r2 : ∀ q ∈ lw_privs_2, lw_okq q := List.forall_mem_cons.mpr ⟨lw_p16, List.forall_mem_cons.mpr ⟨lw_p17, List.forall_mem_cons.mpr ⟨lw_p18, List.forall_mem_cons.mpr ⟨lw_p19, List.forall_mem_cons.mpr ⟨lw_p20, List.forall_mem_cons.mpr ⟨lw_p21, List.forall_mem_cons.mpr ⟨lw_p22, List.forall_mem_cons.mpr ⟨lw_p23, List.forall_mem_cons.mpr ⟨lw_p24, List.forall_mem_cons.mpr ⟨lw_p25, List.forall_mem_cons.mpr ⟨lw_p26, List.forall_mem_cons.mpr ⟨lw_p27, List.forall_mem_cons.mpr ⟨lw_p28, List.forall_mem_cons.mpr ⟨lw_p29, List.forall_mem_cons.mpr ⟨lw_p30, List.forall_mem_cons.mpr ⟨lw_p31, fun _ h => absurd h List.not_mem_nil⟩⟩⟩⟩⟩⟩⟩⟩⟩⟩⟩⟩⟩⟩⟩⟩
theorem lw_p32 : lw_okq (⟨"JoinhandModel", "isOf", "(III)Z"⟩, 58) := ⟨⟨by decide +kernel, by decide +kernel⟩, List.mem_of_getElem? (i := 1157) (by decide +kernel), List.mem_of_getElem? (i := 1415) (by decide +kernel), List.mem_of_getElem? (i := 1416) (by decide +kernel)⟩
theorem lw_p33 : lw_okq (⟨"JoinhandModel", "isPlace", "(I)Z"⟩, 58) := ⟨⟨by decide +kernel, by decide +kernel⟩, List.mem_of_getElem? (i := 1157) (by decide +kernel), List.mem_of_getElem? (i := 1430) (by decide +kernel), List.mem_of_getElem? (i := 1431) (by decide +kernel)⟩
theorem lw_p34 : lw_okq (⟨"JoinhandModel", "shapesAll", "()V"⟩, 58) := ⟨⟨by decide +kernel, by decide +kernel⟩, List.mem_of_getElem? (i := 1157) (by decide +kernel), List.mem_of_getElem? (i := 1446) (by decide +kernel), List.mem_of_getElem? (i := 1447) (by decide +kernel)⟩
theorem lw_p35 : lw_okq (⟨"JoinhandModel", "shapes", "(II)V"⟩, 58) := ⟨⟨by decide +kernel, by decide +kernel⟩, List.mem_of_getElem? (i := 1157) (by decide +kernel), List.mem_of_getElem? (i := 1450) (by decide +kernel), List.mem_of_getElem? (i := 1451) (by decide +kernel)⟩
theorem lw_p36 : lw_okq (⟨"JoinhandModel", "laysScripts", "(II)V"⟩, 58) := ⟨⟨by decide +kernel, by decide +kernel⟩, List.mem_of_getElem? (i := 1157) (by decide +kernel), List.mem_of_getElem? (i := 1454) (by decide +kernel), List.mem_of_getElem? (i := 1455) (by decide +kernel)⟩
theorem lw_p37 : lw_okq (⟨"JoinhandModel", "endOfRun", "(II)I"⟩, 58) := ⟨⟨by decide +kernel, by decide +kernel⟩, List.mem_of_getElem? (i := 1157) (by decide +kernel), List.mem_of_getElem? (i := 1458) (by decide +kernel), List.mem_of_getElem? (i := 1459) (by decide +kernel)⟩
theorem lw_p38 : lw_okq (⟨"JoinhandModel", "shapesRun", "(III)V"⟩, 58) := ⟨⟨by decide +kernel, by decide +kernel⟩, List.mem_of_getElem? (i := 1157) (by decide +kernel), List.mem_of_getElem? (i := 1462) (by decide +kernel), List.mem_of_getElem? (i := 1463) (by decide +kernel)⟩
theorem lw_p39 : lw_okq (⟨"JoinhandModel", "laysJoined", "(II)V"⟩, 58) := ⟨⟨by decide +kernel, by decide +kernel⟩, List.mem_of_getElem? (i := 1157) (by decide +kernel), List.mem_of_getElem? (i := 1466) (by decide +kernel), List.mem_of_getElem? (i := 1467) (by decide +kernel)⟩
theorem lw_p40 : lw_okq (⟨"JoinhandModel", "formOf", "(III)I"⟩, 58) := ⟨⟨by decide +kernel, by decide +kernel⟩, List.mem_of_getElem? (i := 1157) (by decide +kernel), List.mem_of_getElem? (i := 1473) (by decide +kernel), List.mem_of_getElem? (i := 1474) (by decide +kernel)⟩
theorem lw_p41 : lw_okq (⟨"JoinhandModel", "joinsFrom", "(II)Z"⟩, 58) := ⟨⟨by decide +kernel, by decide +kernel⟩, List.mem_of_getElem? (i := 1157) (by decide +kernel), List.mem_of_getElem? (i := 1477) (by decide +kernel), List.mem_of_getElem? (i := 1478) (by decide +kernel)⟩
theorem lw_p42 : lw_okq (⟨"JoinhandModel", "joinsOn", "(II)Z"⟩, 58) := ⟨⟨by decide +kernel, by decide +kernel⟩, List.mem_of_getElem? (i := 1157) (by decide +kernel), List.mem_of_getElem? (i := 1481) (by decide +kernel), List.mem_of_getElem? (i := 1482) (by decide +kernel)⟩
theorem lw_p43 : lw_okq (⟨"JoinhandModel", "addsGlyph", "(IIII)V"⟩, 58) := ⟨⟨by decide +kernel, by decide +kernel⟩, List.mem_of_getElem? (i := 1157) (by decide +kernel), List.mem_of_getElem? (i := 1485) (by decide +kernel), List.mem_of_getElem? (i := 1486) (by decide +kernel)⟩
theorem lw_p44 : lw_okq (⟨"JoinhandModel", "laysSyllables", "(II)V"⟩, 58) := ⟨⟨by decide +kernel, by decide +kernel⟩, List.mem_of_getElem? (i := 1157) (by decide +kernel), List.mem_of_getElem? (i := 1489) (by decide +kernel), List.mem_of_getElem? (i := 1490) (by decide +kernel)⟩
theorem lw_p45 : lw_okq (⟨"JoinhandModel", "behindConsonants", "(II)I"⟩, 58) := ⟨⟨by decide +kernel, by decide +kernel⟩, List.mem_of_getElem? (i := 1157) (by decide +kernel), List.mem_of_getElem? (i := 1496) (by decide +kernel), List.mem_of_getElem? (i := 1497) (by decide +kernel)⟩
theorem lw_p46 : lw_okq (⟨"JoinhandModel", "behindKiller", "(II)I"⟩, 58) := ⟨⟨by decide +kernel, by decide +kernel⟩, List.mem_of_getElem? (i := 1157) (by decide +kernel), List.mem_of_getElem? (i := 1500) (by decide +kernel), List.mem_of_getElem? (i := 1501) (by decide +kernel)⟩
theorem lw_p47 : lw_okq (⟨"JoinhandModel", "behindVowels", "(II)I"⟩, 58) := ⟨⟨by decide +kernel, by decide +kernel⟩, List.mem_of_getElem? (i := 1157) (by decide +kernel), List.mem_of_getElem? (i := 1504) (by decide +kernel), List.mem_of_getElem? (i := 1505) (by decide +kernel)⟩
def lw_privs_3 : List (MethodName × Nat) := [(⟨"JoinhandModel", "isOf", "(III)Z"⟩, 58), (⟨"JoinhandModel", "isPlace", "(I)Z"⟩, 58), (⟨"JoinhandModel", "shapesAll", "()V"⟩, 58), (⟨"JoinhandModel", "shapes", "(II)V"⟩, 58), (⟨"JoinhandModel", "laysScripts", "(II)V"⟩, 58), (⟨"JoinhandModel", "endOfRun", "(II)I"⟩, 58), (⟨"JoinhandModel", "shapesRun", "(III)V"⟩, 58), (⟨"JoinhandModel", "laysJoined", "(II)V"⟩, 58), (⟨"JoinhandModel", "formOf", "(III)I"⟩, 58), (⟨"JoinhandModel", "joinsFrom", "(II)Z"⟩, 58), (⟨"JoinhandModel", "joinsOn", "(II)Z"⟩, 58), (⟨"JoinhandModel", "addsGlyph", "(IIII)V"⟩, 58), (⟨"JoinhandModel", "laysSyllables", "(II)V"⟩, 58), (⟨"JoinhandModel", "behindConsonants", "(II)I"⟩, 58), (⟨"JoinhandModel", "behindKiller", "(II)I"⟩, 58), (⟨"JoinhandModel", "behindVowels", "(II)I"⟩, 58)]
theorem lw_r3 : ∀ q ∈ lw_privs_3, lw_okq q := List.forall_mem_cons.mpr ⟨lw_p32, List.forall_mem_cons.mpr ⟨lw_p33, List.forall_mem_cons.mpr ⟨lw_p34, List.forall_mem_cons.mpr ⟨lw_p35, List.forall_mem_cons.mpr ⟨lw_p36, List.forall_mem_cons.mpr ⟨lw_p37, List.forall_mem_cons.mpr ⟨lw_p38, List.forall_mem_cons.mpr ⟨lw_p39, List.forall_mem_cons.mpr ⟨lw_p40, List.forall_mem_cons.mpr ⟨lw_p41, List.forall_mem_cons.mpr ⟨lw_p42, List.forall_mem_cons.mpr ⟨lw_p43, List.forall_mem_cons.mpr ⟨lw_p44, List.forall_mem_cons.mpr ⟨lw_p45, List.forall_mem_cons.mpr ⟨lw_p46, List.forall_mem_cons.mpr ⟨lw_p47, fun _ h => absurd h List.not_mem_nil⟩⟩⟩⟩⟩⟩⟩⟩⟩⟩⟩⟩⟩⟩⟩⟩
theorem lw_p48 : lw_okq (⟨"JoinhandModel", "climbs", "(III)V"⟩, 58) := ⟨⟨by decide +kernel, by decide +kernel⟩, List.mem_of_getElem? (i := 1157) (by decide +kernel), List.mem_of_getElem? (i := 1511) (by decide +kernel), List.mem_of_getElem? (i := 1512) (by decide +kernel)⟩
theorem lw_p49 : lw_okq (⟨"JoinhandModel", "closes", "(I)V"⟩, 58) := ⟨⟨by decide +kernel, by decide +kernel⟩, List.mem_of_getElem? (i := 1157) (by decide +kernel), List.mem_of_getElem? (i := 1515) (by decide +kernel), List.mem_of_getElem? (i := 1516) (by decide +kernel)⟩
theorem lw_p50 : lw_okq (⟨"JoinhandModel", "copies", "(II)V"⟩, 58) := ⟨⟨by decide +kernel, by decide +kernel⟩, List.mem_of_getElem? (i := 1157) (by decide +kernel), List.mem_of_getElem? (i := 1519) (by decide +kernel), List.mem_of_getElem? (i := 1520) (by decide +kernel)⟩
theorem lw_p51 : lw_okq (⟨"JoinhandModel", "turns", "(III)V"⟩, 58) := ⟨⟨by decide +kernel, by decide +kernel⟩, List.mem_of_getElem? (i := 1157) (by decide +kernel), List.mem_of_getElem? (i := 1523) (by decide +kernel), List.mem_of_getElem? (i := 1524) (by decide +kernel)⟩
theorem lw_p52 : lw_okq (⟨"JoinhandModel", "setsAhead", "(I)V"⟩, 58) := ⟨⟨by decide +kernel, by decide +kernel⟩, List.mem_of_getElem? (i := 1157) (by decide +kernel), List.mem_of_getElem? (i := 1527) (by decide +kernel), List.mem_of_getElem? (i := 1528) (by decide +kernel)⟩
theorem lw_p53 : lw_okq (⟨"JoinhandModel", "doesStage", "(I)V"⟩, 58) := ⟨⟨by decide +kernel, by decide +kernel⟩, List.mem_of_getElem? (i := 1157) (by decide +kernel), List.mem_of_getElem? (i := 1531) (by decide +kernel), List.mem_of_getElem? (i := 1532) (by decide +kernel)⟩
theorem lw_p54 : lw_okq (⟨"JoinhandModel", "isForTongue", "(I)Z"⟩, 58) := ⟨⟨by decide +kernel, by decide +kernel⟩, List.mem_of_getElem? (i := 1157) (by decide +kernel), List.mem_of_getElem? (i := 1535) (by decide +kernel), List.mem_of_getElem? (i := 1536) (by decide +kernel)⟩
theorem lw_p55 : lw_okq (⟨"JoinhandModel", "goesBack", "(I)V"⟩, 58) := ⟨⟨by decide +kernel, by decide +kernel⟩, List.mem_of_getElem? (i := 1157) (by decide +kernel), List.mem_of_getElem? (i := 1539) (by decide +kernel), List.mem_of_getElem? (i := 1540) (by decide +kernel)⟩
theorem lw_p56 : lw_okq (⟨"JoinhandModel", "skips", "(II)Z"⟩, 58) := ⟨⟨by decide +kernel, by decide +kernel⟩, List.mem_of_getElem? (i := 1157) (by decide +kernel), List.mem_of_getElem? (i := 1543) (by decide +kernel), List.mem_of_getElem? (i := 1544) (by decide +kernel)⟩
theorem lw_p57 : lw_okq (⟨"JoinhandModel", "markAt", "(I)I"⟩, 58) := ⟨⟨by decide +kernel, by decide +kernel⟩, List.mem_of_getElem? (i := 1157) (by decide +kernel), List.mem_of_getElem? (i := 1547) (by decide +kernel), List.mem_of_getElem? (i := 1548) (by decide +kernel)⟩
theorem lw_p58 : lw_okq (⟨"JoinhandModel", "has", "(II)Z"⟩, 58) := ⟨⟨by decide +kernel, by decide +kernel⟩, List.mem_of_getElem? (i := 1157) (by decide +kernel), List.mem_of_getElem? (i := 1551) (by decide +kernel), List.mem_of_getElem? (i := 1552) (by decide +kernel)⟩
theorem lw_p59 : lw_okq (⟨"JoinhandModel", "numberOf", "(III)I"⟩, 58) := ⟨⟨by decide +kernel, by decide +kernel⟩, List.mem_of_getElem? (i := 1157) (by decide +kernel), List.mem_of_getElem? (i := 1555) (by decide +kernel), List.mem_of_getElem? (i := 1556) (by decide +kernel)⟩
theorem lw_p60 : lw_okq (⟨"JoinhandModel", "is", "(II)Z"⟩, 58) := ⟨⟨by decide +kernel, by decide +kernel⟩, List.mem_of_getElem? (i := 1157) (by decide +kernel), List.mem_of_getElem? (i := 1559) (by decide +kernel), List.mem_of_getElem? (i := 1560) (by decide +kernel)⟩
theorem lw_p61 : lw_okq (⟨"JoinhandModel", "ahead", "(II)I"⟩, 58) := ⟨⟨by decide +kernel, by decide +kernel⟩, List.mem_of_getElem? (i := 1157) (by decide +kernel), List.mem_of_getElem? (i := 1563) (by decide +kernel), List.mem_of_getElem? (i := 1564) (by decide +kernel)⟩
theorem lw_p62 : lw_okq (⟨"JoinhandModel", "isThere", "(II)Z"⟩, 58) := ⟨⟨by decide +kernel, by decide +kernel⟩, List.mem_of_getElem? (i := 1157) (by decide +kernel), List.mem_of_getElem? (i := 1567) (by decide +kernel), List.mem_of_getElem? (i := 1568) (by decide +kernel)⟩
theorem lw_p63 : lw_okq (⟨"JoinhandModel", "after", "(II)I"⟩, 58) := ⟨⟨by decide +kernel, by decide +kernel⟩, List.mem_of_getElem? (i := 1157) (by decide +kernel), List.mem_of_getElem? (i := 1571) (by decide +kernel), List.mem_of_getElem? (i := 1572) (by decide +kernel)⟩
def lw_privs_4 : List (MethodName × Nat) := [(⟨"JoinhandModel", "climbs", "(III)V"⟩, 58), (⟨"JoinhandModel", "closes", "(I)V"⟩, 58), (⟨"JoinhandModel", "copies", "(II)V"⟩, 58), (⟨"JoinhandModel", "turns", "(III)V"⟩, 58), (⟨"JoinhandModel", "setsAhead", "(I)V"⟩, 58), (⟨"JoinhandModel", "doesStage", "(I)V"⟩, 58), (⟨"JoinhandModel", "isForTongue", "(I)Z"⟩, 58), (⟨"JoinhandModel", "goesBack", "(I)V"⟩, 58), (⟨"JoinhandModel", "skips", "(II)Z"⟩, 58), (⟨"JoinhandModel", "markAt", "(I)I"⟩, 58), (⟨"JoinhandModel", "has", "(II)Z"⟩, 58), (⟨"JoinhandModel", "numberOf", "(III)I"⟩, 58), (⟨"JoinhandModel", "is", "(II)Z"⟩, 58), (⟨"JoinhandModel", "ahead", "(II)I"⟩, 58), (⟨"JoinhandModel", "isThere", "(II)Z"⟩, 58), (⟨"JoinhandModel", "after", "(II)I"⟩, 58)]
theorem lw_r4 : ∀ q ∈ lw_privs_4, lw_okq q := List.forall_mem_cons.mpr ⟨lw_p48, List.forall_mem_cons.mpr ⟨lw_p49, List.forall_mem_cons.mpr ⟨lw_p50, List.forall_mem_cons.mpr ⟨lw_p51, List.forall_mem_cons.mpr ⟨lw_p52, List.forall_mem_cons.mpr ⟨lw_p53, List.forall_mem_cons.mpr ⟨lw_p54, List.forall_mem_cons.mpr ⟨lw_p55, List.forall_mem_cons.mpr ⟨lw_p56, List.forall_mem_cons.mpr ⟨lw_p57, List.forall_mem_cons.mpr ⟨lw_p58, List.forall_mem_cons.mpr ⟨lw_p59, List.forall_mem_cons.mpr ⟨lw_p60, List.forall_mem_cons.mpr ⟨lw_p61, List.forall_mem_cons.mpr ⟨lw_p62, List.forall_mem_cons.mpr ⟨lw_p63, fun _ h => absurd h List.not_mem_nil⟩⟩⟩⟩⟩⟩⟩⟩⟩⟩⟩⟩⟩⟩⟩⟩
theorem lw_p64 : lw_okq (⟨"JoinhandModel", "goesThrough", "(I)V"⟩, 58) := ⟨⟨by decide +kernel, by decide +kernel⟩, List.mem_of_getElem? (i := 1157) (by decide +kernel), List.mem_of_getElem? (i := 1575) (by decide +kernel), List.mem_of_getElem? (i := 1576) (by decide +kernel)⟩
theorem lw_p65 : lw_okq (⟨"JoinhandModel", "contexts", "(II)I"⟩, 58) := ⟨⟨by decide +kernel, by decide +kernel⟩, List.mem_of_getElem? (i := 1157) (by decide +kernel), List.mem_of_getElem? (i := 1579) (by decide +kernel), List.mem_of_getElem? (i := 1580) (by decide +kernel)⟩
theorem lw_p66 : lw_okq (⟨"JoinhandModel", "doesContext", "(III)I"⟩, 58) := ⟨⟨by decide +kernel, by decide +kernel⟩, List.mem_of_getElem? (i := 1157) (by decide +kernel), List.mem_of_getElem? (i := 1583) (by decide +kernel), List.mem_of_getElem? (i := 1584) (by decide +kernel)⟩
theorem lw_p67 : lw_okq (⟨"JoinhandModel", "calls", "(II)V"⟩, 58) := ⟨⟨by decide +kernel, by decide +kernel⟩, List.mem_of_getElem? (i := 1157) (by decide +kernel), List.mem_of_getElem? (i := 1587) (by decide +kernel), List.mem_of_getElem? (i := 1588) (by decide +kernel)⟩
theorem lw_p68 : lw_okq (⟨"JoinhandModel", "doesFirst", "(II)I"⟩, 58) := ⟨⟨by decide +kernel, by decide +kernel⟩, List.mem_of_getElem? (i := 1157) (by decide +kernel), List.mem_of_getElem? (i := 1591) (by decide +kernel), List.mem_of_getElem? (i := 1592) (by decide +kernel)⟩
theorem lw_p69 : lw_okq (⟨"JoinhandModel", "does", "(III)I"⟩, 58) := ⟨⟨by decide +kernel, by decide +kernel⟩, List.mem_of_getElem? (i := 1157) (by decide +kernel), List.mem_of_getElem? (i := 1595) (by decide +kernel), List.mem_of_getElem? (i := 1596) (by decide +kernel)⟩
theorem lw_p70 : lw_okq (⟨"JoinhandModel", "puts", "(IIII)I"⟩, 58) := ⟨⟨by decide +kernel, by decide +kernel⟩, List.mem_of_getElem? (i := 1157) (by decide +kernel), List.mem_of_getElem? (i := 1599) (by decide +kernel), List.mem_of_getElem? (i := 1600) (by decide +kernel)⟩
theorem lw_p71 : lw_okq (⟨"JoinhandModel", "opens", "(II)V"⟩, 58) := ⟨⟨by decide +kernel, by decide +kernel⟩, List.mem_of_getElem? (i := 1157) (by decide +kernel), List.mem_of_getElem? (i := 1603) (by decide +kernel), List.mem_of_getElem? (i := 1604) (by decide +kernel)⟩
theorem lw_p72 : lw_okq (⟨"JoinhandModel", "ligates", "(IIIII)I"⟩, 58) := ⟨⟨by decide +kernel, by decide +kernel⟩, List.mem_of_getElem? (i := 1157) (by decide +kernel), List.mem_of_getElem? (i := 1607) (by decide +kernel), List.mem_of_getElem? (i := 1608) (by decide +kernel)⟩
theorem lw_p73 : lw_okq (⟨"JoinhandModel", "joins", "(IIII)V"⟩, 58) := ⟨⟨by decide +kernel, by decide +kernel⟩, List.mem_of_getElem? (i := 1157) (by decide +kernel), List.mem_of_getElem? (i := 1611) (by decide +kernel), List.mem_of_getElem? (i := 1612) (by decide +kernel)⟩
theorem lw_p74 : lw_okq (⟨"JoinhandModel", "partsOf", "(IIII)V"⟩, 58) := ⟨⟨by decide +kernel, by decide +kernel⟩, List.mem_of_getElem? (i := 1157) (by decide +kernel), List.mem_of_getElem? (i := 1615) (by decide +kernel), List.mem_of_getElem? (i := 1616) (by decide +kernel)⟩
theorem lw_p75 : lw_okq (⟨"JoinhandModel", "behindMarks", "(I)I"⟩, 58) := ⟨⟨by decide +kernel, by decide +kernel⟩, List.mem_of_getElem? (i := 1157) (by decide +kernel), List.mem_of_getElem? (i := 1619) (by decide +kernel), List.mem_of_getElem? (i := 1620) (by decide +kernel)⟩
theorem lw_p76 : lw_okq (⟨"JoinhandModel", "merges", "(II)V"⟩, 58) := ⟨⟨by decide +kernel, by decide +kernel⟩, List.mem_of_getElem? (i := 1157) (by decide +kernel), List.mem_of_getElem? (i := 1623) (by decide +kernel), List.mem_of_getElem? (i := 1624) (by decide +kernel)⟩
theorem lw_p77 : lw_okq (⟨"JoinhandModel", "takesIn", "(II)V"⟩, 58) := ⟨⟨by decide +kernel, by decide +kernel⟩, List.mem_of_getElem? (i := 1157) (by decide +kernel), List.mem_of_getElem? (i := 1627) (by decide +kernel), List.mem_of_getElem? (i := 1628) (by decide +kernel)⟩
theorem lw_p78 : lw_okq (⟨"JoinhandModel", "movesBack", "()V"⟩, 58) := ⟨⟨by decide +kernel, by decide +kernel⟩, List.mem_of_getElem? (i := 1157) (by decide +kernel), List.mem_of_getElem? (i := 1631) (by decide +kernel), List.mem_of_getElem? (i := 1632) (by decide +kernel)⟩
theorem lw_p79 : lw_okq (⟨"JoinhandModel", "behindCluster", "(I)I"⟩, 58) := ⟨⟨by decide +kernel, by decide +kernel⟩, List.mem_of_getElem? (i := 1157) (by decide +kernel), List.mem_of_getElem? (i := 1635) (by decide +kernel), List.mem_of_getElem? (i := 1636) (by decide +kernel)⟩
def lw_privs_5 : List (MethodName × Nat) := [(⟨"JoinhandModel", "goesThrough", "(I)V"⟩, 58), (⟨"JoinhandModel", "contexts", "(II)I"⟩, 58), (⟨"JoinhandModel", "doesContext", "(III)I"⟩, 58), (⟨"JoinhandModel", "calls", "(II)V"⟩, 58), (⟨"JoinhandModel", "doesFirst", "(II)I"⟩, 58), (⟨"JoinhandModel", "does", "(III)I"⟩, 58), (⟨"JoinhandModel", "puts", "(IIII)I"⟩, 58), (⟨"JoinhandModel", "opens", "(II)V"⟩, 58), (⟨"JoinhandModel", "ligates", "(IIIII)I"⟩, 58), (⟨"JoinhandModel", "joins", "(IIII)V"⟩, 58), (⟨"JoinhandModel", "partsOf", "(IIII)V"⟩, 58), (⟨"JoinhandModel", "behindMarks", "(I)I"⟩, 58), (⟨"JoinhandModel", "merges", "(II)V"⟩, 58), (⟨"JoinhandModel", "takesIn", "(II)V"⟩, 58), (⟨"JoinhandModel", "movesBack", "()V"⟩, 58), (⟨"JoinhandModel", "behindCluster", "(I)I"⟩, 58)]
theorem lw_r5 : ∀ q ∈ lw_privs_5, lw_okq q := List.forall_mem_cons.mpr ⟨lw_p64, List.forall_mem_cons.mpr ⟨lw_p65, List.forall_mem_cons.mpr ⟨lw_p66, List.forall_mem_cons.mpr ⟨lw_p67, List.forall_mem_cons.mpr ⟨lw_p68, List.forall_mem_cons.mpr ⟨lw_p69, List.forall_mem_cons.mpr ⟨lw_p70, List.forall_mem_cons.mpr ⟨lw_p71, List.forall_mem_cons.mpr ⟨lw_p72, List.forall_mem_cons.mpr ⟨lw_p73, List.forall_mem_cons.mpr ⟨lw_p74, List.forall_mem_cons.mpr ⟨lw_p75, List.forall_mem_cons.mpr ⟨lw_p76, List.forall_mem_cons.mpr ⟨lw_p77, List.forall_mem_cons.mpr ⟨lw_p78, List.forall_mem_cons.mpr ⟨lw_p79, fun _ h => absurd h List.not_mem_nil⟩⟩⟩⟩⟩⟩⟩⟩⟩⟩⟩⟩⟩⟩⟩⟩
theorem lw_p80 : lw_okq (⟨"JoinhandModel", "takesOut", "()V"⟩, 58) := ⟨⟨by decide +kernel, by decide +kernel⟩, List.mem_of_getElem? (i := 1157) (by decide +kernel), List.mem_of_getElem? (i := 1639) (by decide +kernel), List.mem_of_getElem? (i := 1640) (by decide +kernel)⟩
theorem lw_p81 : lw_okq (⟨"JoinhandModel", "laysPlaces", "()V"⟩, 58) := ⟨⟨by decide +kernel, by decide +kernel⟩, List.mem_of_getElem? (i := 1157) (by decide +kernel), List.mem_of_getElem? (i := 1643) (by decide +kernel), List.mem_of_getElem? (i := 1644) (by decide +kernel)⟩
theorem lw_p82 : lw_okq (⟨"JoinhandModel", "sets", "(IIII)V"⟩, 58) := ⟨⟨by decide +kernel, by decide +kernel⟩, List.mem_of_getElem? (i := 1157) (by decide +kernel), List.mem_of_getElem? (i := 1647) (by decide +kernel), List.mem_of_getElem? (i := 1648) (by decide +kernel)⟩
theorem lw_p83 : lw_okq (⟨"JoinhandModel", "pairs", "(I)V"⟩, 58) := ⟨⟨by decide +kernel, by decide +kernel⟩, List.mem_of_getElem? (i := 1157) (by decide +kernel), List.mem_of_getElem? (i := 1651) (by decide +kernel), List.mem_of_getElem? (i := 1652) (by decide +kernel)⟩
theorem lw_p84 : lw_okq (⟨"JoinhandModel", "curves", "(I)V"⟩, 58) := ⟨⟨by decide +kernel, by decide +kernel⟩, List.mem_of_getElem? (i := 1157) (by decide +kernel), List.mem_of_getElem? (i := 1655) (by decide +kernel), List.mem_of_getElem? (i := 1656) (by decide +kernel)⟩
theorem lw_p85 : lw_okq (⟨"JoinhandModel", "ruleFor", "(II)I"⟩, 58) := ⟨⟨by decide +kernel, by decide +kernel⟩, List.mem_of_getElem? (i := 1157) (by decide +kernel), List.mem_of_getElem? (i := 1659) (by decide +kernel), List.mem_of_getElem? (i := 1660) (by decide +kernel)⟩
theorem lw_p86 : lw_okq (⟨"JoinhandModel", "setsOnBases", "(I)V"⟩, 58) := ⟨⟨by decide +kernel, by decide +kernel⟩, List.mem_of_getElem? (i := 1157) (by decide +kernel), List.mem_of_getElem? (i := 1663) (by decide +kernel), List.mem_of_getElem? (i := 1664) (by decide +kernel)⟩
theorem lw_p87 : lw_okq (⟨"JoinhandModel", "setsOnMarks", "(I)V"⟩, 58) := ⟨⟨by decide +kernel, by decide +kernel⟩, List.mem_of_getElem? (i := 1157) (by decide +kernel), List.mem_of_getElem? (i := 1667) (by decide +kernel), List.mem_of_getElem? (i := 1668) (by decide +kernel)⟩
theorem lw_p88 : lw_okq (⟨"JoinhandModel", "stands", "(ZI)V"⟩, 58) := ⟨⟨by decide +kernel, by decide +kernel⟩, List.mem_of_getElem? (i := 1157) (by decide +kernel), List.mem_of_getElem? (i := 1671) (by decide +kernel), List.mem_of_getElem? (i := 1672) (by decide +kernel)⟩
theorem lw_p89 : lw_okq (⟨"JoinhandModel", "wide", "()I"⟩, 58) := ⟨⟨by decide +kernel, by decide +kernel⟩, List.mem_of_getElem? (i := 1157) (by decide +kernel), List.mem_of_getElem? (i := 1675) (by decide +kernel), List.mem_of_getElem? (i := 1676) (by decide +kernel)⟩
theorem lw_p90 : lw_okq (⟨"JoinhandModel", "asksGlyph", "(I)Z"⟩, 58) := ⟨⟨by decide +kernel, by decide +kernel⟩, List.mem_of_getElem? (i := 1157) (by decide +kernel), List.mem_of_getElem? (i := 1683) (by decide +kernel), List.mem_of_getElem? (i := 1684) (by decide +kernel)⟩
theorem lw_p91 : lw_okq (⟨"JoinhandModel", "runOf", "(I)I"⟩, 58) := ⟨⟨by decide +kernel, by decide +kernel⟩, List.mem_of_getElem? (i := 1157) (by decide +kernel), List.mem_of_getElem? (i := 1703) (by decide +kernel), List.mem_of_getElem? (i := 1704) (by decide +kernel)⟩
theorem lw_p92 : lw_okq (⟨"JoinhandModel", "caretOf", "(I)I"⟩, 58) := ⟨⟨by decide +kernel, by decide +kernel⟩, List.mem_of_getElem? (i := 1157) (by decide +kernel), List.mem_of_getElem? (i := 1715) (by decide +kernel), List.mem_of_getElem? (i := 1716) (by decide +kernel)⟩
theorem lw_p93 : lw_okq (⟨"JoinhandModel", "clusterOf", "(II)I"⟩, 58) := ⟨⟨by decide +kernel, by decide +kernel⟩, List.mem_of_getElem? (i := 1157) (by decide +kernel), List.mem_of_getElem? (i := 1719) (by decide +kernel), List.mem_of_getElem? (i := 1720) (by decide +kernel)⟩
theorem lw_p94 : lw_okq (⟨"JoinhandModel", "endOfCluster", "(II)I"⟩, 58) := ⟨⟨by decide +kernel, by decide +kernel⟩, List.mem_of_getElem? (i := 1157) (by decide +kernel), List.mem_of_getElem? (i := 1723) (by decide +kernel), List.mem_of_getElem? (i := 1724) (by decide +kernel)⟩
theorem lw_p95 : lw_okq (⟨"JoinhandModel", "advances", "(IIZ)I"⟩, 58) := ⟨⟨by decide +kernel, by decide +kernel⟩, List.mem_of_getElem? (i := 1157) (by decide +kernel), List.mem_of_getElem? (i := 1727) (by decide +kernel), List.mem_of_getElem? (i := 1728) (by decide +kernel)⟩
def lw_privs_6 : List (MethodName × Nat) := [(⟨"JoinhandModel", "takesOut", "()V"⟩, 58), (⟨"JoinhandModel", "laysPlaces", "()V"⟩, 58), (⟨"JoinhandModel", "sets", "(IIII)V"⟩, 58), (⟨"JoinhandModel", "pairs", "(I)V"⟩, 58), (⟨"JoinhandModel", "curves", "(I)V"⟩, 58), (⟨"JoinhandModel", "ruleFor", "(II)I"⟩, 58), (⟨"JoinhandModel", "setsOnBases", "(I)V"⟩, 58), (⟨"JoinhandModel", "setsOnMarks", "(I)V"⟩, 58), (⟨"JoinhandModel", "stands", "(ZI)V"⟩, 58), (⟨"JoinhandModel", "wide", "()I"⟩, 58), (⟨"JoinhandModel", "asksGlyph", "(I)Z"⟩, 58), (⟨"JoinhandModel", "runOf", "(I)I"⟩, 58), (⟨"JoinhandModel", "caretOf", "(I)I"⟩, 58), (⟨"JoinhandModel", "clusterOf", "(II)I"⟩, 58), (⟨"JoinhandModel", "endOfCluster", "(II)I"⟩, 58), (⟨"JoinhandModel", "advances", "(IIZ)I"⟩, 58)]
theorem lw_r6 : ∀ q ∈ lw_privs_6, lw_okq q := List.forall_mem_cons.mpr ⟨lw_p80, List.forall_mem_cons.mpr ⟨lw_p81, List.forall_mem_cons.mpr ⟨lw_p82, List.forall_mem_cons.mpr ⟨lw_p83, List.forall_mem_cons.mpr ⟨lw_p84, List.forall_mem_cons.mpr ⟨lw_p85, List.forall_mem_cons.mpr ⟨lw_p86, List.forall_mem_cons.mpr ⟨lw_p87, List.forall_mem_cons.mpr ⟨lw_p88, List.forall_mem_cons.mpr ⟨lw_p89, List.forall_mem_cons.mpr ⟨lw_p90, List.forall_mem_cons.mpr ⟨lw_p91, List.forall_mem_cons.mpr ⟨lw_p92, List.forall_mem_cons.mpr ⟨lw_p93, List.forall_mem_cons.mpr ⟨lw_p94, List.forall_mem_cons.mpr ⟨lw_p95, fun _ h => absurd h List.not_mem_nil⟩⟩⟩⟩⟩⟩⟩⟩⟩⟩⟩⟩⟩⟩⟩⟩
theorem lw_p96 : lw_okq (⟨"JoinhandModel", "areSame", "(I)Z"⟩, 58) := ⟨⟨by decide +kernel, by decide +kernel⟩, List.mem_of_getElem? (i := 1157) (by decide +kernel), List.mem_of_getElem? (i := 1739) (by decide +kernel), List.mem_of_getElem? (i := 1740) (by decide +kernel)⟩
theorem lw_p97 : lw_okq (⟨"JoinhandModel", "laysStrokes", "(I)I"⟩, 58) := ⟨⟨by decide +kernel, by decide +kernel⟩, List.mem_of_getElem? (i := 1157) (by decide +kernel), List.mem_of_getElem? (i := 1747) (by decide +kernel), List.mem_of_getElem? (i := 1748) (by decide +kernel)⟩
theorem lw_p98 : lw_okq (⟨"JoinhandModel", "mayStand", "(I)Z"⟩, 58) := ⟨⟨by decide +kernel, by decide +kernel⟩, List.mem_of_getElem? (i := 1157) (by decide +kernel), List.mem_of_getElem? (i := 1751) (by decide +kernel), List.mem_of_getElem? (i := 1752) (by decide +kernel)⟩
theorem lw_p99 : lw_okq (⟨"JoinhandModel", "blanks", "(I)I"⟩, 58) := ⟨⟨by decide +kernel, by decide +kernel⟩, List.mem_of_getElem? (i := 1157) (by decide +kernel), List.mem_of_getElem? (i := 1755) (by decide +kernel), List.mem_of_getElem? (i := 1756) (by decide +kernel)⟩
def lw_privs_7 : List (MethodName × Nat) := [(⟨"JoinhandModel", "areSame", "(I)Z"⟩, 58), (⟨"JoinhandModel", "laysStrokes", "(I)I"⟩, 58), (⟨"JoinhandModel", "mayStand", "(I)Z"⟩, 58), (⟨"JoinhandModel", "blanks", "(I)I"⟩, 58)]
theorem lw_r7 : ∀ q ∈ lw_privs_7, lw_okq q := List.forall_mem_cons.mpr ⟨lw_p96, List.forall_mem_cons.mpr ⟨lw_p97, List.forall_mem_cons.mpr ⟨lw_p98, List.forall_mem_cons.mpr ⟨lw_p99, fun _ h => absurd h List.not_mem_nil⟩⟩⟩⟩
def lw_privs : List (MethodName × Nat) := lw_privs_1 ++ (lw_privs_2 ++ (lw_privs_3 ++ (lw_privs_4 ++ (lw_privs_5 ++ (lw_privs_6 ++ (lw_privs_7))))))
def lw_tbl : List Cond := k2_sels lw_privs ++ tables_1
theorem lw_privs_ok : ∀ q ∈ lw_privs, lw_okq q := by
  show ∀ q ∈ lw_privs_1 ++ (lw_privs_2 ++ (lw_privs_3 ++ (lw_privs_4 ++ (lw_privs_5 ++ (lw_privs_6 ++ (lw_privs_7)))))), lw_okq q
  exact List.forall_mem_append.mpr ⟨lw_r1, List.forall_mem_append.mpr ⟨lw_r2, List.forall_mem_append.mpr ⟨lw_r3, List.forall_mem_append.mpr ⟨lw_r4, List.forall_mem_append.mpr ⟨lw_r5, List.forall_mem_append.mpr ⟨lw_r6, lw_r7⟩⟩⟩⟩⟩⟩

/-! ===== BEGIN printed: names, fields, word lists, decode rows ===== -/
def RX0 : String := "Joinhand$Changes"
def TX0 : u_T := fun k => match k with
  | 0 => ("Joinhand$Changes", "row", "LJoinhand$Row;", true)
  | 1 => ("Joinhand$Changes", "spots", "[I", true)
  | 2 => ("Joinhand$Changes", "face", "LJoinhand$Face;", false)
  | 3 => ("Joinhand$Changes", "isTabled", "Z", false)
  | 4 => ("Joinhand$Changes", "second", "I", false)
  | 5 => ("Joinhand$Changes", "third", "I", false)
  | 6 => ("Joinhand$Changes", "aheadNumber", "I", false)
  | 7 => ("Joinhand$Changes", "secondNumber", "I", false)
  | _ => ("Joinhand$Changes", "thirdNumber", "I", false)
def tyX0 : Nat → FieldType := fun k => match k with
  | 0 => .object "Joinhand$Row"
  | 1 => .array .int
  | 2 => .object "Joinhand$Face"
  | 3 => .boolean
  | 4 => .int
  | 5 => .int
  | 6 => .int
  | 7 => .int
  | _ => .int
abbrev wsX00 : List Cond := u_ws RX0 TX0 9
theorem nmX0 : ∀ a, a < 9 → ∀ b, b < 9 → a ≠ b → (TX0 a).2.1 ≠ (TX0 b).2.1 := by decide +kernel
theorem tyX0_ok : ∀ k, k < 9 → parseFieldDescriptor (TX0 k).2.2.1 = some (tyX0 k) := by decide +kernel
abbrev cX0_init : ByteArray := prog_2_method_1_code
def yX0_init : MethodName := ⟨RX0, "<init>", "(LJoinhand$Row;)V"⟩
abbrev cX0_use : ByteArray := prog_2_method_2_code
def yX0_use : MethodName := ⟨RX0, "use", "(LJoinhand$Face;Z)V"⟩
abbrev cX0_go : ByteArray := prog_2_method_3_code
def yX0_go : MethodName := ⟨RX0, "go", "(LJoinhand$Lookup;)V"⟩
abbrev cX0_goBack : ByteArray := prog_2_method_4_code
def yX0_goBack : MethodName := ⟨RX0, "goBack", "(LJoinhand$Lookup;)V"⟩
abbrev cX0_firstFit : ByteArray := prog_2_method_5_code
def yX0_firstFit : MethodName := ⟨RX0, "firstFit", "(LJoinhand$Lookup;I)I"⟩
abbrev cX0_fits : ByteArray := prog_2_method_6_code
def yX0_fits : MethodName := ⟨RX0, "fits", "(I[ILJoinhand$Glyph;)Z"⟩
abbrev cX0_change : ByteArray := prog_2_method_7_code
def yX0_change : MethodName := ⟨RX0, "change", "(I[II)I"⟩
abbrev cX0_giveParts : ByteArray := prog_2_method_8_code
def yX0_giveParts : MethodName := ⟨RX0, "giveParts", "(I)V"⟩
abbrev cX0_mergeClusters : ByteArray := prog_2_method_9_code
def yX0_mergeClusters : MethodName := ⟨RX0, "mergeClusters", "(I)V"⟩
abbrev cX0_fuse : ByteArray := prog_2_method_10_code
def yX0_fuse : MethodName := ⟨RX0, "fuse", "(II)V"⟩
abbrev cX0_call : ByteArray := prog_2_method_11_code
def yX0_call : MethodName := ⟨RX0, "call", "([II)I"⟩
def RX1 : String := "Joinhand$Face"
def TX1 : u_T := fun k => match k with
  | 0 => ("Joinhand$Face", "lookups", "[LJoinhand$Lookup;", true)
  | 1 => ("Joinhand$Face", "marks", "[I", true)
  | 2 => ("Joinhand$Face", "groups", "[I", true)
  | 3 => ("Joinhand$Face", "widths", "[I", true)
  | _ => ("Joinhand$Face", "count", "I", false)
def tyX1 : Nat → FieldType := fun k => match k with
  | 0 => .array (.object "Joinhand$Lookup")
  | 1 => .array .int
  | 2 => .array .int
  | 3 => .array .int
  | _ => .int
abbrev wsX10 : List Cond := u_ws RX1 TX1 5
theorem nmX1 : ∀ a, a < 5 → ∀ b, b < 5 → a ≠ b → (TX1 a).2.1 ≠ (TX1 b).2.1 := by decide +kernel
theorem tyX1_ok : ∀ k, k < 5 → parseFieldDescriptor (TX1 k).2.2.1 = some (tyX1 k) := by decide +kernel
abbrev cX1_init : ByteArray := prog_3_method_1_code
def yX1_init : MethodName := ⟨RX1, "<init>", "()V"⟩
abbrev cX1_lookupAt : ByteArray := prog_3_method_2_code
def yX1_lookupAt : MethodName := ⟨RX1, "lookupAt", "(I)LJoinhand$Lookup;"⟩
abbrev cX1_tabulate : ByteArray := prog_3_method_3_code
def yX1_tabulate : MethodName := ⟨RX1, "tabulate", "(LJoinhand$Lookup;)V"⟩
abbrev cX1_regroup : ByteArray := prog_3_method_4_code
def yX1_regroup : MethodName := ⟨RX1, "regroup", "(II)V"⟩
abbrev cX1_isMark : ByteArray := prog_3_method_5_code
def yX1_isMark : MethodName := ⟨RX1, "isMark", "(I)Z"⟩
abbrev cX1_skips : ByteArray := prog_3_method_6_code
def yX1_skips : MethodName := ⟨RX1, "skips", "(LJoinhand$Lookup;I)Z"⟩
abbrev cX1_hasTurn : ByteArray := prog_3_method_7_code
def yX1_hasTurn : MethodName := ⟨RX1, "hasTurn", "(LJoinhand$Lookup;LJoinhand$Glyph;)Z"⟩
abbrev cX1_suits : ByteArray := prog_3_method_8_code
def yX1_suits : MethodName := ⟨RX1, "suits", "(II)Z"⟩
abbrev cX1_beginning : ByteArray := prog_3_method_9_code
def yX1_beginning : MethodName := ⟨RX1, "beginning", "(LJoinhand$Lookup;IZ)I"⟩
def RX2 : String := "Joinhand$Glyph"
def TX2 : u_T := fun k => match k with
  | 0 => ("Joinhand$Glyph", "number", "I", false)
  | 1 => ("Joinhand$Glyph", "cluster", "I", false)
  | 2 => ("Joinhand$Glyph", "extra", "I", false)
  | 3 => ("Joinhand$Glyph", "form", "I", false)
  | 4 => ("Joinhand$Glyph", "origin", "I", false)
  | 5 => ("Joinhand$Glyph", "part", "I", false)
  | 6 => ("Joinhand$Glyph", "parts", "I", false)
  | 7 => ("Joinhand$Glyph", "advance", "I", false)
  | 8 => ("Joinhand$Glyph", "height", "I", false)
  | 9 => ("Joinhand$Glyph", "left", "I", false)
  | 10 => ("Joinhand$Glyph", "on", "I", false)
  | 11 => ("Joinhand$Glyph", "right", "I", false)
  | _ => ("Joinhand$Glyph", "up", "I", false)
def tyX2 : Nat → FieldType := fun k => match k with
  | 0 => .int
  | 1 => .int
  | 2 => .int
  | 3 => .int
  | 4 => .int
  | 5 => .int
  | 6 => .int
  | 7 => .int
  | 8 => .int
  | 9 => .int
  | 10 => .int
  | 11 => .int
  | _ => .int
abbrev wsX20 : List Cond := u_ws RX2 TX2 13
theorem nmX2 : ∀ a, a < 13 → ∀ b, b < 13 → a ≠ b → (TX2 a).2.1 ≠ (TX2 b).2.1 := by decide +kernel
theorem tyX2_ok : ∀ k, k < 13 → parseFieldDescriptor (TX2 k).2.2.1 = some (tyX2 k) := by decide +kernel
abbrev cX2_init : ByteArray := prog_4_method_1_code
def yX2_init : MethodName := ⟨RX2, "<init>", "()V"⟩
abbrev cX2_start : ByteArray := prog_4_method_2_code
def yX2_start : MethodName := ⟨RX2, "start", "(IIII)V"⟩
abbrev cX2_takeOver : ByteArray := prog_4_method_3_code
def yX2_takeOver : MethodName := ⟨RX2, "takeOver", "(LJoinhand$Glyph;)V"⟩
abbrev cX2_setOn : ByteArray := prog_4_method_4_code
def yX2_setOn : MethodName := ⟨RX2, "setOn", "(III)V"⟩
def RX3 : String := "Joinhand$Line"
def TX3 : u_T := fun k => match k with
  | 0 => ("Joinhand$Line", "given", "[I", true)
  | 1 => ("Joinhand$Line", "isTooShort", "Z", false)
  | _ => ("Joinhand$Line", "left", "I", false)
def tyX3 : Nat → FieldType := fun k => match k with
  | 0 => .array .int
  | 1 => .boolean
  | _ => .int
abbrev wsX30 : List Cond := u_ws RX3 TX3 3
theorem nmX3 : ∀ a, a < 3 → ∀ b, b < 3 → a ≠ b → (TX3 a).2.1 ≠ (TX3 b).2.1 := by decide +kernel
theorem tyX3_ok : ∀ k, k < 3 → parseFieldDescriptor (TX3 k).2.2.1 = some (tyX3 k) := by decide +kernel
abbrev cX3_init : ByteArray := prog_5_method_1_code
def yX3_init : MethodName := ⟨RX3, "<init>", "()V"⟩
abbrev cX3_reckon : ByteArray := prog_5_method_2_code
def yX3_reckon : MethodName := ⟨RX3, "reckon", "(LJoinhand$Page;LJoinhand$Text;II)V"⟩
abbrev cX3_setStrokes : ByteArray := prog_5_method_3_code
def yX3_setStrokes : MethodName := ⟨RX3, "setStrokes", "(LJoinhand$Page;LJoinhand$Text;I)V"⟩
abbrev cX3_takesStroke : ByteArray := prog_5_method_4_code
def yX3_takesStroke : MethodName := ⟨RX3, "takesStroke", "(LJoinhand$Page;LJoinhand$Text;I)Z"⟩
abbrev cX3_widenBlanks : ByteArray := prog_5_method_5_code
def yX3_widenBlanks : MethodName := ⟨RX3, "widenBlanks", "(LJoinhand$Text;)V"⟩
def RX4 : String := "Joinhand$Lookup"
def TX4 : u_T := fun k => match k with
  | 0 => ("Joinhand$Lookup", "kind", "I", true)
  | 1 => ("Joinhand$Lookup", "feature", "I", true)
  | 2 => ("Joinhand$Lookup", "stage", "I", true)
  | 3 => ("Joinhand$Lookup", "tongue", "I", true)
  | 4 => ("Joinhand$Lookup", "skip", "I", true)
  | 5 => ("Joinhand$Lookup", "lead", "I", true)
  | 6 => ("Joinhand$Lookup", "rules", "[[I", true)
  | 7 => ("Joinhand$Lookup", "table", "[I", true)
  | _ => ("Joinhand$Lookup", "told", "I", false)
def tyX4 : Nat → FieldType := fun k => match k with
  | 0 => .int
  | 1 => .int
  | 2 => .int
  | 3 => .int
  | 4 => .int
  | 5 => .int
  | 6 => .array (.array .int)
  | 7 => .array .int
  | _ => .int
abbrev wsX40 : List Cond := u_ws RX4 TX4 9
theorem nmX4 : ∀ a, a < 9 → ∀ b, b < 9 → a ≠ b → (TX4 a).2.1 ≠ (TX4 b).2.1 := by decide +kernel
theorem tyX4_ok : ∀ k, k < 9 → parseFieldDescriptor (TX4 k).2.2.1 = some (tyX4 k) := by decide +kernel
abbrev cX4_init : ByteArray := prog_6_method_1_code
def yX4_init : MethodName := ⟨RX4, "<init>", "(IIIII)V"⟩
abbrev cX4_accepts : ByteArray := prog_6_method_2_code
def yX4_accepts : MethodName := ⟨RX4, "accepts", "(IIIIII)Z"⟩
abbrev cX4_isItemOrNone : ByteArray := prog_6_method_3_code
def yX4_isItemOrNone : MethodName := ⟨RX4, "isItemOrNone", "(I)Z"⟩
abbrev cX4_isStep : ByteArray := prog_6_method_4_code
def yX4_isStep : MethodName := ⟨RX4, "isStep", "(I)Z"⟩
abbrev cX4_isClass : ByteArray := prog_6_method_5_code
def yX4_isClass : MethodName := ⟨RX4, "isClass", "(I)Z"⟩
abbrev cX4_tell : ByteArray := prog_6_method_6_code
def yX4_tell : MethodName := ⟨RX4, "tell", "(IIIIII)V"⟩
abbrev cX4_begins : ByteArray := prog_6_method_7_code
def yX4_begins : MethodName := ⟨RX4, "begins", "(II)I"⟩
abbrev cX4_tableSize : ByteArray := prog_6_method_8_code
def yX4_tableSize : MethodName := ⟨RX4, "tableSize", "()I"⟩
abbrev cX4_isOf : ByteArray := prog_6_method_9_code
def yX4_isOf : MethodName := ⟨RX4, "isOf", "(I)Z"⟩
abbrev cX4_isDue : ByteArray := prog_6_method_10_code
def yX4_isDue : MethodName := ⟨RX4, "isDue", "(II)Z"⟩
abbrev cX4_firstOf : ByteArray := prog_6_method_11_code
def yX4_firstOf : MethodName := ⟨RX4, "firstOf", "(I)I"⟩
abbrev cX4_isFor : ByteArray := prog_6_method_12_code
def yX4_isFor : MethodName := ⟨RX4, "isFor", "(LJoinhand$Glyph;)Z"⟩
def RX5 : String := "Joinhand$Opening"
def TX5 : u_T := fun k => match k with
  | _ => ("Joinhand$Opening", "row", "LJoinhand$Row;", true)
def tyX5 : Nat → FieldType := fun k => match k with
  | _ => .object "Joinhand$Row"
abbrev wsX50 : List Cond := u_ws RX5 TX5 1
theorem nmX5 : ∀ a, a < 1 → ∀ b, b < 1 → a ≠ b → (TX5 a).2.1 ≠ (TX5 b).2.1 := by decide +kernel
theorem tyX5_ok : ∀ k, k < 1 → parseFieldDescriptor (TX5 k).2.2.1 = some (tyX5 k) := by decide +kernel
abbrev cX5_init : ByteArray := prog_7_method_1_code
def yX5_init : MethodName := ⟨RX5, "<init>", "(LJoinhand$Row;)V"⟩
abbrev cX5_begin : ByteArray := prog_7_method_2_code
def yX5_begin : MethodName := ⟨RX5, "begin", "(LJoinhand$Text;LJoinhand$Runs;I)V"⟩
abbrev cX5_beginJ : ByteArray := prog_7_method_3_code
def yX5_beginJ : MethodName := ⟨RX5, "beginJ", "(LJoinhand$Text;LJoinhand$Runs;II)V"⟩
abbrev cX5_syllableEnd : ByteArray := prog_7_method_4_code
def yX5_syllableEnd : MethodName := ⟨RX5, "syllableEnd", "(LJoinhand$Text;II)I"⟩
abbrev cX5_stackEnd : ByteArray := prog_7_method_5_code
def yX5_stackEnd : MethodName := ⟨RX5, "stackEnd", "(LJoinhand$Text;II)I"⟩
abbrev cX5_vowelsEnd : ByteArray := prog_7_method_6_code
def yX5_vowelsEnd : MethodName := ⟨RX5, "vowelsEnd", "(LJoinhand$Text;II)I"⟩
abbrev cX5_needsCarrier : ByteArray := prog_7_method_7_code
def yX5_needsCarrier : MethodName := ⟨RX5, "needsCarrier", "(I)Z"⟩
abbrev cX5_isVowelOrMark : ByteArray := prog_7_method_8_code
def yX5_isVowelOrMark : MethodName := ⟨RX5, "isVowelOrMark", "(I)Z"⟩
abbrev cX5_addSyllable : ByteArray := prog_7_method_9_code
def yX5_addSyllable : MethodName := ⟨RX5, "addSyllable", "(LJoinhand$Text;II)V"⟩
abbrev cX5_climb : ByteArray := prog_7_method_10_code
def yX5_climb : MethodName := ⟨RX5, "climb", "(I)V"⟩
abbrev cX5_followsConsonant : ByteArray := prog_7_method_11_code
def yX5_followsConsonant : MethodName := ⟨RX5, "followsConsonant", "(I)Z"⟩
abbrev cX5_setAhead : ByteArray := prog_7_method_12_code
def yX5_setAhead : MethodName := ⟨RX5, "setAhead", "(I)V"⟩
abbrev cX5_setBack : ByteArray := prog_7_method_13_code
def yX5_setBack : MethodName := ⟨RX5, "setBack", "()V"⟩
abbrev cX5_lastKiller : ByteArray := prog_7_method_14_code
def yX5_lastKiller : MethodName := ⟨RX5, "lastKiller", "(II)I"⟩
def RX6 : String := "Joinhand$Page"
def TX6 : u_T := fun k => match k with
  | 0 => ("Joinhand$Page", "runs", "LJoinhand$Runs;", true)
  | 1 => ("Joinhand$Page", "numbers", "[I", true)
  | 2 => ("Joinhand$Page", "clusters", "[I", true)
  | 3 => ("Joinhand$Page", "advances", "[I", true)
  | 4 => ("Joinhand$Page", "heights", "[I", true)
  | 5 => ("Joinhand$Page", "lefts", "[I", true)
  | 6 => ("Joinhand$Page", "ons", "[I", true)
  | 7 => ("Joinhand$Page", "rights", "[I", true)
  | 8 => ("Joinhand$Page", "ups", "[I", true)
  | 9 => ("Joinhand$Page", "length", "I", false)
  | _ => ("Joinhand$Page", "width", "I", false)
def tyX6 : Nat → FieldType := fun k => match k with
  | 0 => .object "Joinhand$Runs"
  | 1 => .array .int
  | 2 => .array .int
  | 3 => .array .int
  | 4 => .array .int
  | 5 => .array .int
  | 6 => .array .int
  | 7 => .array .int
  | 8 => .array .int
  | 9 => .int
  | _ => .int
abbrev wsX60 : List Cond := u_ws RX6 TX6 11
theorem nmX6 : ∀ a, a < 11 → ∀ b, b < 11 → a ≠ b → (TX6 a).2.1 ≠ (TX6 b).2.1 := by decide +kernel
theorem tyX6_ok : ∀ k, k < 11 → parseFieldDescriptor (TX6 k).2.2.1 = some (tyX6 k) := by decide +kernel
abbrev cX6_init : ByteArray := prog_8_method_1_code
def yX6_init : MethodName := ⟨RX6, "<init>", "()V"⟩
abbrev cX6_clear : ByteArray := prog_8_method_2_code
def yX6_clear : MethodName := ⟨RX6, "clear", "()V"⟩
abbrev cX6_append : ByteArray := prog_8_method_3_code
def yX6_append : MethodName := ⟨RX6, "append", "(LJoinhand$Row;I)V"⟩
abbrev cX6_isLike : ByteArray := prog_8_method_4_code
def yX6_isLike : MethodName := ⟨RX6, "isLike", "(LJoinhand$Page;)Z"⟩
abbrev cX6_ownerOf : ByteArray := prog_8_method_5_code
def yX6_ownerOf : MethodName := ⟨RX6, "ownerOf", "(I)I"⟩
abbrev cX6_caretOf : ByteArray := prog_8_method_6_code
def yX6_caretOf : MethodName := ⟨RX6, "caretOf", "(I)I"⟩
abbrev cX6_fromBeginning : ByteArray := prog_8_method_7_code
def yX6_fromBeginning : MethodName := ⟨RX6, "fromBeginning", "(II)I"⟩
def RX7 : String := "Joinhand$Places"
def TX7 : u_T := fun k => match k with
  | 0 => ("Joinhand$Places", "row", "LJoinhand$Row;", true)
  | 1 => ("Joinhand$Places", "face", "LJoinhand$Face;", false)
  | _ => ("Joinhand$Places", "isTabled", "Z", false)
def tyX7 : Nat → FieldType := fun k => match k with
  | 0 => .object "Joinhand$Row"
  | 1 => .object "Joinhand$Face"
  | _ => .boolean
abbrev wsX70 : List Cond := u_ws RX7 TX7 3
theorem nmX7 : ∀ a, a < 3 → ∀ b, b < 3 → a ≠ b → (TX7 a).2.1 ≠ (TX7 b).2.1 := by decide +kernel
theorem tyX7_ok : ∀ k, k < 3 → parseFieldDescriptor (TX7 k).2.2.1 = some (tyX7 k) := by decide +kernel
abbrev cX7_init : ByteArray := prog_9_method_1_code
def yX7_init : MethodName := ⟨RX7, "<init>", "(LJoinhand$Row;)V"⟩
abbrev cX7_set : ByteArray := prog_9_method_2_code
def yX7_set : MethodName := ⟨RX7, "set", "(LJoinhand$Face;IZ)V"⟩
abbrev cX7_addToPairs : ByteArray := prog_9_method_3_code
def yX7_addToPairs : MethodName := ⟨RX7, "addToPairs", "(LJoinhand$Lookup;)V"⟩
abbrev cX7_pairRule : ByteArray := prog_9_method_4_code
def yX7_pairRule : MethodName := ⟨RX7, "pairRule", "(LJoinhand$Lookup;II)I"⟩
abbrev cX7_linkHeights : ByteArray := prog_9_method_5_code
def yX7_linkHeights : MethodName := ⟨RX7, "linkHeights", "(LJoinhand$Lookup;)V"⟩
abbrev cX7_setMarks : ByteArray := prog_9_method_6_code
def yX7_setMarks : MethodName := ⟨RX7, "setMarks", "(LJoinhand$Lookup;)V"⟩
abbrev cX7_setOnBase : ByteArray := prog_9_method_7_code
def yX7_setOnBase : MethodName := ⟨RX7, "setOnBase", "(LJoinhand$Lookup;LJoinhand$Glyph;I)V"⟩
abbrev cX7_setOnMark : ByteArray := prog_9_method_8_code
def yX7_setOnMark : MethodName := ⟨RX7, "setOnMark", "(LJoinhand$Lookup;LJoinhand$Glyph;I)V"⟩
abbrev cX7_settle : ByteArray := prog_9_method_9_code
def yX7_settle : MethodName := ⟨RX7, "settle", "(IZ)V"⟩
def RX8 : String := "Joinhand$Row"
def TX8 : u_T := fun k => match k with
  | 0 => ("Joinhand$Row", "cells", "[LJoinhand$Glyph;", true)
  | _ => ("Joinhand$Row", "length", "I", false)
def tyX8 : Nat → FieldType := fun k => match k with
  | 0 => .array (.object "Joinhand$Glyph")
  | _ => .int
abbrev wsX80 : List Cond := u_ws RX8 TX8 2
theorem nmX8 : ∀ a, a < 2 → ∀ b, b < 2 → a ≠ b → (TX8 a).2.1 ≠ (TX8 b).2.1 := by decide +kernel
theorem tyX8_ok : ∀ k, k < 2 → parseFieldDescriptor (TX8 k).2.2.1 = some (tyX8 k) := by decide +kernel
abbrev cX8_init : ByteArray := prog_10_method_1_code
def yX8_init : MethodName := ⟨RX8, "<init>", "()V"⟩
abbrev cX8_add : ByteArray := prog_10_method_2_code
def yX8_add : MethodName := ⟨RX8, "add", "()LJoinhand$Glyph;"⟩
abbrev cX8_has : ByteArray := prog_10_method_3_code
def yX8_has : MethodName := ⟨RX8, "has", "(I)Z"⟩
abbrev cX8_move : ByteArray := prog_10_method_4_code
def yX8_move : MethodName := ⟨RX8, "move", "(II)V"⟩
abbrev cX8_takeOut : ByteArray := prog_10_method_5_code
def yX8_takeOut : MethodName := ⟨RX8, "takeOut", "(I)V"⟩
abbrev cX8_putBehind : ByteArray := prog_10_method_6_code
def yX8_putBehind : MethodName := ⟨RX8, "putBehind", "(II)V"⟩
abbrev cX8_numberAt : ByteArray := prog_10_method_7_code
def yX8_numberAt : MethodName := ⟨RX8, "numberAt", "(I)I"⟩
abbrev cX8_indexOf : ByteArray := prog_10_method_8_code
def yX8_indexOf : MethodName := ⟨RX8, "indexOf", "(LJoinhand$Glyph;)I"⟩
abbrev cX8_ahead : ByteArray := prog_10_method_9_code
def yX8_ahead : MethodName := ⟨RX8, "ahead", "(LJoinhand$Face;LJoinhand$Lookup;I)I"⟩
abbrev cX8_behind : ByteArray := prog_10_method_10_code
def yX8_behind : MethodName := ⟨RX8, "behind", "(LJoinhand$Face;LJoinhand$Lookup;I)I"⟩
abbrev cX8_dropJoiners : ByteArray := prog_10_method_11_code
def yX8_dropJoiners : MethodName := ⟨RX8, "dropJoiners", "()V"⟩
def RX9 : String := "Joinhand$Runs"
def TX9 : u_T := fun k => match k with
  | 0 => ("Joinhand$Runs", "ofSign", "[I", true)
  | 1 => ("Joinhand$Runs", "forms", "[I", true)
  | 2 => ("Joinhand$Runs", "isS", "[Z", true)
  | 3 => ("Joinhand$Runs", "faces", "[I", true)
  | 4 => ("Joinhand$Runs", "starts", "[I", true)
  | 5 => ("Joinhand$Runs", "ends", "[I", true)
  | 6 => ("Joinhand$Runs", "firstGlyphs", "[I", true)
  | 7 => ("Joinhand$Runs", "endGlyphs", "[I", true)
  | 8 => ("Joinhand$Runs", "lefts", "[I", true)
  | 9 => ("Joinhand$Runs", "widths", "[I", true)
  | _ => ("Joinhand$Runs", "count", "I", false)
def tyX9 : Nat → FieldType := fun k => match k with
  | 0 => .array .int
  | 1 => .array .int
  | 2 => .array .boolean
  | 3 => .array .int
  | 4 => .array .int
  | 5 => .array .int
  | 6 => .array .int
  | 7 => .array .int
  | 8 => .array .int
  | 9 => .array .int
  | _ => .int
abbrev wsX90 : List Cond := u_ws RX9 TX9 11
theorem nmX9 : ∀ a, a < 11 → ∀ b, b < 11 → a ≠ b → (TX9 a).2.1 ≠ (TX9 b).2.1 := by decide +kernel
theorem tyX9_ok : ∀ k, k < 11 → parseFieldDescriptor (TX9 k).2.2.1 = some (tyX9 k) := by decide +kernel
abbrev cX9_init : ByteArray := prog_11_method_1_code
def yX9_init : MethodName := ⟨RX9, "<init>", "()V"⟩
abbrev cX9_part : ByteArray := prog_11_method_2_code
def yX9_part : MethodName := ⟨RX9, "part", "(LJoinhand$Text;II)V"⟩
abbrev cX9_beginsWithS : ByteArray := prog_11_method_3_code
def yX9_beginsWithS : MethodName := ⟨RX9, "beginsWithS", "(LJoinhand$Text;II)Z"⟩
abbrev cX9_open : ByteArray := prog_11_method_4_code
def yX9_open : MethodName := ⟨RX9, "open", "(IZI)V"⟩
abbrev cX9_formOf : ByteArray := prog_11_method_5_code
def yX9_formOf : MethodName := ⟨RX9, "formOf", "(LJoinhand$Text;I)I"⟩
abbrev cX9_canReachBack : ByteArray := prog_11_method_6_code
def yX9_canReachBack : MethodName := ⟨RX9, "canReachBack", "(LJoinhand$Text;I)Z"⟩
abbrev cX9_canReachOn : ByteArray := prog_11_method_7_code
def yX9_canReachOn : MethodName := ⟨RX9, "canReachOn", "(LJoinhand$Text;I)Z"⟩
abbrev cX9_nextLetter : ByteArray := prog_11_method_8_code
def yX9_nextLetter : MethodName := ⟨RX9, "nextLetter", "(LJoinhand$Text;I)I"⟩
abbrev cX9_codeOf : ByteArray := prog_11_method_9_code
def yX9_codeOf : MethodName := ⟨RX9, "codeOf", "(I)I"⟩
def RX10 : String := "Joinhand$Text"
def TX10 : u_T := fun k => match k with
  | 0 => ("Joinhand$Text", "signs", "[I", true)
  | 1 => ("Joinhand$Text", "extras", "[I", true)
  | 2 => ("Joinhand$Text", "lacked", "[Z", true)
  | 3 => ("Joinhand$Text", "length", "I", false)
  | _ => ("Joinhand$Text", "tongue", "I", false)
def tyX10 : Nat → FieldType := fun k => match k with
  | 0 => .array .int
  | 1 => .array .int
  | 2 => .array .boolean
  | 3 => .int
  | _ => .int
abbrev wsX100 : List Cond := u_ws RX10 TX10 5
theorem nmX10 : ∀ a, a < 5 → ∀ b, b < 5 → a ≠ b → (TX10 a).2.1 ≠ (TX10 b).2.1 := by decide +kernel
theorem tyX10_ok : ∀ k, k < 5 → parseFieldDescriptor (TX10 k).2.2.1 = some (tyX10 k) := by decide +kernel
abbrev cX10_init : ByteArray := prog_12_method_1_code
def yX10_init : MethodName := ⟨RX10, "<init>", "()V"⟩
abbrev cX10_putIn : ByteArray := prog_12_method_2_code
def yX10_putIn : MethodName := ⟨RX10, "putIn", "(II)V"⟩
abbrev cX10_takeOut : ByteArray := prog_12_method_3_code
def yX10_takeOut : MethodName := ⟨RX10, "takeOut", "(I)I"⟩
abbrev cX10_giveExtra : ByteArray := prog_12_method_4_code
def yX10_giveExtra : MethodName := ⟨RX10, "giveExtra", "(III)I"⟩
def RX11 : String := "Joinhand"
def TX11 : u_T := fun k => match k with
  | 0 => ("Joinhand", "faces", "[LJoinhand$Face;", true)
  | 1 => ("Joinhand", "text", "LJoinhand$Text;", true)
  | 2 => ("Joinhand", "row", "LJoinhand$Row;", true)
  | 3 => ("Joinhand", "opening", "LJoinhand$Opening;", true)
  | 4 => ("Joinhand", "changes", "LJoinhand$Changes;", true)
  | 5 => ("Joinhand", "places", "LJoinhand$Places;", true)
  | 6 => ("Joinhand", "line", "LJoinhand$Line;", true)
  | 7 => ("Joinhand", "whole", "LJoinhand$Page;", true)
  | 8 => ("Joinhand", "spare", "LJoinhand$Page;", true)
  | 9 => ("Joinhand", "used", "I", false)
  | _ => ("Joinhand", "stale", "Z", false)
def tyX11 : Nat → FieldType := fun k => match k with
  | 0 => .array (.object "Joinhand$Face")
  | 1 => .object "Joinhand$Text"
  | 2 => .object "Joinhand$Row"
  | 3 => .object "Joinhand$Opening"
  | 4 => .object "Joinhand$Changes"
  | 5 => .object "Joinhand$Places"
  | 6 => .object "Joinhand$Line"
  | 7 => .object "Joinhand$Page"
  | 8 => .object "Joinhand$Page"
  | 9 => .int
  | _ => .boolean
abbrev wsX110 : List Cond := u_ws RX11 TX11 11
theorem nmX11 : ∀ a, a < 11 → ∀ b, b < 11 → a ≠ b → (TX11 a).2.1 ≠ (TX11 b).2.1 := by decide +kernel
theorem tyX11_ok : ∀ k, k < 11 → parseFieldDescriptor (TX11 k).2.2.1 = some (tyX11 k) := by decide +kernel
abbrev cX11_init : ByteArray := prog_1_method_1_code
def yX11_init : MethodName := ⟨RX11, "<init>", "()V"⟩
abbrev cX11_useFace : ByteArray := prog_1_method_2_code
def yX11_useFace : MethodName := ⟨RX11, "useFace", "(I)I"⟩
abbrev cX11_lookup : ByteArray := prog_1_method_3_code
def yX11_lookup : MethodName := ⟨RX11, "lookup", "(IIIII)I"⟩
abbrev cX11_rule : ByteArray := prog_1_method_4_code
def yX11_rule : MethodName := ⟨RX11, "rule", "(IIIIIII)I"⟩
abbrev cX11_setMark : ByteArray := prog_1_method_5_code
def yX11_setMark : MethodName := ⟨RX11, "setMark", "(II)I"⟩
abbrev cX11_setGroup : ByteArray := prog_1_method_6_code
def yX11_setGroup : MethodName := ⟨RX11, "setGroup", "(II)I"⟩
abbrev cX11_setWidth : ByteArray := prog_1_method_7_code
def yX11_setWidth : MethodName := ⟨RX11, "setWidth", "(II)I"⟩
abbrev cX11_lack : ByteArray := prog_1_method_8_code
def yX11_lack : MethodName := ⟨RX11, "lack", "(I)Z"⟩
abbrev cX11_size : ByteArray := prog_1_method_9_code
def yX11_size : MethodName := ⟨RX11, "size", "(I)I"⟩
abbrev cX11_insert : ByteArray := prog_1_method_10_code
def yX11_insert : MethodName := ⟨RX11, "insert", "(II)I"⟩
abbrev cX11_cut : ByteArray := prog_1_method_11_code
def yX11_cut : MethodName := ⟨RX11, "cut", "(I)I"⟩
abbrev cX11_setTongue : ByteArray := prog_1_method_12_code
def yX11_setTongue : MethodName := ⟨RX11, "setTongue", "(I)I"⟩
abbrev cX11_setExtra : ByteArray := prog_1_method_13_code
def yX11_setExtra : MethodName := ⟨RX11, "setExtra", "(III)I"⟩
abbrev cX11_glyphs : ByteArray := prog_1_method_14_code
def yX11_glyphs : MethodName := ⟨RX11, "glyphs", "()I"⟩
abbrev cX11_glyph : ByteArray := prog_1_method_15_code
def yX11_glyph : MethodName := ⟨RX11, "glyph", "(I)I"⟩
abbrev cX11_glyphAnew : ByteArray := prog_1_method_16_code
def yX11_glyphAnew : MethodName := ⟨RX11, "glyphAnew", "(I)I"⟩
abbrev cX11_cluster : ByteArray := prog_1_method_17_code
def yX11_cluster : MethodName := ⟨RX11, "cluster", "(I)I"⟩
abbrev cX11_place : ByteArray := prog_1_method_18_code
def yX11_place : MethodName := ⟨RX11, "place", "(II)I"⟩
abbrev cX11_form : ByteArray := prog_1_method_19_code
def yX11_form : MethodName := ⟨RX11, "form", "(I)I"⟩
abbrev cX11_run : ByteArray := prog_1_method_20_code
def yX11_run : MethodName := ⟨RX11, "run", "(I)I"⟩
abbrev cX11_caret : ByteArray := prog_1_method_21_code
def yX11_caret : MethodName := ⟨RX11, "caret", "(I)I"⟩
abbrev cX11_hit : ByteArray := prog_1_method_22_code
def yX11_hit : MethodName := ⟨RX11, "hit", "(I)I"⟩
abbrev cX11_isSafe : ByteArray := prog_1_method_23_code
def yX11_isSafe : MethodName := ⟨RX11, "isSafe", "(I)Z"⟩
abbrev cX11_fill : ByteArray := prog_1_method_24_code
def yX11_fill : MethodName := ⟨RX11, "fill", "(I)I"⟩
abbrev cX11_filling : ByteArray := prog_1_method_25_code
def yX11_filling : MethodName := ⟨RX11, "filling", "(II)I"⟩
abbrev cX11_needSign : ByteArray := prog_1_method_26_code
def yX11_needSign : MethodName := ⟨RX11, "needSign", "(I)V"⟩
abbrev cX11_needGlyph : ByteArray := prog_1_method_27_code
def yX11_needGlyph : MethodName := ⟨RX11, "needGlyph", "(LJoinhand$Page;I)V"⟩
abbrev cX11_needLine : ByteArray := prog_1_method_28_code
def yX11_needLine : MethodName := ⟨RX11, "needLine", "(I)V"⟩
abbrev cX11_shaped : ByteArray := prog_1_method_29_code
def yX11_shaped : MethodName := ⟨RX11, "shaped", "()LJoinhand$Page;"⟩
abbrev cX11_shape : ByteArray := prog_1_method_30_code
def yX11_shape : MethodName := ⟨RX11, "shape", "(LJoinhand$Page;IIZ)V"⟩
abbrev cX11_isGlyph : ByteArray := prog_1_method_31_code
def yX11_isGlyph : MethodName := ⟨RX11, "isGlyph", "(I)Z"⟩
abbrev cX11_isItem : ByteArray := prog_1_method_32_code
def yX11_isItem : MethodName := ⟨RX11, "isItem", "(I)Z"⟩
abbrev cX11_isSign : ByteArray := prog_1_method_33_code
def yX11_isSign : MethodName := ⟨RX11, "isSign", "(I)Z"⟩
abbrev cX11_isJoinerOrParter : ByteArray := prog_1_method_34_code
def yX11_isJoinerOrParter : MethodName := ⟨RX11, "isJoinerOrParter", "(I)Z"⟩
abbrev cX11_isMarkOfJ : ByteArray := prog_1_method_35_code
def yX11_isMarkOfJ : MethodName := ⟨RX11, "isMarkOfJ", "(I)Z"⟩
abbrev cX11_joinsOnBothSides : ByteArray := prog_1_method_36_code
def yX11_joinsOnBothSides : MethodName := ⟨RX11, "joinsOnBothSides", "(I)Z"⟩
abbrev cX11_isConsonant : ByteArray := prog_1_method_37_code
def yX11_isConsonant : MethodName := ⟨RX11, "isConsonant", "(I)Z"⟩
def RX12 : String := "JoinhandModel"
def TX12 : u_T := fun k => match k with
  | 0 => ("JoinhandModel", "thrown", "I", false)
  | 1 => ("JoinhandModel", "face", "I", false)
  | 2 => ("JoinhandModel", "lookups", "[I", true)
  | 3 => ("JoinhandModel", "kind", "[I", true)
  | 4 => ("JoinhandModel", "feature", "[I", true)
  | 5 => ("JoinhandModel", "stage", "[I", true)
  | 6 => ("JoinhandModel", "tongueOf", "[I", true)
  | 7 => ("JoinhandModel", "skip", "[I", true)
  | 8 => ("JoinhandModel", "rules", "[I", true)
  | 9 => ("JoinhandModel", "rule", "[I", true)
  | 10 => ("JoinhandModel", "mark", "[I", true)
  | 11 => ("JoinhandModel", "group", "[I", true)
  | 12 => ("JoinhandModel", "width", "[I", true)
  | 13 => ("JoinhandModel", "lacks", "[Z", true)
  | 14 => ("JoinhandModel", "length", "I", false)
  | 15 => ("JoinhandModel", "sign", "[I", true)
  | 16 => ("JoinhandModel", "extra", "[I", true)
  | 17 => ("JoinhandModel", "tongue", "I", false)
  | 18 => ("JoinhandModel", "script", "[I", true)
  | 19 => ("JoinhandModel", "faceOf", "[I", true)
  | 20 => ("JoinhandModel", "f", "I", false)
  | 21 => ("JoinhandModel", "n", "I", false)
  | 22 => ("JoinhandModel", "g", "[I", true)
  | 23 => ("JoinhandModel", "cl", "[I", true)
  | 24 => ("JoinhandModel", "form", "[I", true)
  | 25 => ("JoinhandModel", "ex", "[I", true)
  | 26 => ("JoinhandModel", "part", "[I", true)
  | 27 => ("JoinhandModel", "parts", "[I", true)
  | 28 => ("JoinhandModel", "cameOf", "[I", true)
  | 29 => ("JoinhandModel", "advance", "[I", true)
  | 30 => ("JoinhandModel", "height", "[I", true)
  | 31 => ("JoinhandModel", "on", "[I", true)
  | 32 => ("JoinhandModel", "dx", "[I", true)
  | 33 => ("JoinhandModel", "dy", "[I", true)
  | 34 => ("JoinhandModel", "x", "[I", true)
  | 35 => ("JoinhandModel", "watched", "I", false)
  | 36 => ("JoinhandModel", "glyphs", "I", false)
  | 37 => ("JoinhandModel", "outGlyph", "[I", true)
  | 38 => ("JoinhandModel", "outCluster", "[I", true)
  | 39 => ("JoinhandModel", "outAdvance", "[I", true)
  | 40 => ("JoinhandModel", "outHeight", "[I", true)
  | 41 => ("JoinhandModel", "outX", "[I", true)
  | 42 => ("JoinhandModel", "outOn", "[I", true)
  | 43 => ("JoinhandModel", "outDx", "[I", true)
  | 44 => ("JoinhandModel", "outDy", "[I", true)
  | 45 => ("JoinhandModel", "runs", "I", false)
  | 46 => ("JoinhandModel", "runFrom", "[I", true)
  | 47 => ("JoinhandModel", "runGlyph", "[I", true)
  | 48 => ("JoinhandModel", "runLeft", "[I", true)
  | 49 => ("JoinhandModel", "wasGlyph", "[I", true)
  | 50 => ("JoinhandModel", "wasCluster", "[I", true)
  | 51 => ("JoinhandModel", "wasAdvance", "[I", true)
  | 52 => ("JoinhandModel", "wasHeight", "[I", true)
  | 53 => ("JoinhandModel", "wasOn", "[I", true)
  | 54 => ("JoinhandModel", "wasDx", "[I", true)
  | 55 => ("JoinhandModel", "wasDy", "[I", true)
  | 56 => ("JoinhandModel", "isSeen", "[Z", true)
  | _ => ("JoinhandModel", "strokes", "[I", true)
def tyX12 : Nat → FieldType := fun k => match k with
  | 0 => .int
  | 1 => .int
  | 2 => .array .int
  | 3 => .array .int
  | 4 => .array .int
  | 5 => .array .int
  | 6 => .array .int
  | 7 => .array .int
  | 8 => .array .int
  | 9 => .array .int
  | 10 => .array .int
  | 11 => .array .int
  | 12 => .array .int
  | 13 => .array .boolean
  | 14 => .int
  | 15 => .array .int
  | 16 => .array .int
  | 17 => .int
  | 18 => .array .int
  | 19 => .array .int
  | 20 => .int
  | 21 => .int
  | 22 => .array .int
  | 23 => .array .int
  | 24 => .array .int
  | 25 => .array .int
  | 26 => .array .int
  | 27 => .array .int
  | 28 => .array .int
  | 29 => .array .int
  | 30 => .array .int
  | 31 => .array .int
  | 32 => .array .int
  | 33 => .array .int
  | 34 => .array .int
  | 35 => .int
  | 36 => .int
  | 37 => .array .int
  | 38 => .array .int
  | 39 => .array .int
  | 40 => .array .int
  | 41 => .array .int
  | 42 => .array .int
  | 43 => .array .int
  | 44 => .array .int
  | 45 => .int
  | 46 => .array .int
  | 47 => .array .int
  | 48 => .array .int
  | 49 => .array .int
  | 50 => .array .int
  | 51 => .array .int
  | 52 => .array .int
  | 53 => .array .int
  | 54 => .array .int
  | 55 => .array .int
  | 56 => .array .boolean
  | _ => .array .int
abbrev wsX120 : List Cond := u_ws RX12 TX12 58
theorem nmX12 : ∀ a, a < 58 → ∀ b, b < 58 → a ≠ b → (TX12 a).2.1 ≠ (TX12 b).2.1 := by decide +kernel
theorem tyX12_ok : ∀ k, k < 58 → parseFieldDescriptor (TX12 k).2.2.1 = some (tyX12 k) := by decide +kernel
abbrev cX12_init : ByteArray := prog_14_method_1_code
def yX12_init : MethodName := ⟨RX12, "<init>", "()V"⟩
abbrev cX12_thrown : ByteArray := prog_14_method_2_code
def yX12_thrown : MethodName := ⟨RX12, "thrown", "()I"⟩
abbrev cX12_in : ByteArray := prog_14_method_3_code
def yX12_in : MethodName := ⟨RX12, "in", "(III)Z"⟩
abbrev cX12_isSign : ByteArray := prog_14_method_4_code
def yX12_isSign : MethodName := ⟨RX12, "isSign", "(I)Z"⟩
abbrev cX12_isGlyph : ByteArray := prog_14_method_5_code
def yX12_isGlyph : MethodName := ⟨RX12, "isGlyph", "(I)Z"⟩
abbrev cX12_useFace : ByteArray := prog_14_method_6_code
def yX12_useFace : MethodName := ⟨RX12, "useFace", "(I)I"⟩
abbrev cX12_lookup : ByteArray := prog_14_method_7_code
def yX12_lookup : MethodName := ⟨RX12, "lookup", "(IIIII)I"⟩
abbrev cX12_isItem : ByteArray := prog_14_method_8_code
def yX12_isItem : MethodName := ⟨RX12, "isItem", "(I)Z"⟩
abbrev cX12_isItemOrNone : ByteArray := prog_14_method_9_code
def yX12_isItemOrNone : MethodName := ⟨RX12, "isItemOrNone", "(I)Z"⟩
abbrev cX12_isGlyphOrNone : ByteArray := prog_14_method_10_code
def yX12_isGlyphOrNone : MethodName := ⟨RX12, "isGlyphOrNone", "(I)Z"⟩
abbrev cX12_isFar : ByteArray := prog_14_method_11_code
def yX12_isFar : MethodName := ⟨RX12, "isFar", "(I)Z"⟩
abbrev cX12_isFarOrNone : ByteArray := prog_14_method_12_code
def yX12_isFarOrNone : MethodName := ⟨RX12, "isFarOrNone", "(I)Z"⟩
abbrev cX12_isClass : ByteArray := prog_14_method_13_code
def yX12_isClass : MethodName := ⟨RX12, "isClass", "(I)Z"⟩
abbrev cX12_areFour : ByteArray := prog_14_method_14_code
def yX12_areFour : MethodName := ⟨RX12, "areFour", "(IIIII)Z"⟩
abbrev cX12_areLast : ByteArray := prog_14_method_15_code
def yX12_areLast : MethodName := ⟨RX12, "areLast", "(IIII)Z"⟩
abbrev cX12_isLookup : ByteArray := prog_14_method_16_code
def yX12_isLookup : MethodName := ⟨RX12, "isLookup", "(I)Z"⟩
abbrev cX12_rule : ByteArray := prog_14_method_17_code
def yX12_rule : MethodName := ⟨RX12, "rule", "(IIIIIII)I"⟩
abbrev cX12_setMark : ByteArray := prog_14_method_18_code
def yX12_setMark : MethodName := ⟨RX12, "setMark", "(II)I"⟩
abbrev cX12_setGroup : ByteArray := prog_14_method_19_code
def yX12_setGroup : MethodName := ⟨RX12, "setGroup", "(II)I"⟩
abbrev cX12_setWidth : ByteArray := prog_14_method_20_code
def yX12_setWidth : MethodName := ⟨RX12, "setWidth", "(II)I"⟩
abbrev cX12_lack : ByteArray := prog_14_method_21_code
def yX12_lack : MethodName := ⟨RX12, "lack", "(I)Z"⟩
abbrev cX12_isOf : ByteArray := prog_14_method_22_code
def yX12_isOf : MethodName := ⟨RX12, "isOf", "(III)Z"⟩
abbrev cX12_begins : ByteArray := prog_14_method_23_code
def yX12_begins : MethodName := ⟨RX12, "begins", "(II)I"⟩
abbrev cX12_count : ByteArray := prog_14_method_24_code
def yX12_count : MethodName := ⟨RX12, "count", "(I)I"⟩
abbrev cX12_size : ByteArray := prog_14_method_25_code
def yX12_size : MethodName := ⟨RX12, "size", "(I)I"⟩
abbrev cX12_isPlace : ByteArray := prog_14_method_26_code
def yX12_isPlace : MethodName := ⟨RX12, "isPlace", "(I)Z"⟩
abbrev cX12_insert : ByteArray := prog_14_method_27_code
def yX12_insert : MethodName := ⟨RX12, "insert", "(II)I"⟩
abbrev cX12_cut : ByteArray := prog_14_method_28_code
def yX12_cut : MethodName := ⟨RX12, "cut", "(I)I"⟩
abbrev cX12_setTongue : ByteArray := prog_14_method_29_code
def yX12_setTongue : MethodName := ⟨RX12, "setTongue", "(I)I"⟩
abbrev cX12_setExtra : ByteArray := prog_14_method_30_code
def yX12_setExtra : MethodName := ⟨RX12, "setExtra", "(III)I"⟩
abbrev cX12_isMarkSign : ByteArray := prog_14_method_31_code
def yX12_isMarkSign : MethodName := ⟨RX12, "isMarkSign", "(I)Z"⟩
abbrev cX12_laysScripts : ByteArray := prog_14_method_32_code
def yX12_laysScripts : MethodName := ⟨RX12, "laysScripts", "(II)V"⟩
abbrev cX12_endOfRun : ByteArray := prog_14_method_33_code
def yX12_endOfRun : MethodName := ⟨RX12, "endOfRun", "(II)I"⟩
abbrev cX12_joinsFrom : ByteArray := prog_14_method_34_code
def yX12_joinsFrom : MethodName := ⟨RX12, "joinsFrom", "(II)Z"⟩
abbrev cX12_joinsOn : ByteArray := prog_14_method_35_code
def yX12_joinsOn : MethodName := ⟨RX12, "joinsOn", "(II)Z"⟩
abbrev cX12_formOf : ByteArray := prog_14_method_36_code
def yX12_formOf : MethodName := ⟨RX12, "formOf", "(III)I"⟩
abbrev cX12_addsGlyph : ByteArray := prog_14_method_37_code
def yX12_addsGlyph : MethodName := ⟨RX12, "addsGlyph", "(IIII)V"⟩
abbrev cX12_laysJoined : ByteArray := prog_14_method_38_code
def yX12_laysJoined : MethodName := ⟨RX12, "laysJoined", "(II)V"⟩
abbrev cX12_isConsonant : ByteArray := prog_14_method_39_code
def yX12_isConsonant : MethodName := ⟨RX12, "isConsonant", "(I)Z"⟩
abbrev cX12_isVowel : ByteArray := prog_14_method_40_code
def yX12_isVowel : MethodName := ⟨RX12, "isVowel", "(I)Z"⟩
abbrev cX12_behindKiller : ByteArray := prog_14_method_41_code
def yX12_behindKiller : MethodName := ⟨RX12, "behindKiller", "(II)I"⟩
abbrev cX12_behindVowels : ByteArray := prog_14_method_42_code
def yX12_behindVowels : MethodName := ⟨RX12, "behindVowels", "(II)I"⟩
abbrev cX12_behindConsonants : ByteArray := prog_14_method_43_code
def yX12_behindConsonants : MethodName := ⟨RX12, "behindConsonants", "(II)I"⟩
abbrev cX12_copies : ByteArray := prog_14_method_44_code
def yX12_copies : MethodName := ⟨RX12, "copies", "(II)V"⟩
abbrev cX12_opens : ByteArray := prog_14_method_45_code
def yX12_opens : MethodName := ⟨RX12, "opens", "(II)V"⟩
abbrev cX12_closes : ByteArray := prog_14_method_46_code
def yX12_closes : MethodName := ⟨RX12, "closes", "(I)V"⟩
abbrev cX12_climbs : ByteArray := prog_14_method_47_code
def yX12_climbs : MethodName := ⟨RX12, "climbs", "(III)V"⟩
abbrev cX12_turns : ByteArray := prog_14_method_48_code
def yX12_turns : MethodName := ⟨RX12, "turns", "(III)V"⟩
abbrev cX12_setsAhead : ByteArray := prog_14_method_49_code
def yX12_setsAhead : MethodName := ⟨RX12, "setsAhead", "(I)V"⟩
abbrev cX12_laysSyllables : ByteArray := prog_14_method_50_code
def yX12_laysSyllables : MethodName := ⟨RX12, "laysSyllables", "(II)V"⟩
abbrev cX12_markAt : ByteArray := prog_14_method_51_code
def yX12_markAt : MethodName := ⟨RX12, "markAt", "(I)I"⟩
abbrev cX12_skips : ByteArray := prog_14_method_52_code
def yX12_skips : MethodName := ⟨RX12, "skips", "(II)Z"⟩
abbrev cX12_is : ByteArray := prog_14_method_53_code
def yX12_is : MethodName := ⟨RX12, "is", "(II)Z"⟩
abbrev cX12_has : ByteArray := prog_14_method_54_code
def yX12_has : MethodName := ⟨RX12, "has", "(II)Z"⟩
abbrev cX12_after : ByteArray := prog_14_method_55_code
def yX12_after : MethodName := ⟨RX12, "after", "(II)I"⟩
abbrev cX12_ahead : ByteArray := prog_14_method_56_code
def yX12_ahead : MethodName := ⟨RX12, "ahead", "(II)I"⟩
abbrev cX12_isThere : ByteArray := prog_14_method_57_code
def yX12_isThere : MethodName := ⟨RX12, "isThere", "(II)Z"⟩
abbrev cX12_partsOf : ByteArray := prog_14_method_58_code
def yX12_partsOf : MethodName := ⟨RX12, "partsOf", "(IIII)V"⟩
abbrev cX12_behindMarks : ByteArray := prog_14_method_59_code
def yX12_behindMarks : MethodName := ⟨RX12, "behindMarks", "(I)I"⟩
abbrev cX12_merges : ByteArray := prog_14_method_60_code
def yX12_merges : MethodName := ⟨RX12, "merges", "(II)V"⟩
abbrev cX12_joins : ByteArray := prog_14_method_61_code
def yX12_joins : MethodName := ⟨RX12, "joins", "(IIII)V"⟩
abbrev cX12_takesIn : ByteArray := prog_14_method_62_code
def yX12_takesIn : MethodName := ⟨RX12, "takesIn", "(II)V"⟩
abbrev cX12_numberOf : ByteArray := prog_14_method_63_code
def yX12_numberOf : MethodName := ⟨RX12, "numberOf", "(III)I"⟩
abbrev cX12_does : ByteArray := prog_14_method_64_code
def yX12_does : MethodName := ⟨RX12, "does", "(III)I"⟩
abbrev cX12_puts : ByteArray := prog_14_method_65_code
def yX12_puts : MethodName := ⟨RX12, "puts", "(IIII)I"⟩
abbrev cX12_ligates : ByteArray := prog_14_method_66_code
def yX12_ligates : MethodName := ⟨RX12, "ligates", "(IIIII)I"⟩
abbrev cX12_doesFirst : ByteArray := prog_14_method_67_code
def yX12_doesFirst : MethodName := ⟨RX12, "doesFirst", "(II)I"⟩
abbrev cX12_calls : ByteArray := prog_14_method_68_code
def yX12_calls : MethodName := ⟨RX12, "calls", "(II)V"⟩
abbrev cX12_doesContext : ByteArray := prog_14_method_69_code
def yX12_doesContext : MethodName := ⟨RX12, "doesContext", "(III)I"⟩
abbrev cX12_contexts : ByteArray := prog_14_method_70_code
def yX12_contexts : MethodName := ⟨RX12, "contexts", "(II)I"⟩
abbrev cX12_goesBack : ByteArray := prog_14_method_71_code
def yX12_goesBack : MethodName := ⟨RX12, "goesBack", "(I)V"⟩
abbrev cX12_goesThrough : ByteArray := prog_14_method_72_code
def yX12_goesThrough : MethodName := ⟨RX12, "goesThrough", "(I)V"⟩
abbrev cX12_isForTongue : ByteArray := prog_14_method_73_code
def yX12_isForTongue : MethodName := ⟨RX12, "isForTongue", "(I)Z"⟩
abbrev cX12_doesStage : ByteArray := prog_14_method_74_code
def yX12_doesStage : MethodName := ⟨RX12, "doesStage", "(I)V"⟩
abbrev cX12_behindCluster : ByteArray := prog_14_method_75_code
def yX12_behindCluster : MethodName := ⟨RX12, "behindCluster", "(I)I"⟩
abbrev cX12_movesBack : ByteArray := prog_14_method_76_code
def yX12_movesBack : MethodName := ⟨RX12, "movesBack", "()V"⟩
abbrev cX12_takesOut : ByteArray := prog_14_method_77_code
def yX12_takesOut : MethodName := ⟨RX12, "takesOut", "()V"⟩
abbrev cX12_pairs : ByteArray := prog_14_method_78_code
def yX12_pairs : MethodName := ⟨RX12, "pairs", "(I)V"⟩
abbrev cX12_ruleFor : ByteArray := prog_14_method_79_code
def yX12_ruleFor : MethodName := ⟨RX12, "ruleFor", "(II)I"⟩
abbrev cX12_curves : ByteArray := prog_14_method_80_code
def yX12_curves : MethodName := ⟨RX12, "curves", "(I)V"⟩
abbrev cX12_sets : ByteArray := prog_14_method_81_code
def yX12_sets : MethodName := ⟨RX12, "sets", "(IIII)V"⟩
abbrev cX12_setsOnBases : ByteArray := prog_14_method_82_code
def yX12_setsOnBases : MethodName := ⟨RX12, "setsOnBases", "(I)V"⟩
abbrev cX12_setsOnMarks : ByteArray := prog_14_method_83_code
def yX12_setsOnMarks : MethodName := ⟨RX12, "setsOnMarks", "(I)V"⟩
abbrev cX12_laysPlaces : ByteArray := prog_14_method_84_code
def yX12_laysPlaces : MethodName := ⟨RX12, "laysPlaces", "()V"⟩
abbrev cX12_wide : ByteArray := prog_14_method_85_code
def yX12_wide : MethodName := ⟨RX12, "wide", "()I"⟩
abbrev cX12_stands : ByteArray := prog_14_method_86_code
def yX12_stands : MethodName := ⟨RX12, "stands", "(ZI)V"⟩
abbrev cX12_shapesRun : ByteArray := prog_14_method_87_code
def yX12_shapesRun : MethodName := ⟨RX12, "shapesRun", "(III)V"⟩
abbrev cX12_shapes : ByteArray := prog_14_method_88_code
def yX12_shapes : MethodName := ⟨RX12, "shapes", "(II)V"⟩
abbrev cX12_shapesAll : ByteArray := prog_14_method_89_code
def yX12_shapesAll : MethodName := ⟨RX12, "shapesAll", "()V"⟩
abbrev cX12_glyphs : ByteArray := prog_14_method_90_code
def yX12_glyphs : MethodName := ⟨RX12, "glyphs", "()I"⟩
abbrev cX12_asksGlyph : ByteArray := prog_14_method_91_code
def yX12_asksGlyph : MethodName := ⟨RX12, "asksGlyph", "(I)Z"⟩
abbrev cX12_glyph : ByteArray := prog_14_method_92_code
def yX12_glyph : MethodName := ⟨RX12, "glyph", "(I)I"⟩
abbrev cX12_glyphAnew : ByteArray := prog_14_method_93_code
def yX12_glyphAnew : MethodName := ⟨RX12, "glyphAnew", "(I)I"⟩
abbrev cX12_cluster : ByteArray := prog_14_method_94_code
def yX12_cluster : MethodName := ⟨RX12, "cluster", "(I)I"⟩
abbrev cX12_place : ByteArray := prog_14_method_95_code
def yX12_place : MethodName := ⟨RX12, "place", "(II)I"⟩
abbrev cX12_runOf : ByteArray := prog_14_method_96_code
def yX12_runOf : MethodName := ⟨RX12, "runOf", "(I)I"⟩
abbrev cX12_form : ByteArray := prog_14_method_97_code
def yX12_form : MethodName := ⟨RX12, "form", "(I)I"⟩
abbrev cX12_run : ByteArray := prog_14_method_98_code
def yX12_run : MethodName := ⟨RX12, "run", "(I)I"⟩
abbrev cX12_clusterOf : ByteArray := prog_14_method_99_code
def yX12_clusterOf : MethodName := ⟨RX12, "clusterOf", "(II)I"⟩
abbrev cX12_endOfCluster : ByteArray := prog_14_method_100_code
def yX12_endOfCluster : MethodName := ⟨RX12, "endOfCluster", "(II)I"⟩
abbrev cX12_advances : ByteArray := prog_14_method_101_code
def yX12_advances : MethodName := ⟨RX12, "advances", "(IIZ)I"⟩
abbrev cX12_caretOf : ByteArray := prog_14_method_102_code
def yX12_caretOf : MethodName := ⟨RX12, "caretOf", "(I)I"⟩
abbrev cX12_caret : ByteArray := prog_14_method_103_code
def yX12_caret : MethodName := ⟨RX12, "caret", "(I)I"⟩
abbrev cX12_hit : ByteArray := prog_14_method_104_code
def yX12_hit : MethodName := ⟨RX12, "hit", "(I)I"⟩
abbrev cX12_areSame : ByteArray := prog_14_method_105_code
def yX12_areSame : MethodName := ⟨RX12, "areSame", "(I)Z"⟩
abbrev cX12_isSafe : ByteArray := prog_14_method_106_code
def yX12_isSafe : MethodName := ⟨RX12, "isSafe", "(I)Z"⟩
abbrev cX12_mayStand : ByteArray := prog_14_method_107_code
def yX12_mayStand : MethodName := ⟨RX12, "mayStand", "(I)Z"⟩
abbrev cX12_laysStrokes : ByteArray := prog_14_method_108_code
def yX12_laysStrokes : MethodName := ⟨RX12, "laysStrokes", "(I)I"⟩
abbrev cX12_blanks : ByteArray := prog_14_method_109_code
def yX12_blanks : MethodName := ⟨RX12, "blanks", "(I)I"⟩
abbrev cX12_fill : ByteArray := prog_14_method_110_code
def yX12_fill : MethodName := ⟨RX12, "fill", "(I)I"⟩
abbrev cX12_filling : ByteArray := prog_14_method_111_code
def yX12_filling : MethodName := ⟨RX12, "filling", "(II)I"⟩
def RJ6 : String := "java/lang/Integer"
def TJ6 : u_T := fun k => match k with
  | _ => ("", "", "", false)
def tyJ6 : Nat → FieldType := fun k => match k with
  | _ => .int
abbrev wsJ60 : List Cond := u_ws RJ6 TJ6 0
theorem nmJ6 : ∀ a, a < 0 → ∀ b, b < 0 → a ≠ b → (TJ6 a).2.1 ≠ (TJ6 b).2.1 := by decide +kernel
theorem tyJ6_ok : ∀ k, k < 0 → parseFieldDescriptor (TJ6 k).2.2.1 = some (tyJ6 k) := by decide +kernel
abbrev cJ6_bitCount_0f7a4 : ByteArray := prog_19_method_49_code
def yJ6_bitCount_0f7a4 : MethodName := ⟨RJ6, "bitCount", "(I)I"⟩
def RJ9 : String := "java/lang/Math"
def TJ9 : u_T := fun k => match k with
  | _ => ("", "", "", false)
def tyJ9 : Nat → FieldType := fun k => match k with
  | _ => .int
abbrev wsJ90 : List Cond := u_ws RJ9 TJ9 0
theorem nmJ9 : ∀ a, a < 0 → ∀ b, b < 0 → a ≠ b → (TJ9 a).2.1 ≠ (TJ9 b).2.1 := by decide +kernel
theorem tyJ9_ok : ∀ k, k < 0 → parseFieldDescriptor (TJ9 k).2.2.1 = some (tyJ9 k) := by decide +kernel
abbrev cJ9_floorDiv_7cf53 : ByteArray := prog_20_method_47_code
def yJ9_floorDiv_7cf53 : MethodName := ⟨RJ9, "floorDiv", "(II)I"⟩
abbrev cJ9_abs_0f7a4 : ByteArray := prog_20_method_59_code
def yJ9_abs_0f7a4 : MethodName := ⟨RJ9, "abs", "(I)I"⟩
abbrev cJ9_max_7cf53 : ByteArray := prog_20_method_65_code
def yJ9_max_7cf53 : MethodName := ⟨RJ9, "max", "(II)I"⟩
abbrev cJ9_min_7cf53 : ByteArray := prog_20_method_69_code
def yJ9_min_7cf53 : MethodName := ⟨RJ9, "min", "(II)I"⟩
def RJ0 : String := "java/lang/String"
def TJ0 : u_T := fun k => match k with
  | _ => ("", "", "", false)
def tyJ0 : Nat → FieldType := fun k => match k with
  | _ => .int
abbrev wsJ00 : List Cond := u_ws RJ0 TJ0 0
theorem nmJ0 : ∀ a, a < 0 → ∀ b, b < 0 → a ≠ b → (TJ0 a).2.1 ≠ (TJ0 b).2.1 := by decide +kernel
theorem tyJ0_ok : ∀ k, k < 0 → parseFieldDescriptor (TJ0 k).2.2.1 = some (tyJ0 k) := by decide +kernel
def RL : String := "JoinhandLaw"
abbrev cL_useFace : ByteArray := method_3_code
def yL_useFace : MethodName := ⟨RL, "useFace", "(LJoinhand;I[J)I"⟩
abbrev cL_lookup : ByteArray := method_4_code
def yL_lookup : MethodName := ⟨RL, "lookup", "(LJoinhand;IIIII[J)I"⟩
abbrev cL_rule : ByteArray := method_5_code
def yL_rule : MethodName := ⟨RL, "rule", "(LJoinhand;IIIIIII[J)I"⟩
abbrev cL_setMark : ByteArray := method_6_code
def yL_setMark : MethodName := ⟨RL, "setMark", "(LJoinhand;II[J)I"⟩
abbrev cL_setGroup : ByteArray := method_7_code
def yL_setGroup : MethodName := ⟨RL, "setGroup", "(LJoinhand;II[J)I"⟩
abbrev cL_setWidth : ByteArray := method_8_code
def yL_setWidth : MethodName := ⟨RL, "setWidth", "(LJoinhand;II[J)I"⟩
abbrev cL_lack : ByteArray := method_9_code
def yL_lack : MethodName := ⟨RL, "lack", "(LJoinhand;I[J)I"⟩
abbrev cL_size : ByteArray := method_10_code
def yL_size : MethodName := ⟨RL, "size", "(LJoinhand;I[J)I"⟩
abbrev cL_insert : ByteArray := method_11_code
def yL_insert : MethodName := ⟨RL, "insert", "(LJoinhand;II[J)I"⟩
abbrev cL_cut : ByteArray := method_12_code
def yL_cut : MethodName := ⟨RL, "cut", "(LJoinhand;I[J)I"⟩
abbrev cL_setTongue : ByteArray := method_13_code
def yL_setTongue : MethodName := ⟨RL, "setTongue", "(LJoinhand;I[J)I"⟩
abbrev cL_setExtra : ByteArray := method_14_code
def yL_setExtra : MethodName := ⟨RL, "setExtra", "(LJoinhand;III[J)I"⟩
abbrev cL_glyph : ByteArray := method_15_code
def yL_glyph : MethodName := ⟨RL, "glyph", "(LJoinhand;I[J)I"⟩
abbrev cL_glyphAnew : ByteArray := method_16_code
def yL_glyphAnew : MethodName := ⟨RL, "glyphAnew", "(LJoinhand;I[J)I"⟩
abbrev cL_cluster : ByteArray := method_17_code
def yL_cluster : MethodName := ⟨RL, "cluster", "(LJoinhand;I[J)I"⟩
abbrev cL_place : ByteArray := method_18_code
def yL_place : MethodName := ⟨RL, "place", "(LJoinhand;II[J)I"⟩
abbrev cL_form : ByteArray := method_19_code
def yL_form : MethodName := ⟨RL, "form", "(LJoinhand;I[J)I"⟩
abbrev cL_run : ByteArray := method_20_code
def yL_run : MethodName := ⟨RL, "run", "(LJoinhand;I[J)I"⟩
abbrev cL_caret : ByteArray := method_21_code
def yL_caret : MethodName := ⟨RL, "caret", "(LJoinhand;I[J)I"⟩
abbrev cL_hit : ByteArray := method_22_code
def yL_hit : MethodName := ⟨RL, "hit", "(LJoinhand;I[J)I"⟩
abbrev cL_isSafe : ByteArray := method_23_code
def yL_isSafe : MethodName := ⟨RL, "isSafe", "(LJoinhand;I[J)I"⟩
abbrev cL_fill : ByteArray := method_24_code
def yL_fill : MethodName := ⟨RL, "fill", "(LJoinhand;I[J)I"⟩
abbrev cL_filling : ByteArray := method_25_code
def yL_filling : MethodName := ⟨RL, "filling", "(LJoinhand;II[J)I"⟩
abbrev cL_law : ByteArray := code
def yL_law : MethodName := ⟨RL, "law", "([I)Z"⟩
abbrev vwCl : List vw_C := [(RX0, TX0, 9), (RX1, TX1, 5), (RX2, TX2, 13), (RX3, TX3, 3), (RX4, TX4, 9), (RX5, TX5, 1), (RX6, TX6, 11), (RX7, TX7, 3), (RX8, TX8, 2), (RX9, TX9, 11), (RX10, TX10, 5), (RX11, TX11, 11), (RX12, TX12, 58)]
