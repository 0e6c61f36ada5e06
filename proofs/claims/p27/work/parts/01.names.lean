-- ===== PART A: goes FIRST, ahead of the names: the tables' words, and 'selects' of the private methods out of them =====
/-- a private method of a class that the tables say can be made, by its rows of tables_1 -/
def lw_okq (q : MethodName × Nat) : Prop := (q.1.cls ≠ "java/lang/invoke/MethodHandle" ∧ q.1.cls ≠ "java/lang/invoke/VarHandle") ∧ Cond.instantiable q.1.cls q.2 ∈ tables_1 ∧ Cond.privateMethod q.1 ∈ tables_1 ∧ Cond.instanceMethod q.1 ∈ tables_1
theorem lw_p0 : lw_okq (⟨"java/lang/Throwable", "fillInStackTrace", "(I)Ljava/lang/Throwable;"⟩, 6) := ⟨⟨by decide +kernel, by decide +kernel⟩, List.mem_of_getElem? (i := 471) (by decide +kernel), List.mem_of_getElem? (i := 469) (by decide +kernel), List.mem_of_getElem? (i := 470) (by decide +kernel)⟩
theorem lw_p1 : lw_okq (⟨"Joinhand", "needSign", "(I)V"⟩, 11) := ⟨⟨by decide +kernel, by decide +kernel⟩, List.mem_of_getElem? (i := 22) (by decide +kernel), List.mem_of_getElem? (i := 612) (by decide +kernel), List.mem_of_getElem? (i := 613) (by decide +kernel)⟩
theorem lw_p2 : lw_okq (⟨"Joinhand", "shaped", "()LJoinhand$Page;"⟩, 11) := ⟨⟨by decide +kernel, by decide +kernel⟩, List.mem_of_getElem? (i := 22) (by decide +kernel), List.mem_of_getElem? (i := 751) (by decide +kernel), List.mem_of_getElem? (i := 752) (by decide +kernel)⟩
theorem lw_p3 : lw_okq (⟨"Joinhand", "shape", "(LJoinhand$Page;IIZ)V"⟩, 11) := ⟨⟨by decide +kernel, by decide +kernel⟩, List.mem_of_getElem? (i := 22) (by decide +kernel), List.mem_of_getElem? (i := 759) (by decide +kernel), List.mem_of_getElem? (i := 760) (by decide +kernel)⟩
theorem lw_p4 : lw_okq (⟨"Joinhand$Runs", "open", "(IZI)V"⟩, 11) := ⟨⟨by decide +kernel, by decide +kernel⟩, List.mem_of_getElem? (i := 244) (by decide +kernel), List.mem_of_getElem? (i := 770) (by decide +kernel), List.mem_of_getElem? (i := 771) (by decide +kernel)⟩
theorem lw_p5 : lw_okq (⟨"Joinhand$Runs", "formOf", "(LJoinhand$Text;I)I"⟩, 11) := ⟨⟨by decide +kernel, by decide +kernel⟩, List.mem_of_getElem? (i := 244) (by decide +kernel), List.mem_of_getElem? (i := 774) (by decide +kernel), List.mem_of_getElem? (i := 775) (by decide +kernel)⟩
theorem lw_p6 : lw_okq (⟨"Joinhand$Runs", "canReachBack", "(LJoinhand$Text;I)Z"⟩, 11) := ⟨⟨by decide +kernel, by decide +kernel⟩, List.mem_of_getElem? (i := 244) (by decide +kernel), List.mem_of_getElem? (i := 778) (by decide +kernel), List.mem_of_getElem? (i := 779) (by decide +kernel)⟩
theorem lw_p7 : lw_okq (⟨"Joinhand$Runs", "canReachOn", "(LJoinhand$Text;I)Z"⟩, 11) := ⟨⟨by decide +kernel, by decide +kernel⟩, List.mem_of_getElem? (i := 244) (by decide +kernel), List.mem_of_getElem? (i := 786) (by decide +kernel), List.mem_of_getElem? (i := 787) (by decide +kernel)⟩
theorem lw_p8 : lw_okq (⟨"Joinhand$Opening", "beginJ", "(LJoinhand$Text;LJoinhand$Runs;II)V"⟩, 1) := ⟨⟨by decide +kernel, by decide +kernel⟩, List.mem_of_getElem? (i := 159) (by decide +kernel), List.mem_of_getElem? (i := 801) (by decide +kernel), List.mem_of_getElem? (i := 802) (by decide +kernel)⟩
theorem lw_p9 : lw_okq (⟨"Joinhand$Opening", "addSyllable", "(LJoinhand$Text;II)V"⟩, 1) := ⟨⟨by decide +kernel, by decide +kernel⟩, List.mem_of_getElem? (i := 159) (by decide +kernel), List.mem_of_getElem? (i := 834) (by decide +kernel), List.mem_of_getElem? (i := 835) (by decide +kernel)⟩
theorem lw_p10 : lw_okq (⟨"Joinhand$Opening", "climb", "(I)V"⟩, 1) := ⟨⟨by decide +kernel, by decide +kernel⟩, List.mem_of_getElem? (i := 159) (by decide +kernel), List.mem_of_getElem? (i := 838) (by decide +kernel), List.mem_of_getElem? (i := 839) (by decide +kernel)⟩
theorem lw_p11 : lw_okq (⟨"Joinhand$Opening", "setAhead", "(I)V"⟩, 1) := ⟨⟨by decide +kernel, by decide +kernel⟩, List.mem_of_getElem? (i := 159) (by decide +kernel), List.mem_of_getElem? (i := 857) (by decide +kernel), List.mem_of_getElem? (i := 858) (by decide +kernel)⟩
theorem lw_p12 : lw_okq (⟨"Joinhand$Changes", "goBack", "(LJoinhand$Lookup;)V"⟩, 9) := ⟨⟨by decide +kernel, by decide +kernel⟩, List.mem_of_getElem? (i := 169) (by decide +kernel), List.mem_of_getElem? (i := 881) (by decide +kernel), List.mem_of_getElem? (i := 882) (by decide +kernel)⟩
theorem lw_p13 : lw_okq (⟨"Joinhand$Changes", "firstFit", "(LJoinhand$Lookup;I)I"⟩, 9) := ⟨⟨by decide +kernel, by decide +kernel⟩, List.mem_of_getElem? (i := 169) (by decide +kernel), List.mem_of_getElem? (i := 897) (by decide +kernel), List.mem_of_getElem? (i := 898) (by decide +kernel)⟩
theorem lw_p14 : lw_okq (⟨"Joinhand$Changes", "fits", "(I[ILJoinhand$Glyph;)Z"⟩, 9) := ⟨⟨by decide +kernel, by decide +kernel⟩, List.mem_of_getElem? (i := 169) (by decide +kernel), List.mem_of_getElem? (i := 923) (by decide +kernel), List.mem_of_getElem? (i := 924) (by decide +kernel)⟩
theorem lw_p15 : lw_okq (⟨"Joinhand$Changes", "call", "([II)I"⟩, 9) := ⟨⟨by decide +kernel, by decide +kernel⟩, List.mem_of_getElem? (i := 169) (by decide +kernel), List.mem_of_getElem? (i := 932) (by decide +kernel), List.mem_of_getElem? (i := 933) (by decide +kernel)⟩
def lw_privs_1 : List (MethodName × Nat) := [(⟨"java/lang/Throwable", "fillInStackTrace", "(I)Ljava/lang/Throwable;"⟩, 6), (⟨"Joinhand", "needSign", "(I)V"⟩, 11), (⟨"Joinhand", "shaped", "()LJoinhand$Page;"⟩, 11), (⟨"Joinhand", "shape", "(LJoinhand$Page;IIZ)V"⟩, 11), (⟨"Joinhand$Runs", "open", "(IZI)V"⟩, 11), (⟨"Joinhand$Runs", "formOf", "(LJoinhand$Text;I)I"⟩, 11), (⟨"Joinhand$Runs", "canReachBack", "(LJoinhand$Text;I)Z"⟩, 11), (⟨"Joinhand$Runs", "canReachOn", "(LJoinhand$Text;I)Z"⟩, 11), (⟨"Joinhand$Opening", "beginJ", "(LJoinhand$Text;LJoinhand$Runs;II)V"⟩, 1), (⟨"Joinhand$Opening", "addSyllable", "(LJoinhand$Text;II)V"⟩, 1), (⟨"Joinhand$Opening", "climb", "(I)V"⟩, 1), (⟨"Joinhand$Opening", "setAhead", "(I)V"⟩, 1), (⟨"Joinhand$Changes", "goBack", "(LJoinhand$Lookup;)V"⟩, 9), (⟨"Joinhand$Changes", "firstFit", "(LJoinhand$Lookup;I)I"⟩, 9), (⟨"Joinhand$Changes", "fits", "(I[ILJoinhand$Glyph;)Z"⟩, 9), (⟨"Joinhand$Changes", "call", "([II)I"⟩, 9)]
theorem lw_r1 : ∀ q ∈ lw_privs_1, lw_okq q := List.forall_mem_cons.mpr ⟨lw_p0, List.forall_mem_cons.mpr ⟨lw_p1, List.forall_mem_cons.mpr ⟨lw_p2, List.forall_mem_cons.mpr ⟨lw_p3, List.forall_mem_cons.mpr ⟨lw_p4, List.forall_mem_cons.mpr ⟨lw_p5, List.forall_mem_cons.mpr ⟨lw_p6, List.forall_mem_cons.mpr ⟨lw_p7, List.forall_mem_cons.mpr ⟨lw_p8, List.forall_mem_cons.mpr ⟨lw_p9, List.forall_mem_cons.mpr ⟨lw_p10, List.forall_mem_cons.mpr ⟨lw_p11, List.forall_mem_cons.mpr ⟨lw_p12, List.forall_mem_cons.mpr ⟨lw_p13, List.forall_mem_cons.mpr ⟨lw_p14, List.forall_mem_cons.mpr ⟨lw_p15, fun _ h => absurd h List.not_mem_nil⟩⟩⟩⟩⟩⟩⟩⟩⟩⟩⟩⟩⟩⟩⟩⟩
theorem lw_p16 : lw_okq (⟨"Joinhand$Changes", "change", "(I[II)I"⟩, 9) := ⟨⟨by decide +kernel, by decide +kernel⟩, List.mem_of_getElem? (i := 169) (by decide +kernel), List.mem_of_getElem? (i := 940) (by decide +kernel), List.mem_of_getElem? (i := 941) (by decide +kernel)⟩
theorem lw_p17 : lw_okq (⟨"Joinhand$Changes", "giveParts", "(I)V"⟩, 9) := ⟨⟨by decide +kernel, by decide +kernel⟩, List.mem_of_getElem? (i := 169) (by decide +kernel), List.mem_of_getElem? (i := 952) (by decide +kernel), List.mem_of_getElem? (i := 953) (by decide +kernel)⟩
theorem lw_p18 : lw_okq (⟨"Joinhand$Changes", "mergeClusters", "(I)V"⟩, 9) := ⟨⟨by decide +kernel, by decide +kernel⟩, List.mem_of_getElem? (i := 169) (by decide +kernel), List.mem_of_getElem? (i := 960) (by decide +kernel), List.mem_of_getElem? (i := 961) (by decide +kernel)⟩
theorem lw_p19 : lw_okq (⟨"Joinhand$Changes", "fuse", "(II)V"⟩, 9) := ⟨⟨by decide +kernel, by decide +kernel⟩, List.mem_of_getElem? (i := 169) (by decide +kernel), List.mem_of_getElem? (i := 965) (by decide +kernel), List.mem_of_getElem? (i := 966) (by decide +kernel)⟩
theorem lw_p20 : lw_okq (⟨"Joinhand$Opening", "lastKiller", "(II)I"⟩, 1) := ⟨⟨by decide +kernel, by decide +kernel⟩, List.mem_of_getElem? (i := 159) (by decide +kernel), List.mem_of_getElem? (i := 978) (by decide +kernel), List.mem_of_getElem? (i := 979) (by decide +kernel)⟩
theorem lw_p21 : lw_okq (⟨"Joinhand$Places", "addToPairs", "(LJoinhand$Lookup;)V"⟩, 3) := ⟨⟨by decide +kernel, by decide +kernel⟩, List.mem_of_getElem? (i := 203) (by decide +kernel), List.mem_of_getElem? (i := 1001) (by decide +kernel), List.mem_of_getElem? (i := 1002) (by decide +kernel)⟩
theorem lw_p22 : lw_okq (⟨"Joinhand$Places", "pairRule", "(LJoinhand$Lookup;II)I"⟩, 3) := ⟨⟨by decide +kernel, by decide +kernel⟩, List.mem_of_getElem? (i := 203) (by decide +kernel), List.mem_of_getElem? (i := 1007) (by decide +kernel), List.mem_of_getElem? (i := 1008) (by decide +kernel)⟩
theorem lw_p23 : lw_okq (⟨"Joinhand$Places", "linkHeights", "(LJoinhand$Lookup;)V"⟩, 3) := ⟨⟨by decide +kernel, by decide +kernel⟩, List.mem_of_getElem? (i := 203) (by decide +kernel), List.mem_of_getElem? (i := 1013) (by decide +kernel), List.mem_of_getElem? (i := 1014) (by decide +kernel)⟩
theorem lw_p24 : lw_okq (⟨"Joinhand$Places", "setMarks", "(LJoinhand$Lookup;)V"⟩, 3) := ⟨⟨by decide +kernel, by decide +kernel⟩, List.mem_of_getElem? (i := 203) (by decide +kernel), List.mem_of_getElem? (i := 1023) (by decide +kernel), List.mem_of_getElem? (i := 1024) (by decide +kernel)⟩
theorem lw_p25 : lw_okq (⟨"Joinhand$Places", "setOnBase", "(LJoinhand$Lookup;LJoinhand$Glyph;I)V"⟩, 3) := ⟨⟨by decide +kernel, by decide +kernel⟩, List.mem_of_getElem? (i := 203) (by decide +kernel), List.mem_of_getElem? (i := 1028) (by decide +kernel), List.mem_of_getElem? (i := 1029) (by decide +kernel)⟩
theorem lw_p26 : lw_okq (⟨"Joinhand$Places", "setOnMark", "(LJoinhand$Lookup;LJoinhand$Glyph;I)V"⟩, 3) := ⟨⟨by decide +kernel, by decide +kernel⟩, List.mem_of_getElem? (i := 203) (by decide +kernel), List.mem_of_getElem? (i := 1032) (by decide +kernel), List.mem_of_getElem? (i := 1033) (by decide +kernel)⟩
theorem lw_p27 : lw_okq (⟨"Joinhand$Page", "fromBeginning", "(II)I"⟩, 11) := ⟨⟨by decide +kernel, by decide +kernel⟩, List.mem_of_getElem? (i := 238) (by decide +kernel), List.mem_of_getElem? (i := 1119) (by decide +kernel), List.mem_of_getElem? (i := 1120) (by decide +kernel)⟩
theorem lw_p28 : lw_okq (⟨"Joinhand$Line", "setStrokes", "(LJoinhand$Page;LJoinhand$Text;I)V"⟩, 3) := ⟨⟨by decide +kernel, by decide +kernel⟩, List.mem_of_getElem? (i := 219) (by decide +kernel), List.mem_of_getElem? (i := 1160) (by decide +kernel), List.mem_of_getElem? (i := 1161) (by decide +kernel)⟩
theorem lw_p29 : lw_okq (⟨"Joinhand$Line", "widenBlanks", "(LJoinhand$Text;)V"⟩, 3) := ⟨⟨by decide +kernel, by decide +kernel⟩, List.mem_of_getElem? (i := 219) (by decide +kernel), List.mem_of_getElem? (i := 1170) (by decide +kernel), List.mem_of_getElem? (i := 1171) (by decide +kernel)⟩
def lw_privs_2 : List (MethodName × Nat) := [(⟨"Joinhand$Changes", "change", "(I[II)I"⟩, 9), (⟨"Joinhand$Changes", "giveParts", "(I)V"⟩, 9), (⟨"Joinhand$Changes", "mergeClusters", "(I)V"⟩, 9), (⟨"Joinhand$Changes", "fuse", "(II)V"⟩, 9), (⟨"Joinhand$Opening", "lastKiller", "(II)I"⟩, 1), (⟨"Joinhand$Places", "addToPairs", "(LJoinhand$Lookup;)V"⟩, 3), (⟨"Joinhand$Places", "pairRule", "(LJoinhand$Lookup;II)I"⟩, 3), (⟨"Joinhand$Places", "linkHeights", "(LJoinhand$Lookup;)V"⟩, 3), (⟨"Joinhand$Places", "setMarks", "(LJoinhand$Lookup;)V"⟩, 3), (⟨"Joinhand$Places", "setOnBase", "(LJoinhand$Lookup;LJoinhand$Glyph;I)V"⟩, 3), (⟨"Joinhand$Places", "setOnMark", "(LJoinhand$Lookup;LJoinhand$Glyph;I)V"⟩, 3), (⟨"Joinhand$Page", "fromBeginning", "(II)I"⟩, 11), (⟨"Joinhand$Line", "setStrokes", "(LJoinhand$Page;LJoinhand$Text;I)V"⟩, 3), (⟨"Joinhand$Line", "widenBlanks", "(LJoinhand$Text;)V"⟩, 3)]
theorem lw_r2 : ∀ q ∈ lw_privs_2, lw_okq q := List.forall_mem_cons.mpr ⟨lw_p16, List.forall_mem_cons.mpr ⟨lw_p17, List.forall_mem_cons.mpr ⟨lw_p18, List.forall_mem_cons.mpr ⟨lw_p19, List.forall_mem_cons.mpr ⟨lw_p20, List.forall_mem_cons.mpr ⟨lw_p21, List.forall_mem_cons.mpr ⟨lw_p22, List.forall_mem_cons.mpr ⟨lw_p23, List.forall_mem_cons.mpr ⟨lw_p24, List.forall_mem_cons.mpr ⟨lw_p25, List.forall_mem_cons.mpr ⟨lw_p26, List.forall_mem_cons.mpr ⟨lw_p27, List.forall_mem_cons.mpr ⟨lw_p28, List.forall_mem_cons.mpr ⟨lw_p29, fun _ h => absurd h List.not_mem_nil⟩⟩⟩⟩⟩⟩⟩⟩⟩⟩⟩⟩⟩⟩
def lw_privs : List (MethodName × Nat) := lw_privs_1 ++ (lw_privs_2)
def lw_tbl : List Cond := k2_sels lw_privs ++ tables_1
theorem lw_privs_ok : ∀ q ∈ lw_privs, lw_okq q := by
  show ∀ q ∈ lw_privs_1 ++ (lw_privs_2), lw_okq q
  exact List.forall_mem_append.mpr ⟨lw_r1, lw_r2⟩

/-! ===== BEGIN printed: names, fields, word lists, decode rows ===== -/
def RX0 : String := "Joinhand$Changes"
def TX0 : u_T := fun k => match k with
  | 0 => ("Joinhand$Changes", "row", "LJoinhand$Row;", true)
  | 1 => ("Joinhand$Changes", "spots", "[I", true)
  | 2 => ("Joinhand$Changes", "face", "LJoinhand$Face;", false)
  | 3 => ("Joinhand$Changes", "isTabled", "Z", false)
  | 4 => ("Joinhand$Changes", "second", "I", false)
  | 5 => ("Joinhand$Changes", "third", "I", false)
  | 6 => ("Joinhand$Changes", "aheadNumber", "I", false)
  | 7 => ("Joinhand$Changes", "secondNumber", "I", false)
  | _ => ("Joinhand$Changes", "thirdNumber", "I", false)
def tyX0 : Nat → FieldType := fun k => match k with
  | 0 => .object "Joinhand$Row"
  | 1 => .array .int
  | 2 => .object "Joinhand$Face"
  | 3 => .boolean
  | 4 => .int
  | 5 => .int
  | 6 => .int
  | 7 => .int
  | _ => .int
abbrev wsX00 : List Cond := u_ws RX0 TX0 9
theorem nmX0 : ∀ a, a < 9 → ∀ b, b < 9 → a ≠ b → (TX0 a).2.1 ≠ (TX0 b).2.1 := by decide +kernel
theorem tyX0_ok : ∀ k, k < 9 → parseFieldDescriptor (TX0 k).2.2.1 = some (tyX0 k) := by decide +kernel
abbrev cX0_init : ByteArray := prog_2_method_1_code
def yX0_init : MethodName := ⟨RX0, "<init>", "(LJoinhand$Row;)V"⟩
abbrev cX0_use : ByteArray := prog_2_method_2_code
def yX0_use : MethodName := ⟨RX0, "use", "(LJoinhand$Face;Z)V"⟩
abbrev cX0_go : ByteArray := prog_2_method_3_code
def yX0_go : MethodName := ⟨RX0, "go", "(LJoinhand$Lookup;)V"⟩
abbrev cX0_goBack : ByteArray := prog_2_method_4_code
def yX0_goBack : MethodName := ⟨RX0, "goBack", "(LJoinhand$Lookup;)V"⟩
abbrev cX0_firstFit : ByteArray := prog_2_method_5_code
def yX0_firstFit : MethodName := ⟨RX0, "firstFit", "(LJoinhand$Lookup;I)I"⟩
abbrev cX0_fits : ByteArray := prog_2_method_6_code
def yX0_fits : MethodName := ⟨RX0, "fits", "(I[ILJoinhand$Glyph;)Z"⟩
abbrev cX0_change : ByteArray := prog_2_method_7_code
def yX0_change : MethodName := ⟨RX0, "change", "(I[II)I"⟩
abbrev cX0_giveParts : ByteArray := prog_2_method_8_code
def yX0_giveParts : MethodName := ⟨RX0, "giveParts", "(I)V"⟩
abbrev cX0_mergeClusters : ByteArray := prog_2_method_9_code
def yX0_mergeClusters : MethodName := ⟨RX0, "mergeClusters", "(I)V"⟩
abbrev cX0_fuse : ByteArray := prog_2_method_10_code
def yX0_fuse : MethodName := ⟨RX0, "fuse", "(II)V"⟩
abbrev cX0_call : ByteArray := prog_2_method_11_code
def yX0_call : MethodName := ⟨RX0, "call", "([II)I"⟩
def RX1 : String := "Joinhand$Face"
def TX1 : u_T := fun k => match k with
  | 0 => ("Joinhand$Face", "lookups", "[LJoinhand$Lookup;", true)
  | 1 => ("Joinhand$Face", "marks", "[I", true)
  | 2 => ("Joinhand$Face", "groups", "[I", true)
  | 3 => ("Joinhand$Face", "widths", "[I", true)
  | _ => ("Joinhand$Face", "count", "I", false)
def tyX1 : Nat → FieldType := fun k => match k with
  | 0 => .array (.object "Joinhand$Lookup")
  | 1 => .array .int
  | 2 => .array .int
  | 3 => .array .int
  | _ => .int
abbrev wsX10 : List Cond := u_ws RX1 TX1 5
theorem nmX1 : ∀ a, a < 5 → ∀ b, b < 5 → a ≠ b → (TX1 a).2.1 ≠ (TX1 b).2.1 := by decide +kernel
theorem tyX1_ok : ∀ k, k < 5 → parseFieldDescriptor (TX1 k).2.2.1 = some (tyX1 k) := by decide +kernel
abbrev cX1_init : ByteArray := prog_3_method_1_code
def yX1_init : MethodName := ⟨RX1, "<init>", "()V"⟩
abbrev cX1_lookupAt : ByteArray := prog_3_method_2_code
def yX1_lookupAt : MethodName := ⟨RX1, "lookupAt", "(I)LJoinhand$Lookup;"⟩
abbrev cX1_tabulate : ByteArray := prog_3_method_3_code
def yX1_tabulate : MethodName := ⟨RX1, "tabulate", "(LJoinhand$Lookup;)V"⟩
abbrev cX1_regroup : ByteArray := prog_3_method_4_code
def yX1_regroup : MethodName := ⟨RX1, "regroup", "(II)V"⟩
abbrev cX1_isMark : ByteArray := prog_3_method_5_code
def yX1_isMark : MethodName := ⟨RX1, "isMark", "(I)Z"⟩
abbrev cX1_skips : ByteArray := prog_3_method_6_code
def yX1_skips : MethodName := ⟨RX1, "skips", "(LJoinhand$Lookup;I)Z"⟩
abbrev cX1_hasTurn : ByteArray := prog_3_method_7_code
def yX1_hasTurn : MethodName := ⟨RX1, "hasTurn", "(LJoinhand$Lookup;LJoinhand$Glyph;)Z"⟩
abbrev cX1_suits : ByteArray := prog_3_method_8_code
def yX1_suits : MethodName := ⟨RX1, "suits", "(II)Z"⟩
abbrev cX1_beginning : ByteArray := prog_3_method_9_code
def yX1_beginning : MethodName := ⟨RX1, "beginning", "(LJoinhand$Lookup;IZ)I"⟩
def RX2 : String := "Joinhand$Glyph"
def TX2 : u_T := fun k => match k with
  | 0 => ("Joinhand$Glyph", "number", "I", false)
  | 1 => ("Joinhand$Glyph", "cluster", "I", false)
  | 2 => ("Joinhand$Glyph", "extra", "I", false)
  | 3 => ("Joinhand$Glyph", "form", "I", false)
  | 4 => ("Joinhand$Glyph", "origin", "I", false)
  | 5 => ("Joinhand$Glyph", "part", "I", false)
  | 6 => ("Joinhand$Glyph", "parts", "I", false)
  | 7 => ("Joinhand$Glyph", "advance", "I", false)
  | 8 => ("Joinhand$Glyph", "height", "I", false)
  | 9 => ("Joinhand$Glyph", "left", "I", false)
  | 10 => ("Joinhand$Glyph", "on", "I", false)
  | 11 => ("Joinhand$Glyph", "right", "I", false)
  | _ => ("Joinhand$Glyph", "up", "I", false)
def tyX2 : Nat → FieldType := fun k => match k with
  | 0 => .int
  | 1 => .int
  | 2 => .int
  | 3 => .int
  | 4 => .int
  | 5 => .int
  | 6 => .int
  | 7 => .int
  | 8 => .int
  | 9 => .int
  | 10 => .int
  | 11 => .int
  | _ => .int
abbrev wsX20 : List Cond := u_ws RX2 TX2 13
theorem nmX2 : ∀ a, a < 13 → ∀ b, b < 13 → a ≠ b → (TX2 a).2.1 ≠ (TX2 b).2.1 := by decide +kernel
theorem tyX2_ok : ∀ k, k < 13 → parseFieldDescriptor (TX2 k).2.2.1 = some (tyX2 k) := by decide +kernel
abbrev cX2_init : ByteArray := prog_4_method_1_code
def yX2_init : MethodName := ⟨RX2, "<init>", "()V"⟩
abbrev cX2_start : ByteArray := prog_4_method_2_code
def yX2_start : MethodName := ⟨RX2, "start", "(IIII)V"⟩
abbrev cX2_takeOver : ByteArray := prog_4_method_3_code
def yX2_takeOver : MethodName := ⟨RX2, "takeOver", "(LJoinhand$Glyph;)V"⟩
abbrev cX2_setOn : ByteArray := prog_4_method_4_code
def yX2_setOn : MethodName := ⟨RX2, "setOn", "(III)V"⟩
def RX3 : String := "Joinhand$Line"
def TX3 : u_T := fun k => match k with
  | 0 => ("Joinhand$Line", "given", "[I", true)
  | 1 => ("Joinhand$Line", "isTooShort", "Z", false)
  | _ => ("Joinhand$Line", "left", "I", false)
def tyX3 : Nat → FieldType := fun k => match k with
  | 0 => .array .int
  | 1 => .boolean
  | _ => .int
abbrev wsX30 : List Cond := u_ws RX3 TX3 3
theorem nmX3 : ∀ a, a < 3 → ∀ b, b < 3 → a ≠ b → (TX3 a).2.1 ≠ (TX3 b).2.1 := by decide +kernel
theorem tyX3_ok : ∀ k, k < 3 → parseFieldDescriptor (TX3 k).2.2.1 = some (tyX3 k) := by decide +kernel
abbrev cX3_init : ByteArray := prog_5_method_1_code
def yX3_init : MethodName := ⟨RX3, "<init>", "()V"⟩
abbrev cX3_reckon : ByteArray := prog_5_method_2_code
def yX3_reckon : MethodName := ⟨RX3, "reckon", "(LJoinhand$Page;LJoinhand$Text;II)V"⟩
abbrev cX3_setStrokes : ByteArray := prog_5_method_3_code
def yX3_setStrokes : MethodName := ⟨RX3, "setStrokes", "(LJoinhand$Page;LJoinhand$Text;I)V"⟩
abbrev cX3_takesStroke : ByteArray := prog_5_method_4_code
def yX3_takesStroke : MethodName := ⟨RX3, "takesStroke", "(LJoinhand$Page;LJoinhand$Text;I)Z"⟩
abbrev cX3_widenBlanks : ByteArray := prog_5_method_5_code
def yX3_widenBlanks : MethodName := ⟨RX3, "widenBlanks", "(LJoinhand$Text;)V"⟩
def RX4 : String := "Joinhand$Lookup"
def TX4 : u_T := fun k => match k with
  | 0 => ("Joinhand$Lookup", "kind", "I", true)
  | 1 => ("Joinhand$Lookup", "feature", "I", true)
  | 2 => ("Joinhand$Lookup", "stage", "I", true)
  | 3 => ("Joinhand$Lookup", "tongue", "I", true)
  | 4 => ("Joinhand$Lookup", "skip", "I", true)
  | 5 => ("Joinhand$Lookup", "lead", "I", true)
  | 6 => ("Joinhand$Lookup", "rules", "[[I", true)
  | 7 => ("Joinhand$Lookup", "table", "[I", true)
  | _ => ("Joinhand$Lookup", "told", "I", false)
def tyX4 : Nat → FieldType := fun k => match k with
  | 0 => .int
  | 1 => .int
  | 2 => .int
  | 3 => .int
  | 4 => .int
  | 5 => .int
  | 6 => .array (.array .int)
  | 7 => .array .int
  | _ => .int
abbrev wsX40 : List Cond := u_ws RX4 TX4 9
theorem nmX4 : ∀ a, a < 9 → ∀ b, b < 9 → a ≠ b → (TX4 a).2.1 ≠ (TX4 b).2.1 := by decide +kernel
theorem tyX4_ok : ∀ k, k < 9 → parseFieldDescriptor (TX4 k).2.2.1 = some (tyX4 k) := by decide +kernel
abbrev cX4_init : ByteArray := prog_6_method_1_code
def yX4_init : MethodName := ⟨RX4, "<init>", "(IIIII)V"⟩
abbrev cX4_accepts : ByteArray := prog_6_method_2_code
def yX4_accepts : MethodName := ⟨RX4, "accepts", "(IIIIII)Z"⟩
abbrev cX4_isItemOrNone : ByteArray := prog_6_method_3_code
def yX4_isItemOrNone : MethodName := ⟨RX4, "isItemOrNone", "(I)Z"⟩
abbrev cX4_isStep : ByteArray := prog_6_method_4_code
def yX4_isStep : MethodName := ⟨RX4, "isStep", "(I)Z"⟩
abbrev cX4_isClass : ByteArray := prog_6_method_5_code
def yX4_isClass : MethodName := ⟨RX4, "isClass", "(I)Z"⟩
abbrev cX4_tell : ByteArray := prog_6_method_6_code
def yX4_tell : MethodName := ⟨RX4, "tell", "(IIIIII)V"⟩
abbrev cX4_begins : ByteArray := prog_6_method_7_code
def yX4_begins : MethodName := ⟨RX4, "begins", "(II)I"⟩
abbrev cX4_tableSize : ByteArray := prog_6_method_8_code
def yX4_tableSize : MethodName := ⟨RX4, "tableSize", "()I"⟩
abbrev cX4_isOf : ByteArray := prog_6_method_9_code
def yX4_isOf : MethodName := ⟨RX4, "isOf", "(I)Z"⟩
abbrev cX4_isDue : ByteArray := prog_6_method_10_code
def yX4_isDue : MethodName := ⟨RX4, "isDue", "(II)Z"⟩
abbrev cX4_firstOf : ByteArray := prog_6_method_11_code
def yX4_firstOf : MethodName := ⟨RX4, "firstOf", "(I)I"⟩
abbrev cX4_isFor : ByteArray := prog_6_method_12_code
def yX4_isFor : MethodName := ⟨RX4, "isFor", "(LJoinhand$Glyph;)Z"⟩
def RX5 : String := "Joinhand$Opening"
def TX5 : u_T := fun k => match k with
  | _ => ("Joinhand$Opening", "row", "LJoinhand$Row;", true)
def tyX5 : Nat → FieldType := fun k => match k with
  | _ => .object "Joinhand$Row"
abbrev wsX50 : List Cond := u_ws RX5 TX5 1
theorem nmX5 : ∀ a, a < 1 → ∀ b, b < 1 → a ≠ b → (TX5 a).2.1 ≠ (TX5 b).2.1 := by decide +kernel
theorem tyX5_ok : ∀ k, k < 1 → parseFieldDescriptor (TX5 k).2.2.1 = some (tyX5 k) := by decide +kernel
abbrev cX5_init : ByteArray := prog_7_method_1_code
def yX5_init : MethodName := ⟨RX5, "<init>", "(LJoinhand$Row;)V"⟩
abbrev cX5_begin : ByteArray := prog_7_method_2_code
def yX5_begin : MethodName := ⟨RX5, "begin", "(LJoinhand$Text;LJoinhand$Runs;I)V"⟩
abbrev cX5_beginJ : ByteArray := prog_7_method_3_code
def yX5_beginJ : MethodName := ⟨RX5, "beginJ", "(LJoinhand$Text;LJoinhand$Runs;II)V"⟩
abbrev cX5_syllableEnd : ByteArray := prog_7_method_4_code
def yX5_syllableEnd : MethodName := ⟨RX5, "syllableEnd", "(LJoinhand$Text;II)I"⟩
abbrev cX5_stackEnd : ByteArray := prog_7_method_5_code
def yX5_stackEnd : MethodName := ⟨RX5, "stackEnd", "(LJoinhand$Text;II)I"⟩
abbrev cX5_vowelsEnd : ByteArray := prog_7_method_6_code
def yX5_vowelsEnd : MethodName := ⟨RX5, "vowelsEnd", "(LJoinhand$Text;II)I"⟩
abbrev cX5_needsCarrier : ByteArray := prog_7_method_7_code
def yX5_needsCarrier : MethodName := ⟨RX5, "needsCarrier", "(I)Z"⟩
abbrev cX5_isVowelOrMark : ByteArray := prog_7_method_8_code
def yX5_isVowelOrMark : MethodName := ⟨RX5, "isVowelOrMark", "(I)Z"⟩
abbrev cX5_addSyllable : ByteArray := prog_7_method_9_code
def yX5_addSyllable : MethodName := ⟨RX5, "addSyllable", "(LJoinhand$Text;II)V"⟩
abbrev cX5_climb : ByteArray := prog_7_method_10_code
def yX5_climb : MethodName := ⟨RX5, "climb", "(I)V"⟩
abbrev cX5_followsConsonant : ByteArray := prog_7_method_11_code
def yX5_followsConsonant : MethodName := ⟨RX5, "followsConsonant", "(I)Z"⟩
abbrev cX5_setAhead : ByteArray := prog_7_method_12_code
def yX5_setAhead : MethodName := ⟨RX5, "setAhead", "(I)V"⟩
abbrev cX5_setBack : ByteArray := prog_7_method_13_code
def yX5_setBack : MethodName := ⟨RX5, "setBack", "()V"⟩
abbrev cX5_lastKiller : ByteArray := prog_7_method_14_code
def yX5_lastKiller : MethodName := ⟨RX5, "lastKiller", "(II)I"⟩
def RX6 : String := "Joinhand$Page"
def TX6 : u_T := fun k => match k with
  | 0 => ("Joinhand$Page", "runs", "LJoinhand$Runs;", true)
  | 1 => ("Joinhand$Page", "numbers", "[I", true)
  | 2 => ("Joinhand$Page", "clusters", "[I", true)
  | 3 => ("Joinhand$Page", "advances", "[I", true)
  | 4 => ("Joinhand$Page", "heights", "[I", true)
  | 5 => ("Joinhand$Page", "lefts", "[I", true)
  | 6 => ("Joinhand$Page", "ons", "[I", true)
  | 7 => ("Joinhand$Page", "rights", "[I", true)
  | 8 => ("Joinhand$Page", "ups", "[I", true)
  | 9 => ("Joinhand$Page", "length", "I", false)
  | _ => ("Joinhand$Page", "width", "I", false)
def tyX6 : Nat → FieldType := fun k => match k with
  | 0 => .object "Joinhand$Runs"
  | 1 => .array .int
  | 2 => .array .int
  | 3 => .array .int
  | 4 => .array .int
  | 5 => .array .int
  | 6 => .array .int
  | 7 => .array .int
  | 8 => .array .int
  | 9 => .int
  | _ => .int
abbrev wsX60 : List Cond := u_ws RX6 TX6 11
theorem nmX6 : ∀ a, a < 11 → ∀ b, b < 11 → a ≠ b → (TX6 a).2.1 ≠ (TX6 b).2.1 := by decide +kernel
theorem tyX6_ok : ∀ k, k < 11 → parseFieldDescriptor (TX6 k).2.2.1 = some (tyX6 k) := by decide +kernel
abbrev cX6_init : ByteArray := prog_8_method_1_code
def yX6_init : MethodName := ⟨RX6, "<init>", "()V"⟩
abbrev cX6_clear : ByteArray := prog_8_method_2_code
def yX6_clear : MethodName := ⟨RX6, "clear", "()V"⟩
abbrev cX6_append : ByteArray := prog_8_method_3_code
def yX6_append : MethodName := ⟨RX6, "append", "(LJoinhand$Row;I)V"⟩
abbrev cX6_isLike : ByteArray := prog_8_method_4_code
def yX6_isLike : MethodName := ⟨RX6, "isLike", "(LJoinhand$Page;)Z"⟩
abbrev cX6_ownerOf : ByteArray := prog_8_method_5_code
def yX6_ownerOf : MethodName := ⟨RX6, "ownerOf", "(I)I"⟩
abbrev cX6_caretOf : ByteArray := prog_8_method_6_code
def yX6_caretOf : MethodName := ⟨RX6, "caretOf", "(I)I"⟩
abbrev cX6_fromBeginning : ByteArray := prog_8_method_7_code
def yX6_fromBeginning : MethodName := ⟨RX6, "fromBeginning", "(II)I"⟩
def RX7 : String := "Joinhand$Places"
def TX7 : u_T := fun k => match k with
  | 0 => ("Joinhand$Places", "row", "LJoinhand$Row;", true)
  | 1 => ("Joinhand$Places", "face", "LJoinhand$Face;", false)
  | _ => ("Joinhand$Places", "isTabled", "Z", false)
def tyX7 : Nat → FieldType := fun k => match k with
  | 0 => .object "Joinhand$Row"
  | 1 => .object "Joinhand$Face"
  | _ => .boolean
abbrev wsX70 : List Cond := u_ws RX7 TX7 3
theorem nmX7 : ∀ a, a < 3 → ∀ b, b < 3 → a ≠ b → (TX7 a).2.1 ≠ (TX7 b).2.1 := by decide +kernel
theorem tyX7_ok : ∀ k, k < 3 → parseFieldDescriptor (TX7 k).2.2.1 = some (tyX7 k) := by decide +kernel
abbrev cX7_init : ByteArray := prog_9_method_1_code
def yX7_init : MethodName := ⟨RX7, "<init>", "(LJoinhand$Row;)V"⟩
abbrev cX7_set : ByteArray := prog_9_method_2_code
def yX7_set : MethodName := ⟨RX7, "set", "(LJoinhand$Face;IZ)V"⟩
abbrev cX7_addToPairs : ByteArray := prog_9_method_3_code
def yX7_addToPairs : MethodName := ⟨RX7, "addToPairs", "(LJoinhand$Lookup;)V"⟩
abbrev cX7_pairRule : ByteArray := prog_9_method_4_code
def yX7_pairRule : MethodName := ⟨RX7, "pairRule", "(LJoinhand$Lookup;II)I"⟩
abbrev cX7_linkHeights : ByteArray := prog_9_method_5_code
def yX7_linkHeights : MethodName := ⟨RX7, "linkHeights", "(LJoinhand$Lookup;)V"⟩
abbrev cX7_setMarks : ByteArray := prog_9_method_6_code
def yX7_setMarks : MethodName := ⟨RX7, "setMarks", "(LJoinhand$Lookup;)V"⟩
abbrev cX7_setOnBase : ByteArray := prog_9_method_7_code
def yX7_setOnBase : MethodName := ⟨RX7, "setOnBase", "(LJoinhand$Lookup;LJoinhand$Glyph;I)V"⟩
abbrev cX7_setOnMark : ByteArray := prog_9_method_8_code
def yX7_setOnMark : MethodName := ⟨RX7, "setOnMark", "(LJoinhand$Lookup;LJoinhand$Glyph;I)V"⟩
abbrev cX7_settle : ByteArray := prog_9_method_9_code
def yX7_settle : MethodName := ⟨RX7, "settle", "(IZ)V"⟩
def RX8 : String := "Joinhand$Row"
def TX8 : u_T := fun k => match k with
  | 0 => ("Joinhand$Row", "cells", "[LJoinhand$Glyph;", true)
  | _ => ("Joinhand$Row", "length", "I", false)
def tyX8 : Nat → FieldType := fun k => match k with
  | 0 => .array (.object "Joinhand$Glyph")
  | _ => .int
abbrev wsX80 : List Cond := u_ws RX8 TX8 2
theorem nmX8 : ∀ a, a < 2 → ∀ b, b < 2 → a ≠ b → (TX8 a).2.1 ≠ (TX8 b).2.1 := by decide +kernel
theorem tyX8_ok : ∀ k, k < 2 → parseFieldDescriptor (TX8 k).2.2.1 = some (tyX8 k) := by decide +kernel
abbrev cX8_init : ByteArray := prog_10_method_1_code
def yX8_init : MethodName := ⟨RX8, "<init>", "()V"⟩
abbrev cX8_add : ByteArray := prog_10_method_2_code
def yX8_add : MethodName := ⟨RX8, "add", "()LJoinhand$Glyph;"⟩
abbrev cX8_has : ByteArray := prog_10_method_3_code
def yX8_has : MethodName := ⟨RX8, "has", "(I)Z"⟩
abbrev cX8_move : ByteArray := prog_10_method_4_code
def yX8_move : MethodName := ⟨RX8, "move", "(II)V"⟩
abbrev cX8_takeOut : ByteArray := prog_10_method_5_code
def yX8_takeOut : MethodName := ⟨RX8, "takeOut", "(I)V"⟩
abbrev cX8_putBehind : ByteArray := prog_10_method_6_code
def yX8_putBehind : MethodName := ⟨RX8, "putBehind", "(II)V"⟩
abbrev cX8_numberAt : ByteArray := prog_10_method_7_code
def yX8_numberAt : MethodName := ⟨RX8, "numberAt", "(I)I"⟩
abbrev cX8_indexOf : ByteArray := prog_10_method_8_code
def yX8_indexOf : MethodName := ⟨RX8, "indexOf", "(LJoinhand$Glyph;)I"⟩
abbrev cX8_ahead : ByteArray := prog_10_method_9_code
def yX8_ahead : MethodName := ⟨RX8, "ahead", "(LJoinhand$Face;LJoinhand$Lookup;I)I"⟩
abbrev cX8_behind : ByteArray := prog_10_method_10_code
def yX8_behind : MethodName := ⟨RX8, "behind", "(LJoinhand$Face;LJoinhand$Lookup;I)I"⟩
abbrev cX8_dropJoiners : ByteArray := prog_10_method_11_code
def yX8_dropJoiners : MethodName := ⟨RX8, "dropJoiners", "()V"⟩
def RX9 : String := "Joinhand$Runs"
def TX9 : u_T := fun k => match k with
  | 0 => ("Joinhand$Runs", "ofSign", "[I", true)
  | 1 => ("Joinhand$Runs", "forms", "[I", true)
  | 2 => ("Joinhand$Runs", "isS", "[Z", true)
  | 3 => ("Joinhand$Runs", "faces", "[I", true)
  | 4 => ("Joinhand$Runs", "starts", "[I", true)
  | 5 => ("Joinhand$Runs", "ends", "[I", true)
  | 6 => ("Joinhand$Runs", "firstGlyphs", "[I", true)
  | 7 => ("Joinhand$Runs", "endGlyphs", "[I", true)
  | 8 => ("Joinhand$Runs", "lefts", "[I", true)
  | 9 => ("Joinhand$Runs", "widths", "[I", true)
  | _ => ("Joinhand$Runs", "count", "I", false)
def tyX9 : Nat → FieldType := fun k => match k with
  | 0 => .array .int
  | 1 => .array .int
  | 2 => .array .boolean
  | 3 => .array .int
  | 4 => .array .int
  | 5 => .array .int
  | 6 => .array .int
  | 7 => .array .int
  | 8 => .array .int
  | 9 => .array .int
  | _ => .int
abbrev wsX90 : List Cond := u_ws RX9 TX9 11
theorem nmX9 : ∀ a, a < 11 → ∀ b, b < 11 → a ≠ b → (TX9 a).2.1 ≠ (TX9 b).2.1 := by decide +kernel
theorem tyX9_ok : ∀ k, k < 11 → parseFieldDescriptor (TX9 k).2.2.1 = some (tyX9 k) := by decide +kernel
abbrev cX9_init : ByteArray := prog_11_method_1_code
def yX9_init : MethodName := ⟨RX9, "<init>", "()V"⟩
abbrev cX9_part : ByteArray := prog_11_method_2_code
def yX9_part : MethodName := ⟨RX9, "part", "(LJoinhand$Text;II)V"⟩
abbrev cX9_beginsWithS : ByteArray := prog_11_method_3_code
def yX9_beginsWithS : MethodName := ⟨RX9, "beginsWithS", "(LJoinhand$Text;II)Z"⟩
abbrev cX9_open : ByteArray := prog_11_method_4_code
def yX9_open : MethodName := ⟨RX9, "open", "(IZI)V"⟩
abbrev cX9_formOf : ByteArray := prog_11_method_5_code
def yX9_formOf : MethodName := ⟨RX9, "formOf", "(LJoinhand$Text;I)I"⟩
abbrev cX9_canReachBack : ByteArray := prog_11_method_6_code
def yX9_canReachBack : MethodName := ⟨RX9, "canReachBack", "(LJoinhand$Text;I)Z"⟩
abbrev cX9_canReachOn : ByteArray := prog_11_method_7_code
def yX9_canReachOn : MethodName := ⟨RX9, "canReachOn", "(LJoinhand$Text;I)Z"⟩
abbrev cX9_nextLetter : ByteArray := prog_11_method_8_code
def yX9_nextLetter : MethodName := ⟨RX9, "nextLetter", "(LJoinhand$Text;I)I"⟩
abbrev cX9_codeOf : ByteArray := prog_11_method_9_code
def yX9_codeOf : MethodName := ⟨RX9, "codeOf", "(I)I"⟩
def RX10 : String := "Joinhand$Text"
def TX10 : u_T := fun k => match k with
  | 0 => ("Joinhand$Text", "signs", "[I", true)
  | 1 => ("Joinhand$Text", "extras", "[I", true)
  | 2 => ("Joinhand$Text", "lacked", "[Z", true)
  | 3 => ("Joinhand$Text", "length", "I", false)
  | _ => ("Joinhand$Text", "tongue", "I", false)
def tyX10 : Nat → FieldType := fun k => match k with
  | 0 => .array .int
  | 1 => .array .int
  | 2 => .array .boolean
  | 3 => .int
  | _ => .int
abbrev wsX100 : List Cond := u_ws RX10 TX10 5
theorem nmX10 : ∀ a, a < 5 → ∀ b, b < 5 → a ≠ b → (TX10 a).2.1 ≠ (TX10 b).2.1 := by decide +kernel
theorem tyX10_ok : ∀ k, k < 5 → parseFieldDescriptor (TX10 k).2.2.1 = some (tyX10 k) := by decide +kernel
abbrev cX10_init : ByteArray := prog_12_method_1_code
def yX10_init : MethodName := ⟨RX10, "<init>", "()V"⟩
abbrev cX10_putIn : ByteArray := prog_12_method_2_code
def yX10_putIn : MethodName := ⟨RX10, "putIn", "(II)V"⟩
abbrev cX10_takeOut : ByteArray := prog_12_method_3_code
def yX10_takeOut : MethodName := ⟨RX10, "takeOut", "(I)I"⟩
abbrev cX10_giveExtra : ByteArray := prog_12_method_4_code
def yX10_giveExtra : MethodName := ⟨RX10, "giveExtra", "(III)I"⟩
def RX11 : String := "Joinhand"
def TX11 : u_T := fun k => match k with
  | 0 => ("Joinhand", "faces", "[LJoinhand$Face;", true)
  | 1 => ("Joinhand", "text", "LJoinhand$Text;", true)
  | 2 => ("Joinhand", "row", "LJoinhand$Row;", true)
  | 3 => ("Joinhand", "opening", "LJoinhand$Opening;", true)
  | 4 => ("Joinhand", "changes", "LJoinhand$Changes;", true)
  | 5 => ("Joinhand", "places", "LJoinhand$Places;", true)
  | 6 => ("Joinhand", "line", "LJoinhand$Line;", true)
  | 7 => ("Joinhand", "whole", "LJoinhand$Page;", true)
  | 8 => ("Joinhand", "spare", "LJoinhand$Page;", true)
  | 9 => ("Joinhand", "used", "I", false)
  | _ => ("Joinhand", "stale", "Z", false)
def tyX11 : Nat → FieldType := fun k => match k with
  | 0 => .array (.object "Joinhand$Face")
  | 1 => .object "Joinhand$Text"
  | 2 => .object "Joinhand$Row"
  | 3 => .object "Joinhand$Opening"
  | 4 => .object "Joinhand$Changes"
  | 5 => .object "Joinhand$Places"
  | 6 => .object "Joinhand$Line"
  | 7 => .object "Joinhand$Page"
  | 8 => .object "Joinhand$Page"
  | 9 => .int
  | _ => .boolean
abbrev wsX110 : List Cond := u_ws RX11 TX11 11
theorem nmX11 : ∀ a, a < 11 → ∀ b, b < 11 → a ≠ b → (TX11 a).2.1 ≠ (TX11 b).2.1 := by decide +kernel
theorem tyX11_ok : ∀ k, k < 11 → parseFieldDescriptor (TX11 k).2.2.1 = some (tyX11 k) := by decide +kernel
abbrev cX11_init : ByteArray := prog_1_method_1_code
def yX11_init : MethodName := ⟨RX11, "<init>", "()V"⟩
abbrev cX11_useFace : ByteArray := prog_1_method_2_code
def yX11_useFace : MethodName := ⟨RX11, "useFace", "(I)I"⟩
abbrev cX11_lookup : ByteArray := prog_1_method_3_code
def yX11_lookup : MethodName := ⟨RX11, "lookup", "(IIIII)I"⟩
abbrev cX11_rule : ByteArray := prog_1_method_4_code
def yX11_rule : MethodName := ⟨RX11, "rule", "(IIIIIII)I"⟩
abbrev cX11_setMark : ByteArray := prog_1_method_5_code
def yX11_setMark : MethodName := ⟨RX11, "setMark", "(II)I"⟩
abbrev cX11_setGroup : ByteArray := prog_1_method_6_code
def yX11_setGroup : MethodName := ⟨RX11, "setGroup", "(II)I"⟩
abbrev cX11_setWidth : ByteArray := prog_1_method_7_code
def yX11_setWidth : MethodName := ⟨RX11, "setWidth", "(II)I"⟩
abbrev cX11_lack : ByteArray := prog_1_method_8_code
def yX11_lack : MethodName := ⟨RX11, "lack", "(I)Z"⟩
abbrev cX11_size : ByteArray := prog_1_method_9_code
def yX11_size : MethodName := ⟨RX11, "size", "(I)I"⟩
abbrev cX11_insert : ByteArray := prog_1_method_10_code
def yX11_insert : MethodName := ⟨RX11, "insert", "(II)I"⟩
abbrev cX11_cut : ByteArray := prog_1_method_11_code
def yX11_cut : MethodName := ⟨RX11, "cut", "(I)I"⟩
abbrev cX11_setTongue : ByteArray := prog_1_method_12_code
def yX11_setTongue : MethodName := ⟨RX11, "setTongue", "(I)I"⟩
abbrev cX11_setExtra : ByteArray := prog_1_method_13_code
def yX11_setExtra : MethodName := ⟨RX11, "setExtra", "(III)I"⟩
abbrev cX11_glyphs : ByteArray := prog_1_method_14_code
def yX11_glyphs : MethodName := ⟨RX11, "glyphs", "()I"⟩
abbrev cX11_glyph : ByteArray := prog_1_method_15_code
def yX11_glyph : MethodName := ⟨RX11, "glyph", "(I)I"⟩
abbrev cX11_glyphAnew : ByteArray := prog_1_method_16_code
def yX11_glyphAnew : MethodName := ⟨RX11, "glyphAnew", "(I)I"⟩
abbrev cX11_cluster : ByteArray := prog_1_method_17_code
def yX11_cluster : MethodName := ⟨RX11, "cluster", "(I)I"⟩
abbrev cX11_place : ByteArray := prog_1_method_18_code
def yX11_place : MethodName := ⟨RX11, "place", "(II)I"⟩
abbrev cX11_form : ByteArray := prog_1_method_19_code
def yX11_form : MethodName := ⟨RX11, "form", "(I)I"⟩
abbrev cX11_run : ByteArray := prog_1_method_20_code
def yX11_run : MethodName := ⟨RX11, "run", "(I)I"⟩
abbrev cX11_caret : ByteArray := prog_1_method_21_code
def yX11_caret : MethodName := ⟨RX11, "caret", "(I)I"⟩
abbrev cX11_hit : ByteArray := prog_1_method_22_code
def yX11_hit : MethodName := ⟨RX11, "hit", "(I)I"⟩
abbrev cX11_isSafe : ByteArray := prog_1_method_23_code
def yX11_isSafe : MethodName := ⟨RX11, "isSafe", "(I)Z"⟩
abbrev cX11_fill : ByteArray := prog_1_method_24_code
def yX11_fill : MethodName := ⟨RX11, "fill", "(I)I"⟩
abbrev cX11_filling : ByteArray := prog_1_method_25_code
def yX11_filling : MethodName := ⟨RX11, "filling", "(II)I"⟩
abbrev cX11_needSign : ByteArray := prog_1_method_26_code
def yX11_needSign : MethodName := ⟨RX11, "needSign", "(I)V"⟩
abbrev cX11_needGlyph : ByteArray := prog_1_method_27_code
def yX11_needGlyph : MethodName := ⟨RX11, "needGlyph", "(LJoinhand$Page;I)V"⟩
abbrev cX11_needLine : ByteArray := prog_1_method_28_code
def yX11_needLine : MethodName := ⟨RX11, "needLine", "(I)V"⟩
abbrev cX11_shaped : ByteArray := prog_1_method_29_code
def yX11_shaped : MethodName := ⟨RX11, "shaped", "()LJoinhand$Page;"⟩
abbrev cX11_shape : ByteArray := prog_1_method_30_code
def yX11_shape : MethodName := ⟨RX11, "shape", "(LJoinhand$Page;IIZ)V"⟩
abbrev cX11_isGlyph : ByteArray := prog_1_method_31_code
def yX11_isGlyph : MethodName := ⟨RX11, "isGlyph", "(I)Z"⟩
abbrev cX11_isItem : ByteArray := prog_1_method_32_code
def yX11_isItem : MethodName := ⟨RX11, "isItem", "(I)Z"⟩
abbrev cX11_isSign : ByteArray := prog_1_method_33_code
def yX11_isSign : MethodName := ⟨RX11, "isSign", "(I)Z"⟩
abbrev cX11_isJoinerOrParter : ByteArray := prog_1_method_34_code
def yX11_isJoinerOrParter : MethodName := ⟨RX11, "isJoinerOrParter", "(I)Z"⟩
abbrev cX11_isMarkOfJ : ByteArray := prog_1_method_35_code
def yX11_isMarkOfJ : MethodName := ⟨RX11, "isMarkOfJ", "(I)Z"⟩
abbrev cX11_joinsOnBothSides : ByteArray := prog_1_method_36_code
def yX11_joinsOnBothSides : MethodName := ⟨RX11, "joinsOnBothSides", "(I)Z"⟩
abbrev cX11_isConsonant : ByteArray := prog_1_method_37_code
def yX11_isConsonant : MethodName := ⟨RX11, "isConsonant", "(I)Z"⟩
def RX12 : String := "JoinhandModel"
def TX12 : u_T := fun k => match k with
  | _ => ("", "", "", false)
def tyX12 : Nat → FieldType := fun k => match k with
  | _ => .int
abbrev wsX120 : List Cond := u_ws RX12 TX12 0
theorem nmX12 : ∀ a, a < 0 → ∀ b, b < 0 → a ≠ b → (TX12 a).2.1 ≠ (TX12 b).2.1 := by decide +kernel
theorem tyX12_ok : ∀ k, k < 0 → parseFieldDescriptor (TX12 k).2.2.1 = some (tyX12 k) := by decide +kernel
def RJ6 : String := "java/lang/Integer"
def TJ6 : u_T := fun k => match k with
  | _ => ("", "", "", false)
def tyJ6 : Nat → FieldType := fun k => match k with
  | _ => .int
abbrev wsJ60 : List Cond := u_ws RJ6 TJ6 0
theorem nmJ6 : ∀ a, a < 0 → ∀ b, b < 0 → a ≠ b → (TJ6 a).2.1 ≠ (TJ6 b).2.1 := by decide +kernel
theorem tyJ6_ok : ∀ k, k < 0 → parseFieldDescriptor (TJ6 k).2.2.1 = some (tyJ6 k) := by decide +kernel
abbrev cJ6_bitCount_0f7a4 : ByteArray := prog_19_method_49_code
def yJ6_bitCount_0f7a4 : MethodName := ⟨RJ6, "bitCount", "(I)I"⟩
def RJ9 : String := "java/lang/Math"
def TJ9 : u_T := fun k => match k with
  | _ => ("", "", "", false)
def tyJ9 : Nat → FieldType := fun k => match k with
  | _ => .int
abbrev wsJ90 : List Cond := u_ws RJ9 TJ9 0
theorem nmJ9 : ∀ a, a < 0 → ∀ b, b < 0 → a ≠ b → (TJ9 a).2.1 ≠ (TJ9 b).2.1 := by decide +kernel
theorem tyJ9_ok : ∀ k, k < 0 → parseFieldDescriptor (TJ9 k).2.2.1 = some (tyJ9 k) := by decide +kernel
abbrev cJ9_floorDiv_7cf53 : ByteArray := prog_20_method_47_code
def yJ9_floorDiv_7cf53 : MethodName := ⟨RJ9, "floorDiv", "(II)I"⟩
abbrev cJ9_abs_0f7a4 : ByteArray := prog_20_method_59_code
def yJ9_abs_0f7a4 : MethodName := ⟨RJ9, "abs", "(I)I"⟩
abbrev cJ9_max_7cf53 : ByteArray := prog_20_method_65_code
def yJ9_max_7cf53 : MethodName := ⟨RJ9, "max", "(II)I"⟩
abbrev cJ9_min_7cf53 : ByteArray := prog_20_method_69_code
def yJ9_min_7cf53 : MethodName := ⟨RJ9, "min", "(II)I"⟩
def RJ0 : String := "java/lang/String"
def TJ0 : u_T := fun k => match k with
  | _ => ("", "", "", false)
def tyJ0 : Nat → FieldType := fun k => match k with
  | _ => .int
abbrev wsJ00 : List Cond := u_ws RJ0 TJ0 0
theorem nmJ0 : ∀ a, a < 0 → ∀ b, b < 0 → a ≠ b → (TJ0 a).2.1 ≠ (TJ0 b).2.1 := by decide +kernel
theorem tyJ0_ok : ∀ k, k < 0 → parseFieldDescriptor (TJ0 k).2.2.1 = some (tyJ0 k) := by decide +kernel
def RL : String := "JoinhandLaw"
abbrev cL_cell : ByteArray := method_2_code
def yL_cell : MethodName := ⟨RL, "cell", "([II)I"⟩
abbrev cL_low : ByteArray := method_3_code
def yL_low : MethodName := ⟨RL, "low", "(II)I"⟩
abbrev cL_useFace : ByteArray := method_4_code
def yL_useFace : MethodName := ⟨RL, "useFace", "(LJoinhand;I)I"⟩
abbrev cL_lookup : ByteArray := method_5_code
def yL_lookup : MethodName := ⟨RL, "lookup", "(LJoinhand;IIIII)I"⟩
abbrev cL_rule : ByteArray := method_6_code
def yL_rule : MethodName := ⟨RL, "rule", "(LJoinhand;IIIIIII)I"⟩
abbrev cL_setMark : ByteArray := method_7_code
def yL_setMark : MethodName := ⟨RL, "setMark", "(LJoinhand;II)I"⟩
abbrev cL_setGroup : ByteArray := method_8_code
def yL_setGroup : MethodName := ⟨RL, "setGroup", "(LJoinhand;II)I"⟩
abbrev cL_setWidth : ByteArray := method_9_code
def yL_setWidth : MethodName := ⟨RL, "setWidth", "(LJoinhand;II)I"⟩
abbrev cL_lack : ByteArray := method_10_code
def yL_lack : MethodName := ⟨RL, "lack", "(LJoinhand;I)I"⟩
abbrev cL_size : ByteArray := method_11_code
def yL_size : MethodName := ⟨RL, "size", "(LJoinhand;I)I"⟩
abbrev cL_insert : ByteArray := method_12_code
def yL_insert : MethodName := ⟨RL, "insert", "(LJoinhand;II)I"⟩
abbrev cL_cut : ByteArray := method_13_code
def yL_cut : MethodName := ⟨RL, "cut", "(LJoinhand;I)I"⟩
abbrev cL_setTongue : ByteArray := method_14_code
def yL_setTongue : MethodName := ⟨RL, "setTongue", "(LJoinhand;I)I"⟩
abbrev cL_setExtra : ByteArray := method_15_code
def yL_setExtra : MethodName := ⟨RL, "setExtra", "(LJoinhand;III)I"⟩
abbrev cL_glyph : ByteArray := method_16_code
def yL_glyph : MethodName := ⟨RL, "glyph", "(LJoinhand;I)I"⟩
abbrev cL_glyphAnew : ByteArray := method_17_code
def yL_glyphAnew : MethodName := ⟨RL, "glyphAnew", "(LJoinhand;I)I"⟩
abbrev cL_cluster : ByteArray := method_18_code
def yL_cluster : MethodName := ⟨RL, "cluster", "(LJoinhand;I)I"⟩
abbrev cL_place : ByteArray := method_19_code
def yL_place : MethodName := ⟨RL, "place", "(LJoinhand;II)I"⟩
abbrev cL_form : ByteArray := method_20_code
def yL_form : MethodName := ⟨RL, "form", "(LJoinhand;I)I"⟩
abbrev cL_run : ByteArray := method_21_code
def yL_run : MethodName := ⟨RL, "run", "(LJoinhand;I)I"⟩
abbrev cL_caret : ByteArray := method_22_code
def yL_caret : MethodName := ⟨RL, "caret", "(LJoinhand;I)I"⟩
abbrev cL_hit : ByteArray := method_23_code
def yL_hit : MethodName := ⟨RL, "hit", "(LJoinhand;I)I"⟩
abbrev cL_isSafe : ByteArray := method_24_code
def yL_isSafe : MethodName := ⟨RL, "isSafe", "(LJoinhand;I)I"⟩
abbrev cL_fill : ByteArray := method_25_code
def yL_fill : MethodName := ⟨RL, "fill", "(LJoinhand;I)I"⟩
abbrev cL_filling : ByteArray := method_26_code
def yL_filling : MethodName := ⟨RL, "filling", "(LJoinhand;II)I"⟩
abbrev cL_of : ByteArray := method_27_code
def yL_of : MethodName := ⟨RL, "of", "(I)I"⟩
abbrev cL_mark : ByteArray := method_28_code
def yL_mark : MethodName := ⟨RL, "mark", "([III)I"⟩
abbrev cL_glyphOf : ByteArray := method_29_code
def yL_glyphOf : MethodName := ⟨RL, "glyphOf", "(J)I"⟩
abbrev cL_part : ByteArray := method_30_code
def yL_part : MethodName := ⟨RL, "part", "(JII)I"⟩
abbrev cL_with : ByteArray := method_31_code
def yL_with : MethodName := ⟨RL, "with", "(JIII)J"⟩
abbrev cL_packed : ByteArray := method_32_code
def yL_packed : MethodName := ⟨RL, "packed", "(IIII)J"⟩
abbrev cL_number : ByteArray := method_33_code
def yL_number : MethodName := ⟨RL, "number", "([JIII)I"⟩
abbrev cL_is : ByteArray := method_34_code
def yL_is : MethodName := ⟨RL, "is", "([IIII)Z"⟩
abbrev cL_passed : ByteArray := method_35_code
def yL_passed : MethodName := ⟨RL, "passed", "([I[IIIJ)Z"⟩
abbrev cL_has : ByteArray := method_36_code
def yL_has : MethodName := ⟨RL, "has", "([IIJ)Z"⟩
abbrev cL_next : ByteArray := method_37_code
def yL_next : MethodName := ⟨RL, "next", "([J[I[I[IIII)I"⟩
abbrev cL_put : ByteArray := method_38_code
def yL_put : MethodName := ⟨RL, "put", "([J[IIJ)V"⟩
abbrev cL_take : ByteArray := method_39_code
def yL_take : MethodName := ⟨RL, "take", "([J[II)J"⟩
abbrev cL_rules : ByteArray := method_40_code
def yL_rules : MethodName := ⟨RL, "rules", "([J[I[J[I[III)I"⟩
abbrev cL_parts : ByteArray := method_41_code
def yL_parts : MethodName := ⟨RL, "parts", "([J[I[IIII)V"⟩
abbrev cL_joined : ByteArray := method_42_code
def yL_joined : MethodName := ⟨RL, "joined", "([J[I[I[IIIIII)Z"⟩
abbrev cL_fits : ByteArray := method_43_code
def yL_fits : MethodName := ⟨RL, "fits", "([J[I[III)Z"⟩
abbrev cL_context : ByteArray := method_44_code
def yL_context : MethodName := ⟨RL, "context", "([J[I[J[I[III)I"⟩
abbrev cL_stage : ByteArray := method_45_code
def yL_stage : MethodName := ⟨RL, "stage", "([J[I[J[I[II)V"⟩
abbrev cL_letter : ByteArray := method_46_code
def yL_letter : MethodName := ⟨RL, "letter", "(I)Z"⟩
abbrev cL_markSign : ByteArray := method_47_code
def yL_markSign : MethodName := ⟨RL, "markSign", "(I)Z"⟩
abbrev cL_formed : ByteArray := method_48_code
def yL_formed : MethodName := ⟨RL, "formed", "([IIII)I"⟩
abbrev cL_consonant : ByteArray := method_49_code
def yL_consonant : MethodName := ⟨RL, "consonant", "(I)Z"⟩
abbrev cL_behind : ByteArray := method_50_code
def yL_behind : MethodName := ⟨RL, "behind", "([IIII)I"⟩
abbrev cL_syllables : ByteArray := method_51_code
def yL_syllables : MethodName := ⟨RL, "syllables", "([J[I[III)V"⟩
abbrev cL_move : ByteArray := method_52_code
def yL_move : MethodName := ⟨RL, "move", "([J[I)V"⟩
abbrev cL_base : ByteArray := method_53_code
def yL_base : MethodName := ⟨RL, "base", "([J[I[II)I"⟩
abbrev cL_first : ByteArray := method_54_code
def yL_first : MethodName := ⟨RL, "first", "([J[J[I[I[IIII)I"⟩
abbrev cL_placed : ByteArray := method_55_code
def yL_placed : MethodName := ⟨RL, "placed", "([J[J[I[I[I[I[I[II)V"⟩
abbrev cL_runs : ByteArray := method_56_code
def yL_runs : MethodName := ⟨RL, "runs", "([I[I[J[I[IJIIIZ[I[I[I[I[I)V"⟩
abbrev cL_shape : ByteArray := method_57_code
def yL_shape : MethodName := ⟨RL, "shape", "([I[I[J[I[IJII[I[I[I[I[I[I)V"⟩
abbrev cL_runOf : ByteArray := method_58_code
def yL_runOf : MethodName := ⟨RL, "runOf", "([II)I"⟩
abbrev cL_clusterOf : ByteArray := method_59_code
def yL_clusterOf : MethodName := ⟨RL, "clusterOf", "([I[II)I"⟩
abbrev cL_caretOf : ByteArray := method_60_code
def yL_caretOf : MethodName := ⟨RL, "caretOf", "([I[I[II)I"⟩
abbrev cL_textTold : ByteArray := method_61_code
def yL_textTold : MethodName := ⟨RL, "textTold", "(LJoinhand;I[I[I[J[I[IJ[I[I[I)Z"⟩
abbrev cL_filled : ByteArray := method_62_code
def yL_filled : MethodName := ⟨RL, "filled", "(LJoinhand;[I[I[I[III)Z"⟩
abbrev cL_isTold : ByteArray := method_63_code
def yL_isTold : MethodName := ⟨RL, "isTold", "(LJoinhand;I[I[I[J[I[IJ[I[I[I[I[I[I)Z"⟩
abbrev cL_sized : ByteArray := method_64_code
def yL_sized : MethodName := ⟨RL, "sized", "([I[J[I[II)I"⟩
abbrev cL_glyphBy : ByteArray := method_65_code
def yL_glyphBy : MethodName := ⟨RL, "glyphBy", "(I)I"⟩
abbrev cL_itemBy : ByteArray := method_66_code
def yL_itemBy : MethodName := ⟨RL, "itemBy", "(IZ)I"⟩
abbrev cL_signBy : ByteArray := method_67_code
def yL_signBy : MethodName := ⟨RL, "signBy", "(I)I"⟩
abbrev cL_ruled : ByteArray := method_68_code
def yL_ruled : MethodName := ⟨RL, "ruled", "(LJoinhand;II[I[J[I[I)Z"⟩
abbrev cL_faces : ByteArray := method_69_code
def yL_faces : MethodName := ⟨RL, "faces", "(LJoinhand;III[I[I[I)Z"⟩
abbrev cL_law : ByteArray := code
def yL_law : MethodName := ⟨RL, "law", "([I)Z"⟩
abbrev vwCl : List vw_C := [(RX0, TX0, 9), (RX1, TX1, 5), (RX2, TX2, 13), (RX3, TX3, 3), (RX4, TX4, 9), (RX5, TX5, 1), (RX6, TX6, 11), (RX7, TX7, 3), (RX8, TX8, 2), (RX9, TX9, 11), (RX10, TX10, 5), (RX11, TX11, 11)]
