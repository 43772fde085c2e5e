section
-- ===== PART A: goes FIRST, ahead of the names: the tables' words, and 'selects' of the private methods out of them =====
/-- a private method of a class that the tables say can be made, by its rows of tables_1 -/
def lw_okq (q : MethodName × Nat) : Prop := (q.1.cls ≠ "java/lang/invoke/MethodHandle" ∧ q.1.cls ≠ "java/lang/invoke/VarHandle") ∧ Cond.instantiable q.1.cls q.2 ∈ tables_1 ∧ Cond.privateMethod q.1 ∈ tables_1 ∧ Cond.instanceMethod q.1 ∈ tables_1
theorem lw_p0 : lw_okq (⟨"SymbolLinker", "addSection", "(LSymbolLinker$Unit;II)V"⟩, 11) := ⟨⟨by decide +kernel, by decide +kernel⟩, List.mem_of_getElem? (i := 26) (by decide +kernel), List.mem_of_getElem? (i := 211) (by decide +kernel), List.mem_of_getElem? (i := 212) (by decide +kernel)⟩
theorem lw_p1 : lw_okq (⟨"java/util/ArrayList", "add", "(Ljava/lang/Object;[Ljava/lang/Object;I)V"⟩, 3) := ⟨⟨by decide +kernel, by decide +kernel⟩, List.mem_of_getElem? (i := 34) (by decide +kernel), List.mem_of_getElem? (i := 286) (by decide +kernel), List.mem_of_getElem? (i := 287) (by decide +kernel)⟩
theorem lw_p2 : lw_okq (⟨"java/util/ArrayList", "grow", "()[Ljava/lang/Object;"⟩, 3) := ⟨⟨by decide +kernel, by decide +kernel⟩, List.mem_of_getElem? (i := 34) (by decide +kernel), List.mem_of_getElem? (i := 290) (by decide +kernel), List.mem_of_getElem? (i := 291) (by decide +kernel)⟩
theorem lw_p3 : lw_okq (⟨"java/util/ArrayList", "grow", "(I)[Ljava/lang/Object;"⟩, 3) := ⟨⟨by decide +kernel, by decide +kernel⟩, List.mem_of_getElem? (i := 34) (by decide +kernel), List.mem_of_getElem? (i := 294) (by decide +kernel), List.mem_of_getElem? (i := 295) (by decide +kernel)⟩
theorem lw_p4 : lw_okq (⟨"SymbolLinker", "latestSection", "(I)LSymbolLinker$Section;"⟩, 11) := ⟨⟨by decide +kernel, by decide +kernel⟩, List.mem_of_getElem? (i := 26) (by decide +kernel), List.mem_of_getElem? (i := 338) (by decide +kernel), List.mem_of_getElem? (i := 339) (by decide +kernel)⟩
theorem lw_p5 : lw_okq (⟨"SymbolLinker", "latestUnit", "()LSymbolLinker$Unit;"⟩, 11) := ⟨⟨by decide +kernel, by decide +kernel⟩, List.mem_of_getElem? (i := 26) (by decide +kernel), List.mem_of_getElem? (i := 342) (by decide +kernel), List.mem_of_getElem? (i := 343) (by decide +kernel)⟩
theorem lw_p6 : lw_okq (⟨"SymbolLinker", "findName", "(JI)LSymbolLinker$Name;"⟩, 11) := ⟨⟨by decide +kernel, by decide +kernel⟩, List.mem_of_getElem? (i := 26) (by decide +kernel), List.mem_of_getElem? (i := 395) (by decide +kernel), List.mem_of_getElem? (i := 396) (by decide +kernel)⟩
theorem lw_p7 : lw_okq (⟨"SymbolLinker", "takeUnits", "()V"⟩, 11) := ⟨⟨by decide +kernel, by decide +kernel⟩, List.mem_of_getElem? (i := 26) (by decide +kernel), List.mem_of_getElem? (i := 574) (by decide +kernel), List.mem_of_getElem? (i := 575) (by decide +kernel)⟩
theorem lw_p8 : lw_okq (⟨"SymbolLinker", "firstWantedUnit", "()LSymbolLinker$Unit;"⟩, 11) := ⟨⟨by decide +kernel, by decide +kernel⟩, List.mem_of_getElem? (i := 26) (by decide +kernel), List.mem_of_getElem? (i := 594) (by decide +kernel), List.mem_of_getElem? (i := 595) (by decide +kernel)⟩
theorem lw_p9 : lw_okq (⟨"SymbolLinker", "bindNames", "()V"⟩, 11) := ⟨⟨by decide +kernel, by decide +kernel⟩, List.mem_of_getElem? (i := 26) (by decide +kernel), List.mem_of_getElem? (i := 602) (by decide +kernel), List.mem_of_getElem? (i := 603) (by decide +kernel)⟩
theorem lw_p10 : lw_okq (⟨"SymbolLinker", "entryLabel", "()LSymbolLinker$Symbol;"⟩, 11) := ⟨⟨by decide +kernel, by decide +kernel⟩, List.mem_of_getElem? (i := 26) (by decide +kernel), List.mem_of_getElem? (i := 614) (by decide +kernel), List.mem_of_getElem? (i := 615) (by decide +kernel)⟩
theorem lw_p11 : lw_okq (⟨"SymbolLinker", "findTwoGlobals", "()V"⟩, 11) := ⟨⟨by decide +kernel, by decide +kernel⟩, List.mem_of_getElem? (i := 26) (by decide +kernel), List.mem_of_getElem? (i := 619) (by decide +kernel), List.mem_of_getElem? (i := 620) (by decide +kernel)⟩
theorem lw_p12 : lw_okq (⟨"SymbolLinker", "findNeeded", "(LSymbolLinker$Section;)V"⟩, 11) := ⟨⟨by decide +kernel, by decide +kernel⟩, List.mem_of_getElem? (i := 26) (by decide +kernel), List.mem_of_getElem? (i := 631) (by decide +kernel), List.mem_of_getElem? (i := 632) (by decide +kernel)⟩
theorem lw_p13 : lw_okq (⟨"SymbolLinker", "needWhatNeededOnesAwait", "()Z"⟩, 11) := ⟨⟨by decide +kernel, by decide +kernel⟩, List.mem_of_getElem? (i := 26) (by decide +kernel), List.mem_of_getElem? (i := 639) (by decide +kernel), List.mem_of_getElem? (i := 640) (by decide +kernel)⟩
theorem lw_p14 : lw_okq (⟨"SymbolLinker", "placeParts", "(LSymbolLinker$Symbol;)V"⟩, 11) := ⟨⟨by decide +kernel, by decide +kernel⟩, List.mem_of_getElem? (i := 26) (by decide +kernel), List.mem_of_getElem? (i := 655) (by decide +kernel), List.mem_of_getElem? (i := 656) (by decide +kernel)⟩
theorem lw_p15 : lw_okq (⟨"SymbolLinker", "placeSections", "(II)I"⟩, 11) := ⟨⟨by decide +kernel, by decide +kernel⟩, List.mem_of_getElem? (i := 26) (by decide +kernel), List.mem_of_getElem? (i := 659) (by decide +kernel), List.mem_of_getElem? (i := 660) (by decide +kernel)⟩
def lw_privs_1 : List (MethodName × Nat) := [(⟨"SymbolLinker", "addSection", "(LSymbolLinker$Unit;II)V"⟩, 11), (⟨"java/util/ArrayList", "add", "(Ljava/lang/Object;[Ljava/lang/Object;I)V"⟩, 3), (⟨"java/util/ArrayList", "grow", "()[Ljava/lang/Object;"⟩, 3), (⟨"java/util/ArrayList", "grow", "(I)[Ljava/lang/Object;"⟩, 3), (⟨"SymbolLinker", "latestSection", "(I)LSymbolLinker$Section;"⟩, 11), (⟨"SymbolLinker", "latestUnit", "()LSymbolLinker$Unit;"⟩, 11), (⟨"SymbolLinker", "findName", "(JI)LSymbolLinker$Name;"⟩, 11), (⟨"SymbolLinker", "takeUnits", "()V"⟩, 11), (⟨"SymbolLinker", "firstWantedUnit", "()LSymbolLinker$Unit;"⟩, 11), (⟨"SymbolLinker", "bindNames", "()V"⟩, 11), (⟨"SymbolLinker", "entryLabel", "()LSymbolLinker$Symbol;"⟩, 11), (⟨"SymbolLinker", "findTwoGlobals", "()V"⟩, 11), (⟨"SymbolLinker", "findNeeded", "(LSymbolLinker$Section;)V"⟩, 11), (⟨"SymbolLinker", "needWhatNeededOnesAwait", "()Z"⟩, 11), (⟨"SymbolLinker", "placeParts", "(LSymbolLinker$Symbol;)V"⟩, 11), (⟨"SymbolLinker", "placeSections", "(II)I"⟩, 11)]
theorem lw_r1 : ∀ q ∈ lw_privs_1, lw_okq q := List.forall_mem_cons.mpr ⟨lw_p0, List.forall_mem_cons.mpr ⟨lw_p1, List.forall_mem_cons.mpr ⟨lw_p2, List.forall_mem_cons.mpr ⟨lw_p3, List.forall_mem_cons.mpr ⟨lw_p4, List.forall_mem_cons.mpr ⟨lw_p5, List.forall_mem_cons.mpr ⟨lw_p6, List.forall_mem_cons.mpr ⟨lw_p7, List.forall_mem_cons.mpr ⟨lw_p8, List.forall_mem_cons.mpr ⟨lw_p9, List.forall_mem_cons.mpr ⟨lw_p10, List.forall_mem_cons.mpr ⟨lw_p11, List.forall_mem_cons.mpr ⟨lw_p12, List.forall_mem_cons.mpr ⟨lw_p13, List.forall_mem_cons.mpr ⟨lw_p14, List.forall_mem_cons.mpr ⟨lw_p15, fun _ h => absurd h List.not_mem_nil⟩⟩⟩⟩⟩⟩⟩⟩⟩⟩⟩⟩⟩⟩⟩⟩
theorem lw_p16 : lw_okq (⟨"SymbolLinker", "findWaitFault", "()V"⟩, 11) := ⟨⟨by decide +kernel, by decide +kernel⟩, List.mem_of_getElem? (i := 26) (by decide +kernel), List.mem_of_getElem? (i := 670) (by decide +kernel), List.mem_of_getElem? (i := 671) (by decide +kernel)⟩
theorem lw_p17 : lw_okq (⟨"java/lang/Throwable", "fillInStackTrace", "(I)Ljava/lang/Throwable;"⟩, 6) := ⟨⟨by decide +kernel, by decide +kernel⟩, List.mem_of_getElem? (i := 725) (by decide +kernel), List.mem_of_getElem? (i := 723) (by decide +kernel), List.mem_of_getElem? (i := 724) (by decide +kernel)⟩
theorem lw_p18 : lw_okq (⟨"SymbolLinker", "makeImage", "()V"⟩, 11) := ⟨⟨by decide +kernel, by decide +kernel⟩, List.mem_of_getElem? (i := 26) (by decide +kernel), List.mem_of_getElem? (i := 754) (by decide +kernel), List.mem_of_getElem? (i := 755) (by decide +kernel)⟩
theorem lw_p19 : lw_okq (⟨"SymbolLinker", "copySections", "(LSymbolLinker$Unit;)V"⟩, 11) := ⟨⟨by decide +kernel, by decide +kernel⟩, List.mem_of_getElem? (i := 26) (by decide +kernel), List.mem_of_getElem? (i := 766) (by decide +kernel), List.mem_of_getElem? (i := 767) (by decide +kernel)⟩
theorem lw_p20 : lw_okq (⟨"SymbolLinkerModel", "lies", "(III)Z"⟩, 49) := ⟨⟨by decide +kernel, by decide +kernel⟩, List.mem_of_getElem? (i := 826) (by decide +kernel), List.mem_of_getElem? (i := 1002) (by decide +kernel), List.mem_of_getElem? (i := 1003) (by decide +kernel)⟩
theorem lw_p21 : lw_okq (⟨"SymbolLinkerModel", "own", "(I)I"⟩, 49) := ⟨⟨by decide +kernel, by decide +kernel⟩, List.mem_of_getElem? (i := 826) (by decide +kernel), List.mem_of_getElem? (i := 1006) (by decide +kernel), List.mem_of_getElem? (i := 1007) (by decide +kernel)⟩
theorem lw_p22 : lw_okq (⟨"SymbolLinkerModel", "take", "()V"⟩, 49) := ⟨⟨by decide +kernel, by decide +kernel⟩, List.mem_of_getElem? (i := 826) (by decide +kernel), List.mem_of_getElem? (i := 1037) (by decide +kernel), List.mem_of_getElem? (i := 1038) (by decide +kernel)⟩
theorem lw_p23 : lw_okq (⟨"SymbolLinkerModel", "helps", "(I)Z"⟩, 49) := ⟨⟨by decide +kernel, by decide +kernel⟩, List.mem_of_getElem? (i := 826) (by decide +kernel), List.mem_of_getElem? (i := 1041) (by decide +kernel), List.mem_of_getElem? (i := 1042) (by decide +kernel)⟩
theorem lw_p24 : lw_okq (⟨"SymbolLinkerModel", "isGlobal", "(I)Z"⟩, 49) := ⟨⟨by decide +kernel, by decide +kernel⟩, List.mem_of_getElem? (i := 826) (by decide +kernel), List.mem_of_getElem? (i := 1045) (by decide +kernel), List.mem_of_getElem? (i := 1046) (by decide +kernel)⟩
theorem lw_p25 : lw_okq (⟨"SymbolLinkerModel", "isWeak", "(I)Z"⟩, 49) := ⟨⟨by decide +kernel, by decide +kernel⟩, List.mem_of_getElem? (i := 826) (by decide +kernel), List.mem_of_getElem? (i := 1049) (by decide +kernel), List.mem_of_getElem? (i := 1050) (by decide +kernel)⟩
theorem lw_p26 : lw_okq (⟨"SymbolLinkerModel", "meant", "(JI)I"⟩, 49) := ⟨⟨by decide +kernel, by decide +kernel⟩, List.mem_of_getElem? (i := 826) (by decide +kernel), List.mem_of_getElem? (i := 1053) (by decide +kernel), List.mem_of_getElem? (i := 1054) (by decide +kernel)⟩
theorem lw_p27 : lw_okq (⟨"SymbolLinkerModel", "fail", "(III)V"⟩, 49) := ⟨⟨by decide +kernel, by decide +kernel⟩, List.mem_of_getElem? (i := 826) (by decide +kernel), List.mem_of_getElem? (i := 1058) (by decide +kernel), List.mem_of_getElem? (i := 1059) (by decide +kernel)⟩
theorem lw_p28 : lw_okq (⟨"SymbolLinkerModel", "findTwice", "()V"⟩, 49) := ⟨⟨by decide +kernel, by decide +kernel⟩, List.mem_of_getElem? (i := 826) (by decide +kernel), List.mem_of_getElem? (i := 1062) (by decide +kernel), List.mem_of_getElem? (i := 1063) (by decide +kernel)⟩
theorem lw_p29 : lw_okq (⟨"SymbolLinkerModel", "give", "(II)I"⟩, 49) := ⟨⟨by decide +kernel, by decide +kernel⟩, List.mem_of_getElem? (i := 826) (by decide +kernel), List.mem_of_getElem? (i := 1066) (by decide +kernel), List.mem_of_getElem? (i := 1067) (by decide +kernel)⟩
theorem lw_p30 : lw_okq (⟨"SymbolLinkerModel", "findNeeded", "(I)V"⟩, 49) := ⟨⟨by decide +kernel, by decide +kernel⟩, List.mem_of_getElem? (i := 826) (by decide +kernel), List.mem_of_getElem? (i := 1070) (by decide +kernel), List.mem_of_getElem? (i := 1071) (by decide +kernel)⟩
theorem lw_p31 : lw_okq (⟨"SymbolLinkerModel", "standsFor", "(I)I"⟩, 49) := ⟨⟨by decide +kernel, by decide +kernel⟩, List.mem_of_getElem? (i := 826) (by decide +kernel), List.mem_of_getElem? (i := 1074) (by decide +kernel), List.mem_of_getElem? (i := 1075) (by decide +kernel)⟩
def lw_privs_2 : List (MethodName × Nat) := [(⟨"SymbolLinker", "findWaitFault", "()V"⟩, 11), (⟨"java/lang/Throwable", "fillInStackTrace", "(I)Ljava/lang/Throwable;"⟩, 6), (⟨"SymbolLinker", "makeImage", "()V"⟩, 11), (⟨"SymbolLinker", "copySections", "(LSymbolLinker$Unit;)V"⟩, 11), (⟨"SymbolLinkerModel", "lies", "(III)Z"⟩, 49), (⟨"SymbolLinkerModel", "own", "(I)I"⟩, 49), (⟨"SymbolLinkerModel", "take", "()V"⟩, 49), (⟨"SymbolLinkerModel", "helps", "(I)Z"⟩, 49), (⟨"SymbolLinkerModel", "isGlobal", "(I)Z"⟩, 49), (⟨"SymbolLinkerModel", "isWeak", "(I)Z"⟩, 49), (⟨"SymbolLinkerModel", "meant", "(JI)I"⟩, 49), (⟨"SymbolLinkerModel", "fail", "(III)V"⟩, 49), (⟨"SymbolLinkerModel", "findTwice", "()V"⟩, 49), (⟨"SymbolLinkerModel", "give", "(II)I"⟩, 49), (⟨"SymbolLinkerModel", "findNeeded", "(I)V"⟩, 49), (⟨"SymbolLinkerModel", "standsFor", "(I)I"⟩, 49)]
theorem lw_r2 : ∀ q ∈ lw_privs_2, lw_okq q := List.forall_mem_cons.mpr ⟨lw_p16, List.forall_mem_cons.mpr ⟨lw_p17, List.forall_mem_cons.mpr ⟨lw_p18, List.forall_mem_cons.mpr ⟨lw_p19, List.forall_mem_cons.mpr ⟨lw_p20, List.forall_mem_cons.mpr ⟨lw_p21, List.forall_mem_cons.mpr ⟨lw_p22, List.forall_mem_cons.mpr ⟨lw_p23, List.forall_mem_cons.mpr ⟨lw_p24, List.forall_mem_cons.mpr ⟨lw_p25, List.forall_mem_cons.mpr ⟨lw_p26, List.forall_mem_cons.mpr ⟨lw_p27, List.forall_mem_cons.mpr ⟨lw_p28, List.forall_mem_cons.mpr ⟨lw_p29, List.forall_mem_cons.mpr ⟨lw_p30, List.forall_mem_cons.mpr ⟨lw_p31, fun _ h => absurd h List.not_mem_nil⟩⟩⟩⟩⟩⟩⟩⟩⟩⟩⟩⟩⟩⟩⟩⟩
theorem lw_p32 : lw_okq (⟨"SymbolLinkerModel", "layOut", "()V"⟩, 49) := ⟨⟨by decide +kernel, by decide +kernel⟩, List.mem_of_getElem? (i := 826) (by decide +kernel), List.mem_of_getElem? (i := 1078) (by decide +kernel), List.mem_of_getElem? (i := 1079) (by decide +kernel)⟩
theorem lw_p33 : lw_okq (⟨"SymbolLinkerModel", "findWrong", "()V"⟩, 49) := ⟨⟨by decide +kernel, by decide +kernel⟩, List.mem_of_getElem? (i := 826) (by decide +kernel), List.mem_of_getElem? (i := 1083) (by decide +kernel), List.mem_of_getElem? (i := 1084) (by decide +kernel)⟩
theorem lw_p34 : lw_okq (⟨"SymbolLinkerModel", "valueOf", "(I)J"⟩, 49) := ⟨⟨by decide +kernel, by decide +kernel⟩, List.mem_of_getElem? (i := 826) (by decide +kernel), List.mem_of_getElem? (i := 1087) (by decide +kernel), List.mem_of_getElem? (i := 1088) (by decide +kernel)⟩
theorem lw_p35 : lw_okq (⟨"SymbolLinkerModel", "labelAddress", "(I)I"⟩, 49) := ⟨⟨by decide +kernel, by decide +kernel⟩, List.mem_of_getElem? (i := 826) (by decide +kernel), List.mem_of_getElem? (i := 1091) (by decide +kernel), List.mem_of_getElem? (i := 1092) (by decide +kernel)⟩
theorem lw_p36 : lw_okq (⟨"SymbolLinkerModel", "keepNames", "()V"⟩, 49) := ⟨⟨by decide +kernel, by decide +kernel⟩, List.mem_of_getElem? (i := 826) (by decide +kernel), List.mem_of_getElem? (i := 1095) (by decide +kernel), List.mem_of_getElem? (i := 1096) (by decide +kernel)⟩
def lw_privs_3 : List (MethodName × Nat) := [(⟨"SymbolLinkerModel", "layOut", "()V"⟩, 49), (⟨"SymbolLinkerModel", "findWrong", "()V"⟩, 49), (⟨"SymbolLinkerModel", "valueOf", "(I)J"⟩, 49), (⟨"SymbolLinkerModel", "labelAddress", "(I)I"⟩, 49), (⟨"SymbolLinkerModel", "keepNames", "()V"⟩, 49)]
theorem lw_r3 : ∀ q ∈ lw_privs_3, lw_okq q := List.forall_mem_cons.mpr ⟨lw_p32, List.forall_mem_cons.mpr ⟨lw_p33, List.forall_mem_cons.mpr ⟨lw_p34, List.forall_mem_cons.mpr ⟨lw_p35, List.forall_mem_cons.mpr ⟨lw_p36, fun _ h => absurd h List.not_mem_nil⟩⟩⟩⟩⟩
def lw_privs : List (MethodName × Nat) := lw_privs_1 ++ (lw_privs_2 ++ (lw_privs_3))
def lw_tbl : List Cond := k2_sels lw_privs ++ tables_1
theorem lw_privs_ok : ∀ q ∈ lw_privs, lw_okq q := by
  show ∀ q ∈ lw_privs_1 ++ (lw_privs_2 ++ (lw_privs_3)), lw_okq q
  exact List.forall_mem_append.mpr ⟨lw_r1, List.forall_mem_append.mpr ⟨lw_r2, lw_r3⟩⟩
-- ===== end of PART A; then your names; then what follows =====
end
section
def T_L : u_T := fun k => match k with
  | 0 => ("SymbolLinker", "units", "Ljava/util/ArrayList;", true)
  | 1 => ("SymbolLinker", "names", "Ljava/util/ArrayList;", true)
  | 2 => ("SymbolLinker", "waits", "Ljava/util/ArrayList;", true)
  | 3 => ("SymbolLinker", "starts", "Ljava/util/ArrayList;", true)
  | 4 => ("SymbolLinker", "latestFault", "LSymbolLinker$Fault;", true)
  | 5 => ("SymbolLinker", "image", "LSymbolLinker$Image;", true)
  | 6 => ("SymbolLinker", "plan", "[I", true)
  | 7 => ("SymbolLinker", "bytes", "[B", false)
  | 8 => ("SymbolLinker", "bytesUsed", "I", false)
  | 9 => ("SymbolLinker", "symbolCount", "I", false)
  | _ => ("SymbolLinker", "lastEnd", "I", false)
def ty_L : Nat → FieldType := fun k => match k with
  | 0 => .object "java/util/ArrayList"
  | 1 => .object "java/util/ArrayList"
  | 2 => .object "java/util/ArrayList"
  | 3 => .object "java/util/ArrayList"
  | 4 => .object "SymbolLinker$Fault"
  | 5 => .object "SymbolLinker$Image"
  | 6 => .array .int
  | 7 => .array .byte
  | 8 => .int
  | 9 => .int
  | _ => .int
def T_JArrayList : u_T := fun k => match k with
  | 0 => ("java/util/ArrayList", "elementData", "[Ljava/lang/Object;", false)
  | 1 => ("java/util/ArrayList", "size", "I", false)
  | _ => ("java/util/AbstractList", "modCount", "I", false)
def ty_JArrayList : Nat → FieldType := fun k => match k with
  | 0 => .array (.object "java/lang/Object")
  | 1 => .int
  | _ => .int
def T_Fault : u_T := fun k => match k with
  | 0 => ("SymbolLinker$Fault", "kind", "I", false)
  | 1 => ("SymbolLinker$Fault", "line", "I", false)
  | _ => ("SymbolLinker$Fault", "unit", "I", false)
def ty_Fault : Nat → FieldType := fun k => match k with
  | 0 => .int
  | 1 => .int
  | _ => .int
def T_Image : u_T := fun k => match k with
  | 0 => ("SymbolLinker$Image", "parts", "[I", true)
  | 1 => ("SymbolLinker$Image", "bytes", "[B", false)
  | 2 => ("SymbolLinker$Image", "nameCount", "I", false)
  | 3 => ("SymbolLinker$Image", "nameWords", "[J", false)
  | 4 => ("SymbolLinker$Image", "nameLengths", "[I", false)
  | 5 => ("SymbolLinker$Image", "nameAddresses", "[I", false)
  | 6 => ("SymbolLinker$Image", "startCount", "I", false)
  | 7 => ("SymbolLinker$Image", "startOffsets", "[I", false)
  | _ => ("SymbolLinker$Image", "startLines", "[I", false)
def ty_Image : Nat → FieldType := fun k => match k with
  | 0 => .array .int
  | 1 => .array .byte
  | 2 => .int
  | 3 => .array .long
  | 4 => .array .int
  | 5 => .array .int
  | 6 => .int
  | 7 => .array .int
  | _ => .array .int
def T_Unit : u_T := fun k => match k with
  | 0 => ("SymbolLinker$Unit", "number", "I", true)
  | 1 => ("SymbolLinker$Unit", "library", "Z", true)
  | 2 => ("SymbolLinker$Unit", "sections", "[LSymbolLinker$Section;", true)
  | 3 => ("SymbolLinker$Unit", "symbols", "Ljava/util/ArrayList;", true)
  | _ => ("SymbolLinker$Unit", "taken", "Z", false)
def ty_Unit : Nat → FieldType := fun k => match k with
  | 0 => .int
  | 1 => .boolean
  | 2 => .array (.object "SymbolLinker$Section")
  | 3 => .object "java/util/ArrayList"
  | _ => .boolean
def T_Section : u_T := fun k => match k with
  | 0 => ("SymbolLinker$Section", "unit", "LSymbolLinker$Unit;", true)
  | 1 => ("SymbolLinker$Section", "size", "I", true)
  | 2 => ("SymbolLinker$Section", "firstByte", "I", true)
  | 3 => ("SymbolLinker$Section", "kept", "Z", false)
  | 4 => ("SymbolLinker$Section", "needed", "Z", false)
  | _ => ("SymbolLinker$Section", "begin", "I", false)
def ty_Section : Nat → FieldType := fun k => match k with
  | 0 => .object "SymbolLinker$Unit"
  | 1 => .int
  | 2 => .int
  | 3 => .boolean
  | 4 => .boolean
  | _ => .int
def T_Name : u_T := fun k => match k with
  | 0 => ("SymbolLinker$Name", "word", "J", true)
  | 1 => ("SymbolLinker$Name", "length", "I", true)
  | 2 => ("SymbolLinker$Name", "missed", "Z", false)
  | 3 => ("SymbolLinker$Name", "had", "Z", false)
  | 4 => ("SymbolLinker$Name", "firstGlobal", "LSymbolLinker$Symbol;", false)
  | _ => ("SymbolLinker$Name", "firstWeak", "LSymbolLinker$Symbol;", false)
def ty_Name : Nat → FieldType := fun k => match k with
  | 0 => .long
  | 1 => .int
  | 2 => .boolean
  | 3 => .boolean
  | 4 => .object "SymbolLinker$Symbol"
  | _ => .object "SymbolLinker$Symbol"
def T_Symbol : u_T := fun k => match k with
  | 0 => ("SymbolLinker$Symbol", "name", "LSymbolLinker$Name;", true)
  | 1 => ("SymbolLinker$Symbol", "global", "Z", true)
  | 2 => ("SymbolLinker$Symbol", "weak", "Z", true)
  | 3 => ("SymbolLinker$Symbol", "section", "LSymbolLinker$Section;", true)
  | 4 => ("SymbolLinker$Symbol", "place", "I", true)
  | _ => ("SymbolLinker$Symbol", "line", "I", true)
def ty_Symbol : Nat → FieldType := fun k => match k with
  | 0 => .object "SymbolLinker$Name"
  | 1 => .boolean
  | 2 => .boolean
  | 3 => .object "SymbolLinker$Section"
  | 4 => .int
  | _ => .int
def T_Wait : u_T := fun k => match k with
  | 0 => ("SymbolLinker$Wait", "home", "LSymbolLinker$Section;", true)
  | 1 => ("SymbolLinker$Wait", "place", "I", true)
  | 2 => ("SymbolLinker$Wait", "size", "I", true)
  | 3 => ("SymbolLinker$Wait", "number", "J", true)
  | 4 => ("SymbolLinker$Wait", "line", "I", true)
  | 5 => ("SymbolLinker$Wait", "next", "I", false)
  | 6 => ("SymbolLinker$Wait", "symbol", "LSymbolLinker$Symbol;", false)
  | _ => ("SymbolLinker$Wait", "beginning", "LSymbolLinker$Section;", false)
def ty_Wait : Nat → FieldType := fun k => match k with
  | 0 => .object "SymbolLinker$Section"
  | 1 => .int
  | 2 => .int
  | 3 => .long
  | 4 => .int
  | 5 => .int
  | 6 => .object "SymbolLinker$Symbol"
  | _ => .object "SymbolLinker$Section"
def T_Start : u_T := fun k => match k with
  | 0 => ("SymbolLinker$Start", "text", "LSymbolLinker$Section;", true)
  | 1 => ("SymbolLinker$Start", "place", "I", true)
  | _ => ("SymbolLinker$Start", "line", "I", true)
def ty_Start : Nat → FieldType := fun k => match k with
  | 0 => .object "SymbolLinker$Section"
  | 1 => .int
  | _ => .int
def T_JIllegalStateException : u_T := fun k => match k with
  | 0 => ("java/lang/Throwable", "cause", "Ljava/lang/Throwable;", false)
  | 1 => ("java/lang/Throwable", "stackTrace", "[Ljava/lang/StackTraceElement;", false)
  | 2 => ("java/lang/Throwable", "suppressedExceptions", "Ljava/util/List;", false)
  | 3 => ("java/lang/Throwable", "detailMessage", "Ljava/lang/String;", false)
  | 4 => ("java/lang/Throwable", "backtrace", "Ljava/lang/Object;", false)
  | _ => ("java/lang/Throwable", "depth", "I", false)
def ty_JIllegalStateException : Nat → FieldType := fun k => match k with
  | 0 => .object "java/lang/Throwable"
  | 1 => .array (.object "java/lang/StackTraceElement")
  | 2 => .object "java/util/List"
  | 3 => .object "java/lang/String"
  | 4 => .object "java/lang/Object"
  | _ => .int
def T_JNoSuchElementException : u_T := fun k => match k with
  | 0 => ("java/lang/Throwable", "cause", "Ljava/lang/Throwable;", false)
  | 1 => ("java/lang/Throwable", "stackTrace", "[Ljava/lang/StackTraceElement;", false)
  | 2 => ("java/lang/Throwable", "suppressedExceptions", "Ljava/util/List;", false)
  | 3 => ("java/lang/Throwable", "detailMessage", "Ljava/lang/String;", false)
  | 4 => ("java/lang/Throwable", "backtrace", "Ljava/lang/Object;", false)
  | _ => ("java/lang/Throwable", "depth", "I", false)
def ty_JNoSuchElementException : Nat → FieldType := fun k => match k with
  | 0 => .object "java/lang/Throwable"
  | 1 => .array (.object "java/lang/StackTraceElement")
  | 2 => .object "java/util/List"
  | 3 => .object "java/lang/String"
  | 4 => .object "java/lang/Object"
  | _ => .int
def T_M : u_T := fun k => match k with
  | 0 => ("SymbolLinkerModel", "thrown", "I", false)
  | 1 => ("SymbolLinkerModel", "units", "I", false)
  | 2 => ("SymbolLinkerModel", "symbols", "I", false)
  | 3 => ("SymbolLinkerModel", "waits", "I", false)
  | 4 => ("SymbolLinkerModel", "starts", "I", false)
  | 5 => ("SymbolLinkerModel", "bytes", "I", false)
  | 6 => ("SymbolLinkerModel", "library", "[Z", true)
  | 7 => ("SymbolLinkerModel", "kept", "[Z", true)
  | 8 => ("SymbolLinkerModel", "taken", "[Z", true)
  | 9 => ("SymbolLinkerModel", "need", "[Z", true)
  | 10 => ("SymbolLinkerModel", "size", "[I", true)
  | 11 => ("SymbolLinkerModel", "begin", "[I", true)
  | 12 => ("SymbolLinkerModel", "address", "[I", true)
  | 13 => ("SymbolLinkerModel", "data", "[B", true)
  | 14 => ("SymbolLinkerModel", "name", "[J", true)
  | 15 => ("SymbolLinkerModel", "nameSize", "[I", true)
  | 16 => ("SymbolLinkerModel", "unitOf", "[I", true)
  | 17 => ("SymbolLinkerModel", "marks", "[I", true)
  | 18 => ("SymbolLinkerModel", "section", "[I", true)
  | 19 => ("SymbolLinkerModel", "place", "[I", true)
  | 20 => ("SymbolLinkerModel", "lineOf", "[I", true)
  | 21 => ("SymbolLinkerModel", "firstSymbol", "[I", true)
  | 22 => ("SymbolLinkerModel", "waitUnit", "[I", true)
  | 23 => ("SymbolLinkerModel", "waitSection", "[I", true)
  | 24 => ("SymbolLinkerModel", "waitPlace", "[I", true)
  | 25 => ("SymbolLinkerModel", "waitSize", "[I", true)
  | 26 => ("SymbolLinkerModel", "waitNext", "[I", true)
  | 27 => ("SymbolLinkerModel", "waitWhat", "[I", true)
  | 28 => ("SymbolLinkerModel", "waitLine", "[I", true)
  | 29 => ("SymbolLinkerModel", "waitValue", "[J", true)
  | 30 => ("SymbolLinkerModel", "startUnit", "[I", true)
  | 31 => ("SymbolLinkerModel", "startPlace", "[I", true)
  | 32 => ("SymbolLinkerModel", "startLine", "[I", true)
  | 33 => ("SymbolLinkerModel", "faultKind", "I", false)
  | 34 => ("SymbolLinkerModel", "faultLine", "I", false)
  | 35 => ("SymbolLinkerModel", "faultUnit", "I", false)
  | 36 => ("SymbolLinkerModel", "judged", "I", false)
  | 37 => ("SymbolLinkerModel", "judgedNeed", "[Z", true)
  | 38 => ("SymbolLinkerModel", "made", "Z", false)
  | 39 => ("SymbolLinkerModel", "end", "I", false)
  | 40 => ("SymbolLinkerModel", "image", "[B", true)
  | 41 => ("SymbolLinkerModel", "parts", "[I", true)
  | 42 => ("SymbolLinkerModel", "names", "I", false)
  | 43 => ("SymbolLinkerModel", "lines", "I", false)
  | 44 => ("SymbolLinkerModel", "imageName", "[J", true)
  | 45 => ("SymbolLinkerModel", "imageNameSize", "[I", true)
  | 46 => ("SymbolLinkerModel", "imageAddress", "[I", true)
  | 47 => ("SymbolLinkerModel", "linePlace", "[I", true)
  | _ => ("SymbolLinkerModel", "lineNumber", "[I", true)
def ty_M : Nat → FieldType := fun k => match k with
  | 0 => .int
  | 1 => .int
  | 2 => .int
  | 3 => .int
  | 4 => .int
  | 5 => .int
  | 6 => .array .boolean
  | 7 => .array .boolean
  | 8 => .array .boolean
  | 9 => .array .boolean
  | 10 => .array .int
  | 11 => .array .int
  | 12 => .array .int
  | 13 => .array .byte
  | 14 => .array .long
  | 15 => .array .int
  | 16 => .array .int
  | 17 => .array .int
  | 18 => .array .int
  | 19 => .array .int
  | 20 => .array .int
  | 21 => .array .int
  | 22 => .array .int
  | 23 => .array .int
  | 24 => .array .int
  | 25 => .array .int
  | 26 => .array .int
  | 27 => .array .int
  | 28 => .array .int
  | 29 => .array .long
  | 30 => .array .int
  | 31 => .array .int
  | 32 => .array .int
  | 33 => .int
  | 34 => .int
  | 35 => .int
  | 36 => .int
  | 37 => .array .boolean
  | 38 => .boolean
  | 39 => .int
  | 40 => .array .byte
  | 41 => .array .int
  | 42 => .int
  | 43 => .int
  | 44 => .array .long
  | 45 => .array .int
  | 46 => .array .int
  | 47 => .array .int
  | _ => .array .int
abbrev classes : List vw_C := [("SymbolLinker", T_L, 11), ("java/util/ArrayList", T_JArrayList, 3), ("SymbolLinker$Fault", T_Fault, 3), ("SymbolLinker$Image", T_Image, 9), ("SymbolLinker$Unit", T_Unit, 5), ("SymbolLinker$Section", T_Section, 6), ("SymbolLinker$Name", T_Name, 6), ("SymbolLinker$Symbol", T_Symbol, 6), ("SymbolLinker$Wait", T_Wait, 8), ("SymbolLinker$Start", T_Start, 3), ("java/lang/IllegalStateException", T_JIllegalStateException, 6), ("java/util/NoSuchElementException", T_JNoSuchElementException, 6), ("SymbolLinkerModel", T_M, 49)]
end
section
/-! The abstract layer: one picture of the whole heap from the law's start on (ax_H), one judgement of the machine over it (AW), contracts over it (AM). -/
abbrev ax_A : Type := (Nat → Int32) ⊕ (Nat → Int64) ⊕ (Nat → UInt32) ⊕ (Nat → UInt64) ⊕ (Nat → Option Nat)
/-- a cell: an array (its component type, length, contents), or an object (the number of its class, its fields) -/
abbrev ax_E : Type := (FieldType × vp_A) ⊕ (Nat × List Value)
/-- a heap: how many cells there are; how many slots the cells from the base on have; what is known of these -/
abbrev ax_H : Type := Nat × Nat × (Nat → Option ax_E)
/-- what stays over the whole run: the base, the law's start, the classes' numbers and slots, the launch, the start's arguments -/
abbrev ax_G : Type := Nat × State × va_G × Launch × Array Value
/-- what stays over a method's run -/
abbrev ax_X : Type := Program × Env × State × MethodId × Array Value × List Frame × Method × Code
/-- a method: its name, code, locals, type -/
abbrev ax_Y : Type := MethodName × ByteArray × Nat × Option FieldType
def ax_v (f : ax_A) (j : Nat) : Value := match f with
  | .inl f => .int (f j)
  | .inr (.inl f) => .long (f j)
  | .inr (.inr (.inl f)) => .float (f j)
  | .inr (.inr (.inr (.inl f))) => .double (f j)
  | .inr (.inr (.inr (.inr f))) => va_rf (f j)
/-- the class of an array of this type -/
def ax_AK (s : State) (c : ClassId) (ty : FieldType) : Prop := ∃ (k : Class) (comp : ClassId), s.vm.classes[c]? = some k ∧ k.kind = .array comp ty ∧ ∀ C, ty = .object C → s.vm.findClass C = some comp
theorem ax_AK.moved {u U : State} (hvm : u.vm.Alike U.vm) {c : ClassId} {ty : FieldType} (h : ax_AK u c ty) : ax_AK U c ty := by
  obtain ⟨k, comp, h1, h2, h3⟩ := h
  obtain ⟨k', hk', he⟩ := hvm.2.2 _ _ h1
  exact ⟨k', comp, hk', by rw [he]; exact h2, fun C e => by rw [hvm.findClass]; exact h3 C e⟩
theorem ax_AK.arr {s : State} {cA : ClassId} {ty : FieldType} (h : ax_AK s cA ty) (n : Nat) (f : Nat → Value) : s.isArrayOf (arrV cA n f) ty := by
  obtain ⟨k, comp, h1, h2, -⟩ := h
  exact ⟨fun q hq => (by cases hq), k, h1, comp, h2⟩
def ax_at (G : ax_G) (a : Nat) (E : ax_E) (H : Heap) : Prop := match E with
  | .inl z => ∃ cA : ClassId, H[a]? = some (arrV cA z.2.1 (ax_v z.2.2)) ∧ ax_AK G.2.1 cA z.1
  | .inr o => ∃ r : vw_C, classes[o.1]? = some r ∧ t_OB a (G.2.2.1.1 o.1) r.2.2 (G.2.2.1.2 o.1) H (vp_V o.2)
theorem ax_at.kept {G : ax_G} {a : Nat} {E : ax_E} {H H1 : Heap} (h : ax_at G a E H) (hq : H1[a]? = H[a]?) : ax_at G a E H1 := by
  cases E with
  | inl z =>
    obtain ⟨cell, h1, h2⟩ := h
    exact ⟨cell, by rw [hq]; exact h1, h2⟩
  | inr o =>
    obtain ⟨r, h1, h2⟩ := h
    exact ⟨r, h1, h2.kept hq⟩
theorem ax_at.lt {G : ax_G} {a : Nat} {E : ax_E} {H : Heap} (h : ax_at G a E H) : a < H.size := by
  cases E with
  | inl z =>
    obtain ⟨cell, h1, h2⟩ := h
    exact (Array.getElem?_eq_some_iff.mp h1).1
  | inr o =>
    obtain ⟨r, h1, cell, h2, -⟩ := h
    exact (Array.getElem?_eq_some_iff.mp h2).1
/-- how many slots the cells from b on have -/
def ax_sz (b : Nat) (H : Heap) : Nat := ((H.toList.map (fun c : Cell => c.slots.size)).drop b).sum
theorem ax_sz_same {b : Nat} {H H1 : Heap} (h : ∀ q : Nat, (H1[q]?).map (fun c : Cell => c.slots.size) = (H[q]?).map (fun c : Cell => c.slots.size)) : ax_sz b H1 = ax_sz b H := by
  have e : H1.toList.map (fun c : Cell => c.slots.size) = H.toList.map (fun c : Cell => c.slots.size) := by
    apply List.ext_getElem?
    intro q
    have h1 := h q
    rw [List.getElem?_map, List.getElem?_map, Array.getElem?_toList, Array.getElem?_toList]
    exact h1
  unfold ax_sz
  rw [e]
theorem ax_sz_push {b : Nat} {H H1 : Heap} {c : Cell} (hb : b ≤ H.size) (z : H1.size = H.size + 1) (e1 : H1[H.size]? = some c) (o1 : ∀ q : Nat, q < H.size → H1[q]? = H[q]?) : ax_sz b H1 = ax_sz b H + c.slots.size := by
  have e : H1.toList = H.toList ++ [c] := by
    apply List.ext_getElem?
    intro q
    rw [Array.getElem?_toList]
    by_cases h1 : q < H.size
    · rw [List.getElem?_append_left (by simpa using h1), Array.getElem?_toList]
      exact o1 q h1
    · by_cases h2 : q = H.size
      · subst h2
        rw [e1, List.getElem?_append_right (by simp)]
        simp
      · rw [List.getElem?_append_right (by simp; omega), Array.getElem?_eq_none (by omega), List.getElem?_eq_none (by simp; omega)]
  unfold ax_sz
  rw [e, List.map_append, List.drop_append_of_le_length (by simpa using hb), List.sum_append]
  simp
def ax_P (G : ax_G) (h : ax_H) (H : Heap) : Prop := H.size = h.1 ∧ G.1 ≤ h.1 ∧ h.1 ≤ G.1 + room_1.cells ∧ ax_sz G.1 H = h.2.1 ∧ h.2.1 ≤ room_1.slots ∧ (∀ (a : Nat) (E : ax_E), h.2.2 a = some E → G.1 ≤ a ∧ ax_at G a E H) ∧ ∀ q : Nat, q < G.1 → H[q]? = G.2.1.heap[q]?
theorem ax_P.at {G : ax_G} {h : ax_H} {H : Heap} (hP : ax_P G h H) {a : Nat} {E : ax_E} (ha : h.2.2 a = some E) : G.1 ≤ a ∧ ax_at G a E H := hP.2.2.2.2.2.1 a E ha
def ax_set (h : ax_H) (a : Nat) (E : ax_E) : ax_H := (h.1, h.2.1, va_up h.2.2 a (some E))
def ax_new (h : ax_H) (E : ax_E) (n : Nat) : ax_H := (h.1 + 1, h.2.1 + n, va_up h.2.2 h.1 (some E))
theorem ax_P.set {G : ax_G} {h : ax_H} {H H1 : Heap} {a : Nat} {E0 E : ax_E} (hP : ax_P G h H) (ha : h.2.2 a = some E0) {cell cell1 : Cell} (hc : H[a]? = some cell) (hc1 : H1[a]? = some cell1) (hz : cell1.slots.size = cell.slots.size) (z : H1.size = H.size) (oq : ∀ q : Nat, q ≠ a → H1[q]? = H[q]?) (he : ax_at G a E H1) : ax_P G (ax_set h a E) H1 := by
  obtain ⟨p1, p2, p3, p4, p5, p6, p7⟩ := hP
  refine ⟨z.trans p1, p2, p3, ?_, p5, ?_, fun q hq => (oq q (fun e => by have := (p6 a _ ha).1; omega)).trans (p7 q hq)⟩
  · show ax_sz G.1 H1 = h.2.1
    rw [← p4]
    refine ax_sz_same (fun q => ?_)
    by_cases hq : q = a
    · subst hq
      rw [hc, hc1]
      simp [hz]
    · rw [oq q hq]
  · intro q F hF
    have hF : va_up h.2.2 a (some E) q = some F := hF
    by_cases hq : q = a
    · subst hq
      rw [va_up_self] at hF
      cases hF
      exact ⟨(p6 q _ ha).1, he⟩
    · rw [va_up_ne _ _ hq] at hF
      exact ⟨(p6 q F hF).1, (p6 q F hF).2.kept (oq q hq)⟩
theorem ax_P.push {G : ax_G} {h : ax_H} {H H1 : Heap} {E : ax_E} {n : Nat} (hP : ax_P G h H) {cell1 : Cell} (e1 : H1[H.size]? = some cell1) (hn : cell1.slots.size = n) (z : H1.size = H.size + 1) (oq : ∀ q : Nat, q < H.size → H1[q]? = H[q]?) (hc : h.1 + 1 ≤ G.1 + room_1.cells) (hs : h.2.1 + n ≤ room_1.slots) (he : ax_at G H.size E H1) : ax_P G (ax_new h E n) H1 := by
  obtain ⟨p1, p2, p3, p4, p5, p6, p7⟩ := hP
  refine ⟨by show H1.size = h.1 + 1; rw [z, p1], by show G.1 ≤ h.1 + 1; omega, hc, ?_, hs, ?_, fun q hq => (oq q (by omega)).trans (p7 q hq)⟩
  · show ax_sz G.1 H1 = h.2.1 + n
    rw [ax_sz_push (by rw [p1]; exact p2) z e1 oq, p4, hn]
  · intro q F hF
    have hF : va_up h.2.2 h.1 (some E) q = some F := hF
    by_cases hq : q = h.1
    · subst hq
      rw [va_up_self] at hF
      cases hF
      rw [p1] at he
      exact ⟨p2, he⟩
    · rw [va_up_ne _ _ hq] at hF
      have h1 := p6 q F hF
      exact ⟨h1.1, h1.2.kept (oq q h1.2.lt)⟩
/-- what the law's start gives: the words, the nest mates' words, the classes -/
def ax_G0 (G : ax_G) : Prop := (∀ w ∈ lw_tbl, w.before G.2.2.2.2 G.2.1 = true) ∧ va_K G.2.2.1 classes [] G.2.1
/-- a state of the run: its heap's picture, its tables warmed since the law's start -/
def ax_U (G : ax_G) (h : ax_H) (U : State) : Prop := ax_P G h U.heap ∧ G.2.1.WarmedH U.vm ∧ ax_G0 G
def ax_R (fr lo : Nat) (G : ax_G) (h : ax_H) : Room := { frames := fr, cells := room_1.cells - (h.1 - G.1), slots := room_1.slots - h.2.1, locals := lo }
def ax_Q (G : ax_G) (h0 : ax_H) (P : Option Value → ax_H → Prop) : Array Value → State → Outcome → State → Prop := fun _ _ oc t => ∃ (v : Option Value) (h : ax_H), oc = .returned v ∧ P v h ∧ h0.1 ≤ h.1 ∧ h0.2.1 ≤ h.2.1 ∧ ax_U G h t
/-- A CONTRACT: called with the values av in the heap h (with room for fr frames of lo words): it returns v in a heap h' with P v h' -/
def AM (G : ax_G) (Y : ax_Y) (fr lo : Nat) (av : List Value) (h : ax_H) (P : Option Value → ax_H → Prop) : Prop :=
  Met G.2.2.2.1 Y.1 [.code Y.1 Y.2.1 Y.2.2.1 Y.2.2.2] (ax_R fr lo G h) (va_Pc av (ax_U G h)) (ax_Q G h P) (room_1.cells - (h.1 - G.1)) (room_1.slots - h.2.1) (fun q => G.1 ≤ q)
/-- the locals, by their places: a value that is known, or none -/
def ax_L (lsr : Array Slot) (nL : Nat) (ls : List (Option Value)) : Prop := ∃ l : List (Nat × Value), lv_has lsr nL l ∧ ∀ (i : Nat) (v : Value), ls[i]? = some (some v) → (i, v) ∈ l
theorem ax_L.at {lsr : Array Slot} {nL : Nat} {ls : List (Option Value)} (h : ax_L lsr nL ls) {i : Nat} {v : Value} (hi : ls[i]? = some (some v)) : lsr[i]? = some (.val v) := by
  obtain ⟨l, h1, h2⟩ := h
  exact h1.2.2 (i, v) (h2 i v hi)
theorem ax_L.size {lsr : Array Slot} {nL : Nat} {ls : List (Option Value)} (h : ax_L lsr nL ls) : lsr.size = nL := by
  obtain ⟨l, h1, h2⟩ := h
  exact h1.1
/-- the place before holds no long -/
def ax_c1 (ls : List (Option Value)) (i : Nat) : Prop := ∀ (j : Nat) (w : Value), j + 1 = i → ls[j]? = some (some w) → w.category = 1
theorem ax_c1_0 {ls : List (Option Value)} : ax_c1 ls 0 := fun j w e => absurd e (Nat.succ_ne_zero j)
theorem ax_c1_n {ls : List (Option Value)} {i : Nat} (h : ls[i]? = some none) : ax_c1 ls (i + 1) := fun j w e h1 => by
  cases e
  rw [h] at h1
  cases h1
theorem ax_c1_v {ls : List (Option Value)} {i : Nat} {v : Value} (h : ls[i]? = some (some v)) (hv : v.category = 1) : ax_c1 ls (i + 1) := fun j w e h1 => by
  cases e
  rw [h] at h1
  cases h1
  exact hv
theorem ax_rf1 (r : Option Nat) : (va_rf r).category = 1 := by cases r <;> rfl
theorem ax_c1_q {ls : List (Option Value)} {i : Nat} {r : Option Nat} (h : ls[i]? = some (some (va_rf r))) : ax_c1 ls (i + 1) := ax_c1_v h (ax_rf1 r)
theorem ax_L.fewer {lsr : Array Slot} {nL : Nat} {ls ls' : List (Option Value)} (h : ax_L lsr nL ls) (hs : ∀ (i : Nat) (v : Value), ls'[i]? = some (some v) → ls[i]? = some (some v)) : ax_L lsr nL ls' := by
  obtain ⟨l, h1, h2⟩ := h
  exact ⟨l, h1, fun i v hi => h2 i v (hs i v hi)⟩
theorem ax_L.st1 {lsr : Array Slot} {nL : Nat} {ls : List (Option Value)} (l : List (Nat × Value)) (h2 : ∀ (i : Nat) (v : Value), ls[i]? = some (some v) → (i, v) ∈ l) {i : Nat} {v : Value} (hc : ax_c1 ls i) (h' : lv_has lsr nL ((i, v) :: l.filter (fun q => !(q.1 == i) && !(q.1 + 1 == i && q.2.category == 2)))) : ax_L lsr nL (ls.set i (some v)) := by
  refine ⟨_, h', fun j w hj => ?_⟩
  by_cases hji : j = i
  · subst hji
    by_cases hl : j < ls.length
    · rw [List.getElem?_set_self hl] at hj
      cases hj
      exact List.mem_cons_self
    · rw [List.getElem?_eq_none (by simp; omega)] at hj
      cases hj
  · rw [List.getElem?_set_ne (Ne.symm hji)] at hj
    refine List.mem_cons_of_mem _ (List.mem_filter.mpr ⟨h2 j w hj, ?_⟩)
    have hb : (j == i) = false := by simp [hji]
    by_cases h1 : j + 1 = i
    · have hw := hc j w h1 hj
      simp [hb, hw]
    · have hb1 : (j + 1 == i) = false := by simp [h1]
      simp [hb, hb1]
theorem ax_L.st2 {lsr : Array Slot} {nL : Nat} {ls : List (Option Value)} (l : List (Nat × Value)) (h2 : ∀ (i : Nat) (v : Value), ls[i]? = some (some v) → (i, v) ∈ l) {i : Nat} {v : Value} (hc : ax_c1 ls i) (h' : lv_has lsr nL ((i, v) :: l.filter (fun q => !(q.1 == i) && (!(q.1 == i + 1) && !(q.1 + 1 == i && q.2.category == 2))))) : ax_L lsr nL ((ls.set i (some v)).set (i + 1) none) := by
  refine ⟨_, h', fun j w hj => ?_⟩
  by_cases hj1 : j = i + 1
  · subst hj1
    by_cases hl : i + 1 < (ls.set i (some v)).length
    · rw [List.getElem?_set_self hl] at hj
      cases hj
    · rw [List.getElem?_eq_none (by simp at hl ⊢; omega)] at hj
      cases hj
  · rw [List.getElem?_set_ne (Ne.symm hj1)] at hj
    by_cases hji : j = i
    · subst hji
      by_cases hl : j < ls.length
      · rw [List.getElem?_set_self hl] at hj
        cases hj
        exact List.mem_cons_self
      · rw [List.getElem?_eq_none (by simp; omega)] at hj
        cases hj
    · rw [List.getElem?_set_ne (Ne.symm hji)] at hj
      refine List.mem_cons_of_mem _ (List.mem_filter.mpr ⟨h2 j w hj, ?_⟩)
      have hb : (j == i) = false := by simp [hji]
      have hb2 : (j == i + 1) = false := by simp [hj1]
      by_cases h1 : j + 1 = i
      · have hw := hc j w h1 hj
        simp [hb, hb2, hw]
      · have hb1 : (j + 1 == i) = false := by simp [h1]
        simp [hb, hb1, hb2]
/-- what holds in a method's body -/
def ax_C (G : ax_G) (x : ax_X) (Y : ax_Y) (h0 : ax_H) : Prop :=
  x.1.tables.exec = Jvm.exec ∧ x.2.2.2.2.2.2.2.code = Y.2.1 ∧ x.2.2.2.2.2.2.2.maxLocals = Y.2.2.1 ∧ x.2.2.1.vm.findClass Y.1.cls = some x.2.2.2.1.cls ∧ G.2.1.WarmedH x.2.2.1.vm ∧ ax_G0 G ∧ x.2.2.2.2.2.2.1.locks = false ∧ x.2.2.2.2.2.2.1.sig.returnType = Y.2.2.2 ∧ x.2.2.2.2.2.2.1.name = Y.1.name ∧ ax_P G h0 x.2.2.1.heap
/-- THE JUDGEMENT: in the body of Y that began in the heap h0, now at pc in the heap h, with the locals ls and the operands st: it comes to an end with P -/
def AW (G : ax_G) (x : ax_X) (Y : ax_Y) (fr lo : Nat) (h0 : ax_H) (P : Option Value → ax_H → Prop) (h : ax_H) (pc : Nat) (ls : List (Option Value)) (st : List Value) : Prop :=
  ax_C G x Y h0 → h0.1 ≤ h.1 → h0.2.1 ≤ h.2.1 → ∀ (H : Heap) (locs : List Loc) (lsr : Array Slot), ax_P G h H → (∀ q ∈ locs, G.1 ≤ q.base) → ax_L lsr Y.2.2.1 ls →
    W x.1 G.2.2.2.1 x.2.1 (ax_R fr lo G h0) x.2.2.1 x.2.2.2.1 x.2.2.2.2.1 x.2.2.2.2.2.1 x.2.2.2.2.2.2.1 x.2.2.2.2.2.2.2 H locs (h.1 - h0.1) (h.2.1 - h0.2.1)
      (MQ x.2.2.2.2.2.1 (ax_Q G h0 P) x.2.2.2.2.1 x.2.2.1 (room_1.cells - (h0.1 - G.1)) (room_1.slots - h0.2.1) (fun q => G.1 ≤ q)) (F0 x.2.2.2.1 pc lsr st)
theorem aw_met {G : ax_G} {Y : ax_Y} {fr lo : Nat} {av : List Value} {h : ax_H} {P : Option Value → ax_H → Prop} (hy : plainName Y.1.cls = true) (hn : (lg_sl av).length ≤ Y.2.2.1) {ls : List (Option Value)} (hls : ∀ (i : Nat) (v : Value), ls[i]? = some (some v) → (i, v) ∈ lv_args 0 av) (k : ∀ x : ax_X, AW G x Y fr lo h P h 0 ls []) : AM G Y fr lo av h P := by
  refine Met.ofW (cc := Y.2.1) (maxL := Y.2.2.1) (ret := Y.2.2.2) hy rfl ?_
  intro p e s m args below meth c s₁ B hml hv
  obtain ⟨rfl, hP, hW, hG⟩ := hv
  have hown : s.vm.findClass Y.1.cls = some m.cls := findClass_of_methodNamed B.named
  have hnm : meth.name = Y.1.name := (name_of_methodNamed B.named B.method).1
  rw [lg_entry_eq]
  have h1 := k (p, e, s, m, av.toArray, below, meth, c) ⟨B.exec, B.bytes, hml, hown, hW, hG, B.notSynchronized, B.returns, hnm, hP⟩ (Nat.le_refl _) (Nat.le_refl _) s.heap [] _ hP (fun q h => by cases h) ⟨_, lv_entry av hn, hls⟩
  rw [Nat.sub_self, Nat.sub_self] at h1
  exact h1
/-- the words, at any state of the run -/
theorem ax_word {G : ax_G} {U : State} (hW : G.2.1.WarmedH U.vm) (hG : ax_G0 G) {w : Cond} (hw : w ∈ lw_tbl) (hg : goodWord w = true) (a' : Array Value) : w.before a' U = true := word_at hW (good_of_word hg) (hG.1 w hw)
theorem ax_kn {G : ax_G} {U : State} (hW : G.2.1.WarmedH U.vm) (hG : ax_G0 G) : va_K G.2.2.1 classes [] U := va_K.moved hW.alike hG.2
theorem ax_tight {p : Program} {l : Launch} {e : Env} {R : Room} {s : State} {m : MethodId} {args : Array Value} {below : List Frame} {meth : Method} {c : Code} {T : State} {locs : List Loc} {cells slots k n : Nat} (X : Stand p l e R s m args below meth c T locs cells slots) (h1 : T.heap.size ≤ s.heap.size + k) (h2 : ax_sz s.heap.size T.heap ≤ n) : Stand p l e R s m args below meth c T locs k n := by
  have hs := X.same
  obtain ⟨a1, a2, a3, a4, a5, a6⟩ := hs
  refine { X with same := ⟨a1, a2, h1, a4, ?_, a6⟩ }
  have h3 : ((T.heap.toList.drop s.heap.size).map (fun c : Cell => c.slots.size)).sum ≤ n := by
    unfold ax_sz at h2
    rw [← List.map_drop] at h2
    exact h2
  exact h3
theorem ax_sz_split {p : Program} {l : Launch} {e : Env} {R : Room} {s : State} {m : MethodId} {args : Array Value} {below : List Frame} {meth : Method} {c : Code} {T : State} {locs : List Loc} {cells slots : Nat} (X : Stand p l e R s m args below meth c T locs cells slots) {b : Nat} (hb : b ≤ s.heap.size) : ax_sz b T.heap = ax_sz b s.heap + ax_sz s.heap.size T.heap := by
  have hs := X.same
  obtain ⟨-, a2, -, -, -, a6⟩ := hs
  have a2 : s.heap.size ≤ T.heap.size := a2
  have key : (T.heap.toList.map (fun c : Cell => c.slots.size)).take s.heap.size = s.heap.toList.map (fun c : Cell => c.slots.size) := by
    apply List.ext_getElem?
    intro q
    by_cases hq : q < s.heap.size
    · rw [List.getElem?_take_of_lt hq, List.getElem?_map, List.getElem?_map, Array.getElem?_toList, Array.getElem?_toList]
      obtain ⟨c', h1, -, h3, -⟩ := a6 q s.heap[q] (Array.getElem?_eq_getElem hq)
      have h1 : T.heap[q]? = some c' := h1
      rw [h1, Array.getElem?_eq_getElem hq]
      simp [h3]
    · rw [List.getElem?_eq_none (by simp; omega), List.getElem?_eq_none (by simp; omega)]
  unfold ax_sz
  rw [← key]
  have e2 : ((T.heap.toList.map (fun c : Cell => c.slots.size)).drop b) = ((T.heap.toList.map (fun c : Cell => c.slots.size)).take s.heap.size).drop b ++ (T.heap.toList.map (fun c : Cell => c.slots.size)).drop s.heap.size := by
    conv => lhs; rw [← List.take_append_drop s.heap.size (T.heap.toList.map (fun c : Cell => c.slots.size))]
    rw [List.drop_append_of_le_length (by simp; omega)]
  rw [e2, List.sum_append]
end
section
section AXR
variable {G : ax_G} {x : ax_X} {Y : ax_Y} {fr lo : Nat} {h0 h : ax_H} {P : Option Value → ax_H → Prop} {pc : Nat} {ls : List (Option Value)} {st : List Value}
theorem aw_iconst {n : Int} {v : Int32} (hd : decode Y.2.1 pc = .ok (.iconst n, 1)) (hv : Int32.ofInt n = v) (k : AW G x Y fr lo h0 P h (pc + 1) ls (.int v :: st)) : AW G x Y fr lo h0 P h pc ls (st) := fun C e1 e2 H locs lsr hP hL hl => lv_iconst C.1 C.2.1 hd hv (k C e1 e2 H locs lsr hP hL hl)
theorem aw_bipush {n : Int} {v : Int32} (hd : decode Y.2.1 pc = .ok (.bipush n, 2)) (hv : (Int8.ofInt n).toInt32 = v) (k : AW G x Y fr lo h0 P h (pc + 2) ls (.int v :: st)) : AW G x Y fr lo h0 P h pc ls (st) := fun C e1 e2 H locs lsr hP hL hl => lv_bipush C.1 C.2.1 hd hv (k C e1 e2 H locs lsr hP hL hl)
theorem aw_sipush {n : Int} {v : Int32} (hd : decode Y.2.1 pc = .ok (.sipush n, 3)) (hv : (Int16.ofInt n).toInt32 = v) (k : AW G x Y fr lo h0 P h (pc + 3) ls (.int v :: st)) : AW G x Y fr lo h0 P h pc ls (st) := fun C e1 e2 H locs lsr hP hL hl => lv_sipush C.1 C.2.1 hd hv (k C e1 e2 H locs lsr hP hL hl)
theorem aw_lconst {n : Fin 2} {v : Int64} (hd : decode Y.2.1 pc = .ok (.lconst n, 1)) (hv : Int64.ofNat (n : Nat) = v) (k : AW G x Y fr lo h0 P h (pc + 1) ls (.long v :: st)) : AW G x Y fr lo h0 P h pc ls (st) := fun C e1 e2 H locs lsr hP hL hl => lv_lconst C.1 C.2.1 hd hv (k C e1 e2 H locs lsr hP hL hl)
theorem aw_null (hd : decode Y.2.1 pc = .ok (.aconst_null, 1)) (k : AW G x Y fr lo h0 P h (pc + 1) ls (.null :: st)) : AW G x Y fr lo h0 P h pc ls (st) := fun C e1 e2 H locs lsr hP hL hl => lv_null C.1 C.2.1 hd (k C e1 e2 H locs lsr hP hL hl)
theorem aw_iload_n {q : Fin 4} {i : Nat} {z : Int32} (hd : decode Y.2.1 pc = .ok (.iload_n q, 1)) (hi : (q : Nat) = i) (hv : ls[i]? = some (some (.int z))) (k : AW G x Y fr lo h0 P h (pc + 1) ls (.int z :: st)) : AW G x Y fr lo h0 P h pc ls st := fun C e1 e2 H locs lsr hP hL hl => lv_iload_n C.1 C.2.1 hd hi (hl.at hv) (k C e1 e2 H locs lsr hP hL hl)
theorem aw_iload {i : Nat} {z : Int32} (hd : decode Y.2.1 pc = .ok (.iload i, 2)) (hv : ls[i]? = some (some (.int z))) (k : AW G x Y fr lo h0 P h (pc + 2) ls (.int z :: st)) : AW G x Y fr lo h0 P h pc ls st := fun C e1 e2 H locs lsr hP hL hl => lv_iload C.1 C.2.1 hd (hl.at hv) (k C e1 e2 H locs lsr hP hL hl)
theorem aw_lload_n {q : Fin 4} {i : Nat} {z : Int64} (hd : decode Y.2.1 pc = .ok (.lload_n q, 1)) (hi : (q : Nat) = i) (hv : ls[i]? = some (some (.long z))) (k : AW G x Y fr lo h0 P h (pc + 1) ls (.long z :: st)) : AW G x Y fr lo h0 P h pc ls st := fun C e1 e2 H locs lsr hP hL hl => lv_lload_n C.1 C.2.1 hd hi (hl.at hv) (k C e1 e2 H locs lsr hP hL hl)
theorem aw_lload {i : Nat} {z : Int64} (hd : decode Y.2.1 pc = .ok (.lload i, 2)) (hv : ls[i]? = some (some (.long z))) (k : AW G x Y fr lo h0 P h (pc + 2) ls (.long z :: st)) : AW G x Y fr lo h0 P h pc ls st := fun C e1 e2 H locs lsr hP hL hl => lv_lload C.1 C.2.1 hd (hl.at hv) (k C e1 e2 H locs lsr hP hL hl)
theorem aw_aload_n {q : Fin 4} {i : Nat} {z : Nat} (hd : decode Y.2.1 pc = .ok (.aload_n q, 1)) (hi : (q : Nat) = i) (hv : ls[i]? = some (some (.ref z))) (k : AW G x Y fr lo h0 P h (pc + 1) ls (.ref z :: st)) : AW G x Y fr lo h0 P h pc ls st := fun C e1 e2 H locs lsr hP hL hl => lv_aload_n C.1 C.2.1 hd hi (hl.at hv) (k C e1 e2 H locs lsr hP hL hl)
theorem aw_aload {i : Nat} {z : Nat} (hd : decode Y.2.1 pc = .ok (.aload i, 2)) (hv : ls[i]? = some (some (.ref z))) (k : AW G x Y fr lo h0 P h (pc + 2) ls (.ref z :: st)) : AW G x Y fr lo h0 P h pc ls st := fun C e1 e2 H locs lsr hP hL hl => lv_aload C.1 C.2.1 hd (hl.at hv) (k C e1 e2 H locs lsr hP hL hl)
theorem aw_aload_nN {q : Fin 4} {i : Nat} (hd : decode Y.2.1 pc = .ok (.aload_n q, 1)) (hi : (q : Nat) = i) (hv : ls[i]? = some (some .null)) (k : AW G x Y fr lo h0 P h (pc + 1) ls (.null :: st)) : AW G x Y fr lo h0 P h pc ls st := fun C e1 e2 H locs lsr hP hL hl => lv_aload_nN C.1 C.2.1 hd hi (hl.at hv) (k C e1 e2 H locs lsr hP hL hl)
theorem aw_aloadN {i : Nat} (hd : decode Y.2.1 pc = .ok (.aload i, 2)) (hv : ls[i]? = some (some .null)) (k : AW G x Y fr lo h0 P h (pc + 2) ls (.null :: st)) : AW G x Y fr lo h0 P h pc ls st := fun C e1 e2 H locs lsr hP hL hl => lv_aloadN C.1 C.2.1 hd (hl.at hv) (k C e1 e2 H locs lsr hP hL hl)
theorem aw_aload_nQ {q : Fin 4} {i : Nat} {r : Option Nat} (hd : decode Y.2.1 pc = .ok (.aload_n q, 1)) (hi : (q : Nat) = i) (hv : ls[i]? = some (some (va_rf r))) (k : AW G x Y fr lo h0 P h (pc + 1) ls (va_rf r :: st)) : AW G x Y fr lo h0 P h pc ls st := by
  cases r with
  | none => exact aw_aload_nN hd hi hv k
  | some z => exact aw_aload_n hd hi hv k
theorem aw_aloadQ {i : Nat} {r : Option Nat} (hd : decode Y.2.1 pc = .ok (.aload i, 2)) (hv : ls[i]? = some (some (va_rf r))) (k : AW G x Y fr lo h0 P h (pc + 2) ls (va_rf r :: st)) : AW G x Y fr lo h0 P h pc ls st := by
  cases r with
  | none => exact aw_aloadN hd hv k
  | some z => exact aw_aload hd hv k
theorem aw_istore_n {q : Fin 4} {i : Nat} {z : Int32} {ls' : List (Option Value)} (hd : decode Y.2.1 pc = .ok (.istore_n q, 1)) (hi : (q : Nat) = i) (hn : i < Y.2.2.1) (hs : ls.set i (some (.int z)) = ls') (k : AW G x Y fr lo h0 P h (pc + 1) ls' st) (hc : ax_c1 ls i := by first | exact ax_c1_0 | exact ax_c1_v rfl rfl | exact ax_c1_q rfl | exact ax_c1_n rfl) : AW G x Y fr lo h0 P h pc ls (.int z :: st) := fun C e1 e2 H locs lsr hP hL hl => by
  subst hs
  obtain ⟨l, h1, h2⟩ := hl
  exact lv_istore_n C.1 C.2.1 hd hi h1 hn rfl (fun lsr' h' => k C e1 e2 H locs lsr' hP hL (ax_L.st1 l h2 hc h'))
theorem aw_istore {i : Nat} {z : Int32} {ls' : List (Option Value)} (hd : decode Y.2.1 pc = .ok (.istore i, 2)) (hn : i < Y.2.2.1) (hs : ls.set i (some (.int z)) = ls') (k : AW G x Y fr lo h0 P h (pc + 2) ls' st) (hc : ax_c1 ls i := by first | exact ax_c1_0 | exact ax_c1_v rfl rfl | exact ax_c1_q rfl | exact ax_c1_n rfl) : AW G x Y fr lo h0 P h pc ls (.int z :: st) := fun C e1 e2 H locs lsr hP hL hl => by
  subst hs
  obtain ⟨l, h1, h2⟩ := hl
  exact lv_istore C.1 C.2.1 hd h1 hn rfl (fun lsr' h' => k C e1 e2 H locs lsr' hP hL (ax_L.st1 l h2 hc h'))
theorem aw_lstore_n {q : Fin 4} {i : Nat} {z : Int64} {ls' : List (Option Value)} (hd : decode Y.2.1 pc = .ok (.lstore_n q, 1)) (hi : (q : Nat) = i) (hn : i + 1 < Y.2.2.1) (hs : (ls.set i (some (.long z))).set (i + 1) none = ls') (k : AW G x Y fr lo h0 P h (pc + 1) ls' st) (hc : ax_c1 ls i := by first | exact ax_c1_0 | exact ax_c1_v rfl rfl | exact ax_c1_q rfl | exact ax_c1_n rfl) : AW G x Y fr lo h0 P h pc ls (.long z :: st) := fun C e1 e2 H locs lsr hP hL hl => by
  subst hs
  obtain ⟨l, h1, h2⟩ := hl
  exact lv_lstore_n C.1 C.2.1 hd hi h1 hn rfl (fun lsr' h' => k C e1 e2 H locs lsr' hP hL (ax_L.st2 l h2 hc h'))
theorem aw_lstore {i : Nat} {z : Int64} {ls' : List (Option Value)} (hd : decode Y.2.1 pc = .ok (.lstore i, 2)) (hn : i + 1 < Y.2.2.1) (hs : (ls.set i (some (.long z))).set (i + 1) none = ls') (k : AW G x Y fr lo h0 P h (pc + 2) ls' st) (hc : ax_c1 ls i := by first | exact ax_c1_0 | exact ax_c1_v rfl rfl | exact ax_c1_q rfl | exact ax_c1_n rfl) : AW G x Y fr lo h0 P h pc ls (.long z :: st) := fun C e1 e2 H locs lsr hP hL hl => by
  subst hs
  obtain ⟨l, h1, h2⟩ := hl
  exact lv_lstore C.1 C.2.1 hd h1 hn rfl (fun lsr' h' => k C e1 e2 H locs lsr' hP hL (ax_L.st2 l h2 hc h'))
theorem aw_astore_n {q : Fin 4} {i : Nat} {z : Nat} {ls' : List (Option Value)} (hd : decode Y.2.1 pc = .ok (.astore_n q, 1)) (hi : (q : Nat) = i) (hn : i < Y.2.2.1) (hs : ls.set i (some (.ref z)) = ls') (k : AW G x Y fr lo h0 P h (pc + 1) ls' st) (hc : ax_c1 ls i := by first | exact ax_c1_0 | exact ax_c1_v rfl rfl | exact ax_c1_q rfl | exact ax_c1_n rfl) : AW G x Y fr lo h0 P h pc ls (.ref z :: st) := fun C e1 e2 H locs lsr hP hL hl => by
  subst hs
  obtain ⟨l, h1, h2⟩ := hl
  exact lv_astore_n C.1 C.2.1 hd hi h1 hn rfl (fun lsr' h' => k C e1 e2 H locs lsr' hP hL (ax_L.st1 l h2 hc h'))
theorem aw_astore {i : Nat} {z : Nat} {ls' : List (Option Value)} (hd : decode Y.2.1 pc = .ok (.astore i, 2)) (hn : i < Y.2.2.1) (hs : ls.set i (some (.ref z)) = ls') (k : AW G x Y fr lo h0 P h (pc + 2) ls' st) (hc : ax_c1 ls i := by first | exact ax_c1_0 | exact ax_c1_v rfl rfl | exact ax_c1_q rfl | exact ax_c1_n rfl) : AW G x Y fr lo h0 P h pc ls (.ref z :: st) := fun C e1 e2 H locs lsr hP hL hl => by
  subst hs
  obtain ⟨l, h1, h2⟩ := hl
  exact lv_astore C.1 C.2.1 hd h1 hn rfl (fun lsr' h' => k C e1 e2 H locs lsr' hP hL (ax_L.st1 l h2 hc h'))
theorem aw_astoreN_n {q : Fin 4} {i : Nat} {ls' : List (Option Value)} (hd : decode Y.2.1 pc = .ok (.astore_n q, 1)) (hi : (q : Nat) = i) (hn : i < Y.2.2.1) (hs : ls.set i (some (.null)) = ls') (k : AW G x Y fr lo h0 P h (pc + 1) ls' st) (hc : ax_c1 ls i := by first | exact ax_c1_0 | exact ax_c1_v rfl rfl | exact ax_c1_q rfl | exact ax_c1_n rfl) : AW G x Y fr lo h0 P h pc ls (.null :: st) := fun C e1 e2 H locs lsr hP hL hl => by
  subst hs
  obtain ⟨l, h1, h2⟩ := hl
  exact lv_astore_nN C.1 C.2.1 hd hi h1 hn rfl (fun lsr' h' => k C e1 e2 H locs lsr' hP hL (ax_L.st1 l h2 hc h'))
theorem aw_astoreN {i : Nat} {ls' : List (Option Value)} (hd : decode Y.2.1 pc = .ok (.astore i, 2)) (hn : i < Y.2.2.1) (hs : ls.set i (some (.null)) = ls') (k : AW G x Y fr lo h0 P h (pc + 2) ls' st) (hc : ax_c1 ls i := by first | exact ax_c1_0 | exact ax_c1_v rfl rfl | exact ax_c1_q rfl | exact ax_c1_n rfl) : AW G x Y fr lo h0 P h pc ls (.null :: st) := fun C e1 e2 H locs lsr hP hL hl => by
  subst hs
  obtain ⟨l, h1, h2⟩ := hl
  exact lv_astoreN C.1 C.2.1 hd h1 hn rfl (fun lsr' h' => k C e1 e2 H locs lsr' hP hL (ax_L.st1 l h2 hc h'))
theorem aw_astoreQ_n {q : Fin 4} {i : Nat} {r : Option Nat} {ls' : List (Option Value)} (hd : decode Y.2.1 pc = .ok (.astore_n q, 1)) (hi : (q : Nat) = i) (hn : i < Y.2.2.1) (hs : ls.set i (some (va_rf r)) = ls') (k : AW G x Y fr lo h0 P h (pc + 1) ls' st) (hc : ax_c1 ls i := by first | exact ax_c1_0 | exact ax_c1_v rfl rfl | exact ax_c1_q rfl | exact ax_c1_n rfl) : AW G x Y fr lo h0 P h pc ls (va_rf r :: st) := by
  cases r with
  | none => exact aw_astoreN_n hd hi hn hs k hc
  | some z => exact aw_astore_n hd hi hn hs k hc
theorem aw_astoreQ {i : Nat} {r : Option Nat} {ls' : List (Option Value)} (hd : decode Y.2.1 pc = .ok (.astore i, 2)) (hn : i < Y.2.2.1) (hs : ls.set i (some (va_rf r)) = ls') (k : AW G x Y fr lo h0 P h (pc + 2) ls' st) (hc : ax_c1 ls i := by first | exact ax_c1_0 | exact ax_c1_v rfl rfl | exact ax_c1_q rfl | exact ax_c1_n rfl) : AW G x Y fr lo h0 P h pc ls (va_rf r :: st) := by
  cases r with
  | none => exact aw_astoreN hd hn hs k hc
  | some z => exact aw_astore hd hn hs k hc
theorem aw_iinc {i : Nat} {n : Int} {z v : Int32} {ls' : List (Option Value)} (hd : decode Y.2.1 pc = .ok (.iinc i n, 3)) (hz : ls[i]? = some (some (.int z))) (hv : z + Int32.ofInt n = v) (hn : i < Y.2.2.1) (hs : ls.set i (some (.int v)) = ls') (k : AW G x Y fr lo h0 P h (pc + 3) ls' st) (hc : ax_c1 ls i := by first | exact ax_c1_0 | exact ax_c1_v rfl rfl | exact ax_c1_q rfl | exact ax_c1_n rfl) : AW G x Y fr lo h0 P h pc ls st := fun C e1 e2 H locs lsr hP hL hl => by
  subst hs
  obtain ⟨l, h1, h2⟩ := hl
  obtain ⟨j, hj⟩ := List.getElem?_of_mem (h2 i _ hz)
  exact lv_iinc C.1 C.2.1 hd h1 hj hv hn rfl (fun lsr' h' => k C e1 e2 H locs lsr' hP hL (ax_L.st1 l h2 hc h'))
theorem aw_iadd {a b : Int32} (hd : decode Y.2.1 pc = .ok (.iadd, 1)) (k : AW G x Y fr lo h0 P h (pc + 1) ls (.int (a + b) :: st)) : AW G x Y fr lo h0 P h pc ls (.int b :: .int a :: st) := fun C e1 e2 H locs lsr hP hL hl => lv_iadd C.1 C.2.1 hd (k C e1 e2 H locs lsr hP hL hl)
theorem aw_isub {a b : Int32} (hd : decode Y.2.1 pc = .ok (.isub, 1)) (k : AW G x Y fr lo h0 P h (pc + 1) ls (.int (a - b) :: st)) : AW G x Y fr lo h0 P h pc ls (.int b :: .int a :: st) := fun C e1 e2 H locs lsr hP hL hl => lv_isub C.1 C.2.1 hd (k C e1 e2 H locs lsr hP hL hl)
theorem aw_imul {a b : Int32} (hd : decode Y.2.1 pc = .ok (.imul, 1)) (k : AW G x Y fr lo h0 P h (pc + 1) ls (.int (a * b) :: st)) : AW G x Y fr lo h0 P h pc ls (.int b :: .int a :: st) := fun C e1 e2 H locs lsr hP hL hl => lv_imul C.1 C.2.1 hd (k C e1 e2 H locs lsr hP hL hl)
theorem aw_iand {a b : Int32} (hd : decode Y.2.1 pc = .ok (.iand, 1)) (k : AW G x Y fr lo h0 P h (pc + 1) ls (.int (a &&& b) :: st)) : AW G x Y fr lo h0 P h pc ls (.int b :: .int a :: st) := fun C e1 e2 H locs lsr hP hL hl => lv_iand C.1 C.2.1 hd (k C e1 e2 H locs lsr hP hL hl)
theorem aw_ior {a b : Int32} (hd : decode Y.2.1 pc = .ok (.ior, 1)) (k : AW G x Y fr lo h0 P h (pc + 1) ls (.int (a ||| b) :: st)) : AW G x Y fr lo h0 P h pc ls (.int b :: .int a :: st) := fun C e1 e2 H locs lsr hP hL hl => lv_ior C.1 C.2.1 hd (k C e1 e2 H locs lsr hP hL hl)
theorem aw_ixor {a b : Int32} (hd : decode Y.2.1 pc = .ok (.ixor, 1)) (k : AW G x Y fr lo h0 P h (pc + 1) ls (.int (a ^^^ b) :: st)) : AW G x Y fr lo h0 P h pc ls (.int b :: .int a :: st) := fun C e1 e2 H locs lsr hP hL hl => lv_ixor C.1 C.2.1 hd (k C e1 e2 H locs lsr hP hL hl)
theorem aw_ishl {a b : Int32} (hd : decode Y.2.1 pc = .ok (.ishl, 1)) (k : AW G x Y fr lo h0 P h (pc + 1) ls (.int (a <<< (b &&& 31)) :: st)) : AW G x Y fr lo h0 P h pc ls (.int b :: .int a :: st) := fun C e1 e2 H locs lsr hP hL hl => lv_ishl C.1 C.2.1 hd (k C e1 e2 H locs lsr hP hL hl)
theorem aw_ishr {a b : Int32} (hd : decode Y.2.1 pc = .ok (.ishr, 1)) (k : AW G x Y fr lo h0 P h (pc + 1) ls (.int (a >>> (b &&& 31)) :: st)) : AW G x Y fr lo h0 P h pc ls (.int b :: .int a :: st) := fun C e1 e2 H locs lsr hP hL hl => lv_ishr C.1 C.2.1 hd (k C e1 e2 H locs lsr hP hL hl)
theorem aw_ladd {a b : Int64} (hd : decode Y.2.1 pc = .ok (.ladd, 1)) (k : AW G x Y fr lo h0 P h (pc + 1) ls (.long (a + b) :: st)) : AW G x Y fr lo h0 P h pc ls (.long b :: .long a :: st) := fun C e1 e2 H locs lsr hP hL hl => lv_ladd C.1 C.2.1 hd (k C e1 e2 H locs lsr hP hL hl)
theorem aw_lsub {a b : Int64} (hd : decode Y.2.1 pc = .ok (.lsub, 1)) (k : AW G x Y fr lo h0 P h (pc + 1) ls (.long (a - b) :: st)) : AW G x Y fr lo h0 P h pc ls (.long b :: .long a :: st) := fun C e1 e2 H locs lsr hP hL hl => lv_lsub C.1 C.2.1 hd (k C e1 e2 H locs lsr hP hL hl)
theorem aw_lmul {a b : Int64} (hd : decode Y.2.1 pc = .ok (.lmul, 1)) (k : AW G x Y fr lo h0 P h (pc + 1) ls (.long (a * b) :: st)) : AW G x Y fr lo h0 P h pc ls (.long b :: .long a :: st) := fun C e1 e2 H locs lsr hP hL hl => lv_lmul C.1 C.2.1 hd (k C e1 e2 H locs lsr hP hL hl)
theorem aw_land {a b : Int64} (hd : decode Y.2.1 pc = .ok (.land, 1)) (k : AW G x Y fr lo h0 P h (pc + 1) ls (.long (a &&& b) :: st)) : AW G x Y fr lo h0 P h pc ls (.long b :: .long a :: st) := fun C e1 e2 H locs lsr hP hL hl => lv_land C.1 C.2.1 hd (k C e1 e2 H locs lsr hP hL hl)
theorem aw_lor {a b : Int64} (hd : decode Y.2.1 pc = .ok (.lor, 1)) (k : AW G x Y fr lo h0 P h (pc + 1) ls (.long (a ||| b) :: st)) : AW G x Y fr lo h0 P h pc ls (.long b :: .long a :: st) := fun C e1 e2 H locs lsr hP hL hl => lv_lor C.1 C.2.1 hd (k C e1 e2 H locs lsr hP hL hl)
theorem aw_lxor {a b : Int64} (hd : decode Y.2.1 pc = .ok (.lxor, 1)) (k : AW G x Y fr lo h0 P h (pc + 1) ls (.long (a ^^^ b) :: st)) : AW G x Y fr lo h0 P h pc ls (.long b :: .long a :: st) := fun C e1 e2 H locs lsr hP hL hl => lv_lxor C.1 C.2.1 hd (k C e1 e2 H locs lsr hP hL hl)
theorem aw_idiv {a b : Int32} (hd : decode Y.2.1 pc = .ok (.idiv, 1)) (hne : ¬ b = 0) (k : AW G x Y fr lo h0 P h (pc + 1) ls (.int (a / b) :: st)) : AW G x Y fr lo h0 P h pc ls (.int b :: .int a :: st) := fun C e1 e2 H locs lsr hP hL hl => lv_idiv C.1 C.2.1 hd hne (k C e1 e2 H locs lsr hP hL hl)
theorem aw_irem {a b : Int32} (hd : decode Y.2.1 pc = .ok (.irem, 1)) (hne : ¬ b = 0) (k : AW G x Y fr lo h0 P h (pc + 1) ls (.int (a - a / b * b) :: st)) : AW G x Y fr lo h0 P h pc ls (.int b :: .int a :: st) := fun C e1 e2 H locs lsr hP hL hl => lv_irem C.1 C.2.1 hd hne (k C e1 e2 H locs lsr hP hL hl)
theorem aw_ineg {a : Int32} (hd : decode Y.2.1 pc = .ok (.ineg, 1)) (k : AW G x Y fr lo h0 P h (pc + 1) ls (.int (-a) :: st)) : AW G x Y fr lo h0 P h pc ls (.int a :: st) := fun C e1 e2 H locs lsr hP hL hl => lv_ineg C.1 C.2.1 hd (k C e1 e2 H locs lsr hP hL hl)
theorem aw_lneg {a : Int64} (hd : decode Y.2.1 pc = .ok (.lneg, 1)) (k : AW G x Y fr lo h0 P h (pc + 1) ls (.long (-a) :: st)) : AW G x Y fr lo h0 P h pc ls (.long a :: st) := fun C e1 e2 H locs lsr hP hL hl => lv_lneg C.1 C.2.1 hd (k C e1 e2 H locs lsr hP hL hl)
theorem aw_i2l {a : Int32} (hd : decode Y.2.1 pc = .ok (.i2l, 1)) (k : AW G x Y fr lo h0 P h (pc + 1) ls (.long a.toInt64 :: st)) : AW G x Y fr lo h0 P h pc ls (.int a :: st) := fun C e1 e2 H locs lsr hP hL hl => lv_i2l C.1 C.2.1 hd rfl (k C e1 e2 H locs lsr hP hL hl)
theorem aw_l2i {a : Int64} (hd : decode Y.2.1 pc = .ok (.l2i, 1)) (k : AW G x Y fr lo h0 P h (pc + 1) ls (.int a.toInt32 :: st)) : AW G x Y fr lo h0 P h pc ls (.long a :: st) := fun C e1 e2 H locs lsr hP hL hl => lv_l2i C.1 C.2.1 hd rfl (k C e1 e2 H locs lsr hP hL hl)
theorem aw_i2b {a : Int32} (hd : decode Y.2.1 pc = .ok (.i2b, 1)) (k : AW G x Y fr lo h0 P h (pc + 1) ls (.int a.toInt8.toInt32 :: st)) : AW G x Y fr lo h0 P h pc ls (.int a :: st) := fun C e1 e2 H locs lsr hP hL hl => lv_i2b C.1 C.2.1 hd rfl (k C e1 e2 H locs lsr hP hL hl)
theorem aw_iushr {a b : Int32} (hd : decode Y.2.1 pc = .ok (.iushr, 1)) (k : AW G x Y fr lo h0 P h (pc + 1) ls (.int (a.toUInt32 >>> (b.toUInt32 &&& Int32.toUInt32 31)).toInt32 :: st)) : AW G x Y fr lo h0 P h pc ls (.int b :: .int a :: st) := fun C e1 e2 H locs lsr hP hL hl => lv_iushr C.1 C.2.1 hd rfl (k C e1 e2 H locs lsr hP hL hl)
theorem aw_lushr {a : Int64} {b : Int32} (hd : decode Y.2.1 pc = .ok (.lushr, 1)) (k : AW G x Y fr lo h0 P h (pc + 1) ls (.long (a.toUInt64 >>> (b.toInt64.toUInt64 &&& Int64.toUInt64 63)).toInt64 :: st)) : AW G x Y fr lo h0 P h pc ls (.int b :: .long a :: st) := fun C e1 e2 H locs lsr hP hL hl => lv_lushr C.1 C.2.1 hd rfl (k C e1 e2 H locs lsr hP hL hl)
theorem aw_lshl {a : Int64} {b : Int32} (hd : decode Y.2.1 pc = .ok (.lshl, 1)) (k : AW G x Y fr lo h0 P h (pc + 1) ls (.long (a <<< (b.toInt64 &&& 63)) :: st)) : AW G x Y fr lo h0 P h pc ls (.int b :: .long a :: st) := fun C e1 e2 H locs lsr hP hL hl => lv_lshl C.1 C.2.1 hd rfl (k C e1 e2 H locs lsr hP hL hl)
theorem aw_lshr {a : Int64} {b : Int32} (hd : decode Y.2.1 pc = .ok (.lshr, 1)) (k : AW G x Y fr lo h0 P h (pc + 1) ls (.long (a >>> (b.toInt64 &&& 63)) :: st)) : AW G x Y fr lo h0 P h pc ls (.int b :: .long a :: st) := fun C e1 e2 H locs lsr hP hL hl => lv_lshr C.1 C.2.1 hd rfl (k C e1 e2 H locs lsr hP hL hl)
theorem aw_lcmp {a b : Int64} (hd : decode Y.2.1 pc = .ok (.lcmp, 1)) (k : AW G x Y fr lo h0 P h (pc + 1) ls (.int (lg_cmp a b) :: st)) : AW G x Y fr lo h0 P h pc ls (.long b :: .long a :: st) := fun C e1 e2 H locs lsr hP hL hl => W.lcmp C.1 C.2.1 hd (k C e1 e2 H locs lsr hP hL hl)
theorem aw_dup {u : Value} (hd : decode Y.2.1 pc = .ok (.dup, 1)) (hu : u.category = 1) (k : AW G x Y fr lo h0 P h (pc + 1) ls (u :: u :: st)) : AW G x Y fr lo h0 P h pc ls (u :: st) := fun C e1 e2 H locs lsr hP hL hl => lv_dup C.1 C.2.1 hd hu (k C e1 e2 H locs lsr hP hL hl)
theorem aw_pop {u : Value} (hd : decode Y.2.1 pc = .ok (.pop, 1)) (hu : u.category = 1) (k : AW G x Y fr lo h0 P h (pc + 1) ls (st)) : AW G x Y fr lo h0 P h pc ls (u :: st) := fun C e1 e2 H locs lsr hP hL hl => lv_pop C.1 C.2.1 hd hu (k C e1 e2 H locs lsr hP hL hl)
theorem aw_pop2 {u : Value} (hd : decode Y.2.1 pc = .ok (.pop2, 1)) (hu : u.category = 2) (k : AW G x Y fr lo h0 P h (pc + 1) ls (st)) : AW G x Y fr lo h0 P h pc ls (u :: st) := fun C e1 e2 H locs lsr hP hL hl => lv_pop2_2 C.1 C.2.1 hd hu (k C e1 e2 H locs lsr hP hL hl)
theorem aw_dup_x1 {u v : Value} (hd : decode Y.2.1 pc = .ok (.dup_x1, 1)) (hu : u.category = 1) (hv : v.category = 1) (k : AW G x Y fr lo h0 P h (pc + 1) ls (u :: v :: u :: st)) : AW G x Y fr lo h0 P h pc ls (u :: v :: st) := fun C e1 e2 H locs lsr hP hL hl => lv_dup_x1 C.1 C.2.1 hd hu hv (k C e1 e2 H locs lsr hP hL hl)
theorem aw_dup_x2 {u v z : Value} (hd : decode Y.2.1 pc = .ok (.dup_x2, 1)) (hu : u.category = 1) (hv : v.category = 1) (hz : z.category = 1) (k : AW G x Y fr lo h0 P h (pc + 1) ls (u :: v :: z :: u :: st)) : AW G x Y fr lo h0 P h pc ls (u :: v :: z :: st) := fun C e1 e2 H locs lsr hP hL hl => lv_dup_x2 C.1 C.2.1 hd hu hv hz (k C e1 e2 H locs lsr hP hL hl)
theorem aw_dup2 {u v : Value} (hd : decode Y.2.1 pc = .ok (.dup2, 1)) (hu : u.category = 1) (hv : v.category = 1) (k : AW G x Y fr lo h0 P h (pc + 1) ls (u :: v :: u :: v :: st)) : AW G x Y fr lo h0 P h pc ls (u :: v :: st) := fun C e1 e2 H locs lsr hP hL hl => lv_dup2_11 C.1 C.2.1 hd hu hv (k C e1 e2 H locs lsr hP hL hl)
theorem aw_if_eq {a : Int32} {off : Int} {tgt : Nat} (hd : decode Y.2.1 pc = .ok (.ifCond .eq off, 3)) (ht : (pc : Int) + off = (tgt : Int)) (kt : a = 0 → AW G x Y fr lo h0 P h tgt ls st) (kf : ¬ a = 0 → AW G x Y fr lo h0 P h (pc + 3) ls st) : AW G x Y fr lo h0 P h pc ls (.int a :: st) := fun C e1 e2 H locs lsr hP hL hl => lv_if_eq C.1 C.2.1 hd ht (fun z => kt z C e1 e2 H locs lsr hP hL hl) (fun z => kf z C e1 e2 H locs lsr hP hL hl)
theorem aw_icmp_eq {a b : Int32} {off : Int} {tgt : Nat} (hd : decode Y.2.1 pc = .ok (.if_icmp .eq off, 3)) (ht : (pc : Int) + off = (tgt : Int)) (kt : a = b → AW G x Y fr lo h0 P h tgt ls st) (kf : ¬ a = b → AW G x Y fr lo h0 P h (pc + 3) ls st) : AW G x Y fr lo h0 P h pc ls (.int b :: .int a :: st) := fun C e1 e2 H locs lsr hP hL hl => lv_icmp_eq C.1 C.2.1 hd ht (fun z => kt z C e1 e2 H locs lsr hP hL hl) (fun z => kf z C e1 e2 H locs lsr hP hL hl)
theorem aw_if_ne {a : Int32} {off : Int} {tgt : Nat} (hd : decode Y.2.1 pc = .ok (.ifCond .ne off, 3)) (ht : (pc : Int) + off = (tgt : Int)) (kt : ¬ a = 0 → AW G x Y fr lo h0 P h tgt ls st) (kf : a = 0 → AW G x Y fr lo h0 P h (pc + 3) ls st) : AW G x Y fr lo h0 P h pc ls (.int a :: st) := fun C e1 e2 H locs lsr hP hL hl => lv_if_ne C.1 C.2.1 hd ht (fun z => kt z C e1 e2 H locs lsr hP hL hl) (fun z => kf z C e1 e2 H locs lsr hP hL hl)
theorem aw_icmp_ne {a b : Int32} {off : Int} {tgt : Nat} (hd : decode Y.2.1 pc = .ok (.if_icmp .ne off, 3)) (ht : (pc : Int) + off = (tgt : Int)) (kt : ¬ a = b → AW G x Y fr lo h0 P h tgt ls st) (kf : a = b → AW G x Y fr lo h0 P h (pc + 3) ls st) : AW G x Y fr lo h0 P h pc ls (.int b :: .int a :: st) := fun C e1 e2 H locs lsr hP hL hl => lv_icmp_ne C.1 C.2.1 hd ht (fun z => kt z C e1 e2 H locs lsr hP hL hl) (fun z => kf z C e1 e2 H locs lsr hP hL hl)
theorem aw_if_lt {a : Int32} {off : Int} {tgt : Nat} (hd : decode Y.2.1 pc = .ok (.ifCond .lt off, 3)) (ht : (pc : Int) + off = (tgt : Int)) (kt : a < 0 → AW G x Y fr lo h0 P h tgt ls st) (kf : ¬ a < 0 → AW G x Y fr lo h0 P h (pc + 3) ls st) : AW G x Y fr lo h0 P h pc ls (.int a :: st) := fun C e1 e2 H locs lsr hP hL hl => lv_if_lt C.1 C.2.1 hd ht (fun z => kt z C e1 e2 H locs lsr hP hL hl) (fun z => kf z C e1 e2 H locs lsr hP hL hl)
theorem aw_icmp_lt {a b : Int32} {off : Int} {tgt : Nat} (hd : decode Y.2.1 pc = .ok (.if_icmp .lt off, 3)) (ht : (pc : Int) + off = (tgt : Int)) (kt : a < b → AW G x Y fr lo h0 P h tgt ls st) (kf : ¬ a < b → AW G x Y fr lo h0 P h (pc + 3) ls st) : AW G x Y fr lo h0 P h pc ls (.int b :: .int a :: st) := fun C e1 e2 H locs lsr hP hL hl => lv_icmp_lt C.1 C.2.1 hd ht (fun z => kt z C e1 e2 H locs lsr hP hL hl) (fun z => kf z C e1 e2 H locs lsr hP hL hl)
theorem aw_if_ge {a : Int32} {off : Int} {tgt : Nat} (hd : decode Y.2.1 pc = .ok (.ifCond .ge off, 3)) (ht : (pc : Int) + off = (tgt : Int)) (kt : 0 ≤ a → AW G x Y fr lo h0 P h tgt ls st) (kf : ¬ 0 ≤ a → AW G x Y fr lo h0 P h (pc + 3) ls st) : AW G x Y fr lo h0 P h pc ls (.int a :: st) := fun C e1 e2 H locs lsr hP hL hl => lv_if_ge C.1 C.2.1 hd ht (fun z => kt z C e1 e2 H locs lsr hP hL hl) (fun z => kf z C e1 e2 H locs lsr hP hL hl)
theorem aw_icmp_ge {a b : Int32} {off : Int} {tgt : Nat} (hd : decode Y.2.1 pc = .ok (.if_icmp .ge off, 3)) (ht : (pc : Int) + off = (tgt : Int)) (kt : b ≤ a → AW G x Y fr lo h0 P h tgt ls st) (kf : ¬ b ≤ a → AW G x Y fr lo h0 P h (pc + 3) ls st) : AW G x Y fr lo h0 P h pc ls (.int b :: .int a :: st) := fun C e1 e2 H locs lsr hP hL hl => lv_icmp_ge C.1 C.2.1 hd ht (fun z => kt z C e1 e2 H locs lsr hP hL hl) (fun z => kf z C e1 e2 H locs lsr hP hL hl)
theorem aw_if_gt {a : Int32} {off : Int} {tgt : Nat} (hd : decode Y.2.1 pc = .ok (.ifCond .gt off, 3)) (ht : (pc : Int) + off = (tgt : Int)) (kt : 0 < a → AW G x Y fr lo h0 P h tgt ls st) (kf : ¬ 0 < a → AW G x Y fr lo h0 P h (pc + 3) ls st) : AW G x Y fr lo h0 P h pc ls (.int a :: st) := fun C e1 e2 H locs lsr hP hL hl => lv_if_gt C.1 C.2.1 hd ht (fun z => kt z C e1 e2 H locs lsr hP hL hl) (fun z => kf z C e1 e2 H locs lsr hP hL hl)
theorem aw_icmp_gt {a b : Int32} {off : Int} {tgt : Nat} (hd : decode Y.2.1 pc = .ok (.if_icmp .gt off, 3)) (ht : (pc : Int) + off = (tgt : Int)) (kt : b < a → AW G x Y fr lo h0 P h tgt ls st) (kf : ¬ b < a → AW G x Y fr lo h0 P h (pc + 3) ls st) : AW G x Y fr lo h0 P h pc ls (.int b :: .int a :: st) := fun C e1 e2 H locs lsr hP hL hl => lv_icmp_gt C.1 C.2.1 hd ht (fun z => kt z C e1 e2 H locs lsr hP hL hl) (fun z => kf z C e1 e2 H locs lsr hP hL hl)
theorem aw_if_le {a : Int32} {off : Int} {tgt : Nat} (hd : decode Y.2.1 pc = .ok (.ifCond .le off, 3)) (ht : (pc : Int) + off = (tgt : Int)) (kt : a ≤ 0 → AW G x Y fr lo h0 P h tgt ls st) (kf : ¬ a ≤ 0 → AW G x Y fr lo h0 P h (pc + 3) ls st) : AW G x Y fr lo h0 P h pc ls (.int a :: st) := fun C e1 e2 H locs lsr hP hL hl => lv_if_le C.1 C.2.1 hd ht (fun z => kt z C e1 e2 H locs lsr hP hL hl) (fun z => kf z C e1 e2 H locs lsr hP hL hl)
theorem aw_icmp_le {a b : Int32} {off : Int} {tgt : Nat} (hd : decode Y.2.1 pc = .ok (.if_icmp .le off, 3)) (ht : (pc : Int) + off = (tgt : Int)) (kt : a ≤ b → AW G x Y fr lo h0 P h tgt ls st) (kf : ¬ a ≤ b → AW G x Y fr lo h0 P h (pc + 3) ls st) : AW G x Y fr lo h0 P h pc ls (.int b :: .int a :: st) := fun C e1 e2 H locs lsr hP hL hl => lv_icmp_le C.1 C.2.1 hd ht (fun z => kt z C e1 e2 H locs lsr hP hL hl) (fun z => kf z C e1 e2 H locs lsr hP hL hl)
theorem aw_goto {off : Int} {tgt : Nat} (hd : decode Y.2.1 pc = .ok (.goto off, 3)) (ht : (pc : Int) + off = (tgt : Int)) (k : AW G x Y fr lo h0 P h tgt ls st) : AW G x Y fr lo h0 P h pc ls st := fun C e1 e2 H locs lsr hP hL hl => lv_goto C.1 C.2.1 hd ht (k C e1 e2 H locs lsr hP hL hl)
theorem aw_ifnonnull {z : Nat} {off : Int} {tgt : Nat} (hd : decode Y.2.1 pc = .ok (.ifnonnull off, 3)) (ht : (pc : Int) + off = (tgt : Int)) (k : AW G x Y fr lo h0 P h tgt ls st) : AW G x Y fr lo h0 P h pc ls (.ref z :: st) := fun C e1 e2 H locs lsr hP hL hl => lv_ifnonnull C.1 C.2.1 hd ht (k C e1 e2 H locs lsr hP hL hl)
theorem aw_ifnull {z : Nat} {off : Int} (hd : decode Y.2.1 pc = .ok (.ifnull off, 3)) (k : AW G x Y fr lo h0 P h (pc + 3) ls st) : AW G x Y fr lo h0 P h pc ls (.ref z :: st) := fun C e1 e2 H locs lsr hP hL hl => lv_ifnull C.1 C.2.1 hd (k C e1 e2 H locs lsr hP hL hl)
theorem aw_ifnullN {off : Int} {tgt : Nat} (hd : decode Y.2.1 pc = .ok (.ifnull off, 3)) (ht : (pc : Int) + off = (tgt : Int)) (k : AW G x Y fr lo h0 P h tgt ls st) : AW G x Y fr lo h0 P h pc ls (.null :: st) := fun C e1 e2 H locs lsr hP hL hl => lv_ifnullN C.1 C.2.1 hd ht (k C e1 e2 H locs lsr hP hL hl)
theorem aw_ifnonnullN {off : Int} (hd : decode Y.2.1 pc = .ok (.ifnonnull off, 3)) (k : AW G x Y fr lo h0 P h (pc + 3) ls st) : AW G x Y fr lo h0 P h pc ls (.null :: st) := fun C e1 e2 H locs lsr hP hL hl => lv_ifnonnullN C.1 C.2.1 hd (k C e1 e2 H locs lsr hP hL hl)
theorem aw_ifnullQ {r : Option Nat} {off : Int} {tgt : Nat} (hd : decode Y.2.1 pc = .ok (.ifnull off, 3)) (ht : (pc : Int) + off = (tgt : Int)) (kt : r = none → AW G x Y fr lo h0 P h tgt ls st) (kf : ∀ z, r = some z → AW G x Y fr lo h0 P h (pc + 3) ls st) : AW G x Y fr lo h0 P h pc ls (va_rf r :: st) := by
  cases r with
  | none => exact aw_ifnullN hd ht (kt rfl)
  | some z => exact aw_ifnull hd (kf z rfl)
theorem aw_ifnonnullQ {r : Option Nat} {off : Int} {tgt : Nat} (hd : decode Y.2.1 pc = .ok (.ifnonnull off, 3)) (ht : (pc : Int) + off = (tgt : Int)) (kt : ∀ z, r = some z → AW G x Y fr lo h0 P h tgt ls st) (kf : r = none → AW G x Y fr lo h0 P h (pc + 3) ls st) : AW G x Y fr lo h0 P h pc ls (va_rf r :: st) := by
  cases r with
  | none => exact aw_ifnonnullN hd (kf rfl)
  | some z => exact aw_ifnonnull hd ht (kt z rfl)
theorem aw_acmp_eq {r1 r2 : Option Nat} {off : Int} {tgt : Nat} (hd : decode Y.2.1 pc = .ok (.if_acmp .eq off, 3)) (ht : (pc : Int) + off = (tgt : Int)) (kt : r1 = r2 → AW G x Y fr lo h0 P h tgt ls st) (kf : ¬ r1 = r2 → AW G x Y fr lo h0 P h (pc + 3) ls st) : AW G x Y fr lo h0 P h pc ls (va_rf r2 :: va_rf r1 :: st) := fun C e1 e2 H locs lsr hP hL hl => lv_acmp_eq C.1 C.2.1 hd ht (fun z => kt z C e1 e2 H locs lsr hP hL hl) (fun z => kf z C e1 e2 H locs lsr hP hL hl)
theorem aw_acmp_ne {r1 r2 : Option Nat} {off : Int} {tgt : Nat} (hd : decode Y.2.1 pc = .ok (.if_acmp .ne off, 3)) (ht : (pc : Int) + off = (tgt : Int)) (kt : ¬ r1 = r2 → AW G x Y fr lo h0 P h tgt ls st) (kf : r1 = r2 → AW G x Y fr lo h0 P h (pc + 3) ls st) : AW G x Y fr lo h0 P h pc ls (va_rf r2 :: va_rf r1 :: st) := fun C e1 e2 H locs lsr hP hL hl => lv_acmp_ne C.1 C.2.1 hd ht (fun z => kt z C e1 e2 H locs lsr hP hL hl) (fun z => kf z C e1 e2 H locs lsr hP hL hl)
theorem aw_tableOut {dflt low high : Int} {offs : Array Int} {len : Nat} {a : Int32} {tgt : Nat} (hd : decode Y.2.1 pc = .ok (.tableswitch dflt low high offs, len)) (hx : a.toInt < low ∨ high < a.toInt) (ht : (pc : Int) + dflt = (tgt : Int)) (k : AW G x Y fr lo h0 P h tgt ls st) : AW G x Y fr lo h0 P h pc ls (.int a :: st) := fun C e1 e2 H locs lsr hP hL hl => lv_tableOut C.1 C.2.1 hd hx ht (k C e1 e2 H locs lsr hP hL hl)
theorem aw_tableIn {dflt low high : Int} {offs : Array Int} {len : Nat} {a : Int32} {off : Int} {tgt : Nat} (hd : decode Y.2.1 pc = .ok (.tableswitch dflt low high offs, len)) (hx1 : ¬ a.toInt < low) (hx2 : ¬ high < a.toInt) (ho : offs[(a.toInt - low).toNat]? = some off) (ht : (pc : Int) + off = (tgt : Int)) (k : AW G x Y fr lo h0 P h tgt ls st) : AW G x Y fr lo h0 P h pc ls (.int a :: st) := fun C e1 e2 H locs lsr hP hL hl => lv_tableIn C.1 C.2.1 hd hx1 hx2 ho ht (k C e1 e2 H locs lsr hP hL hl)
theorem aw_lookup {dflt : Int} {ps : Array (Int × Int)} {len : Nat} {a : Int32} {off : Int} {tgt : Nat} (hd : decode Y.2.1 pc = .ok (.lookupswitch dflt ps, len)) (hp : (ps.toList.zip (ps.toList.drop 1)).all (fun (a, next) => a.1 < next.1) = true) (ho : Op.lookupswitch.offset ps.toList dflt a.toInt = off) (ht : (pc : Int) + off = (tgt : Int)) (k : AW G x Y fr lo h0 P h tgt ls st) : AW G x Y fr lo h0 P h pc ls (.int a :: st) := fun C e1 e2 H locs lsr hP hL hl => lv_lookup C.1 C.2.1 hd hp ho ht (k C e1 e2 H locs lsr hP hL hl)
theorem aw_topi {a : Int32} (k : ∀ b : Int32, b = a → AW G x Y fr lo h0 P h pc ls (.int b :: st)) : AW G x Y fr lo h0 P h pc ls (.int a :: st) := k a rfl
theorem aw_topl {a : Int64} (k : ∀ b : Int64, b = a → AW G x Y fr lo h0 P h pc ls (.long b :: st)) : AW G x Y fr lo h0 P h pc ls (.long a :: st) := k a rfl
theorem aw_fewer {ls' : List (Option Value)} (hs : ∀ (i : Nat) (v : Value), ls'[i]? = some (some v) → ls[i]? = some (some v)) (k : AW G x Y fr lo h0 P h pc ls' st) : AW G x Y fr lo h0 P h pc ls st := fun C e1 e2 H locs lsr hP hL hl => k C e1 e2 H locs lsr hP hL (hl.fewer hs)
theorem aw_post {P' : Option Value → ax_H → Prop} (hp : ∀ v h', P' v h' → P v h') (k : AW G x Y fr lo h0 P' h pc ls st) : AW G x Y fr lo h0 P h pc ls st := fun C e1 e2 H locs lsr hP hL hl T hT X => by
  obtain ⟨t, a1, o, b1, b2, ⟨v, h', c1, c2, c3⟩, b4⟩ := k C e1 e2 H locs lsr hP hL hl T hT X
  exact ⟨t, a1, o, b1, b2, ⟨v, h', c1, hp v h' c2, c3⟩, b4⟩
end AXR
end
section
section AXH
variable {G : ax_G} {x : ax_X} {Y : ax_Y} {fr lo : Nat} {h0 h : ax_H} {P : Option Value → ax_H → Prop} {pc : Nat} {ls : List (Option Value)} {st : List Value}
/-- a class of the table: its fields, their types, its words -/
def ax_cl (ci : Nat) (C : String) (T : u_T) (N : Nat) (tys : Nat → FieldType) : Prop := classes[ci]? = some (C, T, N) ∧ (∀ w ∈ u_ws C T N, w ∈ lw_tbl) ∧ (∀ k, k < N → parseFieldDescriptor (T k).2.2.1 = some (tys k)) ∧ ∀ a, a < N → ∀ b, b < N → a ≠ b → (T a).2.1 ≠ (T b).2.1
/-- an instruction's field, by its pool number -/
def ax_fl (own : String) (idx : Nat) (T : u_T) (k : Nat) : Prop := (Cond.fieldLink own idx (T k).1 (T k).2.1 (T k).2.2.1 ∈ lw_tbl) ∨ (∃ host : String, Cond.fieldLinkNest own idx (T k).1 (T k).2.1 (T k).2.2.1 host ∈ lw_tbl) ∨ ∃ ref : String, Cond.fieldLink own idx ref (T k).2.1 (T k).2.2.1 ∈ lw_tbl ∧ Cond.sameField ref (T k).1 (T k).2.1 (T k).2.2.1 ∈ lw_tbl
theorem ax_good_lay (C : String) (T : u_T) (k : Nat) : goodWord (u_lay C T k) = true := by
  unfold u_lay
  split <;> first | rfl | simp [goodWord, Cond.onTables, Cond.keeps, Cond.steady]
theorem ax_uws {U : State} (hW : G.2.1.WarmedH U.vm) (hG : ax_G0 G) {C : String} {T : u_T} {N : Nat} (hin : ∀ w ∈ u_ws C T N, w ∈ lw_tbl) (a' : Array Value) : ∀ w ∈ u_ws C T N, w.before a' U = true := by
  intro w hw
  obtain ⟨k, -, rfl⟩ := List.mem_map.mp hw
  exact ax_word hW hG (hin _ hw) (ax_good_lay C T k) a'
theorem ax_gFL (a : String) (i : Nat) (b c d : String) : goodWord (.fieldLink a i b c d) = true := by first | rfl | simp [goodWord, Cond.onTables, Cond.keeps, Cond.steady]
theorem ax_gSF (a b c d : String) : goodWord (.sameField a b c d) = true := by first | rfl | simp [goodWord, Cond.onTables, Cond.keeps, Cond.steady]
theorem ax_gCL (a : String) (i : Nat) (b : String) : goodWord (.classLink a i b) = true := by first | rfl | simp [goodWord, Cond.onTables, Cond.keeps, Cond.steady]
theorem ax_gIN (a : String) (i : Nat) : goodWord (.instantiable a i) = true := by first | rfl | simp [goodWord, Cond.onTables, Cond.keeps, Cond.steady]
theorem ax_gII (a : String) : goodWord (.initialized a) = true := by first | rfl | simp [goodWord, Cond.onTables, Cond.keeps, Cond.steady]
theorem ax_gML (a : String) (i : Nat) (y : MethodName) : goodWord (.methodLink a i y) = true := by first | rfl | simp [goodWord, Cond.onTables, Cond.keeps, Cond.steady]
theorem ax_gIM (y : MethodName) : goodWord (.instanceMethod y) = true := by first | rfl | simp [goodWord, Cond.onTables, Cond.keeps, Cond.steady]
theorem ax_gST (y : MethodName) : goodWord (.static y) = true := by first | rfl | simp [goodWord, Cond.onTables, Cond.keeps, Cond.steady]
theorem ax_gSE (C : String) (y z : MethodName) : goodWord (.selects C y z) = true := by first | rfl | simp [goodWord, Cond.onTables, Cond.keeps, Cond.steady]
theorem ax_gCO (y : MethodName) (b : ByteArray) (n : Nat) (r : Option FieldType) : goodWord (.code y b n r) = true := by first | rfl | simp [goodWord, Cond.onTables, Cond.keeps, Cond.steady]
theorem ax_gK (a : String) (i : Nat) (v : Int32) : goodWord (.constant a i v) = true := by first | rfl | simp [goodWord, Cond.onTables, Cond.keeps, Cond.steady]
theorem ax_gKL (a : String) (i : Nat) (v : Int64) : goodWord (.constantLong a i v) = true := by first | rfl | simp [goodWord, Cond.onTables, Cond.keeps, Cond.steady]
theorem ax_nestF {U : State} (hW : G.2.1.WarmedH U.vm) (hG : ax_G0 G) {a : String} {i : Nat} {b c d e : String} (hw : Cond.fieldLinkNest a i b c d e ∈ lw_tbl) (a' : Array Value) : (Cond.fieldLinkNest a i b c d e).before a' U = true := va_Nw.use rfl (va_Nw.warmF hW (va_Nw.of rfl (hG.1 _ hw)))
theorem ax_nestM {U : State} (hW : G.2.1.WarmedH U.vm) (hG : ax_G0 G) {a : String} {i : Nat} {y : MethodName} {e : String} (hw : Cond.methodLinkNest a i y e ∈ lw_tbl) (a' : Array Value) : (Cond.methodLinkNest a i y e).before a' U = true := va_Nw.use rfl (va_Nw.warmM hW (va_Nw.of rfl (hG.1 _ hw)))
theorem ax_cst {U : State} (hW : G.2.1.WarmedH U.vm) (hG : ax_G0 G) {a b : String} (hw : Cond.castable a b ∈ lw_tbl) (a' : Array Value) : (Cond.castable a b).before a' U = true := va_Nw.use rfl (va_Nw.warmC hW (va_Nw.of rfl (hG.1 _ hw)))
theorem aw_get {ci : Nat} {C : String} {T : u_T} {N : Nat} {tys : Nat → FieldType} (c : ax_cl ci C T N tys) {idx q a : Nat} {fs : List Value} {v : Value} (f : ax_fl Y.1.cls idx T q) (hq : q < N) (ha : h.2.2 a = some (.inr (ci, fs))) (hv : fs[q]? = some v) (hd : decode Y.2.1 pc = .ok (.getfield idx, 3)) (k : AW G x Y fr lo h0 P h (pc + 3) ls (v :: st)) : AW G x Y fr lo h0 P h pc ls (.ref a :: st) := by
  intro C0 e1 e2 H locs lsr hP hL hl
  obtain ⟨c1, c2, c3, c4⟩ := c
  have hW := C0.2.2.2.2.1
  have hG := C0.2.2.2.2.2.1
  have hK := ax_kn hW hG
  have hts := ax_uws hW hG c2 x.2.2.2.2.1
  have hP1 : va_P G.2.2.1 classes [(a, .inr (ci, fs))] H := by
    intro j p hj
    have hz : j < 1 := (List.getElem?_eq_some_iff.mp hj).1
    rw [show j = 0 by omega] at hj
    cases hj
    exact (hP.at ha).2
  have kk := k C0 e1 e2 H locs lsr hP hL hl
  rcases f with f | ⟨host, f⟩ | ⟨ref, f1, f2⟩
  · exact va_get C0.1 C0.2.1 (Ts := u_ws C T N) hts (fun _ z => z) C0.2.2.2.1 hK hP1 0 rfl c1 q hq (ax_word hW hG f (ax_gFL _ _ _ _ _) _) (fun _ z => z) hv hd kk
  · exact va_getN C0.1 C0.2.1 (Ts := u_ws C T N) hts (fun _ z => z) C0.2.2.2.1 hK hP1 0 rfl c1 q hq (ax_nestF hW hG f _) (fun _ z => z) hv hd kk
  · exact va_get C0.1 C0.2.1 (Ts := u_ws C T N) hts (fun _ z => z) C0.2.2.2.1 hK hP1 0 rfl c1 q hq (ax_word hW hG f1 (ax_gFL _ _ _ _ _) _) (fun z hz => u_same (ax_word hW hG f2 (ax_gSF _ _ _ _) x.2.2.2.2.1) z hz) hv hd kk
theorem ax_locs {locs : List Loc} {b a i : Nat} (hL : ∀ q ∈ locs, b ≤ q.base) (ha : b ≤ a) : ∀ q ∈ locs ++ [(⟨a, i⟩ : Loc)], b ≤ q.base := by
  intro q hq
  rcases List.mem_append.mp hq with h | h
  · exact hL q h
  · rw [List.mem_singleton.mp h]
    exact ha
theorem aw_put {ci : Nat} {C : String} {T : u_T} {N : Nat} {tys : Nat → FieldType} (c : ax_cl ci C T N tys) {idx q a : Nat} {fs : List Value} {v : Value} (f : ax_fl Y.1.cls idx T q) (hq : q < N) (hfin : (T q).2.2.2 = false) (ha : h.2.2 a = some (.inr (ci, fs))) (hlen : q < fs.length) (hn : narrow (tys q) v = v) (hfit : fits (tys q) v = true) (hd : decode Y.2.1 pc = .ok (.putfield idx, 3)) (k : AW G x Y fr lo h0 P (ax_set h a (.inr (ci, fs.set q v))) (pc + 3) ls st) : AW G x Y fr lo h0 P h pc ls (v :: .ref a :: st) := by
  intro C0 e1 e2 H locs lsr hP hL hl
  obtain ⟨c1, c2, c3, c4⟩ := c
  have hW := C0.2.2.2.2.1
  have hG := C0.2.2.2.2.2.1
  have hK := ax_kn hW hG
  have hts := ax_uws hW hG c2 x.2.2.2.2.1
  have hap := va_apart (own := Y.1.cls) (Ts := u_ws C T N) hts (fun _ z => z) tys c3 c4 hK c1
  have hb := (hP.at ha).1
  obtain ⟨r, r1, cell, q1, q2, q3, q4⟩ := (hP.at ha).2
  have hr : r = (C, T, N) := Option.some.inj (r1.symm.trans c1)
  subst hr
  obtain ⟨hS, hfc, kC, hkC, hkind⟩ := hK.1 ci _ c1
  obtain ⟨cf, kf, fi, fd, hi, hsl⟩ := hS q hq
  have hlay := hts _ (u_in_lay hq)
  unfold u_lay at hlay
  rw [if_neg (by rw [hfin]; decide)] at hlay
  have hst := (u_facts hfc hkC (u_lays hts (fun _ z => z) hq) hi).1
  have h6 := u_store hfc hkC hkind hlay hi (c3 q hq) hn hfit
  have hsz : fd.slot < cell.slots.size := by
    rw [hsl]
    exact k2_hasslot (q4 q hq)
  have fin : ∀ H' : Heap, H'[a]? = some (cell.setSlot fd.slot v) → H'.size = H.size → (∀ q, q ≠ a → H'[q]? = H[q]?) → _ := fun H' g1 z oq =>
    k C0 e1 e2 H' (locs ++ [⟨a, fd.slot⟩]) lsr (hP.set ha q1 g1 (k2_slotsz _ _ _) z oq ⟨_, c1, t_OB.to (V := updV (vp_V fs) q v) ⟨_, g1, q2, q3, by rw [hsl]; exact t_set q4 hap hq v⟩ (fun j _ => vp_updV_set hlen v j)⟩) (ax_locs hL hb) hl
  rcases f with f | ⟨host, f⟩ | ⟨ref, f1, f2⟩
  · exact W.putK C0.1 C0.2.1 (f := fd) ⟨C0.2.2.2.1, ax_word hW hG f (ax_gFL _ _ _ _ _) _, ⟨_, _, _, hi⟩, hst⟩ (by rw [q2]; exact h6) q1 q3 hsz rfl rfl hd fin
  · exact va_WputK C0.1 C0.2.1 (f := fd) C0.2.2.2.1 (ax_nestF hW hG f _) hi hst (by rw [q2]; exact h6) q1 q3 hsz rfl rfl hd fin
  · exact W.putK C0.1 C0.2.1 (f := fd) ⟨C0.2.2.2.1, ax_word hW hG f1 (ax_gFL _ _ _ _ _) _, ⟨_, _, _, u_same (ax_word hW hG f2 (ax_gSF _ _ _ _) x.2.2.2.2.1) _ hi⟩, hst⟩ (by rw [q2]; exact h6) q1 q3 hsz rfl rfl hd fin
theorem aw_putF {ci : Nat} {C : String} {T : u_T} {N : Nat} {tys : Nat → FieldType} (c : ax_cl ci C T N tys) {idx q a : Nat} {fs : List Value} {v : Value} (f : Cond.fieldLink Y.1.cls idx (T q).1 (T q).2.1 (T q).2.2.1 ∈ lw_tbl) (hq : q < N) (hfin : (T q).2.2.2 = true) (hnm : Y.1.name = "<init>") (hdecl : (T q).1 = Y.1.cls) (ha : h.2.2 a = some (.inr (ci, fs))) (hlen : q < fs.length) (hn : narrow (tys q) v = v) (hfit : fits (tys q) v = true) (hd : decode Y.2.1 pc = .ok (.putfield idx, 3)) (k : AW G x Y fr lo h0 P (ax_set h a (.inr (ci, fs.set q v))) (pc + 3) ls st) : AW G x Y fr lo h0 P h pc ls (v :: .ref a :: st) := by
  intro C0 e1 e2 H locs lsr hP hL hl
  obtain ⟨c1, c2, c3, c4⟩ := c
  have hW := C0.2.2.2.2.1
  have hG := C0.2.2.2.2.2.1
  have hK := ax_kn hW hG
  have hown := C0.2.2.2.1
  have hts := ax_uws hW hG c2 x.2.2.2.2.1
  have hap := va_apart (own := Y.1.cls) (Ts := u_ws C T N) hts (fun _ z => z) tys c3 c4 hK c1
  have hb := (hP.at ha).1
  obtain ⟨r, r1, cell, q1, q2, q3, q4⟩ := (hP.at ha).2
  have hr : r = (C, T, N) := Option.some.inj (r1.symm.trans c1)
  subst hr
  obtain ⟨hS, hfc, kC, hkC, hkind⟩ := hK.1 ci _ c1
  obtain ⟨cf, kf, fi, fd, hi, hsl⟩ := hS q hq
  have hlay := hts _ (u_in_lay hq)
  unfold u_lay at hlay
  rw [if_pos hfin] at hlay
  have hst := (u_facts hfc hkC (u_lays hts (fun _ z => z) hq) hi).1
  have hcf : x.2.2.2.1.cls = cf := by
    obtain ⟨_, _, c', _, _, _, -, -, hf', -, -, -, hown2, -⟩ := Cond.laysFinal_spec hlay
    have g1 : c' = cf := by have := hi.symm.trans hf'; simp at this; exact this.1.symm
    rw [hdecl] at hown2
    rw [← g1]; exact Option.some.inj (hown.symm.trans hown2)
  have h6 := u_fits hfc hkC hkind (Or.inr hlay) hi (c3 q hq) hn hfit
  have hsz : fd.slot < cell.slots.size := by
    rw [hsl]
    exact k2_hasslot (q4 q hq)
  have fin : ∀ H' : Heap, H'[a]? = some (cell.setSlot fd.slot v) → H'.size = H.size → (∀ q, q ≠ a → H'[q]? = H[q]?) → _ := fun H' g1 z oq =>
    k C0 e1 e2 H' (locs ++ [⟨a, fd.slot⟩]) lsr (hP.set ha q1 g1 (k2_slotsz _ _ _) z oq ⟨_, c1, t_OB.to (V := updV (vp_V fs) q v) ⟨_, g1, q2, q3, by rw [hsl]; exact t_set q4 hap hq v⟩ (fun j _ => vp_updV_set hlen v j)⟩) (ax_locs hL hb) hl
  exact W.putFinK C0.1 C0.2.1 hown (ax_word hW hG f (ax_gFL _ _ _ _ _) _) hi hst hcf (C0.2.2.2.2.2.2.2.2.1.trans hnm) (by rw [q2]; exact h6) q1 q3 hsz rfl rfl hd fin
theorem aw_new {ci : Nat} {C : String} {T : u_T} {N : Nat} {tys : Nat → FieldType} (c : ax_cl ci C T N tys) {idx : Nat} {fs : List Value} (w1 : Cond.classLink Y.1.cls idx C ∈ lw_tbl) (w2 : Cond.instantiable C N ∈ lw_tbl) (w3 : Cond.initialized C ∈ lw_tbl) (hfs : ∀ j, j < N → defaultValue (tys j) = vp_V fs j) (hc : h.1 + 1 ≤ G.1 + room_1.cells) (hs : h.2.1 + N ≤ room_1.slots) (hd : decode Y.2.1 pc = .ok (.new idx, 3)) (k : AW G x Y fr lo h0 P (ax_new h (.inr (ci, fs)) N) (pc + 3) ls (.ref h.1 :: st)) : AW G x Y fr lo h0 P h pc ls st := by
  intro C0 e1 e2 H locs lsr hP hL hl
  obtain ⟨c1, c2, c3, c4⟩ := c
  have hW := C0.2.2.2.2.1
  have hG := C0.2.2.2.2.2.1
  have hK := ax_kn hW hG
  have hts := ax_uws hW hG c2 x.2.2.2.2.1
  have hKn := hK.1 ci _ c1
  have g0 : G.1 ≤ h0.1 := C0.2.2.2.2.2.2.2.2.2.2.1
  have g5 : h0.2.1 ≤ room_1.slots := C0.2.2.2.2.2.2.2.2.2.2.2.2.2.1
  refine W.newc C0.1 C0.2.1 C0.2.2.2.1 (ax_word hW hG w1 (ax_gCL _ _ _) _) (ax_word hW hG w2 (ax_gIN _ _) _) (ax_word hW hG w3 (ax_gII _) _) rfl hd ?_ ?_ (fun cC kC f1 f2 f3 f4 => ?_)
  · show h.1 - h0.1 + 1 ≤ room_1.cells - (h0.1 - G.1)
    omega
  · show h.2.1 - h0.2.1 + N ≤ room_1.slots - h0.2.1
    omega
  have hcC : cC = G.2.2.1.1 ci := Option.some.inj (f1.symm.trans hKn.2.1)
  subst hcC
  have z1 : (H.push ({ cls := G.2.2.1.1 ci, slots := kC.instanceTypes.map defaultValue, vm := .none } : Cell)).size = H.size + 1 := Array.size_push _
  have e3 : (H.push ({ cls := G.2.2.1.1 ci, slots := kC.instanceTypes.map defaultValue, vm := .none } : Cell))[H.size]? = some (blank (G.2.2.1.1 ci) kC) := Array.getElem?_push_size
  have o1 : ∀ q : Nat, q < H.size → (H.push ({ cls := G.2.2.1.1 ci, slots := kC.instanceTypes.map defaultValue, vm := .none } : Cell))[q]? = H[q]? := fun q hq => by rw [Array.getElem?_push, if_neg (Nat.ne_of_lt hq)]
  have hp1 : H.size = h.1 := hP.1
  have hP2 := hP.push (E := .inr (ci, fs)) (n := N) e3 (by simp [blank, f4]) z1 o1 hc hs ⟨_, c1, (u_born tys hts (fun _ z => z) hKn f2 e3 c3).to hfs⟩
  have kk := k C0 (by show h0.1 ≤ h.1 + 1; omega) (by show h0.2.1 ≤ h.2.1 + N; omega) _ locs lsr hP2 hL hl
  refine W.cs (cells' := h.1 + 1 - h0.1) (slots' := h.2.1 + N - h0.2.1) (by omega) (by omega) ?_
  rw [hp1]
  exact kk
theorem aw_newa {atype : ArrayType} {ty : FieldType} {n : Int32} {N : Nat} {f : ax_A} (w1 : Cond.arrayClass (newarray.typeOf atype) ∈ lw_tbl) (hty : newarray.typeOf atype = ty) (hf : ∀ j, ax_v f j = defaultValue ty) (hn : ¬ n < 0) (hN : n.toNatClampNeg = N) (hbytes : N * componentBytes ty ≤ 536870912) (hc : h.1 + 1 ≤ G.1 + room_1.cells) (hs : h.2.1 + N ≤ room_1.slots) (hd : decode Y.2.1 pc = .ok (.newarray atype, 2)) (hno : ∀ C : String, ty ≠ .object C) (k : AW G x Y fr lo h0 P (ax_new h (.inl (ty, N, f)) N) (pc + 2) ls (.ref h.1 :: st)) : AW G x Y fr lo h0 P h pc ls (.int n :: st) := by
  intro C0 e1 e2 H locs lsr hP hL hl
  subst hty
  subst hN
  have hW := C0.2.2.2.2.1
  have hG := C0.2.2.2.2.2.1
  have g0 : G.1 ≤ h0.1 := C0.2.2.2.2.2.2.2.2.2.2.1
  have g5 : h0.2.1 ≤ room_1.slots := C0.2.2.2.2.2.2.2.2.2.2.2.2.2.1
  have hp1 : H.size = h.1 := hP.1
  refine W.newa C0.1 C0.2.1 (ax_word hW hG w1 rfl _) rfl hd rfl hn hbytes ?_ ?_ (fun cA kA comp f1 f2 f3 => ?_)
  · show h.1 - h0.1 + 1 ≤ room_1.cells - (h0.1 - G.1)
    omega
  · show h.2.1 - h0.2.1 + n.toNatClampNeg ≤ room_1.slots - h0.2.1
    omega
  rw [arrV_new]
  have hfe : (fun _ => defaultValue (newarray.typeOf atype)) = ax_v f := by
    funext j
    exact (hf j).symm
  rw [hfe]
  have z1 : (H.push (arrV cA n.toNatClampNeg (ax_v f))).size = H.size + 1 := Array.size_push _
  have e3 : (H.push (arrV cA n.toNatClampNeg (ax_v f)))[H.size]? = some (arrV cA n.toNatClampNeg (ax_v f)) := Array.getElem?_push_size
  have o1 : ∀ q : Nat, q < H.size → (H.push (arrV cA n.toNatClampNeg (ax_v f)))[q]? = H[q]? := fun q hq => by rw [Array.getElem?_push, if_neg (Nat.ne_of_lt hq)]
  have hak : ax_AK x.2.2.1 cA (newarray.typeOf atype) := ⟨kA, comp, f2, f3, fun C hC => absurd hC (hno C)⟩
  have hP2 := hP.push (E := .inl (newarray.typeOf atype, n.toNatClampNeg, f)) (n := n.toNatClampNeg) e3 (arrV_size _ _ _) z1 o1 hc hs ⟨cA, e3, hak.moved hW.alike.symm⟩
  have kk := k C0 (by show h0.1 ≤ h.1 + 1; omega) (by show h0.2.1 ≤ h.2.1 + n.toNatClampNeg; omega) _ locs lsr hP2 hL hl
  refine W.cs (cells' := h.1 + 1 - h0.1) (slots' := h.2.1 + n.toNatClampNeg - h0.2.1) (by omega) (by omega) ?_
  rw [hp1]
  exact kk
theorem aw_anew {C : String} {idx : Nat} {n : Int32} {N : Nat} (w1 : Cond.classLink Y.1.cls idx C ∈ lw_tbl) (w2 : Cond.arrayOver (.object C) ∈ lw_tbl) (hn : ¬ n < 0) (hN : n.toNatClampNeg = N) (hbytes : N * 4 ≤ 536870912) (hc : h.1 + 1 ≤ G.1 + room_1.cells) (hs : h.2.1 + N ≤ room_1.slots) (hd : decode Y.2.1 pc = .ok (.anewarray idx, 3)) (k : AW G x Y fr lo h0 P (ax_new h (.inl (.object C, N, .inr (.inr (.inr (.inr (fun _ => none)))))) N) (pc + 3) ls (.ref h.1 :: st)) : AW G x Y fr lo h0 P h pc ls (.int n :: st) := by
  intro C0 e1 e2 H locs lsr hP hL hl
  subst hN
  have hW := C0.2.2.2.2.1
  have hG := C0.2.2.2.2.2.1
  have g0 : G.1 ≤ h0.1 := C0.2.2.2.2.2.2.2.2.2.2.1
  have g5 : h0.2.1 ≤ room_1.slots := C0.2.2.2.2.2.2.2.2.2.2.2.2.2.1
  have hp1 : H.size = h.1 := hP.1
  have w2' : (Cond.arrayOver (.object C)).before x.2.2.2.2.1 x.2.2.1 = true := va_AO.use (va_AO.moved hW.alike (va_AO.of (hG.1 _ w2)))
  refine W.anew C0.1 C0.2.1 C0.2.2.2.1 (ax_word hW hG w1 (ax_gCL _ _ _) _) w2' rfl hd rfl hn hbytes ?_ ?_ (fun cA kA comp f1 f2 f3 f4 => ?_)
  · show h.1 - h0.1 + 1 ≤ room_1.cells - (h0.1 - G.1)
    omega
  · show h.2.1 - h0.2.1 + n.toNatClampNeg ≤ room_1.slots - h0.2.1
    omega
  rw [arrV_new]
  have hfe : (fun _ => Value.null) = ax_v (.inr (.inr (.inr (.inr (fun _ => none))))) := rfl
  rw [hfe]
  have z1 : (H.push (arrV cA n.toNatClampNeg (ax_v (.inr (.inr (.inr (.inr (fun _ => none)))))))).size = H.size + 1 := Array.size_push _
  have e3 : (H.push (arrV cA n.toNatClampNeg (ax_v (.inr (.inr (.inr (.inr (fun _ => none))))))))[H.size]? = some (arrV cA n.toNatClampNeg (ax_v (.inr (.inr (.inr (.inr (fun _ => none))))))) := Array.getElem?_push_size
  have o1 : ∀ q : Nat, q < H.size → (H.push (arrV cA n.toNatClampNeg (ax_v (.inr (.inr (.inr (.inr (fun _ => none))))))))[q]? = H[q]? := fun q hq => by rw [Array.getElem?_push, if_neg (Nat.ne_of_lt hq)]
  have hak : ax_AK x.2.2.1 cA (.object C) := ⟨kA, comp, f2, f3, fun D hD => by cases hD; exact f4⟩
  have hP2 := hP.push (E := .inl (.object C, n.toNatClampNeg, .inr (.inr (.inr (.inr (fun _ => none)))))) (n := n.toNatClampNeg) e3 (arrV_size _ _ _) z1 o1 hc hs ⟨cA, e3, hak.moved hW.alike.symm⟩
  have kk := k C0 (by show h0.1 ≤ h.1 + 1; omega) (by show h0.2.1 ≤ h.2.1 + n.toNatClampNeg; omega) _ locs lsr hP2 hL hl
  refine W.cs (cells' := h.1 + 1 - h0.1) (slots' := h.2.1 + n.toNatClampNeg - h0.2.1) (by omega) (by omega) ?_
  rw [hp1]
  exact kk
theorem aw_alen {a : Nat} {ty : FieldType} {n : Nat} {f : ax_A} {v : Int32} (ha : h.2.2 a = some (.inl (ty, n, f))) (hv : Int32.ofNat n = v) (hd : decode Y.2.1 pc = .ok (.arraylength, 1)) (k : AW G x Y fr lo h0 P h (pc + 1) ls (.int v :: st)) : AW G x Y fr lo h0 P h pc ls (.ref a :: st) := by
  intro C0 e1 e2 H locs lsr hP hL hl
  obtain ⟨cA, r1, r2⟩ := (hP.at ha).2
  exact W.alen C0.1 C0.2.1 r1 ((r2.moved C0.2.2.2.2.1.alike).arr _ _) (by rw [arrV_size]; exact hv) rfl rfl hd (k C0 e1 e2 H locs lsr hP hL hl)
theorem aw_iald {a n : Nat} {f : Nat → Int32} {i : Int32} (ha : h.2.2 a = some (.inl (.int, n, .inl f))) (hin : vp_in i n) (hd : decode Y.2.1 pc = .ok (.iaload, 1)) (k : AW G x Y fr lo h0 P h (pc + 1) ls (.int (f i.toNatClampNeg) :: st)) : AW G x Y fr lo h0 P h pc ls (.int i :: .ref a :: st) := by
  intro C0 e1 e2 H locs lsr hP hL hl
  obtain ⟨cA, r1, r2⟩ := (hP.at ha).2
  have hlt : i.toNatClampNeg < n := Nat.not_le.mp fun q => hin (Or.inr q)
  exact W.iald (v := .int (f i.toNatClampNeg)) C0.1 C0.2.1 r1 ((r2.moved C0.2.2.2.2.1.alike).arr _ _) (fun q => by cases q) (by rw [arrV_size]; exact hin) (by rw [arrV_read _ _ hlt]; rfl) rfl rfl hd (k C0 e1 e2 H locs lsr hP hL hl)
theorem aw_bald {a n : Nat} {f : Nat → Int32} {i : Int32} (ha : h.2.2 a = some (.inl (.byte, n, .inl f))) (hin : vp_in i n) (hd : decode Y.2.1 pc = .ok (.baload, 1)) (k : AW G x Y fr lo h0 P h (pc + 1) ls (.int (f i.toNatClampNeg) :: st)) : AW G x Y fr lo h0 P h pc ls (.int i :: .ref a :: st) := by
  intro C0 e1 e2 H locs lsr hP hL hl
  obtain ⟨cA, r1, r2⟩ := (hP.at ha).2
  have hlt : i.toNatClampNeg < n := Nat.not_le.mp fun q => hin (Or.inr q)
  exact W.bald (v := .int (f i.toNatClampNeg)) C0.1 C0.2.1 r1 ((r2.moved C0.2.2.2.2.1.alike).arr _ _) (fun q => by cases q) (by rw [arrV_size]; exact hin) (by rw [arrV_read _ _ hlt]; rfl) rfl rfl hd (k C0 e1 e2 H locs lsr hP hL hl)
theorem aw_zald {a n : Nat} {f : Nat → Int32} {i : Int32} (ha : h.2.2 a = some (.inl (.boolean, n, .inl f))) (hin : vp_in i n) (hd : decode Y.2.1 pc = .ok (.baload, 1)) (k : AW G x Y fr lo h0 P h (pc + 1) ls (.int (f i.toNatClampNeg) :: st)) : AW G x Y fr lo h0 P h pc ls (.int i :: .ref a :: st) := by
  intro C0 e1 e2 H locs lsr hP hL hl
  obtain ⟨cA, r1, r2⟩ := (hP.at ha).2
  have hlt : i.toNatClampNeg < n := Nat.not_le.mp fun q => hin (Or.inr q)
  exact W.zald (v := .int (f i.toNatClampNeg)) C0.1 C0.2.1 r1 ((r2.moved C0.2.2.2.2.1.alike).arr _ _) (fun q => by cases q) (by rw [arrV_size]; exact hin) (by rw [arrV_read _ _ hlt]; rfl) rfl rfl hd (k C0 e1 e2 H locs lsr hP hL hl)
theorem aw_lald {a n : Nat} {f : Nat → Int64} {i : Int32} (ha : h.2.2 a = some (.inl (.long, n, .inr (.inl f)))) (hin : vp_in i n) (hd : decode Y.2.1 pc = .ok (.laload, 1)) (k : AW G x Y fr lo h0 P h (pc + 1) ls (.long (f i.toNatClampNeg) :: st)) : AW G x Y fr lo h0 P h pc ls (.int i :: .ref a :: st) := by
  intro C0 e1 e2 H locs lsr hP hL hl
  obtain ⟨cA, r1, r2⟩ := (hP.at ha).2
  have hlt : i.toNatClampNeg < n := Nat.not_le.mp fun q => hin (Or.inr q)
  exact W.lald (v := .long (f i.toNatClampNeg)) C0.1 C0.2.1 r1 ((r2.moved C0.2.2.2.2.1.alike).arr _ _) (fun q => by cases q) (by rw [arrV_size]; exact hin) (by rw [arrV_read _ _ hlt]; rfl) rfl rfl hd (k C0 e1 e2 H locs lsr hP hL hl)
theorem aw_aald {C : String} {a n : Nat} {f : Nat → Option Nat} {i : Int32} (ha : h.2.2 a = some (.inl (.object C, n, .inr (.inr (.inr (.inr f)))))) (hin : vp_in i n) (hd : decode Y.2.1 pc = .ok (.aaload, 1)) (k : AW G x Y fr lo h0 P h (pc + 1) ls (va_rf (f i.toNatClampNeg) :: st)) : AW G x Y fr lo h0 P h pc ls (.int i :: .ref a :: st) := by
  intro C0 e1 e2 H locs lsr hP hL hl
  obtain ⟨cA, r1, r2⟩ := (hP.at ha).2
  have hlt : i.toNatClampNeg < n := Nat.not_le.mp fun q => hin (Or.inr q)
  exact W.aald (v := va_rf (f i.toNatClampNeg)) (ty := .object C) C0.1 C0.2.1 r1 ((r2.moved C0.2.2.2.2.1.alike).arr _ _) rfl (fun q => by cases q) (by rw [arrV_size]; exact hin) (by rw [arrV_read _ _ hlt]; rfl) rfl rfl hd (k C0 e1 e2 H locs lsr hP hL hl)
theorem ax_updV {f g : Nat → Value} {i : Nat} {v : Value} (hs : g i = v) (ho : ∀ j, j ≠ i → g j = f j) : updV f i v = g := by
  funext j
  by_cases hj : j = i
  · subst hj
    simp [updV, hs]
  · simp [updV, hj, ho j hj]
theorem aw_iast {a n : Nat} {f : Nat → Int32} {i : Int32} {z : Int32} (ha : h.2.2 a = some (.inl (.int, n, .inl f))) (hin : vp_in i n) (hd : decode Y.2.1 pc = .ok (.iastore, 1)) (k : AW G x Y fr lo h0 P (ax_set h a (.inl (.int, n, .inl (va_up f i.toNatClampNeg z)))) (pc + 1) ls st) : AW G x Y fr lo h0 P h pc ls (.int z :: .int i :: .ref a :: st) := by
  intro C0 e1 e2 H locs lsr hP hL hl
  obtain ⟨hb, cA, r1, r2⟩ := hP.at ha
  refine W.iast C0.1 C0.2.1 r1 ((r2.moved C0.2.2.2.2.1.alike).arr _ _) (fun q => by cases q) (by rw [arrV_size]; exact hin) rfl rfl hd (fun H' g1 z1 oq => ?_)
  rw [arrV_store] at g1
  have hu : updV (ax_v (.inl f)) i.toNatClampNeg (.int z) = ax_v (.inl (va_up f i.toNatClampNeg z)) := ax_updV (by simp [ax_v, va_up]) (fun j hj => by simp [ax_v, va_up, hj])
  have g1 : H'[a]? = some (arrV cA n (updV (ax_v (.inl f)) i.toNatClampNeg (.int z))) := g1
  rw [hu] at g1
  exact k C0 e1 e2 H' _ lsr (hP.set ha r1 g1 (by rw [arrV_size, arrV_size]) z1 oq ⟨cA, g1, r2⟩) (ax_locs hL hb) hl
theorem aw_bast {a n : Nat} {f : Nat → Int32} {i : Int32} {z : Int32} (ha : h.2.2 a = some (.inl (.byte, n, .inl f))) (hin : vp_in i n) (hd : decode Y.2.1 pc = .ok (.bastore, 1)) (k : AW G x Y fr lo h0 P (ax_set h a (.inl (.byte, n, .inl (va_up f i.toNatClampNeg z.toInt8.toInt32)))) (pc + 1) ls st) : AW G x Y fr lo h0 P h pc ls (.int z :: .int i :: .ref a :: st) := by
  intro C0 e1 e2 H locs lsr hP hL hl
  obtain ⟨hb, cA, r1, r2⟩ := hP.at ha
  refine W.bast C0.1 C0.2.1 r1 ((r2.moved C0.2.2.2.2.1.alike).arr _ _) (fun q => by cases q) (by rw [arrV_size]; exact hin) rfl rfl hd (fun H' g1 z1 oq => ?_)
  rw [arrV_store] at g1
  have hu : updV (ax_v (.inl f)) i.toNatClampNeg (.int z.toInt8.toInt32) = ax_v (.inl (va_up f i.toNatClampNeg z.toInt8.toInt32)) := ax_updV (by simp [ax_v, va_up]) (fun j hj => by simp [ax_v, va_up, hj])
  have g1 : H'[a]? = some (arrV cA n (updV (ax_v (.inl f)) i.toNatClampNeg (.int z.toInt8.toInt32))) := g1
  rw [hu] at g1
  exact k C0 e1 e2 H' _ lsr (hP.set ha r1 g1 (by rw [arrV_size, arrV_size]) z1 oq ⟨cA, g1, r2⟩) (ax_locs hL hb) hl
theorem aw_zast {a n : Nat} {f : Nat → Int32} {i : Int32} {z : Int32} (ha : h.2.2 a = some (.inl (.boolean, n, .inl f))) (hin : vp_in i n) (hd : decode Y.2.1 pc = .ok (.bastore, 1)) (k : AW G x Y fr lo h0 P (ax_set h a (.inl (.boolean, n, .inl (va_up f i.toNatClampNeg (z &&& 1))))) (pc + 1) ls st) : AW G x Y fr lo h0 P h pc ls (.int z :: .int i :: .ref a :: st) := by
  intro C0 e1 e2 H locs lsr hP hL hl
  obtain ⟨hb, cA, r1, r2⟩ := hP.at ha
  refine W.zast C0.1 C0.2.1 r1 ((r2.moved C0.2.2.2.2.1.alike).arr _ _) (fun q => by cases q) (by rw [arrV_size]; exact hin) rfl rfl hd (fun H' g1 z1 oq => ?_)
  rw [arrV_store] at g1
  have hu : updV (ax_v (.inl f)) i.toNatClampNeg (.int (z &&& 1)) = ax_v (.inl (va_up f i.toNatClampNeg (z &&& 1))) := ax_updV (by simp [ax_v, va_up]) (fun j hj => by simp [ax_v, va_up, hj])
  have g1 : H'[a]? = some (arrV cA n (updV (ax_v (.inl f)) i.toNatClampNeg (.int (z &&& 1)))) := g1
  rw [hu] at g1
  exact k C0 e1 e2 H' _ lsr (hP.set ha r1 g1 (by rw [arrV_size, arrV_size]) z1 oq ⟨cA, g1, r2⟩) (ax_locs hL hb) hl
theorem aw_last {a n : Nat} {f : Nat → Int64} {i : Int32} {z : Int64} (ha : h.2.2 a = some (.inl (.long, n, .inr (.inl f)))) (hin : vp_in i n) (hd : decode Y.2.1 pc = .ok (.lastore, 1)) (k : AW G x Y fr lo h0 P (ax_set h a (.inl (.long, n, .inr (.inl (va_up f i.toNatClampNeg z))))) (pc + 1) ls st) : AW G x Y fr lo h0 P h pc ls (.long z :: .int i :: .ref a :: st) := by
  intro C0 e1 e2 H locs lsr hP hL hl
  obtain ⟨hb, cA, r1, r2⟩ := hP.at ha
  refine W.last C0.1 C0.2.1 r1 ((r2.moved C0.2.2.2.2.1.alike).arr _ _) (fun q => by cases q) (by rw [arrV_size]; exact hin) rfl rfl hd (fun H' g1 z1 oq => ?_)
  rw [arrV_store] at g1
  have hu : updV (ax_v (.inr (.inl f))) i.toNatClampNeg (.long z) = ax_v (.inr (.inl (va_up f i.toNatClampNeg z))) := ax_updV (by simp [ax_v, va_up]) (fun j hj => by simp [ax_v, va_up, hj])
  have g1 : H'[a]? = some (arrV cA n (updV (ax_v (.inr (.inl f))) i.toNatClampNeg (.long z))) := g1
  rw [hu] at g1
  exact k C0 e1 e2 H' _ lsr (hP.set ha r1 g1 (by rw [arrV_size, arrV_size]) z1 oq ⟨cA, g1, r2⟩) (ax_locs hL hb) hl
/-- an object of the table's class ci goes into a row of E -/
theorem aw_aast {E C : String} {T : u_T} {N ci : Nat} {tys : Nat → FieldType} (c : ax_cl ci C T N tys) (hca : C = E ∨ Cond.castable C E ∈ lw_tbl) {a n b : Nat} {fs : List Value} {f : Nat → Option Nat} {i : Int32} (ha : h.2.2 a = some (.inl (.object E, n, .inr (.inr (.inr (.inr f)))))) (hbv : h.2.2 b = some (.inr (ci, fs))) (hin : vp_in i n) (hd : decode Y.2.1 pc = .ok (.aastore, 1)) (k : AW G x Y fr lo h0 P (ax_set h a (.inl (.object E, n, .inr (.inr (.inr (.inr (va_up f i.toNatClampNeg (some b)))))))) (pc + 1) ls st) : AW G x Y fr lo h0 P h pc ls (.ref b :: .int i :: .ref a :: st) := by
  intro C0 e1 e2 H locs lsr hP hL hl
  obtain ⟨c1, c2, c3, c4⟩ := c
  have hW := C0.2.2.2.2.1
  have hG := C0.2.2.2.2.2.1
  have hK := ax_kn hW hG
  obtain ⟨hb, cA, r1, r2⟩ := hP.at ha
  have hlt : i.toNatClampNeg < n := Nat.not_le.mp fun q => hin (Or.inr q)
  have hi0 : ¬ i < 0 := fun q => hin (Or.inl q)
  obtain ⟨kA, comp, k1, k2, k3⟩ := r2.moved hW.alike
  have k3 := k3 E rfl
  obtain ⟨r, s1, cellV, s2, s3, s4, -⟩ := (hP.at hbv).2
  have hr : r = (C, T, N) := Option.some.inj (s1.symm.trans c1)
  subst hr
  have hcls := (hK.1 ci _ c1).2
  obtain ⟨kC, hkC, -⟩ := hcls.2
  obtain ⟨kE, hkE, -⟩ := Vm.findClass_spec k3
  have hasg : x.2.2.1.vm.assignable (G.2.2.1.1 ci) comp = true := by
    rcases hca with hca | hca
    · subst hca
      have hcomp : comp = G.2.2.1.1 ci := Option.some.inj (k3.symm.trans hcls.1)
      rw [hcomp]
      exact va_assign hcls
    · obtain ⟨c0, t1, f1, f2, f3⟩ := Cond.castable_spec (ax_cst hW hG hca x.2.2.2.2.1)
      cases hcls.1.symm.trans f1
      cases k3.symm.trans f2
      exact f3
  refine W.aast C0.1 C0.2.1 r1 (fun q z => by cases z) (fun z => by cases z) k1 k2 rfl hkE ⟨hi0, by rw [arrV_size]; exact hlt⟩ s2 (fun q z => by rw [s4] at z; cases z) (by rw [s3]; exact hkC) (by rw [s3]; exact hasg) rfl rfl hd (fun H' g1 z1 oq => ?_)
  rw [arrV_store] at g1
  have hu : updV (ax_v (.inr (.inr (.inr (.inr f))))) i.toNatClampNeg (.ref b) = ax_v (.inr (.inr (.inr (.inr (va_up f i.toNatClampNeg (some b)))))) := ax_updV (by simp [ax_v, va_up, va_rf]) (fun j hj => by simp [ax_v, va_up, hj])
  have g1 : H'[a]? = some (arrV cA n (updV (ax_v (.inr (.inr (.inr (.inr f))))) i.toNatClampNeg (.ref b))) := g1
  rw [hu] at g1
  exact k C0 e1 e2 H' _ lsr (hP.set ha r1 g1 (by rw [arrV_size, arrV_size]) z1 oq ⟨cA, g1, r2⟩) (ax_locs hL hb) hl
theorem aw_aastN {E : String} {a n : Nat} {f : Nat → Option Nat} {i : Int32} (ha : h.2.2 a = some (.inl (.object E, n, .inr (.inr (.inr (.inr f)))))) (hin : vp_in i n) (hd : decode Y.2.1 pc = .ok (.aastore, 1)) (k : AW G x Y fr lo h0 P (ax_set h a (.inl (.object E, n, .inr (.inr (.inr (.inr (va_up f i.toNatClampNeg none))))))) (pc + 1) ls st) : AW G x Y fr lo h0 P h pc ls (.null :: .int i :: .ref a :: st) := by
  intro C0 e1 e2 H locs lsr hP hL hl
  obtain ⟨hb, cA, r1, r2⟩ := hP.at ha
  refine va_WaastN (C := E) C0.1 C0.2.1 r1 ((r2.moved C0.2.2.2.2.1.alike).arr _ _) (fun q => by cases q) (by rw [arrV_size]; exact hin) rfl rfl hd (fun H' g1 z1 oq => ?_)
  rw [arrV_store] at g1
  have hu : updV (ax_v (.inr (.inr (.inr (.inr f))))) i.toNatClampNeg .null = ax_v (.inr (.inr (.inr (.inr (va_up f i.toNatClampNeg none))))) := ax_updV (by simp [ax_v, va_up, va_rf]) (fun j hj => by simp [ax_v, va_up, hj])
  have g1 : H'[a]? = some (arrV cA n (updV (ax_v (.inr (.inr (.inr (.inr f))))) i.toNatClampNeg .null)) := g1
  rw [hu] at g1
  exact k C0 e1 e2 H' _ lsr (hP.set ha r1 g1 (by rw [arrV_size, arrV_size]) z1 oq ⟨cA, g1, r2⟩) (ax_locs hL hb) hl
theorem ax_recv {s : State} {H : Heap} {ci a : Nat} {C : String} {T : u_T} {N : Nat} {tys : Nat → FieldType} {fs : List Value} (c : ax_cl ci C T N tys) (hW : G.2.1.WarmedH s.vm) (hG : ax_G0 G) (hP : ax_P G h H) (ha : h.2.2 a = some (.inr (ci, fs))) : ∃ cell : Cell, H[a]? = some cell ∧ cell.vm.isStatics = false ∧ s.vm.findClass C = some cell.cls := by
  obtain ⟨r, s1, cellV, s2, s3, s4, -⟩ := (hP.at ha).2
  have hr : r = (C, T, N) := Option.some.inj (s1.symm.trans c.1)
  subst hr
  exact ⟨cellV, s2, by rw [s4]; rfl, by rw [s3]; exact ((ax_kn hW hG).1 ci _ c.1).2.1⟩
/-- a cast of an object of the table's class ci to its own class, or to one that it is -/
theorem aw_cast {E C : String} {T : u_T} {N ci : Nat} {tys : Nat → FieldType} (c : ax_cl ci C T N tys) {idx a : Nat} {fs : List Value} (w1 : Cond.classLink Y.1.cls idx E ∈ lw_tbl) (hca : C = E ∨ Cond.castable C E ∈ lw_tbl) (ha : h.2.2 a = some (.inr (ci, fs))) (hd : decode Y.2.1 pc = .ok (.checkcast idx, 3)) (k : AW G x Y fr lo h0 P h (pc + 3) ls (.ref a :: st)) : AW G x Y fr lo h0 P h pc ls (.ref a :: st) := by
  intro C0 e1 e2 H locs lsr hP hL hl
  have hW := C0.2.2.2.2.1
  have hG := C0.2.2.2.2.2.1
  have hr := ax_recv c hW hG hP ha
  have kk := k C0 e1 e2 H locs lsr hP hL hl
  rcases hca with hca | hca
  · subst hca
    exact va_castS C0.1 C0.2.1 C0.2.2.2.1 (ax_word hW hG w1 (ax_gCL _ _ _) _) ((ax_kn hW hG).1 ci _ c.1).2 hr hd kk
  · exact va_castY C0.1 C0.2.1 C0.2.2.2.1 (ax_word hW hG w1 (ax_gCL _ _ _) _) (va_Nw.of rfl (ax_cst hW hG hca #[])) hr hd kk
theorem aw_castN {idx : Nat} (hd : decode Y.2.1 pc = .ok (.checkcast idx, 3)) (k : AW G x Y fr lo h0 P h (pc + 3) ls (.null :: st)) : AW G x Y fr lo h0 P h pc ls (.null :: st) := fun C0 e1 e2 H locs lsr hP hL hl => lv_castN C0.1 C0.2.1 hd (k C0 e1 e2 H locs lsr hP hL hl)
theorem aw_ldc {idx : Nat} {v : Int32} (w1 : Cond.constant Y.1.cls idx v ∈ lw_tbl) (hd : decode Y.2.1 pc = .ok (.ldc idx, 2)) (k : AW G x Y fr lo h0 P h (pc + 2) ls (.int v :: st)) : AW G x Y fr lo h0 P h pc ls st := fun C0 e1 e2 H locs lsr hP hL hl => lv_ldc C0.1 C0.2.1 C0.2.2.2.1 (ax_word C0.2.2.2.2.1 C0.2.2.2.2.2.1 w1 (ax_gK _ _ _) _) hd (k C0 e1 e2 H locs lsr hP hL hl)
theorem aw_ldcw {idx : Nat} {v : Int32} (w1 : Cond.constant Y.1.cls idx v ∈ lw_tbl) (hd : decode Y.2.1 pc = .ok (.ldc_w idx, 3)) (k : AW G x Y fr lo h0 P h (pc + 3) ls (.int v :: st)) : AW G x Y fr lo h0 P h pc ls st := fun C0 e1 e2 H locs lsr hP hL hl => lv_ldcw C0.1 C0.2.1 C0.2.2.2.1 (ax_word C0.2.2.2.2.1 C0.2.2.2.2.2.1 w1 (ax_gK _ _ _) _) hd (k C0 e1 e2 H locs lsr hP hL hl)
theorem aw_ldc2 {idx : Nat} {v : Int64} (w1 : Cond.constantLong Y.1.cls idx v ∈ lw_tbl) (hd : decode Y.2.1 pc = .ok (.ldc2_w idx, 3)) (k : AW G x Y fr lo h0 P h (pc + 3) ls (.long v :: st)) : AW G x Y fr lo h0 P h pc ls st := fun C0 e1 e2 H locs lsr hP hL hl => lv_ldc2 C0.1 C0.2.1 C0.2.2.2.1 (ax_word C0.2.2.2.2.1 C0.2.2.2.2.2.1 w1 (ax_gKL _ _ _) _) hd (k C0 e1 e2 H locs lsr hP hL hl)
theorem ax_end {v : Option Value} {H : Heap} {s t : State} {ar : Array Value} (hp : P v h) (e1 : h0.1 ≤ h.1) (e2 : h0.2.1 ≤ h.2.1) (hP : ax_P G h H) (hW : G.2.1.WarmedH s.vm) (hG : ax_G0 G) (ht : t.heap = H) (hw : s.WarmedH t.vm) : ax_Q G h0 P ar s (.returned v) t := ⟨v, h, rfl, hp, e1, e2, by rw [ht]; exact hP, State.WarmedH.trans hW hw, hG⟩
theorem aw_iret {v : Int32} (hp : P (some (.int v)) h) (hr : Y.2.2.2 = some .int) (hd : decode Y.2.1 pc = .ok (.ireturn, 1)) : AW G x Y fr lo h0 P h pc ls ([.int v]) := by
  intro C0 e1 e2 H locs lsr hP hL hl
  have g1 := hP.2.2.1
  have g2 := hP.2.2.2.2.1
  have g0 : G.1 ≤ h0.1 := C0.2.2.2.2.2.2.2.2.2.2.1
  refine W.widen (k := room_1.cells - (h0.1 - G.1)) (n := room_1.slots - h0.2.1) (by omega) (by omega) ?_
  exact W.iret C0.1 C0.2.1 (C0.2.2.2.2.2.2.2.1.trans hr) (fun t ht hw => ax_end hp e1 e2 hP C0.2.2.2.2.1 C0.2.2.2.2.2.1 ht hw) (fun q hq => hL q hq) hd C0.2.2.2.2.2.2.1
theorem aw_zret {v : Int32} {ty : FieldType} (hp : P (some (.int v)) h) (hr : Y.2.2.2 = some ty) (hn : narrow ty (.int v) = .int v) (hd : decode Y.2.1 pc = .ok (.ireturn, 1)) : AW G x Y fr lo h0 P h pc ls [.int v] := by
  intro C0 e1 e2 H locs lsr hP hL hl
  have g1 := hP.2.2.1
  have g2 := hP.2.2.2.2.1
  have g0 : G.1 ≤ h0.1 := C0.2.2.2.2.2.2.2.2.2.2.1
  refine W.widen (k := room_1.cells - (h0.1 - G.1)) (n := room_1.slots - h0.2.1) (by omega) (by omega) ?_
  exact W.zret C0.1 C0.2.1 (C0.2.2.2.2.2.2.2.1.trans hr) hn (fun t ht hw => ax_end hp e1 e2 hP C0.2.2.2.2.1 C0.2.2.2.2.2.1 ht hw) (fun q hq => hL q hq) hd C0.2.2.2.2.2.2.1
theorem aw_lret {v : Int64} (hp : P (some (.long v)) h) (hr : Y.2.2.2 = some .long) (hd : decode Y.2.1 pc = .ok (.lreturn, 1)) : AW G x Y fr lo h0 P h pc ls ([.long v]) := by
  intro C0 e1 e2 H locs lsr hP hL hl
  have g1 := hP.2.2.1
  have g2 := hP.2.2.2.2.1
  have g0 : G.1 ≤ h0.1 := C0.2.2.2.2.2.2.2.2.2.2.1
  refine W.widen (k := room_1.cells - (h0.1 - G.1)) (n := room_1.slots - h0.2.1) (by omega) (by omega) ?_
  exact W.lret C0.1 C0.2.1 (C0.2.2.2.2.2.2.2.1.trans hr) (fun t ht hw => ax_end hp e1 e2 hP C0.2.2.2.2.1 C0.2.2.2.2.2.1 ht hw) (fun q hq => hL q hq) hd C0.2.2.2.2.2.2.1
theorem aw_vret (hp : P (none) h) (hr : Y.2.2.2 = none) (hd : decode Y.2.1 pc = .ok (.return_, 1)) : AW G x Y fr lo h0 P h pc ls ([]) := by
  intro C0 e1 e2 H locs lsr hP hL hl
  have g1 := hP.2.2.1
  have g2 := hP.2.2.2.2.1
  have g0 : G.1 ≤ h0.1 := C0.2.2.2.2.2.2.2.2.2.2.1
  refine W.widen (k := room_1.cells - (h0.1 - G.1)) (n := room_1.slots - h0.2.1) (by omega) (by omega) ?_
  exact W.vret C0.1 C0.2.1 (C0.2.2.2.2.2.2.2.1.trans hr) (fun t ht hw => ax_end hp e1 e2 hP C0.2.2.2.2.1 C0.2.2.2.2.2.1 ht hw) (fun q hq => hL q hq) hd C0.2.2.2.2.2.2.1
theorem aw_aret {r : Option Nat} {ty : FieldType} (hp : P (some (va_rf r)) h) (hr : Y.2.2.2 = some ty) (hrt : (∃ n, ty = .object n) ∨ ∃ t, ty = .array t) (hd : decode Y.2.1 pc = .ok (.areturn, 1)) : AW G x Y fr lo h0 P h pc ls [va_rf r] := by
  intro C0 e1 e2 H locs lsr hP hL hl
  have g1 := hP.2.2.1
  have g2 := hP.2.2.2.2.1
  have g0 : G.1 ≤ h0.1 := C0.2.2.2.2.2.2.2.2.2.2.1
  refine W.widen (k := room_1.cells - (h0.1 - G.1)) (n := room_1.slots - h0.2.1) (by omega) (by omega) ?_
  exact W.aret C0.1 C0.2.1 (C0.2.2.2.2.2.2.2.1.trans hr) hrt (va_rf_or r) (fun t ht hw => ax_end hp e1 e2 hP C0.2.2.2.2.1 C0.2.2.2.2.2.1 ht hw) (fun q hq => hL q hq) hd C0.2.2.2.2.2.2.1
end AXH
end
section
section AXC
variable {G : ax_G} {x : ax_X} {Y : ax_Y} {fr lo : Nat} {h0 h : ax_H} {P : Option Value → ax_H → Prop} {pc : Nat} {ls : List (Option Value)} {st : List Value}
/-- an instruction's method, by its pool number -/
def ax_ml (own : String) (idx : Nat) (y : MethodName) : Prop := (Cond.methodLink own idx y ∈ lw_tbl) ∨ ∃ host : String, Cond.methodLinkNest own idx y host ∈ lw_tbl
/-- a method of n parameters: what the tables say of it -/
def ax_M (Y : ax_Y) (n : Nat) : Prop := Cond.initialized Y.1.cls ∈ lw_tbl ∧ Cond.code Y.1 Y.2.1 Y.2.2.1 Y.2.2.2 ∈ lw_tbl ∧ (Y.1.cls ≠ "java/lang/invoke/MethodHandle" ∧ Y.1.cls ≠ "java/lang/invoke/VarHandle") ∧ (parseMethodDescriptor Y.1.desc).map (fun d => d.parameters.length) = some n
/-- a static one, one of objects, a constructor -/
def ax_MS (Y : ax_Y) (n : Nat) : Prop := ax_M Y n ∧ Cond.static Y.1 ∈ lw_tbl
def ax_MV (Y : ax_Y) (n : Nat) : Prop := ax_M Y n ∧ Cond.instanceMethod Y.1 ∈ lw_tbl ∧ Cond.selects Y.1.cls Y.1 Y.1 ∈ lw_tbl
def ax_MI (Y : ax_Y) (n : Nat) : Prop := ax_M Y n ∧ Cond.instanceMethod Y.1 ∈ lw_tbl ∧ Y.1.name = "<init>" ∧ Y.2.2.2 = none
theorem ax_M.len {Y : ax_Y} {n : Nat} (m : ax_M Y n) : ∀ sig, parseMethodDescriptor Y.1.desc = some sig → n = sig.parameters.length := by
  intro sig hs
  have h2 := m.2.2.2
  rw [hs] at h2
  exact (Option.some.inj h2).symm
theorem ax_M.ws {Y : ax_Y} {n : Nat} (m : ax_M Y n) {s : State} (hW : G.2.1.WarmedH s.vm) (hG : ax_G0 G) : ∀ w ∈ [Cond.code Y.1 Y.2.1 Y.2.2.1 Y.2.2.2], ∀ (a' : Array Value) (U : State), s.WarmedH U.vm → w.before a' U = true := by
  intro w hw a' U hU
  rw [List.mem_singleton.mp hw]
  exact ax_word (State.WarmedH.trans hW hU) hG m.2.1 (ax_gCO _ _ _ _) a'
theorem ax_blind {av : List Value} : FrameBlind (va_Pc av (ax_U G h)) := fun _ _ _ _ q => ⟨q.1, q.2.1, q.2.2.1, q.2.2.2⟩
theorem ax_after {C0 : ax_C G x Y h0} (e1 : h0.1 ≤ h.1) (e2 : h0.2.1 ≤ h.2.1) {H : Heap} {locs : List Loc} {lsr : Array Slot} (hL : ∀ q ∈ locs, G.1 ≤ q.base) (hl : ax_L lsr Y.2.2.1 ls) {st0 : List Value} {a : Array Value} {P' : Option Value → ax_H → Prop}
    (hr : va_Run x.1 G.2.2.2.1 x.2.1 (ax_R fr lo G h0) x.2.2.1 x.2.2.2.1 x.2.2.2.2.1 x.2.2.2.2.2.1 x.2.2.2.2.2.2.1 x.2.2.2.2.2.2.2 H locs (h.1 - h0.1) (h.2.1 - h0.2.1) (room_1.cells - (h.1 - G.1)) (room_1.slots - h.2.1) (F0 x.2.2.2.1 pc lsr st0) st (ax_Q G h P' a) (fun q => G.1 ≤ q))
    (k : ∀ (v : Option Value) (h' : ax_H), P' v h' → AW G x Y fr lo h0 P h' (pc + 3) ls (v.toList ++ st)) :
    W x.1 G.2.2.2.1 x.2.1 (ax_R fr lo G h0) x.2.2.1 x.2.2.2.1 x.2.2.2.2.1 x.2.2.2.2.2.1 x.2.2.2.2.2.2.1 x.2.2.2.2.2.2.2 H locs (h.1 - h0.1) (h.2.1 - h0.2.1)
      (MQ x.2.2.2.2.2.1 (ax_Q G h0 P) x.2.2.2.2.1 x.2.2.1 (room_1.cells - (h0.1 - G.1)) (room_1.slots - h0.2.1) (fun q => G.1 ≤ q)) (F0 x.2.2.2.1 pc lsr st0) := by
  intro T hT X
  obtain ⟨v, st₀, t, T', L, hz, X', hL2, g1, g2, ⟨v', h', q1, q2, q3, q4, q5, q6, q7⟩, step⟩ := hr T hT X
  cases q1
  have q5 : ax_P G h' T'.heap := by rw [g1]; exact q5
  have hP0 := C0.2.2.2.2.2.2.2.2.2
  have kk := k v h' q2 C0 (Nat.le_trans e1 q3) (Nat.le_trans e2 q4) T'.heap (locs ++ L) lsr q5 (fun q hq => by
    rcases List.mem_append.mp hq with z | z
    · exact hL q z
    · exact hL2 q z) hl
  have hsp := ax_sz_split X' (b := G.1) (by rw [hP0.1]; exact hP0.2.1)
  have z1 : T'.heap.size = h'.1 := q5.1
  have z2 : ax_sz G.1 T'.heap = h'.2.1 := q5.2.2.2.1
  have z3 : x.2.2.1.heap.size = h0.1 := hP0.1
  have z4 : ax_sz G.1 x.2.2.1.heap = h0.2.1 := hP0.2.2.2.1
  obtain ⟨t2, a1, b1⟩ := kk T' rfl (ax_tight X' (by rw [z1, z3]; omega) (by omega))
  exact ⟨t2, step t2 a1, b1⟩
theorem ax_roomC {Y' : ax_Y} {fr' lo' : Nat} (C0 : ax_C G x Y h0) (e1 : h0.1 ≤ h.1) (e2 : h0.2.1 ≤ h.2.1) {H : Heap} (hP : ax_P G h H) : h.1 - h0.1 + (room_1.cells - (h.1 - G.1)) ≤ (ax_R fr lo G h0).cells ∧ h.2.1 - h0.2.1 + (room_1.slots - h.2.1) ≤ (ax_R fr lo G h0).slots := by
  have g0 : G.1 ≤ h0.1 := C0.2.2.2.2.2.2.2.2.2.2.1
  have g1 := hP.2.2.1
  have g2 := hP.2.2.2.2.1
  refine ⟨?_, ?_⟩
  · show h.1 - h0.1 + (room_1.cells - (h.1 - G.1)) ≤ room_1.cells - (h0.1 - G.1)
    omega
  · show h.2.1 - h0.2.1 + (room_1.slots - h.2.1) ≤ room_1.slots - h0.2.1
    omega
theorem aw_callS {Y' : ax_Y} {fr' lo' idx n : Nat} {av st0 : List Value} {P' : Option Value → ax_H → Prop} (M : AM G Y' fr' lo' av h P') (m : ax_MS Y' n) (w : ax_ml Y.1.cls idx Y'.1) (hn : av.length = n) (hst0 : av.reverse ++ st = st0) (hfr : fr' + 1 ≤ fr) (hlo : 8 + (Y'.2.2.1 + 11) + lo' ≤ lo) (hst : (st.map fun v => v.category).sum ≤ 8) (hd : decode Y.2.1 pc = .ok (.invokestatic idx, 3)) (k : ∀ (v : Option Value) (h' : ax_H), P' v h' → AW G x Y fr lo h0 P h' (pc + 3) ls (v.toList ++ st)) : AW G x Y fr lo h0 P h pc ls st0 := by
  subst hst0
  intro C0 e1 e2 H locs lsr hP hL hl
  have hW := C0.2.2.2.2.1
  have hG := C0.2.2.2.2.2.1
  refine ax_after (C0 := C0) (a := av.toArray) e1 e2 hL hl ?_ k
  have hp : PreS x.2.2.1 H (va_Pc av (ax_U G h)) av := ⟨ax_blind, fun U hU hw => ⟨rfl, by rw [hU]; exact hP, State.WarmedH.trans hW hw, hG⟩⟩
  rcases w with w | ⟨host, w⟩
  · exact va_runS (Ts := []) (n := n) (bytes := Y'.2.1) (maxL := Y'.2.2.1) (ret := Y'.2.2.2) ⟨C0.1, C0.2.1, C0.2.2.1, C0.2.2.2.1, fun w hw => by cases hw⟩ M ⟨⟨rfl, rfl, hfr, hlo, m.1.ws hW hG, List.mem_singleton.mpr rfl, ax_word hW hG m.1.2.1 (ax_gCO _ _ _ _) _, ax_word hW hG m.1.1 (ax_gII _) _, m.1.2.2.1, m.1.len, ax_word hW hG w (ax_gML _ _ _) _⟩, ax_word hW hG m.2 (ax_gST _) _⟩ hp rfl hn hl.size rfl (lv_room hst) hd (ax_roomC (Y' := Y') (fr' := fr') (lo' := lo') C0 e1 e2 hP)
  · exact va_runSN (Ts := []) (n := n) (bytes := Y'.2.1) (maxL := Y'.2.2.1) (ret := Y'.2.2.2) ⟨C0.1, C0.2.1, C0.2.2.1, C0.2.2.2.1, fun w hw => by cases hw⟩ M ⟨⟨⟨rfl, rfl, hfr, hlo, m.1.ws hW hG, List.mem_singleton.mpr rfl⟩, ax_word hW hG m.1.2.1 (ax_gCO _ _ _ _) _, ax_word hW hG m.1.1 (ax_gII _) _, m.1.2.2.1, m.1.len, ax_nestM hW hG w _⟩, ax_word hW hG m.2 (ax_gST _) _, trivial⟩ hp rfl hn hl.size rfl (lv_room hst) hd (ax_roomC (Y' := Y') (fr' := fr') (lo' := lo') C0 e1 e2 hP)
theorem aw_callV {Y' : ax_Y} {fr' lo' idx n b ci : Nat} {T : u_T} {N : Nat} {tys : Nat → FieldType} {fs : List Value} {av st0 : List Value} {P' : Option Value → ax_H → Prop} (M : AM G Y' fr' lo' (.ref b :: av) h P') (c : ax_cl ci Y'.1.cls T N tys) (hb : h.2.2 b = some (.inr (ci, fs))) (m : ax_MV Y' n) (w : ax_ml Y.1.cls idx Y'.1) (hn : av.length = n) (hst0 : av.reverse ++ .ref b :: st = st0) (hfr : fr' + 1 ≤ fr) (hlo : 8 + (Y'.2.2.1 + 11) + lo' ≤ lo) (hst : (st.map fun v => v.category).sum ≤ 8) (hd : decode Y.2.1 pc = .ok (.invokevirtual idx, 3)) (k : ∀ (v : Option Value) (h' : ax_H), P' v h' → AW G x Y fr lo h0 P h' (pc + 3) ls (v.toList ++ st)) : AW G x Y fr lo h0 P h pc ls st0 := by
  subst hst0
  intro C0 e1 e2 H locs lsr hP hL hl
  have hW := C0.2.2.2.2.1
  have hG := C0.2.2.2.2.2.1
  refine ax_after (C0 := C0) (a := (.ref b :: av).toArray) e1 e2 hL hl ?_ k
  have hp : PreV x.2.2.1 H Y'.1.cls b (va_Pc (.ref b :: av) (ax_U G h)) av := ⟨ax_blind, ax_recv c hW hG hP hb, fun U hU hw => ⟨rfl, by rw [hU]; exact hP, State.WarmedH.trans hW hw, hG⟩⟩
  rcases w with w | ⟨host, w⟩
  · exact va_runV (Ts := []) (n := n) (bytes := Y'.2.1) (maxL := Y'.2.2.1) (ret := Y'.2.2.2) ⟨C0.1, C0.2.1, C0.2.2.1, C0.2.2.2.1, fun w hw => by cases hw⟩ M ⟨⟨rfl, rfl, hfr, hlo, m.1.ws hW hG, List.mem_singleton.mpr rfl, ax_word hW hG m.1.2.1 (ax_gCO _ _ _ _) _, ax_word hW hG m.1.1 (ax_gII _) _, m.1.2.2.1, m.1.len, ax_word hW hG w (ax_gML _ _ _) _⟩, ax_word hW hG m.2.1 (ax_gIM _) _, ax_word hW hG m.2.2 (ax_gSE _ _ _) _⟩ hp rfl hn hl.size rfl (lv_room hst) hd (ax_roomC (Y' := Y') (fr' := fr') (lo' := lo') C0 e1 e2 hP)
  · exact va_runVN (Ts := []) (n := n) (bytes := Y'.2.1) (maxL := Y'.2.2.1) (ret := Y'.2.2.2) ⟨C0.1, C0.2.1, C0.2.2.1, C0.2.2.2.1, fun w hw => by cases hw⟩ M ⟨⟨⟨rfl, rfl, hfr, hlo, m.1.ws hW hG, List.mem_singleton.mpr rfl⟩, ax_word hW hG m.1.2.1 (ax_gCO _ _ _ _) _, ax_word hW hG m.1.1 (ax_gII _) _, m.1.2.2.1, m.1.len, ax_nestM hW hG w _⟩, ax_word hW hG m.2.1 (ax_gIM _) _, ax_word hW hG m.2.2 (ax_gSE _ _ _) _⟩ hp rfl hn hl.size rfl (lv_room hst) hd (ax_roomC (Y' := Y') (fr' := fr') (lo' := lo') C0 e1 e2 hP)
theorem aw_callI {Y' : ax_Y} {fr' lo' idx n b : Nat} {av st0 : List Value} {P' : Option Value → ax_H → Prop} (M : AM G Y' fr' lo' (.ref b :: av) h P') (m : ax_MI Y' n) (w : ax_ml Y.1.cls idx Y'.1) (hn : av.length = n) (hst0 : av.reverse ++ .ref b :: st = st0) (hfr : fr' + 1 ≤ fr) (hlo : 8 + (Y'.2.2.1 + 11) + lo' ≤ lo) (hst : (st.map fun v => v.category).sum ≤ 8) (hd : decode Y.2.1 pc = .ok (.invokespecial idx, 3)) (k : ∀ (v : Option Value) (h' : ax_H), P' v h' → AW G x Y fr lo h0 P h' (pc + 3) ls (v.toList ++ st)) : AW G x Y fr lo h0 P h pc ls st0 := by
  subst hst0
  intro C0 e1 e2 H locs lsr hP hL hl
  have hW := C0.2.2.2.2.1
  have hG := C0.2.2.2.2.2.1
  refine ax_after (C0 := C0) (a := (.ref b :: av).toArray) e1 e2 hL hl ?_ k
  have hp : PreS x.2.2.1 H (va_Pc (.ref b :: av) (ax_U G h)) (.ref b :: av) := ⟨ax_blind, fun U hU hw => ⟨rfl, by rw [hU]; exact hP, State.WarmedH.trans hW hw, hG⟩⟩
  obtain ⟨m1, m2, m3, m4⟩ := m
  obtain ⟨y, bytes, maxL, ret⟩ := Y'
  have m4 : ret = none := m4
  subst m4
  rcases w with w | ⟨host, w⟩
  · exact va_runI (Ts := []) (n := n) (bytes := bytes) (maxL := maxL) ⟨C0.1, C0.2.1, C0.2.2.1, C0.2.2.2.1, fun w hw => by cases hw⟩ M ⟨⟨rfl, rfl, hfr, hlo, m1.ws hW hG, List.mem_singleton.mpr rfl, ax_word hW hG m1.2.1 (ax_gCO _ _ _ _) _, ax_word hW hG m1.1 (ax_gII _) _, m1.2.2.1, m1.len, ax_word hW hG w (ax_gML _ _ _) _⟩, m3, ax_word hW hG m2 (ax_gIM _) _⟩ hp rfl hn hl.size rfl (lv_room hst) hd (ax_roomC (Y' := (y, bytes, maxL, none)) (fr' := fr') (lo' := lo') C0 e1 e2 hP)
  · exact va_runIN (Ts := []) (n := n) (bytes := bytes) (maxL := maxL) ⟨C0.1, C0.2.1, C0.2.2.1, C0.2.2.2.1, fun w hw => by cases hw⟩ M ⟨⟨⟨rfl, rfl, hfr, hlo, m1.ws hW hG, List.mem_singleton.mpr rfl⟩, ax_word hW hG m1.2.1 (ax_gCO _ _ _ _) _, ax_word hW hG m1.1 (ax_gII _) _, m1.2.2.1, m1.len, ax_nestM hW hG w _⟩, m3, ax_word hW hG m2 (ax_gIM _) _⟩ hp rfl hn hl.size rfl (lv_room hst) hd (ax_roomC (Y' := (y, bytes, maxL, none)) (fr' := fr') (lo' := lo') C0 e1 e2 hP)
theorem aw_objInit {idx a : Nat} (w1 : Cond.methodLink Y.1.cls idx Lib.objectInit ∈ lw_tbl) (w2 : Cond.instanceMethod Lib.objectInit ∈ lw_tbl) (w3 : Cond.code Lib.objectInit ⟨#[0xb1]⟩ 1 none ∈ lw_tbl) (hfr : 1 ≤ fr) (hlo : (st.map fun v => v.category).sum + 12 ≤ lo) (hd : decode Y.2.1 pc = .ok (.invokespecial idx, 3)) (k : AW G x Y fr lo h0 P h (pc + 3) ls st) : AW G x Y fr lo h0 P h pc ls (.ref a :: st) := by
  intro C0 e1 e2 H locs lsr hP hL hl
  have hW := C0.2.2.2.2.1
  have hG := C0.2.2.2.2.2.1
  exact W.objInit C0.1 C0.2.1 C0.2.2.2.1 (ax_word hW hG w1 (ax_gML _ _ _) _) (ax_word hW hG w2 (ax_gIM _) _) (ax_word hW hG w3 (ax_gCO _ _ _ _) _) rfl (hl.size.trans C0.2.2.1.symm) rfl hd hfr (by show 2 * 0 + _ + 12 ≤ lo; omega) (k C0 e1 e2 H locs lsr hP hL hl)
/-- a contract's end may say less -/
theorem AM.post {fr' lo' : Nat} {av : List Value} {P' : Option Value → ax_H → Prop} (hp : ∀ v h', P' v h' → P v h') (M : AM G Y fr lo av h P') : AM G Y fr lo av h P := by
  intro p e ha hc hk s m args below hf happ hpre htr
  obtain ⟨n, o, b1, b2, b3, ⟨v, h', c1, c2, c3⟩, b4⟩ := M p e ha hc hk s m args below hf happ hpre htr
  exact ⟨n, o, b1, b2, b3, ⟨v, h', c1, hp v h' c2, c3⟩, b4⟩
end AXC
end
