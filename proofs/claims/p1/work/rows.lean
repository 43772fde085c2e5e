section
-- ===== PART A: goes FIRST, ahead of the names: the tables' words, and 'selects' of the private methods out of them =====
/-- a private method of a class that the tables say can be made, by its rows of tables_1 -/
def lw_okq (q : MethodName × Nat) : Prop := (q.1.cls ≠ "java/lang/invoke/MethodHandle" ∧ q.1.cls ≠ "java/lang/invoke/VarHandle") ∧ Cond.instantiable q.1.cls q.2 ∈ tables_1 ∧ Cond.privateMethod q.1 ∈ tables_1 ∧ Cond.instanceMethod q.1 ∈ tables_1
theorem lw_p0 : lw_okq (⟨"SymbolLinker", "addSection", "(LSymbolLinker$Unit;II)V"⟩, 11) := ⟨⟨by decide +kernel, by decide +kernel⟩, List.mem_of_getElem? (i := 26) (by decide +kernel), List.mem_of_getElem? (i := 211) (by decide +kernel), List.mem_of_getElem? (i := 212) (by decide +kernel)⟩
theorem lw_p1 : lw_okq (⟨"java/util/ArrayList", "add", "(Ljava/lang/Object;[Ljava/lang/Object;I)V"⟩, 3) := ⟨⟨by decide +kernel, by decide +kernel⟩, List.mem_of_getElem? (i := 34) (by decide +kernel), List.mem_of_getElem? (i := 286) (by decide +kernel), List.mem_of_getElem? (i := 287) (by decide +kernel)⟩
theorem lw_p2 : lw_okq (⟨"java/util/ArrayList", "grow", "()[Ljava/lang/Object;"⟩, 3) := ⟨⟨by decide +kernel, by decide +kernel⟩, List.mem_of_getElem? (i := 34) (by decide +kernel), List.mem_of_getElem? (i := 290) (by decide +kernel), List.mem_of_getElem? (i := 291) (by decide +kernel)⟩
theorem lw_p3 : lw_okq (⟨"java/util/ArrayList", "grow", "(I)[Ljava/lang/Object;"⟩, 3) := ⟨⟨by decide +kernel, by decide +kernel⟩, List.mem_of_getElem? (i := 34) (by decide +kernel), List.mem_of_getElem? (i := 294) (by decide +kernel), List.mem_of_getElem? (i := 295) (by decide +kernel)⟩
theorem lw_p4 : lw_okq (⟨"SymbolLinker", "latestSection", "(I)LSymbolLinker$Section;"⟩, 11) := ⟨⟨by decide +kernel, by decide +kernel⟩, List.mem_of_getElem? (i := 26) (by decide +kernel), List.mem_of_getElem? (i := 338) (by decide +kernel), List.mem_of_getElem? (i := 339) (by decide +kernel)⟩
theorem lw_p5 : lw_okq (⟨"SymbolLinker", "latestUnit", "()LSymbolLinker$Unit;"⟩, 11) := ⟨⟨by decide +kernel, by decide +kernel⟩, List.mem_of_getElem? (i := 26) (by decide +kernel), List.mem_of_getElem? (i := 342) (by decide +kernel), List.mem_of_getElem? (i := 343) (by decide +kernel)⟩
theorem lw_p6 : lw_okq (⟨"SymbolLinker", "findName", "(JI)LSymbolLinker$Name;"⟩, 11) := ⟨⟨by decide +kernel, by decide +kernel⟩, List.mem_of_getElem? (i := 26) (by decide +kernel), List.mem_of_getElem? (i := 395) (by decide +kernel), List.mem_of_getElem? (i := 396) (by decide +kernel)⟩
theorem lw_p7 : lw_okq (⟨"SymbolLinker", "takeUnits", "()V"⟩, 11) := ⟨⟨by decide +kernel, by decide +kernel⟩, List.mem_of_getElem? (i := 26) (by decide +kernel), List.mem_of_getElem? (i := 574) (by decide +kernel), List.mem_of_getElem? (i := 575) (by decide +kernel)⟩
theorem lw_p8 : lw_okq (⟨"SymbolLinker", "firstWantedUnit", "()LSymbolLinker$Unit;"⟩, 11) := ⟨⟨by decide +kernel, by decide +kernel⟩, List.mem_of_getElem? (i := 26) (by decide +kernel), List.mem_of_getElem? (i := 594) (by decide +kernel), List.mem_of_getElem? (i := 595) (by decide +kernel)⟩
theorem lw_p9 : lw_okq (⟨"SymbolLinker", "bindNames", "()V"⟩, 11) := ⟨⟨by decide +kernel, by decide +kernel⟩, List.mem_of_getElem? (i := 26) (by decide +kernel), List.mem_of_getElem? (i := 602) (by decide +kernel), List.mem_of_getElem? (i := 603) (by decide +kernel)⟩
theorem lw_p10 : lw_okq (⟨"SymbolLinker", "entryLabel", "()LSymbolLinker$Symbol;"⟩, 11) := ⟨⟨by decide +kernel, by decide +kernel⟩, List.mem_of_getElem? (i := 26) (by decide +kernel), List.mem_of_getElem? (i := 614) (by decide +kernel), List.mem_of_getElem? (i := 615) (by decide +kernel)⟩
theorem lw_p11 : lw_okq (⟨"SymbolLinker", "findTwoGlobals", "()V"⟩, 11) := ⟨⟨by decide +kernel, by decide +kernel⟩, List.mem_of_getElem? (i := 26) (by decide +kernel), List.mem_of_getElem? (i := 619) (by decide +kernel), List.mem_of_getElem? (i := 620) (by decide +kernel)⟩
theorem lw_p12 : lw_okq (⟨"SymbolLinker", "findNeeded", "(LSymbolLinker$Section;)V"⟩, 11) := ⟨⟨by decide +kernel, by decide +kernel⟩, List.mem_of_getElem? (i := 26) (by decide +kernel), List.mem_of_getElem? (i := 631) (by decide +kernel), List.mem_of_getElem? (i := 632) (by decide +kernel)⟩
theorem lw_p13 : lw_okq (⟨"SymbolLinker", "needWhatNeededOnesAwait", "()Z"⟩, 11) := ⟨⟨by decide +kernel, by decide +kernel⟩, List.mem_of_getElem? (i := 26) (by decide +kernel), List.mem_of_getElem? (i := 639) (by decide +kernel), List.mem_of_getElem? (i := 640) (by decide +kernel)⟩
theorem lw_p14 : lw_okq (⟨"SymbolLinker", "placeParts", "(LSymbolLinker$Symbol;)V"⟩, 11) := ⟨⟨by decide +kernel, by decide +kernel⟩, List.mem_of_getElem? (i := 26) (by decide +kernel), List.mem_of_getElem? (i := 655) (by decide +kernel), List.mem_of_getElem? (i := 656) (by decide +kernel)⟩
theorem lw_p15 : lw_okq (⟨"SymbolLinker", "placeSections", "(II)I"⟩, 11) := ⟨⟨by decide +kernel, by decide +kernel⟩, List.mem_of_getElem? (i := 26) (by decide +kernel), List.mem_of_getElem? (i := 659) (by decide +kernel), List.mem_of_getElem? (i := 660) (by decide +kernel)⟩
def lw_privs_1 : List (MethodName × Nat) := [(⟨"SymbolLinker", "addSection", "(LSymbolLinker$Unit;II)V"⟩, 11), (⟨"java/util/ArrayList", "add", "(Ljava/lang/Object;[Ljava/lang/Object;I)V"⟩, 3), (⟨"java/util/ArrayList", "grow", "()[Ljava/lang/Object;"⟩, 3), (⟨"java/util/ArrayList", "grow", "(I)[Ljava/lang/Object;"⟩, 3), (⟨"SymbolLinker", "latestSection", "(I)LSymbolLinker$Section;"⟩, 11), (⟨"SymbolLinker", "latestUnit", "()LSymbolLinker$Unit;"⟩, 11), (⟨"SymbolLinker", "findName", "(JI)LSymbolLinker$Name;"⟩, 11), (⟨"SymbolLinker", "takeUnits", "()V"⟩, 11), (⟨"SymbolLinker", "firstWantedUnit", "()LSymbolLinker$Unit;"⟩, 11), (⟨"SymbolLinker", "bindNames", "()V"⟩, 11), (⟨"SymbolLinker", "entryLabel", "()LSymbolLinker$Symbol;"⟩, 11), (⟨"SymbolLinker", "findTwoGlobals", "()V"⟩, 11), (⟨"SymbolLinker", "findNeeded", "(LSymbolLinker$Section;)V"⟩, 11), (⟨"SymbolLinker", "needWhatNeededOnesAwait", "()Z"⟩, 11), (⟨"SymbolLinker", "placeParts", "(LSymbolLinker$Symbol;)V"⟩, 11), (⟨"SymbolLinker", "placeSections", "(II)I"⟩, 11)]
theorem lw_r1 : ∀ q ∈ lw_privs_1, lw_okq q := List.forall_mem_cons.mpr ⟨lw_p0, List.forall_mem_cons.mpr ⟨lw_p1, List.forall_mem_cons.mpr ⟨lw_p2, List.forall_mem_cons.mpr ⟨lw_p3, List.forall_mem_cons.mpr ⟨lw_p4, List.forall_mem_cons.mpr ⟨lw_p5, List.forall_mem_cons.mpr ⟨lw_p6, List.forall_mem_cons.mpr ⟨lw_p7, List.forall_mem_cons.mpr ⟨lw_p8, List.forall_mem_cons.mpr ⟨lw_p9, List.forall_mem_cons.mpr ⟨lw_p10, List.forall_mem_cons.mpr ⟨lw_p11, List.forall_mem_cons.mpr ⟨lw_p12, List.forall_mem_cons.mpr ⟨lw_p13, List.forall_mem_cons.mpr ⟨lw_p14, List.forall_mem_cons.mpr ⟨lw_p15, fun _ h => absurd h List.not_mem_nil⟩⟩⟩⟩⟩⟩⟩⟩⟩⟩⟩⟩⟩⟩⟩⟩
theorem lw_p16 : lw_okq (⟨"SymbolLinker", "findWaitFault", "()V"⟩, 11) := ⟨⟨by decide +kernel, by decide +kernel⟩, List.mem_of_getElem? (i := 26) (by decide +kernel), List.mem_of_getElem? (i := 670) (by decide +kernel), List.mem_of_getElem? (i := 671) (by decide +kernel)⟩
theorem lw_p17 : lw_okq (⟨"java/lang/Throwable", "fillInStackTrace", "(I)Ljava/lang/Throwable;"⟩, 6) := ⟨⟨by decide +kernel, by decide +kernel⟩, List.mem_of_getElem? (i := 725) (by decide +kernel), List.mem_of_getElem? (i := 723) (by decide +kernel), List.mem_of_getElem? (i := 724) (by decide +kernel)⟩
theorem lw_p18 : lw_okq (⟨"SymbolLinker", "makeImage", "()V"⟩, 11) := ⟨⟨by decide +kernel, by decide +kernel⟩, List.mem_of_getElem? (i := 26) (by decide +kernel), List.mem_of_getElem? (i := 754) (by decide +kernel), List.mem_of_getElem? (i := 755) (by decide +kernel)⟩
theorem lw_p19 : lw_okq (⟨"SymbolLinker", "copySections", "(LSymbolLinker$Unit;)V"⟩, 11) := ⟨⟨by decide +kernel, by decide +kernel⟩, List.mem_of_getElem? (i := 26) (by decide +kernel), List.mem_of_getElem? (i := 766) (by decide +kernel), List.mem_of_getElem? (i := 767) (by decide +kernel)⟩
theorem lw_p20 : lw_okq (⟨"SymbolLinkerModel", "lies", "(III)Z"⟩, 49) := ⟨⟨by decide +kernel, by decide +kernel⟩, List.mem_of_getElem? (i := 826) (by decide +kernel), List.mem_of_getElem? (i := 1002) (by decide +kernel), List.mem_of_getElem? (i := 1003) (by decide +kernel)⟩
theorem lw_p21 : lw_okq (⟨"SymbolLinkerModel", "own", "(I)I"⟩, 49) := ⟨⟨by decide +kernel, by decide +kernel⟩, List.mem_of_getElem? (i := 826) (by decide +kernel), List.mem_of_getElem? (i := 1006) (by decide +kernel), List.mem_of_getElem? (i := 1007) (by decide +kernel)⟩
theorem lw_p22 : lw_okq (⟨"SymbolLinkerModel", "take", "()V"⟩, 49) := ⟨⟨by decide +kernel, by decide +kernel⟩, List.mem_of_getElem? (i := 826) (by decide +kernel), List.mem_of_getElem? (i := 1037) (by decide +kernel), List.mem_of_getElem? (i := 1038) (by decide +kernel)⟩
theorem lw_p23 : lw_okq (⟨"SymbolLinkerModel", "helps", "(I)Z"⟩, 49) := ⟨⟨by decide +kernel, by decide +kernel⟩, List.mem_of_getElem? (i := 826) (by decide +kernel), List.mem_of_getElem? (i := 1041) (by decide +kernel), List.mem_of_getElem? (i := 1042) (by decide +kernel)⟩
theorem lw_p24 : lw_okq (⟨"SymbolLinkerModel", "isGlobal", "(I)Z"⟩, 49) := ⟨⟨by decide +kernel, by decide +kernel⟩, List.mem_of_getElem? (i := 826) (by decide +kernel), List.mem_of_getElem? (i := 1045) (by decide +kernel), List.mem_of_getElem? (i := 1046) (by decide +kernel)⟩
theorem lw_p25 : lw_okq (⟨"SymbolLinkerModel", "isWeak", "(I)Z"⟩, 49) := ⟨⟨by decide +kernel, by decide +kernel⟩, List.mem_of_getElem? (i := 826) (by decide +kernel), List.mem_of_getElem? (i := 1049) (by decide +kernel), List.mem_of_getElem? (i := 1050) (by decide +kernel)⟩
theorem lw_p26 : lw_okq (⟨"SymbolLinkerModel", "meant", "(JI)I"⟩, 49) := ⟨⟨by decide +kernel, by decide +kernel⟩, List.mem_of_getElem? (i := 826) (by decide +kernel), List.mem_of_getElem? (i := 1053) (by decide +kernel), List.mem_of_getElem? (i := 1054) (by decide +kernel)⟩
theorem lw_p27 : lw_okq (⟨"SymbolLinkerModel", "fail", "(III)V"⟩, 49) := ⟨⟨by decide +kernel, by decide +kernel⟩, List.mem_of_getElem? (i := 826) (by decide +kernel), List.mem_of_getElem? (i := 1058) (by decide +kernel), List.mem_of_getElem? (i := 1059) (by decide +kernel)⟩
theorem lw_p28 : lw_okq (⟨"SymbolLinkerModel", "findTwice", "()V"⟩, 49) := ⟨⟨by decide +kernel, by decide +kernel⟩, List.mem_of_getElem? (i := 826) (by decide +kernel), List.mem_of_getElem? (i := 1062) (by decide +kernel), List.mem_of_getElem? (i := 1063) (by decide +kernel)⟩
theorem lw_p29 : lw_okq (⟨"SymbolLinkerModel", "give", "(II)I"⟩, 49) := ⟨⟨by decide +kernel, by decide +kernel⟩, List.mem_of_getElem? (i := 826) (by decide +kernel), List.mem_of_getElem? (i := 1066) (by decide +kernel), List.mem_of_getElem? (i := 1067) (by decide +kernel)⟩
theorem lw_p30 : lw_okq (⟨"SymbolLinkerModel", "findNeeded", "(I)V"⟩, 49) := ⟨⟨by decide +kernel, by decide +kernel⟩, List.mem_of_getElem? (i := 826) (by decide +kernel), List.mem_of_getElem? (i := 1070) (by decide +kernel), List.mem_of_getElem? (i := 1071) (by decide +kernel)⟩
theorem lw_p31 : lw_okq (⟨"SymbolLinkerModel", "standsFor", "(I)I"⟩, 49) := ⟨⟨by decide +kernel, by decide +kernel⟩, List.mem_of_getElem? (i := 826) (by decide +kernel), List.mem_of_getElem? (i := 1074) (by decide +kernel), List.mem_of_getElem? (i := 1075) (by decide +kernel)⟩
def lw_privs_2 : List (MethodName × Nat) := [(⟨"SymbolLinker", "findWaitFault", "()V"⟩, 11), (⟨"java/lang/Throwable", "fillInStackTrace", "(I)Ljava/lang/Throwable;"⟩, 6), (⟨"SymbolLinker", "makeImage", "()V"⟩, 11), (⟨"SymbolLinker", "copySections", "(LSymbolLinker$Unit;)V"⟩, 11), (⟨"SymbolLinkerModel", "lies", "(III)Z"⟩, 49), (⟨"SymbolLinkerModel", "own", "(I)I"⟩, 49), (⟨"SymbolLinkerModel", "take", "()V"⟩, 49), (⟨"SymbolLinkerModel", "helps", "(I)Z"⟩, 49), (⟨"SymbolLinkerModel", "isGlobal", "(I)Z"⟩, 49), (⟨"SymbolLinkerModel", "isWeak", "(I)Z"⟩, 49), (⟨"SymbolLinkerModel", "meant", "(JI)I"⟩, 49), (⟨"SymbolLinkerModel", "fail", "(III)V"⟩, 49), (⟨"SymbolLinkerModel", "findTwice", "()V"⟩, 49), (⟨"SymbolLinkerModel", "give", "(II)I"⟩, 49), (⟨"SymbolLinkerModel", "findNeeded", "(I)V"⟩, 49), (⟨"SymbolLinkerModel", "standsFor", "(I)I"⟩, 49)]
theorem lw_r2 : ∀ q ∈ lw_privs_2, lw_okq q := List.forall_mem_cons.mpr ⟨lw_p16, List.forall_mem_cons.mpr ⟨lw_p17, List.forall_mem_cons.mpr ⟨lw_p18, List.forall_mem_cons.mpr ⟨lw_p19, List.forall_mem_cons.mpr ⟨lw_p20, List.forall_mem_cons.mpr ⟨lw_p21, List.forall_mem_cons.mpr ⟨lw_p22, List.forall_mem_cons.mpr ⟨lw_p23, List.forall_mem_cons.mpr ⟨lw_p24, List.forall_mem_cons.mpr ⟨lw_p25, List.forall_mem_cons.mpr ⟨lw_p26, List.forall_mem_cons.mpr ⟨lw_p27, List.forall_mem_cons.mpr ⟨lw_p28, List.forall_mem_cons.mpr ⟨lw_p29, List.forall_mem_cons.mpr ⟨lw_p30, List.forall_mem_cons.mpr ⟨lw_p31, fun _ h => absurd h List.not_mem_nil⟩⟩⟩⟩⟩⟩⟩⟩⟩⟩⟩⟩⟩⟩⟩⟩
theorem lw_p32 : lw_okq (⟨"SymbolLinkerModel", "layOut", "()V"⟩, 49) := ⟨⟨by decide +kernel, by decide +kernel⟩, List.mem_of_getElem? (i := 826) (by decide +kernel), List.mem_of_getElem? (i := 1078) (by decide +kernel), List.mem_of_getElem? (i := 1079) (by decide +kernel)⟩
theorem lw_p33 : lw_okq (⟨"SymbolLinkerModel", "findWrong", "()V"⟩, 49) := ⟨⟨by decide +kernel, by decide +kernel⟩, List.mem_of_getElem? (i := 826) (by decide +kernel), List.mem_of_getElem? (i := 1083) (by decide +kernel), List.mem_of_getElem? (i := 1084) (by decide +kernel)⟩
theorem lw_p34 : lw_okq (⟨"SymbolLinkerModel", "valueOf", "(I)J"⟩, 49) := ⟨⟨by decide +kernel, by decide +kernel⟩, List.mem_of_getElem? (i := 826) (by decide +kernel), List.mem_of_getElem? (i := 1087) (by decide +kernel), List.mem_of_getElem? (i := 1088) (by decide +kernel)⟩
theorem lw_p35 : lw_okq (⟨"SymbolLinkerModel", "labelAddress", "(I)I"⟩, 49) := ⟨⟨by decide +kernel, by decide +kernel⟩, List.mem_of_getElem? (i := 826) (by decide +kernel), List.mem_of_getElem? (i := 1091) (by decide +kernel), List.mem_of_getElem? (i := 1092) (by decide +kernel)⟩
theorem lw_p36 : lw_okq (⟨"SymbolLinkerModel", "keepNames", "()V"⟩, 49) := ⟨⟨by decide +kernel, by decide +kernel⟩, List.mem_of_getElem? (i := 826) (by decide +kernel), List.mem_of_getElem? (i := 1095) (by decide +kernel), List.mem_of_getElem? (i := 1096) (by decide +kernel)⟩
def lw_privs_3 : List (MethodName × Nat) := [(⟨"SymbolLinkerModel", "layOut", "()V"⟩, 49), (⟨"SymbolLinkerModel", "findWrong", "()V"⟩, 49), (⟨"SymbolLinkerModel", "valueOf", "(I)J"⟩, 49), (⟨"SymbolLinkerModel", "labelAddress", "(I)I"⟩, 49), (⟨"SymbolLinkerModel", "keepNames", "()V"⟩, 49)]
theorem lw_r3 : ∀ q ∈ lw_privs_3, lw_okq q := List.forall_mem_cons.mpr ⟨lw_p32, List.forall_mem_cons.mpr ⟨lw_p33, List.forall_mem_cons.mpr ⟨lw_p34, List.forall_mem_cons.mpr ⟨lw_p35, List.forall_mem_cons.mpr ⟨lw_p36, fun _ h => absurd h List.not_mem_nil⟩⟩⟩⟩⟩
def lw_privs : List (MethodName × Nat) := lw_privs_1 ++ (lw_privs_2 ++ (lw_privs_3))
def lw_tbl : List Cond := k2_sels lw_privs ++ tables_1
theorem lw_privs_ok : ∀ q ∈ lw_privs, lw_okq q := by
  show ∀ q ∈ lw_privs_1 ++ (lw_privs_2 ++ (lw_privs_3)), lw_okq q
  exact List.forall_mem_append.mpr ⟨lw_r1, List.forall_mem_append.mpr ⟨lw_r2, lw_r3⟩⟩
-- ===== end of PART A; then your names; then what follows =====
end
section
def T_L : u_T := fun k => match k with
  | 0 => ("SymbolLinker", "units", "Ljava/util/ArrayList;", true)
  | 1 => ("SymbolLinker", "names", "Ljava/util/ArrayList;", true)
  | 2 => ("SymbolLinker", "waits", "Ljava/util/ArrayList;", true)
  | 3 => ("SymbolLinker", "starts", "Ljava/util/ArrayList;", true)
  | 4 => ("SymbolLinker", "latestFault", "LSymbolLinker$Fault;", true)
  | 5 => ("SymbolLinker", "image", "LSymbolLinker$Image;", true)
  | 6 => ("SymbolLinker", "plan", "[I", true)
  | 7 => ("SymbolLinker", "bytes", "[B", false)
  | 8 => ("SymbolLinker", "bytesUsed", "I", false)
  | 9 => ("SymbolLinker", "symbolCount", "I", false)
  | _ => ("SymbolLinker", "lastEnd", "I", false)
def ty_L : Nat → FieldType := fun k => match k with
  | 0 => .object "java/util/ArrayList"
  | 1 => .object "java/util/ArrayList"
  | 2 => .object "java/util/ArrayList"
  | 3 => .object "java/util/ArrayList"
  | 4 => .object "SymbolLinker$Fault"
  | 5 => .object "SymbolLinker$Image"
  | 6 => .array .int
  | 7 => .array .byte
  | 8 => .int
  | 9 => .int
  | _ => .int
def T_JArrayList : u_T := fun k => match k with
  | 0 => ("java/util/ArrayList", "elementData", "[Ljava/lang/Object;", false)
  | 1 => ("java/util/ArrayList", "size", "I", false)
  | _ => ("java/util/AbstractList", "modCount", "I", false)
def ty_JArrayList : Nat → FieldType := fun k => match k with
  | 0 => .array (.object "java/lang/Object")
  | 1 => .int
  | _ => .int
def T_Fault : u_T := fun k => match k with
  | 0 => ("SymbolLinker$Fault", "kind", "I", false)
  | 1 => ("SymbolLinker$Fault", "line", "I", false)
  | _ => ("SymbolLinker$Fault", "unit", "I", false)
def ty_Fault : Nat → FieldType := fun k => match k with
  | 0 => .int
  | 1 => .int
  | _ => .int
def T_Image : u_T := fun k => match k with
  | 0 => ("SymbolLinker$Image", "parts", "[I", true)
  | 1 => ("SymbolLinker$Image", "bytes", "[B", false)
  | 2 => ("SymbolLinker$Image", "nameCount", "I", false)
  | 3 => ("SymbolLinker$Image", "nameWords", "[J", false)
  | 4 => ("SymbolLinker$Image", "nameLengths", "[I", false)
  | 5 => ("SymbolLinker$Image", "nameAddresses", "[I", false)
  | 6 => ("SymbolLinker$Image", "startCount", "I", false)
  | 7 => ("SymbolLinker$Image", "startOffsets", "[I", false)
  | _ => ("SymbolLinker$Image", "startLines", "[I", false)
def ty_Image : Nat → FieldType := fun k => match k with
  | 0 => .array .int
  | 1 => .array .byte
  | 2 => .int
  | 3 => .array .long
  | 4 => .array .int
  | 5 => .array .int
  | 6 => .int
  | 7 => .array .int
  | _ => .array .int
def T_Unit : u_T := fun k => match k with
  | 0 => ("SymbolLinker$Unit", "number", "I", true)
  | 1 => ("SymbolLinker$Unit", "library", "Z", true)
  | 2 => ("SymbolLinker$Unit", "sections", "[LSymbolLinker$Section;", true)
  | 3 => ("SymbolLinker$Unit", "symbols", "Ljava/util/ArrayList;", true)
  | _ => ("SymbolLinker$Unit", "taken", "Z", false)
def ty_Unit : Nat → FieldType := fun k => match k with
  | 0 => .int
  | 1 => .boolean
  | 2 => .array (.object "SymbolLinker$Section")
  | 3 => .object "java/util/ArrayList"
  | _ => .boolean
def T_Section : u_T := fun k => match k with
  | 0 => ("SymbolLinker$Section", "unit", "LSymbolLinker$Unit;", true)
  | 1 => ("SymbolLinker$Section", "size", "I", true)
  | 2 => ("SymbolLinker$Section", "firstByte", "I", true)
  | 3 => ("SymbolLinker$Section", "kept", "Z", false)
  | 4 => ("SymbolLinker$Section", "needed", "Z", false)
  | _ => ("SymbolLinker$Section", "begin", "I", false)
def ty_Section : Nat → FieldType := fun k => match k with
  | 0 => .object "SymbolLinker$Unit"
  | 1 => .int
  | 2 => .int
  | 3 => .boolean
  | 4 => .boolean
  | _ => .int
def T_Name : u_T := fun k => match k with
  | 0 => ("SymbolLinker$Name", "word", "J", true)
  | 1 => ("SymbolLinker$Name", "length", "I", true)
  | 2 => ("SymbolLinker$Name", "missed", "Z", false)
  | 3 => ("SymbolLinker$Name", "had", "Z", false)
  | 4 => ("SymbolLinker$Name", "firstGlobal", "LSymbolLinker$Symbol;", false)
  | _ => ("SymbolLinker$Name", "firstWeak", "LSymbolLinker$Symbol;", false)
def ty_Name : Nat → FieldType := fun k => match k with
  | 0 => .long
  | 1 => .int
  | 2 => .boolean
  | 3 => .boolean
  | 4 => .object "SymbolLinker$Symbol"
  | _ => .object "SymbolLinker$Symbol"
def T_Symbol : u_T := fun k => match k with
  | 0 => ("SymbolLinker$Symbol", "name", "LSymbolLinker$Name;", true)
  | 1 => ("SymbolLinker$Symbol", "global", "Z", true)
  | 2 => ("SymbolLinker$Symbol", "weak", "Z", true)
  | 3 => ("SymbolLinker$Symbol", "section", "LSymbolLinker$Section;", true)
  | 4 => ("SymbolLinker$Symbol", "place", "I", true)
  | _ => ("SymbolLinker$Symbol", "line", "I", true)
def ty_Symbol : Nat → FieldType := fun k => match k with
  | 0 => .object "SymbolLinker$Name"
  | 1 => .boolean
  | 2 => .boolean
  | 3 => .object "SymbolLinker$Section"
  | 4 => .int
  | _ => .int
def T_Wait : u_T := fun k => match k with
  | 0 => ("SymbolLinker$Wait", "home", "LSymbolLinker$Section;", true)
  | 1 => ("SymbolLinker$Wait", "place", "I", true)
  | 2 => ("SymbolLinker$Wait", "size", "I", true)
  | 3 => ("SymbolLinker$Wait", "number", "J", true)
  | 4 => ("SymbolLinker$Wait", "line", "I", true)
  | 5 => ("SymbolLinker$Wait", "next", "I", false)
  | 6 => ("SymbolLinker$Wait", "symbol", "LSymbolLinker$Symbol;", false)
  | _ => ("SymbolLinker$Wait", "beginning", "LSymbolLinker$Section;", false)
def ty_Wait : Nat → FieldType := fun k => match k with
  | 0 => .object "SymbolLinker$Section"
  | 1 => .int
  | 2 => .int
  | 3 => .long
  | 4 => .int
  | 5 => .int
  | 6 => .object "SymbolLinker$Symbol"
  | _ => .object "SymbolLinker$Section"
def T_Start : u_T := fun k => match k with
  | 0 => ("SymbolLinker$Start", "text", "LSymbolLinker$Section;", true)
  | 1 => ("SymbolLinker$Start", "place", "I", true)
  | _ => ("SymbolLinker$Start", "line", "I", true)
def ty_Start : Nat → FieldType := fun k => match k with
  | 0 => .object "SymbolLinker$Section"
  | 1 => .int
  | _ => .int
def T_JIllegalStateException : u_T := fun k => match k with
  | 0 => ("java/lang/Throwable", "cause", "Ljava/lang/Throwable;", false)
  | 1 => ("java/lang/Throwable", "stackTrace", "[Ljava/lang/StackTraceElement;", false)
  | 2 => ("java/lang/Throwable", "suppressedExceptions", "Ljava/util/List;", false)
  | 3 => ("java/lang/Throwable", "detailMessage", "Ljava/lang/String;", false)
  | 4 => ("java/lang/Throwable", "backtrace", "Ljava/lang/Object;", false)
  | _ => ("java/lang/Throwable", "depth", "I", false)
def ty_JIllegalStateException : Nat → FieldType := fun k => match k with
  | 0 => .object "java/lang/Throwable"
  | 1 => .array (.object "java/lang/StackTraceElement")
  | 2 => .object "java/util/List"
  | 3 => .object "java/lang/String"
  | 4 => .object "java/lang/Object"
  | _ => .int
def T_JNoSuchElementException : u_T := fun k => match k with
  | 0 => ("java/lang/Throwable", "cause", "Ljava/lang/Throwable;", false)
  | 1 => ("java/lang/Throwable", "stackTrace", "[Ljava/lang/StackTraceElement;", false)
  | 2 => ("java/lang/Throwable", "suppressedExceptions", "Ljava/util/List;", false)
  | 3 => ("java/lang/Throwable", "detailMessage", "Ljava/lang/String;", false)
  | 4 => ("java/lang/Throwable", "backtrace", "Ljava/lang/Object;", false)
  | _ => ("java/lang/Throwable", "depth", "I", false)
def ty_JNoSuchElementException : Nat → FieldType := fun k => match k with
  | 0 => .object "java/lang/Throwable"
  | 1 => .array (.object "java/lang/StackTraceElement")
  | 2 => .object "java/util/List"
  | 3 => .object "java/lang/String"
  | 4 => .object "java/lang/Object"
  | _ => .int
def T_M : u_T := fun k => match k with
  | 0 => ("SymbolLinkerModel", "thrown", "I", false)
  | 1 => ("SymbolLinkerModel", "units", "I", false)
  | 2 => ("SymbolLinkerModel", "symbols", "I", false)
  | 3 => ("SymbolLinkerModel", "waits", "I", false)
  | 4 => ("SymbolLinkerModel", "starts", "I", false)
  | 5 => ("SymbolLinkerModel", "bytes", "I", false)
  | 6 => ("SymbolLinkerModel", "library", "[Z", true)
  | 7 => ("SymbolLinkerModel", "kept", "[Z", true)
  | 8 => ("SymbolLinkerModel", "taken", "[Z", true)
  | 9 => ("SymbolLinkerModel", "need", "[Z", true)
  | 10 => ("SymbolLinkerModel", "size", "[I", true)
  | 11 => ("SymbolLinkerModel", "begin", "[I", true)
  | 12 => ("SymbolLinkerModel", "address", "[I", true)
  | 13 => ("SymbolLinkerModel", "data", "[B", true)
  | 14 => ("SymbolLinkerModel", "name", "[J", true)
  | 15 => ("SymbolLinkerModel", "nameSize", "[I", true)
  | 16 => ("SymbolLinkerModel", "unitOf", "[I", true)
  | 17 => ("SymbolLinkerModel", "marks", "[I", true)
  | 18 => ("SymbolLinkerModel", "section", "[I", true)
  | 19 => ("SymbolLinkerModel", "place", "[I", true)
  | 20 => ("SymbolLinkerModel", "lineOf", "[I", true)
  | 21 => ("SymbolLinkerModel", "firstSymbol", "[I", true)
  | 22 => ("SymbolLinkerModel", "waitUnit", "[I", true)
  | 23 => ("SymbolLinkerModel", "waitSection", "[I", true)
  | 24 => ("SymbolLinkerModel", "waitPlace", "[I", true)
  | 25 => ("SymbolLinkerModel", "waitSize", "[I", true)
  | 26 => ("SymbolLinkerModel", "waitNext", "[I", true)
  | 27 => ("SymbolLinkerModel", "waitWhat", "[I", true)
  | 28 => ("SymbolLinkerModel", "waitLine", "[I", true)
  | 29 => ("SymbolLinkerModel", "waitValue", "[J", true)
  | 30 => ("SymbolLinkerModel", "startUnit", "[I", true)
  | 31 => ("SymbolLinkerModel", "startPlace", "[I", true)
  | 32 => ("SymbolLinkerModel", "startLine", "[I", true)
  | 33 => ("SymbolLinkerModel", "faultKind", "I", false)
  | 34 => ("SymbolLinkerModel", "faultLine", "I", false)
  | 35 => ("SymbolLinkerModel", "faultUnit", "I", false)
  | 36 => ("SymbolLinkerModel", "judged", "I", false)
  | 37 => ("SymbolLinkerModel", "judgedNeed", "[Z", true)
  | 38 => ("SymbolLinkerModel", "made", "Z", false)
  | 39 => ("SymbolLinkerModel", "end", "I", false)
  | 40 => ("SymbolLinkerModel", "image", "[B", true)
  | 41 => ("SymbolLinkerModel", "parts", "[I", true)
  | 42 => ("SymbolLinkerModel", "names", "I", false)
  | 43 => ("SymbolLinkerModel", "lines", "I", false)
  | 44 => ("SymbolLinkerModel", "imageName", "[J", true)
  | 45 => ("SymbolLinkerModel", "imageNameSize", "[I", true)
  | 46 => ("SymbolLinkerModel", "imageAddress", "[I", true)
  | 47 => ("SymbolLinkerModel", "linePlace", "[I", true)
  | _ => ("SymbolLinkerModel", "lineNumber", "[I", true)
def ty_M : Nat → FieldType := fun k => match k with
  | 0 => .int
  | 1 => .int
  | 2 => .int
  | 3 => .int
  | 4 => .int
  | 5 => .int
  | 6 => .array .boolean
  | 7 => .array .boolean
  | 8 => .array .boolean
  | 9 => .array .boolean
  | 10 => .array .int
  | 11 => .array .int
  | 12 => .array .int
  | 13 => .array .byte
  | 14 => .array .long
  | 15 => .array .int
  | 16 => .array .int
  | 17 => .array .int
  | 18 => .array .int
  | 19 => .array .int
  | 20 => .array .int
  | 21 => .array .int
  | 22 => .array .int
  | 23 => .array .int
  | 24 => .array .int
  | 25 => .array .int
  | 26 => .array .int
  | 27 => .array .int
  | 28 => .array .int
  | 29 => .array .long
  | 30 => .array .int
  | 31 => .array .int
  | 32 => .array .int
  | 33 => .int
  | 34 => .int
  | 35 => .int
  | 36 => .int
  | 37 => .array .boolean
  | 38 => .boolean
  | 39 => .int
  | 40 => .array .byte
  | 41 => .array .int
  | 42 => .int
  | 43 => .int
  | 44 => .array .long
  | 45 => .array .int
  | 46 => .array .int
  | 47 => .array .int
  | _ => .array .int
abbrev classes : List vw_C := [("SymbolLinker", T_L, 11), ("java/util/ArrayList", T_JArrayList, 3), ("SymbolLinker$Fault", T_Fault, 3), ("SymbolLinker$Image", T_Image, 9), ("SymbolLinker$Unit", T_Unit, 5), ("SymbolLinker$Section", T_Section, 6), ("SymbolLinker$Name", T_Name, 6), ("SymbolLinker$Symbol", T_Symbol, 6), ("SymbolLinker$Wait", T_Wait, 8), ("SymbolLinker$Start", T_Start, 3), ("java/lang/IllegalStateException", T_JIllegalStateException, 6), ("java/util/NoSuchElementException", T_JNoSuchElementException, 6), ("SymbolLinkerModel", T_M, 49)]
end
section
/-! The abstract layer: one picture of the whole heap from the law's start on (ax_H), one judgement of the machine over it (AW), contracts over it (AM). -/
abbrev ax_A : Type := (Nat → Int32) ⊕ (Nat → Int64) ⊕ (Nat → UInt32) ⊕ (Nat → UInt64) ⊕ (Nat → Option Nat)
/-- a cell: an array (its component type, length, contents), or an object (the number of its class, its fields) -/
abbrev ax_E : Type := (FieldType × vp_A) ⊕ (Nat × List Value)
/-- a heap: how many cells there are; how many slots the cells from the base on have; what is known of these -/
abbrev ax_H : Type := Nat × Nat × (Nat → Option ax_E)
/-- what stays over the whole run: the base, the law's start, the classes' numbers and slots, the launch, the start's arguments -/
abbrev ax_G : Type := Nat × State × va_G × Launch × Array Value
/-- what stays over a method's run -/
abbrev ax_X : Type := Program × Env × State × MethodId × Array Value × List Frame × Method × Code
/-- a method: its name, code, locals, type -/
abbrev ax_Y : Type := MethodName × ByteArray × Nat × Option FieldType
def ax_v (f : ax_A) (j : Nat) : Value := match f with
  | .inl f => .int (f j)
  | .inr (.inl f) => .long (f j)
  | .inr (.inr (.inl f)) => .float (f j)
  | .inr (.inr (.inr (.inl f))) => .double (f j)
  | .inr (.inr (.inr (.inr f))) => va_rf (f j)
/-- the class of an array of this type -/
def ax_AK (s : State) (c : ClassId) (ty : FieldType) : Prop := ∃ (k : Class) (comp : ClassId), s.vm.classes[c]? = some k ∧ k.kind = .array comp ty ∧ ∀ C, ty = .object C → s.vm.findClass C = some comp
theorem ax_AK.moved {u U : State} (hvm : u.vm.Alike U.vm) {c : ClassId} {ty : FieldType} (h : ax_AK u c ty) : ax_AK U c ty := by
  obtain ⟨k, comp, h1, h2, h3⟩ := h
  obtain ⟨k', hk', he⟩ := hvm.2.2 _ _ h1
  exact ⟨k', comp, hk', by rw [he]; exact h2, fun C e => by rw [hvm.findClass]; exact h3 C e⟩
theorem ax_AK.arr {s : State} {cA : ClassId} {ty : FieldType} (h : ax_AK s cA ty) (n : Nat) (f : Nat → Value) : s.isArrayOf (arrV cA n f) ty := by
  obtain ⟨k, comp, h1, h2, -⟩ := h
  exact ⟨fun q hq => (by cases hq), k, h1, comp, h2⟩
def ax_at (G : ax_G) (a : Nat) (E : ax_E) (H : Heap) : Prop := match E with
  | .inl z => ∃ cA : ClassId, H[a]? = some (arrV cA z.2.1 (ax_v z.2.2)) ∧ ax_AK G.2.1 cA z.1
  | .inr o => ∃ r : vw_C, classes[o.1]? = some r ∧ t_OB a (G.2.2.1.1 o.1) r.2.2 (G.2.2.1.2 o.1) H (vp_V o.2)
theorem ax_at.kept {G : ax_G} {a : Nat} {E : ax_E} {H H1 : Heap} (h : ax_at G a E H) (hq : H1[a]? = H[a]?) : ax_at G a E H1 := by
  cases E with
  | inl z =>
    obtain ⟨cell, h1, h2⟩ := h
    exact ⟨cell, by rw [hq]; exact h1, h2⟩
  | inr o =>
    obtain ⟨r, h1, h2⟩ := h
    exact ⟨r, h1, h2.kept hq⟩
theorem ax_at.lt {G : ax_G} {a : Nat} {E : ax_E} {H : Heap} (h : ax_at G a E H) : a < H.size := by
  cases E with
  | inl z =>
    obtain ⟨cell, h1, h2⟩ := h
    exact (Array.getElem?_eq_some_iff.mp h1).1
  | inr o =>
    obtain ⟨r, h1, cell, h2, -⟩ := h
    exact (Array.getElem?_eq_some_iff.mp h2).1
/-- how many slots the cells from b on have -/
def ax_sz (b : Nat) (H : Heap) : Nat := ((H.toList.map (fun c : Cell => c.slots.size)).drop b).sum
theorem ax_sz_same {b : Nat} {H H1 : Heap} (h : ∀ q : Nat, (H1[q]?).map (fun c : Cell => c.slots.size) = (H[q]?).map (fun c : Cell => c.slots.size)) : ax_sz b H1 = ax_sz b H := by
  have e : H1.toList.map (fun c : Cell => c.slots.size) = H.toList.map (fun c : Cell => c.slots.size) := by
    apply List.ext_getElem?
    intro q
    have h1 := h q
    rw [List.getElem?_map, List.getElem?_map, Array.getElem?_toList, Array.getElem?_toList]
    exact h1
  unfold ax_sz
  rw [e]
theorem ax_sz_push {b : Nat} {H H1 : Heap} {c : Cell} (hb : b ≤ H.size) (z : H1.size = H.size + 1) (e1 : H1[H.size]? = some c) (o1 : ∀ q : Nat, q < H.size → H1[q]? = H[q]?) : ax_sz b H1 = ax_sz b H + c.slots.size := by
  have e : H1.toList = H.toList ++ [c] := by
    apply List.ext_getElem?
    intro q
    rw [Array.getElem?_toList]
    by_cases h1 : q < H.size
    · rw [List.getElem?_append_left (by simpa using h1), Array.getElem?_toList]
      exact o1 q h1
    · by_cases h2 : q = H.size
      · subst h2
        rw [e1, List.getElem?_append_right (by simp)]
        simp
      · rw [List.getElem?_append_right (by simp; omega), Array.getElem?_eq_none (by omega), List.getElem?_eq_none (by simp; omega)]
  unfold ax_sz
  rw [e, List.map_append, List.drop_append_of_le_length (by simpa using hb), List.sum_append]
  simp
def ax_P (G : ax_G) (h : ax_H) (H : Heap) : Prop := H.size = h.1 ∧ G.1 ≤ h.1 ∧ h.1 ≤ G.1 + room_1.cells ∧ ax_sz G.1 H = h.2.1 ∧ h.2.1 ≤ room_1.slots ∧ (∀ (a : Nat) (E : ax_E), h.2.2 a = some E → G.1 ≤ a ∧ ax_at G a E H) ∧ ∀ q : Nat, q < G.1 → H[q]? = G.2.1.heap[q]?
theorem ax_P.at {G : ax_G} {h : ax_H} {H : Heap} (hP : ax_P G h H) {a : Nat} {E : ax_E} (ha : h.2.2 a = some E) : G.1 ≤ a ∧ ax_at G a E H := hP.2.2.2.2.2.1 a E ha
def ax_set (h : ax_H) (a : Nat) (E : ax_E) : ax_H := (h.1, h.2.1, va_up h.2.2 a (some E))
def ax_new (h : ax_H) (E : ax_E) (n : Nat) : ax_H := (h.1 + 1, h.2.1 + n, va_up h.2.2 h.1 (some E))
theorem ax_P.set {G : ax_G} {h : ax_H} {H H1 : Heap} {a : Nat} {E0 E : ax_E} (hP : ax_P G h H) (ha : h.2.2 a = some E0) {cell cell1 : Cell} (hc : H[a]? = some cell) (hc1 : H1[a]? = some cell1) (hz : cell1.slots.size = cell.slots.size) (z : H1.size = H.size) (oq : ∀ q : Nat, q ≠ a → H1[q]? = H[q]?) (he : ax_at G a E H1) : ax_P G (ax_set h a E) H1 := by
  obtain ⟨p1, p2, p3, p4, p5, p6, p7⟩ := hP
  refine ⟨z.trans p1, p2, p3, ?_, p5, ?_, fun q hq => (oq q (fun e => by have := (p6 a _ ha).1; omega)).trans (p7 q hq)⟩
  · show ax_sz G.1 H1 = h.2.1
    rw [← p4]
    refine ax_sz_same (fun q => ?_)
    by_cases hq : q = a
    · subst hq
      rw [hc, hc1]
      simp [hz]
    · rw [oq q hq]
  · intro q F hF
    have hF : va_up h.2.2 a (some E) q = some F := hF
    by_cases hq : q = a
    · subst hq
      rw [va_up_self] at hF
      cases hF
      exact ⟨(p6 q _ ha).1, he⟩
    · rw [va_up_ne _ _ hq] at hF
      exact ⟨(p6 q F hF).1, (p6 q F hF).2.kept (oq q hq)⟩
theorem ax_P.push {G : ax_G} {h : ax_H} {H H1 : Heap} {E : ax_E} {n : Nat} (hP : ax_P G h H) {cell1 : Cell} (e1 : H1[H.size]? = some cell1) (hn : cell1.slots.size = n) (z : H1.size = H.size + 1) (oq : ∀ q : Nat, q < H.size → H1[q]? = H[q]?) (hc : h.1 + 1 ≤ G.1 + room_1.cells) (hs : h.2.1 + n ≤ room_1.slots) (he : ax_at G H.size E H1) : ax_P G (ax_new h E n) H1 := by
  obtain ⟨p1, p2, p3, p4, p5, p6, p7⟩ := hP
  refine ⟨by show H1.size = h.1 + 1; rw [z, p1], by show G.1 ≤ h.1 + 1; omega, hc, ?_, hs, ?_, fun q hq => (oq q (by omega)).trans (p7 q hq)⟩
  · show ax_sz G.1 H1 = h.2.1 + n
    rw [ax_sz_push (by rw [p1]; exact p2) z e1 oq, p4, hn]
  · intro q F hF
    have hF : va_up h.2.2 h.1 (some E) q = some F := hF
    by_cases hq : q = h.1
    · subst hq
      rw [va_up_self] at hF
      cases hF
      rw [p1] at he
      exact ⟨p2, he⟩
    · rw [va_up_ne _ _ hq] at hF
      have h1 := p6 q F hF
      exact ⟨h1.1, h1.2.kept (oq q h1.2.lt)⟩
/-- what the law's start gives: the words, the nest mates' words, the classes -/
def ax_G0 (G : ax_G) : Prop := (∀ w ∈ lw_tbl, w.before G.2.2.2.2 G.2.1 = true) ∧ va_K G.2.2.1 classes [] G.2.1
/-- a state of the run: its heap's picture, its tables warmed since the law's start -/
def ax_U (G : ax_G) (h : ax_H) (U : State) : Prop := ax_P G h U.heap ∧ G.2.1.WarmedH U.vm ∧ ax_G0 G
def ax_R (fr lo : Nat) (G : ax_G) (h : ax_H) : Room := { frames := fr, cells := room_1.cells - (h.1 - G.1), slots := room_1.slots - h.2.1, locals := lo }
def ax_Q (G : ax_G) (h0 : ax_H) (P : Option Value → ax_H → Prop) : Array Value → State → Outcome → State → Prop := fun _ _ oc t => ∃ (v : Option Value) (h : ax_H), oc = .returned v ∧ P v h ∧ h0.1 ≤ h.1 ∧ h0.2.1 ≤ h.2.1 ∧ ax_U G h t
/-- A CONTRACT: called with the values av in the heap h (with room for fr frames of lo words): it returns v in a heap h' with P v h' -/
def AM (G : ax_G) (Y : ax_Y) (fr lo : Nat) (av : List Value) (h : ax_H) (P : Option Value → ax_H → Prop) : Prop :=
  Met G.2.2.2.1 Y.1 [.code Y.1 Y.2.1 Y.2.2.1 Y.2.2.2] (ax_R fr lo G h) (va_Pc av (ax_U G h)) (ax_Q G h P) (room_1.cells - (h.1 - G.1)) (room_1.slots - h.2.1) (fun q => G.1 ≤ q)
/-- the locals, by their places: a value that is known, or none -/
def ax_L (lsr : Array Slot) (nL : Nat) (ls : List (Option Value)) : Prop := ∃ l : List (Nat × Value), lv_has lsr nL l ∧ ∀ (i : Nat) (v : Value), ls[i]? = some (some v) → (i, v) ∈ l
theorem ax_L.at {lsr : Array Slot} {nL : Nat} {ls : List (Option Value)} (h : ax_L lsr nL ls) {i : Nat} {v : Value} (hi : ls[i]? = some (some v)) : lsr[i]? = some (.val v) := by
  obtain ⟨l, h1, h2⟩ := h
  exact h1.2.2 (i, v) (h2 i v hi)
theorem ax_L.size {lsr : Array Slot} {nL : Nat} {ls : List (Option Value)} (h : ax_L lsr nL ls) : lsr.size = nL := by
  obtain ⟨l, h1, h2⟩ := h
  exact h1.1
/-- the place before holds no long -/
def ax_c1 (ls : List (Option Value)) (i : Nat) : Prop := ∀ (j : Nat) (w : Value), j + 1 = i → ls[j]? = some (some w) → w.category = 1
theorem ax_c1_0 {ls : List (Option Value)} : ax_c1 ls 0 := fun j w e => absurd e (Nat.succ_ne_zero j)
theorem ax_c1_n {ls : List (Option Value)} {i : Nat} (h : ls[i]? = some none) : ax_c1 ls (i + 1) := fun j w e h1 => by
  cases e
  rw [h] at h1
  cases h1
theorem ax_c1_v {ls : List (Option Value)} {i : Nat} {v : Value} (h : ls[i]? = some (some v)) (hv : v.category = 1) : ax_c1 ls (i + 1) := fun j w e h1 => by
  cases e
  rw [h] at h1
  cases h1
  exact hv
theorem ax_rf1 (r : Option Nat) : (va_rf r).category = 1 := by cases r <;> rfl
theorem ax_c1_q {ls : List (Option Value)} {i : Nat} {r : Option Nat} (h : ls[i]? = some (some (va_rf r))) : ax_c1 ls (i + 1) := ax_c1_v h (ax_rf1 r)
theorem ax_L.fewer {lsr : Array Slot} {nL : Nat} {ls ls' : List (Option Value)} (h : ax_L lsr nL ls) (hs : ∀ (i : Nat) (v : Value), ls'[i]? = some (some v) → ls[i]? = some (some v)) : ax_L lsr nL ls' := by
  obtain ⟨l, h1, h2⟩ := h
  exact ⟨l, h1, fun i v hi => h2 i v (hs i v hi)⟩
theorem ax_L.st1 {lsr : Array Slot} {nL : Nat} {ls : List (Option Value)} (l : List (Nat × Value)) (h2 : ∀ (i : Nat) (v : Value), ls[i]? = some (some v) → (i, v) ∈ l) {i : Nat} {v : Value} (hc : ax_c1 ls i) (h' : lv_has lsr nL ((i, v) :: l.filter (fun q => !(q.1 == i) && !(q.1 + 1 == i && q.2.category == 2)))) : ax_L lsr nL (ls.set i (some v)) := by
  refine ⟨_, h', fun j w hj => ?_⟩
  by_cases hji : j = i
  · subst hji
    by_cases hl : j < ls.length
    · rw [List.getElem?_set_self hl] at hj
      cases hj
      exact List.mem_cons_self
    · rw [List.getElem?_eq_none (by simp; omega)] at hj
      cases hj
  · rw [List.getElem?_set_ne (Ne.symm hji)] at hj
    refine List.mem_cons_of_mem _ (List.mem_filter.mpr ⟨h2 j w hj, ?_⟩)
    have hb : (j == i) = false := by simp [hji]
    by_cases h1 : j + 1 = i
    · have hw := hc j w h1 hj
      simp [hb, hw]
    · have hb1 : (j + 1 == i) = false := by simp [h1]
      simp [hb, hb1]
theorem ax_L.st2 {lsr : Array Slot} {nL : Nat} {ls : List (Option Value)} (l : List (Nat × Value)) (h2 : ∀ (i : Nat) (v : Value), ls[i]? = some (some v) → (i, v) ∈ l) {i : Nat} {v : Value} (hc : ax_c1 ls i) (h' : lv_has lsr nL ((i, v) :: l.filter (fun q => !(q.1 == i) && (!(q.1 == i + 1) && !(q.1 + 1 == i && q.2.category == 2))))) : ax_L lsr nL ((ls.set i (some v)).set (i + 1) none) := by
  refine ⟨_, h', fun j w hj => ?_⟩
  by_cases hj1 : j = i + 1
  · subst hj1
    by_cases hl : i + 1 < (ls.set i (some v)).length
    · rw [List.getElem?_set_self hl] at hj
      cases hj
    · rw [List.getElem?_eq_none (by simp at hl ⊢; omega)] at hj
      cases hj
  · rw [List.getElem?_set_ne (Ne.symm hj1)] at hj
    by_cases hji : j = i
    · subst hji
      by_cases hl : j < ls.length
      · rw [List.getElem?_set_self hl] at hj
        cases hj
        exact List.mem_cons_self
      · rw [List.getElem?_eq_none (by simp; omega)] at hj
        cases hj
    · rw [List.getElem?_set_ne (Ne.symm hji)] at hj
      refine List.mem_cons_of_mem _ (List.mem_filter.mpr ⟨h2 j w hj, ?_⟩)
      have hb : (j == i) = false := by simp [hji]
      have hb2 : (j == i + 1) = false := by simp [hj1]
      by_cases h1 : j + 1 = i
      · have hw := hc j w h1 hj
        simp [hb, hb2, hw]
      · have hb1 : (j + 1 == i) = false := by simp [h1]
        simp [hb, hb1, hb2]
/-- what holds in a method's body -/
def ax_C (G : ax_G) (x : ax_X) (Y : ax_Y) (h0 : ax_H) : Prop :=
  x.1.tables.exec = Jvm.exec ∧ x.2.2.2.2.2.2.2.code = Y.2.1 ∧ x.2.2.2.2.2.2.2.maxLocals = Y.2.2.1 ∧ x.2.2.1.vm.findClass Y.1.cls = some x.2.2.2.1.cls ∧ G.2.1.WarmedH x.2.2.1.vm ∧ ax_G0 G ∧ x.2.2.2.2.2.2.1.locks = false ∧ x.2.2.2.2.2.2.1.sig.returnType = Y.2.2.2 ∧ x.2.2.2.2.2.2.1.name = Y.1.name ∧ ax_P G h0 x.2.2.1.heap
/-- THE JUDGEMENT: in the body of Y that began in the heap h0, now at pc in the heap h, with the locals ls and the operands st: it comes to an end with P -/
def AW (G : ax_G) (x : ax_X) (Y : ax_Y) (fr lo : Nat) (h0 : ax_H) (P : Option Value → ax_H → Prop) (h : ax_H) (pc : Nat) (ls : List (Option Value)) (st : List Value) : Prop :=
  ax_C G x Y h0 → h0.1 ≤ h.1 → h0.2.1 ≤ h.2.1 → ∀ (H : Heap) (locs : List Loc) (lsr : Array Slot), ax_P G h H → (∀ q ∈ locs, G.1 ≤ q.base) → ax_L lsr Y.2.2.1 ls →
    W x.1 G.2.2.2.1 x.2.1 (ax_R fr lo G h0) x.2.2.1 x.2.2.2.1 x.2.2.2.2.1 x.2.2.2.2.2.1 x.2.2.2.2.2.2.1 x.2.2.2.2.2.2.2 H locs (h.1 - h0.1) (h.2.1 - h0.2.1)
      (MQ x.2.2.2.2.2.1 (ax_Q G h0 P) x.2.2.2.2.1 x.2.2.1 (room_1.cells - (h0.1 - G.1)) (room_1.slots - h0.2.1) (fun q => G.1 ≤ q)) (F0 x.2.2.2.1 pc lsr st)
theorem aw_met {G : ax_G} {Y : ax_Y} {fr lo : Nat} {av : List Value} {h : ax_H} {P : Option Value → ax_H → Prop} (hy : plainName Y.1.cls = true) (hn : (lg_sl av).length ≤ Y.2.2.1) {ls : List (Option Value)} (hls : ∀ (i : Nat) (v : Value), ls[i]? = some (some v) → (i, v) ∈ lv_args 0 av) (k : ∀ x : ax_X, AW G x Y fr lo h P h 0 ls []) : AM G Y fr lo av h P := by
  refine Met.ofW (cc := Y.2.1) (maxL := Y.2.2.1) (ret := Y.2.2.2) hy rfl ?_
  intro p e s m args below meth c s₁ B hml hv
  obtain ⟨rfl, hP, hW, hG⟩ := hv
  have hown : s.vm.findClass Y.1.cls = some m.cls := findClass_of_methodNamed B.named
  have hnm : meth.name = Y.1.name := (name_of_methodNamed B.named B.method).1
  rw [lg_entry_eq]
  have h1 := k (p, e, s, m, av.toArray, below, meth, c) ⟨B.exec, B.bytes, hml, hown, hW, hG, B.notSynchronized, B.returns, hnm, hP⟩ (Nat.le_refl _) (Nat.le_refl _) s.heap [] _ hP (fun q h => by cases h) ⟨_, lv_entry av hn, hls⟩
  rw [Nat.sub_self, Nat.sub_self] at h1
  exact h1
/-- the words, at any state of the run -/
theorem ax_word {G : ax_G} {U : State} (hW : G.2.1.WarmedH U.vm) (hG : ax_G0 G) {w : Cond} (hw : w ∈ lw_tbl) (hg : goodWord w = true) (a' : Array Value) : w.before a' U = true := word_at hW (good_of_word hg) (hG.1 w hw)
theorem ax_kn {G : ax_G} {U : State} (hW : G.2.1.WarmedH U.vm) (hG : ax_G0 G) : va_K G.2.2.1 classes [] U := va_K.moved hW.alike hG.2
theorem ax_tight {p : Program} {l : Launch} {e : Env} {R : Room} {s : State} {m : MethodId} {args : Array Value} {below : List Frame} {meth : Method} {c : Code} {T : State} {locs : List Loc} {cells slots k n : Nat} (X : Stand p l e R s m args below meth c T locs cells slots) (h1 : T.heap.size ≤ s.heap.size + k) (h2 : ax_sz s.heap.size T.heap ≤ n) : Stand p l e R s m args below meth c T locs k n := by
  have hs := X.same
  obtain ⟨a1, a2, a3, a4, a5, a6⟩ := hs
  refine { X with same := ⟨a1, a2, h1, a4, ?_, a6⟩ }
  have h3 : ((T.heap.toList.drop s.heap.size).map (fun c : Cell => c.slots.size)).sum ≤ n := by
    unfold ax_sz at h2
    rw [← List.map_drop] at h2
    exact h2
  exact h3
theorem ax_sz_split {p : Program} {l : Launch} {e : Env} {R : Room} {s : State} {m : MethodId} {args : Array Value} {below : List Frame} {meth : Method} {c : Code} {T : State} {locs : List Loc} {cells slots : Nat} (X : Stand p l e R s m args below meth c T locs cells slots) {b : Nat} (hb : b ≤ s.heap.size) : ax_sz b T.heap = ax_sz b s.heap + ax_sz s.heap.size T.heap := by
  have hs := X.same
  obtain ⟨-, a2, -, -, -, a6⟩ := hs
  have a2 : s.heap.size ≤ T.heap.size := a2
  have key : (T.heap.toList.map (fun c : Cell => c.slots.size)).take s.heap.size = s.heap.toList.map (fun c : Cell => c.slots.size) := by
    apply List.ext_getElem?
    intro q
    by_cases hq : q < s.heap.size
    · rw [List.getElem?_take_of_lt hq, List.getElem?_map, List.getElem?_map, Array.getElem?_toList, Array.getElem?_toList]
      obtain ⟨c', h1, -, h3, -⟩ := a6 q s.heap[q] (Array.getElem?_eq_getElem hq)
      have h1 : T.heap[q]? = some c' := h1
      rw [h1, Array.getElem?_eq_getElem hq]
      simp [h3]
    · rw [List.getElem?_eq_none (by simp; omega), List.getElem?_eq_none (by simp; omega)]
  unfold ax_sz
  rw [← key]
  have e2 : ((T.heap.toList.map (fun c : Cell => c.slots.size)).drop b) = ((T.heap.toList.map (fun c : Cell => c.slots.size)).take s.heap.size).drop b ++ (T.heap.toList.map (fun c : Cell => c.slots.size)).drop s.heap.size := by
    conv => lhs; rw [← List.take_append_drop s.heap.size (T.heap.toList.map (fun c : Cell => c.slots.size))]
    rw [List.drop_append_of_le_length (by simp; omega)]
  rw [e2, List.sum_append]
end
section
section AXR
variable {G : ax_G} {x : ax_X} {Y : ax_Y} {fr lo : Nat} {h0 h : ax_H} {P : Option Value → ax_H → Prop} {pc : Nat} {ls : List (Option Value)} {st : List Value}
theorem aw_iconst {n : Int} {v : Int32} (hd : decode Y.2.1 pc = .ok (.iconst n, 1)) (hv : Int32.ofInt n = v) (k : AW G x Y fr lo h0 P h (pc + 1) ls (.int v :: st)) : AW G x Y fr lo h0 P h pc ls (st) := fun C e1 e2 H locs lsr hP hL hl => lv_iconst C.1 C.2.1 hd hv (k C e1 e2 H locs lsr hP hL hl)
theorem aw_bipush {n : Int} {v : Int32} (hd : decode Y.2.1 pc = .ok (.bipush n, 2)) (hv : (Int8.ofInt n).toInt32 = v) (k : AW G x Y fr lo h0 P h (pc + 2) ls (.int v :: st)) : AW G x Y fr lo h0 P h pc ls (st) := fun C e1 e2 H locs lsr hP hL hl => lv_bipush C.1 C.2.1 hd hv (k C e1 e2 H locs lsr hP hL hl)
theorem aw_sipush {n : Int} {v : Int32} (hd : decode Y.2.1 pc = .ok (.sipush n, 3)) (hv : (Int16.ofInt n).toInt32 = v) (k : AW G x Y fr lo h0 P h (pc + 3) ls (.int v :: st)) : AW G x Y fr lo h0 P h pc ls (st) := fun C e1 e2 H locs lsr hP hL hl => lv_sipush C.1 C.2.1 hd hv (k C e1 e2 H locs lsr hP hL hl)
theorem aw_lconst {n : Fin 2} {v : Int64} (hd : decode Y.2.1 pc = .ok (.lconst n, 1)) (hv : Int64.ofNat (n : Nat) = v) (k : AW G x Y fr lo h0 P h (pc + 1) ls (.long v :: st)) : AW G x Y fr lo h0 P h pc ls (st) := fun C e1 e2 H locs lsr hP hL hl => lv_lconst C.1 C.2.1 hd hv (k C e1 e2 H locs lsr hP hL hl)
theorem aw_null (hd : decode Y.2.1 pc = .ok (.aconst_null, 1)) (k : AW G x Y fr lo h0 P h (pc + 1) ls (.null :: st)) : AW G x Y fr lo h0 P h pc ls (st) := fun C e1 e2 H locs lsr hP hL hl => lv_null C.1 C.2.1 hd (k C e1 e2 H locs lsr hP hL hl)
theorem aw_iload_n {q : Fin 4} {i : Nat} {z : Int32} (hd : decode Y.2.1 pc = .ok (.iload_n q, 1)) (hi : (q : Nat) = i) (hv : ls[i]? = some (some (.int z))) (k : AW G x Y fr lo h0 P h (pc + 1) ls (.int z :: st)) : AW G x Y fr lo h0 P h pc ls st := fun C e1 e2 H locs lsr hP hL hl => lv_iload_n C.1 C.2.1 hd hi (hl.at hv) (k C e1 e2 H locs lsr hP hL hl)
theorem aw_iload {i : Nat} {z : Int32} (hd : decode Y.2.1 pc = .ok (.iload i, 2)) (hv : ls[i]? = some (some (.int z))) (k : AW G x Y fr lo h0 P h (pc + 2) ls (.int z :: st)) : AW G x Y fr lo h0 P h pc ls st := fun C e1 e2 H locs lsr hP hL hl => lv_iload C.1 C.2.1 hd (hl.at hv) (k C e1 e2 H locs lsr hP hL hl)
theorem aw_lload_n {q : Fin 4} {i : Nat} {z : Int64} (hd : decode Y.2.1 pc = .ok (.lload_n q, 1)) (hi : (q : Nat) = i) (hv : ls[i]? = some (some (.long z))) (k : AW G x Y fr lo h0 P h (pc + 1) ls (.long z :: st)) : AW G x Y fr lo h0 P h pc ls st := fun C e1 e2 H locs lsr hP hL hl => lv_lload_n C.1 C.2.1 hd hi (hl.at hv) (k C e1 e2 H locs lsr hP hL hl)
theorem aw_lload {i : Nat} {z : Int64} (hd : decode Y.2.1 pc = .ok (.lload i, 2)) (hv : ls[i]? = some (some (.long z))) (k : AW G x Y fr lo h0 P h (pc + 2) ls (.long z :: st)) : AW G x Y fr lo h0 P h pc ls st := fun C e1 e2 H locs lsr hP hL hl => lv_lload C.1 C.2.1 hd (hl.at hv) (k C e1 e2 H locs lsr hP hL hl)
theorem aw_aload_n {q : Fin 4} {i : Nat} {z : Nat} (hd : decode Y.2.1 pc = .ok (.aload_n q, 1)) (hi : (q : Nat) = i) (hv : ls[i]? = some (some (.ref z))) (k : AW G x Y fr lo h0 P h (pc + 1) ls (.ref z :: st)) : AW G x Y fr lo h0 P h pc ls st := fun C e1 e2 H locs lsr hP hL hl => lv_aload_n C.1 C.2.1 hd hi (hl.at hv) (k C e1 e2 H locs lsr hP hL hl)
theorem aw_aload {i : Nat} {z : Nat} (hd : decode Y.2.1 pc = .ok (.aload i, 2)) (hv : ls[i]? = some (some (.ref z))) (k : AW G x Y fr lo h0 P h (pc + 2) ls (.ref z :: st)) : AW G x Y fr lo h0 P h pc ls st := fun C e1 e2 H locs lsr hP hL hl => lv_aload C.1 C.2.1 hd (hl.at hv) (k C e1 e2 H locs lsr hP hL hl)
theorem aw_aload_nN {q : Fin 4} {i : Nat} (hd : decode Y.2.1 pc = .ok (.aload_n q, 1)) (hi : (q : Nat) = i) (hv : ls[i]? = some (some .null)) (k : AW G x Y fr lo h0 P h (pc + 1) ls (.null :: st)) : AW G x Y fr lo h0 P h pc ls st := fun C e1 e2 H locs lsr hP hL hl => lv_aload_nN C.1 C.2.1 hd hi (hl.at hv) (k C e1 e2 H locs lsr hP hL hl)
theorem aw_aloadN {i : Nat} (hd : decode Y.2.1 pc = .ok (.aload i, 2)) (hv : ls[i]? = some (some .null)) (k : AW G x Y fr lo h0 P h (pc + 2) ls (.null :: st)) : AW G x Y fr lo h0 P h pc ls st := fun C e1 e2 H locs lsr hP hL hl => lv_aloadN C.1 C.2.1 hd (hl.at hv) (k C e1 e2 H locs lsr hP hL hl)
theorem aw_aload_nQ {q : Fin 4} {i : Nat} {r : Option Nat} (hd : decode Y.2.1 pc = .ok (.aload_n q, 1)) (hi : (q : Nat) = i) (hv : ls[i]? = some (some (va_rf r))) (k : AW G x Y fr lo h0 P h (pc + 1) ls (va_rf r :: st)) : AW G x Y fr lo h0 P h pc ls st := by
  cases r with
  | none => exact aw_aload_nN hd hi hv k
  | some z => exact aw_aload_n hd hi hv k
theorem aw_aloadQ {i : Nat} {r : Option Nat} (hd : decode Y.2.1 pc = .ok (.aload i, 2)) (hv : ls[i]? = some (some (va_rf r))) (k : AW G x Y fr lo h0 P h (pc + 2) ls (va_rf r :: st)) : AW G x Y fr lo h0 P h pc ls st := by
  cases r with
  | none => exact aw_aloadN hd hv k
  | some z => exact aw_aload hd hv k
theorem aw_istore_n {q : Fin 4} {i : Nat} {z : Int32} {ls' : List (Option Value)} (hd : decode Y.2.1 pc = .ok (.istore_n q, 1)) (hi : (q : Nat) = i) (hn : i < Y.2.2.1) (hs : ls.set i (some (.int z)) = ls') (k : AW G x Y fr lo h0 P h (pc + 1) ls' st) (hc : ax_c1 ls i := by first | exact ax_c1_0 | exact ax_c1_v rfl rfl | exact ax_c1_q rfl | exact ax_c1_n rfl) : AW G x Y fr lo h0 P h pc ls (.int z :: st) := fun C e1 e2 H locs lsr hP hL hl => by
  subst hs
  obtain ⟨l, h1, h2⟩ := hl
  exact lv_istore_n C.1 C.2.1 hd hi h1 hn rfl (fun lsr' h' => k C e1 e2 H locs lsr' hP hL (ax_L.st1 l h2 hc h'))
theorem aw_istore {i : Nat} {z : Int32} {ls' : List (Option Value)} (hd : decode Y.2.1 pc = .ok (.istore i, 2)) (hn : i < Y.2.2.1) (hs : ls.set i (some (.int z)) = ls') (k : AW G x Y fr lo h0 P h (pc + 2) ls' st) (hc : ax_c1 ls i := by first | exact ax_c1_0 | exact ax_c1_v rfl rfl | exact ax_c1_q rfl | exact ax_c1_n rfl) : AW G x Y fr lo h0 P h pc ls (.int z :: st) := fun C e1 e2 H locs lsr hP hL hl => by
  subst hs
  obtain ⟨l, h1, h2⟩ := hl
  exact lv_istore C.1 C.2.1 hd h1 hn rfl (fun lsr' h' => k C e1 e2 H locs lsr' hP hL (ax_L.st1 l h2 hc h'))
theorem aw_lstore_n {q : Fin 4} {i : Nat} {z : Int64} {ls' : List (Option Value)} (hd : decode Y.2.1 pc = .ok (.lstore_n q, 1)) (hi : (q : Nat) = i) (hn : i + 1 < Y.2.2.1) (hs : (ls.set i (some (.long z))).set (i + 1) none = ls') (k : AW G x Y fr lo h0 P h (pc + 1) ls' st) (hc : ax_c1 ls i := by first | exact ax_c1_0 | exact ax_c1_v rfl rfl | exact ax_c1_q rfl | exact ax_c1_n rfl) : AW G x Y fr lo h0 P h pc ls (.long z :: st) := fun C e1 e2 H locs lsr hP hL hl => by
  subst hs
  obtain ⟨l, h1, h2⟩ := hl
  exact lv_lstore_n C.1 C.2.1 hd hi h1 hn rfl (fun lsr' h' => k C e1 e2 H locs lsr' hP hL (ax_L.st2 l h2 hc h'))
theorem aw_lstore {i : Nat} {z : Int64} {ls' : List (Option Value)} (hd : decode Y.2.1 pc = .ok (.lstore i, 2)) (hn : i + 1 < Y.2.2.1) (hs : (ls.set i (some (.long z))).set (i + 1) none = ls') (k : AW G x Y fr lo h0 P h (pc + 2) ls' st) (hc : ax_c1 ls i := by first | exact ax_c1_0 | exact ax_c1_v rfl rfl | exact ax_c1_q rfl | exact ax_c1_n rfl) : AW G x Y fr lo h0 P h pc ls (.long z :: st) := fun C e1 e2 H locs lsr hP hL hl => by
  subst hs
  obtain ⟨l, h1, h2⟩ := hl
  exact lv_lstore C.1 C.2.1 hd h1 hn rfl (fun lsr' h' => k C e1 e2 H locs lsr' hP hL (ax_L.st2 l h2 hc h'))
theorem aw_astore_n {q : Fin 4} {i : Nat} {z : Nat} {ls' : List (Option Value)} (hd : decode Y.2.1 pc = .ok (.astore_n q, 1)) (hi : (q : Nat) = i) (hn : i < Y.2.2.1) (hs : ls.set i (some (.ref z)) = ls') (k : AW G x Y fr lo h0 P h (pc + 1) ls' st) (hc : ax_c1 ls i := by first | exact ax_c1_0 | exact ax_c1_v rfl rfl | exact ax_c1_q rfl | exact ax_c1_n rfl) : AW G x Y fr lo h0 P h pc ls (.ref z :: st) := fun C e1 e2 H locs lsr hP hL hl => by
  subst hs
  obtain ⟨l, h1, h2⟩ := hl
  exact lv_astore_n C.1 C.2.1 hd hi h1 hn rfl (fun lsr' h' => k C e1 e2 H locs lsr' hP hL (ax_L.st1 l h2 hc h'))
theorem aw_astore {i : Nat} {z : Nat} {ls' : List (Option Value)} (hd : decode Y.2.1 pc = .ok (.astore i, 2)) (hn : i < Y.2.2.1) (hs : ls.set i (some (.ref z)) = ls') (k : AW G x Y fr lo h0 P h (pc + 2) ls' st) (hc : ax_c1 ls i := by first | exact ax_c1_0 | exact ax_c1_v rfl rfl | exact ax_c1_q rfl | exact ax_c1_n rfl) : AW G x Y fr lo h0 P h pc ls (.ref z :: st) := fun C e1 e2 H locs lsr hP hL hl => by
  subst hs
  obtain ⟨l, h1, h2⟩ := hl
  exact lv_astore C.1 C.2.1 hd h1 hn rfl (fun lsr' h' => k C e1 e2 H locs lsr' hP hL (ax_L.st1 l h2 hc h'))
theorem aw_astoreN_n {q : Fin 4} {i : Nat} {ls' : List (Option Value)} (hd : decode Y.2.1 pc = .ok (.astore_n q, 1)) (hi : (q : Nat) = i) (hn : i < Y.2.2.1) (hs : ls.set i (some (.null)) = ls') (k : AW G x Y fr lo h0 P h (pc + 1) ls' st) (hc : ax_c1 ls i := by first | exact ax_c1_0 | exact ax_c1_v rfl rfl | exact ax_c1_q rfl | exact ax_c1_n rfl) : AW G x Y fr lo h0 P h pc ls (.null :: st) := fun C e1 e2 H locs lsr hP hL hl => by
  subst hs
  obtain ⟨l, h1, h2⟩ := hl
  exact lv_astore_nN C.1 C.2.1 hd hi h1 hn rfl (fun lsr' h' => k C e1 e2 H locs lsr' hP hL (ax_L.st1 l h2 hc h'))
theorem aw_astoreN {i : Nat} {ls' : List (Option Value)} (hd : decode Y.2.1 pc = .ok (.astore i, 2)) (hn : i < Y.2.2.1) (hs : ls.set i (some (.null)) = ls') (k : AW G x Y fr lo h0 P h (pc + 2) ls' st) (hc : ax_c1 ls i := by first | exact ax_c1_0 | exact ax_c1_v rfl rfl | exact ax_c1_q rfl | exact ax_c1_n rfl) : AW G x Y fr lo h0 P h pc ls (.null :: st) := fun C e1 e2 H locs lsr hP hL hl => by
  subst hs
  obtain ⟨l, h1, h2⟩ := hl
  exact lv_astoreN C.1 C.2.1 hd h1 hn rfl (fun lsr' h' => k C e1 e2 H locs lsr' hP hL (ax_L.st1 l h2 hc h'))
theorem aw_astoreQ_n {q : Fin 4} {i : Nat} {r : Option Nat} {ls' : List (Option Value)} (hd : decode Y.2.1 pc = .ok (.astore_n q, 1)) (hi : (q : Nat) = i) (hn : i < Y.2.2.1) (hs : ls.set i (some (va_rf r)) = ls') (k : AW G x Y fr lo h0 P h (pc + 1) ls' st) (hc : ax_c1 ls i := by first | exact ax_c1_0 | exact ax_c1_v rfl rfl | exact ax_c1_q rfl | exact ax_c1_n rfl) : AW G x Y fr lo h0 P h pc ls (va_rf r :: st) := by
  cases r with
  | none => exact aw_astoreN_n hd hi hn hs k hc
  | some z => exact aw_astore_n hd hi hn hs k hc
theorem aw_astoreQ {i : Nat} {r : Option Nat} {ls' : List (Option Value)} (hd : decode Y.2.1 pc = .ok (.astore i, 2)) (hn : i < Y.2.2.1) (hs : ls.set i (some (va_rf r)) = ls') (k : AW G x Y fr lo h0 P h (pc + 2) ls' st) (hc : ax_c1 ls i := by first | exact ax_c1_0 | exact ax_c1_v rfl rfl | exact ax_c1_q rfl | exact ax_c1_n rfl) : AW G x Y fr lo h0 P h pc ls (va_rf r :: st) := by
  cases r with
  | none => exact aw_astoreN hd hn hs k hc
  | some z => exact aw_astore hd hn hs k hc
theorem aw_iinc {i : Nat} {n : Int} {z v : Int32} {ls' : List (Option Value)} (hd : decode Y.2.1 pc = .ok (.iinc i n, 3)) (hz : ls[i]? = some (some (.int z))) (hv : z + Int32.ofInt n = v) (hn : i < Y.2.2.1) (hs : ls.set i (some (.int v)) = ls') (k : AW G x Y fr lo h0 P h (pc + 3) ls' st) (hc : ax_c1 ls i := by first | exact ax_c1_0 | exact ax_c1_v rfl rfl | exact ax_c1_q rfl | exact ax_c1_n rfl) : AW G x Y fr lo h0 P h pc ls st := fun C e1 e2 H locs lsr hP hL hl => by
  subst hs
  obtain ⟨l, h1, h2⟩ := hl
  obtain ⟨j, hj⟩ := List.getElem?_of_mem (h2 i _ hz)
  exact lv_iinc C.1 C.2.1 hd h1 hj hv hn rfl (fun lsr' h' => k C e1 e2 H locs lsr' hP hL (ax_L.st1 l h2 hc h'))
theorem aw_iadd {a b : Int32} (hd : decode Y.2.1 pc = .ok (.iadd, 1)) (k : AW G x Y fr lo h0 P h (pc + 1) ls (.int (a + b) :: st)) : AW G x Y fr lo h0 P h pc ls (.int b :: .int a :: st) := fun C e1 e2 H locs lsr hP hL hl => lv_iadd C.1 C.2.1 hd (k C e1 e2 H locs lsr hP hL hl)
theorem aw_isub {a b : Int32} (hd : decode Y.2.1 pc = .ok (.isub, 1)) (k : AW G x Y fr lo h0 P h (pc + 1) ls (.int (a - b) :: st)) : AW G x Y fr lo h0 P h pc ls (.int b :: .int a :: st) := fun C e1 e2 H locs lsr hP hL hl => lv_isub C.1 C.2.1 hd (k C e1 e2 H locs lsr hP hL hl)
theorem aw_imul {a b : Int32} (hd : decode Y.2.1 pc = .ok (.imul, 1)) (k : AW G x Y fr lo h0 P h (pc + 1) ls (.int (a * b) :: st)) : AW G x Y fr lo h0 P h pc ls (.int b :: .int a :: st) := fun C e1 e2 H locs lsr hP hL hl => lv_imul C.1 C.2.1 hd (k C e1 e2 H locs lsr hP hL hl)
theorem aw_iand {a b : Int32} (hd : decode Y.2.1 pc = .ok (.iand, 1)) (k : AW G x Y fr lo h0 P h (pc + 1) ls (.int (a &&& b) :: st)) : AW G x Y fr lo h0 P h pc ls (.int b :: .int a :: st) := fun C e1 e2 H locs lsr hP hL hl => lv_iand C.1 C.2.1 hd (k C e1 e2 H locs lsr hP hL hl)
theorem aw_ior {a b : Int32} (hd : decode Y.2.1 pc = .ok (.ior, 1)) (k : AW G x Y fr lo h0 P h (pc + 1) ls (.int (a ||| b) :: st)) : AW G x Y fr lo h0 P h pc ls (.int b :: .int a :: st) := fun C e1 e2 H locs lsr hP hL hl => lv_ior C.1 C.2.1 hd (k C e1 e2 H locs lsr hP hL hl)
theorem aw_ixor {a b : Int32} (hd : decode Y.2.1 pc = .ok (.ixor, 1)) (k : AW G x Y fr lo h0 P h (pc + 1) ls (.int (a ^^^ b) :: st)) : AW G x Y fr lo h0 P h pc ls (.int b :: .int a :: st) := fun C e1 e2 H locs lsr hP hL hl => lv_ixor C.1 C.2.1 hd (k C e1 e2 H locs lsr hP hL hl)
theorem aw_ishl {a b : Int32} (hd : decode Y.2.1 pc = .ok (.ishl, 1)) (k : AW G x Y fr lo h0 P h (pc + 1) ls (.int (a <<< (b &&& 31)) :: st)) : AW G x Y fr lo h0 P h pc ls (.int b :: .int a :: st) := fun C e1 e2 H locs lsr hP hL hl => lv_ishl C.1 C.2.1 hd (k C e1 e2 H locs lsr hP hL hl)
theorem aw_ishr {a b : Int32} (hd : decode Y.2.1 pc = .ok (.ishr, 1)) (k : AW G x Y fr lo h0 P h (pc + 1) ls (.int (a >>> (b &&& 31)) :: st)) : AW G x Y fr lo h0 P h pc ls (.int b :: .int a :: st) := fun C e1 e2 H locs lsr hP hL hl => lv_ishr C.1 C.2.1 hd (k C e1 e2 H locs lsr hP hL hl)
theorem aw_ladd {a b : Int64} (hd : decode Y.2.1 pc = .ok (.ladd, 1)) (k : AW G x Y fr lo h0 P h (pc + 1) ls (.long (a + b) :: st)) : AW G x Y fr lo h0 P h pc ls (.long b :: .long a :: st) := fun C e1 e2 H locs lsr hP hL hl => lv_ladd C.1 C.2.1 hd (k C e1 e2 H locs lsr hP hL hl)
theorem aw_lsub {a b : Int64} (hd : decode Y.2.1 pc = .ok (.lsub, 1)) (k : AW G x Y fr lo h0 P h (pc + 1) ls (.long (a - b) :: st)) : AW G x Y fr lo h0 P h pc ls (.long b :: .long a :: st) := fun C e1 e2 H locs lsr hP hL hl => lv_lsub C.1 C.2.1 hd (k C e1 e2 H locs lsr hP hL hl)
theorem aw_lmul {a b : Int64} (hd : decode Y.2.1 pc = .ok (.lmul, 1)) (k : AW G x Y fr lo h0 P h (pc + 1) ls (.long (a * b) :: st)) : AW G x Y fr lo h0 P h pc ls (.long b :: .long a :: st) := fun C e1 e2 H locs lsr hP hL hl => lv_lmul C.1 C.2.1 hd (k C e1 e2 H locs lsr hP hL hl)
theorem aw_land {a b : Int64} (hd : decode Y.2.1 pc = .ok (.land, 1)) (k : AW G x Y fr lo h0 P h (pc + 1) ls (.long (a &&& b) :: st)) : AW G x Y fr lo h0 P h pc ls (.long b :: .long a :: st) := fun C e1 e2 H locs lsr hP hL hl => lv_land C.1 C.2.1 hd (k C e1 e2 H locs lsr hP hL hl)
theorem aw_lor {a b : Int64} (hd : decode Y.2.1 pc = .ok (.lor, 1)) (k : AW G x Y fr lo h0 P h (pc + 1) ls (.long (a ||| b) :: st)) : AW G x Y fr lo h0 P h pc ls (.long b :: .long a :: st) := fun C e1 e2 H locs lsr hP hL hl => lv_lor C.1 C.2.1 hd (k C e1 e2 H locs lsr hP hL hl)
theorem aw_lxor {a b : Int64} (hd : decode Y.2.1 pc = .ok (.lxor, 1)) (k : AW G x Y fr lo h0 P h (pc + 1) ls (.long (a ^^^ b) :: st)) : AW G x Y fr lo h0 P h pc ls (.long b :: .long a :: st) := fun C e1 e2 H locs lsr hP hL hl => lv_lxor C.1 C.2.1 hd (k C e1 e2 H locs lsr hP hL hl)
theorem aw_idiv {a b : Int32} (hd : decode Y.2.1 pc = .ok (.idiv, 1)) (hne : ¬ b = 0) (k : AW G x Y fr lo h0 P h (pc + 1) ls (.int (a / b) :: st)) : AW G x Y fr lo h0 P h pc ls (.int b :: .int a :: st) := fun C e1 e2 H locs lsr hP hL hl => lv_idiv C.1 C.2.1 hd hne (k C e1 e2 H locs lsr hP hL hl)
theorem aw_irem {a b : Int32} (hd : decode Y.2.1 pc = .ok (.irem, 1)) (hne : ¬ b = 0) (k : AW G x Y fr lo h0 P h (pc + 1) ls (.int (a - a / b * b) :: st)) : AW G x Y fr lo h0 P h pc ls (.int b :: .int a :: st) := fun C e1 e2 H locs lsr hP hL hl => lv_irem C.1 C.2.1 hd hne (k C e1 e2 H locs lsr hP hL hl)
theorem aw_ineg {a : Int32} (hd : decode Y.2.1 pc = .ok (.ineg, 1)) (k : AW G x Y fr lo h0 P h (pc + 1) ls (.int (-a) :: st)) : AW G x Y fr lo h0 P h pc ls (.int a :: st) := fun C e1 e2 H locs lsr hP hL hl => lv_ineg C.1 C.2.1 hd (k C e1 e2 H locs lsr hP hL hl)
theorem aw_lneg {a : Int64} (hd : decode Y.2.1 pc = .ok (.lneg, 1)) (k : AW G x Y fr lo h0 P h (pc + 1) ls (.long (-a) :: st)) : AW G x Y fr lo h0 P h pc ls (.long a :: st) := fun C e1 e2 H locs lsr hP hL hl => lv_lneg C.1 C.2.1 hd (k C e1 e2 H locs lsr hP hL hl)
theorem aw_i2l {a : Int32} (hd : decode Y.2.1 pc = .ok (.i2l, 1)) (k : AW G x Y fr lo h0 P h (pc + 1) ls (.long a.toInt64 :: st)) : AW G x Y fr lo h0 P h pc ls (.int a :: st) := fun C e1 e2 H locs lsr hP hL hl => lv_i2l C.1 C.2.1 hd rfl (k C e1 e2 H locs lsr hP hL hl)
theorem aw_l2i {a : Int64} (hd : decode Y.2.1 pc = .ok (.l2i, 1)) (k : AW G x Y fr lo h0 P h (pc + 1) ls (.int a.toInt32 :: st)) : AW G x Y fr lo h0 P h pc ls (.long a :: st) := fun C e1 e2 H locs lsr hP hL hl => lv_l2i C.1 C.2.1 hd rfl (k C e1 e2 H locs lsr hP hL hl)
theorem aw_i2b {a : Int32} (hd : decode Y.2.1 pc = .ok (.i2b, 1)) (k : AW G x Y fr lo h0 P h (pc + 1) ls (.int a.toInt8.toInt32 :: st)) : AW G x Y fr lo h0 P h pc ls (.int a :: st) := fun C e1 e2 H locs lsr hP hL hl => lv_i2b C.1 C.2.1 hd rfl (k C e1 e2 H locs lsr hP hL hl)
theorem aw_iushr {a b : Int32} (hd : decode Y.2.1 pc = .ok (.iushr, 1)) (k : AW G x Y fr lo h0 P h (pc + 1) ls (.int (a.toUInt32 >>> (b.toUInt32 &&& Int32.toUInt32 31)).toInt32 :: st)) : AW G x Y fr lo h0 P h pc ls (.int b :: .int a :: st) := fun C e1 e2 H locs lsr hP hL hl => lv_iushr C.1 C.2.1 hd rfl (k C e1 e2 H locs lsr hP hL hl)
theorem aw_lushr {a : Int64} {b : Int32} (hd : decode Y.2.1 pc = .ok (.lushr, 1)) (k : AW G x Y fr lo h0 P h (pc + 1) ls (.long (a.toUInt64 >>> (b.toInt64.toUInt64 &&& Int64.toUInt64 63)).toInt64 :: st)) : AW G x Y fr lo h0 P h pc ls (.int b :: .long a :: st) := fun C e1 e2 H locs lsr hP hL hl => lv_lushr C.1 C.2.1 hd rfl (k C e1 e2 H locs lsr hP hL hl)
theorem aw_lshl {a : Int64} {b : Int32} (hd : decode Y.2.1 pc = .ok (.lshl, 1)) (k : AW G x Y fr lo h0 P h (pc + 1) ls (.long (a <<< (b.toInt64 &&& 63)) :: st)) : AW G x Y fr lo h0 P h pc ls (.int b :: .long a :: st) := fun C e1 e2 H locs lsr hP hL hl => lv_lshl C.1 C.2.1 hd rfl (k C e1 e2 H locs lsr hP hL hl)
theorem aw_lshr {a : Int64} {b : Int32} (hd : decode Y.2.1 pc = .ok (.lshr, 1)) (k : AW G x Y fr lo h0 P h (pc + 1) ls (.long (a >>> (b.toInt64 &&& 63)) :: st)) : AW G x Y fr lo h0 P h pc ls (.int b :: .long a :: st) := fun C e1 e2 H locs lsr hP hL hl => lv_lshr C.1 C.2.1 hd rfl (k C e1 e2 H locs lsr hP hL hl)
theorem aw_lcmp {a b : Int64} (hd : decode Y.2.1 pc = .ok (.lcmp, 1)) (k : AW G x Y fr lo h0 P h (pc + 1) ls (.int (lg_cmp a b) :: st)) : AW G x Y fr lo h0 P h pc ls (.long b :: .long a :: st) := fun C e1 e2 H locs lsr hP hL hl => W.lcmp C.1 C.2.1 hd (k C e1 e2 H locs lsr hP hL hl)
theorem aw_dup {u : Value} (hd : decode Y.2.1 pc = .ok (.dup, 1)) (hu : u.category = 1) (k : AW G x Y fr lo h0 P h (pc + 1) ls (u :: u :: st)) : AW G x Y fr lo h0 P h pc ls (u :: st) := fun C e1 e2 H locs lsr hP hL hl => lv_dup C.1 C.2.1 hd hu (k C e1 e2 H locs lsr hP hL hl)
theorem aw_pop {u : Value} (hd : decode Y.2.1 pc = .ok (.pop, 1)) (hu : u.category = 1) (k : AW G x Y fr lo h0 P h (pc + 1) ls (st)) : AW G x Y fr lo h0 P h pc ls (u :: st) := fun C e1 e2 H locs lsr hP hL hl => lv_pop C.1 C.2.1 hd hu (k C e1 e2 H locs lsr hP hL hl)
theorem aw_pop2 {u : Value} (hd : decode Y.2.1 pc = .ok (.pop2, 1)) (hu : u.category = 2) (k : AW G x Y fr lo h0 P h (pc + 1) ls (st)) : AW G x Y fr lo h0 P h pc ls (u :: st) := fun C e1 e2 H locs lsr hP hL hl => lv_pop2_2 C.1 C.2.1 hd hu (k C e1 e2 H locs lsr hP hL hl)
theorem aw_dup_x1 {u v : Value} (hd : decode Y.2.1 pc = .ok (.dup_x1, 1)) (hu : u.category = 1) (hv : v.category = 1) (k : AW G x Y fr lo h0 P h (pc + 1) ls (u :: v :: u :: st)) : AW G x Y fr lo h0 P h pc ls (u :: v :: st) := fun C e1 e2 H locs lsr hP hL hl => lv_dup_x1 C.1 C.2.1 hd hu hv (k C e1 e2 H locs lsr hP hL hl)
theorem aw_dup_x2 {u v z : Value} (hd : decode Y.2.1 pc = .ok (.dup_x2, 1)) (hu : u.category = 1) (hv : v.category = 1) (hz : z.category = 1) (k : AW G x Y fr lo h0 P h (pc + 1) ls (u :: v :: z :: u :: st)) : AW G x Y fr lo h0 P h pc ls (u :: v :: z :: st) := fun C e1 e2 H locs lsr hP hL hl => lv_dup_x2 C.1 C.2.1 hd hu hv hz (k C e1 e2 H locs lsr hP hL hl)
theorem aw_dup2 {u v : Value} (hd : decode Y.2.1 pc = .ok (.dup2, 1)) (hu : u.category = 1) (hv : v.category = 1) (k : AW G x Y fr lo h0 P h (pc + 1) ls (u :: v :: u :: v :: st)) : AW G x Y fr lo h0 P h pc ls (u :: v :: st) := fun C e1 e2 H locs lsr hP hL hl => lv_dup2_11 C.1 C.2.1 hd hu hv (k C e1 e2 H locs lsr hP hL hl)
theorem aw_if_eq {a : Int32} {off : Int} {tgt : Nat} (hd : decode Y.2.1 pc = .ok (.ifCond .eq off, 3)) (ht : (pc : Int) + off = (tgt : Int)) (kt : a = 0 → AW G x Y fr lo h0 P h tgt ls st) (kf : ¬ a = 0 → AW G x Y fr lo h0 P h (pc + 3) ls st) : AW G x Y fr lo h0 P h pc ls (.int a :: st) := fun C e1 e2 H locs lsr hP hL hl => lv_if_eq C.1 C.2.1 hd ht (fun z => kt z C e1 e2 H locs lsr hP hL hl) (fun z => kf z C e1 e2 H locs lsr hP hL hl)
theorem aw_icmp_eq {a b : Int32} {off : Int} {tgt : Nat} (hd : decode Y.2.1 pc = .ok (.if_icmp .eq off, 3)) (ht : (pc : Int) + off = (tgt : Int)) (kt : a = b → AW G x Y fr lo h0 P h tgt ls st) (kf : ¬ a = b → AW G x Y fr lo h0 P h (pc + 3) ls st) : AW G x Y fr lo h0 P h pc ls (.int b :: .int a :: st) := fun C e1 e2 H locs lsr hP hL hl => lv_icmp_eq C.1 C.2.1 hd ht (fun z => kt z C e1 e2 H locs lsr hP hL hl) (fun z => kf z C e1 e2 H locs lsr hP hL hl)
theorem aw_if_ne {a : Int32} {off : Int} {tgt : Nat} (hd : decode Y.2.1 pc = .ok (.ifCond .ne off, 3)) (ht : (pc : Int) + off = (tgt : Int)) (kt : ¬ a = 0 → AW G x Y fr lo h0 P h tgt ls st) (kf : a = 0 → AW G x Y fr lo h0 P h (pc + 3) ls st) : AW G x Y fr lo h0 P h pc ls (.int a :: st) := fun C e1 e2 H locs lsr hP hL hl => lv_if_ne C.1 C.2.1 hd ht (fun z => kt z C e1 e2 H locs lsr hP hL hl) (fun z => kf z C e1 e2 H locs lsr hP hL hl)
theorem aw_icmp_ne {a b : Int32} {off : Int} {tgt : Nat} (hd : decode Y.2.1 pc = .ok (.if_icmp .ne off, 3)) (ht : (pc : Int) + off = (tgt : Int)) (kt : ¬ a = b → AW G x Y fr lo h0 P h tgt ls st) (kf : a = b → AW G x Y fr lo h0 P h (pc + 3) ls st) : AW G x Y fr lo h0 P h pc ls (.int b :: .int a :: st) := fun C e1 e2 H locs lsr hP hL hl => lv_icmp_ne C.1 C.2.1 hd ht (fun z => kt z C e1 e2 H locs lsr hP hL hl) (fun z => kf z C e1 e2 H locs lsr hP hL hl)
theorem aw_if_lt {a : Int32} {off : Int} {tgt : Nat} (hd : decode Y.2.1 pc = .ok (.ifCond .lt off, 3)) (ht : (pc : Int) + off = (tgt : Int)) (kt : a < 0 → AW G x Y fr lo h0 P h tgt ls st) (kf : ¬ a < 0 → AW G x Y fr lo h0 P h (pc + 3) ls st) : AW G x Y fr lo h0 P h pc ls (.int a :: st) := fun C e1 e2 H locs lsr hP hL hl => lv_if_lt C.1 C.2.1 hd ht (fun z => kt z C e1 e2 H locs lsr hP hL hl) (fun z => kf z C e1 e2 H locs lsr hP hL hl)
theorem aw_icmp_lt {a b : Int32} {off : Int} {tgt : Nat} (hd : decode Y.2.1 pc = .ok (.if_icmp .lt off, 3)) (ht : (pc : Int) + off = (tgt : Int)) (kt : a < b → AW G x Y fr lo h0 P h tgt ls st) (kf : ¬ a < b → AW G x Y fr lo h0 P h (pc + 3) ls st) : AW G x Y fr lo h0 P h pc ls (.int b :: .int a :: st) := fun C e1 e2 H locs lsr hP hL hl => lv_icmp_lt C.1 C.2.1 hd ht (fun z => kt z C e1 e2 H locs lsr hP hL hl) (fun z => kf z C e1 e2 H locs lsr hP hL hl)
theorem aw_if_ge {a : Int32} {off : Int} {tgt : Nat} (hd : decode Y.2.1 pc = .ok (.ifCond .ge off, 3)) (ht : (pc : Int) + off = (tgt : Int)) (kt : 0 ≤ a → AW G x Y fr lo h0 P h tgt ls st) (kf : ¬ 0 ≤ a → AW G x Y fr lo h0 P h (pc + 3) ls st) : AW G x Y fr lo h0 P h pc ls (.int a :: st) := fun C e1 e2 H locs lsr hP hL hl => lv_if_ge C.1 C.2.1 hd ht (fun z => kt z C e1 e2 H locs lsr hP hL hl) (fun z => kf z C e1 e2 H locs lsr hP hL hl)
theorem aw_icmp_ge {a b : Int32} {off : Int} {tgt : Nat} (hd : decode Y.2.1 pc = .ok (.if_icmp .ge off, 3)) (ht : (pc : Int) + off = (tgt : Int)) (kt : b ≤ a → AW G x Y fr lo h0 P h tgt ls st) (kf : ¬ b ≤ a → AW G x Y fr lo h0 P h (pc + 3) ls st) : AW G x Y fr lo h0 P h pc ls (.int b :: .int a :: st) := fun C e1 e2 H locs lsr hP hL hl => lv_icmp_ge C.1 C.2.1 hd ht (fun z => kt z C e1 e2 H locs lsr hP hL hl) (fun z => kf z C e1 e2 H locs lsr hP hL hl)
theorem aw_if_gt {a : Int32} {off : Int} {tgt : Nat} (hd : decode Y.2.1 pc = .ok (.ifCond .gt off, 3)) (ht : (pc : Int) + off = (tgt : Int)) (kt : 0 < a → AW G x Y fr lo h0 P h tgt ls st) (kf : ¬ 0 < a → AW G x Y fr lo h0 P h (pc + 3) ls st) : AW G x Y fr lo h0 P h pc ls (.int a :: st) := fun C e1 e2 H locs lsr hP hL hl => lv_if_gt C.1 C.2.1 hd ht (fun z => kt z C e1 e2 H locs lsr hP hL hl) (fun z => kf z C e1 e2 H locs lsr hP hL hl)
theorem aw_icmp_gt {a b : Int32} {off : Int} {tgt : Nat} (hd : decode Y.2.1 pc = .ok (.if_icmp .gt off, 3)) (ht : (pc : Int) + off = (tgt : Int)) (kt : b < a → AW G x Y fr lo h0 P h tgt ls st) (kf : ¬ b < a → AW G x Y fr lo h0 P h (pc + 3) ls st) : AW G x Y fr lo h0 P h pc ls (.int b :: .int a :: st) := fun C e1 e2 H locs lsr hP hL hl => lv_icmp_gt C.1 C.2.1 hd ht (fun z => kt z C e1 e2 H locs lsr hP hL hl) (fun z => kf z C e1 e2 H locs lsr hP hL hl)
theorem aw_if_le {a : Int32} {off : Int} {tgt : Nat} (hd : decode Y.2.1 pc = .ok (.ifCond .le off, 3)) (ht : (pc : Int) + off = (tgt : Int)) (kt : a ≤ 0 → AW G x Y fr lo h0 P h tgt ls st) (kf : ¬ a ≤ 0 → AW G x Y fr lo h0 P h (pc + 3) ls st) : AW G x Y fr lo h0 P h pc ls (.int a :: st) := fun C e1 e2 H locs lsr hP hL hl => lv_if_le C.1 C.2.1 hd ht (fun z => kt z C e1 e2 H locs lsr hP hL hl) (fun z => kf z C e1 e2 H locs lsr hP hL hl)
theorem aw_icmp_le {a b : Int32} {off : Int} {tgt : Nat} (hd : decode Y.2.1 pc = .ok (.if_icmp .le off, 3)) (ht : (pc : Int) + off = (tgt : Int)) (kt : a ≤ b → AW G x Y fr lo h0 P h tgt ls st) (kf : ¬ a ≤ b → AW G x Y fr lo h0 P h (pc + 3) ls st) : AW G x Y fr lo h0 P h pc ls (.int b :: .int a :: st) := fun C e1 e2 H locs lsr hP hL hl => lv_icmp_le C.1 C.2.1 hd ht (fun z => kt z C e1 e2 H locs lsr hP hL hl) (fun z => kf z C e1 e2 H locs lsr hP hL hl)
theorem aw_goto {off : Int} {tgt : Nat} (hd : decode Y.2.1 pc = .ok (.goto off, 3)) (ht : (pc : Int) + off = (tgt : Int)) (k : AW G x Y fr lo h0 P h tgt ls st) : AW G x Y fr lo h0 P h pc ls st := fun C e1 e2 H locs lsr hP hL hl => lv_goto C.1 C.2.1 hd ht (k C e1 e2 H locs lsr hP hL hl)
theorem aw_ifnonnull {z : Nat} {off : Int} {tgt : Nat} (hd : decode Y.2.1 pc = .ok (.ifnonnull off, 3)) (ht : (pc : Int) + off = (tgt : Int)) (k : AW G x Y fr lo h0 P h tgt ls st) : AW G x Y fr lo h0 P h pc ls (.ref z :: st) := fun C e1 e2 H locs lsr hP hL hl => lv_ifnonnull C.1 C.2.1 hd ht (k C e1 e2 H locs lsr hP hL hl)
theorem aw_ifnull {z : Nat} {off : Int} (hd : decode Y.2.1 pc = .ok (.ifnull off, 3)) (k : AW G x Y fr lo h0 P h (pc + 3) ls st) : AW G x Y fr lo h0 P h pc ls (.ref z :: st) := fun C e1 e2 H locs lsr hP hL hl => lv_ifnull C.1 C.2.1 hd (k C e1 e2 H locs lsr hP hL hl)
theorem aw_ifnullN {off : Int} {tgt : Nat} (hd : decode Y.2.1 pc = .ok (.ifnull off, 3)) (ht : (pc : Int) + off = (tgt : Int)) (k : AW G x Y fr lo h0 P h tgt ls st) : AW G x Y fr lo h0 P h pc ls (.null :: st) := fun C e1 e2 H locs lsr hP hL hl => lv_ifnullN C.1 C.2.1 hd ht (k C e1 e2 H locs lsr hP hL hl)
theorem aw_ifnonnullN {off : Int} (hd : decode Y.2.1 pc = .ok (.ifnonnull off, 3)) (k : AW G x Y fr lo h0 P h (pc + 3) ls st) : AW G x Y fr lo h0 P h pc ls (.null :: st) := fun C e1 e2 H locs lsr hP hL hl => lv_ifnonnullN C.1 C.2.1 hd (k C e1 e2 H locs lsr hP hL hl)
theorem aw_ifnullQ {r : Option Nat} {off : Int} {tgt : Nat} (hd : decode Y.2.1 pc = .ok (.ifnull off, 3)) (ht : (pc : Int) + off = (tgt : Int)) (kt : r = none → AW G x Y fr lo h0 P h tgt ls st) (kf : ∀ z, r = some z → AW G x Y fr lo h0 P h (pc + 3) ls st) : AW G x Y fr lo h0 P h pc ls (va_rf r :: st) := by
  cases r with
  | none => exact aw_ifnullN hd ht (kt rfl)
  | some z => exact aw_ifnull hd (kf z rfl)
theorem aw_ifnonnullQ {r : Option Nat} {off : Int} {tgt : Nat} (hd : decode Y.2.1 pc = .ok (.ifnonnull off, 3)) (ht : (pc : Int) + off = (tgt : Int)) (kt : ∀ z, r = some z → AW G x Y fr lo h0 P h tgt ls st) (kf : r = none → AW G x Y fr lo h0 P h (pc + 3) ls st) : AW G x Y fr lo h0 P h pc ls (va_rf r :: st) := by
  cases r with
  | none => exact aw_ifnonnullN hd (kf rfl)
  | some z => exact aw_ifnonnull hd ht (kt z rfl)
theorem aw_acmp_eq {r1 r2 : Option Nat} {off : Int} {tgt : Nat} (hd : decode Y.2.1 pc = .ok (.if_acmp .eq off, 3)) (ht : (pc : Int) + off = (tgt : Int)) (kt : r1 = r2 → AW G x Y fr lo h0 P h tgt ls st) (kf : ¬ r1 = r2 → AW G x Y fr lo h0 P h (pc + 3) ls st) : AW G x Y fr lo h0 P h pc ls (va_rf r2 :: va_rf r1 :: st) := fun C e1 e2 H locs lsr hP hL hl => lv_acmp_eq C.1 C.2.1 hd ht (fun z => kt z C e1 e2 H locs lsr hP hL hl) (fun z => kf z C e1 e2 H locs lsr hP hL hl)
theorem aw_acmp_ne {r1 r2 : Option Nat} {off : Int} {tgt : Nat} (hd : decode Y.2.1 pc = .ok (.if_acmp .ne off, 3)) (ht : (pc : Int) + off = (tgt : Int)) (kt : ¬ r1 = r2 → AW G x Y fr lo h0 P h tgt ls st) (kf : r1 = r2 → AW G x Y fr lo h0 P h (pc + 3) ls st) : AW G x Y fr lo h0 P h pc ls (va_rf r2 :: va_rf r1 :: st) := fun C e1 e2 H locs lsr hP hL hl => lv_acmp_ne C.1 C.2.1 hd ht (fun z => kt z C e1 e2 H locs lsr hP hL hl) (fun z => kf z C e1 e2 H locs lsr hP hL hl)
theorem aw_tableOut {dflt low high : Int} {offs : Array Int} {len : Nat} {a : Int32} {tgt : Nat} (hd : decode Y.2.1 pc = .ok (.tableswitch dflt low high offs, len)) (hx : a.toInt < low ∨ high < a.toInt) (ht : (pc : Int) + dflt = (tgt : Int)) (k : AW G x Y fr lo h0 P h tgt ls st) : AW G x Y fr lo h0 P h pc ls (.int a :: st) := fun C e1 e2 H locs lsr hP hL hl => lv_tableOut C.1 C.2.1 hd hx ht (k C e1 e2 H locs lsr hP hL hl)
theorem aw_tableIn {dflt low high : Int} {offs : Array Int} {len : Nat} {a : Int32} {off : Int} {tgt : Nat} (hd : decode Y.2.1 pc = .ok (.tableswitch dflt low high offs, len)) (hx1 : ¬ a.toInt < low) (hx2 : ¬ high < a.toInt) (ho : offs[(a.toInt - low).toNat]? = some off) (ht : (pc : Int) + off = (tgt : Int)) (k : AW G x Y fr lo h0 P h tgt ls st) : AW G x Y fr lo h0 P h pc ls (.int a :: st) := fun C e1 e2 H locs lsr hP hL hl => lv_tableIn C.1 C.2.1 hd hx1 hx2 ho ht (k C e1 e2 H locs lsr hP hL hl)
theorem aw_lookup {dflt : Int} {ps : Array (Int × Int)} {len : Nat} {a : Int32} {off : Int} {tgt : Nat} (hd : decode Y.2.1 pc = .ok (.lookupswitch dflt ps, len)) (hp : (ps.toList.zip (ps.toList.drop 1)).all (fun (a, next) => a.1 < next.1) = true) (ho : Op.lookupswitch.offset ps.toList dflt a.toInt = off) (ht : (pc : Int) + off = (tgt : Int)) (k : AW G x Y fr lo h0 P h tgt ls st) : AW G x Y fr lo h0 P h pc ls (.int a :: st) := fun C e1 e2 H locs lsr hP hL hl => lv_lookup C.1 C.2.1 hd hp ho ht (k C e1 e2 H locs lsr hP hL hl)
theorem aw_topi {a : Int32} (k : ∀ b : Int32, b = a → AW G x Y fr lo h0 P h pc ls (.int b :: st)) : AW G x Y fr lo h0 P h pc ls (.int a :: st) := k a rfl
theorem aw_topl {a : Int64} (k : ∀ b : Int64, b = a → AW G x Y fr lo h0 P h pc ls (.long b :: st)) : AW G x Y fr lo h0 P h pc ls (.long a :: st) := k a rfl
theorem aw_fewer {ls' : List (Option Value)} (hs : ∀ (i : Nat) (v : Value), ls'[i]? = some (some v) → ls[i]? = some (some v)) (k : AW G x Y fr lo h0 P h pc ls' st) : AW G x Y fr lo h0 P h pc ls st := fun C e1 e2 H locs lsr hP hL hl => k C e1 e2 H locs lsr hP hL (hl.fewer hs)
theorem aw_post {P' : Option Value → ax_H → Prop} (hp : ∀ v h', P' v h' → P v h') (k : AW G x Y fr lo h0 P' h pc ls st) : AW G x Y fr lo h0 P h pc ls st := fun C e1 e2 H locs lsr hP hL hl T hT X => by
  obtain ⟨t, a1, o, b1, b2, ⟨v, h', c1, c2, c3⟩, b4⟩ := k C e1 e2 H locs lsr hP hL hl T hT X
  exact ⟨t, a1, o, b1, b2, ⟨v, h', c1, hp v h' c2, c3⟩, b4⟩
end AXR
end
section
section AXH
variable {G : ax_G} {x : ax_X} {Y : ax_Y} {fr lo : Nat} {h0 h : ax_H} {P : Option Value → ax_H → Prop} {pc : Nat} {ls : List (Option Value)} {st : List Value}
/-- a class of the table: its fields, their types, its words -/
def ax_cl (ci : Nat) (C : String) (T : u_T) (N : Nat) (tys : Nat → FieldType) : Prop := classes[ci]? = some (C, T, N) ∧ (∀ w ∈ u_ws C T N, w ∈ lw_tbl) ∧ (∀ k, k < N → parseFieldDescriptor (T k).2.2.1 = some (tys k)) ∧ ∀ a, a < N → ∀ b, b < N → a ≠ b → (T a).2.1 ≠ (T b).2.1
/-- an instruction's field, by its pool number -/
def ax_fl (own : String) (idx : Nat) (T : u_T) (k : Nat) : Prop := (Cond.fieldLink own idx (T k).1 (T k).2.1 (T k).2.2.1 ∈ lw_tbl) ∨ (∃ host : String, Cond.fieldLinkNest own idx (T k).1 (T k).2.1 (T k).2.2.1 host ∈ lw_tbl) ∨ ∃ ref : String, Cond.fieldLink own idx ref (T k).2.1 (T k).2.2.1 ∈ lw_tbl ∧ Cond.sameField ref (T k).1 (T k).2.1 (T k).2.2.1 ∈ lw_tbl
theorem ax_good_lay (C : String) (T : u_T) (k : Nat) : goodWord (u_lay C T k) = true := by
  unfold u_lay
  split <;> first | rfl | simp [goodWord, Cond.onTables, Cond.keeps, Cond.steady]
theorem ax_uws {U : State} (hW : G.2.1.WarmedH U.vm) (hG : ax_G0 G) {C : String} {T : u_T} {N : Nat} (hin : ∀ w ∈ u_ws C T N, w ∈ lw_tbl) (a' : Array Value) : ∀ w ∈ u_ws C T N, w.before a' U = true := by
  intro w hw
  obtain ⟨k, -, rfl⟩ := List.mem_map.mp hw
  exact ax_word hW hG (hin _ hw) (ax_good_lay C T k) a'
theorem ax_gFL (a : String) (i : Nat) (b c d : String) : goodWord (.fieldLink a i b c d) = true := by first | rfl | simp [goodWord, Cond.onTables, Cond.keeps, Cond.steady]
theorem ax_gSF (a b c d : String) : goodWord (.sameField a b c d) = true := by first | rfl | simp [goodWord, Cond.onTables, Cond.keeps, Cond.steady]
theorem ax_gCL (a : String) (i : Nat) (b : String) : goodWord (.classLink a i b) = true := by first | rfl | simp [goodWord, Cond.onTables, Cond.keeps, Cond.steady]
theorem ax_gIN (a : String) (i : Nat) : goodWord (.instantiable a i) = true := by first | rfl | simp [goodWord, Cond.onTables, Cond.keeps, Cond.steady]
theorem ax_gII (a : String) : goodWord (.initialized a) = true := by first | rfl | simp [goodWord, Cond.onTables, Cond.keeps, Cond.steady]
theorem ax_gML (a : String) (i : Nat) (y : MethodName) : goodWord (.methodLink a i y) = true := by first | rfl | simp [goodWord, Cond.onTables, Cond.keeps, Cond.steady]
theorem ax_gIM (y : MethodName) : goodWord (.instanceMethod y) = true := by first | rfl | simp [goodWord, Cond.onTables, Cond.keeps, Cond.steady]
theorem ax_gST (y : MethodName) : goodWord (.static y) = true := by first | rfl | simp [goodWord, Cond.onTables, Cond.keeps, Cond.steady]
theorem ax_gSE (C : String) (y z : MethodName) : goodWord (.selects C y z) = true := by first | rfl | simp [goodWord, Cond.onTables, Cond.keeps, Cond.steady]
theorem ax_gCO (y : MethodName) (b : ByteArray) (n : Nat) (r : Option FieldType) : goodWord (.code y b n r) = true := by first | rfl | simp [goodWord, Cond.onTables, Cond.keeps, Cond.steady]
theorem ax_gK (a : String) (i : Nat) (v : Int32) : goodWord (.constant a i v) = true := by first | rfl | simp [goodWord, Cond.onTables, Cond.keeps, Cond.steady]
theorem ax_gKL (a : String) (i : Nat) (v : Int64) : goodWord (.constantLong a i v) = true := by first | rfl | simp [goodWord, Cond.onTables, Cond.keeps, Cond.steady]
theorem ax_nestF {U : State} (hW : G.2.1.WarmedH U.vm) (hG : ax_G0 G) {a : String} {i : Nat} {b c d e : String} (hw : Cond.fieldLinkNest a i b c d e ∈ lw_tbl) (a' : Array Value) : (Cond.fieldLinkNest a i b c d e).before a' U = true := va_Nw.use rfl (va_Nw.warmF hW (va_Nw.of rfl (hG.1 _ hw)))
theorem ax_nestM {U : State} (hW : G.2.1.WarmedH U.vm) (hG : ax_G0 G) {a : String} {i : Nat} {y : MethodName} {e : String} (hw : Cond.methodLinkNest a i y e ∈ lw_tbl) (a' : Array Value) : (Cond.methodLinkNest a i y e).before a' U = true := va_Nw.use rfl (va_Nw.warmM hW (va_Nw.of rfl (hG.1 _ hw)))
theorem ax_cst {U : State} (hW : G.2.1.WarmedH U.vm) (hG : ax_G0 G) {a b : String} (hw : Cond.castable a b ∈ lw_tbl) (a' : Array Value) : (Cond.castable a b).before a' U = true := va_Nw.use rfl (va_Nw.warmC hW (va_Nw.of rfl (hG.1 _ hw)))
theorem aw_get {ci : Nat} {C : String} {T : u_T} {N : Nat} {tys : Nat → FieldType} (c : ax_cl ci C T N tys) {idx q a : Nat} {fs : List Value} {v : Value} (f : ax_fl Y.1.cls idx T q) (hq : q < N) (ha : h.2.2 a = some (.inr (ci, fs))) (hv : fs[q]? = some v) (hd : decode Y.2.1 pc = .ok (.getfield idx, 3)) (k : AW G x Y fr lo h0 P h (pc + 3) ls (v :: st)) : AW G x Y fr lo h0 P h pc ls (.ref a :: st) := by
  intro C0 e1 e2 H locs lsr hP hL hl
  obtain ⟨c1, c2, c3, c4⟩ := c
  have hW := C0.2.2.2.2.1
  have hG := C0.2.2.2.2.2.1
  have hK := ax_kn hW hG
  have hts := ax_uws hW hG c2 x.2.2.2.2.1
  have hP1 : va_P G.2.2.1 classes [(a, .inr (ci, fs))] H := by
    intro j p hj
    have hz : j < 1 := (List.getElem?_eq_some_iff.mp hj).1
    rw [show j = 0 by omega] at hj
    cases hj
    exact (hP.at ha).2
  have kk := k C0 e1 e2 H locs lsr hP hL hl
  rcases f with f | ⟨host, f⟩ | ⟨ref, f1, f2⟩
  · exact va_get C0.1 C0.2.1 (Ts := u_ws C T N) hts (fun _ z => z) C0.2.2.2.1 hK hP1 0 rfl c1 q hq (ax_word hW hG f (ax_gFL _ _ _ _ _) _) (fun _ z => z) hv hd kk
  · exact va_getN C0.1 C0.2.1 (Ts := u_ws C T N) hts (fun _ z => z) C0.2.2.2.1 hK hP1 0 rfl c1 q hq (ax_nestF hW hG f _) (fun _ z => z) hv hd kk
  · exact va_get C0.1 C0.2.1 (Ts := u_ws C T N) hts (fun _ z => z) C0.2.2.2.1 hK hP1 0 rfl c1 q hq (ax_word hW hG f1 (ax_gFL _ _ _ _ _) _) (fun z hz => u_same (ax_word hW hG f2 (ax_gSF _ _ _ _) x.2.2.2.2.1) z hz) hv hd kk
theorem ax_locs {locs : List Loc} {b a i : Nat} (hL : ∀ q ∈ locs, b ≤ q.base) (ha : b ≤ a) : ∀ q ∈ locs ++ [(⟨a, i⟩ : Loc)], b ≤ q.base := by
  intro q hq
  rcases List.mem_append.mp hq with h | h
  · exact hL q h
  · rw [List.mem_singleton.mp h]
    exact ha
theorem aw_put {ci : Nat} {C : String} {T : u_T} {N : Nat} {tys : Nat → FieldType} (c : ax_cl ci C T N tys) {idx q a : Nat} {fs : List Value} {v : Value} (f : ax_fl Y.1.cls idx T q) (hq : q < N) (hfin : (T q).2.2.2 = false) (ha : h.2.2 a = some (.inr (ci, fs))) (hlen : q < fs.length) (hn : narrow (tys q) v = v) (hfit : fits (tys q) v = true) (hd : decode Y.2.1 pc = .ok (.putfield idx, 3)) (k : AW G x Y fr lo h0 P (ax_set h a (.inr (ci, fs.set q v))) (pc + 3) ls st) : AW G x Y fr lo h0 P h pc ls (v :: .ref a :: st) := by
  intro C0 e1 e2 H locs lsr hP hL hl
  obtain ⟨c1, c2, c3, c4⟩ := c
  have hW := C0.2.2.2.2.1
  have hG := C0.2.2.2.2.2.1
  have hK := ax_kn hW hG
  have hts := ax_uws hW hG c2 x.2.2.2.2.1
  have hap := va_apart (own := Y.1.cls) (Ts := u_ws C T N) hts (fun _ z => z) tys c3 c4 hK c1
  have hb := (hP.at ha).1
  obtain ⟨r, r1, cell, q1, q2, q3, q4⟩ := (hP.at ha).2
  have hr : r = (C, T, N) := Option.some.inj (r1.symm.trans c1)
  subst hr
  obtain ⟨hS, hfc, kC, hkC, hkind⟩ := hK.1 ci _ c1
  obtain ⟨cf, kf, fi, fd, hi, hsl⟩ := hS q hq
  have hlay := hts _ (u_in_lay hq)
  unfold u_lay at hlay
  rw [if_neg (by rw [hfin]; decide)] at hlay
  have hst := (u_facts hfc hkC (u_lays hts (fun _ z => z) hq) hi).1
  have h6 := u_store hfc hkC hkind hlay hi (c3 q hq) hn hfit
  have hsz : fd.slot < cell.slots.size := by
    rw [hsl]
    exact k2_hasslot (q4 q hq)
  have fin : ∀ H' : Heap, H'[a]? = some (cell.setSlot fd.slot v) → H'.size = H.size → (∀ q, q ≠ a → H'[q]? = H[q]?) → _ := fun H' g1 z oq =>
    k C0 e1 e2 H' (locs ++ [⟨a, fd.slot⟩]) lsr (hP.set ha q1 g1 (k2_slotsz _ _ _) z oq ⟨_, c1, t_OB.to (V := updV (vp_V fs) q v) ⟨_, g1, q2, q3, by rw [hsl]; exact t_set q4 hap hq v⟩ (fun j _ => vp_updV_set hlen v j)⟩) (ax_locs hL hb) hl
  rcases f with f | ⟨host, f⟩ | ⟨ref, f1, f2⟩
  · exact W.putK C0.1 C0.2.1 (f := fd) ⟨C0.2.2.2.1, ax_word hW hG f (ax_gFL _ _ _ _ _) _, ⟨_, _, _, hi⟩, hst⟩ (by rw [q2]; exact h6) q1 q3 hsz rfl rfl hd fin
  · exact va_WputK C0.1 C0.2.1 (f := fd) C0.2.2.2.1 (ax_nestF hW hG f _) hi hst (by rw [q2]; exact h6) q1 q3 hsz rfl rfl hd fin
  · exact W.putK C0.1 C0.2.1 (f := fd) ⟨C0.2.2.2.1, ax_word hW hG f1 (ax_gFL _ _ _ _ _) _, ⟨_, _, _, u_same (ax_word hW hG f2 (ax_gSF _ _ _ _) x.2.2.2.2.1) _ hi⟩, hst⟩ (by rw [q2]; exact h6) q1 q3 hsz rfl rfl hd fin
theorem aw_putF {ci : Nat} {C : String} {T : u_T} {N : Nat} {tys : Nat → FieldType} (c : ax_cl ci C T N tys) {idx q a : Nat} {fs : List Value} {v : Value} (f : Cond.fieldLink Y.1.cls idx (T q).1 (T q).2.1 (T q).2.2.1 ∈ lw_tbl) (hq : q < N) (hfin : (T q).2.2.2 = true) (hnm : Y.1.name = "<init>") (hdecl : (T q).1 = Y.1.cls) (ha : h.2.2 a = some (.inr (ci, fs))) (hlen : q < fs.length) (hn : narrow (tys q) v = v) (hfit : fits (tys q) v = true) (hd : decode Y.2.1 pc = .ok (.putfield idx, 3)) (k : AW G x Y fr lo h0 P (ax_set h a (.inr (ci, fs.set q v))) (pc + 3) ls st) : AW G x Y fr lo h0 P h pc ls (v :: .ref a :: st) := by
  intro C0 e1 e2 H locs lsr hP hL hl
  obtain ⟨c1, c2, c3, c4⟩ := c
  have hW := C0.2.2.2.2.1
  have hG := C0.2.2.2.2.2.1
  have hK := ax_kn hW hG
  have hown := C0.2.2.2.1
  have hts := ax_uws hW hG c2 x.2.2.2.2.1
  have hap := va_apart (own := Y.1.cls) (Ts := u_ws C T N) hts (fun _ z => z) tys c3 c4 hK c1
  have hb := (hP.at ha).1
  obtain ⟨r, r1, cell, q1, q2, q3, q4⟩ := (hP.at ha).2
  have hr : r = (C, T, N) := Option.some.inj (r1.symm.trans c1)
  subst hr
  obtain ⟨hS, hfc, kC, hkC, hkind⟩ := hK.1 ci _ c1
  obtain ⟨cf, kf, fi, fd, hi, hsl⟩ := hS q hq
  have hlay := hts _ (u_in_lay hq)
  unfold u_lay at hlay
  rw [if_pos hfin] at hlay
  have hst := (u_facts hfc hkC (u_lays hts (fun _ z => z) hq) hi).1
  have hcf : x.2.2.2.1.cls = cf := by
    obtain ⟨_, _, c', _, _, _, -, -, hf', -, -, -, hown2, -⟩ := Cond.laysFinal_spec hlay
    have g1 : c' = cf := by have := hi.symm.trans hf'; simp at this; exact this.1.symm
    rw [hdecl] at hown2
    rw [← g1]; exact Option.some.inj (hown.symm.trans hown2)
  have h6 := u_fits hfc hkC hkind (Or.inr hlay) hi (c3 q hq) hn hfit
  have hsz : fd.slot < cell.slots.size := by
    rw [hsl]
    exact k2_hasslot (q4 q hq)
  have fin : ∀ H' : Heap, H'[a]? = some (cell.setSlot fd.slot v) → H'.size = H.size → (∀ q, q ≠ a → H'[q]? = H[q]?) → _ := fun H' g1 z oq =>
    k C0 e1 e2 H' (locs ++ [⟨a, fd.slot⟩]) lsr (hP.set ha q1 g1 (k2_slotsz _ _ _) z oq ⟨_, c1, t_OB.to (V := updV (vp_V fs) q v) ⟨_, g1, q2, q3, by rw [hsl]; exact t_set q4 hap hq v⟩ (fun j _ => vp_updV_set hlen v j)⟩) (ax_locs hL hb) hl
  exact W.putFinK C0.1 C0.2.1 hown (ax_word hW hG f (ax_gFL _ _ _ _ _) _) hi hst hcf (C0.2.2.2.2.2.2.2.2.1.trans hnm) (by rw [q2]; exact h6) q1 q3 hsz rfl rfl hd fin
theorem aw_new {ci : Nat} {C : String} {T : u_T} {N : Nat} {tys : Nat → FieldType} (c : ax_cl ci C T N tys) {idx : Nat} {fs : List Value} (w1 : Cond.classLink Y.1.cls idx C ∈ lw_tbl) (w2 : Cond.instantiable C N ∈ lw_tbl) (w3 : Cond.initialized C ∈ lw_tbl) (hfs : ∀ j, j < N → defaultValue (tys j) = vp_V fs j) (hc : h.1 + 1 ≤ G.1 + room_1.cells) (hs : h.2.1 + N ≤ room_1.slots) (hd : decode Y.2.1 pc = .ok (.new idx, 3)) (k : AW G x Y fr lo h0 P (ax_new h (.inr (ci, fs)) N) (pc + 3) ls (.ref h.1 :: st)) : AW G x Y fr lo h0 P h pc ls st := by
  intro C0 e1 e2 H locs lsr hP hL hl
  obtain ⟨c1, c2, c3, c4⟩ := c
  have hW := C0.2.2.2.2.1
  have hG := C0.2.2.2.2.2.1
  have hK := ax_kn hW hG
  have hts := ax_uws hW hG c2 x.2.2.2.2.1
  have hKn := hK.1 ci _ c1
  have g0 : G.1 ≤ h0.1 := C0.2.2.2.2.2.2.2.2.2.2.1
  have g5 : h0.2.1 ≤ room_1.slots := C0.2.2.2.2.2.2.2.2.2.2.2.2.2.1
  refine W.newc C0.1 C0.2.1 C0.2.2.2.1 (ax_word hW hG w1 (ax_gCL _ _ _) _) (ax_word hW hG w2 (ax_gIN _ _) _) (ax_word hW hG w3 (ax_gII _) _) rfl hd ?_ ?_ (fun cC kC f1 f2 f3 f4 => ?_)
  · show h.1 - h0.1 + 1 ≤ room_1.cells - (h0.1 - G.1)
    omega
  · show h.2.1 - h0.2.1 + N ≤ room_1.slots - h0.2.1
    omega
  have hcC : cC = G.2.2.1.1 ci := Option.some.inj (f1.symm.trans hKn.2.1)
  subst hcC
  have z1 : (H.push ({ cls := G.2.2.1.1 ci, slots := kC.instanceTypes.map defaultValue, vm := .none } : Cell)).size = H.size + 1 := Array.size_push _
  have e3 : (H.push ({ cls := G.2.2.1.1 ci, slots := kC.instanceTypes.map defaultValue, vm := .none } : Cell))[H.size]? = some (blank (G.2.2.1.1 ci) kC) := Array.getElem?_push_size
  have o1 : ∀ q : Nat, q < H.size → (H.push ({ cls := G.2.2.1.1 ci, slots := kC.instanceTypes.map defaultValue, vm := .none } : Cell))[q]? = H[q]? := fun q hq => by rw [Array.getElem?_push, if_neg (Nat.ne_of_lt hq)]
  have hp1 : H.size = h.1 := hP.1
  have hP2 := hP.push (E := .inr (ci, fs)) (n := N) e3 (by simp [blank, f4]) z1 o1 hc hs ⟨_, c1, (u_born tys hts (fun _ z => z) hKn f2 e3 c3).to hfs⟩
  have kk := k C0 (by show h0.1 ≤ h.1 + 1; omega) (by show h0.2.1 ≤ h.2.1 + N; omega) _ locs lsr hP2 hL hl
  refine W.cs (cells' := h.1 + 1 - h0.1) (slots' := h.2.1 + N - h0.2.1) (by omega) (by omega) ?_
  rw [hp1]
  exact kk
theorem aw_newa {atype : ArrayType} {ty : FieldType} {n : Int32} {N : Nat} {f : ax_A} (w1 : Cond.arrayClass (newarray.typeOf atype) ∈ lw_tbl) (hty : newarray.typeOf atype = ty) (hf : ∀ j, ax_v f j = defaultValue ty) (hn : ¬ n < 0) (hN : n.toNatClampNeg = N) (hbytes : N * componentBytes ty ≤ 536870912) (hc : h.1 + 1 ≤ G.1 + room_1.cells) (hs : h.2.1 + N ≤ room_1.slots) (hd : decode Y.2.1 pc = .ok (.newarray atype, 2)) (hno : ∀ C : String, ty ≠ .object C) (k : AW G x Y fr lo h0 P (ax_new h (.inl (ty, N, f)) N) (pc + 2) ls (.ref h.1 :: st)) : AW G x Y fr lo h0 P h pc ls (.int n :: st) := by
  intro C0 e1 e2 H locs lsr hP hL hl
  subst hty
  subst hN
  have hW := C0.2.2.2.2.1
  have hG := C0.2.2.2.2.2.1
  have g0 : G.1 ≤ h0.1 := C0.2.2.2.2.2.2.2.2.2.2.1
  have g5 : h0.2.1 ≤ room_1.slots := C0.2.2.2.2.2.2.2.2.2.2.2.2.2.1
  have hp1 : H.size = h.1 := hP.1
  refine W.newa C0.1 C0.2.1 (ax_word hW hG w1 rfl _) rfl hd rfl hn hbytes ?_ ?_ (fun cA kA comp f1 f2 f3 => ?_)
  · show h.1 - h0.1 + 1 ≤ room_1.cells - (h0.1 - G.1)
    omega
  · show h.2.1 - h0.2.1 + n.toNatClampNeg ≤ room_1.slots - h0.2.1
    omega
  rw [arrV_new]
  have hfe : (fun _ => defaultValue (newarray.typeOf atype)) = ax_v f := by
    funext j
    exact (hf j).symm
  rw [hfe]
  have z1 : (H.push (arrV cA n.toNatClampNeg (ax_v f))).size = H.size + 1 := Array.size_push _
  have e3 : (H.push (arrV cA n.toNatClampNeg (ax_v f)))[H.size]? = some (arrV cA n.toNatClampNeg (ax_v f)) := Array.getElem?_push_size
  have o1 : ∀ q : Nat, q < H.size → (H.push (arrV cA n.toNatClampNeg (ax_v f)))[q]? = H[q]? := fun q hq => by rw [Array.getElem?_push, if_neg (Nat.ne_of_lt hq)]
  have hak : ax_AK x.2.2.1 cA (newarray.typeOf atype) := ⟨kA, comp, f2, f3, fun C hC => absurd hC (hno C)⟩
  have hP2 := hP.push (E := .inl (newarray.typeOf atype, n.toNatClampNeg, f)) (n := n.toNatClampNeg) e3 (arrV_size _ _ _) z1 o1 hc hs ⟨cA, e3, hak.moved hW.alike.symm⟩
  have kk := k C0 (by show h0.1 ≤ h.1 + 1; omega) (by show h0.2.1 ≤ h.2.1 + n.toNatClampNeg; omega) _ locs lsr hP2 hL hl
  refine W.cs (cells' := h.1 + 1 - h0.1) (slots' := h.2.1 + n.toNatClampNeg - h0.2.1) (by omega) (by omega) ?_
  rw [hp1]
  exact kk
theorem aw_anew {C : String} {idx : Nat} {n : Int32} {N : Nat} (w1 : Cond.classLink Y.1.cls idx C ∈ lw_tbl) (w2 : Cond.arrayOver (.object C) ∈ lw_tbl) (hn : ¬ n < 0) (hN : n.toNatClampNeg = N) (hbytes : N * 4 ≤ 536870912) (hc : h.1 + 1 ≤ G.1 + room_1.cells) (hs : h.2.1 + N ≤ room_1.slots) (hd : decode Y.2.1 pc = .ok (.anewarray idx, 3)) (k : AW G x Y fr lo h0 P (ax_new h (.inl (.object C, N, .inr (.inr (.inr (.inr (fun _ => none)))))) N) (pc + 3) ls (.ref h.1 :: st)) : AW G x Y fr lo h0 P h pc ls (.int n :: st) := by
  intro C0 e1 e2 H locs lsr hP hL hl
  subst hN
  have hW := C0.2.2.2.2.1
  have hG := C0.2.2.2.2.2.1
  have g0 : G.1 ≤ h0.1 := C0.2.2.2.2.2.2.2.2.2.2.1
  have g5 : h0.2.1 ≤ room_1.slots := C0.2.2.2.2.2.2.2.2.2.2.2.2.2.1
  have hp1 : H.size = h.1 := hP.1
  have w2' : (Cond.arrayOver (.object C)).before x.2.2.2.2.1 x.2.2.1 = true := va_AO.use (va_AO.moved hW.alike (va_AO.of (hG.1 _ w2)))
  refine W.anew C0.1 C0.2.1 C0.2.2.2.1 (ax_word hW hG w1 (ax_gCL _ _ _) _) w2' rfl hd rfl hn hbytes ?_ ?_ (fun cA kA comp f1 f2 f3 f4 => ?_)
  · show h.1 - h0.1 + 1 ≤ room_1.cells - (h0.1 - G.1)
    omega
  · show h.2.1 - h0.2.1 + n.toNatClampNeg ≤ room_1.slots - h0.2.1
    omega
  rw [arrV_new]
  have hfe : (fun _ => Value.null) = ax_v (.inr (.inr (.inr (.inr (fun _ => none))))) := rfl
  rw [hfe]
  have z1 : (H.push (arrV cA n.toNatClampNeg (ax_v (.inr (.inr (.inr (.inr (fun _ => none)))))))).size = H.size + 1 := Array.size_push _
  have e3 : (H.push (arrV cA n.toNatClampNeg (ax_v (.inr (.inr (.inr (.inr (fun _ => none))))))))[H.size]? = some (arrV cA n.toNatClampNeg (ax_v (.inr (.inr (.inr (.inr (fun _ => none))))))) := Array.getElem?_push_size
  have o1 : ∀ q : Nat, q < H.size → (H.push (arrV cA n.toNatClampNeg (ax_v (.inr (.inr (.inr (.inr (fun _ => none))))))))[q]? = H[q]? := fun q hq => by rw [Array.getElem?_push, if_neg (Nat.ne_of_lt hq)]
  have hak : ax_AK x.2.2.1 cA (.object C) := ⟨kA, comp, f2, f3, fun D hD => by cases hD; exact f4⟩
  have hP2 := hP.push (E := .inl (.object C, n.toNatClampNeg, .inr (.inr (.inr (.inr (fun _ => none)))))) (n := n.toNatClampNeg) e3 (arrV_size _ _ _) z1 o1 hc hs ⟨cA, e3, hak.moved hW.alike.symm⟩
  have kk := k C0 (by show h0.1 ≤ h.1 + 1; omega) (by show h0.2.1 ≤ h.2.1 + n.toNatClampNeg; omega) _ locs lsr hP2 hL hl
  refine W.cs (cells' := h.1 + 1 - h0.1) (slots' := h.2.1 + n.toNatClampNeg - h0.2.1) (by omega) (by omega) ?_
  rw [hp1]
  exact kk
theorem aw_alen {a : Nat} {ty : FieldType} {n : Nat} {f : ax_A} {v : Int32} (ha : h.2.2 a = some (.inl (ty, n, f))) (hv : Int32.ofNat n = v) (hd : decode Y.2.1 pc = .ok (.arraylength, 1)) (k : AW G x Y fr lo h0 P h (pc + 1) ls (.int v :: st)) : AW G x Y fr lo h0 P h pc ls (.ref a :: st) := by
  intro C0 e1 e2 H locs lsr hP hL hl
  obtain ⟨cA, r1, r2⟩ := (hP.at ha).2
  exact W.alen C0.1 C0.2.1 r1 ((r2.moved C0.2.2.2.2.1.alike).arr _ _) (by rw [arrV_size]; exact hv) rfl rfl hd (k C0 e1 e2 H locs lsr hP hL hl)
theorem aw_iald {a n : Nat} {f : Nat → Int32} {i : Int32} (ha : h.2.2 a = some (.inl (.int, n, .inl f))) (hin : vp_in i n) (hd : decode Y.2.1 pc = .ok (.iaload, 1)) (k : AW G x Y fr lo h0 P h (pc + 1) ls (.int (f i.toNatClampNeg) :: st)) : AW G x Y fr lo h0 P h pc ls (.int i :: .ref a :: st) := by
  intro C0 e1 e2 H locs lsr hP hL hl
  obtain ⟨cA, r1, r2⟩ := (hP.at ha).2
  have hlt : i.toNatClampNeg < n := Nat.not_le.mp fun q => hin (Or.inr q)
  exact W.iald (v := .int (f i.toNatClampNeg)) C0.1 C0.2.1 r1 ((r2.moved C0.2.2.2.2.1.alike).arr _ _) (fun q => by cases q) (by rw [arrV_size]; exact hin) (by rw [arrV_read _ _ hlt]; rfl) rfl rfl hd (k C0 e1 e2 H locs lsr hP hL hl)
theorem aw_bald {a n : Nat} {f : Nat → Int32} {i : Int32} (ha : h.2.2 a = some (.inl (.byte, n, .inl f))) (hin : vp_in i n) (hd : decode Y.2.1 pc = .ok (.baload, 1)) (k : AW G x Y fr lo h0 P h (pc + 1) ls (.int (f i.toNatClampNeg) :: st)) : AW G x Y fr lo h0 P h pc ls (.int i :: .ref a :: st) := by
  intro C0 e1 e2 H locs lsr hP hL hl
  obtain ⟨cA, r1, r2⟩ := (hP.at ha).2
  have hlt : i.toNatClampNeg < n := Nat.not_le.mp fun q => hin (Or.inr q)
  exact W.bald (v := .int (f i.toNatClampNeg)) C0.1 C0.2.1 r1 ((r2.moved C0.2.2.2.2.1.alike).arr _ _) (fun q => by cases q) (by rw [arrV_size]; exact hin) (by rw [arrV_read _ _ hlt]; rfl) rfl rfl hd (k C0 e1 e2 H locs lsr hP hL hl)
theorem aw_zald {a n : Nat} {f : Nat → Int32} {i : Int32} (ha : h.2.2 a = some (.inl (.boolean, n, .inl f))) (hin : vp_in i n) (hd : decode Y.2.1 pc = .ok (.baload, 1)) (k : AW G x Y fr lo h0 P h (pc + 1) ls (.int (f i.toNatClampNeg) :: st)) : AW G x Y fr lo h0 P h pc ls (.int i :: .ref a :: st) := by
  intro C0 e1 e2 H locs lsr hP hL hl
  obtain ⟨cA, r1, r2⟩ := (hP.at ha).2
  have hlt : i.toNatClampNeg < n := Nat.not_le.mp fun q => hin (Or.inr q)
  exact W.zald (v := .int (f i.toNatClampNeg)) C0.1 C0.2.1 r1 ((r2.moved C0.2.2.2.2.1.alike).arr _ _) (fun q => by cases q) (by rw [arrV_size]; exact hin) (by rw [arrV_read _ _ hlt]; rfl) rfl rfl hd (k C0 e1 e2 H locs lsr hP hL hl)
theorem aw_lald {a n : Nat} {f : Nat → Int64} {i : Int32} (ha : h.2.2 a = some (.inl (.long, n, .inr (.inl f)))) (hin : vp_in i n) (hd : decode Y.2.1 pc = .ok (.laload, 1)) (k : AW G x Y fr lo h0 P h (pc + 1) ls (.long (f i.toNatClampNeg) :: st)) : AW G x Y fr lo h0 P h pc ls (.int i :: .ref a :: st) := by
  intro C0 e1 e2 H locs lsr hP hL hl
  obtain ⟨cA, r1, r2⟩ := (hP.at ha).2
  have hlt : i.toNatClampNeg < n := Nat.not_le.mp fun q => hin (Or.inr q)
  exact W.lald (v := .long (f i.toNatClampNeg)) C0.1 C0.2.1 r1 ((r2.moved C0.2.2.2.2.1.alike).arr _ _) (fun q => by cases q) (by rw [arrV_size]; exact hin) (by rw [arrV_read _ _ hlt]; rfl) rfl rfl hd (k C0 e1 e2 H locs lsr hP hL hl)
theorem aw_aald {C : String} {a n : Nat} {f : Nat → Option Nat} {i : Int32} (ha : h.2.2 a = some (.inl (.object C, n, .inr (.inr (.inr (.inr f)))))) (hin : vp_in i n) (hd : decode Y.2.1 pc = .ok (.aaload, 1)) (k : AW G x Y fr lo h0 P h (pc + 1) ls (va_rf (f i.toNatClampNeg) :: st)) : AW G x Y fr lo h0 P h pc ls (.int i :: .ref a :: st) := by
  intro C0 e1 e2 H locs lsr hP hL hl
  obtain ⟨cA, r1, r2⟩ := (hP.at ha).2
  have hlt : i.toNatClampNeg < n := Nat.not_le.mp fun q => hin (Or.inr q)
  exact W.aald (v := va_rf (f i.toNatClampNeg)) (ty := .object C) C0.1 C0.2.1 r1 ((r2.moved C0.2.2.2.2.1.alike).arr _ _) rfl (fun q => by cases q) (by rw [arrV_size]; exact hin) (by rw [arrV_read _ _ hlt]; rfl) rfl rfl hd (k C0 e1 e2 H locs lsr hP hL hl)
theorem ax_updV {f g : Nat → Value} {i : Nat} {v : Value} (hs : g i = v) (ho : ∀ j, j ≠ i → g j = f j) : updV f i v = g := by
  funext j
  by_cases hj : j = i
  · subst hj
    simp [updV, hs]
  · simp [updV, hj, ho j hj]
theorem aw_iast {a n : Nat} {f : Nat → Int32} {i : Int32} {z : Int32} (ha : h.2.2 a = some (.inl (.int, n, .inl f))) (hin : vp_in i n) (hd : decode Y.2.1 pc = .ok (.iastore, 1)) (k : AW G x Y fr lo h0 P (ax_set h a (.inl (.int, n, .inl (va_up f i.toNatClampNeg z)))) (pc + 1) ls st) : AW G x Y fr lo h0 P h pc ls (.int z :: .int i :: .ref a :: st) := by
  intro C0 e1 e2 H locs lsr hP hL hl
  obtain ⟨hb, cA, r1, r2⟩ := hP.at ha
  refine W.iast C0.1 C0.2.1 r1 ((r2.moved C0.2.2.2.2.1.alike).arr _ _) (fun q => by cases q) (by rw [arrV_size]; exact hin) rfl rfl hd (fun H' g1 z1 oq => ?_)
  rw [arrV_store] at g1
  have hu : updV (ax_v (.inl f)) i.toNatClampNeg (.int z) = ax_v (.inl (va_up f i.toNatClampNeg z)) := ax_updV (by simp [ax_v, va_up]) (fun j hj => by simp [ax_v, va_up, hj])
  have g1 : H'[a]? = some (arrV cA n (updV (ax_v (.inl f)) i.toNatClampNeg (.int z))) := g1
  rw [hu] at g1
  exact k C0 e1 e2 H' _ lsr (hP.set ha r1 g1 (by rw [arrV_size, arrV_size]) z1 oq ⟨cA, g1, r2⟩) (ax_locs hL hb) hl
theorem aw_bast {a n : Nat} {f : Nat → Int32} {i : Int32} {z : Int32} (ha : h.2.2 a = some (.inl (.byte, n, .inl f))) (hin : vp_in i n) (hd : decode Y.2.1 pc = .ok (.bastore, 1)) (k : AW G x Y fr lo h0 P (ax_set h a (.inl (.byte, n, .inl (va_up f i.toNatClampNeg z.toInt8.toInt32)))) (pc + 1) ls st) : AW G x Y fr lo h0 P h pc ls (.int z :: .int i :: .ref a :: st) := by
  intro C0 e1 e2 H locs lsr hP hL hl
  obtain ⟨hb, cA, r1, r2⟩ := hP.at ha
  refine W.bast C0.1 C0.2.1 r1 ((r2.moved C0.2.2.2.2.1.alike).arr _ _) (fun q => by cases q) (by rw [arrV_size]; exact hin) rfl rfl hd (fun H' g1 z1 oq => ?_)
  rw [arrV_store] at g1
  have hu : updV (ax_v (.inl f)) i.toNatClampNeg (.int z.toInt8.toInt32) = ax_v (.inl (va_up f i.toNatClampNeg z.toInt8.toInt32)) := ax_updV (by simp [ax_v, va_up]) (fun j hj => by simp [ax_v, va_up, hj])
  have g1 : H'[a]? = some (arrV cA n (updV (ax_v (.inl f)) i.toNatClampNeg (.int z.toInt8.toInt32))) := g1
  rw [hu] at g1
  exact k C0 e1 e2 H' _ lsr (hP.set ha r1 g1 (by rw [arrV_size, arrV_size]) z1 oq ⟨cA, g1, r2⟩) (ax_locs hL hb) hl
theorem aw_zast {a n : Nat} {f : Nat → Int32} {i : Int32} {z : Int32} (ha : h.2.2 a = some (.inl (.boolean, n, .inl f))) (hin : vp_in i n) (hd : decode Y.2.1 pc = .ok (.bastore, 1)) (k : AW G x Y fr lo h0 P (ax_set h a (.inl (.boolean, n, .inl (va_up f i.toNatClampNeg (z &&& 1))))) (pc + 1) ls st) : AW G x Y fr lo h0 P h pc ls (.int z :: .int i :: .ref a :: st) := by
  intro C0 e1 e2 H locs lsr hP hL hl
  obtain ⟨hb, cA, r1, r2⟩ := hP.at ha
  refine W.zast C0.1 C0.2.1 r1 ((r2.moved C0.2.2.2.2.1.alike).arr _ _) (fun q => by cases q) (by rw [arrV_size]; exact hin) rfl rfl hd (fun H' g1 z1 oq => ?_)
  rw [arrV_store] at g1
  have hu : updV (ax_v (.inl f)) i.toNatClampNeg (.int (z &&& 1)) = ax_v (.inl (va_up f i.toNatClampNeg (z &&& 1))) := ax_updV (by simp [ax_v, va_up]) (fun j hj => by simp [ax_v, va_up, hj])
  have g1 : H'[a]? = some (arrV cA n (updV (ax_v (.inl f)) i.toNatClampNeg (.int (z &&& 1)))) := g1
  rw [hu] at g1
  exact k C0 e1 e2 H' _ lsr (hP.set ha r1 g1 (by rw [arrV_size, arrV_size]) z1 oq ⟨cA, g1, r2⟩) (ax_locs hL hb) hl
theorem aw_last {a n : Nat} {f : Nat → Int64} {i : Int32} {z : Int64} (ha : h.2.2 a = some (.inl (.long, n, .inr (.inl f)))) (hin : vp_in i n) (hd : decode Y.2.1 pc = .ok (.lastore, 1)) (k : AW G x Y fr lo h0 P (ax_set h a (.inl (.long, n, .inr (.inl (va_up f i.toNatClampNeg z))))) (pc + 1) ls st) : AW G x Y fr lo h0 P h pc ls (.long z :: .int i :: .ref a :: st) := by
  intro C0 e1 e2 H locs lsr hP hL hl
  obtain ⟨hb, cA, r1, r2⟩ := hP.at ha
  refine W.last C0.1 C0.2.1 r1 ((r2.moved C0.2.2.2.2.1.alike).arr _ _) (fun q => by cases q) (by rw [arrV_size]; exact hin) rfl rfl hd (fun H' g1 z1 oq => ?_)
  rw [arrV_store] at g1
  have hu : updV (ax_v (.inr (.inl f))) i.toNatClampNeg (.long z) = ax_v (.inr (.inl (va_up f i.toNatClampNeg z))) := ax_updV (by simp [ax_v, va_up]) (fun j hj => by simp [ax_v, va_up, hj])
  have g1 : H'[a]? = some (arrV cA n (updV (ax_v (.inr (.inl f))) i.toNatClampNeg (.long z))) := g1
  rw [hu] at g1
  exact k C0 e1 e2 H' _ lsr (hP.set ha r1 g1 (by rw [arrV_size, arrV_size]) z1 oq ⟨cA, g1, r2⟩) (ax_locs hL hb) hl
/-- an object of the table's class ci goes into a row of E -/
theorem aw_aast {E C : String} {T : u_T} {N ci : Nat} {tys : Nat → FieldType} (c : ax_cl ci C T N tys) (hca : C = E ∨ Cond.castable C E ∈ lw_tbl) {a n b : Nat} {fs : List Value} {f : Nat → Option Nat} {i : Int32} (ha : h.2.2 a = some (.inl (.object E, n, .inr (.inr (.inr (.inr f)))))) (hbv : h.2.2 b = some (.inr (ci, fs))) (hin : vp_in i n) (hd : decode Y.2.1 pc = .ok (.aastore, 1)) (k : AW G x Y fr lo h0 P (ax_set h a (.inl (.object E, n, .inr (.inr (.inr (.inr (va_up f i.toNatClampNeg (some b)))))))) (pc + 1) ls st) : AW G x Y fr lo h0 P h pc ls (.ref b :: .int i :: .ref a :: st) := by
  intro C0 e1 e2 H locs lsr hP hL hl
  obtain ⟨c1, c2, c3, c4⟩ := c
  have hW := C0.2.2.2.2.1
  have hG := C0.2.2.2.2.2.1
  have hK := ax_kn hW hG
  obtain ⟨hb, cA, r1, r2⟩ := hP.at ha
  have hlt : i.toNatClampNeg < n := Nat.not_le.mp fun q => hin (Or.inr q)
  have hi0 : ¬ i < 0 := fun q => hin (Or.inl q)
  obtain ⟨kA, comp, k1, k2, k3⟩ := r2.moved hW.alike
  have k3 := k3 E rfl
  obtain ⟨r, s1, cellV, s2, s3, s4, -⟩ := (hP.at hbv).2
  have hr : r = (C, T, N) := Option.some.inj (s1.symm.trans c1)
  subst hr
  have hcls := (hK.1 ci _ c1).2
  obtain ⟨kC, hkC, -⟩ := hcls.2
  obtain ⟨kE, hkE, -⟩ := Vm.findClass_spec k3
  have hasg : x.2.2.1.vm.assignable (G.2.2.1.1 ci) comp = true := by
    rcases hca with hca | hca
    · subst hca
      have hcomp : comp = G.2.2.1.1 ci := Option.some.inj (k3.symm.trans hcls.1)
      rw [hcomp]
      exact va_assign hcls
    · obtain ⟨c0, t1, f1, f2, f3⟩ := Cond.castable_spec (ax_cst hW hG hca x.2.2.2.2.1)
      cases hcls.1.symm.trans f1
      cases k3.symm.trans f2
      exact f3
  refine W.aast C0.1 C0.2.1 r1 (fun q z => by cases z) (fun z => by cases z) k1 k2 rfl hkE ⟨hi0, by rw [arrV_size]; exact hlt⟩ s2 (fun q z => by rw [s4] at z; cases z) (by rw [s3]; exact hkC) (by rw [s3]; exact hasg) rfl rfl hd (fun H' g1 z1 oq => ?_)
  rw [arrV_store] at g1
  have hu : updV (ax_v (.inr (.inr (.inr (.inr f))))) i.toNatClampNeg (.ref b) = ax_v (.inr (.inr (.inr (.inr (va_up f i.toNatClampNeg (some b)))))) := ax_updV (by simp [ax_v, va_up, va_rf]) (fun j hj => by simp [ax_v, va_up, hj])
  have g1 : H'[a]? = some (arrV cA n (updV (ax_v (.inr (.inr (.inr (.inr f))))) i.toNatClampNeg (.ref b))) := g1
  rw [hu] at g1
  exact k C0 e1 e2 H' _ lsr (hP.set ha r1 g1 (by rw [arrV_size, arrV_size]) z1 oq ⟨cA, g1, r2⟩) (ax_locs hL hb) hl
theorem aw_aastN {E : String} {a n : Nat} {f : Nat → Option Nat} {i : Int32} (ha : h.2.2 a = some (.inl (.object E, n, .inr (.inr (.inr (.inr f)))))) (hin : vp_in i n) (hd : decode Y.2.1 pc = .ok (.aastore, 1)) (k : AW G x Y fr lo h0 P (ax_set h a (.inl (.object E, n, .inr (.inr (.inr (.inr (va_up f i.toNatClampNeg none))))))) (pc + 1) ls st) : AW G x Y fr lo h0 P h pc ls (.null :: .int i :: .ref a :: st) := by
  intro C0 e1 e2 H locs lsr hP hL hl
  obtain ⟨hb, cA, r1, r2⟩ := hP.at ha
  refine va_WaastN (C := E) C0.1 C0.2.1 r1 ((r2.moved C0.2.2.2.2.1.alike).arr _ _) (fun q => by cases q) (by rw [arrV_size]; exact hin) rfl rfl hd (fun H' g1 z1 oq => ?_)
  rw [arrV_store] at g1
  have hu : updV (ax_v (.inr (.inr (.inr (.inr f))))) i.toNatClampNeg .null = ax_v (.inr (.inr (.inr (.inr (va_up f i.toNatClampNeg none))))) := ax_updV (by simp [ax_v, va_up, va_rf]) (fun j hj => by simp [ax_v, va_up, hj])
  have g1 : H'[a]? = some (arrV cA n (updV (ax_v (.inr (.inr (.inr (.inr f))))) i.toNatClampNeg .null)) := g1
  rw [hu] at g1
  exact k C0 e1 e2 H' _ lsr (hP.set ha r1 g1 (by rw [arrV_size, arrV_size]) z1 oq ⟨cA, g1, r2⟩) (ax_locs hL hb) hl
theorem ax_recv {s : State} {H : Heap} {ci a : Nat} {C : String} {T : u_T} {N : Nat} {tys : Nat → FieldType} {fs : List Value} (c : ax_cl ci C T N tys) (hW : G.2.1.WarmedH s.vm) (hG : ax_G0 G) (hP : ax_P G h H) (ha : h.2.2 a = some (.inr (ci, fs))) : ∃ cell : Cell, H[a]? = some cell ∧ cell.vm.isStatics = false ∧ s.vm.findClass C = some cell.cls := by
  obtain ⟨r, s1, cellV, s2, s3, s4, -⟩ := (hP.at ha).2
  have hr : r = (C, T, N) := Option.some.inj (s1.symm.trans c.1)
  subst hr
  exact ⟨cellV, s2, by rw [s4]; rfl, by rw [s3]; exact ((ax_kn hW hG).1 ci _ c.1).2.1⟩
/-- a cast of an object of the table's class ci to its own class, or to one that it is -/
theorem aw_cast {E C : String} {T : u_T} {N ci : Nat} {tys : Nat → FieldType} (c : ax_cl ci C T N tys) {idx a : Nat} {fs : List Value} (w1 : Cond.classLink Y.1.cls idx E ∈ lw_tbl) (hca : C = E ∨ Cond.castable C E ∈ lw_tbl) (ha : h.2.2 a = some (.inr (ci, fs))) (hd : decode Y.2.1 pc = .ok (.checkcast idx, 3)) (k : AW G x Y fr lo h0 P h (pc + 3) ls (.ref a :: st)) : AW G x Y fr lo h0 P h pc ls (.ref a :: st) := by
  intro C0 e1 e2 H locs lsr hP hL hl
  have hW := C0.2.2.2.2.1
  have hG := C0.2.2.2.2.2.1
  have hr := ax_recv c hW hG hP ha
  have kk := k C0 e1 e2 H locs lsr hP hL hl
  rcases hca with hca | hca
  · subst hca
    exact va_castS C0.1 C0.2.1 C0.2.2.2.1 (ax_word hW hG w1 (ax_gCL _ _ _) _) ((ax_kn hW hG).1 ci _ c.1).2 hr hd kk
  · exact va_castY C0.1 C0.2.1 C0.2.2.2.1 (ax_word hW hG w1 (ax_gCL _ _ _) _) (va_Nw.of rfl (ax_cst hW hG hca #[])) hr hd kk
theorem aw_castN {idx : Nat} (hd : decode Y.2.1 pc = .ok (.checkcast idx, 3)) (k : AW G x Y fr lo h0 P h (pc + 3) ls (.null :: st)) : AW G x Y fr lo h0 P h pc ls (.null :: st) := fun C0 e1 e2 H locs lsr hP hL hl => lv_castN C0.1 C0.2.1 hd (k C0 e1 e2 H locs lsr hP hL hl)
theorem aw_ldc {idx : Nat} {v : Int32} (w1 : Cond.constant Y.1.cls idx v ∈ lw_tbl) (hd : decode Y.2.1 pc = .ok (.ldc idx, 2)) (k : AW G x Y fr lo h0 P h (pc + 2) ls (.int v :: st)) : AW G x Y fr lo h0 P h pc ls st := fun C0 e1 e2 H locs lsr hP hL hl => lv_ldc C0.1 C0.2.1 C0.2.2.2.1 (ax_word C0.2.2.2.2.1 C0.2.2.2.2.2.1 w1 (ax_gK _ _ _) _) hd (k C0 e1 e2 H locs lsr hP hL hl)
theorem aw_ldcw {idx : Nat} {v : Int32} (w1 : Cond.constant Y.1.cls idx v ∈ lw_tbl) (hd : decode Y.2.1 pc = .ok (.ldc_w idx, 3)) (k : AW G x Y fr lo h0 P h (pc + 3) ls (.int v :: st)) : AW G x Y fr lo h0 P h pc ls st := fun C0 e1 e2 H locs lsr hP hL hl => lv_ldcw C0.1 C0.2.1 C0.2.2.2.1 (ax_word C0.2.2.2.2.1 C0.2.2.2.2.2.1 w1 (ax_gK _ _ _) _) hd (k C0 e1 e2 H locs lsr hP hL hl)
theorem aw_ldc2 {idx : Nat} {v : Int64} (w1 : Cond.constantLong Y.1.cls idx v ∈ lw_tbl) (hd : decode Y.2.1 pc = .ok (.ldc2_w idx, 3)) (k : AW G x Y fr lo h0 P h (pc + 3) ls (.long v :: st)) : AW G x Y fr lo h0 P h pc ls st := fun C0 e1 e2 H locs lsr hP hL hl => lv_ldc2 C0.1 C0.2.1 C0.2.2.2.1 (ax_word C0.2.2.2.2.1 C0.2.2.2.2.2.1 w1 (ax_gKL _ _ _) _) hd (k C0 e1 e2 H locs lsr hP hL hl)
theorem ax_end {v : Option Value} {H : Heap} {s t : State} {ar : Array Value} (hp : P v h) (e1 : h0.1 ≤ h.1) (e2 : h0.2.1 ≤ h.2.1) (hP : ax_P G h H) (hW : G.2.1.WarmedH s.vm) (hG : ax_G0 G) (ht : t.heap = H) (hw : s.WarmedH t.vm) : ax_Q G h0 P ar s (.returned v) t := ⟨v, h, rfl, hp, e1, e2, by rw [ht]; exact hP, State.WarmedH.trans hW hw, hG⟩
theorem aw_iret {v : Int32} (hp : P (some (.int v)) h) (hr : Y.2.2.2 = some .int) (hd : decode Y.2.1 pc = .ok (.ireturn, 1)) : AW G x Y fr lo h0 P h pc ls ([.int v]) := by
  intro C0 e1 e2 H locs lsr hP hL hl
  have g1 := hP.2.2.1
  have g2 := hP.2.2.2.2.1
  have g0 : G.1 ≤ h0.1 := C0.2.2.2.2.2.2.2.2.2.2.1
  refine W.widen (k := room_1.cells - (h0.1 - G.1)) (n := room_1.slots - h0.2.1) (by omega) (by omega) ?_
  exact W.iret C0.1 C0.2.1 (C0.2.2.2.2.2.2.2.1.trans hr) (fun t ht hw => ax_end hp e1 e2 hP C0.2.2.2.2.1 C0.2.2.2.2.2.1 ht hw) (fun q hq => hL q hq) hd C0.2.2.2.2.2.2.1
theorem aw_zret {v : Int32} {ty : FieldType} (hp : P (some (.int v)) h) (hr : Y.2.2.2 = some ty) (hn : narrow ty (.int v) = .int v) (hd : decode Y.2.1 pc = .ok (.ireturn, 1)) : AW G x Y fr lo h0 P h pc ls [.int v] := by
  intro C0 e1 e2 H locs lsr hP hL hl
  have g1 := hP.2.2.1
  have g2 := hP.2.2.2.2.1
  have g0 : G.1 ≤ h0.1 := C0.2.2.2.2.2.2.2.2.2.2.1
  refine W.widen (k := room_1.cells - (h0.1 - G.1)) (n := room_1.slots - h0.2.1) (by omega) (by omega) ?_
  exact W.zret C0.1 C0.2.1 (C0.2.2.2.2.2.2.2.1.trans hr) hn (fun t ht hw => ax_end hp e1 e2 hP C0.2.2.2.2.1 C0.2.2.2.2.2.1 ht hw) (fun q hq => hL q hq) hd C0.2.2.2.2.2.2.1
theorem aw_lret {v : Int64} (hp : P (some (.long v)) h) (hr : Y.2.2.2 = some .long) (hd : decode Y.2.1 pc = .ok (.lreturn, 1)) : AW G x Y fr lo h0 P h pc ls ([.long v]) := by
  intro C0 e1 e2 H locs lsr hP hL hl
  have g1 := hP.2.2.1
  have g2 := hP.2.2.2.2.1
  have g0 : G.1 ≤ h0.1 := C0.2.2.2.2.2.2.2.2.2.2.1
  refine W.widen (k := room_1.cells - (h0.1 - G.1)) (n := room_1.slots - h0.2.1) (by omega) (by omega) ?_
  exact W.lret C0.1 C0.2.1 (C0.2.2.2.2.2.2.2.1.trans hr) (fun t ht hw => ax_end hp e1 e2 hP C0.2.2.2.2.1 C0.2.2.2.2.2.1 ht hw) (fun q hq => hL q hq) hd C0.2.2.2.2.2.2.1
theorem aw_vret (hp : P (none) h) (hr : Y.2.2.2 = none) (hd : decode Y.2.1 pc = .ok (.return_, 1)) : AW G x Y fr lo h0 P h pc ls ([]) := by
  intro C0 e1 e2 H locs lsr hP hL hl
  have g1 := hP.2.2.1
  have g2 := hP.2.2.2.2.1
  have g0 : G.1 ≤ h0.1 := C0.2.2.2.2.2.2.2.2.2.2.1
  refine W.widen (k := room_1.cells - (h0.1 - G.1)) (n := room_1.slots - h0.2.1) (by omega) (by omega) ?_
  exact W.vret C0.1 C0.2.1 (C0.2.2.2.2.2.2.2.1.trans hr) (fun t ht hw => ax_end hp e1 e2 hP C0.2.2.2.2.1 C0.2.2.2.2.2.1 ht hw) (fun q hq => hL q hq) hd C0.2.2.2.2.2.2.1
theorem aw_aret {r : Option Nat} {ty : FieldType} (hp : P (some (va_rf r)) h) (hr : Y.2.2.2 = some ty) (hrt : (∃ n, ty = .object n) ∨ ∃ t, ty = .array t) (hd : decode Y.2.1 pc = .ok (.areturn, 1)) : AW G x Y fr lo h0 P h pc ls [va_rf r] := by
  intro C0 e1 e2 H locs lsr hP hL hl
  have g1 := hP.2.2.1
  have g2 := hP.2.2.2.2.1
  have g0 : G.1 ≤ h0.1 := C0.2.2.2.2.2.2.2.2.2.2.1
  refine W.widen (k := room_1.cells - (h0.1 - G.1)) (n := room_1.slots - h0.2.1) (by omega) (by omega) ?_
  exact W.aret C0.1 C0.2.1 (C0.2.2.2.2.2.2.2.1.trans hr) hrt (va_rf_or r) (fun t ht hw => ax_end hp e1 e2 hP C0.2.2.2.2.1 C0.2.2.2.2.2.1 ht hw) (fun q hq => hL q hq) hd C0.2.2.2.2.2.2.1
end AXH
end
section
section AXC
variable {G : ax_G} {x : ax_X} {Y : ax_Y} {fr lo : Nat} {h0 h : ax_H} {P : Option Value → ax_H → Prop} {pc : Nat} {ls : List (Option Value)} {st : List Value}
/-- an instruction's method, by its pool number -/
def ax_ml (own : String) (idx : Nat) (y : MethodName) : Prop := (Cond.methodLink own idx y ∈ lw_tbl) ∨ ∃ host : String, Cond.methodLinkNest own idx y host ∈ lw_tbl
/-- a method of n parameters: what the tables say of it -/
def ax_M (Y : ax_Y) (n : Nat) : Prop := Cond.initialized Y.1.cls ∈ lw_tbl ∧ Cond.code Y.1 Y.2.1 Y.2.2.1 Y.2.2.2 ∈ lw_tbl ∧ (Y.1.cls ≠ "java/lang/invoke/MethodHandle" ∧ Y.1.cls ≠ "java/lang/invoke/VarHandle") ∧ (parseMethodDescriptor Y.1.desc).map (fun d => d.parameters.length) = some n
/-- a static one, one of objects, a constructor -/
def ax_MS (Y : ax_Y) (n : Nat) : Prop := ax_M Y n ∧ Cond.static Y.1 ∈ lw_tbl
def ax_MV (Y : ax_Y) (n : Nat) : Prop := ax_M Y n ∧ Cond.instanceMethod Y.1 ∈ lw_tbl ∧ Cond.selects Y.1.cls Y.1 Y.1 ∈ lw_tbl
def ax_MI (Y : ax_Y) (n : Nat) : Prop := ax_M Y n ∧ Cond.instanceMethod Y.1 ∈ lw_tbl ∧ Y.1.name = "<init>" ∧ Y.2.2.2 = none
theorem ax_M.len {Y : ax_Y} {n : Nat} (m : ax_M Y n) : ∀ sig, parseMethodDescriptor Y.1.desc = some sig → n = sig.parameters.length := by
  intro sig hs
  have h2 := m.2.2.2
  rw [hs] at h2
  exact (Option.some.inj h2).symm
theorem ax_M.ws {Y : ax_Y} {n : Nat} (m : ax_M Y n) {s : State} (hW : G.2.1.WarmedH s.vm) (hG : ax_G0 G) : ∀ w ∈ [Cond.code Y.1 Y.2.1 Y.2.2.1 Y.2.2.2], ∀ (a' : Array Value) (U : State), s.WarmedH U.vm → w.before a' U = true := by
  intro w hw a' U hU
  rw [List.mem_singleton.mp hw]
  exact ax_word (State.WarmedH.trans hW hU) hG m.2.1 (ax_gCO _ _ _ _) a'
theorem ax_blind {av : List Value} : FrameBlind (va_Pc av (ax_U G h)) := fun _ _ _ _ q => ⟨q.1, q.2.1, q.2.2.1, q.2.2.2⟩
theorem ax_after {C0 : ax_C G x Y h0} (e1 : h0.1 ≤ h.1) (e2 : h0.2.1 ≤ h.2.1) {H : Heap} {locs : List Loc} {lsr : Array Slot} (hL : ∀ q ∈ locs, G.1 ≤ q.base) (hl : ax_L lsr Y.2.2.1 ls) {st0 : List Value} {a : Array Value} {P' : Option Value → ax_H → Prop}
    (hr : va_Run x.1 G.2.2.2.1 x.2.1 (ax_R fr lo G h0) x.2.2.1 x.2.2.2.1 x.2.2.2.2.1 x.2.2.2.2.2.1 x.2.2.2.2.2.2.1 x.2.2.2.2.2.2.2 H locs (h.1 - h0.1) (h.2.1 - h0.2.1) (room_1.cells - (h.1 - G.1)) (room_1.slots - h.2.1) (F0 x.2.2.2.1 pc lsr st0) st (ax_Q G h P' a) (fun q => G.1 ≤ q))
    (k : ∀ (v : Option Value) (h' : ax_H), P' v h' → AW G x Y fr lo h0 P h' (pc + 3) ls (v.toList ++ st)) :
    W x.1 G.2.2.2.1 x.2.1 (ax_R fr lo G h0) x.2.2.1 x.2.2.2.1 x.2.2.2.2.1 x.2.2.2.2.2.1 x.2.2.2.2.2.2.1 x.2.2.2.2.2.2.2 H locs (h.1 - h0.1) (h.2.1 - h0.2.1)
      (MQ x.2.2.2.2.2.1 (ax_Q G h0 P) x.2.2.2.2.1 x.2.2.1 (room_1.cells - (h0.1 - G.1)) (room_1.slots - h0.2.1) (fun q => G.1 ≤ q)) (F0 x.2.2.2.1 pc lsr st0) := by
  intro T hT X
  obtain ⟨v, st₀, t, T', L, hz, X', hL2, g1, g2, ⟨v', h', q1, q2, q3, q4, q5, q6, q7⟩, step⟩ := hr T hT X
  cases q1
  have q5 : ax_P G h' T'.heap := by rw [g1]; exact q5
  have hP0 := C0.2.2.2.2.2.2.2.2.2
  have kk := k v h' q2 C0 (Nat.le_trans e1 q3) (Nat.le_trans e2 q4) T'.heap (locs ++ L) lsr q5 (fun q hq => by
    rcases List.mem_append.mp hq with z | z
    · exact hL q z
    · exact hL2 q z) hl
  have hsp := ax_sz_split X' (b := G.1) (by rw [hP0.1]; exact hP0.2.1)
  have z1 : T'.heap.size = h'.1 := q5.1
  have z2 : ax_sz G.1 T'.heap = h'.2.1 := q5.2.2.2.1
  have z3 : x.2.2.1.heap.size = h0.1 := hP0.1
  have z4 : ax_sz G.1 x.2.2.1.heap = h0.2.1 := hP0.2.2.2.1
  obtain ⟨t2, a1, b1⟩ := kk T' rfl (ax_tight X' (by rw [z1, z3]; omega) (by omega))
  exact ⟨t2, step t2 a1, b1⟩
theorem ax_roomC {Y' : ax_Y} {fr' lo' : Nat} (C0 : ax_C G x Y h0) (e1 : h0.1 ≤ h.1) (e2 : h0.2.1 ≤ h.2.1) {H : Heap} (hP : ax_P G h H) : h.1 - h0.1 + (room_1.cells - (h.1 - G.1)) ≤ (ax_R fr lo G h0).cells ∧ h.2.1 - h0.2.1 + (room_1.slots - h.2.1) ≤ (ax_R fr lo G h0).slots := by
  have g0 : G.1 ≤ h0.1 := C0.2.2.2.2.2.2.2.2.2.2.1
  have g1 := hP.2.2.1
  have g2 := hP.2.2.2.2.1
  refine ⟨?_, ?_⟩
  · show h.1 - h0.1 + (room_1.cells - (h.1 - G.1)) ≤ room_1.cells - (h0.1 - G.1)
    omega
  · show h.2.1 - h0.2.1 + (room_1.slots - h.2.1) ≤ room_1.slots - h0.2.1
    omega
theorem aw_callS {Y' : ax_Y} {fr' lo' idx n : Nat} {av st0 : List Value} {P' : Option Value → ax_H → Prop} (M : AM G Y' fr' lo' av h P') (m : ax_MS Y' n) (w : ax_ml Y.1.cls idx Y'.1) (hn : av.length = n) (hst0 : av.reverse ++ st = st0) (hfr : fr' + 1 ≤ fr) (hlo : 8 + (Y'.2.2.1 + 11) + lo' ≤ lo) (hst : (st.map fun v => v.category).sum ≤ 8) (hd : decode Y.2.1 pc = .ok (.invokestatic idx, 3)) (k : ∀ (v : Option Value) (h' : ax_H), P' v h' → AW G x Y fr lo h0 P h' (pc + 3) ls (v.toList ++ st)) : AW G x Y fr lo h0 P h pc ls st0 := by
  subst hst0
  intro C0 e1 e2 H locs lsr hP hL hl
  have hW := C0.2.2.2.2.1
  have hG := C0.2.2.2.2.2.1
  refine ax_after (C0 := C0) (a := av.toArray) e1 e2 hL hl ?_ k
  have hp : PreS x.2.2.1 H (va_Pc av (ax_U G h)) av := ⟨ax_blind, fun U hU hw => ⟨rfl, by rw [hU]; exact hP, State.WarmedH.trans hW hw, hG⟩⟩
  rcases w with w | ⟨host, w⟩
  · exact va_runS (Ts := []) (n := n) (bytes := Y'.2.1) (maxL := Y'.2.2.1) (ret := Y'.2.2.2) ⟨C0.1, C0.2.1, C0.2.2.1, C0.2.2.2.1, fun w hw => by cases hw⟩ M ⟨⟨rfl, rfl, hfr, hlo, m.1.ws hW hG, List.mem_singleton.mpr rfl, ax_word hW hG m.1.2.1 (ax_gCO _ _ _ _) _, ax_word hW hG m.1.1 (ax_gII _) _, m.1.2.2.1, m.1.len, ax_word hW hG w (ax_gML _ _ _) _⟩, ax_word hW hG m.2 (ax_gST _) _⟩ hp rfl hn hl.size rfl (lv_room hst) hd (ax_roomC (Y' := Y') (fr' := fr') (lo' := lo') C0 e1 e2 hP)
  · exact va_runSN (Ts := []) (n := n) (bytes := Y'.2.1) (maxL := Y'.2.2.1) (ret := Y'.2.2.2) ⟨C0.1, C0.2.1, C0.2.2.1, C0.2.2.2.1, fun w hw => by cases hw⟩ M ⟨⟨⟨rfl, rfl, hfr, hlo, m.1.ws hW hG, List.mem_singleton.mpr rfl⟩, ax_word hW hG m.1.2.1 (ax_gCO _ _ _ _) _, ax_word hW hG m.1.1 (ax_gII _) _, m.1.2.2.1, m.1.len, ax_nestM hW hG w _⟩, ax_word hW hG m.2 (ax_gST _) _, trivial⟩ hp rfl hn hl.size rfl (lv_room hst) hd (ax_roomC (Y' := Y') (fr' := fr') (lo' := lo') C0 e1 e2 hP)
theorem aw_callV {Y' : ax_Y} {fr' lo' idx n b ci : Nat} {T : u_T} {N : Nat} {tys : Nat → FieldType} {fs : List Value} {av st0 : List Value} {P' : Option Value → ax_H → Prop} (M : AM G Y' fr' lo' (.ref b :: av) h P') (c : ax_cl ci Y'.1.cls T N tys) (hb : h.2.2 b = some (.inr (ci, fs))) (m : ax_MV Y' n) (w : ax_ml Y.1.cls idx Y'.1) (hn : av.length = n) (hst0 : av.reverse ++ .ref b :: st = st0) (hfr : fr' + 1 ≤ fr) (hlo : 8 + (Y'.2.2.1 + 11) + lo' ≤ lo) (hst : (st.map fun v => v.category).sum ≤ 8) (hd : decode Y.2.1 pc = .ok (.invokevirtual idx, 3)) (k : ∀ (v : Option Value) (h' : ax_H), P' v h' → AW G x Y fr lo h0 P h' (pc + 3) ls (v.toList ++ st)) : AW G x Y fr lo h0 P h pc ls st0 := by
  subst hst0
  intro C0 e1 e2 H locs lsr hP hL hl
  have hW := C0.2.2.2.2.1
  have hG := C0.2.2.2.2.2.1
  refine ax_after (C0 := C0) (a := (.ref b :: av).toArray) e1 e2 hL hl ?_ k
  have hp : PreV x.2.2.1 H Y'.1.cls b (va_Pc (.ref b :: av) (ax_U G h)) av := ⟨ax_blind, ax_recv c hW hG hP hb, fun U hU hw => ⟨rfl, by rw [hU]; exact hP, State.WarmedH.trans hW hw, hG⟩⟩
  rcases w with w | ⟨host, w⟩
  · exact va_runV (Ts := []) (n := n) (bytes := Y'.2.1) (maxL := Y'.2.2.1) (ret := Y'.2.2.2) ⟨C0.1, C0.2.1, C0.2.2.1, C0.2.2.2.1, fun w hw => by cases hw⟩ M ⟨⟨rfl, rfl, hfr, hlo, m.1.ws hW hG, List.mem_singleton.mpr rfl, ax_word hW hG m.1.2.1 (ax_gCO _ _ _ _) _, ax_word hW hG m.1.1 (ax_gII _) _, m.1.2.2.1, m.1.len, ax_word hW hG w (ax_gML _ _ _) _⟩, ax_word hW hG m.2.1 (ax_gIM _) _, ax_word hW hG m.2.2 (ax_gSE _ _ _) _⟩ hp rfl hn hl.size rfl (lv_room hst) hd (ax_roomC (Y' := Y') (fr' := fr') (lo' := lo') C0 e1 e2 hP)
  · exact va_runVN (Ts := []) (n := n) (bytes := Y'.2.1) (maxL := Y'.2.2.1) (ret := Y'.2.2.2) ⟨C0.1, C0.2.1, C0.2.2.1, C0.2.2.2.1, fun w hw => by cases hw⟩ M ⟨⟨⟨rfl, rfl, hfr, hlo, m.1.ws hW hG, List.mem_singleton.mpr rfl⟩, ax_word hW hG m.1.2.1 (ax_gCO _ _ _ _) _, ax_word hW hG m.1.1 (ax_gII _) _, m.1.2.2.1, m.1.len, ax_nestM hW hG w _⟩, ax_word hW hG m.2.1 (ax_gIM _) _, ax_word hW hG m.2.2 (ax_gSE _ _ _) _⟩ hp rfl hn hl.size rfl (lv_room hst) hd (ax_roomC (Y' := Y') (fr' := fr') (lo' := lo') C0 e1 e2 hP)
theorem aw_callI {Y' : ax_Y} {fr' lo' idx n b : Nat} {av st0 : List Value} {P' : Option Value → ax_H → Prop} (M : AM G Y' fr' lo' (.ref b :: av) h P') (m : ax_MI Y' n) (w : ax_ml Y.1.cls idx Y'.1) (hn : av.length = n) (hst0 : av.reverse ++ .ref b :: st = st0) (hfr : fr' + 1 ≤ fr) (hlo : 8 + (Y'.2.2.1 + 11) + lo' ≤ lo) (hst : (st.map fun v => v.category).sum ≤ 8) (hd : decode Y.2.1 pc = .ok (.invokespecial idx, 3)) (k : ∀ (v : Option Value) (h' : ax_H), P' v h' → AW G x Y fr lo h0 P h' (pc + 3) ls (v.toList ++ st)) : AW G x Y fr lo h0 P h pc ls st0 := by
  subst hst0
  intro C0 e1 e2 H locs lsr hP hL hl
  have hW := C0.2.2.2.2.1
  have hG := C0.2.2.2.2.2.1
  refine ax_after (C0 := C0) (a := (.ref b :: av).toArray) e1 e2 hL hl ?_ k
  have hp : PreS x.2.2.1 H (va_Pc (.ref b :: av) (ax_U G h)) (.ref b :: av) := ⟨ax_blind, fun U hU hw => ⟨rfl, by rw [hU]; exact hP, State.WarmedH.trans hW hw, hG⟩⟩
  obtain ⟨m1, m2, m3, m4⟩ := m
  obtain ⟨y, bytes, maxL, ret⟩ := Y'
  have m4 : ret = none := m4
  subst m4
  rcases w with w | ⟨host, w⟩
  · exact va_runI (Ts := []) (n := n) (bytes := bytes) (maxL := maxL) ⟨C0.1, C0.2.1, C0.2.2.1, C0.2.2.2.1, fun w hw => by cases hw⟩ M ⟨⟨rfl, rfl, hfr, hlo, m1.ws hW hG, List.mem_singleton.mpr rfl, ax_word hW hG m1.2.1 (ax_gCO _ _ _ _) _, ax_word hW hG m1.1 (ax_gII _) _, m1.2.2.1, m1.len, ax_word hW hG w (ax_gML _ _ _) _⟩, m3, ax_word hW hG m2 (ax_gIM _) _⟩ hp rfl hn hl.size rfl (lv_room hst) hd (ax_roomC (Y' := (y, bytes, maxL, none)) (fr' := fr') (lo' := lo') C0 e1 e2 hP)
  · exact va_runIN (Ts := []) (n := n) (bytes := bytes) (maxL := maxL) ⟨C0.1, C0.2.1, C0.2.2.1, C0.2.2.2.1, fun w hw => by cases hw⟩ M ⟨⟨⟨rfl, rfl, hfr, hlo, m1.ws hW hG, List.mem_singleton.mpr rfl⟩, ax_word hW hG m1.2.1 (ax_gCO _ _ _ _) _, ax_word hW hG m1.1 (ax_gII _) _, m1.2.2.1, m1.len, ax_nestM hW hG w _⟩, m3, ax_word hW hG m2 (ax_gIM _) _⟩ hp rfl hn hl.size rfl (lv_room hst) hd (ax_roomC (Y' := (y, bytes, maxL, none)) (fr' := fr') (lo' := lo') C0 e1 e2 hP)
theorem aw_objInit {idx a : Nat} (w1 : Cond.methodLink Y.1.cls idx Lib.objectInit ∈ lw_tbl) (w2 : Cond.instanceMethod Lib.objectInit ∈ lw_tbl) (w3 : Cond.code Lib.objectInit ⟨#[0xb1]⟩ 1 none ∈ lw_tbl) (hfr : 1 ≤ fr) (hlo : (st.map fun v => v.category).sum + 12 ≤ lo) (hd : decode Y.2.1 pc = .ok (.invokespecial idx, 3)) (k : AW G x Y fr lo h0 P h (pc + 3) ls st) : AW G x Y fr lo h0 P h pc ls (.ref a :: st) := by
  intro C0 e1 e2 H locs lsr hP hL hl
  have hW := C0.2.2.2.2.1
  have hG := C0.2.2.2.2.2.1
  exact W.objInit C0.1 C0.2.1 C0.2.2.2.1 (ax_word hW hG w1 (ax_gML _ _ _) _) (ax_word hW hG w2 (ax_gIM _) _) (ax_word hW hG w3 (ax_gCO _ _ _ _) _) rfl (hl.size.trans C0.2.2.1.symm) rfl hd hfr (by show 2 * 0 + _ + 12 ≤ lo; omega) (k C0 e1 e2 H locs lsr hP hL hl)
/-- a contract's end may say less -/
theorem AM.post {fr' lo' : Nat} {av : List Value} {P' : Option Value → ax_H → Prop} (hp : ∀ v h', P' v h' → P v h') (M : AM G Y fr lo av h P') : AM G Y fr lo av h P := by
  intro p e ha hc hk s m args below hf happ hpre htr
  obtain ⟨n, o, b1, b2, b3, ⟨v, h', c1, c2, c3⟩, b4⟩ := M p e ha hc hk s m args below hf happ hpre htr
  exact ⟨n, o, b1, b2, b3, ⟨v, h', c1, hp v h' c2, c3⟩, b4⟩
end AXC
end
section
abbrev Y_L_init : ax_Y := (⟨"SymbolLinker", "<init>", "()V"⟩, prog_1_method_1_code, 1, none)
abbrev Y_JObject_init : ax_Y := (⟨"java/lang/Object", "<init>", "()V"⟩, object_method_1_code, 1, none)
abbrev Y_JArrayList_init : ax_Y := (⟨"java/util/ArrayList", "<init>", "()V"⟩, prog_24_method_2_code, 1, none)
abbrev Y_JAbstractList_init : ax_Y := (⟨"java/util/AbstractList", "<init>", "()V"⟩, prog_23_method_1_code, 1, none)
abbrev Y_JAbstractCollection_init : ax_Y := (⟨"java/util/AbstractCollection", "<init>", "()V"⟩, prog_22_method_1_code, 1, none)
abbrev Y_Fault_init : ax_Y := (⟨"SymbolLinker$Fault", "<init>", "()V"⟩, prog_2_method_1_code, 1, none)
abbrev Y_Image_init : ax_Y := (⟨"SymbolLinker$Image", "<init>", "()V"⟩, prog_3_method_1_code, 1, none)
abbrev Y_L_clear : ax_Y := (⟨"SymbolLinker", "clear", "()V"⟩, prog_1_method_2_code, 1, none)
abbrev Y_JArrayList_clear : ax_Y := (⟨"java/util/ArrayList", "clear", "()V"⟩, prog_24_method_40_code, 4, none)
abbrev Y_L_unit : ax_Y := (⟨"SymbolLinker", "unit", "(ZIIII)I"⟩, prog_1_method_3_code, 8, some .int)
abbrev Y_L_isSectionSize : ax_Y := (⟨"SymbolLinker", "isSectionSize", "(I)Z"⟩, prog_1_method_16_code, 1, some .boolean)
abbrev Y_JArrayList_size : ax_Y := (⟨"java/util/ArrayList", "size", "()I"⟩, prog_24_method_8_code, 1, some .int)
abbrev Y_Unit_init : ax_Y := (⟨"SymbolLinker$Unit", "<init>", "(IZ)V"⟩, prog_8_method_1_code, 3, none)
abbrev Y_L_addSection : ax_Y := (⟨"SymbolLinker", "addSection", "(LSymbolLinker$Unit;II)V"⟩, prog_1_method_25_code, 5, none)
abbrev Y_L_grownLength : ax_Y := (⟨"SymbolLinker", "grownLength", "(III)I"⟩, prog_1_method_21_code, 3, some .int)
abbrev Y_JMath_max : ax_Y := (⟨"java/lang/Math", "max", "(II)I"⟩, prog_17_method_65_code, 2, some .int)
abbrev Y_JMath_min : ax_Y := (⟨"java/lang/Math", "min", "(II)I"⟩, prog_17_method_69_code, 2, some .int)
abbrev Y_JArrays_copyOf_0 : ax_Y := (⟨"java/util/Arrays", "copyOf", "([BI)[B"⟩, prog_25_method_121_code, 3, some (.array .byte))
abbrev Y_JArrays_fill : ax_Y := (⟨"java/util/Arrays", "fill", "([BIIB)V"⟩, prog_25_method_110_code, 5, none)
abbrev Y_JArrays_rangeCheck : ax_Y := (⟨"java/util/Arrays", "rangeCheck", "(III)V"⟩, prog_25_method_30_code, 3, none)
abbrev Y_Section_init : ax_Y := (⟨"SymbolLinker$Section", "<init>", "(LSymbolLinker$Unit;II)V"⟩, prog_5_method_1_code, 4, none)
abbrev Y_JArrayList_add_0 : ax_Y := (⟨"java/util/ArrayList", "add", "(Ljava/lang/Object;)Z"⟩, prog_24_method_25_code, 2, some .boolean)
abbrev Y_JArrayList_add_1 : ax_Y := (⟨"java/util/ArrayList", "add", "(Ljava/lang/Object;[Ljava/lang/Object;I)V"⟩, prog_24_method_24_code, 4, none)
abbrev Y_JArrayList_grow_0 : ax_Y := (⟨"java/util/ArrayList", "grow", "()[Ljava/lang/Object;"⟩, prog_24_method_7_code, 1, some (.array (.object "java/lang/Object")))
abbrev Y_JArrayList_grow_1 : ax_Y := (⟨"java/util/ArrayList", "grow", "(I)[Ljava/lang/Object;"⟩, prog_24_method_6_code, 4, some (.array (.object "java/lang/Object")))
abbrev Y_JArraysSupport_newLength : ax_Y := (⟨"jdk/internal/util/ArraysSupport", "newLength", "(III)I"⟩, prog_32_method_27_code, 4, some .int)
abbrev Y_JArraysSupport_hugeLength : ax_Y := (⟨"jdk/internal/util/ArraysSupport", "hugeLength", "(II)I"⟩, prog_32_method_28_code, 3, some .int)
abbrev Y_JArrays_copyOf_1 : ax_Y := (⟨"java/util/Arrays", "copyOf", "([Ljava/lang/Object;I)[Ljava/lang/Object;"⟩, prog_25_method_119_code, 2, some (.array (.object "java/lang/Object")))
abbrev Y_JArrays_copyOf_2 : ax_Y := (⟨"java/util/Arrays", "copyOf", "([Ljava/lang/Object;ILjava/lang/Class;)[Ljava/lang/Object;"⟩, prog_25_method_120_code, 4, some (.array (.object "java/lang/Object")))
abbrev Y_L_put : ax_Y := (⟨"SymbolLinker", "put", "(IIJI)Z"⟩, prog_1_method_4_code, 7, some .boolean)
abbrev Y_L_latestSection : ax_Y := (⟨"SymbolLinker", "latestSection", "(I)LSymbolLinker$Section;"⟩, prog_1_method_24_code, 3, some (.object "SymbolLinker$Section"))
abbrev Y_L_latestUnit : ax_Y := (⟨"SymbolLinker", "latestUnit", "()LSymbolLinker$Unit;"⟩, prog_1_method_23_code, 1, some (.object "SymbolLinker$Unit"))
abbrev Y_JArrayList_isEmpty : ax_Y := (⟨"java/util/ArrayList", "isEmpty", "()Z"⟩, prog_24_method_9_code, 1, some .boolean)
abbrev Y_JArrayList_get : ax_Y := (⟨"java/util/ArrayList", "get", "(I)Ljava/lang/Object;"⟩, prog_24_method_20_code, 2, some (.object "java/lang/Object"))
abbrev Y_JObjects_checkIndex : ax_Y := (⟨"java/util/Objects", "checkIndex", "(II)I"⟩, prog_29_method_17_code, 2, some .int)
abbrev Y_JPreconditions_checkIndex : ax_Y := (⟨"jdk/internal/util/Preconditions", "checkIndex", "(IILjava/util/function/BiFunction;)I"⟩, prog_33_method_11_code, 3, some .int)
abbrev Y_JArrayList_elementData : ax_Y := (⟨"java/util/ArrayList", "elementData", "(I)Ljava/lang/Object;"⟩, prog_24_method_18_code, 2, some (.object "java/lang/Object"))
abbrev Y_Unit_sectionOfKind : ax_Y := (⟨"SymbolLinker$Unit", "sectionOfKind", "(I)LSymbolLinker$Section;"⟩, prog_8_method_2_code, 2, some (.object "SymbolLinker$Section"))
abbrev Y_Section_holds : ax_Y := (⟨"SymbolLinker$Section", "holds", "(II)Z"⟩, prog_5_method_2_code, 3, some .boolean)
abbrev Y_L_storeLowestFirst : ax_Y := (⟨"SymbolLinker", "storeLowestFirst", "([BIJI)V"⟩, prog_1_method_22_code, 6, none)
abbrev Y_L_keep : ax_Y := (⟨"SymbolLinker", "keep", "(I)Z"⟩, prog_1_method_5_code, 3, some .boolean)
abbrev Y_L_symbol : ax_Y := (⟨"SymbolLinker", "symbol", "(JIIIII)I"⟩, prog_1_method_6_code, 11, some .int)
abbrev Y_L_isNameLength : ax_Y := (⟨"SymbolLinker", "isNameLength", "(I)Z"⟩, prog_1_method_18_code, 1, some .boolean)
abbrev Y_L_isLine : ax_Y := (⟨"SymbolLinker", "isLine", "(I)Z"⟩, prog_1_method_17_code, 1, some .boolean)
abbrev Y_Section_hasPlace : ax_Y := (⟨"SymbolLinker$Section", "hasPlace", "(I)Z"⟩, prog_5_method_3_code, 2, some .boolean)
abbrev Y_L_findName : ax_Y := (⟨"SymbolLinker", "findName", "(JI)LSymbolLinker$Name;"⟩, prog_1_method_26_code, 8, some (.object "SymbolLinker$Name"))
abbrev Y_L_nameWord : ax_Y := (⟨"SymbolLinker", "nameWord", "(JI)J"⟩, prog_1_method_19_code, 3, some .long)
abbrev Y_Unit_hasSymbol : ax_Y := (⟨"SymbolLinker$Unit", "hasSymbol", "(LSymbolLinker$Name;)Z"⟩, prog_8_method_4_code, 3, some .boolean)
abbrev Y_Name_init : ax_Y := (⟨"SymbolLinker$Name", "<init>", "(JI)V"⟩, prog_4_method_1_code, 4, none)
abbrev Y_Symbol_init : ax_Y := (⟨"SymbolLinker$Symbol", "<init>", "(LSymbolLinker$Name;ILSymbolLinker$Section;II)V"⟩, prog_7_method_1_code, 6, none)
abbrev Y_L_await : ax_Y := (⟨"SymbolLinker", "await", "(IIIIIJI)Z"⟩, prog_1_method_7_code, 14, some .boolean)
abbrev Y_Unit_symbolNumbered : ax_Y := (⟨"SymbolLinker$Unit", "symbolNumbered", "(I)LSymbolLinker$Symbol;"⟩, prog_8_method_3_code, 2, some (.object "SymbolLinker$Symbol"))
abbrev Y_Wait_init : ax_Y := (⟨"SymbolLinker$Wait", "<init>", "(LSymbolLinker$Section;IIJI)V"⟩, prog_9_method_1_code, 7, none)
abbrev Y_L_start : ax_Y := (⟨"SymbolLinker", "start", "(II)Z"⟩, prog_1_method_8_code, 4, some .boolean)
abbrev Y_Start_init : ax_Y := (⟨"SymbolLinker$Start", "<init>", "(LSymbolLinker$Section;II)V"⟩, prog_6_method_1_code, 4, none)
abbrev Y_L_fault : ax_Y := (⟨"SymbolLinker", "fault", "(I)I"⟩, prog_1_method_10_code, 2, some .int)
abbrev Y_L_needed : ax_Y := (⟨"SymbolLinker", "needed", "(II)I"⟩, prog_1_method_11_code, 4, some .int)
abbrev Y_L_octet : ax_Y := (⟨"SymbolLinker", "octet", "(I)I"⟩, prog_1_method_12_code, 2, some .int)
abbrev Y_L_line : ax_Y := (⟨"SymbolLinker", "line", "(I)I"⟩, prog_1_method_14_code, 3, some .int)
abbrev Y_L_part : ax_Y := (⟨"SymbolLinker", "part", "(I)I"⟩, prog_1_method_15_code, 2, some .int)
abbrev Y_W_link : ax_Y := (⟨"SymbolLinkerLaw", "link", "(LSymbolLinker;[J)I"⟩, method_3_code, 3, some .int)
abbrev Y_L_link : ax_Y := (⟨"SymbolLinker", "link", "()I"⟩, prog_1_method_9_code, 2, some .int)
abbrev Y_Fault_tell : ax_Y := (⟨"SymbolLinker$Fault", "tell", "(III)V"⟩, prog_2_method_2_code, 4, none)
abbrev Y_L_takeUnits : ax_Y := (⟨"SymbolLinker", "takeUnits", "()V"⟩, prog_1_method_28_code, 3, none)
abbrev Y_Name_forget : ax_Y := (⟨"SymbolLinker$Name", "forget", "()V"⟩, prog_4_method_2_code, 1, none)
abbrev Y_Unit_take : ax_Y := (⟨"SymbolLinker$Unit", "take", "()V"⟩, prog_8_method_5_code, 3, none)
abbrev Y_Symbol_isSharedLabel : ax_Y := (⟨"SymbolLinker$Symbol", "isSharedLabel", "()Z"⟩, prog_7_method_3_code, 1, some .boolean)
abbrev Y_Symbol_isMissed : ax_Y := (⟨"SymbolLinker$Symbol", "isMissed", "()Z"⟩, prog_7_method_4_code, 1, some .boolean)
abbrev Y_L_firstWantedUnit : ax_Y := (⟨"SymbolLinker", "firstWantedUnit", "()LSymbolLinker$Unit;"⟩, prog_1_method_29_code, 3, some (.object "SymbolLinker$Unit"))
abbrev Y_Unit_isWanted : ax_Y := (⟨"SymbolLinker$Unit", "isWanted", "()Z"⟩, prog_8_method_6_code, 3, some .boolean)
abbrev Y_L_bindNames : ax_Y := (⟨"SymbolLinker", "bindNames", "()V"⟩, prog_1_method_30_code, 3, none)
abbrev Y_Unit_bindLabels : ax_Y := (⟨"SymbolLinker$Unit", "bindLabels", "()V"⟩, prog_8_method_7_code, 3, none)
abbrev Y_Name_bind : ax_Y := (⟨"SymbolLinker$Name", "bind", "(LSymbolLinker$Symbol;)V"⟩, prog_4_method_3_code, 2, none)
abbrev Y_L_entryLabel : ax_Y := (⟨"SymbolLinker", "entryLabel", "()LSymbolLinker$Symbol;"⟩, prog_1_method_27_code, 2, some (.object "SymbolLinker$Symbol"))
abbrev Y_L_findTwoGlobals : ax_Y := (⟨"SymbolLinker", "findTwoGlobals", "()V"⟩, prog_1_method_31_code, 4, none)
abbrev Y_Unit_leastLineOfSecondGlobals : ax_Y := (⟨"SymbolLinker$Unit", "leastLineOfSecondGlobals", "()I"⟩, prog_8_method_8_code, 5, some .int)
abbrev Y_Symbol_isGlobalLabel : ax_Y := (⟨"SymbolLinker$Symbol", "isGlobalLabel", "()Z"⟩, prog_7_method_2_code, 1, some .boolean)
abbrev Y_L_findNeeded : ax_Y := (⟨"SymbolLinker", "findNeeded", "(LSymbolLinker$Section;)V"⟩, prog_1_method_32_code, 4, none)
abbrev Y_Unit_needKeptAlone : ax_Y := (⟨"SymbolLinker$Unit", "needKeptAlone", "()V"⟩, prog_8_method_9_code, 3, none)
abbrev Y_L_needWhatNeededOnesAwait : ax_Y := (⟨"SymbolLinker", "needWhatNeededOnesAwait", "()Z"⟩, prog_1_method_33_code, 5, some .boolean)
abbrev Y_Wait_target : ax_Y := (⟨"SymbolLinker$Wait", "target", "()LSymbolLinker$Section;"⟩, prog_9_method_2_code, 2, some (.object "SymbolLinker$Section"))
abbrev Y_Symbol_standsFor : ax_Y := (⟨"SymbolLinker$Symbol", "standsFor", "()LSymbolLinker$Symbol;"⟩, prog_7_method_5_code, 1, some (.object "SymbolLinker$Symbol"))
abbrev Y_Name_meaning : ax_Y := (⟨"SymbolLinker$Name", "meaning", "()LSymbolLinker$Symbol;"⟩, prog_4_method_4_code, 1, some (.object "SymbolLinker$Symbol"))
abbrev Y_L_placeParts : ax_Y := (⟨"SymbolLinker", "placeParts", "(LSymbolLinker$Symbol;)V"⟩, prog_1_method_34_code, 3, none)
abbrev Y_L_placeSections : ax_Y := (⟨"SymbolLinker", "placeSections", "(II)I"⟩, prog_1_method_35_code, 6, some .int)
abbrev Y_L_roundUp : ax_Y := (⟨"SymbolLinker", "roundUp", "(II)I"⟩, prog_1_method_20_code, 2, some .int)
abbrev Y_Symbol_placeInImage : ax_Y := (⟨"SymbolLinker$Symbol", "placeInImage", "()I"⟩, prog_7_method_6_code, 1, some .int)
abbrev Y_L_findWaitFault : ax_Y := (⟨"SymbolLinker", "findWaitFault", "()V"⟩, prog_1_method_36_code, 4, none)
abbrev Y_Wait_faultKind : ax_Y := (⟨"SymbolLinker$Wait", "faultKind", "()I"⟩, prog_9_method_4_code, 3, some .int)
abbrev Y_Wait_value : ax_Y := (⟨"SymbolLinker$Wait", "value", "()J"⟩, prog_9_method_3_code, 4, some .long)
abbrev Y_Wait_isBefore : ax_Y := (⟨"SymbolLinker$Wait", "isBefore", "(LSymbolLinker$Wait;)Z"⟩, prog_9_method_5_code, 2, some .boolean)
abbrev Y_JThrowable_init_0 : ax_Y := (⟨"java/lang/Throwable", "<init>", "()V"⟩, prog_21_method_1_code, 1, none)
abbrev Y_JIllegalStateException_init : ax_Y := (⟨"java/lang/IllegalStateException", "<init>", "(Ljava/lang/String;)V"⟩, prog_15_method_2_code, 2, none)
abbrev Y_JRuntimeException_init : ax_Y := (⟨"java/lang/RuntimeException", "<init>", "(Ljava/lang/String;)V"⟩, prog_18_method_2_code, 2, none)
abbrev Y_JException_init : ax_Y := (⟨"java/lang/Exception", "<init>", "(Ljava/lang/String;)V"⟩, prog_14_method_2_code, 2, none)
abbrev Y_JThrowable_init_1 : ax_Y := (⟨"java/lang/Throwable", "<init>", "(Ljava/lang/String;)V"⟩, prog_21_method_2_code, 2, none)
abbrev Y_L_makeImage : ax_Y := (⟨"SymbolLinker", "makeImage", "()V"⟩, prog_1_method_37_code, 4, none)
abbrev Y_Image_begin : ax_Y := (⟨"SymbolLinker$Image", "begin", "([I)V"⟩, prog_3_method_2_code, 3, none)
abbrev Y_L_copySections : ax_Y := (⟨"SymbolLinker", "copySections", "(LSymbolLinker$Unit;)V"⟩, prog_1_method_38_code, 4, none)
abbrev Y_Image_addName : ax_Y := (⟨"SymbolLinker$Image", "addName", "(LSymbolLinker$Name;I)V"⟩, prog_3_method_3_code, 4, none)
abbrev Y_JArrays_copyOf_3 : ax_Y := (⟨"java/util/Arrays", "copyOf", "([JI)[J"⟩, prog_25_method_124_code, 3, some (.array .long))
abbrev Y_JArrays_copyOf_4 : ax_Y := (⟨"java/util/Arrays", "copyOf", "([II)[I"⟩, prog_25_method_123_code, 3, some (.array .int))
abbrev Y_Image_addStart : ax_Y := (⟨"SymbolLinker$Image", "addStart", "(LSymbolLinker$Start;)V"⟩, prog_3_method_5_code, 3, none)
abbrev Y_W_address : ax_Y := (⟨"SymbolLinkerLaw", "address", "(LSymbolLinker;JI[J)I"⟩, method_4_code, 6, some .int)
abbrev Y_L_address : ax_Y := (⟨"SymbolLinker", "address", "(JI)I"⟩, prog_1_method_13_code, 5, some .int)
abbrev Y_Image_rowOfName : ax_Y := (⟨"SymbolLinker$Image", "rowOfName", "(JI)I"⟩, prog_3_method_4_code, 5, some .int)
abbrev Y_JNoSuchElementException_init : ax_Y := (⟨"java/util/NoSuchElementException", "<init>", "(Ljava/lang/String;)V"⟩, prog_28_method_4_code, 2, none)
abbrev Y_M_init : ax_Y := (⟨"SymbolLinkerModel", "<init>", "()V"⟩, prog_11_method_1_code, 1, none)
abbrev Y_M_thrown : ax_Y := (⟨"SymbolLinkerModel", "thrown", "()I"⟩, prog_11_method_2_code, 1, some .int)
abbrev Y_M_clear : ax_Y := (⟨"SymbolLinkerModel", "clear", "()V"⟩, prog_11_method_4_code, 1, none)
abbrev Y_M_unit : ax_Y := (⟨"SymbolLinkerModel", "unit", "(ZIIII)I"⟩, prog_11_method_7_code, 10, some .int)
abbrev Y_M_isSize : ax_Y := (⟨"SymbolLinkerModel", "isSize", "(I)Z"⟩, prog_11_method_5_code, 1, some .boolean)
abbrev Y_M_put : ax_Y := (⟨"SymbolLinkerModel", "put", "(IIJI)Z"⟩, prog_11_method_10_code, 7, some .boolean)
abbrev Y_M_lies : ax_Y := (⟨"SymbolLinkerModel", "lies", "(III)Z"⟩, prog_11_method_9_code, 4, some .boolean)
abbrev Y_M_own : ax_Y := (⟨"SymbolLinkerModel", "own", "(I)I"⟩, prog_11_method_8_code, 2, some .int)
abbrev Y_M_keep : ax_Y := (⟨"SymbolLinkerModel", "keep", "(I)Z"⟩, prog_11_method_11_code, 2, some .boolean)
abbrev Y_M_symbol : ax_Y := (⟨"SymbolLinkerModel", "symbol", "(JIIIII)I"⟩, prog_11_method_13_code, 11, some .int)
abbrev Y_M_isLine : ax_Y := (⟨"SymbolLinkerModel", "isLine", "(I)Z"⟩, prog_11_method_6_code, 1, some .boolean)
abbrev Y_M_cut : ax_Y := (⟨"SymbolLinkerModel", "cut", "(JI)J"⟩, prog_11_method_12_code, 3, some .long)
abbrev Y_M_await : ax_Y := (⟨"SymbolLinkerModel", "await", "(IIIIIJI)Z"⟩, prog_11_method_14_code, 10, some .boolean)
abbrev Y_M_start : ax_Y := (⟨"SymbolLinkerModel", "start", "(II)Z"⟩, prog_11_method_15_code, 3, some .boolean)
abbrev Y_M_link : ax_Y := (⟨"SymbolLinkerModel", "link", "()I"⟩, prog_11_method_29_code, 15, some .int)
abbrev Y_M_take : ax_Y := (⟨"SymbolLinkerModel", "take", "()V"⟩, prog_11_method_21_code, 3, none)
abbrev Y_M_helps : ax_Y := (⟨"SymbolLinkerModel", "helps", "(I)Z"⟩, prog_11_method_20_code, 5, some .boolean)
abbrev Y_M_isGlobal : ax_Y := (⟨"SymbolLinkerModel", "isGlobal", "(I)Z"⟩, prog_11_method_16_code, 2, some .boolean)
abbrev Y_M_isWeak : ax_Y := (⟨"SymbolLinkerModel", "isWeak", "(I)Z"⟩, prog_11_method_17_code, 2, some .boolean)
abbrev Y_M_meant : ax_Y := (⟨"SymbolLinkerModel", "meant", "(JI)I"⟩, prog_11_method_18_code, 6, some .int)
abbrev Y_M_fail : ax_Y := (⟨"SymbolLinkerModel", "fail", "(III)V"⟩, prog_11_method_22_code, 4, none)
abbrev Y_M_findTwice : ax_Y := (⟨"SymbolLinkerModel", "findTwice", "()V"⟩, prog_11_method_23_code, 4, none)
abbrev Y_M_give : ax_Y := (⟨"SymbolLinkerModel", "give", "(II)I"⟩, prog_11_method_3_code, 3, some .int)
abbrev Y_M_findNeeded : ax_Y := (⟨"SymbolLinkerModel", "findNeeded", "(I)V"⟩, prog_11_method_24_code, 8, none)
abbrev Y_M_standsFor : ax_Y := (⟨"SymbolLinkerModel", "standsFor", "(I)I"⟩, prog_11_method_19_code, 3, some .int)
abbrev Y_M_layOut : ax_Y := (⟨"SymbolLinkerModel", "layOut", "()V"⟩, prog_11_method_25_code, 4, none)
abbrev Y_M_findWrong : ax_Y := (⟨"SymbolLinkerModel", "findWrong", "()V"⟩, prog_11_method_28_code, 9, none)
abbrev Y_M_valueOf : ax_Y := (⟨"SymbolLinkerModel", "valueOf", "(I)J"⟩, prog_11_method_27_code, 7, some .long)
abbrev Y_M_labelAddress : ax_Y := (⟨"SymbolLinkerModel", "labelAddress", "(I)I"⟩, prog_11_method_26_code, 2, some .int)
abbrev Y_M_keepNames : ax_Y := (⟨"SymbolLinkerModel", "keepNames", "()V"⟩, prog_11_method_30_code, 2, none)
abbrev Y_M_fault : ax_Y := (⟨"SymbolLinkerModel", "fault", "(I)I"⟩, prog_11_method_31_code, 2, some .int)
abbrev Y_M_needed : ax_Y := (⟨"SymbolLinkerModel", "needed", "(II)I"⟩, prog_11_method_32_code, 3, some .int)
abbrev Y_M_octet : ax_Y := (⟨"SymbolLinkerModel", "octet", "(I)I"⟩, prog_11_method_33_code, 2, some .int)
abbrev Y_M_address : ax_Y := (⟨"SymbolLinkerModel", "address", "(JI)I"⟩, prog_11_method_34_code, 5, some .int)
abbrev Y_M_line : ax_Y := (⟨"SymbolLinkerModel", "line", "(I)I"⟩, prog_11_method_35_code, 3, some .int)
abbrev Y_M_part : ax_Y := (⟨"SymbolLinkerModel", "part", "(I)I"⟩, prog_11_method_36_code, 2, some .int)
end
section
theorem in_t_1 {w : Cond} (h : w ∈ tables_1_1) : w ∈ lw_tbl := List.mem_append_right _ (show w ∈ tables_1 from (List.mem_append_left _ h))
theorem in_t_2 {w : Cond} (h : w ∈ tables_1_2) : w ∈ lw_tbl := List.mem_append_right _ (show w ∈ tables_1 from (List.mem_append_right _ (List.mem_append_left _ h)))
theorem in_t_3 {w : Cond} (h : w ∈ tables_1_3) : w ∈ lw_tbl := List.mem_append_right _ (show w ∈ tables_1 from (List.mem_append_right _ (List.mem_append_right _ (List.mem_append_left _ h))))
theorem in_t_4 {w : Cond} (h : w ∈ tables_1_4) : w ∈ lw_tbl := List.mem_append_right _ (show w ∈ tables_1 from (List.mem_append_right _ (List.mem_append_right _ (List.mem_append_right _ (List.mem_append_left _ h)))))
theorem in_t_5 {w : Cond} (h : w ∈ tables_1_5) : w ∈ lw_tbl := List.mem_append_right _ (show w ∈ tables_1 from (List.mem_append_right _ (List.mem_append_right _ (List.mem_append_right _ (List.mem_append_right _ h)))))
theorem cl_L : ax_cl 0 "SymbolLinker" T_L 11 ty_L := ⟨rfl, by decide +kernel, by decide +kernel, by decide +kernel⟩
theorem ni_L : Cond.instantiable "SymbolLinker" 11 ∈ lw_tbl := (in_t_1 (List.mem_of_getElem? (i := 26) rfl))
theorem ii_L : Cond.initialized "SymbolLinker" ∈ lw_tbl := (in_t_1 (List.mem_of_getElem? (i := 1) rfl))
theorem cl_JArrayList : ax_cl 1 "java/util/ArrayList" T_JArrayList 3 ty_JArrayList := ⟨rfl, by decide +kernel, by decide +kernel, by decide +kernel⟩
theorem ni_JArrayList : Cond.instantiable "java/util/ArrayList" 3 ∈ lw_tbl := (in_t_1 (List.mem_of_getElem? (i := 34) rfl))
theorem ii_JArrayList : Cond.initialized "java/util/ArrayList" ∈ lw_tbl := (in_t_1 (List.mem_of_getElem? (i := 4) rfl))
theorem cl_Fault : ax_cl 2 "SymbolLinker$Fault" T_Fault 3 ty_Fault := ⟨rfl, by decide +kernel, by decide +kernel, by decide +kernel⟩
theorem ni_Fault : Cond.instantiable "SymbolLinker$Fault" 3 ∈ lw_tbl := (in_t_1 (List.mem_of_getElem? (i := 60) rfl))
theorem ii_Fault : Cond.initialized "SymbolLinker$Fault" ∈ lw_tbl := (in_t_1 (List.mem_of_getElem? (i := 5) rfl))
theorem cl_Image : ax_cl 3 "SymbolLinker$Image" T_Image 9 ty_Image := ⟨rfl, by decide +kernel, by decide +kernel, by decide +kernel⟩
theorem ni_Image : Cond.instantiable "SymbolLinker$Image" 9 ∈ lw_tbl := (in_t_1 (List.mem_of_getElem? (i := 79) rfl))
theorem ii_Image : Cond.initialized "SymbolLinker$Image" ∈ lw_tbl := (in_t_1 (List.mem_of_getElem? (i := 6) rfl))
theorem cl_Unit : ax_cl 4 "SymbolLinker$Unit" T_Unit 5 ty_Unit := ⟨rfl, by decide +kernel, by decide +kernel, by decide +kernel⟩
theorem ni_Unit : Cond.instantiable "SymbolLinker$Unit" 5 ∈ lw_tbl := (in_t_1 (List.mem_of_getElem? (i := 178) rfl))
theorem ii_Unit : Cond.initialized "SymbolLinker$Unit" ∈ lw_tbl := (in_t_1 (List.mem_of_getElem? (i := 8) rfl))
theorem cl_Section : ax_cl 5 "SymbolLinker$Section" T_Section 6 ty_Section := ⟨rfl, by decide +kernel, by decide +kernel, by decide +kernel⟩
theorem ni_Section : Cond.instantiable "SymbolLinker$Section" 6 ∈ lw_tbl := (in_t_2 (List.mem_of_getElem? (i := 4) rfl))
theorem ii_Section : Cond.initialized "SymbolLinker$Section" ∈ lw_tbl := (in_t_1 (List.mem_of_getElem? (i := 12) rfl))
theorem cl_Name : ax_cl 6 "SymbolLinker$Name" T_Name 6 ty_Name := ⟨rfl, by decide +kernel, by decide +kernel, by decide +kernel⟩
theorem ni_Name : Cond.instantiable "SymbolLinker$Name" 6 ∈ lw_tbl := (in_t_2 (List.mem_of_getElem? (i := 169) rfl))
theorem ii_Name : Cond.initialized "SymbolLinker$Name" ∈ lw_tbl := (in_t_1 (List.mem_of_getElem? (i := 16) rfl))
theorem cl_Symbol : ax_cl 7 "SymbolLinker$Symbol" T_Symbol 6 ty_Symbol := ⟨rfl, by decide +kernel, by decide +kernel, by decide +kernel⟩
theorem ni_Symbol : Cond.instantiable "SymbolLinker$Symbol" 6 ∈ lw_tbl := (in_t_2 (List.mem_of_getElem? (i := 202) rfl))
theorem ii_Symbol : Cond.initialized "SymbolLinker$Symbol" ∈ lw_tbl := (in_t_1 (List.mem_of_getElem? (i := 17) rfl))
theorem cl_Wait : ax_cl 8 "SymbolLinker$Wait" T_Wait 8 ty_Wait := ⟨rfl, by decide +kernel, by decide +kernel, by decide +kernel⟩
theorem ni_Wait : Cond.instantiable "SymbolLinker$Wait" 8 ∈ lw_tbl := (in_t_3 (List.mem_of_getElem? (i := 0) rfl))
theorem ii_Wait : Cond.initialized "SymbolLinker$Wait" ∈ lw_tbl := (in_t_1 (List.mem_of_getElem? (i := 18) rfl))
theorem cl_Start : ax_cl 9 "SymbolLinker$Start" T_Start 3 ty_Start := ⟨rfl, by decide +kernel, by decide +kernel, by decide +kernel⟩
theorem ni_Start : Cond.instantiable "SymbolLinker$Start" 3 ∈ lw_tbl := (in_t_3 (List.mem_of_getElem? (i := 42) rfl))
theorem ii_Start : Cond.initialized "SymbolLinker$Start" ∈ lw_tbl := (in_t_1 (List.mem_of_getElem? (i := 19) rfl))
theorem cl_JIllegalStateException : ax_cl 10 "java/lang/IllegalStateException" T_JIllegalStateException 6 ty_JIllegalStateException := ⟨rfl, by decide +kernel, by decide +kernel, by decide +kernel⟩
theorem ni_JIllegalStateException : Cond.instantiable "java/lang/IllegalStateException" 6 ∈ lw_tbl := (in_t_3 (List.mem_of_getElem? (i := 208) rfl))
theorem ii_JIllegalStateException : Cond.initialized "java/lang/IllegalStateException" ∈ lw_tbl := (in_t_1 (List.mem_of_getElem? (i := 23) rfl))
theorem cl_JNoSuchElementException : ax_cl 11 "java/util/NoSuchElementException" T_JNoSuchElementException 6 ty_JNoSuchElementException := ⟨rfl, by decide +kernel, by decide +kernel, by decide +kernel⟩
theorem ni_JNoSuchElementException : Cond.instantiable "java/util/NoSuchElementException" 6 ∈ lw_tbl := (in_t_4 (List.mem_of_getElem? (i := 90) rfl))
theorem ii_JNoSuchElementException : Cond.initialized "java/util/NoSuchElementException" ∈ lw_tbl := (in_t_1 (List.mem_of_getElem? (i := 24) rfl))
theorem cl_M : ax_cl 12 "SymbolLinkerModel" T_M 49 ty_M := ⟨rfl, by decide +kernel, by decide +kernel, by decide +kernel⟩
theorem ni_M : Cond.instantiable "SymbolLinkerModel" 49 ∈ lw_tbl := (in_t_4 (List.mem_of_getElem? (i := 106) rfl))
theorem ii_M : Cond.initialized "SymbolLinkerModel" ∈ lw_tbl := (in_t_1 (List.mem_of_getElem? (i := 7) rfl))
theorem fl_JArrayList_9 : ax_fl "java/util/ArrayList" 9 T_JArrayList 0 := Or.inl (in_t_1 (List.mem_of_getElem? (i := 47) rfl))
theorem fl_JArrayList_48 : ax_fl "java/util/ArrayList" 48 T_JArrayList 1 := Or.inl (in_t_1 (List.mem_of_getElem? (i := 48) rfl))
theorem fl_JAbstractList_7_JArrayList : ax_fl "java/util/AbstractList" 7 T_JArrayList 2 := Or.inl (in_t_1 (List.mem_of_getElem? (i := 49) rfl))
theorem fl_JArrayList_63 : ax_fl "java/util/ArrayList" 63 T_JArrayList 2 := Or.inr (Or.inr ⟨"java/util/ArrayList", (in_t_1 (List.mem_of_getElem? (i := 50) rfl)), (in_t_1 (List.mem_of_getElem? (i := 51) rfl))⟩)
theorem fl_Fault_9 : ax_fl "SymbolLinker$Fault" 9 T_Fault 0 := Or.inl (in_t_1 (List.mem_of_getElem? (i := 65) rfl))
theorem fl_L_196 : ax_fl "SymbolLinker" 196 T_Fault 0 := Or.inl (in_t_1 (List.mem_of_getElem? (i := 66) rfl))
theorem fl_Fault_15 : ax_fl "SymbolLinker$Fault" 15 T_Fault 1 := Or.inl (in_t_1 (List.mem_of_getElem? (i := 67) rfl))
theorem fl_L_223 : ax_fl "SymbolLinker" 223 T_Fault 1 := Or.inl (in_t_1 (List.mem_of_getElem? (i := 68) rfl))
theorem fl_Fault_18 : ax_fl "SymbolLinker$Fault" 18 T_Fault 2 := Or.inl (in_t_1 (List.mem_of_getElem? (i := 69) rfl))
theorem fl_L_226 : ax_fl "SymbolLinker" 226 T_Fault 2 := Or.inl (in_t_1 (List.mem_of_getElem? (i := 70) rfl))
theorem fl_Image_9 : ax_fl "SymbolLinker$Image" 9 T_Image 0 := Or.inl (in_t_1 (List.mem_of_getElem? (i := 84) rfl))
theorem fl_Image_9_f : Cond.fieldLink "SymbolLinker$Image" 9 (T_Image 0).1 (T_Image 0).2.1 (T_Image 0).2.2.1 ∈ lw_tbl := (in_t_1 (List.mem_of_getElem? (i := 84) rfl))
theorem fl_L_236 : ax_fl "SymbolLinker" 236 T_Image 0 := Or.inl (in_t_1 (List.mem_of_getElem? (i := 85) rfl))
theorem fl_L_236_f : Cond.fieldLink "SymbolLinker" 236 (T_Image 0).1 (T_Image 0).2.1 (T_Image 0).2.2.1 ∈ lw_tbl := (in_t_1 (List.mem_of_getElem? (i := 85) rfl))
theorem fl_Image_15 : ax_fl "SymbolLinker$Image" 15 T_Image 1 := Or.inl (in_t_1 (List.mem_of_getElem? (i := 86) rfl))
theorem fl_L_239 : ax_fl "SymbolLinker" 239 T_Image 1 := Or.inl (in_t_1 (List.mem_of_getElem? (i := 87) rfl))
theorem fl_Image_19 : ax_fl "SymbolLinker$Image" 19 T_Image 2 := Or.inl (in_t_1 (List.mem_of_getElem? (i := 88) rfl))
theorem fl_Image_23 : ax_fl "SymbolLinker$Image" 23 T_Image 3 := Or.inl (in_t_1 (List.mem_of_getElem? (i := 89) rfl))
theorem fl_Image_27 : ax_fl "SymbolLinker$Image" 27 T_Image 4 := Or.inl (in_t_1 (List.mem_of_getElem? (i := 90) rfl))
theorem fl_Image_30 : ax_fl "SymbolLinker$Image" 30 T_Image 5 := Or.inl (in_t_1 (List.mem_of_getElem? (i := 91) rfl))
theorem fl_L_249 : ax_fl "SymbolLinker" 249 T_Image 5 := Or.inl (in_t_1 (List.mem_of_getElem? (i := 92) rfl))
theorem fl_Image_33 : ax_fl "SymbolLinker$Image" 33 T_Image 6 := Or.inl (in_t_1 (List.mem_of_getElem? (i := 93) rfl))
theorem fl_L_252 : ax_fl "SymbolLinker" 252 T_Image 6 := Or.inl (in_t_1 (List.mem_of_getElem? (i := 94) rfl))
theorem fl_Image_36 : ax_fl "SymbolLinker$Image" 36 T_Image 7 := Or.inl (in_t_1 (List.mem_of_getElem? (i := 95) rfl))
theorem fl_L_255 : ax_fl "SymbolLinker" 255 T_Image 7 := Or.inl (in_t_1 (List.mem_of_getElem? (i := 96) rfl))
theorem fl_Image_39 : ax_fl "SymbolLinker$Image" 39 T_Image 8 := Or.inl (in_t_1 (List.mem_of_getElem? (i := 97) rfl))
theorem fl_L_258 : ax_fl "SymbolLinker" 258 T_Image 8 := Or.inl (in_t_1 (List.mem_of_getElem? (i := 98) rfl))
theorem fl_L_10 : ax_fl "SymbolLinker" 10 T_L 0 := Or.inl (in_t_1 (List.mem_of_getElem? (i := 122) rfl))
theorem fl_L_10_f : Cond.fieldLink "SymbolLinker" 10 (T_L 0).1 (T_L 0).2.1 (T_L 0).2.2.1 ∈ lw_tbl := (in_t_1 (List.mem_of_getElem? (i := 122) rfl))
theorem fl_L_16 : ax_fl "SymbolLinker" 16 T_L 1 := Or.inl (in_t_1 (List.mem_of_getElem? (i := 123) rfl))
theorem fl_L_16_f : Cond.fieldLink "SymbolLinker" 16 (T_L 1).1 (T_L 1).2.1 (T_L 1).2.2.1 ∈ lw_tbl := (in_t_1 (List.mem_of_getElem? (i := 123) rfl))
theorem fl_L_19 : ax_fl "SymbolLinker" 19 T_L 2 := Or.inl (in_t_1 (List.mem_of_getElem? (i := 124) rfl))
theorem fl_L_19_f : Cond.fieldLink "SymbolLinker" 19 (T_L 2).1 (T_L 2).2.1 (T_L 2).2.2.1 ∈ lw_tbl := (in_t_1 (List.mem_of_getElem? (i := 124) rfl))
theorem fl_L_22 : ax_fl "SymbolLinker" 22 T_L 3 := Or.inl (in_t_1 (List.mem_of_getElem? (i := 125) rfl))
theorem fl_L_22_f : Cond.fieldLink "SymbolLinker" 22 (T_L 3).1 (T_L 3).2.1 (T_L 3).2.2.1 ∈ lw_tbl := (in_t_1 (List.mem_of_getElem? (i := 125) rfl))
theorem fl_L_28 : ax_fl "SymbolLinker" 28 T_L 4 := Or.inl (in_t_1 (List.mem_of_getElem? (i := 126) rfl))
theorem fl_L_28_f : Cond.fieldLink "SymbolLinker" 28 (T_L 4).1 (T_L 4).2.1 (T_L 4).2.2.1 ∈ lw_tbl := (in_t_1 (List.mem_of_getElem? (i := 126) rfl))
theorem fl_L_35 : ax_fl "SymbolLinker" 35 T_L 5 := Or.inl (in_t_1 (List.mem_of_getElem? (i := 127) rfl))
theorem fl_L_35_f : Cond.fieldLink "SymbolLinker" 35 (T_L 5).1 (T_L 5).2.1 (T_L 5).2.2.1 ∈ lw_tbl := (in_t_1 (List.mem_of_getElem? (i := 127) rfl))
theorem fl_L_39 : ax_fl "SymbolLinker" 39 T_L 6 := Or.inl (in_t_1 (List.mem_of_getElem? (i := 128) rfl))
theorem fl_L_39_f : Cond.fieldLink "SymbolLinker" 39 (T_L 6).1 (T_L 6).2.1 (T_L 6).2.2.1 ∈ lw_tbl := (in_t_1 (List.mem_of_getElem? (i := 128) rfl))
theorem fl_L_43 : ax_fl "SymbolLinker" 43 T_L 7 := Or.inl (in_t_1 (List.mem_of_getElem? (i := 129) rfl))
theorem fl_L_47 : ax_fl "SymbolLinker" 47 T_L 8 := Or.inl (in_t_1 (List.mem_of_getElem? (i := 130) rfl))
theorem fl_L_51 : ax_fl "SymbolLinker" 51 T_L 9 := Or.inl (in_t_1 (List.mem_of_getElem? (i := 131) rfl))
theorem fl_L_55 : ax_fl "SymbolLinker" 55 T_L 10 := Or.inl (in_t_1 (List.mem_of_getElem? (i := 132) rfl))
theorem fl_Unit_9 : ax_fl "SymbolLinker$Unit" 9 T_Unit 0 := Or.inl (in_t_1 (List.mem_of_getElem? (i := 187) rfl))
theorem fl_Unit_9_f : Cond.fieldLink "SymbolLinker$Unit" 9 (T_Unit 0).1 (T_Unit 0).2.1 (T_Unit 0).2.2.1 ∈ lw_tbl := (in_t_1 (List.mem_of_getElem? (i := 187) rfl))
theorem fl_L_91 : ax_fl "SymbolLinker" 91 T_Unit 0 := Or.inl (in_t_1 (List.mem_of_getElem? (i := 188) rfl))
theorem fl_L_91_f : Cond.fieldLink "SymbolLinker" 91 (T_Unit 0).1 (T_Unit 0).2.1 (T_Unit 0).2.2.1 ∈ lw_tbl := (in_t_1 (List.mem_of_getElem? (i := 188) rfl))
theorem fl_Wait_69 : ax_fl "SymbolLinker$Wait" 69 T_Unit 0 := Or.inl (in_t_1 (List.mem_of_getElem? (i := 189) rfl))
theorem fl_Wait_69_f : Cond.fieldLink "SymbolLinker$Wait" 69 (T_Unit 0).1 (T_Unit 0).2.1 (T_Unit 0).2.2.1 ∈ lw_tbl := (in_t_1 (List.mem_of_getElem? (i := 189) rfl))
theorem fl_Image_94 : ax_fl "SymbolLinker$Image" 94 T_Unit 0 := Or.inl (in_t_1 (List.mem_of_getElem? (i := 190) rfl))
theorem fl_Image_94_f : Cond.fieldLink "SymbolLinker$Image" 94 (T_Unit 0).1 (T_Unit 0).2.1 (T_Unit 0).2.2.1 ∈ lw_tbl := (in_t_1 (List.mem_of_getElem? (i := 190) rfl))
theorem fl_Unit_15 : ax_fl "SymbolLinker$Unit" 15 T_Unit 1 := Or.inl (in_t_1 (List.mem_of_getElem? (i := 191) rfl))
theorem fl_Unit_15_f : Cond.fieldLink "SymbolLinker$Unit" 15 (T_Unit 1).1 (T_Unit 1).2.1 (T_Unit 1).2.2.1 ∈ lw_tbl := (in_t_1 (List.mem_of_getElem? (i := 191) rfl))
theorem fl_L_308 : ax_fl "SymbolLinker" 308 T_Unit 1 := Or.inl (in_t_1 (List.mem_of_getElem? (i := 192) rfl))
theorem fl_L_308_f : Cond.fieldLink "SymbolLinker" 308 (T_Unit 1).1 (T_Unit 1).2.1 (T_Unit 1).2.2.1 ∈ lw_tbl := (in_t_1 (List.mem_of_getElem? (i := 192) rfl))
theorem fl_Unit_21 : ax_fl "SymbolLinker$Unit" 21 T_Unit 2 := Or.inl (in_t_1 (List.mem_of_getElem? (i := 193) rfl))
theorem fl_Unit_21_f : Cond.fieldLink "SymbolLinker$Unit" 21 (T_Unit 2).1 (T_Unit 2).2.1 (T_Unit 2).2.2.1 ∈ lw_tbl := (in_t_1 (List.mem_of_getElem? (i := 193) rfl))
theorem fl_L_79 : ax_fl "SymbolLinker" 79 T_Unit 2 := Or.inl (in_t_1 (List.mem_of_getElem? (i := 194) rfl))
theorem fl_L_79_f : Cond.fieldLink "SymbolLinker" 79 (T_Unit 2).1 (T_Unit 2).2.1 (T_Unit 2).2.2.1 ∈ lw_tbl := (in_t_1 (List.mem_of_getElem? (i := 194) rfl))
theorem fl_Unit_28 : ax_fl "SymbolLinker$Unit" 28 T_Unit 3 := Or.inl (in_t_1 (List.mem_of_getElem? (i := 195) rfl))
theorem fl_Unit_28_f : Cond.fieldLink "SymbolLinker$Unit" 28 (T_Unit 3).1 (T_Unit 3).2.1 (T_Unit 3).2.2.1 ∈ lw_tbl := (in_t_1 (List.mem_of_getElem? (i := 195) rfl))
theorem fl_L_143 : ax_fl "SymbolLinker" 143 T_Unit 3 := Or.inl (in_t_1 (List.mem_of_getElem? (i := 196) rfl))
theorem fl_L_143_f : Cond.fieldLink "SymbolLinker" 143 (T_Unit 3).1 (T_Unit 3).2.1 (T_Unit 3).2.2.1 ∈ lw_tbl := (in_t_1 (List.mem_of_getElem? (i := 196) rfl))
theorem fl_Unit_32 : ax_fl "SymbolLinker$Unit" 32 T_Unit 4 := Or.inl (in_t_1 (List.mem_of_getElem? (i := 197) rfl))
theorem fl_L_305 : ax_fl "SymbolLinker" 305 T_Unit 4 := Or.inl (in_t_1 (List.mem_of_getElem? (i := 198) rfl))
theorem fl_Section_7 : ax_fl "SymbolLinker$Section" 7 T_Section 0 := Or.inl (in_t_2 (List.mem_of_getElem? (i := 9) rfl))
theorem fl_Section_7_f : Cond.fieldLink "SymbolLinker$Section" 7 (T_Section 0).1 (T_Section 0).2.1 (T_Section 0).2.2.1 ∈ lw_tbl := (in_t_2 (List.mem_of_getElem? (i := 9) rfl))
theorem fl_Wait_65 : ax_fl "SymbolLinker$Wait" 65 T_Section 0 := Or.inl (in_t_2 (List.mem_of_getElem? (i := 10) rfl))
theorem fl_Wait_65_f : Cond.fieldLink "SymbolLinker$Wait" 65 (T_Section 0).1 (T_Section 0).2.1 (T_Section 0).2.2.1 ∈ lw_tbl := (in_t_2 (List.mem_of_getElem? (i := 10) rfl))
theorem fl_Image_90 : ax_fl "SymbolLinker$Image" 90 T_Section 0 := Or.inl (in_t_2 (List.mem_of_getElem? (i := 11) rfl))
theorem fl_Image_90_f : Cond.fieldLink "SymbolLinker$Image" 90 (T_Section 0).1 (T_Section 0).2.1 (T_Section 0).2.2.1 ∈ lw_tbl := (in_t_2 (List.mem_of_getElem? (i := 11) rfl))
theorem fl_L_361 : ax_fl "SymbolLinker" 361 T_Section 0 := Or.inl (in_t_2 (List.mem_of_getElem? (i := 12) rfl))
theorem fl_L_361_f : Cond.fieldLink "SymbolLinker" 361 (T_Section 0).1 (T_Section 0).2.1 (T_Section 0).2.2.1 ∈ lw_tbl := (in_t_2 (List.mem_of_getElem? (i := 12) rfl))
theorem fl_Section_13 : ax_fl "SymbolLinker$Section" 13 T_Section 1 := Or.inl (in_t_2 (List.mem_of_getElem? (i := 13) rfl))
theorem fl_Section_13_f : Cond.fieldLink "SymbolLinker$Section" 13 (T_Section 1).1 (T_Section 1).2.1 (T_Section 1).2.2.1 ∈ lw_tbl := (in_t_2 (List.mem_of_getElem? (i := 13) rfl))
theorem fl_L_351 : ax_fl "SymbolLinker" 351 T_Section 1 := Or.inl (in_t_2 (List.mem_of_getElem? (i := 14) rfl))
theorem fl_L_351_f : Cond.fieldLink "SymbolLinker" 351 (T_Section 1).1 (T_Section 1).2.1 (T_Section 1).2.2.1 ∈ lw_tbl := (in_t_2 (List.mem_of_getElem? (i := 14) rfl))
theorem fl_Section_17 : ax_fl "SymbolLinker$Section" 17 T_Section 2 := Or.inl (in_t_2 (List.mem_of_getElem? (i := 15) rfl))
theorem fl_Section_17_f : Cond.fieldLink "SymbolLinker$Section" 17 (T_Section 2).1 (T_Section 2).2.1 (T_Section 2).2.2.1 ∈ lw_tbl := (in_t_2 (List.mem_of_getElem? (i := 15) rfl))
theorem fl_L_102 : ax_fl "SymbolLinker" 102 T_Section 2 := Or.inl (in_t_2 (List.mem_of_getElem? (i := 16) rfl))
theorem fl_L_102_f : Cond.fieldLink "SymbolLinker" 102 (T_Section 2).1 (T_Section 2).2.1 (T_Section 2).2.2.1 ∈ lw_tbl := (in_t_2 (List.mem_of_getElem? (i := 16) rfl))
theorem fl_Section_20 : ax_fl "SymbolLinker$Section" 20 T_Section 3 := Or.inl (in_t_2 (List.mem_of_getElem? (i := 17) rfl))
theorem fl_L_109 : ax_fl "SymbolLinker" 109 T_Section 3 := Or.inl (in_t_2 (List.mem_of_getElem? (i := 18) rfl))
theorem fl_Unit_78 : ax_fl "SymbolLinker$Unit" 78 T_Section 3 := Or.inl (in_t_2 (List.mem_of_getElem? (i := 19) rfl))
theorem fl_Section_24 : ax_fl "SymbolLinker$Section" 24 T_Section 4 := Or.inl (in_t_2 (List.mem_of_getElem? (i := 20) rfl))
theorem fl_Unit_81 : ax_fl "SymbolLinker$Unit" 81 T_Section 4 := Or.inl (in_t_2 (List.mem_of_getElem? (i := 21) rfl))
theorem fl_L_233 : ax_fl "SymbolLinker" 233 T_Section 4 := Or.inl (in_t_2 (List.mem_of_getElem? (i := 22) rfl))
theorem fl_Section_27 : ax_fl "SymbolLinker$Section" 27 T_Section 5 := Or.inl (in_t_2 (List.mem_of_getElem? (i := 23) rfl))
theorem fl_Wait_52 : ax_fl "SymbolLinker$Wait" 52 T_Section 5 := Or.inl (in_t_2 (List.mem_of_getElem? (i := 24) rfl))
theorem fl_Image_81 : ax_fl "SymbolLinker$Image" 81 T_Section 5 := Or.inl (in_t_2 (List.mem_of_getElem? (i := 25) rfl))
theorem fl_Symbol_39 : ax_fl "SymbolLinker$Symbol" 39 T_Section 5 := Or.inl (in_t_2 (List.mem_of_getElem? (i := 26) rfl))
theorem fl_L_348 : ax_fl "SymbolLinker" 348 T_Section 5 := Or.inl (in_t_2 (List.mem_of_getElem? (i := 27) rfl))
theorem fl_Name_7 : ax_fl "SymbolLinker$Name" 7 T_Name 0 := Or.inl (in_t_2 (List.mem_of_getElem? (i := 174) rfl))
theorem fl_Name_7_f : Cond.fieldLink "SymbolLinker$Name" 7 (T_Name 0).1 (T_Name 0).2.1 (T_Name 0).2.2.1 ∈ lw_tbl := (in_t_2 (List.mem_of_getElem? (i := 174) rfl))
theorem fl_Image_66 : ax_fl "SymbolLinker$Image" 66 T_Name 0 := Or.inl (in_t_2 (List.mem_of_getElem? (i := 175) rfl))
theorem fl_Image_66_f : Cond.fieldLink "SymbolLinker$Image" 66 (T_Name 0).1 (T_Name 0).2.1 (T_Name 0).2.2.1 ∈ lw_tbl := (in_t_2 (List.mem_of_getElem? (i := 175) rfl))
theorem fl_L_290 : ax_fl "SymbolLinker" 290 T_Name 0 := Or.inl (in_t_2 (List.mem_of_getElem? (i := 176) rfl))
theorem fl_L_290_f : Cond.fieldLink "SymbolLinker" 290 (T_Name 0).1 (T_Name 0).2.1 (T_Name 0).2.2.1 ∈ lw_tbl := (in_t_2 (List.mem_of_getElem? (i := 176) rfl))
theorem fl_Name_13 : ax_fl "SymbolLinker$Name" 13 T_Name 1 := Or.inl (in_t_2 (List.mem_of_getElem? (i := 177) rfl))
theorem fl_Name_13_f : Cond.fieldLink "SymbolLinker$Name" 13 (T_Name 1).1 (T_Name 1).2.1 (T_Name 1).2.2.1 ∈ lw_tbl := (in_t_2 (List.mem_of_getElem? (i := 177) rfl))
theorem fl_Image_72 : ax_fl "SymbolLinker$Image" 72 T_Name 1 := Or.inl (in_t_2 (List.mem_of_getElem? (i := 178) rfl))
theorem fl_Image_72_f : Cond.fieldLink "SymbolLinker$Image" 72 (T_Name 1).1 (T_Name 1).2.1 (T_Name 1).2.2.1 ∈ lw_tbl := (in_t_2 (List.mem_of_getElem? (i := 178) rfl))
theorem fl_L_294 : ax_fl "SymbolLinker" 294 T_Name 1 := Or.inl (in_t_2 (List.mem_of_getElem? (i := 179) rfl))
theorem fl_L_294_f : Cond.fieldLink "SymbolLinker" 294 (T_Name 1).1 (T_Name 1).2.1 (T_Name 1).2.2.1 ∈ lw_tbl := (in_t_2 (List.mem_of_getElem? (i := 179) rfl))
theorem fl_Name_17 : ax_fl "SymbolLinker$Name" 17 T_Name 2 := Or.inl (in_t_2 (List.mem_of_getElem? (i := 180) rfl))
theorem fl_Unit_61 : ax_fl "SymbolLinker$Unit" 61 T_Name 2 := Or.inl (in_t_2 (List.mem_of_getElem? (i := 181) rfl))
theorem fl_Name_21 : ax_fl "SymbolLinker$Name" 21 T_Name 3 := Or.inl (in_t_2 (List.mem_of_getElem? (i := 182) rfl))
theorem fl_Unit_53 : ax_fl "SymbolLinker$Unit" 53 T_Name 3 := Or.inl (in_t_2 (List.mem_of_getElem? (i := 183) rfl))
theorem fl_Name_24 : ax_fl "SymbolLinker$Name" 24 T_Name 4 := Or.inl (in_t_2 (List.mem_of_getElem? (i := 184) rfl))
theorem fl_Unit_71 : ax_fl "SymbolLinker$Unit" 71 T_Name 4 := Or.inl (in_t_2 (List.mem_of_getElem? (i := 185) rfl))
theorem fl_L_299 : ax_fl "SymbolLinker" 299 T_Name 4 := Or.inl (in_t_2 (List.mem_of_getElem? (i := 186) rfl))
theorem fl_Name_28 : ax_fl "SymbolLinker$Name" 28 T_Name 5 := Or.inl (in_t_2 (List.mem_of_getElem? (i := 187) rfl))
theorem fl_Symbol_9 : ax_fl "SymbolLinker$Symbol" 9 T_Symbol 0 := Or.inl (in_t_2 (List.mem_of_getElem? (i := 207) rfl))
theorem fl_Symbol_9_f : Cond.fieldLink "SymbolLinker$Symbol" 9 (T_Symbol 0).1 (T_Symbol 0).2.1 (T_Symbol 0).2.2.1 ∈ lw_tbl := (in_t_2 (List.mem_of_getElem? (i := 207) rfl))
theorem fl_Unit_45 : ax_fl "SymbolLinker$Unit" 45 T_Symbol 0 := Or.inl (in_t_2 (List.mem_of_getElem? (i := 208) rfl))
theorem fl_Unit_45_f : Cond.fieldLink "SymbolLinker$Unit" 45 (T_Symbol 0).1 (T_Symbol 0).2.1 (T_Symbol 0).2.2.1 ∈ lw_tbl := (in_t_2 (List.mem_of_getElem? (i := 208) rfl))
theorem fl_Symbol_19 : ax_fl "SymbolLinker$Symbol" 19 T_Symbol 1 := Or.inl (in_t_2 (List.mem_of_getElem? (i := 209) rfl))
theorem fl_Symbol_19_f : Cond.fieldLink "SymbolLinker$Symbol" 19 (T_Symbol 1).1 (T_Symbol 1).2.1 (T_Symbol 1).2.2.1 ∈ lw_tbl := (in_t_2 (List.mem_of_getElem? (i := 209) rfl))
theorem fl_Symbol_15 : ax_fl "SymbolLinker$Symbol" 15 T_Symbol 2 := Or.inl (in_t_2 (List.mem_of_getElem? (i := 210) rfl))
theorem fl_Symbol_15_f : Cond.fieldLink "SymbolLinker$Symbol" 15 (T_Symbol 2).1 (T_Symbol 2).2.1 (T_Symbol 2).2.2.1 ∈ lw_tbl := (in_t_2 (List.mem_of_getElem? (i := 210) rfl))
theorem fl_Name_31 : ax_fl "SymbolLinker$Name" 31 T_Symbol 2 := Or.inl (in_t_2 (List.mem_of_getElem? (i := 211) rfl))
theorem fl_Name_31_f : Cond.fieldLink "SymbolLinker$Name" 31 (T_Symbol 2).1 (T_Symbol 2).2.1 (T_Symbol 2).2.2.1 ∈ lw_tbl := (in_t_2 (List.mem_of_getElem? (i := 211) rfl))
theorem fl_Symbol_22 : ax_fl "SymbolLinker$Symbol" 22 T_Symbol 3 := Or.inl (in_t_2 (List.mem_of_getElem? (i := 212) rfl))
theorem fl_Symbol_22_f : Cond.fieldLink "SymbolLinker$Symbol" 22 (T_Symbol 3).1 (T_Symbol 3).2.1 (T_Symbol 3).2.2.1 ∈ lw_tbl := (in_t_2 (List.mem_of_getElem? (i := 212) rfl))
theorem fl_Wait_45 : ax_fl "SymbolLinker$Wait" 45 T_Symbol 3 := Or.inl (in_t_2 (List.mem_of_getElem? (i := 213) rfl))
theorem fl_Wait_45_f : Cond.fieldLink "SymbolLinker$Wait" 45 (T_Symbol 3).1 (T_Symbol 3).2.1 (T_Symbol 3).2.2.1 ∈ lw_tbl := (in_t_2 (List.mem_of_getElem? (i := 213) rfl))
theorem fl_L_199 : ax_fl "SymbolLinker" 199 T_Symbol 3 := Or.inl (in_t_2 (List.mem_of_getElem? (i := 214) rfl))
theorem fl_L_199_f : Cond.fieldLink "SymbolLinker" 199 (T_Symbol 3).1 (T_Symbol 3).2.1 (T_Symbol 3).2.2.1 ∈ lw_tbl := (in_t_2 (List.mem_of_getElem? (i := 214) rfl))
theorem fl_Symbol_26 : ax_fl "SymbolLinker$Symbol" 26 T_Symbol 4 := Or.inl (in_t_2 (List.mem_of_getElem? (i := 215) rfl))
theorem fl_Symbol_26_f : Cond.fieldLink "SymbolLinker$Symbol" 26 (T_Symbol 4).1 (T_Symbol 4).2.1 (T_Symbol 4).2.2.1 ∈ lw_tbl := (in_t_2 (List.mem_of_getElem? (i := 215) rfl))
theorem fl_Symbol_30 : ax_fl "SymbolLinker$Symbol" 30 T_Symbol 5 := Or.inl (in_t_2 (List.mem_of_getElem? (i := 216) rfl))
theorem fl_Symbol_30_f : Cond.fieldLink "SymbolLinker$Symbol" 30 (T_Symbol 5).1 (T_Symbol 5).2.1 (T_Symbol 5).2.2.1 ∈ lw_tbl := (in_t_2 (List.mem_of_getElem? (i := 216) rfl))
theorem fl_Unit_75 : ax_fl "SymbolLinker$Unit" 75 T_Symbol 5 := Or.inl (in_t_2 (List.mem_of_getElem? (i := 217) rfl))
theorem fl_Unit_75_f : Cond.fieldLink "SymbolLinker$Unit" 75 (T_Symbol 5).1 (T_Symbol 5).2.1 (T_Symbol 5).2.2.1 ∈ lw_tbl := (in_t_2 (List.mem_of_getElem? (i := 217) rfl))
theorem fl_Wait_9 : ax_fl "SymbolLinker$Wait" 9 T_Wait 0 := Or.inl (in_t_3 (List.mem_of_getElem? (i := 5) rfl))
theorem fl_Wait_9_f : Cond.fieldLink "SymbolLinker$Wait" 9 (T_Wait 0).1 (T_Wait 0).2.1 (T_Wait 0).2.2.1 ∈ lw_tbl := (in_t_3 (List.mem_of_getElem? (i := 5) rfl))
theorem fl_L_332 : ax_fl "SymbolLinker" 332 T_Wait 0 := Or.inl (in_t_3 (List.mem_of_getElem? (i := 6) rfl))
theorem fl_L_332_f : Cond.fieldLink "SymbolLinker" 332 (T_Wait 0).1 (T_Wait 0).2.1 (T_Wait 0).2.2.1 ∈ lw_tbl := (in_t_3 (List.mem_of_getElem? (i := 6) rfl))
theorem fl_Wait_15 : ax_fl "SymbolLinker$Wait" 15 T_Wait 1 := Or.inl (in_t_3 (List.mem_of_getElem? (i := 7) rfl))
theorem fl_Wait_15_f : Cond.fieldLink "SymbolLinker$Wait" 15 (T_Wait 1).1 (T_Wait 1).2.1 (T_Wait 1).2.2.1 ∈ lw_tbl := (in_t_3 (List.mem_of_getElem? (i := 7) rfl))
theorem fl_L_371 : ax_fl "SymbolLinker" 371 T_Wait 1 := Or.inl (in_t_3 (List.mem_of_getElem? (i := 8) rfl))
theorem fl_L_371_f : Cond.fieldLink "SymbolLinker" 371 (T_Wait 1).1 (T_Wait 1).2.1 (T_Wait 1).2.2.1 ∈ lw_tbl := (in_t_3 (List.mem_of_getElem? (i := 8) rfl))
theorem fl_Wait_19 : ax_fl "SymbolLinker$Wait" 19 T_Wait 2 := Or.inl (in_t_3 (List.mem_of_getElem? (i := 9) rfl))
theorem fl_Wait_19_f : Cond.fieldLink "SymbolLinker$Wait" 19 (T_Wait 2).1 (T_Wait 2).2.1 (T_Wait 2).2.2.1 ∈ lw_tbl := (in_t_3 (List.mem_of_getElem? (i := 9) rfl))
theorem fl_L_378 : ax_fl "SymbolLinker" 378 T_Wait 2 := Or.inl (in_t_3 (List.mem_of_getElem? (i := 10) rfl))
theorem fl_L_378_f : Cond.fieldLink "SymbolLinker" 378 (T_Wait 2).1 (T_Wait 2).2.1 (T_Wait 2).2.2.1 ∈ lw_tbl := (in_t_3 (List.mem_of_getElem? (i := 10) rfl))
theorem fl_Wait_22 : ax_fl "SymbolLinker$Wait" 22 T_Wait 3 := Or.inl (in_t_3 (List.mem_of_getElem? (i := 11) rfl))
theorem fl_Wait_22_f : Cond.fieldLink "SymbolLinker$Wait" 22 (T_Wait 3).1 (T_Wait 3).2.1 (T_Wait 3).2.2.1 ∈ lw_tbl := (in_t_3 (List.mem_of_getElem? (i := 11) rfl))
theorem fl_Wait_26 : ax_fl "SymbolLinker$Wait" 26 T_Wait 4 := Or.inl (in_t_3 (List.mem_of_getElem? (i := 12) rfl))
theorem fl_Wait_26_f : Cond.fieldLink "SymbolLinker$Wait" 26 (T_Wait 4).1 (T_Wait 4).2.1 (T_Wait 4).2.2.1 ∈ lw_tbl := (in_t_3 (List.mem_of_getElem? (i := 12) rfl))
theorem fl_L_360 : ax_fl "SymbolLinker" 360 T_Wait 4 := Or.inl (in_t_3 (List.mem_of_getElem? (i := 13) rfl))
theorem fl_L_360_f : Cond.fieldLink "SymbolLinker" 360 (T_Wait 4).1 (T_Wait 4).2.1 (T_Wait 4).2.2.1 ∈ lw_tbl := (in_t_3 (List.mem_of_getElem? (i := 13) rfl))
theorem fl_Wait_29 : ax_fl "SymbolLinker$Wait" 29 T_Wait 5 := Or.inl (in_t_3 (List.mem_of_getElem? (i := 14) rfl))
theorem fl_L_163 : ax_fl "SymbolLinker" 163 T_Wait 5 := Or.inl (in_t_3 (List.mem_of_getElem? (i := 15) rfl))
theorem fl_Wait_32 : ax_fl "SymbolLinker$Wait" 32 T_Wait 6 := Or.inl (in_t_3 (List.mem_of_getElem? (i := 16) rfl))
theorem fl_L_166 : ax_fl "SymbolLinker" 166 T_Wait 6 := Or.inl (in_t_3 (List.mem_of_getElem? (i := 17) rfl))
theorem fl_Wait_36 : ax_fl "SymbolLinker$Wait" 36 T_Wait 7 := Or.inl (in_t_3 (List.mem_of_getElem? (i := 18) rfl))
theorem fl_L_170 : ax_fl "SymbolLinker" 170 T_Wait 7 := Or.inl (in_t_3 (List.mem_of_getElem? (i := 19) rfl))
theorem fl_Start_7 : ax_fl "SymbolLinker$Start" 7 T_Start 0 := Or.inl (in_t_3 (List.mem_of_getElem? (i := 47) rfl))
theorem fl_Start_7_f : Cond.fieldLink "SymbolLinker$Start" 7 (T_Start 0).1 (T_Start 0).2.1 (T_Start 0).2.2.1 ∈ lw_tbl := (in_t_3 (List.mem_of_getElem? (i := 47) rfl))
theorem fl_Image_75 : ax_fl "SymbolLinker$Image" 75 T_Start 0 := Or.inl (in_t_3 (List.mem_of_getElem? (i := 48) rfl))
theorem fl_Image_75_f : Cond.fieldLink "SymbolLinker$Image" 75 (T_Start 0).1 (T_Start 0).2.1 (T_Start 0).2.2.1 ∈ lw_tbl := (in_t_3 (List.mem_of_getElem? (i := 48) rfl))
theorem fl_L_386 : ax_fl "SymbolLinker" 386 T_Start 0 := Or.inl (in_t_3 (List.mem_of_getElem? (i := 49) rfl))
theorem fl_L_386_f : Cond.fieldLink "SymbolLinker" 386 (T_Start 0).1 (T_Start 0).2.1 (T_Start 0).2.2.1 ∈ lw_tbl := (in_t_3 (List.mem_of_getElem? (i := 49) rfl))
theorem fl_Start_13 : ax_fl "SymbolLinker$Start" 13 T_Start 1 := Or.inl (in_t_3 (List.mem_of_getElem? (i := 50) rfl))
theorem fl_Start_13_f : Cond.fieldLink "SymbolLinker$Start" 13 (T_Start 1).1 (T_Start 1).2.1 (T_Start 1).2.2.1 ∈ lw_tbl := (in_t_3 (List.mem_of_getElem? (i := 50) rfl))
theorem fl_Image_87 : ax_fl "SymbolLinker$Image" 87 T_Start 1 := Or.inl (in_t_3 (List.mem_of_getElem? (i := 51) rfl))
theorem fl_Image_87_f : Cond.fieldLink "SymbolLinker$Image" 87 (T_Start 1).1 (T_Start 1).2.1 (T_Start 1).2.2.1 ∈ lw_tbl := (in_t_3 (List.mem_of_getElem? (i := 51) rfl))
theorem fl_Start_17 : ax_fl "SymbolLinker$Start" 17 T_Start 2 := Or.inl (in_t_3 (List.mem_of_getElem? (i := 52) rfl))
theorem fl_Start_17_f : Cond.fieldLink "SymbolLinker$Start" 17 (T_Start 2).1 (T_Start 2).2.1 (T_Start 2).2.2.1 ∈ lw_tbl := (in_t_3 (List.mem_of_getElem? (i := 52) rfl))
theorem fl_Image_99 : ax_fl "SymbolLinker$Image" 99 T_Start 2 := Or.inl (in_t_3 (List.mem_of_getElem? (i := 53) rfl))
theorem fl_Image_99_f : Cond.fieldLink "SymbolLinker$Image" 99 (T_Start 2).1 (T_Start 2).2.1 (T_Start 2).2.2.1 ∈ lw_tbl := (in_t_3 (List.mem_of_getElem? (i := 53) rfl))
theorem fl_JThrowable_198_JIllegalStateException : ax_fl "java/lang/Throwable" 198 T_JIllegalStateException 4 := Or.inl (in_t_3 (List.mem_of_getElem? (i := 228) rfl))
theorem fl_JThrowable_198_JNoSuchElementException : ax_fl "java/lang/Throwable" 198 T_JNoSuchElementException 4 := Or.inl (in_t_3 (List.mem_of_getElem? (i := 228) rfl))
theorem fl_JThrowable_31_JIllegalStateException : ax_fl "java/lang/Throwable" 31 T_JIllegalStateException 3 := Or.inl (in_t_4 (List.mem_of_getElem? (i := 21) rfl))
theorem fl_JThrowable_31_JNoSuchElementException : ax_fl "java/lang/Throwable" 31 T_JNoSuchElementException 3 := Or.inl (in_t_4 (List.mem_of_getElem? (i := 21) rfl))
theorem fl_JThrowable_7_JIllegalStateException : ax_fl "java/lang/Throwable" 7 T_JIllegalStateException 0 := Or.inl (in_t_4 (List.mem_of_getElem? (i := 22) rfl))
theorem fl_JThrowable_7_JNoSuchElementException : ax_fl "java/lang/Throwable" 7 T_JNoSuchElementException 0 := Or.inl (in_t_4 (List.mem_of_getElem? (i := 22) rfl))
theorem fl_JThrowable_17_JIllegalStateException : ax_fl "java/lang/Throwable" 17 T_JIllegalStateException 1 := Or.inl (in_t_4 (List.mem_of_getElem? (i := 23) rfl))
theorem fl_JThrowable_17_JNoSuchElementException : ax_fl "java/lang/Throwable" 17 T_JNoSuchElementException 1 := Or.inl (in_t_4 (List.mem_of_getElem? (i := 23) rfl))
theorem fl_JThrowable_24_JIllegalStateException : ax_fl "java/lang/Throwable" 24 T_JIllegalStateException 2 := Or.inl (in_t_4 (List.mem_of_getElem? (i := 24) rfl))
theorem fl_JThrowable_24_JNoSuchElementException : ax_fl "java/lang/Throwable" 24 T_JNoSuchElementException 2 := Or.inl (in_t_4 (List.mem_of_getElem? (i := 24) rfl))
theorem fl_M_123 : ax_fl "SymbolLinkerModel" 123 T_M 0 := Or.inl (in_t_4 (List.mem_of_getElem? (i := 112) rfl))
theorem fl_M_126 : ax_fl "SymbolLinkerModel" 126 T_M 1 := Or.inl (in_t_4 (List.mem_of_getElem? (i := 113) rfl))
theorem fl_M_129 : ax_fl "SymbolLinkerModel" 129 T_M 2 := Or.inl (in_t_4 (List.mem_of_getElem? (i := 114) rfl))
theorem fl_M_132 : ax_fl "SymbolLinkerModel" 132 T_M 3 := Or.inl (in_t_4 (List.mem_of_getElem? (i := 115) rfl))
theorem fl_M_135 : ax_fl "SymbolLinkerModel" 135 T_M 4 := Or.inl (in_t_4 (List.mem_of_getElem? (i := 116) rfl))
theorem fl_M_138 : ax_fl "SymbolLinkerModel" 138 T_M 5 := Or.inl (in_t_4 (List.mem_of_getElem? (i := 117) rfl))
theorem fl_M_7 : ax_fl "SymbolLinkerModel" 7 T_M 6 := Or.inl (in_t_4 (List.mem_of_getElem? (i := 118) rfl))
theorem fl_M_7_f : Cond.fieldLink "SymbolLinkerModel" 7 (T_M 6).1 (T_M 6).2.1 (T_M 6).2.2.1 ∈ lw_tbl := (in_t_4 (List.mem_of_getElem? (i := 118) rfl))
theorem fl_M_13 : ax_fl "SymbolLinkerModel" 13 T_M 7 := Or.inl (in_t_4 (List.mem_of_getElem? (i := 119) rfl))
theorem fl_M_13_f : Cond.fieldLink "SymbolLinkerModel" 13 (T_M 7).1 (T_M 7).2.1 (T_M 7).2.2.1 ∈ lw_tbl := (in_t_4 (List.mem_of_getElem? (i := 119) rfl))
theorem fl_M_16 : ax_fl "SymbolLinkerModel" 16 T_M 8 := Or.inl (in_t_4 (List.mem_of_getElem? (i := 120) rfl))
theorem fl_M_16_f : Cond.fieldLink "SymbolLinkerModel" 16 (T_M 8).1 (T_M 8).2.1 (T_M 8).2.2.1 ∈ lw_tbl := (in_t_4 (List.mem_of_getElem? (i := 120) rfl))
theorem fl_M_19 : ax_fl "SymbolLinkerModel" 19 T_M 9 := Or.inl (in_t_4 (List.mem_of_getElem? (i := 121) rfl))
theorem fl_M_19_f : Cond.fieldLink "SymbolLinkerModel" 19 (T_M 9).1 (T_M 9).2.1 (T_M 9).2.2.1 ∈ lw_tbl := (in_t_4 (List.mem_of_getElem? (i := 121) rfl))
theorem fl_M_22 : ax_fl "SymbolLinkerModel" 22 T_M 10 := Or.inl (in_t_4 (List.mem_of_getElem? (i := 122) rfl))
theorem fl_M_22_f : Cond.fieldLink "SymbolLinkerModel" 22 (T_M 10).1 (T_M 10).2.1 (T_M 10).2.2.1 ∈ lw_tbl := (in_t_4 (List.mem_of_getElem? (i := 122) rfl))
theorem fl_M_26 : ax_fl "SymbolLinkerModel" 26 T_M 11 := Or.inl (in_t_4 (List.mem_of_getElem? (i := 123) rfl))
theorem fl_M_26_f : Cond.fieldLink "SymbolLinkerModel" 26 (T_M 11).1 (T_M 11).2.1 (T_M 11).2.2.1 ∈ lw_tbl := (in_t_4 (List.mem_of_getElem? (i := 123) rfl))
theorem fl_M_29 : ax_fl "SymbolLinkerModel" 29 T_M 12 := Or.inl (in_t_4 (List.mem_of_getElem? (i := 124) rfl))
theorem fl_M_29_f : Cond.fieldLink "SymbolLinkerModel" 29 (T_M 12).1 (T_M 12).2.1 (T_M 12).2.2.1 ∈ lw_tbl := (in_t_4 (List.mem_of_getElem? (i := 124) rfl))
theorem fl_M_33 : ax_fl "SymbolLinkerModel" 33 T_M 13 := Or.inl (in_t_4 (List.mem_of_getElem? (i := 125) rfl))
theorem fl_M_33_f : Cond.fieldLink "SymbolLinkerModel" 33 (T_M 13).1 (T_M 13).2.1 (T_M 13).2.2.1 ∈ lw_tbl := (in_t_4 (List.mem_of_getElem? (i := 125) rfl))
theorem fl_M_37 : ax_fl "SymbolLinkerModel" 37 T_M 14 := Or.inl (in_t_4 (List.mem_of_getElem? (i := 126) rfl))
theorem fl_M_37_f : Cond.fieldLink "SymbolLinkerModel" 37 (T_M 14).1 (T_M 14).2.1 (T_M 14).2.2.1 ∈ lw_tbl := (in_t_4 (List.mem_of_getElem? (i := 126) rfl))
theorem fl_M_41 : ax_fl "SymbolLinkerModel" 41 T_M 15 := Or.inl (in_t_4 (List.mem_of_getElem? (i := 127) rfl))
theorem fl_M_41_f : Cond.fieldLink "SymbolLinkerModel" 41 (T_M 15).1 (T_M 15).2.1 (T_M 15).2.2.1 ∈ lw_tbl := (in_t_4 (List.mem_of_getElem? (i := 127) rfl))
theorem fl_M_44 : ax_fl "SymbolLinkerModel" 44 T_M 16 := Or.inl (in_t_4 (List.mem_of_getElem? (i := 128) rfl))
theorem fl_M_44_f : Cond.fieldLink "SymbolLinkerModel" 44 (T_M 16).1 (T_M 16).2.1 (T_M 16).2.2.1 ∈ lw_tbl := (in_t_4 (List.mem_of_getElem? (i := 128) rfl))
theorem fl_M_47 : ax_fl "SymbolLinkerModel" 47 T_M 17 := Or.inl (in_t_4 (List.mem_of_getElem? (i := 129) rfl))
theorem fl_M_47_f : Cond.fieldLink "SymbolLinkerModel" 47 (T_M 17).1 (T_M 17).2.1 (T_M 17).2.2.1 ∈ lw_tbl := (in_t_4 (List.mem_of_getElem? (i := 129) rfl))
theorem fl_M_50 : ax_fl "SymbolLinkerModel" 50 T_M 18 := Or.inl (in_t_4 (List.mem_of_getElem? (i := 130) rfl))
theorem fl_M_50_f : Cond.fieldLink "SymbolLinkerModel" 50 (T_M 18).1 (T_M 18).2.1 (T_M 18).2.2.1 ∈ lw_tbl := (in_t_4 (List.mem_of_getElem? (i := 130) rfl))
theorem fl_M_53 : ax_fl "SymbolLinkerModel" 53 T_M 19 := Or.inl (in_t_4 (List.mem_of_getElem? (i := 131) rfl))
theorem fl_M_53_f : Cond.fieldLink "SymbolLinkerModel" 53 (T_M 19).1 (T_M 19).2.1 (T_M 19).2.2.1 ∈ lw_tbl := (in_t_4 (List.mem_of_getElem? (i := 131) rfl))
theorem fl_M_56 : ax_fl "SymbolLinkerModel" 56 T_M 20 := Or.inl (in_t_4 (List.mem_of_getElem? (i := 132) rfl))
theorem fl_M_56_f : Cond.fieldLink "SymbolLinkerModel" 56 (T_M 20).1 (T_M 20).2.1 (T_M 20).2.2.1 ∈ lw_tbl := (in_t_4 (List.mem_of_getElem? (i := 132) rfl))
theorem fl_M_59 : ax_fl "SymbolLinkerModel" 59 T_M 21 := Or.inl (in_t_4 (List.mem_of_getElem? (i := 133) rfl))
theorem fl_M_59_f : Cond.fieldLink "SymbolLinkerModel" 59 (T_M 21).1 (T_M 21).2.1 (T_M 21).2.2.1 ∈ lw_tbl := (in_t_4 (List.mem_of_getElem? (i := 133) rfl))
theorem fl_M_62 : ax_fl "SymbolLinkerModel" 62 T_M 22 := Or.inl (in_t_4 (List.mem_of_getElem? (i := 134) rfl))
theorem fl_M_62_f : Cond.fieldLink "SymbolLinkerModel" 62 (T_M 22).1 (T_M 22).2.1 (T_M 22).2.2.1 ∈ lw_tbl := (in_t_4 (List.mem_of_getElem? (i := 134) rfl))
theorem fl_M_65 : ax_fl "SymbolLinkerModel" 65 T_M 23 := Or.inl (in_t_4 (List.mem_of_getElem? (i := 135) rfl))
theorem fl_M_65_f : Cond.fieldLink "SymbolLinkerModel" 65 (T_M 23).1 (T_M 23).2.1 (T_M 23).2.2.1 ∈ lw_tbl := (in_t_4 (List.mem_of_getElem? (i := 135) rfl))
theorem fl_M_68 : ax_fl "SymbolLinkerModel" 68 T_M 24 := Or.inl (in_t_4 (List.mem_of_getElem? (i := 136) rfl))
theorem fl_M_68_f : Cond.fieldLink "SymbolLinkerModel" 68 (T_M 24).1 (T_M 24).2.1 (T_M 24).2.2.1 ∈ lw_tbl := (in_t_4 (List.mem_of_getElem? (i := 136) rfl))
theorem fl_M_71 : ax_fl "SymbolLinkerModel" 71 T_M 25 := Or.inl (in_t_4 (List.mem_of_getElem? (i := 137) rfl))
theorem fl_M_71_f : Cond.fieldLink "SymbolLinkerModel" 71 (T_M 25).1 (T_M 25).2.1 (T_M 25).2.2.1 ∈ lw_tbl := (in_t_4 (List.mem_of_getElem? (i := 137) rfl))
theorem fl_M_74 : ax_fl "SymbolLinkerModel" 74 T_M 26 := Or.inl (in_t_4 (List.mem_of_getElem? (i := 138) rfl))
theorem fl_M_74_f : Cond.fieldLink "SymbolLinkerModel" 74 (T_M 26).1 (T_M 26).2.1 (T_M 26).2.2.1 ∈ lw_tbl := (in_t_4 (List.mem_of_getElem? (i := 138) rfl))
theorem fl_M_77 : ax_fl "SymbolLinkerModel" 77 T_M 27 := Or.inl (in_t_4 (List.mem_of_getElem? (i := 139) rfl))
theorem fl_M_77_f : Cond.fieldLink "SymbolLinkerModel" 77 (T_M 27).1 (T_M 27).2.1 (T_M 27).2.2.1 ∈ lw_tbl := (in_t_4 (List.mem_of_getElem? (i := 139) rfl))
theorem fl_M_80 : ax_fl "SymbolLinkerModel" 80 T_M 28 := Or.inl (in_t_4 (List.mem_of_getElem? (i := 140) rfl))
theorem fl_M_80_f : Cond.fieldLink "SymbolLinkerModel" 80 (T_M 28).1 (T_M 28).2.1 (T_M 28).2.2.1 ∈ lw_tbl := (in_t_4 (List.mem_of_getElem? (i := 140) rfl))
theorem fl_M_83 : ax_fl "SymbolLinkerModel" 83 T_M 29 := Or.inl (in_t_4 (List.mem_of_getElem? (i := 141) rfl))
theorem fl_M_83_f : Cond.fieldLink "SymbolLinkerModel" 83 (T_M 29).1 (T_M 29).2.1 (T_M 29).2.2.1 ∈ lw_tbl := (in_t_4 (List.mem_of_getElem? (i := 141) rfl))
theorem fl_M_86 : ax_fl "SymbolLinkerModel" 86 T_M 30 := Or.inl (in_t_4 (List.mem_of_getElem? (i := 142) rfl))
theorem fl_M_86_f : Cond.fieldLink "SymbolLinkerModel" 86 (T_M 30).1 (T_M 30).2.1 (T_M 30).2.2.1 ∈ lw_tbl := (in_t_4 (List.mem_of_getElem? (i := 142) rfl))
theorem fl_M_89 : ax_fl "SymbolLinkerModel" 89 T_M 31 := Or.inl (in_t_4 (List.mem_of_getElem? (i := 143) rfl))
theorem fl_M_89_f : Cond.fieldLink "SymbolLinkerModel" 89 (T_M 31).1 (T_M 31).2.1 (T_M 31).2.2.1 ∈ lw_tbl := (in_t_4 (List.mem_of_getElem? (i := 143) rfl))
theorem fl_M_92 : ax_fl "SymbolLinkerModel" 92 T_M 32 := Or.inl (in_t_4 (List.mem_of_getElem? (i := 144) rfl))
theorem fl_M_92_f : Cond.fieldLink "SymbolLinkerModel" 92 (T_M 32).1 (T_M 32).2.1 (T_M 32).2.2.1 ∈ lw_tbl := (in_t_4 (List.mem_of_getElem? (i := 144) rfl))
theorem fl_M_178 : ax_fl "SymbolLinkerModel" 178 T_M 33 := Or.inl (in_t_4 (List.mem_of_getElem? (i := 145) rfl))
theorem fl_M_181 : ax_fl "SymbolLinkerModel" 181 T_M 34 := Or.inl (in_t_4 (List.mem_of_getElem? (i := 146) rfl))
theorem fl_M_95 : ax_fl "SymbolLinkerModel" 95 T_M 35 := Or.inl (in_t_4 (List.mem_of_getElem? (i := 147) rfl))
theorem fl_M_141 : ax_fl "SymbolLinkerModel" 141 T_M 36 := Or.inl (in_t_4 (List.mem_of_getElem? (i := 148) rfl))
theorem fl_M_99 : ax_fl "SymbolLinkerModel" 99 T_M 37 := Or.inl (in_t_4 (List.mem_of_getElem? (i := 149) rfl))
theorem fl_M_99_f : Cond.fieldLink "SymbolLinkerModel" 99 (T_M 37).1 (T_M 37).2.1 (T_M 37).2.2.1 ∈ lw_tbl := (in_t_4 (List.mem_of_getElem? (i := 149) rfl))
theorem fl_M_224 : ax_fl "SymbolLinkerModel" 224 T_M 38 := Or.inl (in_t_4 (List.mem_of_getElem? (i := 150) rfl))
theorem fl_M_191 : ax_fl "SymbolLinkerModel" 191 T_M 39 := Or.inl (in_t_4 (List.mem_of_getElem? (i := 151) rfl))
theorem fl_M_102 : ax_fl "SymbolLinkerModel" 102 T_M 40 := Or.inl (in_t_4 (List.mem_of_getElem? (i := 152) rfl))
theorem fl_M_102_f : Cond.fieldLink "SymbolLinkerModel" 102 (T_M 40).1 (T_M 40).2.1 (T_M 40).2.2.1 ∈ lw_tbl := (in_t_4 (List.mem_of_getElem? (i := 152) rfl))
theorem fl_M_105 : ax_fl "SymbolLinkerModel" 105 T_M 41 := Or.inl (in_t_4 (List.mem_of_getElem? (i := 153) rfl))
theorem fl_M_105_f : Cond.fieldLink "SymbolLinkerModel" 105 (T_M 41).1 (T_M 41).2.1 (T_M 41).2.2.1 ∈ lw_tbl := (in_t_4 (List.mem_of_getElem? (i := 153) rfl))
theorem fl_M_231 : ax_fl "SymbolLinkerModel" 231 T_M 42 := Or.inl (in_t_4 (List.mem_of_getElem? (i := 154) rfl))
theorem fl_M_234 : ax_fl "SymbolLinkerModel" 234 T_M 43 := Or.inl (in_t_4 (List.mem_of_getElem? (i := 155) rfl))
theorem fl_M_108 : ax_fl "SymbolLinkerModel" 108 T_M 44 := Or.inl (in_t_4 (List.mem_of_getElem? (i := 156) rfl))
theorem fl_M_108_f : Cond.fieldLink "SymbolLinkerModel" 108 (T_M 44).1 (T_M 44).2.1 (T_M 44).2.2.1 ∈ lw_tbl := (in_t_4 (List.mem_of_getElem? (i := 156) rfl))
theorem fl_M_111 : ax_fl "SymbolLinkerModel" 111 T_M 45 := Or.inl (in_t_4 (List.mem_of_getElem? (i := 157) rfl))
theorem fl_M_111_f : Cond.fieldLink "SymbolLinkerModel" 111 (T_M 45).1 (T_M 45).2.1 (T_M 45).2.2.1 ∈ lw_tbl := (in_t_4 (List.mem_of_getElem? (i := 157) rfl))
theorem fl_M_114 : ax_fl "SymbolLinkerModel" 114 T_M 46 := Or.inl (in_t_4 (List.mem_of_getElem? (i := 158) rfl))
theorem fl_M_114_f : Cond.fieldLink "SymbolLinkerModel" 114 (T_M 46).1 (T_M 46).2.1 (T_M 46).2.2.1 ∈ lw_tbl := (in_t_4 (List.mem_of_getElem? (i := 158) rfl))
theorem fl_M_117 : ax_fl "SymbolLinkerModel" 117 T_M 47 := Or.inl (in_t_4 (List.mem_of_getElem? (i := 159) rfl))
theorem fl_M_117_f : Cond.fieldLink "SymbolLinkerModel" 117 (T_M 47).1 (T_M 47).2.1 (T_M 47).2.2.1 ∈ lw_tbl := (in_t_4 (List.mem_of_getElem? (i := 159) rfl))
theorem fl_M_120 : ax_fl "SymbolLinkerModel" 120 T_M 48 := Or.inl (in_t_4 (List.mem_of_getElem? (i := 160) rfl))
theorem fl_M_120_f : Cond.fieldLink "SymbolLinkerModel" 120 (T_M 48).1 (T_M 48).2.1 (T_M 48).2.2.1 ∈ lw_tbl := (in_t_4 (List.mem_of_getElem? (i := 160) rfl))
theorem kl_W_8 : Cond.classLink "SymbolLinkerLaw" 8 "SymbolLinker" ∈ lw_tbl := (in_t_1 (List.mem_of_getElem? (i := 25) rfl))
theorem kl_L_7 : Cond.classLink "SymbolLinker" 7 "java/util/ArrayList" ∈ lw_tbl := (in_t_1 (List.mem_of_getElem? (i := 33) rfl))
theorem kl_L_25 : Cond.classLink "SymbolLinker" 25 "SymbolLinker$Fault" ∈ lw_tbl := (in_t_1 (List.mem_of_getElem? (i := 59) rfl))
theorem kl_L_32 : Cond.classLink "SymbolLinker" 32 "SymbolLinker$Image" ∈ lw_tbl := (in_t_1 (List.mem_of_getElem? (i := 78) rfl))
theorem ka_int : Cond.arrayClass .int ∈ lw_tbl := (in_t_1 (List.mem_of_getElem? (i := 118) rfl))
theorem ka_byte : Cond.arrayClass .byte ∈ lw_tbl := (in_t_1 (List.mem_of_getElem? (i := 119) rfl))
theorem ka_long : Cond.arrayClass .long ∈ lw_tbl := (in_t_1 (List.mem_of_getElem? (i := 120) rfl))
theorem kc_L_54 : Cond.constant "SymbolLinker" 54 (4194304) ∈ lw_tbl := (in_t_1 (List.mem_of_getElem? (i := 121) rfl))
theorem kc_L_261 : Cond.constant "SymbolLinker" 261 (65536) ∈ lw_tbl := (in_t_1 (List.mem_of_getElem? (i := 171) rfl))
theorem kc_L_65 : Cond.constant "SymbolLinker" 65 (262144) ∈ lw_tbl := (in_t_1 (List.mem_of_getElem? (i := 172) rfl))
theorem kl_L_70 : Cond.classLink "SymbolLinker" 70 "SymbolLinker$Unit" ∈ lw_tbl := (in_t_1 (List.mem_of_getElem? (i := 177) rfl))
theorem kl_Unit_19 : Cond.classLink "SymbolLinker$Unit" 19 "SymbolLinker$Section" ∈ lw_tbl := (in_t_1 (List.mem_of_getElem? (i := 183) rfl))
theorem ko_Section : Cond.arrayOver (.object "SymbolLinker$Section") ∈ lw_tbl := (in_t_1 (List.mem_of_getElem? (i := 184) rfl))
theorem kl_Unit_25 : Cond.classLink "SymbolLinker$Unit" 25 "java/util/ArrayList" ∈ lw_tbl := (in_t_1 (List.mem_of_getElem? (i := 185) rfl))
theorem kx_J_B_JCloneable : Cond.castable "[B" "java/lang/Cloneable" ∈ lw_tbl := (in_t_1 (List.mem_of_getElem? (i := 231) rfl))
theorem kl_JArrays_311 : Cond.classLink "java/util/Arrays" 311 "[B" ∈ lw_tbl := (in_t_1 (List.mem_of_getElem? (i := 232) rfl))
theorem kl_L_83 : Cond.classLink "SymbolLinker" 83 "SymbolLinker$Section" ∈ lw_tbl := (in_t_2 (List.mem_of_getElem? (i := 3) rfl))
theorem kc_JArraysSupport_200 : Cond.constant "jdk/internal/util/ArraysSupport" 200 (2147483639) ∈ lw_tbl := (in_t_2 (List.mem_of_getElem? (i := 61) rfl))
theorem kl_JArrays_110 : Cond.classLink "java/util/Arrays" 110 "[Ljava/lang/Object;" ∈ lw_tbl := (in_t_2 (List.mem_of_getElem? (i := 88) rfl))
theorem ko_JObject : Cond.arrayOver (.object "java/lang/Object") ∈ lw_tbl := (in_t_2 (List.mem_of_getElem? (i := 89) rfl))
theorem kl_JArrays_2 : Cond.classLink "java/util/Arrays" 2 "java/lang/Object" ∈ lw_tbl := (in_t_2 (List.mem_of_getElem? (i := 90) rfl))
theorem kl_JArrayList_7 : Cond.classLink "java/util/ArrayList" 7 "java/lang/Object" ∈ lw_tbl := (in_t_2 (List.mem_of_getElem? (i := 92) rfl))
theorem kc_L_262 : Cond.constant "SymbolLinker" 262 (65535) ∈ lw_tbl := (in_t_2 (List.mem_of_getElem? (i := 148) rfl))
theorem kl_L_134 : Cond.classLink "SymbolLinker" 134 "SymbolLinker$Name" ∈ lw_tbl := (in_t_2 (List.mem_of_getElem? (i := 161) rfl))
theorem kl_Unit_43 : Cond.classLink "SymbolLinker$Unit" 43 "SymbolLinker$Symbol" ∈ lw_tbl := (in_t_2 (List.mem_of_getElem? (i := 168) rfl))
theorem kl_L_146 : Cond.classLink "SymbolLinker" 146 "SymbolLinker$Symbol" ∈ lw_tbl := (in_t_2 (List.mem_of_getElem? (i := 201) rfl))
theorem kl_L_158 : Cond.classLink "SymbolLinker" 158 "SymbolLinker$Wait" ∈ lw_tbl := (in_t_2 (List.mem_of_getElem? (i := 239) rfl))
theorem kl_L_174 : Cond.classLink "SymbolLinker" 174 "SymbolLinker$Start" ∈ lw_tbl := (in_t_3 (List.mem_of_getElem? (i := 41) rfl))
theorem kl_W_13 : Cond.classLink "SymbolLinkerLaw" 13 "java/lang/IllegalStateException" ∈ lw_tbl := (in_t_3 (List.mem_of_getElem? (i := 84) rfl))
theorem kc_L_297 : Cond.constantLong "SymbolLinker" 297 (495873782388) ∈ lw_tbl := (in_t_3 (List.mem_of_getElem? (i := 137) rfl))
theorem kl_L_213 : Cond.classLink "SymbolLinker" 213 "java/lang/IllegalStateException" ∈ lw_tbl := (in_t_3 (List.mem_of_getElem? (i := 207) rfl))
theorem kx_JIllegalStateException_JIllegalStateException : Cond.castable "java/lang/IllegalStateException" "java/lang/IllegalStateException" ∈ lw_tbl := (in_t_3 (List.mem_of_getElem? (i := 209) rfl))
theorem kc_Image_48 : Cond.constant "SymbolLinker$Image" 48 (262144) ∈ lw_tbl := (in_t_4 (List.mem_of_getElem? (i := 42) rfl))
theorem kx_J_J_JCloneable : Cond.castable "[J" "java/lang/Cloneable" ∈ lw_tbl := (in_t_4 (List.mem_of_getElem? (i := 62) rfl))
theorem kl_JArrays_320 : Cond.classLink "java/util/Arrays" 320 "[J" ∈ lw_tbl := (in_t_4 (List.mem_of_getElem? (i := 63) rfl))
theorem kx_J_I_JCloneable : Cond.castable "[I" "java/lang/Cloneable" ∈ lw_tbl := (in_t_4 (List.mem_of_getElem? (i := 70) rfl))
theorem kl_JArrays_317 : Cond.classLink "java/util/Arrays" 317 "[I" ∈ lw_tbl := (in_t_4 (List.mem_of_getElem? (i := 71) rfl))
theorem kc_Image_86 : Cond.constant "SymbolLinker$Image" 86 (4194304) ∈ lw_tbl := (in_t_4 (List.mem_of_getElem? (i := 76) rfl))
theorem kl_W_19 : Cond.classLink "SymbolLinkerLaw" 19 "java/util/NoSuchElementException" ∈ lw_tbl := (in_t_4 (List.mem_of_getElem? (i := 80) rfl))
theorem kl_L_244 : Cond.classLink "SymbolLinker" 244 "java/util/NoSuchElementException" ∈ lw_tbl := (in_t_4 (List.mem_of_getElem? (i := 89) rfl))
theorem kx_JNoSuchElementException_JNoSuchElementException : Cond.castable "java/util/NoSuchElementException" "java/util/NoSuchElementException" ∈ lw_tbl := (in_t_4 (List.mem_of_getElem? (i := 91) rfl))
theorem kl_W_22 : Cond.classLink "SymbolLinkerLaw" 22 "SymbolLinkerModel" ∈ lw_tbl := (in_t_4 (List.mem_of_getElem? (i := 105) rfl))
theorem kc_M_32 : Cond.constant "SymbolLinkerModel" 32 (262144) ∈ lw_tbl := (in_t_4 (List.mem_of_getElem? (i := 111) rfl))
theorem ka_boolean : Cond.arrayClass .boolean ∈ lw_tbl := (in_t_5 (List.mem_of_getElem? (i := 20) rfl))
theorem kc_M_144 : Cond.constant "SymbolLinkerModel" 144 (65536) ∈ lw_tbl := (in_t_5 (List.mem_of_getElem? (i := 36) rfl))
theorem kc_M_145 : Cond.constant "SymbolLinkerModel" 145 (65535) ∈ lw_tbl := (in_t_5 (List.mem_of_getElem? (i := 60) rfl))
theorem kc_M_205 : Cond.constantLong "SymbolLinkerModel" 205 (495873782388) ∈ lw_tbl := (in_t_5 (List.mem_of_getElem? (i := 96) rfl))
theorem kc_M_194 : Cond.constant "SymbolLinkerModel" 194 (4194304) ∈ lw_tbl := (in_t_5 (List.mem_of_getElem? (i := 121) rfl))
theorem kc_W_34 : Cond.constantLong "SymbolLinkerLaw" 34 (4294967295) ∈ lw_tbl := (in_t_5 (List.mem_of_getElem? (i := 162) rfl))
theorem kx_Unit_Unit : Cond.castable "SymbolLinker$Unit" "SymbolLinker$Unit" ∈ lw_tbl := (in_t_5 (List.mem_of_getElem? (i := 164) rfl))
theorem kx_Name_Name : Cond.castable "SymbolLinker$Name" "SymbolLinker$Name" ∈ lw_tbl := (in_t_5 (List.mem_of_getElem? (i := 165) rfl))
theorem kx_Symbol_Symbol : Cond.castable "SymbolLinker$Symbol" "SymbolLinker$Symbol" ∈ lw_tbl := (in_t_5 (List.mem_of_getElem? (i := 166) rfl))
theorem kx_Wait_Wait : Cond.castable "SymbolLinker$Wait" "SymbolLinker$Wait" ∈ lw_tbl := (in_t_5 (List.mem_of_getElem? (i := 167) rfl))
theorem kx_Start_Start : Cond.castable "SymbolLinker$Start" "SymbolLinker$Start" ∈ lw_tbl := (in_t_5 (List.mem_of_getElem? (i := 168) rfl))
theorem kx_L_JObject : Cond.castable "SymbolLinker" "java/lang/Object" ∈ lw_tbl := (in_t_5 (List.mem_of_getElem? (i := 172) rfl))
theorem kx_Fault_JObject : Cond.castable "SymbolLinker$Fault" "java/lang/Object" ∈ lw_tbl := (in_t_5 (List.mem_of_getElem? (i := 173) rfl))
theorem kx_Image_JObject : Cond.castable "SymbolLinker$Image" "java/lang/Object" ∈ lw_tbl := (in_t_5 (List.mem_of_getElem? (i := 174) rfl))
theorem kx_M_JObject : Cond.castable "SymbolLinkerModel" "java/lang/Object" ∈ lw_tbl := (in_t_5 (List.mem_of_getElem? (i := 175) rfl))
theorem kx_Unit_JObject : Cond.castable "SymbolLinker$Unit" "java/lang/Object" ∈ lw_tbl := (in_t_5 (List.mem_of_getElem? (i := 176) rfl))
theorem kx_Section_JObject : Cond.castable "SymbolLinker$Section" "java/lang/Object" ∈ lw_tbl := (in_t_5 (List.mem_of_getElem? (i := 177) rfl))
theorem kx_Name_JObject : Cond.castable "SymbolLinker$Name" "java/lang/Object" ∈ lw_tbl := (in_t_5 (List.mem_of_getElem? (i := 178) rfl))
theorem kx_Symbol_JObject : Cond.castable "SymbolLinker$Symbol" "java/lang/Object" ∈ lw_tbl := (in_t_5 (List.mem_of_getElem? (i := 179) rfl))
theorem kx_Wait_JObject : Cond.castable "SymbolLinker$Wait" "java/lang/Object" ∈ lw_tbl := (in_t_5 (List.mem_of_getElem? (i := 180) rfl))
theorem kx_Start_JObject : Cond.castable "SymbolLinker$Start" "java/lang/Object" ∈ lw_tbl := (in_t_5 (List.mem_of_getElem? (i := 181) rfl))
theorem kx_JString_JObject : Cond.castable "java/lang/String" "java/lang/Object" ∈ lw_tbl := (in_t_5 (List.mem_of_getElem? (i := 182) rfl))
end
section
theorem oi_2 : Cond.instanceMethod Lib.objectInit ∈ lw_tbl := (in_t_1 (List.mem_of_getElem? (i := 31) rfl))
theorem oi_3 : Cond.code Lib.objectInit ⟨#[0xb1]⟩ 1 none ∈ lw_tbl := (in_t_1 (List.mem_of_getElem? (i := 32) rfl))
theorem m_L_init : ax_MI Y_L_init 0 := ⟨⟨(in_t_1 (List.mem_of_getElem? (i := 1) rfl)), (in_t_1 (List.mem_of_getElem? (i := 29) rfl)), ⟨by decide, by decide⟩, by decide +kernel⟩, (in_t_1 (List.mem_of_getElem? (i := 28) rfl)), rfl, rfl⟩
theorem m_JArrayList_init : ax_MI Y_JArrayList_init 0 := ⟨⟨(in_t_1 (List.mem_of_getElem? (i := 4) rfl)), (in_t_1 (List.mem_of_getElem? (i := 37) rfl)), ⟨by decide, by decide⟩, by decide +kernel⟩, (in_t_1 (List.mem_of_getElem? (i := 36) rfl)), rfl, rfl⟩
theorem m_JAbstractList_init : ax_MI Y_JAbstractList_init 0 := ⟨⟨(in_t_1 (List.mem_of_getElem? (i := 3) rfl)), (in_t_1 (List.mem_of_getElem? (i := 40) rfl)), ⟨by decide, by decide⟩, by decide +kernel⟩, (in_t_1 (List.mem_of_getElem? (i := 39) rfl)), rfl, rfl⟩
theorem m_JAbstractCollection_init : ax_MI Y_JAbstractCollection_init 0 := ⟨⟨(in_t_1 (List.mem_of_getElem? (i := 2) rfl)), (in_t_1 (List.mem_of_getElem? (i := 43) rfl)), ⟨by decide, by decide⟩, by decide +kernel⟩, (in_t_1 (List.mem_of_getElem? (i := 42) rfl)), rfl, rfl⟩
theorem m_Fault_init : ax_MI Y_Fault_init 0 := ⟨⟨(in_t_1 (List.mem_of_getElem? (i := 5) rfl)), (in_t_1 (List.mem_of_getElem? (i := 63) rfl)), ⟨by decide, by decide⟩, by decide +kernel⟩, (in_t_1 (List.mem_of_getElem? (i := 62) rfl)), rfl, rfl⟩
theorem m_Image_init : ax_MI Y_Image_init 0 := ⟨⟨(in_t_1 (List.mem_of_getElem? (i := 6) rfl)), (in_t_1 (List.mem_of_getElem? (i := 82) rfl)), ⟨by decide, by decide⟩, by decide +kernel⟩, (in_t_1 (List.mem_of_getElem? (i := 81) rfl)), rfl, rfl⟩
theorem m_L_clear : ax_MV Y_L_clear 0 := ⟨⟨(in_t_1 (List.mem_of_getElem? (i := 1) rfl)), (in_t_1 (List.mem_of_getElem? (i := 159) rfl)), ⟨by decide, by decide⟩, by decide +kernel⟩, (in_t_1 (List.mem_of_getElem? (i := 157) rfl)), (in_t_1 (List.mem_of_getElem? (i := 158) rfl))⟩
theorem m_JArrayList_clear : ax_MV Y_JArrayList_clear 0 := ⟨⟨(in_t_1 (List.mem_of_getElem? (i := 4) rfl)), (in_t_1 (List.mem_of_getElem? (i := 163) rfl)), ⟨by decide, by decide⟩, by decide +kernel⟩, (in_t_1 (List.mem_of_getElem? (i := 161) rfl)), (in_t_1 (List.mem_of_getElem? (i := 162) rfl))⟩
theorem m_L_unit : ax_MV Y_L_unit 5 := ⟨⟨(in_t_1 (List.mem_of_getElem? (i := 1) rfl)), (in_t_1 (List.mem_of_getElem? (i := 167) rfl)), ⟨by decide, by decide⟩, by decide +kernel⟩, (in_t_1 (List.mem_of_getElem? (i := 165) rfl)), (in_t_1 (List.mem_of_getElem? (i := 166) rfl))⟩
theorem m_L_isSectionSize : ax_MS Y_L_isSectionSize 1 := ⟨⟨(in_t_1 (List.mem_of_getElem? (i := 1) rfl)), (in_t_1 (List.mem_of_getElem? (i := 170) rfl)), ⟨by decide, by decide⟩, by decide +kernel⟩, (in_t_1 (List.mem_of_getElem? (i := 169) rfl))⟩
theorem m_JArrayList_size : ax_MV Y_JArrayList_size 0 := ⟨⟨(in_t_1 (List.mem_of_getElem? (i := 4) rfl)), (in_t_1 (List.mem_of_getElem? (i := 176) rfl)), ⟨by decide, by decide⟩, by decide +kernel⟩, (in_t_1 (List.mem_of_getElem? (i := 174) rfl)), (in_t_1 (List.mem_of_getElem? (i := 175) rfl))⟩
theorem m_Unit_init : ax_MI Y_Unit_init 2 := ⟨⟨(in_t_1 (List.mem_of_getElem? (i := 8) rfl)), (in_t_1 (List.mem_of_getElem? (i := 181) rfl)), ⟨by decide, by decide⟩, by decide +kernel⟩, (in_t_1 (List.mem_of_getElem? (i := 180) rfl)), rfl, rfl⟩
theorem m_L_addSection : ax_MV Y_L_addSection 3 := ⟨⟨(in_t_1 (List.mem_of_getElem? (i := 1) rfl)), (in_t_1 (List.mem_of_getElem? (i := 213) rfl)), ⟨by decide, by decide⟩, by decide +kernel⟩, (in_t_1 (List.mem_of_getElem? (i := 212) rfl)), (List.mem_of_getElem? (i := 0) rfl)⟩
theorem m_L_grownLength : ax_MS Y_L_grownLength 3 := ⟨⟨(in_t_1 (List.mem_of_getElem? (i := 1) rfl)), (in_t_1 (List.mem_of_getElem? (i := 216) rfl)), ⟨by decide, by decide⟩, by decide +kernel⟩, (in_t_1 (List.mem_of_getElem? (i := 215) rfl))⟩
theorem m_JMath_max : ax_MS Y_JMath_max 2 := ⟨⟨(in_t_1 (List.mem_of_getElem? (i := 9) rfl)), (in_t_1 (List.mem_of_getElem? (i := 219) rfl)), ⟨by decide, by decide⟩, by decide +kernel⟩, (in_t_1 (List.mem_of_getElem? (i := 218) rfl))⟩
theorem m_JMath_min : ax_MS Y_JMath_min 2 := ⟨⟨(in_t_1 (List.mem_of_getElem? (i := 9) rfl)), (in_t_1 (List.mem_of_getElem? (i := 222) rfl)), ⟨by decide, by decide⟩, by decide +kernel⟩, (in_t_1 (List.mem_of_getElem? (i := 221) rfl))⟩
theorem m_JArrays_copyOf_0 : ax_MS Y_JArrays_copyOf_0 2 := ⟨⟨(in_t_1 (List.mem_of_getElem? (i := 10) rfl)), (in_t_1 (List.mem_of_getElem? (i := 225) rfl)), ⟨by decide, by decide⟩, by decide +kernel⟩, (in_t_1 (List.mem_of_getElem? (i := 224) rfl))⟩
theorem m_JArrays_fill : ax_MS Y_JArrays_fill 4 := ⟨⟨(in_t_1 (List.mem_of_getElem? (i := 10) rfl)), (in_t_1 (List.mem_of_getElem? (i := 239) rfl)), ⟨by decide, by decide⟩, by decide +kernel⟩, (in_t_1 (List.mem_of_getElem? (i := 238) rfl))⟩
theorem m_JArrays_rangeCheck : ax_MS Y_JArrays_rangeCheck 3 := ⟨⟨(in_t_1 (List.mem_of_getElem? (i := 10) rfl)), (in_t_2 (List.mem_of_getElem? (i := 2) rfl)), ⟨by decide, by decide⟩, by decide +kernel⟩, (in_t_2 (List.mem_of_getElem? (i := 1) rfl))⟩
theorem m_Section_init : ax_MI Y_Section_init 3 := ⟨⟨(in_t_1 (List.mem_of_getElem? (i := 12) rfl)), (in_t_2 (List.mem_of_getElem? (i := 7) rfl)), ⟨by decide, by decide⟩, by decide +kernel⟩, (in_t_2 (List.mem_of_getElem? (i := 6) rfl)), rfl, rfl⟩
theorem m_JArrayList_add_0 : ax_MV Y_JArrayList_add_0 1 := ⟨⟨(in_t_1 (List.mem_of_getElem? (i := 4) rfl)), (in_t_2 (List.mem_of_getElem? (i := 44) rfl)), ⟨by decide, by decide⟩, by decide +kernel⟩, (in_t_2 (List.mem_of_getElem? (i := 42) rfl)), (in_t_2 (List.mem_of_getElem? (i := 43) rfl))⟩
theorem m_JArrayList_add_1 : ax_MV Y_JArrayList_add_1 3 := ⟨⟨(in_t_1 (List.mem_of_getElem? (i := 4) rfl)), (in_t_2 (List.mem_of_getElem? (i := 48) rfl)), ⟨by decide, by decide⟩, by decide +kernel⟩, (in_t_2 (List.mem_of_getElem? (i := 47) rfl)), (List.mem_of_getElem? (i := 1) rfl)⟩
theorem m_JArrayList_grow_0 : ax_MV Y_JArrayList_grow_0 0 := ⟨⟨(in_t_1 (List.mem_of_getElem? (i := 4) rfl)), (in_t_2 (List.mem_of_getElem? (i := 52) rfl)), ⟨by decide, by decide⟩, by decide +kernel⟩, (in_t_2 (List.mem_of_getElem? (i := 51) rfl)), (List.mem_of_getElem? (i := 2) rfl)⟩
theorem m_JArrayList_grow_1 : ax_MV Y_JArrayList_grow_1 1 := ⟨⟨(in_t_1 (List.mem_of_getElem? (i := 4) rfl)), (in_t_2 (List.mem_of_getElem? (i := 56) rfl)), ⟨by decide, by decide⟩, by decide +kernel⟩, (in_t_2 (List.mem_of_getElem? (i := 55) rfl)), (List.mem_of_getElem? (i := 3) rfl)⟩
theorem m_JArraysSupport_newLength : ax_MS Y_JArraysSupport_newLength 3 := ⟨⟨(in_t_1 (List.mem_of_getElem? (i := 13) rfl)), (in_t_2 (List.mem_of_getElem? (i := 59) rfl)), ⟨by decide, by decide⟩, by decide +kernel⟩, (in_t_2 (List.mem_of_getElem? (i := 58) rfl))⟩
theorem m_JArraysSupport_hugeLength : ax_MS Y_JArraysSupport_hugeLength 2 := ⟨⟨(in_t_1 (List.mem_of_getElem? (i := 13) rfl)), (in_t_2 (List.mem_of_getElem? (i := 64) rfl)), ⟨by decide, by decide⟩, by decide +kernel⟩, (in_t_2 (List.mem_of_getElem? (i := 63) rfl))⟩
theorem m_JArrays_copyOf_1 : ax_MS Y_JArrays_copyOf_1 2 := ⟨⟨(in_t_1 (List.mem_of_getElem? (i := 10) rfl)), (in_t_2 (List.mem_of_getElem? (i := 67) rfl)), ⟨by decide, by decide⟩, by decide +kernel⟩, (in_t_2 (List.mem_of_getElem? (i := 66) rfl))⟩
theorem m_JArrays_copyOf_2 : ax_MS Y_JArrays_copyOf_2 3 := ⟨⟨(in_t_1 (List.mem_of_getElem? (i := 10) rfl)), (in_t_2 (List.mem_of_getElem? (i := 87) rfl)), ⟨by decide, by decide⟩, by decide +kernel⟩, (in_t_2 (List.mem_of_getElem? (i := 86) rfl))⟩
theorem m_L_put : ax_MV Y_L_put 4 := ⟨⟨(in_t_1 (List.mem_of_getElem? (i := 1) rfl)), (in_t_2 (List.mem_of_getElem? (i := 96) rfl)), ⟨by decide, by decide⟩, by decide +kernel⟩, (in_t_2 (List.mem_of_getElem? (i := 94) rfl)), (in_t_2 (List.mem_of_getElem? (i := 95) rfl))⟩
theorem m_L_latestSection : ax_MV Y_L_latestSection 1 := ⟨⟨(in_t_1 (List.mem_of_getElem? (i := 1) rfl)), (in_t_2 (List.mem_of_getElem? (i := 100) rfl)), ⟨by decide, by decide⟩, by decide +kernel⟩, (in_t_2 (List.mem_of_getElem? (i := 99) rfl)), (List.mem_of_getElem? (i := 4) rfl)⟩
theorem m_L_latestUnit : ax_MV Y_L_latestUnit 0 := ⟨⟨(in_t_1 (List.mem_of_getElem? (i := 1) rfl)), (in_t_2 (List.mem_of_getElem? (i := 104) rfl)), ⟨by decide, by decide⟩, by decide +kernel⟩, (in_t_2 (List.mem_of_getElem? (i := 103) rfl)), (List.mem_of_getElem? (i := 5) rfl)⟩
theorem m_JArrayList_isEmpty : ax_MV Y_JArrayList_isEmpty 0 := ⟨⟨(in_t_1 (List.mem_of_getElem? (i := 4) rfl)), (in_t_2 (List.mem_of_getElem? (i := 108) rfl)), ⟨by decide, by decide⟩, by decide +kernel⟩, (in_t_2 (List.mem_of_getElem? (i := 106) rfl)), (in_t_2 (List.mem_of_getElem? (i := 107) rfl))⟩
theorem m_JArrayList_get : ax_MV Y_JArrayList_get 1 := ⟨⟨(in_t_1 (List.mem_of_getElem? (i := 4) rfl)), (in_t_2 (List.mem_of_getElem? (i := 112) rfl)), ⟨by decide, by decide⟩, by decide +kernel⟩, (in_t_2 (List.mem_of_getElem? (i := 110) rfl)), (in_t_2 (List.mem_of_getElem? (i := 111) rfl))⟩
theorem m_JObjects_checkIndex : ax_MS Y_JObjects_checkIndex 2 := ⟨⟨(in_t_1 (List.mem_of_getElem? (i := 14) rfl)), (in_t_2 (List.mem_of_getElem? (i := 115) rfl)), ⟨by decide, by decide⟩, by decide +kernel⟩, (in_t_2 (List.mem_of_getElem? (i := 114) rfl))⟩
theorem m_JPreconditions_checkIndex : ax_MS Y_JPreconditions_checkIndex 3 := ⟨⟨(in_t_1 (List.mem_of_getElem? (i := 15) rfl)), (in_t_2 (List.mem_of_getElem? (i := 118) rfl)), ⟨by decide, by decide⟩, by decide +kernel⟩, (in_t_2 (List.mem_of_getElem? (i := 117) rfl))⟩
theorem m_JArrayList_elementData : ax_MV Y_JArrayList_elementData 1 := ⟨⟨(in_t_1 (List.mem_of_getElem? (i := 4) rfl)), (in_t_2 (List.mem_of_getElem? (i := 122) rfl)), ⟨by decide, by decide⟩, by decide +kernel⟩, (in_t_2 (List.mem_of_getElem? (i := 120) rfl)), (in_t_2 (List.mem_of_getElem? (i := 121) rfl))⟩
theorem m_Unit_sectionOfKind : ax_MV Y_Unit_sectionOfKind 1 := ⟨⟨(in_t_1 (List.mem_of_getElem? (i := 8) rfl)), (in_t_2 (List.mem_of_getElem? (i := 126) rfl)), ⟨by decide, by decide⟩, by decide +kernel⟩, (in_t_2 (List.mem_of_getElem? (i := 124) rfl)), (in_t_2 (List.mem_of_getElem? (i := 125) rfl))⟩
theorem m_Section_holds : ax_MV Y_Section_holds 2 := ⟨⟨(in_t_1 (List.mem_of_getElem? (i := 12) rfl)), (in_t_2 (List.mem_of_getElem? (i := 130) rfl)), ⟨by decide, by decide⟩, by decide +kernel⟩, (in_t_2 (List.mem_of_getElem? (i := 128) rfl)), (in_t_2 (List.mem_of_getElem? (i := 129) rfl))⟩
theorem m_L_storeLowestFirst : ax_MS Y_L_storeLowestFirst 4 := ⟨⟨(in_t_1 (List.mem_of_getElem? (i := 1) rfl)), (in_t_2 (List.mem_of_getElem? (i := 133) rfl)), ⟨by decide, by decide⟩, by decide +kernel⟩, (in_t_2 (List.mem_of_getElem? (i := 132) rfl))⟩
theorem m_L_keep : ax_MV Y_L_keep 1 := ⟨⟨(in_t_1 (List.mem_of_getElem? (i := 1) rfl)), (in_t_2 (List.mem_of_getElem? (i := 137) rfl)), ⟨by decide, by decide⟩, by decide +kernel⟩, (in_t_2 (List.mem_of_getElem? (i := 135) rfl)), (in_t_2 (List.mem_of_getElem? (i := 136) rfl))⟩
theorem m_L_symbol : ax_MV Y_L_symbol 6 := ⟨⟨(in_t_1 (List.mem_of_getElem? (i := 1) rfl)), (in_t_2 (List.mem_of_getElem? (i := 141) rfl)), ⟨by decide, by decide⟩, by decide +kernel⟩, (in_t_2 (List.mem_of_getElem? (i := 139) rfl)), (in_t_2 (List.mem_of_getElem? (i := 140) rfl))⟩
theorem m_L_isNameLength : ax_MS Y_L_isNameLength 1 := ⟨⟨(in_t_1 (List.mem_of_getElem? (i := 1) rfl)), (in_t_2 (List.mem_of_getElem? (i := 144) rfl)), ⟨by decide, by decide⟩, by decide +kernel⟩, (in_t_2 (List.mem_of_getElem? (i := 143) rfl))⟩
theorem m_L_isLine : ax_MS Y_L_isLine 1 := ⟨⟨(in_t_1 (List.mem_of_getElem? (i := 1) rfl)), (in_t_2 (List.mem_of_getElem? (i := 147) rfl)), ⟨by decide, by decide⟩, by decide +kernel⟩, (in_t_2 (List.mem_of_getElem? (i := 146) rfl))⟩
theorem m_Section_hasPlace : ax_MV Y_Section_hasPlace 1 := ⟨⟨(in_t_1 (List.mem_of_getElem? (i := 12) rfl)), (in_t_2 (List.mem_of_getElem? (i := 152) rfl)), ⟨by decide, by decide⟩, by decide +kernel⟩, (in_t_2 (List.mem_of_getElem? (i := 150) rfl)), (in_t_2 (List.mem_of_getElem? (i := 151) rfl))⟩
theorem m_L_findName : ax_MV Y_L_findName 2 := ⟨⟨(in_t_1 (List.mem_of_getElem? (i := 1) rfl)), (in_t_2 (List.mem_of_getElem? (i := 157) rfl)), ⟨by decide, by decide⟩, by decide +kernel⟩, (in_t_2 (List.mem_of_getElem? (i := 156) rfl)), (List.mem_of_getElem? (i := 6) rfl)⟩
theorem m_L_nameWord : ax_MS Y_L_nameWord 2 := ⟨⟨(in_t_1 (List.mem_of_getElem? (i := 1) rfl)), (in_t_2 (List.mem_of_getElem? (i := 160) rfl)), ⟨by decide, by decide⟩, by decide +kernel⟩, (in_t_2 (List.mem_of_getElem? (i := 159) rfl))⟩
theorem m_Unit_hasSymbol : ax_MV Y_Unit_hasSymbol 1 := ⟨⟨(in_t_1 (List.mem_of_getElem? (i := 8) rfl)), (in_t_2 (List.mem_of_getElem? (i := 165) rfl)), ⟨by decide, by decide⟩, by decide +kernel⟩, (in_t_2 (List.mem_of_getElem? (i := 163) rfl)), (in_t_2 (List.mem_of_getElem? (i := 164) rfl))⟩
theorem m_Name_init : ax_MI Y_Name_init 2 := ⟨⟨(in_t_1 (List.mem_of_getElem? (i := 16) rfl)), (in_t_2 (List.mem_of_getElem? (i := 172) rfl)), ⟨by decide, by decide⟩, by decide +kernel⟩, (in_t_2 (List.mem_of_getElem? (i := 171) rfl)), rfl, rfl⟩
theorem m_Symbol_init : ax_MI Y_Symbol_init 5 := ⟨⟨(in_t_1 (List.mem_of_getElem? (i := 17) rfl)), (in_t_2 (List.mem_of_getElem? (i := 205) rfl)), ⟨by decide, by decide⟩, by decide +kernel⟩, (in_t_2 (List.mem_of_getElem? (i := 204) rfl)), rfl, rfl⟩
theorem m_L_await : ax_MV Y_L_await 7 := ⟨⟨(in_t_1 (List.mem_of_getElem? (i := 1) rfl)), (in_t_2 (List.mem_of_getElem? (i := 234) rfl)), ⟨by decide, by decide⟩, by decide +kernel⟩, (in_t_2 (List.mem_of_getElem? (i := 232) rfl)), (in_t_2 (List.mem_of_getElem? (i := 233) rfl))⟩
theorem m_Unit_symbolNumbered : ax_MV Y_Unit_symbolNumbered 1 := ⟨⟨(in_t_1 (List.mem_of_getElem? (i := 8) rfl)), (in_t_2 (List.mem_of_getElem? (i := 238) rfl)), ⟨by decide, by decide⟩, by decide +kernel⟩, (in_t_2 (List.mem_of_getElem? (i := 236) rfl)), (in_t_2 (List.mem_of_getElem? (i := 237) rfl))⟩
theorem m_Wait_init : ax_MI Y_Wait_init 5 := ⟨⟨(in_t_1 (List.mem_of_getElem? (i := 18) rfl)), (in_t_3 (List.mem_of_getElem? (i := 3) rfl)), ⟨by decide, by decide⟩, by decide +kernel⟩, (in_t_3 (List.mem_of_getElem? (i := 2) rfl)), rfl, rfl⟩
theorem m_L_start : ax_MV Y_L_start 2 := ⟨⟨(in_t_1 (List.mem_of_getElem? (i := 1) rfl)), (in_t_3 (List.mem_of_getElem? (i := 40) rfl)), ⟨by decide, by decide⟩, by decide +kernel⟩, (in_t_3 (List.mem_of_getElem? (i := 38) rfl)), (in_t_3 (List.mem_of_getElem? (i := 39) rfl))⟩
theorem m_Start_init : ax_MI Y_Start_init 3 := ⟨⟨(in_t_1 (List.mem_of_getElem? (i := 19) rfl)), (in_t_3 (List.mem_of_getElem? (i := 45) rfl)), ⟨by decide, by decide⟩, by decide +kernel⟩, (in_t_3 (List.mem_of_getElem? (i := 44) rfl)), rfl, rfl⟩
theorem m_L_fault : ax_MV Y_L_fault 1 := ⟨⟨(in_t_1 (List.mem_of_getElem? (i := 1) rfl)), (in_t_3 (List.mem_of_getElem? (i := 64) rfl)), ⟨by decide, by decide⟩, by decide +kernel⟩, (in_t_3 (List.mem_of_getElem? (i := 62) rfl)), (in_t_3 (List.mem_of_getElem? (i := 63) rfl))⟩
theorem m_L_needed : ax_MV Y_L_needed 2 := ⟨⟨(in_t_1 (List.mem_of_getElem? (i := 1) rfl)), (in_t_3 (List.mem_of_getElem? (i := 68) rfl)), ⟨by decide, by decide⟩, by decide +kernel⟩, (in_t_3 (List.mem_of_getElem? (i := 66) rfl)), (in_t_3 (List.mem_of_getElem? (i := 67) rfl))⟩
theorem m_L_octet : ax_MV Y_L_octet 1 := ⟨⟨(in_t_1 (List.mem_of_getElem? (i := 1) rfl)), (in_t_3 (List.mem_of_getElem? (i := 72) rfl)), ⟨by decide, by decide⟩, by decide +kernel⟩, (in_t_3 (List.mem_of_getElem? (i := 70) rfl)), (in_t_3 (List.mem_of_getElem? (i := 71) rfl))⟩
theorem m_L_line : ax_MV Y_L_line 1 := ⟨⟨(in_t_1 (List.mem_of_getElem? (i := 1) rfl)), (in_t_3 (List.mem_of_getElem? (i := 76) rfl)), ⟨by decide, by decide⟩, by decide +kernel⟩, (in_t_3 (List.mem_of_getElem? (i := 74) rfl)), (in_t_3 (List.mem_of_getElem? (i := 75) rfl))⟩
theorem m_L_part : ax_MV Y_L_part 1 := ⟨⟨(in_t_1 (List.mem_of_getElem? (i := 1) rfl)), (in_t_3 (List.mem_of_getElem? (i := 80) rfl)), ⟨by decide, by decide⟩, by decide +kernel⟩, (in_t_3 (List.mem_of_getElem? (i := 78) rfl)), (in_t_3 (List.mem_of_getElem? (i := 79) rfl))⟩
theorem m_L_link : ax_MV Y_L_link 0 := ⟨⟨(in_t_1 (List.mem_of_getElem? (i := 1) rfl)), (in_t_3 (List.mem_of_getElem? (i := 88) rfl)), ⟨by decide, by decide⟩, by decide +kernel⟩, (in_t_3 (List.mem_of_getElem? (i := 86) rfl)), (in_t_3 (List.mem_of_getElem? (i := 87) rfl))⟩
theorem m_Fault_tell : ax_MV Y_Fault_tell 3 := ⟨⟨(in_t_1 (List.mem_of_getElem? (i := 5) rfl)), (in_t_3 (List.mem_of_getElem? (i := 92) rfl)), ⟨by decide, by decide⟩, by decide +kernel⟩, (in_t_3 (List.mem_of_getElem? (i := 90) rfl)), (in_t_3 (List.mem_of_getElem? (i := 91) rfl))⟩
theorem m_L_takeUnits : ax_MV Y_L_takeUnits 0 := ⟨⟨(in_t_1 (List.mem_of_getElem? (i := 1) rfl)), (in_t_3 (List.mem_of_getElem? (i := 96) rfl)), ⟨by decide, by decide⟩, by decide +kernel⟩, (in_t_3 (List.mem_of_getElem? (i := 95) rfl)), (List.mem_of_getElem? (i := 7) rfl)⟩
theorem m_Name_forget : ax_MV Y_Name_forget 0 := ⟨⟨(in_t_1 (List.mem_of_getElem? (i := 16) rfl)), (in_t_3 (List.mem_of_getElem? (i := 100) rfl)), ⟨by decide, by decide⟩, by decide +kernel⟩, (in_t_3 (List.mem_of_getElem? (i := 98) rfl)), (in_t_3 (List.mem_of_getElem? (i := 99) rfl))⟩
theorem m_Unit_take : ax_MV Y_Unit_take 0 := ⟨⟨(in_t_1 (List.mem_of_getElem? (i := 8) rfl)), (in_t_3 (List.mem_of_getElem? (i := 104) rfl)), ⟨by decide, by decide⟩, by decide +kernel⟩, (in_t_3 (List.mem_of_getElem? (i := 102) rfl)), (in_t_3 (List.mem_of_getElem? (i := 103) rfl))⟩
theorem m_Symbol_isSharedLabel : ax_MV Y_Symbol_isSharedLabel 0 := ⟨⟨(in_t_1 (List.mem_of_getElem? (i := 17) rfl)), (in_t_3 (List.mem_of_getElem? (i := 108) rfl)), ⟨by decide, by decide⟩, by decide +kernel⟩, (in_t_3 (List.mem_of_getElem? (i := 106) rfl)), (in_t_3 (List.mem_of_getElem? (i := 107) rfl))⟩
theorem m_Symbol_isMissed : ax_MV Y_Symbol_isMissed 0 := ⟨⟨(in_t_1 (List.mem_of_getElem? (i := 17) rfl)), (in_t_3 (List.mem_of_getElem? (i := 112) rfl)), ⟨by decide, by decide⟩, by decide +kernel⟩, (in_t_3 (List.mem_of_getElem? (i := 110) rfl)), (in_t_3 (List.mem_of_getElem? (i := 111) rfl))⟩
theorem m_L_firstWantedUnit : ax_MV Y_L_firstWantedUnit 0 := ⟨⟨(in_t_1 (List.mem_of_getElem? (i := 1) rfl)), (in_t_3 (List.mem_of_getElem? (i := 116) rfl)), ⟨by decide, by decide⟩, by decide +kernel⟩, (in_t_3 (List.mem_of_getElem? (i := 115) rfl)), (List.mem_of_getElem? (i := 8) rfl)⟩
theorem m_Unit_isWanted : ax_MV Y_Unit_isWanted 0 := ⟨⟨(in_t_1 (List.mem_of_getElem? (i := 8) rfl)), (in_t_3 (List.mem_of_getElem? (i := 120) rfl)), ⟨by decide, by decide⟩, by decide +kernel⟩, (in_t_3 (List.mem_of_getElem? (i := 118) rfl)), (in_t_3 (List.mem_of_getElem? (i := 119) rfl))⟩
theorem m_L_bindNames : ax_MV Y_L_bindNames 0 := ⟨⟨(in_t_1 (List.mem_of_getElem? (i := 1) rfl)), (in_t_3 (List.mem_of_getElem? (i := 124) rfl)), ⟨by decide, by decide⟩, by decide +kernel⟩, (in_t_3 (List.mem_of_getElem? (i := 123) rfl)), (List.mem_of_getElem? (i := 9) rfl)⟩
theorem m_Unit_bindLabels : ax_MV Y_Unit_bindLabels 0 := ⟨⟨(in_t_1 (List.mem_of_getElem? (i := 8) rfl)), (in_t_3 (List.mem_of_getElem? (i := 128) rfl)), ⟨by decide, by decide⟩, by decide +kernel⟩, (in_t_3 (List.mem_of_getElem? (i := 126) rfl)), (in_t_3 (List.mem_of_getElem? (i := 127) rfl))⟩
theorem m_Name_bind : ax_MV Y_Name_bind 1 := ⟨⟨(in_t_1 (List.mem_of_getElem? (i := 16) rfl)), (in_t_3 (List.mem_of_getElem? (i := 132) rfl)), ⟨by decide, by decide⟩, by decide +kernel⟩, (in_t_3 (List.mem_of_getElem? (i := 130) rfl)), (in_t_3 (List.mem_of_getElem? (i := 131) rfl))⟩
theorem m_L_entryLabel : ax_MV Y_L_entryLabel 0 := ⟨⟨(in_t_1 (List.mem_of_getElem? (i := 1) rfl)), (in_t_3 (List.mem_of_getElem? (i := 136) rfl)), ⟨by decide, by decide⟩, by decide +kernel⟩, (in_t_3 (List.mem_of_getElem? (i := 135) rfl)), (List.mem_of_getElem? (i := 10) rfl)⟩
theorem m_L_findTwoGlobals : ax_MV Y_L_findTwoGlobals 0 := ⟨⟨(in_t_1 (List.mem_of_getElem? (i := 1) rfl)), (in_t_3 (List.mem_of_getElem? (i := 141) rfl)), ⟨by decide, by decide⟩, by decide +kernel⟩, (in_t_3 (List.mem_of_getElem? (i := 140) rfl)), (List.mem_of_getElem? (i := 11) rfl)⟩
theorem m_Unit_leastLineOfSecondGlobals : ax_MV Y_Unit_leastLineOfSecondGlobals 0 := ⟨⟨(in_t_1 (List.mem_of_getElem? (i := 8) rfl)), (in_t_3 (List.mem_of_getElem? (i := 145) rfl)), ⟨by decide, by decide⟩, by decide +kernel⟩, (in_t_3 (List.mem_of_getElem? (i := 143) rfl)), (in_t_3 (List.mem_of_getElem? (i := 144) rfl))⟩
theorem m_Symbol_isGlobalLabel : ax_MV Y_Symbol_isGlobalLabel 0 := ⟨⟨(in_t_1 (List.mem_of_getElem? (i := 17) rfl)), (in_t_3 (List.mem_of_getElem? (i := 149) rfl)), ⟨by decide, by decide⟩, by decide +kernel⟩, (in_t_3 (List.mem_of_getElem? (i := 147) rfl)), (in_t_3 (List.mem_of_getElem? (i := 148) rfl))⟩
theorem m_L_findNeeded : ax_MV Y_L_findNeeded 1 := ⟨⟨(in_t_1 (List.mem_of_getElem? (i := 1) rfl)), (in_t_3 (List.mem_of_getElem? (i := 153) rfl)), ⟨by decide, by decide⟩, by decide +kernel⟩, (in_t_3 (List.mem_of_getElem? (i := 152) rfl)), (List.mem_of_getElem? (i := 12) rfl)⟩
theorem m_Unit_needKeptAlone : ax_MV Y_Unit_needKeptAlone 0 := ⟨⟨(in_t_1 (List.mem_of_getElem? (i := 8) rfl)), (in_t_3 (List.mem_of_getElem? (i := 157) rfl)), ⟨by decide, by decide⟩, by decide +kernel⟩, (in_t_3 (List.mem_of_getElem? (i := 155) rfl)), (in_t_3 (List.mem_of_getElem? (i := 156) rfl))⟩
theorem m_L_needWhatNeededOnesAwait : ax_MV Y_L_needWhatNeededOnesAwait 0 := ⟨⟨(in_t_1 (List.mem_of_getElem? (i := 1) rfl)), (in_t_3 (List.mem_of_getElem? (i := 161) rfl)), ⟨by decide, by decide⟩, by decide +kernel⟩, (in_t_3 (List.mem_of_getElem? (i := 160) rfl)), (List.mem_of_getElem? (i := 13) rfl)⟩
theorem m_Wait_target : ax_MV Y_Wait_target 0 := ⟨⟨(in_t_1 (List.mem_of_getElem? (i := 18) rfl)), (in_t_3 (List.mem_of_getElem? (i := 165) rfl)), ⟨by decide, by decide⟩, by decide +kernel⟩, (in_t_3 (List.mem_of_getElem? (i := 163) rfl)), (in_t_3 (List.mem_of_getElem? (i := 164) rfl))⟩
theorem m_Symbol_standsFor : ax_MV Y_Symbol_standsFor 0 := ⟨⟨(in_t_1 (List.mem_of_getElem? (i := 17) rfl)), (in_t_3 (List.mem_of_getElem? (i := 169) rfl)), ⟨by decide, by decide⟩, by decide +kernel⟩, (in_t_3 (List.mem_of_getElem? (i := 167) rfl)), (in_t_3 (List.mem_of_getElem? (i := 168) rfl))⟩
theorem m_Name_meaning : ax_MV Y_Name_meaning 0 := ⟨⟨(in_t_1 (List.mem_of_getElem? (i := 16) rfl)), (in_t_3 (List.mem_of_getElem? (i := 173) rfl)), ⟨by decide, by decide⟩, by decide +kernel⟩, (in_t_3 (List.mem_of_getElem? (i := 171) rfl)), (in_t_3 (List.mem_of_getElem? (i := 172) rfl))⟩
theorem m_L_placeParts : ax_MV Y_L_placeParts 1 := ⟨⟨(in_t_1 (List.mem_of_getElem? (i := 1) rfl)), (in_t_3 (List.mem_of_getElem? (i := 177) rfl)), ⟨by decide, by decide⟩, by decide +kernel⟩, (in_t_3 (List.mem_of_getElem? (i := 176) rfl)), (List.mem_of_getElem? (i := 14) rfl)⟩
theorem m_L_placeSections : ax_MV Y_L_placeSections 2 := ⟨⟨(in_t_1 (List.mem_of_getElem? (i := 1) rfl)), (in_t_3 (List.mem_of_getElem? (i := 181) rfl)), ⟨by decide, by decide⟩, by decide +kernel⟩, (in_t_3 (List.mem_of_getElem? (i := 180) rfl)), (List.mem_of_getElem? (i := 15) rfl)⟩
theorem m_L_roundUp : ax_MS Y_L_roundUp 2 := ⟨⟨(in_t_1 (List.mem_of_getElem? (i := 1) rfl)), (in_t_3 (List.mem_of_getElem? (i := 184) rfl)), ⟨by decide, by decide⟩, by decide +kernel⟩, (in_t_3 (List.mem_of_getElem? (i := 183) rfl))⟩
theorem m_Symbol_placeInImage : ax_MV Y_Symbol_placeInImage 0 := ⟨⟨(in_t_1 (List.mem_of_getElem? (i := 17) rfl)), (in_t_3 (List.mem_of_getElem? (i := 188) rfl)), ⟨by decide, by decide⟩, by decide +kernel⟩, (in_t_3 (List.mem_of_getElem? (i := 186) rfl)), (in_t_3 (List.mem_of_getElem? (i := 187) rfl))⟩
theorem m_L_findWaitFault : ax_MV Y_L_findWaitFault 0 := ⟨⟨(in_t_1 (List.mem_of_getElem? (i := 1) rfl)), (in_t_3 (List.mem_of_getElem? (i := 192) rfl)), ⟨by decide, by decide⟩, by decide +kernel⟩, (in_t_3 (List.mem_of_getElem? (i := 191) rfl)), (List.mem_of_getElem? (i := 16) rfl)⟩
theorem m_Wait_faultKind : ax_MV Y_Wait_faultKind 0 := ⟨⟨(in_t_1 (List.mem_of_getElem? (i := 18) rfl)), (in_t_3 (List.mem_of_getElem? (i := 196) rfl)), ⟨by decide, by decide⟩, by decide +kernel⟩, (in_t_3 (List.mem_of_getElem? (i := 194) rfl)), (in_t_3 (List.mem_of_getElem? (i := 195) rfl))⟩
theorem m_Wait_value : ax_MV Y_Wait_value 0 := ⟨⟨(in_t_1 (List.mem_of_getElem? (i := 18) rfl)), (in_t_3 (List.mem_of_getElem? (i := 201) rfl)), ⟨by decide, by decide⟩, by decide +kernel⟩, (in_t_3 (List.mem_of_getElem? (i := 199) rfl)), (in_t_3 (List.mem_of_getElem? (i := 200) rfl))⟩
theorem m_Wait_isBefore : ax_MV Y_Wait_isBefore 1 := ⟨⟨(in_t_1 (List.mem_of_getElem? (i := 18) rfl)), (in_t_3 (List.mem_of_getElem? (i := 206) rfl)), ⟨by decide, by decide⟩, by decide +kernel⟩, (in_t_3 (List.mem_of_getElem? (i := 204) rfl)), (in_t_3 (List.mem_of_getElem? (i := 205) rfl))⟩
theorem m_JThrowable_init_0 : ax_MI Y_JThrowable_init_0 0 := ⟨⟨(in_t_1 (List.mem_of_getElem? (i := 20) rfl)), (in_t_3 (List.mem_of_getElem? (i := 231) rfl)), ⟨by decide, by decide⟩, by decide +kernel⟩, (in_t_3 (List.mem_of_getElem? (i := 230) rfl)), rfl, rfl⟩
theorem m_JIllegalStateException_init : ax_MI Y_JIllegalStateException_init 1 := ⟨⟨(in_t_1 (List.mem_of_getElem? (i := 23) rfl)), (in_t_4 (List.mem_of_getElem? (i := 10) rfl)), ⟨by decide, by decide⟩, by decide +kernel⟩, (in_t_4 (List.mem_of_getElem? (i := 9) rfl)), rfl, rfl⟩
theorem m_JRuntimeException_init : ax_MI Y_JRuntimeException_init 1 := ⟨⟨(in_t_1 (List.mem_of_getElem? (i := 22) rfl)), (in_t_4 (List.mem_of_getElem? (i := 13) rfl)), ⟨by decide, by decide⟩, by decide +kernel⟩, (in_t_4 (List.mem_of_getElem? (i := 12) rfl)), rfl, rfl⟩
theorem m_JException_init : ax_MI Y_JException_init 1 := ⟨⟨(in_t_1 (List.mem_of_getElem? (i := 21) rfl)), (in_t_4 (List.mem_of_getElem? (i := 16) rfl)), ⟨by decide, by decide⟩, by decide +kernel⟩, (in_t_4 (List.mem_of_getElem? (i := 15) rfl)), rfl, rfl⟩
theorem m_JThrowable_init_1 : ax_MI Y_JThrowable_init_1 1 := ⟨⟨(in_t_1 (List.mem_of_getElem? (i := 20) rfl)), (in_t_4 (List.mem_of_getElem? (i := 19) rfl)), ⟨by decide, by decide⟩, by decide +kernel⟩, (in_t_4 (List.mem_of_getElem? (i := 18) rfl)), rfl, rfl⟩
theorem m_L_makeImage : ax_MV Y_L_makeImage 0 := ⟨⟨(in_t_1 (List.mem_of_getElem? (i := 1) rfl)), (in_t_4 (List.mem_of_getElem? (i := 36) rfl)), ⟨by decide, by decide⟩, by decide +kernel⟩, (in_t_4 (List.mem_of_getElem? (i := 35) rfl)), (List.mem_of_getElem? (i := 18) rfl)⟩
theorem m_Image_begin : ax_MV Y_Image_begin 1 := ⟨⟨(in_t_1 (List.mem_of_getElem? (i := 6) rfl)), (in_t_4 (List.mem_of_getElem? (i := 40) rfl)), ⟨by decide, by decide⟩, by decide +kernel⟩, (in_t_4 (List.mem_of_getElem? (i := 38) rfl)), (in_t_4 (List.mem_of_getElem? (i := 39) rfl))⟩
theorem m_L_copySections : ax_MV Y_L_copySections 1 := ⟨⟨(in_t_1 (List.mem_of_getElem? (i := 1) rfl)), (in_t_4 (List.mem_of_getElem? (i := 48) rfl)), ⟨by decide, by decide⟩, by decide +kernel⟩, (in_t_4 (List.mem_of_getElem? (i := 47) rfl)), (List.mem_of_getElem? (i := 19) rfl)⟩
theorem m_Image_addName : ax_MV Y_Image_addName 2 := ⟨⟨(in_t_1 (List.mem_of_getElem? (i := 6) rfl)), (in_t_4 (List.mem_of_getElem? (i := 55) rfl)), ⟨by decide, by decide⟩, by decide +kernel⟩, (in_t_4 (List.mem_of_getElem? (i := 53) rfl)), (in_t_4 (List.mem_of_getElem? (i := 54) rfl))⟩
theorem m_JArrays_copyOf_3 : ax_MS Y_JArrays_copyOf_3 2 := ⟨⟨(in_t_1 (List.mem_of_getElem? (i := 10) rfl)), (in_t_4 (List.mem_of_getElem? (i := 58) rfl)), ⟨by decide, by decide⟩, by decide +kernel⟩, (in_t_4 (List.mem_of_getElem? (i := 57) rfl))⟩
theorem m_JArrays_copyOf_4 : ax_MS Y_JArrays_copyOf_4 2 := ⟨⟨(in_t_1 (List.mem_of_getElem? (i := 10) rfl)), (in_t_4 (List.mem_of_getElem? (i := 66) rfl)), ⟨by decide, by decide⟩, by decide +kernel⟩, (in_t_4 (List.mem_of_getElem? (i := 65) rfl))⟩
theorem m_Image_addStart : ax_MV Y_Image_addStart 1 := ⟨⟨(in_t_1 (List.mem_of_getElem? (i := 6) rfl)), (in_t_4 (List.mem_of_getElem? (i := 75) rfl)), ⟨by decide, by decide⟩, by decide +kernel⟩, (in_t_4 (List.mem_of_getElem? (i := 73) rfl)), (in_t_4 (List.mem_of_getElem? (i := 74) rfl))⟩
theorem m_L_address : ax_MV Y_L_address 2 := ⟨⟨(in_t_1 (List.mem_of_getElem? (i := 1) rfl)), (in_t_4 (List.mem_of_getElem? (i := 84) rfl)), ⟨by decide, by decide⟩, by decide +kernel⟩, (in_t_4 (List.mem_of_getElem? (i := 82) rfl)), (in_t_4 (List.mem_of_getElem? (i := 83) rfl))⟩
theorem m_Image_rowOfName : ax_MV Y_Image_rowOfName 2 := ⟨⟨(in_t_1 (List.mem_of_getElem? (i := 6) rfl)), (in_t_4 (List.mem_of_getElem? (i := 88) rfl)), ⟨by decide, by decide⟩, by decide +kernel⟩, (in_t_4 (List.mem_of_getElem? (i := 86) rfl)), (in_t_4 (List.mem_of_getElem? (i := 87) rfl))⟩
theorem m_JNoSuchElementException_init : ax_MI Y_JNoSuchElementException_init 1 := ⟨⟨(in_t_1 (List.mem_of_getElem? (i := 24) rfl)), (in_t_4 (List.mem_of_getElem? (i := 101) rfl)), ⟨by decide, by decide⟩, by decide +kernel⟩, (in_t_4 (List.mem_of_getElem? (i := 100) rfl)), rfl, rfl⟩
theorem m_M_init : ax_MI Y_M_init 0 := ⟨⟨(in_t_1 (List.mem_of_getElem? (i := 7) rfl)), (in_t_4 (List.mem_of_getElem? (i := 109) rfl)), ⟨by decide, by decide⟩, by decide +kernel⟩, (in_t_4 (List.mem_of_getElem? (i := 108) rfl)), rfl, rfl⟩
theorem m_M_thrown : ax_MV Y_M_thrown 0 := ⟨⟨(in_t_1 (List.mem_of_getElem? (i := 7) rfl)), (in_t_5 (List.mem_of_getElem? (i := 24) rfl)), ⟨by decide, by decide⟩, by decide +kernel⟩, (in_t_5 (List.mem_of_getElem? (i := 22) rfl)), (in_t_5 (List.mem_of_getElem? (i := 23) rfl))⟩
theorem m_M_clear : ax_MV Y_M_clear 0 := ⟨⟨(in_t_1 (List.mem_of_getElem? (i := 7) rfl)), (in_t_5 (List.mem_of_getElem? (i := 28) rfl)), ⟨by decide, by decide⟩, by decide +kernel⟩, (in_t_5 (List.mem_of_getElem? (i := 26) rfl)), (in_t_5 (List.mem_of_getElem? (i := 27) rfl))⟩
theorem m_M_unit : ax_MV Y_M_unit 5 := ⟨⟨(in_t_1 (List.mem_of_getElem? (i := 7) rfl)), (in_t_5 (List.mem_of_getElem? (i := 32) rfl)), ⟨by decide, by decide⟩, by decide +kernel⟩, (in_t_5 (List.mem_of_getElem? (i := 30) rfl)), (in_t_5 (List.mem_of_getElem? (i := 31) rfl))⟩
theorem m_M_isSize : ax_MS Y_M_isSize 1 := ⟨⟨(in_t_1 (List.mem_of_getElem? (i := 7) rfl)), (in_t_5 (List.mem_of_getElem? (i := 35) rfl)), ⟨by decide, by decide⟩, by decide +kernel⟩, (in_t_5 (List.mem_of_getElem? (i := 34) rfl))⟩
theorem m_M_put : ax_MV Y_M_put 4 := ⟨⟨(in_t_1 (List.mem_of_getElem? (i := 7) rfl)), (in_t_5 (List.mem_of_getElem? (i := 40) rfl)), ⟨by decide, by decide⟩, by decide +kernel⟩, (in_t_5 (List.mem_of_getElem? (i := 38) rfl)), (in_t_5 (List.mem_of_getElem? (i := 39) rfl))⟩
theorem m_M_lies : ax_MV Y_M_lies 3 := ⟨⟨(in_t_1 (List.mem_of_getElem? (i := 7) rfl)), (in_t_5 (List.mem_of_getElem? (i := 44) rfl)), ⟨by decide, by decide⟩, by decide +kernel⟩, (in_t_5 (List.mem_of_getElem? (i := 43) rfl)), (List.mem_of_getElem? (i := 20) rfl)⟩
theorem m_M_own : ax_MV Y_M_own 1 := ⟨⟨(in_t_1 (List.mem_of_getElem? (i := 7) rfl)), (in_t_5 (List.mem_of_getElem? (i := 48) rfl)), ⟨by decide, by decide⟩, by decide +kernel⟩, (in_t_5 (List.mem_of_getElem? (i := 47) rfl)), (List.mem_of_getElem? (i := 21) rfl)⟩
theorem m_M_keep : ax_MV Y_M_keep 1 := ⟨⟨(in_t_1 (List.mem_of_getElem? (i := 7) rfl)), (in_t_5 (List.mem_of_getElem? (i := 52) rfl)), ⟨by decide, by decide⟩, by decide +kernel⟩, (in_t_5 (List.mem_of_getElem? (i := 50) rfl)), (in_t_5 (List.mem_of_getElem? (i := 51) rfl))⟩
theorem m_M_symbol : ax_MV Y_M_symbol 6 := ⟨⟨(in_t_1 (List.mem_of_getElem? (i := 7) rfl)), (in_t_5 (List.mem_of_getElem? (i := 56) rfl)), ⟨by decide, by decide⟩, by decide +kernel⟩, (in_t_5 (List.mem_of_getElem? (i := 54) rfl)), (in_t_5 (List.mem_of_getElem? (i := 55) rfl))⟩
theorem m_M_isLine : ax_MS Y_M_isLine 1 := ⟨⟨(in_t_1 (List.mem_of_getElem? (i := 7) rfl)), (in_t_5 (List.mem_of_getElem? (i := 59) rfl)), ⟨by decide, by decide⟩, by decide +kernel⟩, (in_t_5 (List.mem_of_getElem? (i := 58) rfl))⟩
theorem m_M_cut : ax_MS Y_M_cut 2 := ⟨⟨(in_t_1 (List.mem_of_getElem? (i := 7) rfl)), (in_t_5 (List.mem_of_getElem? (i := 63) rfl)), ⟨by decide, by decide⟩, by decide +kernel⟩, (in_t_5 (List.mem_of_getElem? (i := 62) rfl))⟩
theorem m_M_await : ax_MV Y_M_await 7 := ⟨⟨(in_t_1 (List.mem_of_getElem? (i := 7) rfl)), (in_t_5 (List.mem_of_getElem? (i := 67) rfl)), ⟨by decide, by decide⟩, by decide +kernel⟩, (in_t_5 (List.mem_of_getElem? (i := 65) rfl)), (in_t_5 (List.mem_of_getElem? (i := 66) rfl))⟩
theorem m_M_start : ax_MV Y_M_start 2 := ⟨⟨(in_t_1 (List.mem_of_getElem? (i := 7) rfl)), (in_t_5 (List.mem_of_getElem? (i := 71) rfl)), ⟨by decide, by decide⟩, by decide +kernel⟩, (in_t_5 (List.mem_of_getElem? (i := 69) rfl)), (in_t_5 (List.mem_of_getElem? (i := 70) rfl))⟩
theorem m_M_link : ax_MV Y_M_link 0 := ⟨⟨(in_t_1 (List.mem_of_getElem? (i := 7) rfl)), (in_t_5 (List.mem_of_getElem? (i := 75) rfl)), ⟨by decide, by decide⟩, by decide +kernel⟩, (in_t_5 (List.mem_of_getElem? (i := 73) rfl)), (in_t_5 (List.mem_of_getElem? (i := 74) rfl))⟩
theorem m_M_take : ax_MV Y_M_take 0 := ⟨⟨(in_t_1 (List.mem_of_getElem? (i := 7) rfl)), (in_t_5 (List.mem_of_getElem? (i := 79) rfl)), ⟨by decide, by decide⟩, by decide +kernel⟩, (in_t_5 (List.mem_of_getElem? (i := 78) rfl)), (List.mem_of_getElem? (i := 22) rfl)⟩
theorem m_M_helps : ax_MV Y_M_helps 1 := ⟨⟨(in_t_1 (List.mem_of_getElem? (i := 7) rfl)), (in_t_5 (List.mem_of_getElem? (i := 83) rfl)), ⟨by decide, by decide⟩, by decide +kernel⟩, (in_t_5 (List.mem_of_getElem? (i := 82) rfl)), (List.mem_of_getElem? (i := 23) rfl)⟩
theorem m_M_isGlobal : ax_MV Y_M_isGlobal 1 := ⟨⟨(in_t_1 (List.mem_of_getElem? (i := 7) rfl)), (in_t_5 (List.mem_of_getElem? (i := 87) rfl)), ⟨by decide, by decide⟩, by decide +kernel⟩, (in_t_5 (List.mem_of_getElem? (i := 86) rfl)), (List.mem_of_getElem? (i := 24) rfl)⟩
theorem m_M_isWeak : ax_MV Y_M_isWeak 1 := ⟨⟨(in_t_1 (List.mem_of_getElem? (i := 7) rfl)), (in_t_5 (List.mem_of_getElem? (i := 91) rfl)), ⟨by decide, by decide⟩, by decide +kernel⟩, (in_t_5 (List.mem_of_getElem? (i := 90) rfl)), (List.mem_of_getElem? (i := 25) rfl)⟩
theorem m_M_meant : ax_MV Y_M_meant 2 := ⟨⟨(in_t_1 (List.mem_of_getElem? (i := 7) rfl)), (in_t_5 (List.mem_of_getElem? (i := 95) rfl)), ⟨by decide, by decide⟩, by decide +kernel⟩, (in_t_5 (List.mem_of_getElem? (i := 94) rfl)), (List.mem_of_getElem? (i := 26) rfl)⟩
theorem m_M_fail : ax_MV Y_M_fail 3 := ⟨⟨(in_t_1 (List.mem_of_getElem? (i := 7) rfl)), (in_t_5 (List.mem_of_getElem? (i := 100) rfl)), ⟨by decide, by decide⟩, by decide +kernel⟩, (in_t_5 (List.mem_of_getElem? (i := 99) rfl)), (List.mem_of_getElem? (i := 27) rfl)⟩
theorem m_M_findTwice : ax_MV Y_M_findTwice 0 := ⟨⟨(in_t_1 (List.mem_of_getElem? (i := 7) rfl)), (in_t_5 (List.mem_of_getElem? (i := 104) rfl)), ⟨by decide, by decide⟩, by decide +kernel⟩, (in_t_5 (List.mem_of_getElem? (i := 103) rfl)), (List.mem_of_getElem? (i := 28) rfl)⟩
theorem m_M_give : ax_MV Y_M_give 2 := ⟨⟨(in_t_1 (List.mem_of_getElem? (i := 7) rfl)), (in_t_5 (List.mem_of_getElem? (i := 108) rfl)), ⟨by decide, by decide⟩, by decide +kernel⟩, (in_t_5 (List.mem_of_getElem? (i := 107) rfl)), (List.mem_of_getElem? (i := 29) rfl)⟩
theorem m_M_findNeeded : ax_MV Y_M_findNeeded 1 := ⟨⟨(in_t_1 (List.mem_of_getElem? (i := 7) rfl)), (in_t_5 (List.mem_of_getElem? (i := 112) rfl)), ⟨by decide, by decide⟩, by decide +kernel⟩, (in_t_5 (List.mem_of_getElem? (i := 111) rfl)), (List.mem_of_getElem? (i := 30) rfl)⟩
theorem m_M_standsFor : ax_MV Y_M_standsFor 1 := ⟨⟨(in_t_1 (List.mem_of_getElem? (i := 7) rfl)), (in_t_5 (List.mem_of_getElem? (i := 116) rfl)), ⟨by decide, by decide⟩, by decide +kernel⟩, (in_t_5 (List.mem_of_getElem? (i := 115) rfl)), (List.mem_of_getElem? (i := 31) rfl)⟩
theorem m_M_layOut : ax_MV Y_M_layOut 0 := ⟨⟨(in_t_1 (List.mem_of_getElem? (i := 7) rfl)), (in_t_5 (List.mem_of_getElem? (i := 120) rfl)), ⟨by decide, by decide⟩, by decide +kernel⟩, (in_t_5 (List.mem_of_getElem? (i := 119) rfl)), (List.mem_of_getElem? (i := 32) rfl)⟩
theorem m_M_findWrong : ax_MV Y_M_findWrong 0 := ⟨⟨(in_t_1 (List.mem_of_getElem? (i := 7) rfl)), (in_t_5 (List.mem_of_getElem? (i := 125) rfl)), ⟨by decide, by decide⟩, by decide +kernel⟩, (in_t_5 (List.mem_of_getElem? (i := 124) rfl)), (List.mem_of_getElem? (i := 33) rfl)⟩
theorem m_M_valueOf : ax_MV Y_M_valueOf 1 := ⟨⟨(in_t_1 (List.mem_of_getElem? (i := 7) rfl)), (in_t_5 (List.mem_of_getElem? (i := 129) rfl)), ⟨by decide, by decide⟩, by decide +kernel⟩, (in_t_5 (List.mem_of_getElem? (i := 128) rfl)), (List.mem_of_getElem? (i := 34) rfl)⟩
theorem m_M_labelAddress : ax_MV Y_M_labelAddress 1 := ⟨⟨(in_t_1 (List.mem_of_getElem? (i := 7) rfl)), (in_t_5 (List.mem_of_getElem? (i := 133) rfl)), ⟨by decide, by decide⟩, by decide +kernel⟩, (in_t_5 (List.mem_of_getElem? (i := 132) rfl)), (List.mem_of_getElem? (i := 35) rfl)⟩
theorem m_M_keepNames : ax_MV Y_M_keepNames 0 := ⟨⟨(in_t_1 (List.mem_of_getElem? (i := 7) rfl)), (in_t_5 (List.mem_of_getElem? (i := 137) rfl)), ⟨by decide, by decide⟩, by decide +kernel⟩, (in_t_5 (List.mem_of_getElem? (i := 136) rfl)), (List.mem_of_getElem? (i := 36) rfl)⟩
theorem m_M_fault : ax_MV Y_M_fault 1 := ⟨⟨(in_t_1 (List.mem_of_getElem? (i := 7) rfl)), (in_t_5 (List.mem_of_getElem? (i := 141) rfl)), ⟨by decide, by decide⟩, by decide +kernel⟩, (in_t_5 (List.mem_of_getElem? (i := 139) rfl)), (in_t_5 (List.mem_of_getElem? (i := 140) rfl))⟩
theorem m_M_needed : ax_MV Y_M_needed 2 := ⟨⟨(in_t_1 (List.mem_of_getElem? (i := 7) rfl)), (in_t_5 (List.mem_of_getElem? (i := 145) rfl)), ⟨by decide, by decide⟩, by decide +kernel⟩, (in_t_5 (List.mem_of_getElem? (i := 143) rfl)), (in_t_5 (List.mem_of_getElem? (i := 144) rfl))⟩
theorem m_M_octet : ax_MV Y_M_octet 1 := ⟨⟨(in_t_1 (List.mem_of_getElem? (i := 7) rfl)), (in_t_5 (List.mem_of_getElem? (i := 149) rfl)), ⟨by decide, by decide⟩, by decide +kernel⟩, (in_t_5 (List.mem_of_getElem? (i := 147) rfl)), (in_t_5 (List.mem_of_getElem? (i := 148) rfl))⟩
theorem m_M_address : ax_MV Y_M_address 2 := ⟨⟨(in_t_1 (List.mem_of_getElem? (i := 7) rfl)), (in_t_5 (List.mem_of_getElem? (i := 153) rfl)), ⟨by decide, by decide⟩, by decide +kernel⟩, (in_t_5 (List.mem_of_getElem? (i := 151) rfl)), (in_t_5 (List.mem_of_getElem? (i := 152) rfl))⟩
theorem m_M_line : ax_MV Y_M_line 1 := ⟨⟨(in_t_1 (List.mem_of_getElem? (i := 7) rfl)), (in_t_5 (List.mem_of_getElem? (i := 157) rfl)), ⟨by decide, by decide⟩, by decide +kernel⟩, (in_t_5 (List.mem_of_getElem? (i := 155) rfl)), (in_t_5 (List.mem_of_getElem? (i := 156) rfl))⟩
theorem m_M_part : ax_MV Y_M_part 1 := ⟨⟨(in_t_1 (List.mem_of_getElem? (i := 7) rfl)), (in_t_5 (List.mem_of_getElem? (i := 161) rfl)), ⟨by decide, by decide⟩, by decide +kernel⟩, (in_t_5 (List.mem_of_getElem? (i := 159) rfl)), (in_t_5 (List.mem_of_getElem? (i := 160) rfl))⟩
theorem ml_W_21 : ax_ml "SymbolLinkerLaw" 21 ⟨"SymbolLinker", "<init>", "()V"⟩ := Or.inl (in_t_1 (List.mem_of_getElem? (i := 27) rfl))
theorem ml_L_1 : Cond.methodLink "SymbolLinker" 1 Lib.objectInit ∈ lw_tbl := (in_t_1 (List.mem_of_getElem? (i := 30) rfl))
theorem ml_L_9 : ax_ml "SymbolLinker" 9 ⟨"java/util/ArrayList", "<init>", "()V"⟩ := Or.inl (in_t_1 (List.mem_of_getElem? (i := 35) rfl))
theorem ml_JArrayList_1 : ax_ml "java/util/ArrayList" 1 ⟨"java/util/AbstractList", "<init>", "()V"⟩ := Or.inl (in_t_1 (List.mem_of_getElem? (i := 38) rfl))
theorem ml_JAbstractList_1 : ax_ml "java/util/AbstractList" 1 ⟨"java/util/AbstractCollection", "<init>", "()V"⟩ := Or.inl (in_t_1 (List.mem_of_getElem? (i := 41) rfl))
theorem ml_JAbstractCollection_1 : Cond.methodLink "java/util/AbstractCollection" 1 Lib.objectInit ∈ lw_tbl := (in_t_1 (List.mem_of_getElem? (i := 44) rfl))
theorem ml_L_27 : ax_ml "SymbolLinker" 27 ⟨"SymbolLinker$Fault", "<init>", "()V"⟩ := Or.inl (in_t_1 (List.mem_of_getElem? (i := 61) rfl))
theorem ml_Fault_3 : Cond.methodLink "SymbolLinker$Fault" 3 Lib.objectInit ∈ lw_tbl := (in_t_1 (List.mem_of_getElem? (i := 64) rfl))
theorem ml_L_34 : ax_ml "SymbolLinker" 34 ⟨"SymbolLinker$Image", "<init>", "()V"⟩ := Or.inl (in_t_1 (List.mem_of_getElem? (i := 80) rfl))
theorem ml_Image_3 : Cond.methodLink "SymbolLinker$Image" 3 Lib.objectInit ∈ lw_tbl := (in_t_1 (List.mem_of_getElem? (i := 83) rfl))
theorem ml_W_25 : ax_ml "SymbolLinkerLaw" 25 ⟨"SymbolLinker", "clear", "()V"⟩ := Or.inl (in_t_1 (List.mem_of_getElem? (i := 156) rfl))
theorem ml_L_58 : ax_ml "SymbolLinker" 58 ⟨"java/util/ArrayList", "clear", "()V"⟩ := Or.inl (in_t_1 (List.mem_of_getElem? (i := 160) rfl))
theorem ml_W_29 : ax_ml "SymbolLinkerLaw" 29 ⟨"SymbolLinker", "unit", "(ZIIII)I"⟩ := Or.inl (in_t_1 (List.mem_of_getElem? (i := 164) rfl))
theorem ml_L_61 : ax_ml "SymbolLinker" 61 ⟨"SymbolLinker", "isSectionSize", "(I)Z"⟩ := Or.inl (in_t_1 (List.mem_of_getElem? (i := 168) rfl))
theorem ml_L_66 : ax_ml "SymbolLinker" 66 ⟨"java/util/ArrayList", "size", "()I"⟩ := Or.inl (in_t_1 (List.mem_of_getElem? (i := 173) rfl))
theorem ml_L_72 : ax_ml "SymbolLinker" 72 ⟨"SymbolLinker$Unit", "<init>", "(IZ)V"⟩ := Or.inl (in_t_1 (List.mem_of_getElem? (i := 179) rfl))
theorem ml_Unit_3 : Cond.methodLink "SymbolLinker$Unit" 3 Lib.objectInit ∈ lw_tbl := (in_t_1 (List.mem_of_getElem? (i := 182) rfl))
theorem ml_Unit_27 : ax_ml "SymbolLinker$Unit" 27 ⟨"java/util/ArrayList", "<init>", "()V"⟩ := Or.inl (in_t_1 (List.mem_of_getElem? (i := 186) rfl))
theorem ml_L_75 : ax_ml "SymbolLinker" 75 ⟨"SymbolLinker", "addSection", "(LSymbolLinker$Unit;II)V"⟩ := Or.inl (in_t_1 (List.mem_of_getElem? (i := 210) rfl))
theorem ml_L_276 : ax_ml "SymbolLinker" 276 ⟨"SymbolLinker", "grownLength", "(III)I"⟩ := Or.inl (in_t_1 (List.mem_of_getElem? (i := 214) rfl))
theorem ml_L_263 : ax_ml "SymbolLinker" 263 ⟨"java/lang/Math", "max", "(II)I"⟩ := Or.inl (in_t_1 (List.mem_of_getElem? (i := 217) rfl))
theorem ml_L_269 : ax_ml "SymbolLinker" 269 ⟨"java/lang/Math", "min", "(II)I"⟩ := Or.inl (in_t_1 (List.mem_of_getElem? (i := 220) rfl))
theorem ml_L_280 : ax_ml "SymbolLinker" 280 ⟨"java/util/Arrays", "copyOf", "([BI)[B"⟩ := Or.inl (in_t_1 (List.mem_of_getElem? (i := 223) rfl))
theorem ml_JArrays_310 : ax_ml "java/util/Arrays" 310 ⟨"[B", "clone", "()Ljava/lang/Object;"⟩ := Or.inl (in_t_1 (List.mem_of_getElem? (i := 226) rfl))
theorem ml_JArrays_304 : ax_ml "java/util/Arrays" 304 ⟨"java/lang/Math", "min", "(II)I"⟩ := Or.inl (in_t_1 (List.mem_of_getElem? (i := 233) rfl))
theorem ml_JArrays_150 : ax_ml "java/util/Arrays" 150 ⟨"java/lang/System", "arraycopy", "(Ljava/lang/Object;ILjava/lang/Object;II)V"⟩ := Or.inl (in_t_1 (List.mem_of_getElem? (i := 234) rfl))
theorem ml_L_286 : ax_ml "SymbolLinker" 286 ⟨"java/util/Arrays", "fill", "([BIIB)V"⟩ := Or.inl (in_t_1 (List.mem_of_getElem? (i := 237) rfl))
theorem ml_JArrays_13 : ax_ml "java/util/Arrays" 13 ⟨"java/util/Arrays", "rangeCheck", "(III)V"⟩ := Or.inl (in_t_2 (List.mem_of_getElem? (i := 0) rfl))
theorem ml_L_85 : ax_ml "SymbolLinker" 85 ⟨"SymbolLinker$Section", "<init>", "(LSymbolLinker$Unit;II)V"⟩ := Or.inl (in_t_2 (List.mem_of_getElem? (i := 5) rfl))
theorem ml_Section_1 : Cond.methodLink "SymbolLinker$Section" 1 Lib.objectInit ∈ lw_tbl := (in_t_2 (List.mem_of_getElem? (i := 8) rfl))
theorem ml_L_87 : ax_ml "SymbolLinker" 87 ⟨"java/util/ArrayList", "add", "(Ljava/lang/Object;)Z"⟩ := Or.inl (in_t_2 (List.mem_of_getElem? (i := 41) rfl))
theorem ml_JArrayList_131 : ax_ml "java/util/ArrayList" 131 ⟨"java/util/ArrayList", "add", "(Ljava/lang/Object;[Ljava/lang/Object;I)V"⟩ := Or.inl (in_t_2 (List.mem_of_getElem? (i := 45) rfl))
theorem ml_JArrayList_129 : ax_ml "java/util/ArrayList" 129 ⟨"java/util/ArrayList", "grow", "()[Ljava/lang/Object;"⟩ := Or.inl (in_t_2 (List.mem_of_getElem? (i := 49) rfl))
theorem ml_JArrayList_69 : ax_ml "java/util/ArrayList" 69 ⟨"java/util/ArrayList", "grow", "(I)[Ljava/lang/Object;"⟩ := Or.inl (in_t_2 (List.mem_of_getElem? (i := 53) rfl))
theorem ml_JArrayList_73 : ax_ml "java/util/ArrayList" 73 ⟨"jdk/internal/util/ArraysSupport", "newLength", "(III)I"⟩ := Or.inl (in_t_2 (List.mem_of_getElem? (i := 57) rfl))
theorem ml_JArraysSupport_194 : ax_ml "jdk/internal/util/ArraysSupport" 194 ⟨"java/lang/Math", "max", "(II)I"⟩ := Or.inl (in_t_2 (List.mem_of_getElem? (i := 60) rfl))
theorem ml_JArraysSupport_201 : ax_ml "jdk/internal/util/ArraysSupport" 201 ⟨"jdk/internal/util/ArraysSupport", "hugeLength", "(II)I"⟩ := Or.inl (in_t_2 (List.mem_of_getElem? (i := 62) rfl))
theorem ml_JArrayList_66 : ax_ml "java/util/ArrayList" 66 ⟨"java/util/Arrays", "copyOf", "([Ljava/lang/Object;I)[Ljava/lang/Object;"⟩ := Or.inl (in_t_2 (List.mem_of_getElem? (i := 65) rfl))
theorem ml_JArrays_86 : ax_ml "java/util/Arrays" 86 ⟨"java/lang/Object", "getClass", "()Ljava/lang/Class;"⟩ := Or.inl (in_t_2 (List.mem_of_getElem? (i := 68) rfl))
theorem ml_JArrays_300 : ax_ml "java/util/Arrays" 300 ⟨"java/util/Arrays", "copyOf", "([Ljava/lang/Object;ILjava/lang/Class;)[Ljava/lang/Object;"⟩ := Or.inl (in_t_2 (List.mem_of_getElem? (i := 85) rfl))
theorem ml_JArrayList_79 : ax_ml "java/util/ArrayList" 79 ⟨"java/lang/Math", "max", "(II)I"⟩ := Or.inl (in_t_2 (List.mem_of_getElem? (i := 91) rfl))
theorem ml_W_36 : ax_ml "SymbolLinkerLaw" 36 ⟨"SymbolLinker", "put", "(IIJI)Z"⟩ := Or.inl (in_t_2 (List.mem_of_getElem? (i := 93) rfl))
theorem ml_L_94 : ax_ml "SymbolLinker" 94 ⟨"SymbolLinker", "latestSection", "(I)LSymbolLinker$Section;"⟩ := Or.inl (in_t_2 (List.mem_of_getElem? (i := 97) rfl))
theorem ml_L_113 : ax_ml "SymbolLinker" 113 ⟨"SymbolLinker", "latestUnit", "()LSymbolLinker$Unit;"⟩ := Or.inl (in_t_2 (List.mem_of_getElem? (i := 101) rfl))
theorem ml_L_272 : ax_ml "SymbolLinker" 272 ⟨"java/util/ArrayList", "isEmpty", "()Z"⟩ := Or.inl (in_t_2 (List.mem_of_getElem? (i := 105) rfl))
theorem ml_L_229 : ax_ml "SymbolLinker" 229 ⟨"java/util/ArrayList", "get", "(I)Ljava/lang/Object;"⟩ := Or.inl (in_t_2 (List.mem_of_getElem? (i := 109) rfl))
theorem ml_JArrayList_118 : ax_ml "java/util/ArrayList" 118 ⟨"java/util/Objects", "checkIndex", "(II)I"⟩ := Or.inl (in_t_2 (List.mem_of_getElem? (i := 113) rfl))
theorem ml_JObjects_105 : ax_ml "java/util/Objects" 105 ⟨"jdk/internal/util/Preconditions", "checkIndex", "(IILjava/util/function/BiFunction;)I"⟩ := Or.inl (in_t_2 (List.mem_of_getElem? (i := 116) rfl))
theorem ml_JArrayList_123 : ax_ml "java/util/ArrayList" 123 ⟨"java/util/ArrayList", "elementData", "(I)Ljava/lang/Object;"⟩ := Or.inl (in_t_2 (List.mem_of_getElem? (i := 119) rfl))
theorem ml_L_155 : ax_ml "SymbolLinker" 155 ⟨"SymbolLinker$Unit", "sectionOfKind", "(I)LSymbolLinker$Section;"⟩ := Or.inl (in_t_2 (List.mem_of_getElem? (i := 123) rfl))
theorem ml_L_98 : ax_ml "SymbolLinker" 98 ⟨"SymbolLinker$Section", "holds", "(II)Z"⟩ := Or.inl (in_t_2 (List.mem_of_getElem? (i := 127) rfl))
theorem ml_L_105 : ax_ml "SymbolLinker" 105 ⟨"SymbolLinker", "storeLowestFirst", "([BIJI)V"⟩ := Or.inl (in_t_2 (List.mem_of_getElem? (i := 131) rfl))
theorem ml_W_41 : ax_ml "SymbolLinkerLaw" 41 ⟨"SymbolLinker", "keep", "(I)Z"⟩ := Or.inl (in_t_2 (List.mem_of_getElem? (i := 134) rfl))
theorem ml_W_46 : ax_ml "SymbolLinkerLaw" 46 ⟨"SymbolLinker", "symbol", "(JIIIII)I"⟩ := Or.inl (in_t_2 (List.mem_of_getElem? (i := 138) rfl))
theorem ml_L_117 : ax_ml "SymbolLinker" 117 ⟨"SymbolLinker", "isNameLength", "(I)Z"⟩ := Or.inl (in_t_2 (List.mem_of_getElem? (i := 142) rfl))
theorem ml_L_120 : ax_ml "SymbolLinker" 120 ⟨"SymbolLinker", "isLine", "(I)Z"⟩ := Or.inl (in_t_2 (List.mem_of_getElem? (i := 145) rfl))
theorem ml_L_123 : ax_ml "SymbolLinker" 123 ⟨"SymbolLinker$Section", "hasPlace", "(I)Z"⟩ := Or.inl (in_t_2 (List.mem_of_getElem? (i := 149) rfl))
theorem ml_Section_30 : ax_ml "SymbolLinker$Section" 30 ⟨"SymbolLinker$Section", "holds", "(II)Z"⟩ := Or.inl (in_t_2 (List.mem_of_getElem? (i := 153) rfl))
theorem ml_L_126 : ax_ml "SymbolLinker" 126 ⟨"SymbolLinker", "findName", "(JI)LSymbolLinker$Name;"⟩ := Or.inl (in_t_2 (List.mem_of_getElem? (i := 154) rfl))
theorem ml_L_136 : ax_ml "SymbolLinker" 136 ⟨"SymbolLinker", "nameWord", "(JI)J"⟩ := Or.inl (in_t_2 (List.mem_of_getElem? (i := 158) rfl))
theorem ml_L_130 : ax_ml "SymbolLinker" 130 ⟨"SymbolLinker$Unit", "hasSymbol", "(LSymbolLinker$Name;)Z"⟩ := Or.inl (in_t_2 (List.mem_of_getElem? (i := 162) rfl))
theorem ml_Unit_35 : ax_ml "SymbolLinker$Unit" 35 ⟨"java/util/ArrayList", "size", "()I"⟩ := Or.inl (in_t_2 (List.mem_of_getElem? (i := 166) rfl))
theorem ml_Unit_39 : ax_ml "SymbolLinker$Unit" 39 ⟨"java/util/ArrayList", "get", "(I)Ljava/lang/Object;"⟩ := Or.inl (in_t_2 (List.mem_of_getElem? (i := 167) rfl))
theorem ml_L_140 : ax_ml "SymbolLinker" 140 ⟨"SymbolLinker$Name", "<init>", "(JI)V"⟩ := Or.inl (in_t_2 (List.mem_of_getElem? (i := 170) rfl))
theorem ml_Name_1 : Cond.methodLink "SymbolLinker$Name" 1 Lib.objectInit ∈ lw_tbl := (in_t_2 (List.mem_of_getElem? (i := 173) rfl))
theorem ml_L_148 : ax_ml "SymbolLinker" 148 ⟨"SymbolLinker$Symbol", "<init>", "(LSymbolLinker$Name;ILSymbolLinker$Section;II)V"⟩ := Or.inl (in_t_2 (List.mem_of_getElem? (i := 203) rfl))
theorem ml_Symbol_3 : Cond.methodLink "SymbolLinker$Symbol" 3 Lib.objectInit ∈ lw_tbl := (in_t_2 (List.mem_of_getElem? (i := 206) rfl))
theorem ml_W_51 : ax_ml "SymbolLinkerLaw" 51 ⟨"SymbolLinker", "await", "(IIIIIJI)Z"⟩ := Or.inl (in_t_2 (List.mem_of_getElem? (i := 231) rfl))
theorem ml_L_151 : ax_ml "SymbolLinker" 151 ⟨"SymbolLinker$Unit", "symbolNumbered", "(I)LSymbolLinker$Symbol;"⟩ := Or.inl (in_t_2 (List.mem_of_getElem? (i := 235) rfl))
theorem ml_L_160 : ax_ml "SymbolLinker" 160 ⟨"SymbolLinker$Wait", "<init>", "(LSymbolLinker$Section;IIJI)V"⟩ := Or.inl (in_t_3 (List.mem_of_getElem? (i := 1) rfl))
theorem ml_Wait_3 : Cond.methodLink "SymbolLinker$Wait" 3 Lib.objectInit ∈ lw_tbl := (in_t_3 (List.mem_of_getElem? (i := 4) rfl))
theorem ml_W_56 : ax_ml "SymbolLinkerLaw" 56 ⟨"SymbolLinker", "start", "(II)Z"⟩ := Or.inl (in_t_3 (List.mem_of_getElem? (i := 37) rfl))
theorem ml_L_176 : ax_ml "SymbolLinker" 176 ⟨"SymbolLinker$Start", "<init>", "(LSymbolLinker$Section;II)V"⟩ := Or.inl (in_t_3 (List.mem_of_getElem? (i := 43) rfl))
theorem ml_Start_1 : Cond.methodLink "SymbolLinker$Start" 1 Lib.objectInit ∈ lw_tbl := (in_t_3 (List.mem_of_getElem? (i := 46) rfl))
theorem ml_W_70 : ax_ml "SymbolLinkerLaw" 70 ⟨"SymbolLinker", "fault", "(I)I"⟩ := Or.inl (in_t_3 (List.mem_of_getElem? (i := 61) rfl))
theorem ml_W_75 : ax_ml "SymbolLinkerLaw" 75 ⟨"SymbolLinker", "needed", "(II)I"⟩ := Or.inl (in_t_3 (List.mem_of_getElem? (i := 65) rfl))
theorem ml_W_80 : ax_ml "SymbolLinkerLaw" 80 ⟨"SymbolLinker", "octet", "(I)I"⟩ := Or.inl (in_t_3 (List.mem_of_getElem? (i := 69) rfl))
theorem ml_W_88 : ax_ml "SymbolLinkerLaw" 88 ⟨"SymbolLinker", "line", "(I)I"⟩ := Or.inl (in_t_3 (List.mem_of_getElem? (i := 73) rfl))
theorem ml_W_92 : ax_ml "SymbolLinkerLaw" 92 ⟨"SymbolLinker", "part", "(I)I"⟩ := Or.inl (in_t_3 (List.mem_of_getElem? (i := 77) rfl))
theorem ml_W_61 : ax_ml "SymbolLinkerLaw" 61 ⟨"SymbolLinkerLaw", "link", "(LSymbolLinker;[J)I"⟩ := Or.inl (in_t_3 (List.mem_of_getElem? (i := 81) rfl))
theorem ml_W_7 : ax_ml "SymbolLinkerLaw" 7 ⟨"SymbolLinker", "link", "()I"⟩ := Or.inl (in_t_3 (List.mem_of_getElem? (i := 85) rfl))
theorem ml_L_179 : ax_ml "SymbolLinker" 179 ⟨"SymbolLinker$Fault", "tell", "(III)V"⟩ := Or.inl (in_t_3 (List.mem_of_getElem? (i := 89) rfl))
theorem ml_L_183 : ax_ml "SymbolLinker" 183 ⟨"SymbolLinker", "takeUnits", "()V"⟩ := Or.inl (in_t_3 (List.mem_of_getElem? (i := 93) rfl))
theorem ml_L_302 : ax_ml "SymbolLinker" 302 ⟨"SymbolLinker$Name", "forget", "()V"⟩ := Or.inl (in_t_3 (List.mem_of_getElem? (i := 97) rfl))
theorem ml_L_311 : ax_ml "SymbolLinker" 311 ⟨"SymbolLinker$Unit", "take", "()V"⟩ := Or.inl (in_t_3 (List.mem_of_getElem? (i := 101) rfl))
theorem ml_Unit_49 : ax_ml "SymbolLinker$Unit" 49 ⟨"SymbolLinker$Symbol", "isSharedLabel", "()Z"⟩ := Or.inl (in_t_3 (List.mem_of_getElem? (i := 105) rfl))
theorem ml_Unit_58 : ax_ml "SymbolLinker$Unit" 58 ⟨"SymbolLinker$Symbol", "isMissed", "()Z"⟩ := Or.inl (in_t_3 (List.mem_of_getElem? (i := 109) rfl))
theorem ml_L_314 : ax_ml "SymbolLinker" 314 ⟨"SymbolLinker", "firstWantedUnit", "()LSymbolLinker$Unit;"⟩ := Or.inl (in_t_3 (List.mem_of_getElem? (i := 113) rfl))
theorem ml_L_317 : ax_ml "SymbolLinker" 317 ⟨"SymbolLinker$Unit", "isWanted", "()Z"⟩ := Or.inl (in_t_3 (List.mem_of_getElem? (i := 117) rfl))
theorem ml_L_186 : ax_ml "SymbolLinker" 186 ⟨"SymbolLinker", "bindNames", "()V"⟩ := Or.inl (in_t_3 (List.mem_of_getElem? (i := 121) rfl))
theorem ml_L_320 : ax_ml "SymbolLinker" 320 ⟨"SymbolLinker$Unit", "bindLabels", "()V"⟩ := Or.inl (in_t_3 (List.mem_of_getElem? (i := 125) rfl))
theorem ml_Unit_64 : ax_ml "SymbolLinker$Unit" 64 ⟨"SymbolLinker$Name", "bind", "(LSymbolLinker$Symbol;)V"⟩ := Or.inl (in_t_3 (List.mem_of_getElem? (i := 129) rfl))
theorem ml_L_189 : ax_ml "SymbolLinker" 189 ⟨"SymbolLinker", "entryLabel", "()LSymbolLinker$Symbol;"⟩ := Or.inl (in_t_3 (List.mem_of_getElem? (i := 133) rfl))
theorem ml_L_193 : ax_ml "SymbolLinker" 193 ⟨"SymbolLinker", "findTwoGlobals", "()V"⟩ := Or.inl (in_t_3 (List.mem_of_getElem? (i := 138) rfl))
theorem ml_L_323 : ax_ml "SymbolLinker" 323 ⟨"SymbolLinker$Unit", "leastLineOfSecondGlobals", "()I"⟩ := Or.inl (in_t_3 (List.mem_of_getElem? (i := 142) rfl))
theorem ml_Unit_68 : ax_ml "SymbolLinker$Unit" 68 ⟨"SymbolLinker$Symbol", "isGlobalLabel", "()Z"⟩ := Or.inl (in_t_3 (List.mem_of_getElem? (i := 146) rfl))
theorem ml_L_202 : ax_ml "SymbolLinker" 202 ⟨"SymbolLinker", "findNeeded", "(LSymbolLinker$Section;)V"⟩ := Or.inl (in_t_3 (List.mem_of_getElem? (i := 150) rfl))
theorem ml_L_326 : ax_ml "SymbolLinker" 326 ⟨"SymbolLinker$Unit", "needKeptAlone", "()V"⟩ := Or.inl (in_t_3 (List.mem_of_getElem? (i := 154) rfl))
theorem ml_L_329 : ax_ml "SymbolLinker" 329 ⟨"SymbolLinker", "needWhatNeededOnesAwait", "()Z"⟩ := Or.inl (in_t_3 (List.mem_of_getElem? (i := 158) rfl))
theorem ml_L_335 : ax_ml "SymbolLinker" 335 ⟨"SymbolLinker$Wait", "target", "()LSymbolLinker$Section;"⟩ := Or.inl (in_t_3 (List.mem_of_getElem? (i := 162) rfl))
theorem ml_Wait_39 : ax_ml "SymbolLinker$Wait" 39 ⟨"SymbolLinker$Symbol", "standsFor", "()LSymbolLinker$Symbol;"⟩ := Or.inl (in_t_3 (List.mem_of_getElem? (i := 166) rfl))
theorem ml_Symbol_33 : ax_ml "SymbolLinker$Symbol" 33 ⟨"SymbolLinker$Name", "meaning", "()LSymbolLinker$Symbol;"⟩ := Or.inl (in_t_3 (List.mem_of_getElem? (i := 170) rfl))
theorem ml_L_206 : ax_ml "SymbolLinker" 206 ⟨"SymbolLinker", "placeParts", "(LSymbolLinker$Symbol;)V"⟩ := Or.inl (in_t_3 (List.mem_of_getElem? (i := 174) rfl))
theorem ml_L_339 : ax_ml "SymbolLinker" 339 ⟨"SymbolLinker", "placeSections", "(II)I"⟩ := Or.inl (in_t_3 (List.mem_of_getElem? (i := 178) rfl))
theorem ml_L_342 : ax_ml "SymbolLinker" 342 ⟨"SymbolLinker", "roundUp", "(II)I"⟩ := Or.inl (in_t_3 (List.mem_of_getElem? (i := 182) rfl))
theorem ml_L_345 : ax_ml "SymbolLinker" 345 ⟨"SymbolLinker$Symbol", "placeInImage", "()I"⟩ := Or.inl (in_t_3 (List.mem_of_getElem? (i := 185) rfl))
theorem ml_L_210 : ax_ml "SymbolLinker" 210 ⟨"SymbolLinker", "findWaitFault", "()V"⟩ := Or.inl (in_t_3 (List.mem_of_getElem? (i := 189) rfl))
theorem ml_L_353 : ax_ml "SymbolLinker" 353 ⟨"SymbolLinker$Wait", "faultKind", "()I"⟩ := Or.inl (in_t_3 (List.mem_of_getElem? (i := 193) rfl))
theorem ml_Wait_57 : ax_ml "SymbolLinker$Wait" 57 ⟨"SymbolLinker$Symbol", "isMissed", "()Z"⟩ := Or.inl (in_t_3 (List.mem_of_getElem? (i := 197) rfl))
theorem ml_Wait_61 : ax_ml "SymbolLinker$Wait" 61 ⟨"SymbolLinker$Wait", "value", "()J"⟩ := Or.inl (in_t_3 (List.mem_of_getElem? (i := 198) rfl))
theorem ml_Wait_48 : ax_ml "SymbolLinker$Wait" 48 ⟨"SymbolLinker$Symbol", "placeInImage", "()I"⟩ := Or.inl (in_t_3 (List.mem_of_getElem? (i := 202) rfl))
theorem ml_L_356 : ax_ml "SymbolLinker" 356 ⟨"SymbolLinker$Wait", "isBefore", "(LSymbolLinker$Wait;)Z"⟩ := Or.inl (in_t_3 (List.mem_of_getElem? (i := 203) rfl))
theorem ml_JThrowable_1 : Cond.methodLink "java/lang/Throwable" 1 Lib.objectInit ∈ lw_tbl := (in_t_3 (List.mem_of_getElem? (i := 232) rfl))
theorem ml_JThrowable_27 : ax_ml "java/lang/Throwable" 27 ⟨"java/lang/Throwable", "fillInStackTrace", "()Ljava/lang/Throwable;"⟩ := Or.inl (in_t_3 (List.mem_of_getElem? (i := 237) rfl))
theorem ml_JThrowable_202 : ax_ml "java/lang/Throwable" 202 ⟨"java/lang/Throwable", "fillInStackTrace", "(I)Ljava/lang/Throwable;"⟩ := Or.inl (in_t_4 (List.mem_of_getElem? (i := 2) rfl))
theorem ml_L_217 : ax_ml "SymbolLinker" 217 ⟨"java/lang/IllegalStateException", "<init>", "(Ljava/lang/String;)V"⟩ := Or.inl (in_t_4 (List.mem_of_getElem? (i := 8) rfl))
theorem ml_JIllegalStateException_7 : ax_ml "java/lang/IllegalStateException" 7 ⟨"java/lang/RuntimeException", "<init>", "(Ljava/lang/String;)V"⟩ := Or.inl (in_t_4 (List.mem_of_getElem? (i := 11) rfl))
theorem ml_JRuntimeException_7 : ax_ml "java/lang/RuntimeException" 7 ⟨"java/lang/Exception", "<init>", "(Ljava/lang/String;)V"⟩ := Or.inl (in_t_4 (List.mem_of_getElem? (i := 14) rfl))
theorem ml_JException_7 : ax_ml "java/lang/Exception" 7 ⟨"java/lang/Throwable", "<init>", "(Ljava/lang/String;)V"⟩ := Or.inl (in_t_4 (List.mem_of_getElem? (i := 17) rfl))
theorem ml_L_220 : ax_ml "SymbolLinker" 220 ⟨"SymbolLinker", "makeImage", "()V"⟩ := Or.inl (in_t_4 (List.mem_of_getElem? (i := 33) rfl))
theorem ml_L_364 : ax_ml "SymbolLinker" 364 ⟨"SymbolLinker$Image", "begin", "([I)V"⟩ := Or.inl (in_t_4 (List.mem_of_getElem? (i := 37) rfl))
theorem ml_Image_42 : ax_ml "SymbolLinker$Image" 42 ⟨"java/lang/System", "arraycopy", "(Ljava/lang/Object;ILjava/lang/Object;II)V"⟩ := Or.inl (in_t_4 (List.mem_of_getElem? (i := 41) rfl))
theorem ml_Image_49 : ax_ml "SymbolLinker$Image" 49 ⟨"SymbolLinker", "grownLength", "(III)I"⟩ := Or.inr ⟨"SymbolLinker", (in_t_4 (List.mem_of_getElem? (i := 43) rfl))⟩
theorem ml_Image_53 : ax_ml "SymbolLinker$Image" 53 ⟨"java/util/Arrays", "fill", "([BIIB)V"⟩ := Or.inl (in_t_4 (List.mem_of_getElem? (i := 44) rfl))
theorem ml_L_367 : ax_ml "SymbolLinker" 367 ⟨"SymbolLinker", "copySections", "(LSymbolLinker$Unit;)V"⟩ := Or.inl (in_t_4 (List.mem_of_getElem? (i := 45) rfl))
theorem ml_L_393 : ax_ml "SymbolLinker" 393 ⟨"java/lang/System", "arraycopy", "(Ljava/lang/Object;ILjava/lang/Object;II)V"⟩ := Or.inl (in_t_4 (List.mem_of_getElem? (i := 49) rfl))
theorem ml_L_374 : ax_ml "SymbolLinker" 374 ⟨"SymbolLinker$Wait", "value", "()J"⟩ := Or.inl (in_t_4 (List.mem_of_getElem? (i := 50) rfl))
theorem ml_L_379 : ax_ml "SymbolLinker" 379 ⟨"SymbolLinker$Name", "meaning", "()LSymbolLinker$Symbol;"⟩ := Or.inl (in_t_4 (List.mem_of_getElem? (i := 51) rfl))
theorem ml_L_382 : ax_ml "SymbolLinker" 382 ⟨"SymbolLinker$Image", "addName", "(LSymbolLinker$Name;I)V"⟩ := Or.inl (in_t_4 (List.mem_of_getElem? (i := 52) rfl))
theorem ml_Image_59 : ax_ml "SymbolLinker$Image" 59 ⟨"java/util/Arrays", "copyOf", "([JI)[J"⟩ := Or.inl (in_t_4 (List.mem_of_getElem? (i := 56) rfl))
theorem ml_JArrays_319 : ax_ml "java/util/Arrays" 319 ⟨"[J", "clone", "()Ljava/lang/Object;"⟩ := Or.inl (in_t_4 (List.mem_of_getElem? (i := 59) rfl))
theorem ml_Image_63 : ax_ml "SymbolLinker$Image" 63 ⟨"java/util/Arrays", "copyOf", "([II)[I"⟩ := Or.inl (in_t_4 (List.mem_of_getElem? (i := 64) rfl))
theorem ml_JArrays_316 : ax_ml "java/util/Arrays" 316 ⟨"[I", "clone", "()Ljava/lang/Object;"⟩ := Or.inl (in_t_4 (List.mem_of_getElem? (i := 67) rfl))
theorem ml_L_389 : ax_ml "SymbolLinker" 389 ⟨"SymbolLinker$Image", "addStart", "(LSymbolLinker$Start;)V"⟩ := Or.inl (in_t_4 (List.mem_of_getElem? (i := 72) rfl))
theorem ml_W_84 : ax_ml "SymbolLinkerLaw" 84 ⟨"SymbolLinkerLaw", "address", "(LSymbolLinker;JI[J)I"⟩ := Or.inl (in_t_4 (List.mem_of_getElem? (i := 77) rfl))
theorem ml_W_15 : ax_ml "SymbolLinkerLaw" 15 ⟨"SymbolLinker", "address", "(JI)I"⟩ := Or.inl (in_t_4 (List.mem_of_getElem? (i := 81) rfl))
theorem ml_L_240 : ax_ml "SymbolLinker" 240 ⟨"SymbolLinker$Image", "rowOfName", "(JI)I"⟩ := Or.inl (in_t_4 (List.mem_of_getElem? (i := 85) rfl))
theorem ml_L_248 : ax_ml "SymbolLinker" 248 ⟨"java/util/NoSuchElementException", "<init>", "(Ljava/lang/String;)V"⟩ := Or.inl (in_t_4 (List.mem_of_getElem? (i := 99) rfl))
theorem ml_JNoSuchElementException_13 : ax_ml "java/util/NoSuchElementException" 13 ⟨"java/lang/RuntimeException", "<init>", "(Ljava/lang/String;)V"⟩ := Or.inl (in_t_4 (List.mem_of_getElem? (i := 102) rfl))
theorem ml_W_24 : ax_ml "SymbolLinkerLaw" 24 ⟨"SymbolLinkerModel", "<init>", "()V"⟩ := Or.inl (in_t_4 (List.mem_of_getElem? (i := 107) rfl))
theorem ml_M_1 : Cond.methodLink "SymbolLinkerModel" 1 Lib.objectInit ∈ lw_tbl := (in_t_4 (List.mem_of_getElem? (i := 110) rfl))
theorem ml_W_67 : ax_ml "SymbolLinkerLaw" 67 ⟨"SymbolLinkerModel", "thrown", "()I"⟩ := Or.inl (in_t_5 (List.mem_of_getElem? (i := 21) rfl))
theorem ml_W_28 : ax_ml "SymbolLinkerLaw" 28 ⟨"SymbolLinkerModel", "clear", "()V"⟩ := Or.inl (in_t_5 (List.mem_of_getElem? (i := 25) rfl))
theorem ml_W_33 : ax_ml "SymbolLinkerLaw" 33 ⟨"SymbolLinkerModel", "unit", "(ZIIII)I"⟩ := Or.inl (in_t_5 (List.mem_of_getElem? (i := 29) rfl))
theorem ml_M_146 : ax_ml "SymbolLinkerModel" 146 ⟨"SymbolLinkerModel", "isSize", "(I)Z"⟩ := Or.inl (in_t_5 (List.mem_of_getElem? (i := 33) rfl))
theorem ml_W_40 : ax_ml "SymbolLinkerLaw" 40 ⟨"SymbolLinkerModel", "put", "(IIJI)Z"⟩ := Or.inl (in_t_5 (List.mem_of_getElem? (i := 37) rfl))
theorem ml_M_154 : ax_ml "SymbolLinkerModel" 154 ⟨"SymbolLinkerModel", "lies", "(III)Z"⟩ := Or.inl (in_t_5 (List.mem_of_getElem? (i := 41) rfl))
theorem ml_M_150 : ax_ml "SymbolLinkerModel" 150 ⟨"SymbolLinkerModel", "own", "(I)I"⟩ := Or.inl (in_t_5 (List.mem_of_getElem? (i := 45) rfl))
theorem ml_W_45 : ax_ml "SymbolLinkerLaw" 45 ⟨"SymbolLinkerModel", "keep", "(I)Z"⟩ := Or.inl (in_t_5 (List.mem_of_getElem? (i := 49) rfl))
theorem ml_W_50 : ax_ml "SymbolLinkerLaw" 50 ⟨"SymbolLinkerModel", "symbol", "(JIIIII)I"⟩ := Or.inl (in_t_5 (List.mem_of_getElem? (i := 53) rfl))
theorem ml_M_158 : ax_ml "SymbolLinkerModel" 158 ⟨"SymbolLinkerModel", "isLine", "(I)Z"⟩ := Or.inl (in_t_5 (List.mem_of_getElem? (i := 57) rfl))
theorem ml_M_161 : ax_ml "SymbolLinkerModel" 161 ⟨"SymbolLinkerModel", "cut", "(JI)J"⟩ := Or.inl (in_t_5 (List.mem_of_getElem? (i := 61) rfl))
theorem ml_W_55 : ax_ml "SymbolLinkerLaw" 55 ⟨"SymbolLinkerModel", "await", "(IIIIIJI)Z"⟩ := Or.inl (in_t_5 (List.mem_of_getElem? (i := 64) rfl))
theorem ml_W_60 : ax_ml "SymbolLinkerLaw" 60 ⟨"SymbolLinkerModel", "start", "(II)Z"⟩ := Or.inl (in_t_5 (List.mem_of_getElem? (i := 68) rfl))
theorem ml_W_66 : ax_ml "SymbolLinkerLaw" 66 ⟨"SymbolLinkerModel", "link", "()I"⟩ := Or.inl (in_t_5 (List.mem_of_getElem? (i := 72) rfl))
theorem ml_M_202 : ax_ml "SymbolLinkerModel" 202 ⟨"SymbolLinkerModel", "take", "()V"⟩ := Or.inl (in_t_5 (List.mem_of_getElem? (i := 76) rfl))
theorem ml_M_175 : ax_ml "SymbolLinkerModel" 175 ⟨"SymbolLinkerModel", "helps", "(I)Z"⟩ := Or.inl (in_t_5 (List.mem_of_getElem? (i := 80) rfl))
theorem ml_M_165 : ax_ml "SymbolLinkerModel" 165 ⟨"SymbolLinkerModel", "isGlobal", "(I)Z"⟩ := Or.inl (in_t_5 (List.mem_of_getElem? (i := 84) rfl))
theorem ml_M_168 : ax_ml "SymbolLinkerModel" 168 ⟨"SymbolLinkerModel", "isWeak", "(I)Z"⟩ := Or.inl (in_t_5 (List.mem_of_getElem? (i := 88) rfl))
theorem ml_M_171 : ax_ml "SymbolLinkerModel" 171 ⟨"SymbolLinkerModel", "meant", "(JI)I"⟩ := Or.inl (in_t_5 (List.mem_of_getElem? (i := 92) rfl))
theorem ml_M_184 : ax_ml "SymbolLinkerModel" 184 ⟨"SymbolLinkerModel", "fail", "(III)V"⟩ := Or.inl (in_t_5 (List.mem_of_getElem? (i := 97) rfl))
theorem ml_M_207 : ax_ml "SymbolLinkerModel" 207 ⟨"SymbolLinkerModel", "findTwice", "()V"⟩ := Or.inl (in_t_5 (List.mem_of_getElem? (i := 101) rfl))
theorem ml_M_210 : ax_ml "SymbolLinkerModel" 210 ⟨"SymbolLinkerModel", "give", "(II)I"⟩ := Or.inl (in_t_5 (List.mem_of_getElem? (i := 105) rfl))
theorem ml_M_214 : ax_ml "SymbolLinkerModel" 214 ⟨"SymbolLinkerModel", "findNeeded", "(I)V"⟩ := Or.inl (in_t_5 (List.mem_of_getElem? (i := 109) rfl))
theorem ml_M_188 : ax_ml "SymbolLinkerModel" 188 ⟨"SymbolLinkerModel", "standsFor", "(I)I"⟩ := Or.inl (in_t_5 (List.mem_of_getElem? (i := 113) rfl))
theorem ml_M_218 : ax_ml "SymbolLinkerModel" 218 ⟨"SymbolLinkerModel", "layOut", "()V"⟩ := Or.inl (in_t_5 (List.mem_of_getElem? (i := 117) rfl))
theorem ml_M_221 : ax_ml "SymbolLinkerModel" 221 ⟨"SymbolLinkerModel", "findWrong", "()V"⟩ := Or.inl (in_t_5 (List.mem_of_getElem? (i := 122) rfl))
theorem ml_M_198 : ax_ml "SymbolLinkerModel" 198 ⟨"SymbolLinkerModel", "valueOf", "(I)J"⟩ := Or.inl (in_t_5 (List.mem_of_getElem? (i := 126) rfl))
theorem ml_M_195 : ax_ml "SymbolLinkerModel" 195 ⟨"SymbolLinkerModel", "labelAddress", "(I)I"⟩ := Or.inl (in_t_5 (List.mem_of_getElem? (i := 130) rfl))
theorem ml_M_228 : ax_ml "SymbolLinkerModel" 228 ⟨"SymbolLinkerModel", "keepNames", "()V"⟩ := Or.inl (in_t_5 (List.mem_of_getElem? (i := 134) rfl))
theorem ml_W_74 : ax_ml "SymbolLinkerLaw" 74 ⟨"SymbolLinkerModel", "fault", "(I)I"⟩ := Or.inl (in_t_5 (List.mem_of_getElem? (i := 138) rfl))
theorem ml_W_79 : ax_ml "SymbolLinkerLaw" 79 ⟨"SymbolLinkerModel", "needed", "(II)I"⟩ := Or.inl (in_t_5 (List.mem_of_getElem? (i := 142) rfl))
theorem ml_W_83 : ax_ml "SymbolLinkerLaw" 83 ⟨"SymbolLinkerModel", "octet", "(I)I"⟩ := Or.inl (in_t_5 (List.mem_of_getElem? (i := 146) rfl))
theorem ml_W_87 : ax_ml "SymbolLinkerLaw" 87 ⟨"SymbolLinkerModel", "address", "(JI)I"⟩ := Or.inl (in_t_5 (List.mem_of_getElem? (i := 150) rfl))
theorem ml_W_91 : ax_ml "SymbolLinkerLaw" 91 ⟨"SymbolLinkerModel", "line", "(I)I"⟩ := Or.inl (in_t_5 (List.mem_of_getElem? (i := 154) rfl))
theorem ml_W_95 : ax_ml "SymbolLinkerLaw" 95 ⟨"SymbolLinkerModel", "part", "(I)I"⟩ := Or.inl (in_t_5 (List.mem_of_getElem? (i := 158) rfl))
end
section
theorem d_JObject_init_0 : decode object_method_1_code 0 = .ok (.return_, 1) := by decide +kernel
theorem d_JArrayList_init_0 : decode prog_24_method_2_code 0 = .ok (.aload_n 0, 1) := by decide +kernel
theorem d_JArrayList_init_1 : decode prog_24_method_2_code 1 = .ok (.invokespecial 1, 3) := by decide +kernel
theorem d_JArrayList_init_4 : decode prog_24_method_2_code 4 = .ok (.aload_n 0, 1) := by decide +kernel
theorem d_JArrayList_init_5 : decode prog_24_method_2_code 5 = .ok (.getstatic 39, 3) := by decide +kernel
theorem d_JArrayList_init_8 : decode prog_24_method_2_code 8 = .ok (.putfield 9, 3) := by decide +kernel
theorem d_JArrayList_init_11 : decode prog_24_method_2_code 11 = .ok (.return_, 1) := by decide +kernel
theorem d_JAbstractList_init_0 : decode prog_23_method_1_code 0 = .ok (.aload_n 0, 1) := by decide +kernel
theorem d_JAbstractList_init_1 : decode prog_23_method_1_code 1 = .ok (.invokespecial 1, 3) := by decide +kernel
theorem d_JAbstractList_init_4 : decode prog_23_method_1_code 4 = .ok (.aload_n 0, 1) := by decide +kernel
theorem d_JAbstractList_init_5 : decode prog_23_method_1_code 5 = .ok (.iconst 0, 1) := by decide +kernel
theorem d_JAbstractList_init_6 : decode prog_23_method_1_code 6 = .ok (.putfield 7, 3) := by decide +kernel
theorem d_JAbstractList_init_9 : decode prog_23_method_1_code 9 = .ok (.return_, 1) := by decide +kernel
theorem d_JAbstractCollection_init_0 : decode prog_22_method_1_code 0 = .ok (.aload_n 0, 1) := by decide +kernel
theorem d_JAbstractCollection_init_1 : decode prog_22_method_1_code 1 = .ok (.invokespecial 1, 3) := by decide +kernel
theorem d_JAbstractCollection_init_4 : decode prog_22_method_1_code 4 = .ok (.return_, 1) := by decide +kernel
theorem d_JArrayList_clear_0 : decode prog_24_method_40_code 0 = .ok (.aload_n 0, 1) := by decide +kernel
theorem d_JArrayList_clear_1 : decode prog_24_method_40_code 1 = .ok (.dup, 1) := by decide +kernel
theorem d_JArrayList_clear_2 : decode prog_24_method_40_code 2 = .ok (.getfield 63, 3) := by decide +kernel
theorem d_JArrayList_clear_5 : decode prog_24_method_40_code 5 = .ok (.iconst 1, 1) := by decide +kernel
theorem d_JArrayList_clear_6 : decode prog_24_method_40_code 6 = .ok (.iadd, 1) := by decide +kernel
theorem d_JArrayList_clear_7 : decode prog_24_method_40_code 7 = .ok (.putfield 63, 3) := by decide +kernel
theorem d_JArrayList_clear_10 : decode prog_24_method_40_code 10 = .ok (.aload_n 0, 1) := by decide +kernel
theorem d_JArrayList_clear_11 : decode prog_24_method_40_code 11 = .ok (.getfield 9, 3) := by decide +kernel
theorem d_JArrayList_clear_14 : decode prog_24_method_40_code 14 = .ok (.astore_n 1, 1) := by decide +kernel
theorem d_JArrayList_clear_15 : decode prog_24_method_40_code 15 = .ok (.aload_n 0, 1) := by decide +kernel
theorem d_JArrayList_clear_16 : decode prog_24_method_40_code 16 = .ok (.getfield 48, 3) := by decide +kernel
theorem d_JArrayList_clear_19 : decode prog_24_method_40_code 19 = .ok (.istore_n 2, 1) := by decide +kernel
theorem d_JArrayList_clear_20 : decode prog_24_method_40_code 20 = .ok (.aload_n 0, 1) := by decide +kernel
theorem d_JArrayList_clear_21 : decode prog_24_method_40_code 21 = .ok (.iconst 0, 1) := by decide +kernel
theorem d_JArrayList_clear_22 : decode prog_24_method_40_code 22 = .ok (.dup_x1, 1) := by decide +kernel
theorem d_JArrayList_clear_23 : decode prog_24_method_40_code 23 = .ok (.putfield 48, 3) := by decide +kernel
theorem d_JArrayList_clear_26 : decode prog_24_method_40_code 26 = .ok (.istore_n 3, 1) := by decide +kernel
theorem d_JArrayList_clear_27 : decode prog_24_method_40_code 27 = .ok (.iload_n 3, 1) := by decide +kernel
theorem d_JArrayList_clear_28 : decode prog_24_method_40_code 28 = .ok (.iload_n 2, 1) := by decide +kernel
theorem d_JArrayList_clear_29 : decode prog_24_method_40_code 29 = .ok (.if_icmp .ge 13, 3) := by decide +kernel
theorem d_JArrayList_clear_32 : decode prog_24_method_40_code 32 = .ok (.aload_n 1, 1) := by decide +kernel
theorem d_JArrayList_clear_33 : decode prog_24_method_40_code 33 = .ok (.iload_n 3, 1) := by decide +kernel
theorem d_JArrayList_clear_34 : decode prog_24_method_40_code 34 = .ok (.aconst_null, 1) := by decide +kernel
theorem d_JArrayList_clear_35 : decode prog_24_method_40_code 35 = .ok (.aastore, 1) := by decide +kernel
theorem d_JArrayList_clear_36 : decode prog_24_method_40_code 36 = .ok (.iinc 3 1, 3) := by decide +kernel
theorem d_JArrayList_clear_39 : decode prog_24_method_40_code 39 = .ok (.goto (-12), 3) := by decide +kernel
theorem d_JArrayList_clear_42 : decode prog_24_method_40_code 42 = .ok (.return_, 1) := by decide +kernel
theorem d_JArrayList_size_0 : decode prog_24_method_8_code 0 = .ok (.aload_n 0, 1) := by decide +kernel
theorem d_JArrayList_size_1 : decode prog_24_method_8_code 1 = .ok (.getfield 48, 3) := by decide +kernel
theorem d_JArrayList_size_4 : decode prog_24_method_8_code 4 = .ok (.ireturn, 1) := by decide +kernel
theorem d_JMath_max_0 : decode prog_17_method_65_code 0 = .ok (.iload_n 0, 1) := by decide +kernel
theorem d_JMath_max_1 : decode prog_17_method_65_code 1 = .ok (.iload_n 1, 1) := by decide +kernel
theorem d_JMath_max_2 : decode prog_17_method_65_code 2 = .ok (.if_icmp .lt 7, 3) := by decide +kernel
theorem d_JMath_max_5 : decode prog_17_method_65_code 5 = .ok (.iload_n 0, 1) := by decide +kernel
theorem d_JMath_max_6 : decode prog_17_method_65_code 6 = .ok (.goto 4, 3) := by decide +kernel
theorem d_JMath_max_9 : decode prog_17_method_65_code 9 = .ok (.iload_n 1, 1) := by decide +kernel
theorem d_JMath_max_10 : decode prog_17_method_65_code 10 = .ok (.ireturn, 1) := by decide +kernel
theorem d_JMath_min_0 : decode prog_17_method_69_code 0 = .ok (.iload_n 0, 1) := by decide +kernel
theorem d_JMath_min_1 : decode prog_17_method_69_code 1 = .ok (.iload_n 1, 1) := by decide +kernel
theorem d_JMath_min_2 : decode prog_17_method_69_code 2 = .ok (.if_icmp .gt 7, 3) := by decide +kernel
theorem d_JMath_min_5 : decode prog_17_method_69_code 5 = .ok (.iload_n 0, 1) := by decide +kernel
theorem d_JMath_min_6 : decode prog_17_method_69_code 6 = .ok (.goto 4, 3) := by decide +kernel
theorem d_JMath_min_9 : decode prog_17_method_69_code 9 = .ok (.iload_n 1, 1) := by decide +kernel
theorem d_JMath_min_10 : decode prog_17_method_69_code 10 = .ok (.ireturn, 1) := by decide +kernel
theorem d_JArrays_copyOf_0_0 : decode prog_25_method_121_code 0 = .ok (.iload_n 1, 1) := by decide +kernel
theorem d_JArrays_copyOf_0_1 : decode prog_25_method_121_code 1 = .ok (.aload_n 0, 1) := by decide +kernel
theorem d_JArrays_copyOf_0_2 : decode prog_25_method_121_code 2 = .ok (.arraylength, 1) := by decide +kernel
theorem d_JArrays_copyOf_0_3 : decode prog_25_method_121_code 3 = .ok (.if_icmp .ne 11, 3) := by decide +kernel
theorem d_JArrays_copyOf_0_6 : decode prog_25_method_121_code 6 = .ok (.aload_n 0, 1) := by decide +kernel
theorem d_JArrays_copyOf_0_7 : decode prog_25_method_121_code 7 = .ok (.invokevirtual 310, 3) := by decide +kernel
theorem d_JArrays_copyOf_0_10 : decode prog_25_method_121_code 10 = .ok (.checkcast 311, 3) := by decide +kernel
theorem d_JArrays_copyOf_0_13 : decode prog_25_method_121_code 13 = .ok (.areturn, 1) := by decide +kernel
theorem d_JArrays_copyOf_0_14 : decode prog_25_method_121_code 14 = .ok (.iload_n 1, 1) := by decide +kernel
theorem d_JArrays_copyOf_0_15 : decode prog_25_method_121_code 15 = .ok (.newarray .byte, 2) := by decide +kernel
theorem d_JArrays_copyOf_0_17 : decode prog_25_method_121_code 17 = .ok (.astore_n 2, 1) := by decide +kernel
theorem d_JArrays_copyOf_0_18 : decode prog_25_method_121_code 18 = .ok (.aload_n 0, 1) := by decide +kernel
theorem d_JArrays_copyOf_0_19 : decode prog_25_method_121_code 19 = .ok (.iconst 0, 1) := by decide +kernel
theorem d_JArrays_copyOf_0_20 : decode prog_25_method_121_code 20 = .ok (.aload_n 2, 1) := by decide +kernel
theorem d_JArrays_copyOf_0_21 : decode prog_25_method_121_code 21 = .ok (.iconst 0, 1) := by decide +kernel
theorem d_JArrays_copyOf_0_22 : decode prog_25_method_121_code 22 = .ok (.aload_n 0, 1) := by decide +kernel
theorem d_JArrays_copyOf_0_23 : decode prog_25_method_121_code 23 = .ok (.arraylength, 1) := by decide +kernel
theorem d_JArrays_copyOf_0_24 : decode prog_25_method_121_code 24 = .ok (.iload_n 1, 1) := by decide +kernel
theorem d_JArrays_copyOf_0_25 : decode prog_25_method_121_code 25 = .ok (.invokestatic 304, 3) := by decide +kernel
theorem d_JArrays_copyOf_0_28 : decode prog_25_method_121_code 28 = .ok (.invokestatic 150, 3) := by decide +kernel
theorem d_JArrays_copyOf_0_31 : decode prog_25_method_121_code 31 = .ok (.aload_n 2, 1) := by decide +kernel
theorem d_JArrays_copyOf_0_32 : decode prog_25_method_121_code 32 = .ok (.areturn, 1) := by decide +kernel
theorem d_JArrays_fill_0 : decode prog_25_method_110_code 0 = .ok (.aload_n 0, 1) := by decide +kernel
theorem d_JArrays_fill_1 : decode prog_25_method_110_code 1 = .ok (.arraylength, 1) := by decide +kernel
theorem d_JArrays_fill_2 : decode prog_25_method_110_code 2 = .ok (.iload_n 1, 1) := by decide +kernel
theorem d_JArrays_fill_3 : decode prog_25_method_110_code 3 = .ok (.iload_n 2, 1) := by decide +kernel
theorem d_JArrays_fill_4 : decode prog_25_method_110_code 4 = .ok (.invokestatic 13, 3) := by decide +kernel
theorem d_JArrays_fill_7 : decode prog_25_method_110_code 7 = .ok (.iload_n 1, 1) := by decide +kernel
theorem d_JArrays_fill_8 : decode prog_25_method_110_code 8 = .ok (.istore 4, 2) := by decide +kernel
theorem d_JArrays_fill_10 : decode prog_25_method_110_code 10 = .ok (.iload 4, 2) := by decide +kernel
theorem d_JArrays_fill_12 : decode prog_25_method_110_code 12 = .ok (.iload_n 2, 1) := by decide +kernel
theorem d_JArrays_fill_13 : decode prog_25_method_110_code 13 = .ok (.if_icmp .ge 14, 3) := by decide +kernel
theorem d_JArrays_fill_16 : decode prog_25_method_110_code 16 = .ok (.aload_n 0, 1) := by decide +kernel
theorem d_JArrays_fill_17 : decode prog_25_method_110_code 17 = .ok (.iload 4, 2) := by decide +kernel
theorem d_JArrays_fill_19 : decode prog_25_method_110_code 19 = .ok (.iload_n 3, 1) := by decide +kernel
theorem d_JArrays_fill_20 : decode prog_25_method_110_code 20 = .ok (.bastore, 1) := by decide +kernel
theorem d_JArrays_fill_21 : decode prog_25_method_110_code 21 = .ok (.iinc 4 1, 3) := by decide +kernel
theorem d_JArrays_fill_24 : decode prog_25_method_110_code 24 = .ok (.goto (-14), 3) := by decide +kernel
theorem d_JArrays_fill_27 : decode prog_25_method_110_code 27 = .ok (.return_, 1) := by decide +kernel
theorem d_JArrays_rangeCheck_0 : decode prog_25_method_30_code 0 = .ok (.iload_n 1, 1) := by decide +kernel
theorem d_JArrays_rangeCheck_1 : decode prog_25_method_30_code 1 = .ok (.iload_n 2, 1) := by decide +kernel
theorem d_JArrays_rangeCheck_2 : decode prog_25_method_30_code 2 = .ok (.if_icmp .le 44, 3) := by decide +kernel
theorem d_JArrays_rangeCheck_5 : decode prog_25_method_30_code 5 = .ok (.new 43, 3) := by decide +kernel
theorem d_JArrays_rangeCheck_8 : decode prog_25_method_30_code 8 = .ok (.dup, 1) := by decide +kernel
theorem d_JArrays_rangeCheck_9 : decode prog_25_method_30_code 9 = .ok (.new 45, 3) := by decide +kernel
theorem d_JArrays_rangeCheck_12 : decode prog_25_method_30_code 12 = .ok (.dup, 1) := by decide +kernel
theorem d_JArrays_rangeCheck_13 : decode prog_25_method_30_code 13 = .ok (.invokespecial 47, 3) := by decide +kernel
theorem d_JArrays_rangeCheck_16 : decode prog_25_method_30_code 16 = .ok (.ldc 48, 2) := by decide +kernel
theorem d_JArrays_rangeCheck_18 : decode prog_25_method_30_code 18 = .ok (.invokevirtual 50, 3) := by decide +kernel
theorem d_JArrays_rangeCheck_21 : decode prog_25_method_30_code 21 = .ok (.iload_n 1, 1) := by decide +kernel
theorem d_JArrays_rangeCheck_22 : decode prog_25_method_30_code 22 = .ok (.invokevirtual 54, 3) := by decide +kernel
theorem d_JArrays_rangeCheck_25 : decode prog_25_method_30_code 25 = .ok (.ldc 57, 2) := by decide +kernel
theorem d_JArrays_rangeCheck_27 : decode prog_25_method_30_code 27 = .ok (.invokevirtual 50, 3) := by decide +kernel
theorem d_JArrays_rangeCheck_30 : decode prog_25_method_30_code 30 = .ok (.iload_n 2, 1) := by decide +kernel
theorem d_JArrays_rangeCheck_31 : decode prog_25_method_30_code 31 = .ok (.invokevirtual 54, 3) := by decide +kernel
theorem d_JArrays_rangeCheck_34 : decode prog_25_method_30_code 34 = .ok (.ldc 59, 2) := by decide +kernel
theorem d_JArrays_rangeCheck_36 : decode prog_25_method_30_code 36 = .ok (.invokevirtual 50, 3) := by decide +kernel
theorem d_JArrays_rangeCheck_39 : decode prog_25_method_30_code 39 = .ok (.invokevirtual 61, 3) := by decide +kernel
theorem d_JArrays_rangeCheck_42 : decode prog_25_method_30_code 42 = .ok (.invokespecial 65, 3) := by decide +kernel
theorem d_JArrays_rangeCheck_45 : decode prog_25_method_30_code 45 = .ok (.athrow, 1) := by decide +kernel
theorem d_JArrays_rangeCheck_46 : decode prog_25_method_30_code 46 = .ok (.iload_n 1, 1) := by decide +kernel
theorem d_JArrays_rangeCheck_47 : decode prog_25_method_30_code 47 = .ok (.ifCond .ge 12, 3) := by decide +kernel
theorem d_JArrays_rangeCheck_50 : decode prog_25_method_30_code 50 = .ok (.new 68, 3) := by decide +kernel
theorem d_JArrays_rangeCheck_53 : decode prog_25_method_30_code 53 = .ok (.dup, 1) := by decide +kernel
theorem d_JArrays_rangeCheck_54 : decode prog_25_method_30_code 54 = .ok (.iload_n 1, 1) := by decide +kernel
theorem d_JArrays_rangeCheck_55 : decode prog_25_method_30_code 55 = .ok (.invokespecial 70, 3) := by decide +kernel
theorem d_JArrays_rangeCheck_58 : decode prog_25_method_30_code 58 = .ok (.athrow, 1) := by decide +kernel
theorem d_JArrays_rangeCheck_59 : decode prog_25_method_30_code 59 = .ok (.iload_n 2, 1) := by decide +kernel
theorem d_JArrays_rangeCheck_60 : decode prog_25_method_30_code 60 = .ok (.iload_n 0, 1) := by decide +kernel
theorem d_JArrays_rangeCheck_61 : decode prog_25_method_30_code 61 = .ok (.if_icmp .le 12, 3) := by decide +kernel
theorem d_JArrays_rangeCheck_64 : decode prog_25_method_30_code 64 = .ok (.new 68, 3) := by decide +kernel
theorem d_JArrays_rangeCheck_67 : decode prog_25_method_30_code 67 = .ok (.dup, 1) := by decide +kernel
theorem d_JArrays_rangeCheck_68 : decode prog_25_method_30_code 68 = .ok (.iload_n 2, 1) := by decide +kernel
theorem d_JArrays_rangeCheck_69 : decode prog_25_method_30_code 69 = .ok (.invokespecial 70, 3) := by decide +kernel
theorem d_JArrays_rangeCheck_72 : decode prog_25_method_30_code 72 = .ok (.athrow, 1) := by decide +kernel
theorem d_JArrays_rangeCheck_73 : decode prog_25_method_30_code 73 = .ok (.return_, 1) := by decide +kernel
theorem d_JArrayList_add_0_0 : decode prog_24_method_25_code 0 = .ok (.aload_n 0, 1) := by decide +kernel
theorem d_JArrayList_add_0_1 : decode prog_24_method_25_code 1 = .ok (.dup, 1) := by decide +kernel
theorem d_JArrayList_add_0_2 : decode prog_24_method_25_code 2 = .ok (.getfield 63, 3) := by decide +kernel
theorem d_JArrayList_add_0_5 : decode prog_24_method_25_code 5 = .ok (.iconst 1, 1) := by decide +kernel
theorem d_JArrayList_add_0_6 : decode prog_24_method_25_code 6 = .ok (.iadd, 1) := by decide +kernel
theorem d_JArrayList_add_0_7 : decode prog_24_method_25_code 7 = .ok (.putfield 63, 3) := by decide +kernel
theorem d_JArrayList_add_0_10 : decode prog_24_method_25_code 10 = .ok (.aload_n 0, 1) := by decide +kernel
theorem d_JArrayList_add_0_11 : decode prog_24_method_25_code 11 = .ok (.aload_n 1, 1) := by decide +kernel
theorem d_JArrayList_add_0_12 : decode prog_24_method_25_code 12 = .ok (.aload_n 0, 1) := by decide +kernel
theorem d_JArrayList_add_0_13 : decode prog_24_method_25_code 13 = .ok (.getfield 9, 3) := by decide +kernel
theorem d_JArrayList_add_0_16 : decode prog_24_method_25_code 16 = .ok (.aload_n 0, 1) := by decide +kernel
theorem d_JArrayList_add_0_17 : decode prog_24_method_25_code 17 = .ok (.getfield 48, 3) := by decide +kernel
theorem d_JArrayList_add_0_20 : decode prog_24_method_25_code 20 = .ok (.invokevirtual 131, 3) := by decide +kernel
theorem d_JArrayList_add_0_23 : decode prog_24_method_25_code 23 = .ok (.iconst 1, 1) := by decide +kernel
theorem d_JArrayList_add_0_24 : decode prog_24_method_25_code 24 = .ok (.ireturn, 1) := by decide +kernel
theorem d_JArrayList_add_1_0 : decode prog_24_method_24_code 0 = .ok (.iload_n 3, 1) := by decide +kernel
theorem d_JArrayList_add_1_1 : decode prog_24_method_24_code 1 = .ok (.aload_n 2, 1) := by decide +kernel
theorem d_JArrayList_add_1_2 : decode prog_24_method_24_code 2 = .ok (.arraylength, 1) := by decide +kernel
theorem d_JArrayList_add_1_3 : decode prog_24_method_24_code 3 = .ok (.if_icmp .ne 8, 3) := by decide +kernel
theorem d_JArrayList_add_1_6 : decode prog_24_method_24_code 6 = .ok (.aload_n 0, 1) := by decide +kernel
theorem d_JArrayList_add_1_7 : decode prog_24_method_24_code 7 = .ok (.invokevirtual 129, 3) := by decide +kernel
theorem d_JArrayList_add_1_10 : decode prog_24_method_24_code 10 = .ok (.astore_n 2, 1) := by decide +kernel
theorem d_JArrayList_add_1_11 : decode prog_24_method_24_code 11 = .ok (.aload_n 2, 1) := by decide +kernel
theorem d_JArrayList_add_1_12 : decode prog_24_method_24_code 12 = .ok (.iload_n 3, 1) := by decide +kernel
theorem d_JArrayList_add_1_13 : decode prog_24_method_24_code 13 = .ok (.aload_n 1, 1) := by decide +kernel
theorem d_JArrayList_add_1_14 : decode prog_24_method_24_code 14 = .ok (.aastore, 1) := by decide +kernel
theorem d_JArrayList_add_1_15 : decode prog_24_method_24_code 15 = .ok (.aload_n 0, 1) := by decide +kernel
theorem d_JArrayList_add_1_16 : decode prog_24_method_24_code 16 = .ok (.iload_n 3, 1) := by decide +kernel
theorem d_JArrayList_add_1_17 : decode prog_24_method_24_code 17 = .ok (.iconst 1, 1) := by decide +kernel
theorem d_JArrayList_add_1_18 : decode prog_24_method_24_code 18 = .ok (.iadd, 1) := by decide +kernel
theorem d_JArrayList_add_1_19 : decode prog_24_method_24_code 19 = .ok (.putfield 48, 3) := by decide +kernel
theorem d_JArrayList_add_1_22 : decode prog_24_method_24_code 22 = .ok (.return_, 1) := by decide +kernel
theorem d_JArrayList_grow_0_0 : decode prog_24_method_7_code 0 = .ok (.aload_n 0, 1) := by decide +kernel
theorem d_JArrayList_grow_0_1 : decode prog_24_method_7_code 1 = .ok (.aload_n 0, 1) := by decide +kernel
theorem d_JArrayList_grow_0_2 : decode prog_24_method_7_code 2 = .ok (.getfield 48, 3) := by decide +kernel
theorem d_JArrayList_grow_0_5 : decode prog_24_method_7_code 5 = .ok (.iconst 1, 1) := by decide +kernel
theorem d_JArrayList_grow_0_6 : decode prog_24_method_7_code 6 = .ok (.iadd, 1) := by decide +kernel
theorem d_JArrayList_grow_0_7 : decode prog_24_method_7_code 7 = .ok (.invokevirtual 69, 3) := by decide +kernel
theorem d_JArrayList_grow_0_10 : decode prog_24_method_7_code 10 = .ok (.areturn, 1) := by decide +kernel
theorem d_JArrayList_grow_1_0 : decode prog_24_method_6_code 0 = .ok (.aload_n 0, 1) := by decide +kernel
theorem d_JArrayList_grow_1_1 : decode prog_24_method_6_code 1 = .ok (.getfield 9, 3) := by decide +kernel
theorem d_JArrayList_grow_1_4 : decode prog_24_method_6_code 4 = .ok (.arraylength, 1) := by decide +kernel
theorem d_JArrayList_grow_1_5 : decode prog_24_method_6_code 5 = .ok (.istore_n 2, 1) := by decide +kernel
theorem d_JArrayList_grow_1_6 : decode prog_24_method_6_code 6 = .ok (.iload_n 2, 1) := by decide +kernel
theorem d_JArrayList_grow_1_7 : decode prog_24_method_6_code 7 = .ok (.ifCond .gt 13, 3) := by decide +kernel
theorem d_JArrayList_grow_1_10 : decode prog_24_method_6_code 10 = .ok (.aload_n 0, 1) := by decide +kernel
theorem d_JArrayList_grow_1_11 : decode prog_24_method_6_code 11 = .ok (.getfield 9, 3) := by decide +kernel
theorem d_JArrayList_grow_1_14 : decode prog_24_method_6_code 14 = .ok (.getstatic 39, 3) := by decide +kernel
theorem d_JArrayList_grow_1_17 : decode prog_24_method_6_code 17 = .ok (.if_acmp .eq 28, 3) := by decide +kernel
theorem d_JArrayList_grow_1_20 : decode prog_24_method_6_code 20 = .ok (.iload_n 2, 1) := by decide +kernel
theorem d_JArrayList_grow_1_21 : decode prog_24_method_6_code 21 = .ok (.iload_n 1, 1) := by decide +kernel
theorem d_JArrayList_grow_1_22 : decode prog_24_method_6_code 22 = .ok (.iload_n 2, 1) := by decide +kernel
theorem d_JArrayList_grow_1_23 : decode prog_24_method_6_code 23 = .ok (.isub, 1) := by decide +kernel
theorem d_JArrayList_grow_1_24 : decode prog_24_method_6_code 24 = .ok (.iload_n 2, 1) := by decide +kernel
theorem d_JArrayList_grow_1_25 : decode prog_24_method_6_code 25 = .ok (.iconst 1, 1) := by decide +kernel
theorem d_JArrayList_grow_1_26 : decode prog_24_method_6_code 26 = .ok (.ishr, 1) := by decide +kernel
theorem d_JArrayList_grow_1_27 : decode prog_24_method_6_code 27 = .ok (.invokestatic 73, 3) := by decide +kernel
theorem d_JArrayList_grow_1_30 : decode prog_24_method_6_code 30 = .ok (.istore_n 3, 1) := by decide +kernel
theorem d_JArrayList_grow_1_31 : decode prog_24_method_6_code 31 = .ok (.aload_n 0, 1) := by decide +kernel
theorem d_JArrayList_grow_1_32 : decode prog_24_method_6_code 32 = .ok (.aload_n 0, 1) := by decide +kernel
theorem d_JArrayList_grow_1_33 : decode prog_24_method_6_code 33 = .ok (.getfield 9, 3) := by decide +kernel
theorem d_JArrayList_grow_1_36 : decode prog_24_method_6_code 36 = .ok (.iload_n 3, 1) := by decide +kernel
theorem d_JArrayList_grow_1_37 : decode prog_24_method_6_code 37 = .ok (.invokestatic 66, 3) := by decide +kernel
theorem d_JArrayList_grow_1_40 : decode prog_24_method_6_code 40 = .ok (.dup_x1, 1) := by decide +kernel
theorem d_JArrayList_grow_1_41 : decode prog_24_method_6_code 41 = .ok (.putfield 9, 3) := by decide +kernel
theorem d_JArrayList_grow_1_44 : decode prog_24_method_6_code 44 = .ok (.areturn, 1) := by decide +kernel
theorem d_JArrayList_grow_1_45 : decode prog_24_method_6_code 45 = .ok (.aload_n 0, 1) := by decide +kernel
theorem d_JArrayList_grow_1_46 : decode prog_24_method_6_code 46 = .ok (.bipush 10, 2) := by decide +kernel
theorem d_JArrayList_grow_1_48 : decode prog_24_method_6_code 48 = .ok (.iload_n 1, 1) := by decide +kernel
theorem d_JArrayList_grow_1_49 : decode prog_24_method_6_code 49 = .ok (.invokestatic 79, 3) := by decide +kernel
theorem d_JArrayList_grow_1_52 : decode prog_24_method_6_code 52 = .ok (.anewarray 7, 3) := by decide +kernel
theorem d_JArrayList_grow_1_55 : decode prog_24_method_6_code 55 = .ok (.dup_x1, 1) := by decide +kernel
theorem d_JArrayList_grow_1_56 : decode prog_24_method_6_code 56 = .ok (.putfield 9, 3) := by decide +kernel
theorem d_JArrayList_grow_1_59 : decode prog_24_method_6_code 59 = .ok (.areturn, 1) := by decide +kernel
theorem d_JArraysSupport_newLength_0 : decode prog_32_method_27_code 0 = .ok (.iload_n 0, 1) := by decide +kernel
theorem d_JArraysSupport_newLength_1 : decode prog_32_method_27_code 1 = .ok (.iload_n 1, 1) := by decide +kernel
theorem d_JArraysSupport_newLength_2 : decode prog_32_method_27_code 2 = .ok (.iload_n 2, 1) := by decide +kernel
theorem d_JArraysSupport_newLength_3 : decode prog_32_method_27_code 3 = .ok (.invokestatic 194, 3) := by decide +kernel
theorem d_JArraysSupport_newLength_6 : decode prog_32_method_27_code 6 = .ok (.iadd, 1) := by decide +kernel
theorem d_JArraysSupport_newLength_7 : decode prog_32_method_27_code 7 = .ok (.istore_n 3, 1) := by decide +kernel
theorem d_JArraysSupport_newLength_8 : decode prog_32_method_27_code 8 = .ok (.iconst 0, 1) := by decide +kernel
theorem d_JArraysSupport_newLength_9 : decode prog_32_method_27_code 9 = .ok (.iload_n 3, 1) := by decide +kernel
theorem d_JArraysSupport_newLength_10 : decode prog_32_method_27_code 10 = .ok (.if_icmp .ge 11, 3) := by decide +kernel
theorem d_JArraysSupport_newLength_13 : decode prog_32_method_27_code 13 = .ok (.iload_n 3, 1) := by decide +kernel
theorem d_JArraysSupport_newLength_14 : decode prog_32_method_27_code 14 = .ok (.ldc 200, 2) := by decide +kernel
theorem d_JArraysSupport_newLength_16 : decode prog_32_method_27_code 16 = .ok (.if_icmp .gt 5, 3) := by decide +kernel
theorem d_JArraysSupport_newLength_19 : decode prog_32_method_27_code 19 = .ok (.iload_n 3, 1) := by decide +kernel
theorem d_JArraysSupport_newLength_20 : decode prog_32_method_27_code 20 = .ok (.ireturn, 1) := by decide +kernel
theorem d_JArraysSupport_newLength_21 : decode prog_32_method_27_code 21 = .ok (.iload_n 0, 1) := by decide +kernel
theorem d_JArraysSupport_newLength_22 : decode prog_32_method_27_code 22 = .ok (.iload_n 1, 1) := by decide +kernel
theorem d_JArraysSupport_newLength_23 : decode prog_32_method_27_code 23 = .ok (.invokestatic 201, 3) := by decide +kernel
theorem d_JArraysSupport_newLength_26 : decode prog_32_method_27_code 26 = .ok (.ireturn, 1) := by decide +kernel
theorem d_JArraysSupport_hugeLength_0 : decode prog_32_method_28_code 0 = .ok (.iload_n 0, 1) := by decide +kernel
theorem d_JArraysSupport_hugeLength_1 : decode prog_32_method_28_code 1 = .ok (.iload_n 1, 1) := by decide +kernel
theorem d_JArraysSupport_hugeLength_2 : decode prog_32_method_28_code 2 = .ok (.iadd, 1) := by decide +kernel
theorem d_JArraysSupport_hugeLength_3 : decode prog_32_method_28_code 3 = .ok (.istore_n 2, 1) := by decide +kernel
theorem d_JArraysSupport_hugeLength_4 : decode prog_32_method_28_code 4 = .ok (.iload_n 2, 1) := by decide +kernel
theorem d_JArraysSupport_hugeLength_5 : decode prog_32_method_28_code 5 = .ok (.ifCond .ge 44, 3) := by decide +kernel
theorem d_JArraysSupport_hugeLength_8 : decode prog_32_method_28_code 8 = .ok (.new 204, 3) := by decide +kernel
theorem d_JArraysSupport_hugeLength_11 : decode prog_32_method_28_code 11 = .ok (.dup, 1) := by decide +kernel
theorem d_JArraysSupport_hugeLength_12 : decode prog_32_method_28_code 12 = .ok (.new 89, 3) := by decide +kernel
theorem d_JArraysSupport_hugeLength_15 : decode prog_32_method_28_code 15 = .ok (.dup, 1) := by decide +kernel
theorem d_JArraysSupport_hugeLength_16 : decode prog_32_method_28_code 16 = .ok (.invokespecial 91, 3) := by decide +kernel
theorem d_JArraysSupport_hugeLength_19 : decode prog_32_method_28_code 19 = .ok (.ldc 206, 2) := by decide +kernel
theorem d_JArraysSupport_hugeLength_21 : decode prog_32_method_28_code 21 = .ok (.invokevirtual 94, 3) := by decide +kernel
theorem d_JArraysSupport_hugeLength_24 : decode prog_32_method_28_code 24 = .ok (.iload_n 0, 1) := by decide +kernel
theorem d_JArraysSupport_hugeLength_25 : decode prog_32_method_28_code 25 = .ok (.invokevirtual 98, 3) := by decide +kernel
theorem d_JArraysSupport_hugeLength_28 : decode prog_32_method_28_code 28 = .ok (.ldc 208, 2) := by decide +kernel
theorem d_JArraysSupport_hugeLength_30 : decode prog_32_method_28_code 30 = .ok (.invokevirtual 94, 3) := by decide +kernel
theorem d_JArraysSupport_hugeLength_33 : decode prog_32_method_28_code 33 = .ok (.iload_n 1, 1) := by decide +kernel
theorem d_JArraysSupport_hugeLength_34 : decode prog_32_method_28_code 34 = .ok (.invokevirtual 98, 3) := by decide +kernel
theorem d_JArraysSupport_hugeLength_37 : decode prog_32_method_28_code 37 = .ok (.ldc 210, 2) := by decide +kernel
theorem d_JArraysSupport_hugeLength_39 : decode prog_32_method_28_code 39 = .ok (.invokevirtual 94, 3) := by decide +kernel
theorem d_JArraysSupport_hugeLength_42 : decode prog_32_method_28_code 42 = .ok (.invokevirtual 101, 3) := by decide +kernel
theorem d_JArraysSupport_hugeLength_45 : decode prog_32_method_28_code 45 = .ok (.invokespecial 212, 3) := by decide +kernel
theorem d_JArraysSupport_hugeLength_48 : decode prog_32_method_28_code 48 = .ok (.athrow, 1) := by decide +kernel
theorem d_JArraysSupport_hugeLength_49 : decode prog_32_method_28_code 49 = .ok (.iload_n 2, 1) := by decide +kernel
theorem d_JArraysSupport_hugeLength_50 : decode prog_32_method_28_code 50 = .ok (.ldc 200, 2) := by decide +kernel
theorem d_JArraysSupport_hugeLength_52 : decode prog_32_method_28_code 52 = .ok (.if_icmp .gt 6, 3) := by decide +kernel
theorem d_JArraysSupport_hugeLength_55 : decode prog_32_method_28_code 55 = .ok (.ldc 200, 2) := by decide +kernel
theorem d_JArraysSupport_hugeLength_57 : decode prog_32_method_28_code 57 = .ok (.ireturn, 1) := by decide +kernel
theorem d_JArraysSupport_hugeLength_58 : decode prog_32_method_28_code 58 = .ok (.iload_n 2, 1) := by decide +kernel
theorem d_JArraysSupport_hugeLength_59 : decode prog_32_method_28_code 59 = .ok (.ireturn, 1) := by decide +kernel
theorem d_JArrays_copyOf_1_0 : decode prog_25_method_119_code 0 = .ok (.aload_n 0, 1) := by decide +kernel
theorem d_JArrays_copyOf_1_1 : decode prog_25_method_119_code 1 = .ok (.iload_n 1, 1) := by decide +kernel
theorem d_JArrays_copyOf_1_2 : decode prog_25_method_119_code 2 = .ok (.aload_n 0, 1) := by decide +kernel
theorem d_JArrays_copyOf_1_3 : decode prog_25_method_119_code 3 = .ok (.invokevirtual 86, 3) := by decide +kernel
theorem d_JArrays_copyOf_1_6 : decode prog_25_method_119_code 6 = .ok (.invokestatic 300, 3) := by decide +kernel
theorem d_JArrays_copyOf_1_9 : decode prog_25_method_119_code 9 = .ok (.areturn, 1) := by decide +kernel
theorem d_JArrays_copyOf_2_0 : decode prog_25_method_120_code 0 = .ok (.aload_n 2, 1) := by decide +kernel
theorem d_JArrays_copyOf_2_1 : decode prog_25_method_120_code 1 = .ok (.ldc 110, 2) := by decide +kernel
theorem d_JArrays_copyOf_2_3 : decode prog_25_method_120_code 3 = .ok (.if_acmp .ne 10, 3) := by decide +kernel
theorem d_JArrays_copyOf_2_6 : decode prog_25_method_120_code 6 = .ok (.iload_n 1, 1) := by decide +kernel
theorem d_JArrays_copyOf_2_7 : decode prog_25_method_120_code 7 = .ok (.anewarray 2, 3) := by decide +kernel
theorem d_JArrays_copyOf_2_10 : decode prog_25_method_120_code 10 = .ok (.goto 14, 3) := by decide +kernel
theorem d_JArrays_copyOf_2_13 : decode prog_25_method_120_code 13 = .ok (.aload_n 2, 1) := by decide +kernel
theorem d_JArrays_copyOf_2_14 : decode prog_25_method_120_code 14 = .ok (.invokevirtual 90, 3) := by decide +kernel
theorem d_JArrays_copyOf_2_17 : decode prog_25_method_120_code 17 = .ok (.iload_n 1, 1) := by decide +kernel
theorem d_JArrays_copyOf_2_18 : decode prog_25_method_120_code 18 = .ok (.invokestatic 95, 3) := by decide +kernel
theorem d_JArrays_copyOf_2_21 : decode prog_25_method_120_code 21 = .ok (.checkcast 110, 3) := by decide +kernel
theorem d_JArrays_copyOf_2_24 : decode prog_25_method_120_code 24 = .ok (.astore_n 3, 1) := by decide +kernel
theorem d_JArrays_copyOf_2_25 : decode prog_25_method_120_code 25 = .ok (.aload_n 0, 1) := by decide +kernel
theorem d_JArrays_copyOf_2_26 : decode prog_25_method_120_code 26 = .ok (.iconst 0, 1) := by decide +kernel
theorem d_JArrays_copyOf_2_27 : decode prog_25_method_120_code 27 = .ok (.aload_n 3, 1) := by decide +kernel
theorem d_JArrays_copyOf_2_28 : decode prog_25_method_120_code 28 = .ok (.iconst 0, 1) := by decide +kernel
theorem d_JArrays_copyOf_2_29 : decode prog_25_method_120_code 29 = .ok (.aload_n 0, 1) := by decide +kernel
theorem d_JArrays_copyOf_2_30 : decode prog_25_method_120_code 30 = .ok (.arraylength, 1) := by decide +kernel
theorem d_JArrays_copyOf_2_31 : decode prog_25_method_120_code 31 = .ok (.iload_n 1, 1) := by decide +kernel
theorem d_JArrays_copyOf_2_32 : decode prog_25_method_120_code 32 = .ok (.invokestatic 304, 3) := by decide +kernel
theorem d_JArrays_copyOf_2_35 : decode prog_25_method_120_code 35 = .ok (.invokestatic 150, 3) := by decide +kernel
theorem d_JArrays_copyOf_2_38 : decode prog_25_method_120_code 38 = .ok (.aload_n 3, 1) := by decide +kernel
theorem d_JArrays_copyOf_2_39 : decode prog_25_method_120_code 39 = .ok (.areturn, 1) := by decide +kernel
theorem d_JArrayList_isEmpty_0 : decode prog_24_method_9_code 0 = .ok (.aload_n 0, 1) := by decide +kernel
theorem d_JArrayList_isEmpty_1 : decode prog_24_method_9_code 1 = .ok (.getfield 48, 3) := by decide +kernel
theorem d_JArrayList_isEmpty_4 : decode prog_24_method_9_code 4 = .ok (.ifCond .ne 7, 3) := by decide +kernel
theorem d_JArrayList_isEmpty_7 : decode prog_24_method_9_code 7 = .ok (.iconst 1, 1) := by decide +kernel
theorem d_JArrayList_isEmpty_8 : decode prog_24_method_9_code 8 = .ok (.goto 4, 3) := by decide +kernel
theorem d_JArrayList_isEmpty_11 : decode prog_24_method_9_code 11 = .ok (.iconst 0, 1) := by decide +kernel
theorem d_JArrayList_isEmpty_12 : decode prog_24_method_9_code 12 = .ok (.ireturn, 1) := by decide +kernel
theorem d_JArrayList_get_0 : decode prog_24_method_20_code 0 = .ok (.iload_n 1, 1) := by decide +kernel
theorem d_JArrayList_get_1 : decode prog_24_method_20_code 1 = .ok (.aload_n 0, 1) := by decide +kernel
theorem d_JArrayList_get_2 : decode prog_24_method_20_code 2 = .ok (.getfield 48, 3) := by decide +kernel
theorem d_JArrayList_get_5 : decode prog_24_method_20_code 5 = .ok (.invokestatic 118, 3) := by decide +kernel
theorem d_JArrayList_get_8 : decode prog_24_method_20_code 8 = .ok (.pop, 1) := by decide +kernel
theorem d_JArrayList_get_9 : decode prog_24_method_20_code 9 = .ok (.aload_n 0, 1) := by decide +kernel
theorem d_JArrayList_get_10 : decode prog_24_method_20_code 10 = .ok (.iload_n 1, 1) := by decide +kernel
theorem d_JArrayList_get_11 : decode prog_24_method_20_code 11 = .ok (.invokevirtual 123, 3) := by decide +kernel
theorem d_JArrayList_get_14 : decode prog_24_method_20_code 14 = .ok (.areturn, 1) := by decide +kernel
theorem d_JObjects_checkIndex_0 : decode prog_29_method_17_code 0 = .ok (.iload_n 0, 1) := by decide +kernel
theorem d_JObjects_checkIndex_1 : decode prog_29_method_17_code 1 = .ok (.iload_n 1, 1) := by decide +kernel
theorem d_JObjects_checkIndex_2 : decode prog_29_method_17_code 2 = .ok (.aconst_null, 1) := by decide +kernel
theorem d_JObjects_checkIndex_3 : decode prog_29_method_17_code 3 = .ok (.invokestatic 105, 3) := by decide +kernel
theorem d_JObjects_checkIndex_6 : decode prog_29_method_17_code 6 = .ok (.ireturn, 1) := by decide +kernel
theorem d_JPreconditions_checkIndex_0 : decode prog_33_method_11_code 0 = .ok (.iload_n 0, 1) := by decide +kernel
theorem d_JPreconditions_checkIndex_1 : decode prog_33_method_11_code 1 = .ok (.ifCond .lt 8, 3) := by decide +kernel
theorem d_JPreconditions_checkIndex_4 : decode prog_33_method_11_code 4 = .ok (.iload_n 0, 1) := by decide +kernel
theorem d_JPreconditions_checkIndex_5 : decode prog_33_method_11_code 5 = .ok (.iload_n 1, 1) := by decide +kernel
theorem d_JPreconditions_checkIndex_6 : decode prog_33_method_11_code 6 = .ok (.if_icmp .lt 10, 3) := by decide +kernel
theorem d_JPreconditions_checkIndex_9 : decode prog_33_method_11_code 9 = .ok (.aload_n 2, 1) := by decide +kernel
theorem d_JPreconditions_checkIndex_10 : decode prog_33_method_11_code 10 = .ok (.iload_n 0, 1) := by decide +kernel
theorem d_JPreconditions_checkIndex_11 : decode prog_33_method_11_code 11 = .ok (.iload_n 1, 1) := by decide +kernel
theorem d_JPreconditions_checkIndex_12 : decode prog_33_method_11_code 12 = .ok (.invokestatic 95, 3) := by decide +kernel
theorem d_JPreconditions_checkIndex_15 : decode prog_33_method_11_code 15 = .ok (.athrow, 1) := by decide +kernel
theorem d_JPreconditions_checkIndex_16 : decode prog_33_method_11_code 16 = .ok (.iload_n 0, 1) := by decide +kernel
theorem d_JPreconditions_checkIndex_17 : decode prog_33_method_11_code 17 = .ok (.ireturn, 1) := by decide +kernel
theorem d_JArrayList_elementData_0 : decode prog_24_method_18_code 0 = .ok (.aload_n 0, 1) := by decide +kernel
theorem d_JArrayList_elementData_1 : decode prog_24_method_18_code 1 = .ok (.getfield 9, 3) := by decide +kernel
theorem d_JArrayList_elementData_4 : decode prog_24_method_18_code 4 = .ok (.iload_n 1, 1) := by decide +kernel
theorem d_JArrayList_elementData_5 : decode prog_24_method_18_code 5 = .ok (.aaload, 1) := by decide +kernel
theorem d_JArrayList_elementData_6 : decode prog_24_method_18_code 6 = .ok (.areturn, 1) := by decide +kernel
theorem d_JThrowable_init_0_0 : decode prog_21_method_1_code 0 = .ok (.aload_n 0, 1) := by decide +kernel
theorem d_JThrowable_init_0_1 : decode prog_21_method_1_code 1 = .ok (.invokespecial 1, 3) := by decide +kernel
theorem d_JThrowable_init_0_4 : decode prog_21_method_1_code 4 = .ok (.aload_n 0, 1) := by decide +kernel
theorem d_JThrowable_init_0_5 : decode prog_21_method_1_code 5 = .ok (.aload_n 0, 1) := by decide +kernel
theorem d_JThrowable_init_0_6 : decode prog_21_method_1_code 6 = .ok (.putfield 7, 3) := by decide +kernel
theorem d_JThrowable_init_0_9 : decode prog_21_method_1_code 9 = .ok (.aload_n 0, 1) := by decide +kernel
theorem d_JThrowable_init_0_10 : decode prog_21_method_1_code 10 = .ok (.getstatic 13, 3) := by decide +kernel
theorem d_JThrowable_init_0_13 : decode prog_21_method_1_code 13 = .ok (.putfield 17, 3) := by decide +kernel
theorem d_JThrowable_init_0_16 : decode prog_21_method_1_code 16 = .ok (.aload_n 0, 1) := by decide +kernel
theorem d_JThrowable_init_0_17 : decode prog_21_method_1_code 17 = .ok (.getstatic 20, 3) := by decide +kernel
theorem d_JThrowable_init_0_20 : decode prog_21_method_1_code 20 = .ok (.putfield 24, 3) := by decide +kernel
theorem d_JThrowable_init_0_23 : decode prog_21_method_1_code 23 = .ok (.aload_n 0, 1) := by decide +kernel
theorem d_JThrowable_init_0_24 : decode prog_21_method_1_code 24 = .ok (.invokevirtual 27, 3) := by decide +kernel
theorem d_JThrowable_init_0_27 : decode prog_21_method_1_code 27 = .ok (.pop, 1) := by decide +kernel
theorem d_JThrowable_init_0_28 : decode prog_21_method_1_code 28 = .ok (.return_, 1) := by decide +kernel
theorem d_JIllegalStateException_init_0 : decode prog_15_method_2_code 0 = .ok (.aload_n 0, 1) := by decide +kernel
theorem d_JIllegalStateException_init_1 : decode prog_15_method_2_code 1 = .ok (.aload_n 1, 1) := by decide +kernel
theorem d_JIllegalStateException_init_2 : decode prog_15_method_2_code 2 = .ok (.invokespecial 7, 3) := by decide +kernel
theorem d_JIllegalStateException_init_5 : decode prog_15_method_2_code 5 = .ok (.return_, 1) := by decide +kernel
theorem d_JRuntimeException_init_0 : decode prog_18_method_2_code 0 = .ok (.aload_n 0, 1) := by decide +kernel
theorem d_JRuntimeException_init_1 : decode prog_18_method_2_code 1 = .ok (.aload_n 1, 1) := by decide +kernel
theorem d_JRuntimeException_init_2 : decode prog_18_method_2_code 2 = .ok (.invokespecial 7, 3) := by decide +kernel
theorem d_JRuntimeException_init_5 : decode prog_18_method_2_code 5 = .ok (.return_, 1) := by decide +kernel
theorem d_JException_init_0 : decode prog_14_method_2_code 0 = .ok (.aload_n 0, 1) := by decide +kernel
theorem d_JException_init_1 : decode prog_14_method_2_code 1 = .ok (.aload_n 1, 1) := by decide +kernel
theorem d_JException_init_2 : decode prog_14_method_2_code 2 = .ok (.invokespecial 7, 3) := by decide +kernel
theorem d_JException_init_5 : decode prog_14_method_2_code 5 = .ok (.return_, 1) := by decide +kernel
theorem d_JThrowable_init_1_0 : decode prog_21_method_2_code 0 = .ok (.aload_n 0, 1) := by decide +kernel
theorem d_JThrowable_init_1_1 : decode prog_21_method_2_code 1 = .ok (.invokespecial 1, 3) := by decide +kernel
theorem d_JThrowable_init_1_4 : decode prog_21_method_2_code 4 = .ok (.aload_n 0, 1) := by decide +kernel
theorem d_JThrowable_init_1_5 : decode prog_21_method_2_code 5 = .ok (.aload_n 0, 1) := by decide +kernel
theorem d_JThrowable_init_1_6 : decode prog_21_method_2_code 6 = .ok (.putfield 7, 3) := by decide +kernel
theorem d_JThrowable_init_1_9 : decode prog_21_method_2_code 9 = .ok (.aload_n 0, 1) := by decide +kernel
theorem d_JThrowable_init_1_10 : decode prog_21_method_2_code 10 = .ok (.getstatic 13, 3) := by decide +kernel
theorem d_JThrowable_init_1_13 : decode prog_21_method_2_code 13 = .ok (.putfield 17, 3) := by decide +kernel
theorem d_JThrowable_init_1_16 : decode prog_21_method_2_code 16 = .ok (.aload_n 0, 1) := by decide +kernel
theorem d_JThrowable_init_1_17 : decode prog_21_method_2_code 17 = .ok (.getstatic 20, 3) := by decide +kernel
theorem d_JThrowable_init_1_20 : decode prog_21_method_2_code 20 = .ok (.putfield 24, 3) := by decide +kernel
theorem d_JThrowable_init_1_23 : decode prog_21_method_2_code 23 = .ok (.aload_n 0, 1) := by decide +kernel
theorem d_JThrowable_init_1_24 : decode prog_21_method_2_code 24 = .ok (.invokevirtual 27, 3) := by decide +kernel
theorem d_JThrowable_init_1_27 : decode prog_21_method_2_code 27 = .ok (.pop, 1) := by decide +kernel
theorem d_JThrowable_init_1_28 : decode prog_21_method_2_code 28 = .ok (.aload_n 0, 1) := by decide +kernel
theorem d_JThrowable_init_1_29 : decode prog_21_method_2_code 29 = .ok (.aload_n 1, 1) := by decide +kernel
theorem d_JThrowable_init_1_30 : decode prog_21_method_2_code 30 = .ok (.putfield 31, 3) := by decide +kernel
theorem d_JThrowable_init_1_33 : decode prog_21_method_2_code 33 = .ok (.return_, 1) := by decide +kernel
theorem d_JArrays_copyOf_3_0 : decode prog_25_method_124_code 0 = .ok (.iload_n 1, 1) := by decide +kernel
theorem d_JArrays_copyOf_3_1 : decode prog_25_method_124_code 1 = .ok (.aload_n 0, 1) := by decide +kernel
theorem d_JArrays_copyOf_3_2 : decode prog_25_method_124_code 2 = .ok (.arraylength, 1) := by decide +kernel
theorem d_JArrays_copyOf_3_3 : decode prog_25_method_124_code 3 = .ok (.if_icmp .ne 11, 3) := by decide +kernel
theorem d_JArrays_copyOf_3_6 : decode prog_25_method_124_code 6 = .ok (.aload_n 0, 1) := by decide +kernel
theorem d_JArrays_copyOf_3_7 : decode prog_25_method_124_code 7 = .ok (.invokevirtual 319, 3) := by decide +kernel
theorem d_JArrays_copyOf_3_10 : decode prog_25_method_124_code 10 = .ok (.checkcast 320, 3) := by decide +kernel
theorem d_JArrays_copyOf_3_13 : decode prog_25_method_124_code 13 = .ok (.areturn, 1) := by decide +kernel
theorem d_JArrays_copyOf_3_14 : decode prog_25_method_124_code 14 = .ok (.iload_n 1, 1) := by decide +kernel
theorem d_JArrays_copyOf_3_15 : decode prog_25_method_124_code 15 = .ok (.newarray .long, 2) := by decide +kernel
theorem d_JArrays_copyOf_3_17 : decode prog_25_method_124_code 17 = .ok (.astore_n 2, 1) := by decide +kernel
theorem d_JArrays_copyOf_3_18 : decode prog_25_method_124_code 18 = .ok (.aload_n 0, 1) := by decide +kernel
theorem d_JArrays_copyOf_3_19 : decode prog_25_method_124_code 19 = .ok (.iconst 0, 1) := by decide +kernel
theorem d_JArrays_copyOf_3_20 : decode prog_25_method_124_code 20 = .ok (.aload_n 2, 1) := by decide +kernel
theorem d_JArrays_copyOf_3_21 : decode prog_25_method_124_code 21 = .ok (.iconst 0, 1) := by decide +kernel
theorem d_JArrays_copyOf_3_22 : decode prog_25_method_124_code 22 = .ok (.aload_n 0, 1) := by decide +kernel
theorem d_JArrays_copyOf_3_23 : decode prog_25_method_124_code 23 = .ok (.arraylength, 1) := by decide +kernel
theorem d_JArrays_copyOf_3_24 : decode prog_25_method_124_code 24 = .ok (.iload_n 1, 1) := by decide +kernel
theorem d_JArrays_copyOf_3_25 : decode prog_25_method_124_code 25 = .ok (.invokestatic 304, 3) := by decide +kernel
theorem d_JArrays_copyOf_3_28 : decode prog_25_method_124_code 28 = .ok (.invokestatic 150, 3) := by decide +kernel
theorem d_JArrays_copyOf_3_31 : decode prog_25_method_124_code 31 = .ok (.aload_n 2, 1) := by decide +kernel
theorem d_JArrays_copyOf_3_32 : decode prog_25_method_124_code 32 = .ok (.areturn, 1) := by decide +kernel
theorem d_JArrays_copyOf_4_0 : decode prog_25_method_123_code 0 = .ok (.iload_n 1, 1) := by decide +kernel
theorem d_JArrays_copyOf_4_1 : decode prog_25_method_123_code 1 = .ok (.aload_n 0, 1) := by decide +kernel
theorem d_JArrays_copyOf_4_2 : decode prog_25_method_123_code 2 = .ok (.arraylength, 1) := by decide +kernel
theorem d_JArrays_copyOf_4_3 : decode prog_25_method_123_code 3 = .ok (.if_icmp .ne 11, 3) := by decide +kernel
theorem d_JArrays_copyOf_4_6 : decode prog_25_method_123_code 6 = .ok (.aload_n 0, 1) := by decide +kernel
theorem d_JArrays_copyOf_4_7 : decode prog_25_method_123_code 7 = .ok (.invokevirtual 316, 3) := by decide +kernel
theorem d_JArrays_copyOf_4_10 : decode prog_25_method_123_code 10 = .ok (.checkcast 317, 3) := by decide +kernel
theorem d_JArrays_copyOf_4_13 : decode prog_25_method_123_code 13 = .ok (.areturn, 1) := by decide +kernel
theorem d_JArrays_copyOf_4_14 : decode prog_25_method_123_code 14 = .ok (.iload_n 1, 1) := by decide +kernel
theorem d_JArrays_copyOf_4_15 : decode prog_25_method_123_code 15 = .ok (.newarray .int, 2) := by decide +kernel
theorem d_JArrays_copyOf_4_17 : decode prog_25_method_123_code 17 = .ok (.astore_n 2, 1) := by decide +kernel
theorem d_JArrays_copyOf_4_18 : decode prog_25_method_123_code 18 = .ok (.aload_n 0, 1) := by decide +kernel
theorem d_JArrays_copyOf_4_19 : decode prog_25_method_123_code 19 = .ok (.iconst 0, 1) := by decide +kernel
theorem d_JArrays_copyOf_4_20 : decode prog_25_method_123_code 20 = .ok (.aload_n 2, 1) := by decide +kernel
theorem d_JArrays_copyOf_4_21 : decode prog_25_method_123_code 21 = .ok (.iconst 0, 1) := by decide +kernel
theorem d_JArrays_copyOf_4_22 : decode prog_25_method_123_code 22 = .ok (.aload_n 0, 1) := by decide +kernel
theorem d_JArrays_copyOf_4_23 : decode prog_25_method_123_code 23 = .ok (.arraylength, 1) := by decide +kernel
theorem d_JArrays_copyOf_4_24 : decode prog_25_method_123_code 24 = .ok (.iload_n 1, 1) := by decide +kernel
theorem d_JArrays_copyOf_4_25 : decode prog_25_method_123_code 25 = .ok (.invokestatic 304, 3) := by decide +kernel
theorem d_JArrays_copyOf_4_28 : decode prog_25_method_123_code 28 = .ok (.invokestatic 150, 3) := by decide +kernel
theorem d_JArrays_copyOf_4_31 : decode prog_25_method_123_code 31 = .ok (.aload_n 2, 1) := by decide +kernel
theorem d_JArrays_copyOf_4_32 : decode prog_25_method_123_code 32 = .ok (.areturn, 1) := by decide +kernel
theorem d_JNoSuchElementException_init_0 : decode prog_28_method_4_code 0 = .ok (.aload_n 0, 1) := by decide +kernel
theorem d_JNoSuchElementException_init_1 : decode prog_28_method_4_code 1 = .ok (.aload_n 1, 1) := by decide +kernel
theorem d_JNoSuchElementException_init_2 : decode prog_28_method_4_code 2 = .ok (.invokespecial 13, 3) := by decide +kernel
theorem d_JNoSuchElementException_init_5 : decode prog_28_method_4_code 5 = .ok (.return_, 1) := by decide +kernel
end
section
theorem d_M_init_0 : decode prog_11_method_1_code 0 = .ok (.aload_n 0, 1) := by decide +kernel
theorem d_M_init_1 : decode prog_11_method_1_code 1 = .ok (.invokespecial 1, 3) := by decide +kernel
theorem d_M_init_4 : decode prog_11_method_1_code 4 = .ok (.aload_n 0, 1) := by decide +kernel
theorem d_M_init_5 : decode prog_11_method_1_code 5 = .ok (.bipush 32, 2) := by decide +kernel
theorem d_M_init_7 : decode prog_11_method_1_code 7 = .ok (.newarray .boolean, 2) := by decide +kernel
theorem d_M_init_9 : decode prog_11_method_1_code 9 = .ok (.putfield 7, 3) := by decide +kernel
theorem d_M_init_12 : decode prog_11_method_1_code 12 = .ok (.aload_n 0, 1) := by decide +kernel
theorem d_M_init_13 : decode prog_11_method_1_code 13 = .ok (.sipush 128, 3) := by decide +kernel
theorem d_M_init_16 : decode prog_11_method_1_code 16 = .ok (.newarray .boolean, 2) := by decide +kernel
theorem d_M_init_18 : decode prog_11_method_1_code 18 = .ok (.putfield 13, 3) := by decide +kernel
theorem d_M_init_21 : decode prog_11_method_1_code 21 = .ok (.aload_n 0, 1) := by decide +kernel
theorem d_M_init_22 : decode prog_11_method_1_code 22 = .ok (.bipush 32, 2) := by decide +kernel
theorem d_M_init_24 : decode prog_11_method_1_code 24 = .ok (.newarray .boolean, 2) := by decide +kernel
theorem d_M_init_26 : decode prog_11_method_1_code 26 = .ok (.putfield 16, 3) := by decide +kernel
theorem d_M_init_29 : decode prog_11_method_1_code 29 = .ok (.aload_n 0, 1) := by decide +kernel
theorem d_M_init_30 : decode prog_11_method_1_code 30 = .ok (.sipush 128, 3) := by decide +kernel
theorem d_M_init_33 : decode prog_11_method_1_code 33 = .ok (.newarray .boolean, 2) := by decide +kernel
theorem d_M_init_35 : decode prog_11_method_1_code 35 = .ok (.putfield 19, 3) := by decide +kernel
theorem d_M_init_38 : decode prog_11_method_1_code 38 = .ok (.aload_n 0, 1) := by decide +kernel
theorem d_M_init_39 : decode prog_11_method_1_code 39 = .ok (.sipush 128, 3) := by decide +kernel
theorem d_M_init_42 : decode prog_11_method_1_code 42 = .ok (.newarray .int, 2) := by decide +kernel
theorem d_M_init_44 : decode prog_11_method_1_code 44 = .ok (.putfield 22, 3) := by decide +kernel
theorem d_M_init_47 : decode prog_11_method_1_code 47 = .ok (.aload_n 0, 1) := by decide +kernel
theorem d_M_init_48 : decode prog_11_method_1_code 48 = .ok (.sipush 128, 3) := by decide +kernel
theorem d_M_init_51 : decode prog_11_method_1_code 51 = .ok (.newarray .int, 2) := by decide +kernel
theorem d_M_init_53 : decode prog_11_method_1_code 53 = .ok (.putfield 26, 3) := by decide +kernel
theorem d_M_init_56 : decode prog_11_method_1_code 56 = .ok (.aload_n 0, 1) := by decide +kernel
theorem d_M_init_57 : decode prog_11_method_1_code 57 = .ok (.sipush 128, 3) := by decide +kernel
theorem d_M_init_60 : decode prog_11_method_1_code 60 = .ok (.newarray .int, 2) := by decide +kernel
theorem d_M_init_62 : decode prog_11_method_1_code 62 = .ok (.putfield 29, 3) := by decide +kernel
theorem d_M_init_65 : decode prog_11_method_1_code 65 = .ok (.aload_n 0, 1) := by decide +kernel
theorem d_M_init_66 : decode prog_11_method_1_code 66 = .ok (.ldc 32, 2) := by decide +kernel
theorem d_M_init_68 : decode prog_11_method_1_code 68 = .ok (.newarray .byte, 2) := by decide +kernel
theorem d_M_init_70 : decode prog_11_method_1_code 70 = .ok (.putfield 33, 3) := by decide +kernel
theorem d_M_init_73 : decode prog_11_method_1_code 73 = .ok (.aload_n 0, 1) := by decide +kernel
theorem d_M_init_74 : decode prog_11_method_1_code 74 = .ok (.sipush 2048, 3) := by decide +kernel
theorem d_M_init_77 : decode prog_11_method_1_code 77 = .ok (.newarray .long, 2) := by decide +kernel
theorem d_M_init_79 : decode prog_11_method_1_code 79 = .ok (.putfield 37, 3) := by decide +kernel
theorem d_M_init_82 : decode prog_11_method_1_code 82 = .ok (.aload_n 0, 1) := by decide +kernel
theorem d_M_init_83 : decode prog_11_method_1_code 83 = .ok (.sipush 2048, 3) := by decide +kernel
theorem d_M_init_86 : decode prog_11_method_1_code 86 = .ok (.newarray .int, 2) := by decide +kernel
theorem d_M_init_88 : decode prog_11_method_1_code 88 = .ok (.putfield 41, 3) := by decide +kernel
theorem d_M_init_91 : decode prog_11_method_1_code 91 = .ok (.aload_n 0, 1) := by decide +kernel
theorem d_M_init_92 : decode prog_11_method_1_code 92 = .ok (.sipush 2048, 3) := by decide +kernel
theorem d_M_init_95 : decode prog_11_method_1_code 95 = .ok (.newarray .int, 2) := by decide +kernel
theorem d_M_init_97 : decode prog_11_method_1_code 97 = .ok (.putfield 44, 3) := by decide +kernel
theorem d_M_init_100 : decode prog_11_method_1_code 100 = .ok (.aload_n 0, 1) := by decide +kernel
theorem d_M_init_101 : decode prog_11_method_1_code 101 = .ok (.sipush 2048, 3) := by decide +kernel
theorem d_M_init_104 : decode prog_11_method_1_code 104 = .ok (.newarray .int, 2) := by decide +kernel
theorem d_M_init_106 : decode prog_11_method_1_code 106 = .ok (.putfield 47, 3) := by decide +kernel
theorem d_M_init_109 : decode prog_11_method_1_code 109 = .ok (.aload_n 0, 1) := by decide +kernel
theorem d_M_init_110 : decode prog_11_method_1_code 110 = .ok (.sipush 2048, 3) := by decide +kernel
theorem d_M_init_113 : decode prog_11_method_1_code 113 = .ok (.newarray .int, 2) := by decide +kernel
theorem d_M_init_115 : decode prog_11_method_1_code 115 = .ok (.putfield 50, 3) := by decide +kernel
theorem d_M_init_118 : decode prog_11_method_1_code 118 = .ok (.aload_n 0, 1) := by decide +kernel
theorem d_M_init_119 : decode prog_11_method_1_code 119 = .ok (.sipush 2048, 3) := by decide +kernel
theorem d_M_init_122 : decode prog_11_method_1_code 122 = .ok (.newarray .int, 2) := by decide +kernel
theorem d_M_init_124 : decode prog_11_method_1_code 124 = .ok (.putfield 53, 3) := by decide +kernel
theorem d_M_init_127 : decode prog_11_method_1_code 127 = .ok (.aload_n 0, 1) := by decide +kernel
theorem d_M_init_128 : decode prog_11_method_1_code 128 = .ok (.sipush 2048, 3) := by decide +kernel
theorem d_M_init_131 : decode prog_11_method_1_code 131 = .ok (.newarray .int, 2) := by decide +kernel
theorem d_M_init_133 : decode prog_11_method_1_code 133 = .ok (.putfield 56, 3) := by decide +kernel
theorem d_M_init_136 : decode prog_11_method_1_code 136 = .ok (.aload_n 0, 1) := by decide +kernel
theorem d_M_init_137 : decode prog_11_method_1_code 137 = .ok (.bipush 33, 2) := by decide +kernel
theorem d_M_init_139 : decode prog_11_method_1_code 139 = .ok (.newarray .int, 2) := by decide +kernel
theorem d_M_init_141 : decode prog_11_method_1_code 141 = .ok (.putfield 59, 3) := by decide +kernel
theorem d_M_init_144 : decode prog_11_method_1_code 144 = .ok (.aload_n 0, 1) := by decide +kernel
theorem d_M_init_145 : decode prog_11_method_1_code 145 = .ok (.sipush 4096, 3) := by decide +kernel
theorem d_M_init_148 : decode prog_11_method_1_code 148 = .ok (.newarray .int, 2) := by decide +kernel
theorem d_M_init_150 : decode prog_11_method_1_code 150 = .ok (.putfield 62, 3) := by decide +kernel
theorem d_M_init_153 : decode prog_11_method_1_code 153 = .ok (.aload_n 0, 1) := by decide +kernel
theorem d_M_init_154 : decode prog_11_method_1_code 154 = .ok (.sipush 4096, 3) := by decide +kernel
theorem d_M_init_157 : decode prog_11_method_1_code 157 = .ok (.newarray .int, 2) := by decide +kernel
theorem d_M_init_159 : decode prog_11_method_1_code 159 = .ok (.putfield 65, 3) := by decide +kernel
theorem d_M_init_162 : decode prog_11_method_1_code 162 = .ok (.aload_n 0, 1) := by decide +kernel
theorem d_M_init_163 : decode prog_11_method_1_code 163 = .ok (.sipush 4096, 3) := by decide +kernel
theorem d_M_init_166 : decode prog_11_method_1_code 166 = .ok (.newarray .int, 2) := by decide +kernel
theorem d_M_init_168 : decode prog_11_method_1_code 168 = .ok (.putfield 68, 3) := by decide +kernel
theorem d_M_init_171 : decode prog_11_method_1_code 171 = .ok (.aload_n 0, 1) := by decide +kernel
theorem d_M_init_172 : decode prog_11_method_1_code 172 = .ok (.sipush 4096, 3) := by decide +kernel
theorem d_M_init_175 : decode prog_11_method_1_code 175 = .ok (.newarray .int, 2) := by decide +kernel
theorem d_M_init_177 : decode prog_11_method_1_code 177 = .ok (.putfield 71, 3) := by decide +kernel
theorem d_M_init_180 : decode prog_11_method_1_code 180 = .ok (.aload_n 0, 1) := by decide +kernel
theorem d_M_init_181 : decode prog_11_method_1_code 181 = .ok (.sipush 4096, 3) := by decide +kernel
theorem d_M_init_184 : decode prog_11_method_1_code 184 = .ok (.newarray .int, 2) := by decide +kernel
theorem d_M_init_186 : decode prog_11_method_1_code 186 = .ok (.putfield 74, 3) := by decide +kernel
theorem d_M_init_189 : decode prog_11_method_1_code 189 = .ok (.aload_n 0, 1) := by decide +kernel
theorem d_M_init_190 : decode prog_11_method_1_code 190 = .ok (.sipush 4096, 3) := by decide +kernel
theorem d_M_init_193 : decode prog_11_method_1_code 193 = .ok (.newarray .int, 2) := by decide +kernel
theorem d_M_init_195 : decode prog_11_method_1_code 195 = .ok (.putfield 77, 3) := by decide +kernel
theorem d_M_init_198 : decode prog_11_method_1_code 198 = .ok (.aload_n 0, 1) := by decide +kernel
theorem d_M_init_199 : decode prog_11_method_1_code 199 = .ok (.sipush 4096, 3) := by decide +kernel
theorem d_M_init_202 : decode prog_11_method_1_code 202 = .ok (.newarray .int, 2) := by decide +kernel
theorem d_M_init_204 : decode prog_11_method_1_code 204 = .ok (.putfield 80, 3) := by decide +kernel
theorem d_M_init_207 : decode prog_11_method_1_code 207 = .ok (.aload_n 0, 1) := by decide +kernel
theorem d_M_init_208 : decode prog_11_method_1_code 208 = .ok (.sipush 4096, 3) := by decide +kernel
theorem d_M_init_211 : decode prog_11_method_1_code 211 = .ok (.newarray .long, 2) := by decide +kernel
theorem d_M_init_213 : decode prog_11_method_1_code 213 = .ok (.putfield 83, 3) := by decide +kernel
theorem d_M_init_216 : decode prog_11_method_1_code 216 = .ok (.aload_n 0, 1) := by decide +kernel
theorem d_M_init_217 : decode prog_11_method_1_code 217 = .ok (.sipush 8192, 3) := by decide +kernel
theorem d_M_init_220 : decode prog_11_method_1_code 220 = .ok (.newarray .int, 2) := by decide +kernel
theorem d_M_init_222 : decode prog_11_method_1_code 222 = .ok (.putfield 86, 3) := by decide +kernel
theorem d_M_init_225 : decode prog_11_method_1_code 225 = .ok (.aload_n 0, 1) := by decide +kernel
theorem d_M_init_226 : decode prog_11_method_1_code 226 = .ok (.sipush 8192, 3) := by decide +kernel
theorem d_M_init_229 : decode prog_11_method_1_code 229 = .ok (.newarray .int, 2) := by decide +kernel
theorem d_M_init_231 : decode prog_11_method_1_code 231 = .ok (.putfield 89, 3) := by decide +kernel
theorem d_M_init_234 : decode prog_11_method_1_code 234 = .ok (.aload_n 0, 1) := by decide +kernel
theorem d_M_init_235 : decode prog_11_method_1_code 235 = .ok (.sipush 8192, 3) := by decide +kernel
theorem d_M_init_238 : decode prog_11_method_1_code 238 = .ok (.newarray .int, 2) := by decide +kernel
theorem d_M_init_240 : decode prog_11_method_1_code 240 = .ok (.putfield 92, 3) := by decide +kernel
theorem d_M_init_243 : decode prog_11_method_1_code 243 = .ok (.aload_n 0, 1) := by decide +kernel
theorem d_M_init_244 : decode prog_11_method_1_code 244 = .ok (.iconst (-1), 1) := by decide +kernel
theorem d_M_init_245 : decode prog_11_method_1_code 245 = .ok (.putfield 95, 3) := by decide +kernel
theorem d_M_init_248 : decode prog_11_method_1_code 248 = .ok (.aload_n 0, 1) := by decide +kernel
theorem d_M_init_249 : decode prog_11_method_1_code 249 = .ok (.sipush 128, 3) := by decide +kernel
theorem d_M_init_252 : decode prog_11_method_1_code 252 = .ok (.newarray .boolean, 2) := by decide +kernel
theorem d_M_init_254 : decode prog_11_method_1_code 254 = .ok (.putfield 99, 3) := by decide +kernel
theorem d_M_init_257 : decode prog_11_method_1_code 257 = .ok (.aload_n 0, 1) := by decide +kernel
theorem d_M_init_258 : decode prog_11_method_1_code 258 = .ok (.ldc 32, 2) := by decide +kernel
theorem d_M_init_260 : decode prog_11_method_1_code 260 = .ok (.newarray .byte, 2) := by decide +kernel
theorem d_M_init_262 : decode prog_11_method_1_code 262 = .ok (.putfield 102, 3) := by decide +kernel
theorem d_M_init_265 : decode prog_11_method_1_code 265 = .ok (.aload_n 0, 1) := by decide +kernel
theorem d_M_init_266 : decode prog_11_method_1_code 266 = .ok (.bipush 7, 2) := by decide +kernel
theorem d_M_init_268 : decode prog_11_method_1_code 268 = .ok (.newarray .int, 2) := by decide +kernel
theorem d_M_init_270 : decode prog_11_method_1_code 270 = .ok (.putfield 105, 3) := by decide +kernel
theorem d_M_init_273 : decode prog_11_method_1_code 273 = .ok (.aload_n 0, 1) := by decide +kernel
theorem d_M_init_274 : decode prog_11_method_1_code 274 = .ok (.sipush 2048, 3) := by decide +kernel
theorem d_M_init_277 : decode prog_11_method_1_code 277 = .ok (.newarray .long, 2) := by decide +kernel
theorem d_M_init_279 : decode prog_11_method_1_code 279 = .ok (.putfield 108, 3) := by decide +kernel
theorem d_M_init_282 : decode prog_11_method_1_code 282 = .ok (.aload_n 0, 1) := by decide +kernel
theorem d_M_init_283 : decode prog_11_method_1_code 283 = .ok (.sipush 2048, 3) := by decide +kernel
theorem d_M_init_286 : decode prog_11_method_1_code 286 = .ok (.newarray .int, 2) := by decide +kernel
theorem d_M_init_288 : decode prog_11_method_1_code 288 = .ok (.putfield 111, 3) := by decide +kernel
theorem d_M_init_291 : decode prog_11_method_1_code 291 = .ok (.aload_n 0, 1) := by decide +kernel
theorem d_M_init_292 : decode prog_11_method_1_code 292 = .ok (.sipush 2048, 3) := by decide +kernel
theorem d_M_init_295 : decode prog_11_method_1_code 295 = .ok (.newarray .int, 2) := by decide +kernel
theorem d_M_init_297 : decode prog_11_method_1_code 297 = .ok (.putfield 114, 3) := by decide +kernel
theorem d_M_init_300 : decode prog_11_method_1_code 300 = .ok (.aload_n 0, 1) := by decide +kernel
theorem d_M_init_301 : decode prog_11_method_1_code 301 = .ok (.sipush 8192, 3) := by decide +kernel
theorem d_M_init_304 : decode prog_11_method_1_code 304 = .ok (.newarray .int, 2) := by decide +kernel
theorem d_M_init_306 : decode prog_11_method_1_code 306 = .ok (.putfield 117, 3) := by decide +kernel
theorem d_M_init_309 : decode prog_11_method_1_code 309 = .ok (.aload_n 0, 1) := by decide +kernel
theorem d_M_init_310 : decode prog_11_method_1_code 310 = .ok (.sipush 8192, 3) := by decide +kernel
theorem d_M_init_313 : decode prog_11_method_1_code 313 = .ok (.newarray .int, 2) := by decide +kernel
theorem d_M_init_315 : decode prog_11_method_1_code 315 = .ok (.putfield 120, 3) := by decide +kernel
theorem d_M_init_318 : decode prog_11_method_1_code 318 = .ok (.return_, 1) := by decide +kernel
theorem d_M_thrown_0 : decode prog_11_method_2_code 0 = .ok (.aload_n 0, 1) := by decide +kernel
theorem d_M_thrown_1 : decode prog_11_method_2_code 1 = .ok (.getfield 123, 3) := by decide +kernel
theorem d_M_thrown_4 : decode prog_11_method_2_code 4 = .ok (.ireturn, 1) := by decide +kernel
theorem d_M_clear_0 : decode prog_11_method_4_code 0 = .ok (.aload_n 0, 1) := by decide +kernel
theorem d_M_clear_1 : decode prog_11_method_4_code 1 = .ok (.iconst 0, 1) := by decide +kernel
theorem d_M_clear_2 : decode prog_11_method_4_code 2 = .ok (.putfield 123, 3) := by decide +kernel
theorem d_M_clear_5 : decode prog_11_method_4_code 5 = .ok (.aload_n 0, 1) := by decide +kernel
theorem d_M_clear_6 : decode prog_11_method_4_code 6 = .ok (.iconst 0, 1) := by decide +kernel
theorem d_M_clear_7 : decode prog_11_method_4_code 7 = .ok (.putfield 126, 3) := by decide +kernel
theorem d_M_clear_10 : decode prog_11_method_4_code 10 = .ok (.aload_n 0, 1) := by decide +kernel
theorem d_M_clear_11 : decode prog_11_method_4_code 11 = .ok (.iconst 0, 1) := by decide +kernel
theorem d_M_clear_12 : decode prog_11_method_4_code 12 = .ok (.putfield 129, 3) := by decide +kernel
theorem d_M_clear_15 : decode prog_11_method_4_code 15 = .ok (.aload_n 0, 1) := by decide +kernel
theorem d_M_clear_16 : decode prog_11_method_4_code 16 = .ok (.iconst 0, 1) := by decide +kernel
theorem d_M_clear_17 : decode prog_11_method_4_code 17 = .ok (.putfield 132, 3) := by decide +kernel
theorem d_M_clear_20 : decode prog_11_method_4_code 20 = .ok (.aload_n 0, 1) := by decide +kernel
theorem d_M_clear_21 : decode prog_11_method_4_code 21 = .ok (.iconst 0, 1) := by decide +kernel
theorem d_M_clear_22 : decode prog_11_method_4_code 22 = .ok (.putfield 135, 3) := by decide +kernel
theorem d_M_clear_25 : decode prog_11_method_4_code 25 = .ok (.aload_n 0, 1) := by decide +kernel
theorem d_M_clear_26 : decode prog_11_method_4_code 26 = .ok (.iconst 0, 1) := by decide +kernel
theorem d_M_clear_27 : decode prog_11_method_4_code 27 = .ok (.putfield 138, 3) := by decide +kernel
theorem d_M_clear_30 : decode prog_11_method_4_code 30 = .ok (.aload_n 0, 1) := by decide +kernel
theorem d_M_clear_31 : decode prog_11_method_4_code 31 = .ok (.iconst 0, 1) := by decide +kernel
theorem d_M_clear_32 : decode prog_11_method_4_code 32 = .ok (.putfield 141, 3) := by decide +kernel
theorem d_M_clear_35 : decode prog_11_method_4_code 35 = .ok (.return_, 1) := by decide +kernel
theorem d_M_unit_0 : decode prog_11_method_7_code 0 = .ok (.aload_n 0, 1) := by decide +kernel
theorem d_M_unit_1 : decode prog_11_method_7_code 1 = .ok (.iconst 0, 1) := by decide +kernel
theorem d_M_unit_2 : decode prog_11_method_7_code 2 = .ok (.putfield 123, 3) := by decide +kernel
theorem d_M_unit_5 : decode prog_11_method_7_code 5 = .ok (.iload_n 2, 1) := by decide +kernel
theorem d_M_unit_6 : decode prog_11_method_7_code 6 = .ok (.invokestatic 146, 3) := by decide +kernel
theorem d_M_unit_9 : decode prog_11_method_7_code 9 = .ok (.ifCond .eq 51, 3) := by decide +kernel
theorem d_M_unit_12 : decode prog_11_method_7_code 12 = .ok (.iload_n 3, 1) := by decide +kernel
theorem d_M_unit_13 : decode prog_11_method_7_code 13 = .ok (.invokestatic 146, 3) := by decide +kernel
theorem d_M_unit_16 : decode prog_11_method_7_code 16 = .ok (.ifCond .eq 44, 3) := by decide +kernel
theorem d_M_unit_19 : decode prog_11_method_7_code 19 = .ok (.iload 4, 2) := by decide +kernel
theorem d_M_unit_21 : decode prog_11_method_7_code 21 = .ok (.invokestatic 146, 3) := by decide +kernel
theorem d_M_unit_24 : decode prog_11_method_7_code 24 = .ok (.ifCond .eq 36, 3) := by decide +kernel
theorem d_M_unit_27 : decode prog_11_method_7_code 27 = .ok (.iload 5, 2) := by decide +kernel
theorem d_M_unit_29 : decode prog_11_method_7_code 29 = .ok (.invokestatic 146, 3) := by decide +kernel
theorem d_M_unit_32 : decode prog_11_method_7_code 32 = .ok (.ifCond .eq 28, 3) := by decide +kernel
theorem d_M_unit_35 : decode prog_11_method_7_code 35 = .ok (.aload_n 0, 1) := by decide +kernel
theorem d_M_unit_36 : decode prog_11_method_7_code 36 = .ok (.getfield 126, 3) := by decide +kernel
theorem d_M_unit_39 : decode prog_11_method_7_code 39 = .ok (.bipush 32, 2) := by decide +kernel
theorem d_M_unit_41 : decode prog_11_method_7_code 41 = .ok (.if_icmp .eq 19, 3) := by decide +kernel
theorem d_M_unit_44 : decode prog_11_method_7_code 44 = .ok (.aload_n 0, 1) := by decide +kernel
theorem d_M_unit_45 : decode prog_11_method_7_code 45 = .ok (.getfield 138, 3) := by decide +kernel
theorem d_M_unit_48 : decode prog_11_method_7_code 48 = .ok (.iload_n 2, 1) := by decide +kernel
theorem d_M_unit_49 : decode prog_11_method_7_code 49 = .ok (.iadd, 1) := by decide +kernel
theorem d_M_unit_50 : decode prog_11_method_7_code 50 = .ok (.iload_n 3, 1) := by decide +kernel
theorem d_M_unit_51 : decode prog_11_method_7_code 51 = .ok (.iadd, 1) := by decide +kernel
theorem d_M_unit_52 : decode prog_11_method_7_code 52 = .ok (.iload 4, 2) := by decide +kernel
theorem d_M_unit_54 : decode prog_11_method_7_code 54 = .ok (.iadd, 1) := by decide +kernel
theorem d_M_unit_55 : decode prog_11_method_7_code 55 = .ok (.ldc 32, 2) := by decide +kernel
theorem d_M_unit_57 : decode prog_11_method_7_code 57 = .ok (.if_icmp .le 5, 3) := by decide +kernel
theorem d_M_unit_60 : decode prog_11_method_7_code 60 = .ok (.iconst (-1), 1) := by decide +kernel
theorem d_M_unit_61 : decode prog_11_method_7_code 61 = .ok (.ireturn, 1) := by decide +kernel
theorem d_M_unit_62 : decode prog_11_method_7_code 62 = .ok (.aload_n 0, 1) := by decide +kernel
theorem d_M_unit_63 : decode prog_11_method_7_code 63 = .ok (.getfield 126, 3) := by decide +kernel
theorem d_M_unit_66 : decode prog_11_method_7_code 66 = .ok (.istore 6, 2) := by decide +kernel
theorem d_M_unit_68 : decode prog_11_method_7_code 68 = .ok (.aload_n 0, 1) := by decide +kernel
theorem d_M_unit_69 : decode prog_11_method_7_code 69 = .ok (.getfield 7, 3) := by decide +kernel
theorem d_M_unit_72 : decode prog_11_method_7_code 72 = .ok (.iload 6, 2) := by decide +kernel
theorem d_M_unit_74 : decode prog_11_method_7_code 74 = .ok (.iload_n 1, 1) := by decide +kernel
theorem d_M_unit_75 : decode prog_11_method_7_code 75 = .ok (.bastore, 1) := by decide +kernel
theorem d_M_unit_76 : decode prog_11_method_7_code 76 = .ok (.aload_n 0, 1) := by decide +kernel
theorem d_M_unit_77 : decode prog_11_method_7_code 77 = .ok (.getfield 59, 3) := by decide +kernel
theorem d_M_unit_80 : decode prog_11_method_7_code 80 = .ok (.iload 6, 2) := by decide +kernel
theorem d_M_unit_82 : decode prog_11_method_7_code 82 = .ok (.aload_n 0, 1) := by decide +kernel
theorem d_M_unit_83 : decode prog_11_method_7_code 83 = .ok (.getfield 129, 3) := by decide +kernel
theorem d_M_unit_86 : decode prog_11_method_7_code 86 = .ok (.iastore, 1) := by decide +kernel
theorem d_M_unit_87 : decode prog_11_method_7_code 87 = .ok (.iconst 0, 1) := by decide +kernel
theorem d_M_unit_88 : decode prog_11_method_7_code 88 = .ok (.istore 7, 2) := by decide +kernel
theorem d_M_unit_90 : decode prog_11_method_7_code 90 = .ok (.iload 7, 2) := by decide +kernel
theorem d_M_unit_92 : decode prog_11_method_7_code 92 = .ok (.iconst 4, 1) := by decide +kernel
theorem d_M_unit_93 : decode prog_11_method_7_code 93 = .ok (.if_icmp .ge 142, 3) := by decide +kernel
theorem d_M_unit_96 : decode prog_11_method_7_code 96 = .ok (.iload 7, 2) := by decide +kernel
theorem d_M_unit_98 : decode prog_11_method_7_code 98 = .ok (.ifCond .ne 7, 3) := by decide +kernel
theorem d_M_unit_101 : decode prog_11_method_7_code 101 = .ok (.iload_n 2, 1) := by decide +kernel
theorem d_M_unit_102 : decode prog_11_method_7_code 102 = .ok (.goto 26, 3) := by decide +kernel
theorem d_M_unit_105 : decode prog_11_method_7_code 105 = .ok (.iload 7, 2) := by decide +kernel
theorem d_M_unit_107 : decode prog_11_method_7_code 107 = .ok (.iconst 1, 1) := by decide +kernel
theorem d_M_unit_108 : decode prog_11_method_7_code 108 = .ok (.if_icmp .ne 7, 3) := by decide +kernel
theorem d_M_unit_111 : decode prog_11_method_7_code 111 = .ok (.iload_n 3, 1) := by decide +kernel
theorem d_M_unit_112 : decode prog_11_method_7_code 112 = .ok (.goto 16, 3) := by decide +kernel
theorem d_M_unit_115 : decode prog_11_method_7_code 115 = .ok (.iload 7, 2) := by decide +kernel
theorem d_M_unit_117 : decode prog_11_method_7_code 117 = .ok (.iconst 2, 1) := by decide +kernel
theorem d_M_unit_118 : decode prog_11_method_7_code 118 = .ok (.if_icmp .ne 8, 3) := by decide +kernel
theorem d_M_unit_121 : decode prog_11_method_7_code 121 = .ok (.iload 4, 2) := by decide +kernel
theorem d_M_unit_123 : decode prog_11_method_7_code 123 = .ok (.goto 5, 3) := by decide +kernel
theorem d_M_unit_126 : decode prog_11_method_7_code 126 = .ok (.iload 5, 2) := by decide +kernel
theorem d_M_unit_128 : decode prog_11_method_7_code 128 = .ok (.istore 8, 2) := by decide +kernel
theorem d_M_unit_130 : decode prog_11_method_7_code 130 = .ok (.aload_n 0, 1) := by decide +kernel
theorem d_M_unit_131 : decode prog_11_method_7_code 131 = .ok (.getfield 22, 3) := by decide +kernel
theorem d_M_unit_134 : decode prog_11_method_7_code 134 = .ok (.iconst 4, 1) := by decide +kernel
theorem d_M_unit_135 : decode prog_11_method_7_code 135 = .ok (.iload 6, 2) := by decide +kernel
theorem d_M_unit_137 : decode prog_11_method_7_code 137 = .ok (.imul, 1) := by decide +kernel
theorem d_M_unit_138 : decode prog_11_method_7_code 138 = .ok (.iload 7, 2) := by decide +kernel
theorem d_M_unit_140 : decode prog_11_method_7_code 140 = .ok (.iadd, 1) := by decide +kernel
theorem d_M_unit_141 : decode prog_11_method_7_code 141 = .ok (.iload 8, 2) := by decide +kernel
theorem d_M_unit_143 : decode prog_11_method_7_code 143 = .ok (.iastore, 1) := by decide +kernel
theorem d_M_unit_144 : decode prog_11_method_7_code 144 = .ok (.aload_n 0, 1) := by decide +kernel
theorem d_M_unit_145 : decode prog_11_method_7_code 145 = .ok (.getfield 26, 3) := by decide +kernel
theorem d_M_unit_148 : decode prog_11_method_7_code 148 = .ok (.iconst 4, 1) := by decide +kernel
theorem d_M_unit_149 : decode prog_11_method_7_code 149 = .ok (.iload 6, 2) := by decide +kernel
theorem d_M_unit_151 : decode prog_11_method_7_code 151 = .ok (.imul, 1) := by decide +kernel
theorem d_M_unit_152 : decode prog_11_method_7_code 152 = .ok (.iload 7, 2) := by decide +kernel
theorem d_M_unit_154 : decode prog_11_method_7_code 154 = .ok (.iadd, 1) := by decide +kernel
theorem d_M_unit_155 : decode prog_11_method_7_code 155 = .ok (.aload_n 0, 1) := by decide +kernel
theorem d_M_unit_156 : decode prog_11_method_7_code 156 = .ok (.getfield 138, 3) := by decide +kernel
theorem d_M_unit_159 : decode prog_11_method_7_code 159 = .ok (.iastore, 1) := by decide +kernel
theorem d_M_unit_160 : decode prog_11_method_7_code 160 = .ok (.aload_n 0, 1) := by decide +kernel
theorem d_M_unit_161 : decode prog_11_method_7_code 161 = .ok (.getfield 13, 3) := by decide +kernel
theorem d_M_unit_164 : decode prog_11_method_7_code 164 = .ok (.iconst 4, 1) := by decide +kernel
theorem d_M_unit_165 : decode prog_11_method_7_code 165 = .ok (.iload 6, 2) := by decide +kernel
theorem d_M_unit_167 : decode prog_11_method_7_code 167 = .ok (.imul, 1) := by decide +kernel
theorem d_M_unit_168 : decode prog_11_method_7_code 168 = .ok (.iload 7, 2) := by decide +kernel
theorem d_M_unit_170 : decode prog_11_method_7_code 170 = .ok (.iadd, 1) := by decide +kernel
theorem d_M_unit_171 : decode prog_11_method_7_code 171 = .ok (.iconst 0, 1) := by decide +kernel
theorem d_M_unit_172 : decode prog_11_method_7_code 172 = .ok (.bastore, 1) := by decide +kernel
theorem d_M_unit_173 : decode prog_11_method_7_code 173 = .ok (.iconst 0, 1) := by decide +kernel
theorem d_M_unit_174 : decode prog_11_method_7_code 174 = .ok (.istore 9, 2) := by decide +kernel
theorem d_M_unit_176 : decode prog_11_method_7_code 176 = .ok (.iload 9, 2) := by decide +kernel
theorem d_M_unit_178 : decode prog_11_method_7_code 178 = .ok (.iload 8, 2) := by decide +kernel
theorem d_M_unit_180 : decode prog_11_method_7_code 180 = .ok (.if_icmp .ge 28, 3) := by decide +kernel
theorem d_M_unit_183 : decode prog_11_method_7_code 183 = .ok (.iload 7, 2) := by decide +kernel
theorem d_M_unit_185 : decode prog_11_method_7_code 185 = .ok (.iconst 3, 1) := by decide +kernel
theorem d_M_unit_186 : decode prog_11_method_7_code 186 = .ok (.if_icmp .ge 22, 3) := by decide +kernel
theorem d_M_unit_189 : decode prog_11_method_7_code 189 = .ok (.aload_n 0, 1) := by decide +kernel
theorem d_M_unit_190 : decode prog_11_method_7_code 190 = .ok (.getfield 33, 3) := by decide +kernel
theorem d_M_unit_193 : decode prog_11_method_7_code 193 = .ok (.aload_n 0, 1) := by decide +kernel
theorem d_M_unit_194 : decode prog_11_method_7_code 194 = .ok (.getfield 138, 3) := by decide +kernel
theorem d_M_unit_197 : decode prog_11_method_7_code 197 = .ok (.iload 9, 2) := by decide +kernel
theorem d_M_unit_199 : decode prog_11_method_7_code 199 = .ok (.iadd, 1) := by decide +kernel
theorem d_M_unit_200 : decode prog_11_method_7_code 200 = .ok (.iconst 0, 1) := by decide +kernel
theorem d_M_unit_201 : decode prog_11_method_7_code 201 = .ok (.bastore, 1) := by decide +kernel
theorem d_M_unit_202 : decode prog_11_method_7_code 202 = .ok (.iinc 9 1, 3) := by decide +kernel
theorem d_M_unit_205 : decode prog_11_method_7_code 205 = .ok (.goto (-29), 3) := by decide +kernel
theorem d_M_unit_208 : decode prog_11_method_7_code 208 = .ok (.aload_n 0, 1) := by decide +kernel
theorem d_M_unit_209 : decode prog_11_method_7_code 209 = .ok (.dup, 1) := by decide +kernel
theorem d_M_unit_210 : decode prog_11_method_7_code 210 = .ok (.getfield 138, 3) := by decide +kernel
theorem d_M_unit_213 : decode prog_11_method_7_code 213 = .ok (.iload 7, 2) := by decide +kernel
theorem d_M_unit_215 : decode prog_11_method_7_code 215 = .ok (.iconst 3, 1) := by decide +kernel
theorem d_M_unit_216 : decode prog_11_method_7_code 216 = .ok (.if_icmp .ge 8, 3) := by decide +kernel
theorem d_M_unit_219 : decode prog_11_method_7_code 219 = .ok (.iload 8, 2) := by decide +kernel
theorem d_M_unit_221 : decode prog_11_method_7_code 221 = .ok (.goto 4, 3) := by decide +kernel
theorem d_M_unit_224 : decode prog_11_method_7_code 224 = .ok (.iconst 0, 1) := by decide +kernel
theorem d_M_unit_225 : decode prog_11_method_7_code 225 = .ok (.iadd, 1) := by decide +kernel
theorem d_M_unit_226 : decode prog_11_method_7_code 226 = .ok (.putfield 138, 3) := by decide +kernel
theorem d_M_unit_229 : decode prog_11_method_7_code 229 = .ok (.iinc 7 1, 3) := by decide +kernel
theorem d_M_unit_232 : decode prog_11_method_7_code 232 = .ok (.goto (-142), 3) := by decide +kernel
theorem d_M_unit_235 : decode prog_11_method_7_code 235 = .ok (.aload_n 0, 1) := by decide +kernel
theorem d_M_unit_236 : decode prog_11_method_7_code 236 = .ok (.dup, 1) := by decide +kernel
theorem d_M_unit_237 : decode prog_11_method_7_code 237 = .ok (.getfield 126, 3) := by decide +kernel
theorem d_M_unit_240 : decode prog_11_method_7_code 240 = .ok (.iconst 1, 1) := by decide +kernel
theorem d_M_unit_241 : decode prog_11_method_7_code 241 = .ok (.iadd, 1) := by decide +kernel
theorem d_M_unit_242 : decode prog_11_method_7_code 242 = .ok (.putfield 126, 3) := by decide +kernel
theorem d_M_unit_245 : decode prog_11_method_7_code 245 = .ok (.iload 6, 2) := by decide +kernel
theorem d_M_unit_247 : decode prog_11_method_7_code 247 = .ok (.ireturn, 1) := by decide +kernel
theorem d_M_isSize_0 : decode prog_11_method_5_code 0 = .ok (.iload_n 0, 1) := by decide +kernel
theorem d_M_isSize_1 : decode prog_11_method_5_code 1 = .ok (.ifCond .lt 13, 3) := by decide +kernel
theorem d_M_isSize_4 : decode prog_11_method_5_code 4 = .ok (.iload_n 0, 1) := by decide +kernel
theorem d_M_isSize_5 : decode prog_11_method_5_code 5 = .ok (.ldc 144, 2) := by decide +kernel
theorem d_M_isSize_7 : decode prog_11_method_5_code 7 = .ok (.if_icmp .gt 7, 3) := by decide +kernel
theorem d_M_isSize_10 : decode prog_11_method_5_code 10 = .ok (.iconst 1, 1) := by decide +kernel
theorem d_M_isSize_11 : decode prog_11_method_5_code 11 = .ok (.goto 4, 3) := by decide +kernel
theorem d_M_isSize_14 : decode prog_11_method_5_code 14 = .ok (.iconst 0, 1) := by decide +kernel
theorem d_M_isSize_15 : decode prog_11_method_5_code 15 = .ok (.ireturn, 1) := by decide +kernel
theorem d_M_put_0 : decode prog_11_method_10_code 0 = .ok (.aload_n 0, 1) := by decide +kernel
theorem d_M_put_1 : decode prog_11_method_10_code 1 = .ok (.iconst 0, 1) := by decide +kernel
theorem d_M_put_2 : decode prog_11_method_10_code 2 = .ok (.putfield 123, 3) := by decide +kernel
theorem d_M_put_5 : decode prog_11_method_10_code 5 = .ok (.iload 5, 2) := by decide +kernel
theorem d_M_put_7 : decode prog_11_method_10_code 7 = .ok (.iconst 1, 1) := by decide +kernel
theorem d_M_put_8 : decode prog_11_method_10_code 8 = .ok (.if_icmp .lt 21, 3) := by decide +kernel
theorem d_M_put_11 : decode prog_11_method_10_code 11 = .ok (.iload 5, 2) := by decide +kernel
theorem d_M_put_13 : decode prog_11_method_10_code 13 = .ok (.bipush 8, 2) := by decide +kernel
theorem d_M_put_15 : decode prog_11_method_10_code 15 = .ok (.if_icmp .gt 14, 3) := by decide +kernel
theorem d_M_put_18 : decode prog_11_method_10_code 18 = .ok (.aload_n 0, 1) := by decide +kernel
theorem d_M_put_19 : decode prog_11_method_10_code 19 = .ok (.iload_n 1, 1) := by decide +kernel
theorem d_M_put_20 : decode prog_11_method_10_code 20 = .ok (.iload_n 2, 1) := by decide +kernel
theorem d_M_put_21 : decode prog_11_method_10_code 21 = .ok (.iload 5, 2) := by decide +kernel
theorem d_M_put_23 : decode prog_11_method_10_code 23 = .ok (.invokevirtual 154, 3) := by decide +kernel
theorem d_M_put_26 : decode prog_11_method_10_code 26 = .ok (.ifCond .ne 5, 3) := by decide +kernel
theorem d_M_put_29 : decode prog_11_method_10_code 29 = .ok (.iconst 0, 1) := by decide +kernel
theorem d_M_put_30 : decode prog_11_method_10_code 30 = .ok (.ireturn, 1) := by decide +kernel
theorem d_M_put_31 : decode prog_11_method_10_code 31 = .ok (.iconst 0, 1) := by decide +kernel
theorem d_M_put_32 : decode prog_11_method_10_code 32 = .ok (.istore 6, 2) := by decide +kernel
theorem d_M_put_34 : decode prog_11_method_10_code 34 = .ok (.iload 6, 2) := by decide +kernel
theorem d_M_put_36 : decode prog_11_method_10_code 36 = .ok (.iload 5, 2) := by decide +kernel
theorem d_M_put_38 : decode prog_11_method_10_code 38 = .ok (.if_icmp .ge 38, 3) := by decide +kernel
theorem d_M_put_41 : decode prog_11_method_10_code 41 = .ok (.aload_n 0, 1) := by decide +kernel
theorem d_M_put_42 : decode prog_11_method_10_code 42 = .ok (.getfield 33, 3) := by decide +kernel
theorem d_M_put_45 : decode prog_11_method_10_code 45 = .ok (.aload_n 0, 1) := by decide +kernel
theorem d_M_put_46 : decode prog_11_method_10_code 46 = .ok (.getfield 26, 3) := by decide +kernel
theorem d_M_put_49 : decode prog_11_method_10_code 49 = .ok (.aload_n 0, 1) := by decide +kernel
theorem d_M_put_50 : decode prog_11_method_10_code 50 = .ok (.iload_n 1, 1) := by decide +kernel
theorem d_M_put_51 : decode prog_11_method_10_code 51 = .ok (.invokevirtual 150, 3) := by decide +kernel
theorem d_M_put_54 : decode prog_11_method_10_code 54 = .ok (.iaload, 1) := by decide +kernel
theorem d_M_put_55 : decode prog_11_method_10_code 55 = .ok (.iload_n 2, 1) := by decide +kernel
theorem d_M_put_56 : decode prog_11_method_10_code 56 = .ok (.iadd, 1) := by decide +kernel
theorem d_M_put_57 : decode prog_11_method_10_code 57 = .ok (.iload 6, 2) := by decide +kernel
theorem d_M_put_59 : decode prog_11_method_10_code 59 = .ok (.iadd, 1) := by decide +kernel
theorem d_M_put_60 : decode prog_11_method_10_code 60 = .ok (.lload_n 3, 1) := by decide +kernel
theorem d_M_put_61 : decode prog_11_method_10_code 61 = .ok (.bipush 8, 2) := by decide +kernel
theorem d_M_put_63 : decode prog_11_method_10_code 63 = .ok (.iload 6, 2) := by decide +kernel
theorem d_M_put_65 : decode prog_11_method_10_code 65 = .ok (.imul, 1) := by decide +kernel
theorem d_M_put_66 : decode prog_11_method_10_code 66 = .ok (.lshr, 1) := by decide +kernel
theorem d_M_put_67 : decode prog_11_method_10_code 67 = .ok (.l2i, 1) := by decide +kernel
theorem d_M_put_68 : decode prog_11_method_10_code 68 = .ok (.i2b, 1) := by decide +kernel
theorem d_M_put_69 : decode prog_11_method_10_code 69 = .ok (.bastore, 1) := by decide +kernel
theorem d_M_put_70 : decode prog_11_method_10_code 70 = .ok (.iinc 6 1, 3) := by decide +kernel
theorem d_M_put_73 : decode prog_11_method_10_code 73 = .ok (.goto (-39), 3) := by decide +kernel
theorem d_M_put_76 : decode prog_11_method_10_code 76 = .ok (.iconst 1, 1) := by decide +kernel
theorem d_M_put_77 : decode prog_11_method_10_code 77 = .ok (.ireturn, 1) := by decide +kernel
theorem d_M_lies_0 : decode prog_11_method_9_code 0 = .ok (.aload_n 0, 1) := by decide +kernel
theorem d_M_lies_1 : decode prog_11_method_9_code 1 = .ok (.getfield 126, 3) := by decide +kernel
theorem d_M_lies_4 : decode prog_11_method_9_code 4 = .ok (.ifCond .le 36, 3) := by decide +kernel
theorem d_M_lies_7 : decode prog_11_method_9_code 7 = .ok (.iload_n 1, 1) := by decide +kernel
theorem d_M_lies_8 : decode prog_11_method_9_code 8 = .ok (.ifCond .lt 32, 3) := by decide +kernel
theorem d_M_lies_11 : decode prog_11_method_9_code 11 = .ok (.iload_n 1, 1) := by decide +kernel
theorem d_M_lies_12 : decode prog_11_method_9_code 12 = .ok (.iconst 3, 1) := by decide +kernel
theorem d_M_lies_13 : decode prog_11_method_9_code 13 = .ok (.if_icmp .ge 27, 3) := by decide +kernel
theorem d_M_lies_16 : decode prog_11_method_9_code 16 = .ok (.iload_n 2, 1) := by decide +kernel
theorem d_M_lies_17 : decode prog_11_method_9_code 17 = .ok (.ifCond .lt 23, 3) := by decide +kernel
theorem d_M_lies_20 : decode prog_11_method_9_code 20 = .ok (.iload_n 2, 1) := by decide +kernel
theorem d_M_lies_21 : decode prog_11_method_9_code 21 = .ok (.aload_n 0, 1) := by decide +kernel
theorem d_M_lies_22 : decode prog_11_method_9_code 22 = .ok (.getfield 22, 3) := by decide +kernel
theorem d_M_lies_25 : decode prog_11_method_9_code 25 = .ok (.aload_n 0, 1) := by decide +kernel
theorem d_M_lies_26 : decode prog_11_method_9_code 26 = .ok (.iload_n 1, 1) := by decide +kernel
theorem d_M_lies_27 : decode prog_11_method_9_code 27 = .ok (.invokevirtual 150, 3) := by decide +kernel
theorem d_M_lies_30 : decode prog_11_method_9_code 30 = .ok (.iaload, 1) := by decide +kernel
theorem d_M_lies_31 : decode prog_11_method_9_code 31 = .ok (.iload_n 3, 1) := by decide +kernel
theorem d_M_lies_32 : decode prog_11_method_9_code 32 = .ok (.isub, 1) := by decide +kernel
theorem d_M_lies_33 : decode prog_11_method_9_code 33 = .ok (.if_icmp .gt 7, 3) := by decide +kernel
theorem d_M_lies_36 : decode prog_11_method_9_code 36 = .ok (.iconst 1, 1) := by decide +kernel
theorem d_M_lies_37 : decode prog_11_method_9_code 37 = .ok (.goto 4, 3) := by decide +kernel
theorem d_M_lies_40 : decode prog_11_method_9_code 40 = .ok (.iconst 0, 1) := by decide +kernel
theorem d_M_lies_41 : decode prog_11_method_9_code 41 = .ok (.ireturn, 1) := by decide +kernel
theorem d_M_own_0 : decode prog_11_method_8_code 0 = .ok (.iconst 4, 1) := by decide +kernel
theorem d_M_own_1 : decode prog_11_method_8_code 1 = .ok (.aload_n 0, 1) := by decide +kernel
theorem d_M_own_2 : decode prog_11_method_8_code 2 = .ok (.getfield 126, 3) := by decide +kernel
theorem d_M_own_5 : decode prog_11_method_8_code 5 = .ok (.iconst 1, 1) := by decide +kernel
theorem d_M_own_6 : decode prog_11_method_8_code 6 = .ok (.isub, 1) := by decide +kernel
theorem d_M_own_7 : decode prog_11_method_8_code 7 = .ok (.imul, 1) := by decide +kernel
theorem d_M_own_8 : decode prog_11_method_8_code 8 = .ok (.iload_n 1, 1) := by decide +kernel
theorem d_M_own_9 : decode prog_11_method_8_code 9 = .ok (.iadd, 1) := by decide +kernel
theorem d_M_own_10 : decode prog_11_method_8_code 10 = .ok (.ireturn, 1) := by decide +kernel
theorem d_M_keep_0 : decode prog_11_method_11_code 0 = .ok (.aload_n 0, 1) := by decide +kernel
theorem d_M_keep_1 : decode prog_11_method_11_code 1 = .ok (.iconst 0, 1) := by decide +kernel
theorem d_M_keep_2 : decode prog_11_method_11_code 2 = .ok (.putfield 123, 3) := by decide +kernel
theorem d_M_keep_5 : decode prog_11_method_11_code 5 = .ok (.aload_n 0, 1) := by decide +kernel
theorem d_M_keep_6 : decode prog_11_method_11_code 6 = .ok (.getfield 126, 3) := by decide +kernel
theorem d_M_keep_9 : decode prog_11_method_11_code 9 = .ok (.ifCond .eq 12, 3) := by decide +kernel
theorem d_M_keep_12 : decode prog_11_method_11_code 12 = .ok (.iload_n 1, 1) := by decide +kernel
theorem d_M_keep_13 : decode prog_11_method_11_code 13 = .ok (.ifCond .lt 8, 3) := by decide +kernel
theorem d_M_keep_16 : decode prog_11_method_11_code 16 = .ok (.iload_n 1, 1) := by decide +kernel
theorem d_M_keep_17 : decode prog_11_method_11_code 17 = .ok (.iconst 3, 1) := by decide +kernel
theorem d_M_keep_18 : decode prog_11_method_11_code 18 = .ok (.if_icmp .le 5, 3) := by decide +kernel
theorem d_M_keep_21 : decode prog_11_method_11_code 21 = .ok (.iconst 0, 1) := by decide +kernel
theorem d_M_keep_22 : decode prog_11_method_11_code 22 = .ok (.ireturn, 1) := by decide +kernel
theorem d_M_keep_23 : decode prog_11_method_11_code 23 = .ok (.aload_n 0, 1) := by decide +kernel
theorem d_M_keep_24 : decode prog_11_method_11_code 24 = .ok (.getfield 13, 3) := by decide +kernel
theorem d_M_keep_27 : decode prog_11_method_11_code 27 = .ok (.aload_n 0, 1) := by decide +kernel
theorem d_M_keep_28 : decode prog_11_method_11_code 28 = .ok (.iload_n 1, 1) := by decide +kernel
theorem d_M_keep_29 : decode prog_11_method_11_code 29 = .ok (.invokevirtual 150, 3) := by decide +kernel
theorem d_M_keep_32 : decode prog_11_method_11_code 32 = .ok (.iconst 1, 1) := by decide +kernel
theorem d_M_keep_33 : decode prog_11_method_11_code 33 = .ok (.bastore, 1) := by decide +kernel
theorem d_M_keep_34 : decode prog_11_method_11_code 34 = .ok (.iconst 1, 1) := by decide +kernel
theorem d_M_keep_35 : decode prog_11_method_11_code 35 = .ok (.ireturn, 1) := by decide +kernel
theorem d_M_symbol_0 : decode prog_11_method_13_code 0 = .ok (.aload_n 0, 1) := by decide +kernel
theorem d_M_symbol_1 : decode prog_11_method_13_code 1 = .ok (.iconst 0, 1) := by decide +kernel
theorem d_M_symbol_2 : decode prog_11_method_13_code 2 = .ok (.putfield 123, 3) := by decide +kernel
theorem d_M_symbol_5 : decode prog_11_method_13_code 5 = .ok (.aload_n 0, 1) := by decide +kernel
theorem d_M_symbol_6 : decode prog_11_method_13_code 6 = .ok (.getfield 126, 3) := by decide +kernel
theorem d_M_symbol_9 : decode prog_11_method_13_code 9 = .ok (.ifCond .le 59, 3) := by decide +kernel
theorem d_M_symbol_12 : decode prog_11_method_13_code 12 = .ok (.iload_n 3, 1) := by decide +kernel
theorem d_M_symbol_13 : decode prog_11_method_13_code 13 = .ok (.iconst 1, 1) := by decide +kernel
theorem d_M_symbol_14 : decode prog_11_method_13_code 14 = .ok (.if_icmp .lt 54, 3) := by decide +kernel
theorem d_M_symbol_17 : decode prog_11_method_13_code 17 = .ok (.iload_n 3, 1) := by decide +kernel
theorem d_M_symbol_18 : decode prog_11_method_13_code 18 = .ok (.bipush 8, 2) := by decide +kernel
theorem d_M_symbol_20 : decode prog_11_method_13_code 20 = .ok (.if_icmp .gt 48, 3) := by decide +kernel
theorem d_M_symbol_23 : decode prog_11_method_13_code 23 = .ok (.iload 4, 2) := by decide +kernel
theorem d_M_symbol_25 : decode prog_11_method_13_code 25 = .ok (.ifCond .lt 43, 3) := by decide +kernel
theorem d_M_symbol_28 : decode prog_11_method_13_code 28 = .ok (.iload 4, 2) := by decide +kernel
theorem d_M_symbol_30 : decode prog_11_method_13_code 30 = .ok (.iconst 3, 1) := by decide +kernel
theorem d_M_symbol_31 : decode prog_11_method_13_code 31 = .ok (.if_icmp .gt 37, 3) := by decide +kernel
theorem d_M_symbol_34 : decode prog_11_method_13_code 34 = .ok (.iload 5, 2) := by decide +kernel
theorem d_M_symbol_36 : decode prog_11_method_13_code 36 = .ok (.iconst (-1), 1) := by decide +kernel
theorem d_M_symbol_37 : decode prog_11_method_13_code 37 = .ok (.if_icmp .lt 31, 3) := by decide +kernel
theorem d_M_symbol_40 : decode prog_11_method_13_code 40 = .ok (.iload 5, 2) := by decide +kernel
theorem d_M_symbol_42 : decode prog_11_method_13_code 42 = .ok (.iconst 3, 1) := by decide +kernel
theorem d_M_symbol_43 : decode prog_11_method_13_code 43 = .ok (.if_icmp .gt 25, 3) := by decide +kernel
theorem d_M_symbol_46 : decode prog_11_method_13_code 46 = .ok (.iload 7, 2) := by decide +kernel
theorem d_M_symbol_48 : decode prog_11_method_13_code 48 = .ok (.invokestatic 158, 3) := by decide +kernel
theorem d_M_symbol_51 : decode prog_11_method_13_code 51 = .ok (.ifCond .eq 17, 3) := by decide +kernel
theorem d_M_symbol_54 : decode prog_11_method_13_code 54 = .ok (.aload_n 0, 1) := by decide +kernel
theorem d_M_symbol_55 : decode prog_11_method_13_code 55 = .ok (.getfield 129, 3) := by decide +kernel
theorem d_M_symbol_58 : decode prog_11_method_13_code 58 = .ok (.sipush 2048, 3) := by decide +kernel
theorem d_M_symbol_61 : decode prog_11_method_13_code 61 = .ok (.if_icmp .ge 7, 3) := by decide +kernel
theorem d_M_symbol_64 : decode prog_11_method_13_code 64 = .ok (.iconst 1, 1) := by decide +kernel
theorem d_M_symbol_65 : decode prog_11_method_13_code 65 = .ok (.goto 4, 3) := by decide +kernel
theorem d_M_symbol_68 : decode prog_11_method_13_code 68 = .ok (.iconst 0, 1) := by decide +kernel
theorem d_M_symbol_69 : decode prog_11_method_13_code 69 = .ok (.istore 8, 2) := by decide +kernel
theorem d_M_symbol_71 : decode prog_11_method_13_code 71 = .ok (.iload 8, 2) := by decide +kernel
theorem d_M_symbol_73 : decode prog_11_method_13_code 73 = .ok (.ifCond .eq 29, 3) := by decide +kernel
theorem d_M_symbol_76 : decode prog_11_method_13_code 76 = .ok (.iload 5, 2) := by decide +kernel
theorem d_M_symbol_78 : decode prog_11_method_13_code 78 = .ok (.ifCond .lt 26, 3) := by decide +kernel
theorem d_M_symbol_81 : decode prog_11_method_13_code 81 = .ok (.iload 6, 2) := by decide +kernel
theorem d_M_symbol_83 : decode prog_11_method_13_code 83 = .ok (.ifCond .lt 19, 3) := by decide +kernel
theorem d_M_symbol_86 : decode prog_11_method_13_code 86 = .ok (.iload 6, 2) := by decide +kernel
theorem d_M_symbol_88 : decode prog_11_method_13_code 88 = .ok (.aload_n 0, 1) := by decide +kernel
theorem d_M_symbol_89 : decode prog_11_method_13_code 89 = .ok (.getfield 22, 3) := by decide +kernel
theorem d_M_symbol_92 : decode prog_11_method_13_code 92 = .ok (.aload_n 0, 1) := by decide +kernel
theorem d_M_symbol_93 : decode prog_11_method_13_code 93 = .ok (.iload 5, 2) := by decide +kernel
theorem d_M_symbol_95 : decode prog_11_method_13_code 95 = .ok (.invokevirtual 150, 3) := by decide +kernel
theorem d_M_symbol_98 : decode prog_11_method_13_code 98 = .ok (.iaload, 1) := by decide +kernel
theorem d_M_symbol_99 : decode prog_11_method_13_code 99 = .ok (.if_icmp .le 5, 3) := by decide +kernel
theorem d_M_symbol_102 : decode prog_11_method_13_code 102 = .ok (.iconst (-1), 1) := by decide +kernel
theorem d_M_symbol_103 : decode prog_11_method_13_code 103 = .ok (.ireturn, 1) := by decide +kernel
theorem d_M_symbol_104 : decode prog_11_method_13_code 104 = .ok (.aload_n 0, 1) := by decide +kernel
theorem d_M_symbol_105 : decode prog_11_method_13_code 105 = .ok (.getfield 59, 3) := by decide +kernel
theorem d_M_symbol_108 : decode prog_11_method_13_code 108 = .ok (.aload_n 0, 1) := by decide +kernel
theorem d_M_symbol_109 : decode prog_11_method_13_code 109 = .ok (.getfield 126, 3) := by decide +kernel
theorem d_M_symbol_112 : decode prog_11_method_13_code 112 = .ok (.iconst 1, 1) := by decide +kernel
theorem d_M_symbol_113 : decode prog_11_method_13_code 113 = .ok (.isub, 1) := by decide +kernel
theorem d_M_symbol_114 : decode prog_11_method_13_code 114 = .ok (.iaload, 1) := by decide +kernel
theorem d_M_symbol_115 : decode prog_11_method_13_code 115 = .ok (.istore 9, 2) := by decide +kernel
theorem d_M_symbol_117 : decode prog_11_method_13_code 117 = .ok (.iload 9, 2) := by decide +kernel
theorem d_M_symbol_119 : decode prog_11_method_13_code 119 = .ok (.istore 10, 2) := by decide +kernel
theorem d_M_symbol_121 : decode prog_11_method_13_code 121 = .ok (.iload 10, 2) := by decide +kernel
theorem d_M_symbol_123 : decode prog_11_method_13_code 123 = .ok (.aload_n 0, 1) := by decide +kernel
theorem d_M_symbol_124 : decode prog_11_method_13_code 124 = .ok (.getfield 129, 3) := by decide +kernel
theorem d_M_symbol_127 : decode prog_11_method_13_code 127 = .ok (.if_icmp .ge 38, 3) := by decide +kernel
theorem d_M_symbol_130 : decode prog_11_method_13_code 130 = .ok (.aload_n 0, 1) := by decide +kernel
theorem d_M_symbol_131 : decode prog_11_method_13_code 131 = .ok (.getfield 41, 3) := by decide +kernel
theorem d_M_symbol_134 : decode prog_11_method_13_code 134 = .ok (.iload 10, 2) := by decide +kernel
theorem d_M_symbol_136 : decode prog_11_method_13_code 136 = .ok (.iaload, 1) := by decide +kernel
theorem d_M_symbol_137 : decode prog_11_method_13_code 137 = .ok (.iload_n 3, 1) := by decide +kernel
theorem d_M_symbol_138 : decode prog_11_method_13_code 138 = .ok (.if_icmp .ne 21, 3) := by decide +kernel
theorem d_M_symbol_141 : decode prog_11_method_13_code 141 = .ok (.aload_n 0, 1) := by decide +kernel
theorem d_M_symbol_142 : decode prog_11_method_13_code 142 = .ok (.getfield 37, 3) := by decide +kernel
theorem d_M_symbol_145 : decode prog_11_method_13_code 145 = .ok (.iload 10, 2) := by decide +kernel
theorem d_M_symbol_147 : decode prog_11_method_13_code 147 = .ok (.laload, 1) := by decide +kernel
theorem d_M_symbol_148 : decode prog_11_method_13_code 148 = .ok (.lload_n 1, 1) := by decide +kernel
theorem d_M_symbol_149 : decode prog_11_method_13_code 149 = .ok (.iload_n 3, 1) := by decide +kernel
theorem d_M_symbol_150 : decode prog_11_method_13_code 150 = .ok (.invokestatic 161, 3) := by decide +kernel
theorem d_M_symbol_153 : decode prog_11_method_13_code 153 = .ok (.lcmp, 1) := by decide +kernel
theorem d_M_symbol_154 : decode prog_11_method_13_code 154 = .ok (.ifCond .ne 5, 3) := by decide +kernel
theorem d_M_symbol_157 : decode prog_11_method_13_code 157 = .ok (.iconst (-1), 1) := by decide +kernel
theorem d_M_symbol_158 : decode prog_11_method_13_code 158 = .ok (.ireturn, 1) := by decide +kernel
theorem d_M_symbol_159 : decode prog_11_method_13_code 159 = .ok (.iinc 10 1, 3) := by decide +kernel
theorem d_M_symbol_162 : decode prog_11_method_13_code 162 = .ok (.goto (-41), 3) := by decide +kernel
theorem d_M_symbol_165 : decode prog_11_method_13_code 165 = .ok (.aload_n 0, 1) := by decide +kernel
theorem d_M_symbol_166 : decode prog_11_method_13_code 166 = .ok (.getfield 129, 3) := by decide +kernel
theorem d_M_symbol_169 : decode prog_11_method_13_code 169 = .ok (.istore 10, 2) := by decide +kernel
theorem d_M_symbol_171 : decode prog_11_method_13_code 171 = .ok (.aload_n 0, 1) := by decide +kernel
theorem d_M_symbol_172 : decode prog_11_method_13_code 172 = .ok (.getfield 37, 3) := by decide +kernel
theorem d_M_symbol_175 : decode prog_11_method_13_code 175 = .ok (.iload 10, 2) := by decide +kernel
theorem d_M_symbol_177 : decode prog_11_method_13_code 177 = .ok (.lload_n 1, 1) := by decide +kernel
theorem d_M_symbol_178 : decode prog_11_method_13_code 178 = .ok (.iload_n 3, 1) := by decide +kernel
theorem d_M_symbol_179 : decode prog_11_method_13_code 179 = .ok (.invokestatic 161, 3) := by decide +kernel
theorem d_M_symbol_182 : decode prog_11_method_13_code 182 = .ok (.lastore, 1) := by decide +kernel
theorem d_M_symbol_183 : decode prog_11_method_13_code 183 = .ok (.aload_n 0, 1) := by decide +kernel
theorem d_M_symbol_184 : decode prog_11_method_13_code 184 = .ok (.getfield 41, 3) := by decide +kernel
theorem d_M_symbol_187 : decode prog_11_method_13_code 187 = .ok (.iload 10, 2) := by decide +kernel
theorem d_M_symbol_189 : decode prog_11_method_13_code 189 = .ok (.iload_n 3, 1) := by decide +kernel
theorem d_M_symbol_190 : decode prog_11_method_13_code 190 = .ok (.iastore, 1) := by decide +kernel
theorem d_M_symbol_191 : decode prog_11_method_13_code 191 = .ok (.aload_n 0, 1) := by decide +kernel
theorem d_M_symbol_192 : decode prog_11_method_13_code 192 = .ok (.getfield 44, 3) := by decide +kernel
theorem d_M_symbol_195 : decode prog_11_method_13_code 195 = .ok (.iload 10, 2) := by decide +kernel
theorem d_M_symbol_197 : decode prog_11_method_13_code 197 = .ok (.aload_n 0, 1) := by decide +kernel
theorem d_M_symbol_198 : decode prog_11_method_13_code 198 = .ok (.getfield 126, 3) := by decide +kernel
theorem d_M_symbol_201 : decode prog_11_method_13_code 201 = .ok (.iconst 1, 1) := by decide +kernel
theorem d_M_symbol_202 : decode prog_11_method_13_code 202 = .ok (.isub, 1) := by decide +kernel
theorem d_M_symbol_203 : decode prog_11_method_13_code 203 = .ok (.iastore, 1) := by decide +kernel
theorem d_M_symbol_204 : decode prog_11_method_13_code 204 = .ok (.aload_n 0, 1) := by decide +kernel
theorem d_M_symbol_205 : decode prog_11_method_13_code 205 = .ok (.getfield 47, 3) := by decide +kernel
theorem d_M_symbol_208 : decode prog_11_method_13_code 208 = .ok (.iload 10, 2) := by decide +kernel
theorem d_M_symbol_210 : decode prog_11_method_13_code 210 = .ok (.iload 4, 2) := by decide +kernel
theorem d_M_symbol_212 : decode prog_11_method_13_code 212 = .ok (.iastore, 1) := by decide +kernel
theorem d_M_symbol_213 : decode prog_11_method_13_code 213 = .ok (.aload_n 0, 1) := by decide +kernel
theorem d_M_symbol_214 : decode prog_11_method_13_code 214 = .ok (.getfield 50, 3) := by decide +kernel
theorem d_M_symbol_217 : decode prog_11_method_13_code 217 = .ok (.iload 10, 2) := by decide +kernel
theorem d_M_symbol_219 : decode prog_11_method_13_code 219 = .ok (.iload 5, 2) := by decide +kernel
theorem d_M_symbol_221 : decode prog_11_method_13_code 221 = .ok (.iastore, 1) := by decide +kernel
theorem d_M_symbol_222 : decode prog_11_method_13_code 222 = .ok (.aload_n 0, 1) := by decide +kernel
theorem d_M_symbol_223 : decode prog_11_method_13_code 223 = .ok (.getfield 53, 3) := by decide +kernel
theorem d_M_symbol_226 : decode prog_11_method_13_code 226 = .ok (.iload 10, 2) := by decide +kernel
theorem d_M_symbol_228 : decode prog_11_method_13_code 228 = .ok (.iload 5, 2) := by decide +kernel
theorem d_M_symbol_230 : decode prog_11_method_13_code 230 = .ok (.ifCond .ge 7, 3) := by decide +kernel
theorem d_M_symbol_233 : decode prog_11_method_13_code 233 = .ok (.iconst 0, 1) := by decide +kernel
theorem d_M_symbol_234 : decode prog_11_method_13_code 234 = .ok (.goto 5, 3) := by decide +kernel
theorem d_M_symbol_237 : decode prog_11_method_13_code 237 = .ok (.iload 6, 2) := by decide +kernel
theorem d_M_symbol_239 : decode prog_11_method_13_code 239 = .ok (.iastore, 1) := by decide +kernel
theorem d_M_symbol_240 : decode prog_11_method_13_code 240 = .ok (.aload_n 0, 1) := by decide +kernel
theorem d_M_symbol_241 : decode prog_11_method_13_code 241 = .ok (.getfield 56, 3) := by decide +kernel
theorem d_M_symbol_244 : decode prog_11_method_13_code 244 = .ok (.iload 10, 2) := by decide +kernel
theorem d_M_symbol_246 : decode prog_11_method_13_code 246 = .ok (.iload 7, 2) := by decide +kernel
theorem d_M_symbol_248 : decode prog_11_method_13_code 248 = .ok (.iastore, 1) := by decide +kernel
theorem d_M_symbol_249 : decode prog_11_method_13_code 249 = .ok (.aload_n 0, 1) := by decide +kernel
theorem d_M_symbol_250 : decode prog_11_method_13_code 250 = .ok (.dup, 1) := by decide +kernel
theorem d_M_symbol_251 : decode prog_11_method_13_code 251 = .ok (.getfield 129, 3) := by decide +kernel
theorem d_M_symbol_254 : decode prog_11_method_13_code 254 = .ok (.iconst 1, 1) := by decide +kernel
theorem d_M_symbol_255 : decode prog_11_method_13_code 255 = .ok (.iadd, 1) := by decide +kernel
theorem d_M_symbol_256 : decode prog_11_method_13_code 256 = .ok (.putfield 129, 3) := by decide +kernel
theorem d_M_symbol_259 : decode prog_11_method_13_code 259 = .ok (.iload 10, 2) := by decide +kernel
theorem d_M_symbol_261 : decode prog_11_method_13_code 261 = .ok (.iload 9, 2) := by decide +kernel
theorem d_M_symbol_263 : decode prog_11_method_13_code 263 = .ok (.isub, 1) := by decide +kernel
theorem d_M_symbol_264 : decode prog_11_method_13_code 264 = .ok (.ireturn, 1) := by decide +kernel
theorem d_M_isLine_0 : decode prog_11_method_6_code 0 = .ok (.iload_n 0, 1) := by decide +kernel
theorem d_M_isLine_1 : decode prog_11_method_6_code 1 = .ok (.ifCond .lt 13, 3) := by decide +kernel
theorem d_M_isLine_4 : decode prog_11_method_6_code 4 = .ok (.iload_n 0, 1) := by decide +kernel
theorem d_M_isLine_5 : decode prog_11_method_6_code 5 = .ok (.ldc 145, 2) := by decide +kernel
theorem d_M_isLine_7 : decode prog_11_method_6_code 7 = .ok (.if_icmp .gt 7, 3) := by decide +kernel
theorem d_M_isLine_10 : decode prog_11_method_6_code 10 = .ok (.iconst 1, 1) := by decide +kernel
theorem d_M_isLine_11 : decode prog_11_method_6_code 11 = .ok (.goto 4, 3) := by decide +kernel
theorem d_M_isLine_14 : decode prog_11_method_6_code 14 = .ok (.iconst 0, 1) := by decide +kernel
theorem d_M_isLine_15 : decode prog_11_method_6_code 15 = .ok (.ireturn, 1) := by decide +kernel
theorem d_M_cut_0 : decode prog_11_method_12_code 0 = .ok (.iload_n 2, 1) := by decide +kernel
theorem d_M_cut_1 : decode prog_11_method_12_code 1 = .ok (.bipush 8, 2) := by decide +kernel
theorem d_M_cut_3 : decode prog_11_method_12_code 3 = .ok (.if_icmp .ne 7, 3) := by decide +kernel
theorem d_M_cut_6 : decode prog_11_method_12_code 6 = .ok (.lload_n 0, 1) := by decide +kernel
theorem d_M_cut_7 : decode prog_11_method_12_code 7 = .ok (.goto 13, 3) := by decide +kernel
theorem d_M_cut_10 : decode prog_11_method_12_code 10 = .ok (.lload_n 0, 1) := by decide +kernel
theorem d_M_cut_11 : decode prog_11_method_12_code 11 = .ok (.lconst 1, 1) := by decide +kernel
theorem d_M_cut_12 : decode prog_11_method_12_code 12 = .ok (.bipush 8, 2) := by decide +kernel
theorem d_M_cut_14 : decode prog_11_method_12_code 14 = .ok (.iload_n 2, 1) := by decide +kernel
theorem d_M_cut_15 : decode prog_11_method_12_code 15 = .ok (.imul, 1) := by decide +kernel
theorem d_M_cut_16 : decode prog_11_method_12_code 16 = .ok (.lshl, 1) := by decide +kernel
theorem d_M_cut_17 : decode prog_11_method_12_code 17 = .ok (.lconst 1, 1) := by decide +kernel
theorem d_M_cut_18 : decode prog_11_method_12_code 18 = .ok (.lsub, 1) := by decide +kernel
theorem d_M_cut_19 : decode prog_11_method_12_code 19 = .ok (.land, 1) := by decide +kernel
theorem d_M_cut_20 : decode prog_11_method_12_code 20 = .ok (.lreturn, 1) := by decide +kernel
theorem d_M_await_0 : decode prog_11_method_14_code 0 = .ok (.aload_n 0, 1) := by decide +kernel
theorem d_M_await_1 : decode prog_11_method_14_code 1 = .ok (.iconst 0, 1) := by decide +kernel
theorem d_M_await_2 : decode prog_11_method_14_code 2 = .ok (.putfield 123, 3) := by decide +kernel
theorem d_M_await_5 : decode prog_11_method_14_code 5 = .ok (.iload_n 3, 1) := by decide +kernel
theorem d_M_await_6 : decode prog_11_method_14_code 6 = .ok (.iconst 4, 1) := by decide +kernel
theorem d_M_await_7 : decode prog_11_method_14_code 7 = .ok (.if_icmp .eq 9, 3) := by decide +kernel
theorem d_M_await_10 : decode prog_11_method_14_code 10 = .ok (.iload_n 3, 1) := by decide +kernel
theorem d_M_await_11 : decode prog_11_method_14_code 11 = .ok (.bipush 8, 2) := by decide +kernel
theorem d_M_await_13 : decode prog_11_method_14_code 13 = .ok (.if_icmp .ne 31, 3) := by decide +kernel
theorem d_M_await_16 : decode prog_11_method_14_code 16 = .ok (.aload_n 0, 1) := by decide +kernel
theorem d_M_await_17 : decode prog_11_method_14_code 17 = .ok (.iload_n 1, 1) := by decide +kernel
theorem d_M_await_18 : decode prog_11_method_14_code 18 = .ok (.iload_n 2, 1) := by decide +kernel
theorem d_M_await_19 : decode prog_11_method_14_code 19 = .ok (.iload_n 3, 1) := by decide +kernel
theorem d_M_await_20 : decode prog_11_method_14_code 20 = .ok (.invokevirtual 154, 3) := by decide +kernel
theorem d_M_await_23 : decode prog_11_method_14_code 23 = .ok (.ifCond .eq 21, 3) := by decide +kernel
theorem d_M_await_26 : decode prog_11_method_14_code 26 = .ok (.iload 8, 2) := by decide +kernel
theorem d_M_await_28 : decode prog_11_method_14_code 28 = .ok (.invokestatic 158, 3) := by decide +kernel
theorem d_M_await_31 : decode prog_11_method_14_code 31 = .ok (.ifCond .eq 13, 3) := by decide +kernel
theorem d_M_await_34 : decode prog_11_method_14_code 34 = .ok (.aload_n 0, 1) := by decide +kernel
theorem d_M_await_35 : decode prog_11_method_14_code 35 = .ok (.getfield 132, 3) := by decide +kernel
theorem d_M_await_38 : decode prog_11_method_14_code 38 = .ok (.sipush 4096, 3) := by decide +kernel
theorem d_M_await_41 : decode prog_11_method_14_code 41 = .ok (.if_icmp .ne 5, 3) := by decide +kernel
theorem d_M_await_44 : decode prog_11_method_14_code 44 = .ok (.iconst 0, 1) := by decide +kernel
theorem d_M_await_45 : decode prog_11_method_14_code 45 = .ok (.ireturn, 1) := by decide +kernel
theorem d_M_await_46 : decode prog_11_method_14_code 46 = .ok (.iload 4, 2) := by decide +kernel
theorem d_M_await_48 : decode prog_11_method_14_code 48 = .ok (.iconst (-1), 1) := by decide +kernel
theorem d_M_await_49 : decode prog_11_method_14_code 49 = .ok (.if_icmp .lt 25, 3) := by decide +kernel
theorem d_M_await_52 : decode prog_11_method_14_code 52 = .ok (.iload 4, 2) := by decide +kernel
theorem d_M_await_54 : decode prog_11_method_14_code 54 = .ok (.aload_n 0, 1) := by decide +kernel
theorem d_M_await_55 : decode prog_11_method_14_code 55 = .ok (.getfield 22, 3) := by decide +kernel
theorem d_M_await_58 : decode prog_11_method_14_code 58 = .ok (.aload_n 0, 1) := by decide +kernel
theorem d_M_await_59 : decode prog_11_method_14_code 59 = .ok (.iload_n 1, 1) := by decide +kernel
theorem d_M_await_60 : decode prog_11_method_14_code 60 = .ok (.invokevirtual 150, 3) := by decide +kernel
theorem d_M_await_63 : decode prog_11_method_14_code 63 = .ok (.iaload, 1) := by decide +kernel
theorem d_M_await_64 : decode prog_11_method_14_code 64 = .ok (.if_icmp .gt 10, 3) := by decide +kernel
theorem d_M_await_67 : decode prog_11_method_14_code 67 = .ok (.iload 5, 2) := by decide +kernel
theorem d_M_await_69 : decode prog_11_method_14_code 69 = .ok (.bipush (-5), 2) := by decide +kernel
theorem d_M_await_71 : decode prog_11_method_14_code 71 = .ok (.if_icmp .ge 5, 3) := by decide +kernel
theorem d_M_await_74 : decode prog_11_method_14_code 74 = .ok (.iconst 0, 1) := by decide +kernel
theorem d_M_await_75 : decode prog_11_method_14_code 75 = .ok (.ireturn, 1) := by decide +kernel
theorem d_M_await_76 : decode prog_11_method_14_code 76 = .ok (.aload_n 0, 1) := by decide +kernel
theorem d_M_await_77 : decode prog_11_method_14_code 77 = .ok (.getfield 59, 3) := by decide +kernel
theorem d_M_await_80 : decode prog_11_method_14_code 80 = .ok (.aload_n 0, 1) := by decide +kernel
theorem d_M_await_81 : decode prog_11_method_14_code 81 = .ok (.getfield 126, 3) := by decide +kernel
theorem d_M_await_84 : decode prog_11_method_14_code 84 = .ok (.iconst 1, 1) := by decide +kernel
theorem d_M_await_85 : decode prog_11_method_14_code 85 = .ok (.isub, 1) := by decide +kernel
theorem d_M_await_86 : decode prog_11_method_14_code 86 = .ok (.iaload, 1) := by decide +kernel
theorem d_M_await_87 : decode prog_11_method_14_code 87 = .ok (.istore 9, 2) := by decide +kernel
theorem d_M_await_89 : decode prog_11_method_14_code 89 = .ok (.iload 5, 2) := by decide +kernel
theorem d_M_await_91 : decode prog_11_method_14_code 91 = .ok (.ifCond .lt 17, 3) := by decide +kernel
theorem d_M_await_94 : decode prog_11_method_14_code 94 = .ok (.iload 5, 2) := by decide +kernel
theorem d_M_await_96 : decode prog_11_method_14_code 96 = .ok (.aload_n 0, 1) := by decide +kernel
theorem d_M_await_97 : decode prog_11_method_14_code 97 = .ok (.getfield 129, 3) := by decide +kernel
theorem d_M_await_100 : decode prog_11_method_14_code 100 = .ok (.iload 9, 2) := by decide +kernel
theorem d_M_await_102 : decode prog_11_method_14_code 102 = .ok (.isub, 1) := by decide +kernel
theorem d_M_await_103 : decode prog_11_method_14_code 103 = .ok (.if_icmp .lt 5, 3) := by decide +kernel
theorem d_M_await_106 : decode prog_11_method_14_code 106 = .ok (.iconst 0, 1) := by decide +kernel
theorem d_M_await_107 : decode prog_11_method_14_code 107 = .ok (.ireturn, 1) := by decide +kernel
theorem d_M_await_108 : decode prog_11_method_14_code 108 = .ok (.aload_n 0, 1) := by decide +kernel
theorem d_M_await_109 : decode prog_11_method_14_code 109 = .ok (.getfield 62, 3) := by decide +kernel
theorem d_M_await_112 : decode prog_11_method_14_code 112 = .ok (.aload_n 0, 1) := by decide +kernel
theorem d_M_await_113 : decode prog_11_method_14_code 113 = .ok (.getfield 132, 3) := by decide +kernel
theorem d_M_await_116 : decode prog_11_method_14_code 116 = .ok (.aload_n 0, 1) := by decide +kernel
theorem d_M_await_117 : decode prog_11_method_14_code 117 = .ok (.getfield 126, 3) := by decide +kernel
theorem d_M_await_120 : decode prog_11_method_14_code 120 = .ok (.iconst 1, 1) := by decide +kernel
theorem d_M_await_121 : decode prog_11_method_14_code 121 = .ok (.isub, 1) := by decide +kernel
theorem d_M_await_122 : decode prog_11_method_14_code 122 = .ok (.iastore, 1) := by decide +kernel
theorem d_M_await_123 : decode prog_11_method_14_code 123 = .ok (.aload_n 0, 1) := by decide +kernel
theorem d_M_await_124 : decode prog_11_method_14_code 124 = .ok (.getfield 65, 3) := by decide +kernel
theorem d_M_await_127 : decode prog_11_method_14_code 127 = .ok (.aload_n 0, 1) := by decide +kernel
theorem d_M_await_128 : decode prog_11_method_14_code 128 = .ok (.getfield 132, 3) := by decide +kernel
theorem d_M_await_131 : decode prog_11_method_14_code 131 = .ok (.iload_n 1, 1) := by decide +kernel
theorem d_M_await_132 : decode prog_11_method_14_code 132 = .ok (.iastore, 1) := by decide +kernel
theorem d_M_await_133 : decode prog_11_method_14_code 133 = .ok (.aload_n 0, 1) := by decide +kernel
theorem d_M_await_134 : decode prog_11_method_14_code 134 = .ok (.getfield 68, 3) := by decide +kernel
theorem d_M_await_137 : decode prog_11_method_14_code 137 = .ok (.aload_n 0, 1) := by decide +kernel
theorem d_M_await_138 : decode prog_11_method_14_code 138 = .ok (.getfield 132, 3) := by decide +kernel
theorem d_M_await_141 : decode prog_11_method_14_code 141 = .ok (.iload_n 2, 1) := by decide +kernel
theorem d_M_await_142 : decode prog_11_method_14_code 142 = .ok (.iastore, 1) := by decide +kernel
theorem d_M_await_143 : decode prog_11_method_14_code 143 = .ok (.aload_n 0, 1) := by decide +kernel
theorem d_M_await_144 : decode prog_11_method_14_code 144 = .ok (.getfield 71, 3) := by decide +kernel
theorem d_M_await_147 : decode prog_11_method_14_code 147 = .ok (.aload_n 0, 1) := by decide +kernel
theorem d_M_await_148 : decode prog_11_method_14_code 148 = .ok (.getfield 132, 3) := by decide +kernel
theorem d_M_await_151 : decode prog_11_method_14_code 151 = .ok (.iload_n 3, 1) := by decide +kernel
theorem d_M_await_152 : decode prog_11_method_14_code 152 = .ok (.iastore, 1) := by decide +kernel
theorem d_M_await_153 : decode prog_11_method_14_code 153 = .ok (.aload_n 0, 1) := by decide +kernel
theorem d_M_await_154 : decode prog_11_method_14_code 154 = .ok (.getfield 74, 3) := by decide +kernel
theorem d_M_await_157 : decode prog_11_method_14_code 157 = .ok (.aload_n 0, 1) := by decide +kernel
theorem d_M_await_158 : decode prog_11_method_14_code 158 = .ok (.getfield 132, 3) := by decide +kernel
theorem d_M_await_161 : decode prog_11_method_14_code 161 = .ok (.iload 4, 2) := by decide +kernel
theorem d_M_await_163 : decode prog_11_method_14_code 163 = .ok (.iastore, 1) := by decide +kernel
theorem d_M_await_164 : decode prog_11_method_14_code 164 = .ok (.aload_n 0, 1) := by decide +kernel
theorem d_M_await_165 : decode prog_11_method_14_code 165 = .ok (.getfield 77, 3) := by decide +kernel
theorem d_M_await_168 : decode prog_11_method_14_code 168 = .ok (.aload_n 0, 1) := by decide +kernel
theorem d_M_await_169 : decode prog_11_method_14_code 169 = .ok (.getfield 132, 3) := by decide +kernel
theorem d_M_await_172 : decode prog_11_method_14_code 172 = .ok (.iload 5, 2) := by decide +kernel
theorem d_M_await_174 : decode prog_11_method_14_code 174 = .ok (.ifCond .ge 8, 3) := by decide +kernel
theorem d_M_await_177 : decode prog_11_method_14_code 177 = .ok (.iload 5, 2) := by decide +kernel
theorem d_M_await_179 : decode prog_11_method_14_code 179 = .ok (.goto 8, 3) := by decide +kernel
theorem d_M_await_182 : decode prog_11_method_14_code 182 = .ok (.iload 9, 2) := by decide +kernel
theorem d_M_await_184 : decode prog_11_method_14_code 184 = .ok (.iload 5, 2) := by decide +kernel
theorem d_M_await_186 : decode prog_11_method_14_code 186 = .ok (.iadd, 1) := by decide +kernel
theorem d_M_await_187 : decode prog_11_method_14_code 187 = .ok (.iastore, 1) := by decide +kernel
theorem d_M_await_188 : decode prog_11_method_14_code 188 = .ok (.aload_n 0, 1) := by decide +kernel
theorem d_M_await_189 : decode prog_11_method_14_code 189 = .ok (.getfield 83, 3) := by decide +kernel
theorem d_M_await_192 : decode prog_11_method_14_code 192 = .ok (.aload_n 0, 1) := by decide +kernel
theorem d_M_await_193 : decode prog_11_method_14_code 193 = .ok (.getfield 132, 3) := by decide +kernel
theorem d_M_await_196 : decode prog_11_method_14_code 196 = .ok (.lload 6, 2) := by decide +kernel
theorem d_M_await_198 : decode prog_11_method_14_code 198 = .ok (.lastore, 1) := by decide +kernel
theorem d_M_await_199 : decode prog_11_method_14_code 199 = .ok (.aload_n 0, 1) := by decide +kernel
theorem d_M_await_200 : decode prog_11_method_14_code 200 = .ok (.getfield 80, 3) := by decide +kernel
theorem d_M_await_203 : decode prog_11_method_14_code 203 = .ok (.aload_n 0, 1) := by decide +kernel
theorem d_M_await_204 : decode prog_11_method_14_code 204 = .ok (.getfield 132, 3) := by decide +kernel
theorem d_M_await_207 : decode prog_11_method_14_code 207 = .ok (.iload 8, 2) := by decide +kernel
theorem d_M_await_209 : decode prog_11_method_14_code 209 = .ok (.iastore, 1) := by decide +kernel
theorem d_M_await_210 : decode prog_11_method_14_code 210 = .ok (.aload_n 0, 1) := by decide +kernel
theorem d_M_await_211 : decode prog_11_method_14_code 211 = .ok (.dup, 1) := by decide +kernel
theorem d_M_await_212 : decode prog_11_method_14_code 212 = .ok (.getfield 132, 3) := by decide +kernel
theorem d_M_await_215 : decode prog_11_method_14_code 215 = .ok (.iconst 1, 1) := by decide +kernel
theorem d_M_await_216 : decode prog_11_method_14_code 216 = .ok (.iadd, 1) := by decide +kernel
theorem d_M_await_217 : decode prog_11_method_14_code 217 = .ok (.putfield 132, 3) := by decide +kernel
theorem d_M_await_220 : decode prog_11_method_14_code 220 = .ok (.iconst 1, 1) := by decide +kernel
theorem d_M_await_221 : decode prog_11_method_14_code 221 = .ok (.ireturn, 1) := by decide +kernel
theorem d_M_start_0 : decode prog_11_method_15_code 0 = .ok (.aload_n 0, 1) := by decide +kernel
theorem d_M_start_1 : decode prog_11_method_15_code 1 = .ok (.iconst 0, 1) := by decide +kernel
theorem d_M_start_2 : decode prog_11_method_15_code 2 = .ok (.putfield 123, 3) := by decide +kernel
theorem d_M_start_5 : decode prog_11_method_15_code 5 = .ok (.aload_n 0, 1) := by decide +kernel
theorem d_M_start_6 : decode prog_11_method_15_code 6 = .ok (.getfield 126, 3) := by decide +kernel
theorem d_M_start_9 : decode prog_11_method_15_code 9 = .ok (.ifCond .eq 38, 3) := by decide +kernel
theorem d_M_start_12 : decode prog_11_method_15_code 12 = .ok (.iload_n 1, 1) := by decide +kernel
theorem d_M_start_13 : decode prog_11_method_15_code 13 = .ok (.ifCond .lt 34, 3) := by decide +kernel
theorem d_M_start_16 : decode prog_11_method_15_code 16 = .ok (.iload_n 1, 1) := by decide +kernel
theorem d_M_start_17 : decode prog_11_method_15_code 17 = .ok (.aload_n 0, 1) := by decide +kernel
theorem d_M_start_18 : decode prog_11_method_15_code 18 = .ok (.getfield 22, 3) := by decide +kernel
theorem d_M_start_21 : decode prog_11_method_15_code 21 = .ok (.aload_n 0, 1) := by decide +kernel
theorem d_M_start_22 : decode prog_11_method_15_code 22 = .ok (.iconst 0, 1) := by decide +kernel
theorem d_M_start_23 : decode prog_11_method_15_code 23 = .ok (.invokevirtual 150, 3) := by decide +kernel
theorem d_M_start_26 : decode prog_11_method_15_code 26 = .ok (.iaload, 1) := by decide +kernel
theorem d_M_start_27 : decode prog_11_method_15_code 27 = .ok (.if_icmp .ge 20, 3) := by decide +kernel
theorem d_M_start_30 : decode prog_11_method_15_code 30 = .ok (.iload_n 2, 1) := by decide +kernel
theorem d_M_start_31 : decode prog_11_method_15_code 31 = .ok (.invokestatic 158, 3) := by decide +kernel
theorem d_M_start_34 : decode prog_11_method_15_code 34 = .ok (.ifCond .eq 13, 3) := by decide +kernel
theorem d_M_start_37 : decode prog_11_method_15_code 37 = .ok (.aload_n 0, 1) := by decide +kernel
theorem d_M_start_38 : decode prog_11_method_15_code 38 = .ok (.getfield 135, 3) := by decide +kernel
theorem d_M_start_41 : decode prog_11_method_15_code 41 = .ok (.sipush 8192, 3) := by decide +kernel
theorem d_M_start_44 : decode prog_11_method_15_code 44 = .ok (.if_icmp .ne 5, 3) := by decide +kernel
theorem d_M_start_47 : decode prog_11_method_15_code 47 = .ok (.iconst 0, 1) := by decide +kernel
theorem d_M_start_48 : decode prog_11_method_15_code 48 = .ok (.ireturn, 1) := by decide +kernel
theorem d_M_start_49 : decode prog_11_method_15_code 49 = .ok (.aload_n 0, 1) := by decide +kernel
theorem d_M_start_50 : decode prog_11_method_15_code 50 = .ok (.getfield 86, 3) := by decide +kernel
theorem d_M_start_53 : decode prog_11_method_15_code 53 = .ok (.aload_n 0, 1) := by decide +kernel
theorem d_M_start_54 : decode prog_11_method_15_code 54 = .ok (.getfield 135, 3) := by decide +kernel
theorem d_M_start_57 : decode prog_11_method_15_code 57 = .ok (.aload_n 0, 1) := by decide +kernel
theorem d_M_start_58 : decode prog_11_method_15_code 58 = .ok (.getfield 126, 3) := by decide +kernel
theorem d_M_start_61 : decode prog_11_method_15_code 61 = .ok (.iconst 1, 1) := by decide +kernel
theorem d_M_start_62 : decode prog_11_method_15_code 62 = .ok (.isub, 1) := by decide +kernel
theorem d_M_start_63 : decode prog_11_method_15_code 63 = .ok (.iastore, 1) := by decide +kernel
theorem d_M_start_64 : decode prog_11_method_15_code 64 = .ok (.aload_n 0, 1) := by decide +kernel
theorem d_M_start_65 : decode prog_11_method_15_code 65 = .ok (.getfield 89, 3) := by decide +kernel
theorem d_M_start_68 : decode prog_11_method_15_code 68 = .ok (.aload_n 0, 1) := by decide +kernel
theorem d_M_start_69 : decode prog_11_method_15_code 69 = .ok (.getfield 135, 3) := by decide +kernel
theorem d_M_start_72 : decode prog_11_method_15_code 72 = .ok (.iload_n 1, 1) := by decide +kernel
theorem d_M_start_73 : decode prog_11_method_15_code 73 = .ok (.iastore, 1) := by decide +kernel
theorem d_M_start_74 : decode prog_11_method_15_code 74 = .ok (.aload_n 0, 1) := by decide +kernel
theorem d_M_start_75 : decode prog_11_method_15_code 75 = .ok (.getfield 92, 3) := by decide +kernel
theorem d_M_start_78 : decode prog_11_method_15_code 78 = .ok (.aload_n 0, 1) := by decide +kernel
theorem d_M_start_79 : decode prog_11_method_15_code 79 = .ok (.getfield 135, 3) := by decide +kernel
theorem d_M_start_82 : decode prog_11_method_15_code 82 = .ok (.iload_n 2, 1) := by decide +kernel
theorem d_M_start_83 : decode prog_11_method_15_code 83 = .ok (.iastore, 1) := by decide +kernel
theorem d_M_start_84 : decode prog_11_method_15_code 84 = .ok (.aload_n 0, 1) := by decide +kernel
theorem d_M_start_85 : decode prog_11_method_15_code 85 = .ok (.dup, 1) := by decide +kernel
theorem d_M_start_86 : decode prog_11_method_15_code 86 = .ok (.getfield 135, 3) := by decide +kernel
theorem d_M_start_89 : decode prog_11_method_15_code 89 = .ok (.iconst 1, 1) := by decide +kernel
theorem d_M_start_90 : decode prog_11_method_15_code 90 = .ok (.iadd, 1) := by decide +kernel
theorem d_M_start_91 : decode prog_11_method_15_code 91 = .ok (.putfield 135, 3) := by decide +kernel
theorem d_M_start_94 : decode prog_11_method_15_code 94 = .ok (.iconst 1, 1) := by decide +kernel
theorem d_M_start_95 : decode prog_11_method_15_code 95 = .ok (.ireturn, 1) := by decide +kernel
theorem d_M_link_0 : decode prog_11_method_29_code 0 = .ok (.aload_n 0, 1) := by decide +kernel
theorem d_M_link_1 : decode prog_11_method_29_code 1 = .ok (.iconst 0, 1) := by decide +kernel
theorem d_M_link_2 : decode prog_11_method_29_code 2 = .ok (.putfield 178, 3) := by decide +kernel
theorem d_M_link_5 : decode prog_11_method_29_code 5 = .ok (.aload_n 0, 1) := by decide +kernel
theorem d_M_link_6 : decode prog_11_method_29_code 6 = .ok (.iconst 0, 1) := by decide +kernel
theorem d_M_link_7 : decode prog_11_method_29_code 7 = .ok (.putfield 181, 3) := by decide +kernel
theorem d_M_link_10 : decode prog_11_method_29_code 10 = .ok (.aload_n 0, 1) := by decide +kernel
theorem d_M_link_11 : decode prog_11_method_29_code 11 = .ok (.iconst (-1), 1) := by decide +kernel
theorem d_M_link_12 : decode prog_11_method_29_code 12 = .ok (.putfield 95, 3) := by decide +kernel
theorem d_M_link_15 : decode prog_11_method_29_code 15 = .ok (.aload_n 0, 1) := by decide +kernel
theorem d_M_link_16 : decode prog_11_method_29_code 16 = .ok (.invokevirtual 202, 3) := by decide +kernel
theorem d_M_link_19 : decode prog_11_method_29_code 19 = .ok (.aload_n 0, 1) := by decide +kernel
theorem d_M_link_20 : decode prog_11_method_29_code 20 = .ok (.ldc2_w 205, 3) := by decide +kernel
theorem d_M_link_23 : decode prog_11_method_29_code 23 = .ok (.iconst 5, 1) := by decide +kernel
theorem d_M_link_24 : decode prog_11_method_29_code 24 = .ok (.invokevirtual 171, 3) := by decide +kernel
theorem d_M_link_27 : decode prog_11_method_29_code 27 = .ok (.istore_n 1, 1) := by decide +kernel
theorem d_M_link_28 : decode prog_11_method_29_code 28 = .ok (.iload_n 1, 1) := by decide +kernel
theorem d_M_link_29 : decode prog_11_method_29_code 29 = .ok (.ifCond .lt 11, 3) := by decide +kernel
theorem d_M_link_32 : decode prog_11_method_29_code 32 = .ok (.aload_n 0, 1) := by decide +kernel
theorem d_M_link_33 : decode prog_11_method_29_code 33 = .ok (.iload_n 1, 1) := by decide +kernel
theorem d_M_link_34 : decode prog_11_method_29_code 34 = .ok (.invokevirtual 165, 3) := by decide +kernel
theorem d_M_link_37 : decode prog_11_method_29_code 37 = .ok (.ifCond .ne 13, 3) := by decide +kernel
theorem d_M_link_40 : decode prog_11_method_29_code 40 = .ok (.aload_n 0, 1) := by decide +kernel
theorem d_M_link_41 : decode prog_11_method_29_code 41 = .ok (.iconst 1, 1) := by decide +kernel
theorem d_M_link_42 : decode prog_11_method_29_code 42 = .ok (.iconst (-1), 1) := by decide +kernel
theorem d_M_link_43 : decode prog_11_method_29_code 43 = .ok (.iconst 0, 1) := by decide +kernel
theorem d_M_link_44 : decode prog_11_method_29_code 44 = .ok (.invokevirtual 184, 3) := by decide +kernel
theorem d_M_link_47 : decode prog_11_method_29_code 47 = .ok (.goto 7, 3) := by decide +kernel
theorem d_M_link_50 : decode prog_11_method_29_code 50 = .ok (.aload_n 0, 1) := by decide +kernel
theorem d_M_link_51 : decode prog_11_method_29_code 51 = .ok (.invokevirtual 207, 3) := by decide +kernel
theorem d_M_link_54 : decode prog_11_method_29_code 54 = .ok (.aload_n 0, 1) := by decide +kernel
theorem d_M_link_55 : decode prog_11_method_29_code 55 = .ok (.getfield 178, 3) := by decide +kernel
theorem d_M_link_58 : decode prog_11_method_29_code 58 = .ok (.ifCond .eq 10, 3) := by decide +kernel
theorem d_M_link_61 : decode prog_11_method_29_code 61 = .ok (.aload_n 0, 1) := by decide +kernel
theorem d_M_link_62 : decode prog_11_method_29_code 62 = .ok (.iconst 1, 1) := by decide +kernel
theorem d_M_link_63 : decode prog_11_method_29_code 63 = .ok (.iconst 0, 1) := by decide +kernel
theorem d_M_link_64 : decode prog_11_method_29_code 64 = .ok (.invokevirtual 210, 3) := by decide +kernel
theorem d_M_link_67 : decode prog_11_method_29_code 67 = .ok (.ireturn, 1) := by decide +kernel
theorem d_M_link_68 : decode prog_11_method_29_code 68 = .ok (.aload_n 0, 1) := by decide +kernel
theorem d_M_link_69 : decode prog_11_method_29_code 69 = .ok (.getfield 105, 3) := by decide +kernel
theorem d_M_link_72 : decode prog_11_method_29_code 72 = .ok (.astore_n 2, 1) := by decide +kernel
theorem d_M_link_73 : decode prog_11_method_29_code 73 = .ok (.aload_n 2, 1) := by decide +kernel
theorem d_M_link_74 : decode prog_11_method_29_code 74 = .ok (.iconst 0, 1) := by decide +kernel
theorem d_M_link_75 : decode prog_11_method_29_code 75 = .ok (.iaload, 1) := by decide +kernel
theorem d_M_link_76 : decode prog_11_method_29_code 76 = .ok (.istore_n 3, 1) := by decide +kernel
theorem d_M_link_77 : decode prog_11_method_29_code 77 = .ok (.aload_n 2, 1) := by decide +kernel
theorem d_M_link_78 : decode prog_11_method_29_code 78 = .ok (.iconst 1, 1) := by decide +kernel
theorem d_M_link_79 : decode prog_11_method_29_code 79 = .ok (.iaload, 1) := by decide +kernel
theorem d_M_link_80 : decode prog_11_method_29_code 80 = .ok (.istore 4, 2) := by decide +kernel
theorem d_M_link_82 : decode prog_11_method_29_code 82 = .ok (.aload_n 2, 1) := by decide +kernel
theorem d_M_link_83 : decode prog_11_method_29_code 83 = .ok (.iconst 2, 1) := by decide +kernel
theorem d_M_link_84 : decode prog_11_method_29_code 84 = .ok (.iaload, 1) := by decide +kernel
theorem d_M_link_85 : decode prog_11_method_29_code 85 = .ok (.istore 5, 2) := by decide +kernel
theorem d_M_link_87 : decode prog_11_method_29_code 87 = .ok (.aload_n 2, 1) := by decide +kernel
theorem d_M_link_88 : decode prog_11_method_29_code 88 = .ok (.iconst 3, 1) := by decide +kernel
theorem d_M_link_89 : decode prog_11_method_29_code 89 = .ok (.iaload, 1) := by decide +kernel
theorem d_M_link_90 : decode prog_11_method_29_code 90 = .ok (.istore 6, 2) := by decide +kernel
theorem d_M_link_92 : decode prog_11_method_29_code 92 = .ok (.aload_n 2, 1) := by decide +kernel
theorem d_M_link_93 : decode prog_11_method_29_code 93 = .ok (.iconst 4, 1) := by decide +kernel
theorem d_M_link_94 : decode prog_11_method_29_code 94 = .ok (.iaload, 1) := by decide +kernel
theorem d_M_link_95 : decode prog_11_method_29_code 95 = .ok (.istore 7, 2) := by decide +kernel
theorem d_M_link_97 : decode prog_11_method_29_code 97 = .ok (.aload_n 2, 1) := by decide +kernel
theorem d_M_link_98 : decode prog_11_method_29_code 98 = .ok (.bipush 6, 2) := by decide +kernel
theorem d_M_link_100 : decode prog_11_method_29_code 100 = .ok (.iaload, 1) := by decide +kernel
theorem d_M_link_101 : decode prog_11_method_29_code 101 = .ok (.istore 8, 2) := by decide +kernel
theorem d_M_link_103 : decode prog_11_method_29_code 103 = .ok (.aload_n 0, 1) := by decide +kernel
theorem d_M_link_104 : decode prog_11_method_29_code 104 = .ok (.getfield 191, 3) := by decide +kernel
theorem d_M_link_107 : decode prog_11_method_29_code 107 = .ok (.istore 9, 2) := by decide +kernel
theorem d_M_link_109 : decode prog_11_method_29_code 109 = .ok (.aload_n 0, 1) := by decide +kernel
theorem d_M_link_110 : decode prog_11_method_29_code 110 = .ok (.iload_n 1, 1) := by decide +kernel
theorem d_M_link_111 : decode prog_11_method_29_code 111 = .ok (.invokevirtual 214, 3) := by decide +kernel
theorem d_M_link_114 : decode prog_11_method_29_code 114 = .ok (.aload_n 0, 1) := by decide +kernel
theorem d_M_link_115 : decode prog_11_method_29_code 115 = .ok (.aload_n 0, 1) := by decide +kernel
theorem d_M_link_116 : decode prog_11_method_29_code 116 = .ok (.getfield 126, 3) := by decide +kernel
theorem d_M_link_119 : decode prog_11_method_29_code 119 = .ok (.putfield 141, 3) := by decide +kernel
theorem d_M_link_122 : decode prog_11_method_29_code 122 = .ok (.iconst 0, 1) := by decide +kernel
theorem d_M_link_123 : decode prog_11_method_29_code 123 = .ok (.istore 10, 2) := by decide +kernel
theorem d_M_link_125 : decode prog_11_method_29_code 125 = .ok (.iload 10, 2) := by decide +kernel
theorem d_M_link_127 : decode prog_11_method_29_code 127 = .ok (.sipush 128, 3) := by decide +kernel
theorem d_M_link_130 : decode prog_11_method_29_code 130 = .ok (.if_icmp .ge 23, 3) := by decide +kernel
theorem d_M_link_133 : decode prog_11_method_29_code 133 = .ok (.aload_n 0, 1) := by decide +kernel
theorem d_M_link_134 : decode prog_11_method_29_code 134 = .ok (.getfield 99, 3) := by decide +kernel
theorem d_M_link_137 : decode prog_11_method_29_code 137 = .ok (.iload 10, 2) := by decide +kernel
theorem d_M_link_139 : decode prog_11_method_29_code 139 = .ok (.aload_n 0, 1) := by decide +kernel
theorem d_M_link_140 : decode prog_11_method_29_code 140 = .ok (.getfield 19, 3) := by decide +kernel
theorem d_M_link_143 : decode prog_11_method_29_code 143 = .ok (.iload 10, 2) := by decide +kernel
theorem d_M_link_145 : decode prog_11_method_29_code 145 = .ok (.baload, 1) := by decide +kernel
theorem d_M_link_146 : decode prog_11_method_29_code 146 = .ok (.bastore, 1) := by decide +kernel
theorem d_M_link_147 : decode prog_11_method_29_code 147 = .ok (.iinc 10 1, 3) := by decide +kernel
theorem d_M_link_150 : decode prog_11_method_29_code 150 = .ok (.goto (-25), 3) := by decide +kernel
theorem d_M_link_153 : decode prog_11_method_29_code 153 = .ok (.aload_n 0, 1) := by decide +kernel
theorem d_M_link_154 : decode prog_11_method_29_code 154 = .ok (.invokevirtual 218, 3) := by decide +kernel
theorem d_M_link_157 : decode prog_11_method_29_code 157 = .ok (.aload_n 0, 1) := by decide +kernel
theorem d_M_link_158 : decode prog_11_method_29_code 158 = .ok (.invokevirtual 221, 3) := by decide +kernel
theorem d_M_link_161 : decode prog_11_method_29_code 161 = .ok (.aload_n 0, 1) := by decide +kernel
theorem d_M_link_162 : decode prog_11_method_29_code 162 = .ok (.getfield 191, 3) := by decide +kernel
theorem d_M_link_165 : decode prog_11_method_29_code 165 = .ok (.ldc 32, 2) := by decide +kernel
theorem d_M_link_167 : decode prog_11_method_29_code 167 = .ok (.if_icmp .le 10, 3) := by decide +kernel
theorem d_M_link_170 : decode prog_11_method_29_code 170 = .ok (.aload_n 0, 1) := by decide +kernel
theorem d_M_link_171 : decode prog_11_method_29_code 171 = .ok (.iconst 5, 1) := by decide +kernel
theorem d_M_link_172 : decode prog_11_method_29_code 172 = .ok (.iconst (-1), 1) := by decide +kernel
theorem d_M_link_173 : decode prog_11_method_29_code 173 = .ok (.iconst 0, 1) := by decide +kernel
theorem d_M_link_174 : decode prog_11_method_29_code 174 = .ok (.invokevirtual 184, 3) := by decide +kernel
theorem d_M_link_177 : decode prog_11_method_29_code 177 = .ok (.aload_n 0, 1) := by decide +kernel
theorem d_M_link_178 : decode prog_11_method_29_code 178 = .ok (.getfield 178, 3) := by decide +kernel
theorem d_M_link_181 : decode prog_11_method_29_code 181 = .ok (.ifCond .eq 64, 3) := by decide +kernel
theorem d_M_link_184 : decode prog_11_method_29_code 184 = .ok (.aload_n 0, 1) := by decide +kernel
theorem d_M_link_185 : decode prog_11_method_29_code 185 = .ok (.getfield 105, 3) := by decide +kernel
theorem d_M_link_188 : decode prog_11_method_29_code 188 = .ok (.iconst 0, 1) := by decide +kernel
theorem d_M_link_189 : decode prog_11_method_29_code 189 = .ok (.iload_n 3, 1) := by decide +kernel
theorem d_M_link_190 : decode prog_11_method_29_code 190 = .ok (.iastore, 1) := by decide +kernel
theorem d_M_link_191 : decode prog_11_method_29_code 191 = .ok (.aload_n 0, 1) := by decide +kernel
theorem d_M_link_192 : decode prog_11_method_29_code 192 = .ok (.getfield 105, 3) := by decide +kernel
theorem d_M_link_195 : decode prog_11_method_29_code 195 = .ok (.iconst 1, 1) := by decide +kernel
theorem d_M_link_196 : decode prog_11_method_29_code 196 = .ok (.iload 4, 2) := by decide +kernel
theorem d_M_link_198 : decode prog_11_method_29_code 198 = .ok (.iastore, 1) := by decide +kernel
theorem d_M_link_199 : decode prog_11_method_29_code 199 = .ok (.aload_n 0, 1) := by decide +kernel
theorem d_M_link_200 : decode prog_11_method_29_code 200 = .ok (.getfield 105, 3) := by decide +kernel
theorem d_M_link_203 : decode prog_11_method_29_code 203 = .ok (.iconst 2, 1) := by decide +kernel
theorem d_M_link_204 : decode prog_11_method_29_code 204 = .ok (.iload 5, 2) := by decide +kernel
theorem d_M_link_206 : decode prog_11_method_29_code 206 = .ok (.iastore, 1) := by decide +kernel
theorem d_M_link_207 : decode prog_11_method_29_code 207 = .ok (.aload_n 0, 1) := by decide +kernel
theorem d_M_link_208 : decode prog_11_method_29_code 208 = .ok (.getfield 105, 3) := by decide +kernel
theorem d_M_link_211 : decode prog_11_method_29_code 211 = .ok (.iconst 3, 1) := by decide +kernel
theorem d_M_link_212 : decode prog_11_method_29_code 212 = .ok (.iload 6, 2) := by decide +kernel
theorem d_M_link_214 : decode prog_11_method_29_code 214 = .ok (.iastore, 1) := by decide +kernel
theorem d_M_link_215 : decode prog_11_method_29_code 215 = .ok (.aload_n 0, 1) := by decide +kernel
theorem d_M_link_216 : decode prog_11_method_29_code 216 = .ok (.getfield 105, 3) := by decide +kernel
theorem d_M_link_219 : decode prog_11_method_29_code 219 = .ok (.iconst 4, 1) := by decide +kernel
theorem d_M_link_220 : decode prog_11_method_29_code 220 = .ok (.iload 7, 2) := by decide +kernel
theorem d_M_link_222 : decode prog_11_method_29_code 222 = .ok (.iastore, 1) := by decide +kernel
theorem d_M_link_223 : decode prog_11_method_29_code 223 = .ok (.aload_n 0, 1) := by decide +kernel
theorem d_M_link_224 : decode prog_11_method_29_code 224 = .ok (.getfield 105, 3) := by decide +kernel
theorem d_M_link_227 : decode prog_11_method_29_code 227 = .ok (.bipush 6, 2) := by decide +kernel
theorem d_M_link_229 : decode prog_11_method_29_code 229 = .ok (.iload 8, 2) := by decide +kernel
theorem d_M_link_231 : decode prog_11_method_29_code 231 = .ok (.iastore, 1) := by decide +kernel
theorem d_M_link_232 : decode prog_11_method_29_code 232 = .ok (.aload_n 0, 1) := by decide +kernel
theorem d_M_link_233 : decode prog_11_method_29_code 233 = .ok (.iload 9, 2) := by decide +kernel
theorem d_M_link_235 : decode prog_11_method_29_code 235 = .ok (.putfield 191, 3) := by decide +kernel
theorem d_M_link_238 : decode prog_11_method_29_code 238 = .ok (.aload_n 0, 1) := by decide +kernel
theorem d_M_link_239 : decode prog_11_method_29_code 239 = .ok (.iconst 1, 1) := by decide +kernel
theorem d_M_link_240 : decode prog_11_method_29_code 240 = .ok (.iconst 0, 1) := by decide +kernel
theorem d_M_link_241 : decode prog_11_method_29_code 241 = .ok (.invokevirtual 210, 3) := by decide +kernel
theorem d_M_link_244 : decode prog_11_method_29_code 244 = .ok (.ireturn, 1) := by decide +kernel
theorem d_M_link_245 : decode prog_11_method_29_code 245 = .ok (.aload_n 0, 1) := by decide +kernel
theorem d_M_link_246 : decode prog_11_method_29_code 246 = .ok (.iconst 1, 1) := by decide +kernel
theorem d_M_link_247 : decode prog_11_method_29_code 247 = .ok (.putfield 224, 3) := by decide +kernel
theorem d_M_link_250 : decode prog_11_method_29_code 250 = .ok (.aload_n 0, 1) := by decide +kernel
theorem d_M_link_251 : decode prog_11_method_29_code 251 = .ok (.getfield 105, 3) := by decide +kernel
theorem d_M_link_254 : decode prog_11_method_29_code 254 = .ok (.iconst 5, 1) := by decide +kernel
theorem d_M_link_255 : decode prog_11_method_29_code 255 = .ok (.aload_n 0, 1) := by decide +kernel
theorem d_M_link_256 : decode prog_11_method_29_code 256 = .ok (.iload_n 1, 1) := by decide +kernel
theorem d_M_link_257 : decode prog_11_method_29_code 257 = .ok (.invokevirtual 195, 3) := by decide +kernel
theorem d_M_link_260 : decode prog_11_method_29_code 260 = .ok (.iastore, 1) := by decide +kernel
theorem d_M_link_261 : decode prog_11_method_29_code 261 = .ok (.iconst 0, 1) := by decide +kernel
theorem d_M_link_262 : decode prog_11_method_29_code 262 = .ok (.istore 10, 2) := by decide +kernel
theorem d_M_link_264 : decode prog_11_method_29_code 264 = .ok (.iload 10, 2) := by decide +kernel
theorem d_M_link_266 : decode prog_11_method_29_code 266 = .ok (.ldc 32, 2) := by decide +kernel
theorem d_M_link_268 : decode prog_11_method_29_code 268 = .ok (.if_icmp .ge 17, 3) := by decide +kernel
theorem d_M_link_271 : decode prog_11_method_29_code 271 = .ok (.aload_n 0, 1) := by decide +kernel
theorem d_M_link_272 : decode prog_11_method_29_code 272 = .ok (.getfield 102, 3) := by decide +kernel
theorem d_M_link_275 : decode prog_11_method_29_code 275 = .ok (.iload 10, 2) := by decide +kernel
theorem d_M_link_277 : decode prog_11_method_29_code 277 = .ok (.iconst 0, 1) := by decide +kernel
theorem d_M_link_278 : decode prog_11_method_29_code 278 = .ok (.bastore, 1) := by decide +kernel
theorem d_M_link_279 : decode prog_11_method_29_code 279 = .ok (.iinc 10 1, 3) := by decide +kernel
theorem d_M_link_282 : decode prog_11_method_29_code 282 = .ok (.goto (-18), 3) := by decide +kernel
theorem d_M_link_285 : decode prog_11_method_29_code 285 = .ok (.iconst 0, 1) := by decide +kernel
theorem d_M_link_286 : decode prog_11_method_29_code 286 = .ok (.istore 10, 2) := by decide +kernel
theorem d_M_link_288 : decode prog_11_method_29_code 288 = .ok (.iload 10, 2) := by decide +kernel
theorem d_M_link_290 : decode prog_11_method_29_code 290 = .ok (.iconst 4, 1) := by decide +kernel
theorem d_M_link_291 : decode prog_11_method_29_code 291 = .ok (.aload_n 0, 1) := by decide +kernel
theorem d_M_link_292 : decode prog_11_method_29_code 292 = .ok (.getfield 126, 3) := by decide +kernel
theorem d_M_link_295 : decode prog_11_method_29_code 295 = .ok (.imul, 1) := by decide +kernel
theorem d_M_link_296 : decode prog_11_method_29_code 296 = .ok (.if_icmp .ge 78, 3) := by decide +kernel
theorem d_M_link_299 : decode prog_11_method_29_code 299 = .ok (.iconst 0, 1) := by decide +kernel
theorem d_M_link_300 : decode prog_11_method_29_code 300 = .ok (.istore 11, 2) := by decide +kernel
theorem d_M_link_302 : decode prog_11_method_29_code 302 = .ok (.iload 11, 2) := by decide +kernel
theorem d_M_link_304 : decode prog_11_method_29_code 304 = .ok (.aload_n 0, 1) := by decide +kernel
theorem d_M_link_305 : decode prog_11_method_29_code 305 = .ok (.getfield 22, 3) := by decide +kernel
theorem d_M_link_308 : decode prog_11_method_29_code 308 = .ok (.iload 10, 2) := by decide +kernel
theorem d_M_link_310 : decode prog_11_method_29_code 310 = .ok (.iaload, 1) := by decide +kernel
theorem d_M_link_311 : decode prog_11_method_29_code 311 = .ok (.if_icmp .ge 57, 3) := by decide +kernel
theorem d_M_link_314 : decode prog_11_method_29_code 314 = .ok (.aload_n 0, 1) := by decide +kernel
theorem d_M_link_315 : decode prog_11_method_29_code 315 = .ok (.getfield 19, 3) := by decide +kernel
theorem d_M_link_318 : decode prog_11_method_29_code 318 = .ok (.iload 10, 2) := by decide +kernel
theorem d_M_link_320 : decode prog_11_method_29_code 320 = .ok (.baload, 1) := by decide +kernel
theorem d_M_link_321 : decode prog_11_method_29_code 321 = .ok (.ifCond .eq 47, 3) := by decide +kernel
theorem d_M_link_324 : decode prog_11_method_29_code 324 = .ok (.iload 10, 2) := by decide +kernel
theorem d_M_link_326 : decode prog_11_method_29_code 326 = .ok (.iconst 4, 1) := by decide +kernel
theorem d_M_link_327 : decode prog_11_method_29_code 327 = .ok (.irem, 1) := by decide +kernel
theorem d_M_link_328 : decode prog_11_method_29_code 328 = .ok (.iconst 3, 1) := by decide +kernel
theorem d_M_link_329 : decode prog_11_method_29_code 329 = .ok (.if_icmp .ge 39, 3) := by decide +kernel
theorem d_M_link_332 : decode prog_11_method_29_code 332 = .ok (.aload_n 0, 1) := by decide +kernel
theorem d_M_link_333 : decode prog_11_method_29_code 333 = .ok (.getfield 102, 3) := by decide +kernel
theorem d_M_link_336 : decode prog_11_method_29_code 336 = .ok (.aload_n 0, 1) := by decide +kernel
theorem d_M_link_337 : decode prog_11_method_29_code 337 = .ok (.getfield 29, 3) := by decide +kernel
theorem d_M_link_340 : decode prog_11_method_29_code 340 = .ok (.iload 10, 2) := by decide +kernel
theorem d_M_link_342 : decode prog_11_method_29_code 342 = .ok (.iaload, 1) := by decide +kernel
theorem d_M_link_343 : decode prog_11_method_29_code 343 = .ok (.iload 11, 2) := by decide +kernel
theorem d_M_link_345 : decode prog_11_method_29_code 345 = .ok (.iadd, 1) := by decide +kernel
theorem d_M_link_346 : decode prog_11_method_29_code 346 = .ok (.aload_n 0, 1) := by decide +kernel
theorem d_M_link_347 : decode prog_11_method_29_code 347 = .ok (.getfield 33, 3) := by decide +kernel
theorem d_M_link_350 : decode prog_11_method_29_code 350 = .ok (.aload_n 0, 1) := by decide +kernel
theorem d_M_link_351 : decode prog_11_method_29_code 351 = .ok (.getfield 26, 3) := by decide +kernel
theorem d_M_link_354 : decode prog_11_method_29_code 354 = .ok (.iload 10, 2) := by decide +kernel
theorem d_M_link_356 : decode prog_11_method_29_code 356 = .ok (.iaload, 1) := by decide +kernel
theorem d_M_link_357 : decode prog_11_method_29_code 357 = .ok (.iload 11, 2) := by decide +kernel
theorem d_M_link_359 : decode prog_11_method_29_code 359 = .ok (.iadd, 1) := by decide +kernel
theorem d_M_link_360 : decode prog_11_method_29_code 360 = .ok (.baload, 1) := by decide +kernel
theorem d_M_link_361 : decode prog_11_method_29_code 361 = .ok (.bastore, 1) := by decide +kernel
theorem d_M_link_362 : decode prog_11_method_29_code 362 = .ok (.iinc 11 1, 3) := by decide +kernel
theorem d_M_link_365 : decode prog_11_method_29_code 365 = .ok (.goto (-63), 3) := by decide +kernel
theorem d_M_link_368 : decode prog_11_method_29_code 368 = .ok (.iinc 10 1, 3) := by decide +kernel
theorem d_M_link_371 : decode prog_11_method_29_code 371 = .ok (.goto (-83), 3) := by decide +kernel
theorem d_M_link_374 : decode prog_11_method_29_code 374 = .ok (.iconst 0, 1) := by decide +kernel
theorem d_M_link_375 : decode prog_11_method_29_code 375 = .ok (.istore 10, 2) := by decide +kernel
theorem d_M_link_377 : decode prog_11_method_29_code 377 = .ok (.iload 10, 2) := by decide +kernel
theorem d_M_link_379 : decode prog_11_method_29_code 379 = .ok (.aload_n 0, 1) := by decide +kernel
theorem d_M_link_380 : decode prog_11_method_29_code 380 = .ok (.getfield 132, 3) := by decide +kernel
theorem d_M_link_383 : decode prog_11_method_29_code 383 = .ok (.if_icmp .ge 114, 3) := by decide +kernel
theorem d_M_link_386 : decode prog_11_method_29_code 386 = .ok (.iconst 4, 1) := by decide +kernel
theorem d_M_link_387 : decode prog_11_method_29_code 387 = .ok (.aload_n 0, 1) := by decide +kernel
theorem d_M_link_388 : decode prog_11_method_29_code 388 = .ok (.getfield 62, 3) := by decide +kernel
theorem d_M_link_391 : decode prog_11_method_29_code 391 = .ok (.iload 10, 2) := by decide +kernel
theorem d_M_link_393 : decode prog_11_method_29_code 393 = .ok (.iaload, 1) := by decide +kernel
theorem d_M_link_394 : decode prog_11_method_29_code 394 = .ok (.imul, 1) := by decide +kernel
theorem d_M_link_395 : decode prog_11_method_29_code 395 = .ok (.aload_n 0, 1) := by decide +kernel
theorem d_M_link_396 : decode prog_11_method_29_code 396 = .ok (.getfield 65, 3) := by decide +kernel
theorem d_M_link_399 : decode prog_11_method_29_code 399 = .ok (.iload 10, 2) := by decide +kernel
theorem d_M_link_401 : decode prog_11_method_29_code 401 = .ok (.iaload, 1) := by decide +kernel
theorem d_M_link_402 : decode prog_11_method_29_code 402 = .ok (.iadd, 1) := by decide +kernel
theorem d_M_link_403 : decode prog_11_method_29_code 403 = .ok (.istore 11, 2) := by decide +kernel
theorem d_M_link_405 : decode prog_11_method_29_code 405 = .ok (.aload_n 0, 1) := by decide +kernel
theorem d_M_link_406 : decode prog_11_method_29_code 406 = .ok (.getfield 19, 3) := by decide +kernel
theorem d_M_link_409 : decode prog_11_method_29_code 409 = .ok (.iload 11, 2) := by decide +kernel
theorem d_M_link_411 : decode prog_11_method_29_code 411 = .ok (.baload, 1) := by decide +kernel
theorem d_M_link_412 : decode prog_11_method_29_code 412 = .ok (.ifCond .eq 12, 3) := by decide +kernel
theorem d_M_link_415 : decode prog_11_method_29_code 415 = .ok (.aload_n 0, 1) := by decide +kernel
theorem d_M_link_416 : decode prog_11_method_29_code 416 = .ok (.iload 10, 2) := by decide +kernel
theorem d_M_link_418 : decode prog_11_method_29_code 418 = .ok (.invokevirtual 198, 3) := by decide +kernel
theorem d_M_link_421 : decode prog_11_method_29_code 421 = .ok (.goto 4, 3) := by decide +kernel
theorem d_M_link_424 : decode prog_11_method_29_code 424 = .ok (.lconst 0, 1) := by decide +kernel
theorem d_M_link_425 : decode prog_11_method_29_code 425 = .ok (.lstore 12, 2) := by decide +kernel
theorem d_M_link_427 : decode prog_11_method_29_code 427 = .ok (.iconst 0, 1) := by decide +kernel
theorem d_M_link_428 : decode prog_11_method_29_code 428 = .ok (.istore 14, 2) := by decide +kernel
theorem d_M_link_430 : decode prog_11_method_29_code 430 = .ok (.iload 14, 2) := by decide +kernel
theorem d_M_link_432 : decode prog_11_method_29_code 432 = .ok (.aload_n 0, 1) := by decide +kernel
theorem d_M_link_433 : decode prog_11_method_29_code 433 = .ok (.getfield 71, 3) := by decide +kernel
theorem d_M_link_436 : decode prog_11_method_29_code 436 = .ok (.iload 10, 2) := by decide +kernel
theorem d_M_link_438 : decode prog_11_method_29_code 438 = .ok (.iaload, 1) := by decide +kernel
theorem d_M_link_439 : decode prog_11_method_29_code 439 = .ok (.if_icmp .ge 52, 3) := by decide +kernel
theorem d_M_link_442 : decode prog_11_method_29_code 442 = .ok (.aload_n 0, 1) := by decide +kernel
theorem d_M_link_443 : decode prog_11_method_29_code 443 = .ok (.getfield 19, 3) := by decide +kernel
theorem d_M_link_446 : decode prog_11_method_29_code 446 = .ok (.iload 11, 2) := by decide +kernel
theorem d_M_link_448 : decode prog_11_method_29_code 448 = .ok (.baload, 1) := by decide +kernel
theorem d_M_link_449 : decode prog_11_method_29_code 449 = .ok (.ifCond .eq 42, 3) := by decide +kernel
theorem d_M_link_452 : decode prog_11_method_29_code 452 = .ok (.aload_n 0, 1) := by decide +kernel
theorem d_M_link_453 : decode prog_11_method_29_code 453 = .ok (.getfield 102, 3) := by decide +kernel
theorem d_M_link_456 : decode prog_11_method_29_code 456 = .ok (.aload_n 0, 1) := by decide +kernel
theorem d_M_link_457 : decode prog_11_method_29_code 457 = .ok (.getfield 29, 3) := by decide +kernel
theorem d_M_link_460 : decode prog_11_method_29_code 460 = .ok (.iload 11, 2) := by decide +kernel
theorem d_M_link_462 : decode prog_11_method_29_code 462 = .ok (.iaload, 1) := by decide +kernel
theorem d_M_link_463 : decode prog_11_method_29_code 463 = .ok (.aload_n 0, 1) := by decide +kernel
theorem d_M_link_464 : decode prog_11_method_29_code 464 = .ok (.getfield 68, 3) := by decide +kernel
theorem d_M_link_467 : decode prog_11_method_29_code 467 = .ok (.iload 10, 2) := by decide +kernel
theorem d_M_link_469 : decode prog_11_method_29_code 469 = .ok (.iaload, 1) := by decide +kernel
theorem d_M_link_470 : decode prog_11_method_29_code 470 = .ok (.iadd, 1) := by decide +kernel
theorem d_M_link_471 : decode prog_11_method_29_code 471 = .ok (.iload 14, 2) := by decide +kernel
theorem d_M_link_473 : decode prog_11_method_29_code 473 = .ok (.iadd, 1) := by decide +kernel
theorem d_M_link_474 : decode prog_11_method_29_code 474 = .ok (.lload 12, 2) := by decide +kernel
theorem d_M_link_476 : decode prog_11_method_29_code 476 = .ok (.bipush 8, 2) := by decide +kernel
theorem d_M_link_478 : decode prog_11_method_29_code 478 = .ok (.iload 14, 2) := by decide +kernel
theorem d_M_link_480 : decode prog_11_method_29_code 480 = .ok (.imul, 1) := by decide +kernel
theorem d_M_link_481 : decode prog_11_method_29_code 481 = .ok (.lshr, 1) := by decide +kernel
theorem d_M_link_482 : decode prog_11_method_29_code 482 = .ok (.l2i, 1) := by decide +kernel
theorem d_M_link_483 : decode prog_11_method_29_code 483 = .ok (.i2b, 1) := by decide +kernel
theorem d_M_link_484 : decode prog_11_method_29_code 484 = .ok (.bastore, 1) := by decide +kernel
theorem d_M_link_485 : decode prog_11_method_29_code 485 = .ok (.iinc 14 1, 3) := by decide +kernel
theorem d_M_link_488 : decode prog_11_method_29_code 488 = .ok (.goto (-58), 3) := by decide +kernel
theorem d_M_link_491 : decode prog_11_method_29_code 491 = .ok (.iinc 10 1, 3) := by decide +kernel
theorem d_M_link_494 : decode prog_11_method_29_code 494 = .ok (.goto (-117), 3) := by decide +kernel
theorem d_M_link_497 : decode prog_11_method_29_code 497 = .ok (.aload_n 0, 1) := by decide +kernel
theorem d_M_link_498 : decode prog_11_method_29_code 498 = .ok (.invokevirtual 228, 3) := by decide +kernel
theorem d_M_link_501 : decode prog_11_method_29_code 501 = .ok (.aload_n 0, 1) := by decide +kernel
theorem d_M_link_502 : decode prog_11_method_29_code 502 = .ok (.iconst 0, 1) := by decide +kernel
theorem d_M_link_503 : decode prog_11_method_29_code 503 = .ok (.aload_n 0, 1) := by decide +kernel
theorem d_M_link_504 : decode prog_11_method_29_code 504 = .ok (.getfield 191, 3) := by decide +kernel
theorem d_M_link_507 : decode prog_11_method_29_code 507 = .ok (.invokevirtual 210, 3) := by decide +kernel
theorem d_M_link_510 : decode prog_11_method_29_code 510 = .ok (.ireturn, 1) := by decide +kernel
theorem d_M_take_0 : decode prog_11_method_21_code 0 = .ok (.iconst 0, 1) := by decide +kernel
theorem d_M_take_1 : decode prog_11_method_21_code 1 = .ok (.istore_n 1, 1) := by decide +kernel
theorem d_M_take_2 : decode prog_11_method_21_code 2 = .ok (.iload_n 1, 1) := by decide +kernel
theorem d_M_take_3 : decode prog_11_method_21_code 3 = .ok (.aload_n 0, 1) := by decide +kernel
theorem d_M_take_4 : decode prog_11_method_21_code 4 = .ok (.getfield 126, 3) := by decide +kernel
theorem d_M_take_7 : decode prog_11_method_21_code 7 = .ok (.if_icmp .ge 29, 3) := by decide +kernel
theorem d_M_take_10 : decode prog_11_method_21_code 10 = .ok (.aload_n 0, 1) := by decide +kernel
theorem d_M_take_11 : decode prog_11_method_21_code 11 = .ok (.getfield 16, 3) := by decide +kernel
theorem d_M_take_14 : decode prog_11_method_21_code 14 = .ok (.iload_n 1, 1) := by decide +kernel
theorem d_M_take_15 : decode prog_11_method_21_code 15 = .ok (.aload_n 0, 1) := by decide +kernel
theorem d_M_take_16 : decode prog_11_method_21_code 16 = .ok (.getfield 7, 3) := by decide +kernel
theorem d_M_take_19 : decode prog_11_method_21_code 19 = .ok (.iload_n 1, 1) := by decide +kernel
theorem d_M_take_20 : decode prog_11_method_21_code 20 = .ok (.baload, 1) := by decide +kernel
theorem d_M_take_21 : decode prog_11_method_21_code 21 = .ok (.ifCond .ne 7, 3) := by decide +kernel
theorem d_M_take_24 : decode prog_11_method_21_code 24 = .ok (.iconst 1, 1) := by decide +kernel
theorem d_M_take_25 : decode prog_11_method_21_code 25 = .ok (.goto 4, 3) := by decide +kernel
theorem d_M_take_28 : decode prog_11_method_21_code 28 = .ok (.iconst 0, 1) := by decide +kernel
theorem d_M_take_29 : decode prog_11_method_21_code 29 = .ok (.bastore, 1) := by decide +kernel
theorem d_M_take_30 : decode prog_11_method_21_code 30 = .ok (.iinc 1 1, 3) := by decide +kernel
theorem d_M_take_33 : decode prog_11_method_21_code 33 = .ok (.goto (-31), 3) := by decide +kernel
theorem d_M_take_36 : decode prog_11_method_21_code 36 = .ok (.iconst 0, 1) := by decide +kernel
theorem d_M_take_37 : decode prog_11_method_21_code 37 = .ok (.istore_n 1, 1) := by decide +kernel
theorem d_M_take_38 : decode prog_11_method_21_code 38 = .ok (.iload_n 1, 1) := by decide +kernel
theorem d_M_take_39 : decode prog_11_method_21_code 39 = .ok (.bipush 32, 2) := by decide +kernel
theorem d_M_take_41 : decode prog_11_method_21_code 41 = .ok (.if_icmp .ge 58, 3) := by decide +kernel
theorem d_M_take_44 : decode prog_11_method_21_code 44 = .ok (.iconst 0, 1) := by decide +kernel
theorem d_M_take_45 : decode prog_11_method_21_code 45 = .ok (.istore_n 2, 1) := by decide +kernel
theorem d_M_take_46 : decode prog_11_method_21_code 46 = .ok (.iload_n 2, 1) := by decide +kernel
theorem d_M_take_47 : decode prog_11_method_21_code 47 = .ok (.aload_n 0, 1) := by decide +kernel
theorem d_M_take_48 : decode prog_11_method_21_code 48 = .ok (.getfield 126, 3) := by decide +kernel
theorem d_M_take_51 : decode prog_11_method_21_code 51 = .ok (.if_icmp .ge 26, 3) := by decide +kernel
theorem d_M_take_54 : decode prog_11_method_21_code 54 = .ok (.aload_n 0, 1) := by decide +kernel
theorem d_M_take_55 : decode prog_11_method_21_code 55 = .ok (.getfield 16, 3) := by decide +kernel
theorem d_M_take_58 : decode prog_11_method_21_code 58 = .ok (.iload_n 2, 1) := by decide +kernel
theorem d_M_take_59 : decode prog_11_method_21_code 59 = .ok (.baload, 1) := by decide +kernel
theorem d_M_take_60 : decode prog_11_method_21_code 60 = .ok (.ifCond .ne 11, 3) := by decide +kernel
theorem d_M_take_63 : decode prog_11_method_21_code 63 = .ok (.aload_n 0, 1) := by decide +kernel
theorem d_M_take_64 : decode prog_11_method_21_code 64 = .ok (.iload_n 2, 1) := by decide +kernel
theorem d_M_take_65 : decode prog_11_method_21_code 65 = .ok (.invokevirtual 175, 3) := by decide +kernel
theorem d_M_take_68 : decode prog_11_method_21_code 68 = .ok (.ifCond .ne 9, 3) := by decide +kernel
theorem d_M_take_71 : decode prog_11_method_21_code 71 = .ok (.iinc 2 1, 3) := by decide +kernel
theorem d_M_take_74 : decode prog_11_method_21_code 74 = .ok (.goto (-28), 3) := by decide +kernel
theorem d_M_take_77 : decode prog_11_method_21_code 77 = .ok (.iload_n 2, 1) := by decide +kernel
theorem d_M_take_78 : decode prog_11_method_21_code 78 = .ok (.aload_n 0, 1) := by decide +kernel
theorem d_M_take_79 : decode prog_11_method_21_code 79 = .ok (.getfield 126, 3) := by decide +kernel
theorem d_M_take_82 : decode prog_11_method_21_code 82 = .ok (.if_icmp .ne 4, 3) := by decide +kernel
theorem d_M_take_85 : decode prog_11_method_21_code 85 = .ok (.return_, 1) := by decide +kernel
theorem d_M_take_86 : decode prog_11_method_21_code 86 = .ok (.aload_n 0, 1) := by decide +kernel
theorem d_M_take_87 : decode prog_11_method_21_code 87 = .ok (.getfield 16, 3) := by decide +kernel
theorem d_M_take_90 : decode prog_11_method_21_code 90 = .ok (.iload_n 2, 1) := by decide +kernel
theorem d_M_take_91 : decode prog_11_method_21_code 91 = .ok (.iconst 1, 1) := by decide +kernel
theorem d_M_take_92 : decode prog_11_method_21_code 92 = .ok (.bastore, 1) := by decide +kernel
theorem d_M_take_93 : decode prog_11_method_21_code 93 = .ok (.iinc 1 1, 3) := by decide +kernel
theorem d_M_take_96 : decode prog_11_method_21_code 96 = .ok (.goto (-58), 3) := by decide +kernel
theorem d_M_take_99 : decode prog_11_method_21_code 99 = .ok (.return_, 1) := by decide +kernel
theorem d_M_helps_0 : decode prog_11_method_20_code 0 = .ok (.iconst 0, 1) := by decide +kernel
theorem d_M_helps_1 : decode prog_11_method_20_code 1 = .ok (.istore_n 2, 1) := by decide +kernel
theorem d_M_helps_2 : decode prog_11_method_20_code 2 = .ok (.aload_n 0, 1) := by decide +kernel
theorem d_M_helps_3 : decode prog_11_method_20_code 3 = .ok (.getfield 59, 3) := by decide +kernel
theorem d_M_helps_6 : decode prog_11_method_20_code 6 = .ok (.iload_n 1, 1) := by decide +kernel
theorem d_M_helps_7 : decode prog_11_method_20_code 7 = .ok (.iaload, 1) := by decide +kernel
theorem d_M_helps_8 : decode prog_11_method_20_code 8 = .ok (.istore_n 3, 1) := by decide +kernel
theorem d_M_helps_9 : decode prog_11_method_20_code 9 = .ok (.iload_n 3, 1) := by decide +kernel
theorem d_M_helps_10 : decode prog_11_method_20_code 10 = .ok (.aload_n 0, 1) := by decide +kernel
theorem d_M_helps_11 : decode prog_11_method_20_code 11 = .ok (.getfield 129, 3) := by decide +kernel
theorem d_M_helps_14 : decode prog_11_method_20_code 14 = .ok (.if_icmp .ge 154, 3) := by decide +kernel
theorem d_M_helps_17 : decode prog_11_method_20_code 17 = .ok (.aload_n 0, 1) := by decide +kernel
theorem d_M_helps_18 : decode prog_11_method_20_code 18 = .ok (.getfield 44, 3) := by decide +kernel
theorem d_M_helps_21 : decode prog_11_method_20_code 21 = .ok (.iload_n 3, 1) := by decide +kernel
theorem d_M_helps_22 : decode prog_11_method_20_code 22 = .ok (.iaload, 1) := by decide +kernel
theorem d_M_helps_23 : decode prog_11_method_20_code 23 = .ok (.iload_n 1, 1) := by decide +kernel
theorem d_M_helps_24 : decode prog_11_method_20_code 24 = .ok (.if_icmp .ne 144, 3) := by decide +kernel
theorem d_M_helps_27 : decode prog_11_method_20_code 27 = .ok (.aload_n 0, 1) := by decide +kernel
theorem d_M_helps_28 : decode prog_11_method_20_code 28 = .ok (.iload_n 3, 1) := by decide +kernel
theorem d_M_helps_29 : decode prog_11_method_20_code 29 = .ok (.invokevirtual 165, 3) := by decide +kernel
theorem d_M_helps_32 : decode prog_11_method_20_code 32 = .ok (.ifCond .ne 11, 3) := by decide +kernel
theorem d_M_helps_35 : decode prog_11_method_20_code 35 = .ok (.aload_n 0, 1) := by decide +kernel
theorem d_M_helps_36 : decode prog_11_method_20_code 36 = .ok (.iload_n 3, 1) := by decide +kernel
theorem d_M_helps_37 : decode prog_11_method_20_code 37 = .ok (.invokevirtual 168, 3) := by decide +kernel
theorem d_M_helps_40 : decode prog_11_method_20_code 40 = .ok (.ifCond .eq 122, 3) := by decide +kernel
theorem d_M_helps_43 : decode prog_11_method_20_code 43 = .ok (.aload_n 0, 1) := by decide +kernel
theorem d_M_helps_44 : decode prog_11_method_20_code 44 = .ok (.aload_n 0, 1) := by decide +kernel
theorem d_M_helps_45 : decode prog_11_method_20_code 45 = .ok (.getfield 37, 3) := by decide +kernel
theorem d_M_helps_48 : decode prog_11_method_20_code 48 = .ok (.iload_n 3, 1) := by decide +kernel
theorem d_M_helps_49 : decode prog_11_method_20_code 49 = .ok (.laload, 1) := by decide +kernel
theorem d_M_helps_50 : decode prog_11_method_20_code 50 = .ok (.aload_n 0, 1) := by decide +kernel
theorem d_M_helps_51 : decode prog_11_method_20_code 51 = .ok (.getfield 41, 3) := by decide +kernel
theorem d_M_helps_54 : decode prog_11_method_20_code 54 = .ok (.iload_n 3, 1) := by decide +kernel
theorem d_M_helps_55 : decode prog_11_method_20_code 55 = .ok (.iaload, 1) := by decide +kernel
theorem d_M_helps_56 : decode prog_11_method_20_code 56 = .ok (.invokevirtual 171, 3) := by decide +kernel
theorem d_M_helps_59 : decode prog_11_method_20_code 59 = .ok (.ifCond .lt 6, 3) := by decide +kernel
theorem d_M_helps_62 : decode prog_11_method_20_code 62 = .ok (.goto 100, 3) := by decide +kernel
theorem d_M_helps_65 : decode prog_11_method_20_code 65 = .ok (.iconst 0, 1) := by decide +kernel
theorem d_M_helps_66 : decode prog_11_method_20_code 66 = .ok (.istore 4, 2) := by decide +kernel
theorem d_M_helps_68 : decode prog_11_method_20_code 68 = .ok (.iload 4, 2) := by decide +kernel
theorem d_M_helps_70 : decode prog_11_method_20_code 70 = .ok (.aload_n 0, 1) := by decide +kernel
theorem d_M_helps_71 : decode prog_11_method_20_code 71 = .ok (.getfield 129, 3) := by decide +kernel
theorem d_M_helps_74 : decode prog_11_method_20_code 74 = .ok (.if_icmp .ge 88, 3) := by decide +kernel
theorem d_M_helps_77 : decode prog_11_method_20_code 77 = .ok (.iload_n 2, 1) := by decide +kernel
theorem d_M_helps_78 : decode prog_11_method_20_code 78 = .ok (.ifCond .ne 72, 3) := by decide +kernel
theorem d_M_helps_81 : decode prog_11_method_20_code 81 = .ok (.aload_n 0, 1) := by decide +kernel
theorem d_M_helps_82 : decode prog_11_method_20_code 82 = .ok (.getfield 16, 3) := by decide +kernel
theorem d_M_helps_85 : decode prog_11_method_20_code 85 = .ok (.aload_n 0, 1) := by decide +kernel
theorem d_M_helps_86 : decode prog_11_method_20_code 86 = .ok (.getfield 44, 3) := by decide +kernel
theorem d_M_helps_89 : decode prog_11_method_20_code 89 = .ok (.iload 4, 2) := by decide +kernel
theorem d_M_helps_91 : decode prog_11_method_20_code 91 = .ok (.iaload, 1) := by decide +kernel
theorem d_M_helps_92 : decode prog_11_method_20_code 92 = .ok (.baload, 1) := by decide +kernel
theorem d_M_helps_93 : decode prog_11_method_20_code 93 = .ok (.ifCond .eq 61, 3) := by decide +kernel
theorem d_M_helps_96 : decode prog_11_method_20_code 96 = .ok (.aload_n 0, 1) := by decide +kernel
theorem d_M_helps_97 : decode prog_11_method_20_code 97 = .ok (.getfield 50, 3) := by decide +kernel
theorem d_M_helps_100 : decode prog_11_method_20_code 100 = .ok (.iload 4, 2) := by decide +kernel
theorem d_M_helps_102 : decode prog_11_method_20_code 102 = .ok (.iaload, 1) := by decide +kernel
theorem d_M_helps_103 : decode prog_11_method_20_code 103 = .ok (.ifCond .ge 51, 3) := by decide +kernel
theorem d_M_helps_106 : decode prog_11_method_20_code 106 = .ok (.aload_n 0, 1) := by decide +kernel
theorem d_M_helps_107 : decode prog_11_method_20_code 107 = .ok (.getfield 47, 3) := by decide +kernel
theorem d_M_helps_110 : decode prog_11_method_20_code 110 = .ok (.iload 4, 2) := by decide +kernel
theorem d_M_helps_112 : decode prog_11_method_20_code 112 = .ok (.iaload, 1) := by decide +kernel
theorem d_M_helps_113 : decode prog_11_method_20_code 113 = .ok (.iconst 2, 1) := by decide +kernel
theorem d_M_helps_114 : decode prog_11_method_20_code 114 = .ok (.if_icmp .ge 40, 3) := by decide +kernel
theorem d_M_helps_117 : decode prog_11_method_20_code 117 = .ok (.aload_n 0, 1) := by decide +kernel
theorem d_M_helps_118 : decode prog_11_method_20_code 118 = .ok (.getfield 41, 3) := by decide +kernel
theorem d_M_helps_121 : decode prog_11_method_20_code 121 = .ok (.iload 4, 2) := by decide +kernel
theorem d_M_helps_123 : decode prog_11_method_20_code 123 = .ok (.iaload, 1) := by decide +kernel
theorem d_M_helps_124 : decode prog_11_method_20_code 124 = .ok (.aload_n 0, 1) := by decide +kernel
theorem d_M_helps_125 : decode prog_11_method_20_code 125 = .ok (.getfield 41, 3) := by decide +kernel
theorem d_M_helps_128 : decode prog_11_method_20_code 128 = .ok (.iload_n 3, 1) := by decide +kernel
theorem d_M_helps_129 : decode prog_11_method_20_code 129 = .ok (.iaload, 1) := by decide +kernel
theorem d_M_helps_130 : decode prog_11_method_20_code 130 = .ok (.if_icmp .ne 24, 3) := by decide +kernel
theorem d_M_helps_133 : decode prog_11_method_20_code 133 = .ok (.aload_n 0, 1) := by decide +kernel
theorem d_M_helps_134 : decode prog_11_method_20_code 134 = .ok (.getfield 37, 3) := by decide +kernel
theorem d_M_helps_137 : decode prog_11_method_20_code 137 = .ok (.iload 4, 2) := by decide +kernel
theorem d_M_helps_139 : decode prog_11_method_20_code 139 = .ok (.laload, 1) := by decide +kernel
theorem d_M_helps_140 : decode prog_11_method_20_code 140 = .ok (.aload_n 0, 1) := by decide +kernel
theorem d_M_helps_141 : decode prog_11_method_20_code 141 = .ok (.getfield 37, 3) := by decide +kernel
theorem d_M_helps_144 : decode prog_11_method_20_code 144 = .ok (.iload_n 3, 1) := by decide +kernel
theorem d_M_helps_145 : decode prog_11_method_20_code 145 = .ok (.laload, 1) := by decide +kernel
theorem d_M_helps_146 : decode prog_11_method_20_code 146 = .ok (.lcmp, 1) := by decide +kernel
theorem d_M_helps_147 : decode prog_11_method_20_code 147 = .ok (.ifCond .ne 7, 3) := by decide +kernel
theorem d_M_helps_150 : decode prog_11_method_20_code 150 = .ok (.iconst 1, 1) := by decide +kernel
theorem d_M_helps_151 : decode prog_11_method_20_code 151 = .ok (.goto 4, 3) := by decide +kernel
theorem d_M_helps_154 : decode prog_11_method_20_code 154 = .ok (.iconst 0, 1) := by decide +kernel
theorem d_M_helps_155 : decode prog_11_method_20_code 155 = .ok (.istore_n 2, 1) := by decide +kernel
theorem d_M_helps_156 : decode prog_11_method_20_code 156 = .ok (.iinc 4 1, 3) := by decide +kernel
theorem d_M_helps_159 : decode prog_11_method_20_code 159 = .ok (.goto (-91), 3) := by decide +kernel
theorem d_M_helps_162 : decode prog_11_method_20_code 162 = .ok (.iinc 3 1, 3) := by decide +kernel
theorem d_M_helps_165 : decode prog_11_method_20_code 165 = .ok (.goto (-156), 3) := by decide +kernel
theorem d_M_helps_168 : decode prog_11_method_20_code 168 = .ok (.iload_n 2, 1) := by decide +kernel
theorem d_M_helps_169 : decode prog_11_method_20_code 169 = .ok (.ireturn, 1) := by decide +kernel
theorem d_M_isGlobal_0 : decode prog_11_method_16_code 0 = .ok (.aload_n 0, 1) := by decide +kernel
theorem d_M_isGlobal_1 : decode prog_11_method_16_code 1 = .ok (.getfield 50, 3) := by decide +kernel
theorem d_M_isGlobal_4 : decode prog_11_method_16_code 4 = .ok (.iload_n 1, 1) := by decide +kernel
theorem d_M_isGlobal_5 : decode prog_11_method_16_code 5 = .ok (.iaload, 1) := by decide +kernel
theorem d_M_isGlobal_6 : decode prog_11_method_16_code 6 = .ok (.ifCond .lt 17, 3) := by decide +kernel
theorem d_M_isGlobal_9 : decode prog_11_method_16_code 9 = .ok (.aload_n 0, 1) := by decide +kernel
theorem d_M_isGlobal_10 : decode prog_11_method_16_code 10 = .ok (.getfield 47, 3) := by decide +kernel
theorem d_M_isGlobal_13 : decode prog_11_method_16_code 13 = .ok (.iload_n 1, 1) := by decide +kernel
theorem d_M_isGlobal_14 : decode prog_11_method_16_code 14 = .ok (.iaload, 1) := by decide +kernel
theorem d_M_isGlobal_15 : decode prog_11_method_16_code 15 = .ok (.iconst 1, 1) := by decide +kernel
theorem d_M_isGlobal_16 : decode prog_11_method_16_code 16 = .ok (.if_icmp .ne 7, 3) := by decide +kernel
theorem d_M_isGlobal_19 : decode prog_11_method_16_code 19 = .ok (.iconst 1, 1) := by decide +kernel
theorem d_M_isGlobal_20 : decode prog_11_method_16_code 20 = .ok (.goto 4, 3) := by decide +kernel
theorem d_M_isGlobal_23 : decode prog_11_method_16_code 23 = .ok (.iconst 0, 1) := by decide +kernel
theorem d_M_isGlobal_24 : decode prog_11_method_16_code 24 = .ok (.ireturn, 1) := by decide +kernel
theorem d_M_isWeak_0 : decode prog_11_method_17_code 0 = .ok (.aload_n 0, 1) := by decide +kernel
theorem d_M_isWeak_1 : decode prog_11_method_17_code 1 = .ok (.getfield 50, 3) := by decide +kernel
theorem d_M_isWeak_4 : decode prog_11_method_17_code 4 = .ok (.iload_n 1, 1) := by decide +kernel
theorem d_M_isWeak_5 : decode prog_11_method_17_code 5 = .ok (.iaload, 1) := by decide +kernel
theorem d_M_isWeak_6 : decode prog_11_method_17_code 6 = .ok (.ifCond .lt 17, 3) := by decide +kernel
theorem d_M_isWeak_9 : decode prog_11_method_17_code 9 = .ok (.aload_n 0, 1) := by decide +kernel
theorem d_M_isWeak_10 : decode prog_11_method_17_code 10 = .ok (.getfield 47, 3) := by decide +kernel
theorem d_M_isWeak_13 : decode prog_11_method_17_code 13 = .ok (.iload_n 1, 1) := by decide +kernel
theorem d_M_isWeak_14 : decode prog_11_method_17_code 14 = .ok (.iaload, 1) := by decide +kernel
theorem d_M_isWeak_15 : decode prog_11_method_17_code 15 = .ok (.iconst 1, 1) := by decide +kernel
theorem d_M_isWeak_16 : decode prog_11_method_17_code 16 = .ok (.if_icmp .le 7, 3) := by decide +kernel
theorem d_M_isWeak_19 : decode prog_11_method_17_code 19 = .ok (.iconst 1, 1) := by decide +kernel
theorem d_M_isWeak_20 : decode prog_11_method_17_code 20 = .ok (.goto 4, 3) := by decide +kernel
theorem d_M_isWeak_23 : decode prog_11_method_17_code 23 = .ok (.iconst 0, 1) := by decide +kernel
theorem d_M_isWeak_24 : decode prog_11_method_17_code 24 = .ok (.ireturn, 1) := by decide +kernel
theorem d_M_meant_0 : decode prog_11_method_18_code 0 = .ok (.iconst (-1), 1) := by decide +kernel
theorem d_M_meant_1 : decode prog_11_method_18_code 1 = .ok (.istore 4, 2) := by decide +kernel
theorem d_M_meant_3 : decode prog_11_method_18_code 3 = .ok (.iconst 0, 1) := by decide +kernel
theorem d_M_meant_4 : decode prog_11_method_18_code 4 = .ok (.istore 5, 2) := by decide +kernel
theorem d_M_meant_6 : decode prog_11_method_18_code 6 = .ok (.iload 5, 2) := by decide +kernel
theorem d_M_meant_8 : decode prog_11_method_18_code 8 = .ok (.aload_n 0, 1) := by decide +kernel
theorem d_M_meant_9 : decode prog_11_method_18_code 9 = .ok (.getfield 129, 3) := by decide +kernel
theorem d_M_meant_12 : decode prog_11_method_18_code 12 = .ok (.if_icmp .ge 85, 3) := by decide +kernel
theorem d_M_meant_15 : decode prog_11_method_18_code 15 = .ok (.aload_n 0, 1) := by decide +kernel
theorem d_M_meant_16 : decode prog_11_method_18_code 16 = .ok (.getfield 16, 3) := by decide +kernel
theorem d_M_meant_19 : decode prog_11_method_18_code 19 = .ok (.aload_n 0, 1) := by decide +kernel
theorem d_M_meant_20 : decode prog_11_method_18_code 20 = .ok (.getfield 44, 3) := by decide +kernel
theorem d_M_meant_23 : decode prog_11_method_18_code 23 = .ok (.iload 5, 2) := by decide +kernel
theorem d_M_meant_25 : decode prog_11_method_18_code 25 = .ok (.iaload, 1) := by decide +kernel
theorem d_M_meant_26 : decode prog_11_method_18_code 26 = .ok (.baload, 1) := by decide +kernel
theorem d_M_meant_27 : decode prog_11_method_18_code 27 = .ok (.ifCond .eq 64, 3) := by decide +kernel
theorem d_M_meant_30 : decode prog_11_method_18_code 30 = .ok (.aload_n 0, 1) := by decide +kernel
theorem d_M_meant_31 : decode prog_11_method_18_code 31 = .ok (.getfield 41, 3) := by decide +kernel
theorem d_M_meant_34 : decode prog_11_method_18_code 34 = .ok (.iload 5, 2) := by decide +kernel
theorem d_M_meant_36 : decode prog_11_method_18_code 36 = .ok (.iaload, 1) := by decide +kernel
theorem d_M_meant_37 : decode prog_11_method_18_code 37 = .ok (.iload_n 3, 1) := by decide +kernel
theorem d_M_meant_38 : decode prog_11_method_18_code 38 = .ok (.if_icmp .ne 53, 3) := by decide +kernel
theorem d_M_meant_41 : decode prog_11_method_18_code 41 = .ok (.aload_n 0, 1) := by decide +kernel
theorem d_M_meant_42 : decode prog_11_method_18_code 42 = .ok (.getfield 37, 3) := by decide +kernel
theorem d_M_meant_45 : decode prog_11_method_18_code 45 = .ok (.iload 5, 2) := by decide +kernel
theorem d_M_meant_47 : decode prog_11_method_18_code 47 = .ok (.laload, 1) := by decide +kernel
theorem d_M_meant_48 : decode prog_11_method_18_code 48 = .ok (.lload_n 1, 1) := by decide +kernel
theorem d_M_meant_49 : decode prog_11_method_18_code 49 = .ok (.lcmp, 1) := by decide +kernel
theorem d_M_meant_50 : decode prog_11_method_18_code 50 = .ok (.ifCond .eq 6, 3) := by decide +kernel
theorem d_M_meant_53 : decode prog_11_method_18_code 53 = .ok (.goto 38, 3) := by decide +kernel
theorem d_M_meant_56 : decode prog_11_method_18_code 56 = .ok (.aload_n 0, 1) := by decide +kernel
theorem d_M_meant_57 : decode prog_11_method_18_code 57 = .ok (.iload 5, 2) := by decide +kernel
theorem d_M_meant_59 : decode prog_11_method_18_code 59 = .ok (.invokevirtual 165, 3) := by decide +kernel
theorem d_M_meant_62 : decode prog_11_method_18_code 62 = .ok (.ifCond .eq 6, 3) := by decide +kernel
theorem d_M_meant_65 : decode prog_11_method_18_code 65 = .ok (.iload 5, 2) := by decide +kernel
theorem d_M_meant_67 : decode prog_11_method_18_code 67 = .ok (.ireturn, 1) := by decide +kernel
theorem d_M_meant_68 : decode prog_11_method_18_code 68 = .ok (.aload_n 0, 1) := by decide +kernel
theorem d_M_meant_69 : decode prog_11_method_18_code 69 = .ok (.iload 5, 2) := by decide +kernel
theorem d_M_meant_71 : decode prog_11_method_18_code 71 = .ok (.invokevirtual 168, 3) := by decide +kernel
theorem d_M_meant_74 : decode prog_11_method_18_code 74 = .ok (.ifCond .eq 13, 3) := by decide +kernel
theorem d_M_meant_77 : decode prog_11_method_18_code 77 = .ok (.iload 4, 2) := by decide +kernel
theorem d_M_meant_79 : decode prog_11_method_18_code 79 = .ok (.ifCond .ge 8, 3) := by decide +kernel
theorem d_M_meant_82 : decode prog_11_method_18_code 82 = .ok (.iload 5, 2) := by decide +kernel
theorem d_M_meant_84 : decode prog_11_method_18_code 84 = .ok (.goto 5, 3) := by decide +kernel
theorem d_M_meant_87 : decode prog_11_method_18_code 87 = .ok (.iload 4, 2) := by decide +kernel
theorem d_M_meant_89 : decode prog_11_method_18_code 89 = .ok (.istore 4, 2) := by decide +kernel
theorem d_M_meant_91 : decode prog_11_method_18_code 91 = .ok (.iinc 5 1, 3) := by decide +kernel
theorem d_M_meant_94 : decode prog_11_method_18_code 94 = .ok (.goto (-88), 3) := by decide +kernel
theorem d_M_meant_97 : decode prog_11_method_18_code 97 = .ok (.iload 4, 2) := by decide +kernel
theorem d_M_meant_99 : decode prog_11_method_18_code 99 = .ok (.ireturn, 1) := by decide +kernel
theorem d_M_fail_0 : decode prog_11_method_22_code 0 = .ok (.aload_n 0, 1) := by decide +kernel
theorem d_M_fail_1 : decode prog_11_method_22_code 1 = .ok (.getfield 178, 3) := by decide +kernel
theorem d_M_fail_4 : decode prog_11_method_22_code 4 = .ok (.ifCond .eq 4, 3) := by decide +kernel
theorem d_M_fail_7 : decode prog_11_method_22_code 7 = .ok (.return_, 1) := by decide +kernel
theorem d_M_fail_8 : decode prog_11_method_22_code 8 = .ok (.aload_n 0, 1) := by decide +kernel
theorem d_M_fail_9 : decode prog_11_method_22_code 9 = .ok (.iload_n 1, 1) := by decide +kernel
theorem d_M_fail_10 : decode prog_11_method_22_code 10 = .ok (.putfield 178, 3) := by decide +kernel
theorem d_M_fail_13 : decode prog_11_method_22_code 13 = .ok (.aload_n 0, 1) := by decide +kernel
theorem d_M_fail_14 : decode prog_11_method_22_code 14 = .ok (.iload_n 2, 1) := by decide +kernel
theorem d_M_fail_15 : decode prog_11_method_22_code 15 = .ok (.putfield 95, 3) := by decide +kernel
theorem d_M_fail_18 : decode prog_11_method_22_code 18 = .ok (.aload_n 0, 1) := by decide +kernel
theorem d_M_fail_19 : decode prog_11_method_22_code 19 = .ok (.iload_n 3, 1) := by decide +kernel
theorem d_M_fail_20 : decode prog_11_method_22_code 20 = .ok (.putfield 181, 3) := by decide +kernel
theorem d_M_fail_23 : decode prog_11_method_22_code 23 = .ok (.return_, 1) := by decide +kernel
theorem d_M_findTwice_0 : decode prog_11_method_23_code 0 = .ok (.bipush 32, 2) := by decide +kernel
theorem d_M_findTwice_2 : decode prog_11_method_23_code 2 = .ok (.istore_n 1, 1) := by decide +kernel
theorem d_M_findTwice_3 : decode prog_11_method_23_code 3 = .ok (.iconst 0, 1) := by decide +kernel
theorem d_M_findTwice_4 : decode prog_11_method_23_code 4 = .ok (.istore_n 2, 1) := by decide +kernel
theorem d_M_findTwice_5 : decode prog_11_method_23_code 5 = .ok (.iconst 0, 1) := by decide +kernel
theorem d_M_findTwice_6 : decode prog_11_method_23_code 6 = .ok (.istore_n 3, 1) := by decide +kernel
theorem d_M_findTwice_7 : decode prog_11_method_23_code 7 = .ok (.iload_n 3, 1) := by decide +kernel
theorem d_M_findTwice_8 : decode prog_11_method_23_code 8 = .ok (.aload_n 0, 1) := by decide +kernel
theorem d_M_findTwice_9 : decode prog_11_method_23_code 9 = .ok (.getfield 129, 3) := by decide +kernel
theorem d_M_findTwice_12 : decode prog_11_method_23_code 12 = .ok (.if_icmp .ge 98, 3) := by decide +kernel
theorem d_M_findTwice_15 : decode prog_11_method_23_code 15 = .ok (.aload_n 0, 1) := by decide +kernel
theorem d_M_findTwice_16 : decode prog_11_method_23_code 16 = .ok (.getfield 16, 3) := by decide +kernel
theorem d_M_findTwice_19 : decode prog_11_method_23_code 19 = .ok (.aload_n 0, 1) := by decide +kernel
theorem d_M_findTwice_20 : decode prog_11_method_23_code 20 = .ok (.getfield 44, 3) := by decide +kernel
theorem d_M_findTwice_23 : decode prog_11_method_23_code 23 = .ok (.iload_n 3, 1) := by decide +kernel
theorem d_M_findTwice_24 : decode prog_11_method_23_code 24 = .ok (.iaload, 1) := by decide +kernel
theorem d_M_findTwice_25 : decode prog_11_method_23_code 25 = .ok (.baload, 1) := by decide +kernel
theorem d_M_findTwice_26 : decode prog_11_method_23_code 26 = .ok (.ifCond .eq 78, 3) := by decide +kernel
theorem d_M_findTwice_29 : decode prog_11_method_23_code 29 = .ok (.aload_n 0, 1) := by decide +kernel
theorem d_M_findTwice_30 : decode prog_11_method_23_code 30 = .ok (.iload_n 3, 1) := by decide +kernel
theorem d_M_findTwice_31 : decode prog_11_method_23_code 31 = .ok (.invokevirtual 165, 3) := by decide +kernel
theorem d_M_findTwice_34 : decode prog_11_method_23_code 34 = .ok (.ifCond .eq 70, 3) := by decide +kernel
theorem d_M_findTwice_37 : decode prog_11_method_23_code 37 = .ok (.aload_n 0, 1) := by decide +kernel
theorem d_M_findTwice_38 : decode prog_11_method_23_code 38 = .ok (.aload_n 0, 1) := by decide +kernel
theorem d_M_findTwice_39 : decode prog_11_method_23_code 39 = .ok (.getfield 37, 3) := by decide +kernel
theorem d_M_findTwice_42 : decode prog_11_method_23_code 42 = .ok (.iload_n 3, 1) := by decide +kernel
theorem d_M_findTwice_43 : decode prog_11_method_23_code 43 = .ok (.laload, 1) := by decide +kernel
theorem d_M_findTwice_44 : decode prog_11_method_23_code 44 = .ok (.aload_n 0, 1) := by decide +kernel
theorem d_M_findTwice_45 : decode prog_11_method_23_code 45 = .ok (.getfield 41, 3) := by decide +kernel
theorem d_M_findTwice_48 : decode prog_11_method_23_code 48 = .ok (.iload_n 3, 1) := by decide +kernel
theorem d_M_findTwice_49 : decode prog_11_method_23_code 49 = .ok (.iaload, 1) := by decide +kernel
theorem d_M_findTwice_50 : decode prog_11_method_23_code 50 = .ok (.invokevirtual 171, 3) := by decide +kernel
theorem d_M_findTwice_53 : decode prog_11_method_23_code 53 = .ok (.iload_n 3, 1) := by decide +kernel
theorem d_M_findTwice_54 : decode prog_11_method_23_code 54 = .ok (.if_icmp .ne 6, 3) := by decide +kernel
theorem d_M_findTwice_57 : decode prog_11_method_23_code 57 = .ok (.goto 47, 3) := by decide +kernel
theorem d_M_findTwice_60 : decode prog_11_method_23_code 60 = .ok (.aload_n 0, 1) := by decide +kernel
theorem d_M_findTwice_61 : decode prog_11_method_23_code 61 = .ok (.getfield 44, 3) := by decide +kernel
theorem d_M_findTwice_64 : decode prog_11_method_23_code 64 = .ok (.iload_n 3, 1) := by decide +kernel
theorem d_M_findTwice_65 : decode prog_11_method_23_code 65 = .ok (.iaload, 1) := by decide +kernel
theorem d_M_findTwice_66 : decode prog_11_method_23_code 66 = .ok (.iload_n 1, 1) := by decide +kernel
theorem d_M_findTwice_67 : decode prog_11_method_23_code 67 = .ok (.if_icmp .lt 23, 3) := by decide +kernel
theorem d_M_findTwice_70 : decode prog_11_method_23_code 70 = .ok (.aload_n 0, 1) := by decide +kernel
theorem d_M_findTwice_71 : decode prog_11_method_23_code 71 = .ok (.getfield 44, 3) := by decide +kernel
theorem d_M_findTwice_74 : decode prog_11_method_23_code 74 = .ok (.iload_n 3, 1) := by decide +kernel
theorem d_M_findTwice_75 : decode prog_11_method_23_code 75 = .ok (.iaload, 1) := by decide +kernel
theorem d_M_findTwice_76 : decode prog_11_method_23_code 76 = .ok (.iload_n 1, 1) := by decide +kernel
theorem d_M_findTwice_77 : decode prog_11_method_23_code 77 = .ok (.if_icmp .ne 27, 3) := by decide +kernel
theorem d_M_findTwice_80 : decode prog_11_method_23_code 80 = .ok (.aload_n 0, 1) := by decide +kernel
theorem d_M_findTwice_81 : decode prog_11_method_23_code 81 = .ok (.getfield 56, 3) := by decide +kernel
theorem d_M_findTwice_84 : decode prog_11_method_23_code 84 = .ok (.iload_n 3, 1) := by decide +kernel
theorem d_M_findTwice_85 : decode prog_11_method_23_code 85 = .ok (.iaload, 1) := by decide +kernel
theorem d_M_findTwice_86 : decode prog_11_method_23_code 86 = .ok (.iload_n 2, 1) := by decide +kernel
theorem d_M_findTwice_87 : decode prog_11_method_23_code 87 = .ok (.if_icmp .ge 17, 3) := by decide +kernel
theorem d_M_findTwice_90 : decode prog_11_method_23_code 90 = .ok (.aload_n 0, 1) := by decide +kernel
theorem d_M_findTwice_91 : decode prog_11_method_23_code 91 = .ok (.getfield 44, 3) := by decide +kernel
theorem d_M_findTwice_94 : decode prog_11_method_23_code 94 = .ok (.iload_n 3, 1) := by decide +kernel
theorem d_M_findTwice_95 : decode prog_11_method_23_code 95 = .ok (.iaload, 1) := by decide +kernel
theorem d_M_findTwice_96 : decode prog_11_method_23_code 96 = .ok (.istore_n 1, 1) := by decide +kernel
theorem d_M_findTwice_97 : decode prog_11_method_23_code 97 = .ok (.aload_n 0, 1) := by decide +kernel
theorem d_M_findTwice_98 : decode prog_11_method_23_code 98 = .ok (.getfield 56, 3) := by decide +kernel
theorem d_M_findTwice_101 : decode prog_11_method_23_code 101 = .ok (.iload_n 3, 1) := by decide +kernel
theorem d_M_findTwice_102 : decode prog_11_method_23_code 102 = .ok (.iaload, 1) := by decide +kernel
theorem d_M_findTwice_103 : decode prog_11_method_23_code 103 = .ok (.istore_n 2, 1) := by decide +kernel
theorem d_M_findTwice_104 : decode prog_11_method_23_code 104 = .ok (.iinc 3 1, 3) := by decide +kernel
theorem d_M_findTwice_107 : decode prog_11_method_23_code 107 = .ok (.goto (-100), 3) := by decide +kernel
theorem d_M_findTwice_110 : decode prog_11_method_23_code 110 = .ok (.iload_n 1, 1) := by decide +kernel
theorem d_M_findTwice_111 : decode prog_11_method_23_code 111 = .ok (.bipush 32, 2) := by decide +kernel
theorem d_M_findTwice_113 : decode prog_11_method_23_code 113 = .ok (.if_icmp .ge 10, 3) := by decide +kernel
theorem d_M_findTwice_116 : decode prog_11_method_23_code 116 = .ok (.aload_n 0, 1) := by decide +kernel
theorem d_M_findTwice_117 : decode prog_11_method_23_code 117 = .ok (.iconst 2, 1) := by decide +kernel
theorem d_M_findTwice_118 : decode prog_11_method_23_code 118 = .ok (.iload_n 1, 1) := by decide +kernel
theorem d_M_findTwice_119 : decode prog_11_method_23_code 119 = .ok (.iload_n 2, 1) := by decide +kernel
theorem d_M_findTwice_120 : decode prog_11_method_23_code 120 = .ok (.invokevirtual 184, 3) := by decide +kernel
theorem d_M_findTwice_123 : decode prog_11_method_23_code 123 = .ok (.return_, 1) := by decide +kernel
theorem d_M_give_0 : decode prog_11_method_3_code 0 = .ok (.aload_n 0, 1) := by decide +kernel
theorem d_M_give_1 : decode prog_11_method_3_code 1 = .ok (.iload_n 1, 1) := by decide +kernel
theorem d_M_give_2 : decode prog_11_method_3_code 2 = .ok (.putfield 123, 3) := by decide +kernel
theorem d_M_give_5 : decode prog_11_method_3_code 5 = .ok (.iload_n 2, 1) := by decide +kernel
theorem d_M_give_6 : decode prog_11_method_3_code 6 = .ok (.ireturn, 1) := by decide +kernel
theorem d_M_findNeeded_0 : decode prog_11_method_24_code 0 = .ok (.iconst 0, 1) := by decide +kernel
theorem d_M_findNeeded_1 : decode prog_11_method_24_code 1 = .ok (.istore_n 2, 1) := by decide +kernel
theorem d_M_findNeeded_2 : decode prog_11_method_24_code 2 = .ok (.iload_n 2, 1) := by decide +kernel
theorem d_M_findNeeded_3 : decode prog_11_method_24_code 3 = .ok (.sipush 128, 3) := by decide +kernel
theorem d_M_findNeeded_6 : decode prog_11_method_24_code 6 = .ok (.if_icmp .ge 50, 3) := by decide +kernel
theorem d_M_findNeeded_9 : decode prog_11_method_24_code 9 = .ok (.aload_n 0, 1) := by decide +kernel
theorem d_M_findNeeded_10 : decode prog_11_method_24_code 10 = .ok (.getfield 19, 3) := by decide +kernel
theorem d_M_findNeeded_13 : decode prog_11_method_24_code 13 = .ok (.iload_n 2, 1) := by decide +kernel
theorem d_M_findNeeded_14 : decode prog_11_method_24_code 14 = .ok (.iload_n 2, 1) := by decide +kernel
theorem d_M_findNeeded_15 : decode prog_11_method_24_code 15 = .ok (.iconst 4, 1) := by decide +kernel
theorem d_M_findNeeded_16 : decode prog_11_method_24_code 16 = .ok (.aload_n 0, 1) := by decide +kernel
theorem d_M_findNeeded_17 : decode prog_11_method_24_code 17 = .ok (.getfield 126, 3) := by decide +kernel
theorem d_M_findNeeded_20 : decode prog_11_method_24_code 20 = .ok (.imul, 1) := by decide +kernel
theorem d_M_findNeeded_21 : decode prog_11_method_24_code 21 = .ok (.if_icmp .ge 27, 3) := by decide +kernel
theorem d_M_findNeeded_24 : decode prog_11_method_24_code 24 = .ok (.aload_n 0, 1) := by decide +kernel
theorem d_M_findNeeded_25 : decode prog_11_method_24_code 25 = .ok (.getfield 16, 3) := by decide +kernel
theorem d_M_findNeeded_28 : decode prog_11_method_24_code 28 = .ok (.iload_n 2, 1) := by decide +kernel
theorem d_M_findNeeded_29 : decode prog_11_method_24_code 29 = .ok (.iconst 4, 1) := by decide +kernel
theorem d_M_findNeeded_30 : decode prog_11_method_24_code 30 = .ok (.idiv, 1) := by decide +kernel
theorem d_M_findNeeded_31 : decode prog_11_method_24_code 31 = .ok (.baload, 1) := by decide +kernel
theorem d_M_findNeeded_32 : decode prog_11_method_24_code 32 = .ok (.ifCond .eq 16, 3) := by decide +kernel
theorem d_M_findNeeded_35 : decode prog_11_method_24_code 35 = .ok (.aload_n 0, 1) := by decide +kernel
theorem d_M_findNeeded_36 : decode prog_11_method_24_code 36 = .ok (.getfield 13, 3) := by decide +kernel
theorem d_M_findNeeded_39 : decode prog_11_method_24_code 39 = .ok (.iload_n 2, 1) := by decide +kernel
theorem d_M_findNeeded_40 : decode prog_11_method_24_code 40 = .ok (.baload, 1) := by decide +kernel
theorem d_M_findNeeded_41 : decode prog_11_method_24_code 41 = .ok (.ifCond .eq 7, 3) := by decide +kernel
theorem d_M_findNeeded_44 : decode prog_11_method_24_code 44 = .ok (.iconst 1, 1) := by decide +kernel
theorem d_M_findNeeded_45 : decode prog_11_method_24_code 45 = .ok (.goto 4, 3) := by decide +kernel
theorem d_M_findNeeded_48 : decode prog_11_method_24_code 48 = .ok (.iconst 0, 1) := by decide +kernel
theorem d_M_findNeeded_49 : decode prog_11_method_24_code 49 = .ok (.bastore, 1) := by decide +kernel
theorem d_M_findNeeded_50 : decode prog_11_method_24_code 50 = .ok (.iinc 2 1, 3) := by decide +kernel
theorem d_M_findNeeded_53 : decode prog_11_method_24_code 53 = .ok (.goto (-51), 3) := by decide +kernel
theorem d_M_findNeeded_56 : decode prog_11_method_24_code 56 = .ok (.aload_n 0, 1) := by decide +kernel
theorem d_M_findNeeded_57 : decode prog_11_method_24_code 57 = .ok (.getfield 19, 3) := by decide +kernel
theorem d_M_findNeeded_60 : decode prog_11_method_24_code 60 = .ok (.iconst 4, 1) := by decide +kernel
theorem d_M_findNeeded_61 : decode prog_11_method_24_code 61 = .ok (.aload_n 0, 1) := by decide +kernel
theorem d_M_findNeeded_62 : decode prog_11_method_24_code 62 = .ok (.getfield 44, 3) := by decide +kernel
theorem d_M_findNeeded_65 : decode prog_11_method_24_code 65 = .ok (.iload_n 1, 1) := by decide +kernel
theorem d_M_findNeeded_66 : decode prog_11_method_24_code 66 = .ok (.iaload, 1) := by decide +kernel
theorem d_M_findNeeded_67 : decode prog_11_method_24_code 67 = .ok (.imul, 1) := by decide +kernel
theorem d_M_findNeeded_68 : decode prog_11_method_24_code 68 = .ok (.aload_n 0, 1) := by decide +kernel
theorem d_M_findNeeded_69 : decode prog_11_method_24_code 69 = .ok (.getfield 50, 3) := by decide +kernel
theorem d_M_findNeeded_72 : decode prog_11_method_24_code 72 = .ok (.iload_n 1, 1) := by decide +kernel
theorem d_M_findNeeded_73 : decode prog_11_method_24_code 73 = .ok (.iaload, 1) := by decide +kernel
theorem d_M_findNeeded_74 : decode prog_11_method_24_code 74 = .ok (.iadd, 1) := by decide +kernel
theorem d_M_findNeeded_75 : decode prog_11_method_24_code 75 = .ok (.iconst 1, 1) := by decide +kernel
theorem d_M_findNeeded_76 : decode prog_11_method_24_code 76 = .ok (.bastore, 1) := by decide +kernel
theorem d_M_findNeeded_77 : decode prog_11_method_24_code 77 = .ok (.iconst 0, 1) := by decide +kernel
theorem d_M_findNeeded_78 : decode prog_11_method_24_code 78 = .ok (.istore_n 2, 1) := by decide +kernel
theorem d_M_findNeeded_79 : decode prog_11_method_24_code 79 = .ok (.iload_n 2, 1) := by decide +kernel
theorem d_M_findNeeded_80 : decode prog_11_method_24_code 80 = .ok (.sipush 129, 3) := by decide +kernel
theorem d_M_findNeeded_83 : decode prog_11_method_24_code 83 = .ok (.if_icmp .ge 187, 3) := by decide +kernel
theorem d_M_findNeeded_86 : decode prog_11_method_24_code 86 = .ok (.iconst 0, 1) := by decide +kernel
theorem d_M_findNeeded_87 : decode prog_11_method_24_code 87 = .ok (.istore_n 3, 1) := by decide +kernel
theorem d_M_findNeeded_88 : decode prog_11_method_24_code 88 = .ok (.iconst 0, 1) := by decide +kernel
theorem d_M_findNeeded_89 : decode prog_11_method_24_code 89 = .ok (.istore 4, 2) := by decide +kernel
theorem d_M_findNeeded_91 : decode prog_11_method_24_code 91 = .ok (.iload 4, 2) := by decide +kernel
theorem d_M_findNeeded_93 : decode prog_11_method_24_code 93 = .ok (.aload_n 0, 1) := by decide +kernel
theorem d_M_findNeeded_94 : decode prog_11_method_24_code 94 = .ok (.getfield 132, 3) := by decide +kernel
theorem d_M_findNeeded_97 : decode prog_11_method_24_code 97 = .ok (.if_icmp .ge 162, 3) := by decide +kernel
theorem d_M_findNeeded_100 : decode prog_11_method_24_code 100 = .ok (.aload_n 0, 1) := by decide +kernel
theorem d_M_findNeeded_101 : decode prog_11_method_24_code 101 = .ok (.getfield 62, 3) := by decide +kernel
theorem d_M_findNeeded_104 : decode prog_11_method_24_code 104 = .ok (.iload 4, 2) := by decide +kernel
theorem d_M_findNeeded_106 : decode prog_11_method_24_code 106 = .ok (.iaload, 1) := by decide +kernel
theorem d_M_findNeeded_107 : decode prog_11_method_24_code 107 = .ok (.istore 5, 2) := by decide +kernel
theorem d_M_findNeeded_109 : decode prog_11_method_24_code 109 = .ok (.aload_n 0, 1) := by decide +kernel
theorem d_M_findNeeded_110 : decode prog_11_method_24_code 110 = .ok (.getfield 19, 3) := by decide +kernel
theorem d_M_findNeeded_113 : decode prog_11_method_24_code 113 = .ok (.iconst 4, 1) := by decide +kernel
theorem d_M_findNeeded_114 : decode prog_11_method_24_code 114 = .ok (.iload 5, 2) := by decide +kernel
theorem d_M_findNeeded_116 : decode prog_11_method_24_code 116 = .ok (.imul, 1) := by decide +kernel
theorem d_M_findNeeded_117 : decode prog_11_method_24_code 117 = .ok (.aload_n 0, 1) := by decide +kernel
theorem d_M_findNeeded_118 : decode prog_11_method_24_code 118 = .ok (.getfield 65, 3) := by decide +kernel
theorem d_M_findNeeded_121 : decode prog_11_method_24_code 121 = .ok (.iload 4, 2) := by decide +kernel
theorem d_M_findNeeded_123 : decode prog_11_method_24_code 123 = .ok (.iaload, 1) := by decide +kernel
theorem d_M_findNeeded_124 : decode prog_11_method_24_code 124 = .ok (.iadd, 1) := by decide +kernel
theorem d_M_findNeeded_125 : decode prog_11_method_24_code 125 = .ok (.baload, 1) := by decide +kernel
theorem d_M_findNeeded_126 : decode prog_11_method_24_code 126 = .ok (.ifCond .eq 127, 3) := by decide +kernel
theorem d_M_findNeeded_129 : decode prog_11_method_24_code 129 = .ok (.aload_n 0, 1) := by decide +kernel
theorem d_M_findNeeded_130 : decode prog_11_method_24_code 130 = .ok (.getfield 77, 3) := by decide +kernel
theorem d_M_findNeeded_133 : decode prog_11_method_24_code 133 = .ok (.iload 4, 2) := by decide +kernel
theorem d_M_findNeeded_135 : decode prog_11_method_24_code 135 = .ok (.iaload, 1) := by decide +kernel
theorem d_M_findNeeded_136 : decode prog_11_method_24_code 136 = .ok (.iconst (-1), 1) := by decide +kernel
theorem d_M_findNeeded_137 : decode prog_11_method_24_code 137 = .ok (.if_icmp .ne 6, 3) := by decide +kernel
theorem d_M_findNeeded_140 : decode prog_11_method_24_code 140 = .ok (.goto 113, 3) := by decide +kernel
theorem d_M_findNeeded_143 : decode prog_11_method_24_code 143 = .ok (.aload_n 0, 1) := by decide +kernel
theorem d_M_findNeeded_144 : decode prog_11_method_24_code 144 = .ok (.getfield 77, 3) := by decide +kernel
theorem d_M_findNeeded_147 : decode prog_11_method_24_code 147 = .ok (.iload 4, 2) := by decide +kernel
theorem d_M_findNeeded_149 : decode prog_11_method_24_code 149 = .ok (.iaload, 1) := by decide +kernel
theorem d_M_findNeeded_150 : decode prog_11_method_24_code 150 = .ok (.ifCond .ge 7, 3) := by decide +kernel
theorem d_M_findNeeded_153 : decode prog_11_method_24_code 153 = .ok (.iconst (-1), 1) := by decide +kernel
theorem d_M_findNeeded_154 : decode prog_11_method_24_code 154 = .ok (.goto 14, 3) := by decide +kernel
theorem d_M_findNeeded_157 : decode prog_11_method_24_code 157 = .ok (.aload_n 0, 1) := by decide +kernel
theorem d_M_findNeeded_158 : decode prog_11_method_24_code 158 = .ok (.aload_n 0, 1) := by decide +kernel
theorem d_M_findNeeded_159 : decode prog_11_method_24_code 159 = .ok (.getfield 77, 3) := by decide +kernel
theorem d_M_findNeeded_162 : decode prog_11_method_24_code 162 = .ok (.iload 4, 2) := by decide +kernel
theorem d_M_findNeeded_164 : decode prog_11_method_24_code 164 = .ok (.iaload, 1) := by decide +kernel
theorem d_M_findNeeded_165 : decode prog_11_method_24_code 165 = .ok (.invokevirtual 188, 3) := by decide +kernel
theorem d_M_findNeeded_168 : decode prog_11_method_24_code 168 = .ok (.istore 6, 2) := by decide +kernel
theorem d_M_findNeeded_170 : decode prog_11_method_24_code 170 = .ok (.aload_n 0, 1) := by decide +kernel
theorem d_M_findNeeded_171 : decode prog_11_method_24_code 171 = .ok (.getfield 77, 3) := by decide +kernel
theorem d_M_findNeeded_174 : decode prog_11_method_24_code 174 = .ok (.iload 4, 2) := by decide +kernel
theorem d_M_findNeeded_176 : decode prog_11_method_24_code 176 = .ok (.iaload, 1) := by decide +kernel
theorem d_M_findNeeded_177 : decode prog_11_method_24_code 177 = .ok (.ifCond .ge 20, 3) := by decide +kernel
theorem d_M_findNeeded_180 : decode prog_11_method_24_code 180 = .ok (.iconst 4, 1) := by decide +kernel
theorem d_M_findNeeded_181 : decode prog_11_method_24_code 181 = .ok (.iload 5, 2) := by decide +kernel
theorem d_M_findNeeded_183 : decode prog_11_method_24_code 183 = .ok (.imul, 1) := by decide +kernel
theorem d_M_findNeeded_184 : decode prog_11_method_24_code 184 = .ok (.iconst 2, 1) := by decide +kernel
theorem d_M_findNeeded_185 : decode prog_11_method_24_code 185 = .ok (.isub, 1) := by decide +kernel
theorem d_M_findNeeded_186 : decode prog_11_method_24_code 186 = .ok (.aload_n 0, 1) := by decide +kernel
theorem d_M_findNeeded_187 : decode prog_11_method_24_code 187 = .ok (.getfield 77, 3) := by decide +kernel
theorem d_M_findNeeded_190 : decode prog_11_method_24_code 190 = .ok (.iload 4, 2) := by decide +kernel
theorem d_M_findNeeded_192 : decode prog_11_method_24_code 192 = .ok (.iaload, 1) := by decide +kernel
theorem d_M_findNeeded_193 : decode prog_11_method_24_code 193 = .ok (.isub, 1) := by decide +kernel
theorem d_M_findNeeded_194 : decode prog_11_method_24_code 194 = .ok (.goto 29, 3) := by decide +kernel
theorem d_M_findNeeded_197 : decode prog_11_method_24_code 197 = .ok (.iload 6, 2) := by decide +kernel
theorem d_M_findNeeded_199 : decode prog_11_method_24_code 199 = .ok (.ifCond .ge 7, 3) := by decide +kernel
theorem d_M_findNeeded_202 : decode prog_11_method_24_code 202 = .ok (.iconst (-1), 1) := by decide +kernel
theorem d_M_findNeeded_203 : decode prog_11_method_24_code 203 = .ok (.goto 20, 3) := by decide +kernel
theorem d_M_findNeeded_206 : decode prog_11_method_24_code 206 = .ok (.iconst 4, 1) := by decide +kernel
theorem d_M_findNeeded_207 : decode prog_11_method_24_code 207 = .ok (.aload_n 0, 1) := by decide +kernel
theorem d_M_findNeeded_208 : decode prog_11_method_24_code 208 = .ok (.getfield 44, 3) := by decide +kernel
theorem d_M_findNeeded_211 : decode prog_11_method_24_code 211 = .ok (.iload 6, 2) := by decide +kernel
theorem d_M_findNeeded_213 : decode prog_11_method_24_code 213 = .ok (.iaload, 1) := by decide +kernel
theorem d_M_findNeeded_214 : decode prog_11_method_24_code 214 = .ok (.imul, 1) := by decide +kernel
theorem d_M_findNeeded_215 : decode prog_11_method_24_code 215 = .ok (.aload_n 0, 1) := by decide +kernel
theorem d_M_findNeeded_216 : decode prog_11_method_24_code 216 = .ok (.getfield 50, 3) := by decide +kernel
theorem d_M_findNeeded_219 : decode prog_11_method_24_code 219 = .ok (.iload 6, 2) := by decide +kernel
theorem d_M_findNeeded_221 : decode prog_11_method_24_code 221 = .ok (.iaload, 1) := by decide +kernel
theorem d_M_findNeeded_222 : decode prog_11_method_24_code 222 = .ok (.iadd, 1) := by decide +kernel
theorem d_M_findNeeded_223 : decode prog_11_method_24_code 223 = .ok (.istore 7, 2) := by decide +kernel
theorem d_M_findNeeded_225 : decode prog_11_method_24_code 225 = .ok (.iload 7, 2) := by decide +kernel
theorem d_M_findNeeded_227 : decode prog_11_method_24_code 227 = .ok (.ifCond .lt 26, 3) := by decide +kernel
theorem d_M_findNeeded_230 : decode prog_11_method_24_code 230 = .ok (.aload_n 0, 1) := by decide +kernel
theorem d_M_findNeeded_231 : decode prog_11_method_24_code 231 = .ok (.getfield 19, 3) := by decide +kernel
theorem d_M_findNeeded_234 : decode prog_11_method_24_code 234 = .ok (.iload 7, 2) := by decide +kernel
theorem d_M_findNeeded_236 : decode prog_11_method_24_code 236 = .ok (.baload, 1) := by decide +kernel
theorem d_M_findNeeded_237 : decode prog_11_method_24_code 237 = .ok (.ifCond .eq 6, 3) := by decide +kernel
theorem d_M_findNeeded_240 : decode prog_11_method_24_code 240 = .ok (.goto 13, 3) := by decide +kernel
theorem d_M_findNeeded_243 : decode prog_11_method_24_code 243 = .ok (.aload_n 0, 1) := by decide +kernel
theorem d_M_findNeeded_244 : decode prog_11_method_24_code 244 = .ok (.getfield 19, 3) := by decide +kernel
theorem d_M_findNeeded_247 : decode prog_11_method_24_code 247 = .ok (.iload 7, 2) := by decide +kernel
theorem d_M_findNeeded_249 : decode prog_11_method_24_code 249 = .ok (.iconst 1, 1) := by decide +kernel
theorem d_M_findNeeded_250 : decode prog_11_method_24_code 250 = .ok (.bastore, 1) := by decide +kernel
theorem d_M_findNeeded_251 : decode prog_11_method_24_code 251 = .ok (.iconst 1, 1) := by decide +kernel
theorem d_M_findNeeded_252 : decode prog_11_method_24_code 252 = .ok (.istore_n 3, 1) := by decide +kernel
theorem d_M_findNeeded_253 : decode prog_11_method_24_code 253 = .ok (.iinc 4 1, 3) := by decide +kernel
theorem d_M_findNeeded_256 : decode prog_11_method_24_code 256 = .ok (.goto (-165), 3) := by decide +kernel
theorem d_M_findNeeded_259 : decode prog_11_method_24_code 259 = .ok (.iload_n 3, 1) := by decide +kernel
theorem d_M_findNeeded_260 : decode prog_11_method_24_code 260 = .ok (.ifCond .ne 4, 3) := by decide +kernel
theorem d_M_findNeeded_263 : decode prog_11_method_24_code 263 = .ok (.return_, 1) := by decide +kernel
theorem d_M_findNeeded_264 : decode prog_11_method_24_code 264 = .ok (.iinc 2 1, 3) := by decide +kernel
theorem d_M_findNeeded_267 : decode prog_11_method_24_code 267 = .ok (.goto (-188), 3) := by decide +kernel
theorem d_M_findNeeded_270 : decode prog_11_method_24_code 270 = .ok (.return_, 1) := by decide +kernel
theorem d_M_standsFor_0 : decode prog_11_method_19_code 0 = .ok (.aload_n 0, 1) := by decide +kernel
theorem d_M_standsFor_1 : decode prog_11_method_19_code 1 = .ok (.getfield 50, 3) := by decide +kernel
theorem d_M_standsFor_4 : decode prog_11_method_19_code 4 = .ok (.iload_n 1, 1) := by decide +kernel
theorem d_M_standsFor_5 : decode prog_11_method_19_code 5 = .ok (.iaload, 1) := by decide +kernel
theorem d_M_standsFor_6 : decode prog_11_method_19_code 6 = .ok (.ifCond .lt 15, 3) := by decide +kernel
theorem d_M_standsFor_9 : decode prog_11_method_19_code 9 = .ok (.aload_n 0, 1) := by decide +kernel
theorem d_M_standsFor_10 : decode prog_11_method_19_code 10 = .ok (.getfield 47, 3) := by decide +kernel
theorem d_M_standsFor_13 : decode prog_11_method_19_code 13 = .ok (.iload_n 1, 1) := by decide +kernel
theorem d_M_standsFor_14 : decode prog_11_method_19_code 14 = .ok (.iaload, 1) := by decide +kernel
theorem d_M_standsFor_15 : decode prog_11_method_19_code 15 = .ok (.iconst 2, 1) := by decide +kernel
theorem d_M_standsFor_16 : decode prog_11_method_19_code 16 = .ok (.if_icmp .ge 5, 3) := by decide +kernel
theorem d_M_standsFor_19 : decode prog_11_method_19_code 19 = .ok (.iload_n 1, 1) := by decide +kernel
theorem d_M_standsFor_20 : decode prog_11_method_19_code 20 = .ok (.ireturn, 1) := by decide +kernel
theorem d_M_standsFor_21 : decode prog_11_method_19_code 21 = .ok (.aload_n 0, 1) := by decide +kernel
theorem d_M_standsFor_22 : decode prog_11_method_19_code 22 = .ok (.aload_n 0, 1) := by decide +kernel
theorem d_M_standsFor_23 : decode prog_11_method_19_code 23 = .ok (.getfield 37, 3) := by decide +kernel
theorem d_M_standsFor_26 : decode prog_11_method_19_code 26 = .ok (.iload_n 1, 1) := by decide +kernel
theorem d_M_standsFor_27 : decode prog_11_method_19_code 27 = .ok (.laload, 1) := by decide +kernel
theorem d_M_standsFor_28 : decode prog_11_method_19_code 28 = .ok (.aload_n 0, 1) := by decide +kernel
theorem d_M_standsFor_29 : decode prog_11_method_19_code 29 = .ok (.getfield 41, 3) := by decide +kernel
theorem d_M_standsFor_32 : decode prog_11_method_19_code 32 = .ok (.iload_n 1, 1) := by decide +kernel
theorem d_M_standsFor_33 : decode prog_11_method_19_code 33 = .ok (.iaload, 1) := by decide +kernel
theorem d_M_standsFor_34 : decode prog_11_method_19_code 34 = .ok (.invokevirtual 171, 3) := by decide +kernel
theorem d_M_standsFor_37 : decode prog_11_method_19_code 37 = .ok (.istore_n 2, 1) := by decide +kernel
theorem d_M_standsFor_38 : decode prog_11_method_19_code 38 = .ok (.iload_n 2, 1) := by decide +kernel
theorem d_M_standsFor_39 : decode prog_11_method_19_code 39 = .ok (.ifCond .lt 7, 3) := by decide +kernel
theorem d_M_standsFor_42 : decode prog_11_method_19_code 42 = .ok (.iload_n 2, 1) := by decide +kernel
theorem d_M_standsFor_43 : decode prog_11_method_19_code 43 = .ok (.goto 19, 3) := by decide +kernel
theorem d_M_standsFor_46 : decode prog_11_method_19_code 46 = .ok (.aload_n 0, 1) := by decide +kernel
theorem d_M_standsFor_47 : decode prog_11_method_19_code 47 = .ok (.getfield 47, 3) := by decide +kernel
theorem d_M_standsFor_50 : decode prog_11_method_19_code 50 = .ok (.iload_n 1, 1) := by decide +kernel
theorem d_M_standsFor_51 : decode prog_11_method_19_code 51 = .ok (.iaload, 1) := by decide +kernel
theorem d_M_standsFor_52 : decode prog_11_method_19_code 52 = .ok (.iconst 1, 1) := by decide +kernel
theorem d_M_standsFor_53 : decode prog_11_method_19_code 53 = .ok (.if_icmp .le 8, 3) := by decide +kernel
theorem d_M_standsFor_56 : decode prog_11_method_19_code 56 = .ok (.bipush (-2), 2) := by decide +kernel
theorem d_M_standsFor_58 : decode prog_11_method_19_code 58 = .ok (.goto 4, 3) := by decide +kernel
theorem d_M_standsFor_61 : decode prog_11_method_19_code 61 = .ok (.iconst (-1), 1) := by decide +kernel
theorem d_M_standsFor_62 : decode prog_11_method_19_code 62 = .ok (.ireturn, 1) := by decide +kernel
theorem d_M_layOut_0 : decode prog_11_method_25_code 0 = .ok (.iconst 0, 1) := by decide +kernel
theorem d_M_layOut_1 : decode prog_11_method_25_code 1 = .ok (.istore_n 1, 1) := by decide +kernel
theorem d_M_layOut_2 : decode prog_11_method_25_code 2 = .ok (.aload_n 0, 1) := by decide +kernel
theorem d_M_layOut_3 : decode prog_11_method_25_code 3 = .ok (.iconst 0, 1) := by decide +kernel
theorem d_M_layOut_4 : decode prog_11_method_25_code 4 = .ok (.putfield 191, 3) := by decide +kernel
theorem d_M_layOut_7 : decode prog_11_method_25_code 7 = .ok (.iconst 0, 1) := by decide +kernel
theorem d_M_layOut_8 : decode prog_11_method_25_code 8 = .ok (.istore_n 2, 1) := by decide +kernel
theorem d_M_layOut_9 : decode prog_11_method_25_code 9 = .ok (.iload_n 2, 1) := by decide +kernel
theorem d_M_layOut_10 : decode prog_11_method_25_code 10 = .ok (.iconst 4, 1) := by decide +kernel
theorem d_M_layOut_11 : decode prog_11_method_25_code 11 = .ok (.if_icmp .ge 172, 3) := by decide +kernel
theorem d_M_layOut_14 : decode prog_11_method_25_code 14 = .ok (.iload_n 2, 1) := by decide +kernel
theorem d_M_layOut_15 : decode prog_11_method_25_code 15 = .ok (.iconst 1, 1) := by decide +kernel
theorem d_M_layOut_16 : decode prog_11_method_25_code 16 = .ok (.if_icmp .eq 8, 3) := by decide +kernel
theorem d_M_layOut_19 : decode prog_11_method_25_code 19 = .ok (.iload_n 2, 1) := by decide +kernel
theorem d_M_layOut_20 : decode prog_11_method_25_code 20 = .ok (.iconst 2, 1) := by decide +kernel
theorem d_M_layOut_21 : decode prog_11_method_25_code 21 = .ok (.if_icmp .ne 13, 3) := by decide +kernel
theorem d_M_layOut_24 : decode prog_11_method_25_code 24 = .ok (.iload_n 1, 1) := by decide +kernel
theorem d_M_layOut_25 : decode prog_11_method_25_code 25 = .ok (.sipush 4095, 3) := by decide +kernel
theorem d_M_layOut_28 : decode prog_11_method_25_code 28 = .ok (.iadd, 1) := by decide +kernel
theorem d_M_layOut_29 : decode prog_11_method_25_code 29 = .ok (.sipush (-4096), 3) := by decide +kernel
theorem d_M_layOut_32 : decode prog_11_method_25_code 32 = .ok (.iand, 1) := by decide +kernel
theorem d_M_layOut_33 : decode prog_11_method_25_code 33 = .ok (.istore_n 1, 1) := by decide +kernel
theorem d_M_layOut_34 : decode prog_11_method_25_code 34 = .ok (.iload_n 2, 1) := by decide +kernel
theorem d_M_layOut_35 : decode prog_11_method_25_code 35 = .ok (.iconst 1, 1) := by decide +kernel
theorem d_M_layOut_36 : decode prog_11_method_25_code 36 = .ok (.if_icmp .ne 13, 3) := by decide +kernel
theorem d_M_layOut_39 : decode prog_11_method_25_code 39 = .ok (.aload_n 0, 1) := by decide +kernel
theorem d_M_layOut_40 : decode prog_11_method_25_code 40 = .ok (.getfield 105, 3) := by decide +kernel
theorem d_M_layOut_43 : decode prog_11_method_25_code 43 = .ok (.iconst 1, 1) := by decide +kernel
theorem d_M_layOut_44 : decode prog_11_method_25_code 44 = .ok (.ldc 194, 2) := by decide +kernel
theorem d_M_layOut_46 : decode prog_11_method_25_code 46 = .ok (.iload_n 1, 1) := by decide +kernel
theorem d_M_layOut_47 : decode prog_11_method_25_code 47 = .ok (.iadd, 1) := by decide +kernel
theorem d_M_layOut_48 : decode prog_11_method_25_code 48 = .ok (.iastore, 1) := by decide +kernel
theorem d_M_layOut_49 : decode prog_11_method_25_code 49 = .ok (.iload_n 2, 1) := by decide +kernel
theorem d_M_layOut_50 : decode prog_11_method_25_code 50 = .ok (.iconst 2, 1) := by decide +kernel
theorem d_M_layOut_51 : decode prog_11_method_25_code 51 = .ok (.if_icmp .ne 13, 3) := by decide +kernel
theorem d_M_layOut_54 : decode prog_11_method_25_code 54 = .ok (.aload_n 0, 1) := by decide +kernel
theorem d_M_layOut_55 : decode prog_11_method_25_code 55 = .ok (.getfield 105, 3) := by decide +kernel
theorem d_M_layOut_58 : decode prog_11_method_25_code 58 = .ok (.iconst 3, 1) := by decide +kernel
theorem d_M_layOut_59 : decode prog_11_method_25_code 59 = .ok (.ldc 194, 2) := by decide +kernel
theorem d_M_layOut_61 : decode prog_11_method_25_code 61 = .ok (.iload_n 1, 1) := by decide +kernel
theorem d_M_layOut_62 : decode prog_11_method_25_code 62 = .ok (.iadd, 1) := by decide +kernel
theorem d_M_layOut_63 : decode prog_11_method_25_code 63 = .ok (.iastore, 1) := by decide +kernel
theorem d_M_layOut_64 : decode prog_11_method_25_code 64 = .ok (.iconst 0, 1) := by decide +kernel
theorem d_M_layOut_65 : decode prog_11_method_25_code 65 = .ok (.istore_n 3, 1) := by decide +kernel
theorem d_M_layOut_66 : decode prog_11_method_25_code 66 = .ok (.iload_n 3, 1) := by decide +kernel
theorem d_M_layOut_67 : decode prog_11_method_25_code 67 = .ok (.aload_n 0, 1) := by decide +kernel
theorem d_M_layOut_68 : decode prog_11_method_25_code 68 = .ok (.getfield 126, 3) := by decide +kernel
theorem d_M_layOut_71 : decode prog_11_method_25_code 71 = .ok (.if_icmp .ge 62, 3) := by decide +kernel
theorem d_M_layOut_74 : decode prog_11_method_25_code 74 = .ok (.aload_n 0, 1) := by decide +kernel
theorem d_M_layOut_75 : decode prog_11_method_25_code 75 = .ok (.getfield 19, 3) := by decide +kernel
theorem d_M_layOut_78 : decode prog_11_method_25_code 78 = .ok (.iconst 4, 1) := by decide +kernel
theorem d_M_layOut_79 : decode prog_11_method_25_code 79 = .ok (.iload_n 3, 1) := by decide +kernel
theorem d_M_layOut_80 : decode prog_11_method_25_code 80 = .ok (.imul, 1) := by decide +kernel
theorem d_M_layOut_81 : decode prog_11_method_25_code 81 = .ok (.iload_n 2, 1) := by decide +kernel
theorem d_M_layOut_82 : decode prog_11_method_25_code 82 = .ok (.iadd, 1) := by decide +kernel
theorem d_M_layOut_83 : decode prog_11_method_25_code 83 = .ok (.baload, 1) := by decide +kernel
theorem d_M_layOut_84 : decode prog_11_method_25_code 84 = .ok (.ifCond .ne 6, 3) := by decide +kernel
theorem d_M_layOut_87 : decode prog_11_method_25_code 87 = .ok (.goto 40, 3) := by decide +kernel
theorem d_M_layOut_90 : decode prog_11_method_25_code 90 = .ok (.iload_n 1, 1) := by decide +kernel
theorem d_M_layOut_91 : decode prog_11_method_25_code 91 = .ok (.bipush 15, 2) := by decide +kernel
theorem d_M_layOut_93 : decode prog_11_method_25_code 93 = .ok (.iadd, 1) := by decide +kernel
theorem d_M_layOut_94 : decode prog_11_method_25_code 94 = .ok (.bipush (-16), 2) := by decide +kernel
theorem d_M_layOut_96 : decode prog_11_method_25_code 96 = .ok (.iand, 1) := by decide +kernel
theorem d_M_layOut_97 : decode prog_11_method_25_code 97 = .ok (.istore_n 1, 1) := by decide +kernel
theorem d_M_layOut_98 : decode prog_11_method_25_code 98 = .ok (.aload_n 0, 1) := by decide +kernel
theorem d_M_layOut_99 : decode prog_11_method_25_code 99 = .ok (.getfield 29, 3) := by decide +kernel
theorem d_M_layOut_102 : decode prog_11_method_25_code 102 = .ok (.iconst 4, 1) := by decide +kernel
theorem d_M_layOut_103 : decode prog_11_method_25_code 103 = .ok (.iload_n 3, 1) := by decide +kernel
theorem d_M_layOut_104 : decode prog_11_method_25_code 104 = .ok (.imul, 1) := by decide +kernel
theorem d_M_layOut_105 : decode prog_11_method_25_code 105 = .ok (.iload_n 2, 1) := by decide +kernel
theorem d_M_layOut_106 : decode prog_11_method_25_code 106 = .ok (.iadd, 1) := by decide +kernel
theorem d_M_layOut_107 : decode prog_11_method_25_code 107 = .ok (.iload_n 1, 1) := by decide +kernel
theorem d_M_layOut_108 : decode prog_11_method_25_code 108 = .ok (.iastore, 1) := by decide +kernel
theorem d_M_layOut_109 : decode prog_11_method_25_code 109 = .ok (.iload_n 1, 1) := by decide +kernel
theorem d_M_layOut_110 : decode prog_11_method_25_code 110 = .ok (.aload_n 0, 1) := by decide +kernel
theorem d_M_layOut_111 : decode prog_11_method_25_code 111 = .ok (.getfield 22, 3) := by decide +kernel
theorem d_M_layOut_114 : decode prog_11_method_25_code 114 = .ok (.iconst 4, 1) := by decide +kernel
theorem d_M_layOut_115 : decode prog_11_method_25_code 115 = .ok (.iload_n 3, 1) := by decide +kernel
theorem d_M_layOut_116 : decode prog_11_method_25_code 116 = .ok (.imul, 1) := by decide +kernel
theorem d_M_layOut_117 : decode prog_11_method_25_code 117 = .ok (.iload_n 2, 1) := by decide +kernel
theorem d_M_layOut_118 : decode prog_11_method_25_code 118 = .ok (.iadd, 1) := by decide +kernel
theorem d_M_layOut_119 : decode prog_11_method_25_code 119 = .ok (.iaload, 1) := by decide +kernel
theorem d_M_layOut_120 : decode prog_11_method_25_code 120 = .ok (.iadd, 1) := by decide +kernel
theorem d_M_layOut_121 : decode prog_11_method_25_code 121 = .ok (.istore_n 1, 1) := by decide +kernel
theorem d_M_layOut_122 : decode prog_11_method_25_code 122 = .ok (.aload_n 0, 1) := by decide +kernel
theorem d_M_layOut_123 : decode prog_11_method_25_code 123 = .ok (.iload_n 1, 1) := by decide +kernel
theorem d_M_layOut_124 : decode prog_11_method_25_code 124 = .ok (.putfield 191, 3) := by decide +kernel
theorem d_M_layOut_127 : decode prog_11_method_25_code 127 = .ok (.iinc 3 1, 3) := by decide +kernel
theorem d_M_layOut_130 : decode prog_11_method_25_code 130 = .ok (.goto (-64), 3) := by decide +kernel
theorem d_M_layOut_133 : decode prog_11_method_25_code 133 = .ok (.iload_n 2, 1) := by decide +kernel
theorem d_M_layOut_134 : decode prog_11_method_25_code 134 = .ok (.ifCond .ne 13, 3) := by decide +kernel
theorem d_M_layOut_137 : decode prog_11_method_25_code 137 = .ok (.aload_n 0, 1) := by decide +kernel
theorem d_M_layOut_138 : decode prog_11_method_25_code 138 = .ok (.getfield 105, 3) := by decide +kernel
theorem d_M_layOut_141 : decode prog_11_method_25_code 141 = .ok (.iconst 0, 1) := by decide +kernel
theorem d_M_layOut_142 : decode prog_11_method_25_code 142 = .ok (.ldc 194, 2) := by decide +kernel
theorem d_M_layOut_144 : decode prog_11_method_25_code 144 = .ok (.iload_n 1, 1) := by decide +kernel
theorem d_M_layOut_145 : decode prog_11_method_25_code 145 = .ok (.iadd, 1) := by decide +kernel
theorem d_M_layOut_146 : decode prog_11_method_25_code 146 = .ok (.iastore, 1) := by decide +kernel
theorem d_M_layOut_147 : decode prog_11_method_25_code 147 = .ok (.iload_n 2, 1) := by decide +kernel
theorem d_M_layOut_148 : decode prog_11_method_25_code 148 = .ok (.iconst 1, 1) := by decide +kernel
theorem d_M_layOut_149 : decode prog_11_method_25_code 149 = .ok (.if_icmp .ne 13, 3) := by decide +kernel
theorem d_M_layOut_152 : decode prog_11_method_25_code 152 = .ok (.aload_n 0, 1) := by decide +kernel
theorem d_M_layOut_153 : decode prog_11_method_25_code 153 = .ok (.getfield 105, 3) := by decide +kernel
theorem d_M_layOut_156 : decode prog_11_method_25_code 156 = .ok (.iconst 2, 1) := by decide +kernel
theorem d_M_layOut_157 : decode prog_11_method_25_code 157 = .ok (.ldc 194, 2) := by decide +kernel
theorem d_M_layOut_159 : decode prog_11_method_25_code 159 = .ok (.iload_n 1, 1) := by decide +kernel
theorem d_M_layOut_160 : decode prog_11_method_25_code 160 = .ok (.iadd, 1) := by decide +kernel
theorem d_M_layOut_161 : decode prog_11_method_25_code 161 = .ok (.iastore, 1) := by decide +kernel
theorem d_M_layOut_162 : decode prog_11_method_25_code 162 = .ok (.iload_n 2, 1) := by decide +kernel
theorem d_M_layOut_163 : decode prog_11_method_25_code 163 = .ok (.iconst 3, 1) := by decide +kernel
theorem d_M_layOut_164 : decode prog_11_method_25_code 164 = .ok (.if_icmp .ne 13, 3) := by decide +kernel
theorem d_M_layOut_167 : decode prog_11_method_25_code 167 = .ok (.aload_n 0, 1) := by decide +kernel
theorem d_M_layOut_168 : decode prog_11_method_25_code 168 = .ok (.getfield 105, 3) := by decide +kernel
theorem d_M_layOut_171 : decode prog_11_method_25_code 171 = .ok (.iconst 4, 1) := by decide +kernel
theorem d_M_layOut_172 : decode prog_11_method_25_code 172 = .ok (.ldc 194, 2) := by decide +kernel
theorem d_M_layOut_174 : decode prog_11_method_25_code 174 = .ok (.iload_n 1, 1) := by decide +kernel
theorem d_M_layOut_175 : decode prog_11_method_25_code 175 = .ok (.iadd, 1) := by decide +kernel
theorem d_M_layOut_176 : decode prog_11_method_25_code 176 = .ok (.iastore, 1) := by decide +kernel
theorem d_M_layOut_177 : decode prog_11_method_25_code 177 = .ok (.iinc 2 1, 3) := by decide +kernel
theorem d_M_layOut_180 : decode prog_11_method_25_code 180 = .ok (.goto (-171), 3) := by decide +kernel
theorem d_M_layOut_183 : decode prog_11_method_25_code 183 = .ok (.aload_n 0, 1) := by decide +kernel
theorem d_M_layOut_184 : decode prog_11_method_25_code 184 = .ok (.getfield 105, 3) := by decide +kernel
theorem d_M_layOut_187 : decode prog_11_method_25_code 187 = .ok (.bipush 6, 2) := by decide +kernel
theorem d_M_layOut_189 : decode prog_11_method_25_code 189 = .ok (.aload_n 0, 1) := by decide +kernel
theorem d_M_layOut_190 : decode prog_11_method_25_code 190 = .ok (.getfield 191, 3) := by decide +kernel
theorem d_M_layOut_193 : decode prog_11_method_25_code 193 = .ok (.iastore, 1) := by decide +kernel
theorem d_M_layOut_194 : decode prog_11_method_25_code 194 = .ok (.return_, 1) := by decide +kernel
theorem d_M_findWrong_0 : decode prog_11_method_28_code 0 = .ok (.iconst (-1), 1) := by decide +kernel
theorem d_M_findWrong_1 : decode prog_11_method_28_code 1 = .ok (.istore_n 1, 1) := by decide +kernel
theorem d_M_findWrong_2 : decode prog_11_method_28_code 2 = .ok (.iconst 0, 1) := by decide +kernel
theorem d_M_findWrong_3 : decode prog_11_method_28_code 3 = .ok (.istore_n 2, 1) := by decide +kernel
theorem d_M_findWrong_4 : decode prog_11_method_28_code 4 = .ok (.iconst 0, 1) := by decide +kernel
theorem d_M_findWrong_5 : decode prog_11_method_28_code 5 = .ok (.istore_n 3, 1) := by decide +kernel
theorem d_M_findWrong_6 : decode prog_11_method_28_code 6 = .ok (.iload_n 3, 1) := by decide +kernel
theorem d_M_findWrong_7 : decode prog_11_method_28_code 7 = .ok (.aload_n 0, 1) := by decide +kernel
theorem d_M_findWrong_8 : decode prog_11_method_28_code 8 = .ok (.getfield 132, 3) := by decide +kernel
theorem d_M_findWrong_11 : decode prog_11_method_28_code 11 = .ok (.if_icmp .ge 195, 3) := by decide +kernel
theorem d_M_findWrong_14 : decode prog_11_method_28_code 14 = .ok (.aload_n 0, 1) := by decide +kernel
theorem d_M_findWrong_15 : decode prog_11_method_28_code 15 = .ok (.getfield 19, 3) := by decide +kernel
theorem d_M_findWrong_18 : decode prog_11_method_28_code 18 = .ok (.iconst 4, 1) := by decide +kernel
theorem d_M_findWrong_19 : decode prog_11_method_28_code 19 = .ok (.aload_n 0, 1) := by decide +kernel
theorem d_M_findWrong_20 : decode prog_11_method_28_code 20 = .ok (.getfield 62, 3) := by decide +kernel
theorem d_M_findWrong_23 : decode prog_11_method_28_code 23 = .ok (.iload_n 3, 1) := by decide +kernel
theorem d_M_findWrong_24 : decode prog_11_method_28_code 24 = .ok (.iaload, 1) := by decide +kernel
theorem d_M_findWrong_25 : decode prog_11_method_28_code 25 = .ok (.imul, 1) := by decide +kernel
theorem d_M_findWrong_26 : decode prog_11_method_28_code 26 = .ok (.aload_n 0, 1) := by decide +kernel
theorem d_M_findWrong_27 : decode prog_11_method_28_code 27 = .ok (.getfield 65, 3) := by decide +kernel
theorem d_M_findWrong_30 : decode prog_11_method_28_code 30 = .ok (.iload_n 3, 1) := by decide +kernel
theorem d_M_findWrong_31 : decode prog_11_method_28_code 31 = .ok (.iaload, 1) := by decide +kernel
theorem d_M_findWrong_32 : decode prog_11_method_28_code 32 = .ok (.iadd, 1) := by decide +kernel
theorem d_M_findWrong_33 : decode prog_11_method_28_code 33 = .ok (.baload, 1) := by decide +kernel
theorem d_M_findWrong_34 : decode prog_11_method_28_code 34 = .ok (.ifCond .ne 6, 3) := by decide +kernel
theorem d_M_findWrong_37 : decode prog_11_method_28_code 37 = .ok (.goto 163, 3) := by decide +kernel
theorem d_M_findWrong_40 : decode prog_11_method_28_code 40 = .ok (.aload_n 0, 1) := by decide +kernel
theorem d_M_findWrong_41 : decode prog_11_method_28_code 41 = .ok (.getfield 77, 3) := by decide +kernel
theorem d_M_findWrong_44 : decode prog_11_method_28_code 44 = .ok (.iload_n 3, 1) := by decide +kernel
theorem d_M_findWrong_45 : decode prog_11_method_28_code 45 = .ok (.iaload, 1) := by decide +kernel
theorem d_M_findWrong_46 : decode prog_11_method_28_code 46 = .ok (.ifCond .lt 21, 3) := by decide +kernel
theorem d_M_findWrong_49 : decode prog_11_method_28_code 49 = .ok (.aload_n 0, 1) := by decide +kernel
theorem d_M_findWrong_50 : decode prog_11_method_28_code 50 = .ok (.aload_n 0, 1) := by decide +kernel
theorem d_M_findWrong_51 : decode prog_11_method_28_code 51 = .ok (.getfield 77, 3) := by decide +kernel
theorem d_M_findWrong_54 : decode prog_11_method_28_code 54 = .ok (.iload_n 3, 1) := by decide +kernel
theorem d_M_findWrong_55 : decode prog_11_method_28_code 55 = .ok (.iaload, 1) := by decide +kernel
theorem d_M_findWrong_56 : decode prog_11_method_28_code 56 = .ok (.invokevirtual 188, 3) := by decide +kernel
theorem d_M_findWrong_59 : decode prog_11_method_28_code 59 = .ok (.iconst (-1), 1) := by decide +kernel
theorem d_M_findWrong_60 : decode prog_11_method_28_code 60 = .ok (.if_icmp .ne 7, 3) := by decide +kernel
theorem d_M_findWrong_63 : decode prog_11_method_28_code 63 = .ok (.iconst 1, 1) := by decide +kernel
theorem d_M_findWrong_64 : decode prog_11_method_28_code 64 = .ok (.goto 4, 3) := by decide +kernel
theorem d_M_findWrong_67 : decode prog_11_method_28_code 67 = .ok (.iconst 0, 1) := by decide +kernel
theorem d_M_findWrong_68 : decode prog_11_method_28_code 68 = .ok (.istore 4, 2) := by decide +kernel
theorem d_M_findWrong_70 : decode prog_11_method_28_code 70 = .ok (.iload 4, 2) := by decide +kernel
theorem d_M_findWrong_72 : decode prog_11_method_28_code 72 = .ok (.ifCond .eq 7, 3) := by decide +kernel
theorem d_M_findWrong_75 : decode prog_11_method_28_code 75 = .ok (.lconst 0, 1) := by decide +kernel
theorem d_M_findWrong_76 : decode prog_11_method_28_code 76 = .ok (.goto 8, 3) := by decide +kernel
theorem d_M_findWrong_79 : decode prog_11_method_28_code 79 = .ok (.aload_n 0, 1) := by decide +kernel
theorem d_M_findWrong_80 : decode prog_11_method_28_code 80 = .ok (.iload_n 3, 1) := by decide +kernel
theorem d_M_findWrong_81 : decode prog_11_method_28_code 81 = .ok (.invokevirtual 198, 3) := by decide +kernel
theorem d_M_findWrong_84 : decode prog_11_method_28_code 84 = .ok (.lstore 5, 2) := by decide +kernel
theorem d_M_findWrong_86 : decode prog_11_method_28_code 86 = .ok (.iload 4, 2) := by decide +kernel
theorem d_M_findWrong_88 : decode prog_11_method_28_code 88 = .ok (.ifCond .ne 23, 3) := by decide +kernel
theorem d_M_findWrong_91 : decode prog_11_method_28_code 91 = .ok (.aload_n 0, 1) := by decide +kernel
theorem d_M_findWrong_92 : decode prog_11_method_28_code 92 = .ok (.getfield 71, 3) := by decide +kernel
theorem d_M_findWrong_95 : decode prog_11_method_28_code 95 = .ok (.iload_n 3, 1) := by decide +kernel
theorem d_M_findWrong_96 : decode prog_11_method_28_code 96 = .ok (.iaload, 1) := by decide +kernel
theorem d_M_findWrong_97 : decode prog_11_method_28_code 97 = .ok (.iconst 4, 1) := by decide +kernel
theorem d_M_findWrong_98 : decode prog_11_method_28_code 98 = .ok (.if_icmp .ne 17, 3) := by decide +kernel
theorem d_M_findWrong_101 : decode prog_11_method_28_code 101 = .ok (.lload 5, 2) := by decide +kernel
theorem d_M_findWrong_103 : decode prog_11_method_28_code 103 = .ok (.lload 5, 2) := by decide +kernel
theorem d_M_findWrong_105 : decode prog_11_method_28_code 105 = .ok (.l2i, 1) := by decide +kernel
theorem d_M_findWrong_106 : decode prog_11_method_28_code 106 = .ok (.i2l, 1) := by decide +kernel
theorem d_M_findWrong_107 : decode prog_11_method_28_code 107 = .ok (.lcmp, 1) := by decide +kernel
theorem d_M_findWrong_108 : decode prog_11_method_28_code 108 = .ok (.ifCond .eq 7, 3) := by decide +kernel
theorem d_M_findWrong_111 : decode prog_11_method_28_code 111 = .ok (.iconst 1, 1) := by decide +kernel
theorem d_M_findWrong_112 : decode prog_11_method_28_code 112 = .ok (.goto 4, 3) := by decide +kernel
theorem d_M_findWrong_115 : decode prog_11_method_28_code 115 = .ok (.iconst 0, 1) := by decide +kernel
theorem d_M_findWrong_116 : decode prog_11_method_28_code 116 = .ok (.istore 7, 2) := by decide +kernel
theorem d_M_findWrong_118 : decode prog_11_method_28_code 118 = .ok (.iload_n 1, 1) := by decide +kernel
theorem d_M_findWrong_119 : decode prog_11_method_28_code 119 = .ok (.ifCond .lt 48, 3) := by decide +kernel
theorem d_M_findWrong_122 : decode prog_11_method_28_code 122 = .ok (.aload_n 0, 1) := by decide +kernel
theorem d_M_findWrong_123 : decode prog_11_method_28_code 123 = .ok (.getfield 62, 3) := by decide +kernel
theorem d_M_findWrong_126 : decode prog_11_method_28_code 126 = .ok (.iload_n 3, 1) := by decide +kernel
theorem d_M_findWrong_127 : decode prog_11_method_28_code 127 = .ok (.iaload, 1) := by decide +kernel
theorem d_M_findWrong_128 : decode prog_11_method_28_code 128 = .ok (.aload_n 0, 1) := by decide +kernel
theorem d_M_findWrong_129 : decode prog_11_method_28_code 129 = .ok (.getfield 62, 3) := by decide +kernel
theorem d_M_findWrong_132 : decode prog_11_method_28_code 132 = .ok (.iload_n 1, 1) := by decide +kernel
theorem d_M_findWrong_133 : decode prog_11_method_28_code 133 = .ok (.iaload, 1) := by decide +kernel
theorem d_M_findWrong_134 : decode prog_11_method_28_code 134 = .ok (.if_icmp .lt 33, 3) := by decide +kernel
theorem d_M_findWrong_137 : decode prog_11_method_28_code 137 = .ok (.aload_n 0, 1) := by decide +kernel
theorem d_M_findWrong_138 : decode prog_11_method_28_code 138 = .ok (.getfield 62, 3) := by decide +kernel
theorem d_M_findWrong_141 : decode prog_11_method_28_code 141 = .ok (.iload_n 3, 1) := by decide +kernel
theorem d_M_findWrong_142 : decode prog_11_method_28_code 142 = .ok (.iaload, 1) := by decide +kernel
theorem d_M_findWrong_143 : decode prog_11_method_28_code 143 = .ok (.aload_n 0, 1) := by decide +kernel
theorem d_M_findWrong_144 : decode prog_11_method_28_code 144 = .ok (.getfield 62, 3) := by decide +kernel
theorem d_M_findWrong_147 : decode prog_11_method_28_code 147 = .ok (.iload_n 1, 1) := by decide +kernel
theorem d_M_findWrong_148 : decode prog_11_method_28_code 148 = .ok (.iaload, 1) := by decide +kernel
theorem d_M_findWrong_149 : decode prog_11_method_28_code 149 = .ok (.if_icmp .ne 22, 3) := by decide +kernel
theorem d_M_findWrong_152 : decode prog_11_method_28_code 152 = .ok (.aload_n 0, 1) := by decide +kernel
theorem d_M_findWrong_153 : decode prog_11_method_28_code 153 = .ok (.getfield 80, 3) := by decide +kernel
theorem d_M_findWrong_156 : decode prog_11_method_28_code 156 = .ok (.iload_n 3, 1) := by decide +kernel
theorem d_M_findWrong_157 : decode prog_11_method_28_code 157 = .ok (.iaload, 1) := by decide +kernel
theorem d_M_findWrong_158 : decode prog_11_method_28_code 158 = .ok (.aload_n 0, 1) := by decide +kernel
theorem d_M_findWrong_159 : decode prog_11_method_28_code 159 = .ok (.getfield 80, 3) := by decide +kernel
theorem d_M_findWrong_162 : decode prog_11_method_28_code 162 = .ok (.iload_n 1, 1) := by decide +kernel
theorem d_M_findWrong_163 : decode prog_11_method_28_code 163 = .ok (.iaload, 1) := by decide +kernel
theorem d_M_findWrong_164 : decode prog_11_method_28_code 164 = .ok (.if_icmp .ge 7, 3) := by decide +kernel
theorem d_M_findWrong_167 : decode prog_11_method_28_code 167 = .ok (.iconst 1, 1) := by decide +kernel
theorem d_M_findWrong_168 : decode prog_11_method_28_code 168 = .ok (.goto 4, 3) := by decide +kernel
theorem d_M_findWrong_171 : decode prog_11_method_28_code 171 = .ok (.iconst 0, 1) := by decide +kernel
theorem d_M_findWrong_172 : decode prog_11_method_28_code 172 = .ok (.istore 8, 2) := by decide +kernel
theorem d_M_findWrong_174 : decode prog_11_method_28_code 174 = .ok (.iload 7, 2) := by decide +kernel
theorem d_M_findWrong_176 : decode prog_11_method_28_code 176 = .ok (.ifCond .eq 24, 3) := by decide +kernel
theorem d_M_findWrong_179 : decode prog_11_method_28_code 179 = .ok (.iload 8, 2) := by decide +kernel
theorem d_M_findWrong_181 : decode prog_11_method_28_code 181 = .ok (.ifCond .ne 6, 3) := by decide +kernel
theorem d_M_findWrong_184 : decode prog_11_method_28_code 184 = .ok (.goto 16, 3) := by decide +kernel
theorem d_M_findWrong_187 : decode prog_11_method_28_code 187 = .ok (.iload_n 3, 1) := by decide +kernel
theorem d_M_findWrong_188 : decode prog_11_method_28_code 188 = .ok (.istore_n 1, 1) := by decide +kernel
theorem d_M_findWrong_189 : decode prog_11_method_28_code 189 = .ok (.iload 4, 2) := by decide +kernel
theorem d_M_findWrong_191 : decode prog_11_method_28_code 191 = .ok (.ifCond .eq 7, 3) := by decide +kernel
theorem d_M_findWrong_194 : decode prog_11_method_28_code 194 = .ok (.iconst 3, 1) := by decide +kernel
theorem d_M_findWrong_195 : decode prog_11_method_28_code 195 = .ok (.goto 4, 3) := by decide +kernel
theorem d_M_findWrong_198 : decode prog_11_method_28_code 198 = .ok (.iconst 4, 1) := by decide +kernel
theorem d_M_findWrong_199 : decode prog_11_method_28_code 199 = .ok (.istore_n 2, 1) := by decide +kernel
theorem d_M_findWrong_200 : decode prog_11_method_28_code 200 = .ok (.iinc 3 1, 3) := by decide +kernel
theorem d_M_findWrong_203 : decode prog_11_method_28_code 203 = .ok (.goto (-197), 3) := by decide +kernel
theorem d_M_findWrong_206 : decode prog_11_method_28_code 206 = .ok (.iload_n 1, 1) := by decide +kernel
theorem d_M_findWrong_207 : decode prog_11_method_28_code 207 = .ok (.ifCond .lt 20, 3) := by decide +kernel
theorem d_M_findWrong_210 : decode prog_11_method_28_code 210 = .ok (.aload_n 0, 1) := by decide +kernel
theorem d_M_findWrong_211 : decode prog_11_method_28_code 211 = .ok (.iload_n 2, 1) := by decide +kernel
theorem d_M_findWrong_212 : decode prog_11_method_28_code 212 = .ok (.aload_n 0, 1) := by decide +kernel
theorem d_M_findWrong_213 : decode prog_11_method_28_code 213 = .ok (.getfield 62, 3) := by decide +kernel
theorem d_M_findWrong_216 : decode prog_11_method_28_code 216 = .ok (.iload_n 1, 1) := by decide +kernel
theorem d_M_findWrong_217 : decode prog_11_method_28_code 217 = .ok (.iaload, 1) := by decide +kernel
theorem d_M_findWrong_218 : decode prog_11_method_28_code 218 = .ok (.aload_n 0, 1) := by decide +kernel
theorem d_M_findWrong_219 : decode prog_11_method_28_code 219 = .ok (.getfield 80, 3) := by decide +kernel
theorem d_M_findWrong_222 : decode prog_11_method_28_code 222 = .ok (.iload_n 1, 1) := by decide +kernel
theorem d_M_findWrong_223 : decode prog_11_method_28_code 223 = .ok (.iaload, 1) := by decide +kernel
theorem d_M_findWrong_224 : decode prog_11_method_28_code 224 = .ok (.invokevirtual 184, 3) := by decide +kernel
theorem d_M_findWrong_227 : decode prog_11_method_28_code 227 = .ok (.return_, 1) := by decide +kernel
theorem d_M_valueOf_0 : decode prog_11_method_27_code 0 = .ok (.aload_n 0, 1) := by decide +kernel
theorem d_M_valueOf_1 : decode prog_11_method_27_code 1 = .ok (.getfield 62, 3) := by decide +kernel
theorem d_M_valueOf_4 : decode prog_11_method_27_code 4 = .ok (.iload_n 1, 1) := by decide +kernel
theorem d_M_valueOf_5 : decode prog_11_method_27_code 5 = .ok (.iaload, 1) := by decide +kernel
theorem d_M_valueOf_6 : decode prog_11_method_27_code 6 = .ok (.istore_n 2, 1) := by decide +kernel
theorem d_M_valueOf_7 : decode prog_11_method_27_code 7 = .ok (.aload_n 0, 1) := by decide +kernel
theorem d_M_valueOf_8 : decode prog_11_method_27_code 8 = .ok (.getfield 77, 3) := by decide +kernel
theorem d_M_valueOf_11 : decode prog_11_method_27_code 11 = .ok (.iload_n 1, 1) := by decide +kernel
theorem d_M_valueOf_12 : decode prog_11_method_27_code 12 = .ok (.iaload, 1) := by decide +kernel
theorem d_M_valueOf_13 : decode prog_11_method_27_code 13 = .ok (.istore_n 3, 1) := by decide +kernel
theorem d_M_valueOf_14 : decode prog_11_method_27_code 14 = .ok (.aload_n 0, 1) := by decide +kernel
theorem d_M_valueOf_15 : decode prog_11_method_27_code 15 = .ok (.getfield 83, 3) := by decide +kernel
theorem d_M_valueOf_18 : decode prog_11_method_27_code 18 = .ok (.iload_n 1, 1) := by decide +kernel
theorem d_M_valueOf_19 : decode prog_11_method_27_code 19 = .ok (.laload, 1) := by decide +kernel
theorem d_M_valueOf_20 : decode prog_11_method_27_code 20 = .ok (.lstore 4, 2) := by decide +kernel
theorem d_M_valueOf_22 : decode prog_11_method_27_code 22 = .ok (.iload_n 3, 1) := by decide +kernel
theorem d_M_valueOf_23 : decode prog_11_method_27_code 23 = .ok (.ifCond .ge 7, 3) := by decide +kernel
theorem d_M_valueOf_26 : decode prog_11_method_27_code 26 = .ok (.iconst (-1), 1) := by decide +kernel
theorem d_M_valueOf_27 : decode prog_11_method_27_code 27 = .ok (.goto 8, 3) := by decide +kernel
theorem d_M_valueOf_30 : decode prog_11_method_27_code 30 = .ok (.aload_n 0, 1) := by decide +kernel
theorem d_M_valueOf_31 : decode prog_11_method_27_code 31 = .ok (.iload_n 3, 1) := by decide +kernel
theorem d_M_valueOf_32 : decode prog_11_method_27_code 32 = .ok (.invokevirtual 188, 3) := by decide +kernel
theorem d_M_valueOf_35 : decode prog_11_method_27_code 35 = .ok (.istore 6, 2) := by decide +kernel
theorem d_M_valueOf_37 : decode prog_11_method_27_code 37 = .ok (.iload 6, 2) := by decide +kernel
theorem d_M_valueOf_39 : decode prog_11_method_27_code 39 = .ok (.ifCond .lt 15, 3) := by decide +kernel
theorem d_M_valueOf_42 : decode prog_11_method_27_code 42 = .ok (.lload 4, 2) := by decide +kernel
theorem d_M_valueOf_44 : decode prog_11_method_27_code 44 = .ok (.aload_n 0, 1) := by decide +kernel
theorem d_M_valueOf_45 : decode prog_11_method_27_code 45 = .ok (.iload 6, 2) := by decide +kernel
theorem d_M_valueOf_47 : decode prog_11_method_27_code 47 = .ok (.invokevirtual 195, 3) := by decide +kernel
theorem d_M_valueOf_50 : decode prog_11_method_27_code 50 = .ok (.i2l, 1) := by decide +kernel
theorem d_M_valueOf_51 : decode prog_11_method_27_code 51 = .ok (.ladd, 1) := by decide +kernel
theorem d_M_valueOf_52 : decode prog_11_method_27_code 52 = .ok (.lstore 4, 2) := by decide +kernel
theorem d_M_valueOf_54 : decode prog_11_method_27_code 54 = .ok (.iload_n 3, 1) := by decide +kernel
theorem d_M_valueOf_55 : decode prog_11_method_27_code 55 = .ok (.iconst (-1), 1) := by decide +kernel
theorem d_M_valueOf_56 : decode prog_11_method_27_code 56 = .ok (.if_icmp .ge 24, 3) := by decide +kernel
theorem d_M_valueOf_59 : decode prog_11_method_27_code 59 = .ok (.lload 4, 2) := by decide +kernel
theorem d_M_valueOf_61 : decode prog_11_method_27_code 61 = .ok (.ldc 194, 2) := by decide +kernel
theorem d_M_valueOf_63 : decode prog_11_method_27_code 63 = .ok (.aload_n 0, 1) := by decide +kernel
theorem d_M_valueOf_64 : decode prog_11_method_27_code 64 = .ok (.getfield 29, 3) := by decide +kernel
theorem d_M_valueOf_67 : decode prog_11_method_27_code 67 = .ok (.iconst 4, 1) := by decide +kernel
theorem d_M_valueOf_68 : decode prog_11_method_27_code 68 = .ok (.iload_n 2, 1) := by decide +kernel
theorem d_M_valueOf_69 : decode prog_11_method_27_code 69 = .ok (.imul, 1) := by decide +kernel
theorem d_M_valueOf_70 : decode prog_11_method_27_code 70 = .ok (.iconst 2, 1) := by decide +kernel
theorem d_M_valueOf_71 : decode prog_11_method_27_code 71 = .ok (.isub, 1) := by decide +kernel
theorem d_M_valueOf_72 : decode prog_11_method_27_code 72 = .ok (.iload_n 3, 1) := by decide +kernel
theorem d_M_valueOf_73 : decode prog_11_method_27_code 73 = .ok (.isub, 1) := by decide +kernel
theorem d_M_valueOf_74 : decode prog_11_method_27_code 74 = .ok (.iaload, 1) := by decide +kernel
theorem d_M_valueOf_75 : decode prog_11_method_27_code 75 = .ok (.iadd, 1) := by decide +kernel
theorem d_M_valueOf_76 : decode prog_11_method_27_code 76 = .ok (.i2l, 1) := by decide +kernel
theorem d_M_valueOf_77 : decode prog_11_method_27_code 77 = .ok (.ladd, 1) := by decide +kernel
theorem d_M_valueOf_78 : decode prog_11_method_27_code 78 = .ok (.lstore 4, 2) := by decide +kernel
theorem d_M_valueOf_80 : decode prog_11_method_27_code 80 = .ok (.aload_n 0, 1) := by decide +kernel
theorem d_M_valueOf_81 : decode prog_11_method_27_code 81 = .ok (.getfield 74, 3) := by decide +kernel
theorem d_M_valueOf_84 : decode prog_11_method_27_code 84 = .ok (.iload_n 1, 1) := by decide +kernel
theorem d_M_valueOf_85 : decode prog_11_method_27_code 85 = .ok (.iaload, 1) := by decide +kernel
theorem d_M_valueOf_86 : decode prog_11_method_27_code 86 = .ok (.ifCond .lt 34, 3) := by decide +kernel
theorem d_M_valueOf_89 : decode prog_11_method_27_code 89 = .ok (.lload 4, 2) := by decide +kernel
theorem d_M_valueOf_91 : decode prog_11_method_27_code 91 = .ok (.ldc 194, 2) := by decide +kernel
theorem d_M_valueOf_93 : decode prog_11_method_27_code 93 = .ok (.aload_n 0, 1) := by decide +kernel
theorem d_M_valueOf_94 : decode prog_11_method_27_code 94 = .ok (.getfield 29, 3) := by decide +kernel
theorem d_M_valueOf_97 : decode prog_11_method_27_code 97 = .ok (.iconst 4, 1) := by decide +kernel
theorem d_M_valueOf_98 : decode prog_11_method_27_code 98 = .ok (.iload_n 2, 1) := by decide +kernel
theorem d_M_valueOf_99 : decode prog_11_method_27_code 99 = .ok (.imul, 1) := by decide +kernel
theorem d_M_valueOf_100 : decode prog_11_method_27_code 100 = .ok (.aload_n 0, 1) := by decide +kernel
theorem d_M_valueOf_101 : decode prog_11_method_27_code 101 = .ok (.getfield 65, 3) := by decide +kernel
theorem d_M_valueOf_104 : decode prog_11_method_27_code 104 = .ok (.iload_n 1, 1) := by decide +kernel
theorem d_M_valueOf_105 : decode prog_11_method_27_code 105 = .ok (.iaload, 1) := by decide +kernel
theorem d_M_valueOf_106 : decode prog_11_method_27_code 106 = .ok (.iadd, 1) := by decide +kernel
theorem d_M_valueOf_107 : decode prog_11_method_27_code 107 = .ok (.iaload, 1) := by decide +kernel
theorem d_M_valueOf_108 : decode prog_11_method_27_code 108 = .ok (.iadd, 1) := by decide +kernel
theorem d_M_valueOf_109 : decode prog_11_method_27_code 109 = .ok (.aload_n 0, 1) := by decide +kernel
theorem d_M_valueOf_110 : decode prog_11_method_27_code 110 = .ok (.getfield 74, 3) := by decide +kernel
theorem d_M_valueOf_113 : decode prog_11_method_27_code 113 = .ok (.iload_n 1, 1) := by decide +kernel
theorem d_M_valueOf_114 : decode prog_11_method_27_code 114 = .ok (.iaload, 1) := by decide +kernel
theorem d_M_valueOf_115 : decode prog_11_method_27_code 115 = .ok (.iadd, 1) := by decide +kernel
theorem d_M_valueOf_116 : decode prog_11_method_27_code 116 = .ok (.i2l, 1) := by decide +kernel
theorem d_M_valueOf_117 : decode prog_11_method_27_code 117 = .ok (.lsub, 1) := by decide +kernel
theorem d_M_valueOf_118 : decode prog_11_method_27_code 118 = .ok (.lstore 4, 2) := by decide +kernel
theorem d_M_valueOf_120 : decode prog_11_method_27_code 120 = .ok (.lload 4, 2) := by decide +kernel
theorem d_M_valueOf_122 : decode prog_11_method_27_code 122 = .ok (.lreturn, 1) := by decide +kernel
theorem d_M_labelAddress_0 : decode prog_11_method_26_code 0 = .ok (.ldc 194, 2) := by decide +kernel
theorem d_M_labelAddress_2 : decode prog_11_method_26_code 2 = .ok (.aload_n 0, 1) := by decide +kernel
theorem d_M_labelAddress_3 : decode prog_11_method_26_code 3 = .ok (.getfield 29, 3) := by decide +kernel
theorem d_M_labelAddress_6 : decode prog_11_method_26_code 6 = .ok (.iconst 4, 1) := by decide +kernel
theorem d_M_labelAddress_7 : decode prog_11_method_26_code 7 = .ok (.aload_n 0, 1) := by decide +kernel
theorem d_M_labelAddress_8 : decode prog_11_method_26_code 8 = .ok (.getfield 44, 3) := by decide +kernel
theorem d_M_labelAddress_11 : decode prog_11_method_26_code 11 = .ok (.iload_n 1, 1) := by decide +kernel
theorem d_M_labelAddress_12 : decode prog_11_method_26_code 12 = .ok (.iaload, 1) := by decide +kernel
theorem d_M_labelAddress_13 : decode prog_11_method_26_code 13 = .ok (.imul, 1) := by decide +kernel
theorem d_M_labelAddress_14 : decode prog_11_method_26_code 14 = .ok (.aload_n 0, 1) := by decide +kernel
theorem d_M_labelAddress_15 : decode prog_11_method_26_code 15 = .ok (.getfield 50, 3) := by decide +kernel
theorem d_M_labelAddress_18 : decode prog_11_method_26_code 18 = .ok (.iload_n 1, 1) := by decide +kernel
theorem d_M_labelAddress_19 : decode prog_11_method_26_code 19 = .ok (.iaload, 1) := by decide +kernel
theorem d_M_labelAddress_20 : decode prog_11_method_26_code 20 = .ok (.iadd, 1) := by decide +kernel
theorem d_M_labelAddress_21 : decode prog_11_method_26_code 21 = .ok (.iaload, 1) := by decide +kernel
theorem d_M_labelAddress_22 : decode prog_11_method_26_code 22 = .ok (.iadd, 1) := by decide +kernel
theorem d_M_labelAddress_23 : decode prog_11_method_26_code 23 = .ok (.aload_n 0, 1) := by decide +kernel
theorem d_M_labelAddress_24 : decode prog_11_method_26_code 24 = .ok (.getfield 53, 3) := by decide +kernel
theorem d_M_labelAddress_27 : decode prog_11_method_26_code 27 = .ok (.iload_n 1, 1) := by decide +kernel
theorem d_M_labelAddress_28 : decode prog_11_method_26_code 28 = .ok (.iaload, 1) := by decide +kernel
theorem d_M_labelAddress_29 : decode prog_11_method_26_code 29 = .ok (.iadd, 1) := by decide +kernel
theorem d_M_labelAddress_30 : decode prog_11_method_26_code 30 = .ok (.ireturn, 1) := by decide +kernel
theorem d_M_keepNames_0 : decode prog_11_method_30_code 0 = .ok (.aload_n 0, 1) := by decide +kernel
theorem d_M_keepNames_1 : decode prog_11_method_30_code 1 = .ok (.iconst 0, 1) := by decide +kernel
theorem d_M_keepNames_2 : decode prog_11_method_30_code 2 = .ok (.putfield 231, 3) := by decide +kernel
theorem d_M_keepNames_5 : decode prog_11_method_30_code 5 = .ok (.iconst 0, 1) := by decide +kernel
theorem d_M_keepNames_6 : decode prog_11_method_30_code 6 = .ok (.istore_n 1, 1) := by decide +kernel
theorem d_M_keepNames_7 : decode prog_11_method_30_code 7 = .ok (.iload_n 1, 1) := by decide +kernel
theorem d_M_keepNames_8 : decode prog_11_method_30_code 8 = .ok (.aload_n 0, 1) := by decide +kernel
theorem d_M_keepNames_9 : decode prog_11_method_30_code 9 = .ok (.getfield 129, 3) := by decide +kernel
theorem d_M_keepNames_12 : decode prog_11_method_30_code 12 = .ok (.if_icmp .ge 123, 3) := by decide +kernel
theorem d_M_keepNames_15 : decode prog_11_method_30_code 15 = .ok (.aload_n 0, 1) := by decide +kernel
theorem d_M_keepNames_16 : decode prog_11_method_30_code 16 = .ok (.getfield 16, 3) := by decide +kernel
theorem d_M_keepNames_19 : decode prog_11_method_30_code 19 = .ok (.aload_n 0, 1) := by decide +kernel
theorem d_M_keepNames_20 : decode prog_11_method_30_code 20 = .ok (.getfield 44, 3) := by decide +kernel
theorem d_M_keepNames_23 : decode prog_11_method_30_code 23 = .ok (.iload_n 1, 1) := by decide +kernel
theorem d_M_keepNames_24 : decode prog_11_method_30_code 24 = .ok (.iaload, 1) := by decide +kernel
theorem d_M_keepNames_25 : decode prog_11_method_30_code 25 = .ok (.baload, 1) := by decide +kernel
theorem d_M_keepNames_26 : decode prog_11_method_30_code 26 = .ok (.ifCond .eq 103, 3) := by decide +kernel
theorem d_M_keepNames_29 : decode prog_11_method_30_code 29 = .ok (.aload_n 0, 1) := by decide +kernel
theorem d_M_keepNames_30 : decode prog_11_method_30_code 30 = .ok (.aload_n 0, 1) := by decide +kernel
theorem d_M_keepNames_31 : decode prog_11_method_30_code 31 = .ok (.getfield 37, 3) := by decide +kernel
theorem d_M_keepNames_34 : decode prog_11_method_30_code 34 = .ok (.iload_n 1, 1) := by decide +kernel
theorem d_M_keepNames_35 : decode prog_11_method_30_code 35 = .ok (.laload, 1) := by decide +kernel
theorem d_M_keepNames_36 : decode prog_11_method_30_code 36 = .ok (.aload_n 0, 1) := by decide +kernel
theorem d_M_keepNames_37 : decode prog_11_method_30_code 37 = .ok (.getfield 41, 3) := by decide +kernel
theorem d_M_keepNames_40 : decode prog_11_method_30_code 40 = .ok (.iload_n 1, 1) := by decide +kernel
theorem d_M_keepNames_41 : decode prog_11_method_30_code 41 = .ok (.iaload, 1) := by decide +kernel
theorem d_M_keepNames_42 : decode prog_11_method_30_code 42 = .ok (.invokevirtual 171, 3) := by decide +kernel
theorem d_M_keepNames_45 : decode prog_11_method_30_code 45 = .ok (.iload_n 1, 1) := by decide +kernel
theorem d_M_keepNames_46 : decode prog_11_method_30_code 46 = .ok (.if_icmp .ne 83, 3) := by decide +kernel
theorem d_M_keepNames_49 : decode prog_11_method_30_code 49 = .ok (.aload_n 0, 1) := by decide +kernel
theorem d_M_keepNames_50 : decode prog_11_method_30_code 50 = .ok (.getfield 19, 3) := by decide +kernel
theorem d_M_keepNames_53 : decode prog_11_method_30_code 53 = .ok (.iconst 4, 1) := by decide +kernel
theorem d_M_keepNames_54 : decode prog_11_method_30_code 54 = .ok (.aload_n 0, 1) := by decide +kernel
theorem d_M_keepNames_55 : decode prog_11_method_30_code 55 = .ok (.getfield 44, 3) := by decide +kernel
theorem d_M_keepNames_58 : decode prog_11_method_30_code 58 = .ok (.iload_n 1, 1) := by decide +kernel
theorem d_M_keepNames_59 : decode prog_11_method_30_code 59 = .ok (.iaload, 1) := by decide +kernel
theorem d_M_keepNames_60 : decode prog_11_method_30_code 60 = .ok (.imul, 1) := by decide +kernel
theorem d_M_keepNames_61 : decode prog_11_method_30_code 61 = .ok (.aload_n 0, 1) := by decide +kernel
theorem d_M_keepNames_62 : decode prog_11_method_30_code 62 = .ok (.getfield 50, 3) := by decide +kernel
theorem d_M_keepNames_65 : decode prog_11_method_30_code 65 = .ok (.iload_n 1, 1) := by decide +kernel
theorem d_M_keepNames_66 : decode prog_11_method_30_code 66 = .ok (.iaload, 1) := by decide +kernel
theorem d_M_keepNames_67 : decode prog_11_method_30_code 67 = .ok (.iadd, 1) := by decide +kernel
theorem d_M_keepNames_68 : decode prog_11_method_30_code 68 = .ok (.baload, 1) := by decide +kernel
theorem d_M_keepNames_69 : decode prog_11_method_30_code 69 = .ok (.ifCond .ne 6, 3) := by decide +kernel
theorem d_M_keepNames_72 : decode prog_11_method_30_code 72 = .ok (.goto 57, 3) := by decide +kernel
theorem d_M_keepNames_75 : decode prog_11_method_30_code 75 = .ok (.aload_n 0, 1) := by decide +kernel
theorem d_M_keepNames_76 : decode prog_11_method_30_code 76 = .ok (.getfield 108, 3) := by decide +kernel
theorem d_M_keepNames_79 : decode prog_11_method_30_code 79 = .ok (.aload_n 0, 1) := by decide +kernel
theorem d_M_keepNames_80 : decode prog_11_method_30_code 80 = .ok (.getfield 231, 3) := by decide +kernel
theorem d_M_keepNames_83 : decode prog_11_method_30_code 83 = .ok (.aload_n 0, 1) := by decide +kernel
theorem d_M_keepNames_84 : decode prog_11_method_30_code 84 = .ok (.getfield 37, 3) := by decide +kernel
theorem d_M_keepNames_87 : decode prog_11_method_30_code 87 = .ok (.iload_n 1, 1) := by decide +kernel
theorem d_M_keepNames_88 : decode prog_11_method_30_code 88 = .ok (.laload, 1) := by decide +kernel
theorem d_M_keepNames_89 : decode prog_11_method_30_code 89 = .ok (.lastore, 1) := by decide +kernel
theorem d_M_keepNames_90 : decode prog_11_method_30_code 90 = .ok (.aload_n 0, 1) := by decide +kernel
theorem d_M_keepNames_91 : decode prog_11_method_30_code 91 = .ok (.getfield 111, 3) := by decide +kernel
theorem d_M_keepNames_94 : decode prog_11_method_30_code 94 = .ok (.aload_n 0, 1) := by decide +kernel
theorem d_M_keepNames_95 : decode prog_11_method_30_code 95 = .ok (.getfield 231, 3) := by decide +kernel
theorem d_M_keepNames_98 : decode prog_11_method_30_code 98 = .ok (.aload_n 0, 1) := by decide +kernel
theorem d_M_keepNames_99 : decode prog_11_method_30_code 99 = .ok (.getfield 41, 3) := by decide +kernel
theorem d_M_keepNames_102 : decode prog_11_method_30_code 102 = .ok (.iload_n 1, 1) := by decide +kernel
theorem d_M_keepNames_103 : decode prog_11_method_30_code 103 = .ok (.iaload, 1) := by decide +kernel
theorem d_M_keepNames_104 : decode prog_11_method_30_code 104 = .ok (.iastore, 1) := by decide +kernel
theorem d_M_keepNames_105 : decode prog_11_method_30_code 105 = .ok (.aload_n 0, 1) := by decide +kernel
theorem d_M_keepNames_106 : decode prog_11_method_30_code 106 = .ok (.getfield 114, 3) := by decide +kernel
theorem d_M_keepNames_109 : decode prog_11_method_30_code 109 = .ok (.aload_n 0, 1) := by decide +kernel
theorem d_M_keepNames_110 : decode prog_11_method_30_code 110 = .ok (.getfield 231, 3) := by decide +kernel
theorem d_M_keepNames_113 : decode prog_11_method_30_code 113 = .ok (.aload_n 0, 1) := by decide +kernel
theorem d_M_keepNames_114 : decode prog_11_method_30_code 114 = .ok (.iload_n 1, 1) := by decide +kernel
theorem d_M_keepNames_115 : decode prog_11_method_30_code 115 = .ok (.invokevirtual 195, 3) := by decide +kernel
theorem d_M_keepNames_118 : decode prog_11_method_30_code 118 = .ok (.iastore, 1) := by decide +kernel
theorem d_M_keepNames_119 : decode prog_11_method_30_code 119 = .ok (.aload_n 0, 1) := by decide +kernel
theorem d_M_keepNames_120 : decode prog_11_method_30_code 120 = .ok (.dup, 1) := by decide +kernel
theorem d_M_keepNames_121 : decode prog_11_method_30_code 121 = .ok (.getfield 231, 3) := by decide +kernel
theorem d_M_keepNames_124 : decode prog_11_method_30_code 124 = .ok (.iconst 1, 1) := by decide +kernel
theorem d_M_keepNames_125 : decode prog_11_method_30_code 125 = .ok (.iadd, 1) := by decide +kernel
theorem d_M_keepNames_126 : decode prog_11_method_30_code 126 = .ok (.putfield 231, 3) := by decide +kernel
theorem d_M_keepNames_129 : decode prog_11_method_30_code 129 = .ok (.iinc 1 1, 3) := by decide +kernel
theorem d_M_keepNames_132 : decode prog_11_method_30_code 132 = .ok (.goto (-125), 3) := by decide +kernel
theorem d_M_keepNames_135 : decode prog_11_method_30_code 135 = .ok (.aload_n 0, 1) := by decide +kernel
theorem d_M_keepNames_136 : decode prog_11_method_30_code 136 = .ok (.iconst 0, 1) := by decide +kernel
theorem d_M_keepNames_137 : decode prog_11_method_30_code 137 = .ok (.putfield 234, 3) := by decide +kernel
theorem d_M_keepNames_140 : decode prog_11_method_30_code 140 = .ok (.iconst 0, 1) := by decide +kernel
theorem d_M_keepNames_141 : decode prog_11_method_30_code 141 = .ok (.istore_n 1, 1) := by decide +kernel
theorem d_M_keepNames_142 : decode prog_11_method_30_code 142 = .ok (.iload_n 1, 1) := by decide +kernel
theorem d_M_keepNames_143 : decode prog_11_method_30_code 143 = .ok (.aload_n 0, 1) := by decide +kernel
theorem d_M_keepNames_144 : decode prog_11_method_30_code 144 = .ok (.getfield 135, 3) := by decide +kernel
theorem d_M_keepNames_147 : decode prog_11_method_30_code 147 = .ok (.if_icmp .ge 92, 3) := by decide +kernel
theorem d_M_keepNames_150 : decode prog_11_method_30_code 150 = .ok (.aload_n 0, 1) := by decide +kernel
theorem d_M_keepNames_151 : decode prog_11_method_30_code 151 = .ok (.getfield 19, 3) := by decide +kernel
theorem d_M_keepNames_154 : decode prog_11_method_30_code 154 = .ok (.iconst 4, 1) := by decide +kernel
theorem d_M_keepNames_155 : decode prog_11_method_30_code 155 = .ok (.aload_n 0, 1) := by decide +kernel
theorem d_M_keepNames_156 : decode prog_11_method_30_code 156 = .ok (.getfield 86, 3) := by decide +kernel
theorem d_M_keepNames_159 : decode prog_11_method_30_code 159 = .ok (.iload_n 1, 1) := by decide +kernel
theorem d_M_keepNames_160 : decode prog_11_method_30_code 160 = .ok (.iaload, 1) := by decide +kernel
theorem d_M_keepNames_161 : decode prog_11_method_30_code 161 = .ok (.imul, 1) := by decide +kernel
theorem d_M_keepNames_162 : decode prog_11_method_30_code 162 = .ok (.baload, 1) := by decide +kernel
theorem d_M_keepNames_163 : decode prog_11_method_30_code 163 = .ok (.ifCond .ne 6, 3) := by decide +kernel
theorem d_M_keepNames_166 : decode prog_11_method_30_code 166 = .ok (.goto 67, 3) := by decide +kernel
theorem d_M_keepNames_169 : decode prog_11_method_30_code 169 = .ok (.aload_n 0, 1) := by decide +kernel
theorem d_M_keepNames_170 : decode prog_11_method_30_code 170 = .ok (.getfield 117, 3) := by decide +kernel
theorem d_M_keepNames_173 : decode prog_11_method_30_code 173 = .ok (.aload_n 0, 1) := by decide +kernel
theorem d_M_keepNames_174 : decode prog_11_method_30_code 174 = .ok (.getfield 234, 3) := by decide +kernel
theorem d_M_keepNames_177 : decode prog_11_method_30_code 177 = .ok (.aload_n 0, 1) := by decide +kernel
theorem d_M_keepNames_178 : decode prog_11_method_30_code 178 = .ok (.getfield 29, 3) := by decide +kernel
theorem d_M_keepNames_181 : decode prog_11_method_30_code 181 = .ok (.iconst 4, 1) := by decide +kernel
theorem d_M_keepNames_182 : decode prog_11_method_30_code 182 = .ok (.aload_n 0, 1) := by decide +kernel
theorem d_M_keepNames_183 : decode prog_11_method_30_code 183 = .ok (.getfield 86, 3) := by decide +kernel
theorem d_M_keepNames_186 : decode prog_11_method_30_code 186 = .ok (.iload_n 1, 1) := by decide +kernel
theorem d_M_keepNames_187 : decode prog_11_method_30_code 187 = .ok (.iaload, 1) := by decide +kernel
theorem d_M_keepNames_188 : decode prog_11_method_30_code 188 = .ok (.imul, 1) := by decide +kernel
theorem d_M_keepNames_189 : decode prog_11_method_30_code 189 = .ok (.iaload, 1) := by decide +kernel
theorem d_M_keepNames_190 : decode prog_11_method_30_code 190 = .ok (.aload_n 0, 1) := by decide +kernel
theorem d_M_keepNames_191 : decode prog_11_method_30_code 191 = .ok (.getfield 89, 3) := by decide +kernel
theorem d_M_keepNames_194 : decode prog_11_method_30_code 194 = .ok (.iload_n 1, 1) := by decide +kernel
theorem d_M_keepNames_195 : decode prog_11_method_30_code 195 = .ok (.iaload, 1) := by decide +kernel
theorem d_M_keepNames_196 : decode prog_11_method_30_code 196 = .ok (.iadd, 1) := by decide +kernel
theorem d_M_keepNames_197 : decode prog_11_method_30_code 197 = .ok (.iastore, 1) := by decide +kernel
theorem d_M_keepNames_198 : decode prog_11_method_30_code 198 = .ok (.aload_n 0, 1) := by decide +kernel
theorem d_M_keepNames_199 : decode prog_11_method_30_code 199 = .ok (.getfield 120, 3) := by decide +kernel
theorem d_M_keepNames_202 : decode prog_11_method_30_code 202 = .ok (.aload_n 0, 1) := by decide +kernel
theorem d_M_keepNames_203 : decode prog_11_method_30_code 203 = .ok (.getfield 234, 3) := by decide +kernel
theorem d_M_keepNames_206 : decode prog_11_method_30_code 206 = .ok (.ldc 144, 2) := by decide +kernel
theorem d_M_keepNames_208 : decode prog_11_method_30_code 208 = .ok (.aload_n 0, 1) := by decide +kernel
theorem d_M_keepNames_209 : decode prog_11_method_30_code 209 = .ok (.getfield 86, 3) := by decide +kernel
theorem d_M_keepNames_212 : decode prog_11_method_30_code 212 = .ok (.iload_n 1, 1) := by decide +kernel
theorem d_M_keepNames_213 : decode prog_11_method_30_code 213 = .ok (.iaload, 1) := by decide +kernel
theorem d_M_keepNames_214 : decode prog_11_method_30_code 214 = .ok (.imul, 1) := by decide +kernel
theorem d_M_keepNames_215 : decode prog_11_method_30_code 215 = .ok (.aload_n 0, 1) := by decide +kernel
theorem d_M_keepNames_216 : decode prog_11_method_30_code 216 = .ok (.getfield 92, 3) := by decide +kernel
theorem d_M_keepNames_219 : decode prog_11_method_30_code 219 = .ok (.iload_n 1, 1) := by decide +kernel
theorem d_M_keepNames_220 : decode prog_11_method_30_code 220 = .ok (.iaload, 1) := by decide +kernel
theorem d_M_keepNames_221 : decode prog_11_method_30_code 221 = .ok (.iadd, 1) := by decide +kernel
theorem d_M_keepNames_222 : decode prog_11_method_30_code 222 = .ok (.iastore, 1) := by decide +kernel
theorem d_M_keepNames_223 : decode prog_11_method_30_code 223 = .ok (.aload_n 0, 1) := by decide +kernel
theorem d_M_keepNames_224 : decode prog_11_method_30_code 224 = .ok (.dup, 1) := by decide +kernel
theorem d_M_keepNames_225 : decode prog_11_method_30_code 225 = .ok (.getfield 234, 3) := by decide +kernel
theorem d_M_keepNames_228 : decode prog_11_method_30_code 228 = .ok (.iconst 1, 1) := by decide +kernel
theorem d_M_keepNames_229 : decode prog_11_method_30_code 229 = .ok (.iadd, 1) := by decide +kernel
theorem d_M_keepNames_230 : decode prog_11_method_30_code 230 = .ok (.putfield 234, 3) := by decide +kernel
theorem d_M_keepNames_233 : decode prog_11_method_30_code 233 = .ok (.iinc 1 1, 3) := by decide +kernel
theorem d_M_keepNames_236 : decode prog_11_method_30_code 236 = .ok (.goto (-94), 3) := by decide +kernel
theorem d_M_keepNames_239 : decode prog_11_method_30_code 239 = .ok (.return_, 1) := by decide +kernel
theorem d_M_fault_0 : decode prog_11_method_31_code 0 = .ok (.aload_n 0, 1) := by decide +kernel
theorem d_M_fault_1 : decode prog_11_method_31_code 1 = .ok (.iconst 0, 1) := by decide +kernel
theorem d_M_fault_2 : decode prog_11_method_31_code 2 = .ok (.iload_n 1, 1) := by decide +kernel
theorem d_M_fault_3 : decode prog_11_method_31_code 3 = .ok (.ifCond .ne 10, 3) := by decide +kernel
theorem d_M_fault_6 : decode prog_11_method_31_code 6 = .ok (.aload_n 0, 1) := by decide +kernel
theorem d_M_fault_7 : decode prog_11_method_31_code 7 = .ok (.getfield 178, 3) := by decide +kernel
theorem d_M_fault_10 : decode prog_11_method_31_code 10 = .ok (.goto 28, 3) := by decide +kernel
theorem d_M_fault_13 : decode prog_11_method_31_code 13 = .ok (.iload_n 1, 1) := by decide +kernel
theorem d_M_fault_14 : decode prog_11_method_31_code 14 = .ok (.iconst 1, 1) := by decide +kernel
theorem d_M_fault_15 : decode prog_11_method_31_code 15 = .ok (.if_icmp .ne 10, 3) := by decide +kernel
theorem d_M_fault_18 : decode prog_11_method_31_code 18 = .ok (.aload_n 0, 1) := by decide +kernel
theorem d_M_fault_19 : decode prog_11_method_31_code 19 = .ok (.getfield 181, 3) := by decide +kernel
theorem d_M_fault_22 : decode prog_11_method_31_code 22 = .ok (.goto 16, 3) := by decide +kernel
theorem d_M_fault_25 : decode prog_11_method_31_code 25 = .ok (.iload_n 1, 1) := by decide +kernel
theorem d_M_fault_26 : decode prog_11_method_31_code 26 = .ok (.iconst 2, 1) := by decide +kernel
theorem d_M_fault_27 : decode prog_11_method_31_code 27 = .ok (.if_icmp .ne 10, 3) := by decide +kernel
theorem d_M_fault_30 : decode prog_11_method_31_code 30 = .ok (.aload_n 0, 1) := by decide +kernel
theorem d_M_fault_31 : decode prog_11_method_31_code 31 = .ok (.getfield 95, 3) := by decide +kernel
theorem d_M_fault_34 : decode prog_11_method_31_code 34 = .ok (.goto 4, 3) := by decide +kernel
theorem d_M_fault_37 : decode prog_11_method_31_code 37 = .ok (.iconst (-1), 1) := by decide +kernel
theorem d_M_fault_38 : decode prog_11_method_31_code 38 = .ok (.invokevirtual 210, 3) := by decide +kernel
theorem d_M_fault_41 : decode prog_11_method_31_code 41 = .ok (.ireturn, 1) := by decide +kernel
theorem d_M_needed_0 : decode prog_11_method_32_code 0 = .ok (.aload_n 0, 1) := by decide +kernel
theorem d_M_needed_1 : decode prog_11_method_32_code 1 = .ok (.iconst 0, 1) := by decide +kernel
theorem d_M_needed_2 : decode prog_11_method_32_code 2 = .ok (.putfield 123, 3) := by decide +kernel
theorem d_M_needed_5 : decode prog_11_method_32_code 5 = .ok (.iload_n 1, 1) := by decide +kernel
theorem d_M_needed_6 : decode prog_11_method_32_code 6 = .ok (.ifCond .lt 20, 3) := by decide +kernel
theorem d_M_needed_9 : decode prog_11_method_32_code 9 = .ok (.iload_n 1, 1) := by decide +kernel
theorem d_M_needed_10 : decode prog_11_method_32_code 10 = .ok (.aload_n 0, 1) := by decide +kernel
theorem d_M_needed_11 : decode prog_11_method_32_code 11 = .ok (.getfield 126, 3) := by decide +kernel
theorem d_M_needed_14 : decode prog_11_method_32_code 14 = .ok (.if_icmp .ge 12, 3) := by decide +kernel
theorem d_M_needed_17 : decode prog_11_method_32_code 17 = .ok (.iload_n 2, 1) := by decide +kernel
theorem d_M_needed_18 : decode prog_11_method_32_code 18 = .ok (.ifCond .lt 8, 3) := by decide +kernel
theorem d_M_needed_21 : decode prog_11_method_32_code 21 = .ok (.iload_n 2, 1) := by decide +kernel
theorem d_M_needed_22 : decode prog_11_method_32_code 22 = .ok (.iconst 3, 1) := by decide +kernel
theorem d_M_needed_23 : decode prog_11_method_32_code 23 = .ok (.if_icmp .le 5, 3) := by decide +kernel
theorem d_M_needed_26 : decode prog_11_method_32_code 26 = .ok (.iconst (-1), 1) := by decide +kernel
theorem d_M_needed_27 : decode prog_11_method_32_code 27 = .ok (.ireturn, 1) := by decide +kernel
theorem d_M_needed_28 : decode prog_11_method_32_code 28 = .ok (.iload_n 1, 1) := by decide +kernel
theorem d_M_needed_29 : decode prog_11_method_32_code 29 = .ok (.aload_n 0, 1) := by decide +kernel
theorem d_M_needed_30 : decode prog_11_method_32_code 30 = .ok (.getfield 141, 3) := by decide +kernel
theorem d_M_needed_33 : decode prog_11_method_32_code 33 = .ok (.if_icmp .ge 20, 3) := by decide +kernel
theorem d_M_needed_36 : decode prog_11_method_32_code 36 = .ok (.aload_n 0, 1) := by decide +kernel
theorem d_M_needed_37 : decode prog_11_method_32_code 37 = .ok (.getfield 99, 3) := by decide +kernel
theorem d_M_needed_40 : decode prog_11_method_32_code 40 = .ok (.iconst 4, 1) := by decide +kernel
theorem d_M_needed_41 : decode prog_11_method_32_code 41 = .ok (.iload_n 1, 1) := by decide +kernel
theorem d_M_needed_42 : decode prog_11_method_32_code 42 = .ok (.imul, 1) := by decide +kernel
theorem d_M_needed_43 : decode prog_11_method_32_code 43 = .ok (.iload_n 2, 1) := by decide +kernel
theorem d_M_needed_44 : decode prog_11_method_32_code 44 = .ok (.iadd, 1) := by decide +kernel
theorem d_M_needed_45 : decode prog_11_method_32_code 45 = .ok (.baload, 1) := by decide +kernel
theorem d_M_needed_46 : decode prog_11_method_32_code 46 = .ok (.ifCond .eq 7, 3) := by decide +kernel
theorem d_M_needed_49 : decode prog_11_method_32_code 49 = .ok (.iconst 1, 1) := by decide +kernel
theorem d_M_needed_50 : decode prog_11_method_32_code 50 = .ok (.goto 4, 3) := by decide +kernel
theorem d_M_needed_53 : decode prog_11_method_32_code 53 = .ok (.iconst 0, 1) := by decide +kernel
theorem d_M_needed_54 : decode prog_11_method_32_code 54 = .ok (.ireturn, 1) := by decide +kernel
theorem d_M_octet_0 : decode prog_11_method_33_code 0 = .ok (.aload_n 0, 1) := by decide +kernel
theorem d_M_octet_1 : decode prog_11_method_33_code 1 = .ok (.iconst 0, 1) := by decide +kernel
theorem d_M_octet_2 : decode prog_11_method_33_code 2 = .ok (.aload_n 0, 1) := by decide +kernel
theorem d_M_octet_3 : decode prog_11_method_33_code 3 = .ok (.getfield 224, 3) := by decide +kernel
theorem d_M_octet_6 : decode prog_11_method_33_code 6 = .ok (.ifCond .eq 28, 3) := by decide +kernel
theorem d_M_octet_9 : decode prog_11_method_33_code 9 = .ok (.iload_n 1, 1) := by decide +kernel
theorem d_M_octet_10 : decode prog_11_method_33_code 10 = .ok (.ifCond .lt 24, 3) := by decide +kernel
theorem d_M_octet_13 : decode prog_11_method_33_code 13 = .ok (.iload_n 1, 1) := by decide +kernel
theorem d_M_octet_14 : decode prog_11_method_33_code 14 = .ok (.aload_n 0, 1) := by decide +kernel
theorem d_M_octet_15 : decode prog_11_method_33_code 15 = .ok (.getfield 191, 3) := by decide +kernel
theorem d_M_octet_18 : decode prog_11_method_33_code 18 = .ok (.if_icmp .ge 16, 3) := by decide +kernel
theorem d_M_octet_21 : decode prog_11_method_33_code 21 = .ok (.aload_n 0, 1) := by decide +kernel
theorem d_M_octet_22 : decode prog_11_method_33_code 22 = .ok (.getfield 102, 3) := by decide +kernel
theorem d_M_octet_25 : decode prog_11_method_33_code 25 = .ok (.iload_n 1, 1) := by decide +kernel
theorem d_M_octet_26 : decode prog_11_method_33_code 26 = .ok (.baload, 1) := by decide +kernel
theorem d_M_octet_27 : decode prog_11_method_33_code 27 = .ok (.sipush 255, 3) := by decide +kernel
theorem d_M_octet_30 : decode prog_11_method_33_code 30 = .ok (.iand, 1) := by decide +kernel
theorem d_M_octet_31 : decode prog_11_method_33_code 31 = .ok (.goto 4, 3) := by decide +kernel
theorem d_M_octet_34 : decode prog_11_method_33_code 34 = .ok (.iconst (-1), 1) := by decide +kernel
theorem d_M_octet_35 : decode prog_11_method_33_code 35 = .ok (.invokevirtual 210, 3) := by decide +kernel
theorem d_M_octet_38 : decode prog_11_method_33_code 38 = .ok (.ireturn, 1) := by decide +kernel
theorem d_M_address_0 : decode prog_11_method_34_code 0 = .ok (.iconst 0, 1) := by decide +kernel
theorem d_M_address_1 : decode prog_11_method_34_code 1 = .ok (.istore 4, 2) := by decide +kernel
theorem d_M_address_3 : decode prog_11_method_34_code 3 = .ok (.iload 4, 2) := by decide +kernel
theorem d_M_address_5 : decode prog_11_method_34_code 5 = .ok (.aload_n 0, 1) := by decide +kernel
theorem d_M_address_6 : decode prog_11_method_34_code 6 = .ok (.getfield 231, 3) := by decide +kernel
theorem d_M_address_9 : decode prog_11_method_34_code 9 = .ok (.if_icmp .ge 67, 3) := by decide +kernel
theorem d_M_address_12 : decode prog_11_method_34_code 12 = .ok (.aload_n 0, 1) := by decide +kernel
theorem d_M_address_13 : decode prog_11_method_34_code 13 = .ok (.getfield 224, 3) := by decide +kernel
theorem d_M_address_16 : decode prog_11_method_34_code 16 = .ok (.ifCond .eq 60, 3) := by decide +kernel
theorem d_M_address_19 : decode prog_11_method_34_code 19 = .ok (.iload_n 3, 1) := by decide +kernel
theorem d_M_address_20 : decode prog_11_method_34_code 20 = .ok (.iconst 1, 1) := by decide +kernel
theorem d_M_address_21 : decode prog_11_method_34_code 21 = .ok (.if_icmp .lt 55, 3) := by decide +kernel
theorem d_M_address_24 : decode prog_11_method_34_code 24 = .ok (.iload_n 3, 1) := by decide +kernel
theorem d_M_address_25 : decode prog_11_method_34_code 25 = .ok (.bipush 8, 2) := by decide +kernel
theorem d_M_address_27 : decode prog_11_method_34_code 27 = .ok (.if_icmp .gt 49, 3) := by decide +kernel
theorem d_M_address_30 : decode prog_11_method_34_code 30 = .ok (.aload_n 0, 1) := by decide +kernel
theorem d_M_address_31 : decode prog_11_method_34_code 31 = .ok (.getfield 111, 3) := by decide +kernel
theorem d_M_address_34 : decode prog_11_method_34_code 34 = .ok (.iload 4, 2) := by decide +kernel
theorem d_M_address_36 : decode prog_11_method_34_code 36 = .ok (.iaload, 1) := by decide +kernel
theorem d_M_address_37 : decode prog_11_method_34_code 37 = .ok (.iload_n 3, 1) := by decide +kernel
theorem d_M_address_38 : decode prog_11_method_34_code 38 = .ok (.if_icmp .ne 32, 3) := by decide +kernel
theorem d_M_address_41 : decode prog_11_method_34_code 41 = .ok (.aload_n 0, 1) := by decide +kernel
theorem d_M_address_42 : decode prog_11_method_34_code 42 = .ok (.getfield 108, 3) := by decide +kernel
theorem d_M_address_45 : decode prog_11_method_34_code 45 = .ok (.iload 4, 2) := by decide +kernel
theorem d_M_address_47 : decode prog_11_method_34_code 47 = .ok (.laload, 1) := by decide +kernel
theorem d_M_address_48 : decode prog_11_method_34_code 48 = .ok (.lload_n 1, 1) := by decide +kernel
theorem d_M_address_49 : decode prog_11_method_34_code 49 = .ok (.iload_n 3, 1) := by decide +kernel
theorem d_M_address_50 : decode prog_11_method_34_code 50 = .ok (.invokestatic 161, 3) := by decide +kernel
theorem d_M_address_53 : decode prog_11_method_34_code 53 = .ok (.lcmp, 1) := by decide +kernel
theorem d_M_address_54 : decode prog_11_method_34_code 54 = .ok (.ifCond .ne 16, 3) := by decide +kernel
theorem d_M_address_57 : decode prog_11_method_34_code 57 = .ok (.aload_n 0, 1) := by decide +kernel
theorem d_M_address_58 : decode prog_11_method_34_code 58 = .ok (.iconst 0, 1) := by decide +kernel
theorem d_M_address_59 : decode prog_11_method_34_code 59 = .ok (.aload_n 0, 1) := by decide +kernel
theorem d_M_address_60 : decode prog_11_method_34_code 60 = .ok (.getfield 114, 3) := by decide +kernel
theorem d_M_address_63 : decode prog_11_method_34_code 63 = .ok (.iload 4, 2) := by decide +kernel
theorem d_M_address_65 : decode prog_11_method_34_code 65 = .ok (.iaload, 1) := by decide +kernel
theorem d_M_address_66 : decode prog_11_method_34_code 66 = .ok (.invokevirtual 210, 3) := by decide +kernel
theorem d_M_address_69 : decode prog_11_method_34_code 69 = .ok (.ireturn, 1) := by decide +kernel
theorem d_M_address_70 : decode prog_11_method_34_code 70 = .ok (.iinc 4 1, 3) := by decide +kernel
theorem d_M_address_73 : decode prog_11_method_34_code 73 = .ok (.goto (-70), 3) := by decide +kernel
theorem d_M_address_76 : decode prog_11_method_34_code 76 = .ok (.aload_n 0, 1) := by decide +kernel
theorem d_M_address_77 : decode prog_11_method_34_code 77 = .ok (.iconst 1, 1) := by decide +kernel
theorem d_M_address_78 : decode prog_11_method_34_code 78 = .ok (.iconst 0, 1) := by decide +kernel
theorem d_M_address_79 : decode prog_11_method_34_code 79 = .ok (.invokevirtual 210, 3) := by decide +kernel
theorem d_M_address_82 : decode prog_11_method_34_code 82 = .ok (.ireturn, 1) := by decide +kernel
theorem d_M_line_0 : decode prog_11_method_35_code 0 = .ok (.aload_n 0, 1) := by decide +kernel
theorem d_M_line_1 : decode prog_11_method_35_code 1 = .ok (.iconst 0, 1) := by decide +kernel
theorem d_M_line_2 : decode prog_11_method_35_code 2 = .ok (.putfield 123, 3) := by decide +kernel
theorem d_M_line_5 : decode prog_11_method_35_code 5 = .ok (.aload_n 0, 1) := by decide +kernel
theorem d_M_line_6 : decode prog_11_method_35_code 6 = .ok (.getfield 234, 3) := by decide +kernel
theorem d_M_line_9 : decode prog_11_method_35_code 9 = .ok (.iconst 1, 1) := by decide +kernel
theorem d_M_line_10 : decode prog_11_method_35_code 10 = .ok (.isub, 1) := by decide +kernel
theorem d_M_line_11 : decode prog_11_method_35_code 11 = .ok (.istore_n 2, 1) := by decide +kernel
theorem d_M_line_12 : decode prog_11_method_35_code 12 = .ok (.iload_n 2, 1) := by decide +kernel
theorem d_M_line_13 : decode prog_11_method_35_code 13 = .ok (.ifCond .lt 33, 3) := by decide +kernel
theorem d_M_line_16 : decode prog_11_method_35_code 16 = .ok (.aload_n 0, 1) := by decide +kernel
theorem d_M_line_17 : decode prog_11_method_35_code 17 = .ok (.getfield 224, 3) := by decide +kernel
theorem d_M_line_20 : decode prog_11_method_35_code 20 = .ok (.ifCond .eq 26, 3) := by decide +kernel
theorem d_M_line_23 : decode prog_11_method_35_code 23 = .ok (.aload_n 0, 1) := by decide +kernel
theorem d_M_line_24 : decode prog_11_method_35_code 24 = .ok (.getfield 117, 3) := by decide +kernel
theorem d_M_line_27 : decode prog_11_method_35_code 27 = .ok (.iload_n 2, 1) := by decide +kernel
theorem d_M_line_28 : decode prog_11_method_35_code 28 = .ok (.iaload, 1) := by decide +kernel
theorem d_M_line_29 : decode prog_11_method_35_code 29 = .ok (.iload_n 1, 1) := by decide +kernel
theorem d_M_line_30 : decode prog_11_method_35_code 30 = .ok (.if_icmp .ne 10, 3) := by decide +kernel
theorem d_M_line_33 : decode prog_11_method_35_code 33 = .ok (.aload_n 0, 1) := by decide +kernel
theorem d_M_line_34 : decode prog_11_method_35_code 34 = .ok (.getfield 120, 3) := by decide +kernel
theorem d_M_line_37 : decode prog_11_method_35_code 37 = .ok (.iload_n 2, 1) := by decide +kernel
theorem d_M_line_38 : decode prog_11_method_35_code 38 = .ok (.iaload, 1) := by decide +kernel
theorem d_M_line_39 : decode prog_11_method_35_code 39 = .ok (.ireturn, 1) := by decide +kernel
theorem d_M_line_40 : decode prog_11_method_35_code 40 = .ok (.iinc 2 (-1), 3) := by decide +kernel
theorem d_M_line_43 : decode prog_11_method_35_code 43 = .ok (.goto (-31), 3) := by decide +kernel
theorem d_M_line_46 : decode prog_11_method_35_code 46 = .ok (.iconst (-1), 1) := by decide +kernel
theorem d_M_line_47 : decode prog_11_method_35_code 47 = .ok (.ireturn, 1) := by decide +kernel
theorem d_M_part_0 : decode prog_11_method_36_code 0 = .ok (.aload_n 0, 1) := by decide +kernel
theorem d_M_part_1 : decode prog_11_method_36_code 1 = .ok (.iconst 0, 1) := by decide +kernel
theorem d_M_part_2 : decode prog_11_method_36_code 2 = .ok (.iload_n 1, 1) := by decide +kernel
theorem d_M_part_3 : decode prog_11_method_36_code 3 = .ok (.ifCond .lt 9, 3) := by decide +kernel
theorem d_M_part_6 : decode prog_11_method_36_code 6 = .ok (.iload_n 1, 1) := by decide +kernel
theorem d_M_part_7 : decode prog_11_method_36_code 7 = .ok (.bipush 6, 2) := by decide +kernel
theorem d_M_part_9 : decode prog_11_method_36_code 9 = .ok (.if_icmp .le 7, 3) := by decide +kernel
theorem d_M_part_12 : decode prog_11_method_36_code 12 = .ok (.iconst (-1), 1) := by decide +kernel
theorem d_M_part_13 : decode prog_11_method_36_code 13 = .ok (.goto 20, 3) := by decide +kernel
theorem d_M_part_16 : decode prog_11_method_36_code 16 = .ok (.aload_n 0, 1) := by decide +kernel
theorem d_M_part_17 : decode prog_11_method_36_code 17 = .ok (.getfield 224, 3) := by decide +kernel
theorem d_M_part_20 : decode prog_11_method_36_code 20 = .ok (.ifCond .eq 12, 3) := by decide +kernel
theorem d_M_part_23 : decode prog_11_method_36_code 23 = .ok (.aload_n 0, 1) := by decide +kernel
theorem d_M_part_24 : decode prog_11_method_36_code 24 = .ok (.getfield 105, 3) := by decide +kernel
theorem d_M_part_27 : decode prog_11_method_36_code 27 = .ok (.iload_n 1, 1) := by decide +kernel
theorem d_M_part_28 : decode prog_11_method_36_code 28 = .ok (.iaload, 1) := by decide +kernel
theorem d_M_part_29 : decode prog_11_method_36_code 29 = .ok (.goto 4, 3) := by decide +kernel
theorem d_M_part_32 : decode prog_11_method_36_code 32 = .ok (.iconst 0, 1) := by decide +kernel
theorem d_M_part_33 : decode prog_11_method_36_code 33 = .ok (.invokevirtual 210, 3) := by decide +kernel
theorem d_M_part_36 : decode prog_11_method_36_code 36 = .ok (.ireturn, 1) := by decide +kernel
end
section
section AXE
variable {G : ax_G} {x : ax_X} {Y : ax_Y} {fr lo : Nat} {h0 h : ax_H} {P : Option Value → ax_H → Prop} {pc : Nat} {ls : List (Option Value)} {st : List Value}
/-- the locals at a method's begin, by its arguments -/
def ax_ls (av : List Value) : List (Option Value) := av.flatMap fun v => if v.category = 2 then [some v, none] else [some v]
theorem ax_ls_in : ∀ (av : List Value) (b i : Nat) (v : Value), (ax_ls av)[i]? = some (some v) → (b + i, v) ∈ lv_args b av
  | [], b, i, v, h => by simp [ax_ls] at h
  | w :: vs, b, i, v, h => by
    unfold ax_ls at h
    rw [List.flatMap_cons] at h
    unfold lv_args
    by_cases hc : w.category = 2
    · rw [if_pos hc] at h ⊢
      match i, h with
      | 0, h =>
        simp at h
        subst h
        exact List.mem_cons_self
      | 1, h => simp at h
      | i + 2, h =>
        have h1 : (ax_ls vs)[i]? = some (some v) := by simpa [ax_ls] using h
        have h2 := ax_ls_in vs (b + 2) i v h1
        rw [show b + (i + 2) = b + 2 + i by omega]
        exact List.mem_cons_of_mem _ h2
    · rw [if_neg hc] at h ⊢
      match i, h with
      | 0, h =>
        simp at h
        subst h
        exact List.mem_cons_self
      | i + 1, h =>
        have h1 : (ax_ls vs)[i]? = some (some v) := by simpa [ax_ls] using h
        have h2 := ax_ls_in vs (b + 1) i v h1
        rw [show b + (i + 1) = b + 1 + i by omega]
        exact List.mem_cons_of_mem _ h2
theorem ax_ls_pad {av : List Value} {n i : Nat} {v : Value} (h : (ax_ls av ++ List.replicate n none)[i]? = some (some v)) : (i, v) ∈ lv_args 0 av := by
  by_cases hi : i < (ax_ls av).length
  · rw [List.getElem?_append_left hi] at h
    have h1 := ax_ls_in av 0 i v h
    rw [Nat.zero_add] at h1
    exact h1
  · rw [List.getElem?_append_right (by omega)] at h
    have h1 := List.mem_of_getElem? h
    rw [List.mem_replicate] at h1
    exact absurd h1.2 (by simp)
/-- into a method's body: the locals as they stand there -/
theorem aw_enter {av : List Value} (hy : plainName Y.1.cls = true) (hn : (lg_sl av).length ≤ Y.2.2.1) {n : Nat} {ls : List (Option Value)} (hl : ax_ls av ++ List.replicate n none = ls) (k : ∀ x : ax_X, AW G x Y fr lo h P h 0 ls []) : AM G Y fr lo av h P := by
  subst hl
  exact aw_met hy hn (fun i v hv => ax_ls_pad hv) k
theorem aw_ls {ls' : List (Option Value)} (e : ls = ls') (k : AW G x Y fr lo h0 P h pc ls' st) : AW G x Y fr lo h0 P h pc ls st := e ▸ k
theorem aw_heap {h1 : ax_H} (e : h = h1) (k : AW G x Y fr lo h0 P h1 pc ls st) : AW G x Y fr lo h0 P h pc ls st := e ▸ k
theorem ax_get_self (a : Nat) (E : ax_E) : (ax_set h a E).2.2 a = some E := va_up_self _ _ _
theorem ax_get_ne {a b : Nat} (E : ax_E) (hab : b ≠ a) : (ax_set h a E).2.2 b = h.2.2 b := va_up_ne _ _ hab
theorem ax_new_self (E : ax_E) (n : Nat) : (ax_new h E n).2.2 h.1 = some E := va_up_self _ _ _
theorem ax_new_ne {b : Nat} (E : ax_E) (n : Nat) (hb : b ≠ h.1) : (ax_new h E n).2.2 b = h.2.2 b := va_up_ne _ _ hb
end AXE
end
section
/-! The reference: its object, its arrays behind it (the k-th at the object's address + k). -/
def mTy (k : Nat) : FieldType := match k with
  | 1 => .boolean
  | 2 => .boolean
  | 3 => .boolean
  | 4 => .boolean
  | 5 => .int
  | 6 => .int
  | 7 => .int
  | 8 => .byte
  | 9 => .long
  | 10 => .int
  | 11 => .int
  | 12 => .int
  | 13 => .int
  | 14 => .int
  | 15 => .int
  | 16 => .int
  | 17 => .int
  | 18 => .int
  | 19 => .int
  | 20 => .int
  | 21 => .int
  | 22 => .int
  | 23 => .int
  | 24 => .long
  | 25 => .int
  | 26 => .int
  | 27 => .int
  | 28 => .boolean
  | 29 => .byte
  | 30 => .int
  | 31 => .long
  | 32 => .int
  | 33 => .int
  | 34 => .int
  | _ => .int
def mLen (k : Nat) : Nat := match k with
  | 1 => 32
  | 2 => 128
  | 3 => 32
  | 4 => 128
  | 5 => 128
  | 6 => 128
  | 7 => 128
  | 8 => 262144
  | 9 => 2048
  | 10 => 2048
  | 11 => 2048
  | 12 => 2048
  | 13 => 2048
  | 14 => 2048
  | 15 => 2048
  | 16 => 33
  | 17 => 4096
  | 18 => 4096
  | 19 => 4096
  | 20 => 4096
  | 21 => 4096
  | 22 => 4096
  | 23 => 4096
  | 24 => 4096
  | 25 => 8192
  | 26 => 8192
  | 27 => 8192
  | 28 => 128
  | 29 => 262144
  | 30 => 7
  | 31 => 2048
  | 32 => 2048
  | 33 => 2048
  | 34 => 8192
  | _ => 8192
abbrev mSt : Type := (Nat → Int32) × (Nat → Nat → Int32) × (Nat → Nat → Int64)
def mF (m : Nat) (n : Nat → Int32) : List Value := [.int (n 0), .int (n 1), .int (n 2), .int (n 3), .int (n 4), .int (n 5), .ref (m + 1), .ref (m + 2), .ref (m + 3), .ref (m + 4), .ref (m + 5), .ref (m + 6), .ref (m + 7), .ref (m + 8), .ref (m + 9), .ref (m + 10), .ref (m + 11), .ref (m + 12), .ref (m + 13), .ref (m + 14), .ref (m + 15), .ref (m + 16), .ref (m + 17), .ref (m + 18), .ref (m + 19), .ref (m + 20), .ref (m + 21), .ref (m + 22), .ref (m + 23), .ref (m + 24), .ref (m + 25), .ref (m + 26), .ref (m + 27), .int (n 33), .int (n 34), .int (n 35), .int (n 36), .ref (m + 28), .int (n 38), .int (n 39), .ref (m + 29), .ref (m + 30), .int (n 42), .int (n 43), .ref (m + 31), .ref (m + 32), .ref (m + 33), .ref (m + 34), .ref (m + 35)]
def mC (s : mSt) (k : Nat) : ax_A := match mTy k with
  | .long => .inr (.inl (s.2.2 k))
  | _ => .inl (s.2.1 k)
def mA (m : Nat) (s : mSt) (k : Nat) : ax_E := match k with
  | 0 => .inr (12, mF m s.1)
  | j + 1 => .inl (mTy (j + 1), mLen (j + 1), mC s (j + 1))
def mR (m : Nat) (s : mSt) (h : ax_H) : Prop := ∀ k, k < 36 → h.2.2 (m + k) = some (mA m s k)
def mFr (m : Nat) (h h1 : ax_H) : Prop := h1.1 = h.1 ∧ h1.2.1 = h.2.1 ∧ ∀ a, (a < m ∨ m + 36 ≤ a) → h1.2.2 a = h.2.2 a
theorem mFr.rf (m : Nat) (h : ax_H) : mFr m h h := ⟨rfl, rfl, fun _ _ => rfl⟩
theorem mFr.tr {m : Nat} {h h1 h2 : ax_H} (a : mFr m h h1) (b : mFr m h1 h2) : mFr m h h2 := ⟨b.1.trans a.1, b.2.1.trans a.2.1, fun q hq => (b.2.2 q hq).trans (a.2.2 q hq)⟩
theorem mR.kept {m : Nat} {s : mSt} {h h1 : ax_H} (hR : mR m s h) (he : ∀ a, m ≤ a → a < m + 36 → h1.2.2 a = h.2.2 a) : mR m s h1 := fun k hk => (he (m + k) (by omega) (by omega)).trans (hR k hk)
theorem mR.obj {m : Nat} {s : mSt} {h : ax_H} (hR : mR m s h) : h.2.2 m = some (.inr (12, mF m s.1)) := hR 0 (by decide)
theorem mR.int {m : Nat} {s : mSt} {h : ax_H} (hR : mR m s h) {k : Nat} {ty : FieldType} (hk : 0 < k ∧ k < 36) (ht : mTy k = ty) (hl : ty ≠ .long) : h.2.2 (m + k) = some (.inl (ty, mLen k, .inl (s.2.1 k))) := by
  obtain ⟨j, rfl⟩ : ∃ j, k = j + 1 := ⟨k - 1, by omega⟩
  have h1 := hR (j + 1) hk.2
  rw [h1]
  show some (Sum.inl (mTy (j + 1), mLen (j + 1), mC s (j + 1))) = _
  have hc : mC s (j + 1) = .inl (s.2.1 (j + 1)) := by
    unfold mC
    split
    · next e => exact absurd (ht.symm.trans e) hl
    · rfl
  rw [hc, ht]
theorem mR.long {m : Nat} {s : mSt} {h : ax_H} (hR : mR m s h) {k : Nat} (hk : 0 < k ∧ k < 36) (ht : mTy k = .long) : h.2.2 (m + k) = some (.inl (.long, mLen k, .inr (.inl (s.2.2 k)))) := by
  obtain ⟨j, rfl⟩ : ∃ j, k = j + 1 := ⟨k - 1, by omega⟩
  have h1 := hR (j + 1) hk.2
  rw [h1]
  show some (Sum.inl (mTy (j + 1), mLen (j + 1), mC s (j + 1))) = _
  have hc : mC s (j + 1) = .inr (.inl (s.2.2 (j + 1))) := by
    unfold mC
    rw [ht]
  rw [hc, ht]
theorem mR.setF {m : Nat} {s : mSt} {h : ax_H} (hR : mR m s h) (n' : Nat → Int32) : mR m (n', s.2) (ax_set h m (.inr (12, mF m n'))) := by
  intro k hk
  match k, hk with
  | 0, _ => exact ax_get_self m _
  | k + 1, hk => exact (ax_get_ne _ (by omega)).trans (hR (k + 1) hk)
theorem mFr.set {m : Nat} {h : ax_H} {k : Nat} (hk : k < 36) (E : ax_E) : mFr m h (ax_set h (m + k) E) := ⟨rfl, rfl, fun a ha => ax_get_ne _ (by omega)⟩
theorem mR.setI {m : Nat} {s : mSt} {h : ax_H} (hR : mR m s h) {k : Nat} {ty : FieldType} (hk : 0 < k ∧ k < 36) (ht : mTy k = ty) (hl : ty ≠ .long) (F : Nat → Int32) : mR m (s.1, va_up s.2.1 k F, s.2.2) (ax_set h (m + k) (.inl (ty, mLen k, .inl F))) := by
  intro j hj
  by_cases hjk : j = k
  · subst hjk
    refine (ax_get_self _ _).trans ?_
    obtain ⟨i, rfl⟩ : ∃ i, j = i + 1 := ⟨j - 1, by omega⟩
    have hc : mC (s.1, va_up s.2.1 (i + 1) F, s.2.2) (i + 1) = .inl F := by
      unfold mC
      split
      · next e => exact absurd (ht.symm.trans e) hl
      · show Sum.inl (va_up s.2.1 (i + 1) F (i + 1)) = _
        rw [va_up_self]
    show _ = some (Sum.inl (mTy (i + 1), mLen (i + 1), mC (s.1, va_up s.2.1 (i + 1) F, s.2.2) (i + 1)))
    rw [hc, ht]
  · refine (ax_get_ne _ (by omega)).trans ((hR j hj).trans ?_)
    match j, hjk with
    | 0, _ => rfl
    | i + 1, hjk =>
      have hc : mC (s.1, va_up s.2.1 k F, s.2.2) (i + 1) = mC s (i + 1) := by
        unfold mC
        split
        · rfl
        · show Sum.inl (va_up s.2.1 k F (i + 1)) = _
          rw [va_up_ne _ _ hjk]
      show some (Sum.inl (mTy (i + 1), mLen (i + 1), mC s (i + 1))) = some (Sum.inl (mTy (i + 1), mLen (i + 1), mC (s.1, va_up s.2.1 k F, s.2.2) (i + 1)))
      rw [hc]
theorem mR.setL {m : Nat} {s : mSt} {h : ax_H} (hR : mR m s h) {k : Nat} (hk : 0 < k ∧ k < 36) (ht : mTy k = .long) (F : Nat → Int64) : mR m (s.1, s.2.1, va_up s.2.2 k F) (ax_set h (m + k) (.inl (.long, mLen k, .inr (.inl F)))) := by
  intro j hj
  by_cases hjk : j = k
  · subst hjk
    refine (ax_get_self _ _).trans ?_
    obtain ⟨i, rfl⟩ : ∃ i, j = i + 1 := ⟨j - 1, by omega⟩
    have hc : mC (s.1, s.2.1, va_up s.2.2 (i + 1) F) (i + 1) = .inr (.inl F) := by
      unfold mC
      rw [ht]
      show Sum.inr (Sum.inl (va_up s.2.2 (i + 1) F (i + 1))) = _
      rw [va_up_self]
    show _ = some (Sum.inl (mTy (i + 1), mLen (i + 1), mC (s.1, s.2.1, va_up s.2.2 (i + 1) F) (i + 1)))
    rw [hc, ht]
  · refine (ax_get_ne _ (by omega)).trans ((hR j hj).trans ?_)
    match j, hjk with
    | 0, _ => rfl
    | i + 1, hjk =>
      have hc : mC (s.1, s.2.1, va_up s.2.2 k F) (i + 1) = mC s (i + 1) := by
        unfold mC
        split
        · show Sum.inr (Sum.inl (va_up s.2.2 k F (i + 1))) = _
          rw [va_up_ne _ _ hjk]
        · rfl
      show some (Sum.inl (mTy (i + 1), mLen (i + 1), mC s (i + 1))) = some (Sum.inl (mTy (i + 1), mLen (i + 1), mC (s.1, s.2.1, va_up s.2.2 k F) (i + 1)))
      rw [hc]
/-- a truth as an int -/
def zI (p : Prop) [Decidable p] : Int32 := if p then 1 else 0
section MRW
variable {G : ax_G} {x : ax_X} {Y : ax_Y} {fr lo : Nat} {h0 h : ax_H} {P : Option Value → ax_H → Prop} {pc : Nat} {ls : List (Option Value)} {st : List Value} {m : Nat} {s : mSt}
theorem aM_get (hR : mR m s h) {idx q : Nat} {v : Value} (f : ax_fl Y.1.cls idx T_M q) (hq : q < 49) (hv : (mF m s.1)[q]? = some v) (hd : decode Y.2.1 pc = .ok (.getfield idx, 3)) (k : AW G x Y fr lo h0 P h (pc + 3) ls (v :: st)) : AW G x Y fr lo h0 P h pc ls (.ref m :: st) := aw_get cl_M f hq hR.obj hv hd k
theorem aM_put (hR : mR m s h) {idx q : Nat} {v : Int32} (f : ax_fl Y.1.cls idx T_M q) (hq : q < 49) (hfin : (T_M q).2.2.2 = false) (hn : narrow (ty_M q) (.int v) = .int v) (hfit : fits (ty_M q) (.int v) = true) (he : (mF m s.1).set q (.int v) = mF m (va_up s.1 q v)) (hd : decode Y.2.1 pc = .ok (.putfield idx, 3)) (k : ∀ h1, mR m (va_up s.1 q v, s.2) h1 → mFr m h h1 → AW G x Y fr lo h0 P h1 (pc + 3) ls st) : AW G x Y fr lo h0 P h pc ls (.int v :: .ref m :: st) :=
  aw_put cl_M f hq hfin hR.obj (show q < (mF m s.1).length from hq) hn hfit hd (by rw [he]; exact k _ (hR.setF _) (mFr.set (k := 0) (by decide) _))
theorem aM_iald (hR : mR m s h) {k j : Nat} {i : Int32} (hk : 0 < k ∧ k < 36) (ht : mTy k = .int) (hi : i = nI j) (hj : j < mLen k) (hb : mLen k < 2 ^ 31) (hd : decode Y.2.1 pc = .ok (.iaload, 1)) (kk : AW G x Y fr lo h0 P h (pc + 1) ls (.int (s.2.1 k j) :: st)) : AW G x Y fr lo h0 P h pc ls (.int i :: .ref (m + k) :: st) := by
  subst hi
  refine aw_iald (hR.int hk ht (by decide)) (vp_in_nI hj hb) hd ?_
  rw [nI_clamp (by omega)]
  exact kk
theorem aM_bald (hR : mR m s h) {k j : Nat} {i : Int32} (hk : 0 < k ∧ k < 36) (ht : mTy k = .byte) (hi : i = nI j) (hj : j < mLen k) (hb : mLen k < 2 ^ 31) (hd : decode Y.2.1 pc = .ok (.baload, 1)) (kk : AW G x Y fr lo h0 P h (pc + 1) ls (.int (s.2.1 k j) :: st)) : AW G x Y fr lo h0 P h pc ls (.int i :: .ref (m + k) :: st) := by
  subst hi
  refine aw_bald (hR.int hk ht (by decide)) (vp_in_nI hj hb) hd ?_
  rw [nI_clamp (by omega)]
  exact kk
theorem aM_zald (hR : mR m s h) {k j : Nat} {i : Int32} (hk : 0 < k ∧ k < 36) (ht : mTy k = .boolean) (hi : i = nI j) (hj : j < mLen k) (hb : mLen k < 2 ^ 31) (hd : decode Y.2.1 pc = .ok (.baload, 1)) (kk : AW G x Y fr lo h0 P h (pc + 1) ls (.int (s.2.1 k j) :: st)) : AW G x Y fr lo h0 P h pc ls (.int i :: .ref (m + k) :: st) := by
  subst hi
  refine aw_zald (hR.int hk ht (by decide)) (vp_in_nI hj hb) hd ?_
  rw [nI_clamp (by omega)]
  exact kk
theorem aM_lald (hR : mR m s h) {k j : Nat} {i : Int32} (hk : 0 < k ∧ k < 36) (ht : mTy k = .long) (hi : i = nI j) (hj : j < mLen k) (hb : mLen k < 2 ^ 31) (hd : decode Y.2.1 pc = .ok (.laload, 1)) (kk : AW G x Y fr lo h0 P h (pc + 1) ls (.long (s.2.2 k j) :: st)) : AW G x Y fr lo h0 P h pc ls (.int i :: .ref (m + k) :: st) := by
  subst hi
  refine aw_lald (hR.long hk ht) (vp_in_nI hj hb) hd ?_
  rw [nI_clamp (by omega)]
  exact kk
theorem aM_iast (hR : mR m s h) {k j : Nat} {i z : Int32} (hk : 0 < k ∧ k < 36) (ht : mTy k = .int) (hi : i = nI j) (hj : j < mLen k) (hb : mLen k < 2 ^ 31) (hd : decode Y.2.1 pc = .ok (.iastore, 1)) (kk : ∀ h1, mR m (s.1, va_up s.2.1 k (va_up (s.2.1 k) j z), s.2.2) h1 → mFr m h h1 → AW G x Y fr lo h0 P h1 (pc + 1) ls st) : AW G x Y fr lo h0 P h pc ls (.int z :: .int i :: .ref (m + k) :: st) := by
  subst hi
  refine aw_iast (hR.int hk ht (by decide)) (vp_in_nI hj hb) hd ?_
  rw [nI_clamp (by omega)]
  exact kk _ (hR.setI hk ht (by decide) _) (mFr.set hk.2 _)
theorem aM_bast (hR : mR m s h) {k j : Nat} {i z : Int32} (hk : 0 < k ∧ k < 36) (ht : mTy k = .byte) (hi : i = nI j) (hj : j < mLen k) (hb : mLen k < 2 ^ 31) (hd : decode Y.2.1 pc = .ok (.bastore, 1)) (kk : ∀ h1, mR m (s.1, va_up s.2.1 k (va_up (s.2.1 k) j z.toInt8.toInt32), s.2.2) h1 → mFr m h h1 → AW G x Y fr lo h0 P h1 (pc + 1) ls st) : AW G x Y fr lo h0 P h pc ls (.int z :: .int i :: .ref (m + k) :: st) := by
  subst hi
  refine aw_bast (hR.int hk ht (by decide)) (vp_in_nI hj hb) hd ?_
  rw [nI_clamp (by omega)]
  exact kk _ (hR.setI hk ht (by decide) _) (mFr.set hk.2 _)
theorem aM_zast (hR : mR m s h) {k j : Nat} {i z : Int32} (hk : 0 < k ∧ k < 36) (ht : mTy k = .boolean) (hi : i = nI j) (hj : j < mLen k) (hb : mLen k < 2 ^ 31) (hd : decode Y.2.1 pc = .ok (.bastore, 1)) (kk : ∀ h1, mR m (s.1, va_up s.2.1 k (va_up (s.2.1 k) j (z &&& 1)), s.2.2) h1 → mFr m h h1 → AW G x Y fr lo h0 P h1 (pc + 1) ls st) : AW G x Y fr lo h0 P h pc ls (.int z :: .int i :: .ref (m + k) :: st) := by
  subst hi
  refine aw_zast (hR.int hk ht (by decide)) (vp_in_nI hj hb) hd ?_
  rw [nI_clamp (by omega)]
  exact kk _ (hR.setI hk ht (by decide) _) (mFr.set hk.2 _)
theorem aM_last (hR : mR m s h) {k j : Nat} {i : Int32} {z : Int64} (hk : 0 < k ∧ k < 36) (ht : mTy k = .long) (hi : i = nI j) (hj : j < mLen k) (hb : mLen k < 2 ^ 31) (hd : decode Y.2.1 pc = .ok (.lastore, 1)) (kk : ∀ h1, mR m (s.1, s.2.1, va_up s.2.2 k (va_up (s.2.2 k) j z)) h1 → mFr m h h1 → AW G x Y fr lo h0 P h1 (pc + 1) ls st) : AW G x Y fr lo h0 P h pc ls (.long z :: .int i :: .ref (m + k) :: st) := by
  subst hi
  refine aw_last (hR.long hk ht) (vp_in_nI hj hb) hd ?_
  rw [nI_clamp (by omega)]
  exact kk _ (hR.setL hk ht _) (mFr.set hk.2 _)
end MRW
end
section
/-- the n lowest bytes of a word -/
def mCut (w : Int64) (n : Int32) : Int64 := if n = 8 then w else w &&& ((1 : Int64) <<< ((8 * n).toInt64 &&& 63) - 1)
set_option maxRecDepth 20000 in
theorem c_M_thrown (G : ax_G) (h : ax_H) (m : Nat) (s : mSt) (hR : mR m s h) : AM G Y_M_thrown 0 0 [.ref m] h (fun v h2 => h2 = h ∧ v = some (.int (s.1 0))) := by
  refine aw_enter (by decide) (Nat.le_of_ble_eq_true rfl) (n := 0) (ls := [some (.ref m)]) rfl (fun x => ?_)
  first | refine aw_aload_n d_M_thrown_0 rfl rfl ?_ | refine aw_aload_nQ d_M_thrown_0 rfl rfl ?_ | refine aw_aload_nN d_M_thrown_0 rfl rfl ?_
  refine aM_get (by assumption) fl_M_123 (by decide) rfl d_M_thrown_1 ?_
  refine aw_iret ?_ rfl d_M_thrown_4
  exact ⟨rfl, rfl⟩
set_option maxRecDepth 20000 in
theorem c_M_give (G : ax_G) (h : ax_H) (m : Nat) (s : mSt) (hR : mR m s h) (c r : Int32) : AM G Y_M_give 0 0 [.ref m, .int c, .int r] h (fun v h2 => v = some (.int r) ∧ mR m (va_up s.1 0 c, s.2) h2 ∧ mFr m h h2) := by
  refine aw_enter (by decide) (Nat.le_of_ble_eq_true rfl) (n := 0) (ls := [some (.ref m), some (.int c), some (.int r)]) rfl (fun x => ?_)
  first | refine aw_aload_n d_M_give_0 rfl rfl ?_ | refine aw_aload_nQ d_M_give_0 rfl rfl ?_ | refine aw_aload_nN d_M_give_0 rfl rfl ?_
  refine aw_iload_n d_M_give_1 rfl rfl ?_
  refine aM_put (by assumption) fl_M_123 (by decide) rfl rfl rfl rfl d_M_give_2 (fun g2 hR2 hF2 => ?_)
  refine aw_iload_n d_M_give_5 rfl rfl ?_
  refine aw_iret ?_ rfl d_M_give_6
  exact ⟨rfl, by assumption, by assumption⟩
set_option maxRecDepth 20000 in
theorem c_M_clear (G : ax_G) (h : ax_H) (m : Nat) (s : mSt) (hR : mR m s h) : AM G Y_M_clear 0 0 [.ref m] h (fun v h2 => v = none ∧ mR m (va_up (va_up (va_up (va_up (va_up (va_up (va_up s.1 0 0) 1 0) 2 0) 3 0) 4 0) 5 0) 36 0, s.2) h2 ∧ mFr m h h2) := by
  refine aw_enter (by decide) (Nat.le_of_ble_eq_true rfl) (n := 0) (ls := [some (.ref m)]) rfl (fun x => ?_)
  first | refine aw_aload_n d_M_clear_0 rfl rfl ?_ | refine aw_aload_nQ d_M_clear_0 rfl rfl ?_ | refine aw_aload_nN d_M_clear_0 rfl rfl ?_
  refine aw_iconst (v := 0) d_M_clear_1 (by decide) ?_
  refine aM_put (by assumption) fl_M_123 (by decide) rfl rfl rfl rfl d_M_clear_2 (fun g2 hR2 hF2 => ?_)
  first | refine aw_aload_n d_M_clear_5 rfl rfl ?_ | refine aw_aload_nQ d_M_clear_5 rfl rfl ?_ | refine aw_aload_nN d_M_clear_5 rfl rfl ?_
  refine aw_iconst (v := 0) d_M_clear_6 (by decide) ?_
  refine aM_put (by assumption) fl_M_126 (by decide) rfl rfl rfl rfl d_M_clear_7 (fun g7 hR7 hF7 => ?_)
  first | refine aw_aload_n d_M_clear_10 rfl rfl ?_ | refine aw_aload_nQ d_M_clear_10 rfl rfl ?_ | refine aw_aload_nN d_M_clear_10 rfl rfl ?_
  refine aw_iconst (v := 0) d_M_clear_11 (by decide) ?_
  refine aM_put (by assumption) fl_M_129 (by decide) rfl rfl rfl rfl d_M_clear_12 (fun g12 hR12 hF12 => ?_)
  first | refine aw_aload_n d_M_clear_15 rfl rfl ?_ | refine aw_aload_nQ d_M_clear_15 rfl rfl ?_ | refine aw_aload_nN d_M_clear_15 rfl rfl ?_
  refine aw_iconst (v := 0) d_M_clear_16 (by decide) ?_
  refine aM_put (by assumption) fl_M_132 (by decide) rfl rfl rfl rfl d_M_clear_17 (fun g17 hR17 hF17 => ?_)
  first | refine aw_aload_n d_M_clear_20 rfl rfl ?_ | refine aw_aload_nQ d_M_clear_20 rfl rfl ?_ | refine aw_aload_nN d_M_clear_20 rfl rfl ?_
  refine aw_iconst (v := 0) d_M_clear_21 (by decide) ?_
  refine aM_put (by assumption) fl_M_135 (by decide) rfl rfl rfl rfl d_M_clear_22 (fun g22 hR22 hF22 => ?_)
  first | refine aw_aload_n d_M_clear_25 rfl rfl ?_ | refine aw_aload_nQ d_M_clear_25 rfl rfl ?_ | refine aw_aload_nN d_M_clear_25 rfl rfl ?_
  refine aw_iconst (v := 0) d_M_clear_26 (by decide) ?_
  refine aM_put (by assumption) fl_M_138 (by decide) rfl rfl rfl rfl d_M_clear_27 (fun g27 hR27 hF27 => ?_)
  first | refine aw_aload_n d_M_clear_30 rfl rfl ?_ | refine aw_aload_nQ d_M_clear_30 rfl rfl ?_ | refine aw_aload_nN d_M_clear_30 rfl rfl ?_
  refine aw_iconst (v := 0) d_M_clear_31 (by decide) ?_
  refine aM_put (by assumption) fl_M_141 (by decide) rfl rfl rfl rfl d_M_clear_32 (fun g32 hR32 hF32 => ?_)
  refine aw_vret ?_ rfl d_M_clear_35
  exact ⟨rfl, by assumption, (((((hF2.tr hF7).tr hF12).tr hF17).tr hF22).tr hF27).tr hF32⟩
set_option maxRecDepth 20000 in
theorem c_M_isSize (G : ax_G) (h : ax_H) (n : Int32) : AM G Y_M_isSize 0 0 [.int n] h (fun v h2 => h2 = h ∧ v = some (.int (zI (0 ≤ n ∧ n ≤ 65536)))) := by
  refine aw_enter (by decide) (Nat.le_of_ble_eq_true rfl) (n := 0) (ls := [some (.int n)]) rfl (fun x => ?_)
  refine aw_iload_n d_M_isSize_0 rfl rfl ?_
  refine aw_if_lt (tgt := 14) d_M_isSize_1 (by decide) (fun c1 => ?_) (fun c1 => ?_)
  · refine aw_iconst (v := 0) d_M_isSize_14 (by decide) ?_
    refine aw_zret ?_ rfl rfl d_M_isSize_15
    refine ⟨rfl, ?_⟩
    simp_all [zI, Int32.not_lt, Int32.not_le, Int32.lt_iff_toInt_lt, Int32.le_iff_toInt_le] <;> first | omega | (intro z; omega) | (intro z; exact absurd z (by omega))
  · refine aw_iload_n d_M_isSize_4 rfl rfl ?_
    refine aw_ldc kc_M_144 d_M_isSize_5 ?_
    refine aw_icmp_gt (tgt := 14) d_M_isSize_7 (by decide) (fun c7 => ?_) (fun c7 => ?_)
    · refine aw_iconst (v := 0) d_M_isSize_14 (by decide) ?_
      refine aw_zret ?_ rfl rfl d_M_isSize_15
      refine ⟨rfl, ?_⟩
      simp_all [zI, Int32.not_lt, Int32.not_le, Int32.lt_iff_toInt_lt, Int32.le_iff_toInt_le] <;> first | omega | (intro z; omega) | (intro z; exact absurd z (by omega))
    · refine aw_iconst (v := 1) d_M_isSize_10 (by decide) ?_
      refine aw_goto (tgt := 15) d_M_isSize_11 (by decide) ?_
      refine aw_zret ?_ rfl rfl d_M_isSize_15
      refine ⟨rfl, ?_⟩
      simp_all [zI, Int32.not_lt, Int32.not_le, Int32.lt_iff_toInt_lt, Int32.le_iff_toInt_le] <;> first | omega | (intro z; omega) | (intro z; exact absurd z (by omega))
set_option maxRecDepth 20000 in
theorem c_M_isLine (G : ax_G) (h : ax_H) (n : Int32) : AM G Y_M_isLine 0 0 [.int n] h (fun v h2 => h2 = h ∧ v = some (.int (zI (0 ≤ n ∧ n ≤ 65535)))) := by
  refine aw_enter (by decide) (Nat.le_of_ble_eq_true rfl) (n := 0) (ls := [some (.int n)]) rfl (fun x => ?_)
  refine aw_iload_n d_M_isLine_0 rfl rfl ?_
  refine aw_if_lt (tgt := 14) d_M_isLine_1 (by decide) (fun c1 => ?_) (fun c1 => ?_)
  · refine aw_iconst (v := 0) d_M_isLine_14 (by decide) ?_
    refine aw_zret ?_ rfl rfl d_M_isLine_15
    refine ⟨rfl, ?_⟩
    simp_all [zI, Int32.not_lt, Int32.not_le, Int32.lt_iff_toInt_lt, Int32.le_iff_toInt_le] <;> first | omega | (intro z; omega) | (intro z; exact absurd z (by omega))
  · refine aw_iload_n d_M_isLine_4 rfl rfl ?_
    refine aw_ldc kc_M_145 d_M_isLine_5 ?_
    refine aw_icmp_gt (tgt := 14) d_M_isLine_7 (by decide) (fun c7 => ?_) (fun c7 => ?_)
    · refine aw_iconst (v := 0) d_M_isLine_14 (by decide) ?_
      refine aw_zret ?_ rfl rfl d_M_isLine_15
      refine ⟨rfl, ?_⟩
      simp_all [zI, Int32.not_lt, Int32.not_le, Int32.lt_iff_toInt_lt, Int32.le_iff_toInt_le] <;> first | omega | (intro z; omega) | (intro z; exact absurd z (by omega))
    · refine aw_iconst (v := 1) d_M_isLine_10 (by decide) ?_
      refine aw_goto (tgt := 15) d_M_isLine_11 (by decide) ?_
      refine aw_zret ?_ rfl rfl d_M_isLine_15
      refine ⟨rfl, ?_⟩
      simp_all [zI, Int32.not_lt, Int32.not_le, Int32.lt_iff_toInt_lt, Int32.le_iff_toInt_le] <;> first | omega | (intro z; omega) | (intro z; exact absurd z (by omega))
set_option maxRecDepth 20000 in
theorem c_M_own (G : ax_G) (h : ax_H) (m : Nat) (s : mSt) (hR : mR m s h) (a : Int32) : AM G Y_M_own 0 0 [.ref m, .int a] h (fun v h2 => h2 = h ∧ v = some (.int (4 * (s.1 1 - 1) + a))) := by
  refine aw_enter (by decide) (Nat.le_of_ble_eq_true rfl) (n := 0) (ls := [some (.ref m), some (.int a)]) rfl (fun x => ?_)
  refine aw_iconst (v := 4) d_M_own_0 (by decide) ?_
  first | refine aw_aload_n d_M_own_1 rfl rfl ?_ | refine aw_aload_nQ d_M_own_1 rfl rfl ?_ | refine aw_aload_nN d_M_own_1 rfl rfl ?_
  refine aM_get (by assumption) fl_M_126 (by decide) rfl d_M_own_2 ?_
  refine aw_iconst (v := 1) d_M_own_5 (by decide) ?_
  refine aw_isub d_M_own_6 ?_
  refine aw_imul d_M_own_7 ?_
  refine aw_iload_n d_M_own_8 rfl rfl ?_
  refine aw_iadd d_M_own_9 ?_
  refine aw_iret ?_ rfl d_M_own_10
  exact ⟨rfl, rfl⟩
set_option maxRecDepth 20000 in
theorem c_M_cut (G : ax_G) (h : ax_H) (w : Int64) (n : Int32) : AM G Y_M_cut 0 0 [.long w, .int n] h (fun v h2 => h2 = h ∧ v = some (.long (mCut w n))) := by
  refine aw_enter (by decide) (Nat.le_of_ble_eq_true rfl) (n := 0) (ls := [some (.long w), none, some (.int n)]) rfl (fun x => ?_)
  refine aw_iload_n d_M_cut_0 rfl rfl ?_
  refine aw_bipush (v := 8) d_M_cut_1 (by decide) ?_
  refine aw_icmp_ne (tgt := 10) d_M_cut_3 (by decide) (fun c3 => ?_) (fun c3 => ?_)
  · refine aw_lload_n d_M_cut_10 rfl rfl ?_
    refine aw_lconst (v := 1) d_M_cut_11 (by decide) ?_
    refine aw_bipush (v := 8) d_M_cut_12 (by decide) ?_
    refine aw_iload_n d_M_cut_14 rfl rfl ?_
    refine aw_imul d_M_cut_15 ?_
    refine aw_lshl d_M_cut_16 ?_
    refine aw_lconst (v := 1) d_M_cut_17 (by decide) ?_
    refine aw_lsub d_M_cut_18 ?_
    refine aw_land d_M_cut_19 ?_
    refine aw_lret ?_ rfl d_M_cut_20
    refine ⟨rfl, ?_⟩
    simp_all [mCut]
  · refine aw_lload_n d_M_cut_6 rfl rfl ?_
    refine aw_goto (tgt := 20) d_M_cut_7 (by decide) ?_
    refine aw_lret ?_ rfl d_M_cut_20
    refine ⟨rfl, ?_⟩
    simp_all [mCut]
set_option maxRecDepth 20000 in
theorem c_M_isGlobal (G : ax_G) (h : ax_H) (m : Nat) (s : mSt) (hR : mR m s h) (j : Nat) (hj : j < 2048) : AM G Y_M_isGlobal 0 0 [.ref m, .int (nI j)] h (fun v h2 => h2 = h ∧ v = some (.int (zI (0 ≤ s.2.1 13 j ∧ s.2.1 12 j = 1)))) := by
  refine aw_enter (by decide) (Nat.le_of_ble_eq_true rfl) (n := 0) (ls := [some (.ref m), some (.int (nI j))]) rfl (fun x => ?_)
  first | refine aw_aload_n d_M_isGlobal_0 rfl rfl ?_ | refine aw_aload_nQ d_M_isGlobal_0 rfl rfl ?_ | refine aw_aload_nN d_M_isGlobal_0 rfl rfl ?_
  refine aM_get (by assumption) fl_M_50 (by decide) rfl d_M_isGlobal_1 ?_
  refine aw_iload_n d_M_isGlobal_4 rfl rfl ?_
  refine aM_iald (by assumption) (by decide) rfl rfl hj (by decide) d_M_isGlobal_5 ?_
  refine aw_if_lt (tgt := 23) d_M_isGlobal_6 (by decide) (fun c6 => ?_) (fun c6 => ?_)
  · refine aw_iconst (v := 0) d_M_isGlobal_23 (by decide) ?_
    refine aw_zret ?_ rfl rfl d_M_isGlobal_24
    refine ⟨rfl, ?_⟩
    simp_all [zI, Int32.not_lt, Int32.not_le, Int32.lt_iff_toInt_lt, Int32.le_iff_toInt_le] <;> first | omega | (intro z; omega) | (intro z; exact absurd z (by omega))
  · first | refine aw_aload_n d_M_isGlobal_9 rfl rfl ?_ | refine aw_aload_nQ d_M_isGlobal_9 rfl rfl ?_ | refine aw_aload_nN d_M_isGlobal_9 rfl rfl ?_
    refine aM_get (by assumption) fl_M_47 (by decide) rfl d_M_isGlobal_10 ?_
    refine aw_iload_n d_M_isGlobal_13 rfl rfl ?_
    refine aM_iald (by assumption) (by decide) rfl rfl hj (by decide) d_M_isGlobal_14 ?_
    refine aw_iconst (v := 1) d_M_isGlobal_15 (by decide) ?_
    refine aw_icmp_ne (tgt := 23) d_M_isGlobal_16 (by decide) (fun c16 => ?_) (fun c16 => ?_)
    · refine aw_iconst (v := 0) d_M_isGlobal_23 (by decide) ?_
      refine aw_zret ?_ rfl rfl d_M_isGlobal_24
      refine ⟨rfl, ?_⟩
      simp_all [zI, Int32.not_lt, Int32.not_le, Int32.lt_iff_toInt_lt, Int32.le_iff_toInt_le] <;> first | omega | (intro z; omega) | (intro z; exact absurd z (by omega))
    · refine aw_iconst (v := 1) d_M_isGlobal_19 (by decide) ?_
      refine aw_goto (tgt := 24) d_M_isGlobal_20 (by decide) ?_
      refine aw_zret ?_ rfl rfl d_M_isGlobal_24
      refine ⟨rfl, ?_⟩
      simp_all [zI, Int32.not_lt, Int32.not_le, Int32.lt_iff_toInt_lt, Int32.le_iff_toInt_le] <;> first | omega | (intro z; omega) | (intro z; exact absurd z (by omega))
set_option maxRecDepth 20000 in
theorem c_M_isWeak (G : ax_G) (h : ax_H) (m : Nat) (s : mSt) (hR : mR m s h) (j : Nat) (hj : j < 2048) : AM G Y_M_isWeak 0 0 [.ref m, .int (nI j)] h (fun v h2 => h2 = h ∧ v = some (.int (zI (0 ≤ s.2.1 13 j ∧ 1 < s.2.1 12 j)))) := by
  refine aw_enter (by decide) (Nat.le_of_ble_eq_true rfl) (n := 0) (ls := [some (.ref m), some (.int (nI j))]) rfl (fun x => ?_)
  first | refine aw_aload_n d_M_isWeak_0 rfl rfl ?_ | refine aw_aload_nQ d_M_isWeak_0 rfl rfl ?_ | refine aw_aload_nN d_M_isWeak_0 rfl rfl ?_
  refine aM_get (by assumption) fl_M_50 (by decide) rfl d_M_isWeak_1 ?_
  refine aw_iload_n d_M_isWeak_4 rfl rfl ?_
  refine aM_iald (by assumption) (by decide) rfl rfl hj (by decide) d_M_isWeak_5 ?_
  refine aw_if_lt (tgt := 23) d_M_isWeak_6 (by decide) (fun c6 => ?_) (fun c6 => ?_)
  · refine aw_iconst (v := 0) d_M_isWeak_23 (by decide) ?_
    refine aw_zret ?_ rfl rfl d_M_isWeak_24
    refine ⟨rfl, ?_⟩
    simp_all [zI, Int32.not_lt, Int32.not_le, Int32.lt_iff_toInt_lt, Int32.le_iff_toInt_le] <;> first | omega | (intro z; omega) | (intro z; exact absurd z (by omega))
  · first | refine aw_aload_n d_M_isWeak_9 rfl rfl ?_ | refine aw_aload_nQ d_M_isWeak_9 rfl rfl ?_ | refine aw_aload_nN d_M_isWeak_9 rfl rfl ?_
    refine aM_get (by assumption) fl_M_47 (by decide) rfl d_M_isWeak_10 ?_
    refine aw_iload_n d_M_isWeak_13 rfl rfl ?_
    refine aM_iald (by assumption) (by decide) rfl rfl hj (by decide) d_M_isWeak_14 ?_
    refine aw_iconst (v := 1) d_M_isWeak_15 (by decide) ?_
    refine aw_icmp_le (tgt := 23) d_M_isWeak_16 (by decide) (fun c16 => ?_) (fun c16 => ?_)
    · refine aw_iconst (v := 0) d_M_isWeak_23 (by decide) ?_
      refine aw_zret ?_ rfl rfl d_M_isWeak_24
      refine ⟨rfl, ?_⟩
      simp_all [zI, Int32.not_lt, Int32.not_le, Int32.lt_iff_toInt_lt, Int32.le_iff_toInt_le] <;> first | omega | (intro z; omega) | (intro z; exact absurd z (by omega))
    · refine aw_iconst (v := 1) d_M_isWeak_19 (by decide) ?_
      refine aw_goto (tgt := 24) d_M_isWeak_20 (by decide) ?_
      refine aw_zret ?_ rfl rfl d_M_isWeak_24
      refine ⟨rfl, ?_⟩
      simp_all [zI, Int32.not_lt, Int32.not_le, Int32.lt_iff_toInt_lt, Int32.le_iff_toInt_le] <;> first | omega | (intro z; omega) | (intro z; exact absurd z (by omega))
end
section
theorem ax_ix {x : Int32} {M : Nat} (hM : M < 2 ^ 31) (h1 : ¬ x < 0) (h2 : ¬ nI M ≤ x) : ∃ j, j < M ∧ x = nI j := by
  obtain ⟨j, h3, h4, -⟩ := pk_mu h1 h2 hM
  exact ⟨j, h3, h4⟩
theorem ax_own {U j : Nat} (hU : 0 < U) : 4 * (nI U - 1) + nI j = nI (4 * (U - 1) + j) := by
  rw [show (1 : Int32) = nI 1 from rfl, show (4 : Int32) = nI 4 from rfl, pk_sub (by omega), pk_mul, nI_add]
theorem ax_row (u j : Nat) : 4 * nI u + nI j = nI (4 * u + j) := by
  rw [show (4 : Int32) = nI 4 from rfl, pk_mul, nI_add]
def mFault (s : mSt) (a : Int32) : Int32 := if a = 0 then s.1 33 else if a = 1 then s.1 34 else if a = 2 then s.1 35 else -1
set_option maxRecDepth 20000 in
theorem c_M_fault (G : ax_G) (h : ax_H) (m : Nat) (s : mSt) (hR : mR m s h) (a : Int32) : AM G Y_M_fault 1 22 [.ref m, .int a] h (fun v h2 => v = some (.int (mFault s a)) ∧ mR m (va_up s.1 0 0, s.2) h2 ∧ mFr m h h2) := by
  refine aw_enter (by decide) (Nat.le_of_ble_eq_true rfl) (n := 0) (ls := [some (.ref m), some (.int a)]) rfl (fun x => ?_)
  first | refine aw_aload_n d_M_fault_0 rfl rfl ?_ | refine aw_aload_nQ d_M_fault_0 rfl rfl ?_ | refine aw_aload_nN d_M_fault_0 rfl rfl ?_
  refine aw_iconst (v := 0) d_M_fault_1 (by decide) ?_
  refine aw_iload_n d_M_fault_2 rfl rfl ?_
  refine aw_if_ne (tgt := 13) d_M_fault_3 (by decide) (fun c3 => ?_) (fun c3 => ?_)
  · refine aw_iload_n d_M_fault_13 rfl rfl ?_
    refine aw_iconst (v := 1) d_M_fault_14 (by decide) ?_
    refine aw_icmp_ne (tgt := 25) d_M_fault_15 (by decide) (fun c15 => ?_) (fun c15 => ?_)
    · refine aw_iload_n d_M_fault_25 rfl rfl ?_
      refine aw_iconst (v := 2) d_M_fault_26 (by decide) ?_
      refine aw_icmp_ne (tgt := 37) d_M_fault_27 (by decide) (fun c27 => ?_) (fun c27 => ?_)
      · refine aw_iconst (v := (-1)) d_M_fault_37 (by decide) ?_
        refine aw_callV (c_M_give G _ m s (by assumption) _ _) cl_M (mR.obj (by assumption)) m_M_give ml_M_210 rfl rfl (by decide) (by decide) (Nat.le_of_ble_eq_true rfl) d_M_fault_38 ?_
        rintro v h' ⟨rfl, hRg, hFg⟩
        refine aw_iret ?_ rfl d_M_fault_41
        refine ⟨?_, hRg, hFg⟩
        simp_all [mFault]
      · first | refine aw_aload_n d_M_fault_30 rfl rfl ?_ | refine aw_aload_nQ d_M_fault_30 rfl rfl ?_ | refine aw_aload_nN d_M_fault_30 rfl rfl ?_
        refine aM_get (by assumption) fl_M_95 (by decide) rfl d_M_fault_31 ?_
        refine aw_goto (tgt := 38) d_M_fault_34 (by decide) ?_
        refine aw_callV (c_M_give G _ m s (by assumption) _ _) cl_M (mR.obj (by assumption)) m_M_give ml_M_210 rfl rfl (by decide) (by decide) (Nat.le_of_ble_eq_true rfl) d_M_fault_38 ?_
        rintro v h' ⟨rfl, hRg, hFg⟩
        refine aw_iret ?_ rfl d_M_fault_41
        refine ⟨?_, hRg, hFg⟩
        simp_all [mFault]
    · first | refine aw_aload_n d_M_fault_18 rfl rfl ?_ | refine aw_aload_nQ d_M_fault_18 rfl rfl ?_ | refine aw_aload_nN d_M_fault_18 rfl rfl ?_
      refine aM_get (by assumption) fl_M_181 (by decide) rfl d_M_fault_19 ?_
      refine aw_goto (tgt := 38) d_M_fault_22 (by decide) ?_
      refine aw_callV (c_M_give G _ m s (by assumption) _ _) cl_M (mR.obj (by assumption)) m_M_give ml_M_210 rfl rfl (by decide) (by decide) (Nat.le_of_ble_eq_true rfl) d_M_fault_38 ?_
      rintro v h' ⟨rfl, hRg, hFg⟩
      refine aw_iret ?_ rfl d_M_fault_41
      refine ⟨?_, hRg, hFg⟩
      simp_all [mFault]
  · first | refine aw_aload_n d_M_fault_6 rfl rfl ?_ | refine aw_aload_nQ d_M_fault_6 rfl rfl ?_ | refine aw_aload_nN d_M_fault_6 rfl rfl ?_
    refine aM_get (by assumption) fl_M_178 (by decide) rfl d_M_fault_7 ?_
    refine aw_goto (tgt := 38) d_M_fault_10 (by decide) ?_
    refine aw_callV (c_M_give G _ m s (by assumption) _ _) cl_M (mR.obj (by assumption)) m_M_give ml_M_210 rfl rfl (by decide) (by decide) (Nat.le_of_ble_eq_true rfl) d_M_fault_38 ?_
    rintro v h' ⟨rfl, hRg, hFg⟩
    refine aw_iret ?_ rfl d_M_fault_41
    refine ⟨?_, hRg, hFg⟩
    simp_all [mFault]
def mPart (s : mSt) (a : Int32) : Int32 := if a < 0 ∨ 6 < a then -1 else if s.1 38 = 0 then 0 else s.2.1 30 a.toNatClampNeg
set_option maxRecDepth 20000 in
theorem c_M_part (G : ax_G) (h : ax_H) (m : Nat) (s : mSt) (hR : mR m s h) (a : Int32) : AM G Y_M_part 1 22 [.ref m, .int a] h (fun v h2 => v = some (.int (mPart s a)) ∧ mR m (va_up s.1 0 0, s.2) h2 ∧ mFr m h h2) := by
  refine aw_enter (by decide) (Nat.le_of_ble_eq_true rfl) (n := 0) (ls := [some (.ref m), some (.int a)]) rfl (fun x => ?_)
  first | refine aw_aload_n d_M_part_0 rfl rfl ?_ | refine aw_aload_nQ d_M_part_0 rfl rfl ?_ | refine aw_aload_nN d_M_part_0 rfl rfl ?_
  refine aw_iconst (v := 0) d_M_part_1 (by decide) ?_
  refine aw_iload_n d_M_part_2 rfl rfl ?_
  refine aw_if_lt (tgt := 12) d_M_part_3 (by decide) (fun c3 => ?_) (fun c3 => ?_)
  · refine aw_iconst (v := (-1)) d_M_part_12 (by decide) ?_
    refine aw_goto (tgt := 33) d_M_part_13 (by decide) ?_
    refine aw_callV (c_M_give G _ m s (by assumption) _ _) cl_M (mR.obj (by assumption)) m_M_give ml_M_210 rfl rfl (by decide) (by decide) (Nat.le_of_ble_eq_true rfl) d_M_part_33 ?_
    rintro v h' ⟨rfl, hRg, hFg⟩
    refine aw_iret ?_ rfl d_M_part_36
    refine ⟨?_, hRg, hFg⟩
    first | rw [mPart, if_neg (fun q => q.elim c3 (Int32.not_lt.mpr c9)), if_neg c20, hcl] | rw [mPart, if_neg (fun q => q.elim c3 (Int32.not_lt.mpr c9)), if_pos c20] | rw [mPart, if_pos (Or.inr (Int32.not_le.mp c9))] | rw [mPart, if_pos (Or.inl c3)]
  · refine aw_iload_n d_M_part_6 rfl rfl ?_
    refine aw_bipush (v := 6) d_M_part_7 (by decide) ?_
    refine aw_icmp_le (tgt := 16) d_M_part_9 (by decide) (fun c9 => ?_) (fun c9 => ?_)
    · first | refine aw_aload_n d_M_part_16 rfl rfl ?_ | refine aw_aload_nQ d_M_part_16 rfl rfl ?_ | refine aw_aload_nN d_M_part_16 rfl rfl ?_
      refine aM_get (by assumption) fl_M_224 (by decide) rfl d_M_part_17 ?_
      refine aw_if_eq (tgt := 32) d_M_part_20 (by decide) (fun c20 => ?_) (fun c20 => ?_)
      · refine aw_iconst (v := 0) d_M_part_32 (by decide) ?_
        refine aw_callV (c_M_give G _ m s (by assumption) _ _) cl_M (mR.obj (by assumption)) m_M_give ml_M_210 rfl rfl (by decide) (by decide) (Nat.le_of_ble_eq_true rfl) d_M_part_33 ?_
        rintro v h' ⟨rfl, hRg, hFg⟩
        refine aw_iret ?_ rfl d_M_part_36
        refine ⟨?_, hRg, hFg⟩
        first | rw [mPart, if_neg (fun q => q.elim c3 (Int32.not_lt.mpr c9)), if_neg c20, hcl] | rw [mPart, if_neg (fun q => q.elim c3 (Int32.not_lt.mpr c9)), if_pos c20] | rw [mPart, if_pos (Or.inr (Int32.not_le.mp c9))] | rw [mPart, if_pos (Or.inl c3)]
      · first | refine aw_aload_n d_M_part_23 rfl rfl ?_ | refine aw_aload_nQ d_M_part_23 rfl rfl ?_ | refine aw_aload_nN d_M_part_23 rfl rfl ?_
        refine aM_get (by assumption) fl_M_105 (by decide) rfl d_M_part_24 ?_
        obtain ⟨j, hj, rfl⟩ := nI_of2 (n := 6) (by decide) c3 c9
        have hcl := nI_clamp (n := j) (by omega)
        refine aw_iload_n d_M_part_27 rfl rfl ?_
        refine aM_iald (by assumption) (by decide) rfl rfl (show j < 7 by omega) (by decide) d_M_part_28 ?_
        refine aw_goto (tgt := 33) d_M_part_29 (by decide) ?_
        refine aw_callV (c_M_give G _ m s (by assumption) _ _) cl_M (mR.obj (by assumption)) m_M_give ml_M_210 rfl rfl (by decide) (by decide) (Nat.le_of_ble_eq_true rfl) d_M_part_33 ?_
        rintro v h' ⟨rfl, hRg, hFg⟩
        refine aw_iret ?_ rfl d_M_part_36
        refine ⟨?_, hRg, hFg⟩
        first | rw [mPart, if_neg (fun q => q.elim c3 (Int32.not_lt.mpr c9)), if_neg c20, hcl] | rw [mPart, if_neg (fun q => q.elim c3 (Int32.not_lt.mpr c9)), if_pos c20] | rw [mPart, if_pos (Or.inr (Int32.not_le.mp c9))] | rw [mPart, if_pos (Or.inl c3)]
    · refine aw_iconst (v := (-1)) d_M_part_12 (by decide) ?_
      refine aw_goto (tgt := 33) d_M_part_13 (by decide) ?_
      refine aw_callV (c_M_give G _ m s (by assumption) _ _) cl_M (mR.obj (by assumption)) m_M_give ml_M_210 rfl rfl (by decide) (by decide) (Nat.le_of_ble_eq_true rfl) d_M_part_33 ?_
      rintro v h' ⟨rfl, hRg, hFg⟩
      refine aw_iret ?_ rfl d_M_part_36
      refine ⟨?_, hRg, hFg⟩
      first | rw [mPart, if_neg (fun q => q.elim c3 (Int32.not_lt.mpr c9)), if_neg c20, hcl] | rw [mPart, if_neg (fun q => q.elim c3 (Int32.not_lt.mpr c9)), if_pos c20] | rw [mPart, if_pos (Or.inr (Int32.not_le.mp c9))] | rw [mPart, if_pos (Or.inl c3)]
def mOctet (s : mSt) (a : Int32) : Int32 := if s.1 38 = 0 ∨ a < 0 ∨ s.1 39 ≤ a then -1 else s.2.1 29 a.toNatClampNeg &&& 255
set_option maxRecDepth 20000 in
theorem c_M_octet (G : ax_G) (h : ax_H) (m : Nat) (s : mSt) (hR : mR m s h) (E : Nat) (hE : s.1 39 = nI E) (hEb : E ≤ 262144) (a : Int32) : AM G Y_M_octet 1 22 [.ref m, .int a] h (fun v h2 => v = some (.int (mOctet s a)) ∧ mR m (va_up s.1 0 0, s.2) h2 ∧ mFr m h h2) := by
  refine aw_enter (by decide) (Nat.le_of_ble_eq_true rfl) (n := 0) (ls := [some (.ref m), some (.int a)]) rfl (fun x => ?_)
  first | refine aw_aload_n d_M_octet_0 rfl rfl ?_ | refine aw_aload_nQ d_M_octet_0 rfl rfl ?_ | refine aw_aload_nN d_M_octet_0 rfl rfl ?_
  refine aw_iconst (v := 0) d_M_octet_1 (by decide) ?_
  first | refine aw_aload_n d_M_octet_2 rfl rfl ?_ | refine aw_aload_nQ d_M_octet_2 rfl rfl ?_ | refine aw_aload_nN d_M_octet_2 rfl rfl ?_
  refine aM_get (by assumption) fl_M_224 (by decide) rfl d_M_octet_3 ?_
  refine aw_if_eq (tgt := 34) d_M_octet_6 (by decide) (fun c6 => ?_) (fun c6 => ?_)
  · refine aw_iconst (v := (-1)) d_M_octet_34 (by decide) ?_
    refine aw_callV (c_M_give G _ m s (by assumption) _ _) cl_M (mR.obj (by assumption)) m_M_give ml_M_210 rfl rfl (by decide) (by decide) (Nat.le_of_ble_eq_true rfl) d_M_octet_35 ?_
    rintro v h' ⟨rfl, hRg, hFg⟩
    refine aw_iret ?_ rfl d_M_octet_38
    refine ⟨?_, hRg, hFg⟩
    simp_all [mOctet, Int32.not_lt, Int32.not_le]
  · refine aw_iload_n d_M_octet_9 rfl rfl ?_
    refine aw_if_lt (tgt := 34) d_M_octet_10 (by decide) (fun c10 => ?_) (fun c10 => ?_)
    · refine aw_iconst (v := (-1)) d_M_octet_34 (by decide) ?_
      refine aw_callV (c_M_give G _ m s (by assumption) _ _) cl_M (mR.obj (by assumption)) m_M_give ml_M_210 rfl rfl (by decide) (by decide) (Nat.le_of_ble_eq_true rfl) d_M_octet_35 ?_
      rintro v h' ⟨rfl, hRg, hFg⟩
      refine aw_iret ?_ rfl d_M_octet_38
      refine ⟨?_, hRg, hFg⟩
      simp_all [mOctet, Int32.not_lt, Int32.not_le]
    · refine aw_iload_n d_M_octet_13 rfl rfl ?_
      first | refine aw_aload_n d_M_octet_14 rfl rfl ?_ | refine aw_aload_nQ d_M_octet_14 rfl rfl ?_ | refine aw_aload_nN d_M_octet_14 rfl rfl ?_
      refine aM_get (by assumption) fl_M_191 (by decide) rfl d_M_octet_15 ?_
      refine aw_icmp_ge (tgt := 34) d_M_octet_18 (by decide) (fun c18 => ?_) (fun c18 => ?_)
      · refine aw_iconst (v := (-1)) d_M_octet_34 (by decide) ?_
        refine aw_callV (c_M_give G _ m s (by assumption) _ _) cl_M (mR.obj (by assumption)) m_M_give ml_M_210 rfl rfl (by decide) (by decide) (Nat.le_of_ble_eq_true rfl) d_M_octet_35 ?_
        rintro v h' ⟨rfl, hRg, hFg⟩
        refine aw_iret ?_ rfl d_M_octet_38
        refine ⟨?_, hRg, hFg⟩
        simp_all [mOctet, Int32.not_lt, Int32.not_le]
      · first | refine aw_aload_n d_M_octet_21 rfl rfl ?_ | refine aw_aload_nQ d_M_octet_21 rfl rfl ?_ | refine aw_aload_nN d_M_octet_21 rfl rfl ?_
        refine aM_get (by assumption) fl_M_102 (by decide) rfl d_M_octet_22 ?_
        rw [hE] at c18
        obtain ⟨j, hj, rfl⟩ := ax_ix (by omega) c10 c18
        have hcl := nI_clamp (n := j) (by omega)
        refine aw_iload_n d_M_octet_25 rfl rfl ?_
        refine aM_bald (by assumption) (by decide) rfl rfl (show j < 262144 by omega) (by decide) d_M_octet_26 ?_
        refine aw_sipush (v := 255) d_M_octet_27 (by decide) ?_
        refine aw_iand d_M_octet_30 ?_
        refine aw_goto (tgt := 35) d_M_octet_31 (by decide) ?_
        refine aw_callV (c_M_give G _ m s (by assumption) _ _) cl_M (mR.obj (by assumption)) m_M_give ml_M_210 rfl rfl (by decide) (by decide) (Nat.le_of_ble_eq_true rfl) d_M_octet_35 ?_
        rintro v h' ⟨rfl, hRg, hFg⟩
        refine aw_iret ?_ rfl d_M_octet_38
        refine ⟨?_, hRg, hFg⟩
        simp_all [mOctet, Int32.not_lt, Int32.not_le]
def mNeeded (s : mSt) (u a : Int32) : Int32 := if u < 0 ∨ s.1 1 ≤ u ∨ a < 0 ∨ 3 < a then -1 else zI (u < s.1 36 ∧ ¬ s.2.1 28 (4 * u.toNatClampNeg + a.toNatClampNeg) = 0)
set_option maxRecDepth 20000 in
theorem c_M_needed (G : ax_G) (h : ax_H) (m : Nat) (s : mSt) (hR : mR m s h) (U : Nat) (hU : s.1 1 = nI U) (hUb : U ≤ 32) (u a : Int32) : AM G Y_M_needed 0 0 [.ref m, .int u, .int a] h (fun v h2 => v = some (.int (mNeeded s u a)) ∧ mR m (va_up s.1 0 0, s.2) h2 ∧ mFr m h h2) := by
  refine aw_enter (by decide) (Nat.le_of_ble_eq_true rfl) (n := 0) (ls := [some (.ref m), some (.int u), some (.int a)]) rfl (fun x => ?_)
  first | refine aw_aload_n d_M_needed_0 rfl rfl ?_ | refine aw_aload_nQ d_M_needed_0 rfl rfl ?_ | refine aw_aload_nN d_M_needed_0 rfl rfl ?_
  refine aw_iconst (v := 0) d_M_needed_1 (by decide) ?_
  refine aM_put (by assumption) fl_M_123 (by decide) rfl rfl rfl rfl d_M_needed_2 (fun g2 hR2 hF2 => ?_)
  have e1 : va_up s.1 0 0 1 = s.1 1 := rfl
  have e36 : va_up s.1 0 0 36 = s.1 36 := rfl
  refine aw_iload_n d_M_needed_5 rfl rfl ?_
  refine aw_if_lt (tgt := 26) d_M_needed_6 (by decide) (fun c6 => ?_) (fun c6 => ?_)
  · refine aw_iconst (v := (-1)) d_M_needed_26 (by decide) ?_
    refine aw_iret ?_ rfl d_M_needed_27
    refine ⟨?_, hR2, hF2⟩
    rw [mNeeded, if_pos (Or.inl c6)]
  · refine aw_iload_n d_M_needed_9 rfl rfl ?_
    first | refine aw_aload_n d_M_needed_10 rfl rfl ?_ | refine aw_aload_nQ d_M_needed_10 rfl rfl ?_ | refine aw_aload_nN d_M_needed_10 rfl rfl ?_
    refine aM_get (by assumption) fl_M_126 (by decide) rfl d_M_needed_11 ?_
    refine aw_icmp_ge (tgt := 26) d_M_needed_14 (by decide) (fun c14 => ?_) (fun c14 => ?_)
    · refine aw_iconst (v := (-1)) d_M_needed_26 (by decide) ?_
      refine aw_iret ?_ rfl d_M_needed_27
      refine ⟨?_, hR2, hF2⟩
      rw [mNeeded, if_pos (Or.inr (Or.inl (show s.1 1 ≤ u from c14)))]
    · refine aw_iload_n d_M_needed_17 rfl rfl ?_
      refine aw_if_lt (tgt := 26) d_M_needed_18 (by decide) (fun c18 => ?_) (fun c18 => ?_)
      · refine aw_iconst (v := (-1)) d_M_needed_26 (by decide) ?_
        refine aw_iret ?_ rfl d_M_needed_27
        refine ⟨?_, hR2, hF2⟩
        rw [mNeeded, if_pos (Or.inr (Or.inr (Or.inl c18)))]
      · refine aw_iload_n d_M_needed_21 rfl rfl ?_
        refine aw_iconst (v := 3) d_M_needed_22 (by decide) ?_
        refine aw_icmp_le (tgt := 28) d_M_needed_23 (by decide) (fun c23 => ?_) (fun c23 => ?_)
        · refine aw_iload_n d_M_needed_28 rfl rfl ?_
          first | refine aw_aload_n d_M_needed_29 rfl rfl ?_ | refine aw_aload_nQ d_M_needed_29 rfl rfl ?_ | refine aw_aload_nN d_M_needed_29 rfl rfl ?_
          refine aM_get (by assumption) fl_M_141 (by decide) rfl d_M_needed_30 ?_
          refine aw_icmp_ge (tgt := 53) d_M_needed_33 (by decide) (fun c33 => ?_) (fun c33 => ?_)
          · refine aw_iconst (v := 0) d_M_needed_53 (by decide) ?_
            refine aw_iret ?_ rfl d_M_needed_54
            refine ⟨?_, hR2, hF2⟩
            rw [mNeeded, if_neg (fun q => q.elim c6 (fun q => q.elim c14 (fun q => q.elim c18 (Int32.not_lt.mpr c23)))), zI, if_neg (fun q => absurd q.1 (Int32.not_lt.mpr (show s.1 36 ≤ u from c33)))]
          · first | refine aw_aload_n d_M_needed_36 rfl rfl ?_ | refine aw_aload_nQ d_M_needed_36 rfl rfl ?_ | refine aw_aload_nN d_M_needed_36 rfl rfl ?_
            refine aM_get (by assumption) fl_M_99 (by decide) rfl d_M_needed_37 ?_
            have c14 : ¬ s.1 1 ≤ u := c14
            have c33 : ¬ s.1 36 ≤ u := c33
            have c14b := c14
            rw [hU] at c14
            obtain ⟨j, hj, rfl⟩ := ax_ix (by omega) c6 c14
            obtain ⟨i, hi, rfl⟩ := nI_of2 (n := 3) (by decide) c18 c23
            have hcl := nI_clamp (n := j) (by omega)
            have hci := nI_clamp (n := i) (by omega)
            refine aw_iconst (v := 4) d_M_needed_40 (by decide) ?_
            refine aw_iload_n d_M_needed_41 rfl rfl ?_
            refine aw_imul d_M_needed_42 ?_
            refine aw_iload_n d_M_needed_43 rfl rfl ?_
            refine aw_iadd d_M_needed_44 ?_
            refine aM_zald (by assumption) (by decide) rfl (ax_row j i) (show 4 * j + i < 128 by omega) (by decide) d_M_needed_45 ?_
            refine aw_if_eq (tgt := 53) d_M_needed_46 (by decide) (fun c46 => ?_) (fun c46 => ?_)
            · refine aw_iconst (v := 0) d_M_needed_53 (by decide) ?_
              refine aw_iret ?_ rfl d_M_needed_54
              refine ⟨?_, hR2, hF2⟩
              rw [mNeeded, if_neg (fun q => q.elim c6 (fun q => q.elim c14b (fun q => q.elim c18 (Int32.not_lt.mpr c23)))), zI, if_neg (fun q => q.2 (by rw [hcl, hci]; exact c46))]
            · refine aw_iconst (v := 1) d_M_needed_49 (by decide) ?_
              refine aw_goto (tgt := 54) d_M_needed_50 (by decide) ?_
              refine aw_iret ?_ rfl d_M_needed_54
              refine ⟨?_, hR2, hF2⟩
              rw [mNeeded, if_neg (fun q => q.elim c6 (fun q => q.elim c14b (fun q => q.elim c18 (Int32.not_lt.mpr c23)))), zI, if_pos ⟨Int32.not_le.mp c33, by rw [hcl, hci]; exact c46⟩]
        · refine aw_iconst (v := (-1)) d_M_needed_26 (by decide) ?_
          refine aw_iret ?_ rfl d_M_needed_27
          refine ⟨?_, hR2, hF2⟩
          rw [mNeeded, if_pos (Or.inr (Or.inr (Or.inr (Int32.not_le.mp c23))))]
abbrev mKeepOk (U : Nat) (a : Int32) : Prop := 0 < U ∧ 0 ≤ a ∧ a ≤ 3
set_option maxRecDepth 20000 in
theorem c_M_keep (G : ax_G) (h : ax_H) (m : Nat) (s : mSt) (hR : mR m s h) (U : Nat) (hU : s.1 1 = nI U) (hUb : U ≤ 32) (a : Int32) : AM G Y_M_keep 1 21 [.ref m, .int a] h (fun v h2 => v = some (.int (zI (mKeepOk U a))) ∧ mR m (va_up s.1 0 0, (if mKeepOk U a then va_up s.2.1 2 (va_up (s.2.1 2) (4 * (U - 1) + a.toNatClampNeg) 1) else s.2.1), s.2.2) h2 ∧ mFr m h h2) := by
  refine aw_enter (by decide) (Nat.le_of_ble_eq_true rfl) (n := 0) (ls := [some (.ref m), some (.int a)]) rfl (fun x => ?_)
  first | refine aw_aload_n d_M_keep_0 rfl rfl ?_ | refine aw_aload_nQ d_M_keep_0 rfl rfl ?_ | refine aw_aload_nN d_M_keep_0 rfl rfl ?_
  refine aw_iconst (v := 0) d_M_keep_1 (by decide) ?_
  refine aM_put (by assumption) fl_M_123 (by decide) rfl rfl rfl rfl d_M_keep_2 (fun g2 hR2 hF2 => ?_)
  have e1 : va_up s.1 0 0 1 = s.1 1 := rfl
  first | refine aw_aload_n d_M_keep_5 rfl rfl ?_ | refine aw_aload_nQ d_M_keep_5 rfl rfl ?_ | refine aw_aload_nN d_M_keep_5 rfl rfl ?_
  refine aM_get (by assumption) fl_M_126 (by decide) rfl d_M_keep_6 ?_
  refine aw_if_eq (tgt := 21) d_M_keep_9 (by decide) (fun c9 => ?_) (fun c9 => ?_)
  · refine aw_iconst (v := 0) d_M_keep_21 (by decide) ?_
    refine aw_zret ?_ rfl rfl d_M_keep_22
    have hno : ¬ mKeepOk U a := by
      rintro ⟨q1, q2, q3⟩
      first | exact absurd q3 c18 | exact absurd c13 (Int32.not_lt.mpr q2) | (have c9 : s.1 1 = 0 := c9; rw [hU] at c9; exact absurd ((nI_eq (a := U) (b := 0) (by omega) (by omega)).mp c9) (by omega))
    rw [if_neg hno, zI, if_neg hno]
    exact ⟨rfl, hR2, hF2⟩
  · have c9 : ¬ s.1 1 = 0 := c9
    rw [hU] at c9
    have hU0 : 0 < U := Nat.pos_of_ne_zero (fun q => c9 (by rw [q]; rfl))
    refine aw_iload_n d_M_keep_12 rfl rfl ?_
    refine aw_if_lt (tgt := 21) d_M_keep_13 (by decide) (fun c13 => ?_) (fun c13 => ?_)
    · refine aw_iconst (v := 0) d_M_keep_21 (by decide) ?_
      refine aw_zret ?_ rfl rfl d_M_keep_22
      have hno : ¬ mKeepOk U a := by
        rintro ⟨q1, q2, q3⟩
        first | exact absurd q3 c18 | exact absurd c13 (Int32.not_lt.mpr q2) | (have c9 : s.1 1 = 0 := c9; rw [hU] at c9; exact absurd ((nI_eq (a := U) (b := 0) (by omega) (by omega)).mp c9) (by omega))
      rw [if_neg hno, zI, if_neg hno]
      exact ⟨rfl, hR2, hF2⟩
    · refine aw_iload_n d_M_keep_16 rfl rfl ?_
      refine aw_iconst (v := 3) d_M_keep_17 (by decide) ?_
      refine aw_icmp_le (tgt := 23) d_M_keep_18 (by decide) (fun c18 => ?_) (fun c18 => ?_)
      · obtain ⟨i, hi, rfl⟩ := nI_of2 (n := 3) (by decide) c13 c18
        have hci := nI_clamp (n := i) (by omega)
        first | refine aw_aload_n d_M_keep_23 rfl rfl ?_ | refine aw_aload_nQ d_M_keep_23 rfl rfl ?_ | refine aw_aload_nN d_M_keep_23 rfl rfl ?_
        refine aM_get (by assumption) fl_M_13 (by decide) rfl d_M_keep_24 ?_
        first | refine aw_aload_n d_M_keep_27 rfl rfl ?_ | refine aw_aload_nQ d_M_keep_27 rfl rfl ?_ | refine aw_aload_nN d_M_keep_27 rfl rfl ?_
        refine aw_iload_n d_M_keep_28 rfl rfl ?_
        refine aw_callV (c_M_own G _ m _ (by assumption) _) cl_M (mR.obj (by assumption)) m_M_own ml_M_150 rfl rfl (by decide) (by decide) (Nat.le_of_ble_eq_true rfl) d_M_keep_29 ?_
        rintro v h' ⟨rfl, rfl⟩
        have eo : 4 * ((va_up s.1 0 0, s.2).1 1 - 1) + nI i = nI (4 * (U - 1) + i) := by
          show 4 * (s.1 1 - 1) + nI i = _
          rw [hU, ax_own hU0]
        refine aw_iconst (v := 1) d_M_keep_32 (by decide) ?_
        refine aM_zast (by assumption) (by decide) rfl eo (show 4 * (U - 1) + i < 128 by omega) (by decide) d_M_keep_33 (fun g33 hR33 hF33 => ?_)
        refine aw_iconst (v := 1) d_M_keep_34 (by decide) ?_
        refine aw_zret ?_ rfl rfl d_M_keep_35
        have hyes : mKeepOk U (nI i) := ⟨hU0, Int32.not_lt.mp c13, c18⟩
        rw [if_pos hyes, zI, if_pos hyes, hci]
        exact ⟨rfl, hR33, hF2.tr hF33⟩
      · refine aw_iconst (v := 0) d_M_keep_21 (by decide) ?_
        refine aw_zret ?_ rfl rfl d_M_keep_22
        have hno : ¬ mKeepOk U a := by
          rintro ⟨q1, q2, q3⟩
          first | exact absurd q3 c18 | exact absurd c13 (Int32.not_lt.mpr q2) | (have c9 : s.1 1 = 0 := c9; rw [hU] at c9; exact absurd ((nI_eq (a := U) (b := 0) (by omega) (by omega)).mp c9) (by omega))
        rw [if_neg hno, zI, if_neg hno]
        exact ⟨rfl, hR2, hF2⟩
end
section
/-- of what begins at a: the latest of the first k -/
def mLineL (f g : Nat → Int32) (a : Int32) : Nat → Int32
  | 0 => -1
  | k + 1 => if f k = a then g k else mLineL f g a k
def mLine (s : mSt) (a : Int32) (K : Nat) : Int32 := if s.1 38 = 0 then -1 else mLineL (s.2.1 34) (s.2.1 35) a K
theorem ax_dec (z : Int32) : z + Int32.ofInt (-1) = z - 1 := by rw [Int32.sub_eq_add_neg]; rfl
theorem ax_inc (k : Nat) : nI k + Int32.ofInt 1 = nI (k + 1) := nI_1 k
set_option maxRecDepth 20000 in
theorem l_M_line {G : ax_G} {x : ax_X} {fr lo : Nat} {h0 h : ax_H} {P : Option Value → ax_H → Prop} {m : Nat} {s : mSt} (hR : mR m s h) (a : Int32) (K : Nat) (hKb : K ≤ 8192) (hp : ∀ v, v = some (.int (mLine s a K)) → P v h) : ∀ k, k ≤ K → (s.1 38 = 0 ∨ mLineL (s.2.1 34) (s.2.1 35) a K = mLineL (s.2.1 34) (s.2.1 35) a k) → AW G x Y_M_line fr lo h0 P h 12 [some (.ref m), some (.int a), some (.int (nI k - 1))] [] := by
  intro k
  induction k with
  | zero =>
    intro hk he
    refine aw_iload_n d_M_line_12 rfl rfl ?_
    refine aw_if_lt (tgt := 46) d_M_line_13 (by decide) (fun c13 => ?_) (fun c13 => ?_)
    · refine aw_iconst (v := (-1)) d_M_line_46 (by decide) ?_
      refine aw_iret ?_ rfl d_M_line_47
      refine hp _ ?_
      rw [mLine]
      rcases he with he | he
      · rw [if_pos he]
      · split
        · rfl
        · rw [he]; rfl
    · exact absurd (by decide) c13
  | succ k ih =>
    intro hk he
    refine aw_ls (ls' := [some (.ref m), some (.int a), some (.int (nI k))]) (by rw [nI_pred]) ?_
    refine aw_iload_n d_M_line_12 rfl rfl ?_
    refine aw_if_lt (tgt := 46) d_M_line_13 (by decide) (fun c13 => ?_) (fun c13 => ?_)
    · exact absurd c13 (nI_pos (by omega))
    · first | refine aw_aload_n d_M_line_16 rfl rfl ?_ | refine aw_aload_nQ d_M_line_16 rfl rfl ?_ | refine aw_aload_nN d_M_line_16 rfl rfl ?_
      refine aM_get (by assumption) fl_M_224 (by decide) rfl d_M_line_17 ?_
      refine aw_if_eq (tgt := 46) d_M_line_20 (by decide) (fun c20 => ?_) (fun c20 => ?_)
      · refine aw_iconst (v := (-1)) d_M_line_46 (by decide) ?_
        refine aw_iret ?_ rfl d_M_line_47
        refine hp _ ?_
        rw [mLine, if_pos c20]
      · first | refine aw_aload_n d_M_line_23 rfl rfl ?_ | refine aw_aload_nQ d_M_line_23 rfl rfl ?_ | refine aw_aload_nN d_M_line_23 rfl rfl ?_
        refine aM_get (by assumption) fl_M_117 (by decide) rfl d_M_line_24 ?_
        refine aw_iload_n d_M_line_27 rfl rfl ?_
        refine aM_iald (by assumption) (by decide) rfl rfl (show k < 8192 by omega) (by decide) d_M_line_28 ?_
        refine aw_iload_n d_M_line_29 rfl rfl ?_
        refine aw_icmp_ne (tgt := 40) d_M_line_30 (by decide) (fun c30 => ?_) (fun c30 => ?_)
        · refine aw_iinc (v := nI k - 1) d_M_line_40 rfl (ax_dec _) (by decide) rfl ?_
          refine aw_goto (tgt := 12) d_M_line_43 (by decide) ?_
          refine aw_ls (ls' := [some (.ref m), some (.int a), some (.int (nI k - 1))]) rfl ?_
          exact ih (by omega) (he.elim Or.inl (fun q => Or.inr (by rw [q, mLineL, if_neg c30])))
        · first | refine aw_aload_n d_M_line_33 rfl rfl ?_ | refine aw_aload_nQ d_M_line_33 rfl rfl ?_ | refine aw_aload_nN d_M_line_33 rfl rfl ?_
          refine aM_get (by assumption) fl_M_120 (by decide) rfl d_M_line_34 ?_
          refine aw_iload_n d_M_line_37 rfl rfl ?_
          refine aM_iald (by assumption) (by decide) rfl rfl (show k < 8192 by omega) (by decide) d_M_line_38 ?_
          refine aw_iret ?_ rfl d_M_line_39
          refine hp _ ?_
          rcases he with he | he
          · exact absurd he c20
          · rw [mLine, if_neg c20, he, mLineL, if_pos c30]
set_option maxRecDepth 20000 in
theorem c_M_line (G : ax_G) (h : ax_H) (m : Nat) (s : mSt) (hR : mR m s h) (K : Nat) (hK : s.1 43 = nI K) (hKb : K ≤ 8192) (a : Int32) : AM G Y_M_line 0 0 [.ref m, .int a] h (fun v h2 => v = some (.int (mLine s a K)) ∧ mR m (va_up s.1 0 0, s.2) h2 ∧ mFr m h h2) := by
  refine aw_enter (by decide) (Nat.le_of_ble_eq_true rfl) (n := 1) (ls := [some (.ref m), some (.int a), none]) rfl (fun x => ?_)
  first | refine aw_aload_n d_M_line_0 rfl rfl ?_ | refine aw_aload_nQ d_M_line_0 rfl rfl ?_ | refine aw_aload_nN d_M_line_0 rfl rfl ?_
  refine aw_iconst (v := 0) d_M_line_1 (by decide) ?_
  refine aM_put (by assumption) fl_M_123 (by decide) rfl rfl rfl rfl d_M_line_2 (fun g2 hR2 hF2 => ?_)
  first | refine aw_aload_n d_M_line_5 rfl rfl ?_ | refine aw_aload_nQ d_M_line_5 rfl rfl ?_ | refine aw_aload_nN d_M_line_5 rfl rfl ?_
  refine aM_get (by assumption) fl_M_234 (by decide) rfl d_M_line_6 ?_
  refine aw_iconst (v := 1) d_M_line_9 (by decide) ?_
  refine aw_isub d_M_line_10 ?_
  refine aw_istore_n d_M_line_11 rfl (by decide) rfl ?_
  have e43 : (va_up s.1 0 0, s.2).1 43 = nI K := hK
  rw [e43]
  refine l_M_line hR2 a K hKb ?_ K (Nat.le_refl _) (Or.inr rfl)
  rintro v rfl
  refine ⟨rfl, hR2, hF2⟩
/-- the first of the image's names from k on, n of them -/
def mAddrL (f : Nat → Int32) (g : Nat → Int64) (r : Nat → Int32) (w : Int64) (a : Int32) : Nat → Nat → Option Int32
  | _, 0 => none
  | k, n + 1 => if f k = a ∧ g k = w then some (r k) else mAddrL f g r w a (k + 1) n
def mAddr (s : mSt) (w : Int64) (a : Int32) (K : Nat) : Option Int32 := if s.1 38 = 0 ∨ a < 1 ∨ 8 < a then none else mAddrL (s.2.1 32) (s.2.2 31) (s.2.1 33) (mCut w a) a 0 K
/-- its answer, and the mark that it threw -/
def mAddrR (r : Option Int32) : Int32 × Int32 := match r with
  | none => (1, 0)
  | some v => (0, v)
set_option maxRecDepth 20000 in
theorem l_M_address {G : ax_G} {x : ax_X} {h0 h : ax_H} {P : Option Value → ax_H → Prop} {m : Nat} {s : mSt} (hR : mR m s h) (w : Int64) (a : Int32) (K : Nat) (hK : s.1 42 = nI K) (hKb : K ≤ 2048) (hp : ∀ h2, mR m (va_up s.1 0 (mAddrR (mAddr s w a K)).1, s.2) h2 → mFr m h h2 → P (some (.int (mAddrR (mAddr s w a K)).2)) h2) : ∀ n k, k + n = K → (s.1 38 = 0 ∨ a < 1 ∨ 8 < a ∨ mAddrL (s.2.1 32) (s.2.2 31) (s.2.1 33) (mCut w a) a 0 K = mAddrL (s.2.1 32) (s.2.2 31) (s.2.1 33) (mCut w a) a k n) → AW G x Y_M_address 1 24 h0 P h 3 [some (.ref m), some (.long w), none, some (.int a), some (.int (nI k))] [] := by
  intro n
  induction n with
  | zero =>
    intro k hk he
    have e : mAddr s w a K = none := by
      rw [mAddr]
      split
      · rfl
      · next q => rcases he with he | he | he | he
                  · exact absurd (Or.inl he) q
                  · exact absurd (Or.inr (Or.inl he)) q
                  · exact absurd (Or.inr (Or.inr he)) q
                  · rw [he]; rfl
    have hkk : k = K := by omega
    subst hkk
    refine aw_iload d_M_address_3 rfl ?_
    first | refine aw_aload_n d_M_address_5 rfl rfl ?_ | refine aw_aload_nQ d_M_address_5 rfl rfl ?_ | refine aw_aload_nN d_M_address_5 rfl rfl ?_
    refine aM_get (by assumption) fl_M_231 (by decide) rfl d_M_address_6 ?_
    refine aw_icmp_ge (tgt := 76) d_M_address_9 (by decide) (fun c9 => ?_) (fun c9 => ?_)
    · first | refine aw_aload_n d_M_address_76 rfl rfl ?_ | refine aw_aload_nQ d_M_address_76 rfl rfl ?_ | refine aw_aload_nN d_M_address_76 rfl rfl ?_
      refine aw_iconst (v := 1) d_M_address_77 (by decide) ?_
      refine aw_iconst (v := 0) d_M_address_78 (by decide) ?_
      refine aw_callV (c_M_give G _ m s (by assumption) _ _) cl_M (mR.obj (by assumption)) m_M_give ml_M_210 rfl rfl (by decide) (by decide) (Nat.le_of_ble_eq_true rfl) d_M_address_79 ?_
      rintro v h' ⟨rfl, hRg, hFg⟩
      refine aw_iret ?_ rfl d_M_address_82
      have hp := hp h'
      rw [e] at hp
      exact hp hRg hFg
    · exact absurd (show s.1 42 ≤ nI k by rw [hK]; exact nI_le (Nat.le_refl _) (by omega)) c9
  | succ n ih =>
    intro k hk he
    refine aw_iload d_M_address_3 rfl ?_
    first | refine aw_aload_n d_M_address_5 rfl rfl ?_ | refine aw_aload_nQ d_M_address_5 rfl rfl ?_ | refine aw_aload_nN d_M_address_5 rfl rfl ?_
    refine aM_get (by assumption) fl_M_231 (by decide) rfl d_M_address_6 ?_
    refine aw_icmp_ge (tgt := 76) d_M_address_9 (by decide) (fun c9 => ?_) (fun c9 => ?_)
    · exact absurd c9 (by rw [show s.1 42 = nI K from hK]; exact nI_ge (by omega) (by omega))
    · first | refine aw_aload_n d_M_address_12 rfl rfl ?_ | refine aw_aload_nQ d_M_address_12 rfl rfl ?_ | refine aw_aload_nN d_M_address_12 rfl rfl ?_
      refine aM_get (by assumption) fl_M_224 (by decide) rfl d_M_address_13 ?_
      refine aw_if_eq (tgt := 76) d_M_address_16 (by decide) (fun c16 => ?_) (fun c16 => ?_)
      · first | refine aw_aload_n d_M_address_76 rfl rfl ?_ | refine aw_aload_nQ d_M_address_76 rfl rfl ?_ | refine aw_aload_nN d_M_address_76 rfl rfl ?_
        refine aw_iconst (v := 1) d_M_address_77 (by decide) ?_
        refine aw_iconst (v := 0) d_M_address_78 (by decide) ?_
        refine aw_callV (c_M_give G _ m s (by assumption) _ _) cl_M (mR.obj (by assumption)) m_M_give ml_M_210 rfl rfl (by decide) (by decide) (Nat.le_of_ble_eq_true rfl) d_M_address_79 ?_
        rintro v h' ⟨rfl, hRg, hFg⟩
        refine aw_iret ?_ rfl d_M_address_82
        have e : mAddr s w a K = none := by rw [mAddr, if_pos (Or.inl c16)]
        have hp := hp h'
        rw [e] at hp
        exact hp hRg hFg
      · refine aw_iload_n d_M_address_19 rfl rfl ?_
        refine aw_iconst (v := 1) d_M_address_20 (by decide) ?_
        refine aw_icmp_lt (tgt := 76) d_M_address_21 (by decide) (fun c21 => ?_) (fun c21 => ?_)
        · first | refine aw_aload_n d_M_address_76 rfl rfl ?_ | refine aw_aload_nQ d_M_address_76 rfl rfl ?_ | refine aw_aload_nN d_M_address_76 rfl rfl ?_
          refine aw_iconst (v := 1) d_M_address_77 (by decide) ?_
          refine aw_iconst (v := 0) d_M_address_78 (by decide) ?_
          refine aw_callV (c_M_give G _ m s (by assumption) _ _) cl_M (mR.obj (by assumption)) m_M_give ml_M_210 rfl rfl (by decide) (by decide) (Nat.le_of_ble_eq_true rfl) d_M_address_79 ?_
          rintro v h' ⟨rfl, hRg, hFg⟩
          refine aw_iret ?_ rfl d_M_address_82
          have e : mAddr s w a K = none := by rw [mAddr, if_pos (Or.inr (Or.inl c21))]
          have hp := hp h'
          rw [e] at hp
          exact hp hRg hFg
        · refine aw_iload_n d_M_address_24 rfl rfl ?_
          refine aw_bipush (v := 8) d_M_address_25 (by decide) ?_
          refine aw_icmp_gt (tgt := 76) d_M_address_27 (by decide) (fun c27 => ?_) (fun c27 => ?_)
          · first | refine aw_aload_n d_M_address_76 rfl rfl ?_ | refine aw_aload_nQ d_M_address_76 rfl rfl ?_ | refine aw_aload_nN d_M_address_76 rfl rfl ?_
            refine aw_iconst (v := 1) d_M_address_77 (by decide) ?_
            refine aw_iconst (v := 0) d_M_address_78 (by decide) ?_
            refine aw_callV (c_M_give G _ m s (by assumption) _ _) cl_M (mR.obj (by assumption)) m_M_give ml_M_210 rfl rfl (by decide) (by decide) (Nat.le_of_ble_eq_true rfl) d_M_address_79 ?_
            rintro v h' ⟨rfl, hRg, hFg⟩
            refine aw_iret ?_ rfl d_M_address_82
            have e : mAddr s w a K = none := by rw [mAddr, if_pos (Or.inr (Or.inr c27))]
            have hp := hp h'
            rw [e] at hp
            exact hp hRg hFg
          · first | refine aw_aload_n d_M_address_30 rfl rfl ?_ | refine aw_aload_nQ d_M_address_30 rfl rfl ?_ | refine aw_aload_nN d_M_address_30 rfl rfl ?_
            refine aM_get (by assumption) fl_M_111 (by decide) rfl d_M_address_31 ?_
            refine aw_iload d_M_address_34 rfl ?_
            refine aM_iald (by assumption) (by decide) rfl rfl (show k < 2048 by omega) (by decide) d_M_address_36 ?_
            refine aw_iload_n d_M_address_37 rfl rfl ?_
            refine aw_icmp_ne (tgt := 70) d_M_address_38 (by decide) (fun c38 => ?_) (fun c38 => ?_)
            · refine aw_iinc (v := nI (k + 1)) d_M_address_70 rfl (ax_inc k) (by decide) rfl ?_
              refine aw_goto (tgt := 3) d_M_address_73 (by decide) ?_
              refine ih (k + 1) (by omega) (Or.inr (Or.inr (Or.inr ?_)))
              rw [(he.resolve_left c16).resolve_left c21 |>.resolve_left c27, mAddrL, if_neg]
              first | exact fun q => c38 q.1 | exact fun q => c54 ((lg_cmp_eq _ _).mpr q.2)
            · first | refine aw_aload_n d_M_address_41 rfl rfl ?_ | refine aw_aload_nQ d_M_address_41 rfl rfl ?_ | refine aw_aload_nN d_M_address_41 rfl rfl ?_
              refine aM_get (by assumption) fl_M_108 (by decide) rfl d_M_address_42 ?_
              refine aw_iload d_M_address_45 rfl ?_
              refine aM_lald (by assumption) (by decide) rfl rfl (show k < 2048 by omega) (by decide) d_M_address_47 ?_
              refine aw_lload_n d_M_address_48 rfl rfl ?_
              refine aw_iload_n d_M_address_49 rfl rfl ?_
              refine aw_callS (c_M_cut G _ w a) m_M_cut ml_M_161 rfl rfl (by decide) (by decide) (Nat.le_of_ble_eq_true rfl) d_M_address_50 ?_
              rintro v h' ⟨rfl, rfl⟩
              refine aw_lcmp d_M_address_53 ?_
              refine aw_if_ne (tgt := 70) d_M_address_54 (by decide) (fun c54 => ?_) (fun c54 => ?_)
              · refine aw_iinc (v := nI (k + 1)) d_M_address_70 rfl (ax_inc k) (by decide) rfl ?_
                refine aw_goto (tgt := 3) d_M_address_73 (by decide) ?_
                refine ih (k + 1) (by omega) (Or.inr (Or.inr (Or.inr ?_)))
                rw [(he.resolve_left c16).resolve_left c21 |>.resolve_left c27, mAddrL, if_neg]
                first | exact fun q => c38 q.1 | exact fun q => c54 ((lg_cmp_eq _ _).mpr q.2)
              · first | refine aw_aload_n d_M_address_57 rfl rfl ?_ | refine aw_aload_nQ d_M_address_57 rfl rfl ?_ | refine aw_aload_nN d_M_address_57 rfl rfl ?_
                refine aw_iconst (v := 0) d_M_address_58 (by decide) ?_
                first | refine aw_aload_n d_M_address_59 rfl rfl ?_ | refine aw_aload_nQ d_M_address_59 rfl rfl ?_ | refine aw_aload_nN d_M_address_59 rfl rfl ?_
                refine aM_get (by assumption) fl_M_114 (by decide) rfl d_M_address_60 ?_
                refine aw_iload d_M_address_63 rfl ?_
                refine aM_iald (by assumption) (by decide) rfl rfl (show k < 2048 by omega) (by decide) d_M_address_65 ?_
                refine aw_callV (c_M_give G _ m s (by assumption) _ _) cl_M (mR.obj (by assumption)) m_M_give ml_M_210 rfl rfl (by decide) (by decide) (Nat.le_of_ble_eq_true rfl) d_M_address_66 ?_
                rintro v h' ⟨rfl, hRg, hFg⟩
                refine aw_iret ?_ rfl d_M_address_69
                have e : mAddr s w a K = some (s.2.1 33 k) := by rw [mAddr, if_neg (fun q => q.elim c16 (fun q => q.elim c21 c27)), (he.resolve_left c16).resolve_left c21 |>.resolve_left c27, mAddrL, if_pos ⟨c38, (lg_cmp_eq _ _).mp c54⟩]
                have hp := hp h'
                rw [e] at hp
                exact hp hRg hFg
set_option maxRecDepth 20000 in
theorem c_M_address (G : ax_G) (h : ax_H) (m : Nat) (s : mSt) (hR : mR m s h) (w : Int64) (a : Int32) (K : Nat) (hK : s.1 42 = nI K) (hKb : K ≤ 2048) : AM G Y_M_address 1 24 [.ref m, .long w, .int a] h (fun v h2 => v = some (.int (mAddrR (mAddr s w a K)).2) ∧ mR m (va_up s.1 0 (mAddrR (mAddr s w a K)).1, s.2) h2 ∧ mFr m h h2) := by
  refine aw_enter (by decide) (Nat.le_of_ble_eq_true rfl) (n := 1) (ls := [some (.ref m), some (.long w), none, some (.int a), none]) rfl (fun x => ?_)
  refine aw_iconst (v := 0) d_M_address_0 (by decide) ?_
  refine aw_istore d_M_address_1 (by decide) rfl ?_
  exact l_M_address hR w a K hK hKb (fun h2 q1 q2 => ⟨rfl, q1, q2⟩) K 0 (by omega) (Or.inr (Or.inr (Or.inr rfl)))
end
section
/-- sections: sizes and begins -/
def mI1 (s : mSt) (e : Nat → Nat → Nat) (U B : Nat) : Prop := ∀ q, q < 4 * U → (s.2.1 5 q = nI (e 5 q) ∧ e 5 q ≤ 65536) ∧ s.2.1 6 q = nI (e 6 q) ∧ e 6 q + (if q % 4 < 3 then e 5 q else 0) ≤ B
theorem ax_le3 {a b c : Nat} (ha : a < 2 ^ 31) (hb : b ≤ 65536) (hc : c ≤ 65536) (h : nI a ≤ nI c - nI b) : a + b ≤ c := by
  rw [Int32.le_iff_toInt_le, pk_sub_toInt (by omega) (by omega), nI_toInt ha] at h
  omega
theorem mA.same {m : Nat} {s t : mSt} (e1 : s.1 = t.1) (e2 : ∀ k, s.2.1 k = t.2.1 k) (e3 : ∀ k, s.2.2 k = t.2.2 k) (k : Nat) : mA m s k = mA m t k := by
  obtain ⟨a, b, c⟩ := s
  obtain ⟨a', b', c'⟩ := t
  obtain rfl : a = a' := e1
  obtain rfl : b = b' := funext e2
  obtain rfl : c = c' := funext e3
  rfl
theorem mR.same {m : Nat} {a : Nat → Int32} {b b' : Nat → Nat → Int32} {c c' : Nat → Nat → Int64} {h : ax_H} (hR : mR m (a, b, c) h) (e2 : ∀ k, b' k = b k) (e3 : ∀ k, c' k = c k) : mR m (a, b', c') h := fun k hk => (hR k hk).trans (by rw [mA.same (s := (a, b', c')) (t := (a, b, c)) rfl e2 e3 k])
abbrev mLies (s : mSt) (U : Nat) (a p n : Int32) : Prop := 0 < U ∧ 0 ≤ a ∧ a < 3 ∧ 0 ≤ p ∧ p ≤ s.2.1 5 (4 * (U - 1) + a.toNatClampNeg) - n
theorem ax_n1 (n : Nat) (hn : 0 < n) : nI n - 1 = nI (n - 1) := by rw [show (1 : Int32) = nI 1 from rfl, pk_sub (by omega)]
set_option maxRecDepth 20000 in
theorem c_M_lies (G : ax_G) (h : ax_H) (m : Nat) (s : mSt) (hR : mR m s h) (U : Nat) (hU : s.1 1 = nI U) (hUb : U ≤ 32) (a p n : Int32) : AM G Y_M_lies 1 21 [.ref m, .int a, .int p, .int n] h (fun v h2 => h2 = h ∧ v = some (.int (zI (mLies s U a p n)))) := by
  refine aw_enter (by decide) (Nat.le_of_ble_eq_true rfl) (n := 0) (ls := [some (.ref m), some (.int a), some (.int p), some (.int n)]) rfl (fun x => ?_)
  first | refine aw_aload_n d_M_lies_0 rfl rfl ?_ | refine aw_aload_nQ d_M_lies_0 rfl rfl ?_ | refine aw_aload_nN d_M_lies_0 rfl rfl ?_
  refine aM_get (by assumption) fl_M_126 (by decide) rfl d_M_lies_1 ?_
  refine aw_if_le (tgt := 40) d_M_lies_4 (by decide) (fun c4 => ?_) (fun c4 => ?_)
  · refine aw_iconst (v := 0) d_M_lies_40 (by decide) ?_
    refine aw_zret ?_ rfl rfl d_M_lies_41
    refine ⟨rfl, ?_⟩
    rw [zI, if_neg (fun q => absurd c4 (by rw [hU]; exact nI_nle q.1 (by omega)))]
  · refine aw_iload_n d_M_lies_7 rfl rfl ?_
    refine aw_if_lt (tgt := 40) d_M_lies_8 (by decide) (fun c8 => ?_) (fun c8 => ?_)
    · refine aw_iconst (v := 0) d_M_lies_40 (by decide) ?_
      refine aw_zret ?_ rfl rfl d_M_lies_41
      refine ⟨rfl, ?_⟩
      rw [zI, if_neg (fun q => absurd c8 (Int32.not_lt.mpr q.2.1))]
    · refine aw_iload_n d_M_lies_11 rfl rfl ?_
      refine aw_iconst (v := 3) d_M_lies_12 (by decide) ?_
      refine aw_icmp_ge (tgt := 40) d_M_lies_13 (by decide) (fun c13 => ?_) (fun c13 => ?_)
      · refine aw_iconst (v := 0) d_M_lies_40 (by decide) ?_
        refine aw_zret ?_ rfl rfl d_M_lies_41
        refine ⟨rfl, ?_⟩
        rw [zI, if_neg (fun q => absurd q.2.2.1 (Int32.not_lt.mpr c13))]
      · refine aw_iload_n d_M_lies_16 rfl rfl ?_
        refine aw_if_lt (tgt := 40) d_M_lies_17 (by decide) (fun c17 => ?_) (fun c17 => ?_)
        · refine aw_iconst (v := 0) d_M_lies_40 (by decide) ?_
          refine aw_zret ?_ rfl rfl d_M_lies_41
          refine ⟨rfl, ?_⟩
          rw [zI, if_neg (fun q => absurd c17 (Int32.not_lt.mpr q.2.2.2.1))]
        · have hU0 : 0 < U := Nat.pos_of_ne_zero (fun q => c4 (by rw [hU, q]; decide))
          obtain ⟨i, hi, rfl⟩ := ax_ix (M := 3) (by decide) c8 c13
          have hci := nI_clamp (n := i) (by omega)
          refine aw_iload_n d_M_lies_20 rfl rfl ?_
          first | refine aw_aload_n d_M_lies_21 rfl rfl ?_ | refine aw_aload_nQ d_M_lies_21 rfl rfl ?_ | refine aw_aload_nN d_M_lies_21 rfl rfl ?_
          refine aM_get (by assumption) fl_M_22 (by decide) rfl d_M_lies_22 ?_
          first | refine aw_aload_n d_M_lies_25 rfl rfl ?_ | refine aw_aload_nQ d_M_lies_25 rfl rfl ?_ | refine aw_aload_nN d_M_lies_25 rfl rfl ?_
          refine aw_iload_n d_M_lies_26 rfl rfl ?_
          refine aw_callV (c_M_own G _ m _ (by assumption) _) cl_M (mR.obj (by assumption)) m_M_own ml_M_150 rfl rfl (by decide) (by decide) (Nat.le_of_ble_eq_true rfl) d_M_lies_27 ?_
          rintro v h' ⟨rfl, rfl⟩
          have eo : 4 * (s.1 1 - 1) + nI i = nI (4 * (U - 1) + i) := by rw [hU, ax_own hU0]
          refine aM_iald (by assumption) (by decide) rfl eo (show 4 * (U - 1) + i < 128 by omega) (by decide) d_M_lies_30 ?_
          refine aw_iload_n d_M_lies_31 rfl rfl ?_
          refine aw_isub d_M_lies_32 ?_
          refine aw_icmp_gt (tgt := 40) d_M_lies_33 (by decide) (fun c33 => ?_) (fun c33 => ?_)
          · refine aw_iconst (v := 0) d_M_lies_40 (by decide) ?_
            refine aw_zret ?_ rfl rfl d_M_lies_41
            refine ⟨rfl, ?_⟩
            rw [zI, if_neg (fun q => absurd c33 (Int32.not_lt.mpr (by have z := q.2.2.2.2; rw [hci] at z; exact z)))]
          · refine aw_iconst (v := 1) d_M_lies_36 (by decide) ?_
            refine aw_goto (tgt := 41) d_M_lies_37 (by decide) ?_
            refine aw_zret ?_ rfl rfl d_M_lies_41
            refine ⟨rfl, ?_⟩
            rw [zI, if_pos ⟨hU0, Int32.not_lt.mp c8, Int32.not_le.mp c13, Int32.not_lt.mp c17, by rw [hci]; exact Int32.not_lt.mp c33⟩]
abbrev mStartOk (s : mSt) (U T : Nat) (p l : Int32) : Prop := 0 < U ∧ 0 ≤ p ∧ p < s.2.1 5 (4 * (U - 1)) ∧ (0 ≤ l ∧ l ≤ 65535) ∧ ¬ T = 8192
def mStart (s : mSt) (U T : Nat) (p l : Int32) : mSt := if mStartOk s U T p l then (va_up (va_up s.1 0 0) 4 (s.1 4 + 1), va_up (va_up (va_up s.2.1 25 (va_up (s.2.1 25) T (s.1 1 - 1))) 26 (va_up (s.2.1 26) T p)) 27 (va_up (s.2.1 27) T l), s.2.2) else (va_up s.1 0 0, s.2)
set_option maxRecDepth 20000 in
theorem c_M_start (G : ax_G) (h : ax_H) (m : Nat) (s : mSt) (hR : mR m s h) (U T : Nat) (hU : s.1 1 = nI U) (hUb : U ≤ 32) (hT : s.1 4 = nI T) (hTb : T ≤ 8192) (p l : Int32) : AM G Y_M_start 1 21 [.ref m, .int p, .int l] h (fun v h2 => v = some (.int (zI (mStartOk s U T p l))) ∧ mR m (mStart s U T p l) h2 ∧ mFr m h h2) := by
  refine aw_enter (by decide) (Nat.le_of_ble_eq_true rfl) (n := 0) (ls := [some (.ref m), some (.int p), some (.int l)]) rfl (fun x => ?_)
  first | refine aw_aload_n d_M_start_0 rfl rfl ?_ | refine aw_aload_nQ d_M_start_0 rfl rfl ?_ | refine aw_aload_nN d_M_start_0 rfl rfl ?_
  refine aw_iconst (v := 0) d_M_start_1 (by decide) ?_
  refine aM_put (by assumption) fl_M_123 (by decide) rfl rfl rfl rfl d_M_start_2 (fun g2 hR2 hF2 => ?_)
  first | refine aw_aload_n d_M_start_5 rfl rfl ?_ | refine aw_aload_nQ d_M_start_5 rfl rfl ?_ | refine aw_aload_nN d_M_start_5 rfl rfl ?_
  refine aM_get (by assumption) fl_M_126 (by decide) rfl d_M_start_6 ?_
  refine aw_if_eq (tgt := 47) d_M_start_9 (by decide) (fun c9 => ?_) (fun c9 => ?_)
  · refine aw_iconst (v := 0) d_M_start_47 (by decide) ?_
    refine aw_zret ?_ rfl rfl d_M_start_48
    have hno : ¬ mStartOk s U T p l := fun q => absurd ((nI_eq (a := U) (b := 0) (by omega) (by omega)).mp (by rw [← hU]; exact c9)) (by have := q.1; omega)
    rw [mStart, if_neg hno, zI, if_neg hno]
    exact ⟨rfl, hR2, hF2⟩
  · have hU0 : 0 < U := Nat.pos_of_ne_zero (fun q => c9 (by show s.1 1 = 0; rw [hU, q]; rfl))
    refine aw_iload_n d_M_start_12 rfl rfl ?_
    refine aw_if_lt (tgt := 47) d_M_start_13 (by decide) (fun c13 => ?_) (fun c13 => ?_)
    · refine aw_iconst (v := 0) d_M_start_47 (by decide) ?_
      refine aw_zret ?_ rfl rfl d_M_start_48
      have hno : ¬ mStartOk s U T p l := fun q => absurd c13 (Int32.not_lt.mpr q.2.1)
      rw [mStart, if_neg hno, zI, if_neg hno]
      exact ⟨rfl, hR2, hF2⟩
    · refine aw_iload_n d_M_start_16 rfl rfl ?_
      first | refine aw_aload_n d_M_start_17 rfl rfl ?_ | refine aw_aload_nQ d_M_start_17 rfl rfl ?_ | refine aw_aload_nN d_M_start_17 rfl rfl ?_
      refine aM_get (by assumption) fl_M_22 (by decide) rfl d_M_start_18 ?_
      first | refine aw_aload_n d_M_start_21 rfl rfl ?_ | refine aw_aload_nQ d_M_start_21 rfl rfl ?_ | refine aw_aload_nN d_M_start_21 rfl rfl ?_
      refine aw_iconst (v := 0) d_M_start_22 (by decide) ?_
      refine aw_callV (c_M_own G _ m _ (by assumption) _) cl_M (mR.obj (by assumption)) m_M_own ml_M_150 rfl rfl (by decide) (by decide) (Nat.le_of_ble_eq_true rfl) d_M_start_23 ?_
      rintro v h' ⟨rfl, rfl⟩
      have eo : 4 * ((va_up s.1 0 0, s.2).1 1 - 1) + 0 = nI (4 * (U - 1)) := by
        show 4 * (s.1 1 - 1) + nI 0 = _
        rw [hU, ax_own hU0, Nat.add_zero]
      refine aM_iald (by assumption) (by decide) rfl eo (show 4 * (U - 1) < 128 by omega) (by decide) d_M_start_26 ?_
      refine aw_icmp_ge (tgt := 47) d_M_start_27 (by decide) (fun c27 => ?_) (fun c27 => ?_)
      · refine aw_iconst (v := 0) d_M_start_47 (by decide) ?_
        refine aw_zret ?_ rfl rfl d_M_start_48
        have hno : ¬ mStartOk s U T p l := fun q => absurd c27 (Int32.not_le.mpr q.2.2.1)
        rw [mStart, if_neg hno, zI, if_neg hno]
        exact ⟨rfl, hR2, hF2⟩
      · refine aw_iload_n d_M_start_30 rfl rfl ?_
        refine aw_callS (c_M_isLine G _ l) m_M_isLine ml_M_158 rfl rfl (by decide) (by decide) (Nat.le_of_ble_eq_true rfl) d_M_start_31 ?_
        rintro v h' ⟨rfl, rfl⟩
        refine aw_if_eq (tgt := 47) d_M_start_34 (by decide) (fun c34 => ?_) (fun c34 => ?_)
        · refine aw_iconst (v := 0) d_M_start_47 (by decide) ?_
          refine aw_zret ?_ rfl rfl d_M_start_48
          have hno : ¬ mStartOk s U T p l := fun q => absurd c34 (by rw [zI, if_pos q.2.2.2.1]; decide)
          rw [mStart, if_neg hno, zI, if_neg hno]
          exact ⟨rfl, hR2, hF2⟩
        · first | refine aw_aload_n d_M_start_37 rfl rfl ?_ | refine aw_aload_nQ d_M_start_37 rfl rfl ?_ | refine aw_aload_nN d_M_start_37 rfl rfl ?_
          refine aM_get (by assumption) fl_M_135 (by decide) rfl d_M_start_38 ?_
          refine aw_sipush (v := 8192) d_M_start_41 (by decide) ?_
          refine aw_icmp_ne (tgt := 49) d_M_start_44 (by decide) (fun c44 => ?_) (fun c44 => ?_)
          · have hTl : T < 8192 := Nat.lt_of_le_of_ne hTb (fun q => c44 (by show s.1 4 = 8192; rw [hT, q]; rfl))
            first | refine aw_aload_n d_M_start_49 rfl rfl ?_ | refine aw_aload_nQ d_M_start_49 rfl rfl ?_ | refine aw_aload_nN d_M_start_49 rfl rfl ?_
            refine aM_get (by assumption) fl_M_86 (by decide) rfl d_M_start_50 ?_
            first | refine aw_aload_n d_M_start_53 rfl rfl ?_ | refine aw_aload_nQ d_M_start_53 rfl rfl ?_ | refine aw_aload_nN d_M_start_53 rfl rfl ?_
            refine aM_get (by assumption) fl_M_135 (by decide) rfl d_M_start_54 ?_
            first | refine aw_aload_n d_M_start_57 rfl rfl ?_ | refine aw_aload_nQ d_M_start_57 rfl rfl ?_ | refine aw_aload_nN d_M_start_57 rfl rfl ?_
            refine aM_get (by assumption) fl_M_126 (by decide) rfl d_M_start_58 ?_
            refine aw_iconst (v := 1) d_M_start_61 (by decide) ?_
            refine aw_isub d_M_start_62 ?_
            refine aM_iast (by assumption) (by decide) rfl hT (show T < 8192 from hTl) (by decide) d_M_start_63 (fun g63 hR63 hF63 => ?_)
            first | refine aw_aload_n d_M_start_64 rfl rfl ?_ | refine aw_aload_nQ d_M_start_64 rfl rfl ?_ | refine aw_aload_nN d_M_start_64 rfl rfl ?_
            refine aM_get (by assumption) fl_M_89 (by decide) rfl d_M_start_65 ?_
            first | refine aw_aload_n d_M_start_68 rfl rfl ?_ | refine aw_aload_nQ d_M_start_68 rfl rfl ?_ | refine aw_aload_nN d_M_start_68 rfl rfl ?_
            refine aM_get (by assumption) fl_M_135 (by decide) rfl d_M_start_69 ?_
            refine aw_iload_n d_M_start_72 rfl rfl ?_
            refine aM_iast (by assumption) (by decide) rfl hT (show T < 8192 from hTl) (by decide) d_M_start_73 (fun g73 hR73 hF73 => ?_)
            first | refine aw_aload_n d_M_start_74 rfl rfl ?_ | refine aw_aload_nQ d_M_start_74 rfl rfl ?_ | refine aw_aload_nN d_M_start_74 rfl rfl ?_
            refine aM_get (by assumption) fl_M_92 (by decide) rfl d_M_start_75 ?_
            first | refine aw_aload_n d_M_start_78 rfl rfl ?_ | refine aw_aload_nQ d_M_start_78 rfl rfl ?_ | refine aw_aload_nN d_M_start_78 rfl rfl ?_
            refine aM_get (by assumption) fl_M_135 (by decide) rfl d_M_start_79 ?_
            refine aw_iload_n d_M_start_82 rfl rfl ?_
            refine aM_iast (by assumption) (by decide) rfl hT (show T < 8192 from hTl) (by decide) d_M_start_83 (fun g83 hR83 hF83 => ?_)
            first | refine aw_aload_n d_M_start_84 rfl rfl ?_ | refine aw_aload_nQ d_M_start_84 rfl rfl ?_ | refine aw_aload_nN d_M_start_84 rfl rfl ?_
            refine aw_dup d_M_start_85 rfl ?_
            refine aM_get (by assumption) fl_M_135 (by decide) rfl d_M_start_86 ?_
            refine aw_iconst (v := 1) d_M_start_89 (by decide) ?_
            refine aw_iadd d_M_start_90 ?_
            refine aM_put (by assumption) fl_M_135 (by decide) rfl rfl rfl rfl d_M_start_91 (fun g91 hR91 hF91 => ?_)
            refine aw_iconst (v := 1) d_M_start_94 (by decide) ?_
            refine aw_zret ?_ rfl rfl d_M_start_95
            have hyes : mStartOk s U T p l := ⟨hU0, Int32.not_lt.mp c13, Int32.not_le.mp c27, by
              by_cases q : 0 ≤ l ∧ l ≤ 65535
              · exact q
              · exact absurd (show zI (0 ≤ l ∧ l ≤ 65535) = 0 by rw [zI, if_neg q]) c34, fun q => c44 (by show s.1 4 = 8192; rw [hT, q]; rfl)⟩
            rw [mStart, if_pos hyes, zI, if_pos hyes]
            exact ⟨rfl, hR91, ((((hF2.tr hF63).tr hF73).tr hF83).tr hF91)⟩
          · refine aw_iconst (v := 0) d_M_start_47 (by decide) ?_
            refine aw_zret ?_ rfl rfl d_M_start_48
            have hno : ¬ mStartOk s U T p l := fun q => q.2.2.2.2 ((nI_eq (a := T) (b := 8192) (by omega) (by omega)).mp (by rw [← hT]; exact c44))
            rw [mStart, if_neg hno, zI, if_neg hno]
            exact ⟨rfl, hR2, hF2⟩
/-- byte k of a long, lowest first -/
def mByte (v : Int64) (k : Nat) : Int32 := (v >>> ((8 * nI k).toInt64 &&& 63)).toInt32.toInt8.toInt32
/-- bytes from a place on become the n lowest of v -/
def mPutB (f : Nat → Int32) (a : Nat) (v : Int64) : Nat → Nat → Int32
  | 0 => f
  | k + 1 => va_up (mPutB f a v k) (a + k) (mByte v k)
theorem ax_b8 (x : Int32) : x.toInt8.toInt32.toInt8.toInt32 = x.toInt8.toInt32 := Value.int.inj (pk_nb x)
abbrev mPutOk (s : mSt) (U : Nat) (a p n : Int32) : Prop := (1 ≤ n ∧ n ≤ 8) ∧ mLies s U a p n
def mPut (s : mSt) (U : Nat) (a p : Int32) (v : Int64) (n : Int32) : mSt := if mPutOk s U a p n then (va_up s.1 0 0, va_up s.2.1 8 (mPutB (s.2.1 8) ((s.2.1 6 (4 * (U - 1) + a.toNatClampNeg)).toNatClampNeg + p.toNatClampNeg) v n.toNatClampNeg), s.2.2) else (va_up s.1 0 0, s.2)
set_option maxRecDepth 20000 in
theorem l_M_put {G : ax_G} {x : ax_X} {h0 : ax_H} {P : Option Value → ax_H → Prop} {m : Nat} (s : mSt) (U : Nat) (hU : s.1 1 = nI U) (hU0 : 0 < U) (hUb : U ≤ 32) (i j N b : Nat) (v : Int64) (hi : i < 3) (hN : N ≤ 8) (hbg : s.2.1 6 (4 * (U - 1) + i) = nI b) (hin : b + j + N ≤ 262144) (hq : ax_H) (hp : ∀ h2, mR m (s.1, va_up s.2.1 8 (mPutB (s.2.1 8) (b + j) v N), s.2.2) h2 → mFr m hq h2 → P (some (.int 1)) h2) : ∀ r k h, k + r = N → mR m (s.1, va_up s.2.1 8 (mPutB (s.2.1 8) (b + j) v k), s.2.2) h → mFr m hq h → AW G x Y_M_put 2 44 h0 P h 34 [some (.ref m), some (.int (nI i)), some (.int (nI j)), some (.long v), none, some (.int (nI N)), some (.int (nI k))] [] := by
  intro r
  induction r with
  | zero =>
    intro k h hk hR hF
    have hkk : k = N := by omega
    subst hkk
    refine aw_iload d_M_put_34 rfl ?_
    refine aw_iload d_M_put_36 rfl ?_
    refine aw_icmp_ge (tgt := 76) d_M_put_38 (by decide) (fun c38 => ?_) (fun c38 => ?_)
    · refine aw_iconst (v := 1) d_M_put_76 (by decide) ?_
      refine aw_zret ?_ rfl rfl d_M_put_77
      exact hp _ hR hF
    · exact absurd (nI_le (Nat.le_refl _) (by omega)) c38
  | succ r ih =>
    intro k h hk hR hF
    refine aw_iload d_M_put_34 rfl ?_
    refine aw_iload d_M_put_36 rfl ?_
    refine aw_icmp_ge (tgt := 76) d_M_put_38 (by decide) (fun c38 => ?_) (fun c38 => ?_)
    · exact absurd c38 (nI_ge (by omega) (by omega))
    · first | refine aw_aload_n d_M_put_41 rfl rfl ?_ | refine aw_aload_nQ d_M_put_41 rfl rfl ?_ | refine aw_aload_nN d_M_put_41 rfl rfl ?_
      refine aM_get (by assumption) fl_M_33 (by decide) rfl d_M_put_42 ?_
      first | refine aw_aload_n d_M_put_45 rfl rfl ?_ | refine aw_aload_nQ d_M_put_45 rfl rfl ?_ | refine aw_aload_nN d_M_put_45 rfl rfl ?_
      refine aM_get (by assumption) fl_M_26 (by decide) rfl d_M_put_46 ?_
      first | refine aw_aload_n d_M_put_49 rfl rfl ?_ | refine aw_aload_nQ d_M_put_49 rfl rfl ?_ | refine aw_aload_nN d_M_put_49 rfl rfl ?_
      refine aw_iload_n d_M_put_50 rfl rfl ?_
      refine aw_callV (c_M_own G _ m _ (by assumption) _) cl_M (mR.obj (by assumption)) m_M_own ml_M_150 rfl rfl (by decide) (by decide) (Nat.le_of_ble_eq_true rfl) d_M_put_51 ?_
      rintro v h' ⟨rfl, rfl⟩
      have eo : 4 * (s.1 1 - 1) + nI i = nI (4 * (U - 1) + i) := by rw [hU, ax_own hU0]
      refine aM_iald (by assumption) (by decide) rfl eo (show 4 * (U - 1) + i < 128 by omega) (by decide) d_M_put_54 ?_
      refine aw_iload_n d_M_put_55 rfl rfl ?_
      refine aw_iadd d_M_put_56 ?_
      refine aw_iload d_M_put_57 rfl ?_
      refine aw_iadd d_M_put_59 ?_
      refine aw_lload_n d_M_put_60 rfl rfl ?_
      refine aw_bipush (v := 8) d_M_put_61 (by decide) ?_
      refine aw_iload d_M_put_63 rfl ?_
      refine aw_imul d_M_put_65 ?_
      refine aw_lshr d_M_put_66 ?_
      refine aw_l2i d_M_put_67 ?_
      refine aw_i2b d_M_put_68 ?_
      have ej : s.2.1 6 (4 * (U - 1) + i) + nI j + nI k = nI (b + j + k) := by rw [hbg, nI_add, nI_add]
      refine aM_bast (by assumption) (by decide) rfl ej (show b + j + k < 262144 by omega) (by decide) d_M_put_69 (fun g69 hR69 hF69 => ?_)
      refine aw_iinc (v := nI (k + 1)) d_M_put_70 rfl (ax_inc k) (by decide) rfl ?_
      refine aw_goto (tgt := 34) d_M_put_73 (by decide) ?_
      refine ih (k + 1) _ (by omega) ?_ (hF.tr hF69)
      have hR69 : mR m (s.1, va_up (va_up s.2.1 8 (mPutB (s.2.1 8) (b + j) v k)) 8 (va_up (mPutB (s.2.1 8) (b + j) v k) (b + j + k) (v >>> ((8 * nI k).toInt64 &&& 63)).toInt32.toInt8.toInt32.toInt8.toInt32), s.2.2) g69 := hR69
      rw [bx_uu, ax_b8] at hR69
      exact hR69
set_option maxRecDepth 20000 in
theorem c_M_put (G : ax_G) (h : ax_H) (m : Nat) (s : mSt) (hR : mR m s h) (U B : Nat) (e : Nat → Nat → Nat) (hU : s.1 1 = nI U) (hUb : U ≤ 32) (hBb : B ≤ 262144) (hI : mI1 s e U B) (a p : Int32) (w : Int64) (n : Int32) : AM G Y_M_put 2 44 [.ref m, .int a, .int p, .long w, .int n] h (fun v h2 => v = some (.int (zI (mPutOk s U a p n))) ∧ mR m (mPut s U a p w n) h2 ∧ mFr m h h2) := by
  refine aw_enter (by decide) (Nat.le_of_ble_eq_true rfl) (n := 1) (ls := [some (.ref m), some (.int a), some (.int p), some (.long w), none, some (.int n), none]) rfl (fun x => ?_)
  first | refine aw_aload_n d_M_put_0 rfl rfl ?_ | refine aw_aload_nQ d_M_put_0 rfl rfl ?_ | refine aw_aload_nN d_M_put_0 rfl rfl ?_
  refine aw_iconst (v := 0) d_M_put_1 (by decide) ?_
  refine aM_put (by assumption) fl_M_123 (by decide) rfl rfl rfl rfl d_M_put_2 (fun g2 hR2 hF2 => ?_)
  refine aw_iload d_M_put_5 rfl ?_
  refine aw_iconst (v := 1) d_M_put_7 (by decide) ?_
  refine aw_icmp_lt (tgt := 29) d_M_put_8 (by decide) (fun c8 => ?_) (fun c8 => ?_)
  · refine aw_iconst (v := 0) d_M_put_29 (by decide) ?_
    refine aw_zret ?_ rfl rfl d_M_put_30
    have hno : ¬ mPutOk s U a p n := fun q => absurd c8 (Int32.not_lt.mpr q.1.1)
    rw [mPut, if_neg hno, zI, if_neg hno]
    exact ⟨rfl, hR2, hF2⟩
  · refine aw_iload d_M_put_11 rfl ?_
    refine aw_bipush (v := 8) d_M_put_13 (by decide) ?_
    refine aw_icmp_gt (tgt := 29) d_M_put_15 (by decide) (fun c15 => ?_) (fun c15 => ?_)
    · refine aw_iconst (v := 0) d_M_put_29 (by decide) ?_
      refine aw_zret ?_ rfl rfl d_M_put_30
      have hno : ¬ mPutOk s U a p n := fun q => absurd c15 (Int32.not_lt.mpr q.1.2)
      rw [mPut, if_neg hno, zI, if_neg hno]
      exact ⟨rfl, hR2, hF2⟩
    · first | refine aw_aload_n d_M_put_18 rfl rfl ?_ | refine aw_aload_nQ d_M_put_18 rfl rfl ?_ | refine aw_aload_nN d_M_put_18 rfl rfl ?_
      refine aw_iload_n d_M_put_19 rfl rfl ?_
      refine aw_iload_n d_M_put_20 rfl rfl ?_
      refine aw_iload d_M_put_21 rfl ?_
      refine aw_callV (c_M_lies G _ m (va_up s.1 0 0, s.2) hR2 U hU hUb a p n) cl_M (mR.obj (by assumption)) m_M_lies ml_M_154 rfl rfl (by decide) (by decide) (Nat.le_of_ble_eq_true rfl) d_M_put_23 ?_
      rintro v h' ⟨rfl, rfl⟩
      refine aw_if_ne (tgt := 31) d_M_put_26 (by decide) (fun c26 => ?_) (fun c26 => ?_)
      · refine aw_iconst (v := 0) d_M_put_31 (by decide) ?_
        refine aw_istore d_M_put_32 (by decide) rfl ?_
        have hl : mLies s U a p n := by
          by_cases q : mLies s U a p n
          · exact q
          · exact absurd (show zI (mLies (va_up s.1 0 0, s.2) U a p n) = 0 by rw [zI, if_neg q]) c26
        obtain ⟨hU0, q1, q2, q3, q4⟩ := id hl
        obtain ⟨i, hi, rfl⟩ := ax_ix (M := 3) (by decide) (Int32.not_lt.mpr q1) (Int32.not_le.mpr q2)
        obtain ⟨j, hj, rfl⟩ := nI_of (Int32.not_lt.mpr q3)
        obtain ⟨N, hN, rfl⟩ := nI_of2 (n := 8) (by decide) (fun z => absurd (Int32.lt_of_lt_of_le z (by decide : (0 : Int32) ≤ 1)) c8) (Int32.not_lt.mp c15)
        obtain ⟨⟨z1, z2⟩, z3, z4⟩ := hI (4 * (U - 1) + i) (by omega)
        have hci := nI_clamp (n := i) (by omega)
        have hcj := nI_clamp hj
        have hcN := nI_clamp (n := N) (by omega)
        rw [hci, z1] at q4
        have hjn : j + N ≤ e 5 (4 * (U - 1) + i) := ax_le3 hj (by omega) (by omega) q4
        rw [if_pos (show (4 * (U - 1) + i) % 4 < 3 by omega)] at z4
        have hb := nI_clamp (n := e 6 (4 * (U - 1) + i)) (by omega)
        have hyes : mPutOk s U (nI i) (nI j) (nI N) := ⟨⟨Int32.not_lt.mp c8, Int32.not_lt.mp c15⟩, hl⟩
        rw [mPut, if_pos hyes, zI, if_pos hyes, hci, hcj, hcN, z3, hb]
        refine l_M_put (va_up s.1 0 0, s.2) U hU hU0 hUb i j N (e 6 (4 * (U - 1) + i)) w hi hN z3 (by omega) h (fun h2 r1 r2 => ⟨rfl, r1, r2⟩) N 0 _ (by omega) ?_ hF2
        refine hR2.same (fun k => ?_) (fun k => rfl)
        by_cases hk : k = 8
        · subst hk
          exact va_up_self _ _ _
        · exact va_up_ne _ _ hk
      · refine aw_iconst (v := 0) d_M_put_29 (by decide) ?_
        refine aw_zret ?_ rfl rfl d_M_put_30
        have hno : ¬ mPutOk s U a p n := fun q => absurd c26 (by rw [zI, if_pos q.2]; decide)
        rw [mPut, if_neg hno, zI, if_neg hno]
        exact ⟨rfl, hR2, hF2⟩
end
section
/-- a name among n symbols from k on -/
def mDupL (f : Nat → Int32) (g : Nat → Int64) (n : Int32) (w : Int64) : Nat → Nat → Prop
  | _, 0 => False
  | k, r + 1 => (f k = n ∧ g k = w) ∨ mDupL f g n w (k + 1) r
abbrev mSymR (U S : Nat) (n mk a l : Int32) : Prop := 0 < U ∧ (1 ≤ n ∧ n ≤ 8) ∧ (0 ≤ mk ∧ mk ≤ 3) ∧ (-1 ≤ a ∧ a ≤ 3) ∧ (0 ≤ l ∧ l ≤ 65535) ∧ S < 2048
abbrev mSymP (s : mSt) (U : Nat) (a p : Int32) : Prop := a < 0 ∨ (0 ≤ p ∧ p ≤ s.2.1 5 (4 * (U - 1) + a.toNatClampNeg))
def mSymOk (s : mSt) (U S F : Nat) (w : Int64) (n mk a p l : Int32) : Prop := mSymR U S n mk a l ∧ mSymP s U a p ∧ ¬ mDupL (s.2.1 10) (s.2.2 9) n (mCut w n) F (S - F)
def mSymS (s : mSt) (S : Nat) (w : Int64) (n mk a p l : Int32) : mSt := (va_up (va_up s.1 0 0) 2 (s.1 2 + 1), va_up (va_up (va_up (va_up (va_up (va_up s.2.1 10 (va_up (s.2.1 10) S n)) 11 (va_up (s.2.1 11) S (s.1 1 - 1))) 12 (va_up (s.2.1 12) S mk)) 13 (va_up (s.2.1 13) S a)) 14 (va_up (s.2.1 14) S (if a < 0 then 0 else p))) 15 (va_up (s.2.1 15) S l), va_up s.2.2 9 (va_up (s.2.2 9) S (mCut w n)))
set_option maxRecDepth 20000 in
theorem t_M_symbol {G : ax_G} {x : ax_X} {h0 h : ax_H} {P : Option Value → ax_H → Prop} {m : Nat} {s : mSt} (hR : mR m (va_up s.1 0 0, s.2) h) (S F : Nat) (hS : s.1 2 = nI S) (hSb : S < 2048) (hFS : F ≤ S) (w : Int64) (n mk a p l : Int32) (z8 z10 : Int32) (hp : ∀ h2, mR m (mSymS s S w n mk a p l) h2 → mFr m h h2 → P (some (.int (nI (S - F)))) h2) : AW G x Y_M_symbol 1 22 h0 P h 165 [some (.ref m), some (.long w), none, some (.int n), some (.int mk), some (.int a), some (.int p), some (.int l), some (.int z8), some (.int (nI F)), some (.int z10)] [] := by
  first | refine aw_aload_n d_M_symbol_165 rfl rfl ?_ | refine aw_aload_nQ d_M_symbol_165 rfl rfl ?_ | refine aw_aload_nN d_M_symbol_165 rfl rfl ?_
  refine aM_get (by assumption) fl_M_129 (by decide) rfl d_M_symbol_166 ?_
  refine aw_istore d_M_symbol_169 (by decide) rfl ?_
  first | refine aw_aload_n d_M_symbol_171 rfl rfl ?_ | refine aw_aload_nQ d_M_symbol_171 rfl rfl ?_ | refine aw_aload_nN d_M_symbol_171 rfl rfl ?_
  refine aM_get (by assumption) fl_M_37 (by decide) rfl d_M_symbol_172 ?_
  refine aw_iload d_M_symbol_175 rfl ?_
  refine aw_lload_n d_M_symbol_177 rfl rfl ?_
  refine aw_iload_n d_M_symbol_178 rfl rfl ?_
  refine aw_callS (c_M_cut G _ w n) m_M_cut ml_M_161 rfl rfl (by decide) (by decide) (Nat.le_of_ble_eq_true rfl) d_M_symbol_179 ?_
  rintro v h' ⟨rfl, rfl⟩
  refine aM_last (by assumption) (by decide) rfl hS hSb (by decide) d_M_symbol_182 (fun g182 hR182 hF182 => ?_)
  first | refine aw_aload_n d_M_symbol_183 rfl rfl ?_ | refine aw_aload_nQ d_M_symbol_183 rfl rfl ?_ | refine aw_aload_nN d_M_symbol_183 rfl rfl ?_
  refine aM_get (by assumption) fl_M_41 (by decide) rfl d_M_symbol_184 ?_
  refine aw_iload d_M_symbol_187 rfl ?_
  refine aw_iload_n d_M_symbol_189 rfl rfl ?_
  refine aM_iast (by assumption) (by decide) rfl hS hSb (by decide) d_M_symbol_190 (fun g190 hR190 hF190 => ?_)
  first | refine aw_aload_n d_M_symbol_191 rfl rfl ?_ | refine aw_aload_nQ d_M_symbol_191 rfl rfl ?_ | refine aw_aload_nN d_M_symbol_191 rfl rfl ?_
  refine aM_get (by assumption) fl_M_44 (by decide) rfl d_M_symbol_192 ?_
  refine aw_iload d_M_symbol_195 rfl ?_
  first | refine aw_aload_n d_M_symbol_197 rfl rfl ?_ | refine aw_aload_nQ d_M_symbol_197 rfl rfl ?_ | refine aw_aload_nN d_M_symbol_197 rfl rfl ?_
  refine aM_get (by assumption) fl_M_126 (by decide) rfl d_M_symbol_198 ?_
  refine aw_iconst (v := 1) d_M_symbol_201 (by decide) ?_
  refine aw_isub d_M_symbol_202 ?_
  refine aM_iast (by assumption) (by decide) rfl hS hSb (by decide) d_M_symbol_203 (fun g203 hR203 hF203 => ?_)
  first | refine aw_aload_n d_M_symbol_204 rfl rfl ?_ | refine aw_aload_nQ d_M_symbol_204 rfl rfl ?_ | refine aw_aload_nN d_M_symbol_204 rfl rfl ?_
  refine aM_get (by assumption) fl_M_47 (by decide) rfl d_M_symbol_205 ?_
  refine aw_iload d_M_symbol_208 rfl ?_
  refine aw_iload d_M_symbol_210 rfl ?_
  refine aM_iast (by assumption) (by decide) rfl hS hSb (by decide) d_M_symbol_212 (fun g212 hR212 hF212 => ?_)
  first | refine aw_aload_n d_M_symbol_213 rfl rfl ?_ | refine aw_aload_nQ d_M_symbol_213 rfl rfl ?_ | refine aw_aload_nN d_M_symbol_213 rfl rfl ?_
  refine aM_get (by assumption) fl_M_50 (by decide) rfl d_M_symbol_214 ?_
  refine aw_iload d_M_symbol_217 rfl ?_
  refine aw_iload d_M_symbol_219 rfl ?_
  refine aM_iast (by assumption) (by decide) rfl hS hSb (by decide) d_M_symbol_221 (fun g221 hR221 hF221 => ?_)
  first | refine aw_aload_n d_M_symbol_222 rfl rfl ?_ | refine aw_aload_nQ d_M_symbol_222 rfl rfl ?_ | refine aw_aload_nN d_M_symbol_222 rfl rfl ?_
  refine aM_get (by assumption) fl_M_53 (by decide) rfl d_M_symbol_223 ?_
  refine aw_iload d_M_symbol_226 rfl ?_
  refine aw_iload d_M_symbol_228 rfl ?_
  refine aw_if_ge (tgt := 237) d_M_symbol_230 (by decide) (fun c230 => ?_) (fun c230 => ?_)
  · refine aw_iload d_M_symbol_237 rfl ?_
    refine aM_iast (by assumption) (by decide) rfl hS hSb (by decide) d_M_symbol_239 (fun g239 hR239 hF239 => ?_)
    first | refine aw_aload_n d_M_symbol_240 rfl rfl ?_ | refine aw_aload_nQ d_M_symbol_240 rfl rfl ?_ | refine aw_aload_nN d_M_symbol_240 rfl rfl ?_
    refine aM_get (by assumption) fl_M_56 (by decide) rfl d_M_symbol_241 ?_
    refine aw_iload d_M_symbol_244 rfl ?_
    refine aw_iload d_M_symbol_246 rfl ?_
    refine aM_iast (by assumption) (by decide) rfl hS hSb (by decide) d_M_symbol_248 (fun g248 hR248 hF248 => ?_)
    first | refine aw_aload_n d_M_symbol_249 rfl rfl ?_ | refine aw_aload_nQ d_M_symbol_249 rfl rfl ?_ | refine aw_aload_nN d_M_symbol_249 rfl rfl ?_
    refine aw_dup d_M_symbol_250 rfl ?_
    refine aM_get (by assumption) fl_M_129 (by decide) rfl d_M_symbol_251 ?_
    refine aw_iconst (v := 1) d_M_symbol_254 (by decide) ?_
    refine aw_iadd d_M_symbol_255 ?_
    refine aM_put (by assumption) fl_M_129 (by decide) rfl rfl rfl rfl d_M_symbol_256 (fun g256 hR256 hF256 => ?_)
    refine aw_iload d_M_symbol_259 rfl ?_
    refine aw_iload d_M_symbol_261 rfl ?_
    refine aw_isub d_M_symbol_263 ?_
    refine aw_iret ?_ rfl d_M_symbol_264
    have es : s.1 2 - nI F = nI (S - F) := by rw [hS, pk_sub hFS]
    show P (some (.int (s.1 2 - nI F))) _
    rw [es]
    refine hp _ ?_ (((((((hF182.tr hF190).tr hF203).tr hF212).tr hF221).tr hF239).tr hF248).tr hF256)
    rw [mSymS, if_neg (Int32.not_lt.mpr c230)]
    exact hR256
  · refine aw_iconst (v := 0) d_M_symbol_233 (by decide) ?_
    refine aw_goto (tgt := 239) d_M_symbol_234 (by decide) ?_
    refine aM_iast (by assumption) (by decide) rfl hS hSb (by decide) d_M_symbol_239 (fun g239 hR239 hF239 => ?_)
    first | refine aw_aload_n d_M_symbol_240 rfl rfl ?_ | refine aw_aload_nQ d_M_symbol_240 rfl rfl ?_ | refine aw_aload_nN d_M_symbol_240 rfl rfl ?_
    refine aM_get (by assumption) fl_M_56 (by decide) rfl d_M_symbol_241 ?_
    refine aw_iload d_M_symbol_244 rfl ?_
    refine aw_iload d_M_symbol_246 rfl ?_
    refine aM_iast (by assumption) (by decide) rfl hS hSb (by decide) d_M_symbol_248 (fun g248 hR248 hF248 => ?_)
    first | refine aw_aload_n d_M_symbol_249 rfl rfl ?_ | refine aw_aload_nQ d_M_symbol_249 rfl rfl ?_ | refine aw_aload_nN d_M_symbol_249 rfl rfl ?_
    refine aw_dup d_M_symbol_250 rfl ?_
    refine aM_get (by assumption) fl_M_129 (by decide) rfl d_M_symbol_251 ?_
    refine aw_iconst (v := 1) d_M_symbol_254 (by decide) ?_
    refine aw_iadd d_M_symbol_255 ?_
    refine aM_put (by assumption) fl_M_129 (by decide) rfl rfl rfl rfl d_M_symbol_256 (fun g256 hR256 hF256 => ?_)
    refine aw_iload d_M_symbol_259 rfl ?_
    refine aw_iload d_M_symbol_261 rfl ?_
    refine aw_isub d_M_symbol_263 ?_
    refine aw_iret ?_ rfl d_M_symbol_264
    have es : s.1 2 - nI F = nI (S - F) := by rw [hS, pk_sub hFS]
    show P (some (.int (s.1 2 - nI F))) _
    rw [es]
    refine hp _ ?_ (((((((hF182.tr hF190).tr hF203).tr hF212).tr hF221).tr hF239).tr hF248).tr hF256)
    rw [mSymS, if_pos (Int32.not_le.mp c230)]
    exact hR256
set_option maxRecDepth 20000 in
theorem l_M_symbol {G : ax_G} {x : ax_X} {h0 h : ax_H} {P : Option Value → ax_H → Prop} {m : Nat} {s : mSt} (hR : mR m (va_up s.1 0 0, s.2) h) (S F : Nat) (hS : s.1 2 = nI S) (hSb : S < 2048) (hFS : F ≤ S) (w : Int64) (n mk a p l : Int32) (z8 : Int32) (hp : ¬ mDupL (s.2.1 10) (s.2.2 9) n (mCut w n) F (S - F) → ∀ h2, mR m (mSymS s S w n mk a p l) h2 → mFr m h h2 → P (some (.int (nI (S - F)))) h2) (hn : mDupL (s.2.1 10) (s.2.2 9) n (mCut w n) F (S - F) → P (some (.int (-1))) h) : ∀ r k, k + r = S → (mDupL (s.2.1 10) (s.2.2 9) n (mCut w n) F (S - F) ↔ mDupL (s.2.1 10) (s.2.2 9) n (mCut w n) k r) → AW G x Y_M_symbol 1 22 h0 P h 121 [some (.ref m), some (.long w), none, some (.int n), some (.int mk), some (.int a), some (.int p), some (.int l), some (.int z8), some (.int (nI F)), some (.int (nI k))] [] := by
  intro r
  induction r with
  | zero =>
    intro k hk he
    have hkk : k = S := by omega
    subst hkk
    refine aw_iload d_M_symbol_121 rfl ?_
    first | refine aw_aload_n d_M_symbol_123 rfl rfl ?_ | refine aw_aload_nQ d_M_symbol_123 rfl rfl ?_ | refine aw_aload_nN d_M_symbol_123 rfl rfl ?_
    refine aM_get (by assumption) fl_M_129 (by decide) rfl d_M_symbol_124 ?_
    refine aw_icmp_ge (tgt := 165) d_M_symbol_127 (by decide) (fun c127 => ?_) (fun c127 => ?_)
    · exact t_M_symbol hR k F hS hSb hFS w n mk a p l _ _ (hp (fun q => he.mp q))
    · exact absurd (show s.1 2 ≤ nI k by rw [hS]; exact nI_le (Nat.le_refl _) (by omega)) c127
  | succ r ih =>
    intro k hk he
    refine aw_iload d_M_symbol_121 rfl ?_
    first | refine aw_aload_n d_M_symbol_123 rfl rfl ?_ | refine aw_aload_nQ d_M_symbol_123 rfl rfl ?_ | refine aw_aload_nN d_M_symbol_123 rfl rfl ?_
    refine aM_get (by assumption) fl_M_129 (by decide) rfl d_M_symbol_124 ?_
    refine aw_icmp_ge (tgt := 165) d_M_symbol_127 (by decide) (fun c127 => ?_) (fun c127 => ?_)
    · exact absurd c127 (by rw [show (va_up s.1 0 0, s.2).1 2 = nI S from hS]; exact nI_ge (by omega) (by omega))
    · first | refine aw_aload_n d_M_symbol_130 rfl rfl ?_ | refine aw_aload_nQ d_M_symbol_130 rfl rfl ?_ | refine aw_aload_nN d_M_symbol_130 rfl rfl ?_
      refine aM_get (by assumption) fl_M_41 (by decide) rfl d_M_symbol_131 ?_
      refine aw_iload d_M_symbol_134 rfl ?_
      refine aM_iald (by assumption) (by decide) rfl rfl (show k < 2048 by omega) (by decide) d_M_symbol_136 ?_
      refine aw_iload_n d_M_symbol_137 rfl rfl ?_
      refine aw_icmp_ne (tgt := 159) d_M_symbol_138 (by decide) (fun c138 => ?_) (fun c138 => ?_)
      · refine aw_iinc (v := nI (k + 1)) d_M_symbol_159 rfl (ax_inc k) (by decide) rfl ?_
        refine aw_goto (tgt := 121) d_M_symbol_162 (by decide) ?_
        refine ih (k + 1) (by omega) (he.trans ?_)
        rw [mDupL]
        refine ⟨fun q => q.resolve_left ?_, Or.inr⟩
        first | exact fun q => c138 q.1 | exact fun q => c154 ((lg_cmp_eq _ _).mpr q.2)
      · first | refine aw_aload_n d_M_symbol_141 rfl rfl ?_ | refine aw_aload_nQ d_M_symbol_141 rfl rfl ?_ | refine aw_aload_nN d_M_symbol_141 rfl rfl ?_
        refine aM_get (by assumption) fl_M_37 (by decide) rfl d_M_symbol_142 ?_
        refine aw_iload d_M_symbol_145 rfl ?_
        refine aM_lald (by assumption) (by decide) rfl rfl (show k < 2048 by omega) (by decide) d_M_symbol_147 ?_
        refine aw_lload_n d_M_symbol_148 rfl rfl ?_
        refine aw_iload_n d_M_symbol_149 rfl rfl ?_
        refine aw_callS (c_M_cut G _ w n) m_M_cut ml_M_161 rfl rfl (by decide) (by decide) (Nat.le_of_ble_eq_true rfl) d_M_symbol_150 ?_
        rintro v h' ⟨rfl, rfl⟩
        refine aw_lcmp d_M_symbol_153 ?_
        refine aw_if_ne (tgt := 159) d_M_symbol_154 (by decide) (fun c154 => ?_) (fun c154 => ?_)
        · refine aw_iinc (v := nI (k + 1)) d_M_symbol_159 rfl (ax_inc k) (by decide) rfl ?_
          refine aw_goto (tgt := 121) d_M_symbol_162 (by decide) ?_
          refine ih (k + 1) (by omega) (he.trans ?_)
          rw [mDupL]
          refine ⟨fun q => q.resolve_left ?_, Or.inr⟩
          first | exact fun q => c138 q.1 | exact fun q => c154 ((lg_cmp_eq _ _).mpr q.2)
        · refine aw_iconst (v := (-1)) d_M_symbol_157 (by decide) ?_
          refine aw_iret ?_ rfl d_M_symbol_158
          exact hn (he.mpr (Or.inl ⟨c138, (lg_cmp_eq _ _).mp c154⟩))
set_option maxRecDepth 20000 in
theorem c_M_symbol (G : ax_G) (h : ax_H) (m : Nat) (s : mSt) (hR : mR m s h) (U S F : Nat) (hU : s.1 1 = nI U) (hUb : U ≤ 32) (hS : s.1 2 = nI S) (hSb : S ≤ 2048) (hFs : 0 < U → s.2.1 16 (U - 1) = nI F) (hFS : F ≤ S) (w : Int64) (n mk a p l : Int32) : AM G Y_M_symbol 1 22 [.ref m, .long w, .int n, .int mk, .int a, .int p, .int l] h (fun v h2 => (mSymOk s U S F w n mk a p l ∧ v = some (.int (nI (S - F))) ∧ mR m (mSymS s S w n mk a p l) h2 ∧ mFr m h h2) ∨ (¬ mSymOk s U S F w n mk a p l ∧ v = some (.int (-1)) ∧ mR m (va_up s.1 0 0, s.2) h2 ∧ mFr m h h2)) := by
  refine aw_enter (by decide) (Nat.le_of_ble_eq_true rfl) (n := 3) (ls := [some (.ref m), some (.long w), none, some (.int n), some (.int mk), some (.int a), some (.int p), some (.int l), none, none, none]) rfl (fun x => ?_)
  first | refine aw_aload_n d_M_symbol_0 rfl rfl ?_ | refine aw_aload_nQ d_M_symbol_0 rfl rfl ?_ | refine aw_aload_nN d_M_symbol_0 rfl rfl ?_
  refine aw_iconst (v := 0) d_M_symbol_1 (by decide) ?_
  refine aM_put (by assumption) fl_M_123 (by decide) rfl rfl rfl rfl d_M_symbol_2 (fun g2 hR2 hF2 => ?_)
  first | refine aw_aload_n d_M_symbol_5 rfl rfl ?_ | refine aw_aload_nQ d_M_symbol_5 rfl rfl ?_ | refine aw_aload_nN d_M_symbol_5 rfl rfl ?_
  refine aM_get (by assumption) fl_M_126 (by decide) rfl d_M_symbol_6 ?_
  refine aw_if_le (tgt := 68) d_M_symbol_9 (by decide) (fun c9 => ?_) (fun c9 => ?_)
  · refine aw_iconst (v := 0) d_M_symbol_68 (by decide) ?_
    refine aw_istore d_M_symbol_69 (by decide) rfl ?_
    refine aw_iload d_M_symbol_71 rfl ?_
    refine aw_if_eq (tgt := 102) d_M_symbol_73 (by decide) (fun c73 => ?_) (fun c73 => ?_)
    · refine aw_iconst (v := (-1)) d_M_symbol_102 (by decide) ?_
      refine aw_iret ?_ rfl d_M_symbol_103
      have hno : ¬ mSymOk s U S F w n mk a p l := fun q => absurd c9 (by show ¬ s.1 1 ≤ 0; rw [hU]; exact nI_nle q.1.1 (by omega))
      exact Or.inr ⟨hno, rfl, hR2, hF2⟩
    · exact absurd rfl c73
  · have hU0 : 0 < U := Nat.pos_of_ne_zero (fun q => c9 (by show s.1 1 ≤ 0; rw [hU, q]; decide))
    refine aw_iload_n d_M_symbol_12 rfl rfl ?_
    refine aw_iconst (v := 1) d_M_symbol_13 (by decide) ?_
    refine aw_icmp_lt (tgt := 68) d_M_symbol_14 (by decide) (fun c14 => ?_) (fun c14 => ?_)
    · refine aw_iconst (v := 0) d_M_symbol_68 (by decide) ?_
      refine aw_istore d_M_symbol_69 (by decide) rfl ?_
      refine aw_iload d_M_symbol_71 rfl ?_
      refine aw_if_eq (tgt := 102) d_M_symbol_73 (by decide) (fun c73 => ?_) (fun c73 => ?_)
      · refine aw_iconst (v := (-1)) d_M_symbol_102 (by decide) ?_
        refine aw_iret ?_ rfl d_M_symbol_103
        have hno : ¬ mSymOk s U S F w n mk a p l := fun q => absurd c14 (Int32.not_lt.mpr q.1.2.1.1)
        exact Or.inr ⟨hno, rfl, hR2, hF2⟩
      · exact absurd rfl c73
    · refine aw_iload_n d_M_symbol_17 rfl rfl ?_
      refine aw_bipush (v := 8) d_M_symbol_18 (by decide) ?_
      refine aw_icmp_gt (tgt := 68) d_M_symbol_20 (by decide) (fun c20 => ?_) (fun c20 => ?_)
      · refine aw_iconst (v := 0) d_M_symbol_68 (by decide) ?_
        refine aw_istore d_M_symbol_69 (by decide) rfl ?_
        refine aw_iload d_M_symbol_71 rfl ?_
        refine aw_if_eq (tgt := 102) d_M_symbol_73 (by decide) (fun c73 => ?_) (fun c73 => ?_)
        · refine aw_iconst (v := (-1)) d_M_symbol_102 (by decide) ?_
          refine aw_iret ?_ rfl d_M_symbol_103
          have hno : ¬ mSymOk s U S F w n mk a p l := fun q => absurd c20 (Int32.not_lt.mpr q.1.2.1.2)
          exact Or.inr ⟨hno, rfl, hR2, hF2⟩
        · exact absurd rfl c73
      · refine aw_iload d_M_symbol_23 rfl ?_
        refine aw_if_lt (tgt := 68) d_M_symbol_25 (by decide) (fun c25 => ?_) (fun c25 => ?_)
        · refine aw_iconst (v := 0) d_M_symbol_68 (by decide) ?_
          refine aw_istore d_M_symbol_69 (by decide) rfl ?_
          refine aw_iload d_M_symbol_71 rfl ?_
          refine aw_if_eq (tgt := 102) d_M_symbol_73 (by decide) (fun c73 => ?_) (fun c73 => ?_)
          · refine aw_iconst (v := (-1)) d_M_symbol_102 (by decide) ?_
            refine aw_iret ?_ rfl d_M_symbol_103
            have hno : ¬ mSymOk s U S F w n mk a p l := fun q => absurd c25 (Int32.not_lt.mpr q.1.2.2.1.1)
            exact Or.inr ⟨hno, rfl, hR2, hF2⟩
          · exact absurd rfl c73
        · refine aw_iload d_M_symbol_28 rfl ?_
          refine aw_iconst (v := 3) d_M_symbol_30 (by decide) ?_
          refine aw_icmp_gt (tgt := 68) d_M_symbol_31 (by decide) (fun c31 => ?_) (fun c31 => ?_)
          · refine aw_iconst (v := 0) d_M_symbol_68 (by decide) ?_
            refine aw_istore d_M_symbol_69 (by decide) rfl ?_
            refine aw_iload d_M_symbol_71 rfl ?_
            refine aw_if_eq (tgt := 102) d_M_symbol_73 (by decide) (fun c73 => ?_) (fun c73 => ?_)
            · refine aw_iconst (v := (-1)) d_M_symbol_102 (by decide) ?_
              refine aw_iret ?_ rfl d_M_symbol_103
              have hno : ¬ mSymOk s U S F w n mk a p l := fun q => absurd c31 (Int32.not_lt.mpr q.1.2.2.1.2)
              exact Or.inr ⟨hno, rfl, hR2, hF2⟩
            · exact absurd rfl c73
          · refine aw_iload d_M_symbol_34 rfl ?_
            refine aw_iconst (v := (-1)) d_M_symbol_36 (by decide) ?_
            refine aw_icmp_lt (tgt := 68) d_M_symbol_37 (by decide) (fun c37 => ?_) (fun c37 => ?_)
            · refine aw_iconst (v := 0) d_M_symbol_68 (by decide) ?_
              refine aw_istore d_M_symbol_69 (by decide) rfl ?_
              refine aw_iload d_M_symbol_71 rfl ?_
              refine aw_if_eq (tgt := 102) d_M_symbol_73 (by decide) (fun c73 => ?_) (fun c73 => ?_)
              · refine aw_iconst (v := (-1)) d_M_symbol_102 (by decide) ?_
                refine aw_iret ?_ rfl d_M_symbol_103
                have hno : ¬ mSymOk s U S F w n mk a p l := fun q => absurd c37 (Int32.not_lt.mpr q.1.2.2.2.1.1)
                exact Or.inr ⟨hno, rfl, hR2, hF2⟩
              · exact absurd rfl c73
            · refine aw_iload d_M_symbol_40 rfl ?_
              refine aw_iconst (v := 3) d_M_symbol_42 (by decide) ?_
              refine aw_icmp_gt (tgt := 68) d_M_symbol_43 (by decide) (fun c43 => ?_) (fun c43 => ?_)
              · refine aw_iconst (v := 0) d_M_symbol_68 (by decide) ?_
                refine aw_istore d_M_symbol_69 (by decide) rfl ?_
                refine aw_iload d_M_symbol_71 rfl ?_
                refine aw_if_eq (tgt := 102) d_M_symbol_73 (by decide) (fun c73 => ?_) (fun c73 => ?_)
                · refine aw_iconst (v := (-1)) d_M_symbol_102 (by decide) ?_
                  refine aw_iret ?_ rfl d_M_symbol_103
                  have hno : ¬ mSymOk s U S F w n mk a p l := fun q => absurd c43 (Int32.not_lt.mpr q.1.2.2.2.1.2)
                  exact Or.inr ⟨hno, rfl, hR2, hF2⟩
                · exact absurd rfl c73
              · refine aw_iload d_M_symbol_46 rfl ?_
                refine aw_callS (c_M_isLine G _ l) m_M_isLine ml_M_158 rfl rfl (by decide) (by decide) (Nat.le_of_ble_eq_true rfl) d_M_symbol_48 ?_
                rintro v h' ⟨rfl, rfl⟩
                refine aw_if_eq (tgt := 68) d_M_symbol_51 (by decide) (fun c51 => ?_) (fun c51 => ?_)
                · refine aw_iconst (v := 0) d_M_symbol_68 (by decide) ?_
                  refine aw_istore d_M_symbol_69 (by decide) rfl ?_
                  refine aw_iload d_M_symbol_71 rfl ?_
                  refine aw_if_eq (tgt := 102) d_M_symbol_73 (by decide) (fun c73 => ?_) (fun c73 => ?_)
                  · refine aw_iconst (v := (-1)) d_M_symbol_102 (by decide) ?_
                    refine aw_iret ?_ rfl d_M_symbol_103
                    have hno : ¬ mSymOk s U S F w n mk a p l := fun q => absurd c51 (by rw [zI, if_pos q.1.2.2.2.2.1]; decide)
                    exact Or.inr ⟨hno, rfl, hR2, hF2⟩
                  · exact absurd rfl c73
                · first | refine aw_aload_n d_M_symbol_54 rfl rfl ?_ | refine aw_aload_nQ d_M_symbol_54 rfl rfl ?_ | refine aw_aload_nN d_M_symbol_54 rfl rfl ?_
                  refine aM_get (by assumption) fl_M_129 (by decide) rfl d_M_symbol_55 ?_
                  refine aw_sipush (v := 2048) d_M_symbol_58 (by decide) ?_
                  refine aw_icmp_ge (tgt := 68) d_M_symbol_61 (by decide) (fun c61 => ?_) (fun c61 => ?_)
                  · refine aw_iconst (v := 0) d_M_symbol_68 (by decide) ?_
                    refine aw_istore d_M_symbol_69 (by decide) rfl ?_
                    refine aw_iload d_M_symbol_71 rfl ?_
                    refine aw_if_eq (tgt := 102) d_M_symbol_73 (by decide) (fun c73 => ?_) (fun c73 => ?_)
                    · refine aw_iconst (v := (-1)) d_M_symbol_102 (by decide) ?_
                      refine aw_iret ?_ rfl d_M_symbol_103
                      have hno : ¬ mSymOk s U S F w n mk a p l := fun q => absurd c61 (by show ¬ (2048 : Int32) ≤ s.1 2; rw [hS]; exact nI_ge (a := S) (b := 2048) q.1.2.2.2.2.2 (by decide))
                      exact Or.inr ⟨hno, rfl, hR2, hF2⟩
                    · exact absurd rfl c73
                  · have hSl : S < 2048 := Nat.lt_of_not_le (fun q => c61 (by show (2048 : Int32) ≤ s.1 2; rw [hS]; exact nI_le q (by omega)))
                    have hln : 0 ≤ l ∧ l ≤ 65535 := by
                      by_cases q : 0 ≤ l ∧ l ≤ 65535
                      · exact q
                      · exact absurd (show zI (0 ≤ l ∧ l ≤ 65535) = 0 by rw [zI, if_neg q]) c51
                    refine aw_iconst (v := 1) d_M_symbol_64 (by decide) ?_
                    refine aw_goto (tgt := 69) d_M_symbol_65 (by decide) ?_
                    refine aw_istore d_M_symbol_69 (by decide) rfl ?_
                    refine aw_iload d_M_symbol_71 rfl ?_
                    refine aw_if_eq (tgt := 102) d_M_symbol_73 (by decide) (fun c73 => ?_) (fun c73 => ?_)
                    · exact absurd c73 (by decide)
                    · refine aw_iload d_M_symbol_76 rfl ?_
                      refine aw_if_lt (tgt := 104) d_M_symbol_78 (by decide) (fun c78 => ?_) (fun c78 => ?_)
                      · first | refine aw_aload_n d_M_symbol_104 rfl rfl ?_ | refine aw_aload_nQ d_M_symbol_104 rfl rfl ?_ | refine aw_aload_nN d_M_symbol_104 rfl rfl ?_
                        refine aM_get (by assumption) fl_M_59 (by decide) rfl d_M_symbol_105 ?_
                        first | refine aw_aload_n d_M_symbol_108 rfl rfl ?_ | refine aw_aload_nQ d_M_symbol_108 rfl rfl ?_ | refine aw_aload_nN d_M_symbol_108 rfl rfl ?_
                        refine aM_get (by assumption) fl_M_126 (by decide) rfl d_M_symbol_109 ?_
                        refine aw_iconst (v := 1) d_M_symbol_112 (by decide) ?_
                        refine aw_isub d_M_symbol_113 ?_
                        have eu : (va_up s.1 0 0, s.2).1 1 - 1 = nI (U - 1) := by
                          show s.1 1 - 1 = _
                          rw [hU, ax_n1 U hU0]
                        refine aM_iald (by assumption) (by decide) rfl eu (show U - 1 < 33 by omega) (by decide) d_M_symbol_114 ?_
                        refine aw_istore d_M_symbol_115 (by decide) rfl ?_
                        refine aw_iload d_M_symbol_117 rfl ?_
                        refine aw_istore d_M_symbol_119 (by decide) rfl ?_
                        rw [show (va_up s.1 0 0, s.2).2.1 16 (U - 1) = nI F from hFs hU0]
                        have hyR : mSymR U S n mk a l := ⟨hU0, ⟨Int32.not_lt.mp c14, Int32.not_lt.mp c20⟩, ⟨Int32.not_lt.mp c25, Int32.not_lt.mp c31⟩, ⟨Int32.not_lt.mp c37, Int32.not_lt.mp c43⟩, hln, hSl⟩
                        have hyP : mSymP s U a p := by first | exact Or.inl c78 | exact Or.inr ⟨Int32.not_lt.mp c83, by rw [hci]; exact c99⟩
                        refine l_M_symbol hR2 S F hS hSl hFS w n mk a p l _ ?_ ?_ (S - F) F (by omega) Iff.rfl
                        · exact fun q h2 r1 r2 => Or.inl ⟨⟨hyR, hyP, q⟩, rfl, r1, hF2.tr r2⟩
                        · exact fun q => Or.inr ⟨fun z => z.2.2 q, rfl, hR2, hF2⟩
                      · obtain ⟨i, hi, ha⟩ := nI_of2 (n := 3) (by decide) c78 (Int32.not_lt.mp c43)
                        have hci : a.toNatClampNeg = i := by rw [ha]; exact nI_clamp (by omega)
                        refine aw_iload d_M_symbol_81 rfl ?_
                        refine aw_if_lt (tgt := 102) d_M_symbol_83 (by decide) (fun c83 => ?_) (fun c83 => ?_)
                        · refine aw_iconst (v := (-1)) d_M_symbol_102 (by decide) ?_
                          refine aw_iret ?_ rfl d_M_symbol_103
                          have hno : ¬ mSymOk s U S F w n mk a p l := fun q => absurd (q.2.1.resolve_left c78).1 (Int32.not_le.mpr c83)
                          exact Or.inr ⟨hno, rfl, hR2, hF2⟩
                        · refine aw_iload d_M_symbol_86 rfl ?_
                          first | refine aw_aload_n d_M_symbol_88 rfl rfl ?_ | refine aw_aload_nQ d_M_symbol_88 rfl rfl ?_ | refine aw_aload_nN d_M_symbol_88 rfl rfl ?_
                          refine aM_get (by assumption) fl_M_22 (by decide) rfl d_M_symbol_89 ?_
                          first | refine aw_aload_n d_M_symbol_92 rfl rfl ?_ | refine aw_aload_nQ d_M_symbol_92 rfl rfl ?_ | refine aw_aload_nN d_M_symbol_92 rfl rfl ?_
                          refine aw_iload d_M_symbol_93 rfl ?_
                          refine aw_callV (c_M_own G _ m _ (by assumption) _) cl_M (mR.obj (by assumption)) m_M_own ml_M_150 rfl rfl (by decide) (by decide) (Nat.le_of_ble_eq_true rfl) d_M_symbol_95 ?_
                          rintro v h' ⟨rfl, rfl⟩
                          have eo : 4 * ((va_up s.1 0 0, s.2).1 1 - 1) + a = nI (4 * (U - 1) + i) := by
                            show 4 * (s.1 1 - 1) + a = _
                            rw [hU, ha, ax_own hU0]
                          refine aM_iald (by assumption) (by decide) rfl eo (show 4 * (U - 1) + i < 128 by omega) (by decide) d_M_symbol_98 ?_
                          refine aw_icmp_le (tgt := 104) d_M_symbol_99 (by decide) (fun c99 => ?_) (fun c99 => ?_)
                          · first | refine aw_aload_n d_M_symbol_104 rfl rfl ?_ | refine aw_aload_nQ d_M_symbol_104 rfl rfl ?_ | refine aw_aload_nN d_M_symbol_104 rfl rfl ?_
                            refine aM_get (by assumption) fl_M_59 (by decide) rfl d_M_symbol_105 ?_
                            first | refine aw_aload_n d_M_symbol_108 rfl rfl ?_ | refine aw_aload_nQ d_M_symbol_108 rfl rfl ?_ | refine aw_aload_nN d_M_symbol_108 rfl rfl ?_
                            refine aM_get (by assumption) fl_M_126 (by decide) rfl d_M_symbol_109 ?_
                            refine aw_iconst (v := 1) d_M_symbol_112 (by decide) ?_
                            refine aw_isub d_M_symbol_113 ?_
                            have eu : (va_up s.1 0 0, s.2).1 1 - 1 = nI (U - 1) := by
                              show s.1 1 - 1 = _
                              rw [hU, ax_n1 U hU0]
                            refine aM_iald (by assumption) (by decide) rfl eu (show U - 1 < 33 by omega) (by decide) d_M_symbol_114 ?_
                            refine aw_istore d_M_symbol_115 (by decide) rfl ?_
                            refine aw_iload d_M_symbol_117 rfl ?_
                            refine aw_istore d_M_symbol_119 (by decide) rfl ?_
                            rw [show (va_up s.1 0 0, s.2).2.1 16 (U - 1) = nI F from hFs hU0]
                            have hyR : mSymR U S n mk a l := ⟨hU0, ⟨Int32.not_lt.mp c14, Int32.not_lt.mp c20⟩, ⟨Int32.not_lt.mp c25, Int32.not_lt.mp c31⟩, ⟨Int32.not_lt.mp c37, Int32.not_lt.mp c43⟩, hln, hSl⟩
                            have hyP : mSymP s U a p := by first | exact Or.inl c78 | exact Or.inr ⟨Int32.not_lt.mp c83, by rw [hci]; exact c99⟩
                            refine l_M_symbol hR2 S F hS hSl hFS w n mk a p l _ ?_ ?_ (S - F) F (by omega) Iff.rfl
                            · exact fun q h2 r1 r2 => Or.inl ⟨⟨hyR, hyP, q⟩, rfl, r1, hF2.tr r2⟩
                            · exact fun q => Or.inr ⟨fun z => z.2.2 q, rfl, hR2, hF2⟩
                          · refine aw_iconst (v := (-1)) d_M_symbol_102 (by decide) ?_
                            refine aw_iret ?_ rfl d_M_symbol_103
                            have hno : ¬ mSymOk s U S F w n mk a p l := fun q => absurd (q.2.1.resolve_left c78).2 (by rw [hci]; exact c99)
                            exact Or.inr ⟨hno, rfl, hR2, hF2⟩
end
section
abbrev mAwOk (s : mSt) (U S F W : Nat) (a p n nx wh l : Int32) : Prop := (n = 4 ∨ n = 8) ∧ mLies s U a p n ∧ (0 ≤ l ∧ l ≤ 65535) ∧ ¬ W = 4096 ∧ (-1 ≤ nx ∧ nx ≤ s.2.1 5 (4 * (U - 1) + a.toNatClampNeg)) ∧ -5 ≤ wh ∧ (wh < 0 ∨ wh < nI S - nI F)
def mAwS (s : mSt) (F W : Nat) (a p n nx wh : Int32) (z : Int64) (l : Int32) : mSt := (va_up (va_up s.1 0 0) 3 (s.1 3 + 1), va_up (va_up (va_up (va_up (va_up (va_up (va_up s.2.1 17 (va_up (s.2.1 17) W (s.1 1 - 1))) 18 (va_up (s.2.1 18) W a)) 19 (va_up (s.2.1 19) W p)) 20 (va_up (s.2.1 20) W n)) 21 (va_up (s.2.1 21) W nx)) 22 (va_up (s.2.1 22) W (if wh < 0 then wh else nI F + wh))) 23 (va_up (s.2.1 23) W l), va_up s.2.2 24 (va_up (s.2.2 24) W z))
set_option maxRecDepth 20000 in
theorem t_M_await2 {G : ax_G} {x : ax_X} {h0 h : ax_H} {P : Option Value → ax_H → Prop} {m : Nat} {s : mSt} (hR : mR m (va_up s.1 0 0, s.2) h) (F W : Nat) (hW : s.1 3 = nI W) (hWl : W < 4096) (a p n nx wh l : Int32) (z : Int64) (hp : ∀ h2, mR m (mAwS s F W a p n nx wh z l) h2 → mFr m h h2 → P (some (.int 1)) h2) : AW G x Y_M_await 2 44 h0 P h 108 [some (.ref m), some (.int a), some (.int p), some (.int n), some (.int nx), some (.int wh), some (.long z), none, some (.int l), some (.int (nI F))] [] := by
  first | refine aw_aload_n d_M_await_108 rfl rfl ?_ | refine aw_aload_nQ d_M_await_108 rfl rfl ?_ | refine aw_aload_nN d_M_await_108 rfl rfl ?_
  refine aM_get (by assumption) fl_M_62 (by decide) rfl d_M_await_109 ?_
  first | refine aw_aload_n d_M_await_112 rfl rfl ?_ | refine aw_aload_nQ d_M_await_112 rfl rfl ?_ | refine aw_aload_nN d_M_await_112 rfl rfl ?_
  refine aM_get (by assumption) fl_M_132 (by decide) rfl d_M_await_113 ?_
  first | refine aw_aload_n d_M_await_116 rfl rfl ?_ | refine aw_aload_nQ d_M_await_116 rfl rfl ?_ | refine aw_aload_nN d_M_await_116 rfl rfl ?_
  refine aM_get (by assumption) fl_M_126 (by decide) rfl d_M_await_117 ?_
  refine aw_iconst (v := 1) d_M_await_120 (by decide) ?_
  refine aw_isub d_M_await_121 ?_
  refine aM_iast (by assumption) (by decide) rfl hW hWl (by decide) d_M_await_122 (fun g122 hR122 hF122 => ?_)
  first | refine aw_aload_n d_M_await_123 rfl rfl ?_ | refine aw_aload_nQ d_M_await_123 rfl rfl ?_ | refine aw_aload_nN d_M_await_123 rfl rfl ?_
  refine aM_get (by assumption) fl_M_65 (by decide) rfl d_M_await_124 ?_
  first | refine aw_aload_n d_M_await_127 rfl rfl ?_ | refine aw_aload_nQ d_M_await_127 rfl rfl ?_ | refine aw_aload_nN d_M_await_127 rfl rfl ?_
  refine aM_get (by assumption) fl_M_132 (by decide) rfl d_M_await_128 ?_
  refine aw_iload_n d_M_await_131 rfl rfl ?_
  refine aM_iast (by assumption) (by decide) rfl hW hWl (by decide) d_M_await_132 (fun g132 hR132 hF132 => ?_)
  first | refine aw_aload_n d_M_await_133 rfl rfl ?_ | refine aw_aload_nQ d_M_await_133 rfl rfl ?_ | refine aw_aload_nN d_M_await_133 rfl rfl ?_
  refine aM_get (by assumption) fl_M_68 (by decide) rfl d_M_await_134 ?_
  first | refine aw_aload_n d_M_await_137 rfl rfl ?_ | refine aw_aload_nQ d_M_await_137 rfl rfl ?_ | refine aw_aload_nN d_M_await_137 rfl rfl ?_
  refine aM_get (by assumption) fl_M_132 (by decide) rfl d_M_await_138 ?_
  refine aw_iload_n d_M_await_141 rfl rfl ?_
  refine aM_iast (by assumption) (by decide) rfl hW hWl (by decide) d_M_await_142 (fun g142 hR142 hF142 => ?_)
  first | refine aw_aload_n d_M_await_143 rfl rfl ?_ | refine aw_aload_nQ d_M_await_143 rfl rfl ?_ | refine aw_aload_nN d_M_await_143 rfl rfl ?_
  refine aM_get (by assumption) fl_M_71 (by decide) rfl d_M_await_144 ?_
  first | refine aw_aload_n d_M_await_147 rfl rfl ?_ | refine aw_aload_nQ d_M_await_147 rfl rfl ?_ | refine aw_aload_nN d_M_await_147 rfl rfl ?_
  refine aM_get (by assumption) fl_M_132 (by decide) rfl d_M_await_148 ?_
  refine aw_iload_n d_M_await_151 rfl rfl ?_
  refine aM_iast (by assumption) (by decide) rfl hW hWl (by decide) d_M_await_152 (fun g152 hR152 hF152 => ?_)
  first | refine aw_aload_n d_M_await_153 rfl rfl ?_ | refine aw_aload_nQ d_M_await_153 rfl rfl ?_ | refine aw_aload_nN d_M_await_153 rfl rfl ?_
  refine aM_get (by assumption) fl_M_74 (by decide) rfl d_M_await_154 ?_
  first | refine aw_aload_n d_M_await_157 rfl rfl ?_ | refine aw_aload_nQ d_M_await_157 rfl rfl ?_ | refine aw_aload_nN d_M_await_157 rfl rfl ?_
  refine aM_get (by assumption) fl_M_132 (by decide) rfl d_M_await_158 ?_
  refine aw_iload d_M_await_161 rfl ?_
  refine aM_iast (by assumption) (by decide) rfl hW hWl (by decide) d_M_await_163 (fun g163 hR163 hF163 => ?_)
  first | refine aw_aload_n d_M_await_164 rfl rfl ?_ | refine aw_aload_nQ d_M_await_164 rfl rfl ?_ | refine aw_aload_nN d_M_await_164 rfl rfl ?_
  refine aM_get (by assumption) fl_M_77 (by decide) rfl d_M_await_165 ?_
  first | refine aw_aload_n d_M_await_168 rfl rfl ?_ | refine aw_aload_nQ d_M_await_168 rfl rfl ?_ | refine aw_aload_nN d_M_await_168 rfl rfl ?_
  refine aM_get (by assumption) fl_M_132 (by decide) rfl d_M_await_169 ?_
  refine aw_iload d_M_await_172 rfl ?_
  refine aw_if_ge (tgt := 182) d_M_await_174 (by decide) (fun c174 => ?_) (fun c174 => ?_)
  · refine aw_iload d_M_await_182 rfl ?_
    refine aw_iload d_M_await_184 rfl ?_
    refine aw_iadd d_M_await_186 ?_
    refine aM_iast (by assumption) (by decide) rfl hW hWl (by decide) d_M_await_187 (fun g187 hR187 hF187 => ?_)
    first | refine aw_aload_n d_M_await_188 rfl rfl ?_ | refine aw_aload_nQ d_M_await_188 rfl rfl ?_ | refine aw_aload_nN d_M_await_188 rfl rfl ?_
    refine aM_get (by assumption) fl_M_83 (by decide) rfl d_M_await_189 ?_
    first | refine aw_aload_n d_M_await_192 rfl rfl ?_ | refine aw_aload_nQ d_M_await_192 rfl rfl ?_ | refine aw_aload_nN d_M_await_192 rfl rfl ?_
    refine aM_get (by assumption) fl_M_132 (by decide) rfl d_M_await_193 ?_
    refine aw_lload d_M_await_196 rfl ?_
    refine aM_last (by assumption) (by decide) rfl hW hWl (by decide) d_M_await_198 (fun g198 hR198 hF198 => ?_)
    first | refine aw_aload_n d_M_await_199 rfl rfl ?_ | refine aw_aload_nQ d_M_await_199 rfl rfl ?_ | refine aw_aload_nN d_M_await_199 rfl rfl ?_
    refine aM_get (by assumption) fl_M_80 (by decide) rfl d_M_await_200 ?_
    first | refine aw_aload_n d_M_await_203 rfl rfl ?_ | refine aw_aload_nQ d_M_await_203 rfl rfl ?_ | refine aw_aload_nN d_M_await_203 rfl rfl ?_
    refine aM_get (by assumption) fl_M_132 (by decide) rfl d_M_await_204 ?_
    refine aw_iload d_M_await_207 rfl ?_
    refine aM_iast (by assumption) (by decide) rfl hW hWl (by decide) d_M_await_209 (fun g209 hR209 hF209 => ?_)
    first | refine aw_aload_n d_M_await_210 rfl rfl ?_ | refine aw_aload_nQ d_M_await_210 rfl rfl ?_ | refine aw_aload_nN d_M_await_210 rfl rfl ?_
    refine aw_dup d_M_await_211 rfl ?_
    refine aM_get (by assumption) fl_M_132 (by decide) rfl d_M_await_212 ?_
    refine aw_iconst (v := 1) d_M_await_215 (by decide) ?_
    refine aw_iadd d_M_await_216 ?_
    refine aM_put (by assumption) fl_M_132 (by decide) rfl rfl rfl rfl d_M_await_217 (fun g217 hR217 hF217 => ?_)
    refine aw_iconst (v := 1) d_M_await_220 (by decide) ?_
    refine aw_zret ?_ rfl rfl d_M_await_221
    refine hp _ ?_ ((((((((hF122.tr hF132).tr hF142).tr hF152).tr hF163).tr hF187).tr hF198).tr hF209).tr hF217)
    rw [mAwS, if_neg (Int32.not_lt.mpr c174)]
    exact hR217
  · refine aw_iload d_M_await_177 rfl ?_
    refine aw_goto (tgt := 187) d_M_await_179 (by decide) ?_
    refine aM_iast (by assumption) (by decide) rfl hW hWl (by decide) d_M_await_187 (fun g187 hR187 hF187 => ?_)
    first | refine aw_aload_n d_M_await_188 rfl rfl ?_ | refine aw_aload_nQ d_M_await_188 rfl rfl ?_ | refine aw_aload_nN d_M_await_188 rfl rfl ?_
    refine aM_get (by assumption) fl_M_83 (by decide) rfl d_M_await_189 ?_
    first | refine aw_aload_n d_M_await_192 rfl rfl ?_ | refine aw_aload_nQ d_M_await_192 rfl rfl ?_ | refine aw_aload_nN d_M_await_192 rfl rfl ?_
    refine aM_get (by assumption) fl_M_132 (by decide) rfl d_M_await_193 ?_
    refine aw_lload d_M_await_196 rfl ?_
    refine aM_last (by assumption) (by decide) rfl hW hWl (by decide) d_M_await_198 (fun g198 hR198 hF198 => ?_)
    first | refine aw_aload_n d_M_await_199 rfl rfl ?_ | refine aw_aload_nQ d_M_await_199 rfl rfl ?_ | refine aw_aload_nN d_M_await_199 rfl rfl ?_
    refine aM_get (by assumption) fl_M_80 (by decide) rfl d_M_await_200 ?_
    first | refine aw_aload_n d_M_await_203 rfl rfl ?_ | refine aw_aload_nQ d_M_await_203 rfl rfl ?_ | refine aw_aload_nN d_M_await_203 rfl rfl ?_
    refine aM_get (by assumption) fl_M_132 (by decide) rfl d_M_await_204 ?_
    refine aw_iload d_M_await_207 rfl ?_
    refine aM_iast (by assumption) (by decide) rfl hW hWl (by decide) d_M_await_209 (fun g209 hR209 hF209 => ?_)
    first | refine aw_aload_n d_M_await_210 rfl rfl ?_ | refine aw_aload_nQ d_M_await_210 rfl rfl ?_ | refine aw_aload_nN d_M_await_210 rfl rfl ?_
    refine aw_dup d_M_await_211 rfl ?_
    refine aM_get (by assumption) fl_M_132 (by decide) rfl d_M_await_212 ?_
    refine aw_iconst (v := 1) d_M_await_215 (by decide) ?_
    refine aw_iadd d_M_await_216 ?_
    refine aM_put (by assumption) fl_M_132 (by decide) rfl rfl rfl rfl d_M_await_217 (fun g217 hR217 hF217 => ?_)
    refine aw_iconst (v := 1) d_M_await_220 (by decide) ?_
    refine aw_zret ?_ rfl rfl d_M_await_221
    refine hp _ ?_ ((((((((hF122.tr hF132).tr hF142).tr hF152).tr hF163).tr hF187).tr hF198).tr hF209).tr hF217)
    rw [mAwS, if_pos (Int32.not_le.mp c174)]
    exact hR217
set_option maxRecDepth 20000 in
theorem t_M_await {G : ax_G} {x : ax_X} {h0 h : ax_H} {P : Option Value → ax_H → Prop} {m : Nat} {s : mSt} (hR : mR m (va_up s.1 0 0, s.2) h) (U S F W : Nat) (hU : s.1 1 = nI U) (hUb : U ≤ 32) (hS : s.1 2 = nI S) (hSb : S ≤ 2048) (hW : s.1 3 = nI W) (hWb : W ≤ 4096) (hFs : 0 < U → s.2.1 16 (U - 1) = nI F) (hFS : F ≤ S) (a p n nx wh l : Int32) (z : Int64) (hp : mAwOk s U S F W a p n nx wh l → ∀ h2, mR m (mAwS s F W a p n nx wh z l) h2 → mFr m h h2 → P (some (.int 1)) h2) (hn : ¬ mAwOk s U S F W a p n nx wh l → P (some (.int 0)) h) (h48 : n = 4 ∨ n = 8) : AW G x Y_M_await 2 44 h0 P h 16 [some (.ref m), some (.int a), some (.int p), some (.int n), some (.int nx), some (.int wh), some (.long z), none, some (.int l), none] [] := by
  first | refine aw_aload_n d_M_await_16 rfl rfl ?_ | refine aw_aload_nQ d_M_await_16 rfl rfl ?_ | refine aw_aload_nN d_M_await_16 rfl rfl ?_
  refine aw_iload_n d_M_await_17 rfl rfl ?_
  refine aw_iload_n d_M_await_18 rfl rfl ?_
  refine aw_iload_n d_M_await_19 rfl rfl ?_
  refine aw_callV (c_M_lies G _ m (va_up s.1 0 0, s.2) (by assumption) U hU hUb a p n) cl_M (mR.obj (by assumption)) m_M_lies ml_M_154 rfl rfl (by decide) (by decide) (Nat.le_of_ble_eq_true rfl) d_M_await_20 ?_
  rintro v h' ⟨rfl, rfl⟩
  refine aw_if_eq (tgt := 44) d_M_await_23 (by decide) (fun c23 => ?_) (fun c23 => ?_)
  · refine aw_iconst (v := 0) d_M_await_44 (by decide) ?_
    refine aw_zret ?_ rfl rfl d_M_await_45
    exact hn (fun q => absurd c23 (by rw [zI, if_pos (show mLies (va_up s.1 0 0, s.2) U a p n from q.2.1)]; decide))
  · refine aw_iload d_M_await_26 rfl ?_
    refine aw_callS (c_M_isLine G _ l) m_M_isLine ml_M_158 rfl rfl (by decide) (by decide) (Nat.le_of_ble_eq_true rfl) d_M_await_28 ?_
    rintro v h' ⟨rfl, rfl⟩
    refine aw_if_eq (tgt := 44) d_M_await_31 (by decide) (fun c31 => ?_) (fun c31 => ?_)
    · refine aw_iconst (v := 0) d_M_await_44 (by decide) ?_
      refine aw_zret ?_ rfl rfl d_M_await_45
      exact hn (fun q => absurd c31 (by rw [zI, if_pos q.2.2.1]; decide))
    · first | refine aw_aload_n d_M_await_34 rfl rfl ?_ | refine aw_aload_nQ d_M_await_34 rfl rfl ?_ | refine aw_aload_nN d_M_await_34 rfl rfl ?_
      refine aM_get (by assumption) fl_M_132 (by decide) rfl d_M_await_35 ?_
      refine aw_sipush (v := 4096) d_M_await_38 (by decide) ?_
      refine aw_icmp_ne (tgt := 46) d_M_await_41 (by decide) (fun c41 => ?_) (fun c41 => ?_)
      · have hWl : W < 4096 := Nat.lt_of_le_of_ne hWb (fun q => c41 (by show s.1 3 = 4096; rw [hW, q]; rfl))
        have hln : 0 ≤ l ∧ l ≤ 65535 := by
          by_cases q : 0 ≤ l ∧ l ≤ 65535
          · exact q
          · exact absurd (show zI (0 ≤ l ∧ l ≤ 65535) = 0 by rw [zI, if_neg q]) c31
        have hl : mLies s U a p n := by
          by_cases q : mLies s U a p n
          · exact q
          · exact absurd (show zI (mLies (va_up s.1 0 0, s.2) U a p n) = 0 by rw [zI, if_neg q]) c23
        obtain ⟨hU0, q1, q2, -, -⟩ := id hl
        obtain ⟨i, hi, ha⟩ := ax_ix (M := 3) (by decide) (Int32.not_lt.mpr q1) (Int32.not_le.mpr q2)
        have hci : a.toNatClampNeg = i := by rw [ha]; exact nI_clamp (by omega)
        refine aw_iload d_M_await_46 rfl ?_
        refine aw_iconst (v := (-1)) d_M_await_48 (by decide) ?_
        refine aw_icmp_lt (tgt := 74) d_M_await_49 (by decide) (fun c49 => ?_) (fun c49 => ?_)
        · refine aw_iconst (v := 0) d_M_await_74 (by decide) ?_
          refine aw_zret ?_ rfl rfl d_M_await_75
          exact hn (fun q => absurd c49 (Int32.not_lt.mpr q.2.2.2.2.1.1))
        · refine aw_iload d_M_await_52 rfl ?_
          first | refine aw_aload_n d_M_await_54 rfl rfl ?_ | refine aw_aload_nQ d_M_await_54 rfl rfl ?_ | refine aw_aload_nN d_M_await_54 rfl rfl ?_
          refine aM_get (by assumption) fl_M_22 (by decide) rfl d_M_await_55 ?_
          first | refine aw_aload_n d_M_await_58 rfl rfl ?_ | refine aw_aload_nQ d_M_await_58 rfl rfl ?_ | refine aw_aload_nN d_M_await_58 rfl rfl ?_
          refine aw_iload_n d_M_await_59 rfl rfl ?_
          refine aw_callV (c_M_own G _ m _ (by assumption) _) cl_M (mR.obj (by assumption)) m_M_own ml_M_150 rfl rfl (by decide) (by decide) (Nat.le_of_ble_eq_true rfl) d_M_await_60 ?_
          rintro v h' ⟨rfl, rfl⟩
          have eo : 4 * ((va_up s.1 0 0, s.2).1 1 - 1) + a = nI (4 * (U - 1) + i) := by
            show 4 * (s.1 1 - 1) + a = _
            rw [hU, ha, ax_own hU0]
          refine aM_iald (by assumption) (by decide) rfl eo (show 4 * (U - 1) + i < 128 by omega) (by decide) d_M_await_63 ?_
          refine aw_icmp_gt (tgt := 74) d_M_await_64 (by decide) (fun c64 => ?_) (fun c64 => ?_)
          · refine aw_iconst (v := 0) d_M_await_74 (by decide) ?_
            refine aw_zret ?_ rfl rfl d_M_await_75
            exact hn (fun q => absurd c64 (Int32.not_lt.mpr (by have y := q.2.2.2.2.1.2; rw [hci] at y; exact y)))
          · refine aw_iload d_M_await_67 rfl ?_
            refine aw_bipush (v := (-5)) d_M_await_69 (by decide) ?_
            refine aw_icmp_ge (tgt := 76) d_M_await_71 (by decide) (fun c71 => ?_) (fun c71 => ?_)
            · first | refine aw_aload_n d_M_await_76 rfl rfl ?_ | refine aw_aload_nQ d_M_await_76 rfl rfl ?_ | refine aw_aload_nN d_M_await_76 rfl rfl ?_
              refine aM_get (by assumption) fl_M_59 (by decide) rfl d_M_await_77 ?_
              first | refine aw_aload_n d_M_await_80 rfl rfl ?_ | refine aw_aload_nQ d_M_await_80 rfl rfl ?_ | refine aw_aload_nN d_M_await_80 rfl rfl ?_
              refine aM_get (by assumption) fl_M_126 (by decide) rfl d_M_await_81 ?_
              refine aw_iconst (v := 1) d_M_await_84 (by decide) ?_
              refine aw_isub d_M_await_85 ?_
              have eu : (va_up s.1 0 0, s.2).1 1 - 1 = nI (U - 1) := by
                show s.1 1 - 1 = _
                rw [hU, ax_n1 U hU0]
              refine aM_iald (by assumption) (by decide) rfl eu (show U - 1 < 33 by omega) (by decide) d_M_await_86 ?_
              rw [show (va_up s.1 0 0, s.2).2.1 16 (U - 1) = nI F from hFs hU0]
              refine aw_istore d_M_await_87 (by decide) rfl ?_
              refine aw_iload d_M_await_89 rfl ?_
              refine aw_if_lt (tgt := 108) d_M_await_91 (by decide) (fun c91 => ?_) (fun c91 => ?_)
              · have hyes : mAwOk s U S F W a p n nx wh l := ⟨h48, hl, hln, fun q => c41 (by show s.1 3 = 4096; rw [hW, q]; rfl), ⟨Int32.not_lt.mp c49, by rw [hci]; exact Int32.not_lt.mp c64⟩, c71, by first | exact Or.inl c91 | exact Or.inr (by rw [← hS]; exact c103)⟩
                exact t_M_await2 hR F W hW hWl a p n nx wh l z (hp hyes)
              · refine aw_iload d_M_await_94 rfl ?_
                first | refine aw_aload_n d_M_await_96 rfl rfl ?_ | refine aw_aload_nQ d_M_await_96 rfl rfl ?_ | refine aw_aload_nN d_M_await_96 rfl rfl ?_
                refine aM_get (by assumption) fl_M_129 (by decide) rfl d_M_await_97 ?_
                refine aw_iload d_M_await_100 rfl ?_
                refine aw_isub d_M_await_102 ?_
                refine aw_icmp_lt (tgt := 108) d_M_await_103 (by decide) (fun c103 => ?_) (fun c103 => ?_)
                · have hyes : mAwOk s U S F W a p n nx wh l := ⟨h48, hl, hln, fun q => c41 (by show s.1 3 = 4096; rw [hW, q]; rfl), ⟨Int32.not_lt.mp c49, by rw [hci]; exact Int32.not_lt.mp c64⟩, c71, by first | exact Or.inl c91 | exact Or.inr (by rw [← hS]; exact c103)⟩
                  exact t_M_await2 hR F W hW hWl a p n nx wh l z (hp hyes)
                · refine aw_iconst (v := 0) d_M_await_106 (by decide) ?_
                  refine aw_zret ?_ rfl rfl d_M_await_107
                  exact hn (fun q => absurd (q.2.2.2.2.2.2.resolve_left c91) (by rw [← hS]; exact c103))
            · refine aw_iconst (v := 0) d_M_await_74 (by decide) ?_
              refine aw_zret ?_ rfl rfl d_M_await_75
              exact hn (fun q => absurd q.2.2.2.2.2.1 c71)
      · refine aw_iconst (v := 0) d_M_await_44 (by decide) ?_
        refine aw_zret ?_ rfl rfl d_M_await_45
        exact hn (fun q => q.2.2.2.1 ((nI_eq (a := W) (b := 4096) (by omega) (by omega)).mp (by rw [← hW]; exact c41)))
set_option maxRecDepth 20000 in
theorem c_M_await (G : ax_G) (h : ax_H) (m : Nat) (s : mSt) (hR : mR m s h) (U S F W : Nat) (hU : s.1 1 = nI U) (hUb : U ≤ 32) (hS : s.1 2 = nI S) (hSb : S ≤ 2048) (hW : s.1 3 = nI W) (hWb : W ≤ 4096) (hFs : 0 < U → s.2.1 16 (U - 1) = nI F) (hFS : F ≤ S) (a p n nx wh l : Int32) (z : Int64) : AM G Y_M_await 2 44 [.ref m, .int a, .int p, .int n, .int nx, .int wh, .long z, .int l] h (fun v h2 => (mAwOk s U S F W a p n nx wh l ∧ v = some (.int 1) ∧ mR m (mAwS s F W a p n nx wh z l) h2 ∧ mFr m h h2) ∨ (¬ mAwOk s U S F W a p n nx wh l ∧ v = some (.int 0) ∧ mR m (va_up s.1 0 0, s.2) h2 ∧ mFr m h h2)) := by
  refine aw_enter (by decide) (Nat.le_of_ble_eq_true rfl) (n := 1) (ls := [some (.ref m), some (.int a), some (.int p), some (.int n), some (.int nx), some (.int wh), some (.long z), none, some (.int l), none]) rfl (fun x => ?_)
  first | refine aw_aload_n d_M_await_0 rfl rfl ?_ | refine aw_aload_nQ d_M_await_0 rfl rfl ?_ | refine aw_aload_nN d_M_await_0 rfl rfl ?_
  refine aw_iconst (v := 0) d_M_await_1 (by decide) ?_
  refine aM_put (by assumption) fl_M_123 (by decide) rfl rfl rfl rfl d_M_await_2 (fun g2 hR2 hF2 => ?_)
  refine aw_iload_n d_M_await_5 rfl rfl ?_
  refine aw_iconst (v := 4) d_M_await_6 (by decide) ?_
  refine aw_icmp_eq (tgt := 16) d_M_await_7 (by decide) (fun c7 => ?_) (fun c7 => ?_)
  · refine t_M_await hR2 U S F W hU hUb hS hSb hW hWb hFs hFS a p n nx wh l z (fun q h2 r1 r2 => Or.inl ⟨q, rfl, r1, hF2.tr r2⟩) (fun q => Or.inr ⟨q, rfl, hR2, hF2⟩) ?_
    first | exact Or.inl c7 | exact Or.inr c13
  · refine aw_iload_n d_M_await_10 rfl rfl ?_
    refine aw_bipush (v := 8) d_M_await_11 (by decide) ?_
    refine aw_icmp_ne (tgt := 44) d_M_await_13 (by decide) (fun c13 => ?_) (fun c13 => ?_)
    · refine aw_iconst (v := 0) d_M_await_44 (by decide) ?_
      refine aw_zret ?_ rfl rfl d_M_await_45
      exact Or.inr ⟨fun q => q.1.elim c7 c13, rfl, hR2, hF2⟩
    · refine t_M_await hR2 U S F W hU hUb hS hSb hW hWb hFs hFS a p n nx wh l z (fun q h2 r1 r2 => Or.inl ⟨q, rfl, r1, hF2.tr r2⟩) (fun q => Or.inr ⟨q, rfl, hR2, hF2⟩) ?_
      first | exact Or.inl c7 | exact Or.inr c13
end
section
/-- n bytes from a on become 0 -/
def mZ (f : Nat → Int32) (a n : Nat) : Nat → Int32 := fun j => if a ≤ j ∧ j < a + n then 0 else f j
theorem mZ_0 (f : Nat → Int32) (a : Nat) : mZ f a 0 = f := by
  funext j
  rw [mZ, if_neg (by omega)]
theorem mZ_s (f : Nat → Int32) (a k : Nat) : va_up (mZ f a k) (a + k) 0 = mZ f a (k + 1) := by
  funext j
  by_cases hj : j = a + k
  · subst hj
    rw [va_up_self, mZ, if_pos (by omega)]
  · rw [va_up_ne _ _ hj, mZ, mZ]
    by_cases q : a ≤ j ∧ j < a + k
    · rw [if_pos q, if_pos (by omega)]
    · rw [if_neg q, if_neg (by omega)]
/-- the sizes by their sections -/
def mSz (t r d b : Nat) (i : Nat) : Nat := match i with
  | 0 => t
  | 1 => r
  | 2 => d
  | _ => b
/-- where the bytes of section i begin -/
def mBg (B : Nat) (z : Nat → Nat) : Nat → Nat
  | 0 => B
  | i + 1 => mBg B z i + (if i < 3 then z i else 0)
/-- one section of a new unit u -/
def mUStep (u B : Nat) (z : Nat → Nat) (i : Nat) (t : mSt) : mSt := (va_up t.1 5 (nI (mBg B z (i + 1))), va_up (va_up (va_up (va_up t.2.1 5 (va_up (t.2.1 5) (4 * u + i) (nI (z i)))) 6 (va_up (t.2.1 6) (4 * u + i) (nI (mBg B z i)))) 2 (va_up (t.2.1 2) (4 * u + i) 0)) 8 (if i < 3 then mZ (t.2.1 8) (mBg B z i) (z i) else t.2.1 8), t.2.2)
def mUS (s : mSt) (u B : Nat) (z : Nat → Nat) (l : Int32) : Nat → mSt
  | 0 => (va_up s.1 0 0, va_up (va_up s.2.1 1 (va_up (s.2.1 1) u (l &&& 1))) 16 (va_up (s.2.1 16) u (s.1 2)), s.2.2)
  | i + 1 => mUStep u B z i (mUS s u B z l i)
theorem mUS_1 (s : mSt) (u B : Nat) (z : Nat → Nat) (l : Int32) : ∀ i, (mUS s u B z l i).1 1 = s.1 1
  | 0 => rfl
  | i + 1 => mUS_1 s u B z l i
theorem mUS_5 (s : mSt) (u B : Nat) (z : Nat → Nat) (l : Int32) (hB : s.1 5 = nI B) : ∀ i, (mUS s u B z l i).1 5 = nI (mBg B z i)
  | 0 => hB
  | i + 1 => rfl
theorem mBg_le (B : Nat) (z : Nat → Nat) (hz : B + z 0 + z 1 + z 2 ≤ 262144) : ∀ i, i ≤ 4 → mBg B z i ≤ 262144 ∧ (i < 3 → mBg B z i + z i ≤ 262144) := by
  intro i hi
  have e0 : mBg B z 0 = B := rfl
  have e1 : mBg B z 1 = B + z 0 := rfl
  have e2 : mBg B z 2 = B + z 0 + z 1 := rfl
  have e3 : mBg B z 3 = B + z 0 + z 1 + z 2 := rfl
  have e4 : mBg B z 4 = B + z 0 + z 1 + z 2 + 0 := rfl
  match i, hi with
  | 0, _ => rw [e0]; exact ⟨by omega, fun _ => by omega⟩
  | 1, _ => rw [e1]; exact ⟨by omega, fun _ => by omega⟩
  | 2, _ => rw [e2]; exact ⟨by omega, fun _ => by omega⟩
  | 3, _ => rw [e3]; exact ⟨by omega, fun q => absurd q (by omega)⟩
  | 4, _ => rw [e4]; exact ⟨by omega, fun q => absurd q (by omega)⟩
set_option maxRecDepth 20000 in
theorem l_M_unitz {G : ax_G} {x : ax_X} {h0 : ax_H} {P : Option Value → ax_H → Prop} {m : Nat} (c : mSt) (F : Nat → Int32) (lb : Int32) (t r d b U i A n : Nat) (hi : i < 3) (hA : c.1 5 = nI A) (hAn : A + n ≤ 262144) (hq : ax_H) (hk : ∀ h2, mR m (c.1, va_up c.2.1 8 (mZ F A n), c.2.2) h2 → mFr m hq h2 → AW G x Y_M_unit 1 20 h0 P h2 208 [some (.ref m), some (.int lb), some (.int (nI t)), some (.int (nI r)), some (.int (nI d)), some (.int (nI b)), some (.int (nI U)), some (.int (nI i)), some (.int (nI n)), some (.int (nI n))] []) : ∀ q k h, k + q = n → mR m (c.1, va_up c.2.1 8 (mZ F A k), c.2.2) h → mFr m hq h → AW G x Y_M_unit 1 20 h0 P h 176 [some (.ref m), some (.int lb), some (.int (nI t)), some (.int (nI r)), some (.int (nI d)), some (.int (nI b)), some (.int (nI U)), some (.int (nI i)), some (.int (nI n)), some (.int (nI k))] [] := by
  intro q
  induction q with
  | zero =>
    intro k h hkn hR hF
    have hkk : k = n := by omega
    subst hkk
    refine aw_iload d_M_unit_176 rfl ?_
    refine aw_iload d_M_unit_178 rfl ?_
    refine aw_icmp_ge (tgt := 208) d_M_unit_180 (by decide) (fun c180 => ?_) (fun c180 => ?_)
    · exact hk _ hR hF
    · exact absurd (nI_le (Nat.le_refl _) (by omega)) c180
  | succ q ih =>
    intro k h hkn hR hF
    refine aw_iload d_M_unit_176 rfl ?_
    refine aw_iload d_M_unit_178 rfl ?_
    refine aw_icmp_ge (tgt := 208) d_M_unit_180 (by decide) (fun c180 => ?_) (fun c180 => ?_)
    · exact absurd c180 (nI_ge (by omega) (by omega))
    · refine aw_iload d_M_unit_183 rfl ?_
      refine aw_iconst (v := 3) d_M_unit_185 (by decide) ?_
      refine aw_icmp_ge (tgt := 208) d_M_unit_186 (by decide) (fun c186 => ?_) (fun c186 => ?_)
      · exact absurd c186 (nI_ge (a := i) (b := 3) hi (by decide))
      · first | refine aw_aload_n d_M_unit_189 rfl rfl ?_ | refine aw_aload_nQ d_M_unit_189 rfl rfl ?_ | refine aw_aload_nN d_M_unit_189 rfl rfl ?_
        refine aM_get (by assumption) fl_M_33 (by decide) rfl d_M_unit_190 ?_
        first | refine aw_aload_n d_M_unit_193 rfl rfl ?_ | refine aw_aload_nQ d_M_unit_193 rfl rfl ?_ | refine aw_aload_nN d_M_unit_193 rfl rfl ?_
        refine aM_get (by assumption) fl_M_138 (by decide) rfl d_M_unit_194 ?_
        refine aw_iload d_M_unit_197 rfl ?_
        refine aw_iadd d_M_unit_199 ?_
        refine aw_iconst (v := 0) d_M_unit_200 (by decide) ?_
        have ek : c.1 5 + nI k = nI (A + k) := by rw [hA, nI_add]
        refine aM_bast (by assumption) (by decide) rfl ek (show A + k < 262144 by omega) (by decide) d_M_unit_201 (fun g201 hR201 hF201 => ?_)
        refine aw_iinc (v := nI (k + 1)) d_M_unit_202 rfl (ax_inc k) (by decide) rfl ?_
        refine aw_goto (tgt := 176) d_M_unit_205 (by decide) ?_
        refine ih (k + 1) _ (by omega) ?_ (hF.tr hF201)
        have hR201 : mR m (c.1, va_up (va_up c.2.1 8 (mZ F A k)) 8 (va_up (mZ F A k) (A + k) 0), c.2.2) g201 := hR201
        rw [bx_uu, mZ_s] at hR201
        exact hR201
set_option maxRecDepth 20000 in
theorem t_M_unit {G : ax_G} {x : ax_X} {h0 : ax_H} {P : Option Value → ax_H → Prop} {m : Nat} (c : mSt) (lb : Int32) (t r d b U i B : Nat) (q9 : Option Value) (hi : i < 4) (hU : U < 32) (hB : c.1 5 = nI (mBg B (mSz t r d b) i)) (hz : B + t + r + d ≤ 262144) (hbb : b ≤ 65536) (h : ax_H) (hR : mR m c h) (hk : ∀ h2, mR m (mUStep U B (mSz t r d b) i c) h2 → mFr m h h2 → ∀ o9, AW G x Y_M_unit 1 20 h0 P h2 229 [some (.ref m), some (.int lb), some (.int (nI t)), some (.int (nI r)), some (.int (nI d)), some (.int (nI b)), some (.int (nI U)), some (.int (nI i)), some (.int (nI (mSz t r d b i))), o9] []) : AW G x Y_M_unit 1 20 h0 P h 130 [some (.ref m), some (.int lb), some (.int (nI t)), some (.int (nI r)), some (.int (nI d)), some (.int (nI b)), some (.int (nI U)), some (.int (nI i)), some (.int (nI (mSz t r d b i))), q9] [] := by
  have hbl := mBg_le B (mSz t r d b) hz i (by omega)
  have hzi : mSz t r d b i ≤ 262144 := by
    match i, hi with
    | 0, _ => show t ≤ _; omega
    | 1, _ => show r ≤ _; omega
    | 2, _ => show d ≤ _; omega
    | 3, _ => show b ≤ _; omega
  first | refine aw_aload_n d_M_unit_130 rfl rfl ?_ | refine aw_aload_nQ d_M_unit_130 rfl rfl ?_ | refine aw_aload_nN d_M_unit_130 rfl rfl ?_
  refine aM_get (by assumption) fl_M_22 (by decide) rfl d_M_unit_131 ?_
  refine aw_iconst (v := 4) d_M_unit_134 (by decide) ?_
  refine aw_iload d_M_unit_135 rfl ?_
  refine aw_imul d_M_unit_137 ?_
  refine aw_iload d_M_unit_138 rfl ?_
  refine aw_iadd d_M_unit_140 ?_
  refine aw_iload d_M_unit_141 rfl ?_
  refine aM_iast (by assumption) (by decide) rfl (ax_row U i) (show 4 * U + i < 128 by omega) (by decide) d_M_unit_143 (fun g143 hR143 hF143 => ?_)
  first | refine aw_aload_n d_M_unit_144 rfl rfl ?_ | refine aw_aload_nQ d_M_unit_144 rfl rfl ?_ | refine aw_aload_nN d_M_unit_144 rfl rfl ?_
  refine aM_get (by assumption) fl_M_26 (by decide) rfl d_M_unit_145 ?_
  refine aw_iconst (v := 4) d_M_unit_148 (by decide) ?_
  refine aw_iload d_M_unit_149 rfl ?_
  refine aw_imul d_M_unit_151 ?_
  refine aw_iload d_M_unit_152 rfl ?_
  refine aw_iadd d_M_unit_154 ?_
  first | refine aw_aload_n d_M_unit_155 rfl rfl ?_ | refine aw_aload_nQ d_M_unit_155 rfl rfl ?_ | refine aw_aload_nN d_M_unit_155 rfl rfl ?_
  refine aM_get (by assumption) fl_M_138 (by decide) rfl d_M_unit_156 ?_
  refine aM_iast (by assumption) (by decide) rfl (ax_row U i) (show 4 * U + i < 128 by omega) (by decide) d_M_unit_159 (fun g159 hR159 hF159 => ?_)
  first | refine aw_aload_n d_M_unit_160 rfl rfl ?_ | refine aw_aload_nQ d_M_unit_160 rfl rfl ?_ | refine aw_aload_nN d_M_unit_160 rfl rfl ?_
  refine aM_get (by assumption) fl_M_13 (by decide) rfl d_M_unit_161 ?_
  refine aw_iconst (v := 4) d_M_unit_164 (by decide) ?_
  refine aw_iload d_M_unit_165 rfl ?_
  refine aw_imul d_M_unit_167 ?_
  refine aw_iload d_M_unit_168 rfl ?_
  refine aw_iadd d_M_unit_170 ?_
  refine aw_iconst (v := 0) d_M_unit_171 (by decide) ?_
  refine aM_zast (by assumption) (by decide) rfl (ax_row U i) (show 4 * U + i < 128 by omega) (by decide) d_M_unit_172 (fun g172 hR172 hF172 => ?_)
  refine aw_iconst (v := 0) d_M_unit_173 (by decide) ?_
  refine aw_istore d_M_unit_174 (by decide) rfl ?_
  have hR172 : mR m (c.1, va_up (va_up (va_up c.2.1 5 (va_up (c.2.1 5) (4 * U + i) (nI (mSz t r d b i)))) 6 (va_up (c.2.1 6) (4 * U + i) (c.1 5))) 2 (va_up (c.2.1 2) (4 * U + i) 0), c.2.2) g172 := hR172
  rw [hB] at hR172
  have hF2 := (hF143.tr hF159).tr hF172
  by_cases h3 : i < 3
  · refine l_M_unitz (c.1, va_up (va_up (va_up c.2.1 5 (va_up (c.2.1 5) (4 * U + i) (nI (mSz t r d b i)))) 6 (va_up (c.2.1 6) (4 * U + i) (nI (mBg B (mSz t r d b) i)))) 2 (va_up (c.2.1 2) (4 * U + i) 0), c.2.2) (c.2.1 8) lb t r d b U i (mBg B (mSz t r d b) i) (mSz t r d b i) h3 hB (hbl.2 h3) h ?_ (mSz t r d b i) 0 _ (by omega) ?_ hF2
    · intro h2 hR hF
      first | refine aw_aload_n d_M_unit_208 rfl rfl ?_ | refine aw_aload_nQ d_M_unit_208 rfl rfl ?_ | refine aw_aload_nN d_M_unit_208 rfl rfl ?_
      refine aw_dup d_M_unit_209 rfl ?_
      refine aM_get (by assumption) fl_M_138 (by decide) rfl d_M_unit_210 ?_
      refine aw_iload d_M_unit_213 rfl ?_
      refine aw_iconst (v := 3) d_M_unit_215 (by decide) ?_
      refine aw_icmp_ge (tgt := 224) d_M_unit_216 (by decide) (fun c216 => ?_) (fun c216 => ?_)
      · exact absurd c216 (nI_ge (a := i) (b := 3) h3 (by decide))
      · refine aw_iload d_M_unit_219 rfl ?_
        refine aw_goto (tgt := 225) d_M_unit_221 (by decide) ?_
        refine aw_iadd d_M_unit_225 ?_
        have eb : c.1 5 + nI (mSz t r d b i) = nI (mBg B (mSz t r d b) (i + 1)) := by rw [hB, nI_add, mBg, if_pos h3]
        refine aM_put (by assumption) fl_M_138 (by decide) rfl rfl rfl rfl d_M_unit_226 (fun g226 hR226 hF226 => ?_)
        refine hk _ ?_ (hF.tr hF226) _
        have hR226 : mR m (va_up c.1 5 (c.1 5 + nI (mSz t r d b i)), va_up (va_up (va_up (va_up c.2.1 5 (va_up (c.2.1 5) (4 * U + i) (nI (mSz t r d b i)))) 6 (va_up (c.2.1 6) (4 * U + i) (nI (mBg B (mSz t r d b) i)))) 2 (va_up (c.2.1 2) (4 * U + i) 0)) 8 (mZ (c.2.1 8) (mBg B (mSz t r d b) i) (mSz t r d b i)), c.2.2) g226 := hR226
        rw [eb] at hR226
        rw [mUStep, if_pos h3]
        exact hR226
    · rw [mZ_0]
      refine hR172.same (fun k => ?_) (fun k => rfl)
      by_cases hk8 : k = 8
      · subst hk8; exact va_up_self _ _ _
      · exact va_up_ne _ _ hk8
  · have hi3 : i = 3 := by omega
    subst hi3
    refine aw_iload d_M_unit_176 rfl ?_
    refine aw_iload d_M_unit_178 rfl ?_
    refine aw_icmp_ge (tgt := 208) d_M_unit_180 (by decide) (fun c180 => ?_) (fun c180 => ?_)
    · first | refine aw_aload_n d_M_unit_208 rfl rfl ?_ | refine aw_aload_nQ d_M_unit_208 rfl rfl ?_ | refine aw_aload_nN d_M_unit_208 rfl rfl ?_
      refine aw_dup d_M_unit_209 rfl ?_
      refine aM_get (by assumption) fl_M_138 (by decide) rfl d_M_unit_210 ?_
      refine aw_iload d_M_unit_213 rfl ?_
      refine aw_iconst (v := 3) d_M_unit_215 (by decide) ?_
      refine aw_icmp_ge (tgt := 224) d_M_unit_216 (by decide) (fun c216 => ?_) (fun c216 => ?_)
      · refine aw_iconst (v := 0) d_M_unit_224 (by decide) ?_
        refine aw_iadd d_M_unit_225 ?_
        have eb : c.1 5 + 0 = nI (mBg B (mSz t r d b) (3 + 1)) := by rw [hB, show (0 : Int32) = nI 0 from rfl, nI_add]; rfl
        refine aM_put (by assumption) fl_M_138 (by decide) rfl rfl rfl rfl d_M_unit_226 (fun g226 hR226 hF226 => ?_)
        refine hk _ ?_ (hF2.tr hF226) _
        have hR226 : mR m (va_up c.1 5 (c.1 5 + 0), va_up (va_up (va_up c.2.1 5 (va_up (c.2.1 5) (4 * U + 3) (nI (mSz t r d b 3)))) 6 (va_up (c.2.1 6) (4 * U + 3) (nI (mBg B (mSz t r d b) 3)))) 2 (va_up (c.2.1 2) (4 * U + 3) 0), c.2.2) g226 := hR226
        rw [eb] at hR226
        rw [mUStep, if_neg (by decide)]
        refine hR226.same (fun k => ?_) (fun k => rfl)
        by_cases hk8 : k = 8
        · subst hk8; exact va_up_self _ _ _
        · exact va_up_ne _ _ hk8
      · exact absurd (by decide) c216
    · refine aw_iload d_M_unit_183 rfl ?_
      refine aw_iconst (v := 3) d_M_unit_185 (by decide) ?_
      refine aw_icmp_ge (tgt := 208) d_M_unit_186 (by decide) (fun c186 => ?_) (fun c186 => ?_)
      · first | refine aw_aload_n d_M_unit_208 rfl rfl ?_ | refine aw_aload_nQ d_M_unit_208 rfl rfl ?_ | refine aw_aload_nN d_M_unit_208 rfl rfl ?_
        refine aw_dup d_M_unit_209 rfl ?_
        refine aM_get (by assumption) fl_M_138 (by decide) rfl d_M_unit_210 ?_
        refine aw_iload d_M_unit_213 rfl ?_
        refine aw_iconst (v := 3) d_M_unit_215 (by decide) ?_
        refine aw_icmp_ge (tgt := 224) d_M_unit_216 (by decide) (fun c216 => ?_) (fun c216 => ?_)
        · refine aw_iconst (v := 0) d_M_unit_224 (by decide) ?_
          refine aw_iadd d_M_unit_225 ?_
          have eb : c.1 5 + 0 = nI (mBg B (mSz t r d b) (3 + 1)) := by rw [hB, show (0 : Int32) = nI 0 from rfl, nI_add]; rfl
          refine aM_put (by assumption) fl_M_138 (by decide) rfl rfl rfl rfl d_M_unit_226 (fun g226 hR226 hF226 => ?_)
          refine hk _ ?_ (hF2.tr hF226) _
          have hR226 : mR m (va_up c.1 5 (c.1 5 + 0), va_up (va_up (va_up c.2.1 5 (va_up (c.2.1 5) (4 * U + 3) (nI (mSz t r d b 3)))) 6 (va_up (c.2.1 6) (4 * U + 3) (nI (mBg B (mSz t r d b) 3)))) 2 (va_up (c.2.1 2) (4 * U + 3) 0), c.2.2) g226 := hR226
          rw [eb] at hR226
          rw [mUStep, if_neg (by decide)]
          refine hR226.same (fun k => ?_) (fun k => rfl)
          by_cases hk8 : k = 8
          · subst hk8; exact va_up_self _ _ _
          · exact va_up_ne _ _ hk8
        · exact absurd (by decide) c216
      · exact absurd (by decide) c186
set_option maxRecDepth 20000 in
theorem l_M_unit {G : ax_G} {x : ax_X} {h0 : ax_H} {P : Option Value → ax_H → Prop} {m : Nat} (s : mSt) (lb : Int32) (t r d b U B : Nat) (hU1 : s.1 1 = nI U) (hU : U < 32) (hB : s.1 5 = nI B) (hz : B + t + r + d ≤ 262144) (hbb : b ≤ 65536) (hq : ax_H) (hp : ∀ h2, mR m (va_up (mUS s U B (mSz t r d b) lb 4).1 1 (nI (U + 1)), (mUS s U B (mSz t r d b) lb 4).2) h2 → mFr m hq h2 → P (some (.int (nI U))) h2) : ∀ q i h q8 q9, i + q = 4 → mR m (mUS s U B (mSz t r d b) lb i) h → mFr m hq h → ax_c1 [none, none, none, none, none, none, none, none, q8, q9] 9 → AW G x Y_M_unit 1 20 h0 P h 90 [some (.ref m), some (.int lb), some (.int (nI t)), some (.int (nI r)), some (.int (nI d)), some (.int (nI b)), some (.int (nI U)), some (.int (nI i)), q8, q9] [] := by
  intro q
  induction q with
  | zero =>
    intro i h q8 q9 hiq hR hF hc8
    have hii : i = 4 := by omega
    subst hii
    refine aw_iload d_M_unit_90 rfl ?_
    refine aw_iconst (v := 4) d_M_unit_92 (by decide) ?_
    refine aw_icmp_ge (tgt := 235) d_M_unit_93 (by decide) (fun c93 => ?_) (fun c93 => ?_)
    · first | refine aw_aload_n d_M_unit_235 rfl rfl ?_ | refine aw_aload_nQ d_M_unit_235 rfl rfl ?_ | refine aw_aload_nN d_M_unit_235 rfl rfl ?_
      refine aw_dup d_M_unit_236 rfl ?_
      refine aM_get (by assumption) fl_M_126 (by decide) rfl d_M_unit_237 ?_
      refine aw_iconst (v := 1) d_M_unit_240 (by decide) ?_
      refine aw_iadd d_M_unit_241 ?_
      have e1 : (mUS s U B (mSz t r d b) lb 4).1 1 + 1 = nI (U + 1) := by rw [mUS_1, hU1, nI_1]
      refine aM_put (by assumption) fl_M_126 (by decide) rfl rfl rfl rfl d_M_unit_242 (fun g242 hR242 hF242 => ?_)
      refine aw_iload d_M_unit_245 rfl ?_
      refine aw_iret ?_ rfl d_M_unit_247
      rw [e1] at hR242
      exact hp _ hR242 (hF.tr hF242)
    · exact absurd (by decide) c93
  | succ q ih =>
    intro i h q8 q9 hiq hR hF hc8
    refine aw_iload d_M_unit_90 rfl ?_
    refine aw_iconst (v := 4) d_M_unit_92 (by decide) ?_
    refine aw_icmp_ge (tgt := 235) d_M_unit_93 (by decide) (fun c93 => ?_) (fun c93 => ?_)
    · exact absurd c93 (nI_ge (a := i) (b := 4) (by omega) (by decide))
    · refine aw_iload d_M_unit_96 rfl ?_
      refine aw_if_ne (tgt := 105) d_M_unit_98 (by decide) (fun c98 => ?_) (fun c98 => ?_)
      · refine aw_iload d_M_unit_105 rfl ?_
        refine aw_iconst (v := 1) d_M_unit_107 (by decide) ?_
        refine aw_icmp_ne (tgt := 115) d_M_unit_108 (by decide) (fun c108 => ?_) (fun c108 => ?_)
        · refine aw_iload d_M_unit_115 rfl ?_
          refine aw_iconst (v := 2) d_M_unit_117 (by decide) ?_
          refine aw_icmp_ne (tgt := 126) d_M_unit_118 (by decide) (fun c118 => ?_) (fun c118 => ?_)
          · refine aw_iload d_M_unit_126 rfl ?_
            have e0 : i = 3 := by
              have y0 : i ≠ 0 := fun y => c98 (by rw [y]; rfl)
              have y1 : i ≠ 1 := fun y => c108 (by rw [y]; rfl)
              have y2 : i ≠ 2 := fun y => c118 (by rw [y]; rfl)
              omega
            have ez : (nI b) = nI (mSz t r d b i) := by rw [e0]; rfl
            refine aw_istore d_M_unit_128 (by decide) rfl ?_
            refine aw_ls (ls' := [some (.ref m), some (.int lb), some (.int (nI t)), some (.int (nI r)), some (.int (nI d)), some (.int (nI b)), some (.int (nI U)), some (.int (nI i)), some (.int (nI (mSz t r d b i))), q9]) (by rw [← ez]; rfl) ?_
            refine t_M_unit (mUS s U B (mSz t r d b) lb i) lb t r d b U i B _ (by omega) hU (mUS_5 s U B (mSz t r d b) lb hB i) hz hbb h hR ?_
            intro h2 hR2 hF2 o9
            refine aw_iinc (v := nI (i + 1)) d_M_unit_229 rfl (ax_inc i) (by decide) rfl ?_
            refine aw_goto (tgt := 90) d_M_unit_232 (by decide) ?_
            exact ih (i + 1) _ _ _ (by omega) hR2 (hF.tr hF2) (fun j w e h1 => by match j, e, h1 with | 8, _, h1 => cases h1; rfl)
          · refine aw_iload d_M_unit_121 rfl ?_
            refine aw_goto (tgt := 128) d_M_unit_123 (by decide) ?_
            have e0 : i = 2 := (nI_eq (a := i) (b := 2) (by omega) (by omega)).mp c118
            have ez : (nI d) = nI (mSz t r d b i) := by rw [e0]; rfl
            refine aw_istore d_M_unit_128 (by decide) rfl ?_
            refine aw_ls (ls' := [some (.ref m), some (.int lb), some (.int (nI t)), some (.int (nI r)), some (.int (nI d)), some (.int (nI b)), some (.int (nI U)), some (.int (nI i)), some (.int (nI (mSz t r d b i))), q9]) (by rw [← ez]; rfl) ?_
            refine t_M_unit (mUS s U B (mSz t r d b) lb i) lb t r d b U i B _ (by omega) hU (mUS_5 s U B (mSz t r d b) lb hB i) hz hbb h hR ?_
            intro h2 hR2 hF2 o9
            refine aw_iinc (v := nI (i + 1)) d_M_unit_229 rfl (ax_inc i) (by decide) rfl ?_
            refine aw_goto (tgt := 90) d_M_unit_232 (by decide) ?_
            exact ih (i + 1) _ _ _ (by omega) hR2 (hF.tr hF2) (fun j w e h1 => by match j, e, h1 with | 8, _, h1 => cases h1; rfl)
        · refine aw_iload_n d_M_unit_111 rfl rfl ?_
          refine aw_goto (tgt := 128) d_M_unit_112 (by decide) ?_
          have e0 : i = 1 := (nI_eq (a := i) (b := 1) (by omega) (by omega)).mp c108
          have ez : (nI r) = nI (mSz t r d b i) := by rw [e0]; rfl
          refine aw_istore d_M_unit_128 (by decide) rfl ?_
          refine aw_ls (ls' := [some (.ref m), some (.int lb), some (.int (nI t)), some (.int (nI r)), some (.int (nI d)), some (.int (nI b)), some (.int (nI U)), some (.int (nI i)), some (.int (nI (mSz t r d b i))), q9]) (by rw [← ez]; rfl) ?_
          refine t_M_unit (mUS s U B (mSz t r d b) lb i) lb t r d b U i B _ (by omega) hU (mUS_5 s U B (mSz t r d b) lb hB i) hz hbb h hR ?_
          intro h2 hR2 hF2 o9
          refine aw_iinc (v := nI (i + 1)) d_M_unit_229 rfl (ax_inc i) (by decide) rfl ?_
          refine aw_goto (tgt := 90) d_M_unit_232 (by decide) ?_
          exact ih (i + 1) _ _ _ (by omega) hR2 (hF.tr hF2) (fun j w e h1 => by match j, e, h1 with | 8, _, h1 => cases h1; rfl)
      · refine aw_iload_n d_M_unit_101 rfl rfl ?_
        refine aw_goto (tgt := 128) d_M_unit_102 (by decide) ?_
        have e0 : i = 0 := (nI_eq (a := i) (b := 0) (by omega) (by omega)).mp c98
        have ez : (nI t) = nI (mSz t r d b i) := by rw [e0]; rfl
        refine aw_istore d_M_unit_128 (by decide) rfl ?_
        refine aw_ls (ls' := [some (.ref m), some (.int lb), some (.int (nI t)), some (.int (nI r)), some (.int (nI d)), some (.int (nI b)), some (.int (nI U)), some (.int (nI i)), some (.int (nI (mSz t r d b i))), q9]) (by rw [← ez]; rfl) ?_
        refine t_M_unit (mUS s U B (mSz t r d b) lb i) lb t r d b U i B _ (by omega) hU (mUS_5 s U B (mSz t r d b) lb hB i) hz hbb h hR ?_
        intro h2 hR2 hF2 o9
        refine aw_iinc (v := nI (i + 1)) d_M_unit_229 rfl (ax_inc i) (by decide) rfl ?_
        refine aw_goto (tgt := 90) d_M_unit_232 (by decide) ?_
        exact ih (i + 1) _ _ _ (by omega) hR2 (hF.tr hF2) (fun j w e h1 => by match j, e, h1 with | 8, _, h1 => cases h1; rfl)
abbrev mSzOk (n : Int32) : Prop := 0 ≤ n ∧ n ≤ 65536
def mUnitOk (s : mSt) (U : Nat) (t r d b : Int32) : Prop := mSzOk t ∧ mSzOk r ∧ mSzOk d ∧ mSzOk b ∧ ¬ U = 32 ∧ s.1 5 + t + r + d ≤ 262144
theorem ax_sum4 {B t r d : Nat} (hB : B ≤ 262144) (ht : t ≤ 65536) (hr : r ≤ 65536) (hd : d ≤ 65536) : nI B + nI t + nI r + nI d = nI (B + t + r + d) := by rw [nI_add, nI_add, nI_add]
set_option maxRecDepth 20000 in
theorem c_M_unit (G : ax_G) (h : ax_H) (m : Nat) (s : mSt) (hR : mR m s h) (U B : Nat) (hU1 : s.1 1 = nI U) (hUb : U ≤ 32) (hB : s.1 5 = nI B) (hBb : B ≤ 262144) (lb t r d b : Int32) : AM G Y_M_unit 1 20 [.ref m, .int lb, .int t, .int r, .int d, .int b] h (fun v h2 => (mUnitOk s U t r d b ∧ v = some (.int (nI U)) ∧ mR m (va_up (mUS s U B (mSz t.toNatClampNeg r.toNatClampNeg d.toNatClampNeg b.toNatClampNeg) lb 4).1 1 (nI (U + 1)), (mUS s U B (mSz t.toNatClampNeg r.toNatClampNeg d.toNatClampNeg b.toNatClampNeg) lb 4).2) h2 ∧ mFr m h h2) ∨ (¬ mUnitOk s U t r d b ∧ v = some (.int (-1)) ∧ mR m (va_up s.1 0 0, s.2) h2 ∧ mFr m h h2)) := by
  refine aw_enter (by decide) (Nat.le_of_ble_eq_true rfl) (n := 4) (ls := [some (.ref m), some (.int lb), some (.int t), some (.int r), some (.int d), some (.int b), none, none, none, none]) rfl (fun x => ?_)
  first | refine aw_aload_n d_M_unit_0 rfl rfl ?_ | refine aw_aload_nQ d_M_unit_0 rfl rfl ?_ | refine aw_aload_nN d_M_unit_0 rfl rfl ?_
  refine aw_iconst (v := 0) d_M_unit_1 (by decide) ?_
  refine aM_put (by assumption) fl_M_123 (by decide) rfl rfl rfl rfl d_M_unit_2 (fun g2 hR2 hF2 => ?_)
  refine aw_iload_n d_M_unit_5 rfl rfl ?_
  refine aw_callS (c_M_isSize G _ t) m_M_isSize ml_M_146 rfl rfl (by decide) (by decide) (Nat.le_of_ble_eq_true rfl) d_M_unit_6 ?_
  rintro v h' ⟨rfl, rfl⟩
  refine aw_if_eq (tgt := 60) d_M_unit_9 (by decide) (fun c9 => ?_) (fun c9 => ?_)
  · refine aw_iconst (v := (-1)) d_M_unit_60 (by decide) ?_
    refine aw_iret ?_ rfl d_M_unit_61
    exact Or.inr ⟨fun q => absurd c9 (by rw [zI, if_pos q.1]; decide), rfl, hR2, hF2⟩
  · refine aw_iload_n d_M_unit_12 rfl rfl ?_
    refine aw_callS (c_M_isSize G _ r) m_M_isSize ml_M_146 rfl rfl (by decide) (by decide) (Nat.le_of_ble_eq_true rfl) d_M_unit_13 ?_
    rintro v h' ⟨rfl, rfl⟩
    refine aw_if_eq (tgt := 60) d_M_unit_16 (by decide) (fun c16 => ?_) (fun c16 => ?_)
    · refine aw_iconst (v := (-1)) d_M_unit_60 (by decide) ?_
      refine aw_iret ?_ rfl d_M_unit_61
      exact Or.inr ⟨fun q => absurd c16 (by rw [zI, if_pos q.2.1]; decide), rfl, hR2, hF2⟩
    · refine aw_iload d_M_unit_19 rfl ?_
      refine aw_callS (c_M_isSize G _ d) m_M_isSize ml_M_146 rfl rfl (by decide) (by decide) (Nat.le_of_ble_eq_true rfl) d_M_unit_21 ?_
      rintro v h' ⟨rfl, rfl⟩
      refine aw_if_eq (tgt := 60) d_M_unit_24 (by decide) (fun c24 => ?_) (fun c24 => ?_)
      · refine aw_iconst (v := (-1)) d_M_unit_60 (by decide) ?_
        refine aw_iret ?_ rfl d_M_unit_61
        exact Or.inr ⟨fun q => absurd c24 (by rw [zI, if_pos q.2.2.1]; decide), rfl, hR2, hF2⟩
      · refine aw_iload d_M_unit_27 rfl ?_
        refine aw_callS (c_M_isSize G _ b) m_M_isSize ml_M_146 rfl rfl (by decide) (by decide) (Nat.le_of_ble_eq_true rfl) d_M_unit_29 ?_
        rintro v h' ⟨rfl, rfl⟩
        refine aw_if_eq (tgt := 60) d_M_unit_32 (by decide) (fun c32 => ?_) (fun c32 => ?_)
        · refine aw_iconst (v := (-1)) d_M_unit_60 (by decide) ?_
          refine aw_iret ?_ rfl d_M_unit_61
          exact Or.inr ⟨fun q => absurd c32 (by rw [zI, if_pos q.2.2.2.1]; decide), rfl, hR2, hF2⟩
        · first | refine aw_aload_n d_M_unit_35 rfl rfl ?_ | refine aw_aload_nQ d_M_unit_35 rfl rfl ?_ | refine aw_aload_nN d_M_unit_35 rfl rfl ?_
          refine aM_get (by assumption) fl_M_126 (by decide) rfl d_M_unit_36 ?_
          refine aw_bipush (v := 32) d_M_unit_39 (by decide) ?_
          refine aw_icmp_eq (tgt := 60) d_M_unit_41 (by decide) (fun c41 => ?_) (fun c41 => ?_)
          · refine aw_iconst (v := (-1)) d_M_unit_60 (by decide) ?_
            refine aw_iret ?_ rfl d_M_unit_61
            exact Or.inr ⟨fun q => q.2.2.2.2.1 ((nI_eq (a := U) (b := 32) (by omega) (by omega)).mp (by rw [← hU1]; exact c41)), rfl, hR2, hF2⟩
          · first | refine aw_aload_n d_M_unit_44 rfl rfl ?_ | refine aw_aload_nQ d_M_unit_44 rfl rfl ?_ | refine aw_aload_nN d_M_unit_44 rfl rfl ?_
            refine aM_get (by assumption) fl_M_138 (by decide) rfl d_M_unit_45 ?_
            refine aw_iload_n d_M_unit_48 rfl rfl ?_
            refine aw_iadd d_M_unit_49 ?_
            refine aw_iload_n d_M_unit_50 rfl rfl ?_
            refine aw_iadd d_M_unit_51 ?_
            refine aw_iload d_M_unit_52 rfl ?_
            refine aw_iadd d_M_unit_54 ?_
            refine aw_ldc kc_M_32 d_M_unit_55 ?_
            refine aw_icmp_le (tgt := 62) d_M_unit_57 (by decide) (fun c57 => ?_) (fun c57 => ?_)
            · have yt : mSzOk t := by
                by_cases q : mSzOk t
                · exact q
                · exact absurd (show zI (0 ≤ t ∧ t ≤ 65536) = 0 by rw [zI, if_neg q]) c9
              have yr : mSzOk r := by
                by_cases q : mSzOk r
                · exact q
                · exact absurd (show zI (0 ≤ r ∧ r ≤ 65536) = 0 by rw [zI, if_neg q]) c16
              have yd : mSzOk d := by
                by_cases q : mSzOk d
                · exact q
                · exact absurd (show zI (0 ≤ d ∧ d ≤ 65536) = 0 by rw [zI, if_neg q]) c24
              have yb : mSzOk b := by
                by_cases q : mSzOk b
                · exact q
                · exact absurd (show zI (0 ≤ b ∧ b ≤ 65536) = 0 by rw [zI, if_neg q]) c32
              have hU : U < 32 := Nat.lt_of_le_of_ne hUb (fun q => c41 (by show s.1 1 = 32; rw [hU1, q]; rfl))
              have hyes : mUnitOk s U t r d b := ⟨yt, yr, yd, yb, by omega, c57⟩
              first | refine aw_aload_n d_M_unit_62 rfl rfl ?_ | refine aw_aload_nQ d_M_unit_62 rfl rfl ?_ | refine aw_aload_nN d_M_unit_62 rfl rfl ?_
              refine aM_get (by assumption) fl_M_126 (by decide) rfl d_M_unit_63 ?_
              refine aw_istore d_M_unit_66 (by decide) rfl ?_
              rw [show (va_up s.1 0 0, s.2).1 1 = nI U from hU1]
              first | refine aw_aload_n d_M_unit_68 rfl rfl ?_ | refine aw_aload_nQ d_M_unit_68 rfl rfl ?_ | refine aw_aload_nN d_M_unit_68 rfl rfl ?_
              refine aM_get (by assumption) fl_M_7 (by decide) rfl d_M_unit_69 ?_
              refine aw_iload d_M_unit_72 rfl ?_
              refine aw_iload_n d_M_unit_74 rfl rfl ?_
              refine aM_zast (by assumption) (by decide) rfl rfl (show U < 32 from hU) (by decide) d_M_unit_75 (fun g75 hR75 hF75 => ?_)
              first | refine aw_aload_n d_M_unit_76 rfl rfl ?_ | refine aw_aload_nQ d_M_unit_76 rfl rfl ?_ | refine aw_aload_nN d_M_unit_76 rfl rfl ?_
              refine aM_get (by assumption) fl_M_59 (by decide) rfl d_M_unit_77 ?_
              refine aw_iload d_M_unit_80 rfl ?_
              first | refine aw_aload_n d_M_unit_82 rfl rfl ?_ | refine aw_aload_nQ d_M_unit_82 rfl rfl ?_ | refine aw_aload_nN d_M_unit_82 rfl rfl ?_
              refine aM_get (by assumption) fl_M_129 (by decide) rfl d_M_unit_83 ?_
              refine aM_iast (by assumption) (by decide) rfl rfl (show U < 33 by omega) (by decide) d_M_unit_86 (fun g86 hR86 hF86 => ?_)
              refine aw_iconst (v := 0) d_M_unit_87 (by decide) ?_
              refine aw_istore d_M_unit_88 (by decide) rfl ?_
              obtain ⟨t, ht, rfl⟩ := nI_of2 (n := 65536) (by decide) (Int32.not_lt.mpr yt.1) yt.2
              obtain ⟨r, hr, rfl⟩ := nI_of2 (n := 65536) (by decide) (Int32.not_lt.mpr yr.1) yr.2
              obtain ⟨d, hd, rfl⟩ := nI_of2 (n := 65536) (by decide) (Int32.not_lt.mpr yd.1) yd.2
              obtain ⟨b, hb, rfl⟩ := nI_of2 (n := 65536) (by decide) (Int32.not_lt.mpr yb.1) yb.2
              have hsum : B + t + r + d ≤ 262144 := by
                have q : s.1 5 + nI t + nI r + nI d ≤ nI 262144 := c57
                rw [hB, ax_sum4 hBb ht hr hd] at q
                exact (nI_leI (by omega) (by decide)).mp q
              refine l_M_unit s lb t r d b U B hU1 hU hB hsum hb h (fun h2 r1 r2 => Or.inl ⟨hyes, rfl, by rw [nI_clamp (by omega), nI_clamp (by omega), nI_clamp (by omega), nI_clamp (by omega)]; exact r1, r2⟩) 4 0 _ _ _ (by omega) hR86 ((hF2.tr hF75).tr hF86) (fun j w e h1 => by match j, e, h1 with | 8, _, h1 => cases h1)
            · refine aw_iconst (v := (-1)) d_M_unit_60 (by decide) ?_
              refine aw_iret ?_ rfl d_M_unit_61
              exact Or.inr ⟨fun q => absurd q.2.2.2.2.2 (fun y => c57 (by show s.1 5 + t + r + d ≤ 262144; exact y)), rfl, hR2, hF2⟩
end
section
/-- the table of symbols: marks, sections, lengths and words of names, units, how many -/
abbrev mTab : Type := (Nat → Int32) × (Nat → Int32) × (Nat → Int32) × (Nat → Int64) × (Nat → Nat) × Nat
abbrev mT (s : mSt) (e : Nat → Nat → Nat) (S : Nat) : mTab := (s.2.1 12, s.2.1 13, s.2.1 10, s.2.2 9, e 11, S)
abbrev mGlob (g : mTab) (k : Nat) : Prop := 0 ≤ g.2.1 k ∧ g.1 k = 1
abbrev mWeak (g : mTab) (k : Nat) : Prop := 0 ≤ g.2.1 k ∧ 1 < g.1 k
/-- symbol k, of a unit that is taken, has this name -/
abbrev mHit (tk : Nat → Int32) (g : mTab) (w : Int64) (n : Int32) (k : Nat) : Prop := ¬ tk (g.2.2.2.2.1 k) = 0 ∧ g.2.2.1 k = n ∧ g.2.2.2.1 k = w
def mMeantL (tk : Nat → Int32) (g : mTab) (w : Int64) (n : Int32) : Nat → Nat → Int32 → Int32
  | 0, _, z => z
  | r + 1, k, z => if mHit tk g w n k then (if mGlob g k then nI k else mMeantL tk g w n r (k + 1) (if mWeak g k ∧ z < 0 then nI k else z)) else mMeantL tk g w n r (k + 1) z
def mMeant (tk : Nat → Int32) (g : mTab) (w : Int64) (n : Int32) : Int32 := mMeantL tk g w n g.2.2.2.2.2 0 (-1)
/-- units of symbols -/
def mI2 (s : mSt) (e : Nat → Nat → Nat) (U S : Nat) : Prop := ∀ k, k < S → s.2.1 11 k = nI (e 11 k) ∧ e 11 k < U
set_option maxRecDepth 20000 in
theorem l_M_meant {G : ax_G} {x : ax_X} {h0 : ax_H} {P : Option Value → ax_H → Prop} {m : Nat} (s : mSt) (e : Nat → Nat → Nat) (U S : Nat) (hUb : U ≤ 32) (hS : s.1 2 = nI S) (hSb : S ≤ 2048) (hI : mI2 s e U S) (h : ax_H) (hR : mR m s h) (w : Int64) (n : Int32) (hp : P (some (.int (mMeant (s.2.1 3) (mT s e S) w n))) h) : ∀ r k z, k + r = S → mMeant (s.2.1 3) (mT s e S) w n = mMeantL (s.2.1 3) (mT s e S) w n r k z → AW G x Y_M_meant 1 21 h0 P h 6 [some (.ref m), some (.long w), none, some (.int n), some (.int z), some (.int (nI k))] [] := by
  intro r
  induction r with
  | zero =>
    intro k z hk he
    have hkk : k = S := by omega
    subst hkk
    refine aw_iload d_M_meant_6 rfl ?_
    first | refine aw_aload_n d_M_meant_8 rfl rfl ?_ | refine aw_aload_nQ d_M_meant_8 rfl rfl ?_ | refine aw_aload_nN d_M_meant_8 rfl rfl ?_
    refine aM_get (by assumption) fl_M_129 (by decide) rfl d_M_meant_9 ?_
    refine aw_icmp_ge (tgt := 97) d_M_meant_12 (by decide) (fun c12 => ?_) (fun c12 => ?_)
    · refine aw_iload d_M_meant_97 rfl ?_
      refine aw_iret ?_ rfl d_M_meant_99
      rw [he] at hp
      exact hp
    · exact absurd (show s.1 2 ≤ nI k by rw [hS]; exact nI_le (Nat.le_refl _) (by omega)) c12
  | succ r ih =>
    intro k z hk he
    obtain ⟨u1, u2⟩ := hI k (by omega)
    have ks : k < 2048 := by omega
    rw [mMeantL] at he
    refine aw_iload d_M_meant_6 rfl ?_
    first | refine aw_aload_n d_M_meant_8 rfl rfl ?_ | refine aw_aload_nQ d_M_meant_8 rfl rfl ?_ | refine aw_aload_nN d_M_meant_8 rfl rfl ?_
    refine aM_get (by assumption) fl_M_129 (by decide) rfl d_M_meant_9 ?_
    refine aw_icmp_ge (tgt := 97) d_M_meant_12 (by decide) (fun c12 => ?_) (fun c12 => ?_)
    · exact absurd c12 (by rw [show s.1 2 = nI S from hS]; exact nI_ge (by omega) (by omega))
    · first | refine aw_aload_n d_M_meant_15 rfl rfl ?_ | refine aw_aload_nQ d_M_meant_15 rfl rfl ?_ | refine aw_aload_nN d_M_meant_15 rfl rfl ?_
      refine aM_get (by assumption) fl_M_16 (by decide) rfl d_M_meant_16 ?_
      first | refine aw_aload_n d_M_meant_19 rfl rfl ?_ | refine aw_aload_nQ d_M_meant_19 rfl rfl ?_ | refine aw_aload_nN d_M_meant_19 rfl rfl ?_
      refine aM_get (by assumption) fl_M_44 (by decide) rfl d_M_meant_20 ?_
      refine aw_iload d_M_meant_23 rfl ?_
      refine aM_iald (by assumption) (by decide) rfl rfl (show k < 2048 from ks) (by decide) d_M_meant_25 ?_
      refine aM_zald (by assumption) (by decide) rfl u1 (show e 11 k < 32 by omega) (by decide) d_M_meant_26 ?_
      refine aw_if_eq (tgt := 91) d_M_meant_27 (by decide) (fun c27 => ?_) (fun c27 => ?_)
      · refine aw_iinc (v := nI (k + 1)) d_M_meant_91 rfl (ax_inc k) (by decide) rfl ?_
        refine aw_goto (tgt := 6) d_M_meant_94 (by decide) ?_
        rw [if_neg (fun q : mHit (s.2.1 3) (mT s e S) w n k => q.1 c27)] at he
        exact ih (k + 1) _ (by omega) he
      · first | refine aw_aload_n d_M_meant_30 rfl rfl ?_ | refine aw_aload_nQ d_M_meant_30 rfl rfl ?_ | refine aw_aload_nN d_M_meant_30 rfl rfl ?_
        refine aM_get (by assumption) fl_M_41 (by decide) rfl d_M_meant_31 ?_
        refine aw_iload d_M_meant_34 rfl ?_
        refine aM_iald (by assumption) (by decide) rfl rfl (show k < 2048 from ks) (by decide) d_M_meant_36 ?_
        refine aw_iload_n d_M_meant_37 rfl rfl ?_
        refine aw_icmp_ne (tgt := 91) d_M_meant_38 (by decide) (fun c38 => ?_) (fun c38 => ?_)
        · refine aw_iinc (v := nI (k + 1)) d_M_meant_91 rfl (ax_inc k) (by decide) rfl ?_
          refine aw_goto (tgt := 6) d_M_meant_94 (by decide) ?_
          rw [if_neg (fun q : mHit (s.2.1 3) (mT s e S) w n k => c38 q.2.1)] at he
          exact ih (k + 1) _ (by omega) he
        · first | refine aw_aload_n d_M_meant_41 rfl rfl ?_ | refine aw_aload_nQ d_M_meant_41 rfl rfl ?_ | refine aw_aload_nN d_M_meant_41 rfl rfl ?_
          refine aM_get (by assumption) fl_M_37 (by decide) rfl d_M_meant_42 ?_
          refine aw_iload d_M_meant_45 rfl ?_
          refine aM_lald (by assumption) (by decide) rfl rfl (show k < 2048 from ks) (by decide) d_M_meant_47 ?_
          refine aw_lload_n d_M_meant_48 rfl rfl ?_
          refine aw_lcmp d_M_meant_49 ?_
          refine aw_if_eq (tgt := 56) d_M_meant_50 (by decide) (fun c50 => ?_) (fun c50 => ?_)
          · first | refine aw_aload_n d_M_meant_56 rfl rfl ?_ | refine aw_aload_nQ d_M_meant_56 rfl rfl ?_ | refine aw_aload_nN d_M_meant_56 rfl rfl ?_
            refine aw_iload d_M_meant_57 rfl ?_
            refine aw_callV (c_M_isGlobal G _ m s (by assumption) k ks) cl_M (mR.obj (by assumption)) m_M_isGlobal ml_M_165 rfl rfl (by decide) (by decide) (Nat.le_of_ble_eq_true rfl) d_M_meant_59 ?_
            rintro v h' ⟨rfl, rfl⟩
            refine aw_if_eq (tgt := 68) d_M_meant_62 (by decide) (fun c62 => ?_) (fun c62 => ?_)
            · first | refine aw_aload_n d_M_meant_68 rfl rfl ?_ | refine aw_aload_nQ d_M_meant_68 rfl rfl ?_ | refine aw_aload_nN d_M_meant_68 rfl rfl ?_
              refine aw_iload d_M_meant_69 rfl ?_
              refine aw_callV (c_M_isWeak G _ m s (by assumption) k ks) cl_M (mR.obj (by assumption)) m_M_isWeak ml_M_168 rfl rfl (by decide) (by decide) (Nat.le_of_ble_eq_true rfl) d_M_meant_71 ?_
              rintro v h' ⟨rfl, rfl⟩
              refine aw_if_eq (tgt := 87) d_M_meant_74 (by decide) (fun c74 => ?_) (fun c74 => ?_)
              · refine aw_iload d_M_meant_87 rfl ?_
                refine aw_istore d_M_meant_89 (by decide) rfl ?_
                refine aw_iinc (v := nI (k + 1)) d_M_meant_91 rfl (ax_inc k) (by decide) rfl ?_
                refine aw_goto (tgt := 6) d_M_meant_94 (by decide) ?_
                rw [if_pos (show mHit (s.2.1 3) (mT s e S) w n k from ⟨c27, c38, (lg_cmp_eq _ _).mp c50⟩), if_neg (fun q : mGlob (mT s e S) k => absurd c62 (by rw [zI, if_pos q]; decide)), if_neg (fun q => absurd c74 (by rw [zI, if_pos q.1]; decide))] at he
                exact ih (k + 1) _ (by omega) he
              · refine aw_iload d_M_meant_77 rfl ?_
                refine aw_if_ge (tgt := 87) d_M_meant_79 (by decide) (fun c79 => ?_) (fun c79 => ?_)
                · refine aw_iload d_M_meant_87 rfl ?_
                  refine aw_istore d_M_meant_89 (by decide) rfl ?_
                  refine aw_iinc (v := nI (k + 1)) d_M_meant_91 rfl (ax_inc k) (by decide) rfl ?_
                  refine aw_goto (tgt := 6) d_M_meant_94 (by decide) ?_
                  rw [if_pos (show mHit (s.2.1 3) (mT s e S) w n k from ⟨c27, c38, (lg_cmp_eq _ _).mp c50⟩), if_neg (fun q : mGlob (mT s e S) k => absurd c62 (by rw [zI, if_pos q]; decide)), if_neg (fun q => absurd c79 (Int32.not_le.mpr q.2))] at he
                  exact ih (k + 1) _ (by omega) he
                · refine aw_iload d_M_meant_82 rfl ?_
                  refine aw_goto (tgt := 89) d_M_meant_84 (by decide) ?_
                  refine aw_istore d_M_meant_89 (by decide) rfl ?_
                  refine aw_iinc (v := nI (k + 1)) d_M_meant_91 rfl (ax_inc k) (by decide) rfl ?_
                  refine aw_goto (tgt := 6) d_M_meant_94 (by decide) ?_
                  have hw : mWeak (mT s e S) k := by
                    by_cases q : mWeak (mT s e S) k
                    · exact q
                    · exact absurd (show zI (0 ≤ s.2.1 13 k ∧ 1 < s.2.1 12 k) = 0 by rw [zI, if_neg q]) c74
                  rw [if_pos (show mHit (s.2.1 3) (mT s e S) w n k from ⟨c27, c38, (lg_cmp_eq _ _).mp c50⟩), if_neg (fun q : mGlob (mT s e S) k => absurd c62 (by rw [zI, if_pos q]; decide)), if_pos ⟨hw, Int32.not_le.mp c79⟩] at he
                  exact ih (k + 1) _ (by omega) he
            · refine aw_iload d_M_meant_65 rfl ?_
              refine aw_iret ?_ rfl d_M_meant_67
              have hg : mGlob (mT s e S) k := by
                by_cases q : mGlob (mT s e S) k
                · exact q
                · exact absurd (show zI (0 ≤ s.2.1 13 k ∧ s.2.1 12 k = 1) = 0 by rw [zI, if_neg q]) c62
              rw [if_pos (show mHit (s.2.1 3) (mT s e S) w n k from ⟨c27, c38, (lg_cmp_eq _ _).mp c50⟩), if_pos hg] at he
              rw [he] at hp
              exact hp
          · refine aw_goto (tgt := 91) d_M_meant_53 (by decide) ?_
            refine aw_iinc (v := nI (k + 1)) d_M_meant_91 rfl (ax_inc k) (by decide) rfl ?_
            refine aw_goto (tgt := 6) d_M_meant_94 (by decide) ?_
            rw [if_neg (fun q : mHit (s.2.1 3) (mT s e S) w n k => c50 ((lg_cmp_eq _ _).mpr q.2.2))] at he
            exact ih (k + 1) _ (by omega) he
set_option maxRecDepth 20000 in
theorem c_M_meant (G : ax_G) (h : ax_H) (m : Nat) (s : mSt) (hR : mR m s h) (e : Nat → Nat → Nat) (U S : Nat) (hUb : U ≤ 32) (hS : s.1 2 = nI S) (hSb : S ≤ 2048) (hI : mI2 s e U S) (w : Int64) (n : Int32) : AM G Y_M_meant 1 21 [.ref m, .long w, .int n] h (fun v h2 => h2 = h ∧ v = some (.int (mMeant (s.2.1 3) (mT s e S) w n))) := by
  refine aw_enter (by decide) (Nat.le_of_ble_eq_true rfl) (n := 2) (ls := [some (.ref m), some (.long w), none, some (.int n), none, none]) rfl (fun x => ?_)
  refine aw_iconst (v := (-1)) d_M_meant_0 (by decide) ?_
  refine aw_istore d_M_meant_1 (by decide) rfl ?_
  refine aw_iconst (v := 0) d_M_meant_3 (by decide) ?_
  refine aw_istore d_M_meant_4 (by decide) rfl ?_
  exact l_M_meant s e U S hUb hS hSb hI h hR w n ⟨rfl, rfl⟩ S 0 _ (by omega) rfl
def mStands (tk : Nat → Int32) (g : mTab) (k : Nat) : Int32 := if 0 ≤ g.2.1 k ∧ g.1 k < 2 then nI k else if 0 ≤ mMeant tk g (g.2.2.2.1 k) (g.2.2.1 k) then mMeant tk g (g.2.2.2.1 k) (g.2.2.1 k) else if 1 < g.1 k then -2 else -1
end
section
/-- a truth as an int -/
noncomputable def zP (p : Prop) : Int32 := @ite _ p (Classical.propDecidable p) 1 0
theorem zP_1 {p : Prop} (h : p) : zP p = 1 := by rw [zP, if_pos h]
theorem zP_0 {p : Prop} (h : ¬ p) : zP p = 0 := by rw [zP, if_neg h]
theorem zP_i {p q : Prop} (h : p ↔ q) : zP p = zP q := by rw [propext h]
theorem zP_t {p : Prop} (h : ¬ zP p = 0) : p := Classical.byContradiction (fun q => h (zP_0 q))
theorem zP_f {p : Prop} (h : zP p = 0) : ¬ p := fun q => by rw [zP_1 q] at h; exact absurd h (by decide)
theorem zP_n (p : Prop) : narrow .boolean (.int (zP p)) = .int (zP p) := by
  by_cases h : p
  · rw [zP_1 h]; rfl
  · rw [zP_0 h]; rfl
theorem zP_a (p : Prop) : zP p &&& 1 = zP p := by
  by_cases h : p
  · rw [zP_1 h]; rfl
  · rw [zP_0 h]; rfl
set_option maxRecDepth 20000 in
theorem c_M_standsFor (G : ax_G) (h : ax_H) (m : Nat) (s : mSt) (hR : mR m s h) (e : Nat → Nat → Nat) (U S : Nat) (hUb : U ≤ 32) (hS : s.1 2 = nI S) (hSb : S ≤ 2048) (hI : mI2 s e U S) (k : Nat) (hk : k < S) : AM G Y_M_standsFor 2 46 [.ref m, .int (nI k)] h (fun v h2 => h2 = h ∧ v = some (.int (mStands (s.2.1 3) (mT s e S) k))) := by
  refine aw_enter (by decide) (Nat.le_of_ble_eq_true rfl) (n := 1) (ls := [some (.ref m), some (.int (nI k)), none]) rfl (fun x => ?_)
  first | refine aw_aload_n d_M_standsFor_0 rfl rfl ?_ | refine aw_aload_nQ d_M_standsFor_0 rfl rfl ?_ | refine aw_aload_nN d_M_standsFor_0 rfl rfl ?_
  refine aM_get (by assumption) fl_M_50 (by decide) rfl d_M_standsFor_1 ?_
  refine aw_iload_n d_M_standsFor_4 rfl rfl ?_
  refine aM_iald (by assumption) (by decide) rfl rfl (show k < 2048 by omega) (by decide) d_M_standsFor_5 ?_
  refine aw_if_lt (tgt := 21) d_M_standsFor_6 (by decide) (fun c6 => ?_) (fun c6 => ?_)
  · first | refine aw_aload_n d_M_standsFor_21 rfl rfl ?_ | refine aw_aload_nQ d_M_standsFor_21 rfl rfl ?_ | refine aw_aload_nN d_M_standsFor_21 rfl rfl ?_
    first | refine aw_aload_n d_M_standsFor_22 rfl rfl ?_ | refine aw_aload_nQ d_M_standsFor_22 rfl rfl ?_ | refine aw_aload_nN d_M_standsFor_22 rfl rfl ?_
    refine aM_get (by assumption) fl_M_37 (by decide) rfl d_M_standsFor_23 ?_
    refine aw_iload_n d_M_standsFor_26 rfl rfl ?_
    refine aM_lald (by assumption) (by decide) rfl rfl (show k < 2048 by omega) (by decide) d_M_standsFor_27 ?_
    first | refine aw_aload_n d_M_standsFor_28 rfl rfl ?_ | refine aw_aload_nQ d_M_standsFor_28 rfl rfl ?_ | refine aw_aload_nN d_M_standsFor_28 rfl rfl ?_
    refine aM_get (by assumption) fl_M_41 (by decide) rfl d_M_standsFor_29 ?_
    refine aw_iload_n d_M_standsFor_32 rfl rfl ?_
    refine aM_iald (by assumption) (by decide) rfl rfl (show k < 2048 by omega) (by decide) d_M_standsFor_33 ?_
    refine aw_callV (c_M_meant G _ m s (by assumption) e U S hUb hS hSb hI _ _) cl_M (mR.obj (by assumption)) m_M_meant ml_M_171 rfl rfl (by decide) (by decide) (Nat.le_of_ble_eq_true rfl) d_M_standsFor_34 ?_
    rintro v h' ⟨rfl, rfl⟩
    refine aw_istore_n d_M_standsFor_37 rfl (by decide) rfl ?_
    refine aw_iload_n d_M_standsFor_38 rfl rfl ?_
    refine aw_if_lt (tgt := 46) d_M_standsFor_39 (by decide) (fun c39 => ?_) (fun c39 => ?_)
    · first | refine aw_aload_n d_M_standsFor_46 rfl rfl ?_ | refine aw_aload_nQ d_M_standsFor_46 rfl rfl ?_ | refine aw_aload_nN d_M_standsFor_46 rfl rfl ?_
      refine aM_get (by assumption) fl_M_47 (by decide) rfl d_M_standsFor_47 ?_
      refine aw_iload_n d_M_standsFor_50 rfl rfl ?_
      refine aM_iald (by assumption) (by decide) rfl rfl (show k < 2048 by omega) (by decide) d_M_standsFor_51 ?_
      refine aw_iconst (v := 1) d_M_standsFor_52 (by decide) ?_
      refine aw_icmp_le (tgt := 61) d_M_standsFor_53 (by decide) (fun c53 => ?_) (fun c53 => ?_)
      · refine aw_iconst (v := (-1)) d_M_standsFor_61 (by decide) ?_
        refine aw_iret ?_ rfl d_M_standsFor_62
        refine ⟨rfl, ?_⟩
        rw [mStands, if_neg (fun q => absurd q.1 (Int32.not_le.mpr c6)), if_neg (Int32.not_le.mpr c39), if_neg (Int32.not_lt.mpr c53)]
      · refine aw_bipush (v := (-2)) d_M_standsFor_56 (by decide) ?_
        refine aw_goto (tgt := 62) d_M_standsFor_58 (by decide) ?_
        refine aw_iret ?_ rfl d_M_standsFor_62
        refine ⟨rfl, ?_⟩
        rw [mStands, if_neg (fun q => absurd q.1 (Int32.not_le.mpr c6)), if_neg (Int32.not_le.mpr c39), if_pos (Int32.not_le.mp c53)]
    · refine aw_iload_n d_M_standsFor_42 rfl rfl ?_
      refine aw_goto (tgt := 62) d_M_standsFor_43 (by decide) ?_
      refine aw_iret ?_ rfl d_M_standsFor_62
      refine ⟨rfl, ?_⟩
      rw [mStands, if_neg (fun q => absurd q.1 (Int32.not_le.mpr c6)), if_pos (Int32.not_lt.mp c39)]
  · first | refine aw_aload_n d_M_standsFor_9 rfl rfl ?_ | refine aw_aload_nQ d_M_standsFor_9 rfl rfl ?_ | refine aw_aload_nN d_M_standsFor_9 rfl rfl ?_
    refine aM_get (by assumption) fl_M_47 (by decide) rfl d_M_standsFor_10 ?_
    refine aw_iload_n d_M_standsFor_13 rfl rfl ?_
    refine aM_iald (by assumption) (by decide) rfl rfl (show k < 2048 by omega) (by decide) d_M_standsFor_14 ?_
    refine aw_iconst (v := 2) d_M_standsFor_15 (by decide) ?_
    refine aw_icmp_ge (tgt := 21) d_M_standsFor_16 (by decide) (fun c16 => ?_) (fun c16 => ?_)
    · first | refine aw_aload_n d_M_standsFor_21 rfl rfl ?_ | refine aw_aload_nQ d_M_standsFor_21 rfl rfl ?_ | refine aw_aload_nN d_M_standsFor_21 rfl rfl ?_
      first | refine aw_aload_n d_M_standsFor_22 rfl rfl ?_ | refine aw_aload_nQ d_M_standsFor_22 rfl rfl ?_ | refine aw_aload_nN d_M_standsFor_22 rfl rfl ?_
      refine aM_get (by assumption) fl_M_37 (by decide) rfl d_M_standsFor_23 ?_
      refine aw_iload_n d_M_standsFor_26 rfl rfl ?_
      refine aM_lald (by assumption) (by decide) rfl rfl (show k < 2048 by omega) (by decide) d_M_standsFor_27 ?_
      first | refine aw_aload_n d_M_standsFor_28 rfl rfl ?_ | refine aw_aload_nQ d_M_standsFor_28 rfl rfl ?_ | refine aw_aload_nN d_M_standsFor_28 rfl rfl ?_
      refine aM_get (by assumption) fl_M_41 (by decide) rfl d_M_standsFor_29 ?_
      refine aw_iload_n d_M_standsFor_32 rfl rfl ?_
      refine aM_iald (by assumption) (by decide) rfl rfl (show k < 2048 by omega) (by decide) d_M_standsFor_33 ?_
      refine aw_callV (c_M_meant G _ m s (by assumption) e U S hUb hS hSb hI _ _) cl_M (mR.obj (by assumption)) m_M_meant ml_M_171 rfl rfl (by decide) (by decide) (Nat.le_of_ble_eq_true rfl) d_M_standsFor_34 ?_
      rintro v h' ⟨rfl, rfl⟩
      refine aw_istore_n d_M_standsFor_37 rfl (by decide) rfl ?_
      refine aw_iload_n d_M_standsFor_38 rfl rfl ?_
      refine aw_if_lt (tgt := 46) d_M_standsFor_39 (by decide) (fun c39 => ?_) (fun c39 => ?_)
      · first | refine aw_aload_n d_M_standsFor_46 rfl rfl ?_ | refine aw_aload_nQ d_M_standsFor_46 rfl rfl ?_ | refine aw_aload_nN d_M_standsFor_46 rfl rfl ?_
        refine aM_get (by assumption) fl_M_47 (by decide) rfl d_M_standsFor_47 ?_
        refine aw_iload_n d_M_standsFor_50 rfl rfl ?_
        refine aM_iald (by assumption) (by decide) rfl rfl (show k < 2048 by omega) (by decide) d_M_standsFor_51 ?_
        refine aw_iconst (v := 1) d_M_standsFor_52 (by decide) ?_
        refine aw_icmp_le (tgt := 61) d_M_standsFor_53 (by decide) (fun c53 => ?_) (fun c53 => ?_)
        · refine aw_iconst (v := (-1)) d_M_standsFor_61 (by decide) ?_
          refine aw_iret ?_ rfl d_M_standsFor_62
          refine ⟨rfl, ?_⟩
          rw [mStands, if_neg (fun q => absurd q.2 (Int32.not_lt.mpr c16)), if_neg (Int32.not_le.mpr c39), if_neg (Int32.not_lt.mpr c53)]
        · refine aw_bipush (v := (-2)) d_M_standsFor_56 (by decide) ?_
          refine aw_goto (tgt := 62) d_M_standsFor_58 (by decide) ?_
          refine aw_iret ?_ rfl d_M_standsFor_62
          refine ⟨rfl, ?_⟩
          rw [mStands, if_neg (fun q => absurd q.2 (Int32.not_lt.mpr c16)), if_neg (Int32.not_le.mpr c39), if_pos (Int32.not_le.mp c53)]
      · refine aw_iload_n d_M_standsFor_42 rfl rfl ?_
        refine aw_goto (tgt := 62) d_M_standsFor_43 (by decide) ?_
        refine aw_iret ?_ rfl d_M_standsFor_62
        refine ⟨rfl, ?_⟩
        rw [mStands, if_neg (fun q => absurd q.2 (Int32.not_lt.mpr c16)), if_pos (Int32.not_lt.mp c39)]
    · refine aw_iload_n d_M_standsFor_19 rfl rfl ?_
      refine aw_iret ?_ rfl d_M_standsFor_20
      refine ⟨rfl, ?_⟩
      rw [mStands, if_pos ⟨Int32.not_lt.mp c6, Int32.not_le.mp c16⟩]
def mFail (s : mSt) (k u l : Int32) : mSt := if s.1 33 = 0 then (va_up (va_up (va_up s.1 33 k) 35 u) 34 l, s.2) else s
set_option maxRecDepth 20000 in
theorem c_M_fail (G : ax_G) (h : ax_H) (m : Nat) (s : mSt) (hR : mR m s h) (k u l : Int32) : AM G Y_M_fail 0 0 [.ref m, .int k, .int u, .int l] h (fun v h2 => v = none ∧ mR m (mFail s k u l) h2 ∧ mFr m h h2) := by
  refine aw_enter (by decide) (Nat.le_of_ble_eq_true rfl) (n := 0) (ls := [some (.ref m), some (.int k), some (.int u), some (.int l)]) rfl (fun x => ?_)
  first | refine aw_aload_n d_M_fail_0 rfl rfl ?_ | refine aw_aload_nQ d_M_fail_0 rfl rfl ?_ | refine aw_aload_nN d_M_fail_0 rfl rfl ?_
  refine aM_get (by assumption) fl_M_178 (by decide) rfl d_M_fail_1 ?_
  refine aw_if_eq (tgt := 8) d_M_fail_4 (by decide) (fun c4 => ?_) (fun c4 => ?_)
  · first | refine aw_aload_n d_M_fail_8 rfl rfl ?_ | refine aw_aload_nQ d_M_fail_8 rfl rfl ?_ | refine aw_aload_nN d_M_fail_8 rfl rfl ?_
    refine aw_iload_n d_M_fail_9 rfl rfl ?_
    refine aM_put (by assumption) fl_M_178 (by decide) rfl rfl rfl rfl d_M_fail_10 (fun g10 hR10 hF10 => ?_)
    first | refine aw_aload_n d_M_fail_13 rfl rfl ?_ | refine aw_aload_nQ d_M_fail_13 rfl rfl ?_ | refine aw_aload_nN d_M_fail_13 rfl rfl ?_
    refine aw_iload_n d_M_fail_14 rfl rfl ?_
    refine aM_put (by assumption) fl_M_95 (by decide) rfl rfl rfl rfl d_M_fail_15 (fun g15 hR15 hF15 => ?_)
    first | refine aw_aload_n d_M_fail_18 rfl rfl ?_ | refine aw_aload_nQ d_M_fail_18 rfl rfl ?_ | refine aw_aload_nN d_M_fail_18 rfl rfl ?_
    refine aw_iload_n d_M_fail_19 rfl rfl ?_
    refine aM_put (by assumption) fl_M_181 (by decide) rfl rfl rfl rfl d_M_fail_20 (fun g20 hR20 hF20 => ?_)
    refine aw_vret ?_ rfl d_M_fail_23
    rw [mFail, if_pos c4]
    exact ⟨rfl, hR20, (hF10.tr hF15).tr hF20⟩
  · refine aw_vret ?_ rfl d_M_fail_7
    rw [mFail, if_neg c4]
    exact ⟨rfl, hR, mFr.rf m h⟩
/-- symbol j, of a unit that is taken, is missing, not as weak -/
abbrev mMiss (tk : Nat → Int32) (g : mTab) (j : Nat) : Prop := ¬ tk (g.2.2.2.2.1 j) = 0 ∧ g.2.1 j < 0 ∧ g.1 j < 2
/-- symbol j misses the name of symbol k -/
abbrev mSame (tk : Nat → Int32) (g : mTab) (k j : Nat) : Prop := mMiss tk g j ∧ g.2.2.1 j = g.2.2.1 k ∧ g.2.2.2.1 j = g.2.2.2.1 k
def mHelpK (tk : Nat → Int32) (g : mTab) (k : Nat) : Prop := ((mGlob g k ∨ mWeak g k) ∧ mMeant tk g (g.2.2.2.1 k) (g.2.2.1 k) < 0) ∧ ∃ j, j < g.2.2.2.2.2 ∧ mSame tk g k j
def mHelpsL (tk : Nat → Int32) (g : mTab) (u : Nat) : Nat → Nat → Prop
  | 0, _ => False
  | r + 1, k => g.2.2.2.2.1 k = u ∧ (mHelpK tk g k ∨ mHelpsL tk g u r (k + 1))
set_option maxRecDepth 20000 in
theorem l_M_helps1 {G : ax_G} {x : ax_X} {h0 : ax_H} {P : Option Value → ax_H → Prop} {m : Nat} (s : mSt) (e : Nat → Nat → Nat) (U S : Nat) (hUb : U ≤ 32) (hS : s.1 2 = nI S) (hSb : S ≤ 2048) (hI : mI2 s e U S) (h : ax_H) (hR : mR m s h) (u k : Nat) (hk : k < S) : ∀ r j (Q : Prop), j + r = S → (∀ o4, AW G x Y_M_helps 2 46 h0 P h 162 [some (.ref m), some (.int (nI u)), some (.int (zP (Q ∨ ∃ i, j ≤ i ∧ i < S ∧ mSame (s.2.1 3) (mT s e S) k i))), some (.int (nI k)), o4] []) → AW G x Y_M_helps 2 46 h0 P h 68 [some (.ref m), some (.int (nI u)), some (.int (zP Q)), some (.int (nI k)), some (.int (nI j))] [] := by
  intro r
  induction r with
  | zero =>
    intro j Q hj hc
    have hjj : j = S := by omega
    subst hjj
    have eq : zP (Q ∨ ∃ i, j ≤ i ∧ i < j ∧ mSame (s.2.1 3) (mT s e j) k i) = zP Q := zP_i ⟨fun q => q.elim id (fun ⟨i, a, b, _⟩ => absurd a (by omega)), Or.inl⟩
    rw [eq] at hc
    refine aw_iload d_M_helps_68 rfl ?_
    first | refine aw_aload_n d_M_helps_70 rfl rfl ?_ | refine aw_aload_nQ d_M_helps_70 rfl rfl ?_ | refine aw_aload_nN d_M_helps_70 rfl rfl ?_
    refine aM_get (by assumption) fl_M_129 (by decide) rfl d_M_helps_71 ?_
    refine aw_icmp_ge (tgt := 162) d_M_helps_74 (by decide) (fun c74 => ?_) (fun c74 => ?_)
    · exact hc _
    · exact absurd (show s.1 2 ≤ nI j by rw [hS]; exact nI_le (Nat.le_refl _) (by omega)) c74
  | succ r ih =>
    intro j Q hj hc
    obtain ⟨u1, u2⟩ := hI j (by omega)
    have step : ∀ T : Prop, (T ↔ (Q ∨ mSame (s.2.1 3) (mT s e S) k j)) → ((T ∨ ∃ i, j + 1 ≤ i ∧ i < S ∧ mSame (s.2.1 3) (mT s e S) k i) ↔ (Q ∨ ∃ i, j ≤ i ∧ i < S ∧ mSame (s.2.1 3) (mT s e S) k i)) := by
      intro T hT
      constructor
      · rintro (q | ⟨i, a, b, d⟩)
        · exact (hT.mp q).elim Or.inl (fun d => Or.inr ⟨j, Nat.le_refl _, by omega, d⟩)
        · exact Or.inr ⟨i, by omega, b, d⟩
      · rintro (q | ⟨i, a, b, d⟩)
        · exact Or.inl (hT.mpr (Or.inl q))
        · by_cases e0 : i = j
          · subst e0; exact Or.inl (hT.mpr (Or.inr d))
          · exact Or.inr ⟨i, by omega, b, d⟩
    refine aw_iload d_M_helps_68 rfl ?_
    first | refine aw_aload_n d_M_helps_70 rfl rfl ?_ | refine aw_aload_nQ d_M_helps_70 rfl rfl ?_ | refine aw_aload_nN d_M_helps_70 rfl rfl ?_
    refine aM_get (by assumption) fl_M_129 (by decide) rfl d_M_helps_71 ?_
    refine aw_icmp_ge (tgt := 162) d_M_helps_74 (by decide) (fun c74 => ?_) (fun c74 => ?_)
    · exact absurd c74 (by rw [show s.1 2 = nI S from hS]; exact nI_ge (by omega) (by omega))
    · refine aw_iload_n d_M_helps_77 rfl rfl ?_
      refine aw_if_ne (tgt := 150) d_M_helps_78 (by decide) (fun c78 => ?_) (fun c78 => ?_)
      · refine aw_iconst (v := 1) d_M_helps_150 (by decide) ?_
        refine aw_goto (tgt := 155) d_M_helps_151 (by decide) ?_
        refine aw_istore_n d_M_helps_155 rfl (by decide) rfl ?_
        refine aw_iinc (v := nI (j + 1)) d_M_helps_156 rfl (ax_inc j) (by decide) rfl ?_
        refine aw_goto (tgt := 68) d_M_helps_159 (by decide) ?_
        have eT : ∀ T : Prop, (T ↔ (Q ∨ mSame (s.2.1 3) (mT s e S) k j)) → zP T = 1 := fun T hT => zP_1 (hT.mpr (Or.inl (zP_t c78)))
        refine aw_ls (ls' := [some (.ref m), some (.int (nI u)), some (.int (zP (Q ∨ mSame (s.2.1 3) (mT s e S) k j))), some (.int (nI k)), some (.int (nI (j + 1)))]) (by rw [eT _ Iff.rfl]; rfl) ?_
        refine ih (j + 1) _ (by omega) (fun o4 => ?_)
        have hc := hc o4
        rw [← zP_i (step _ Iff.rfl)] at hc
        exact hc
      · first | refine aw_aload_n d_M_helps_81 rfl rfl ?_ | refine aw_aload_nQ d_M_helps_81 rfl rfl ?_ | refine aw_aload_nN d_M_helps_81 rfl rfl ?_
        refine aM_get (by assumption) fl_M_16 (by decide) rfl d_M_helps_82 ?_
        first | refine aw_aload_n d_M_helps_85 rfl rfl ?_ | refine aw_aload_nQ d_M_helps_85 rfl rfl ?_ | refine aw_aload_nN d_M_helps_85 rfl rfl ?_
        refine aM_get (by assumption) fl_M_44 (by decide) rfl d_M_helps_86 ?_
        refine aw_iload d_M_helps_89 rfl ?_
        refine aM_iald (by assumption) (by decide) rfl rfl (show j < 2048 by omega) (by decide) d_M_helps_91 ?_
        refine aM_zald (by assumption) (by decide) rfl u1 (show e 11 j < 32 by omega) (by decide) d_M_helps_92 ?_
        refine aw_if_eq (tgt := 154) d_M_helps_93 (by decide) (fun c93 => ?_) (fun c93 => ?_)
        · refine aw_iconst (v := 0) d_M_helps_154 (by decide) ?_
          refine aw_istore_n d_M_helps_155 rfl (by decide) rfl ?_
          refine aw_iinc (v := nI (j + 1)) d_M_helps_156 rfl (ax_inc j) (by decide) rfl ?_
          refine aw_goto (tgt := 68) d_M_helps_159 (by decide) ?_
          have eT : ∀ T : Prop, (T ↔ (Q ∨ mSame (s.2.1 3) (mT s e S) k j)) → zP T = 0 := fun T hT => zP_0 (fun q => (hT.mp q).elim (zP_f c78) (fun d => d.1.1 c93))
          refine aw_ls (ls' := [some (.ref m), some (.int (nI u)), some (.int (zP (Q ∨ mSame (s.2.1 3) (mT s e S) k j))), some (.int (nI k)), some (.int (nI (j + 1)))]) (by rw [eT _ Iff.rfl]; rfl) ?_
          refine ih (j + 1) _ (by omega) (fun o4 => ?_)
          have hc := hc o4
          rw [← zP_i (step _ Iff.rfl)] at hc
          exact hc
        · first | refine aw_aload_n d_M_helps_96 rfl rfl ?_ | refine aw_aload_nQ d_M_helps_96 rfl rfl ?_ | refine aw_aload_nN d_M_helps_96 rfl rfl ?_
          refine aM_get (by assumption) fl_M_50 (by decide) rfl d_M_helps_97 ?_
          refine aw_iload d_M_helps_100 rfl ?_
          refine aM_iald (by assumption) (by decide) rfl rfl (show j < 2048 by omega) (by decide) d_M_helps_102 ?_
          refine aw_if_ge (tgt := 154) d_M_helps_103 (by decide) (fun c103 => ?_) (fun c103 => ?_)
          · refine aw_iconst (v := 0) d_M_helps_154 (by decide) ?_
            refine aw_istore_n d_M_helps_155 rfl (by decide) rfl ?_
            refine aw_iinc (v := nI (j + 1)) d_M_helps_156 rfl (ax_inc j) (by decide) rfl ?_
            refine aw_goto (tgt := 68) d_M_helps_159 (by decide) ?_
            have eT : ∀ T : Prop, (T ↔ (Q ∨ mSame (s.2.1 3) (mT s e S) k j)) → zP T = 0 := fun T hT => zP_0 (fun q => (hT.mp q).elim (zP_f c78) (fun d => absurd d.1.2.1 (Int32.not_lt.mpr c103)))
            refine aw_ls (ls' := [some (.ref m), some (.int (nI u)), some (.int (zP (Q ∨ mSame (s.2.1 3) (mT s e S) k j))), some (.int (nI k)), some (.int (nI (j + 1)))]) (by rw [eT _ Iff.rfl]; rfl) ?_
            refine ih (j + 1) _ (by omega) (fun o4 => ?_)
            have hc := hc o4
            rw [← zP_i (step _ Iff.rfl)] at hc
            exact hc
          · first | refine aw_aload_n d_M_helps_106 rfl rfl ?_ | refine aw_aload_nQ d_M_helps_106 rfl rfl ?_ | refine aw_aload_nN d_M_helps_106 rfl rfl ?_
            refine aM_get (by assumption) fl_M_47 (by decide) rfl d_M_helps_107 ?_
            refine aw_iload d_M_helps_110 rfl ?_
            refine aM_iald (by assumption) (by decide) rfl rfl (show j < 2048 by omega) (by decide) d_M_helps_112 ?_
            refine aw_iconst (v := 2) d_M_helps_113 (by decide) ?_
            refine aw_icmp_ge (tgt := 154) d_M_helps_114 (by decide) (fun c114 => ?_) (fun c114 => ?_)
            · refine aw_iconst (v := 0) d_M_helps_154 (by decide) ?_
              refine aw_istore_n d_M_helps_155 rfl (by decide) rfl ?_
              refine aw_iinc (v := nI (j + 1)) d_M_helps_156 rfl (ax_inc j) (by decide) rfl ?_
              refine aw_goto (tgt := 68) d_M_helps_159 (by decide) ?_
              have eT : ∀ T : Prop, (T ↔ (Q ∨ mSame (s.2.1 3) (mT s e S) k j)) → zP T = 0 := fun T hT => zP_0 (fun q => (hT.mp q).elim (zP_f c78) (fun d => absurd d.1.2.2 (Int32.not_lt.mpr c114)))
              refine aw_ls (ls' := [some (.ref m), some (.int (nI u)), some (.int (zP (Q ∨ mSame (s.2.1 3) (mT s e S) k j))), some (.int (nI k)), some (.int (nI (j + 1)))]) (by rw [eT _ Iff.rfl]; rfl) ?_
              refine ih (j + 1) _ (by omega) (fun o4 => ?_)
              have hc := hc o4
              rw [← zP_i (step _ Iff.rfl)] at hc
              exact hc
            · first | refine aw_aload_n d_M_helps_117 rfl rfl ?_ | refine aw_aload_nQ d_M_helps_117 rfl rfl ?_ | refine aw_aload_nN d_M_helps_117 rfl rfl ?_
              refine aM_get (by assumption) fl_M_41 (by decide) rfl d_M_helps_118 ?_
              refine aw_iload d_M_helps_121 rfl ?_
              refine aM_iald (by assumption) (by decide) rfl rfl (show j < 2048 by omega) (by decide) d_M_helps_123 ?_
              first | refine aw_aload_n d_M_helps_124 rfl rfl ?_ | refine aw_aload_nQ d_M_helps_124 rfl rfl ?_ | refine aw_aload_nN d_M_helps_124 rfl rfl ?_
              refine aM_get (by assumption) fl_M_41 (by decide) rfl d_M_helps_125 ?_
              refine aw_iload_n d_M_helps_128 rfl rfl ?_
              refine aM_iald (by assumption) (by decide) rfl rfl (show k < 2048 by omega) (by decide) d_M_helps_129 ?_
              refine aw_icmp_ne (tgt := 154) d_M_helps_130 (by decide) (fun c130 => ?_) (fun c130 => ?_)
              · refine aw_iconst (v := 0) d_M_helps_154 (by decide) ?_
                refine aw_istore_n d_M_helps_155 rfl (by decide) rfl ?_
                refine aw_iinc (v := nI (j + 1)) d_M_helps_156 rfl (ax_inc j) (by decide) rfl ?_
                refine aw_goto (tgt := 68) d_M_helps_159 (by decide) ?_
                have eT : ∀ T : Prop, (T ↔ (Q ∨ mSame (s.2.1 3) (mT s e S) k j)) → zP T = 0 := fun T hT => zP_0 (fun q => (hT.mp q).elim (zP_f c78) (fun d => c130 d.2.1))
                refine aw_ls (ls' := [some (.ref m), some (.int (nI u)), some (.int (zP (Q ∨ mSame (s.2.1 3) (mT s e S) k j))), some (.int (nI k)), some (.int (nI (j + 1)))]) (by rw [eT _ Iff.rfl]; rfl) ?_
                refine ih (j + 1) _ (by omega) (fun o4 => ?_)
                have hc := hc o4
                rw [← zP_i (step _ Iff.rfl)] at hc
                exact hc
              · first | refine aw_aload_n d_M_helps_133 rfl rfl ?_ | refine aw_aload_nQ d_M_helps_133 rfl rfl ?_ | refine aw_aload_nN d_M_helps_133 rfl rfl ?_
                refine aM_get (by assumption) fl_M_37 (by decide) rfl d_M_helps_134 ?_
                refine aw_iload d_M_helps_137 rfl ?_
                refine aM_lald (by assumption) (by decide) rfl rfl (show j < 2048 by omega) (by decide) d_M_helps_139 ?_
                first | refine aw_aload_n d_M_helps_140 rfl rfl ?_ | refine aw_aload_nQ d_M_helps_140 rfl rfl ?_ | refine aw_aload_nN d_M_helps_140 rfl rfl ?_
                refine aM_get (by assumption) fl_M_37 (by decide) rfl d_M_helps_141 ?_
                refine aw_iload_n d_M_helps_144 rfl rfl ?_
                refine aM_lald (by assumption) (by decide) rfl rfl (show k < 2048 by omega) (by decide) d_M_helps_145 ?_
                refine aw_lcmp d_M_helps_146 ?_
                refine aw_if_ne (tgt := 154) d_M_helps_147 (by decide) (fun c147 => ?_) (fun c147 => ?_)
                · refine aw_iconst (v := 0) d_M_helps_154 (by decide) ?_
                  refine aw_istore_n d_M_helps_155 rfl (by decide) rfl ?_
                  refine aw_iinc (v := nI (j + 1)) d_M_helps_156 rfl (ax_inc j) (by decide) rfl ?_
                  refine aw_goto (tgt := 68) d_M_helps_159 (by decide) ?_
                  have eT : ∀ T : Prop, (T ↔ (Q ∨ mSame (s.2.1 3) (mT s e S) k j)) → zP T = 0 := fun T hT => zP_0 (fun q => (hT.mp q).elim (zP_f c78) (fun d => c147 ((lg_cmp_eq _ _).mpr d.2.2)))
                  refine aw_ls (ls' := [some (.ref m), some (.int (nI u)), some (.int (zP (Q ∨ mSame (s.2.1 3) (mT s e S) k j))), some (.int (nI k)), some (.int (nI (j + 1)))]) (by rw [eT _ Iff.rfl]; rfl) ?_
                  refine ih (j + 1) _ (by omega) (fun o4 => ?_)
                  have hc := hc o4
                  rw [← zP_i (step _ Iff.rfl)] at hc
                  exact hc
                · refine aw_iconst (v := 1) d_M_helps_150 (by decide) ?_
                  refine aw_goto (tgt := 155) d_M_helps_151 (by decide) ?_
                  refine aw_istore_n d_M_helps_155 rfl (by decide) rfl ?_
                  refine aw_iinc (v := nI (j + 1)) d_M_helps_156 rfl (ax_inc j) (by decide) rfl ?_
                  refine aw_goto (tgt := 68) d_M_helps_159 (by decide) ?_
                  have eT : ∀ T : Prop, (T ↔ (Q ∨ mSame (s.2.1 3) (mT s e S) k j)) → zP T = 1 := fun T hT => zP_1 (hT.mpr (Or.inr ⟨⟨c93, Int32.not_le.mp c103, Int32.not_le.mp c114⟩, c130, (lg_cmp_eq _ _).mp c147⟩))
                  refine aw_ls (ls' := [some (.ref m), some (.int (nI u)), some (.int (zP (Q ∨ mSame (s.2.1 3) (mT s e S) k j))), some (.int (nI k)), some (.int (nI (j + 1)))]) (by rw [eT _ Iff.rfl]; rfl) ?_
                  refine ih (j + 1) _ (by omega) (fun o4 => ?_)
                  have hc := hc o4
                  rw [← zP_i (step _ Iff.rfl)] at hc
                  exact hc
end
section
set_option maxRecDepth 20000 in
theorem l_M_helps {G : ax_G} {x : ax_X} {h0 : ax_H} {P : Option Value → ax_H → Prop} {m : Nat} (s : mSt) (e : Nat → Nat → Nat) (U S : Nat) (hUb : U ≤ 32) (hS : s.1 2 = nI S) (hSb : S ≤ 2048) (hI : mI2 s e U S) (h : ax_H) (hR : mR m s h) (u : Nat) (hu : u < U) : ∀ r k (Q : Prop) (o4 : Option Value), k + r = S → P (some (.int (zP (Q ∨ mHelpsL (s.2.1 3) (mT s e S) u r k)))) h → AW G x Y_M_helps 2 46 h0 P h 9 [some (.ref m), some (.int (nI u)), some (.int (zP Q)), some (.int (nI k)), o4] [] := by
  intro r
  induction r with
  | zero =>
    intro k Q o4 hk hp
    have hkk : k = S := by omega
    subst hkk
    refine aw_iload_n d_M_helps_9 rfl rfl ?_
    first | refine aw_aload_n d_M_helps_10 rfl rfl ?_ | refine aw_aload_nQ d_M_helps_10 rfl rfl ?_ | refine aw_aload_nN d_M_helps_10 rfl rfl ?_
    refine aM_get (by assumption) fl_M_129 (by decide) rfl d_M_helps_11 ?_
    refine aw_icmp_ge (tgt := 168) d_M_helps_14 (by decide) (fun c14 => ?_) (fun c14 => ?_)
    · refine aw_iload_n d_M_helps_168 rfl rfl ?_
      refine aw_zret ?_ rfl (zP_n _) d_M_helps_169
      rw [zP_i (show (Q ∨ mHelpsL (s.2.1 3) (mT s e k) u 0 k) ↔ Q from ⟨fun q => q.elim id (fun z => absurd z id), Or.inl⟩)] at hp
      exact hp
    · exact absurd (show s.1 2 ≤ nI k by rw [hS]; exact nI_le (Nat.le_refl _) (by omega)) c14
  | succ r ih =>
    intro k Q o4 hk hp
    obtain ⟨u1, u2⟩ := hI k (by omega)
    have ks : k < 2048 := by omega
    rw [mHelpsL] at hp
    refine aw_iload_n d_M_helps_9 rfl rfl ?_
    first | refine aw_aload_n d_M_helps_10 rfl rfl ?_ | refine aw_aload_nQ d_M_helps_10 rfl rfl ?_ | refine aw_aload_nN d_M_helps_10 rfl rfl ?_
    refine aM_get (by assumption) fl_M_129 (by decide) rfl d_M_helps_11 ?_
    refine aw_icmp_ge (tgt := 168) d_M_helps_14 (by decide) (fun c14 => ?_) (fun c14 => ?_)
    · exact absurd c14 (by rw [show s.1 2 = nI S from hS]; exact nI_ge (by omega) (by omega))
    · first | refine aw_aload_n d_M_helps_17 rfl rfl ?_ | refine aw_aload_nQ d_M_helps_17 rfl rfl ?_ | refine aw_aload_nN d_M_helps_17 rfl rfl ?_
      refine aM_get (by assumption) fl_M_44 (by decide) rfl d_M_helps_18 ?_
      refine aw_iload_n d_M_helps_21 rfl rfl ?_
      refine aM_iald (by assumption) (by decide) rfl rfl (show k < 2048 from ks) (by decide) d_M_helps_22 ?_
      refine aw_iload_n d_M_helps_23 rfl rfl ?_
      refine aw_icmp_ne (tgt := 168) d_M_helps_24 (by decide) (fun c24 => ?_) (fun c24 => ?_)
      · refine aw_iload_n d_M_helps_168 rfl rfl ?_
        refine aw_zret ?_ rfl (zP_n _) d_M_helps_169
        rw [zP_i (show (Q ∨ ((mT s e S).2.2.2.2.1 k = u ∧ (mHelpK (s.2.1 3) (mT s e S) k ∨ mHelpsL (s.2.1 3) (mT s e S) u r (k + 1)))) ↔ Q from ⟨fun q => q.elim id (fun z => absurd (show s.2.1 11 k = nI u by rw [u1]; exact congrArg nI z.1) c24), Or.inl⟩)] at hp
        exact hp
      · first | refine aw_aload_n d_M_helps_27 rfl rfl ?_ | refine aw_aload_nQ d_M_helps_27 rfl rfl ?_ | refine aw_aload_nN d_M_helps_27 rfl rfl ?_
        refine aw_iload_n d_M_helps_28 rfl rfl ?_
        refine aw_callV (c_M_isGlobal G _ m s (by assumption) k ks) cl_M (mR.obj (by assumption)) m_M_isGlobal ml_M_165 rfl rfl (by decide) (by decide) (Nat.le_of_ble_eq_true rfl) d_M_helps_29 ?_
        rintro v h' ⟨rfl, rfl⟩
        refine aw_if_ne (tgt := 43) d_M_helps_32 (by decide) (fun c32 => ?_) (fun c32 => ?_)
        · first | refine aw_aload_n d_M_helps_43 rfl rfl ?_ | refine aw_aload_nQ d_M_helps_43 rfl rfl ?_ | refine aw_aload_nN d_M_helps_43 rfl rfl ?_
          first | refine aw_aload_n d_M_helps_44 rfl rfl ?_ | refine aw_aload_nQ d_M_helps_44 rfl rfl ?_ | refine aw_aload_nN d_M_helps_44 rfl rfl ?_
          refine aM_get (by assumption) fl_M_37 (by decide) rfl d_M_helps_45 ?_
          refine aw_iload_n d_M_helps_48 rfl rfl ?_
          refine aM_lald (by assumption) (by decide) rfl rfl (show k < 2048 from ks) (by decide) d_M_helps_49 ?_
          first | refine aw_aload_n d_M_helps_50 rfl rfl ?_ | refine aw_aload_nQ d_M_helps_50 rfl rfl ?_ | refine aw_aload_nN d_M_helps_50 rfl rfl ?_
          refine aM_get (by assumption) fl_M_41 (by decide) rfl d_M_helps_51 ?_
          refine aw_iload_n d_M_helps_54 rfl rfl ?_
          refine aM_iald (by assumption) (by decide) rfl rfl (show k < 2048 from ks) (by decide) d_M_helps_55 ?_
          refine aw_callV (c_M_meant G _ m s (by assumption) e U S hUb hS hSb hI _ _) cl_M (mR.obj (by assumption)) m_M_meant ml_M_171 rfl rfl (by decide) (by decide) (Nat.le_of_ble_eq_true rfl) d_M_helps_56 ?_
          rintro v h' ⟨rfl, rfl⟩
          refine aw_if_lt (tgt := 65) d_M_helps_59 (by decide) (fun c59 => ?_) (fun c59 => ?_)
          · refine aw_iconst (v := 0) d_M_helps_65 (by decide) ?_
            refine aw_istore d_M_helps_66 (by decide) rfl ?_
            have ek : e 11 k = u := (nI_eq (by omega) (by omega)).mp (by rw [← u1]; exact c24)
            have hgw : mGlob (mT s e S) k ∨ mWeak (mT s e S) k := by
              by_cases q : mGlob (mT s e S) k
              · exact Or.inl q
              · exact absurd (show zI (0 ≤ s.2.1 13 k ∧ s.2.1 12 k = 1) = 0 by rw [zI, if_neg q]) c32
            refine l_M_helps1 s e U S hUb hS hSb hI _ hR u k (by omega) S 0 Q (by omega) (fun o4 => ?_)
            rw [zP_i (show (Q ∨ ((mT s e S).2.2.2.2.1 k = u ∧ (mHelpK (s.2.1 3) (mT s e S) k ∨ mHelpsL (s.2.1 3) (mT s e S) u r (k + 1)))) ↔ ((Q ∨ ∃ i, 0 ≤ i ∧ i < S ∧ mSame (s.2.1 3) (mT s e S) k i) ∨ mHelpsL (s.2.1 3) (mT s e S) u r (k + 1)) from ⟨fun q => q.elim (fun z => Or.inl (Or.inl z)) (fun z => z.2.elim (fun y => Or.inl (Or.inr (y.2.imp (fun i yi => ⟨Nat.zero_le _, yi⟩)))) Or.inr), fun q => q.elim (fun z => z.elim Or.inl (fun y => Or.inr ⟨ek, Or.inl ⟨⟨hgw, c59⟩, y.imp (fun i yi => yi.2)⟩⟩)) (fun z => Or.inr ⟨ek, Or.inr z⟩)⟩)] at hp
            refine aw_iinc (v := nI (k + 1)) d_M_helps_162 rfl (ax_inc k) (by decide) rfl ?_
            refine aw_goto (tgt := 9) d_M_helps_165 (by decide) ?_
            exact ih (k + 1) _ _ (by omega) hp
          · refine aw_goto (tgt := 162) d_M_helps_62 (by decide) ?_
            refine aw_iinc (v := nI (k + 1)) d_M_helps_162 rfl (ax_inc k) (by decide) rfl ?_
            refine aw_goto (tgt := 9) d_M_helps_165 (by decide) ?_
            have ek : e 11 k = u := (nI_eq (by omega) (by omega)).mp (by rw [← u1]; exact c24)
            have nk : ¬ mHelpK (s.2.1 3) (mT s e S) k := fun q => absurd q.1.2 c59
            refine ih (k + 1) Q _ (by omega) ?_
            rw [zP_i (show (Q ∨ ((mT s e S).2.2.2.2.1 k = u ∧ (mHelpK (s.2.1 3) (mT s e S) k ∨ mHelpsL (s.2.1 3) (mT s e S) u r (k + 1)))) ↔ (Q ∨ mHelpsL (s.2.1 3) (mT s e S) u r (k + 1)) from ⟨fun q => q.elim Or.inl (fun z => Or.inr (z.2.resolve_left nk)), fun q => q.elim Or.inl (fun z => Or.inr ⟨ek, Or.inr z⟩)⟩)] at hp
            exact hp
        · first | refine aw_aload_n d_M_helps_35 rfl rfl ?_ | refine aw_aload_nQ d_M_helps_35 rfl rfl ?_ | refine aw_aload_nN d_M_helps_35 rfl rfl ?_
          refine aw_iload_n d_M_helps_36 rfl rfl ?_
          refine aw_callV (c_M_isWeak G _ m s (by assumption) k ks) cl_M (mR.obj (by assumption)) m_M_isWeak ml_M_168 rfl rfl (by decide) (by decide) (Nat.le_of_ble_eq_true rfl) d_M_helps_37 ?_
          rintro v h' ⟨rfl, rfl⟩
          refine aw_if_eq (tgt := 162) d_M_helps_40 (by decide) (fun c40 => ?_) (fun c40 => ?_)
          · refine aw_iinc (v := nI (k + 1)) d_M_helps_162 rfl (ax_inc k) (by decide) rfl ?_
            refine aw_goto (tgt := 9) d_M_helps_165 (by decide) ?_
            have ek : e 11 k = u := (nI_eq (by omega) (by omega)).mp (by rw [← u1]; exact c24)
            have nk : ¬ mHelpK (s.2.1 3) (mT s e S) k := fun q => q.1.1.elim (fun z => absurd c32 (by rw [zI, if_pos z]; decide)) (fun z => absurd c40 (by rw [zI, if_pos z]; decide))
            refine ih (k + 1) Q _ (by omega) ?_
            rw [zP_i (show (Q ∨ ((mT s e S).2.2.2.2.1 k = u ∧ (mHelpK (s.2.1 3) (mT s e S) k ∨ mHelpsL (s.2.1 3) (mT s e S) u r (k + 1)))) ↔ (Q ∨ mHelpsL (s.2.1 3) (mT s e S) u r (k + 1)) from ⟨fun q => q.elim Or.inl (fun z => Or.inr (z.2.resolve_left nk)), fun q => q.elim Or.inl (fun z => Or.inr ⟨ek, Or.inr z⟩)⟩)] at hp
            exact hp
          · first | refine aw_aload_n d_M_helps_43 rfl rfl ?_ | refine aw_aload_nQ d_M_helps_43 rfl rfl ?_ | refine aw_aload_nN d_M_helps_43 rfl rfl ?_
            first | refine aw_aload_n d_M_helps_44 rfl rfl ?_ | refine aw_aload_nQ d_M_helps_44 rfl rfl ?_ | refine aw_aload_nN d_M_helps_44 rfl rfl ?_
            refine aM_get (by assumption) fl_M_37 (by decide) rfl d_M_helps_45 ?_
            refine aw_iload_n d_M_helps_48 rfl rfl ?_
            refine aM_lald (by assumption) (by decide) rfl rfl (show k < 2048 from ks) (by decide) d_M_helps_49 ?_
            first | refine aw_aload_n d_M_helps_50 rfl rfl ?_ | refine aw_aload_nQ d_M_helps_50 rfl rfl ?_ | refine aw_aload_nN d_M_helps_50 rfl rfl ?_
            refine aM_get (by assumption) fl_M_41 (by decide) rfl d_M_helps_51 ?_
            refine aw_iload_n d_M_helps_54 rfl rfl ?_
            refine aM_iald (by assumption) (by decide) rfl rfl (show k < 2048 from ks) (by decide) d_M_helps_55 ?_
            refine aw_callV (c_M_meant G _ m s (by assumption) e U S hUb hS hSb hI _ _) cl_M (mR.obj (by assumption)) m_M_meant ml_M_171 rfl rfl (by decide) (by decide) (Nat.le_of_ble_eq_true rfl) d_M_helps_56 ?_
            rintro v h' ⟨rfl, rfl⟩
            refine aw_if_lt (tgt := 65) d_M_helps_59 (by decide) (fun c59 => ?_) (fun c59 => ?_)
            · refine aw_iconst (v := 0) d_M_helps_65 (by decide) ?_
              refine aw_istore d_M_helps_66 (by decide) rfl ?_
              have ek : e 11 k = u := (nI_eq (by omega) (by omega)).mp (by rw [← u1]; exact c24)
              have hgw : mGlob (mT s e S) k ∨ mWeak (mT s e S) k := by
                by_cases q : mWeak (mT s e S) k
                · exact Or.inr q
                · exact absurd (show zI (0 ≤ s.2.1 13 k ∧ 1 < s.2.1 12 k) = 0 by rw [zI, if_neg q]) c40
              refine l_M_helps1 s e U S hUb hS hSb hI _ hR u k (by omega) S 0 Q (by omega) (fun o4 => ?_)
              rw [zP_i (show (Q ∨ ((mT s e S).2.2.2.2.1 k = u ∧ (mHelpK (s.2.1 3) (mT s e S) k ∨ mHelpsL (s.2.1 3) (mT s e S) u r (k + 1)))) ↔ ((Q ∨ ∃ i, 0 ≤ i ∧ i < S ∧ mSame (s.2.1 3) (mT s e S) k i) ∨ mHelpsL (s.2.1 3) (mT s e S) u r (k + 1)) from ⟨fun q => q.elim (fun z => Or.inl (Or.inl z)) (fun z => z.2.elim (fun y => Or.inl (Or.inr (y.2.imp (fun i yi => ⟨Nat.zero_le _, yi⟩)))) Or.inr), fun q => q.elim (fun z => z.elim Or.inl (fun y => Or.inr ⟨ek, Or.inl ⟨⟨hgw, c59⟩, y.imp (fun i yi => yi.2)⟩⟩)) (fun z => Or.inr ⟨ek, Or.inr z⟩)⟩)] at hp
              refine aw_iinc (v := nI (k + 1)) d_M_helps_162 rfl (ax_inc k) (by decide) rfl ?_
              refine aw_goto (tgt := 9) d_M_helps_165 (by decide) ?_
              exact ih (k + 1) _ _ (by omega) hp
            · refine aw_goto (tgt := 162) d_M_helps_62 (by decide) ?_
              refine aw_iinc (v := nI (k + 1)) d_M_helps_162 rfl (ax_inc k) (by decide) rfl ?_
              refine aw_goto (tgt := 9) d_M_helps_165 (by decide) ?_
              have ek : e 11 k = u := (nI_eq (by omega) (by omega)).mp (by rw [← u1]; exact c24)
              have nk : ¬ mHelpK (s.2.1 3) (mT s e S) k := fun q => absurd q.1.2 c59
              refine ih (k + 1) Q _ (by omega) ?_
              rw [zP_i (show (Q ∨ ((mT s e S).2.2.2.2.1 k = u ∧ (mHelpK (s.2.1 3) (mT s e S) k ∨ mHelpsL (s.2.1 3) (mT s e S) u r (k + 1)))) ↔ (Q ∨ mHelpsL (s.2.1 3) (mT s e S) u r (k + 1)) from ⟨fun q => q.elim Or.inl (fun z => Or.inr (z.2.resolve_left nk)), fun q => q.elim Or.inl (fun z => Or.inr ⟨ek, Or.inr z⟩)⟩)] at hp
              exact hp
def mHelps (tk : Nat → Int32) (g : mTab) (F : Nat → Nat) (u : Nat) : Prop := mHelpsL tk g u (g.2.2.2.2.2 - F u) (F u)
set_option maxRecDepth 20000 in
theorem c_M_helps (G : ax_G) (h : ax_H) (m : Nat) (s : mSt) (hR : mR m s h) (e : Nat → Nat → Nat) (U S : Nat) (hUb : U ≤ 32) (hS : s.1 2 = nI S) (hSb : S ≤ 2048) (hI : mI2 s e U S) (u : Nat) (hu : u < U) (hF : s.2.1 16 u = nI (e 16 u)) (hFS : e 16 u ≤ S) : AM G Y_M_helps 2 46 [.ref m, .int (nI u)] h (fun v h2 => h2 = h ∧ v = some (.int (zP (mHelps (s.2.1 3) (mT s e S) (e 16) u)))) := by
  refine aw_enter (by decide) (Nat.le_of_ble_eq_true rfl) (n := 3) (ls := [some (.ref m), some (.int (nI u)), none, none, none]) rfl (fun x => ?_)
  refine aw_iconst (v := 0) d_M_helps_0 (by decide) ?_
  refine aw_istore_n d_M_helps_1 rfl (by decide) rfl ?_
  first | refine aw_aload_n d_M_helps_2 rfl rfl ?_ | refine aw_aload_nQ d_M_helps_2 rfl rfl ?_ | refine aw_aload_nN d_M_helps_2 rfl rfl ?_
  refine aM_get (by assumption) fl_M_59 (by decide) rfl d_M_helps_3 ?_
  refine aw_iload_n d_M_helps_6 rfl rfl ?_
  refine aM_iald (by assumption) (by decide) rfl rfl (show u < 33 by omega) (by decide) d_M_helps_7 ?_
  refine aw_istore_n d_M_helps_8 rfl (by decide) rfl ?_
  refine aw_ls (ls' := [some (.ref m), some (.int (nI u)), some (.int (zP False)), some (.int (nI (e 16 u))), none]) (by rw [hF, zP_0 id]; rfl) ?_
  refine l_M_helps s e U S hUb hS hSb hI h hR u hu (S - e 16 u) (e 16 u) False _ (by omega) ⟨rfl, ?_⟩
  rw [mHelps, zP_i (show (False ∨ mHelpsL (s.2.1 3) (mT s e S) u (S - e 16 u) (e 16 u)) ↔ _ from ⟨fun q => q.resolve_left id, Or.inr⟩)]
end
section
def mTk0 (lib tk : Nat → Int32) (j : Nat) : Nat → Int32 := fun u => if u < j then (if lib u = 0 then 1 else 0) else tk u
theorem mTk0_0 (lib tk : Nat → Int32) : mTk0 lib tk 0 = tk := by
  funext u
  rw [mTk0, if_neg (by omega)]
theorem mTk0_s (lib tk : Nat → Int32) (j : Nat) : va_up (mTk0 lib tk j) j (if lib j = 0 then 1 else 0) = mTk0 lib tk (j + 1) := by
  funext u
  by_cases hu : u = j
  · subst hu
    rw [va_up_self, mTk0]
    exact (if_pos (Nat.lt_succ_self u)).symm
  · rw [va_up_ne _ _ hu, mTk0, mTk0]
    by_cases q : u < j
    · rw [if_pos q, if_pos (show u < j + 1 by omega)]
    · rw [if_neg q, if_neg (show ¬ u < j + 1 by omega)]
/-- the first of r numbers from k on with Q -/
noncomputable def mFind (Q : Nat → Prop) : Nat → Nat → Option Nat
  | 0, _ => none
  | r + 1, k => @ite _ (Q k) (Classical.propDecidable _) (some k) (mFind Q r (k + 1))
theorem mFind_t {Q : Nat → Prop} {r k : Nat} (h : Q k) : mFind Q (r + 1) k = some k := by rw [mFind, if_pos h]
theorem mFind_f {Q : Nat → Prop} {r k : Nat} (h : ¬ Q k) : mFind Q (r + 1) k = mFind Q r (k + 1) := by rw [mFind, if_neg h]
abbrev mWants (tk : Nat → Int32) (g : mTab) (F : Nat → Nat) (u : Nat) : Prop := tk u = 0 ∧ mHelps tk g F u
noncomputable def mTakeL (g : mTab) (F : Nat → Nat) (U : Nat) : Nat → (Nat → Int32) → Nat → Int32
  | 0, tk => tk
  | n + 1, tk => match mFind (mWants tk g F) U 0 with
    | none => tk
    | some u => mTakeL g F U n (va_up tk u 1)
theorem mTakeL_n {g : mTab} {F : Nat → Nat} {U n : Nat} {tk : Nat → Int32} (h : mFind (mWants tk g F) U 0 = none) : mTakeL g F U (n + 1) tk = tk := by rw [mTakeL, h]
theorem mTakeL_s {g : mTab} {F : Nat → Nat} {U n u : Nat} {tk : Nat → Int32} (h : mFind (mWants tk g F) U 0 = some u) : mTakeL g F U (n + 1) tk = mTakeL g F U n (va_up tk u 1) := by rw [mTakeL, h]
noncomputable def mTake (s : mSt) (e : Nat → Nat → Nat) (U S : Nat) : Nat → Int32 := mTakeL (mT s e S) (e 16) U 32 (mTk0 (s.2.1 1) (s.2.1 3) U)
set_option maxRecDepth 20000 in
theorem l_M_take0 {G : ax_G} {x : ax_X} {h0 : ax_H} {P : Option Value → ax_H → Prop} {m : Nat} (s : mSt) (U : Nat) (hU : s.1 1 = nI U) (hUb : U ≤ 32) (hq : ax_H) (hk : ∀ h2 o1, mR m (s.1, va_up s.2.1 3 (mTk0 (s.2.1 1) (s.2.1 3) U), s.2.2) h2 → mFr m hq h2 → AW G x Y_M_take 3 70 h0 P h2 36 [some (.ref m), some (.int o1), none] []) : ∀ r j h, j + r = U → mR m (s.1, va_up s.2.1 3 (mTk0 (s.2.1 1) (s.2.1 3) j), s.2.2) h → mFr m hq h → AW G x Y_M_take 3 70 h0 P h 2 [some (.ref m), some (.int (nI j)), none] [] := by
  intro r
  induction r with
  | zero =>
    intro j h hj hR hF
    have hjj : j = U := by omega
    subst hjj
    refine aw_iload_n d_M_take_2 rfl rfl ?_
    first | refine aw_aload_n d_M_take_3 rfl rfl ?_ | refine aw_aload_nQ d_M_take_3 rfl rfl ?_ | refine aw_aload_nN d_M_take_3 rfl rfl ?_
    refine aM_get (by assumption) fl_M_126 (by decide) rfl d_M_take_4 ?_
    refine aw_icmp_ge (tgt := 36) d_M_take_7 (by decide) (fun c7 => ?_) (fun c7 => ?_)
    · exact hk _ _ hR hF
    · exact absurd (show s.1 1 ≤ nI j by rw [hU]; exact nI_le (Nat.le_refl _) (by omega)) c7
  | succ r ih =>
    intro j h hj hR hF
    refine aw_iload_n d_M_take_2 rfl rfl ?_
    first | refine aw_aload_n d_M_take_3 rfl rfl ?_ | refine aw_aload_nQ d_M_take_3 rfl rfl ?_ | refine aw_aload_nN d_M_take_3 rfl rfl ?_
    refine aM_get (by assumption) fl_M_126 (by decide) rfl d_M_take_4 ?_
    refine aw_icmp_ge (tgt := 36) d_M_take_7 (by decide) (fun c7 => ?_) (fun c7 => ?_)
    · exact absurd c7 (by rw [show s.1 1 = nI U from hU]; exact nI_ge (by omega) (by omega))
    · first | refine aw_aload_n d_M_take_10 rfl rfl ?_ | refine aw_aload_nQ d_M_take_10 rfl rfl ?_ | refine aw_aload_nN d_M_take_10 rfl rfl ?_
      refine aM_get (by assumption) fl_M_16 (by decide) rfl d_M_take_11 ?_
      refine aw_iload_n d_M_take_14 rfl rfl ?_
      first | refine aw_aload_n d_M_take_15 rfl rfl ?_ | refine aw_aload_nQ d_M_take_15 rfl rfl ?_ | refine aw_aload_nN d_M_take_15 rfl rfl ?_
      refine aM_get (by assumption) fl_M_7 (by decide) rfl d_M_take_16 ?_
      refine aw_iload_n d_M_take_19 rfl rfl ?_
      refine aM_zald (by assumption) (by decide) rfl rfl (show j < 32 by omega) (by decide) d_M_take_20 ?_
      refine aw_if_ne (tgt := 28) d_M_take_21 (by decide) (fun c21 => ?_) (fun c21 => ?_)
      · refine aw_iconst (v := 0) d_M_take_28 (by decide) ?_
        refine aM_zast (by assumption) (by decide) rfl rfl (show j < 32 by omega) (by decide) d_M_take_29 (fun g29 hR29 hF29 => ?_)
        refine aw_iinc (v := nI (j + 1)) d_M_take_30 rfl (ax_inc j) (by decide) rfl ?_
        refine aw_goto (tgt := 2) d_M_take_33 (by decide) ?_
        refine ih (j + 1) _ (by omega) ?_ (hF.tr hF29)
        have hR29 : mR m (s.1, va_up (va_up s.2.1 3 (mTk0 (s.2.1 1) (s.2.1 3) j)) 3 (va_up (mTk0 (s.2.1 1) (s.2.1 3) j) j (0 &&& 1)), s.2.2) g29 := hR29
        rw [bx_uu, show ((0 : Int32) &&& 1) = (if s.2.1 1 j = 0 then 1 else 0) by rw [if_neg (show ¬ s.2.1 1 j = 0 from c21)]; rfl, mTk0_s] at hR29
        exact hR29
      · refine aw_iconst (v := 1) d_M_take_24 (by decide) ?_
        refine aw_goto (tgt := 29) d_M_take_25 (by decide) ?_
        refine aM_zast (by assumption) (by decide) rfl rfl (show j < 32 by omega) (by decide) d_M_take_29 (fun g29 hR29 hF29 => ?_)
        refine aw_iinc (v := nI (j + 1)) d_M_take_30 rfl (ax_inc j) (by decide) rfl ?_
        refine aw_goto (tgt := 2) d_M_take_33 (by decide) ?_
        refine ih (j + 1) _ (by omega) ?_ (hF.tr hF29)
        have hR29 : mR m (s.1, va_up (va_up s.2.1 3 (mTk0 (s.2.1 1) (s.2.1 3) j)) 3 (va_up (mTk0 (s.2.1 1) (s.2.1 3) j) j (1 &&& 1)), s.2.2) g29 := hR29
        rw [bx_uu, show ((1 : Int32) &&& 1) = (if s.2.1 1 j = 0 then 1 else 0) by rw [if_pos (show s.2.1 1 j = 0 from c21)]; rfl, mTk0_s] at hR29
        exact hR29
set_option maxRecDepth 20000 in
theorem l_M_take1 {G : ax_G} {x : ax_X} {h0 : ax_H} {P : Option Value → ax_H → Prop} {m : Nat} (s : mSt) (e : Nat → Nat → Nat) (U S : Nat) (hU : s.1 1 = nI U) (hUb : U ≤ 32) (hS : s.1 2 = nI S) (hSb : S ≤ 2048) (hI : mI2 s e U S) (hF : ∀ u, u < U → s.2.1 16 u = nI (e 16 u) ∧ e 16 u ≤ S) (hq : ax_H) (tk : Nat → Int32) (h : ax_H) (hR : mR m (s.1, va_up s.2.1 3 tk, s.2.2) h) (hFq : mFr m hq h) (n t : Nat) (ht : t < 32) (hp : ∀ h2, mR m (s.1, va_up s.2.1 3 (mTakeL (mT s e S) (e 16) U (n + 1) tk), s.2.2) h2 → mFr m hq h2 → P none h2) (ih : ∀ u, u < U → ∀ h2, mFind (mWants tk (mT s e S) (e 16)) U 0 = some u → mR m (s.1, va_up s.2.1 3 (va_up tk u 1), s.2.2) h2 → mFr m hq h2 → ∀ o2, AW G x Y_M_take 3 70 h0 P h2 38 [some (.ref m), some (.int (nI (t + 1))), some (.int o2)] []) : ∀ r u, u + r = U → mFind (mWants tk (mT s e S) (e 16)) U 0 = mFind (mWants tk (mT s e S) (e 16)) r u → AW G x Y_M_take 3 70 h0 P h 46 [some (.ref m), some (.int (nI t)), some (.int (nI u))] [] := by
  intro r
  induction r with
  | zero =>
    intro u hu he
    have huu : u = U := by omega
    subst huu
    refine aw_iload_n d_M_take_46 rfl rfl ?_
    first | refine aw_aload_n d_M_take_47 rfl rfl ?_ | refine aw_aload_nQ d_M_take_47 rfl rfl ?_ | refine aw_aload_nN d_M_take_47 rfl rfl ?_
    refine aM_get (by assumption) fl_M_126 (by decide) rfl d_M_take_48 ?_
    refine aw_icmp_ge (tgt := 77) d_M_take_51 (by decide) (fun c51 => ?_) (fun c51 => ?_)
    · refine aw_iload_n d_M_take_77 rfl rfl ?_
      first | refine aw_aload_n d_M_take_78 rfl rfl ?_ | refine aw_aload_nQ d_M_take_78 rfl rfl ?_ | refine aw_aload_nN d_M_take_78 rfl rfl ?_
      refine aM_get (by assumption) fl_M_126 (by decide) rfl d_M_take_79 ?_
      refine aw_icmp_ne (tgt := 86) d_M_take_82 (by decide) (fun c82 => ?_) (fun c82 => ?_)
      · exact absurd (show nI u = s.1 1 from hU.symm) c82
      · refine aw_vret ?_ rfl d_M_take_85
        rw [mTakeL_n (he.trans rfl)] at hp
        exact hp _ hR hFq
    · exact absurd (show s.1 1 ≤ nI u by rw [hU]; exact nI_le (Nat.le_refl _) (by omega)) c51
  | succ r ihr =>
    intro u hu he
    refine aw_iload_n d_M_take_46 rfl rfl ?_
    first | refine aw_aload_n d_M_take_47 rfl rfl ?_ | refine aw_aload_nQ d_M_take_47 rfl rfl ?_ | refine aw_aload_nN d_M_take_47 rfl rfl ?_
    refine aM_get (by assumption) fl_M_126 (by decide) rfl d_M_take_48 ?_
    refine aw_icmp_ge (tgt := 77) d_M_take_51 (by decide) (fun c51 => ?_) (fun c51 => ?_)
    · exact absurd c51 (by rw [show s.1 1 = nI U from hU]; exact nI_ge (by omega) (by omega))
    · first | refine aw_aload_n d_M_take_54 rfl rfl ?_ | refine aw_aload_nQ d_M_take_54 rfl rfl ?_ | refine aw_aload_nN d_M_take_54 rfl rfl ?_
      refine aM_get (by assumption) fl_M_16 (by decide) rfl d_M_take_55 ?_
      refine aw_iload_n d_M_take_58 rfl rfl ?_
      refine aM_zald (by assumption) (by decide) rfl rfl (show u < 32 by omega) (by decide) d_M_take_59 ?_
      refine aw_if_ne (tgt := 71) d_M_take_60 (by decide) (fun c60 => ?_) (fun c60 => ?_)
      · refine aw_iinc (v := nI (u + 1)) d_M_take_71 rfl (ax_inc u) (by decide) rfl ?_
        refine aw_goto (tgt := 46) d_M_take_74 (by decide) ?_
        exact ihr (u + 1) (by omega) (he.trans (mFind_f (fun q : mWants tk (mT s e S) (e 16) u => c60 q.1)))
      · first | refine aw_aload_n d_M_take_63 rfl rfl ?_ | refine aw_aload_nQ d_M_take_63 rfl rfl ?_ | refine aw_aload_nN d_M_take_63 rfl rfl ?_
        refine aw_iload_n d_M_take_64 rfl rfl ?_
        refine aw_callV (c_M_helps G _ m (s.1, va_up s.2.1 3 tk, s.2.2) (by assumption) e U S hUb hS hSb hI u (by omega) (hF u (by omega)).1 (hF u (by omega)).2) cl_M (mR.obj (by assumption)) m_M_helps ml_M_175 rfl rfl (by decide) (by decide) (Nat.le_of_ble_eq_true rfl) d_M_take_65 ?_
        rintro v h' ⟨rfl, rfl⟩
        refine aw_if_ne (tgt := 77) d_M_take_68 (by decide) (fun c68 => ?_) (fun c68 => ?_)
        · refine aw_iload_n d_M_take_77 rfl rfl ?_
          first | refine aw_aload_n d_M_take_78 rfl rfl ?_ | refine aw_aload_nQ d_M_take_78 rfl rfl ?_ | refine aw_aload_nN d_M_take_78 rfl rfl ?_
          refine aM_get (by assumption) fl_M_126 (by decide) rfl d_M_take_79 ?_
          refine aw_icmp_ne (tgt := 86) d_M_take_82 (by decide) (fun c82 => ?_) (fun c82 => ?_)
          · first | refine aw_aload_n d_M_take_86 rfl rfl ?_ | refine aw_aload_nQ d_M_take_86 rfl rfl ?_ | refine aw_aload_nN d_M_take_86 rfl rfl ?_
            refine aM_get (by assumption) fl_M_16 (by decide) rfl d_M_take_87 ?_
            refine aw_iload_n d_M_take_90 rfl rfl ?_
            refine aw_iconst (v := 1) d_M_take_91 (by decide) ?_
            refine aM_zast (by assumption) (by decide) rfl rfl (show u < 32 by omega) (by decide) d_M_take_92 (fun g92 hR92 hF92 => ?_)
            refine aw_iinc (v := nI (t + 1)) d_M_take_93 rfl (ax_inc t) (by decide) rfl ?_
            refine aw_goto (tgt := 38) d_M_take_96 (by decide) ?_
            have hR92 : mR m (s.1, va_up (va_up s.2.1 3 tk) 3 (va_up tk u (1 &&& 1)), s.2.2) g92 := hR92
            rw [bx_uu] at hR92
            exact ih u (by omega) _ (he.trans (mFind_t ⟨c60, zP_t c68⟩)) hR92 (hFq.tr hF92) _
          · exact absurd ((nI_eq (by omega) (by omega)).mp (show nI u = nI U by rw [← hU]; exact c82)) (by omega)
        · refine aw_iinc (v := nI (u + 1)) d_M_take_71 rfl (ax_inc u) (by decide) rfl ?_
          refine aw_goto (tgt := 46) d_M_take_74 (by decide) ?_
          exact ihr (u + 1) (by omega) (he.trans (mFind_f (fun q : mWants tk (mT s e S) (e 16) u => zP_f c68 q.2)))
set_option maxRecDepth 20000 in
theorem l_M_take {G : ax_G} {x : ax_X} {h0 : ax_H} {P : Option Value → ax_H → Prop} {m : Nat} (s : mSt) (e : Nat → Nat → Nat) (U S : Nat) (hU : s.1 1 = nI U) (hUb : U ≤ 32) (hS : s.1 2 = nI S) (hSb : S ≤ 2048) (hI : mI2 s e U S) (hF : ∀ u, u < U → s.2.1 16 u = nI (e 16 u) ∧ e 16 u ≤ S) (hq : ax_H) : ∀ n t tk h o2, t + n = 32 → mR m (s.1, va_up s.2.1 3 tk, s.2.2) h → mFr m hq h → (∀ h2, mR m (s.1, va_up s.2.1 3 (mTakeL (mT s e S) (e 16) U n tk), s.2.2) h2 → mFr m hq h2 → P none h2) → ax_c1 [none, none, o2] 3 → AW G x Y_M_take 3 70 h0 P h 38 [some (.ref m), some (.int (nI t)), o2] [] := by
  intro n
  induction n with
  | zero =>
    intro t tk h o2 ht hR hFq hp _
    have htt : t = 32 := by omega
    subst htt
    refine aw_iload_n d_M_take_38 rfl rfl ?_
    refine aw_bipush (v := 32) d_M_take_39 (by decide) ?_
    refine aw_icmp_ge (tgt := 99) d_M_take_41 (by decide) (fun c41 => ?_) (fun c41 => ?_)
    · refine aw_vret ?_ rfl d_M_take_99
      exact hp _ hR hFq
    · exact absurd (by decide) c41
  | succ n ih =>
    intro t tk h o2 ht hR hFq hp _
    refine aw_iload_n d_M_take_38 rfl rfl ?_
    refine aw_bipush (v := 32) d_M_take_39 (by decide) ?_
    refine aw_icmp_ge (tgt := 99) d_M_take_41 (by decide) (fun c41 => ?_) (fun c41 => ?_)
    · exact absurd c41 (nI_ge (a := t) (b := 32) (by omega) (by decide))
    · refine aw_iconst (v := 0) d_M_take_44 (by decide) ?_
      refine aw_istore_n d_M_take_45 rfl (by decide) rfl ?_
      refine l_M_take1 s e U S hU hUb hS hSb hI hF hq tk h hR hFq n t (by omega) hp (fun u hu h2 hf hR2 hF2 o3 => ih (t + 1) (va_up tk u 1) h2 _ (by omega) hR2 hF2 ?_ (fun j w ej h1 => by match j, ej, h1 with | 2, _, h1 => cases h1; rfl)) U 0 (by omega) rfl
      rw [mTakeL_s hf] at hp
      exact hp
set_option maxRecDepth 20000 in
theorem c_M_take (G : ax_G) (h : ax_H) (m : Nat) (s : mSt) (hR : mR m s h) (e : Nat → Nat → Nat) (U S : Nat) (hU : s.1 1 = nI U) (hUb : U ≤ 32) (hS : s.1 2 = nI S) (hSb : S ≤ 2048) (hI : mI2 s e U S) (hF : ∀ u, u < U → s.2.1 16 u = nI (e 16 u) ∧ e 16 u ≤ S) : AM G Y_M_take 3 70 [.ref m] h (fun v h2 => v = none ∧ mR m (s.1, va_up s.2.1 3 (mTake s e U S), s.2.2) h2 ∧ mFr m h h2) := by
  refine aw_enter (by decide) (Nat.le_of_ble_eq_true rfl) (n := 2) (ls := [some (.ref m), none, none]) rfl (fun x => ?_)
  refine aw_iconst (v := 0) d_M_take_0 (by decide) ?_
  refine aw_istore_n d_M_take_1 rfl (by decide) rfl ?_
  refine l_M_take0 s U hU hUb h (fun h2 o1 hR2 hF2 => ?_) U 0 h (by omega) ?_ (mFr.rf m h)
  · refine aw_iconst (v := 0) d_M_take_36 (by decide) ?_
    refine aw_istore_n d_M_take_37 rfl (by decide) rfl ?_
    exact l_M_take s e U S hU hUb hS hSb hI hF h 32 0 _ h2 _ (by omega) hR2 hF2 (fun h3 r1 r2 => ⟨rfl, r1, r2⟩) (fun j w ej h1 => by match j, ej, h1 with | 2, _, h1 => cases h1)
  · refine hR.same (fun k => ?_) (fun k => rfl)
    by_cases hk : k = 3
    · subst hk; rw [va_up_self, mTk0_0]
    · exact va_up_ne _ _ hk
end
section
/-- a global label of a unit that is taken, that isn't the first of its name -/
abbrev mTwin (tk : Nat → Int32) (g : mTab) (k : Nat) : Prop := ¬ tk (g.2.2.2.2.1 k) = 0 ∧ mGlob g k ∧ ¬ mMeant tk g (g.2.2.2.1 k) (g.2.2.1 k) = nI k
def mTwL (tk : Nat → Int32) (g : mTab) (un ln : Nat → Int32) : Nat → Nat → Int32 → Int32 → Int32 × Int32
  | 0, _, a, b => (a, b)
  | r + 1, k, a, b => if mTwin tk g k ∧ (un k < a ∨ (un k = a ∧ ln k < b)) then mTwL tk g un ln r (k + 1) (un k) (ln k) else mTwL tk g un ln r (k + 1) a b
def mTw (s : mSt) (e : Nat → Nat → Nat) (S : Nat) : Int32 × Int32 := mTwL (s.2.1 3) (mT s e S) (s.2.1 11) (s.2.1 15) S 0 32 0
def mTwice (s : mSt) (e : Nat → Nat → Nat) (S : Nat) : mSt := if (mTw s e S).1 < 32 then mFail s 2 (mTw s e S).1 (mTw s e S).2 else s
set_option maxRecDepth 20000 in
theorem l_M_findTwice {G : ax_G} {x : ax_X} {h0 : ax_H} {P : Option Value → ax_H → Prop} {m : Nat} (s : mSt) (e : Nat → Nat → Nat) (U S : Nat) (hUb : U ≤ 32) (hS : s.1 2 = nI S) (hSb : S ≤ 2048) (hI : mI2 s e U S) (h : ax_H) (hR : mR m s h) (hp : ∀ h2, mR m (mTwice s e S) h2 → mFr m h h2 → P none h2) : ∀ r k a b, k + r = S → mTw s e S = mTwL (s.2.1 3) (mT s e S) (s.2.1 11) (s.2.1 15) r k a b → AW G x Y_M_findTwice 2 46 h0 P h 7 [some (.ref m), some (.int a), some (.int b), some (.int (nI k))] [] := by
  intro r
  induction r with
  | zero =>
    intro k a b hk he
    have hkk : k = S := by omega
    subst hkk
    have he : mTw s e k = (a, b) := he
    refine aw_iload_n d_M_findTwice_7 rfl rfl ?_
    first | refine aw_aload_n d_M_findTwice_8 rfl rfl ?_ | refine aw_aload_nQ d_M_findTwice_8 rfl rfl ?_ | refine aw_aload_nN d_M_findTwice_8 rfl rfl ?_
    refine aM_get (by assumption) fl_M_129 (by decide) rfl d_M_findTwice_9 ?_
    refine aw_icmp_ge (tgt := 110) d_M_findTwice_12 (by decide) (fun c12 => ?_) (fun c12 => ?_)
    · refine aw_iload_n d_M_findTwice_110 rfl rfl ?_
      refine aw_bipush (v := 32) d_M_findTwice_111 (by decide) ?_
      refine aw_icmp_ge (tgt := 123) d_M_findTwice_113 (by decide) (fun c113 => ?_) (fun c113 => ?_)
      · refine aw_vret ?_ rfl d_M_findTwice_123
        refine hp _ ?_ (mFr.rf m h)
        rw [mTwice, he, if_neg (Int32.not_lt.mpr c113)]
        exact hR
      · first | refine aw_aload_n d_M_findTwice_116 rfl rfl ?_ | refine aw_aload_nQ d_M_findTwice_116 rfl rfl ?_ | refine aw_aload_nN d_M_findTwice_116 rfl rfl ?_
        refine aw_iconst (v := 2) d_M_findTwice_117 (by decide) ?_
        refine aw_iload_n d_M_findTwice_118 rfl rfl ?_
        refine aw_iload_n d_M_findTwice_119 rfl rfl ?_
        refine aw_callV (c_M_fail G _ m s (by assumption) _ _ _) cl_M (mR.obj (by assumption)) m_M_fail ml_M_184 rfl rfl (by decide) (by decide) (Nat.le_of_ble_eq_true rfl) d_M_findTwice_120 ?_
        rintro v h' ⟨rfl, hRg, hFg⟩
        refine aw_vret ?_ rfl d_M_findTwice_123
        refine hp _ ?_ hFg
        rw [mTwice, he, if_pos (Int32.not_le.mp c113)]
        exact hRg
    · exact absurd (show s.1 2 ≤ nI k by rw [hS]; exact nI_le (Nat.le_refl _) (by omega)) c12
  | succ r ih =>
    intro k a b hk he
    obtain ⟨u1, u2⟩ := hI k (by omega)
    have ks : k < 2048 := by omega
    rw [mTwL] at he
    refine aw_iload_n d_M_findTwice_7 rfl rfl ?_
    first | refine aw_aload_n d_M_findTwice_8 rfl rfl ?_ | refine aw_aload_nQ d_M_findTwice_8 rfl rfl ?_ | refine aw_aload_nN d_M_findTwice_8 rfl rfl ?_
    refine aM_get (by assumption) fl_M_129 (by decide) rfl d_M_findTwice_9 ?_
    refine aw_icmp_ge (tgt := 110) d_M_findTwice_12 (by decide) (fun c12 => ?_) (fun c12 => ?_)
    · exact absurd c12 (by rw [show s.1 2 = nI S from hS]; exact nI_ge (by omega) (by omega))
    · first | refine aw_aload_n d_M_findTwice_15 rfl rfl ?_ | refine aw_aload_nQ d_M_findTwice_15 rfl rfl ?_ | refine aw_aload_nN d_M_findTwice_15 rfl rfl ?_
      refine aM_get (by assumption) fl_M_16 (by decide) rfl d_M_findTwice_16 ?_
      first | refine aw_aload_n d_M_findTwice_19 rfl rfl ?_ | refine aw_aload_nQ d_M_findTwice_19 rfl rfl ?_ | refine aw_aload_nN d_M_findTwice_19 rfl rfl ?_
      refine aM_get (by assumption) fl_M_44 (by decide) rfl d_M_findTwice_20 ?_
      refine aw_iload_n d_M_findTwice_23 rfl rfl ?_
      refine aM_iald (by assumption) (by decide) rfl rfl (show k < 2048 from ks) (by decide) d_M_findTwice_24 ?_
      refine aM_zald (by assumption) (by decide) rfl u1 (show e 11 k < 32 by omega) (by decide) d_M_findTwice_25 ?_
      refine aw_if_eq (tgt := 104) d_M_findTwice_26 (by decide) (fun c26 => ?_) (fun c26 => ?_)
      · refine aw_iinc (v := nI (k + 1)) d_M_findTwice_104 rfl (ax_inc k) (by decide) rfl ?_
        refine aw_goto (tgt := 7) d_M_findTwice_107 (by decide) ?_
        rw [if_neg (fun q : mTwin (s.2.1 3) (mT s e S) k ∧ (s.2.1 11 k < a ∨ (s.2.1 11 k = a ∧ s.2.1 15 k < b)) => q.1.1 c26)] at he
        exact ih (k + 1) _ _ (by omega) he
      · first | refine aw_aload_n d_M_findTwice_29 rfl rfl ?_ | refine aw_aload_nQ d_M_findTwice_29 rfl rfl ?_ | refine aw_aload_nN d_M_findTwice_29 rfl rfl ?_
        refine aw_iload_n d_M_findTwice_30 rfl rfl ?_
        refine aw_callV (c_M_isGlobal G _ m s (by assumption) k ks) cl_M (mR.obj (by assumption)) m_M_isGlobal ml_M_165 rfl rfl (by decide) (by decide) (Nat.le_of_ble_eq_true rfl) d_M_findTwice_31 ?_
        rintro v h' ⟨rfl, rfl⟩
        refine aw_if_eq (tgt := 104) d_M_findTwice_34 (by decide) (fun c34 => ?_) (fun c34 => ?_)
        · refine aw_iinc (v := nI (k + 1)) d_M_findTwice_104 rfl (ax_inc k) (by decide) rfl ?_
          refine aw_goto (tgt := 7) d_M_findTwice_107 (by decide) ?_
          rw [if_neg (fun q : mTwin (s.2.1 3) (mT s e S) k ∧ (s.2.1 11 k < a ∨ (s.2.1 11 k = a ∧ s.2.1 15 k < b)) => absurd c34 (by rw [zI, if_pos q.1.2.1]; decide))] at he
          exact ih (k + 1) _ _ (by omega) he
        · first | refine aw_aload_n d_M_findTwice_37 rfl rfl ?_ | refine aw_aload_nQ d_M_findTwice_37 rfl rfl ?_ | refine aw_aload_nN d_M_findTwice_37 rfl rfl ?_
          first | refine aw_aload_n d_M_findTwice_38 rfl rfl ?_ | refine aw_aload_nQ d_M_findTwice_38 rfl rfl ?_ | refine aw_aload_nN d_M_findTwice_38 rfl rfl ?_
          refine aM_get (by assumption) fl_M_37 (by decide) rfl d_M_findTwice_39 ?_
          refine aw_iload_n d_M_findTwice_42 rfl rfl ?_
          refine aM_lald (by assumption) (by decide) rfl rfl (show k < 2048 from ks) (by decide) d_M_findTwice_43 ?_
          first | refine aw_aload_n d_M_findTwice_44 rfl rfl ?_ | refine aw_aload_nQ d_M_findTwice_44 rfl rfl ?_ | refine aw_aload_nN d_M_findTwice_44 rfl rfl ?_
          refine aM_get (by assumption) fl_M_41 (by decide) rfl d_M_findTwice_45 ?_
          refine aw_iload_n d_M_findTwice_48 rfl rfl ?_
          refine aM_iald (by assumption) (by decide) rfl rfl (show k < 2048 from ks) (by decide) d_M_findTwice_49 ?_
          refine aw_callV (c_M_meant G _ m s (by assumption) e U S hUb hS hSb hI _ _) cl_M (mR.obj (by assumption)) m_M_meant ml_M_171 rfl rfl (by decide) (by decide) (Nat.le_of_ble_eq_true rfl) d_M_findTwice_50 ?_
          rintro v h' ⟨rfl, rfl⟩
          refine aw_iload_n d_M_findTwice_53 rfl rfl ?_
          refine aw_icmp_ne (tgt := 60) d_M_findTwice_54 (by decide) (fun c54 => ?_) (fun c54 => ?_)
          · first | refine aw_aload_n d_M_findTwice_60 rfl rfl ?_ | refine aw_aload_nQ d_M_findTwice_60 rfl rfl ?_ | refine aw_aload_nN d_M_findTwice_60 rfl rfl ?_
            refine aM_get (by assumption) fl_M_44 (by decide) rfl d_M_findTwice_61 ?_
            refine aw_iload_n d_M_findTwice_64 rfl rfl ?_
            refine aM_iald (by assumption) (by decide) rfl rfl (show k < 2048 from ks) (by decide) d_M_findTwice_65 ?_
            refine aw_iload_n d_M_findTwice_66 rfl rfl ?_
            refine aw_icmp_lt (tgt := 90) d_M_findTwice_67 (by decide) (fun c67 => ?_) (fun c67 => ?_)
            · first | refine aw_aload_n d_M_findTwice_90 rfl rfl ?_ | refine aw_aload_nQ d_M_findTwice_90 rfl rfl ?_ | refine aw_aload_nN d_M_findTwice_90 rfl rfl ?_
              refine aM_get (by assumption) fl_M_44 (by decide) rfl d_M_findTwice_91 ?_
              refine aw_iload_n d_M_findTwice_94 rfl rfl ?_
              refine aM_iald (by assumption) (by decide) rfl rfl (show k < 2048 from ks) (by decide) d_M_findTwice_95 ?_
              refine aw_istore_n d_M_findTwice_96 rfl (by decide) rfl ?_
              first | refine aw_aload_n d_M_findTwice_97 rfl rfl ?_ | refine aw_aload_nQ d_M_findTwice_97 rfl rfl ?_ | refine aw_aload_nN d_M_findTwice_97 rfl rfl ?_
              refine aM_get (by assumption) fl_M_56 (by decide) rfl d_M_findTwice_98 ?_
              refine aw_iload_n d_M_findTwice_101 rfl rfl ?_
              refine aM_iald (by assumption) (by decide) rfl rfl (show k < 2048 from ks) (by decide) d_M_findTwice_102 ?_
              refine aw_istore_n d_M_findTwice_103 rfl (by decide) rfl ?_
              refine aw_iinc (v := nI (k + 1)) d_M_findTwice_104 rfl (ax_inc k) (by decide) rfl ?_
              refine aw_goto (tgt := 7) d_M_findTwice_107 (by decide) ?_
              have hg : mGlob (mT s e S) k := by
                by_cases q : mGlob (mT s e S) k
                · exact q
                · exact absurd (show zI (0 ≤ s.2.1 13 k ∧ s.2.1 12 k = 1) = 0 by rw [zI, if_neg q]) c34
              rw [if_pos (show mTwin (s.2.1 3) (mT s e S) k ∧ (s.2.1 11 k < a ∨ (s.2.1 11 k = a ∧ s.2.1 15 k < b)) from ⟨⟨c26, hg, c54⟩, Or.inl c67⟩)] at he
              exact ih (k + 1) _ _ (by omega) he
            · first | refine aw_aload_n d_M_findTwice_70 rfl rfl ?_ | refine aw_aload_nQ d_M_findTwice_70 rfl rfl ?_ | refine aw_aload_nN d_M_findTwice_70 rfl rfl ?_
              refine aM_get (by assumption) fl_M_44 (by decide) rfl d_M_findTwice_71 ?_
              refine aw_iload_n d_M_findTwice_74 rfl rfl ?_
              refine aM_iald (by assumption) (by decide) rfl rfl (show k < 2048 from ks) (by decide) d_M_findTwice_75 ?_
              refine aw_iload_n d_M_findTwice_76 rfl rfl ?_
              refine aw_icmp_ne (tgt := 104) d_M_findTwice_77 (by decide) (fun c77 => ?_) (fun c77 => ?_)
              · refine aw_iinc (v := nI (k + 1)) d_M_findTwice_104 rfl (ax_inc k) (by decide) rfl ?_
                refine aw_goto (tgt := 7) d_M_findTwice_107 (by decide) ?_
                rw [if_neg (fun q : mTwin (s.2.1 3) (mT s e S) k ∧ (s.2.1 11 k < a ∨ (s.2.1 11 k = a ∧ s.2.1 15 k < b)) => q.2.elim c67 (fun z => c77 z.1))] at he
                exact ih (k + 1) _ _ (by omega) he
              · first | refine aw_aload_n d_M_findTwice_80 rfl rfl ?_ | refine aw_aload_nQ d_M_findTwice_80 rfl rfl ?_ | refine aw_aload_nN d_M_findTwice_80 rfl rfl ?_
                refine aM_get (by assumption) fl_M_56 (by decide) rfl d_M_findTwice_81 ?_
                refine aw_iload_n d_M_findTwice_84 rfl rfl ?_
                refine aM_iald (by assumption) (by decide) rfl rfl (show k < 2048 from ks) (by decide) d_M_findTwice_85 ?_
                refine aw_iload_n d_M_findTwice_86 rfl rfl ?_
                refine aw_icmp_ge (tgt := 104) d_M_findTwice_87 (by decide) (fun c87 => ?_) (fun c87 => ?_)
                · refine aw_iinc (v := nI (k + 1)) d_M_findTwice_104 rfl (ax_inc k) (by decide) rfl ?_
                  refine aw_goto (tgt := 7) d_M_findTwice_107 (by decide) ?_
                  rw [if_neg (fun q : mTwin (s.2.1 3) (mT s e S) k ∧ (s.2.1 11 k < a ∨ (s.2.1 11 k = a ∧ s.2.1 15 k < b)) => q.2.elim c67 (fun z => absurd z.2 (Int32.not_lt.mpr c87)))] at he
                  exact ih (k + 1) _ _ (by omega) he
                · first | refine aw_aload_n d_M_findTwice_90 rfl rfl ?_ | refine aw_aload_nQ d_M_findTwice_90 rfl rfl ?_ | refine aw_aload_nN d_M_findTwice_90 rfl rfl ?_
                  refine aM_get (by assumption) fl_M_44 (by decide) rfl d_M_findTwice_91 ?_
                  refine aw_iload_n d_M_findTwice_94 rfl rfl ?_
                  refine aM_iald (by assumption) (by decide) rfl rfl (show k < 2048 from ks) (by decide) d_M_findTwice_95 ?_
                  refine aw_istore_n d_M_findTwice_96 rfl (by decide) rfl ?_
                  first | refine aw_aload_n d_M_findTwice_97 rfl rfl ?_ | refine aw_aload_nQ d_M_findTwice_97 rfl rfl ?_ | refine aw_aload_nN d_M_findTwice_97 rfl rfl ?_
                  refine aM_get (by assumption) fl_M_56 (by decide) rfl d_M_findTwice_98 ?_
                  refine aw_iload_n d_M_findTwice_101 rfl rfl ?_
                  refine aM_iald (by assumption) (by decide) rfl rfl (show k < 2048 from ks) (by decide) d_M_findTwice_102 ?_
                  refine aw_istore_n d_M_findTwice_103 rfl (by decide) rfl ?_
                  refine aw_iinc (v := nI (k + 1)) d_M_findTwice_104 rfl (ax_inc k) (by decide) rfl ?_
                  refine aw_goto (tgt := 7) d_M_findTwice_107 (by decide) ?_
                  have hg : mGlob (mT s e S) k := by
                    by_cases q : mGlob (mT s e S) k
                    · exact q
                    · exact absurd (show zI (0 ≤ s.2.1 13 k ∧ s.2.1 12 k = 1) = 0 by rw [zI, if_neg q]) c34
                  rw [if_pos (show mTwin (s.2.1 3) (mT s e S) k ∧ (s.2.1 11 k < a ∨ (s.2.1 11 k = a ∧ s.2.1 15 k < b)) from ⟨⟨c26, hg, c54⟩, Or.inr ⟨c77, Int32.not_le.mp c87⟩⟩)] at he
                  exact ih (k + 1) _ _ (by omega) he
          · refine aw_goto (tgt := 104) d_M_findTwice_57 (by decide) ?_
            refine aw_iinc (v := nI (k + 1)) d_M_findTwice_104 rfl (ax_inc k) (by decide) rfl ?_
            refine aw_goto (tgt := 7) d_M_findTwice_107 (by decide) ?_
            rw [if_neg (fun q : mTwin (s.2.1 3) (mT s e S) k ∧ (s.2.1 11 k < a ∨ (s.2.1 11 k = a ∧ s.2.1 15 k < b)) => q.1.2.2 c54)] at he
            exact ih (k + 1) _ _ (by omega) he
set_option maxRecDepth 20000 in
theorem c_M_findTwice (G : ax_G) (h : ax_H) (m : Nat) (s : mSt) (hR : mR m s h) (e : Nat → Nat → Nat) (U S : Nat) (hUb : U ≤ 32) (hS : s.1 2 = nI S) (hSb : S ≤ 2048) (hI : mI2 s e U S) : AM G Y_M_findTwice 2 46 [.ref m] h (fun v h2 => v = none ∧ mR m (mTwice s e S) h2 ∧ mFr m h h2) := by
  refine aw_enter (by decide) (Nat.le_of_ble_eq_true rfl) (n := 3) (ls := [some (.ref m), none, none, none]) rfl (fun x => ?_)
  refine aw_bipush (v := 32) d_M_findTwice_0 (by decide) ?_
  refine aw_istore_n d_M_findTwice_2 rfl (by decide) rfl ?_
  refine aw_iconst (v := 0) d_M_findTwice_3 (by decide) ?_
  refine aw_istore_n d_M_findTwice_4 rfl (by decide) rfl ?_
  refine aw_iconst (v := 0) d_M_findTwice_5 (by decide) ?_
  refine aw_istore_n d_M_findTwice_6 rfl (by decide) rfl ?_
  exact l_M_findTwice s e U S hUb hS hSb hI h hR (fun h2 r1 r2 => ⟨rfl, r1, r2⟩) S 0 32 0 (by omega) rfl
end
section
/-- what meant answers: none, or a label of a unit that is taken, of this name -/
def mLab (tk : Nat → Int32) (g : mTab) (w : Int64) (n : Int32) (z : Int32) : Prop := z = -1 ∨ ∃ j, j < g.2.2.2.2.2 ∧ z = nI j ∧ 0 ≤ g.2.1 j ∧ mHit tk g w n j ∧ (mGlob g j ∨ mWeak g j)
theorem mMeantL_lab (tk : Nat → Int32) (g : mTab) (w : Int64) (n : Int32) : ∀ r k z, k + r = g.2.2.2.2.2 → mLab tk g w n z → mLab tk g w n (mMeantL tk g w n r k z) := by
  intro r
  induction r with
  | zero => exact fun k z _ h => h
  | succ r ih =>
    intro k z hk h
    rw [mMeantL]
    by_cases h1 : mHit tk g w n k
    · rw [if_pos h1]
      by_cases h2 : mGlob g k
      · rw [if_pos h2]
        exact Or.inr ⟨k, by omega, rfl, h2.1, h1, Or.inl h2⟩
      · rw [if_neg h2]
        refine ih (k + 1) _ (by omega) ?_
        by_cases h3 : mWeak g k ∧ z < 0
        · rw [if_pos h3]
          exact Or.inr ⟨k, by omega, rfl, h3.1.1, h1, Or.inr h3.1⟩
        · rw [if_neg h3]
          exact h
    · rw [if_neg h1]
      exact ih (k + 1) z (by omega) h
theorem mMeant_lab (tk : Nat → Int32) (g : mTab) (w : Int64) (n : Int32) : mLab tk g w n (mMeant tk g w n) := mMeantL_lab tk g w n _ 0 (-1) (by omega) (Or.inl rfl)
/-- what standsFor answers -/
theorem mStands_lab (tk : Nat → Int32) (g : mTab) (k : Nat) (hk : k < g.2.2.2.2.2) : (mStands tk g k < 0 ∧ (mStands tk g k = -2 ∨ mStands tk g k = -1)) ∨ ∃ j, j < g.2.2.2.2.2 ∧ mStands tk g k = nI j ∧ 0 ≤ g.2.1 j := by
  rw [mStands]
  by_cases h1 : 0 ≤ g.2.1 k ∧ g.1 k < 2
  · rw [if_pos h1]
    exact Or.inr ⟨k, hk, rfl, h1.1⟩
  · rw [if_neg h1]
    by_cases h2 : 0 ≤ mMeant tk g (g.2.2.2.1 k) (g.2.2.1 k)
    · rw [if_pos h2]
      rcases mMeant_lab tk g (g.2.2.2.1 k) (g.2.2.1 k) with h3 | ⟨j, h3, h4, h5, -⟩
      · rw [h3] at h2
        exact absurd h2 (by decide)
      · exact Or.inr ⟨j, h3, h4, h5⟩
    · rw [if_neg h2]
      by_cases h3 : 1 < g.1 k
      · rw [if_pos h3]
        exact Or.inl ⟨by decide, Or.inl rfl⟩
      · rw [if_neg h3]
        exact Or.inl ⟨by decide, Or.inr rfl⟩
/-- sections of symbols -/
def mI3 (s : mSt) (e : Nat → Nat → Nat) (S : Nat) : Prop := ∀ k, k < S → s.2.1 13 k = -1 ∨ (e 13 k < 4 ∧ s.2.1 13 k = nI (e 13 k))
/-- what waits: its unit, section; what it waits for -/
def mI4 (s : mSt) (e : Nat → Nat → Nat) (U S W : Nat) : Prop := ∀ w, w < W → (s.2.1 17 w = nI (e 17 w) ∧ e 17 w < U) ∧ (s.2.1 18 w = nI (e 18 w) ∧ e 18 w < 3) ∧ ((e 22 w = 0 ∧ s.2.1 22 w = -1) ∨ (∃ c, c < 4 ∧ e 22 w = c + 1 ∧ s.2.1 22 w = -2 - nI c) ∨ ∃ k, k < S ∧ e 22 w = k + 5 ∧ s.2.1 22 w = nI k)
theorem mI3.lab {s : mSt} {e : Nat → Nat → Nat} {S k : Nat} (h : mI3 s e S) (hk : k < S) (h0 : 0 ≤ s.2.1 13 k) : e 13 k < 4 ∧ s.2.1 13 k = nI (e 13 k) := (h k hk).resolve_left (fun q => by rw [q] at h0; exact absurd h0 (by decide))
/-- the needed ones at first: of the first j -/
def mNd0 (U : Nat) (tk kp old : Nat → Int32) (j : Nat) : Nat → Int32 := fun q => if q < j then (if q < 4 * U ∧ ¬ tk (q / 4) = 0 ∧ ¬ kp q = 0 then 1 else 0) else old q
theorem mNd0_0 (U : Nat) (tk kp old : Nat → Int32) : mNd0 U tk kp old 0 = old := by
  funext u
  rw [mNd0, if_neg (by omega)]
theorem mNd0_s (U : Nat) (tk kp old : Nat → Int32) (j : Nat) : va_up (mNd0 U tk kp old j) j (if j < 4 * U ∧ ¬ tk (j / 4) = 0 ∧ ¬ kp j = 0 then 1 else 0) = mNd0 U tk kp old (j + 1) := by
  funext u
  by_cases hu : u = j
  · subst hu
    rw [va_up_self, mNd0]
    exact (if_pos (Nat.lt_succ_self u)).symm
  · rw [va_up_ne _ _ hu, mNd0, mNd0]
    by_cases q : u < j
    · rw [if_pos q, if_pos (show u < j + 1 by omega)]
    · rw [if_neg q, if_neg (show ¬ u < j + 1 by omega)]
set_option maxRecDepth 20000 in
theorem l_M_need0 {G : ax_G} {x : ax_X} {h0 : ax_H} {P : Option Value → ax_H → Prop} {m : Nat} (s : mSt) (U : Nat) (hU : s.1 1 = nI U) (hUb : U ≤ 32) (z1 : Int32) (hq : ax_H) (hk : ∀ h2 o2, mR m (s.1, va_up s.2.1 4 (mNd0 U (s.2.1 3) (s.2.1 2) (s.2.1 4) 128), s.2.2) h2 → mFr m hq h2 → AW G x Y_M_findNeeded 3 68 h0 P h2 56 [some (.ref m), some (.int z1), some (.int o2), none, none, none, none, none] []) : ∀ r j h, j + r = 128 → mR m (s.1, va_up s.2.1 4 (mNd0 U (s.2.1 3) (s.2.1 2) (s.2.1 4) j), s.2.2) h → mFr m hq h → AW G x Y_M_findNeeded 3 68 h0 P h 2 [some (.ref m), some (.int z1), some (.int (nI j)), none, none, none, none, none] [] := by
  intro r
  induction r with
  | zero =>
    intro j h hj hR hF
    have hjj : j = 128 := by omega
    subst hjj
    refine aw_iload_n d_M_findNeeded_2 rfl rfl ?_
    refine aw_sipush (v := 128) d_M_findNeeded_3 (by decide) ?_
    refine aw_icmp_ge (tgt := 56) d_M_findNeeded_6 (by decide) (fun c6 => ?_) (fun c6 => ?_)
    · exact hk _ _ hR hF
    · exact absurd (by decide) c6
  | succ r ih =>
    intro j h hj hR hF
    have e4 : 4 * s.1 1 = nI (4 * U) := by rw [hU, show (4 : Int32) = nI 4 from rfl, pk_mul]
    have ed : nI j / 4 = nI (j / 4) := pk_div (a := j) (d := 4) (by omega) (by decide) (by decide)
    refine aw_iload_n d_M_findNeeded_2 rfl rfl ?_
    refine aw_sipush (v := 128) d_M_findNeeded_3 (by decide) ?_
    refine aw_icmp_ge (tgt := 56) d_M_findNeeded_6 (by decide) (fun c6 => ?_) (fun c6 => ?_)
    · exact absurd c6 (nI_ge (a := j) (b := 128) (by omega) (by decide))
    · first | refine aw_aload_n d_M_findNeeded_9 rfl rfl ?_ | refine aw_aload_nQ d_M_findNeeded_9 rfl rfl ?_ | refine aw_aload_nN d_M_findNeeded_9 rfl rfl ?_
      refine aM_get (by assumption) fl_M_19 (by decide) rfl d_M_findNeeded_10 ?_
      refine aw_iload_n d_M_findNeeded_13 rfl rfl ?_
      refine aw_iload_n d_M_findNeeded_14 rfl rfl ?_
      refine aw_iconst (v := 4) d_M_findNeeded_15 (by decide) ?_
      first | refine aw_aload_n d_M_findNeeded_16 rfl rfl ?_ | refine aw_aload_nQ d_M_findNeeded_16 rfl rfl ?_ | refine aw_aload_nN d_M_findNeeded_16 rfl rfl ?_
      refine aM_get (by assumption) fl_M_126 (by decide) rfl d_M_findNeeded_17 ?_
      refine aw_imul d_M_findNeeded_20 ?_
      refine aw_icmp_ge (tgt := 48) d_M_findNeeded_21 (by decide) (fun c21 => ?_) (fun c21 => ?_)
      · refine aw_iconst (v := 0) d_M_findNeeded_48 (by decide) ?_
        refine aM_zast (by assumption) (by decide) rfl rfl (show j < 128 by omega) (by decide) d_M_findNeeded_49 (fun g49 hR49 hF49 => ?_)
        refine aw_iinc (v := nI (j + 1)) d_M_findNeeded_50 rfl (ax_inc j) (by decide) rfl ?_
        refine aw_goto (tgt := 2) d_M_findNeeded_53 (by decide) ?_
        have c21 : 4 * s.1 1 ≤ nI j := c21
        rw [e4] at c21
        refine ih (j + 1) _ (by omega) ?_ (hF.tr hF49)
        have hR49 : mR m (s.1, va_up (va_up s.2.1 4 (mNd0 U (s.2.1 3) (s.2.1 2) (s.2.1 4) j)) 4 (va_up (mNd0 U (s.2.1 3) (s.2.1 2) (s.2.1 4) j) j (0 &&& 1)), s.2.2) g49 := hR49
        rw [bx_uu, show ((0 : Int32) &&& 1) = (if j < 4 * U ∧ ¬ s.2.1 3 (j / 4) = 0 ∧ ¬ s.2.1 2 j = 0 then 1 else 0) by rw [if_neg (fun q => absurd q.1 (Nat.not_lt.mpr ((nI_leI (by omega) (by omega)).mp c21)))]; rfl, mNd0_s] at hR49
        exact hR49
      · first | refine aw_aload_n d_M_findNeeded_24 rfl rfl ?_ | refine aw_aload_nQ d_M_findNeeded_24 rfl rfl ?_ | refine aw_aload_nN d_M_findNeeded_24 rfl rfl ?_
        refine aM_get (by assumption) fl_M_16 (by decide) rfl d_M_findNeeded_25 ?_
        refine aw_iload_n d_M_findNeeded_28 rfl rfl ?_
        refine aw_iconst (v := 4) d_M_findNeeded_29 (by decide) ?_
        refine aw_idiv d_M_findNeeded_30 (by decide) ?_
        refine aM_zald (by assumption) (by decide) rfl ed (show j / 4 < 32 by omega) (by decide) d_M_findNeeded_31 ?_
        refine aw_if_eq (tgt := 48) d_M_findNeeded_32 (by decide) (fun c32 => ?_) (fun c32 => ?_)
        · refine aw_iconst (v := 0) d_M_findNeeded_48 (by decide) ?_
          refine aM_zast (by assumption) (by decide) rfl rfl (show j < 128 by omega) (by decide) d_M_findNeeded_49 (fun g49 hR49 hF49 => ?_)
          refine aw_iinc (v := nI (j + 1)) d_M_findNeeded_50 rfl (ax_inc j) (by decide) rfl ?_
          refine aw_goto (tgt := 2) d_M_findNeeded_53 (by decide) ?_
          refine ih (j + 1) _ (by omega) ?_ (hF.tr hF49)
          have hR49 : mR m (s.1, va_up (va_up s.2.1 4 (mNd0 U (s.2.1 3) (s.2.1 2) (s.2.1 4) j)) 4 (va_up (mNd0 U (s.2.1 3) (s.2.1 2) (s.2.1 4) j) j (0 &&& 1)), s.2.2) g49 := hR49
          rw [bx_uu, show ((0 : Int32) &&& 1) = (if j < 4 * U ∧ ¬ s.2.1 3 (j / 4) = 0 ∧ ¬ s.2.1 2 j = 0 then 1 else 0) by rw [if_neg (fun q => q.2.1 c32)]; rfl, mNd0_s] at hR49
          exact hR49
        · first | refine aw_aload_n d_M_findNeeded_35 rfl rfl ?_ | refine aw_aload_nQ d_M_findNeeded_35 rfl rfl ?_ | refine aw_aload_nN d_M_findNeeded_35 rfl rfl ?_
          refine aM_get (by assumption) fl_M_13 (by decide) rfl d_M_findNeeded_36 ?_
          refine aw_iload_n d_M_findNeeded_39 rfl rfl ?_
          refine aM_zald (by assumption) (by decide) rfl rfl (show j < 128 by omega) (by decide) d_M_findNeeded_40 ?_
          refine aw_if_eq (tgt := 48) d_M_findNeeded_41 (by decide) (fun c41 => ?_) (fun c41 => ?_)
          · refine aw_iconst (v := 0) d_M_findNeeded_48 (by decide) ?_
            refine aM_zast (by assumption) (by decide) rfl rfl (show j < 128 by omega) (by decide) d_M_findNeeded_49 (fun g49 hR49 hF49 => ?_)
            refine aw_iinc (v := nI (j + 1)) d_M_findNeeded_50 rfl (ax_inc j) (by decide) rfl ?_
            refine aw_goto (tgt := 2) d_M_findNeeded_53 (by decide) ?_
            refine ih (j + 1) _ (by omega) ?_ (hF.tr hF49)
            have hR49 : mR m (s.1, va_up (va_up s.2.1 4 (mNd0 U (s.2.1 3) (s.2.1 2) (s.2.1 4) j)) 4 (va_up (mNd0 U (s.2.1 3) (s.2.1 2) (s.2.1 4) j) j (0 &&& 1)), s.2.2) g49 := hR49
            rw [bx_uu, show ((0 : Int32) &&& 1) = (if j < 4 * U ∧ ¬ s.2.1 3 (j / 4) = 0 ∧ ¬ s.2.1 2 j = 0 then 1 else 0) by rw [if_neg (fun q => q.2.2 c41)]; rfl, mNd0_s] at hR49
            exact hR49
          · refine aw_iconst (v := 1) d_M_findNeeded_44 (by decide) ?_
            refine aw_goto (tgt := 49) d_M_findNeeded_45 (by decide) ?_
            refine aM_zast (by assumption) (by decide) rfl rfl (show j < 128 by omega) (by decide) d_M_findNeeded_49 (fun g49 hR49 hF49 => ?_)
            refine aw_iinc (v := nI (j + 1)) d_M_findNeeded_50 rfl (ax_inc j) (by decide) rfl ?_
            refine aw_goto (tgt := 2) d_M_findNeeded_53 (by decide) ?_
            have c21 : ¬ 4 * s.1 1 ≤ nI j := c21
            rw [e4] at c21
            refine ih (j + 1) _ (by omega) ?_ (hF.tr hF49)
            have hR49 : mR m (s.1, va_up (va_up s.2.1 4 (mNd0 U (s.2.1 3) (s.2.1 2) (s.2.1 4) j)) 4 (va_up (mNd0 U (s.2.1 3) (s.2.1 2) (s.2.1 4) j) j (1 &&& 1)), s.2.2) g49 := hR49
            rw [bx_uu, show ((1 : Int32) &&& 1) = (if j < 4 * U ∧ ¬ s.2.1 3 (j / 4) = 0 ∧ ¬ s.2.1 2 j = 0 then 1 else 0) by rw [if_pos (show j < 4 * U ∧ ¬ s.2.1 3 (j / 4) = 0 ∧ ¬ s.2.1 2 j = 0 from ⟨Nat.lt_of_not_le (fun q => c21 (nI_le q (by omega))), c32, c41⟩)]; rfl, mNd0_s] at hR49
            exact hR49
end
section
abbrev iN (z : Int32) : Nat := z.toNatClampNeg
theorem i_sub2 (a b : Int32) : a - 2 - (-2 - b) = a + b := by
  rw [Int32.sub_eq_add_neg, Int32.sub_eq_add_neg, Int32.sub_eq_add_neg, Int32.neg_add, Int32.sub_eq_add_neg, Int32.neg_neg (a := b), Int32.add_assoc, ← Int32.add_assoc (-2), show (-2 + - -2 : Int32) = 0 from by decide, Int32.zero_add]
/-- the section that w waits for, as unit * 4 + section; 128 for none -/
def mTq (tk : Nat → Int32) (g : mTab) (e : Nat → Nat → Nat) (w : Nat) : Nat := if e 22 w = 0 then 128 else if e 22 w < 5 then 4 * e 17 w + (e 22 w - 1) else if mStands tk g (e 22 w - 5) < 0 then 128 else 4 * e 11 (iN (mStands tk g (e 22 w - 5))) + e 13 (iN (mStands tk g (e 22 w - 5)))
abbrev mHit2 (tq src : Nat → Nat) (w : Nat) (a : Nat → Int32) : Prop := ¬ a (src w) = 0 ∧ tq w < 128 ∧ a (tq w) = 0
def mPassL (tq src : Nat → Nat) : Nat → Nat → (Nat → Int32) × Int32 → (Nat → Int32) × Int32
  | 0, _, a => a
  | r + 1, w, a => mPassL tq src r (w + 1) (if mHit2 tq src w a.1 then (va_up a.1 (tq w) 1, 1) else a)
def mTurns (tq src : Nat → Nat) (W : Nat) : Nat → (Nat → Int32) → (Nat → Int32)
  | 0, a => a
  | t + 1, a => if (mPassL tq src W 0 (a, 0)).2 = 0 then (mPassL tq src W 0 (a, 0)).1 else mTurns tq src W t (mPassL tq src W 0 (a, 0)).1
abbrev mSrc (e : Nat → Nat → Nat) (w : Nat) : Nat := 4 * e 17 w + e 18 w
abbrev mNd (s : mSt) (a : Nat → Int32) : mSt := (s.1, va_up s.2.1 4 a, s.2.2)
theorem c_M_standsForE (G : ax_G) (h : ax_H) (m : Nat) (s : mSt) (hR : mR m s h) (e : Nat → Nat → Nat) (U S : Nat) (hUb : U ≤ 32) (hS : s.1 2 = nI S) (hSb : S ≤ 2048) (hI : mI2 s e U S) (k : Nat) (hk : k < S) (z : Int32) (hz : z = nI k) : AM G Y_M_standsFor 2 46 [.ref m, .int z] h (fun v h2 => h2 = h ∧ v = some (.int (mStands (s.2.1 3) (mT s e S) k))) := by
  subst hz
  exact c_M_standsFor G h m s hR e U S hUb hS hSb hI k hk
theorem mUs {A : Type} (f : Nat → A) (k : Nat) : va_up f k (f k) = f := by
  funext u
  by_cases h : u = k
  · rw [h, va_up_self]
  · rw [va_up_ne _ _ h]
theorem i_m1 {k : Nat} (h : k < 2 ^ 31) : ¬ nI k = -1 := fun q => absurd (nI_pos' h) (by rw [q]; decide)
theorem i_m2 {c : Nat} (h : c < 4) : ¬ (-2 - nI c : Int32) = -1 := by
  match c, h with
  | 0, _ => decide
  | 1, _ => decide
  | 2, _ => decide
  | 3, _ => decide
theorem i_m3 {c : Nat} (h : c < 4) : ¬ 0 ≤ (-2 - nI c : Int32) := by
  match c, h with
  | 0, _ => decide
  | 1, _ => decide
  | 2, _ => decide
  | 3, _ => decide
theorem i_p1 {k : Nat} {z : Int32} (h : k < 2 ^ 31) (hz : z = nI k) : 0 ≤ z := hz ▸ nI_pos' h
set_option maxRecDepth 20000 in
theorem t_M_pass {G : ax_G} {x : ax_X} {h0 : ax_H} {P : Option Value → ax_H → Prop} {m : Nat} (s : mSt) (z1 z2 n : Int32) (w : Nat) (o5 o6 : Option Value) (a : Nat → Int32) (tq : Nat) (z7 : Int32) (hz : (z7 = -1 ∧ ¬ tq < 128) ∨ (z7 = nI tq ∧ tq < 128)) (h : ax_H) (hR : mR m (mNd s a) h) (k0 : ¬ (tq < 128 ∧ a tq = 0) → AW G x Y_M_findNeeded 3 68 h0 P h 253 [some (.ref m), some (.int z1), some (.int z2), some (.int n), some (.int (nI w)), o5, o6, some (.int z7)] []) (k1 : tq < 128 ∧ a tq = 0 → ∀ h2, mR m (mNd s (va_up a tq 1)) h2 → mFr m h h2 → AW G x Y_M_findNeeded 3 68 h0 P h2 253 [some (.ref m), some (.int z1), some (.int z2), some (.int 1), some (.int (nI w)), o5, o6, some (.int z7)] []) : AW G x Y_M_findNeeded 3 68 h0 P h 225 [some (.ref m), some (.int z1), some (.int z2), some (.int n), some (.int (nI w)), o5, o6, some (.int z7)] [] := by
  rcases hz with ⟨rfl, hz⟩ | ⟨rfl, hz⟩
  ·
    refine aw_iload d_M_findNeeded_225 rfl ?_
    refine aw_if_lt (tgt := 253) d_M_findNeeded_227 (by decide) (fun c227 => ?_) (fun c227 => ?_)
    · exact k0 (fun q => hz q.1)
    · exact absurd (by decide) c227
  ·
    refine aw_iload d_M_findNeeded_225 rfl ?_
    refine aw_if_lt (tgt := 253) d_M_findNeeded_227 (by decide) (fun c227 => ?_) (fun c227 => ?_)
    · exact absurd c227 (nI_pos (by omega))
    · first | refine aw_aload_n d_M_findNeeded_230 rfl rfl ?_ | refine aw_aload_nQ d_M_findNeeded_230 rfl rfl ?_ | refine aw_aload_nN d_M_findNeeded_230 rfl rfl ?_
      refine aM_get (by assumption) fl_M_19 (by decide) rfl d_M_findNeeded_231 ?_
      refine aw_iload d_M_findNeeded_234 rfl ?_
      refine aM_zald (by assumption) (by decide) rfl rfl hz (by decide) d_M_findNeeded_236 ?_
      refine aw_if_eq (tgt := 243) d_M_findNeeded_237 (by decide) (fun c237 => ?_) (fun c237 => ?_)
      · first | refine aw_aload_n d_M_findNeeded_243 rfl rfl ?_ | refine aw_aload_nQ d_M_findNeeded_243 rfl rfl ?_ | refine aw_aload_nN d_M_findNeeded_243 rfl rfl ?_
        refine aM_get (by assumption) fl_M_19 (by decide) rfl d_M_findNeeded_244 ?_
        refine aw_iload d_M_findNeeded_247 rfl ?_
        refine aw_iconst (v := 1) d_M_findNeeded_249 (by decide) ?_
        refine aM_zast (by assumption) (by decide) rfl rfl hz (by decide) d_M_findNeeded_250 (fun g250 hR250 hF250 => ?_)
        refine aw_iconst (v := 1) d_M_findNeeded_251 (by decide) ?_
        refine aw_istore_n d_M_findNeeded_252 rfl (by decide) rfl ?_
        refine k1 ⟨hz, c237⟩ _ ?_ hF250
        have hR250 : mR m (s.1, va_up (va_up s.2.1 4 a) 4 (va_up a tq (1 &&& 1)), s.2.2) g250 := hR250
        rw [bx_uu] at hR250
        exact hR250
      · refine aw_goto (tgt := 253) d_M_findNeeded_240 (by decide) ?_
        exact k0 (fun q => c237 q.2)
set_option maxRecDepth 20000 in
theorem l_M_pass {G : ax_G} {x : ax_X} {h0 : ax_H} {P : Option Value → ax_H → Prop} {m : Nat} (s : mSt) (e : Nat → Nat → Nat) (U S W : Nat) (hU : s.1 1 = nI U) (hUb : U ≤ 32) (hS : s.1 2 = nI S) (hSb : S ≤ 2048) (hW : s.1 3 = nI W) (hWb : W ≤ 4096) (hI : mI2 s e U S) (hI3 : mI3 s e S) (hI4 : mI4 s e U S W) (z1 z2 : Int32) (hq : ax_H) (R : (Nat → Int32) × Int32) (hk : ∀ h2 o4 o5 o6 o7, mR m (mNd s R.1) h2 → mFr m hq h2 → AW G x Y_M_findNeeded 3 68 h0 P h2 259 [some (.ref m), some (.int z1), some (.int z2), some (.int R.2), o4, o5, o6, o7] []) : ∀ r w (a : (Nat → Int32) × Int32) o5 o6 o7 h, w + r = W → mR m (mNd s a.1) h → mFr m hq h → mPassL (mTq (s.2.1 3) (mT s e S) e) (mSrc e) r w a = R → AW G x Y_M_findNeeded 3 68 h0 P h 91 [some (.ref m), some (.int z1), some (.int z2), some (.int a.2), some (.int (nI w)), o5, o6, o7] [] := by
  intro r
  induction r with
  | zero =>
    intro w a o5 o6 o7 h hw hR hF he
    have hww : w = W := by omega
    subst hww
    have he : a = R := he
    subst he
    refine aw_iload d_M_findNeeded_91 rfl ?_
    first | refine aw_aload_n d_M_findNeeded_93 rfl rfl ?_ | refine aw_aload_nQ d_M_findNeeded_93 rfl rfl ?_ | refine aw_aload_nN d_M_findNeeded_93 rfl rfl ?_
    refine aM_get (by assumption) fl_M_132 (by decide) rfl d_M_findNeeded_94 ?_
    refine aw_icmp_ge (tgt := 259) d_M_findNeeded_97 (by decide) (fun c97 => ?_) (fun c97 => ?_)
    · exact hk _ _ _ _ _ hR hF
    · exact absurd (show s.1 3 ≤ nI w by rw [hW]; exact nI_le (Nat.le_refl _) (by omega)) c97
  | succ r ih =>
    intro w a o5 o6 o7 h hw hR hF he
    obtain ⟨⟨u1, u2⟩, ⟨v1, v2⟩, hwt⟩ := hI4 w (by omega)
    have ks : w < 4096 := by omega
    have i1 : 4 * s.2.1 17 w + s.2.1 18 w = nI (mSrc e w) := by rw [u1, v1, show (4 : Int32) = nI 4 from rfl, pk_mul, nI_add]
    rw [mPassL] at he
    refine aw_iload d_M_findNeeded_91 rfl ?_
    first | refine aw_aload_n d_M_findNeeded_93 rfl rfl ?_ | refine aw_aload_nQ d_M_findNeeded_93 rfl rfl ?_ | refine aw_aload_nN d_M_findNeeded_93 rfl rfl ?_
    refine aM_get (by assumption) fl_M_132 (by decide) rfl d_M_findNeeded_94 ?_
    refine aw_icmp_ge (tgt := 259) d_M_findNeeded_97 (by decide) (fun c97 => ?_) (fun c97 => ?_)
    · exact absurd c97 (by rw [show s.1 3 = nI W from hW]; exact nI_ge (by omega) (by omega))
    · first | refine aw_aload_n d_M_findNeeded_100 rfl rfl ?_ | refine aw_aload_nQ d_M_findNeeded_100 rfl rfl ?_ | refine aw_aload_nN d_M_findNeeded_100 rfl rfl ?_
      refine aM_get (by assumption) fl_M_62 (by decide) rfl d_M_findNeeded_101 ?_
      refine aw_iload d_M_findNeeded_104 rfl ?_
      refine aM_iald (by assumption) (by decide) rfl rfl (show w < 4096 from ks) (by decide) d_M_findNeeded_106 ?_
      refine aw_istore d_M_findNeeded_107 (by decide) rfl ?_
      first | refine aw_aload_n d_M_findNeeded_109 rfl rfl ?_ | refine aw_aload_nQ d_M_findNeeded_109 rfl rfl ?_ | refine aw_aload_nN d_M_findNeeded_109 rfl rfl ?_
      refine aM_get (by assumption) fl_M_19 (by decide) rfl d_M_findNeeded_110 ?_
      refine aw_iconst (v := 4) d_M_findNeeded_113 (by decide) ?_
      refine aw_iload d_M_findNeeded_114 rfl ?_
      refine aw_imul d_M_findNeeded_116 ?_
      first | refine aw_aload_n d_M_findNeeded_117 rfl rfl ?_ | refine aw_aload_nQ d_M_findNeeded_117 rfl rfl ?_ | refine aw_aload_nN d_M_findNeeded_117 rfl rfl ?_
      refine aM_get (by assumption) fl_M_65 (by decide) rfl d_M_findNeeded_118 ?_
      refine aw_iload d_M_findNeeded_121 rfl ?_
      refine aM_iald (by assumption) (by decide) rfl rfl (show w < 4096 from ks) (by decide) d_M_findNeeded_123 ?_
      refine aw_iadd d_M_findNeeded_124 ?_
      refine aM_zald (by assumption) (by decide) rfl i1 (show 4 * e 17 w + e 18 w < 128 by omega) (by decide) d_M_findNeeded_125 ?_
      refine aw_if_eq (tgt := 253) d_M_findNeeded_126 (by decide) (fun c126 => ?_) (fun c126 => ?_)
      · refine aw_iinc (v := nI (w + 1)) d_M_findNeeded_253 rfl (ax_inc w) (by decide) rfl ?_
        refine aw_goto (tgt := 91) d_M_findNeeded_256 (by decide) ?_
        rw [if_neg (fun q : mHit2 (mTq (s.2.1 3) (mT s e S) e) (mSrc e) w a.1 => q.1 c126)] at he
        exact ih (w + 1) a _ _ _ _ (by omega) hR hF he
      · first | refine aw_aload_n d_M_findNeeded_129 rfl rfl ?_ | refine aw_aload_nQ d_M_findNeeded_129 rfl rfl ?_ | refine aw_aload_nN d_M_findNeeded_129 rfl rfl ?_
        refine aM_get (by assumption) fl_M_77 (by decide) rfl d_M_findNeeded_130 ?_
        refine aw_iload d_M_findNeeded_133 rfl ?_
        refine aM_iald (by assumption) (by decide) rfl rfl (show w < 4096 from ks) (by decide) d_M_findNeeded_135 ?_
        refine aw_iconst (v := (-1)) d_M_findNeeded_136 (by decide) ?_
        refine aw_icmp_ne (tgt := 143) d_M_findNeeded_137 (by decide) (fun c137 => ?_) (fun c137 => ?_)
        · first | refine aw_aload_n d_M_findNeeded_143 rfl rfl ?_ | refine aw_aload_nQ d_M_findNeeded_143 rfl rfl ?_ | refine aw_aload_nN d_M_findNeeded_143 rfl rfl ?_
          refine aM_get (by assumption) fl_M_77 (by decide) rfl d_M_findNeeded_144 ?_
          refine aw_iload d_M_findNeeded_147 rfl ?_
          refine aM_iald (by assumption) (by decide) rfl rfl (show w < 4096 from ks) (by decide) d_M_findNeeded_149 ?_
          refine aw_if_ge (tgt := 157) d_M_findNeeded_150 (by decide) (fun c150 => ?_) (fun c150 => ?_)
          · obtain ⟨k, h1, h2, h3⟩ : ∃ k, k < S ∧ e 22 w = k + 5 ∧ s.2.1 22 w = nI k := (hwt.resolve_left (fun q => c137 q.2)).resolve_left (fun ⟨c, q1, _, q3⟩ => i_m3 q1 (q3 ▸ c150))
            first | refine aw_aload_n d_M_findNeeded_157 rfl rfl ?_ | refine aw_aload_nQ d_M_findNeeded_157 rfl rfl ?_ | refine aw_aload_nN d_M_findNeeded_157 rfl rfl ?_
            first | refine aw_aload_n d_M_findNeeded_158 rfl rfl ?_ | refine aw_aload_nQ d_M_findNeeded_158 rfl rfl ?_ | refine aw_aload_nN d_M_findNeeded_158 rfl rfl ?_
            refine aM_get (by assumption) fl_M_77 (by decide) rfl d_M_findNeeded_159 ?_
            refine aw_iload d_M_findNeeded_162 rfl ?_
            refine aM_iald (by assumption) (by decide) rfl rfl (show w < 4096 from ks) (by decide) d_M_findNeeded_164 ?_
            refine aw_callV (c_M_standsForE G _ m _ hR e U S hUb hS hSb hI k h1 _ h3) cl_M (mR.obj (by assumption)) m_M_standsFor ml_M_188 rfl rfl (by decide) (by decide) (Nat.le_of_ble_eq_true rfl) d_M_findNeeded_165 ?_
            rintro v h' ⟨rfl, rfl⟩
            refine aw_istore d_M_findNeeded_168 (by decide) rfl ?_
            first | refine aw_aload_n d_M_findNeeded_170 rfl rfl ?_ | refine aw_aload_nQ d_M_findNeeded_170 rfl rfl ?_ | refine aw_aload_nN d_M_findNeeded_170 rfl rfl ?_
            refine aM_get (by assumption) fl_M_77 (by decide) rfl d_M_findNeeded_171 ?_
            refine aw_iload d_M_findNeeded_174 rfl ?_
            refine aM_iald (by assumption) (by decide) rfl rfl (show w < 4096 from ks) (by decide) d_M_findNeeded_176 ?_
            refine aw_if_ge (tgt := 197) d_M_findNeeded_177 (by decide) (fun c177 => ?_) (fun c177 => ?_)
            · refine aw_iload d_M_findNeeded_197 rfl ?_
              refine aw_if_ge (tgt := 206) d_M_findNeeded_199 (by decide) (fun c199 => ?_) (fun c199 => ?_)
              · obtain ⟨j, j1, j2, j3⟩ := (mStands_lab (s.2.1 3) (mT s e S) k h1).resolve_left (fun q => absurd c199 (Int32.not_le.mpr q.1))
                obtain ⟨y1, y2⟩ := hI j j1
                obtain ⟨y3, y4⟩ := hI3.lab j1 j3
                have jb : j < 2048 := Nat.lt_of_lt_of_le j1 hSb
                have ev : 4 * s.2.1 11 j + s.2.1 13 j = nI (4 * e 11 j + e 13 j) := by rw [y1, y4, show (4 : Int32) = nI 4 from rfl, pk_mul, nI_add]
                refine aw_iconst (v := 4) d_M_findNeeded_206 (by decide) ?_
                first | refine aw_aload_n d_M_findNeeded_207 rfl rfl ?_ | refine aw_aload_nQ d_M_findNeeded_207 rfl rfl ?_ | refine aw_aload_nN d_M_findNeeded_207 rfl rfl ?_
                refine aM_get (by assumption) fl_M_44 (by decide) rfl d_M_findNeeded_208 ?_
                refine aw_iload d_M_findNeeded_211 rfl ?_
                refine aM_iald (by assumption) (by decide) rfl j2 jb (by decide) d_M_findNeeded_213 ?_
                refine aw_imul d_M_findNeeded_214 ?_
                first | refine aw_aload_n d_M_findNeeded_215 rfl rfl ?_ | refine aw_aload_nQ d_M_findNeeded_215 rfl rfl ?_ | refine aw_aload_nN d_M_findNeeded_215 rfl rfl ?_
                refine aM_get (by assumption) fl_M_50 (by decide) rfl d_M_findNeeded_216 ?_
                refine aw_iload d_M_findNeeded_219 rfl ?_
                refine aM_iald (by assumption) (by decide) rfl j2 jb (by decide) d_M_findNeeded_221 ?_
                refine aw_iadd d_M_findNeeded_222 ?_
                refine aw_istore d_M_findNeeded_223 (by decide) rfl ?_
                have eq : mTq (s.2.1 3) (mT s e S) e w = 4 * e 11 j + e 13 j := by rw [mTq, h2, if_neg (by omega), if_neg (by omega)]; exact (if_neg (Int32.not_lt.mpr c199)).trans (by rw [show k + 5 - 5 = k from rfl, j2, iN, nI_clamp (by omega)])
                refine t_M_pass s z1 z2 a.2 w _ _ a.1 (mTq (s.2.1 3) (mT s e S) e w) _ (Or.inr ⟨ev.trans (congrArg nI eq.symm), by rw [eq]; omega⟩) _ hR (fun k0 => ?_) (fun k1 h2 hR2 hF2 => ?_)
                · refine aw_iinc (v := nI (w + 1)) d_M_findNeeded_253 rfl (ax_inc w) (by decide) rfl ?_
                  refine aw_goto (tgt := 91) d_M_findNeeded_256 (by decide) ?_
                  rw [if_neg (fun q : mHit2 (mTq (s.2.1 3) (mT s e S) e) (mSrc e) w a.1 => k0 ⟨q.2.1, q.2.2⟩)] at he
                  exact ih (w + 1) a _ _ _ _ (by omega) hR hF he
                · refine aw_iinc (v := nI (w + 1)) d_M_findNeeded_253 rfl (ax_inc w) (by decide) rfl ?_
                  refine aw_goto (tgt := 91) d_M_findNeeded_256 (by decide) ?_
                  rw [if_pos (show mHit2 (mTq (s.2.1 3) (mT s e S) e) (mSrc e) w a.1 from ⟨c126, k1⟩)] at he
                  exact ih (w + 1) _ _ _ _ _ (by omega) hR2 (hF.tr hF2) he
              · refine aw_iconst (v := (-1)) d_M_findNeeded_202 (by decide) ?_
                refine aw_goto (tgt := 223) d_M_findNeeded_203 (by decide) ?_
                refine aw_istore d_M_findNeeded_223 (by decide) rfl ?_
                have eq : mTq (s.2.1 3) (mT s e S) e w = 128 := by rw [mTq, h2, if_neg (by omega), if_neg (by omega)]; exact if_pos (Int32.not_le.mp c199)
                refine t_M_pass s z1 z2 a.2 w _ _ a.1 (mTq (s.2.1 3) (mT s e S) e w) _ (Or.inl ⟨rfl, by rw [eq]; decide⟩) _ hR (fun k0 => ?_) (fun k1 h2 hR2 hF2 => ?_)
                · refine aw_iinc (v := nI (w + 1)) d_M_findNeeded_253 rfl (ax_inc w) (by decide) rfl ?_
                  refine aw_goto (tgt := 91) d_M_findNeeded_256 (by decide) ?_
                  rw [if_neg (fun q : mHit2 (mTq (s.2.1 3) (mT s e S) e) (mSrc e) w a.1 => k0 ⟨q.2.1, q.2.2⟩)] at he
                  exact ih (w + 1) a _ _ _ _ (by omega) hR hF he
                · refine aw_iinc (v := nI (w + 1)) d_M_findNeeded_253 rfl (ax_inc w) (by decide) rfl ?_
                  refine aw_goto (tgt := 91) d_M_findNeeded_256 (by decide) ?_
                  rw [if_pos (show mHit2 (mTq (s.2.1 3) (mT s e S) e) (mSrc e) w a.1 from ⟨c126, k1⟩)] at he
                  exact ih (w + 1) _ _ _ _ _ (by omega) hR2 (hF.tr hF2) he
            · exact absurd c150 c177
          · refine aw_iconst (v := (-1)) d_M_findNeeded_153 (by decide) ?_
            refine aw_goto (tgt := 168) d_M_findNeeded_154 (by decide) ?_
            refine aw_istore d_M_findNeeded_168 (by decide) rfl ?_
            first | refine aw_aload_n d_M_findNeeded_170 rfl rfl ?_ | refine aw_aload_nQ d_M_findNeeded_170 rfl rfl ?_ | refine aw_aload_nN d_M_findNeeded_170 rfl rfl ?_
            refine aM_get (by assumption) fl_M_77 (by decide) rfl d_M_findNeeded_171 ?_
            refine aw_iload d_M_findNeeded_174 rfl ?_
            refine aM_iald (by assumption) (by decide) rfl rfl (show w < 4096 from ks) (by decide) d_M_findNeeded_176 ?_
            refine aw_if_ge (tgt := 197) d_M_findNeeded_177 (by decide) (fun c177 => ?_) (fun c177 => ?_)
            · exact absurd c177 c150
            · refine aw_iconst (v := 4) d_M_findNeeded_180 (by decide) ?_
              refine aw_iload d_M_findNeeded_181 rfl ?_
              refine aw_imul d_M_findNeeded_183 ?_
              refine aw_iconst (v := 2) d_M_findNeeded_184 (by decide) ?_
              refine aw_isub d_M_findNeeded_185 ?_
              first | refine aw_aload_n d_M_findNeeded_186 rfl rfl ?_ | refine aw_aload_nQ d_M_findNeeded_186 rfl rfl ?_ | refine aw_aload_nN d_M_findNeeded_186 rfl rfl ?_
              refine aM_get (by assumption) fl_M_77 (by decide) rfl d_M_findNeeded_187 ?_
              refine aw_iload d_M_findNeeded_190 rfl ?_
              refine aM_iald (by assumption) (by decide) rfl rfl (show w < 4096 from ks) (by decide) d_M_findNeeded_192 ?_
              refine aw_isub d_M_findNeeded_193 ?_
              refine aw_goto (tgt := 223) d_M_findNeeded_194 (by decide) ?_
              refine aw_istore d_M_findNeeded_223 (by decide) rfl ?_
              obtain ⟨c, h1, h2, h3⟩ : ∃ c, c < 4 ∧ e 22 w = c + 1 ∧ s.2.1 22 w = -2 - nI c := (hwt.resolve_left (fun q => c137 q.2)).resolve_right (fun ⟨k, q1, _, q3⟩ => c177 (i_p1 (by omega) q3))
              have eq : mTq (s.2.1 3) (mT s e S) e w = 4 * e 17 w + c := by rw [mTq, if_neg (by omega), if_pos (by omega), h2]; rfl
              have ev : 4 * s.2.1 17 w - 2 - s.2.1 22 w = nI (mTq (s.2.1 3) (mT s e S) e w) := by rw [h3, i_sub2, u1, eq, show (4 : Int32) = nI 4 from rfl, pk_mul, nI_add]
              refine t_M_pass s z1 z2 a.2 w _ _ a.1 (mTq (s.2.1 3) (mT s e S) e w) _ (Or.inr ⟨ev, by rw [eq]; omega⟩) _ hR (fun k0 => ?_) (fun k1 h2 hR2 hF2 => ?_)
              · refine aw_iinc (v := nI (w + 1)) d_M_findNeeded_253 rfl (ax_inc w) (by decide) rfl ?_
                refine aw_goto (tgt := 91) d_M_findNeeded_256 (by decide) ?_
                rw [if_neg (fun q : mHit2 (mTq (s.2.1 3) (mT s e S) e) (mSrc e) w a.1 => k0 ⟨q.2.1, q.2.2⟩)] at he
                exact ih (w + 1) a _ _ _ _ (by omega) hR hF he
              · refine aw_iinc (v := nI (w + 1)) d_M_findNeeded_253 rfl (ax_inc w) (by decide) rfl ?_
                refine aw_goto (tgt := 91) d_M_findNeeded_256 (by decide) ?_
                rw [if_pos (show mHit2 (mTq (s.2.1 3) (mT s e S) e) (mSrc e) w a.1 from ⟨c126, k1⟩)] at he
                exact ih (w + 1) _ _ _ _ _ (by omega) hR2 (hF.tr hF2) he
        · refine aw_goto (tgt := 253) d_M_findNeeded_140 (by decide) ?_
          have e0 : e 22 w = 0 := by
            rcases hwt with h1 | ⟨c, h1, h2, h3⟩ | ⟨k, h1, h2, h3⟩
            · exact h1.1
            · exact absurd (h3.symm.trans c137) (i_m2 h1)
            · exact absurd (h3.symm.trans c137) (i_m1 (by omega))
          refine aw_iinc (v := nI (w + 1)) d_M_findNeeded_253 rfl (ax_inc w) (by decide) rfl ?_
          refine aw_goto (tgt := 91) d_M_findNeeded_256 (by decide) ?_
          rw [if_neg (fun q : mHit2 (mTq (s.2.1 3) (mT s e S) e) (mSrc e) w a.1 => absurd q.2.1 (by rw [mTq, if_pos e0]; decide))] at he
          exact ih (w + 1) a _ _ _ _ (by omega) hR hF he
set_option maxRecDepth 20000 in
theorem l_M_turns {G : ax_G} {x : ax_X} {h0 : ax_H} {P : Option Value → ax_H → Prop} {m : Nat} (s : mSt) (e : Nat → Nat → Nat) (U S W : Nat) (hU : s.1 1 = nI U) (hUb : U ≤ 32) (hS : s.1 2 = nI S) (hSb : S ≤ 2048) (hW : s.1 3 = nI W) (hWb : W ≤ 4096) (hI : mI2 s e U S) (hI3 : mI3 s e S) (hI4 : mI4 s e U S W) (z1 : Int32) (hq : ax_H) (R : Nat → Int32) (hk : ∀ h2, mR m (mNd s R) h2 → mFr m hq h2 → P none h2) : ∀ r t (a : Nat → Int32) o3 o4 o5 o6 o7 h, t + r = 129 → mR m (mNd s a) h → mFr m hq h → mTurns (mTq (s.2.1 3) (mT s e S) e) (mSrc e) W r a = R → AW G x Y_M_findNeeded 3 68 h0 P h 79 [some (.ref m), some (.int z1), some (.int (nI t)), o3, o4, o5, o6, o7] [] := by
  intro r
  induction r with
  | zero =>
    intro t a o3 o4 o5 o6 o7 h ht hR hF he
    have htt : t = 129 := by omega
    subst htt
    have he : a = R := he
    subst he
    refine aw_iload_n d_M_findNeeded_79 rfl rfl ?_
    refine aw_sipush (v := 129) d_M_findNeeded_80 (by decide) ?_
    refine aw_icmp_ge (tgt := 270) d_M_findNeeded_83 (by decide) (fun c83 => ?_) (fun c83 => ?_)
    · refine aw_vret ?_ rfl d_M_findNeeded_270
      exact hk _ hR hF
    · exact absurd (by decide) c83
  | succ r ih =>
    intro t a o3 o4 o5 o6 o7 h ht hR hF he
    rw [mTurns] at he
    refine aw_iload_n d_M_findNeeded_79 rfl rfl ?_
    refine aw_sipush (v := 129) d_M_findNeeded_80 (by decide) ?_
    refine aw_icmp_ge (tgt := 270) d_M_findNeeded_83 (by decide) (fun c83 => ?_) (fun c83 => ?_)
    · exact absurd c83 (nI_ge (a := t) (b := 129) (by omega) (by decide))
    · refine aw_iconst (v := 0) d_M_findNeeded_86 (by decide) ?_
      refine aw_istore_n d_M_findNeeded_87 rfl (by decide) rfl ?_
      refine aw_iconst (v := 0) d_M_findNeeded_88 (by decide) ?_
      refine aw_istore d_M_findNeeded_89 (by decide) rfl ?_
      refine l_M_pass s e U S W hU hUb hS hSb hW hWb hI hI3 hI4 z1 (nI t) hq _ (fun h2 o4 o5 o6 o7 hR2 hF2 => ?_) W 0 (a, 0) _ _ _ _ (by omega) hR hF rfl
      refine aw_iload_n d_M_findNeeded_259 rfl rfl ?_
      refine aw_if_ne (tgt := 264) d_M_findNeeded_260 (by decide) (fun c260 => ?_) (fun c260 => ?_)
      · refine aw_iinc (v := nI (t + 1)) d_M_findNeeded_264 rfl (ax_inc t) (by decide) rfl ?_
        refine aw_goto (tgt := 79) d_M_findNeeded_267 (by decide) ?_
        rw [if_neg c260] at he
        exact ih (t + 1) _ _ _ _ _ _ _ (by omega) hR2 hF2 he
      · refine aw_vret ?_ rfl d_M_findNeeded_263
        rw [if_pos c260] at he
        rw [he] at hR2
        exact hk _ hR2 hF2
/-- what is needed -/
def mNeed (s : mSt) (e : Nat → Nat → Nat) (U S W E : Nat) : Nat → Int32 := mTurns (mTq (s.2.1 3) (mT s e S) e) (mSrc e) W 129 (va_up (mNd0 U (s.2.1 3) (s.2.1 2) (s.2.1 4) 128) (4 * e 11 E + e 13 E) 1)
set_option maxRecDepth 20000 in
theorem c_M_findNeeded (G : ax_G) (h : ax_H) (m : Nat) (s : mSt) (hR : mR m s h) (e : Nat → Nat → Nat) (U S W : Nat) (hU : s.1 1 = nI U) (hUb : U ≤ 32) (hS : s.1 2 = nI S) (hSb : S ≤ 2048) (hW : s.1 3 = nI W) (hWb : W ≤ 4096) (hI : mI2 s e U S) (hI3 : mI3 s e S) (hI4 : mI4 s e U S W) (E : Nat) (hE : E < S) (hE0 : 0 ≤ s.2.1 13 E) : AM G Y_M_findNeeded 3 68 [.ref m, .int (nI E)] h (fun v h2 => v = none ∧ mR m (mNd s (mNeed s e U S W E)) h2 ∧ mFr m h h2) := by
  refine aw_enter (by decide) (Nat.le_of_ble_eq_true rfl) (n := 6) (ls := [some (.ref m), some (.int (nI E)), none, none, none, none, none, none]) rfl (fun x => ?_)
  refine aw_iconst (v := 0) d_M_findNeeded_0 (by decide) ?_
  refine aw_istore_n d_M_findNeeded_1 rfl (by decide) rfl ?_
  refine l_M_need0 s U hU hUb (nI E) h (fun h2 o2 hR2 hF2 => ?_) 128 0 _ (by omega) (by rw [mNd0_0, mUs]; exact hR) (mFr.rf m h)
  obtain ⟨y1, y2⟩ := hI E hE
  obtain ⟨y3, y4⟩ := hI3.lab hE hE0
  have ev : 4 * s.2.1 11 E + s.2.1 13 E = nI (4 * e 11 E + e 13 E) := by rw [y1, y4, show (4 : Int32) = nI 4 from rfl, pk_mul, nI_add]
  first | refine aw_aload_n d_M_findNeeded_56 rfl rfl ?_ | refine aw_aload_nQ d_M_findNeeded_56 rfl rfl ?_ | refine aw_aload_nN d_M_findNeeded_56 rfl rfl ?_
  refine aM_get (by assumption) fl_M_19 (by decide) rfl d_M_findNeeded_57 ?_
  refine aw_iconst (v := 4) d_M_findNeeded_60 (by decide) ?_
  first | refine aw_aload_n d_M_findNeeded_61 rfl rfl ?_ | refine aw_aload_nQ d_M_findNeeded_61 rfl rfl ?_ | refine aw_aload_nN d_M_findNeeded_61 rfl rfl ?_
  refine aM_get (by assumption) fl_M_44 (by decide) rfl d_M_findNeeded_62 ?_
  refine aw_iload_n d_M_findNeeded_65 rfl rfl ?_
  refine aM_iald (by assumption) (by decide) rfl rfl (show E < 2048 by omega) (by decide) d_M_findNeeded_66 ?_
  refine aw_imul d_M_findNeeded_67 ?_
  first | refine aw_aload_n d_M_findNeeded_68 rfl rfl ?_ | refine aw_aload_nQ d_M_findNeeded_68 rfl rfl ?_ | refine aw_aload_nN d_M_findNeeded_68 rfl rfl ?_
  refine aM_get (by assumption) fl_M_50 (by decide) rfl d_M_findNeeded_69 ?_
  refine aw_iload_n d_M_findNeeded_72 rfl rfl ?_
  refine aM_iald (by assumption) (by decide) rfl rfl (show E < 2048 by omega) (by decide) d_M_findNeeded_73 ?_
  refine aw_iadd d_M_findNeeded_74 ?_
  refine aw_iconst (v := 1) d_M_findNeeded_75 (by decide) ?_
  refine aM_zast (by assumption) (by decide) rfl ev (show 4 * e 11 E + e 13 E < 128 by omega) (by decide) d_M_findNeeded_76 (fun g76 hR76 hF76 => ?_)
  refine aw_iconst (v := 0) d_M_findNeeded_77 (by decide) ?_
  refine aw_istore_n d_M_findNeeded_78 rfl (by decide) rfl ?_
  refine l_M_turns s e U S W hU hUb hS hSb hW hWb hI hI3 hI4 (nI E) h _ (fun h3 hR3 hF3 => ⟨rfl, hR3, hF3⟩) 129 0 (va_up (mNd0 U (s.2.1 3) (s.2.1 2) (s.2.1 4) 128) (4 * e 11 E + e 13 E) 1) _ _ _ _ _ _ (by omega) ?_ (hF2.tr hF76) rfl
  have hR76 : mR m (s.1, va_up (va_up s.2.1 4 (mNd0 U (s.2.1 3) (s.2.1 2) (s.2.1 4) 128)) 4 (va_up (mNd0 U (s.2.1 3) (s.2.1 2) (s.2.1 4) 128) (4 * e 11 E + e 13 E) (1 &&& 1)), s.2.2) g76 := hR76
  rw [bx_uu] at hR76
  exact hR76
end
section
/-- place so far, end, places -/
abbrev mLy : Type := Int32 × Int32 × (Nat → Int32)
abbrev mUp16 (a : Int32) : Int32 := (a + 15) &&& (-16)
abbrev mUp4k (a : Int32) : Int32 := (a + 4095) &&& (-4096)
def mLayL (sz nd : Nat → Int32) (c : Nat) : Nat → Nat → mLy → mLy
  | 0, _, L => L
  | r + 1, u, L => mLayL sz nd c r (u + 1) (if nd (4 * u + c) = 0 then L else (mUp16 L.1 + sz (4 * u + c), mUp16 L.1 + sz (4 * u + c), va_up L.2.2 (4 * u + c) (mUp16 L.1)))
def mLay1 (sz nd ad : Nat → Int32) (U : Nat) : mLy := mLayL sz nd 0 U 0 (0, 0, ad)
def mLay2 (sz nd ad : Nat → Int32) (U : Nat) : mLy := mLayL sz nd 1 U 0 (mUp4k (mLay1 sz nd ad U).1, (mLay1 sz nd ad U).2)
def mLay3 (sz nd ad : Nat → Int32) (U : Nat) : mLy := mLayL sz nd 2 U 0 (mUp4k (mLay2 sz nd ad U).1, (mLay2 sz nd ad U).2)
def mLay4 (sz nd ad : Nat → Int32) (U : Nat) : mLy := mLayL sz nd 3 U 0 (mLay3 sz nd ad U)
abbrev mLz (s : mSt) (p : Nat → Int32) (L : mLy) : mSt := (va_up s.1 39 L.2.1, va_up (va_up s.2.1 30 p) 7 L.2.2, s.2.2)
theorem mLz_p {m : Nat} {s : mSt} {p q : Nat → Int32} {L : mLy} {h : ax_H} (hR : mR m ((mLz s p L).1, va_up (mLz s p L).2.1 30 q, (mLz s p L).2.2) h) : mR m (mLz s q L) h := by
  have e : va_up (va_up (va_up s.2.1 30 p) 7 L.2.2) 30 q = va_up (va_up s.2.1 30 q) 7 L.2.2 := by
    funext u
    by_cases h1 : u = 30
    · subst h1
      rw [va_up_self]
      rfl
    · rw [va_up_ne _ _ h1]
      by_cases h2 : u = 7
      · subst h2
        rw [va_up_self, va_up_self]
      · rw [va_up_ne _ _ h2, va_up_ne _ _ h2, va_up_ne _ _ h1, va_up_ne _ _ h1]
  have hR : mR m (va_up s.1 39 L.2.1, va_up (va_up (va_up s.2.1 30 p) 7 L.2.2) 30 q, s.2.2) h := hR
  rw [e] at hR
  exact hR
/-- the image's parts -/
def mParts (sz nd ad : Nat → Int32) (U : Nat) (p : Nat → Int32) : Nat → Int32 := va_up (va_up (va_up (va_up (va_up (va_up p 0 (4194304 + (mLay1 sz nd ad U).1)) 1 (4194304 + mUp4k (mLay1 sz nd ad U).1)) 2 (4194304 + (mLay2 sz nd ad U).1)) 3 (4194304 + mUp4k (mLay2 sz nd ad U).1)) 4 (4194304 + (mLay4 sz nd ad U).1)) 6 (mLay4 sz nd ad U).2.1
def mLayOut (s : mSt) (U : Nat) : mSt := mLz s (mParts (s.2.1 5) (s.2.1 4) (s.2.1 7) U (s.2.1 30)) (mLay4 (s.2.1 5) (s.2.1 4) (s.2.1 7) U)
set_option maxRecDepth 20000 in
theorem l_M_lay {G : ax_G} {x : ax_X} {h0 : ax_H} {P : Option Value → ax_H → Prop} {m : Nat} (s : mSt) (U : Nat) (hU : s.1 1 = nI U) (hUb : U ≤ 32) (c : Nat) (hc : c < 4) (p : Nat → Int32) (hq : ax_H) (R : mLy) (hk : ∀ h2 o3, mR m (mLz s p R) h2 → mFr m hq h2 → AW G x Y_M_layOut 0 0 h0 P h2 133 [some (.ref m), some (.int R.1), some (.int (nI c)), o3] []) : ∀ r u (L : mLy) h, u + r = U → mR m (mLz s p L) h → mFr m hq h → mLayL (s.2.1 5) (s.2.1 4) c r u L = R → AW G x Y_M_layOut 0 0 h0 P h 66 [some (.ref m), some (.int L.1), some (.int (nI c)), some (.int (nI u))] [] := by
  intro r
  induction r with
  | zero =>
    intro u L h hu hR hF he
    have huu : u = U := by omega
    subst huu
    have he : L = R := he
    subst he
    refine aw_iload_n d_M_layOut_66 rfl rfl ?_
    first | refine aw_aload_n d_M_layOut_67 rfl rfl ?_ | refine aw_aload_nQ d_M_layOut_67 rfl rfl ?_ | refine aw_aload_nN d_M_layOut_67 rfl rfl ?_
    refine aM_get (by assumption) fl_M_126 (by decide) rfl d_M_layOut_68 ?_
    refine aw_icmp_ge (tgt := 133) d_M_layOut_71 (by decide) (fun c71 => ?_) (fun c71 => ?_)
    · exact hk _ _ hR hF
    · exact absurd (show s.1 1 ≤ nI u by rw [hU]; exact nI_le (Nat.le_refl _) (by omega)) c71
  | succ r ih =>
    intro u L h hu hR hF he
    rw [mLayL] at he
    have i1 : 4 * nI u + nI c = nI (4 * u + c) := by rw [show (4 : Int32) = nI 4 from rfl, pk_mul, nI_add]
    have ib : 4 * u + c < 128 := by omega
    refine aw_iload_n d_M_layOut_66 rfl rfl ?_
    first | refine aw_aload_n d_M_layOut_67 rfl rfl ?_ | refine aw_aload_nQ d_M_layOut_67 rfl rfl ?_ | refine aw_aload_nN d_M_layOut_67 rfl rfl ?_
    refine aM_get (by assumption) fl_M_126 (by decide) rfl d_M_layOut_68 ?_
    refine aw_icmp_ge (tgt := 133) d_M_layOut_71 (by decide) (fun c71 => ?_) (fun c71 => ?_)
    · exact absurd (show s.1 1 ≤ nI u from c71) (by rw [hU]; exact nI_ge (by omega) (by omega))
    · first | refine aw_aload_n d_M_layOut_74 rfl rfl ?_ | refine aw_aload_nQ d_M_layOut_74 rfl rfl ?_ | refine aw_aload_nN d_M_layOut_74 rfl rfl ?_
      refine aM_get (by assumption) fl_M_19 (by decide) rfl d_M_layOut_75 ?_
      refine aw_iconst (v := 4) d_M_layOut_78 (by decide) ?_
      refine aw_iload_n d_M_layOut_79 rfl rfl ?_
      refine aw_imul d_M_layOut_80 ?_
      refine aw_iload_n d_M_layOut_81 rfl rfl ?_
      refine aw_iadd d_M_layOut_82 ?_
      refine aM_zald (by assumption) (by decide) rfl i1 ib (by decide) d_M_layOut_83 ?_
      refine aw_if_ne (tgt := 90) d_M_layOut_84 (by decide) (fun c84 => ?_) (fun c84 => ?_)
      · refine aw_iload_n d_M_layOut_90 rfl rfl ?_
        refine aw_bipush (v := 15) d_M_layOut_91 (by decide) ?_
        refine aw_iadd d_M_layOut_93 ?_
        refine aw_bipush (v := (-16)) d_M_layOut_94 (by decide) ?_
        refine aw_iand d_M_layOut_96 ?_
        refine aw_istore_n d_M_layOut_97 rfl (by decide) rfl ?_
        first | refine aw_aload_n d_M_layOut_98 rfl rfl ?_ | refine aw_aload_nQ d_M_layOut_98 rfl rfl ?_ | refine aw_aload_nN d_M_layOut_98 rfl rfl ?_
        refine aM_get (by assumption) fl_M_29 (by decide) rfl d_M_layOut_99 ?_
        refine aw_iconst (v := 4) d_M_layOut_102 (by decide) ?_
        refine aw_iload_n d_M_layOut_103 rfl rfl ?_
        refine aw_imul d_M_layOut_104 ?_
        refine aw_iload_n d_M_layOut_105 rfl rfl ?_
        refine aw_iadd d_M_layOut_106 ?_
        refine aw_iload_n d_M_layOut_107 rfl rfl ?_
        refine aM_iast (by assumption) (by decide) rfl i1 ib (by decide) d_M_layOut_108 (fun g108 hR108 hF108 => ?_)
        refine aw_iload_n d_M_layOut_109 rfl rfl ?_
        first | refine aw_aload_n d_M_layOut_110 rfl rfl ?_ | refine aw_aload_nQ d_M_layOut_110 rfl rfl ?_ | refine aw_aload_nN d_M_layOut_110 rfl rfl ?_
        refine aM_get (by assumption) fl_M_22 (by decide) rfl d_M_layOut_111 ?_
        refine aw_iconst (v := 4) d_M_layOut_114 (by decide) ?_
        refine aw_iload_n d_M_layOut_115 rfl rfl ?_
        refine aw_imul d_M_layOut_116 ?_
        refine aw_iload_n d_M_layOut_117 rfl rfl ?_
        refine aw_iadd d_M_layOut_118 ?_
        refine aM_iald (by assumption) (by decide) rfl i1 ib (by decide) d_M_layOut_119 ?_
        refine aw_iadd d_M_layOut_120 ?_
        refine aw_istore_n d_M_layOut_121 rfl (by decide) rfl ?_
        first | refine aw_aload_n d_M_layOut_122 rfl rfl ?_ | refine aw_aload_nQ d_M_layOut_122 rfl rfl ?_ | refine aw_aload_nN d_M_layOut_122 rfl rfl ?_
        refine aw_iload_n d_M_layOut_123 rfl rfl ?_
        refine aM_put (by assumption) fl_M_191 (by decide) rfl rfl rfl rfl d_M_layOut_124 (fun g124 hR124 hF124 => ?_)
        refine aw_iinc (v := nI (u + 1)) d_M_layOut_127 rfl (ax_inc u) (by decide) rfl ?_
        refine aw_goto (tgt := 66) d_M_layOut_130 (by decide) ?_
        rw [if_neg (show ¬ s.2.1 4 (4 * u + c) = 0 from c84)] at he
        have hR124 : mR m (va_up (va_up s.1 39 L.2.1) 39 (mUp16 L.1 + s.2.1 5 (4 * u + c)), va_up (va_up (va_up s.2.1 30 p) 7 L.2.2) 7 (va_up L.2.2 (4 * u + c) (mUp16 L.1)), s.2.2) g124 := hR124
        rw [bx_uu, bx_uu] at hR124
        exact ih (u + 1) (mUp16 L.1 + s.2.1 5 (4 * u + c), mUp16 L.1 + s.2.1 5 (4 * u + c), va_up L.2.2 (4 * u + c) (mUp16 L.1)) _ (by omega) hR124 ((hF.tr hF108).tr hF124) he
      · refine aw_goto (tgt := 127) d_M_layOut_87 (by decide) ?_
        refine aw_iinc (v := nI (u + 1)) d_M_layOut_127 rfl (ax_inc u) (by decide) rfl ?_
        refine aw_goto (tgt := 66) d_M_layOut_130 (by decide) ?_
        rw [if_pos (show s.2.1 4 (4 * u + c) = 0 from c84)] at he
        exact ih (u + 1) _ _ (by omega) hR hF he
set_option maxRecDepth 20000 in
theorem t_M_lay0 {G : ax_G} {x : ax_X} {h0 : ax_H} {P : Option Value → ax_H → Prop} {m : Nat} (s : mSt) (U : Nat) (hU : s.1 1 = nI U) (hUb : U ≤ 32) (hq : ax_H) (hk : ∀ h2 o3, mR m (mLz s (va_up (s.2.1 30) 0 (4194304 + (mLay1 (s.2.1 5) (s.2.1 4) (s.2.1 7) U).1)) (mLay1 (s.2.1 5) (s.2.1 4) (s.2.1 7) U)) h2 → mFr m hq h2 → AW G x Y_M_layOut 0 0 h0 P h2 9 [some (.ref m), some (.int (mLay1 (s.2.1 5) (s.2.1 4) (s.2.1 7) U).1), some (.int 1), o3] []) (h : ax_H) (o3 : Option Value) (hR : mR m (mLz s (s.2.1 30) (0, 0, s.2.1 7)) h) (hF : mFr m hq h) : AW G x Y_M_layOut 0 0 h0 P h 9 [some (.ref m), some (.int (0, 0, s.2.1 7).1), some (.int 0), o3] [] := by
  refine aw_iload_n d_M_layOut_9 rfl rfl ?_
  refine aw_iconst (v := 4) d_M_layOut_10 (by decide) ?_
  refine aw_icmp_ge (tgt := 183) d_M_layOut_11 (by decide) (fun c11 => ?_) (fun c11 => ?_)
  · exact absurd c11 (by decide)
  · refine aw_iload_n d_M_layOut_14 rfl rfl ?_
    refine aw_iconst (v := 1) d_M_layOut_15 (by decide) ?_
    refine aw_icmp_eq (tgt := 24) d_M_layOut_16 (by decide) (fun c16 => ?_) (fun c16 => ?_)
    · exact absurd c16 (by decide)
    · refine aw_iload_n d_M_layOut_19 rfl rfl ?_
      refine aw_iconst (v := 2) d_M_layOut_20 (by decide) ?_
      refine aw_icmp_ne (tgt := 34) d_M_layOut_21 (by decide) (fun c21 => ?_) (fun c21 => ?_)
      · refine aw_iload_n d_M_layOut_34 rfl rfl ?_
        refine aw_iconst (v := 1) d_M_layOut_35 (by decide) ?_
        refine aw_icmp_ne (tgt := 49) d_M_layOut_36 (by decide) (fun c36 => ?_) (fun c36 => ?_)
        · refine aw_iload_n d_M_layOut_49 rfl rfl ?_
          refine aw_iconst (v := 2) d_M_layOut_50 (by decide) ?_
          refine aw_icmp_ne (tgt := 64) d_M_layOut_51 (by decide) (fun c51 => ?_) (fun c51 => ?_)
          · refine aw_iconst (v := 0) d_M_layOut_64 (by decide) ?_
            refine aw_istore_n d_M_layOut_65 rfl (by decide) rfl ?_
            refine l_M_lay s U hU hUb 0 (by decide) (s.2.1 30) hq (mLay1 (s.2.1 5) (s.2.1 4) (s.2.1 7) U) (fun h2 o3 hRa hFa => ?_) U 0 (0, 0, s.2.1 7) _ (by omega) hR hF rfl
            refine aw_iload_n d_M_layOut_133 rfl rfl ?_
            refine aw_if_ne (tgt := 147) d_M_layOut_134 (by decide) (fun c134 => ?_) (fun c134 => ?_)
            · exact absurd (by decide) c134
            · first | refine aw_aload_n d_M_layOut_137 rfl rfl ?_ | refine aw_aload_nQ d_M_layOut_137 rfl rfl ?_ | refine aw_aload_nN d_M_layOut_137 rfl rfl ?_
              refine aM_get (by assumption) fl_M_105 (by decide) rfl d_M_layOut_138 ?_
              refine aw_iconst (v := 0) d_M_layOut_141 (by decide) ?_
              refine aw_ldc kc_M_194 d_M_layOut_142 ?_
              refine aw_iload_n d_M_layOut_144 rfl rfl ?_
              refine aw_iadd d_M_layOut_145 ?_
              refine aM_iast (by assumption) (by decide) rfl (show _ = nI 0 from rfl) (show 0 < 7 by decide) (by decide) d_M_layOut_146 (fun g146 hR146 hF146 => ?_)
              refine aw_iload_n d_M_layOut_147 rfl rfl ?_
              refine aw_iconst (v := 1) d_M_layOut_148 (by decide) ?_
              refine aw_icmp_ne (tgt := 162) d_M_layOut_149 (by decide) (fun c149 => ?_) (fun c149 => ?_)
              · refine aw_iload_n d_M_layOut_162 rfl rfl ?_
                refine aw_iconst (v := 3) d_M_layOut_163 (by decide) ?_
                refine aw_icmp_ne (tgt := 177) d_M_layOut_164 (by decide) (fun c164 => ?_) (fun c164 => ?_)
                · refine aw_iinc (v := 1) d_M_layOut_177 rfl (by decide) (by decide) rfl ?_
                  refine aw_goto (tgt := 9) d_M_layOut_180 (by decide) ?_
                  exact hk _ _ (mLz_p hR146) (hFa.tr hF146)
                · exact absurd c164 (by decide)
              · exact absurd c149 (by decide)
          · exact absurd c51 (by decide)
        · exact absurd c36 (by decide)
      · exact absurd c21 (by decide)
set_option maxRecDepth 20000 in
theorem t_M_lay1 {G : ax_G} {x : ax_X} {h0 : ax_H} {P : Option Value → ax_H → Prop} {m : Nat} (s : mSt) (U : Nat) (hU : s.1 1 = nI U) (hUb : U ≤ 32) (hq : ax_H) (hk : ∀ h2 o3, mR m (mLz s (va_up (va_up (va_up (s.2.1 30) 0 (4194304 + (mLay1 (s.2.1 5) (s.2.1 4) (s.2.1 7) U).1)) 1 (4194304 + mUp4k (mLay1 (s.2.1 5) (s.2.1 4) (s.2.1 7) U).1)) 2 (4194304 + (mLay2 (s.2.1 5) (s.2.1 4) (s.2.1 7) U).1)) (mLay2 (s.2.1 5) (s.2.1 4) (s.2.1 7) U)) h2 → mFr m hq h2 → AW G x Y_M_layOut 0 0 h0 P h2 9 [some (.ref m), some (.int (mLay2 (s.2.1 5) (s.2.1 4) (s.2.1 7) U).1), some (.int 2), o3] []) (h : ax_H) (o3 : Option Value) (hR : mR m (mLz s (va_up (s.2.1 30) 0 (4194304 + (mLay1 (s.2.1 5) (s.2.1 4) (s.2.1 7) U).1)) (mLay1 (s.2.1 5) (s.2.1 4) (s.2.1 7) U)) h) (hF : mFr m hq h) : AW G x Y_M_layOut 0 0 h0 P h 9 [some (.ref m), some (.int (mLay1 (s.2.1 5) (s.2.1 4) (s.2.1 7) U).1), some (.int 1), o3] [] := by
  refine aw_iload_n d_M_layOut_9 rfl rfl ?_
  refine aw_iconst (v := 4) d_M_layOut_10 (by decide) ?_
  refine aw_icmp_ge (tgt := 183) d_M_layOut_11 (by decide) (fun c11 => ?_) (fun c11 => ?_)
  · exact absurd c11 (by decide)
  · refine aw_iload_n d_M_layOut_14 rfl rfl ?_
    refine aw_iconst (v := 1) d_M_layOut_15 (by decide) ?_
    refine aw_icmp_eq (tgt := 24) d_M_layOut_16 (by decide) (fun c16 => ?_) (fun c16 => ?_)
    · refine aw_iload_n d_M_layOut_24 rfl rfl ?_
      refine aw_sipush (v := 4095) d_M_layOut_25 (by decide) ?_
      refine aw_iadd d_M_layOut_28 ?_
      refine aw_sipush (v := (-4096)) d_M_layOut_29 (by decide) ?_
      refine aw_iand d_M_layOut_32 ?_
      refine aw_istore_n d_M_layOut_33 rfl (by decide) rfl ?_
      refine aw_iload_n d_M_layOut_34 rfl rfl ?_
      refine aw_iconst (v := 1) d_M_layOut_35 (by decide) ?_
      refine aw_icmp_ne (tgt := 49) d_M_layOut_36 (by decide) (fun c36 => ?_) (fun c36 => ?_)
      · exact absurd (by decide) c36
      · first | refine aw_aload_n d_M_layOut_39 rfl rfl ?_ | refine aw_aload_nQ d_M_layOut_39 rfl rfl ?_ | refine aw_aload_nN d_M_layOut_39 rfl rfl ?_
        refine aM_get (by assumption) fl_M_105 (by decide) rfl d_M_layOut_40 ?_
        refine aw_iconst (v := 1) d_M_layOut_43 (by decide) ?_
        refine aw_ldc kc_M_194 d_M_layOut_44 ?_
        refine aw_iload_n d_M_layOut_46 rfl rfl ?_
        refine aw_iadd d_M_layOut_47 ?_
        refine aM_iast (by assumption) (by decide) rfl (show _ = nI 1 from rfl) (show 1 < 7 by decide) (by decide) d_M_layOut_48 (fun g48 hR48 hF48 => ?_)
        refine aw_iload_n d_M_layOut_49 rfl rfl ?_
        refine aw_iconst (v := 2) d_M_layOut_50 (by decide) ?_
        refine aw_icmp_ne (tgt := 64) d_M_layOut_51 (by decide) (fun c51 => ?_) (fun c51 => ?_)
        · refine aw_iconst (v := 0) d_M_layOut_64 (by decide) ?_
          refine aw_istore_n d_M_layOut_65 rfl (by decide) rfl ?_
          refine l_M_lay s U hU hUb 1 (by decide) (va_up (va_up (s.2.1 30) 0 (4194304 + (mLay1 (s.2.1 5) (s.2.1 4) (s.2.1 7) U).1)) 1 (4194304 + mUp4k (mLay1 (s.2.1 5) (s.2.1 4) (s.2.1 7) U).1)) hq (mLay2 (s.2.1 5) (s.2.1 4) (s.2.1 7) U) (fun h2 o3 hRa hFa => ?_) U 0 (mUp4k (mLay1 (s.2.1 5) (s.2.1 4) (s.2.1 7) U).1, (mLay1 (s.2.1 5) (s.2.1 4) (s.2.1 7) U).2) _ (by omega) (show mR m (mLz s (va_up (va_up (s.2.1 30) 0 (4194304 + (mLay1 (s.2.1 5) (s.2.1 4) (s.2.1 7) U).1)) 1 (4194304 + mUp4k (mLay1 (s.2.1 5) (s.2.1 4) (s.2.1 7) U).1)) (mUp4k (mLay1 (s.2.1 5) (s.2.1 4) (s.2.1 7) U).1, (mLay1 (s.2.1 5) (s.2.1 4) (s.2.1 7) U).2)) _ from mLz_p hR48) (hF.tr hF48) rfl
          refine aw_iload_n d_M_layOut_133 rfl rfl ?_
          refine aw_if_ne (tgt := 147) d_M_layOut_134 (by decide) (fun c134 => ?_) (fun c134 => ?_)
          · refine aw_iload_n d_M_layOut_147 rfl rfl ?_
            refine aw_iconst (v := 1) d_M_layOut_148 (by decide) ?_
            refine aw_icmp_ne (tgt := 162) d_M_layOut_149 (by decide) (fun c149 => ?_) (fun c149 => ?_)
            · exact absurd (by decide) c149
            · first | refine aw_aload_n d_M_layOut_152 rfl rfl ?_ | refine aw_aload_nQ d_M_layOut_152 rfl rfl ?_ | refine aw_aload_nN d_M_layOut_152 rfl rfl ?_
              refine aM_get (by assumption) fl_M_105 (by decide) rfl d_M_layOut_153 ?_
              refine aw_iconst (v := 2) d_M_layOut_156 (by decide) ?_
              refine aw_ldc kc_M_194 d_M_layOut_157 ?_
              refine aw_iload_n d_M_layOut_159 rfl rfl ?_
              refine aw_iadd d_M_layOut_160 ?_
              refine aM_iast (by assumption) (by decide) rfl (show _ = nI 2 from rfl) (show 2 < 7 by decide) (by decide) d_M_layOut_161 (fun g161 hR161 hF161 => ?_)
              refine aw_iload_n d_M_layOut_162 rfl rfl ?_
              refine aw_iconst (v := 3) d_M_layOut_163 (by decide) ?_
              refine aw_icmp_ne (tgt := 177) d_M_layOut_164 (by decide) (fun c164 => ?_) (fun c164 => ?_)
              · refine aw_iinc (v := 2) d_M_layOut_177 rfl (by decide) (by decide) rfl ?_
                refine aw_goto (tgt := 9) d_M_layOut_180 (by decide) ?_
                exact hk _ _ (mLz_p hR161) (hFa.tr hF161)
              · exact absurd c164 (by decide)
          · exact absurd c134 (by decide)
        · exact absurd c51 (by decide)
    · exact absurd (by decide) c16
set_option maxRecDepth 20000 in
theorem t_M_lay2 {G : ax_G} {x : ax_X} {h0 : ax_H} {P : Option Value → ax_H → Prop} {m : Nat} (s : mSt) (U : Nat) (hU : s.1 1 = nI U) (hUb : U ≤ 32) (hq : ax_H) (hk : ∀ h2 o3, mR m (mLz s (va_up (va_up (va_up (va_up (s.2.1 30) 0 (4194304 + (mLay1 (s.2.1 5) (s.2.1 4) (s.2.1 7) U).1)) 1 (4194304 + mUp4k (mLay1 (s.2.1 5) (s.2.1 4) (s.2.1 7) U).1)) 2 (4194304 + (mLay2 (s.2.1 5) (s.2.1 4) (s.2.1 7) U).1)) 3 (4194304 + mUp4k (mLay2 (s.2.1 5) (s.2.1 4) (s.2.1 7) U).1)) (mLay3 (s.2.1 5) (s.2.1 4) (s.2.1 7) U)) h2 → mFr m hq h2 → AW G x Y_M_layOut 0 0 h0 P h2 9 [some (.ref m), some (.int (mLay3 (s.2.1 5) (s.2.1 4) (s.2.1 7) U).1), some (.int 3), o3] []) (h : ax_H) (o3 : Option Value) (hR : mR m (mLz s (va_up (va_up (va_up (s.2.1 30) 0 (4194304 + (mLay1 (s.2.1 5) (s.2.1 4) (s.2.1 7) U).1)) 1 (4194304 + mUp4k (mLay1 (s.2.1 5) (s.2.1 4) (s.2.1 7) U).1)) 2 (4194304 + (mLay2 (s.2.1 5) (s.2.1 4) (s.2.1 7) U).1)) (mLay2 (s.2.1 5) (s.2.1 4) (s.2.1 7) U)) h) (hF : mFr m hq h) : AW G x Y_M_layOut 0 0 h0 P h 9 [some (.ref m), some (.int (mLay2 (s.2.1 5) (s.2.1 4) (s.2.1 7) U).1), some (.int 2), o3] [] := by
  refine aw_iload_n d_M_layOut_9 rfl rfl ?_
  refine aw_iconst (v := 4) d_M_layOut_10 (by decide) ?_
  refine aw_icmp_ge (tgt := 183) d_M_layOut_11 (by decide) (fun c11 => ?_) (fun c11 => ?_)
  · exact absurd c11 (by decide)
  · refine aw_iload_n d_M_layOut_14 rfl rfl ?_
    refine aw_iconst (v := 1) d_M_layOut_15 (by decide) ?_
    refine aw_icmp_eq (tgt := 24) d_M_layOut_16 (by decide) (fun c16 => ?_) (fun c16 => ?_)
    · exact absurd c16 (by decide)
    · refine aw_iload_n d_M_layOut_19 rfl rfl ?_
      refine aw_iconst (v := 2) d_M_layOut_20 (by decide) ?_
      refine aw_icmp_ne (tgt := 34) d_M_layOut_21 (by decide) (fun c21 => ?_) (fun c21 => ?_)
      · exact absurd (by decide) c21
      · refine aw_iload_n d_M_layOut_24 rfl rfl ?_
        refine aw_sipush (v := 4095) d_M_layOut_25 (by decide) ?_
        refine aw_iadd d_M_layOut_28 ?_
        refine aw_sipush (v := (-4096)) d_M_layOut_29 (by decide) ?_
        refine aw_iand d_M_layOut_32 ?_
        refine aw_istore_n d_M_layOut_33 rfl (by decide) rfl ?_
        refine aw_iload_n d_M_layOut_34 rfl rfl ?_
        refine aw_iconst (v := 1) d_M_layOut_35 (by decide) ?_
        refine aw_icmp_ne (tgt := 49) d_M_layOut_36 (by decide) (fun c36 => ?_) (fun c36 => ?_)
        · refine aw_iload_n d_M_layOut_49 rfl rfl ?_
          refine aw_iconst (v := 2) d_M_layOut_50 (by decide) ?_
          refine aw_icmp_ne (tgt := 64) d_M_layOut_51 (by decide) (fun c51 => ?_) (fun c51 => ?_)
          · exact absurd (by decide) c51
          · first | refine aw_aload_n d_M_layOut_54 rfl rfl ?_ | refine aw_aload_nQ d_M_layOut_54 rfl rfl ?_ | refine aw_aload_nN d_M_layOut_54 rfl rfl ?_
            refine aM_get (by assumption) fl_M_105 (by decide) rfl d_M_layOut_55 ?_
            refine aw_iconst (v := 3) d_M_layOut_58 (by decide) ?_
            refine aw_ldc kc_M_194 d_M_layOut_59 ?_
            refine aw_iload_n d_M_layOut_61 rfl rfl ?_
            refine aw_iadd d_M_layOut_62 ?_
            refine aM_iast (by assumption) (by decide) rfl (show _ = nI 3 from rfl) (show 3 < 7 by decide) (by decide) d_M_layOut_63 (fun g63 hR63 hF63 => ?_)
            refine aw_iconst (v := 0) d_M_layOut_64 (by decide) ?_
            refine aw_istore_n d_M_layOut_65 rfl (by decide) rfl ?_
            refine l_M_lay s U hU hUb 2 (by decide) (va_up (va_up (va_up (va_up (s.2.1 30) 0 (4194304 + (mLay1 (s.2.1 5) (s.2.1 4) (s.2.1 7) U).1)) 1 (4194304 + mUp4k (mLay1 (s.2.1 5) (s.2.1 4) (s.2.1 7) U).1)) 2 (4194304 + (mLay2 (s.2.1 5) (s.2.1 4) (s.2.1 7) U).1)) 3 (4194304 + mUp4k (mLay2 (s.2.1 5) (s.2.1 4) (s.2.1 7) U).1)) hq (mLay3 (s.2.1 5) (s.2.1 4) (s.2.1 7) U) (fun h2 o3 hRa hFa => ?_) U 0 (mUp4k (mLay2 (s.2.1 5) (s.2.1 4) (s.2.1 7) U).1, (mLay2 (s.2.1 5) (s.2.1 4) (s.2.1 7) U).2) _ (by omega) (show mR m (mLz s (va_up (va_up (va_up (va_up (s.2.1 30) 0 (4194304 + (mLay1 (s.2.1 5) (s.2.1 4) (s.2.1 7) U).1)) 1 (4194304 + mUp4k (mLay1 (s.2.1 5) (s.2.1 4) (s.2.1 7) U).1)) 2 (4194304 + (mLay2 (s.2.1 5) (s.2.1 4) (s.2.1 7) U).1)) 3 (4194304 + mUp4k (mLay2 (s.2.1 5) (s.2.1 4) (s.2.1 7) U).1)) (mUp4k (mLay2 (s.2.1 5) (s.2.1 4) (s.2.1 7) U).1, (mLay2 (s.2.1 5) (s.2.1 4) (s.2.1 7) U).2)) _ from mLz_p hR63) (hF.tr hF63) rfl
            refine aw_iload_n d_M_layOut_133 rfl rfl ?_
            refine aw_if_ne (tgt := 147) d_M_layOut_134 (by decide) (fun c134 => ?_) (fun c134 => ?_)
            · refine aw_iload_n d_M_layOut_147 rfl rfl ?_
              refine aw_iconst (v := 1) d_M_layOut_148 (by decide) ?_
              refine aw_icmp_ne (tgt := 162) d_M_layOut_149 (by decide) (fun c149 => ?_) (fun c149 => ?_)
              · refine aw_iload_n d_M_layOut_162 rfl rfl ?_
                refine aw_iconst (v := 3) d_M_layOut_163 (by decide) ?_
                refine aw_icmp_ne (tgt := 177) d_M_layOut_164 (by decide) (fun c164 => ?_) (fun c164 => ?_)
                · refine aw_iinc (v := 3) d_M_layOut_177 rfl (by decide) (by decide) rfl ?_
                  refine aw_goto (tgt := 9) d_M_layOut_180 (by decide) ?_
                  exact hk _ _ hRa hFa
                · exact absurd c164 (by decide)
              · exact absurd c149 (by decide)
            · exact absurd c134 (by decide)
        · exact absurd c36 (by decide)
set_option maxRecDepth 20000 in
theorem t_M_lay3 {G : ax_G} {x : ax_X} {h0 : ax_H} {P : Option Value → ax_H → Prop} {m : Nat} (s : mSt) (U : Nat) (hU : s.1 1 = nI U) (hUb : U ≤ 32) (hq : ax_H) (hk : ∀ h2 o3, mR m (mLz s (va_up (va_up (va_up (va_up (va_up (s.2.1 30) 0 (4194304 + (mLay1 (s.2.1 5) (s.2.1 4) (s.2.1 7) U).1)) 1 (4194304 + mUp4k (mLay1 (s.2.1 5) (s.2.1 4) (s.2.1 7) U).1)) 2 (4194304 + (mLay2 (s.2.1 5) (s.2.1 4) (s.2.1 7) U).1)) 3 (4194304 + mUp4k (mLay2 (s.2.1 5) (s.2.1 4) (s.2.1 7) U).1)) 4 (4194304 + (mLay4 (s.2.1 5) (s.2.1 4) (s.2.1 7) U).1)) (mLay4 (s.2.1 5) (s.2.1 4) (s.2.1 7) U)) h2 → mFr m hq h2 → AW G x Y_M_layOut 0 0 h0 P h2 9 [some (.ref m), some (.int (mLay4 (s.2.1 5) (s.2.1 4) (s.2.1 7) U).1), some (.int 4), o3] []) (h : ax_H) (o3 : Option Value) (hR : mR m (mLz s (va_up (va_up (va_up (va_up (s.2.1 30) 0 (4194304 + (mLay1 (s.2.1 5) (s.2.1 4) (s.2.1 7) U).1)) 1 (4194304 + mUp4k (mLay1 (s.2.1 5) (s.2.1 4) (s.2.1 7) U).1)) 2 (4194304 + (mLay2 (s.2.1 5) (s.2.1 4) (s.2.1 7) U).1)) 3 (4194304 + mUp4k (mLay2 (s.2.1 5) (s.2.1 4) (s.2.1 7) U).1)) (mLay3 (s.2.1 5) (s.2.1 4) (s.2.1 7) U)) h) (hF : mFr m hq h) : AW G x Y_M_layOut 0 0 h0 P h 9 [some (.ref m), some (.int (mLay3 (s.2.1 5) (s.2.1 4) (s.2.1 7) U).1), some (.int 3), o3] [] := by
  refine aw_iload_n d_M_layOut_9 rfl rfl ?_
  refine aw_iconst (v := 4) d_M_layOut_10 (by decide) ?_
  refine aw_icmp_ge (tgt := 183) d_M_layOut_11 (by decide) (fun c11 => ?_) (fun c11 => ?_)
  · exact absurd c11 (by decide)
  · refine aw_iload_n d_M_layOut_14 rfl rfl ?_
    refine aw_iconst (v := 1) d_M_layOut_15 (by decide) ?_
    refine aw_icmp_eq (tgt := 24) d_M_layOut_16 (by decide) (fun c16 => ?_) (fun c16 => ?_)
    · exact absurd c16 (by decide)
    · refine aw_iload_n d_M_layOut_19 rfl rfl ?_
      refine aw_iconst (v := 2) d_M_layOut_20 (by decide) ?_
      refine aw_icmp_ne (tgt := 34) d_M_layOut_21 (by decide) (fun c21 => ?_) (fun c21 => ?_)
      · refine aw_iload_n d_M_layOut_34 rfl rfl ?_
        refine aw_iconst (v := 1) d_M_layOut_35 (by decide) ?_
        refine aw_icmp_ne (tgt := 49) d_M_layOut_36 (by decide) (fun c36 => ?_) (fun c36 => ?_)
        · refine aw_iload_n d_M_layOut_49 rfl rfl ?_
          refine aw_iconst (v := 2) d_M_layOut_50 (by decide) ?_
          refine aw_icmp_ne (tgt := 64) d_M_layOut_51 (by decide) (fun c51 => ?_) (fun c51 => ?_)
          · refine aw_iconst (v := 0) d_M_layOut_64 (by decide) ?_
            refine aw_istore_n d_M_layOut_65 rfl (by decide) rfl ?_
            refine l_M_lay s U hU hUb 3 (by decide) (va_up (va_up (va_up (va_up (s.2.1 30) 0 (4194304 + (mLay1 (s.2.1 5) (s.2.1 4) (s.2.1 7) U).1)) 1 (4194304 + mUp4k (mLay1 (s.2.1 5) (s.2.1 4) (s.2.1 7) U).1)) 2 (4194304 + (mLay2 (s.2.1 5) (s.2.1 4) (s.2.1 7) U).1)) 3 (4194304 + mUp4k (mLay2 (s.2.1 5) (s.2.1 4) (s.2.1 7) U).1)) hq (mLay4 (s.2.1 5) (s.2.1 4) (s.2.1 7) U) (fun h2 o3 hRa hFa => ?_) U 0 (mLay3 (s.2.1 5) (s.2.1 4) (s.2.1 7) U) _ (by omega) hR hF rfl
            refine aw_iload_n d_M_layOut_133 rfl rfl ?_
            refine aw_if_ne (tgt := 147) d_M_layOut_134 (by decide) (fun c134 => ?_) (fun c134 => ?_)
            · refine aw_iload_n d_M_layOut_147 rfl rfl ?_
              refine aw_iconst (v := 1) d_M_layOut_148 (by decide) ?_
              refine aw_icmp_ne (tgt := 162) d_M_layOut_149 (by decide) (fun c149 => ?_) (fun c149 => ?_)
              · refine aw_iload_n d_M_layOut_162 rfl rfl ?_
                refine aw_iconst (v := 3) d_M_layOut_163 (by decide) ?_
                refine aw_icmp_ne (tgt := 177) d_M_layOut_164 (by decide) (fun c164 => ?_) (fun c164 => ?_)
                · exact absurd (by decide) c164
                · first | refine aw_aload_n d_M_layOut_167 rfl rfl ?_ | refine aw_aload_nQ d_M_layOut_167 rfl rfl ?_ | refine aw_aload_nN d_M_layOut_167 rfl rfl ?_
                  refine aM_get (by assumption) fl_M_105 (by decide) rfl d_M_layOut_168 ?_
                  refine aw_iconst (v := 4) d_M_layOut_171 (by decide) ?_
                  refine aw_ldc kc_M_194 d_M_layOut_172 ?_
                  refine aw_iload_n d_M_layOut_174 rfl rfl ?_
                  refine aw_iadd d_M_layOut_175 ?_
                  refine aM_iast (by assumption) (by decide) rfl (show _ = nI 4 from rfl) (show 4 < 7 by decide) (by decide) d_M_layOut_176 (fun g176 hR176 hF176 => ?_)
                  refine aw_iinc (v := 4) d_M_layOut_177 rfl (by decide) (by decide) rfl ?_
                  refine aw_goto (tgt := 9) d_M_layOut_180 (by decide) ?_
                  exact hk _ _ (mLz_p hR176) (hFa.tr hF176)
              · exact absurd c149 (by decide)
            · exact absurd c134 (by decide)
          · exact absurd c51 (by decide)
        · exact absurd c36 (by decide)
      · exact absurd c21 (by decide)
set_option maxRecDepth 20000 in
theorem c_M_layOut (G : ax_G) (h : ax_H) (m : Nat) (s : mSt) (hR : mR m s h) (U : Nat) (hU : s.1 1 = nI U) (hUb : U ≤ 32) : AM G Y_M_layOut 0 0 [.ref m] h (fun v h2 => v = none ∧ mR m (mLayOut s U) h2 ∧ mFr m h h2) := by
  refine aw_enter (by decide) (Nat.le_of_ble_eq_true rfl) (n := 3) (ls := [some (.ref m), none, none, none]) rfl (fun x => ?_)
  refine aw_iconst (v := 0) d_M_layOut_0 (by decide) ?_
  refine aw_istore_n d_M_layOut_1 rfl (by decide) rfl ?_
  first | refine aw_aload_n d_M_layOut_2 rfl rfl ?_ | refine aw_aload_nQ d_M_layOut_2 rfl rfl ?_ | refine aw_aload_nN d_M_layOut_2 rfl rfl ?_
  refine aw_iconst (v := 0) d_M_layOut_3 (by decide) ?_
  refine aM_put (by assumption) fl_M_191 (by decide) rfl rfl rfl rfl d_M_layOut_4 (fun g4 hR4 hF4 => ?_)
  refine aw_iconst (v := 0) d_M_layOut_7 (by decide) ?_
  refine aw_istore_n d_M_layOut_8 rfl (by decide) rfl ?_
  have hR4 : mR m (mLz s (s.2.1 30) (0, 0, s.2.1 7)) g4 := by
    show mR m (va_up s.1 39 0, va_up (va_up s.2.1 30 (s.2.1 30)) 7 (s.2.1 7), s.2.2) g4
    rw [mUs, mUs]
    exact hR4
  refine t_M_lay0 s U hU hUb h (fun h2 o3 hR2 hF2 => ?_) _ _ hR4 hF4
  refine t_M_lay1 s U hU hUb h (fun h2 o3 hR2 hF2 => ?_) _ _ hR2 hF2
  refine t_M_lay2 s U hU hUb h (fun h2 o3 hR2 hF2 => ?_) _ _ hR2 hF2
  refine t_M_lay3 s U hU hUb h (fun h2 o3 hR2 hF2 => ?_) _ _ hR2 hF2
  refine aw_iload_n d_M_layOut_9 rfl rfl ?_
  refine aw_iconst (v := 4) d_M_layOut_10 (by decide) ?_
  refine aw_icmp_ge (tgt := 183) d_M_layOut_11 (by decide) (fun c11 => ?_) (fun c11 => ?_)
  · first | refine aw_aload_n d_M_layOut_183 rfl rfl ?_ | refine aw_aload_nQ d_M_layOut_183 rfl rfl ?_ | refine aw_aload_nN d_M_layOut_183 rfl rfl ?_
    refine aM_get (by assumption) fl_M_105 (by decide) rfl d_M_layOut_184 ?_
    refine aw_bipush (v := 6) d_M_layOut_187 (by decide) ?_
    first | refine aw_aload_n d_M_layOut_189 rfl rfl ?_ | refine aw_aload_nQ d_M_layOut_189 rfl rfl ?_ | refine aw_aload_nN d_M_layOut_189 rfl rfl ?_
    refine aM_get (by assumption) fl_M_191 (by decide) rfl d_M_layOut_190 ?_
    refine aM_iast (by assumption) (by decide) rfl (show _ = nI 6 from rfl) (show 6 < 7 by decide) (by decide) d_M_layOut_193 (fun g193 hR193 hF193 => ?_)
    refine aw_vret ?_ rfl d_M_layOut_194
    exact ⟨rfl, mLz_p hR193, hF2.tr hF193⟩
  · exact absurd (by decide) c11
end
section
/-- a label's address -/
def mLab1 (ad pl : Nat → Int32) (e : Nat → Nat → Nat) (k : Nat) : Int32 := 4194304 + ad (4 * e 11 k + e 13 k) + pl k
set_option maxRecDepth 20000 in
theorem c_M_label (G : ax_G) (h : ax_H) (m : Nat) (s : mSt) (hR : mR m s h) (e : Nat → Nat → Nat) (U S : Nat) (hUb : U ≤ 32) (hSb : S ≤ 2048) (hI : mI2 s e U S) (hI3 : mI3 s e S) (k : Nat) (hk : k < S) (hk0 : 0 ≤ s.2.1 13 k) : AM G Y_M_labelAddress 0 0 [.ref m, .int (nI k)] h (fun v h2 => h2 = h ∧ v = some (.int (mLab1 (s.2.1 7) (s.2.1 14) e k))) := by
  obtain ⟨y1, y2⟩ := hI k hk
  obtain ⟨y3, y4⟩ := hI3.lab hk hk0
  have jb : k < 2048 := Nat.lt_of_lt_of_le hk hSb
  have ev : 4 * s.2.1 11 k + s.2.1 13 k = nI (4 * e 11 k + e 13 k) := by rw [y1, y4, show (4 : Int32) = nI 4 from rfl, pk_mul, nI_add]
  refine aw_enter (by decide) (Nat.le_of_ble_eq_true rfl) (n := 0) (ls := [some (.ref m), some (.int (nI k))]) rfl (fun x => ?_)
  refine aw_ldc kc_M_194 d_M_labelAddress_0 ?_
  first | refine aw_aload_n d_M_labelAddress_2 rfl rfl ?_ | refine aw_aload_nQ d_M_labelAddress_2 rfl rfl ?_ | refine aw_aload_nN d_M_labelAddress_2 rfl rfl ?_
  refine aM_get (by assumption) fl_M_29 (by decide) rfl d_M_labelAddress_3 ?_
  refine aw_iconst (v := 4) d_M_labelAddress_6 (by decide) ?_
  first | refine aw_aload_n d_M_labelAddress_7 rfl rfl ?_ | refine aw_aload_nQ d_M_labelAddress_7 rfl rfl ?_ | refine aw_aload_nN d_M_labelAddress_7 rfl rfl ?_
  refine aM_get (by assumption) fl_M_44 (by decide) rfl d_M_labelAddress_8 ?_
  refine aw_iload_n d_M_labelAddress_11 rfl rfl ?_
  refine aM_iald (by assumption) (by decide) rfl rfl jb (by decide) d_M_labelAddress_12 ?_
  refine aw_imul d_M_labelAddress_13 ?_
  first | refine aw_aload_n d_M_labelAddress_14 rfl rfl ?_ | refine aw_aload_nQ d_M_labelAddress_14 rfl rfl ?_ | refine aw_aload_nN d_M_labelAddress_14 rfl rfl ?_
  refine aM_get (by assumption) fl_M_50 (by decide) rfl d_M_labelAddress_15 ?_
  refine aw_iload_n d_M_labelAddress_18 rfl rfl ?_
  refine aM_iald (by assumption) (by decide) rfl rfl jb (by decide) d_M_labelAddress_19 ?_
  refine aw_iadd d_M_labelAddress_20 ?_
  refine aM_iald (by assumption) (by decide) rfl ev (show 4 * e 11 k + e 13 k < 128 by omega) (by decide) d_M_labelAddress_21 ?_
  refine aw_iadd d_M_labelAddress_22 ?_
  first | refine aw_aload_n d_M_labelAddress_23 rfl rfl ?_ | refine aw_aload_nQ d_M_labelAddress_23 rfl rfl ?_ | refine aw_aload_nN d_M_labelAddress_23 rfl rfl ?_
  refine aM_get (by assumption) fl_M_53 (by decide) rfl d_M_labelAddress_24 ?_
  refine aw_iload_n d_M_labelAddress_27 rfl rfl ?_
  refine aM_iald (by assumption) (by decide) rfl rfl jb (by decide) d_M_labelAddress_28 ?_
  refine aw_iadd d_M_labelAddress_29 ?_
  refine aw_iret ?_ rfl d_M_labelAddress_30
  exact ⟨rfl, rfl⟩
theorem c_M_labelE (G : ax_G) (h : ax_H) (m : Nat) (s : mSt) (hR : mR m s h) (e : Nat → Nat → Nat) (U S : Nat) (hUb : U ≤ 32) (hSb : S ≤ 2048) (hI : mI2 s e U S) (hI3 : mI3 s e S) (k : Nat) (hk : k < S) (hk0 : 0 ≤ s.2.1 13 k) (z : Int32) (hz : z = nI k) : AM G Y_M_labelAddress 0 0 [.ref m, .int z] h (fun v h2 => h2 = h ∧ v = some (.int (mLab1 (s.2.1 7) (s.2.1 14) e k))) := by
  subst hz
  exact c_M_label G h m s hR e U S hUb hSb hI hI3 k hk hk0
/-- what w waits for: an address -/
def mAdr (tk : Nat → Int32) (g : mTab) (e : Nat → Nat → Nat) (ad pl : Nat → Int32) (w : Nat) : Int64 := if e 22 w = 0 then 0 else if e 22 w < 5 then (4194304 + ad (4 * e 17 w + (e 22 w - 1))).toInt64 else if mStands tk g (e 22 w - 5) < 0 then 0 else (mLab1 ad pl e (iN (mStands tk g (e 22 w - 5)))).toInt64
def mRel (e : Nat → Nat → Nat) (ad nx : Nat → Int32) (w : Nat) : Int64 := if nx w < 0 then 0 else (4194304 + ad (4 * e 17 w + e 18 w) + nx w).toInt64
/-- the value that w waits for -/
def mVal (s : mSt) (e : Nat → Nat → Nat) (S w : Nat) : Int64 := s.2.2 24 w + mAdr (s.2.1 3) (mT s e S) e (s.2.1 7) (s.2.1 14) w - mRel e (s.2.1 7) (s.2.1 21) w
theorem i_m4 {c : Nat} (h : c < 4) : ¬ -1 ≤ (-2 - nI c : Int32) := by
  match c, h with
  | 0, _ => decide
  | 1, _ => decide
  | 2, _ => decide
  | 3, _ => decide
theorem i_p2 {k : Nat} {z : Int32} (h : k < 2 ^ 31) (hz : z = nI k) : -1 ≤ z := Int32.le_trans (by decide) (i_p1 h hz)
set_option maxRecDepth 20000 in
theorem c_M_valueOf (G : ax_G) (h : ax_H) (m : Nat) (s : mSt) (hR : mR m s h) (e : Nat → Nat → Nat) (U S W : Nat) (hUb : U ≤ 32) (hS : s.1 2 = nI S) (hSb : S ≤ 2048) (hW : s.1 3 = nI W) (hWb : W ≤ 4096) (hI : mI2 s e U S) (hI3 : mI3 s e S) (hI4 : mI4 s e U S W) (w : Nat) (hw : w < W) : AM G Y_M_valueOf 3 68 [.ref m, .int (nI w)] h (fun v h2 => h2 = h ∧ v = some (.long (mVal s e S w))) := by
  obtain ⟨⟨u1, u2⟩, ⟨v1, v2⟩, hwt⟩ := hI4 w (by omega)
  have ks : w < 4096 := by omega
  have i1 : 4 * s.2.1 17 w + s.2.1 18 w = nI (mSrc e w) := by rw [u1, v1, show (4 : Int32) = nI 4 from rfl, pk_mul, nI_add]
  refine aw_enter (by decide) (Nat.le_of_ble_eq_true rfl) (n := 5) (ls := [some (.ref m), some (.int (nI w)), none, none, none, none, none]) rfl (fun x => ?_)
  first | refine aw_aload_n d_M_valueOf_0 rfl rfl ?_ | refine aw_aload_nQ d_M_valueOf_0 rfl rfl ?_ | refine aw_aload_nN d_M_valueOf_0 rfl rfl ?_
  refine aM_get (by assumption) fl_M_62 (by decide) rfl d_M_valueOf_1 ?_
  refine aw_iload_n d_M_valueOf_4 rfl rfl ?_
  refine aM_iald (by assumption) (by decide) rfl rfl (show w < 4096 from ks) (by decide) d_M_valueOf_5 ?_
  refine aw_istore_n d_M_valueOf_6 rfl (by decide) rfl ?_
  first | refine aw_aload_n d_M_valueOf_7 rfl rfl ?_ | refine aw_aload_nQ d_M_valueOf_7 rfl rfl ?_ | refine aw_aload_nN d_M_valueOf_7 rfl rfl ?_
  refine aM_get (by assumption) fl_M_77 (by decide) rfl d_M_valueOf_8 ?_
  refine aw_iload_n d_M_valueOf_11 rfl rfl ?_
  refine aM_iald (by assumption) (by decide) rfl rfl (show w < 4096 from ks) (by decide) d_M_valueOf_12 ?_
  refine aw_istore_n d_M_valueOf_13 rfl (by decide) rfl ?_
  first | refine aw_aload_n d_M_valueOf_14 rfl rfl ?_ | refine aw_aload_nQ d_M_valueOf_14 rfl rfl ?_ | refine aw_aload_nN d_M_valueOf_14 rfl rfl ?_
  refine aM_get (by assumption) fl_M_83 (by decide) rfl d_M_valueOf_15 ?_
  refine aw_iload_n d_M_valueOf_18 rfl rfl ?_
  refine aM_lald (by assumption) (by decide) rfl rfl (show w < 4096 from ks) (by decide) d_M_valueOf_19 ?_
  refine aw_lstore d_M_valueOf_20 (by decide) rfl ?_
  refine aw_iload_n d_M_valueOf_22 rfl rfl ?_
  refine aw_if_ge (tgt := 30) d_M_valueOf_23 (by decide) (fun c23 => ?_) (fun c23 => ?_)
  · obtain ⟨k, h1, h2, h3⟩ : ∃ k, k < S ∧ e 22 w = k + 5 ∧ s.2.1 22 w = nI k := (hwt.resolve_left (fun q => absurd (q.2 ▸ c23) (by decide))).resolve_left (fun ⟨c, q1, _, q3⟩ => i_m3 q1 (q3 ▸ c23))
    first | refine aw_aload_n d_M_valueOf_30 rfl rfl ?_ | refine aw_aload_nQ d_M_valueOf_30 rfl rfl ?_ | refine aw_aload_nN d_M_valueOf_30 rfl rfl ?_
    refine aw_iload_n d_M_valueOf_31 rfl rfl ?_
    refine aw_callV (c_M_standsForE G _ m _ hR e U S hUb hS hSb hI k h1 _ h3) cl_M (mR.obj (by assumption)) m_M_standsFor ml_M_188 rfl rfl (by decide) (by decide) (Nat.le_of_ble_eq_true rfl) d_M_valueOf_32 ?_
    rintro v h' ⟨rfl, rfl⟩
    refine aw_istore d_M_valueOf_35 (by decide) rfl ?_
    refine aw_iload d_M_valueOf_37 rfl ?_
    refine aw_if_lt (tgt := 54) d_M_valueOf_39 (by decide) (fun c39 => ?_) (fun c39 => ?_)
    · refine aw_iload_n d_M_valueOf_54 rfl rfl ?_
      refine aw_iconst (v := (-1)) d_M_valueOf_55 (by decide) ?_
      refine aw_icmp_ge (tgt := 80) d_M_valueOf_56 (by decide) (fun c56 => ?_) (fun c56 => ?_)
      · have ea : mAdr (s.2.1 3) (mT s e S) e (s.2.1 7) (s.2.1 14) w = 0 := by rw [mAdr, h2, if_neg (by omega), if_neg (by omega)]; exact if_pos c39
        first | refine aw_aload_n d_M_valueOf_80 rfl rfl ?_ | refine aw_aload_nQ d_M_valueOf_80 rfl rfl ?_ | refine aw_aload_nN d_M_valueOf_80 rfl rfl ?_
        refine aM_get (by assumption) fl_M_74 (by decide) rfl d_M_valueOf_81 ?_
        refine aw_iload_n d_M_valueOf_84 rfl rfl ?_
        refine aM_iald (by assumption) (by decide) rfl rfl (show w < 4096 from ks) (by decide) d_M_valueOf_85 ?_
        refine aw_if_lt (tgt := 120) d_M_valueOf_86 (by decide) (fun c86 => ?_) (fun c86 => ?_)
        · refine aw_lload d_M_valueOf_120 rfl ?_
          refine aw_lret ?_ rfl d_M_valueOf_122
          refine ⟨rfl, ?_⟩
          rw [mVal, ea, mRel, if_pos c86, Int64.add_zero, Int64.sub_zero]
        · refine aw_lload d_M_valueOf_89 rfl ?_
          refine aw_ldc kc_M_194 d_M_valueOf_91 ?_
          first | refine aw_aload_n d_M_valueOf_93 rfl rfl ?_ | refine aw_aload_nQ d_M_valueOf_93 rfl rfl ?_ | refine aw_aload_nN d_M_valueOf_93 rfl rfl ?_
          refine aM_get (by assumption) fl_M_29 (by decide) rfl d_M_valueOf_94 ?_
          refine aw_iconst (v := 4) d_M_valueOf_97 (by decide) ?_
          refine aw_iload_n d_M_valueOf_98 rfl rfl ?_
          refine aw_imul d_M_valueOf_99 ?_
          first | refine aw_aload_n d_M_valueOf_100 rfl rfl ?_ | refine aw_aload_nQ d_M_valueOf_100 rfl rfl ?_ | refine aw_aload_nN d_M_valueOf_100 rfl rfl ?_
          refine aM_get (by assumption) fl_M_65 (by decide) rfl d_M_valueOf_101 ?_
          refine aw_iload_n d_M_valueOf_104 rfl rfl ?_
          refine aM_iald (by assumption) (by decide) rfl rfl (show w < 4096 from ks) (by decide) d_M_valueOf_105 ?_
          refine aw_iadd d_M_valueOf_106 ?_
          refine aM_iald (by assumption) (by decide) rfl i1 (show 4 * e 17 w + e 18 w < 128 by omega) (by decide) d_M_valueOf_107 ?_
          refine aw_iadd d_M_valueOf_108 ?_
          first | refine aw_aload_n d_M_valueOf_109 rfl rfl ?_ | refine aw_aload_nQ d_M_valueOf_109 rfl rfl ?_ | refine aw_aload_nN d_M_valueOf_109 rfl rfl ?_
          refine aM_get (by assumption) fl_M_74 (by decide) rfl d_M_valueOf_110 ?_
          refine aw_iload_n d_M_valueOf_113 rfl rfl ?_
          refine aM_iald (by assumption) (by decide) rfl rfl (show w < 4096 from ks) (by decide) d_M_valueOf_114 ?_
          refine aw_iadd d_M_valueOf_115 ?_
          refine aw_i2l d_M_valueOf_116 ?_
          refine aw_lsub d_M_valueOf_117 ?_
          refine aw_lstore d_M_valueOf_118 (by decide) rfl ?_
          refine aw_lload d_M_valueOf_120 rfl ?_
          refine aw_lret ?_ rfl d_M_valueOf_122
          refine ⟨rfl, ?_⟩
          rw [mVal, ea, mRel, if_neg c86, Int64.add_zero]
      · exact absurd (i_p2 (by omega) h3) c56
    · obtain ⟨j, j1, j2, j3⟩ := (mStands_lab (s.2.1 3) (mT s e S) k h1).resolve_left (fun q => c39 q.1)
      have jb : j < 2048 := Nat.lt_of_lt_of_le j1 hSb
      refine aw_lload d_M_valueOf_42 rfl ?_
      first | refine aw_aload_n d_M_valueOf_44 rfl rfl ?_ | refine aw_aload_nQ d_M_valueOf_44 rfl rfl ?_ | refine aw_aload_nN d_M_valueOf_44 rfl rfl ?_
      refine aw_iload d_M_valueOf_45 rfl ?_
      refine aw_callV (c_M_labelE G _ m _ hR e U S hUb hSb hI hI3 j j1 j3 _ j2) cl_M (mR.obj (by assumption)) m_M_labelAddress ml_M_195 rfl rfl (by decide) (by decide) (Nat.le_of_ble_eq_true rfl) d_M_valueOf_47 ?_
      rintro v h' ⟨rfl, rfl⟩
      refine aw_i2l d_M_valueOf_50 ?_
      refine aw_ladd d_M_valueOf_51 ?_
      refine aw_lstore d_M_valueOf_52 (by decide) rfl ?_
      refine aw_iload_n d_M_valueOf_54 rfl rfl ?_
      refine aw_iconst (v := (-1)) d_M_valueOf_55 (by decide) ?_
      refine aw_icmp_ge (tgt := 80) d_M_valueOf_56 (by decide) (fun c56 => ?_) (fun c56 => ?_)
      · have ea : mAdr (s.2.1 3) (mT s e S) e (s.2.1 7) (s.2.1 14) w = (mLab1 (s.2.1 7) (s.2.1 14) e j).toInt64 := by rw [mAdr, h2, if_neg (by omega), if_neg (by omega)]; exact (if_neg c39).trans (by rw [show k + 5 - 5 = k from rfl, j2, iN, nI_clamp (by omega)])
        first | refine aw_aload_n d_M_valueOf_80 rfl rfl ?_ | refine aw_aload_nQ d_M_valueOf_80 rfl rfl ?_ | refine aw_aload_nN d_M_valueOf_80 rfl rfl ?_
        refine aM_get (by assumption) fl_M_74 (by decide) rfl d_M_valueOf_81 ?_
        refine aw_iload_n d_M_valueOf_84 rfl rfl ?_
        refine aM_iald (by assumption) (by decide) rfl rfl (show w < 4096 from ks) (by decide) d_M_valueOf_85 ?_
        refine aw_if_lt (tgt := 120) d_M_valueOf_86 (by decide) (fun c86 => ?_) (fun c86 => ?_)
        · refine aw_lload d_M_valueOf_120 rfl ?_
          refine aw_lret ?_ rfl d_M_valueOf_122
          refine ⟨rfl, ?_⟩
          rw [mVal, ea, mRel, if_pos c86, Int64.sub_zero]
        · refine aw_lload d_M_valueOf_89 rfl ?_
          refine aw_ldc kc_M_194 d_M_valueOf_91 ?_
          first | refine aw_aload_n d_M_valueOf_93 rfl rfl ?_ | refine aw_aload_nQ d_M_valueOf_93 rfl rfl ?_ | refine aw_aload_nN d_M_valueOf_93 rfl rfl ?_
          refine aM_get (by assumption) fl_M_29 (by decide) rfl d_M_valueOf_94 ?_
          refine aw_iconst (v := 4) d_M_valueOf_97 (by decide) ?_
          refine aw_iload_n d_M_valueOf_98 rfl rfl ?_
          refine aw_imul d_M_valueOf_99 ?_
          first | refine aw_aload_n d_M_valueOf_100 rfl rfl ?_ | refine aw_aload_nQ d_M_valueOf_100 rfl rfl ?_ | refine aw_aload_nN d_M_valueOf_100 rfl rfl ?_
          refine aM_get (by assumption) fl_M_65 (by decide) rfl d_M_valueOf_101 ?_
          refine aw_iload_n d_M_valueOf_104 rfl rfl ?_
          refine aM_iald (by assumption) (by decide) rfl rfl (show w < 4096 from ks) (by decide) d_M_valueOf_105 ?_
          refine aw_iadd d_M_valueOf_106 ?_
          refine aM_iald (by assumption) (by decide) rfl i1 (show 4 * e 17 w + e 18 w < 128 by omega) (by decide) d_M_valueOf_107 ?_
          refine aw_iadd d_M_valueOf_108 ?_
          first | refine aw_aload_n d_M_valueOf_109 rfl rfl ?_ | refine aw_aload_nQ d_M_valueOf_109 rfl rfl ?_ | refine aw_aload_nN d_M_valueOf_109 rfl rfl ?_
          refine aM_get (by assumption) fl_M_74 (by decide) rfl d_M_valueOf_110 ?_
          refine aw_iload_n d_M_valueOf_113 rfl rfl ?_
          refine aM_iald (by assumption) (by decide) rfl rfl (show w < 4096 from ks) (by decide) d_M_valueOf_114 ?_
          refine aw_iadd d_M_valueOf_115 ?_
          refine aw_i2l d_M_valueOf_116 ?_
          refine aw_lsub d_M_valueOf_117 ?_
          refine aw_lstore d_M_valueOf_118 (by decide) rfl ?_
          refine aw_lload d_M_valueOf_120 rfl ?_
          refine aw_lret ?_ rfl d_M_valueOf_122
          refine ⟨rfl, ?_⟩
          rw [mVal, ea, mRel, if_neg c86]
      · exact absurd (i_p2 (by omega) h3) c56
  · refine aw_iconst (v := (-1)) d_M_valueOf_26 (by decide) ?_
    refine aw_goto (tgt := 35) d_M_valueOf_27 (by decide) ?_
    refine aw_istore d_M_valueOf_35 (by decide) rfl ?_
    refine aw_iload d_M_valueOf_37 rfl ?_
    refine aw_if_lt (tgt := 54) d_M_valueOf_39 (by decide) (fun c39 => ?_) (fun c39 => ?_)
    · refine aw_iload_n d_M_valueOf_54 rfl rfl ?_
      refine aw_iconst (v := (-1)) d_M_valueOf_55 (by decide) ?_
      refine aw_icmp_ge (tgt := 80) d_M_valueOf_56 (by decide) (fun c56 => ?_) (fun c56 => ?_)
      · have e0 : e 22 w = 0 := by
          rcases hwt with h1 | ⟨c, h1, h2, h3⟩ | ⟨k, h1, h2, h3⟩
          · exact h1.1
          · exact absurd (h3 ▸ c56) (i_m4 h1)
          · exact absurd (i_p1 (by omega) h3) c23
        have ea : mAdr (s.2.1 3) (mT s e S) e (s.2.1 7) (s.2.1 14) w = 0 := by rw [mAdr, if_pos e0]
        first | refine aw_aload_n d_M_valueOf_80 rfl rfl ?_ | refine aw_aload_nQ d_M_valueOf_80 rfl rfl ?_ | refine aw_aload_nN d_M_valueOf_80 rfl rfl ?_
        refine aM_get (by assumption) fl_M_74 (by decide) rfl d_M_valueOf_81 ?_
        refine aw_iload_n d_M_valueOf_84 rfl rfl ?_
        refine aM_iald (by assumption) (by decide) rfl rfl (show w < 4096 from ks) (by decide) d_M_valueOf_85 ?_
        refine aw_if_lt (tgt := 120) d_M_valueOf_86 (by decide) (fun c86 => ?_) (fun c86 => ?_)
        · refine aw_lload d_M_valueOf_120 rfl ?_
          refine aw_lret ?_ rfl d_M_valueOf_122
          refine ⟨rfl, ?_⟩
          rw [mVal, ea, mRel, if_pos c86, Int64.add_zero, Int64.sub_zero]
        · refine aw_lload d_M_valueOf_89 rfl ?_
          refine aw_ldc kc_M_194 d_M_valueOf_91 ?_
          first | refine aw_aload_n d_M_valueOf_93 rfl rfl ?_ | refine aw_aload_nQ d_M_valueOf_93 rfl rfl ?_ | refine aw_aload_nN d_M_valueOf_93 rfl rfl ?_
          refine aM_get (by assumption) fl_M_29 (by decide) rfl d_M_valueOf_94 ?_
          refine aw_iconst (v := 4) d_M_valueOf_97 (by decide) ?_
          refine aw_iload_n d_M_valueOf_98 rfl rfl ?_
          refine aw_imul d_M_valueOf_99 ?_
          first | refine aw_aload_n d_M_valueOf_100 rfl rfl ?_ | refine aw_aload_nQ d_M_valueOf_100 rfl rfl ?_ | refine aw_aload_nN d_M_valueOf_100 rfl rfl ?_
          refine aM_get (by assumption) fl_M_65 (by decide) rfl d_M_valueOf_101 ?_
          refine aw_iload_n d_M_valueOf_104 rfl rfl ?_
          refine aM_iald (by assumption) (by decide) rfl rfl (show w < 4096 from ks) (by decide) d_M_valueOf_105 ?_
          refine aw_iadd d_M_valueOf_106 ?_
          refine aM_iald (by assumption) (by decide) rfl i1 (show 4 * e 17 w + e 18 w < 128 by omega) (by decide) d_M_valueOf_107 ?_
          refine aw_iadd d_M_valueOf_108 ?_
          first | refine aw_aload_n d_M_valueOf_109 rfl rfl ?_ | refine aw_aload_nQ d_M_valueOf_109 rfl rfl ?_ | refine aw_aload_nN d_M_valueOf_109 rfl rfl ?_
          refine aM_get (by assumption) fl_M_74 (by decide) rfl d_M_valueOf_110 ?_
          refine aw_iload_n d_M_valueOf_113 rfl rfl ?_
          refine aM_iald (by assumption) (by decide) rfl rfl (show w < 4096 from ks) (by decide) d_M_valueOf_114 ?_
          refine aw_iadd d_M_valueOf_115 ?_
          refine aw_i2l d_M_valueOf_116 ?_
          refine aw_lsub d_M_valueOf_117 ?_
          refine aw_lstore d_M_valueOf_118 (by decide) rfl ?_
          refine aw_lload d_M_valueOf_120 rfl ?_
          refine aw_lret ?_ rfl d_M_valueOf_122
          refine ⟨rfl, ?_⟩
          rw [mVal, ea, mRel, if_neg c86, Int64.add_zero]
      · obtain ⟨c, h1, h2, h3⟩ : ∃ c, c < 4 ∧ e 22 w = c + 1 ∧ s.2.1 22 w = -2 - nI c := (hwt.resolve_left (fun q => c56 (Int32.le_of_eq q.2.symm))).resolve_right (fun ⟨k, q1, _, q3⟩ => c23 (i_p1 (by omega) q3))
        have ev : 4 * s.2.1 17 w - 2 - s.2.1 22 w = nI (4 * e 17 w + c) := by rw [h3, i_sub2, u1, show (4 : Int32) = nI 4 from rfl, pk_mul, nI_add]
        refine aw_lload d_M_valueOf_59 rfl ?_
        refine aw_ldc kc_M_194 d_M_valueOf_61 ?_
        first | refine aw_aload_n d_M_valueOf_63 rfl rfl ?_ | refine aw_aload_nQ d_M_valueOf_63 rfl rfl ?_ | refine aw_aload_nN d_M_valueOf_63 rfl rfl ?_
        refine aM_get (by assumption) fl_M_29 (by decide) rfl d_M_valueOf_64 ?_
        refine aw_iconst (v := 4) d_M_valueOf_67 (by decide) ?_
        refine aw_iload_n d_M_valueOf_68 rfl rfl ?_
        refine aw_imul d_M_valueOf_69 ?_
        refine aw_iconst (v := 2) d_M_valueOf_70 (by decide) ?_
        refine aw_isub d_M_valueOf_71 ?_
        refine aw_iload_n d_M_valueOf_72 rfl rfl ?_
        refine aw_isub d_M_valueOf_73 ?_
        refine aM_iald (by assumption) (by decide) rfl ev (show 4 * e 17 w + c < 128 by omega) (by decide) d_M_valueOf_74 ?_
        refine aw_iadd d_M_valueOf_75 ?_
        refine aw_i2l d_M_valueOf_76 ?_
        refine aw_ladd d_M_valueOf_77 ?_
        refine aw_lstore d_M_valueOf_78 (by decide) rfl ?_
        have ea : mAdr (s.2.1 3) (mT s e S) e (s.2.1 7) (s.2.1 14) w = (4194304 + s.2.1 7 (4 * e 17 w + c)).toInt64 := by rw [mAdr, if_neg (by omega), if_pos (by omega), h2]; rfl
        first | refine aw_aload_n d_M_valueOf_80 rfl rfl ?_ | refine aw_aload_nQ d_M_valueOf_80 rfl rfl ?_ | refine aw_aload_nN d_M_valueOf_80 rfl rfl ?_
        refine aM_get (by assumption) fl_M_74 (by decide) rfl d_M_valueOf_81 ?_
        refine aw_iload_n d_M_valueOf_84 rfl rfl ?_
        refine aM_iald (by assumption) (by decide) rfl rfl (show w < 4096 from ks) (by decide) d_M_valueOf_85 ?_
        refine aw_if_lt (tgt := 120) d_M_valueOf_86 (by decide) (fun c86 => ?_) (fun c86 => ?_)
        · refine aw_lload d_M_valueOf_120 rfl ?_
          refine aw_lret ?_ rfl d_M_valueOf_122
          refine ⟨rfl, ?_⟩
          rw [mVal, ea, mRel, if_pos c86, Int64.sub_zero]
        · refine aw_lload d_M_valueOf_89 rfl ?_
          refine aw_ldc kc_M_194 d_M_valueOf_91 ?_
          first | refine aw_aload_n d_M_valueOf_93 rfl rfl ?_ | refine aw_aload_nQ d_M_valueOf_93 rfl rfl ?_ | refine aw_aload_nN d_M_valueOf_93 rfl rfl ?_
          refine aM_get (by assumption) fl_M_29 (by decide) rfl d_M_valueOf_94 ?_
          refine aw_iconst (v := 4) d_M_valueOf_97 (by decide) ?_
          refine aw_iload_n d_M_valueOf_98 rfl rfl ?_
          refine aw_imul d_M_valueOf_99 ?_
          first | refine aw_aload_n d_M_valueOf_100 rfl rfl ?_ | refine aw_aload_nQ d_M_valueOf_100 rfl rfl ?_ | refine aw_aload_nN d_M_valueOf_100 rfl rfl ?_
          refine aM_get (by assumption) fl_M_65 (by decide) rfl d_M_valueOf_101 ?_
          refine aw_iload_n d_M_valueOf_104 rfl rfl ?_
          refine aM_iald (by assumption) (by decide) rfl rfl (show w < 4096 from ks) (by decide) d_M_valueOf_105 ?_
          refine aw_iadd d_M_valueOf_106 ?_
          refine aM_iald (by assumption) (by decide) rfl i1 (show 4 * e 17 w + e 18 w < 128 by omega) (by decide) d_M_valueOf_107 ?_
          refine aw_iadd d_M_valueOf_108 ?_
          first | refine aw_aload_n d_M_valueOf_109 rfl rfl ?_ | refine aw_aload_nQ d_M_valueOf_109 rfl rfl ?_ | refine aw_aload_nN d_M_valueOf_109 rfl rfl ?_
          refine aM_get (by assumption) fl_M_74 (by decide) rfl d_M_valueOf_110 ?_
          refine aw_iload_n d_M_valueOf_113 rfl rfl ?_
          refine aM_iald (by assumption) (by decide) rfl rfl (show w < 4096 from ks) (by decide) d_M_valueOf_114 ?_
          refine aw_iadd d_M_valueOf_115 ?_
          refine aw_i2l d_M_valueOf_116 ?_
          refine aw_lsub d_M_valueOf_117 ?_
          refine aw_lstore d_M_valueOf_118 (by decide) rfl ?_
          refine aw_lload d_M_valueOf_120 rfl ?_
          refine aw_lret ?_ rfl d_M_valueOf_122
          refine ⟨rfl, ?_⟩
          rw [mVal, ea, mRel, if_neg c86]
    · exact absurd (by decide) c39
/-- w waits for a symbol that is nowhere -/
abbrev mMs (tk : Nat → Int32) (g : mTab) (e : Nat → Nat → Nat) (w : Nat) : Prop := 5 ≤ e 22 w ∧ mStands tk g (e 22 w - 5) = -1
abbrev mWg (s : mSt) (e : Nat → Nat → Nat) (S w : Nat) : Prop := mMs (s.2.1 3) (mT s e S) e w ∨ (s.2.1 20 w = 4 ∧ ¬ mVal s e S w = (mVal s e S w).toInt32.toInt64)
abbrev mEar (wu wl : Nat → Int32) (b : Int32) (w : Nat) : Prop := b < 0 ∨ wu w < wu (iN b) ∨ (wu w = wu (iN b) ∧ wl w < wl (iN b))
def mWrL (s : mSt) (e : Nat → Nat → Nat) (S : Nat) : Nat → Nat → Int32 × Int32 → Int32 × Int32
  | 0, _, a => a
  | r + 1, w, a => mWrL s e S r (w + 1) (if ¬ s.2.1 4 (mSrc e w) = 0 ∧ mWg s e S w ∧ mEar (s.2.1 17) (s.2.1 23) a.1 w then (nI w, if mMs (s.2.1 3) (mT s e S) e w then 3 else 4) else a)
def mWrong (s : mSt) (e : Nat → Nat → Nat) (S W : Nat) : mSt := if (mWrL s e S W 0 (-1, 0)).1 < 0 then s else mFail s (mWrL s e S W 0 (-1, 0)).2 (s.2.1 17 (iN (mWrL s e S W 0 (-1, 0)).1)) (s.2.1 23 (iN (mWrL s e S W 0 (-1, 0)).1))
set_option maxRecDepth 20000 in
theorem t_M_wrong {G : ax_G} {x : ax_X} {h0 : ax_H} {P : Option Value → ax_H → Prop} {m : Nat} (s : mSt) (w : Nat) (ks : w < 4096) (b hw mz wz : Int32) (o5 o6 o8 : Option Value) (h : ax_H) (hR : mR m s h) (hb : b = -1 ∨ ∃ j, j < 4096 ∧ b = nI j) (k0 : ∀ o8, ¬ (¬ wz = 0 ∧ mEar (s.2.1 17) (s.2.1 23) b w) → AW G x Y_M_findWrong 4 94 h0 P h 200 [some (.ref m), some (.int b), some (.int hw), some (.int (nI w)), some (.int mz), o5, o6, some (.int wz), o8] []) (k1 : ∀ o8 (hz : Int32), hz = (if mz = 0 then 4 else 3) → ¬ wz = 0 ∧ mEar (s.2.1 17) (s.2.1 23) b w → AW G x Y_M_findWrong 4 94 h0 P h 200 [some (.ref m), some (.int (nI w)), some (.int hz), some (.int (nI w)), some (.int mz), o5, o6, some (.int wz), o8] []) : AW G x Y_M_findWrong 4 94 h0 P h 118 [some (.ref m), some (.int b), some (.int hw), some (.int (nI w)), some (.int mz), o5, o6, some (.int wz), o8] [] := by
  rcases hb with rfl | ⟨j, jb, rfl⟩
  ·
    refine aw_iload_n d_M_findWrong_118 rfl rfl ?_
    refine aw_if_lt (tgt := 167) d_M_findWrong_119 (by decide) (fun c119 => ?_) (fun c119 => ?_)
    · refine aw_iconst (v := 1) d_M_findWrong_167 (by decide) ?_
      refine aw_goto (tgt := 172) d_M_findWrong_168 (by decide) ?_
      refine aw_istore d_M_findWrong_172 (by decide) rfl ?_
      refine aw_iload d_M_findWrong_174 rfl ?_
      refine aw_if_eq (tgt := 200) d_M_findWrong_176 (by decide) (fun c176 => ?_) (fun c176 => ?_)
      · exact k0 _ (fun q => q.1 c176)
      · refine aw_iload d_M_findWrong_179 rfl ?_
        refine aw_if_ne (tgt := 187) d_M_findWrong_181 (by decide) (fun c181 => ?_) (fun c181 => ?_)
        · refine aw_iload_n d_M_findWrong_187 rfl rfl ?_
          refine aw_istore_n d_M_findWrong_188 rfl (by decide) rfl ?_
          refine aw_iload d_M_findWrong_189 rfl ?_
          refine aw_if_eq (tgt := 198) d_M_findWrong_191 (by decide) (fun c191 => ?_) (fun c191 => ?_)
          · refine aw_iconst (v := 4) d_M_findWrong_198 (by decide) ?_
            refine aw_istore_n d_M_findWrong_199 rfl (by decide) rfl ?_
            exact k1 _ _ (if_pos c191).symm ⟨c176, Or.inl (by decide)⟩
          · refine aw_iconst (v := 3) d_M_findWrong_194 (by decide) ?_
            refine aw_goto (tgt := 199) d_M_findWrong_195 (by decide) ?_
            refine aw_istore_n d_M_findWrong_199 rfl (by decide) rfl ?_
            exact k1 _ _ (if_neg c191).symm ⟨c176, Or.inl (by decide)⟩
        · exact absurd c181 (by decide)
    · exact absurd (by decide) c119
  · have ej : iN (nI j) = j := nI_clamp (by omega)
    refine aw_iload_n d_M_findWrong_118 rfl rfl ?_
    refine aw_if_lt (tgt := 167) d_M_findWrong_119 (by decide) (fun c119 => ?_) (fun c119 => ?_)
    · exact absurd c119 (nI_pos (by omega))
    · first | refine aw_aload_n d_M_findWrong_122 rfl rfl ?_ | refine aw_aload_nQ d_M_findWrong_122 rfl rfl ?_ | refine aw_aload_nN d_M_findWrong_122 rfl rfl ?_
      refine aM_get (by assumption) fl_M_62 (by decide) rfl d_M_findWrong_123 ?_
      refine aw_iload_n d_M_findWrong_126 rfl rfl ?_
      refine aM_iald (by assumption) (by decide) rfl rfl (show w < 4096 from ks) (by decide) d_M_findWrong_127 ?_
      first | refine aw_aload_n d_M_findWrong_128 rfl rfl ?_ | refine aw_aload_nQ d_M_findWrong_128 rfl rfl ?_ | refine aw_aload_nN d_M_findWrong_128 rfl rfl ?_
      refine aM_get (by assumption) fl_M_62 (by decide) rfl d_M_findWrong_129 ?_
      refine aw_iload_n d_M_findWrong_132 rfl rfl ?_
      refine aM_iald (by assumption) (by decide) rfl rfl (show j < 4096 from jb) (by decide) d_M_findWrong_133 ?_
      refine aw_icmp_lt (tgt := 167) d_M_findWrong_134 (by decide) (fun c134 => ?_) (fun c134 => ?_)
      · refine aw_iconst (v := 1) d_M_findWrong_167 (by decide) ?_
        refine aw_goto (tgt := 172) d_M_findWrong_168 (by decide) ?_
        refine aw_istore d_M_findWrong_172 (by decide) rfl ?_
        refine aw_iload d_M_findWrong_174 rfl ?_
        refine aw_if_eq (tgt := 200) d_M_findWrong_176 (by decide) (fun c176 => ?_) (fun c176 => ?_)
        · exact k0 _ (fun q => q.1 c176)
        · refine aw_iload d_M_findWrong_179 rfl ?_
          refine aw_if_ne (tgt := 187) d_M_findWrong_181 (by decide) (fun c181 => ?_) (fun c181 => ?_)
          · refine aw_iload_n d_M_findWrong_187 rfl rfl ?_
            refine aw_istore_n d_M_findWrong_188 rfl (by decide) rfl ?_
            refine aw_iload d_M_findWrong_189 rfl ?_
            refine aw_if_eq (tgt := 198) d_M_findWrong_191 (by decide) (fun c191 => ?_) (fun c191 => ?_)
            · refine aw_iconst (v := 4) d_M_findWrong_198 (by decide) ?_
              refine aw_istore_n d_M_findWrong_199 rfl (by decide) rfl ?_
              exact k1 _ _ (if_pos c191).symm ⟨c176, Or.inr (Or.inl (by rw [ej]; exact c134))⟩
            · refine aw_iconst (v := 3) d_M_findWrong_194 (by decide) ?_
              refine aw_goto (tgt := 199) d_M_findWrong_195 (by decide) ?_
              refine aw_istore_n d_M_findWrong_199 rfl (by decide) rfl ?_
              exact k1 _ _ (if_neg c191).symm ⟨c176, Or.inr (Or.inl (by rw [ej]; exact c134))⟩
          · exact absurd c181 (by decide)
      · first | refine aw_aload_n d_M_findWrong_137 rfl rfl ?_ | refine aw_aload_nQ d_M_findWrong_137 rfl rfl ?_ | refine aw_aload_nN d_M_findWrong_137 rfl rfl ?_
        refine aM_get (by assumption) fl_M_62 (by decide) rfl d_M_findWrong_138 ?_
        refine aw_iload_n d_M_findWrong_141 rfl rfl ?_
        refine aM_iald (by assumption) (by decide) rfl rfl (show w < 4096 from ks) (by decide) d_M_findWrong_142 ?_
        first | refine aw_aload_n d_M_findWrong_143 rfl rfl ?_ | refine aw_aload_nQ d_M_findWrong_143 rfl rfl ?_ | refine aw_aload_nN d_M_findWrong_143 rfl rfl ?_
        refine aM_get (by assumption) fl_M_62 (by decide) rfl d_M_findWrong_144 ?_
        refine aw_iload_n d_M_findWrong_147 rfl rfl ?_
        refine aM_iald (by assumption) (by decide) rfl rfl (show j < 4096 from jb) (by decide) d_M_findWrong_148 ?_
        refine aw_icmp_ne (tgt := 171) d_M_findWrong_149 (by decide) (fun c149 => ?_) (fun c149 => ?_)
        · refine aw_iconst (v := 0) d_M_findWrong_171 (by decide) ?_
          refine aw_istore d_M_findWrong_172 (by decide) rfl ?_
          refine aw_iload d_M_findWrong_174 rfl ?_
          refine aw_if_eq (tgt := 200) d_M_findWrong_176 (by decide) (fun c176 => ?_) (fun c176 => ?_)
          · exact k0 _ (fun q => q.1 c176)
          · refine aw_iload d_M_findWrong_179 rfl ?_
            refine aw_if_ne (tgt := 187) d_M_findWrong_181 (by decide) (fun c181 => ?_) (fun c181 => ?_)
            · exact absurd (by decide) c181
            · refine aw_goto (tgt := 200) d_M_findWrong_184 (by decide) ?_
              exact k0 _ (fun q => q.2.elim (nI_pos (by omega)) (fun z => by rw [ej] at z; exact z.elim c134 (fun y => c149 y.1)))
        · first | refine aw_aload_n d_M_findWrong_152 rfl rfl ?_ | refine aw_aload_nQ d_M_findWrong_152 rfl rfl ?_ | refine aw_aload_nN d_M_findWrong_152 rfl rfl ?_
          refine aM_get (by assumption) fl_M_80 (by decide) rfl d_M_findWrong_153 ?_
          refine aw_iload_n d_M_findWrong_156 rfl rfl ?_
          refine aM_iald (by assumption) (by decide) rfl rfl (show w < 4096 from ks) (by decide) d_M_findWrong_157 ?_
          first | refine aw_aload_n d_M_findWrong_158 rfl rfl ?_ | refine aw_aload_nQ d_M_findWrong_158 rfl rfl ?_ | refine aw_aload_nN d_M_findWrong_158 rfl rfl ?_
          refine aM_get (by assumption) fl_M_80 (by decide) rfl d_M_findWrong_159 ?_
          refine aw_iload_n d_M_findWrong_162 rfl rfl ?_
          refine aM_iald (by assumption) (by decide) rfl rfl (show j < 4096 from jb) (by decide) d_M_findWrong_163 ?_
          refine aw_icmp_ge (tgt := 171) d_M_findWrong_164 (by decide) (fun c164 => ?_) (fun c164 => ?_)
          · refine aw_iconst (v := 0) d_M_findWrong_171 (by decide) ?_
            refine aw_istore d_M_findWrong_172 (by decide) rfl ?_
            refine aw_iload d_M_findWrong_174 rfl ?_
            refine aw_if_eq (tgt := 200) d_M_findWrong_176 (by decide) (fun c176 => ?_) (fun c176 => ?_)
            · exact k0 _ (fun q => q.1 c176)
            · refine aw_iload d_M_findWrong_179 rfl ?_
              refine aw_if_ne (tgt := 187) d_M_findWrong_181 (by decide) (fun c181 => ?_) (fun c181 => ?_)
              · exact absurd (by decide) c181
              · refine aw_goto (tgt := 200) d_M_findWrong_184 (by decide) ?_
                exact k0 _ (fun q => q.2.elim (nI_pos (by omega)) (fun z => by rw [ej] at z; exact z.elim c134 (fun y => absurd y.2 (Int32.not_lt.mpr c164))))
          · refine aw_iconst (v := 1) d_M_findWrong_167 (by decide) ?_
            refine aw_goto (tgt := 172) d_M_findWrong_168 (by decide) ?_
            refine aw_istore d_M_findWrong_172 (by decide) rfl ?_
            refine aw_iload d_M_findWrong_174 rfl ?_
            refine aw_if_eq (tgt := 200) d_M_findWrong_176 (by decide) (fun c176 => ?_) (fun c176 => ?_)
            · exact k0 _ (fun q => q.1 c176)
            · refine aw_iload d_M_findWrong_179 rfl ?_
              refine aw_if_ne (tgt := 187) d_M_findWrong_181 (by decide) (fun c181 => ?_) (fun c181 => ?_)
              · refine aw_iload_n d_M_findWrong_187 rfl rfl ?_
                refine aw_istore_n d_M_findWrong_188 rfl (by decide) rfl ?_
                refine aw_iload d_M_findWrong_189 rfl ?_
                refine aw_if_eq (tgt := 198) d_M_findWrong_191 (by decide) (fun c191 => ?_) (fun c191 => ?_)
                · refine aw_iconst (v := 4) d_M_findWrong_198 (by decide) ?_
                  refine aw_istore_n d_M_findWrong_199 rfl (by decide) rfl ?_
                  exact k1 _ _ (if_pos c191).symm ⟨c176, Or.inr (Or.inr (by rw [ej]; exact ⟨c149, Int32.not_le.mp c164⟩))⟩
                · refine aw_iconst (v := 3) d_M_findWrong_194 (by decide) ?_
                  refine aw_goto (tgt := 199) d_M_findWrong_195 (by decide) ?_
                  refine aw_istore_n d_M_findWrong_199 rfl (by decide) rfl ?_
                  exact k1 _ _ (if_neg c191).symm ⟨c176, Or.inr (Or.inr (by rw [ej]; exact ⟨c149, Int32.not_le.mp c164⟩))⟩
              · exact absurd c181 (by decide)
set_option maxRecDepth 20000 in
theorem l_M_wrong {G : ax_G} {x : ax_X} {h0 : ax_H} {P : Option Value → ax_H → Prop} {m : Nat} (s : mSt) (e : Nat → Nat → Nat) (U S W : Nat) (hUb : U ≤ 32) (hS : s.1 2 = nI S) (hSb : S ≤ 2048) (hW : s.1 3 = nI W) (hWb : W ≤ 4096) (hI : mI2 s e U S) (hI3 : mI3 s e S) (hI4 : mI4 s e U S W) (h : ax_H) (hR : mR m s h) (hp : ∀ h2, mR m (mWrong s e S W) h2 → mFr m h h2 → P none h2) : ∀ r w (a : Int32 × Int32) o4 o5 o6 o7 o8, w + r = W → (a.1 = -1 ∨ ∃ j, j < 4096 ∧ a.1 = nI j) → mWrL s e S W 0 (-1, 0) = mWrL s e S r w a → AW G x Y_M_findWrong 4 94 h0 P h 6 [some (.ref m), some (.int a.1), some (.int a.2), some (.int (nI w)), o4, o5, o6, o7, o8] [] := by
  intro r
  induction r with
  | zero =>
    intro w a o4 o5 o6 o7 o8 hw hb he
    have hww : w = W := by omega
    subst hww
    have he : mWrL s e S w 0 (-1, 0) = a := he
    rw [mWrong, he] at hp
    obtain ⟨b, hh⟩ := a
    rcases hb with hb | ⟨j, jb, hb⟩
    · have hb : b = -1 := hb
      subst hb
      refine aw_iload_n d_M_findWrong_6 rfl rfl ?_
      first | refine aw_aload_n d_M_findWrong_7 rfl rfl ?_ | refine aw_aload_nQ d_M_findWrong_7 rfl rfl ?_ | refine aw_aload_nN d_M_findWrong_7 rfl rfl ?_
      refine aM_get (by assumption) fl_M_132 (by decide) rfl d_M_findWrong_8 ?_
      refine aw_icmp_ge (tgt := 206) d_M_findWrong_11 (by decide) (fun c11 => ?_) (fun c11 => ?_)
      · refine aw_iload_n d_M_findWrong_206 rfl rfl ?_
        refine aw_if_lt (tgt := 227) d_M_findWrong_207 (by decide) (fun c207 => ?_) (fun c207 => ?_)
        · refine aw_vret ?_ rfl d_M_findWrong_227
          exact hp _ (by rw [if_pos (show (-1 : Int32) < 0 by decide)]; exact hR) (mFr.rf m h)
        · exact absurd (show (-1 : Int32) < 0 by decide) c207
      · exact absurd (show s.1 3 ≤ nI w by rw [hW]; exact nI_le (Nat.le_refl _) (by omega)) c11
    · have hb : b = nI j := hb
      subst hb
      have ej : iN (nI j) = j := nI_clamp (by omega)
      have hp : ∀ h2, mR m (mFail s hh (s.2.1 17 j) (s.2.1 23 j)) h2 → mFr m h h2 → P none h2 := by
        intro h2 q1 q2
        refine hp h2 ?_ q2
        rw [if_neg (show ¬ nI j < 0 from nI_pos (by omega))]
        show mR m (mFail s hh (s.2.1 17 (iN (nI j))) (s.2.1 23 (iN (nI j)))) h2
        rw [ej]
        exact q1
      refine aw_iload_n d_M_findWrong_6 rfl rfl ?_
      first | refine aw_aload_n d_M_findWrong_7 rfl rfl ?_ | refine aw_aload_nQ d_M_findWrong_7 rfl rfl ?_ | refine aw_aload_nN d_M_findWrong_7 rfl rfl ?_
      refine aM_get (by assumption) fl_M_132 (by decide) rfl d_M_findWrong_8 ?_
      refine aw_icmp_ge (tgt := 206) d_M_findWrong_11 (by decide) (fun c11 => ?_) (fun c11 => ?_)
      · refine aw_iload_n d_M_findWrong_206 rfl rfl ?_
        refine aw_if_lt (tgt := 227) d_M_findWrong_207 (by decide) (fun c207 => ?_) (fun c207 => ?_)
        · exact absurd c207 (nI_pos (by omega))
        · first | refine aw_aload_n d_M_findWrong_210 rfl rfl ?_ | refine aw_aload_nQ d_M_findWrong_210 rfl rfl ?_ | refine aw_aload_nN d_M_findWrong_210 rfl rfl ?_
          refine aw_iload_n d_M_findWrong_211 rfl rfl ?_
          first | refine aw_aload_n d_M_findWrong_212 rfl rfl ?_ | refine aw_aload_nQ d_M_findWrong_212 rfl rfl ?_ | refine aw_aload_nN d_M_findWrong_212 rfl rfl ?_
          refine aM_get (by assumption) fl_M_62 (by decide) rfl d_M_findWrong_213 ?_
          refine aw_iload_n d_M_findWrong_216 rfl rfl ?_
          refine aM_iald (by assumption) (by decide) rfl rfl jb (by decide) d_M_findWrong_217 ?_
          first | refine aw_aload_n d_M_findWrong_218 rfl rfl ?_ | refine aw_aload_nQ d_M_findWrong_218 rfl rfl ?_ | refine aw_aload_nN d_M_findWrong_218 rfl rfl ?_
          refine aM_get (by assumption) fl_M_80 (by decide) rfl d_M_findWrong_219 ?_
          refine aw_iload_n d_M_findWrong_222 rfl rfl ?_
          refine aM_iald (by assumption) (by decide) rfl rfl jb (by decide) d_M_findWrong_223 ?_
          refine aw_callV (c_M_fail G _ m s (by assumption) _ _ _) cl_M (mR.obj (by assumption)) m_M_fail ml_M_184 rfl rfl (by decide) (by decide) (Nat.le_of_ble_eq_true rfl) d_M_findWrong_224 ?_
          rintro v h' ⟨rfl, hRg, hFg⟩
          refine aw_vret ?_ rfl d_M_findWrong_227
          exact hp _ hRg hFg
      · exact absurd (show s.1 3 ≤ nI w by rw [hW]; exact nI_le (Nat.le_refl _) (by omega)) c11
  | succ r ih =>
    intro w a o4 o5 o6 o7 o8 hw hb he
    obtain ⟨⟨u1, u2⟩, ⟨v1, v2⟩, hwt⟩ := hI4 w (by omega)
    have ks : w < 4096 := by omega
    have i1 : 4 * s.2.1 17 w + s.2.1 18 w = nI (mSrc e w) := by rw [u1, v1, show (4 : Int32) = nI 4 from rfl, pk_mul, nI_add]
    rw [mWrL] at he
    refine aw_iload_n d_M_findWrong_6 rfl rfl ?_
    first | refine aw_aload_n d_M_findWrong_7 rfl rfl ?_ | refine aw_aload_nQ d_M_findWrong_7 rfl rfl ?_ | refine aw_aload_nN d_M_findWrong_7 rfl rfl ?_
    refine aM_get (by assumption) fl_M_132 (by decide) rfl d_M_findWrong_8 ?_
    refine aw_icmp_ge (tgt := 206) d_M_findWrong_11 (by decide) (fun c11 => ?_) (fun c11 => ?_)
    · exact absurd c11 (by rw [show s.1 3 = nI W from hW]; exact nI_ge (by omega) (by omega))
    · first | refine aw_aload_n d_M_findWrong_14 rfl rfl ?_ | refine aw_aload_nQ d_M_findWrong_14 rfl rfl ?_ | refine aw_aload_nN d_M_findWrong_14 rfl rfl ?_
      refine aM_get (by assumption) fl_M_19 (by decide) rfl d_M_findWrong_15 ?_
      refine aw_iconst (v := 4) d_M_findWrong_18 (by decide) ?_
      first | refine aw_aload_n d_M_findWrong_19 rfl rfl ?_ | refine aw_aload_nQ d_M_findWrong_19 rfl rfl ?_ | refine aw_aload_nN d_M_findWrong_19 rfl rfl ?_
      refine aM_get (by assumption) fl_M_62 (by decide) rfl d_M_findWrong_20 ?_
      refine aw_iload_n d_M_findWrong_23 rfl rfl ?_
      refine aM_iald (by assumption) (by decide) rfl rfl (show w < 4096 from ks) (by decide) d_M_findWrong_24 ?_
      refine aw_imul d_M_findWrong_25 ?_
      first | refine aw_aload_n d_M_findWrong_26 rfl rfl ?_ | refine aw_aload_nQ d_M_findWrong_26 rfl rfl ?_ | refine aw_aload_nN d_M_findWrong_26 rfl rfl ?_
      refine aM_get (by assumption) fl_M_65 (by decide) rfl d_M_findWrong_27 ?_
      refine aw_iload_n d_M_findWrong_30 rfl rfl ?_
      refine aM_iald (by assumption) (by decide) rfl rfl (show w < 4096 from ks) (by decide) d_M_findWrong_31 ?_
      refine aw_iadd d_M_findWrong_32 ?_
      refine aM_zald (by assumption) (by decide) rfl i1 (show 4 * e 17 w + e 18 w < 128 by omega) (by decide) d_M_findWrong_33 ?_
      refine aw_if_ne (tgt := 40) d_M_findWrong_34 (by decide) (fun c34 => ?_) (fun c34 => ?_)
      · first | refine aw_aload_n d_M_findWrong_40 rfl rfl ?_ | refine aw_aload_nQ d_M_findWrong_40 rfl rfl ?_ | refine aw_aload_nN d_M_findWrong_40 rfl rfl ?_
        refine aM_get (by assumption) fl_M_77 (by decide) rfl d_M_findWrong_41 ?_
        refine aw_iload_n d_M_findWrong_44 rfl rfl ?_
        refine aM_iald (by assumption) (by decide) rfl rfl (show w < 4096 from ks) (by decide) d_M_findWrong_45 ?_
        refine aw_if_lt (tgt := 67) d_M_findWrong_46 (by decide) (fun c46 => ?_) (fun c46 => ?_)
        · refine aw_iconst (v := 0) d_M_findWrong_67 (by decide) ?_
          refine aw_istore d_M_findWrong_68 (by decide) rfl ?_
          refine aw_iload d_M_findWrong_70 rfl ?_
          refine aw_if_eq (tgt := 79) d_M_findWrong_72 (by decide) (fun c72 => ?_) (fun c72 => ?_)
          · first | refine aw_aload_n d_M_findWrong_79 rfl rfl ?_ | refine aw_aload_nQ d_M_findWrong_79 rfl rfl ?_ | refine aw_aload_nN d_M_findWrong_79 rfl rfl ?_
            refine aw_iload_n d_M_findWrong_80 rfl rfl ?_
            refine aw_callV (c_M_valueOf G _ m s hR e U S W hUb hS hSb hW hWb hI hI3 hI4 w (by omega)) cl_M (mR.obj (by assumption)) m_M_valueOf ml_M_198 rfl rfl (by decide) (by decide) (Nat.le_of_ble_eq_true rfl) d_M_findWrong_81 ?_
            rintro v h' ⟨rfl, rfl⟩
            refine aw_lstore d_M_findWrong_84 (by decide) rfl ?_
            refine aw_iload d_M_findWrong_86 rfl ?_
            refine aw_if_ne (tgt := 111) d_M_findWrong_88 (by decide) (fun c88 => ?_) (fun c88 => ?_)
            · exact absurd rfl c88
            · first | refine aw_aload_n d_M_findWrong_91 rfl rfl ?_ | refine aw_aload_nQ d_M_findWrong_91 rfl rfl ?_ | refine aw_aload_nN d_M_findWrong_91 rfl rfl ?_
              refine aM_get (by assumption) fl_M_71 (by decide) rfl d_M_findWrong_92 ?_
              refine aw_iload_n d_M_findWrong_95 rfl rfl ?_
              refine aM_iald (by assumption) (by decide) rfl rfl (show w < 4096 from ks) (by decide) d_M_findWrong_96 ?_
              refine aw_iconst (v := 4) d_M_findWrong_97 (by decide) ?_
              refine aw_icmp_ne (tgt := 115) d_M_findWrong_98 (by decide) (fun c98 => ?_) (fun c98 => ?_)
              · refine aw_iconst (v := 0) d_M_findWrong_115 (by decide) ?_
                refine aw_istore d_M_findWrong_116 (by decide) rfl ?_
                have hms : ¬ mMs (s.2.1 3) (mT s e S) e w := fun q => absurd c46 (by
                  rcases hwt with h1 | ⟨c, h1, h2, h3⟩ | ⟨k, h1, h2, h3⟩
                  · omega
                  · omega
                  · rw [show s.2.1 22 w = nI k from h3]
                    exact nI_pos (by omega))
                have hwg : ¬ mWg s e S w := fun q => q.elim hms (fun z => c98 z.1)
                refine t_M_wrong s w ks a.1 a.2 0 0 _ _ _ _ hR hb (fun o8 k0 => ?_) (fun o8 hz ehz k1 => ?_)
                · refine aw_iinc (v := nI (w + 1)) d_M_findWrong_200 rfl (ax_inc w) (by decide) rfl ?_
                  refine aw_goto (tgt := 6) d_M_findWrong_203 (by decide) ?_
                  rw [if_neg (fun q : ¬ s.2.1 4 (mSrc e w) = 0 ∧ mWg s e S w ∧ mEar (s.2.1 17) (s.2.1 23) a.1 w => k0 ⟨absurd q.2.1 hwg, q.2.2⟩)] at he
                  exact ih (w + 1) a _ _ _ _ _ (by omega) hb he
                · exact absurd rfl k1.1
              · refine aw_lload d_M_findWrong_101 rfl ?_
                refine aw_lload d_M_findWrong_103 rfl ?_
                refine aw_l2i d_M_findWrong_105 ?_
                refine aw_i2l d_M_findWrong_106 ?_
                refine aw_lcmp d_M_findWrong_107 ?_
                refine aw_if_eq (tgt := 115) d_M_findWrong_108 (by decide) (fun c108 => ?_) (fun c108 => ?_)
                · refine aw_iconst (v := 0) d_M_findWrong_115 (by decide) ?_
                  refine aw_istore d_M_findWrong_116 (by decide) rfl ?_
                  have hms : ¬ mMs (s.2.1 3) (mT s e S) e w := fun q => absurd c46 (by
                    rcases hwt with h1 | ⟨c, h1, h2, h3⟩ | ⟨k, h1, h2, h3⟩
                    · omega
                    · omega
                    · rw [show s.2.1 22 w = nI k from h3]
                      exact nI_pos (by omega))
                  have hwg : ¬ mWg s e S w := fun q => q.elim hms (fun z => z.2 ((lg_cmp_eq _ _).mp c108))
                  refine t_M_wrong s w ks a.1 a.2 0 0 _ _ _ _ hR hb (fun o8 k0 => ?_) (fun o8 hz ehz k1 => ?_)
                  · refine aw_iinc (v := nI (w + 1)) d_M_findWrong_200 rfl (ax_inc w) (by decide) rfl ?_
                    refine aw_goto (tgt := 6) d_M_findWrong_203 (by decide) ?_
                    rw [if_neg (fun q : ¬ s.2.1 4 (mSrc e w) = 0 ∧ mWg s e S w ∧ mEar (s.2.1 17) (s.2.1 23) a.1 w => k0 ⟨absurd q.2.1 hwg, q.2.2⟩)] at he
                    exact ih (w + 1) a _ _ _ _ _ (by omega) hb he
                  · exact absurd rfl k1.1
                · refine aw_iconst (v := 1) d_M_findWrong_111 (by decide) ?_
                  refine aw_goto (tgt := 116) d_M_findWrong_112 (by decide) ?_
                  refine aw_istore d_M_findWrong_116 (by decide) rfl ?_
                  have hms : ¬ mMs (s.2.1 3) (mT s e S) e w := fun q => absurd c46 (by
                    rcases hwt with h1 | ⟨c, h1, h2, h3⟩ | ⟨k, h1, h2, h3⟩
                    · omega
                    · omega
                    · rw [show s.2.1 22 w = nI k from h3]
                      exact nI_pos (by omega))
                  have hwg : mWg s e S w := Or.inr ⟨c98, fun q => c108 ((lg_cmp_eq _ _).mpr q)⟩
                  refine t_M_wrong s w ks a.1 a.2 0 1 _ _ _ _ hR hb (fun o8 k0 => ?_) (fun o8 hz ehz k1 => ?_)
                  · refine aw_iinc (v := nI (w + 1)) d_M_findWrong_200 rfl (ax_inc w) (by decide) rfl ?_
                    refine aw_goto (tgt := 6) d_M_findWrong_203 (by decide) ?_
                    rw [if_neg (fun q : ¬ s.2.1 4 (mSrc e w) = 0 ∧ mWg s e S w ∧ mEar (s.2.1 17) (s.2.1 23) a.1 w => k0 ⟨(by decide), q.2.2⟩)] at he
                    exact ih (w + 1) a _ _ _ _ _ (by omega) hb he
                  · refine aw_iinc (v := nI (w + 1)) d_M_findWrong_200 rfl (ax_inc w) (by decide) rfl ?_
                    refine aw_goto (tgt := 6) d_M_findWrong_203 (by decide) ?_
                    rw [if_pos (show ¬ s.2.1 4 (mSrc e w) = 0 ∧ mWg s e S w ∧ mEar (s.2.1 17) (s.2.1 23) a.1 w from ⟨c34, hwg, k1.2⟩), if_neg hms] at he
                    have ehz : hz = 4 := ehz.trans (if_pos rfl)
                    subst ehz
                    exact ih (w + 1) _ _ _ _ _ _ (by omega) (Or.inr ⟨w, ks, rfl⟩) he
          · exact absurd rfl c72
        · obtain ⟨k, h1, h2, h3⟩ : ∃ k, k < S ∧ e 22 w = k + 5 ∧ s.2.1 22 w = nI k := (hwt.resolve_left (fun q => c46 (by rw [show s.2.1 22 w = -1 from q.2]; decide))).resolve_left (fun ⟨c, q1, _, q3⟩ => i_m3 q1 (q3 ▸ Int32.not_lt.mp c46))
          first | refine aw_aload_n d_M_findWrong_49 rfl rfl ?_ | refine aw_aload_nQ d_M_findWrong_49 rfl rfl ?_ | refine aw_aload_nN d_M_findWrong_49 rfl rfl ?_
          first | refine aw_aload_n d_M_findWrong_50 rfl rfl ?_ | refine aw_aload_nQ d_M_findWrong_50 rfl rfl ?_ | refine aw_aload_nN d_M_findWrong_50 rfl rfl ?_
          refine aM_get (by assumption) fl_M_77 (by decide) rfl d_M_findWrong_51 ?_
          refine aw_iload_n d_M_findWrong_54 rfl rfl ?_
          refine aM_iald (by assumption) (by decide) rfl rfl (show w < 4096 from ks) (by decide) d_M_findWrong_55 ?_
          refine aw_callV (c_M_standsForE G _ m _ hR e U S hUb hS hSb hI k h1 _ h3) cl_M (mR.obj (by assumption)) m_M_standsFor ml_M_188 rfl rfl (by decide) (by decide) (Nat.le_of_ble_eq_true rfl) d_M_findWrong_56 ?_
          rintro v h' ⟨rfl, rfl⟩
          refine aw_iconst (v := (-1)) d_M_findWrong_59 (by decide) ?_
          refine aw_icmp_ne (tgt := 67) d_M_findWrong_60 (by decide) (fun c60 => ?_) (fun c60 => ?_)
          · refine aw_iconst (v := 0) d_M_findWrong_67 (by decide) ?_
            refine aw_istore d_M_findWrong_68 (by decide) rfl ?_
            refine aw_iload d_M_findWrong_70 rfl ?_
            refine aw_if_eq (tgt := 79) d_M_findWrong_72 (by decide) (fun c72 => ?_) (fun c72 => ?_)
            · first | refine aw_aload_n d_M_findWrong_79 rfl rfl ?_ | refine aw_aload_nQ d_M_findWrong_79 rfl rfl ?_ | refine aw_aload_nN d_M_findWrong_79 rfl rfl ?_
              refine aw_iload_n d_M_findWrong_80 rfl rfl ?_
              refine aw_callV (c_M_valueOf G _ m s hR e U S W hUb hS hSb hW hWb hI hI3 hI4 w (by omega)) cl_M (mR.obj (by assumption)) m_M_valueOf ml_M_198 rfl rfl (by decide) (by decide) (Nat.le_of_ble_eq_true rfl) d_M_findWrong_81 ?_
              rintro v h' ⟨rfl, rfl⟩
              refine aw_lstore d_M_findWrong_84 (by decide) rfl ?_
              refine aw_iload d_M_findWrong_86 rfl ?_
              refine aw_if_ne (tgt := 111) d_M_findWrong_88 (by decide) (fun c88 => ?_) (fun c88 => ?_)
              · exact absurd rfl c88
              · first | refine aw_aload_n d_M_findWrong_91 rfl rfl ?_ | refine aw_aload_nQ d_M_findWrong_91 rfl rfl ?_ | refine aw_aload_nN d_M_findWrong_91 rfl rfl ?_
                refine aM_get (by assumption) fl_M_71 (by decide) rfl d_M_findWrong_92 ?_
                refine aw_iload_n d_M_findWrong_95 rfl rfl ?_
                refine aM_iald (by assumption) (by decide) rfl rfl (show w < 4096 from ks) (by decide) d_M_findWrong_96 ?_
                refine aw_iconst (v := 4) d_M_findWrong_97 (by decide) ?_
                refine aw_icmp_ne (tgt := 115) d_M_findWrong_98 (by decide) (fun c98 => ?_) (fun c98 => ?_)
                · refine aw_iconst (v := 0) d_M_findWrong_115 (by decide) ?_
                  refine aw_istore d_M_findWrong_116 (by decide) rfl ?_
                  have hms : ¬ mMs (s.2.1 3) (mT s e S) e w := fun q => c60 (by have q := q.2; rw [h2] at q; exact q)
                  have hwg : ¬ mWg s e S w := fun q => q.elim hms (fun z => c98 z.1)
                  refine t_M_wrong s w ks a.1 a.2 0 0 _ _ _ _ hR hb (fun o8 k0 => ?_) (fun o8 hz ehz k1 => ?_)
                  · refine aw_iinc (v := nI (w + 1)) d_M_findWrong_200 rfl (ax_inc w) (by decide) rfl ?_
                    refine aw_goto (tgt := 6) d_M_findWrong_203 (by decide) ?_
                    rw [if_neg (fun q : ¬ s.2.1 4 (mSrc e w) = 0 ∧ mWg s e S w ∧ mEar (s.2.1 17) (s.2.1 23) a.1 w => k0 ⟨absurd q.2.1 hwg, q.2.2⟩)] at he
                    exact ih (w + 1) a _ _ _ _ _ (by omega) hb he
                  · exact absurd rfl k1.1
                · refine aw_lload d_M_findWrong_101 rfl ?_
                  refine aw_lload d_M_findWrong_103 rfl ?_
                  refine aw_l2i d_M_findWrong_105 ?_
                  refine aw_i2l d_M_findWrong_106 ?_
                  refine aw_lcmp d_M_findWrong_107 ?_
                  refine aw_if_eq (tgt := 115) d_M_findWrong_108 (by decide) (fun c108 => ?_) (fun c108 => ?_)
                  · refine aw_iconst (v := 0) d_M_findWrong_115 (by decide) ?_
                    refine aw_istore d_M_findWrong_116 (by decide) rfl ?_
                    have hms : ¬ mMs (s.2.1 3) (mT s e S) e w := fun q => c60 (by have q := q.2; rw [h2] at q; exact q)
                    have hwg : ¬ mWg s e S w := fun q => q.elim hms (fun z => z.2 ((lg_cmp_eq _ _).mp c108))
                    refine t_M_wrong s w ks a.1 a.2 0 0 _ _ _ _ hR hb (fun o8 k0 => ?_) (fun o8 hz ehz k1 => ?_)
                    · refine aw_iinc (v := nI (w + 1)) d_M_findWrong_200 rfl (ax_inc w) (by decide) rfl ?_
                      refine aw_goto (tgt := 6) d_M_findWrong_203 (by decide) ?_
                      rw [if_neg (fun q : ¬ s.2.1 4 (mSrc e w) = 0 ∧ mWg s e S w ∧ mEar (s.2.1 17) (s.2.1 23) a.1 w => k0 ⟨absurd q.2.1 hwg, q.2.2⟩)] at he
                      exact ih (w + 1) a _ _ _ _ _ (by omega) hb he
                    · exact absurd rfl k1.1
                  · refine aw_iconst (v := 1) d_M_findWrong_111 (by decide) ?_
                    refine aw_goto (tgt := 116) d_M_findWrong_112 (by decide) ?_
                    refine aw_istore d_M_findWrong_116 (by decide) rfl ?_
                    have hms : ¬ mMs (s.2.1 3) (mT s e S) e w := fun q => c60 (by have q := q.2; rw [h2] at q; exact q)
                    have hwg : mWg s e S w := Or.inr ⟨c98, fun q => c108 ((lg_cmp_eq _ _).mpr q)⟩
                    refine t_M_wrong s w ks a.1 a.2 0 1 _ _ _ _ hR hb (fun o8 k0 => ?_) (fun o8 hz ehz k1 => ?_)
                    · refine aw_iinc (v := nI (w + 1)) d_M_findWrong_200 rfl (ax_inc w) (by decide) rfl ?_
                      refine aw_goto (tgt := 6) d_M_findWrong_203 (by decide) ?_
                      rw [if_neg (fun q : ¬ s.2.1 4 (mSrc e w) = 0 ∧ mWg s e S w ∧ mEar (s.2.1 17) (s.2.1 23) a.1 w => k0 ⟨(by decide), q.2.2⟩)] at he
                      exact ih (w + 1) a _ _ _ _ _ (by omega) hb he
                    · refine aw_iinc (v := nI (w + 1)) d_M_findWrong_200 rfl (ax_inc w) (by decide) rfl ?_
                      refine aw_goto (tgt := 6) d_M_findWrong_203 (by decide) ?_
                      rw [if_pos (show ¬ s.2.1 4 (mSrc e w) = 0 ∧ mWg s e S w ∧ mEar (s.2.1 17) (s.2.1 23) a.1 w from ⟨c34, hwg, k1.2⟩), if_neg hms] at he
                      have ehz : hz = 4 := ehz.trans (if_pos rfl)
                      subst ehz
                      exact ih (w + 1) _ _ _ _ _ _ (by omega) (Or.inr ⟨w, ks, rfl⟩) he
            · exact absurd rfl c72
          · refine aw_iconst (v := 1) d_M_findWrong_63 (by decide) ?_
            refine aw_goto (tgt := 68) d_M_findWrong_64 (by decide) ?_
            refine aw_istore d_M_findWrong_68 (by decide) rfl ?_
            refine aw_iload d_M_findWrong_70 rfl ?_
            refine aw_if_eq (tgt := 79) d_M_findWrong_72 (by decide) (fun c72 => ?_) (fun c72 => ?_)
            · exact absurd c72 (by decide)
            · refine aw_lconst (v := 0) d_M_findWrong_75 (by decide) ?_
              refine aw_goto (tgt := 84) d_M_findWrong_76 (by decide) ?_
              refine aw_lstore d_M_findWrong_84 (by decide) rfl ?_
              refine aw_iload d_M_findWrong_86 rfl ?_
              refine aw_if_ne (tgt := 111) d_M_findWrong_88 (by decide) (fun c88 => ?_) (fun c88 => ?_)
              · refine aw_iconst (v := 1) d_M_findWrong_111 (by decide) ?_
                refine aw_goto (tgt := 116) d_M_findWrong_112 (by decide) ?_
                refine aw_istore d_M_findWrong_116 (by decide) rfl ?_
                have hms : mMs (s.2.1 3) (mT s e S) e w := ⟨by omega, by rw [h2]; exact c60⟩
                have hwg : mWg s e S w := Or.inl hms
                refine t_M_wrong s w ks a.1 a.2 1 1 _ _ _ _ hR hb (fun o8 k0 => ?_) (fun o8 hz ehz k1 => ?_)
                · refine aw_iinc (v := nI (w + 1)) d_M_findWrong_200 rfl (ax_inc w) (by decide) rfl ?_
                  refine aw_goto (tgt := 6) d_M_findWrong_203 (by decide) ?_
                  rw [if_neg (fun q : ¬ s.2.1 4 (mSrc e w) = 0 ∧ mWg s e S w ∧ mEar (s.2.1 17) (s.2.1 23) a.1 w => k0 ⟨(by decide), q.2.2⟩)] at he
                  exact ih (w + 1) a _ _ _ _ _ (by omega) hb he
                · refine aw_iinc (v := nI (w + 1)) d_M_findWrong_200 rfl (ax_inc w) (by decide) rfl ?_
                  refine aw_goto (tgt := 6) d_M_findWrong_203 (by decide) ?_
                  rw [if_pos (show ¬ s.2.1 4 (mSrc e w) = 0 ∧ mWg s e S w ∧ mEar (s.2.1 17) (s.2.1 23) a.1 w from ⟨c34, hwg, k1.2⟩), if_pos hms] at he
                  have ehz : hz = 3 := ehz.trans (if_neg (by decide))
                  subst ehz
                  exact ih (w + 1) _ _ _ _ _ _ (by omega) (Or.inr ⟨w, ks, rfl⟩) he
              · exact absurd c88 (by decide)
      · refine aw_goto (tgt := 200) d_M_findWrong_37 (by decide) ?_
        refine aw_iinc (v := nI (w + 1)) d_M_findWrong_200 rfl (ax_inc w) (by decide) rfl ?_
        refine aw_goto (tgt := 6) d_M_findWrong_203 (by decide) ?_
        rw [if_neg (fun q : ¬ s.2.1 4 (mSrc e w) = 0 ∧ mWg s e S w ∧ mEar (s.2.1 17) (s.2.1 23) a.1 w => q.1 c34)] at he
        exact ih (w + 1) a _ _ _ _ _ (by omega) hb he
set_option maxRecDepth 20000 in
theorem c_M_findWrong (G : ax_G) (h : ax_H) (m : Nat) (s : mSt) (hR : mR m s h) (e : Nat → Nat → Nat) (U S W : Nat) (hUb : U ≤ 32) (hS : s.1 2 = nI S) (hSb : S ≤ 2048) (hW : s.1 3 = nI W) (hWb : W ≤ 4096) (hI : mI2 s e U S) (hI3 : mI3 s e S) (hI4 : mI4 s e U S W) : AM G Y_M_findWrong 4 94 [.ref m] h (fun v h2 => v = none ∧ mR m (mWrong s e S W) h2 ∧ mFr m h h2) := by
  refine aw_enter (by decide) (Nat.le_of_ble_eq_true rfl) (n := 8) (ls := [some (.ref m), none, none, none, none, none, none, none, none]) rfl (fun x => ?_)
  refine aw_iconst (v := (-1)) d_M_findWrong_0 (by decide) ?_
  refine aw_istore_n d_M_findWrong_1 rfl (by decide) rfl ?_
  refine aw_iconst (v := 0) d_M_findWrong_2 (by decide) ?_
  refine aw_istore_n d_M_findWrong_3 rfl (by decide) rfl ?_
  refine aw_iconst (v := 0) d_M_findWrong_4 (by decide) ?_
  refine aw_istore_n d_M_findWrong_5 rfl (by decide) rfl ?_
  exact l_M_wrong s e U S W hUb hS hSb hW hWb hI hI3 hI4 h hR (fun h2 r1 r2 => ⟨rfl, r1, r2⟩) W 0 (-1, 0) _ _ _ _ _ (by omega) (Or.inl rfl) rfl
end
section
theorem mU4 {A : Type} (f : Nat → A) (i j : Nat) (hij : i ≠ j) (a b a2 b2 : A) : va_up (va_up (va_up (va_up f i a) j b) i a2) j b2 = va_up (va_up f i a2) j b2 := by
  funext u
  by_cases h1 : u = j
  · subst h1
    rw [va_up_self, va_up_self]
  · rw [va_up_ne _ _ h1, va_up_ne _ _ h1]
    by_cases h2 : u = i
    · subst h2
      rw [va_up_self, va_up_self]
    · rw [va_up_ne _ _ h2, va_up_ne _ _ h1, va_up_ne _ _ h2, va_up_ne _ _ h2]
/-- the names kept so far: how many, words, lengths, addresses -/
abbrev mKn : Type := Nat × (Nat → Int64) × (Nat → Int32) × (Nat → Int32)
abbrev mKeep (tk nd : Nat → Int32) (g : mTab) (e : Nat → Nat → Nat) (k : Nat) : Prop := ¬ tk (e 11 k) = 0 ∧ mMeant tk g (g.2.2.2.1 k) (g.2.2.1 k) = nI k ∧ ¬ nd (4 * e 11 k + e 13 k) = 0
def mKnL (tk nd ad pl : Nat → Int32) (g : mTab) (e : Nat → Nat → Nat) : Nat → Nat → mKn → mKn
  | 0, _, K => K
  | r + 1, k, K => mKnL tk nd ad pl g e r (k + 1) (if mKeep tk nd g e k then (K.1 + 1, va_up K.2.1 K.1 (g.2.2.2.1 k), va_up K.2.2.1 K.1 (g.2.2.1 k), va_up K.2.2.2 K.1 (mLab1 ad pl e k)) else K)
abbrev mKs (s : mSt) (K : mKn) : mSt := (va_up s.1 42 (nI K.1), va_up (va_up s.2.1 32 K.2.2.1) 33 K.2.2.2, va_up s.2.2 31 K.2.1)
set_option maxRecDepth 20000 in
theorem l_M_keep1 {G : ax_G} {x : ax_X} {h0 : ax_H} {P : Option Value → ax_H → Prop} {m : Nat} (s : mSt) (e : Nat → Nat → Nat) (U S : Nat) (hUb : U ≤ 32) (hS : s.1 2 = nI S) (hSb : S ≤ 2048) (hI : mI2 s e U S) (hI3 : mI3 s e S) (hq : ax_H) (R : mKn) (hk : ∀ h2 o1, mR m (mKs s R) h2 → mFr m hq h2 → AW G x Y_M_keepNames 2 46 h0 P h2 135 [some (.ref m), o1] []) : ∀ r k (K : mKn) h, k + r = S → K.1 ≤ k → mR m (mKs s K) h → mFr m hq h → mKnL (s.2.1 3) (s.2.1 4) (s.2.1 7) (s.2.1 14) (mT s e S) e r k K = R → AW G x Y_M_keepNames 2 46 h0 P h 7 [some (.ref m), some (.int (nI k))] [] := by
  intro r
  induction r with
  | zero =>
    intro k K h hr hn hR hF he
    have hkk : k = S := by omega
    subst hkk
    have he : K = R := he
    subst he
    refine aw_iload_n d_M_keepNames_7 rfl rfl ?_
    first | refine aw_aload_n d_M_keepNames_8 rfl rfl ?_ | refine aw_aload_nQ d_M_keepNames_8 rfl rfl ?_ | refine aw_aload_nN d_M_keepNames_8 rfl rfl ?_
    refine aM_get (by assumption) fl_M_129 (by decide) rfl d_M_keepNames_9 ?_
    refine aw_icmp_ge (tgt := 135) d_M_keepNames_12 (by decide) (fun c12 => ?_) (fun c12 => ?_)
    · exact hk _ _ hR hF
    · exact absurd (show s.1 2 ≤ nI k by rw [hS]; exact nI_le (Nat.le_refl _) (by omega)) c12
  | succ r ih =>
    intro k K h hr hn hR hF he
    obtain ⟨y1, y2⟩ := hI k (by omega)
    have ks : k < 2048 := by omega
    rw [mKnL] at he
    refine aw_iload_n d_M_keepNames_7 rfl rfl ?_
    first | refine aw_aload_n d_M_keepNames_8 rfl rfl ?_ | refine aw_aload_nQ d_M_keepNames_8 rfl rfl ?_ | refine aw_aload_nN d_M_keepNames_8 rfl rfl ?_
    refine aM_get (by assumption) fl_M_129 (by decide) rfl d_M_keepNames_9 ?_
    refine aw_icmp_ge (tgt := 135) d_M_keepNames_12 (by decide) (fun c12 => ?_) (fun c12 => ?_)
    · exact absurd (show s.1 2 ≤ nI k from c12) (by rw [hS]; exact nI_ge (by omega) (by omega))
    · first | refine aw_aload_n d_M_keepNames_15 rfl rfl ?_ | refine aw_aload_nQ d_M_keepNames_15 rfl rfl ?_ | refine aw_aload_nN d_M_keepNames_15 rfl rfl ?_
      refine aM_get (by assumption) fl_M_16 (by decide) rfl d_M_keepNames_16 ?_
      first | refine aw_aload_n d_M_keepNames_19 rfl rfl ?_ | refine aw_aload_nQ d_M_keepNames_19 rfl rfl ?_ | refine aw_aload_nN d_M_keepNames_19 rfl rfl ?_
      refine aM_get (by assumption) fl_M_44 (by decide) rfl d_M_keepNames_20 ?_
      refine aw_iload_n d_M_keepNames_23 rfl rfl ?_
      refine aM_iald (by assumption) (by decide) rfl rfl (show k < 2048 from ks) (by decide) d_M_keepNames_24 ?_
      refine aM_zald (by assumption) (by decide) rfl y1 (show e 11 k < 32 by omega) (by decide) d_M_keepNames_25 ?_
      refine aw_if_eq (tgt := 129) d_M_keepNames_26 (by decide) (fun c26 => ?_) (fun c26 => ?_)
      · refine aw_iinc (v := nI (k + 1)) d_M_keepNames_129 rfl (ax_inc k) (by decide) rfl ?_
        refine aw_goto (tgt := 7) d_M_keepNames_132 (by decide) ?_
        rw [if_neg (fun q : mKeep (s.2.1 3) (s.2.1 4) (mT s e S) e k => q.1 c26)] at he
        exact ih (k + 1) K _ (by omega) (by omega) hR hF he
      · first | refine aw_aload_n d_M_keepNames_29 rfl rfl ?_ | refine aw_aload_nQ d_M_keepNames_29 rfl rfl ?_ | refine aw_aload_nN d_M_keepNames_29 rfl rfl ?_
        first | refine aw_aload_n d_M_keepNames_30 rfl rfl ?_ | refine aw_aload_nQ d_M_keepNames_30 rfl rfl ?_ | refine aw_aload_nN d_M_keepNames_30 rfl rfl ?_
        refine aM_get (by assumption) fl_M_37 (by decide) rfl d_M_keepNames_31 ?_
        refine aw_iload_n d_M_keepNames_34 rfl rfl ?_
        refine aM_lald (by assumption) (by decide) rfl rfl (show k < 2048 from ks) (by decide) d_M_keepNames_35 ?_
        first | refine aw_aload_n d_M_keepNames_36 rfl rfl ?_ | refine aw_aload_nQ d_M_keepNames_36 rfl rfl ?_ | refine aw_aload_nN d_M_keepNames_36 rfl rfl ?_
        refine aM_get (by assumption) fl_M_41 (by decide) rfl d_M_keepNames_37 ?_
        refine aw_iload_n d_M_keepNames_40 rfl rfl ?_
        refine aM_iald (by assumption) (by decide) rfl rfl (show k < 2048 from ks) (by decide) d_M_keepNames_41 ?_
        refine aw_callV (c_M_meant G _ m _ hR e U S hUb hS hSb hI _ _) cl_M (mR.obj (by assumption)) m_M_meant ml_M_171 rfl rfl (by decide) (by decide) (Nat.le_of_ble_eq_true rfl) d_M_keepNames_42 ?_
        rintro v h' ⟨rfl, rfl⟩
        refine aw_iload_n d_M_keepNames_45 rfl rfl ?_
        refine aw_icmp_ne (tgt := 129) d_M_keepNames_46 (by decide) (fun c46 => ?_) (fun c46 => ?_)
        · refine aw_iinc (v := nI (k + 1)) d_M_keepNames_129 rfl (ax_inc k) (by decide) rfl ?_
          refine aw_goto (tgt := 7) d_M_keepNames_132 (by decide) ?_
          rw [if_neg (fun q : mKeep (s.2.1 3) (s.2.1 4) (mT s e S) e k => c46 q.2.1)] at he
          exact ih (k + 1) K _ (by omega) (by omega) hR hF he
        · have hmn : mMeant (s.2.1 3) (mT s e S) (s.2.2 9 k) (s.2.1 10 k) = nI k := c46
          have hk0 : 0 ≤ s.2.1 13 k := by
            rcases mMeant_lab (s.2.1 3) (mT s e S) (s.2.2 9 k) (s.2.1 10 k) with q | ⟨j, q1, q2, q3, -⟩
            · exact absurd (hmn.symm.trans q) (i_m1 (by omega))
            · have q1 : j < S := q1
              have ejk : j = k := (nI_eq (by omega) (by omega)).mp (q2.symm.trans hmn)
              rw [← ejk]
              exact q3
          obtain ⟨y3, y4⟩ := hI3.lab (k := k) (by omega) hk0
          have ev : 4 * s.2.1 11 k + s.2.1 13 k = nI (4 * e 11 k + e 13 k) := by rw [y1, y4, show (4 : Int32) = nI 4 from rfl, pk_mul, nI_add]
          first | refine aw_aload_n d_M_keepNames_49 rfl rfl ?_ | refine aw_aload_nQ d_M_keepNames_49 rfl rfl ?_ | refine aw_aload_nN d_M_keepNames_49 rfl rfl ?_
          refine aM_get (by assumption) fl_M_19 (by decide) rfl d_M_keepNames_50 ?_
          refine aw_iconst (v := 4) d_M_keepNames_53 (by decide) ?_
          first | refine aw_aload_n d_M_keepNames_54 rfl rfl ?_ | refine aw_aload_nQ d_M_keepNames_54 rfl rfl ?_ | refine aw_aload_nN d_M_keepNames_54 rfl rfl ?_
          refine aM_get (by assumption) fl_M_44 (by decide) rfl d_M_keepNames_55 ?_
          refine aw_iload_n d_M_keepNames_58 rfl rfl ?_
          refine aM_iald (by assumption) (by decide) rfl rfl (show k < 2048 from ks) (by decide) d_M_keepNames_59 ?_
          refine aw_imul d_M_keepNames_60 ?_
          first | refine aw_aload_n d_M_keepNames_61 rfl rfl ?_ | refine aw_aload_nQ d_M_keepNames_61 rfl rfl ?_ | refine aw_aload_nN d_M_keepNames_61 rfl rfl ?_
          refine aM_get (by assumption) fl_M_50 (by decide) rfl d_M_keepNames_62 ?_
          refine aw_iload_n d_M_keepNames_65 rfl rfl ?_
          refine aM_iald (by assumption) (by decide) rfl rfl (show k < 2048 from ks) (by decide) d_M_keepNames_66 ?_
          refine aw_iadd d_M_keepNames_67 ?_
          refine aM_zald (by assumption) (by decide) rfl ev (show 4 * e 11 k + e 13 k < 128 by omega) (by decide) d_M_keepNames_68 ?_
          refine aw_if_ne (tgt := 75) d_M_keepNames_69 (by decide) (fun c69 => ?_) (fun c69 => ?_)
          · first | refine aw_aload_n d_M_keepNames_75 rfl rfl ?_ | refine aw_aload_nQ d_M_keepNames_75 rfl rfl ?_ | refine aw_aload_nN d_M_keepNames_75 rfl rfl ?_
            refine aM_get (by assumption) fl_M_108 (by decide) rfl d_M_keepNames_76 ?_
            first | refine aw_aload_n d_M_keepNames_79 rfl rfl ?_ | refine aw_aload_nQ d_M_keepNames_79 rfl rfl ?_ | refine aw_aload_nN d_M_keepNames_79 rfl rfl ?_
            refine aM_get (by assumption) fl_M_231 (by decide) rfl d_M_keepNames_80 ?_
            first | refine aw_aload_n d_M_keepNames_83 rfl rfl ?_ | refine aw_aload_nQ d_M_keepNames_83 rfl rfl ?_ | refine aw_aload_nN d_M_keepNames_83 rfl rfl ?_
            refine aM_get (by assumption) fl_M_37 (by decide) rfl d_M_keepNames_84 ?_
            refine aw_iload_n d_M_keepNames_87 rfl rfl ?_
            refine aM_lald (by assumption) (by decide) rfl rfl (show k < 2048 from ks) (by decide) d_M_keepNames_88 ?_
            refine aM_last (by assumption) (by decide) rfl rfl (show K.1 < 2048 by omega) (by decide) d_M_keepNames_89 (fun g89 hR89 hF89 => ?_)
            first | refine aw_aload_n d_M_keepNames_90 rfl rfl ?_ | refine aw_aload_nQ d_M_keepNames_90 rfl rfl ?_ | refine aw_aload_nN d_M_keepNames_90 rfl rfl ?_
            refine aM_get (by assumption) fl_M_111 (by decide) rfl d_M_keepNames_91 ?_
            first | refine aw_aload_n d_M_keepNames_94 rfl rfl ?_ | refine aw_aload_nQ d_M_keepNames_94 rfl rfl ?_ | refine aw_aload_nN d_M_keepNames_94 rfl rfl ?_
            refine aM_get (by assumption) fl_M_231 (by decide) rfl d_M_keepNames_95 ?_
            first | refine aw_aload_n d_M_keepNames_98 rfl rfl ?_ | refine aw_aload_nQ d_M_keepNames_98 rfl rfl ?_ | refine aw_aload_nN d_M_keepNames_98 rfl rfl ?_
            refine aM_get (by assumption) fl_M_41 (by decide) rfl d_M_keepNames_99 ?_
            refine aw_iload_n d_M_keepNames_102 rfl rfl ?_
            refine aM_iald (by assumption) (by decide) rfl rfl (show k < 2048 from ks) (by decide) d_M_keepNames_103 ?_
            refine aM_iast (by assumption) (by decide) rfl rfl (show K.1 < 2048 by omega) (by decide) d_M_keepNames_104 (fun g104 hR104 hF104 => ?_)
            first | refine aw_aload_n d_M_keepNames_105 rfl rfl ?_ | refine aw_aload_nQ d_M_keepNames_105 rfl rfl ?_ | refine aw_aload_nN d_M_keepNames_105 rfl rfl ?_
            refine aM_get (by assumption) fl_M_114 (by decide) rfl d_M_keepNames_106 ?_
            first | refine aw_aload_n d_M_keepNames_109 rfl rfl ?_ | refine aw_aload_nQ d_M_keepNames_109 rfl rfl ?_ | refine aw_aload_nN d_M_keepNames_109 rfl rfl ?_
            refine aM_get (by assumption) fl_M_231 (by decide) rfl d_M_keepNames_110 ?_
            first | refine aw_aload_n d_M_keepNames_113 rfl rfl ?_ | refine aw_aload_nQ d_M_keepNames_113 rfl rfl ?_ | refine aw_aload_nN d_M_keepNames_113 rfl rfl ?_
            refine aw_iload_n d_M_keepNames_114 rfl rfl ?_
            refine aw_callV (c_M_label G _ m _ hR104 e U S hUb hSb hI hI3 k (by omega) hk0) cl_M (mR.obj (by assumption)) m_M_labelAddress ml_M_195 rfl rfl (by decide) (by decide) (Nat.le_of_ble_eq_true rfl) d_M_keepNames_115 ?_
            rintro v h' ⟨rfl, rfl⟩
            refine aM_iast (by assumption) (by decide) rfl rfl (show K.1 < 2048 by omega) (by decide) d_M_keepNames_118 (fun g118 hR118 hF118 => ?_)
            first | refine aw_aload_n d_M_keepNames_119 rfl rfl ?_ | refine aw_aload_nQ d_M_keepNames_119 rfl rfl ?_ | refine aw_aload_nN d_M_keepNames_119 rfl rfl ?_
            refine aw_dup d_M_keepNames_120 rfl ?_
            refine aM_get (by assumption) fl_M_231 (by decide) rfl d_M_keepNames_121 ?_
            refine aw_iconst (v := 1) d_M_keepNames_124 (by decide) ?_
            refine aw_iadd d_M_keepNames_125 ?_
            refine aM_put (by assumption) fl_M_231 (by decide) rfl rfl rfl rfl d_M_keepNames_126 (fun g126 hR126 hF126 => ?_)
            refine aw_iinc (v := nI (k + 1)) d_M_keepNames_129 rfl (ax_inc k) (by decide) rfl ?_
            refine aw_goto (tgt := 7) d_M_keepNames_132 (by decide) ?_
            rw [if_pos (show mKeep (s.2.1 3) (s.2.1 4) (mT s e S) e k from ⟨c26, hmn, c69⟩)] at he
            have hR126 : mR m (va_up (va_up s.1 42 (nI K.1)) 42 (nI K.1 + 1), va_up (va_up (va_up (va_up s.2.1 32 K.2.2.1) 33 K.2.2.2) 32 (va_up K.2.2.1 K.1 (s.2.1 10 k))) 33 (va_up K.2.2.2 K.1 (mLab1 (s.2.1 7) (s.2.1 14) e k)), va_up (va_up s.2.2 31 K.2.1) 31 (va_up K.2.1 K.1 (s.2.2 9 k))) g126 := hR126
            rw [bx_uu, bx_uu, mU4 _ _ _ (by decide), nI_1] at hR126
            exact ih (k + 1) (K.1 + 1, va_up K.2.1 K.1 (s.2.2 9 k), va_up K.2.2.1 K.1 (s.2.1 10 k), va_up K.2.2.2 K.1 (mLab1 (s.2.1 7) (s.2.1 14) e k)) _ (by omega) (Nat.succ_le_succ hn) hR126 ((((hF.tr hF89).tr hF104).tr hF118).tr hF126) he
          · refine aw_goto (tgt := 129) d_M_keepNames_72 (by decide) ?_
            refine aw_iinc (v := nI (k + 1)) d_M_keepNames_129 rfl (ax_inc k) (by decide) rfl ?_
            refine aw_goto (tgt := 7) d_M_keepNames_132 (by decide) ?_
            rw [if_neg (fun q : mKeep (s.2.1 3) (s.2.1 4) (mT s e S) e k => q.2.2 c69)] at he
            exact ih (k + 1) K _ (by omega) (by omega) hR hF he
/-- the starts of lines kept so far -/
abbrev mKl : Type := Nat × (Nat → Int32) × (Nat → Int32)
def mKlL (nd ad su sp sl : Nat → Int32) (e : Nat → Nat → Nat) : Nat → Nat → mKl → mKl
  | 0, _, K => K
  | r + 1, k, K => mKlL nd ad su sp sl e r (k + 1) (if nd (4 * e 25 k) = 0 then K else (K.1 + 1, va_up K.2.1 K.1 (ad (4 * e 25 k) + sp k), va_up K.2.2 K.1 (65536 * su k + sl k)))
abbrev mKt (s : mSt) (K : mKl) : mSt := (va_up s.1 43 (nI K.1), va_up (va_up s.2.1 34 K.2.1) 35 K.2.2, s.2.2)
/-- units of starts -/
def mI5 (s : mSt) (e : Nat → Nat → Nat) (U T : Nat) : Prop := ∀ k, k < T → s.2.1 25 k = nI (e 25 k) ∧ e 25 k < U
set_option maxRecDepth 20000 in
theorem l_M_keep2 {G : ax_G} {x : ax_X} {h0 : ax_H} {P : Option Value → ax_H → Prop} {m : Nat} (s : mSt) (e : Nat → Nat → Nat) (U T : Nat) (hUb : U ≤ 32) (hT : s.1 4 = nI T) (hTb : T ≤ 8192) (hI5 : mI5 s e U T) (hq : ax_H) (R : mKl) (hk : ∀ h2, mR m (mKt s R) h2 → mFr m hq h2 → P none h2) : ∀ r k (K : mKl) h, k + r = T → K.1 ≤ k → mR m (mKt s K) h → mFr m hq h → mKlL (s.2.1 4) (s.2.1 7) (s.2.1 25) (s.2.1 26) (s.2.1 27) e r k K = R → AW G x Y_M_keepNames 2 46 h0 P h 142 [some (.ref m), some (.int (nI k))] [] := by
  intro r
  induction r with
  | zero =>
    intro k K h hr hn hR hF he
    have hkk : k = T := by omega
    subst hkk
    have he : K = R := he
    subst he
    refine aw_iload_n d_M_keepNames_142 rfl rfl ?_
    first | refine aw_aload_n d_M_keepNames_143 rfl rfl ?_ | refine aw_aload_nQ d_M_keepNames_143 rfl rfl ?_ | refine aw_aload_nN d_M_keepNames_143 rfl rfl ?_
    refine aM_get (by assumption) fl_M_135 (by decide) rfl d_M_keepNames_144 ?_
    refine aw_icmp_ge (tgt := 239) d_M_keepNames_147 (by decide) (fun c147 => ?_) (fun c147 => ?_)
    · refine aw_vret ?_ rfl d_M_keepNames_239
      exact hk _ hR hF
    · exact absurd (show s.1 4 ≤ nI k by rw [hT]; exact nI_le (Nat.le_refl _) (by omega)) c147
  | succ r ih =>
    intro k K h hr hn hR hF he
    obtain ⟨y1, y2⟩ := hI5 k (by omega)
    have ks : k < 8192 := by omega
    have ev : 4 * s.2.1 25 k = nI (4 * e 25 k) := by rw [y1, show (4 : Int32) = nI 4 from rfl, pk_mul]
    rw [mKlL] at he
    refine aw_iload_n d_M_keepNames_142 rfl rfl ?_
    first | refine aw_aload_n d_M_keepNames_143 rfl rfl ?_ | refine aw_aload_nQ d_M_keepNames_143 rfl rfl ?_ | refine aw_aload_nN d_M_keepNames_143 rfl rfl ?_
    refine aM_get (by assumption) fl_M_135 (by decide) rfl d_M_keepNames_144 ?_
    refine aw_icmp_ge (tgt := 239) d_M_keepNames_147 (by decide) (fun c147 => ?_) (fun c147 => ?_)
    · exact absurd (show s.1 4 ≤ nI k from c147) (by rw [hT]; exact nI_ge (by omega) (by omega))
    · first | refine aw_aload_n d_M_keepNames_150 rfl rfl ?_ | refine aw_aload_nQ d_M_keepNames_150 rfl rfl ?_ | refine aw_aload_nN d_M_keepNames_150 rfl rfl ?_
      refine aM_get (by assumption) fl_M_19 (by decide) rfl d_M_keepNames_151 ?_
      refine aw_iconst (v := 4) d_M_keepNames_154 (by decide) ?_
      first | refine aw_aload_n d_M_keepNames_155 rfl rfl ?_ | refine aw_aload_nQ d_M_keepNames_155 rfl rfl ?_ | refine aw_aload_nN d_M_keepNames_155 rfl rfl ?_
      refine aM_get (by assumption) fl_M_86 (by decide) rfl d_M_keepNames_156 ?_
      refine aw_iload_n d_M_keepNames_159 rfl rfl ?_
      refine aM_iald (by assumption) (by decide) rfl rfl (show k < 8192 from ks) (by decide) d_M_keepNames_160 ?_
      refine aw_imul d_M_keepNames_161 ?_
      refine aM_zald (by assumption) (by decide) rfl ev (show 4 * e 25 k < 128 by omega) (by decide) d_M_keepNames_162 ?_
      refine aw_if_ne (tgt := 169) d_M_keepNames_163 (by decide) (fun c163 => ?_) (fun c163 => ?_)
      · first | refine aw_aload_n d_M_keepNames_169 rfl rfl ?_ | refine aw_aload_nQ d_M_keepNames_169 rfl rfl ?_ | refine aw_aload_nN d_M_keepNames_169 rfl rfl ?_
        refine aM_get (by assumption) fl_M_117 (by decide) rfl d_M_keepNames_170 ?_
        first | refine aw_aload_n d_M_keepNames_173 rfl rfl ?_ | refine aw_aload_nQ d_M_keepNames_173 rfl rfl ?_ | refine aw_aload_nN d_M_keepNames_173 rfl rfl ?_
        refine aM_get (by assumption) fl_M_234 (by decide) rfl d_M_keepNames_174 ?_
        first | refine aw_aload_n d_M_keepNames_177 rfl rfl ?_ | refine aw_aload_nQ d_M_keepNames_177 rfl rfl ?_ | refine aw_aload_nN d_M_keepNames_177 rfl rfl ?_
        refine aM_get (by assumption) fl_M_29 (by decide) rfl d_M_keepNames_178 ?_
        refine aw_iconst (v := 4) d_M_keepNames_181 (by decide) ?_
        first | refine aw_aload_n d_M_keepNames_182 rfl rfl ?_ | refine aw_aload_nQ d_M_keepNames_182 rfl rfl ?_ | refine aw_aload_nN d_M_keepNames_182 rfl rfl ?_
        refine aM_get (by assumption) fl_M_86 (by decide) rfl d_M_keepNames_183 ?_
        refine aw_iload_n d_M_keepNames_186 rfl rfl ?_
        refine aM_iald (by assumption) (by decide) rfl rfl (show k < 8192 from ks) (by decide) d_M_keepNames_187 ?_
        refine aw_imul d_M_keepNames_188 ?_
        refine aM_iald (by assumption) (by decide) rfl ev (show 4 * e 25 k < 128 by omega) (by decide) d_M_keepNames_189 ?_
        first | refine aw_aload_n d_M_keepNames_190 rfl rfl ?_ | refine aw_aload_nQ d_M_keepNames_190 rfl rfl ?_ | refine aw_aload_nN d_M_keepNames_190 rfl rfl ?_
        refine aM_get (by assumption) fl_M_89 (by decide) rfl d_M_keepNames_191 ?_
        refine aw_iload_n d_M_keepNames_194 rfl rfl ?_
        refine aM_iald (by assumption) (by decide) rfl rfl (show k < 8192 from ks) (by decide) d_M_keepNames_195 ?_
        refine aw_iadd d_M_keepNames_196 ?_
        refine aM_iast (by assumption) (by decide) rfl rfl (show K.1 < 8192 by omega) (by decide) d_M_keepNames_197 (fun g197 hR197 hF197 => ?_)
        first | refine aw_aload_n d_M_keepNames_198 rfl rfl ?_ | refine aw_aload_nQ d_M_keepNames_198 rfl rfl ?_ | refine aw_aload_nN d_M_keepNames_198 rfl rfl ?_
        refine aM_get (by assumption) fl_M_120 (by decide) rfl d_M_keepNames_199 ?_
        first | refine aw_aload_n d_M_keepNames_202 rfl rfl ?_ | refine aw_aload_nQ d_M_keepNames_202 rfl rfl ?_ | refine aw_aload_nN d_M_keepNames_202 rfl rfl ?_
        refine aM_get (by assumption) fl_M_234 (by decide) rfl d_M_keepNames_203 ?_
        refine aw_ldc kc_M_144 d_M_keepNames_206 ?_
        first | refine aw_aload_n d_M_keepNames_208 rfl rfl ?_ | refine aw_aload_nQ d_M_keepNames_208 rfl rfl ?_ | refine aw_aload_nN d_M_keepNames_208 rfl rfl ?_
        refine aM_get (by assumption) fl_M_86 (by decide) rfl d_M_keepNames_209 ?_
        refine aw_iload_n d_M_keepNames_212 rfl rfl ?_
        refine aM_iald (by assumption) (by decide) rfl rfl (show k < 8192 from ks) (by decide) d_M_keepNames_213 ?_
        refine aw_imul d_M_keepNames_214 ?_
        first | refine aw_aload_n d_M_keepNames_215 rfl rfl ?_ | refine aw_aload_nQ d_M_keepNames_215 rfl rfl ?_ | refine aw_aload_nN d_M_keepNames_215 rfl rfl ?_
        refine aM_get (by assumption) fl_M_92 (by decide) rfl d_M_keepNames_216 ?_
        refine aw_iload_n d_M_keepNames_219 rfl rfl ?_
        refine aM_iald (by assumption) (by decide) rfl rfl (show k < 8192 from ks) (by decide) d_M_keepNames_220 ?_
        refine aw_iadd d_M_keepNames_221 ?_
        refine aM_iast (by assumption) (by decide) rfl rfl (show K.1 < 8192 by omega) (by decide) d_M_keepNames_222 (fun g222 hR222 hF222 => ?_)
        first | refine aw_aload_n d_M_keepNames_223 rfl rfl ?_ | refine aw_aload_nQ d_M_keepNames_223 rfl rfl ?_ | refine aw_aload_nN d_M_keepNames_223 rfl rfl ?_
        refine aw_dup d_M_keepNames_224 rfl ?_
        refine aM_get (by assumption) fl_M_234 (by decide) rfl d_M_keepNames_225 ?_
        refine aw_iconst (v := 1) d_M_keepNames_228 (by decide) ?_
        refine aw_iadd d_M_keepNames_229 ?_
        refine aM_put (by assumption) fl_M_234 (by decide) rfl rfl rfl rfl d_M_keepNames_230 (fun g230 hR230 hF230 => ?_)
        refine aw_iinc (v := nI (k + 1)) d_M_keepNames_233 rfl (ax_inc k) (by decide) rfl ?_
        refine aw_goto (tgt := 142) d_M_keepNames_236 (by decide) ?_
        rw [if_neg (show ¬ s.2.1 4 (4 * e 25 k) = 0 from c163)] at he
        have hR230 : mR m (va_up (va_up s.1 43 (nI K.1)) 43 (nI K.1 + 1), va_up (va_up (va_up (va_up s.2.1 34 K.2.1) 35 K.2.2) 34 (va_up K.2.1 K.1 (s.2.1 7 (4 * e 25 k) + s.2.1 26 k))) 35 (va_up K.2.2 K.1 (65536 * s.2.1 25 k + s.2.1 27 k)), s.2.2) g230 := hR230
        rw [bx_uu, mU4 _ _ _ (by decide), nI_1] at hR230
        exact ih (k + 1) (K.1 + 1, va_up K.2.1 K.1 (s.2.1 7 (4 * e 25 k) + s.2.1 26 k), va_up K.2.2 K.1 (65536 * s.2.1 25 k + s.2.1 27 k)) _ (by omega) (Nat.succ_le_succ hn) hR230 (((hF.tr hF197).tr hF222).tr hF230) he
      · refine aw_goto (tgt := 233) d_M_keepNames_166 (by decide) ?_
        refine aw_iinc (v := nI (k + 1)) d_M_keepNames_233 rfl (ax_inc k) (by decide) rfl ?_
        refine aw_goto (tgt := 142) d_M_keepNames_236 (by decide) ?_
        rw [if_pos (show s.2.1 4 (4 * e 25 k) = 0 from c163)] at he
        exact ih (k + 1) K _ (by omega) (by omega) hR hF he
/-- names and starts as they are kept -/
def mKN (s : mSt) (e : Nat → Nat → Nat) (S : Nat) : mKn := mKnL (s.2.1 3) (s.2.1 4) (s.2.1 7) (s.2.1 14) (mT s e S) e S 0 (0, s.2.2 31, s.2.1 32, s.2.1 33)
def mKT (s : mSt) (e : Nat → Nat → Nat) (T : Nat) : mKl := mKlL (s.2.1 4) (s.2.1 7) (s.2.1 25) (s.2.1 26) (s.2.1 27) e T 0 (0, s.2.1 34, s.2.1 35)
def mKeepN (s : mSt) (e : Nat → Nat → Nat) (S T : Nat) : mSt := mKt (mKs s (mKN s e S)) (mKT s e T)
set_option maxRecDepth 20000 in
theorem c_M_keepNames (G : ax_G) (h : ax_H) (m : Nat) (s : mSt) (hR : mR m s h) (e : Nat → Nat → Nat) (U S : Nat) (hUb : U ≤ 32) (hS : s.1 2 = nI S) (hSb : S ≤ 2048) (hI : mI2 s e U S) (hI3 : mI3 s e S) (T : Nat) (hT : s.1 4 = nI T) (hTb : T ≤ 8192) (hI5 : mI5 s e U T) : AM G Y_M_keepNames 2 46 [.ref m] h (fun v h2 => v = none ∧ mR m (mKeepN s e S T) h2 ∧ mFr m h h2) := by
  refine aw_enter (by decide) (Nat.le_of_ble_eq_true rfl) (n := 1) (ls := [some (.ref m), none]) rfl (fun x => ?_)
  first | refine aw_aload_n d_M_keepNames_0 rfl rfl ?_ | refine aw_aload_nQ d_M_keepNames_0 rfl rfl ?_ | refine aw_aload_nN d_M_keepNames_0 rfl rfl ?_
  refine aw_iconst (v := 0) d_M_keepNames_1 (by decide) ?_
  refine aM_put (by assumption) fl_M_231 (by decide) rfl rfl rfl rfl d_M_keepNames_2 (fun g2 hR2 hF2 => ?_)
  refine aw_iconst (v := 0) d_M_keepNames_5 (by decide) ?_
  refine aw_istore_n d_M_keepNames_6 rfl (by decide) rfl ?_
  have hRb : mR m (mKs s (0, s.2.2 31, s.2.1 32, s.2.1 33)) g2 := by
    show mR m (va_up s.1 42 0, va_up (va_up s.2.1 32 (s.2.1 32)) 33 (s.2.1 33), va_up s.2.2 31 (s.2.2 31)) g2
    rw [mUs, mUs, mUs]
    exact hR2
  refine l_M_keep1 s e U S hUb hS hSb hI hI3 h (mKN s e S) (fun h2 o1 hRa hFa => ?_) S 0 (0, s.2.2 31, s.2.1 32, s.2.1 33) _ (by omega) (Nat.le_refl _) hRb hF2 rfl
  first | refine aw_aload_n d_M_keepNames_135 rfl rfl ?_ | refine aw_aload_nQ d_M_keepNames_135 rfl rfl ?_ | refine aw_aload_nN d_M_keepNames_135 rfl rfl ?_
  refine aw_iconst (v := 0) d_M_keepNames_136 (by decide) ?_
  refine aM_put (by assumption) fl_M_234 (by decide) rfl rfl rfl rfl d_M_keepNames_137 (fun g137 hR137 hF137 => ?_)
  refine aw_iconst (v := 0) d_M_keepNames_140 (by decide) ?_
  refine aw_istore_n d_M_keepNames_141 rfl (by decide) rfl ?_
  have hRc : mR m (mKt (mKs s (mKN s e S)) (0, s.2.1 34, s.2.1 35)) g137 := by
    show mR m (va_up (mKs s (mKN s e S)).1 43 0, va_up (va_up (mKs s (mKN s e S)).2.1 34 ((mKs s (mKN s e S)).2.1 34)) 35 ((mKs s (mKN s e S)).2.1 35), (mKs s (mKN s e S)).2.2) g137
    rw [mUs, mUs]
    exact hR137
  exact l_M_keep2 (mKs s (mKN s e S)) e U T hUb hT hTb hI5 h (mKT s e T) (fun h3 r1 r2 => ⟨rfl, r1, r2⟩) T 0 (0, s.2.1 34, s.2.1 35) _ (by omega) (Nat.le_refl _) hRc (hFa.tr hF137) rfl
end
section
theorem mAl {n k : Nat} {m : Int32} (hn : n < 2 ^ 32) (hk : k ≤ 32) (hm : m.toBitVec.toNat = (2 ^ (32 - k) - 1) * 2 ^ k) : nI n &&& m = nI (n / 2 ^ k * 2 ^ k) := by
  have hle : n / 2 ^ k * 2 ^ k ≤ n := Nat.div_mul_le_self _ _
  apply Int32.toBitVec_inj.mp
  apply BitVec.eq_of_toNat_eq
  rw [Int32.toBitVec_and, BitVec.toNat_and, pk_tn hn, pk_tn (Nat.lt_of_le_of_lt hle hn), hm]
  apply Nat.eq_of_testBit_eq
  intro i
  rw [Nat.testBit_and, Nat.testBit_mul_two_pow, Nat.testBit_two_pow_sub_one, Nat.testBit_mul_two_pow, Nat.testBit_div_two_pow]
  by_cases h1 : k ≤ i
  · rw [Nat.sub_add_cancel h1]
    by_cases h2 : i < 32
    · simp [h1, show i - k < 32 - k by omega]
    · rw [Nat.testBit_lt_two_pow (Nat.lt_of_lt_of_le hn (Nat.pow_le_pow_right (by decide) (by omega)))]
      simp
  · simp [h1]
theorem mUp16_n {a : Nat} (h : a + 15 < 2 ^ 32) : mUp16 (nI a) = nI ((a + 15) / 16 * 16) := by
  show (nI a + nI 15) &&& (-16) = _
  rw [nI_add]
  exact mAl (k := 4) h (by decide) (by decide)
theorem mUp4k_n {a : Nat} (h : a + 4095 < 2 ^ 32) : mUp4k (nI a) = nI ((a + 4095) / 4096 * 4096) := by
  show (nI a + nI 4095) &&& (-4096) = _
  rw [nI_add]
  exact mAl (k := 12) h (by decide) (by decide)
/-- the sections of D that are needed stand below the end -/
def mLyOk (nd : Nat → Int32) (z : Nat → Nat) (D : Nat → Prop) (B : Nat) (L : mLy) : Prop := ∃ a en : Nat, L.1 = nI a ∧ L.2.1 = nI en ∧ en ≤ a ∧ a ≤ B ∧ ∀ q, D q → ¬ nd q = 0 → ∃ b, L.2.2 q = nI b ∧ b + z q ≤ en
theorem mLyOk.w {nd : Nat → Int32} {z : Nat → Nat} {D D2 : Nat → Prop} {B B2 : Nat} {L : mLy} (h : mLyOk nd z D B L) (hD : ∀ q, D2 q → D q) (hB : B ≤ B2) : mLyOk nd z D2 B2 L := by
  obtain ⟨a, en, h1, h2, h3, h4, h5⟩ := h
  exact ⟨a, en, h1, h2, h3, Nat.le_trans h4 hB, fun q hq => h5 q (hD q hq)⟩
theorem mLayL_ok {sz nd : Nat → Int32} {z : Nat → Nat} {U c : Nat} (hc : c < 4) (hz : ∀ q, q < 4 * U → sz q = nI (z q) ∧ z q ≤ 65536) : ∀ r u B L, u + r = U → B + 65551 * r < 2 ^ 31 → mLyOk nd z (fun q => q % 4 < c ∧ q < 4 * U ∨ q % 4 = c ∧ q / 4 < u) B L → mLyOk nd z (fun q => q % 4 < c + 1 ∧ q < 4 * U) (B + 65551 * r) (mLayL sz nd c r u L) := by
  intro r
  induction r with
  | zero =>
    intro u B L hu hB h
    exact h.w (fun q hq => by omega) (by omega)
  | succ r ih =>
    intro u B L hu hB h
    rw [mLayL]
    have hq : 4 * u + c < 4 * U := by omega
    obtain ⟨z1, z2⟩ := hz _ hq
    have hw : B + 65551 * (r + 1) = B + 65551 + 65551 * r := by omega
    rw [hw]
    by_cases h0 : nd (4 * u + c) = 0
    · rw [if_pos h0]
      refine ih (u + 1) (B + 65551) L (by omega) (by omega) ?_
      obtain ⟨a, en, h1, h2, h3, h4, h5⟩ := h
      refine ⟨a, en, h1, h2, h3, by omega, fun q hD hn => ?_⟩
      by_cases e : q = 4 * u + c
      · exact absurd (e ▸ h0) hn
      · exact h5 q (by omega) hn
    · rw [if_neg h0]
      refine ih (u + 1) (B + 65551) _ (by omega) (by omega) ?_
      obtain ⟨a, en, h1, h2, h3, h4, h5⟩ := h
      have e1 : mUp16 L.1 = nI ((a + 15) / 16 * 16) := by
        rw [h1]
        exact mUp16_n (by omega)
      refine ⟨(a + 15) / 16 * 16 + z (4 * u + c), (a + 15) / 16 * 16 + z (4 * u + c), ?_, ?_, Nat.le_refl _, by omega, fun q hD hn => ?_⟩
      · rw [e1, z1, nI_add]
      · rw [e1, z1, nI_add]
      · by_cases e : q = 4 * u + c
        · subst e
          exact ⟨(a + 15) / 16 * 16, by rw [e1]; exact va_up_self _ _ _, Nat.le_refl _⟩
        · obtain ⟨b, b1, b2⟩ := h5 q (by omega) hn
          exact ⟨b, (va_up_ne _ _ e).trans b1, by omega⟩
theorem mLyOk.page {nd : Nat → Int32} {z : Nat → Nat} {D : Nat → Prop} {B : Nat} {L : mLy} (h : mLyOk nd z D B L) (hB : B + 4095 < 2 ^ 31) : mLyOk nd z D (B + 4095) (mUp4k L.1, L.2) := by
  obtain ⟨a, en, h1, h2, h3, h4, h5⟩ := h
  refine ⟨(a + 4095) / 4096 * 4096, en, ?_, h2, by omega, by omega, h5⟩
  rw [h1]
  exact mUp4k_n (by omega)
/-- the whole lay-out -/
theorem mLay4_ok {sz nd ad : Nat → Int32} {z : Nat → Nat} {U : Nat} (hU : U ≤ 32) (hz : ∀ q, q < 4 * U → sz q = nI (z q) ∧ z q ≤ 65536) : ∃ en : Nat, en < 2 ^ 24 ∧ (mLay4 sz nd ad U).2.1 = nI en ∧ ∀ q, q < 4 * U → ¬ nd q = 0 → ∃ b, (mLay4 sz nd ad U).2.2 q = nI b ∧ b + z q ≤ en := by
  have h1 : mLyOk nd z (fun q => q % 4 < 0 + 1 ∧ q < 4 * U) (0 + 65551 * U) (mLay1 sz nd ad U) := mLayL_ok (by decide) hz U 0 0 _ (by omega) (by omega) ⟨0, 0, rfl, rfl, Nat.le_refl _, Nat.le_refl _, fun q hq => by omega⟩
  have h2 : mLyOk nd z (fun q => q % 4 < 1 + 1 ∧ q < 4 * U) (0 + 65551 * U + 4095 + 65551 * U) (mLay2 sz nd ad U) := mLayL_ok (by decide) hz U 0 _ _ (by omega) (by omega) ((h1.page (by omega)).w (fun q hq => by omega) (Nat.le_refl _))
  have h3 : mLyOk nd z (fun q => q % 4 < 2 + 1 ∧ q < 4 * U) (0 + 65551 * U + 4095 + 65551 * U + 4095 + 65551 * U) (mLay3 sz nd ad U) := mLayL_ok (by decide) hz U 0 _ _ (by omega) (by omega) ((h2.page (by omega)).w (fun q hq => by omega) (Nat.le_refl _))
  have h4 : mLyOk nd z (fun q => q % 4 < 3 + 1 ∧ q < 4 * U) (0 + 65551 * U + 4095 + 65551 * U + 4095 + 65551 * U + 65551 * U) (mLay4 sz nd ad U) := mLayL_ok (by decide) hz U 0 _ _ (by omega) (by omega) (h3.w (fun q hq => by omega) (Nat.le_refl _))
  obtain ⟨a, en, q1, q2, q3, q4, q5⟩ := h4
  exact ⟨en, by omega, q2, fun q hq hn => q5 q (by omega) hn⟩
end
section
/-- all that holds of the reference's state: U units, S symbols, W waits, T starts, B bytes -/
def mHy (t : mSt) (e : Nat → Nat → Nat) (U S W T B : Nat) : Prop := (t.1 1 = nI U) ∧ (U ≤ 32) ∧ (t.1 2 = nI S) ∧ (S ≤ 2048) ∧ (t.1 3 = nI W) ∧ (W ≤ 4096) ∧ (t.1 4 = nI T) ∧ (T ≤ 8192) ∧ (B ≤ 262144) ∧ (mI1 t e U B) ∧ (mI2 t e U S) ∧ (mI3 t e S) ∧ (mI4 t e U S W) ∧ (mI5 t e U T) ∧ (∀ w, w < W → t.2.1 19 w = nI (e 19 w) ∧ t.2.1 20 w = nI (e 20 w) ∧ e 19 w + e 20 w ≤ e 5 (mSrc e w)) ∧ (∀ u, u < U → t.2.1 16 u = nI (e 16 u) ∧ e 16 u ≤ S)
theorem mHy.hU {t : mSt} {e : Nat → Nat → Nat} {U S W T B : Nat} (h : mHy t e U S W T B) : t.1 1 = nI U := h.1
theorem mHy.hUb {t : mSt} {e : Nat → Nat → Nat} {U S W T B : Nat} (h : mHy t e U S W T B) : U ≤ 32 := h.2.1
theorem mHy.hS {t : mSt} {e : Nat → Nat → Nat} {U S W T B : Nat} (h : mHy t e U S W T B) : t.1 2 = nI S := h.2.2.1
theorem mHy.hSb {t : mSt} {e : Nat → Nat → Nat} {U S W T B : Nat} (h : mHy t e U S W T B) : S ≤ 2048 := h.2.2.2.1
theorem mHy.hW {t : mSt} {e : Nat → Nat → Nat} {U S W T B : Nat} (h : mHy t e U S W T B) : t.1 3 = nI W := h.2.2.2.2.1
theorem mHy.hWb {t : mSt} {e : Nat → Nat → Nat} {U S W T B : Nat} (h : mHy t e U S W T B) : W ≤ 4096 := h.2.2.2.2.2.1
theorem mHy.hT {t : mSt} {e : Nat → Nat → Nat} {U S W T B : Nat} (h : mHy t e U S W T B) : t.1 4 = nI T := h.2.2.2.2.2.2.1
theorem mHy.hTb {t : mSt} {e : Nat → Nat → Nat} {U S W T B : Nat} (h : mHy t e U S W T B) : T ≤ 8192 := h.2.2.2.2.2.2.2.1
theorem mHy.hB {t : mSt} {e : Nat → Nat → Nat} {U S W T B : Nat} (h : mHy t e U S W T B) : B ≤ 262144 := h.2.2.2.2.2.2.2.2.1
theorem mHy.i1 {t : mSt} {e : Nat → Nat → Nat} {U S W T B : Nat} (h : mHy t e U S W T B) : mI1 t e U B := h.2.2.2.2.2.2.2.2.2.1
theorem mHy.i2 {t : mSt} {e : Nat → Nat → Nat} {U S W T B : Nat} (h : mHy t e U S W T B) : mI2 t e U S := h.2.2.2.2.2.2.2.2.2.2.1
theorem mHy.i3 {t : mSt} {e : Nat → Nat → Nat} {U S W T B : Nat} (h : mHy t e U S W T B) : mI3 t e S := h.2.2.2.2.2.2.2.2.2.2.2.1
theorem mHy.i4 {t : mSt} {e : Nat → Nat → Nat} {U S W T B : Nat} (h : mHy t e U S W T B) : mI4 t e U S W := h.2.2.2.2.2.2.2.2.2.2.2.2.1
theorem mHy.i5 {t : mSt} {e : Nat → Nat → Nat} {U S W T B : Nat} (h : mHy t e U S W T B) : mI5 t e U T := h.2.2.2.2.2.2.2.2.2.2.2.2.2.1
theorem mHy.i6 {t : mSt} {e : Nat → Nat → Nat} {U S W T B : Nat} (h : mHy t e U S W T B) : ∀ w, w < W → t.2.1 19 w = nI (e 19 w) ∧ t.2.1 20 w = nI (e 20 w) ∧ e 19 w + e 20 w ≤ e 5 (mSrc e w) := h.2.2.2.2.2.2.2.2.2.2.2.2.2.2.1
theorem mHy.i7 {t : mSt} {e : Nat → Nat → Nat} {U S W T B : Nat} (h : mHy t e U S W T B) : ∀ u, u < U → t.2.1 16 u = nI (e 16 u) ∧ e 16 u ≤ S := h.2.2.2.2.2.2.2.2.2.2.2.2.2.2.2
def mFill {A : Type} (f old : Nat → A) (j : Nat) : Nat → A := fun q => if q < j then f q else old q
theorem mFill_0 {A : Type} (f old : Nat → A) : mFill f old 0 = old := by
  funext u
  rw [mFill, if_neg (by omega)]
theorem mFill_s {A : Type} (f old : Nat → A) (j : Nat) : va_up (mFill f old j) j (f j) = mFill f old (j + 1) := by
  funext u
  by_cases hu : u = j
  · subst hu
    rw [va_up_self, mFill]
    exact (if_pos (Nat.lt_succ_self u)).symm
  · rw [va_up_ne _ _ hu, mFill, mFill]
    by_cases q : u < j
    · rw [if_pos q, if_pos (show u < j + 1 by omega)]
    · rw [if_neg q, if_neg (show ¬ u < j + 1 by omega)]
abbrev mJd (t : mSt) (a : Nat → Int32) : mSt := (t.1, va_up t.2.1 28 a, t.2.2)
abbrev mIm (t : mSt) (a : Nat → Int32) : mSt := (t.1, va_up t.2.1 29 a, t.2.2)
theorem mU2 {m : Nat} {a : Nat → Int32} {f : Nat → Nat → Int32} {c : Nat → Nat → Int64} {k : Nat} {x y : Nat → Int32} {h : ax_H} (hR : mR m (a, va_up (va_up f k x) k y, c) h) : mR m (a, va_up f k y, c) h := by
  rw [bx_uu] at hR
  exact hR
set_option maxRecDepth 20000 in
theorem l_M_judge {G : ax_G} {x : ax_X} {h0 : ax_H} {P : Option Value → ax_H → Prop} {m : Nat} (t : mSt) (hq : ax_H) (q1 q2 q3 q4 q5 q6 q7 q8 q11 q12 q13 q14 : Option Value) (z9 : Int32) (hk : ∀ h2 q10, mR m (mJd t (mFill (fun q => t.2.1 4 q &&& 1) (t.2.1 28) 128)) h2 → mFr m hq h2 → AW G x Y_M_link 5 122 h0 P h2 153 [some (.ref m), q1, q2, q3, q4, q5, q6, q7, q8, some (.int z9), q10, q11, q12, q13, q14] []) : ∀ r j h, j + r = 128 → mR m (mJd t (mFill (fun q => t.2.1 4 q &&& 1) (t.2.1 28) j)) h → mFr m hq h → AW G x Y_M_link 5 122 h0 P h 125 [some (.ref m), q1, q2, q3, q4, q5, q6, q7, q8, some (.int z9), some (.int (nI j)), q11, q12, q13, q14] [] := by
  intro r
  induction r with
  | zero =>
    intro j h hj hR hF
    have hjj : j = 128 := by omega
    subst hjj
    refine aw_iload d_M_link_125 rfl ?_
    refine aw_sipush (v := 128) d_M_link_127 (by decide) ?_
    refine aw_icmp_ge (tgt := 153) d_M_link_130 (by decide) (fun c130 => ?_) (fun c130 => ?_)
    · exact hk _ _ hR hF
    · exact absurd (by decide) c130
  | succ r ih =>
    intro j h hj hR hF
    refine aw_iload d_M_link_125 rfl ?_
    refine aw_sipush (v := 128) d_M_link_127 (by decide) ?_
    refine aw_icmp_ge (tgt := 153) d_M_link_130 (by decide) (fun c130 => ?_) (fun c130 => ?_)
    · exact absurd c130 (nI_ge (a := j) (b := 128) (by omega) (by decide))
    · first | refine aw_aload_n d_M_link_133 rfl rfl ?_ | refine aw_aload_nQ d_M_link_133 rfl rfl ?_ | refine aw_aload_nN d_M_link_133 rfl rfl ?_
      refine aM_get (by assumption) fl_M_99 (by decide) rfl d_M_link_134 ?_
      refine aw_iload d_M_link_137 rfl ?_
      first | refine aw_aload_n d_M_link_139 rfl rfl ?_ | refine aw_aload_nQ d_M_link_139 rfl rfl ?_ | refine aw_aload_nN d_M_link_139 rfl rfl ?_
      refine aM_get (by assumption) fl_M_19 (by decide) rfl d_M_link_140 ?_
      refine aw_iload d_M_link_143 rfl ?_
      refine aM_zald (by assumption) (by decide) rfl rfl (show j < 128 by omega) (by decide) d_M_link_145 ?_
      refine aM_zast (by assumption) (by decide) rfl rfl (show j < 128 by omega) (by decide) d_M_link_146 (fun g146 hR146 hF146 => ?_)
      refine aw_iinc (v := nI (j + 1)) d_M_link_147 rfl (ax_inc j) (by decide) rfl ?_
      refine aw_goto (tgt := 125) d_M_link_150 (by decide) ?_
      refine ih (j + 1) _ (by omega) ?_ (hF.tr hF146)
      have hR146 := mU2 hR146
      have hR146 : mR m (t.1, va_up t.2.1 28 (va_up (mFill (fun q => t.2.1 4 q &&& 1) (t.2.1 28) j) j (t.2.1 4 j &&& 1)), t.2.2) g146 := hR146
      rw [mFill_s (fun q => t.2.1 4 q &&& 1)] at hR146
      exact hR146
set_option maxRecDepth 20000 in
theorem l_M_zero {G : ax_G} {x : ax_X} {h0 : ax_H} {P : Option Value → ax_H → Prop} {m : Nat} (t : mSt) (hq : ax_H) (q1 q2 q3 q4 q5 q6 q7 q8 q11 q12 q13 q14 : Option Value) (z9 : Int32) (hk : ∀ h2 q10, mR m (mIm t (mFill (fun _ => 0) (t.2.1 29) 262144)) h2 → mFr m hq h2 → AW G x Y_M_link 5 122 h0 P h2 285 [some (.ref m), q1, q2, q3, q4, q5, q6, q7, q8, some (.int z9), q10, q11, q12, q13, q14] []) : ∀ r j h, j + r = 262144 → mR m (mIm t (mFill (fun _ => 0) (t.2.1 29) j)) h → mFr m hq h → AW G x Y_M_link 5 122 h0 P h 264 [some (.ref m), q1, q2, q3, q4, q5, q6, q7, q8, some (.int z9), some (.int (nI j)), q11, q12, q13, q14] [] := by
  intro r
  induction r with
  | zero =>
    intro j h hj hR hF
    have hjj : j = 262144 := by omega
    subst hjj
    refine aw_iload d_M_link_264 rfl ?_
    refine aw_ldc kc_M_32 d_M_link_266 ?_
    refine aw_icmp_ge (tgt := 285) d_M_link_268 (by decide) (fun c268 => ?_) (fun c268 => ?_)
    · exact hk _ _ hR hF
    · exact absurd (show (262144 : Int32) ≤ nI 262144 by decide) c268
  | succ r ih =>
    intro j h hj hR hF
    refine aw_iload d_M_link_264 rfl ?_
    refine aw_ldc kc_M_32 d_M_link_266 ?_
    refine aw_icmp_ge (tgt := 285) d_M_link_268 (by decide) (fun c268 => ?_) (fun c268 => ?_)
    · exact absurd c268 (nI_ge (a := j) (b := 262144) (by omega) (by decide))
    · first | refine aw_aload_n d_M_link_271 rfl rfl ?_ | refine aw_aload_nQ d_M_link_271 rfl rfl ?_ | refine aw_aload_nN d_M_link_271 rfl rfl ?_
      refine aM_get (by assumption) fl_M_102 (by decide) rfl d_M_link_272 ?_
      refine aw_iload d_M_link_275 rfl ?_
      refine aw_iconst (v := 0) d_M_link_277 (by decide) ?_
      refine aM_bast (by assumption) (by decide) rfl rfl (show j < 262144 by omega) (by decide) d_M_link_278 (fun g278 hR278 hF278 => ?_)
      refine aw_iinc (v := nI (j + 1)) d_M_link_279 rfl (ax_inc j) (by decide) rfl ?_
      refine aw_goto (tgt := 264) d_M_link_282 (by decide) ?_
      refine ih (j + 1) _ (by omega) ?_ (hF.tr hF278)
      have hR278 := mU2 hR278
      have hR278 : mR m (t.1, va_up t.2.1 29 (va_up (mFill (fun _ => 0) (t.2.1 29) j) j ((fun _ => 0) j)), t.2.2) g278 := hR278
      rw [mFill_s (fun _ => 0)] at hR278
      exact hR278
theorem cpy_0 {A : Type} (f g : Nat → A) (sp dp : Nat) : va_cpy f g sp dp 0 = g := by
  funext j
  exact pk_cpy_out (by omega)
theorem cpy_s {A : Type} (f g : Nat → A) (sp dp n : Nat) : va_up (va_cpy f g sp dp n) (dp + n) (f (sp + n)) = va_cpy f g sp dp (n + 1) := by
  funext j
  by_cases h : j = dp + n
  · subst h
    rw [va_up_self, pk_cpy_in (by omega) (by omega), Nat.add_sub_cancel_left]
  · rw [va_up_ne _ _ h]
    by_cases h1 : dp ≤ j ∧ j < dp + n
    · rw [pk_cpy_in h1.1 h1.2, pk_cpy_in h1.1 (by omega)]
    · rw [pk_cpy_out (by omega), pk_cpy_out (by omega)]
/-- where the needed sections stand -/
def mHA (t : mSt) (e : Nat → Nat → Nat) (U : Nat) : Prop := ∀ q, q < 4 * U → ¬ t.2.1 4 q = 0 → t.2.1 7 q = nI (iN (t.2.1 7 q)) ∧ iN (t.2.1 7 q) + e 5 q ≤ 262144
abbrev mDat (t : mSt) : Nat → Int32 := fun i => (t.2.1 8 i).toInt8.toInt32
abbrev mCpC (t : mSt) (q : Nat) : Prop := ¬ t.2.1 4 q = 0 ∧ q % 4 < 3
def mCpL (t : mSt) (e : Nat → Nat → Nat) : Nat → Nat → (Nat → Int32) → (Nat → Int32)
  | 0, _, a => a
  | r + 1, q, a => mCpL t e r (q + 1) (if mCpC t q then va_cpy (mDat t) a (e 6 q) (iN (t.2.1 7 q)) (e 5 q) else a)
set_option maxRecDepth 20000 in
theorem l_M_cp1 {G : ax_G} {x : ax_X} {h0 : ax_H} {P : Option Value → ax_H → Prop} {m : Nat} (t : mSt) (e : Nat → Nat → Nat) (U S W T B : Nat) (H : mHy t e U S W T B) (hA : mHA t e U) (hq : ax_H) (q1 q2 q3 q4 q5 q6 q7 q8 q12 q13 q14 : Option Value) (z9 : Int32) (q : Nat) (hqU : q < 4 * U) (a : Nat → Int32) (hc : mCpC t q) (hk : ∀ h2 q11, mR m (mIm t (va_cpy (mDat t) a (e 6 q) (iN (t.2.1 7 q)) (e 5 q))) h2 → mFr m hq h2 → AW G x Y_M_link 5 122 h0 P h2 368 [some (.ref m), q1, q2, q3, q4, q5, q6, q7, q8, some (.int z9), some (.int (nI q)), q11, q12, q13, q14] []) : ∀ r k h, k + r = e 5 q → mR m (mIm t (va_cpy (mDat t) a (e 6 q) (iN (t.2.1 7 q)) k)) h → mFr m hq h → AW G x Y_M_link 5 122 h0 P h 302 [some (.ref m), q1, q2, q3, q4, q5, q6, q7, q8, some (.int z9), some (.int (nI q)), some (.int (nI k)), q12, q13, q14] [] := by
  obtain ⟨⟨z1, z2⟩, z3, z4⟩ := H.i1 q hqU
  rw [if_pos hc.2] at z4
  obtain ⟨a1, a2⟩ := hA q hqU hc.1
  have hB := H.hB
  have hUb := H.hUb
  have qb : q < 128 := by omega
  intro r
  induction r with
  | zero =>
    intro k h hk2 hR hF
    have hkk : k = e 5 q := by omega
    subst hkk
    refine aw_iload d_M_link_302 rfl ?_
    first | refine aw_aload_n d_M_link_304 rfl rfl ?_ | refine aw_aload_nQ d_M_link_304 rfl rfl ?_ | refine aw_aload_nN d_M_link_304 rfl rfl ?_
    refine aM_get (by assumption) fl_M_22 (by decide) rfl d_M_link_305 ?_
    refine aw_iload d_M_link_308 rfl ?_
    refine aM_iald (by assumption) (by decide) rfl rfl (show q < 128 from qb) (by decide) d_M_link_310 ?_
    refine aw_icmp_ge (tgt := 368) d_M_link_311 (by decide) (fun c311 => ?_) (fun c311 => ?_)
    · exact hk _ _ hR hF
    · exact absurd (show t.2.1 5 q ≤ nI (e 5 q) by rw [z1]; exact nI_le (Nat.le_refl _) (by omega)) c311
  | succ r ih =>
    intro k h hk2 hR hF
    have j1 : t.2.1 7 q + nI k = nI (iN (t.2.1 7 q) + k) := by rw [a1, nI_add, ← a1]
    have j2 : t.2.1 6 q + nI k = nI (e 6 q + k) := by rw [z3, nI_add]
    have rm : nI q - nI q / 4 * 4 = nI (q % 4) := pk_rem (a := q) (d := 4) (by omega) (by decide) (by decide)
    refine aw_iload d_M_link_302 rfl ?_
    first | refine aw_aload_n d_M_link_304 rfl rfl ?_ | refine aw_aload_nQ d_M_link_304 rfl rfl ?_ | refine aw_aload_nN d_M_link_304 rfl rfl ?_
    refine aM_get (by assumption) fl_M_22 (by decide) rfl d_M_link_305 ?_
    refine aw_iload d_M_link_308 rfl ?_
    refine aM_iald (by assumption) (by decide) rfl rfl (show q < 128 from qb) (by decide) d_M_link_310 ?_
    refine aw_icmp_ge (tgt := 368) d_M_link_311 (by decide) (fun c311 => ?_) (fun c311 => ?_)
    · exact absurd (show t.2.1 5 q ≤ nI k from c311) (by rw [z1]; exact nI_ge (by omega) (by omega))
    · first | refine aw_aload_n d_M_link_314 rfl rfl ?_ | refine aw_aload_nQ d_M_link_314 rfl rfl ?_ | refine aw_aload_nN d_M_link_314 rfl rfl ?_
      refine aM_get (by assumption) fl_M_19 (by decide) rfl d_M_link_315 ?_
      refine aw_iload d_M_link_318 rfl ?_
      refine aM_zald (by assumption) (by decide) rfl rfl (show q < 128 from qb) (by decide) d_M_link_320 ?_
      refine aw_if_eq (tgt := 368) d_M_link_321 (by decide) (fun c321 => ?_) (fun c321 => ?_)
      · exact absurd c321 hc.1
      · refine aw_iload d_M_link_324 rfl ?_
        refine aw_iconst (v := 4) d_M_link_326 (by decide) ?_
        refine aw_irem d_M_link_327 (by decide) ?_
        refine aw_iconst (v := 3) d_M_link_328 (by decide) ?_
        refine aw_icmp_ge (tgt := 368) d_M_link_329 (by decide) (fun c329 => ?_) (fun c329 => ?_)
        · exact absurd (show nI 3 ≤ nI q - nI q / 4 * 4 from c329) (by rw [rm]; exact nI_ge hc.2 (by decide))
        · first | refine aw_aload_n d_M_link_332 rfl rfl ?_ | refine aw_aload_nQ d_M_link_332 rfl rfl ?_ | refine aw_aload_nN d_M_link_332 rfl rfl ?_
          refine aM_get (by assumption) fl_M_102 (by decide) rfl d_M_link_333 ?_
          first | refine aw_aload_n d_M_link_336 rfl rfl ?_ | refine aw_aload_nQ d_M_link_336 rfl rfl ?_ | refine aw_aload_nN d_M_link_336 rfl rfl ?_
          refine aM_get (by assumption) fl_M_29 (by decide) rfl d_M_link_337 ?_
          refine aw_iload d_M_link_340 rfl ?_
          refine aM_iald (by assumption) (by decide) rfl rfl (show q < 128 from qb) (by decide) d_M_link_342 ?_
          refine aw_iload d_M_link_343 rfl ?_
          refine aw_iadd d_M_link_345 ?_
          first | refine aw_aload_n d_M_link_346 rfl rfl ?_ | refine aw_aload_nQ d_M_link_346 rfl rfl ?_ | refine aw_aload_nN d_M_link_346 rfl rfl ?_
          refine aM_get (by assumption) fl_M_33 (by decide) rfl d_M_link_347 ?_
          first | refine aw_aload_n d_M_link_350 rfl rfl ?_ | refine aw_aload_nQ d_M_link_350 rfl rfl ?_ | refine aw_aload_nN d_M_link_350 rfl rfl ?_
          refine aM_get (by assumption) fl_M_26 (by decide) rfl d_M_link_351 ?_
          refine aw_iload d_M_link_354 rfl ?_
          refine aM_iald (by assumption) (by decide) rfl rfl (show q < 128 from qb) (by decide) d_M_link_356 ?_
          refine aw_iload d_M_link_357 rfl ?_
          refine aw_iadd d_M_link_359 ?_
          refine aM_bald (by assumption) (by decide) rfl j2 (show e 6 q + k < 262144 by omega) (by decide) d_M_link_360 ?_
          refine aM_bast (by assumption) (by decide) rfl j1 (show iN (t.2.1 7 q) + k < 262144 by omega) (by decide) d_M_link_361 (fun g361 hR361 hF361 => ?_)
          refine aw_iinc (v := nI (k + 1)) d_M_link_362 rfl (ax_inc k) (by decide) rfl ?_
          refine aw_goto (tgt := 302) d_M_link_365 (by decide) ?_
          refine ih (k + 1) _ (by omega) ?_ (hF.tr hF361)
          have hR361 := mU2 hR361
          have hR361 : mR m (t.1, va_up t.2.1 29 (va_up (va_cpy (mDat t) a (e 6 q) (iN (t.2.1 7 q)) k) (iN (t.2.1 7 q) + k) (mDat t (e 6 q + k))), t.2.2) g361 := hR361
          rw [cpy_s] at hR361
          exact hR361
set_option maxRecDepth 20000 in
theorem l_M_cp {G : ax_G} {x : ax_X} {h0 : ax_H} {P : Option Value → ax_H → Prop} {m : Nat} (t : mSt) (e : Nat → Nat → Nat) (U S W T B : Nat) (H : mHy t e U S W T B) (hA : mHA t e U) (hq : ax_H) (q1 q2 q3 q4 q5 q6 q7 q8 q12 q13 q14 : Option Value) (z9 : Int32) (R : Nat → Int32) (hk : ∀ h2 q10 q11, mR m (mIm t R) h2 → mFr m hq h2 → AW G x Y_M_link 5 122 h0 P h2 374 [some (.ref m), q1, q2, q3, q4, q5, q6, q7, q8, some (.int z9), q10, q11, q12, q13, q14] []) : ∀ r q a q11 h, q + r = 4 * U → mR m (mIm t a) h → mFr m hq h → mCpL t e r q a = R → AW G x Y_M_link 5 122 h0 P h 288 [some (.ref m), q1, q2, q3, q4, q5, q6, q7, q8, some (.int z9), some (.int (nI q)), q11, q12, q13, q14] [] := by
  have hU := H.hU
  have hUb := H.hUb
  have e4 : 4 * t.1 1 = nI (4 * U) := by rw [hU, show (4 : Int32) = nI 4 from rfl, pk_mul]
  intro r
  induction r with
  | zero =>
    intro q a q11 h hj hR hF he
    have hqq : q = 4 * U := by omega
    subst hqq
    have he : a = R := he
    subst he
    refine aw_iload d_M_link_288 rfl ?_
    refine aw_iconst (v := 4) d_M_link_290 (by decide) ?_
    first | refine aw_aload_n d_M_link_291 rfl rfl ?_ | refine aw_aload_nQ d_M_link_291 rfl rfl ?_ | refine aw_aload_nN d_M_link_291 rfl rfl ?_
    refine aM_get (by assumption) fl_M_126 (by decide) rfl d_M_link_292 ?_
    refine aw_imul d_M_link_295 ?_
    refine aw_icmp_ge (tgt := 374) d_M_link_296 (by decide) (fun c296 => ?_) (fun c296 => ?_)
    · exact hk _ _ _ hR hF
    · exact absurd (show 4 * t.1 1 ≤ nI (4 * U) by rw [e4]; exact nI_le (Nat.le_refl _) (by omega)) c296
  | succ r ih =>
    intro q a q11 h hj hR hF he
    obtain ⟨⟨z1, z2⟩, z3, z4⟩ := H.i1 q (by omega)
    have qb : q < 128 := by omega
    have rm : nI q - nI q / 4 * 4 = nI (q % 4) := pk_rem (a := q) (d := 4) (by omega) (by decide) (by decide)
    rw [mCpL] at he
    by_cases hc : mCpC t q
    · rw [if_pos hc] at he
      refine aw_iload d_M_link_288 rfl ?_
      refine aw_iconst (v := 4) d_M_link_290 (by decide) ?_
      first | refine aw_aload_n d_M_link_291 rfl rfl ?_ | refine aw_aload_nQ d_M_link_291 rfl rfl ?_ | refine aw_aload_nN d_M_link_291 rfl rfl ?_
      refine aM_get (by assumption) fl_M_126 (by decide) rfl d_M_link_292 ?_
      refine aw_imul d_M_link_295 ?_
      refine aw_icmp_ge (tgt := 374) d_M_link_296 (by decide) (fun c296 => ?_) (fun c296 => ?_)
      · exact absurd (show 4 * t.1 1 ≤ nI q from c296) (by rw [e4]; exact nI_ge (by omega) (by omega))
      · refine aw_iconst (v := 0) d_M_link_299 (by decide) ?_
        refine aw_istore d_M_link_300 (by decide) rfl ?_
        refine l_M_cp1 t e U S W T B H hA hq _ _ _ _ _ _ _ _ _ _ _ _ q (by omega) a hc (fun h2 q11 hRa hFa => ?_) (e 5 q) 0 _ (by omega) (by rw [cpy_0]; exact hR) hF
        refine aw_iinc (v := nI (q + 1)) d_M_link_368 rfl (ax_inc q) (by decide) rfl ?_
        refine aw_goto (tgt := 288) d_M_link_371 (by decide) ?_
        exact ih (q + 1) _ _ _ (by omega) hRa hFa he
    · rw [if_neg hc] at he
      refine aw_iload d_M_link_288 rfl ?_
      refine aw_iconst (v := 4) d_M_link_290 (by decide) ?_
      first | refine aw_aload_n d_M_link_291 rfl rfl ?_ | refine aw_aload_nQ d_M_link_291 rfl rfl ?_ | refine aw_aload_nN d_M_link_291 rfl rfl ?_
      refine aM_get (by assumption) fl_M_126 (by decide) rfl d_M_link_292 ?_
      refine aw_imul d_M_link_295 ?_
      refine aw_icmp_ge (tgt := 374) d_M_link_296 (by decide) (fun c296 => ?_) (fun c296 => ?_)
      · exact absurd (show 4 * t.1 1 ≤ nI q from c296) (by rw [e4]; exact nI_ge (by omega) (by omega))
      · refine aw_iconst (v := 0) d_M_link_299 (by decide) ?_
        refine aw_istore d_M_link_300 (by decide) rfl ?_
        refine aw_iload d_M_link_302 rfl ?_
        first | refine aw_aload_n d_M_link_304 rfl rfl ?_ | refine aw_aload_nQ d_M_link_304 rfl rfl ?_ | refine aw_aload_nN d_M_link_304 rfl rfl ?_
        refine aM_get (by assumption) fl_M_22 (by decide) rfl d_M_link_305 ?_
        refine aw_iload d_M_link_308 rfl ?_
        refine aM_iald (by assumption) (by decide) rfl rfl (show q < 128 from qb) (by decide) d_M_link_310 ?_
        refine aw_icmp_ge (tgt := 368) d_M_link_311 (by decide) (fun c311 => ?_) (fun c311 => ?_)
        · refine aw_iinc (v := nI (q + 1)) d_M_link_368 rfl (ax_inc q) (by decide) rfl ?_
          refine aw_goto (tgt := 288) d_M_link_371 (by decide) ?_
          exact ih (q + 1) _ _ _ (by omega) hR hF he
        · first | refine aw_aload_n d_M_link_314 rfl rfl ?_ | refine aw_aload_nQ d_M_link_314 rfl rfl ?_ | refine aw_aload_nN d_M_link_314 rfl rfl ?_
          refine aM_get (by assumption) fl_M_19 (by decide) rfl d_M_link_315 ?_
          refine aw_iload d_M_link_318 rfl ?_
          refine aM_zald (by assumption) (by decide) rfl rfl (show q < 128 from qb) (by decide) d_M_link_320 ?_
          refine aw_if_eq (tgt := 368) d_M_link_321 (by decide) (fun c321 => ?_) (fun c321 => ?_)
          · refine aw_iinc (v := nI (q + 1)) d_M_link_368 rfl (ax_inc q) (by decide) rfl ?_
            refine aw_goto (tgt := 288) d_M_link_371 (by decide) ?_
            exact ih (q + 1) _ _ _ (by omega) hR hF he
          · refine aw_iload d_M_link_324 rfl ?_
            refine aw_iconst (v := 4) d_M_link_326 (by decide) ?_
            refine aw_irem d_M_link_327 (by decide) ?_
            refine aw_iconst (v := 3) d_M_link_328 (by decide) ?_
            refine aw_icmp_ge (tgt := 368) d_M_link_329 (by decide) (fun c329 => ?_) (fun c329 => ?_)
            · refine aw_iinc (v := nI (q + 1)) d_M_link_368 rfl (ax_inc q) (by decide) rfl ?_
              refine aw_goto (tgt := 288) d_M_link_371 (by decide) ?_
              exact ih (q + 1) _ _ _ (by omega) hR hF he
            · exact absurd (show q % 4 < 3 from (nI_ltI (b := 3) (by omega) (by decide)).mp (rm ▸ Int32.not_le.mp c329)) (fun z => hc ⟨c321, z⟩)
end
section
/-- the k-th byte of a value -/
def mOct (v : Int64) (k : Nat) : Int32 := (v >>> ((8 * nI k).toInt64 &&& 63)).toInt32.toInt8.toInt32.toInt8.toInt32
def mPoke (v : Int64) (a : Nat) (f : Nat → Int32) : Nat → (Nat → Int32)
  | 0 => f
  | k + 1 => va_up (mPoke v a f k) (a + k) (mOct v k)
def mPkL (t : mSt) (e : Nat → Nat → Nat) (S : Nat) : Nat → Nat → (Nat → Int32) → (Nat → Int32)
  | 0, _, a => a
  | r + 1, w, a => mPkL t e S r (w + 1) (if t.2.1 4 (mSrc e w) = 0 then a else mPoke (mVal t e S w) (iN (t.2.1 7 (mSrc e w)) + e 19 w) a (e 20 w))
set_option maxRecDepth 20000 in
theorem l_M_pk1 {G : ax_G} {x : ax_X} {h0 : ax_H} {P : Option Value → ax_H → Prop} {m : Nat} (t : mSt) (e : Nat → Nat → Nat) (U S W T B : Nat) (H : mHy t e U S W T B) (hA : mHA t e U) (hq : ax_H) (q1 q2 q3 q4 q5 q6 q7 q8 : Option Value) (z9 : Int32) (w : Nat) (hwW : w < W) (a : Nat → Int32) (v : Int64) (hc : ¬ t.2.1 4 (mSrc e w) = 0) (hk : ∀ h2 q14, mR m (mIm t (mPoke v (iN (t.2.1 7 (mSrc e w)) + e 19 w) a (e 20 w))) h2 → mFr m hq h2 → AW G x Y_M_link 5 122 h0 P h2 491 [some (.ref m), q1, q2, q3, q4, q5, q6, q7, q8, some (.int z9), some (.int (nI w)), some (.int (nI (mSrc e w))), some (.long v), none, q14] []) : ∀ r k h, k + r = e 20 w → mR m (mIm t (mPoke v (iN (t.2.1 7 (mSrc e w)) + e 19 w) a k)) h → mFr m hq h → AW G x Y_M_link 5 122 h0 P h 430 [some (.ref m), q1, q2, q3, q4, q5, q6, q7, q8, some (.int z9), some (.int (nI w)), some (.int (nI (mSrc e w))), some (.long v), none, some (.int (nI k))] [] := by
  have hUb := H.hUb
  have hWb := H.hWb
  obtain ⟨⟨u1, u2⟩, ⟨v1, v2⟩, hwt⟩ := H.i4 w hwW
  obtain ⟨w1, w2, w3⟩ := H.i6 w hwW
  have hqU : mSrc e w < 4 * U := by show 4 * e 17 w + e 18 w < 4 * U; omega
  obtain ⟨a1, a2⟩ := hA _ hqU hc
  have z2 := (H.i1 _ hqU).1.2
  have qb : mSrc e w < 128 := by omega
  have wb : w < 4096 := by omega
  intro r
  induction r with
  | zero =>
    intro k h hk2 hR hF
    have hkk : k = e 20 w := by omega
    subst hkk
    refine aw_iload d_M_link_430 rfl ?_
    first | refine aw_aload_n d_M_link_432 rfl rfl ?_ | refine aw_aload_nQ d_M_link_432 rfl rfl ?_ | refine aw_aload_nN d_M_link_432 rfl rfl ?_
    refine aM_get (by assumption) fl_M_71 (by decide) rfl d_M_link_433 ?_
    refine aw_iload d_M_link_436 rfl ?_
    refine aM_iald (by assumption) (by decide) rfl rfl (show w < 4096 from wb) (by decide) d_M_link_438 ?_
    refine aw_icmp_ge (tgt := 491) d_M_link_439 (by decide) (fun c439 => ?_) (fun c439 => ?_)
    · exact hk _ _ hR hF
    · exact absurd (show t.2.1 20 w ≤ nI (e 20 w) by rw [w2]; exact nI_le (Nat.le_refl _) (by omega)) c439
  | succ r ih =>
    intro k h hk2 hR hF
    have j1 : t.2.1 7 (mSrc e w) + t.2.1 19 w + nI k = nI (iN (t.2.1 7 (mSrc e w)) + e 19 w + k) := by rw [a1, w1, nI_add, nI_add, ← a1]
    refine aw_iload d_M_link_430 rfl ?_
    first | refine aw_aload_n d_M_link_432 rfl rfl ?_ | refine aw_aload_nQ d_M_link_432 rfl rfl ?_ | refine aw_aload_nN d_M_link_432 rfl rfl ?_
    refine aM_get (by assumption) fl_M_71 (by decide) rfl d_M_link_433 ?_
    refine aw_iload d_M_link_436 rfl ?_
    refine aM_iald (by assumption) (by decide) rfl rfl (show w < 4096 from wb) (by decide) d_M_link_438 ?_
    refine aw_icmp_ge (tgt := 491) d_M_link_439 (by decide) (fun c439 => ?_) (fun c439 => ?_)
    · exact absurd (show t.2.1 20 w ≤ nI k from c439) (by rw [w2]; exact nI_ge (by omega) (by omega))
    · first | refine aw_aload_n d_M_link_442 rfl rfl ?_ | refine aw_aload_nQ d_M_link_442 rfl rfl ?_ | refine aw_aload_nN d_M_link_442 rfl rfl ?_
      refine aM_get (by assumption) fl_M_19 (by decide) rfl d_M_link_443 ?_
      refine aw_iload d_M_link_446 rfl ?_
      refine aM_zald (by assumption) (by decide) rfl rfl (show mSrc e w < 128 from qb) (by decide) d_M_link_448 ?_
      refine aw_if_eq (tgt := 491) d_M_link_449 (by decide) (fun c449 => ?_) (fun c449 => ?_)
      · exact absurd c449 hc
      · first | refine aw_aload_n d_M_link_452 rfl rfl ?_ | refine aw_aload_nQ d_M_link_452 rfl rfl ?_ | refine aw_aload_nN d_M_link_452 rfl rfl ?_
        refine aM_get (by assumption) fl_M_102 (by decide) rfl d_M_link_453 ?_
        first | refine aw_aload_n d_M_link_456 rfl rfl ?_ | refine aw_aload_nQ d_M_link_456 rfl rfl ?_ | refine aw_aload_nN d_M_link_456 rfl rfl ?_
        refine aM_get (by assumption) fl_M_29 (by decide) rfl d_M_link_457 ?_
        refine aw_iload d_M_link_460 rfl ?_
        refine aM_iald (by assumption) (by decide) rfl rfl (show mSrc e w < 128 from qb) (by decide) d_M_link_462 ?_
        first | refine aw_aload_n d_M_link_463 rfl rfl ?_ | refine aw_aload_nQ d_M_link_463 rfl rfl ?_ | refine aw_aload_nN d_M_link_463 rfl rfl ?_
        refine aM_get (by assumption) fl_M_68 (by decide) rfl d_M_link_464 ?_
        refine aw_iload d_M_link_467 rfl ?_
        refine aM_iald (by assumption) (by decide) rfl rfl (show w < 4096 from wb) (by decide) d_M_link_469 ?_
        refine aw_iadd d_M_link_470 ?_
        refine aw_iload d_M_link_471 rfl ?_
        refine aw_iadd d_M_link_473 ?_
        refine aw_lload d_M_link_474 rfl ?_
        refine aw_bipush (v := 8) d_M_link_476 (by decide) ?_
        refine aw_iload d_M_link_478 rfl ?_
        refine aw_imul d_M_link_480 ?_
        refine aw_lshr d_M_link_481 ?_
        refine aw_l2i d_M_link_482 ?_
        refine aw_i2b d_M_link_483 ?_
        refine aM_bast (by assumption) (by decide) rfl j1 (show iN (t.2.1 7 (mSrc e w)) + e 19 w + k < 262144 by omega) (by decide) d_M_link_484 (fun g484 hR484 hF484 => ?_)
        refine aw_iinc (v := nI (k + 1)) d_M_link_485 rfl (ax_inc k) (by decide) rfl ?_
        refine aw_goto (tgt := 430) d_M_link_488 (by decide) ?_
        refine ih (k + 1) _ (by omega) ?_ (hF.tr hF484)
        show mR m (t.1, va_up t.2.1 29 (va_up (mPoke v (iN (t.2.1 7 (mSrc e w)) + e 19 w) a k) (iN (t.2.1 7 (mSrc e w)) + e 19 w + k) (mOct v k)), t.2.2) g484
        exact mU2 hR484
set_option maxRecDepth 20000 in
theorem l_M_wt {G : ax_G} {x : ax_X} {h0 : ax_H} {P : Option Value → ax_H → Prop} {m : Nat} (t : mSt) (e : Nat → Nat → Nat) (U S W T B : Nat) (H : mHy t e U S W T B) (hA : mHA t e U) (hq : ax_H) (q1 q2 q3 q4 q5 q6 q7 q8 : Option Value) (z9 : Int32) (R : Nat → Int32) (hk : ∀ h2 q10 q11 q12 q13 q14, mR m (mIm t R) h2 → mFr m hq h2 → AW G x Y_M_link 5 122 h0 P h2 497 [some (.ref m), q1, q2, q3, q4, q5, q6, q7, q8, some (.int z9), q10, q11, q12, q13, q14] []) : ∀ r w a q11 q12 q13 q14 h, w + r = W → mR m (mIm t a) h → mFr m hq h → mPkL t e S r w a = R → AW G x Y_M_link 5 122 h0 P h 377 [some (.ref m), q1, q2, q3, q4, q5, q6, q7, q8, some (.int z9), some (.int (nI w)), q11, q12, q13, q14] [] := by
  have hW := H.hW
  have hWb := H.hWb
  have hUb := H.hUb
  intro r
  induction r with
  | zero =>
    intro w a q11 q12 q13 q14 h hj hR hF he
    have hww : w = W := by omega
    subst hww
    have he : a = R := he
    subst he
    refine aw_iload d_M_link_377 rfl ?_
    first | refine aw_aload_n d_M_link_379 rfl rfl ?_ | refine aw_aload_nQ d_M_link_379 rfl rfl ?_ | refine aw_aload_nN d_M_link_379 rfl rfl ?_
    refine aM_get (by assumption) fl_M_132 (by decide) rfl d_M_link_380 ?_
    refine aw_icmp_ge (tgt := 497) d_M_link_383 (by decide) (fun c383 => ?_) (fun c383 => ?_)
    · exact hk _ _ _ _ _ _ hR hF
    · exact absurd (show t.1 3 ≤ nI w by rw [hW]; exact nI_le (Nat.le_refl _) (by omega)) c383
  | succ r ih =>
    intro w a q11 q12 q13 q14 h hj hR hF he
    have hwW : w < W := by omega
    obtain ⟨⟨u1, u2⟩, ⟨v1, v2⟩, hwt⟩ := H.i4 w hwW
    have i1 : 4 * t.2.1 17 w + t.2.1 18 w = nI (mSrc e w) := by rw [u1, v1, show (4 : Int32) = nI 4 from rfl, pk_mul, nI_add]
    have qb : mSrc e w < 128 := by show 4 * e 17 w + e 18 w < 128; omega
    have wb : w < 4096 := by omega
    rw [mPkL] at he
    refine aw_iload d_M_link_377 rfl ?_
    first | refine aw_aload_n d_M_link_379 rfl rfl ?_ | refine aw_aload_nQ d_M_link_379 rfl rfl ?_ | refine aw_aload_nN d_M_link_379 rfl rfl ?_
    refine aM_get (by assumption) fl_M_132 (by decide) rfl d_M_link_380 ?_
    refine aw_icmp_ge (tgt := 497) d_M_link_383 (by decide) (fun c383 => ?_) (fun c383 => ?_)
    · exact absurd (show t.1 3 ≤ nI w from c383) (by rw [hW]; exact nI_ge (by omega) (by omega))
    · refine aw_iconst (v := 4) d_M_link_386 (by decide) ?_
      first | refine aw_aload_n d_M_link_387 rfl rfl ?_ | refine aw_aload_nQ d_M_link_387 rfl rfl ?_ | refine aw_aload_nN d_M_link_387 rfl rfl ?_
      refine aM_get (by assumption) fl_M_62 (by decide) rfl d_M_link_388 ?_
      refine aw_iload d_M_link_391 rfl ?_
      refine aM_iald (by assumption) (by decide) rfl rfl (show w < 4096 from wb) (by decide) d_M_link_393 ?_
      refine aw_imul d_M_link_394 ?_
      first | refine aw_aload_n d_M_link_395 rfl rfl ?_ | refine aw_aload_nQ d_M_link_395 rfl rfl ?_ | refine aw_aload_nN d_M_link_395 rfl rfl ?_
      refine aM_get (by assumption) fl_M_65 (by decide) rfl d_M_link_396 ?_
      refine aw_iload d_M_link_399 rfl ?_
      refine aM_iald (by assumption) (by decide) rfl rfl (show w < 4096 from wb) (by decide) d_M_link_401 ?_
      refine aw_iadd d_M_link_402 ?_
      refine aw_istore d_M_link_403 (by decide) rfl ?_
      first | refine aw_aload_n d_M_link_405 rfl rfl ?_ | refine aw_aload_nQ d_M_link_405 rfl rfl ?_ | refine aw_aload_nN d_M_link_405 rfl rfl ?_
      refine aM_get (by assumption) fl_M_19 (by decide) rfl d_M_link_406 ?_
      refine aw_iload d_M_link_409 rfl ?_
      refine aM_zald (by assumption) (by decide) rfl i1 (show mSrc e w < 128 from qb) (by decide) d_M_link_411 ?_
      refine aw_if_eq (tgt := 424) d_M_link_412 (by decide) (fun c412 => ?_) (fun c412 => ?_)
      · refine aw_lconst (v := 0) d_M_link_424 (by decide) ?_
        refine aw_lstore d_M_link_425 (by decide) rfl ?_
        refine aw_iconst (v := 0) d_M_link_427 (by decide) ?_
        refine aw_istore d_M_link_428 (by decide) rfl ?_
        refine aw_iload d_M_link_430 rfl ?_
        first | refine aw_aload_n d_M_link_432 rfl rfl ?_ | refine aw_aload_nQ d_M_link_432 rfl rfl ?_ | refine aw_aload_nN d_M_link_432 rfl rfl ?_
        refine aM_get (by assumption) fl_M_71 (by decide) rfl d_M_link_433 ?_
        refine aw_iload d_M_link_436 rfl ?_
        refine aM_iald (by assumption) (by decide) rfl rfl (show w < 4096 from wb) (by decide) d_M_link_438 ?_
        refine aw_icmp_ge (tgt := 491) d_M_link_439 (by decide) (fun c439 => ?_) (fun c439 => ?_)
        · refine aw_iinc (v := nI (w + 1)) d_M_link_491 rfl (ax_inc w) (by decide) rfl ?_
          refine aw_goto (tgt := 377) d_M_link_494 (by decide) ?_
          rw [if_pos (show t.2.1 4 (mSrc e w) = 0 from c412)] at he
          exact ih (w + 1) _ _ _ _ _ _ (by omega) hR hF he
        · first | refine aw_aload_n d_M_link_442 rfl rfl ?_ | refine aw_aload_nQ d_M_link_442 rfl rfl ?_ | refine aw_aload_nN d_M_link_442 rfl rfl ?_
          refine aM_get (by assumption) fl_M_19 (by decide) rfl d_M_link_443 ?_
          refine aw_iload d_M_link_446 rfl ?_
          refine aM_zald (by assumption) (by decide) rfl i1 (show mSrc e w < 128 from qb) (by decide) d_M_link_448 ?_
          refine aw_if_eq (tgt := 491) d_M_link_449 (by decide) (fun c449 => ?_) (fun c449 => ?_)
          · refine aw_iinc (v := nI (w + 1)) d_M_link_491 rfl (ax_inc w) (by decide) rfl ?_
            refine aw_goto (tgt := 377) d_M_link_494 (by decide) ?_
            rw [if_pos (show t.2.1 4 (mSrc e w) = 0 from c412)] at he
            exact ih (w + 1) _ _ _ _ _ _ (by omega) hR hF he
          · exact absurd c412 c449
      · first | refine aw_aload_n d_M_link_415 rfl rfl ?_ | refine aw_aload_nQ d_M_link_415 rfl rfl ?_ | refine aw_aload_nN d_M_link_415 rfl rfl ?_
        refine aw_iload d_M_link_416 rfl ?_
        refine aw_callV (c_M_valueOf G _ m _ hR e U S W hUb H.hS H.hSb hW hWb H.i2 H.i3 H.i4 w hwW) cl_M (mR.obj (by assumption)) m_M_valueOf ml_M_198 rfl rfl (by decide) (by decide) (Nat.le_of_ble_eq_true rfl) d_M_link_418 ?_
        rintro v h' ⟨rfl, rfl⟩
        refine aw_goto (tgt := 425) d_M_link_421 (by decide) ?_
        refine aw_lstore d_M_link_425 (by decide) rfl ?_
        refine aw_iconst (v := 0) d_M_link_427 (by decide) ?_
        refine aw_istore d_M_link_428 (by decide) rfl ?_
        refine aw_ls (ls' := [some (.ref m), q1, q2, q3, q4, q5, q6, q7, q8, some (.int z9), some (.int (nI w)), some (.int (nI (mSrc e w))), some (.long (mVal t e S w)), none, some (.int (nI 0))]) (by rw [← i1]; rfl) ?_
        refine l_M_pk1 t e U S W T B H hA hq _ _ _ _ _ _ _ _ _ w hwW a (mVal t e S w) c412 (fun h2 q14 hRa hFa => ?_) (e 20 w) 0 _ (by omega) hR hF
        refine aw_iinc (v := nI (w + 1)) d_M_link_491 rfl (ax_inc w) (by decide) rfl ?_
        refine aw_goto (tgt := 377) d_M_link_494 (by decide) ?_
        rw [if_neg (show ¬ t.2.1 4 (mSrc e w) = 0 from c412)] at he
        exact ih (w + 1) _ _ _ _ _ _ (by omega) hRa hFa he
set_option maxRecDepth 20000 in
theorem t_M_link4 {G : ax_G} {x : ax_X} {h0 : ax_H} {P : Option Value → ax_H → Prop} {m : Nat} (t : mSt) (e : Nat → Nat → Nat) (U S W T B : Nat) (H : mHy t e U S W T B) (q1 q2 q3 q4 q5 q6 q7 q8 q10 q11 q12 q13 q14 : Option Value) (z9 : Int32) (h : ax_H) (hR : mR m t h) (hp : ∀ h2, mR m (va_up (mKeepN t e S T).1 0 0, (mKeepN t e S T).2) h2 → mFr m h h2 → P (some (.int ((mKeepN t e S T).1 39))) h2) : AW G x Y_M_link 5 122 h0 P h 497 [some (.ref m), q1, q2, q3, q4, q5, q6, q7, q8, some (.int z9), q10, q11, q12, q13, q14] [] := by
  first | refine aw_aload_n d_M_link_497 rfl rfl ?_ | refine aw_aload_nQ d_M_link_497 rfl rfl ?_ | refine aw_aload_nN d_M_link_497 rfl rfl ?_
  refine aw_callV (c_M_keepNames G _ m _ hR e U S H.hUb H.hS H.hSb H.i2 H.i3 T H.hT H.hTb H.i5) cl_M (mR.obj (by assumption)) m_M_keepNames ml_M_228 rfl rfl (by decide) (by decide) (Nat.le_of_ble_eq_true rfl) d_M_link_498 ?_
  rintro v h' ⟨rfl, hRa, hFa⟩
  first | refine aw_aload_n d_M_link_501 rfl rfl ?_ | refine aw_aload_nQ d_M_link_501 rfl rfl ?_ | refine aw_aload_nN d_M_link_501 rfl rfl ?_
  refine aw_iconst (v := 0) d_M_link_502 (by decide) ?_
  first | refine aw_aload_n d_M_link_503 rfl rfl ?_ | refine aw_aload_nQ d_M_link_503 rfl rfl ?_ | refine aw_aload_nN d_M_link_503 rfl rfl ?_
  refine aM_get (by assumption) fl_M_191 (by decide) rfl d_M_link_504 ?_
  refine aw_callV (c_M_give G _ m _ hRa _ _) cl_M (mR.obj (by assumption)) m_M_give ml_M_210 rfl rfl (by decide) (by decide) (Nat.le_of_ble_eq_true rfl) d_M_link_507 ?_
  rintro v h' ⟨rfl, hRb, hFb⟩
  refine aw_iret ?_ rfl d_M_link_510
  exact hp _ hRb (hFa.tr hFb)
end
section
/-- the same, where what is read is the same -/
theorem mHy.tr {t t2 : mSt} {e : Nat → Nat → Nat} {U S W T B : Nat} (h : mHy t e U S W T B) (e1 : ∀ k, k < 5 → 0 < k → t2.1 k = t.1 k) (e2 : ∀ k, k = 5 ∨ k = 6 ∨ k = 11 ∨ k = 13 ∨ (16 ≤ k ∧ k < 23) ∨ k = 25 → t2.2.1 k = t.2.1 k) : mHy t2 e U S W T B := by
  obtain ⟨a1, a2, a3, a4, a5, a6, a7, a8, a9, b1, b2, b3, b4, b5, b6, b7⟩ := h
  refine ⟨(e1 1 (by decide) (by decide)).trans a1, a2, (e1 2 (by decide) (by decide)).trans a3, a4, (e1 3 (by decide) (by decide)).trans a5, a6, (e1 4 (by decide) (by decide)).trans a7, a8, a9, ?_, ?_, ?_, ?_, ?_, ?_, ?_⟩
  · unfold mI1; rw [e2 5 (by decide), e2 6 (by decide)]; exact b1
  · unfold mI2; rw [e2 11 (by decide)]; exact b2
  · unfold mI3; rw [e2 13 (by decide)]; exact b3
  · unfold mI4; rw [e2 17 (by decide), e2 18 (by decide), e2 22 (by decide)]; exact b4
  · unfold mI5; rw [e2 25 (by decide)]; exact b5
  · rw [e2 19 (by decide), e2 20 (by decide)]; exact b6
  · rw [e2 16 (by decide)]; exact b7
abbrev mMade (t : mSt) (e : Nat → Nat → Nat) (E : Nat) : mSt := (va_up t.1 38 1, va_up t.2.1 30 (va_up (t.2.1 30) 5 (mLab1 (t.2.1 7) (t.2.1 14) e E)), t.2.2)
def mImg (t : mSt) (e : Nat → Nat → Nat) (U S W : Nat) : Nat → Int32 := mPkL t e S W 0 (mCpL t e (4 * U) 0 (mFill (fun _ => 0) (t.2.1 29) 262144))
def mDone (t : mSt) (e : Nat → Nat → Nat) (U S W T E : Nat) : mSt := mKeepN (mIm (mMade t e E) (mImg (mMade t e E) e U S W)) e S T
set_option maxRecDepth 20000 in
theorem t_M_link3 {G : ax_G} {x : ax_X} {h0 : ax_H} {P : Option Value → ax_H → Prop} {m : Nat} (t : mSt) (e : Nat → Nat → Nat) (U S W T B : Nat) (H : mHy t e U S W T B) (hA : mHA t e U) (hq : ax_H) (q2 q3 q4 q5 q6 q7 q8 q10 q11 q12 q13 q14 : Option Value) (z9 : Int32) (E : Nat) (hE : E < S) (hE0 : 0 ≤ t.2.1 13 E) (h : ax_H) (hR : mR m t h) (hF : mFr m hq h) (hp : ∀ h2, mR m (va_up (mDone t e U S W T E).1 0 0, (mDone t e U S W T E).2) h2 → mFr m hq h2 → P (some (.int ((mDone t e U S W T E).1 39))) h2) : AW G x Y_M_link 5 122 h0 P h 245 [some (.ref m), some (.int (nI E)), q2, q3, q4, q5, q6, q7, q8, some (.int z9), q10, q11, q12, q13, q14] [] := by
  have H1 : mHy (mMade t e E) e U S W T B := H
  have hA1 : mHA (mMade t e E) e U := hA
  first | refine aw_aload_n d_M_link_245 rfl rfl ?_ | refine aw_aload_nQ d_M_link_245 rfl rfl ?_ | refine aw_aload_nN d_M_link_245 rfl rfl ?_
  refine aw_iconst (v := 1) d_M_link_246 (by decide) ?_
  refine aM_put (by assumption) fl_M_224 (by decide) rfl rfl rfl rfl d_M_link_247 (fun g247 hR247 hF247 => ?_)
  first | refine aw_aload_n d_M_link_250 rfl rfl ?_ | refine aw_aload_nQ d_M_link_250 rfl rfl ?_ | refine aw_aload_nN d_M_link_250 rfl rfl ?_
  refine aM_get (by assumption) fl_M_105 (by decide) rfl d_M_link_251 ?_
  refine aw_iconst (v := 5) d_M_link_254 (by decide) ?_
  first | refine aw_aload_n d_M_link_255 rfl rfl ?_ | refine aw_aload_nQ d_M_link_255 rfl rfl ?_ | refine aw_aload_nN d_M_link_255 rfl rfl ?_
  refine aw_iload_n d_M_link_256 rfl rfl ?_
  refine aw_callV (c_M_label G _ m _ hR247 e U S H.hUb H.hSb H.i2 H.i3 E hE hE0) cl_M (mR.obj (by assumption)) m_M_labelAddress ml_M_195 rfl rfl (by decide) (by decide) (Nat.le_of_ble_eq_true rfl) d_M_link_257 ?_
  rintro v h' ⟨rfl, rfl⟩
  refine aM_iast (by assumption) (by decide) rfl (show _ = nI 5 from rfl) (show 5 < 7 by decide) (by decide) d_M_link_260 (fun g260 hR260 hF260 => ?_)
  refine aw_iconst (v := 0) d_M_link_261 (by decide) ?_
  refine aw_istore d_M_link_262 (by decide) rfl ?_
  have hR0 : mR m (mIm (mMade t e E) (mFill (fun _ => 0) (t.2.1 29) 0)) g260 := by
    rw [mFill_0]
    show mR m (va_up t.1 38 1, va_up (mMade t e E).2.1 29 ((mMade t e E).2.1 29), t.2.2) g260
    rw [mUs]
    exact hR260
  refine l_M_zero (mMade t e E) hq _ _ _ _ _ _ _ _ _ _ _ _ _ (fun h2 q10 hRb hFb => ?_) 262144 0 _ (by omega) hR0 ((hF.tr hF247).tr hF260)
  refine aw_iconst (v := 0) d_M_link_285 (by decide) ?_
  refine aw_istore d_M_link_286 (by decide) rfl ?_
  refine l_M_cp (mMade t e E) e U S W T B H1 hA1 hq _ _ _ _ _ _ _ _ _ _ _ _ _ (fun h3 q10 q11 hRc hFc => ?_) (4 * U) 0 _ _ _ (by omega) hRb hFb rfl
  refine aw_iconst (v := 0) d_M_link_374 (by decide) ?_
  refine aw_istore d_M_link_375 (by decide) rfl ?_
  refine l_M_wt (mMade t e E) e U S W T B H1 hA1 hq _ _ _ _ _ _ _ _ _ (mImg (mMade t e E) e U S W) (fun h4 q10 q11 q12 q13 q14 hRd hFd => ?_) W 0 _ _ _ _ _ _ (by omega) hRc hFc rfl
  refine t_M_link4 (mIm (mMade t e E) (mImg (mMade t e E) e U S W)) e U S W T B H _ _ _ _ _ _ _ _ _ _ _ _ _ _ _ hRd (fun h5 r1 r2 => hp _ r1 (hFd.tr r2))
end
section
theorem mFail_33 (t : mSt) {k : Int32} (u l : Int32) (hk : ¬ k = 0) : ¬ (mFail t k u l).1 33 = 0 := by
  rw [mFail]
  by_cases h : t.1 33 = 0
  · rw [if_pos h]
    exact hk
  · rw [if_neg h]
    exact h
theorem mTwice_33 {t : mSt} {e : Nat → Nat → Nat} {S : Nat} (h : (mTwice t e S).1 33 = 0) : mTwice t e S = t := by
  rw [mTwice] at h ⊢
  by_cases h1 : (mTw t e S).1 < 32
  · rw [if_pos h1] at h
    exact absurd h (mFail_33 _ _ _ (by decide))
  · rw [if_neg h1]
theorem mWrL_how (t : mSt) (e : Nat → Nat → Nat) (S : Nat) : ∀ r w (a : Int32 × Int32), (a.1 = -1 ∨ ¬ a.2 = 0) → ((mWrL t e S r w a).1 = -1 ∨ ¬ (mWrL t e S r w a).2 = 0) := by
  intro r
  induction r with
  | zero => exact fun w a h => h
  | succ r ih =>
    intro w a h
    rw [mWrL]
    refine ih (w + 1) _ ?_
    by_cases h1 : ¬ t.2.1 4 (mSrc e w) = 0 ∧ mWg t e S w ∧ mEar (t.2.1 17) (t.2.1 23) a.1 w
    · rw [if_pos h1]
      refine Or.inr ?_
      by_cases h2 : mMs (t.2.1 3) (mT t e S) e w
      · rw [if_pos h2]
        exact (show ¬ (3 : Int32) = 0 by decide)
      · rw [if_neg h2]
        exact (show ¬ (4 : Int32) = 0 by decide)
    · rw [if_neg h1]
      exact h
theorem mWrong_33 {t : mSt} {e : Nat → Nat → Nat} {S W : Nat} (h : (mWrong t e S W).1 33 = 0) : mWrong t e S W = t := by
  rw [mWrong] at h ⊢
  by_cases h1 : (mWrL t e S W 0 (-1, 0)).1 < 0
  · rw [if_pos h1]
  · rw [if_neg h1] at h
    refine absurd h (mFail_33 _ _ _ ?_)
    exact (mWrL_how t e S W 0 (-1, 0) (Or.inl rfl)).resolve_left (fun q => h1 (by rw [q]; decide))
def mS8 (t : mSt) : mSt := if t.1 39 ≤ 262144 then t else mFail t 5 (-1) 0
theorem mS8_33 {t : mSt} (h : (mS8 t).1 33 = 0) : mS8 t = t ∧ t.1 39 ≤ 262144 := by
  rw [mS8] at h ⊢
  by_cases h1 : t.1 39 ≤ 262144
  · rw [if_pos h1]
    exact ⟨rfl, h1⟩
  · rw [if_neg h1] at h
    exact absurd h (mFail_33 _ _ _ (by decide))
abbrev mS5 (t : mSt) : mSt := mJd (va_up t.1 36 (t.1 1), t.2) (mFill (fun q => t.2.1 4 q &&& 1) (t.2.1 28) 128)
/-- after the lay-out and the look for what is wrong -/
def mS9 (t : mSt) (e : Nat → Nat → Nat) (U S W : Nat) : mSt := mS8 (mWrong (mLayOut (mS5 t) U) e S W)
abbrev mPb (f : Nat → Int32) (z3 z4 z5 z6 z7 z8 : Int32) : Nat → Int32 := va_up (va_up (va_up (va_up (va_up (va_up f 0 z3) 1 z4) 2 z5) 3 z6) 4 z7) 6 z8
abbrev mBack (t : mSt) (z3 z4 z5 z6 z7 z8 z9 : Int32) : mSt := (va_up t.1 39 z9, va_up t.2.1 30 (mPb (t.2.1 30) z3 z4 z5 z6 z7 z8), t.2.2)
theorem mLay_HA {t : mSt} {e : Nat → Nat → Nat} {U S W T B : Nat} (H : mHy t e U S W T B) (h : (mLayOut (mS5 t) U).1 39 ≤ 262144) : mHA (mLayOut (mS5 t) U) e U := by
  obtain ⟨en, n1, n2, n3⟩ := mLay4_ok (sz := t.2.1 5) (nd := t.2.1 4) (ad := t.2.1 7) (z := e 5) H.hUb (fun q hq => (H.i1 q hq).1)
  have h : (mLay4 (t.2.1 5) (t.2.1 4) (t.2.1 7) U).2.1 ≤ nI 262144 := h
  rw [n2] at h
  have h := (nI_leI (by omega) (by decide)).mp h
  intro q hq hn
  obtain ⟨b, b1, b2⟩ := n3 q hq hn
  show (mLay4 (t.2.1 5) (t.2.1 4) (t.2.1 7) U).2.2 q = nI (iN ((mLay4 (t.2.1 5) (t.2.1 4) (t.2.1 7) U).2.2 q)) ∧ iN ((mLay4 (t.2.1 5) (t.2.1 4) (t.2.1 7) U).2.2 q) + e 5 q ≤ 262144
  rw [b1, iN, nI_clamp (by omega)]
  exact ⟨rfl, by omega⟩
set_option maxRecDepth 20000 in
theorem t_M_link2 {G : ax_G} {x : ax_X} {h0 : ax_H} {P : Option Value → ax_H → Prop} {m : Nat} (t : mSt) (e : Nat → Nat → Nat) (U S W T B : Nat) (H : mHy t e U S W T B) (hq : ax_H) (q2 q10 q11 q12 q13 q14 : Option Value) (z3 z4 z5 z6 z7 z8 z9 : Int32) (E : Nat) (hE : E < S) (hE0 : 0 ≤ t.2.1 13 E) (h : ax_H) (hR : mR m t h) (hF : mFr m hq h) (hp1 : ¬ (mS9 t e U S W).1 33 = 0 → ∀ h2, mR m (va_up (mBack (mS9 t e U S W) z3 z4 z5 z6 z7 z8 z9).1 0 1, (mBack (mS9 t e U S W) z3 z4 z5 z6 z7 z8 z9).2) h2 → mFr m hq h2 → P (some (.int 0)) h2) (hp2 : (mS9 t e U S W).1 33 = 0 → ∀ h2, mR m (va_up (mDone (mS9 t e U S W) e U S W T E).1 0 0, (mDone (mS9 t e U S W) e U S W T E).2) h2 → mFr m hq h2 → P (some (.int ((mDone (mS9 t e U S W) e U S W T E).1 39))) h2) : AW G x Y_M_link 5 122 h0 P h 114 [some (.ref m), some (.int (nI E)), q2, some (.int z3), some (.int z4), some (.int z5), some (.int z6), some (.int z7), some (.int z8), some (.int z9), q10, q11, q12, q13, q14] [] := by
  have H5 : mHy (mS5 t) e U S W T B := H
  have H6 : mHy (mLayOut (mS5 t) U) e U S W T B := H
  first | refine aw_aload_n d_M_link_114 rfl rfl ?_ | refine aw_aload_nQ d_M_link_114 rfl rfl ?_ | refine aw_aload_nN d_M_link_114 rfl rfl ?_
  first | refine aw_aload_n d_M_link_115 rfl rfl ?_ | refine aw_aload_nQ d_M_link_115 rfl rfl ?_ | refine aw_aload_nN d_M_link_115 rfl rfl ?_
  refine aM_get (by assumption) fl_M_126 (by decide) rfl d_M_link_116 ?_
  refine aM_put (by assumption) fl_M_141 (by decide) rfl rfl rfl rfl d_M_link_119 (fun g119 hR119 hF119 => ?_)
  refine aw_iconst (v := 0) d_M_link_122 (by decide) ?_
  refine aw_istore d_M_link_123 (by decide) rfl ?_
  have hR0 : mR m (mJd (va_up t.1 36 (t.1 1), t.2) (mFill (fun q => t.2.1 4 q &&& 1) (t.2.1 28) 0)) g119 := by
    rw [mFill_0]
    show mR m (va_up t.1 36 (t.1 1), va_up t.2.1 28 (t.2.1 28), t.2.2) g119
    rw [mUs]
    exact hR119
  refine l_M_judge (va_up t.1 36 (t.1 1), t.2) hq _ _ _ _ _ _ _ _ _ _ _ _ _ (fun h2 q10 hRj hFj => ?_) 128 0 _ (by omega) hR0 (hF.tr hF119)
  first | refine aw_aload_n d_M_link_153 rfl rfl ?_ | refine aw_aload_nQ d_M_link_153 rfl rfl ?_ | refine aw_aload_nN d_M_link_153 rfl rfl ?_
  refine aw_callV (c_M_layOut G _ m (mS5 t) hRj U H.hU H.hUb) cl_M hRj.obj m_M_layOut ml_M_218 rfl rfl (by decide) (by decide) (Nat.le_of_ble_eq_true rfl) d_M_link_154 ?_
  rintro v h' ⟨rfl, hR6, hF6⟩
  first | refine aw_aload_n d_M_link_157 rfl rfl ?_ | refine aw_aload_nQ d_M_link_157 rfl rfl ?_ | refine aw_aload_nN d_M_link_157 rfl rfl ?_
  refine aw_callV (c_M_findWrong G _ m (mLayOut (mS5 t) U) hR6 e U S W H6.hUb H6.hS H6.hSb H6.hW H6.hWb H6.i2 H6.i3 H6.i4) cl_M hR6.obj m_M_findWrong ml_M_221 rfl rfl (by decide) (by decide) (Nat.le_of_ble_eq_true rfl) d_M_link_158 ?_
  rintro v h' ⟨rfl, hR7, hF7⟩
  have hF7 := (hFj.tr hF6).tr hF7
  first | refine aw_aload_n d_M_link_161 rfl rfl ?_ | refine aw_aload_nQ d_M_link_161 rfl rfl ?_ | refine aw_aload_nN d_M_link_161 rfl rfl ?_
  refine aM_get (by assumption) fl_M_191 (by decide) rfl d_M_link_162 ?_
  refine aw_ldc kc_M_32 d_M_link_165 ?_
  refine aw_icmp_le (tgt := 177) d_M_link_167 (by decide) (fun c167 => ?_) (fun c167 => ?_)
  · have e8 : mS8 (mWrong (mLayOut (mS5 t) U) e S W) = mWrong (mLayOut (mS5 t) U) e S W := if_pos c167
    have hR8 : mR m (mS9 t e U S W) _ := e8.symm ▸ hR7
    have hF8 := hF7
    first | refine aw_aload_n d_M_link_177 rfl rfl ?_ | refine aw_aload_nQ d_M_link_177 rfl rfl ?_ | refine aw_aload_nN d_M_link_177 rfl rfl ?_
    refine aM_get (by assumption) fl_M_178 (by decide) rfl d_M_link_178 ?_
    refine aw_if_eq (tgt := 245) d_M_link_181 (by decide) (fun c181 => ?_) (fun c181 => ?_)
    · have e8 := mS8_33 (show (mS8 (mWrong (mLayOut (mS5 t) U) e S W)).1 33 = 0 from c181)
      have e7 := mWrong_33 (show (mWrong (mLayOut (mS5 t) U) e S W).1 33 = 0 by rw [← e8.1]; exact c181)
      have e9 : mS9 t e U S W = mLayOut (mS5 t) U := e8.1.trans e7
      have hl := e8.2
      rw [e7] at hl
      have hp2 := hp2 c181
      rw [e9] at hR8 hp2
      exact t_M_link3 (mLayOut (mS5 t) U) e U S W T B H6 (mLay_HA H hl) hq _ _ _ _ _ _ _ _ _ _ _ _ _ E hE hE0 _ hR8 hF8 hp2
    · first | refine aw_aload_n d_M_link_184 rfl rfl ?_ | refine aw_aload_nQ d_M_link_184 rfl rfl ?_ | refine aw_aload_nN d_M_link_184 rfl rfl ?_
      refine aM_get (by assumption) fl_M_105 (by decide) rfl d_M_link_185 ?_
      refine aw_iconst (v := 0) d_M_link_188 (by decide) ?_
      refine aw_iload_n d_M_link_189 rfl rfl ?_
      refine aM_iast (by assumption) (by decide) rfl (show _ = nI 0 from rfl) (show 0 < 7 by decide) (by decide) d_M_link_190 (fun g190 hR190 hF190 => ?_)
      first | refine aw_aload_n d_M_link_191 rfl rfl ?_ | refine aw_aload_nQ d_M_link_191 rfl rfl ?_ | refine aw_aload_nN d_M_link_191 rfl rfl ?_
      refine aM_get (by assumption) fl_M_105 (by decide) rfl d_M_link_192 ?_
      refine aw_iconst (v := 1) d_M_link_195 (by decide) ?_
      refine aw_iload d_M_link_196 rfl ?_
      refine aM_iast (by assumption) (by decide) rfl (show _ = nI 1 from rfl) (show 1 < 7 by decide) (by decide) d_M_link_198 (fun g198 hR198 hF198 => ?_)
      first | refine aw_aload_n d_M_link_199 rfl rfl ?_ | refine aw_aload_nQ d_M_link_199 rfl rfl ?_ | refine aw_aload_nN d_M_link_199 rfl rfl ?_
      refine aM_get (by assumption) fl_M_105 (by decide) rfl d_M_link_200 ?_
      refine aw_iconst (v := 2) d_M_link_203 (by decide) ?_
      refine aw_iload d_M_link_204 rfl ?_
      refine aM_iast (by assumption) (by decide) rfl (show _ = nI 2 from rfl) (show 2 < 7 by decide) (by decide) d_M_link_206 (fun g206 hR206 hF206 => ?_)
      first | refine aw_aload_n d_M_link_207 rfl rfl ?_ | refine aw_aload_nQ d_M_link_207 rfl rfl ?_ | refine aw_aload_nN d_M_link_207 rfl rfl ?_
      refine aM_get (by assumption) fl_M_105 (by decide) rfl d_M_link_208 ?_
      refine aw_iconst (v := 3) d_M_link_211 (by decide) ?_
      refine aw_iload d_M_link_212 rfl ?_
      refine aM_iast (by assumption) (by decide) rfl (show _ = nI 3 from rfl) (show 3 < 7 by decide) (by decide) d_M_link_214 (fun g214 hR214 hF214 => ?_)
      first | refine aw_aload_n d_M_link_215 rfl rfl ?_ | refine aw_aload_nQ d_M_link_215 rfl rfl ?_ | refine aw_aload_nN d_M_link_215 rfl rfl ?_
      refine aM_get (by assumption) fl_M_105 (by decide) rfl d_M_link_216 ?_
      refine aw_iconst (v := 4) d_M_link_219 (by decide) ?_
      refine aw_iload d_M_link_220 rfl ?_
      refine aM_iast (by assumption) (by decide) rfl (show _ = nI 4 from rfl) (show 4 < 7 by decide) (by decide) d_M_link_222 (fun g222 hR222 hF222 => ?_)
      first | refine aw_aload_n d_M_link_223 rfl rfl ?_ | refine aw_aload_nQ d_M_link_223 rfl rfl ?_ | refine aw_aload_nN d_M_link_223 rfl rfl ?_
      refine aM_get (by assumption) fl_M_105 (by decide) rfl d_M_link_224 ?_
      refine aw_bipush (v := 6) d_M_link_227 (by decide) ?_
      refine aw_iload d_M_link_229 rfl ?_
      refine aM_iast (by assumption) (by decide) rfl (show _ = nI 6 from rfl) (show 6 < 7 by decide) (by decide) d_M_link_231 (fun g231 hR231 hF231 => ?_)
      first | refine aw_aload_n d_M_link_232 rfl rfl ?_ | refine aw_aload_nQ d_M_link_232 rfl rfl ?_ | refine aw_aload_nN d_M_link_232 rfl rfl ?_
      refine aw_iload d_M_link_233 rfl ?_
      refine aM_put (by assumption) fl_M_191 (by decide) rfl rfl rfl rfl d_M_link_235 (fun g235 hR235 hF235 => ?_)
      have hR235 : mR m (va_up (mS9 t e U S W).1 39 z9, va_up (va_up (va_up (va_up (va_up (va_up (mS9 t e U S W).2.1 30 (va_up ((mS9 t e U S W).2.1 30) 0 z3)) 30 (va_up (va_up ((mS9 t e U S W).2.1 30) 0 z3) 1 z4)) 30 (va_up (va_up (va_up ((mS9 t e U S W).2.1 30) 0 z3) 1 z4) 2 z5)) 30 (va_up (va_up (va_up (va_up ((mS9 t e U S W).2.1 30) 0 z3) 1 z4) 2 z5) 3 z6)) 30 (va_up (va_up (va_up (va_up (va_up ((mS9 t e U S W).2.1 30) 0 z3) 1 z4) 2 z5) 3 z6) 4 z7)) 30 (mPb ((mS9 t e U S W).2.1 30) z3 z4 z5 z6 z7 z8), (mS9 t e U S W).2.2) g235 := hR235
      rw [bx_uu, bx_uu, bx_uu, bx_uu, bx_uu] at hR235
      first | refine aw_aload_n d_M_link_238 rfl rfl ?_ | refine aw_aload_nQ d_M_link_238 rfl rfl ?_ | refine aw_aload_nN d_M_link_238 rfl rfl ?_
      refine aw_iconst (v := 1) d_M_link_239 (by decide) ?_
      refine aw_iconst (v := 0) d_M_link_240 (by decide) ?_
      refine aw_callV (c_M_give G _ m (mBack (mS9 t e U S W) z3 z4 z5 z6 z7 z8 z9) hR235 _ _) cl_M (mR.obj (by assumption)) m_M_give ml_M_210 rfl rfl (by decide) (by decide) (Nat.le_of_ble_eq_true rfl) d_M_link_241 ?_
      rintro v h' ⟨rfl, hRz, hFz⟩
      refine aw_iret ?_ rfl d_M_link_244
      exact hp1 c181 _ hRz ((((((((hF8.tr hF190).tr hF198).tr hF206).tr hF214).tr hF222).tr hF231).tr hF235).tr hFz)
  · first | refine aw_aload_n d_M_link_170 rfl rfl ?_ | refine aw_aload_nQ d_M_link_170 rfl rfl ?_ | refine aw_aload_nN d_M_link_170 rfl rfl ?_
    refine aw_iconst (v := 5) d_M_link_171 (by decide) ?_
    refine aw_iconst (v := (-1)) d_M_link_172 (by decide) ?_
    refine aw_iconst (v := 0) d_M_link_173 (by decide) ?_
    refine aw_callV (c_M_fail G _ m _ hR7 _ _ _) cl_M hR7.obj m_M_fail ml_M_184 rfl rfl (by decide) (by decide) (Nat.le_of_ble_eq_true rfl) d_M_link_174 ?_
    rintro v h' ⟨rfl, hRf, hFf⟩
    have e8 : mS8 (mWrong (mLayOut (mS5 t) U) e S W) = mFail (mWrong (mLayOut (mS5 t) U) e S W) 5 (-1) 0 := if_neg c167
    have hR8 : mR m (mS9 t e U S W) _ := e8.symm ▸ hRf
    have hF8 := hF7.tr hFf
    first | refine aw_aload_n d_M_link_177 rfl rfl ?_ | refine aw_aload_nQ d_M_link_177 rfl rfl ?_ | refine aw_aload_nN d_M_link_177 rfl rfl ?_
    refine aM_get (by assumption) fl_M_178 (by decide) rfl d_M_link_178 ?_
    refine aw_if_eq (tgt := 245) d_M_link_181 (by decide) (fun c181 => ?_) (fun c181 => ?_)
    · have e8 := mS8_33 (show (mS8 (mWrong (mLayOut (mS5 t) U) e S W)).1 33 = 0 from c181)
      have e7 := mWrong_33 (show (mWrong (mLayOut (mS5 t) U) e S W).1 33 = 0 by rw [← e8.1]; exact c181)
      have e9 : mS9 t e U S W = mLayOut (mS5 t) U := e8.1.trans e7
      have hl := e8.2
      rw [e7] at hl
      have hp2 := hp2 c181
      rw [e9] at hR8 hp2
      exact t_M_link3 (mLayOut (mS5 t) U) e U S W T B H6 (mLay_HA H hl) hq _ _ _ _ _ _ _ _ _ _ _ _ _ E hE hE0 _ hR8 hF8 hp2
    · first | refine aw_aload_n d_M_link_184 rfl rfl ?_ | refine aw_aload_nQ d_M_link_184 rfl rfl ?_ | refine aw_aload_nN d_M_link_184 rfl rfl ?_
      refine aM_get (by assumption) fl_M_105 (by decide) rfl d_M_link_185 ?_
      refine aw_iconst (v := 0) d_M_link_188 (by decide) ?_
      refine aw_iload_n d_M_link_189 rfl rfl ?_
      refine aM_iast (by assumption) (by decide) rfl (show _ = nI 0 from rfl) (show 0 < 7 by decide) (by decide) d_M_link_190 (fun g190 hR190 hF190 => ?_)
      first | refine aw_aload_n d_M_link_191 rfl rfl ?_ | refine aw_aload_nQ d_M_link_191 rfl rfl ?_ | refine aw_aload_nN d_M_link_191 rfl rfl ?_
      refine aM_get (by assumption) fl_M_105 (by decide) rfl d_M_link_192 ?_
      refine aw_iconst (v := 1) d_M_link_195 (by decide) ?_
      refine aw_iload d_M_link_196 rfl ?_
      refine aM_iast (by assumption) (by decide) rfl (show _ = nI 1 from rfl) (show 1 < 7 by decide) (by decide) d_M_link_198 (fun g198 hR198 hF198 => ?_)
      first | refine aw_aload_n d_M_link_199 rfl rfl ?_ | refine aw_aload_nQ d_M_link_199 rfl rfl ?_ | refine aw_aload_nN d_M_link_199 rfl rfl ?_
      refine aM_get (by assumption) fl_M_105 (by decide) rfl d_M_link_200 ?_
      refine aw_iconst (v := 2) d_M_link_203 (by decide) ?_
      refine aw_iload d_M_link_204 rfl ?_
      refine aM_iast (by assumption) (by decide) rfl (show _ = nI 2 from rfl) (show 2 < 7 by decide) (by decide) d_M_link_206 (fun g206 hR206 hF206 => ?_)
      first | refine aw_aload_n d_M_link_207 rfl rfl ?_ | refine aw_aload_nQ d_M_link_207 rfl rfl ?_ | refine aw_aload_nN d_M_link_207 rfl rfl ?_
      refine aM_get (by assumption) fl_M_105 (by decide) rfl d_M_link_208 ?_
      refine aw_iconst (v := 3) d_M_link_211 (by decide) ?_
      refine aw_iload d_M_link_212 rfl ?_
      refine aM_iast (by assumption) (by decide) rfl (show _ = nI 3 from rfl) (show 3 < 7 by decide) (by decide) d_M_link_214 (fun g214 hR214 hF214 => ?_)
      first | refine aw_aload_n d_M_link_215 rfl rfl ?_ | refine aw_aload_nQ d_M_link_215 rfl rfl ?_ | refine aw_aload_nN d_M_link_215 rfl rfl ?_
      refine aM_get (by assumption) fl_M_105 (by decide) rfl d_M_link_216 ?_
      refine aw_iconst (v := 4) d_M_link_219 (by decide) ?_
      refine aw_iload d_M_link_220 rfl ?_
      refine aM_iast (by assumption) (by decide) rfl (show _ = nI 4 from rfl) (show 4 < 7 by decide) (by decide) d_M_link_222 (fun g222 hR222 hF222 => ?_)
      first | refine aw_aload_n d_M_link_223 rfl rfl ?_ | refine aw_aload_nQ d_M_link_223 rfl rfl ?_ | refine aw_aload_nN d_M_link_223 rfl rfl ?_
      refine aM_get (by assumption) fl_M_105 (by decide) rfl d_M_link_224 ?_
      refine aw_bipush (v := 6) d_M_link_227 (by decide) ?_
      refine aw_iload d_M_link_229 rfl ?_
      refine aM_iast (by assumption) (by decide) rfl (show _ = nI 6 from rfl) (show 6 < 7 by decide) (by decide) d_M_link_231 (fun g231 hR231 hF231 => ?_)
      first | refine aw_aload_n d_M_link_232 rfl rfl ?_ | refine aw_aload_nQ d_M_link_232 rfl rfl ?_ | refine aw_aload_nN d_M_link_232 rfl rfl ?_
      refine aw_iload d_M_link_233 rfl ?_
      refine aM_put (by assumption) fl_M_191 (by decide) rfl rfl rfl rfl d_M_link_235 (fun g235 hR235 hF235 => ?_)
      have hR235 : mR m (va_up (mS9 t e U S W).1 39 z9, va_up (va_up (va_up (va_up (va_up (va_up (mS9 t e U S W).2.1 30 (va_up ((mS9 t e U S W).2.1 30) 0 z3)) 30 (va_up (va_up ((mS9 t e U S W).2.1 30) 0 z3) 1 z4)) 30 (va_up (va_up (va_up ((mS9 t e U S W).2.1 30) 0 z3) 1 z4) 2 z5)) 30 (va_up (va_up (va_up (va_up ((mS9 t e U S W).2.1 30) 0 z3) 1 z4) 2 z5) 3 z6)) 30 (va_up (va_up (va_up (va_up (va_up ((mS9 t e U S W).2.1 30) 0 z3) 1 z4) 2 z5) 3 z6) 4 z7)) 30 (mPb ((mS9 t e U S W).2.1 30) z3 z4 z5 z6 z7 z8), (mS9 t e U S W).2.2) g235 := hR235
      rw [bx_uu, bx_uu, bx_uu, bx_uu, bx_uu] at hR235
      first | refine aw_aload_n d_M_link_238 rfl rfl ?_ | refine aw_aload_nQ d_M_link_238 rfl rfl ?_ | refine aw_aload_nN d_M_link_238 rfl rfl ?_
      refine aw_iconst (v := 1) d_M_link_239 (by decide) ?_
      refine aw_iconst (v := 0) d_M_link_240 (by decide) ?_
      refine aw_callV (c_M_give G _ m (mBack (mS9 t e U S W) z3 z4 z5 z6 z7 z8 z9) hR235 _ _) cl_M (mR.obj (by assumption)) m_M_give ml_M_210 rfl rfl (by decide) (by decide) (Nat.le_of_ble_eq_true rfl) d_M_link_241 ?_
      rintro v h' ⟨rfl, hRz, hFz⟩
      refine aw_iret ?_ rfl d_M_link_244
      exact hp1 c181 _ hRz ((((((((hF8.tr hF190).tr hF198).tr hF206).tr hF214).tr hF222).tr hF231).tr hF235).tr hFz)
end
section
abbrev mS1 (s : mSt) : mSt := (va_up (va_up (va_up s.1 33 0) 34 0) 35 (-1), s.2)
noncomputable abbrev mS2 (s : mSt) (e : Nat → Nat → Nat) (U S : Nat) : mSt := ((mS1 s).1, va_up (mS1 s).2.1 3 (mTake (mS1 s) e U S), (mS1 s).2.2)
def mEnt (t : mSt) (e : Nat → Nat → Nat) (S : Nat) : Int32 := mMeant (t.2.1 3) (mT t e S) 495873782388 5
def mS3 (t : mSt) (e : Nat → Nat → Nat) (S : Nat) : mSt := if 0 ≤ mEnt t e S ∧ mGlob (mT t e S) (iN (mEnt t e S)) then mTwice t e S else mFail t 1 (-1) 0
/-- from a state with no fault on: E is the entry's label -/
def mLinkA (t : mSt) (e : Nat → Nat → Nat) (U S W T E : Nat) : mSt × Int32 := if (mS9 (mNd t (mNeed t e U S W E)) e U S W).1 33 = 0 then ((va_up (mDone (mS9 (mNd t (mNeed t e U S W E)) e U S W) e U S W T E).1 0 0, (mDone (mS9 (mNd t (mNeed t e U S W E)) e U S W) e U S W T E).2), (mDone (mS9 (mNd t (mNeed t e U S W E)) e U S W) e U S W T E).1 39) else ((va_up (mBack (mS9 (mNd t (mNeed t e U S W E)) e U S W) (t.2.1 30 0) (t.2.1 30 1) (t.2.1 30 2) (t.2.1 30 3) (t.2.1 30 4) (t.2.1 30 6) (t.1 39)).1 0 1, (mBack (mS9 (mNd t (mNeed t e U S W E)) e U S W) (t.2.1 30 0) (t.2.1 30 1) (t.2.1 30 2) (t.2.1 30 3) (t.2.1 30 4) (t.2.1 30 6) (t.1 39)).2), 0)
def mLinkB (t : mSt) (e : Nat → Nat → Nat) (U S W T E : Nat) : mSt × Int32 := if t.1 33 = 0 then mLinkA t e U S W T E else ((va_up t.1 0 1, t.2), 0)
noncomputable def mLink (s : mSt) (e : Nat → Nat → Nat) (U S W T : Nat) : mSt × Int32 := mLinkB (mS3 (mS2 s e U S) e S) e U S W T (iN (mEnt (mS2 s e U S) e S))
theorem c_M_isGlobalE (G : ax_G) (h : ax_H) (m : Nat) (s : mSt) (hR : mR m s h) (j : Nat) (hj : j < 2048) (z : Int32) (hz : z = nI j) : AM G Y_M_isGlobal 0 0 [.ref m, .int z] h (fun v h2 => h2 = h ∧ v = some (.int (zI (0 ≤ s.2.1 13 j ∧ s.2.1 12 j = 1)))) := by
  subst hz
  exact c_M_isGlobal G h m s hR j hj
theorem c_M_findNeededE (G : ax_G) (h : ax_H) (m : Nat) (s : mSt) (hR : mR m s h) (e : Nat → Nat → Nat) (U S W T B : Nat) (H : mHy s e U S W T B) (E : Nat) (hE : E < S) (hE0 : 0 ≤ s.2.1 13 E) (z : Int32) (hz : z = nI E) : AM G Y_M_findNeeded 3 68 [.ref m, .int z] h (fun v h2 => v = none ∧ mR m (mNd s (mNeed s e U S W E)) h2 ∧ mFr m h h2) := by
  subst hz
  exact c_M_findNeeded G h m s hR e U S W H.hU H.hUb H.hS H.hSb H.hW H.hWb H.i2 H.i3 H.i4 E hE hE0
set_option maxRecDepth 20000 in
theorem t_M_link1 {G : ax_G} {x : ax_X} {h0 : ax_H} {P : Option Value → ax_H → Prop} {m : Nat} (t : mSt) (e : Nat → Nat → Nat) (U S W T B : Nat) (E : Nat) (zE : Int32) (hok : t.1 33 = 0 → mHy t e U S W T B ∧ zE = nI E ∧ E < S ∧ 0 ≤ t.2.1 13 E) (hq : ax_H) (h : ax_H) (hR : mR m t h) (hF : mFr m hq h) (hp : ∀ h2, mR m (mLinkB t e U S W T E).1 h2 → mFr m hq h2 → P (some (.int (mLinkB t e U S W T E).2)) h2) : AW G x Y_M_link 5 122 h0 P h 54 [some (.ref m), some (.int zE), none, none, none, none, none, none, none, none, none, none, none, none, none] [] := by
  rw [mLinkB] at hp
  first | refine aw_aload_n d_M_link_54 rfl rfl ?_ | refine aw_aload_nQ d_M_link_54 rfl rfl ?_ | refine aw_aload_nN d_M_link_54 rfl rfl ?_
  refine aM_get (by assumption) fl_M_178 (by decide) rfl d_M_link_55 ?_
  refine aw_if_eq (tgt := 68) d_M_link_58 (by decide) (fun c58 => ?_) (fun c58 => ?_)
  · obtain ⟨H, hz, hE, hE0⟩ := hok c58
    subst hz
    rw [if_pos c58] at hp
    first | refine aw_aload_n d_M_link_68 rfl rfl ?_ | refine aw_aload_nQ d_M_link_68 rfl rfl ?_ | refine aw_aload_nN d_M_link_68 rfl rfl ?_
    refine aM_get (by assumption) fl_M_105 (by decide) rfl d_M_link_69 ?_
    first | refine aw_astore_n d_M_link_72 rfl (by decide) rfl ?_ | refine aw_astoreQ_n d_M_link_72 rfl (by decide) rfl ?_ | refine aw_astoreN_n d_M_link_72 rfl (by decide) rfl ?_
    first | refine aw_aload_n d_M_link_73 rfl rfl ?_ | refine aw_aload_nQ d_M_link_73 rfl rfl ?_ | refine aw_aload_nN d_M_link_73 rfl rfl ?_
    refine aw_iconst (v := 0) d_M_link_74 (by decide) ?_
    refine aM_iald (by assumption) (by decide) rfl (show _ = nI 0 from rfl) (show 0 < 7 by decide) (by decide) d_M_link_75 ?_
    refine aw_istore_n d_M_link_76 rfl (by decide) rfl ?_
    first | refine aw_aload_n d_M_link_77 rfl rfl ?_ | refine aw_aload_nQ d_M_link_77 rfl rfl ?_ | refine aw_aload_nN d_M_link_77 rfl rfl ?_
    refine aw_iconst (v := 1) d_M_link_78 (by decide) ?_
    refine aM_iald (by assumption) (by decide) rfl (show _ = nI 1 from rfl) (show 1 < 7 by decide) (by decide) d_M_link_79 ?_
    refine aw_istore d_M_link_80 (by decide) rfl ?_
    first | refine aw_aload_n d_M_link_82 rfl rfl ?_ | refine aw_aload_nQ d_M_link_82 rfl rfl ?_ | refine aw_aload_nN d_M_link_82 rfl rfl ?_
    refine aw_iconst (v := 2) d_M_link_83 (by decide) ?_
    refine aM_iald (by assumption) (by decide) rfl (show _ = nI 2 from rfl) (show 2 < 7 by decide) (by decide) d_M_link_84 ?_
    refine aw_istore d_M_link_85 (by decide) rfl ?_
    first | refine aw_aload_n d_M_link_87 rfl rfl ?_ | refine aw_aload_nQ d_M_link_87 rfl rfl ?_ | refine aw_aload_nN d_M_link_87 rfl rfl ?_
    refine aw_iconst (v := 3) d_M_link_88 (by decide) ?_
    refine aM_iald (by assumption) (by decide) rfl (show _ = nI 3 from rfl) (show 3 < 7 by decide) (by decide) d_M_link_89 ?_
    refine aw_istore d_M_link_90 (by decide) rfl ?_
    first | refine aw_aload_n d_M_link_92 rfl rfl ?_ | refine aw_aload_nQ d_M_link_92 rfl rfl ?_ | refine aw_aload_nN d_M_link_92 rfl rfl ?_
    refine aw_iconst (v := 4) d_M_link_93 (by decide) ?_
    refine aM_iald (by assumption) (by decide) rfl (show _ = nI 4 from rfl) (show 4 < 7 by decide) (by decide) d_M_link_94 ?_
    refine aw_istore d_M_link_95 (by decide) rfl ?_
    first | refine aw_aload_n d_M_link_97 rfl rfl ?_ | refine aw_aload_nQ d_M_link_97 rfl rfl ?_ | refine aw_aload_nN d_M_link_97 rfl rfl ?_
    refine aw_bipush (v := 6) d_M_link_98 (by decide) ?_
    refine aM_iald (by assumption) (by decide) rfl (show _ = nI 6 from rfl) (show 6 < 7 by decide) (by decide) d_M_link_100 ?_
    refine aw_istore d_M_link_101 (by decide) rfl ?_
    first | refine aw_aload_n d_M_link_103 rfl rfl ?_ | refine aw_aload_nQ d_M_link_103 rfl rfl ?_ | refine aw_aload_nN d_M_link_103 rfl rfl ?_
    refine aM_get (by assumption) fl_M_191 (by decide) rfl d_M_link_104 ?_
    refine aw_istore d_M_link_107 (by decide) rfl ?_
    first | refine aw_aload_n d_M_link_109 rfl rfl ?_ | refine aw_aload_nQ d_M_link_109 rfl rfl ?_ | refine aw_aload_nN d_M_link_109 rfl rfl ?_
    refine aw_iload_n d_M_link_110 rfl rfl ?_
    refine aw_callV (c_M_findNeeded G _ m t hR e U S W H.hU H.hUb H.hS H.hSb H.hW H.hWb H.i2 H.i3 H.i4 E hE hE0) cl_M (mR.obj (by assumption)) m_M_findNeeded ml_M_214 rfl rfl (by decide) (by decide) (Nat.le_of_ble_eq_true rfl) d_M_link_111 ?_
    rintro v h' ⟨rfl, hRn, hFn⟩
    refine t_M_link2 (mNd t (mNeed t e U S W E)) e U S W T B H hq _ _ _ _ _ _ (t.2.1 30 0) (t.2.1 30 1) (t.2.1 30 2) (t.2.1 30 3) (t.2.1 30 4) (t.2.1 30 6) (t.1 39) E hE hE0 _ hRn (hF.tr hFn) (fun k1 h2 r1 r2 => ?_) (fun k1 h2 r1 r2 => ?_)
    · rw [mLinkA, if_neg k1] at hp
      exact hp _ r1 r2
    · rw [mLinkA, if_pos k1] at hp
      exact hp _ r1 r2
  · first | refine aw_aload_n d_M_link_61 rfl rfl ?_ | refine aw_aload_nQ d_M_link_61 rfl rfl ?_ | refine aw_aload_nN d_M_link_61 rfl rfl ?_
    refine aw_iconst (v := 1) d_M_link_62 (by decide) ?_
    refine aw_iconst (v := 0) d_M_link_63 (by decide) ?_
    refine aw_callV (c_M_give G _ m _ hR _ _) cl_M (mR.obj (by assumption)) m_M_give ml_M_210 rfl rfl (by decide) (by decide) (Nat.le_of_ble_eq_true rfl) d_M_link_64 ?_
    rintro v h' ⟨rfl, hRg, hFg⟩
    refine aw_iret ?_ rfl d_M_link_67
    rw [if_neg c58] at hp
    exact hp _ hRg (hF.tr hFg)
set_option maxRecDepth 20000 in
theorem c_M_link (G : ax_G) (h : ax_H) (m : Nat) (s : mSt) (hR : mR m s h) (e : Nat → Nat → Nat) (U S W T B : Nat) (H : mHy s e U S W T B) : AM G Y_M_link 5 122 [.ref m] h (fun v h2 => v = some (.int (mLink s e U S W T).2) ∧ mR m (mLink s e U S W T).1 h2 ∧ mFr m h h2) := by
  refine aw_enter (by decide) (Nat.le_of_ble_eq_true rfl) (n := 14) (ls := [some (.ref m), none, none, none, none, none, none, none, none, none, none, none, none, none, none]) rfl (fun x => ?_)
  first | refine aw_aload_n d_M_link_0 rfl rfl ?_ | refine aw_aload_nQ d_M_link_0 rfl rfl ?_ | refine aw_aload_nN d_M_link_0 rfl rfl ?_
  refine aw_iconst (v := 0) d_M_link_1 (by decide) ?_
  refine aM_put (by assumption) fl_M_178 (by decide) rfl rfl rfl rfl d_M_link_2 (fun g2 hR2 hF2 => ?_)
  first | refine aw_aload_n d_M_link_5 rfl rfl ?_ | refine aw_aload_nQ d_M_link_5 rfl rfl ?_ | refine aw_aload_nN d_M_link_5 rfl rfl ?_
  refine aw_iconst (v := 0) d_M_link_6 (by decide) ?_
  refine aM_put (by assumption) fl_M_181 (by decide) rfl rfl rfl rfl d_M_link_7 (fun g7 hR7 hF7 => ?_)
  first | refine aw_aload_n d_M_link_10 rfl rfl ?_ | refine aw_aload_nQ d_M_link_10 rfl rfl ?_ | refine aw_aload_nN d_M_link_10 rfl rfl ?_
  refine aw_iconst (v := (-1)) d_M_link_11 (by decide) ?_
  refine aM_put (by assumption) fl_M_95 (by decide) rfl rfl rfl rfl d_M_link_12 (fun g12 hR12 hF12 => ?_)
  first | refine aw_aload_n d_M_link_15 rfl rfl ?_ | refine aw_aload_nQ d_M_link_15 rfl rfl ?_ | refine aw_aload_nN d_M_link_15 rfl rfl ?_
  refine aw_callV (c_M_take G _ m (mS1 s) hR12 e U S H.hU H.hUb H.hS H.hSb H.i2 H.i7) cl_M hR12.obj m_M_take ml_M_202 rfl rfl (by decide) (by decide) (Nat.le_of_ble_eq_true rfl) d_M_link_16 ?_
  rintro v h' ⟨rfl, hRk, hFk⟩
  first | refine aw_aload_n d_M_link_19 rfl rfl ?_ | refine aw_aload_nQ d_M_link_19 rfl rfl ?_ | refine aw_aload_nN d_M_link_19 rfl rfl ?_
  refine aw_ldc2 kc_M_205 d_M_link_20 ?_
  refine aw_iconst (v := 5) d_M_link_23 (by decide) ?_
  refine aw_callV (c_M_meant G _ m (mS2 s e U S) hRk e U S H.hUb H.hS H.hSb H.i2 _ _) cl_M hRk.obj m_M_meant ml_M_171 rfl rfl (by decide) (by decide) (Nat.le_of_ble_eq_true rfl) d_M_link_24 ?_
  rintro v h' ⟨rfl, rfl⟩
  refine aw_istore_n d_M_link_27 rfl (by decide) rfl ?_
  refine aw_iload_n d_M_link_28 rfl rfl ?_
  refine aw_if_lt (tgt := 40) d_M_link_29 (by decide) (fun c29 => ?_) (fun c29 => ?_)
  · first | refine aw_aload_n d_M_link_40 rfl rfl ?_ | refine aw_aload_nQ d_M_link_40 rfl rfl ?_ | refine aw_aload_nN d_M_link_40 rfl rfl ?_
    refine aw_iconst (v := 1) d_M_link_41 (by decide) ?_
    refine aw_iconst (v := (-1)) d_M_link_42 (by decide) ?_
    refine aw_iconst (v := 0) d_M_link_43 (by decide) ?_
    refine aw_callV (c_M_fail G _ m (mS2 s e U S) hRk _ _ _) cl_M hRk.obj m_M_fail ml_M_184 rfl rfl (by decide) (by decide) (Nat.le_of_ble_eq_true rfl) d_M_link_44 ?_
    rintro v h' ⟨rfl, hRt, hFt⟩
    refine aw_goto (tgt := 54) d_M_link_47 (by decide) ?_
    have e3 : mS3 (mS2 s e U S) e S = mFail (mS2 s e U S) 1 (-1) 0 := if_neg (fun q => absurd q.1 (Int32.not_le.mpr c29))
    refine t_M_link1 (mS3 (mS2 s e U S) e S) e U S W T B (iN (mEnt (mS2 s e U S) e S)) (mEnt (mS2 s e U S) e S) (fun k0 => ?_) h _ (e3.symm ▸ hRt) (((((hF2.tr hF7).tr hF12).tr hFk).tr hFt)) (fun h2 r1 r2 => ⟨rfl, r1, r2⟩)
    exact absurd (e3 ▸ k0) (mFail_33 _ _ _ (by decide))
  · obtain ⟨j, j1, j2, j3⟩ : ∃ j, j < S ∧ (mEnt (mS2 s e U S) e S) = nI j ∧ 0 ≤ (mS2 s e U S).2.1 13 j := by
      rcases mMeant_lab ((mS2 s e U S).2.1 3) (mT (mS2 s e U S) e S) 495873782388 5 with q | ⟨j, q1, q2, q3, -⟩
      · exact absurd (show (mEnt (mS2 s e U S) e S) < 0 by rw [show (mEnt (mS2 s e U S) e S) = -1 from q]; decide) c29
      · exact ⟨j, q1, q2, q3⟩
    have hSb := H.hSb
    have ej : iN (mEnt (mS2 s e U S) e S) = j := by rw [j2, iN, nI_clamp (by omega)]
    first | refine aw_aload_n d_M_link_32 rfl rfl ?_ | refine aw_aload_nQ d_M_link_32 rfl rfl ?_ | refine aw_aload_nN d_M_link_32 rfl rfl ?_
    refine aw_iload_n d_M_link_33 rfl rfl ?_
    refine aw_callV (c_M_isGlobalE G _ m (mS2 s e U S) hRk j (Nat.lt_of_lt_of_le j1 H.hSb) _ j2) cl_M hRk.obj m_M_isGlobal ml_M_165 rfl rfl (by decide) (by decide) (Nat.le_of_ble_eq_true rfl) d_M_link_34 ?_
    rintro v h' ⟨rfl, rfl⟩
    refine aw_if_ne (tgt := 50) d_M_link_37 (by decide) (fun c37 => ?_) (fun c37 => ?_)
    · first | refine aw_aload_n d_M_link_50 rfl rfl ?_ | refine aw_aload_nQ d_M_link_50 rfl rfl ?_ | refine aw_aload_nN d_M_link_50 rfl rfl ?_
      refine aw_callV (c_M_findTwice G _ m (mS2 s e U S) hRk e U S H.hUb H.hS H.hSb H.i2) cl_M hRk.obj m_M_findTwice ml_M_207 rfl rfl (by decide) (by decide) (Nat.le_of_ble_eq_true rfl) d_M_link_51 ?_
      rintro v h' ⟨rfl, hRt, hFt⟩
      have hg : 0 ≤ (mEnt (mS2 s e U S) e S) ∧ mGlob (mT (mS2 s e U S) e S) (iN (mEnt (mS2 s e U S) e S)) := by
        refine ⟨Int32.not_lt.mp c29, ?_⟩
        rw [ej]
        by_cases q : mGlob (mT (mS2 s e U S) e S) j
        · exact q
        · exact absurd (show zI (0 ≤ (mS2 s e U S).2.1 13 j ∧ (mS2 s e U S).2.1 12 j = 1) = 0 by rw [zI, if_neg q]) c37
      have e3 : mS3 (mS2 s e U S) e S = mTwice (mS2 s e U S) e S := if_pos hg
      refine t_M_link1 (mS3 (mS2 s e U S) e S) e U S W T B (iN (mEnt (mS2 s e U S) e S)) (mEnt (mS2 s e U S) e S) (fun k0 => ?_) h _ (e3.symm ▸ hRt) (((((hF2.tr hF7).tr hF12).tr hFk).tr hFt)) (fun h2 r1 r2 => ⟨rfl, r1, r2⟩)
      have e4 : mS3 (mS2 s e U S) e S = (mS2 s e U S) := e3.trans (mTwice_33 (e3 ▸ k0))
      rw [e4, ej]
      exact ⟨H, j2, j1, j3⟩
    · first | refine aw_aload_n d_M_link_40 rfl rfl ?_ | refine aw_aload_nQ d_M_link_40 rfl rfl ?_ | refine aw_aload_nN d_M_link_40 rfl rfl ?_
      refine aw_iconst (v := 1) d_M_link_41 (by decide) ?_
      refine aw_iconst (v := (-1)) d_M_link_42 (by decide) ?_
      refine aw_iconst (v := 0) d_M_link_43 (by decide) ?_
      refine aw_callV (c_M_fail G _ m (mS2 s e U S) hRk _ _ _) cl_M hRk.obj m_M_fail ml_M_184 rfl rfl (by decide) (by decide) (Nat.le_of_ble_eq_true rfl) d_M_link_44 ?_
      rintro v h' ⟨rfl, hRt, hFt⟩
      refine aw_goto (tgt := 54) d_M_link_47 (by decide) ?_
      have e3 : mS3 (mS2 s e U S) e S = mFail (mS2 s e U S) 1 (-1) 0 := if_neg (fun q => absurd (by have q := q.2; rw [ej] at q; exact q) (fun q : mGlob (mT (mS2 s e U S) e S) j => absurd (show zI (0 ≤ (mS2 s e U S).2.1 13 j ∧ (mS2 s e U S).2.1 12 j = 1) = 1 by rw [zI, if_pos q]) (by rw [c37]; decide)))
      refine t_M_link1 (mS3 (mS2 s e U S) e S) e U S W T B (iN (mEnt (mS2 s e U S) e S)) (mEnt (mS2 s e U S) e S) (fun k0 => ?_) h _ (e3.symm ▸ hRt) (((((hF2.tr hF7).tr hF12).tr hFk).tr hFt)) (fun h2 r1 r2 => ⟨rfl, r1, r2⟩)
      exact absurd (e3 ▸ k0) (mFail_33 _ _ _ (by decide))
end
