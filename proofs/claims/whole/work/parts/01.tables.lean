-- ===== PART A: goes FIRST, ahead of the names: the tables' words, and 'selects' of the private methods out of them =====
/-- a private method of a class that the tables say can be made, by its rows of tables_1 -/
def lw_okq (q : MethodName × Nat) : Prop := (q.1.cls ≠ "java/lang/invoke/MethodHandle" ∧ q.1.cls ≠ "java/lang/invoke/VarHandle") ∧ Cond.instantiable q.1.cls q.2 ∈ tables_1 ∧ Cond.privateMethod q.1 ∈ tables_1 ∧ Cond.instanceMethod q.1 ∈ tables_1
theorem lw_p0 : lw_okq (⟨"java/lang/Throwable", "fillInStackTrace", "(I)Ljava/lang/Throwable;"⟩, 6) := ⟨⟨by decide +kernel, by decide +kernel⟩, List.mem_of_getElem? (i := 359) (by decide +kernel), List.mem_of_getElem? (i := 357) (by decide +kernel), List.mem_of_getElem? (i := 358) (by decide +kernel)⟩
theorem lw_p1 : lw_okq (⟨"WindowTables$LabelReader", "readLabel", "(LWindowTables$Tape;I)I"⟩, 8) := ⟨⟨by decide +kernel, by decide +kernel⟩, List.mem_of_getElem? (i := 78) (by decide +kernel), List.mem_of_getElem? (i := 447) (by decide +kernel), List.mem_of_getElem? (i := 448) (by decide +kernel)⟩
theorem lw_p2 : lw_okq (⟨"WindowTables$LabelReader", "refuse", "(II)I"⟩, 8) := ⟨⟨by decide +kernel, by decide +kernel⟩, List.mem_of_getElem? (i := 78) (by decide +kernel), List.mem_of_getElem? (i := 461) (by decide +kernel), List.mem_of_getElem? (i := 462) (by decide +kernel)⟩
theorem lw_p3 : lw_okq (⟨"WindowTables$LabelReader", "placeFor", "(LWindowTables$Tape;II)I"⟩, 8) := ⟨⟨by decide +kernel, by decide +kernel⟩, List.mem_of_getElem? (i := 78) (by decide +kernel), List.mem_of_getElem? (i := 465) (by decide +kernel), List.mem_of_getElem? (i := 466) (by decide +kernel)⟩
theorem lw_p4 : lw_okq (⟨"WindowTables$LabelReader", "insert", "(IIII)V"⟩, 8) := ⟨⟨by decide +kernel, by decide +kernel⟩, List.mem_of_getElem? (i := 78) (by decide +kernel), List.mem_of_getElem? (i := 477) (by decide +kernel), List.mem_of_getElem? (i := 478) (by decide +kernel)⟩
theorem lw_p5 : lw_okq (⟨"WindowTables$LabelReader", "compose", "(LWindowTables$Tape;)V"⟩, 8) := ⟨⟨by decide +kernel, by decide +kernel⟩, List.mem_of_getElem? (i := 78) (by decide +kernel), List.mem_of_getElem? (i := 482) (by decide +kernel), List.mem_of_getElem? (i := 483) (by decide +kernel)⟩
theorem lw_p6 : lw_okq (⟨"WindowTables$LabelReader", "addLetter", "(I)V"⟩, 8) := ⟨⟨by decide +kernel, by decide +kernel⟩, List.mem_of_getElem? (i := 78) (by decide +kernel), List.mem_of_getElem? (i := 486) (by decide +kernel), List.mem_of_getElem? (i := 487) (by decide +kernel)⟩
theorem lw_p7 : lw_okq (⟨"WindowTables", "existing", "(I)LWindowTables$Series;"⟩, 10) := ⟨⟨by decide +kernel, by decide +kernel⟩, List.mem_of_getElem? (i := 29) (by decide +kernel), List.mem_of_getElem? (i := 609) (by decide +kernel), List.mem_of_getElem? (i := 610) (by decide +kernel)⟩
theorem lw_p8 : lw_okq (⟨"WindowTables$Lexer", "readNumber", "()V"⟩, 5) := ⟨⟨by decide +kernel, by decide +kernel⟩, List.mem_of_getElem? (i := 129) (by decide +kernel), List.mem_of_getElem? (i := 777) (by decide +kernel), List.mem_of_getElem? (i := 778) (by decide +kernel)⟩
theorem lw_p9 : lw_okq (⟨"WindowTables$Lexer", "readName", "()V"⟩, 5) := ⟨⟨by decide +kernel, by decide +kernel⟩, List.mem_of_getElem? (i := 129) (by decide +kernel), List.mem_of_getElem? (i := 786) (by decide +kernel), List.mem_of_getElem? (i := 787) (by decide +kernel)⟩
theorem lw_p10 : lw_okq (⟨"WindowTables$Lexer", "readQuoted", "()V"⟩, 5) := ⟨⟨by decide +kernel, by decide +kernel⟩, List.mem_of_getElem? (i := 129) (by decide +kernel), List.mem_of_getElem? (i := 790) (by decide +kernel), List.mem_of_getElem? (i := 791) (by decide +kernel)⟩
theorem lw_p11 : lw_okq (⟨"WindowTables$Lexer", "readSign", "(II)V"⟩, 5) := ⟨⟨by decide +kernel, by decide +kernel⟩, List.mem_of_getElem? (i := 129) (by decide +kernel), List.mem_of_getElem? (i := 797) (by decide +kernel), List.mem_of_getElem? (i := 798) (by decide +kernel)⟩
theorem lw_p12 : lw_okq (⟨"WindowTables$QuestionReader", "readSum", "(I)I"⟩, 7) := ⟨⟨by decide +kernel, by decide +kernel⟩, List.mem_of_getElem? (i := 123) (by decide +kernel), List.mem_of_getElem? (i := 804) (by decide +kernel), List.mem_of_getElem? (i := 805) (by decide +kernel)⟩
theorem lw_p13 : lw_okq (⟨"WindowTables$QuestionReader", "readProduct", "(I)I"⟩, 7) := ⟨⟨by decide +kernel, by decide +kernel⟩, List.mem_of_getElem? (i := 123) (by decide +kernel), List.mem_of_getElem? (i := 808) (by decide +kernel), List.mem_of_getElem? (i := 809) (by decide +kernel)⟩
theorem lw_p14 : lw_okq (⟨"WindowTables$QuestionReader", "readFactor", "(I)I"⟩, 7) := ⟨⟨by decide +kernel, by decide +kernel⟩, List.mem_of_getElem? (i := 123) (by decide +kernel), List.mem_of_getElem? (i := 812) (by decide +kernel), List.mem_of_getElem? (i := 813) (by decide +kernel)⟩
theorem lw_p15 : lw_okq (⟨"WindowTables$QuestionReader", "readOpened", "(II)I"⟩, 7) := ⟨⟨by decide +kernel, by decide +kernel⟩, List.mem_of_getElem? (i := 123) (by decide +kernel), List.mem_of_getElem? (i := 841) (by decide +kernel), List.mem_of_getElem? (i := 842) (by decide +kernel)⟩
def lw_privs_1 : List (MethodName × Nat) := [(⟨"java/lang/Throwable", "fillInStackTrace", "(I)Ljava/lang/Throwable;"⟩, 6), (⟨"WindowTables$LabelReader", "readLabel", "(LWindowTables$Tape;I)I"⟩, 8), (⟨"WindowTables$LabelReader", "refuse", "(II)I"⟩, 8), (⟨"WindowTables$LabelReader", "placeFor", "(LWindowTables$Tape;II)I"⟩, 8), (⟨"WindowTables$LabelReader", "insert", "(IIII)V"⟩, 8), (⟨"WindowTables$LabelReader", "compose", "(LWindowTables$Tape;)V"⟩, 8), (⟨"WindowTables$LabelReader", "addLetter", "(I)V"⟩, 8), (⟨"WindowTables", "existing", "(I)LWindowTables$Series;"⟩, 10), (⟨"WindowTables$Lexer", "readNumber", "()V"⟩, 5), (⟨"WindowTables$Lexer", "readName", "()V"⟩, 5), (⟨"WindowTables$Lexer", "readQuoted", "()V"⟩, 5), (⟨"WindowTables$Lexer", "readSign", "(II)V"⟩, 5), (⟨"WindowTables$QuestionReader", "readSum", "(I)I"⟩, 7), (⟨"WindowTables$QuestionReader", "readProduct", "(I)I"⟩, 7), (⟨"WindowTables$QuestionReader", "readFactor", "(I)I"⟩, 7), (⟨"WindowTables$QuestionReader", "readOpened", "(II)I"⟩, 7)]
theorem lw_r1 : ∀ q ∈ lw_privs_1, lw_okq q := List.forall_mem_cons.mpr ⟨lw_p0, List.forall_mem_cons.mpr ⟨lw_p1, List.forall_mem_cons.mpr ⟨lw_p2, List.forall_mem_cons.mpr ⟨lw_p3, List.forall_mem_cons.mpr ⟨lw_p4, List.forall_mem_cons.mpr ⟨lw_p5, List.forall_mem_cons.mpr ⟨lw_p6, List.forall_mem_cons.mpr ⟨lw_p7, List.forall_mem_cons.mpr ⟨lw_p8, List.forall_mem_cons.mpr ⟨lw_p9, List.forall_mem_cons.mpr ⟨lw_p10, List.forall_mem_cons.mpr ⟨lw_p11, List.forall_mem_cons.mpr ⟨lw_p12, List.forall_mem_cons.mpr ⟨lw_p13, List.forall_mem_cons.mpr ⟨lw_p14, List.forall_mem_cons.mpr ⟨lw_p15, fun _ h => absurd h List.not_mem_nil⟩⟩⟩⟩⟩⟩⟩⟩⟩⟩⟩⟩⟩⟩⟩⟩
theorem lw_p16 : lw_okq (⟨"WindowTables$QuestionReader", "refuse", "(I)V"⟩, 7) := ⟨⟨by decide +kernel, by decide +kernel⟩, List.mem_of_getElem? (i := 123) (by decide +kernel), List.mem_of_getElem? (i := 845) (by decide +kernel), List.mem_of_getElem? (i := 846) (by decide +kernel)⟩
theorem lw_p17 : lw_okq (⟨"WindowTables$QuestionReader", "take", "(I)V"⟩, 7) := ⟨⟨by decide +kernel, by decide +kernel⟩, List.mem_of_getElem? (i := 123) (by decide +kernel), List.mem_of_getElem? (i := 857) (by decide +kernel), List.mem_of_getElem? (i := 858) (by decide +kernel)⟩
theorem lw_p18 : lw_okq (⟨"WindowTables$QuestionReader", "funcKind", "()I"⟩, 7) := ⟨⟨by decide +kernel, by decide +kernel⟩, List.mem_of_getElem? (i := 123) (by decide +kernel), List.mem_of_getElem? (i := 862) (by decide +kernel), List.mem_of_getElem? (i := 863) (by decide +kernel)⟩
theorem lw_p19 : lw_okq (⟨"WindowTables$QuestionReader", "readFunc", "(I)I"⟩, 7) := ⟨⟨by decide +kernel, by decide +kernel⟩, List.mem_of_getElem? (i := 123) (by decide +kernel), List.mem_of_getElem? (i := 925) (by decide +kernel), List.mem_of_getElem? (i := 926) (by decide +kernel)⟩
theorem lw_p20 : lw_okq (⟨"WindowTables$QuestionReader", "readNames", "(I)V"⟩, 7) := ⟨⟨by decide +kernel, by decide +kernel⟩, List.mem_of_getElem? (i := 123) (by decide +kernel), List.mem_of_getElem? (i := 934) (by decide +kernel), List.mem_of_getElem? (i := 935) (by decide +kernel)⟩
theorem lw_p21 : lw_okq (⟨"WindowTables$QuestionReader", "hasName", "(III)Z"⟩, 7) := ⟨⟨by decide +kernel, by decide +kernel⟩, List.mem_of_getElem? (i := 123) (by decide +kernel), List.mem_of_getElem? (i := 951) (by decide +kernel), List.mem_of_getElem? (i := 952) (by decide +kernel)⟩
theorem lw_p22 : lw_okq (⟨"WindowTables$QuestionReader", "isName", "(IIII)Z"⟩, 7) := ⟨⟨by decide +kernel, by decide +kernel⟩, List.mem_of_getElem? (i := 123) (by decide +kernel), List.mem_of_getElem? (i := 955) (by decide +kernel), List.mem_of_getElem? (i := 956) (by decide +kernel)⟩
theorem lw_p23 : lw_okq (⟨"WindowTables$Program", "countUp", "(I)V"⟩, 2) := ⟨⟨by decide +kernel, by decide +kernel⟩, List.mem_of_getElem? (i := 110) (by decide +kernel), List.mem_of_getElem? (i := 972) (by decide +kernel), List.mem_of_getElem? (i := 973) (by decide +kernel)⟩
theorem lw_p24 : lw_okq (⟨"WindowTables$QuestionReader", "takeComma", "()Z"⟩, 7) := ⟨⟨by decide +kernel, by decide +kernel⟩, List.mem_of_getElem? (i := 123) (by decide +kernel), List.mem_of_getElem? (i := 980) (by decide +kernel), List.mem_of_getElem? (i := 981) (by decide +kernel)⟩
theorem lw_p25 : lw_okq (⟨"WindowTables$QuestionReader", "readMatches", "(I)V"⟩, 7) := ⟨⟨by decide +kernel, by decide +kernel⟩, List.mem_of_getElem? (i := 123) (by decide +kernel), List.mem_of_getElem? (i := 984) (by decide +kernel), List.mem_of_getElem? (i := 985) (by decide +kernel)⟩
theorem lw_p26 : lw_okq (⟨"WindowTables$QuestionReader", "join", "(III)I"⟩, 7) := ⟨⟨by decide +kernel, by decide +kernel⟩, List.mem_of_getElem? (i := 123) (by decide +kernel), List.mem_of_getElem? (i := 998) (by decide +kernel), List.mem_of_getElem? (i := 999) (by decide +kernel)⟩
theorem lw_p27 : lw_okq (⟨"WindowTables$QuestionReader", "haveSameNames", "(II)Z"⟩, 7) := ⟨⟨by decide +kernel, by decide +kernel⟩, List.mem_of_getElem? (i := 123) (by decide +kernel), List.mem_of_getElem? (i := 1002) (by decide +kernel), List.mem_of_getElem? (i := 1003) (by decide +kernel)⟩
theorem lw_p28 : lw_okq (⟨"WindowTables$Groups", "findLabels", "(II)V"⟩, 9) := ⟨⟨by decide +kernel, by decide +kernel⟩, List.mem_of_getElem? (i := 173) (by decide +kernel), List.mem_of_getElem? (i := 1031) (by decide +kernel), List.mem_of_getElem? (i := 1032) (by decide +kernel)⟩
theorem lw_p29 : lw_okq (⟨"WindowTables$Series", "isOnTape", "(ILWindowTables$Tape;II)Z"⟩, 5) := ⟨⟨by decide +kernel, by decide +kernel⟩, List.mem_of_getElem? (i := 519) (by decide +kernel), List.mem_of_getElem? (i := 1042) (by decide +kernel), List.mem_of_getElem? (i := 1043) (by decide +kernel)⟩
theorem lw_p30 : lw_okq (⟨"WindowTables$Groups", "putInOrder", "(I)V"⟩, 9) := ⟨⟨by decide +kernel, by decide +kernel⟩, List.mem_of_getElem? (i := 173) (by decide +kernel), List.mem_of_getElem? (i := 1048) (by decide +kernel), List.mem_of_getElem? (i := 1049) (by decide +kernel)⟩
theorem lw_p31 : lw_okq (⟨"WindowTables$Groups", "compare", "(II)I"⟩, 9) := ⟨⟨by decide +kernel, by decide +kernel⟩, List.mem_of_getElem? (i := 173) (by decide +kernel), List.mem_of_getElem? (i := 1052) (by decide +kernel), List.mem_of_getElem? (i := 1053) (by decide +kernel)⟩
def lw_privs_2 : List (MethodName × Nat) := [(⟨"WindowTables$QuestionReader", "refuse", "(I)V"⟩, 7), (⟨"WindowTables$QuestionReader", "take", "(I)V"⟩, 7), (⟨"WindowTables$QuestionReader", "funcKind", "()I"⟩, 7), (⟨"WindowTables$QuestionReader", "readFunc", "(I)I"⟩, 7), (⟨"WindowTables$QuestionReader", "readNames", "(I)V"⟩, 7), (⟨"WindowTables$QuestionReader", "hasName", "(III)Z"⟩, 7), (⟨"WindowTables$QuestionReader", "isName", "(IIII)Z"⟩, 7), (⟨"WindowTables$Program", "countUp", "(I)V"⟩, 2), (⟨"WindowTables$QuestionReader", "takeComma", "()Z"⟩, 7), (⟨"WindowTables$QuestionReader", "readMatches", "(I)V"⟩, 7), (⟨"WindowTables$QuestionReader", "join", "(III)I"⟩, 7), (⟨"WindowTables$QuestionReader", "haveSameNames", "(II)Z"⟩, 7), (⟨"WindowTables$Groups", "findLabels", "(II)V"⟩, 9), (⟨"WindowTables$Series", "isOnTape", "(ILWindowTables$Tape;II)Z"⟩, 5), (⟨"WindowTables$Groups", "putInOrder", "(I)V"⟩, 9), (⟨"WindowTables$Groups", "compare", "(II)I"⟩, 9)]
theorem lw_r2 : ∀ q ∈ lw_privs_2, lw_okq q := List.forall_mem_cons.mpr ⟨lw_p16, List.forall_mem_cons.mpr ⟨lw_p17, List.forall_mem_cons.mpr ⟨lw_p18, List.forall_mem_cons.mpr ⟨lw_p19, List.forall_mem_cons.mpr ⟨lw_p20, List.forall_mem_cons.mpr ⟨lw_p21, List.forall_mem_cons.mpr ⟨lw_p22, List.forall_mem_cons.mpr ⟨lw_p23, List.forall_mem_cons.mpr ⟨lw_p24, List.forall_mem_cons.mpr ⟨lw_p25, List.forall_mem_cons.mpr ⟨lw_p26, List.forall_mem_cons.mpr ⟨lw_p27, List.forall_mem_cons.mpr ⟨lw_p28, List.forall_mem_cons.mpr ⟨lw_p29, List.forall_mem_cons.mpr ⟨lw_p30, List.forall_mem_cons.mpr ⟨lw_p31, fun _ h => absurd h List.not_mem_nil⟩⟩⟩⟩⟩⟩⟩⟩⟩⟩⟩⟩⟩⟩⟩⟩
theorem lw_p32 : lw_okq (⟨"WindowTables$Groups", "labelOf", "(II)I"⟩, 9) := ⟨⟨by decide +kernel, by decide +kernel⟩, List.mem_of_getElem? (i := 173) (by decide +kernel), List.mem_of_getElem? (i := 1056) (by decide +kernel), List.mem_of_getElem? (i := 1057) (by decide +kernel)⟩
theorem lw_p33 : lw_okq (⟨"WindowTables$Evaluator", "pushNumber", "(J)V"⟩, 10) := ⟨⟨by decide +kernel, by decide +kernel⟩, List.mem_of_getElem? (i := 207) (by decide +kernel), List.mem_of_getElem? (i := 1103) (by decide +kernel), List.mem_of_getElem? (i := 1104) (by decide +kernel)⟩
theorem lw_p34 : lw_okq (⟨"WindowTables$Evaluator", "push", "(IZ)LWindowTables$Grid;"⟩, 10) := ⟨⟨by decide +kernel, by decide +kernel⟩, List.mem_of_getElem? (i := 207) (by decide +kernel), List.mem_of_getElem? (i := 1107) (by decide +kernel), List.mem_of_getElem? (i := 1108) (by decide +kernel)⟩
theorem lw_p35 : lw_okq (⟨"WindowTables$Evaluator", "pushFunc", "(I)V"⟩, 10) := ⟨⟨by decide +kernel, by decide +kernel⟩, List.mem_of_getElem? (i := 207) (by decide +kernel), List.mem_of_getElem? (i := 1121) (by decide +kernel), List.mem_of_getElem? (i := 1122) (by decide +kernel)⟩
theorem lw_p36 : lw_okq (⟨"WindowTables$Evaluator", "makeMoments", "(I)V"⟩, 10) := ⟨⟨by decide +kernel, by decide +kernel⟩, List.mem_of_getElem? (i := 207) (by decide +kernel), List.mem_of_getElem? (i := 1138) (by decide +kernel), List.mem_of_getElem? (i := 1139) (by decide +kernel)⟩
theorem lw_p37 : lw_okq (⟨"WindowTables$Evaluator", "matchesAll", "(LWindowTables$Series;I)Z"⟩, 10) := ⟨⟨by decide +kernel, by decide +kernel⟩, List.mem_of_getElem? (i := 207) (by decide +kernel), List.mem_of_getElem? (i := 1145) (by decide +kernel), List.mem_of_getElem? (i := 1146) (by decide +kernel)⟩
theorem lw_p38 : lw_okq (⟨"WindowTables$Evaluator", "matches", "(LWindowTables$Series;I)Z"⟩, 10) := ⟨⟨by decide +kernel, by decide +kernel⟩, List.mem_of_getElem? (i := 207) (by decide +kernel), List.mem_of_getElem? (i := 1151) (by decide +kernel), List.mem_of_getElem? (i := 1152) (by decide +kernel)⟩
theorem lw_p39 : lw_okq (⟨"WindowTables$Evaluator", "addPoints", "(ILWindowTables$Grid;ILWindowTables$Points;)V"⟩, 10) := ⟨⟨by decide +kernel, by decide +kernel⟩, List.mem_of_getElem? (i := 207) (by decide +kernel), List.mem_of_getElem? (i := 1166) (by decide +kernel), List.mem_of_getElem? (i := 1167) (by decide +kernel)⟩
theorem lw_p40 : lw_okq (⟨"WindowTables$Evaluator", "addPoint", "(ILWindowTables$Grid;ILWindowTables$Points;I)V"⟩, 10) := ⟨⟨by decide +kernel, by decide +kernel⟩, List.mem_of_getElem? (i := 207) (by decide +kernel), List.mem_of_getElem? (i := 1180) (by decide +kernel), List.mem_of_getElem? (i := 1181) (by decide +kernel)⟩
theorem lw_p41 : lw_okq (⟨"WindowTables$Evaluator", "addMoment", "(ILWindowTables$Grid;IJJ)V"⟩, 10) := ⟨⟨by decide +kernel, by decide +kernel⟩, List.mem_of_getElem? (i := 207) (by decide +kernel), List.mem_of_getElem? (i := 1204) (by decide +kernel), List.mem_of_getElem? (i := 1205) (by decide +kernel)⟩
theorem lw_p42 : lw_okq (⟨"WindowTables$Evaluator", "negate", "()V"⟩, 10) := ⟨⟨by decide +kernel, by decide +kernel⟩, List.mem_of_getElem? (i := 207) (by decide +kernel), List.mem_of_getElem? (i := 1208) (by decide +kernel), List.mem_of_getElem? (i := 1209) (by decide +kernel)⟩
theorem lw_p43 : lw_okq (⟨"WindowTables$Evaluator", "combine", "(I)V"⟩, 10) := ⟨⟨by decide +kernel, by decide +kernel⟩, List.mem_of_getElem? (i := 207) (by decide +kernel), List.mem_of_getElem? (i := 1212) (by decide +kernel), List.mem_of_getElem? (i := 1213) (by decide +kernel)⟩
theorem lw_p44 : lw_okq (⟨"WindowTables$Evaluator", "dropEmptyLines", "()V"⟩, 10) := ⟨⟨by decide +kernel, by decide +kernel⟩, List.mem_of_getElem? (i := 207) (by decide +kernel), List.mem_of_getElem? (i := 1230) (by decide +kernel), List.mem_of_getElem? (i := 1231) (by decide +kernel)⟩
theorem lw_p45 : lw_okq (⟨"WindowTables", "hasRow", "(I)Z"⟩, 10) := ⟨⟨by decide +kernel, by decide +kernel⟩, List.mem_of_getElem? (i := 29) (by decide +kernel), List.mem_of_getElem? (i := 1265) (by decide +kernel), List.mem_of_getElem? (i := 1266) (by decide +kernel)⟩
theorem lw_p46 : lw_okq (⟨"WindowTables", "tableWith", "(II)LWindowTables$Grid;"⟩, 10) := ⟨⟨by decide +kernel, by decide +kernel⟩, List.mem_of_getElem? (i := 29) (by decide +kernel), List.mem_of_getElem? (i := 1284) (by decide +kernel), List.mem_of_getElem? (i := 1285) (by decide +kernel)⟩
theorem lw_p47 : lw_okq (⟨"WindowTablesModel", "readLabels", "()Z"⟩, 56) := ⟨⟨by decide +kernel, by decide +kernel⟩, List.mem_of_getElem? (i := 1345) (by decide +kernel), List.mem_of_getElem? (i := 1544) (by decide +kernel), List.mem_of_getElem? (i := 1545) (by decide +kernel)⟩
def lw_privs_3 : List (MethodName × Nat) := [(⟨"WindowTables$Groups", "labelOf", "(II)I"⟩, 9), (⟨"WindowTables$Evaluator", "pushNumber", "(J)V"⟩, 10), (⟨"WindowTables$Evaluator", "push", "(IZ)LWindowTables$Grid;"⟩, 10), (⟨"WindowTables$Evaluator", "pushFunc", "(I)V"⟩, 10), (⟨"WindowTables$Evaluator", "makeMoments", "(I)V"⟩, 10), (⟨"WindowTables$Evaluator", "matchesAll", "(LWindowTables$Series;I)Z"⟩, 10), (⟨"WindowTables$Evaluator", "matches", "(LWindowTables$Series;I)Z"⟩, 10), (⟨"WindowTables$Evaluator", "addPoints", "(ILWindowTables$Grid;ILWindowTables$Points;)V"⟩, 10), (⟨"WindowTables$Evaluator", "addPoint", "(ILWindowTables$Grid;ILWindowTables$Points;I)V"⟩, 10), (⟨"WindowTables$Evaluator", "addMoment", "(ILWindowTables$Grid;IJJ)V"⟩, 10), (⟨"WindowTables$Evaluator", "negate", "()V"⟩, 10), (⟨"WindowTables$Evaluator", "combine", "(I)V"⟩, 10), (⟨"WindowTables$Evaluator", "dropEmptyLines", "()V"⟩, 10), (⟨"WindowTables", "hasRow", "(I)Z"⟩, 10), (⟨"WindowTables", "tableWith", "(II)LWindowTables$Grid;"⟩, 10), (⟨"WindowTablesModel", "readLabels", "()Z"⟩, 56)]
theorem lw_r3 : ∀ q ∈ lw_privs_3, lw_okq q := List.forall_mem_cons.mpr ⟨lw_p32, List.forall_mem_cons.mpr ⟨lw_p33, List.forall_mem_cons.mpr ⟨lw_p34, List.forall_mem_cons.mpr ⟨lw_p35, List.forall_mem_cons.mpr ⟨lw_p36, List.forall_mem_cons.mpr ⟨lw_p37, List.forall_mem_cons.mpr ⟨lw_p38, List.forall_mem_cons.mpr ⟨lw_p39, List.forall_mem_cons.mpr ⟨lw_p40, List.forall_mem_cons.mpr ⟨lw_p41, List.forall_mem_cons.mpr ⟨lw_p42, List.forall_mem_cons.mpr ⟨lw_p43, List.forall_mem_cons.mpr ⟨lw_p44, List.forall_mem_cons.mpr ⟨lw_p45, List.forall_mem_cons.mpr ⟨lw_p46, List.forall_mem_cons.mpr ⟨lw_p47, fun _ h => absurd h List.not_mem_nil⟩⟩⟩⟩⟩⟩⟩⟩⟩⟩⟩⟩⟩⟩⟩⟩
theorem lw_p48 : lw_okq (⟨"WindowTablesModel", "wordLength", "(I)I"⟩, 56) := ⟨⟨by decide +kernel, by decide +kernel⟩, List.mem_of_getElem? (i := 1345) (by decide +kernel), List.mem_of_getElem? (i := 1548) (by decide +kernel), List.mem_of_getElem? (i := 1549) (by decide +kernel)⟩
theorem lw_p49 : lw_okq (⟨"WindowTablesModel", "flaw", "(II)Z"⟩, 56) := ⟨⟨by decide +kernel, by decide +kernel⟩, List.mem_of_getElem? (i := 1345) (by decide +kernel), List.mem_of_getElem? (i := 1555) (by decide +kernel), List.mem_of_getElem? (i := 1556) (by decide +kernel)⟩
theorem lw_p50 : lw_okq (⟨"WindowTablesModel", "compare", "(IIII)I"⟩, 56) := ⟨⟨by decide +kernel, by decide +kernel⟩, List.mem_of_getElem? (i := 1345) (by decide +kernel), List.mem_of_getElem? (i := 1559) (by decide +kernel), List.mem_of_getElem? (i := 1560) (by decide +kernel)⟩
theorem lw_p51 : lw_okq (⟨"WindowTablesModel", "layText", "()I"⟩, 56) := ⟨⟨by decide +kernel, by decide +kernel⟩, List.mem_of_getElem? (i := 1345) (by decide +kernel), List.mem_of_getElem? (i := 1563) (by decide +kernel), List.mem_of_getElem? (i := 1564) (by decide +kernel)⟩
theorem lw_p52 : lw_okq (⟨"WindowTablesModel", "find", "(I)I"⟩, 56) := ⟨⟨by decide +kernel, by decide +kernel⟩, List.mem_of_getElem? (i := 1345) (by decide +kernel), List.mem_of_getElem? (i := 1567) (by decide +kernel), List.mem_of_getElem? (i := 1568) (by decide +kernel)⟩
theorem lw_p53 : lw_okq (⟨"WindowTablesModel", "isSeries", "(I)Z"⟩, 56) := ⟨⟨by decide +kernel, by decide +kernel⟩, List.mem_of_getElem? (i := 1345) (by decide +kernel), List.mem_of_getElem? (i := 1576) (by decide +kernel), List.mem_of_getElem? (i := 1577) (by decide +kernel)⟩
theorem lw_p54 : lw_okq (⟨"WindowTablesModel", "why", "(IJ)I"⟩, 56) := ⟨⟨by decide +kernel, by decide +kernel⟩, List.mem_of_getElem? (i := 1345) (by decide +kernel), List.mem_of_getElem? (i := 1588) (by decide +kernel), List.mem_of_getElem? (i := 1589) (by decide +kernel)⟩
theorem lw_p55 : lw_okq (⟨"WindowTablesModel", "come", "(IJJ)V"⟩, 56) := ⟨⟨by decide +kernel, by decide +kernel⟩, List.mem_of_getElem? (i := 1345) (by decide +kernel), List.mem_of_getElem? (i := 1593) (by decide +kernel), List.mem_of_getElem? (i := 1594) (by decide +kernel)⟩
theorem lw_p56 : lw_okq (⟨"WindowTablesModel", "numberAt", "(I)J"⟩, 56) := ⟨⟨by decide +kernel, by decide +kernel⟩, List.mem_of_getElem? (i := 1345) (by decide +kernel), List.mem_of_getElem? (i := 1601) (by decide +kernel), List.mem_of_getElem? (i := 1602) (by decide +kernel)⟩
theorem lw_p57 : lw_okq (⟨"WindowTablesModel", "between", "(IJJZ)I"⟩, 56) := ⟨⟨by decide +kernel, by decide +kernel⟩, List.mem_of_getElem? (i := 1345) (by decide +kernel), List.mem_of_getElem? (i := 1609) (by decide +kernel), List.mem_of_getElem? (i := 1610) (by decide +kernel)⟩
theorem lw_p58 : lw_okq (⟨"WindowTablesModel", "go", "(IJJ)V"⟩, 56) := ⟨⟨by decide +kernel, by decide +kernel⟩, List.mem_of_getElem? (i := 1345) (by decide +kernel), List.mem_of_getElem? (i := 1613) (by decide +kernel), List.mem_of_getElem? (i := 1614) (by decide +kernel)⟩
theorem lw_p59 : lw_okq (⟨"WindowTablesModel", "tidy", "()V"⟩, 56) := ⟨⟨by decide +kernel, by decide +kernel⟩, List.mem_of_getElem? (i := 1345) (by decide +kernel), List.mem_of_getElem? (i := 1617) (by decide +kernel), List.mem_of_getElem? (i := 1618) (by decide +kernel)⟩
theorem lw_p60 : lw_okq (⟨"WindowTablesModel", "question", "(Z)Z"⟩, 56) := ⟨⟨by decide +kernel, by decide +kernel⟩, List.mem_of_getElem? (i := 1345) (by decide +kernel), List.mem_of_getElem? (i := 1637) (by decide +kernel), List.mem_of_getElem? (i := 1638) (by decide +kernel)⟩
theorem lw_p61 : lw_okq (⟨"WindowTablesModel", "next", "()Z"⟩, 56) := ⟨⟨by decide +kernel, by decide +kernel⟩, List.mem_of_getElem? (i := 1345) (by decide +kernel), List.mem_of_getElem? (i := 1641) (by decide +kernel), List.mem_of_getElem? (i := 1642) (by decide +kernel)⟩
theorem lw_p62 : lw_okq (⟨"WindowTablesModel", "at", "(I)I"⟩, 56) := ⟨⟨by decide +kernel, by decide +kernel⟩, List.mem_of_getElem? (i := 1345) (by decide +kernel), List.mem_of_getElem? (i := 1645) (by decide +kernel), List.mem_of_getElem? (i := 1646) (by decide +kernel)⟩
theorem lw_p63 : lw_okq (⟨"WindowTablesModel", "readNumber", "()Z"⟩, 56) := ⟨⟨by decide +kernel, by decide +kernel⟩, List.mem_of_getElem? (i := 1345) (by decide +kernel), List.mem_of_getElem? (i := 1652) (by decide +kernel), List.mem_of_getElem? (i := 1653) (by decide +kernel)⟩
def lw_privs_4 : List (MethodName × Nat) := [(⟨"WindowTablesModel", "wordLength", "(I)I"⟩, 56), (⟨"WindowTablesModel", "flaw", "(II)Z"⟩, 56), (⟨"WindowTablesModel", "compare", "(IIII)I"⟩, 56), (⟨"WindowTablesModel", "layText", "()I"⟩, 56), (⟨"WindowTablesModel", "find", "(I)I"⟩, 56), (⟨"WindowTablesModel", "isSeries", "(I)Z"⟩, 56), (⟨"WindowTablesModel", "why", "(IJ)I"⟩, 56), (⟨"WindowTablesModel", "come", "(IJJ)V"⟩, 56), (⟨"WindowTablesModel", "numberAt", "(I)J"⟩, 56), (⟨"WindowTablesModel", "between", "(IJJZ)I"⟩, 56), (⟨"WindowTablesModel", "go", "(IJJ)V"⟩, 56), (⟨"WindowTablesModel", "tidy", "()V"⟩, 56), (⟨"WindowTablesModel", "question", "(Z)Z"⟩, 56), (⟨"WindowTablesModel", "next", "()Z"⟩, 56), (⟨"WindowTablesModel", "at", "(I)I"⟩, 56), (⟨"WindowTablesModel", "readNumber", "()Z"⟩, 56)]
theorem lw_r4 : ∀ q ∈ lw_privs_4, lw_okq q := List.forall_mem_cons.mpr ⟨lw_p48, List.forall_mem_cons.mpr ⟨lw_p49, List.forall_mem_cons.mpr ⟨lw_p50, List.forall_mem_cons.mpr ⟨lw_p51, List.forall_mem_cons.mpr ⟨lw_p52, List.forall_mem_cons.mpr ⟨lw_p53, List.forall_mem_cons.mpr ⟨lw_p54, List.forall_mem_cons.mpr ⟨lw_p55, List.forall_mem_cons.mpr ⟨lw_p56, List.forall_mem_cons.mpr ⟨lw_p57, List.forall_mem_cons.mpr ⟨lw_p58, List.forall_mem_cons.mpr ⟨lw_p59, List.forall_mem_cons.mpr ⟨lw_p60, List.forall_mem_cons.mpr ⟨lw_p61, List.forall_mem_cons.mpr ⟨lw_p62, List.forall_mem_cons.mpr ⟨lw_p63, fun _ h => absurd h List.not_mem_nil⟩⟩⟩⟩⟩⟩⟩⟩⟩⟩⟩⟩⟩⟩⟩⟩
theorem lw_p64 : lw_okq (⟨"WindowTablesModel", "readSign", "(II)Z"⟩, 56) := ⟨⟨by decide +kernel, by decide +kernel⟩, List.mem_of_getElem? (i := 1345) (by decide +kernel), List.mem_of_getElem? (i := 1661) (by decide +kernel), List.mem_of_getElem? (i := 1662) (by decide +kernel)⟩
theorem lw_p65 : lw_okq (⟨"WindowTablesModel", "operand", "()Z"⟩, 56) := ⟨⟨by decide +kernel, by decide +kernel⟩, List.mem_of_getElem? (i := 1345) (by decide +kernel), List.mem_of_getElem? (i := 1665) (by decide +kernel), List.mem_of_getElem? (i := 1666) (by decide +kernel)⟩
theorem lw_p66 : lw_okq (⟨"WindowTablesModel", "opens", "(I)Z"⟩, 56) := ⟨⟨by decide +kernel, by decide +kernel⟩, List.mem_of_getElem? (i := 1345) (by decide +kernel), List.mem_of_getElem? (i := 1669) (by decide +kernel), List.mem_of_getElem? (i := 1670) (by decide +kernel)⟩
theorem lw_p67 : lw_okq (⟨"WindowTablesModel", "function", "()I"⟩, 56) := ⟨⟨by decide +kernel, by decide +kernel⟩, List.mem_of_getElem? (i := 1345) (by decide +kernel), List.mem_of_getElem? (i := 1673) (by decide +kernel), List.mem_of_getElem? (i := 1674) (by decide +kernel)⟩
theorem lw_p68 : lw_okq (⟨"WindowTablesModel", "isName", "(CCCCI)Z"⟩, 56) := ⟨⟨by decide +kernel, by decide +kernel⟩, List.mem_of_getElem? (i := 1345) (by decide +kernel), List.mem_of_getElem? (i := 1677) (by decide +kernel), List.mem_of_getElem? (i := 1678) (by decide +kernel)⟩
theorem lw_p69 : lw_okq (⟨"WindowTablesModel", "isStart", "(CCC)Z"⟩, 56) := ⟨⟨by decide +kernel, by decide +kernel⟩, List.mem_of_getElem? (i := 1345) (by decide +kernel), List.mem_of_getElem? (i := 1681) (by decide +kernel), List.mem_of_getElem? (i := 1682) (by decide +kernel)⟩
theorem lw_p70 : lw_okq (⟨"WindowTablesModel", "called", "(I)Z"⟩, 56) := ⟨⟨by decide +kernel, by decide +kernel⟩, List.mem_of_getElem? (i := 1345) (by decide +kernel), List.mem_of_getElem? (i := 1685) (by decide +kernel), List.mem_of_getElem? (i := 1686) (by decide +kernel)⟩
theorem lw_p71 : lw_okq (⟨"WindowTablesModel", "by", "()Z"⟩, 56) := ⟨⟨by decide +kernel, by decide +kernel⟩, List.mem_of_getElem? (i := 1345) (by decide +kernel), List.mem_of_getElem? (i := 1689) (by decide +kernel), List.mem_of_getElem? (i := 1690) (by decide +kernel)⟩
theorem lw_p72 : lw_okq (⟨"WindowTablesModel", "need", "(I)Z"⟩, 56) := ⟨⟨by decide +kernel, by decide +kernel⟩, List.mem_of_getElem? (i := 1345) (by decide +kernel), List.mem_of_getElem? (i := 1693) (by decide +kernel), List.mem_of_getElem? (i := 1694) (by decide +kernel)⟩
theorem lw_p73 : lw_okq (⟨"WindowTablesModel", "match", "()Z"⟩, 56) := ⟨⟨by decide +kernel, by decide +kernel⟩, List.mem_of_getElem? (i := 1345) (by decide +kernel), List.mem_of_getElem? (i := 1697) (by decide +kernel), List.mem_of_getElem? (i := 1698) (by decide +kernel)⟩
theorem lw_p74 : lw_okq (⟨"WindowTablesModel", "reckon", "(II)V"⟩, 56) := ⟨⟨by decide +kernel, by decide +kernel⟩, List.mem_of_getElem? (i := 1345) (by decide +kernel), List.mem_of_getElem? (i := 1701) (by decide +kernel), List.mem_of_getElem? (i := 1702) (by decide +kernel)⟩
theorem lw_p75 : lw_okq (⟨"WindowTablesModel", "group", "(II)V"⟩, 56) := ⟨⟨by decide +kernel, by decide +kernel⟩, List.mem_of_getElem? (i := 1345) (by decide +kernel), List.mem_of_getElem? (i := 1705) (by decide +kernel), List.mem_of_getElem? (i := 1706) (by decide +kernel)⟩
theorem lw_p76 : lw_okq (⟨"WindowTablesModel", "matches", "(II)Z"⟩, 56) := ⟨⟨by decide +kernel, by decide +kernel⟩, List.mem_of_getElem? (i := 1345) (by decide +kernel), List.mem_of_getElem? (i := 1709) (by decide +kernel), List.mem_of_getElem? (i := 1710) (by decide +kernel)⟩
theorem lw_p77 : lw_okq (⟨"WindowTablesModel", "valueOf", "(III)I"⟩, 56) := ⟨⟨by decide +kernel, by decide +kernel⟩, List.mem_of_getElem? (i := 1345) (by decide +kernel), List.mem_of_getElem? (i := 1713) (by decide +kernel), List.mem_of_getElem? (i := 1714) (by decide +kernel)⟩
theorem lw_p78 : lw_okq (⟨"WindowTablesModel", "compareRows", "(III)I"⟩, 56) := ⟨⟨by decide +kernel, by decide +kernel⟩, List.mem_of_getElem? (i := 1345) (by decide +kernel), List.mem_of_getElem? (i := 1717) (by decide +kernel), List.mem_of_getElem? (i := 1718) (by decide +kernel)⟩
theorem lw_p79 : lw_okq (⟨"WindowTablesModel", "isSeen", "(I)Z"⟩, 56) := ⟨⟨by decide +kernel, by decide +kernel⟩, List.mem_of_getElem? (i := 1345) (by decide +kernel), List.mem_of_getElem? (i := 1721) (by decide +kernel), List.mem_of_getElem? (i := 1722) (by decide +kernel)⟩
def lw_privs_5 : List (MethodName × Nat) := [(⟨"WindowTablesModel", "readSign", "(II)Z"⟩, 56), (⟨"WindowTablesModel", "operand", "()Z"⟩, 56), (⟨"WindowTablesModel", "opens", "(I)Z"⟩, 56), (⟨"WindowTablesModel", "function", "()I"⟩, 56), (⟨"WindowTablesModel", "isName", "(CCCCI)Z"⟩, 56), (⟨"WindowTablesModel", "isStart", "(CCC)Z"⟩, 56), (⟨"WindowTablesModel", "called", "(I)Z"⟩, 56), (⟨"WindowTablesModel", "by", "()Z"⟩, 56), (⟨"WindowTablesModel", "need", "(I)Z"⟩, 56), (⟨"WindowTablesModel", "match", "()Z"⟩, 56), (⟨"WindowTablesModel", "reckon", "(II)V"⟩, 56), (⟨"WindowTablesModel", "group", "(II)V"⟩, 56), (⟨"WindowTablesModel", "matches", "(II)Z"⟩, 56), (⟨"WindowTablesModel", "valueOf", "(III)I"⟩, 56), (⟨"WindowTablesModel", "compareRows", "(III)I"⟩, 56), (⟨"WindowTablesModel", "isSeen", "(I)Z"⟩, 56)]
theorem lw_r5 : ∀ q ∈ lw_privs_5, lw_okq q := List.forall_mem_cons.mpr ⟨lw_p64, List.forall_mem_cons.mpr ⟨lw_p65, List.forall_mem_cons.mpr ⟨lw_p66, List.forall_mem_cons.mpr ⟨lw_p67, List.forall_mem_cons.mpr ⟨lw_p68, List.forall_mem_cons.mpr ⟨lw_p69, List.forall_mem_cons.mpr ⟨lw_p70, List.forall_mem_cons.mpr ⟨lw_p71, List.forall_mem_cons.mpr ⟨lw_p72, List.forall_mem_cons.mpr ⟨lw_p73, List.forall_mem_cons.mpr ⟨lw_p74, List.forall_mem_cons.mpr ⟨lw_p75, List.forall_mem_cons.mpr ⟨lw_p76, List.forall_mem_cons.mpr ⟨lw_p77, List.forall_mem_cons.mpr ⟨lw_p78, List.forall_mem_cons.mpr ⟨lw_p79, fun _ h => absurd h List.not_mem_nil⟩⟩⟩⟩⟩⟩⟩⟩⟩⟩⟩⟩⟩⟩⟩⟩
theorem lw_p80 : lw_okq (⟨"WindowTablesModel", "gather", "(IIIII)V"⟩, 56) := ⟨⟨by decide +kernel, by decide +kernel⟩, List.mem_of_getElem? (i := 1345) (by decide +kernel), List.mem_of_getElem? (i := 1725) (by decide +kernel), List.mem_of_getElem? (i := 1726) (by decide +kernel)⟩
theorem lw_p81 : lw_okq (⟨"WindowTablesModel", "cellAt", "(III)I"⟩, 56) := ⟨⟨by decide +kernel, by decide +kernel⟩, List.mem_of_getElem? (i := 1345) (by decide +kernel), List.mem_of_getElem? (i := 1729) (by decide +kernel), List.mem_of_getElem? (i := 1730) (by decide +kernel)⟩
theorem lw_p82 : lw_okq (⟨"WindowTablesModel", "sweep", "(I)V"⟩, 56) := ⟨⟨by decide +kernel, by decide +kernel⟩, List.mem_of_getElem? (i := 1345) (by decide +kernel), List.mem_of_getElem? (i := 1733) (by decide +kernel), List.mem_of_getElem? (i := 1734) (by decide +kernel)⟩
theorem lw_p83 : lw_okq (⟨"WindowTablesModel", "number", "()V"⟩, 56) := ⟨⟨by decide +kernel, by decide +kernel⟩, List.mem_of_getElem? (i := 1345) (by decide +kernel), List.mem_of_getElem? (i := 1737) (by decide +kernel), List.mem_of_getElem? (i := 1738) (by decide +kernel)⟩
theorem lw_p84 : lw_okq (⟨"WindowTablesModel", "doneTo", "(I)Z"⟩, 56) := ⟨⟨by decide +kernel, by decide +kernel⟩, List.mem_of_getElem? (i := 1345) (by decide +kernel), List.mem_of_getElem? (i := 1741) (by decide +kernel), List.mem_of_getElem? (i := 1742) (by decide +kernel)⟩
theorem lw_p85 : lw_okq (⟨"WindowTablesModel", "done", "()Z"⟩, 56) := ⟨⟨by decide +kernel, by decide +kernel⟩, List.mem_of_getElem? (i := 1345) (by decide +kernel), List.mem_of_getElem? (i := 1748) (by decide +kernel), List.mem_of_getElem? (i := 1749) (by decide +kernel)⟩
theorem lw_p86 : lw_okq (⟨"WindowTablesModel", "negate", "()V"⟩, 56) := ⟨⟨by decide +kernel, by decide +kernel⟩, List.mem_of_getElem? (i := 1345) (by decide +kernel), List.mem_of_getElem? (i := 1752) (by decide +kernel), List.mem_of_getElem? (i := 1753) (by decide +kernel)⟩
theorem lw_p87 : lw_okq (⟨"WindowTablesModel", "operate", "(II)Z"⟩, 56) := ⟨⟨by decide +kernel, by decide +kernel⟩, List.mem_of_getElem? (i := 1345) (by decide +kernel), List.mem_of_getElem? (i := 1756) (by decide +kernel), List.mem_of_getElem? (i := 1757) (by decide +kernel)⟩
theorem lw_p88 : lw_okq (⟨"WindowTablesModel", "hasSameNames", "(II)Z"⟩, 56) := ⟨⟨by decide +kernel, by decide +kernel⟩, List.mem_of_getElem? (i := 1345) (by decide +kernel), List.mem_of_getElem? (i := 1760) (by decide +kernel), List.mem_of_getElem? (i := 1761) (by decide +kernel)⟩
theorem lw_p89 : lw_okq (⟨"WindowTablesModel", "meet", "(III)V"⟩, 56) := ⟨⟨by decide +kernel, by decide +kernel⟩, List.mem_of_getElem? (i := 1345) (by decide +kernel), List.mem_of_getElem? (i := 1764) (by decide +kernel), List.mem_of_getElem? (i := 1765) (by decide +kernel)⟩
theorem lw_p90 : lw_okq (⟨"WindowTablesModel", "join", "(IIII)V"⟩, 56) := ⟨⟨by decide +kernel, by decide +kernel⟩, List.mem_of_getElem? (i := 1345) (by decide +kernel), List.mem_of_getElem? (i := 1768) (by decide +kernel), List.mem_of_getElem? (i := 1769) (by decide +kernel)⟩
theorem lw_p91 : lw_okq (⟨"WindowTablesModel", "spread", "(III)V"⟩, 56) := ⟨⟨by decide +kernel, by decide +kernel⟩, List.mem_of_getElem? (i := 1345) (by decide +kernel), List.mem_of_getElem? (i := 1772) (by decide +kernel), List.mem_of_getElem? (i := 1773) (by decide +kernel)⟩
theorem lw_p92 : lw_okq (⟨"WindowTablesModel", "operator", "()Z"⟩, 56) := ⟨⟨by decide +kernel, by decide +kernel⟩, List.mem_of_getElem? (i := 1345) (by decide +kernel), List.mem_of_getElem? (i := 1776) (by decide +kernel), List.mem_of_getElem? (i := 1777) (by decide +kernel)⟩
theorem lw_p93 : lw_okq (⟨"WindowTablesModel", "isOpen", "()Z"⟩, 56) := ⟨⟨by decide +kernel, by decide +kernel⟩, List.mem_of_getElem? (i := 1345) (by decide +kernel), List.mem_of_getElem? (i := 1780) (by decide +kernel), List.mem_of_getElem? (i := 1781) (by decide +kernel)⟩
theorem lw_p94 : lw_okq (⟨"WindowTablesModel", "keepTable", "()V"⟩, 56) := ⟨⟨by decide +kernel, by decide +kernel⟩, List.mem_of_getElem? (i := 1345) (by decide +kernel), List.mem_of_getElem? (i := 1784) (by decide +kernel), List.mem_of_getElem? (i := 1785) (by decide +kernel)⟩
theorem lw_p95 : lw_okq (⟨"WindowTablesModel", "isRow", "(I)Z"⟩, 56) := ⟨⟨by decide +kernel, by decide +kernel⟩, List.mem_of_getElem? (i := 1345) (by decide +kernel), List.mem_of_getElem? (i := 1796) (by decide +kernel), List.mem_of_getElem? (i := 1797) (by decide +kernel)⟩
def lw_privs_6 : List (MethodName × Nat) := [(⟨"WindowTablesModel", "gather", "(IIIII)V"⟩, 56), (⟨"WindowTablesModel", "cellAt", "(III)I"⟩, 56), (⟨"WindowTablesModel", "sweep", "(I)V"⟩, 56), (⟨"WindowTablesModel", "number", "()V"⟩, 56), (⟨"WindowTablesModel", "doneTo", "(I)Z"⟩, 56), (⟨"WindowTablesModel", "done", "()Z"⟩, 56), (⟨"WindowTablesModel", "negate", "()V"⟩, 56), (⟨"WindowTablesModel", "operate", "(II)Z"⟩, 56), (⟨"WindowTablesModel", "hasSameNames", "(II)Z"⟩, 56), (⟨"WindowTablesModel", "meet", "(III)V"⟩, 56), (⟨"WindowTablesModel", "join", "(IIII)V"⟩, 56), (⟨"WindowTablesModel", "spread", "(III)V"⟩, 56), (⟨"WindowTablesModel", "operator", "()Z"⟩, 56), (⟨"WindowTablesModel", "isOpen", "()Z"⟩, 56), (⟨"WindowTablesModel", "keepTable", "()V"⟩, 56), (⟨"WindowTablesModel", "isRow", "(I)Z"⟩, 56)]
theorem lw_r6 : ∀ q ∈ lw_privs_6, lw_okq q := List.forall_mem_cons.mpr ⟨lw_p80, List.forall_mem_cons.mpr ⟨lw_p81, List.forall_mem_cons.mpr ⟨lw_p82, List.forall_mem_cons.mpr ⟨lw_p83, List.forall_mem_cons.mpr ⟨lw_p84, List.forall_mem_cons.mpr ⟨lw_p85, List.forall_mem_cons.mpr ⟨lw_p86, List.forall_mem_cons.mpr ⟨lw_p87, List.forall_mem_cons.mpr ⟨lw_p88, List.forall_mem_cons.mpr ⟨lw_p89, List.forall_mem_cons.mpr ⟨lw_p90, List.forall_mem_cons.mpr ⟨lw_p91, List.forall_mem_cons.mpr ⟨lw_p92, List.forall_mem_cons.mpr ⟨lw_p93, List.forall_mem_cons.mpr ⟨lw_p94, List.forall_mem_cons.mpr ⟨lw_p95, fun _ h => absurd h List.not_mem_nil⟩⟩⟩⟩⟩⟩⟩⟩⟩⟩⟩⟩⟩⟩⟩⟩
def lw_privs : List (MethodName × Nat) := lw_privs_1 ++ (lw_privs_2 ++ (lw_privs_3 ++ (lw_privs_4 ++ (lw_privs_5 ++ (lw_privs_6)))))
def lw_tbl : List Cond := k2_sels lw_privs ++ tables_1
theorem lw_privs_ok : ∀ q ∈ lw_privs, lw_okq q := by
  show ∀ q ∈ lw_privs_1 ++ (lw_privs_2 ++ (lw_privs_3 ++ (lw_privs_4 ++ (lw_privs_5 ++ (lw_privs_6))))), lw_okq q
  exact List.forall_mem_append.mpr ⟨lw_r1, List.forall_mem_append.mpr ⟨lw_r2, List.forall_mem_append.mpr ⟨lw_r3, List.forall_mem_append.mpr ⟨lw_r4, List.forall_mem_append.mpr ⟨lw_r5, lw_r6⟩⟩⟩⟩⟩
/-- the words that every contract has: all good ones of the tables -/
def jw_all : List Cond := lw_tbl.filter goodWord
theorem jw_of {w : Cond} (h : w ∈ lw_tbl) (g : goodWord w = true) : w ∈ jw_all := List.mem_filter.mpr ⟨h, g⟩
theorem jw_in1 (j : Nat) {w : Cond} (h : tables_1_1[j]? = some w) (g : goodWord w = true) : w ∈ jw_all := jw_of (List.mem_append_right _ (by unfold tables_1; exact List.mem_append_left _ (List.mem_of_getElem? h))) g
theorem jw_in2 (j : Nat) {w : Cond} (h : tables_1_2[j]? = some w) (g : goodWord w = true) : w ∈ jw_all := jw_of (List.mem_append_right _ (by unfold tables_1; exact List.mem_append_right _ (List.mem_append_left _ (List.mem_of_getElem? h)))) g
theorem jw_in3 (j : Nat) {w : Cond} (h : tables_1_3[j]? = some w) (g : goodWord w = true) : w ∈ jw_all := jw_of (List.mem_append_right _ (by unfold tables_1; exact List.mem_append_right _ (List.mem_append_right _ (List.mem_append_left _ (List.mem_of_getElem? h))))) g
theorem jw_in4 (j : Nat) {w : Cond} (h : tables_1_4[j]? = some w) (g : goodWord w = true) : w ∈ jw_all := jw_of (List.mem_append_right _ (by unfold tables_1; exact List.mem_append_right _ (List.mem_append_right _ (List.mem_append_right _ (List.mem_append_left _ (List.mem_of_getElem? h)))))) g
theorem jw_in5 (j : Nat) {w : Cond} (h : tables_1_5[j]? = some w) (g : goodWord w = true) : w ∈ jw_all := jw_of (List.mem_append_right _ (by unfold tables_1; exact List.mem_append_right _ (List.mem_append_right _ (List.mem_append_right _ (List.mem_append_right _ (List.mem_append_left _ (List.mem_of_getElem? h))))))) g
theorem jw_in6 (j : Nat) {w : Cond} (h : tables_1_6[j]? = some w) (g : goodWord w = true) : w ∈ jw_all := jw_of (List.mem_append_right _ (by unfold tables_1; exact List.mem_append_right _ (List.mem_append_right _ (List.mem_append_right _ (List.mem_append_right _ (List.mem_append_right _ (List.mem_append_left _ (List.mem_of_getElem? h)))))))) g
theorem jw_in7 (j : Nat) {w : Cond} (h : tables_1_7[j]? = some w) (g : goodWord w = true) : w ∈ jw_all := jw_of (List.mem_append_right _ (by unfold tables_1; exact List.mem_append_right _ (List.mem_append_right _ (List.mem_append_right _ (List.mem_append_right _ (List.mem_append_right _ (List.mem_append_right _ (List.mem_append_left _ (List.mem_of_getElem? h))))))))) g
theorem jw_in8 (j : Nat) {w : Cond} (h : tables_1_8[j]? = some w) (g : goodWord w = true) : w ∈ jw_all := jw_of (List.mem_append_right _ (by unfold tables_1; exact List.mem_append_right _ (List.mem_append_right _ (List.mem_append_right _ (List.mem_append_right _ (List.mem_append_right _ (List.mem_append_right _ (List.mem_append_right _ (List.mem_of_getElem? h))))))))) g
theorem jw_sel (i : Nat) {w : Cond} (h : (k2_sels lw_privs)[i]? = some w) (g : goodWord w = true) : w ∈ jw_all := jw_of (List.mem_append_left _ (List.mem_of_getElem? h)) g
theorem jw_subs {ws : List Cond} (h : ws.all (fun w => decide (w ∈ lw_tbl) && goodWord w) = true) : ∀ w ∈ ws, w ∈ jw_all := fun w hw => by
  have := List.all_eq_true.mp h w hw
  simp only [Bool.and_eq_true, decide_eq_true_eq] at this
  exact jw_of this.1 this.2
theorem jw_good {ws : List Cond} (h : ∀ w ∈ ws, w ∈ jw_all) : GoodIn jw_all ws := fun w hw => ⟨h w hw, good_of_word (List.mem_filter.mp (h w hw)).2⟩
def T_WT : u_T := fun k => match k with
  | 0 => ("WindowTables", "tape", "LWindowTables$Tape;", true)
  | 1 => ("WindowTables", "store", "LWindowTables$Store;", true)
  | 2 => ("WindowTables", "labelReader", "LWindowTables$LabelReader;", true)
  | 3 => ("WindowTables", "program", "LWindowTables$Program;", true)
  | 4 => ("WindowTables", "questionReader", "LWindowTables$QuestionReader;", true)
  | 5 => ("WindowTables", "groups", "LWindowTables$Groups;", true)
  | 6 => ("WindowTables", "evaluator", "LWindowTables$Evaluator;", true)
  | 7 => ("WindowTables", "faultCode", "I", false)
  | 8 => ("WindowTables", "faultPlace", "I", false)
  | _ => ("WindowTables", "hasTable", "Z", false)
def t_WT : Nat → FieldType := fun k => match k with
  | 0 => .object "WindowTables$Tape"
  | 1 => .object "WindowTables$Store"
  | 2 => .object "WindowTables$LabelReader"
  | 3 => .object "WindowTables$Program"
  | 4 => .object "WindowTables$QuestionReader"
  | 5 => .object "WindowTables$Groups"
  | 6 => .object "WindowTables$Evaluator"
  | 7 => .int
  | 8 => .int
  | _ => .boolean
def T_Ev : u_T := fun k => match k with
  | 0 => ("WindowTables$Evaluator", "tape", "LWindowTables$Tape;", true)
  | 1 => ("WindowTables$Evaluator", "store", "LWindowTables$Store;", true)
  | 2 => ("WindowTables$Evaluator", "program", "LWindowTables$Program;", true)
  | 3 => ("WindowTables$Evaluator", "groups", "LWindowTables$Groups;", true)
  | 4 => ("WindowTables$Evaluator", "stack", "[LWindowTables$Grid;", true)
  | 5 => ("WindowTables$Evaluator", "height", "I", false)
  | 6 => ("WindowTables$Evaluator", "moments", "[J", false)
  | 7 => ("WindowTables$Evaluator", "from", "J", false)
  | 8 => ("WindowTables$Evaluator", "width", "J", false)
  | _ => ("WindowTables$Evaluator", "windows", "I", false)
def t_Ev : Nat → FieldType := fun k => match k with
  | 0 => .object "WindowTables$Tape"
  | 1 => .object "WindowTables$Store"
  | 2 => .object "WindowTables$Program"
  | 3 => .object "WindowTables$Groups"
  | 4 => .array (.object "WindowTables$Grid")
  | 5 => .int
  | 6 => .array .long
  | 7 => .long
  | 8 => .long
  | _ => .int
def T_Gd : u_T := fun k => match k with
  | 0 => ("WindowTables$Grid", "numbers", "[J", false)
  | 1 => ("WindowTables$Grid", "there", "[Z", false)
  | 2 => ("WindowTables$Grid", "lines", "I", false)
  | 3 => ("WindowTables$Grid", "windows", "I", false)
  | _ => ("WindowTables$Grid", "named", "Z", false)
def t_Gd : Nat → FieldType := fun k => match k with
  | 0 => .array .long
  | 1 => .array .boolean
  | 2 => .int
  | 3 => .int
  | _ => .boolean
def T_Gr : u_T := fun k => match k with
  | 0 => ("WindowTables$Groups", "tape", "LWindowTables$Tape;", true)
  | 1 => ("WindowTables$Groups", "store", "LWindowTables$Store;", true)
  | 2 => ("WindowTables$Groups", "program", "LWindowTables$Program;", true)
  | 3 => ("WindowTables$Groups", "nameCount", "I", false)
  | 4 => ("WindowTables$Groups", "size", "I", false)
  | 5 => ("WindowTables$Groups", "labels", "[I", true)
  | 6 => ("WindowTables$Groups", "order", "[I", true)
  | 7 => ("WindowTables$Groups", "groupOf", "[I", true)
  | _ => ("WindowTables$Groups", "leaders", "[I", true)
def t_Gr : Nat → FieldType := fun k => match k with
  | 0 => .object "WindowTables$Tape"
  | 1 => .object "WindowTables$Store"
  | 2 => .object "WindowTables$Program"
  | 3 => .int
  | 4 => .int
  | 5 => .array .int
  | 6 => .array .int
  | 7 => .array .int
  | _ => .array .int
def T_LR : u_T := fun k => match k with
  | 0 => ("WindowTables$LabelReader", "nameAt", "[I", true)
  | 1 => ("WindowTables$LabelReader", "signAt", "[I", true)
  | 2 => ("WindowTables$LabelReader", "valueEnd", "[I", true)
  | 3 => ("WindowTables$LabelReader", "labels", "I", false)
  | 4 => ("WindowTables$LabelReader", "letters", "[B", true)
  | 5 => ("WindowTables$LabelReader", "length", "I", false)
  | 6 => ("WindowTables$LabelReader", "faultCode", "I", false)
  | _ => ("WindowTables$LabelReader", "faultPlace", "I", false)
def t_LR : Nat → FieldType := fun k => match k with
  | 0 => .array .int
  | 1 => .array .int
  | 2 => .array .int
  | 3 => .int
  | 4 => .array .byte
  | 5 => .int
  | 6 => .int
  | _ => .int
def T_Lx : u_T := fun k => match k with
  | 0 => ("WindowTables$Lexer", "tape", "LWindowTables$Tape;", true)
  | 1 => ("WindowTables$Lexer", "kind", "I", false)
  | 2 => ("WindowTables$Lexer", "at", "I", false)
  | 3 => ("WindowTables$Lexer", "behind", "I", false)
  | _ => ("WindowTables$Lexer", "number", "J", false)
def t_Lx : Nat → FieldType := fun k => match k with
  | 0 => .object "WindowTables$Tape"
  | 1 => .int
  | 2 => .int
  | 3 => .int
  | _ => .long
def T_Pt : u_T := fun k => match k with
  | 0 => ("WindowTables$Points", "times", "[J", false)
  | 1 => ("WindowTables$Points", "values", "[J", false)
  | 2 => ("WindowTables$Points", "size", "I", false)
  | 3 => ("WindowTables$Points", "packed", "I", false)
  | _ => ("WindowTables$Points", "lastTime", "J", false)
def t_Pt : Nat → FieldType := fun k => match k with
  | 0 => .array .long
  | 1 => .array .long
  | 2 => .int
  | 3 => .int
  | _ => .long
def T_Pg : u_T := fun k => match k with
  | 0 => ("WindowTables$Program", "orders", "[I", false)
  | _ => ("WindowTables$Program", "size", "I", false)
def t_Pg : Nat → FieldType := fun k => match k with
  | 0 => .array .int
  | _ => .int
def T_QR : u_T := fun k => match k with
  | 0 => ("WindowTables$QuestionReader", "tape", "LWindowTables$Tape;", true)
  | 1 => ("WindowTables$QuestionReader", "lexer", "LWindowTables$Lexer;", true)
  | 2 => ("WindowTables$QuestionReader", "program", "LWindowTables$Program;", true)
  | 3 => ("WindowTables$QuestionReader", "faultCode", "I", false)
  | 4 => ("WindowTables$QuestionReader", "faultPlace", "I", false)
  | 5 => ("WindowTables$QuestionReader", "clashPlace", "I", false)
  | _ => ("WindowTables$QuestionReader", "naming", "I", false)
def t_QR : Nat → FieldType := fun k => match k with
  | 0 => .object "WindowTables$Tape"
  | 1 => .object "WindowTables$Lexer"
  | 2 => .object "WindowTables$Program"
  | 3 => .int
  | 4 => .int
  | 5 => .int
  | _ => .int
def T_Se : u_T := fun k => match k with
  | 0 => ("WindowTables$Series", "letters", "[B", true)
  | 1 => ("WindowTables$Series", "starts", "[I", true)
  | 2 => ("WindowTables$Series", "signs", "[I", true)
  | 3 => ("WindowTables$Series", "ends", "[I", true)
  | _ => ("WindowTables$Series", "points", "LWindowTables$Points;", true)
def t_Se : Nat → FieldType := fun k => match k with
  | 0 => .array .byte
  | 1 => .array .int
  | 2 => .array .int
  | 3 => .array .int
  | _ => .object "WindowTables$Points"
def T_St : u_T := fun k => match k with
  | 0 => ("WindowTables$Store", "rows", "[LWindowTables$Series;", true)
  | 1 => ("WindowTables$Store", "size", "I", false)
  | 2 => ("WindowTables$Store", "horizon", "J", false)
  | 3 => ("WindowTables$Store", "headSize", "I", false)
  | 4 => ("WindowTables$Store", "parcels", "I", false)
  | _ => ("WindowTables$Store", "scars", "I", false)
def t_St : Nat → FieldType := fun k => match k with
  | 0 => .array (.object "WindowTables$Series")
  | 1 => .int
  | 2 => .long
  | 3 => .int
  | 4 => .int
  | _ => .int
def T_Tp : u_T := fun k => match k with
  | 0 => ("WindowTables$Tape", "bytes", "[B", false)
  | _ => ("WindowTables$Tape", "size", "I", false)
def t_Tp : Nat → FieldType := fun k => match k with
  | 0 => .array .byte
  | _ => .int
def T_Mo : u_T := fun k => match k with
  | 0 => ("WindowTablesModel", "code", "I", false)
  | 1 => ("WindowTablesModel", "tape", "[B", true)
  | 2 => ("WindowTablesModel", "length", "I", false)
  | 3 => ("WindowTablesModel", "faultCode", "I", false)
  | 4 => ("WindowTablesModel", "faultPlace", "I", false)
  | 5 => ("WindowTablesModel", "texts", "[B", true)
  | 6 => ("WindowTablesModel", "textLengths", "[I", true)
  | 7 => ("WindowTablesModel", "seriesCount", "I", false)
  | 8 => ("WindowTablesModel", "lasts", "[J", true)
  | 9 => ("WindowTablesModel", "pointSeries", "[I", true)
  | 10 => ("WindowTablesModel", "pointTimes", "[J", true)
  | 11 => ("WindowTablesModel", "pointValues", "[J", true)
  | 12 => ("WindowTablesModel", "places", "[B", true)
  | 13 => ("WindowTablesModel", "points", "I", false)
  | 14 => ("WindowTablesModel", "head", "I", false)
  | 15 => ("WindowTablesModel", "horizon", "J", false)
  | 16 => ("WindowTablesModel", "parcels", "I", false)
  | 17 => ("WindowTablesModel", "scars", "I", false)
  | 18 => ("WindowTablesModel", "labels", "[I", true)
  | 19 => ("WindowTablesModel", "labelCount", "I", false)
  | 20 => ("WindowTablesModel", "kind", "I", false)
  | 21 => ("WindowTablesModel", "from", "I", false)
  | 22 => ("WindowTablesModel", "to", "I", false)
  | 23 => ("WindowTablesModel", "amount", "J", false)
  | 24 => ("WindowTablesModel", "tableNames", "[I", true)
  | 25 => ("WindowTablesModel", "nameFroms", "[I", true)
  | 26 => ("WindowTablesModel", "nameLengths", "[I", true)
  | 27 => ("WindowTablesModel", "tableRows", "[I", true)
  | 28 => ("WindowTablesModel", "rowSeries", "[I", true)
  | 29 => ("WindowTablesModel", "cells", "[J", true)
  | 30 => ("WindowTablesModel", "isCell", "[Z", true)
  | 31 => ("WindowTablesModel", "starts", "[I", true)
  | 32 => ("WindowTablesModel", "pile", "I", false)
  | 33 => ("WindowTablesModel", "works", "Z", false)
  | 34 => ("WindowTablesModel", "windowsFrom", "J", false)
  | 35 => ("WindowTablesModel", "width", "J", false)
  | 36 => ("WindowTablesModel", "windows", "I", false)
  | 37 => ("WindowTablesModel", "valueLength", "I", false)
  | 38 => ("WindowTablesModel", "rowOf", "[I", true)
  | 39 => ("WindowTablesModel", "keyTimes", "[J", true)
  | 40 => ("WindowTablesModel", "keySeries", "[I", true)
  | 41 => ("WindowTablesModel", "befores", "[J", true)
  | 42 => ("WindowTablesModel", "hasBefore", "[Z", true)
  | 43 => ("WindowTablesModel", "signs", "[I", true)
  | 44 => ("WindowTablesModel", "signPlaces", "[I", true)
  | 45 => ("WindowTablesModel", "signCount", "I", false)
  | 46 => ("WindowTablesModel", "open", "I", false)
  | 47 => ("WindowTablesModel", "wants", "Z", false)
  | 48 => ("WindowTablesModel", "isTable", "Z", false)
  | 49 => ("WindowTablesModel", "names", "I", false)
  | 50 => ("WindowTablesModel", "rows", "I", false)
  | 51 => ("WindowTablesModel", "shownWindows", "I", false)
  | 52 => ("WindowTablesModel", "rowTexts", "[B", true)
  | 53 => ("WindowTablesModel", "rowLengths", "[I", true)
  | 54 => ("WindowTablesModel", "shown", "[J", true)
  | _ => ("WindowTablesModel", "isShown", "[Z", true)
def t_Mo : Nat → FieldType := fun k => match k with
  | 0 => .int
  | 1 => .array .byte
  | 2 => .int
  | 3 => .int
  | 4 => .int
  | 5 => .array .byte
  | 6 => .array .int
  | 7 => .int
  | 8 => .array .long
  | 9 => .array .int
  | 10 => .array .long
  | 11 => .array .long
  | 12 => .array .byte
  | 13 => .int
  | 14 => .int
  | 15 => .long
  | 16 => .int
  | 17 => .int
  | 18 => .array .int
  | 19 => .int
  | 20 => .int
  | 21 => .int
  | 22 => .int
  | 23 => .long
  | 24 => .array .int
  | 25 => .array .int
  | 26 => .array .int
  | 27 => .array .int
  | 28 => .array .int
  | 29 => .array .long
  | 30 => .array .boolean
  | 31 => .array .int
  | 32 => .int
  | 33 => .boolean
  | 34 => .long
  | 35 => .long
  | 36 => .int
  | 37 => .int
  | 38 => .array .int
  | 39 => .array .long
  | 40 => .array .int
  | 41 => .array .long
  | 42 => .array .boolean
  | 43 => .array .int
  | 44 => .array .int
  | 45 => .int
  | 46 => .int
  | 47 => .boolean
  | 48 => .boolean
  | 49 => .int
  | 50 => .int
  | 51 => .int
  | 52 => .array .byte
  | 53 => .array .int
  | 54 => .array .long
  | _ => .array .boolean
def T_IA : u_T := fun _ => ("", "", "", false)
def t_IA : Nat → FieldType := fun _ => .int
def T_IO : u_T := fun _ => ("", "", "", false)
def t_IO : Nat → FieldType := fun _ => .int
def T_UO : u_T := fun _ => ("", "", "", false)
def t_UO : Nat → FieldType := fun _ => .int
abbrev vwCl : List vw_C := [("WindowTables", T_WT, 10), ("WindowTables$Evaluator", T_Ev, 10), ("WindowTables$Grid", T_Gd, 5), ("WindowTables$Groups", T_Gr, 9), ("WindowTables$LabelReader", T_LR, 8), ("WindowTables$Lexer", T_Lx, 5), ("WindowTables$Points", T_Pt, 5), ("WindowTables$Program", T_Pg, 2), ("WindowTables$QuestionReader", T_QR, 7), ("WindowTables$Series", T_Se, 5), ("WindowTables$Store", T_St, 6), ("WindowTables$Tape", T_Tp, 2), ("WindowTablesModel", T_Mo, 56), ("java/lang/IllegalArgumentException", T_IA, 0), ("java/lang/IndexOutOfBoundsException", T_IO, 0), ("java/lang/UnsupportedOperationException", T_UO, 0)]
/-- the array classes: int, byte, long, boolean, Series, Grid -/
def jk_tys (f : Nat → ClassId) : List (ClassId × FieldType) := [(f 0, .int), (f 1, .byte), (f 2, .long), (f 3, .boolean), (f 4, .object "WindowTables$Series"), (f 5, .object "WindowTables$Grid")]
