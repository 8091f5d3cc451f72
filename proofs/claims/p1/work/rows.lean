section
-- ===== PART A: goes FIRST, ahead of the names: the tables' words, and 'selects' of the private methods out of them =====
/-- a private method of a class that the tables say can be made, by its rows of tables_1 -/
def lw_okq (q : MethodName × Nat) : Prop := (q.1.cls ≠ "java/lang/invoke/MethodHandle" ∧ q.1.cls ≠ "java/lang/invoke/VarHandle") ∧ Cond.instantiable q.1.cls q.2 ∈ tables_1 ∧ Cond.privateMethod q.1 ∈ tables_1 ∧ Cond.instanceMethod q.1 ∈ tables_1
theorem lw_p0 : lw_okq (⟨"java/lang/Throwable", "fillInStackTrace", "(I)Ljava/lang/Throwable;"⟩, 6) := ⟨⟨by decide +kernel, by decide +kernel⟩, List.mem_of_getElem? (i := 176) (by decide +kernel), List.mem_of_getElem? (i := 174) (by decide +kernel), List.mem_of_getElem? (i := 175) (by decide +kernel)⟩
theorem lw_p1 : lw_okq (⟨"java/util/ArrayList", "add", "(Ljava/lang/Object;[Ljava/lang/Object;I)V"⟩, 3) := ⟨⟨by decide +kernel, by decide +kernel⟩, List.mem_of_getElem? (i := 518) (by decide +kernel), List.mem_of_getElem? (i := 610) (by decide +kernel), List.mem_of_getElem? (i := 611) (by decide +kernel)⟩
theorem lw_p2 : lw_okq (⟨"java/util/ArrayList", "grow", "()[Ljava/lang/Object;"⟩, 3) := ⟨⟨by decide +kernel, by decide +kernel⟩, List.mem_of_getElem? (i := 518) (by decide +kernel), List.mem_of_getElem? (i := 614) (by decide +kernel), List.mem_of_getElem? (i := 615) (by decide +kernel)⟩
theorem lw_p3 : lw_okq (⟨"java/util/ArrayList", "grow", "(I)[Ljava/lang/Object;"⟩, 3) := ⟨⟨by decide +kernel, by decide +kernel⟩, List.mem_of_getElem? (i := 518) (by decide +kernel), List.mem_of_getElem? (i := 618) (by decide +kernel), List.mem_of_getElem? (i := 619) (by decide +kernel)⟩
theorem lw_p4 : lw_okq (⟨"TypeFinder$Writer", "put", "(LTypeFinder$Type;I)V"⟩, 2) := ⟨⟨by decide +kernel, by decide +kernel⟩, List.mem_of_getElem? (i := 748) (by decide +kernel), List.mem_of_getElem? (i := 896) (by decide +kernel), List.mem_of_getElem? (i := 897) (by decide +kernel)⟩
theorem lw_p5 : lw_okq (⟨"TypeFinder$Writer", "putBracketed", "(LTypeFinder$Type;ZI)V"⟩, 2) := ⟨⟨by decide +kernel, by decide +kernel⟩, List.mem_of_getElem? (i := 748) (by decide +kernel), List.mem_of_getElem? (i := 907) (by decide +kernel), List.mem_of_getElem? (i := 908) (by decide +kernel)⟩
theorem lw_p6 : lw_okq (⟨"TypeFinder$Writer", "putWord", "(J)V"⟩, 2) := ⟨⟨by decide +kernel, by decide +kernel⟩, List.mem_of_getElem? (i := 748) (by decide +kernel), List.mem_of_getElem? (i := 926) (by decide +kernel), List.mem_of_getElem? (i := 927) (by decide +kernel)⟩
theorem lw_p7 : lw_okq (⟨"TypeFinder$Writer", "putParameter", "(LTypeFinder$Type;I)V"⟩, 2) := ⟨⟨by decide +kernel, by decide +kernel⟩, List.mem_of_getElem? (i := 748) (by decide +kernel), List.mem_of_getElem? (i := 931) (by decide +kernel), List.mem_of_getElem? (i := 932) (by decide +kernel)⟩
theorem lw_p8 : lw_okq (⟨"TypeFinder$Writer", "putVariable", "(LTypeFinder$Type;)V"⟩, 2) := ⟨⟨by decide +kernel, by decide +kernel⟩, List.mem_of_getElem? (i := 748) (by decide +kernel), List.mem_of_getElem? (i := 935) (by decide +kernel), List.mem_of_getElem? (i := 936) (by decide +kernel)⟩
theorem lw_p9 : lw_okq (⟨"TypeFinder", "takeDraft", "()I"⟩, 9) := ⟨⟨by decide +kernel, by decide +kernel⟩, List.mem_of_getElem? (i := 40) (by decide +kernel), List.mem_of_getElem? (i := 1041) (by decide +kernel), List.mem_of_getElem? (i := 1042) (by decide +kernel)⟩
theorem lw_p10 : lw_okq (⟨"TypeFinder$Tokens", "readLetters", "([CII)I"⟩, 5) := ⟨⟨by decide +kernel, by decide +kernel⟩, List.mem_of_getElem? (i := 54) (by decide +kernel), List.mem_of_getElem? (i := 1059) (by decide +kernel), List.mem_of_getElem? (i := 1060) (by decide +kernel)⟩
theorem lw_p11 : lw_okq (⟨"TypeFinder$Tokens", "wordKind", "(J)I"⟩, 5) := ⟨⟨by decide +kernel, by decide +kernel⟩, List.mem_of_getElem? (i := 54) (by decide +kernel), List.mem_of_getElem? (i := 1074) (by decide +kernel), List.mem_of_getElem? (i := 1075) (by decide +kernel)⟩
theorem lw_p12 : lw_okq (⟨"TypeFinder$Tokens", "put", "(IJ)V"⟩, 5) := ⟨⟨by decide +kernel, by decide +kernel⟩, List.mem_of_getElem? (i := 54) (by decide +kernel), List.mem_of_getElem? (i := 1078) (by decide +kernel), List.mem_of_getElem? (i := 1079) (by decide +kernel)⟩
theorem lw_p13 : lw_okq (⟨"TypeFinder$Tokens", "readDigits", "([CII)I"⟩, 5) := ⟨⟨by decide +kernel, by decide +kernel⟩, List.mem_of_getElem? (i := 54) (by decide +kernel), List.mem_of_getElem? (i := 1085) (by decide +kernel), List.mem_of_getElem? (i := 1086) (by decide +kernel)⟩
theorem lw_p14 : lw_okq (⟨"TypeFinder$Tokens", "readSign", "(C)V"⟩, 5) := ⟨⟨by decide +kernel, by decide +kernel⟩, List.mem_of_getElem? (i := 54) (by decide +kernel), List.mem_of_getElem? (i := 1090) (by decide +kernel), List.mem_of_getElem? (i := 1091) (by decide +kernel)⟩
theorem lw_p15 : lw_okq (⟨"TypeFinder$DataParser", "alternative", "()LTypeFinder$Node;"⟩, 1) := ⟨⟨by decide +kernel, by decide +kernel⟩, List.mem_of_getElem? (i := 440) (by decide +kernel), List.mem_of_getElem? (i := 1162) (by decide +kernel), List.mem_of_getElem? (i := 1163) (by decide +kernel)⟩
def lw_privs_1 : List (MethodName × Nat) := [(⟨"java/lang/Throwable", "fillInStackTrace", "(I)Ljava/lang/Throwable;"⟩, 6), (⟨"java/util/ArrayList", "add", "(Ljava/lang/Object;[Ljava/lang/Object;I)V"⟩, 3), (⟨"java/util/ArrayList", "grow", "()[Ljava/lang/Object;"⟩, 3), (⟨"java/util/ArrayList", "grow", "(I)[Ljava/lang/Object;"⟩, 3), (⟨"TypeFinder$Writer", "put", "(LTypeFinder$Type;I)V"⟩, 2), (⟨"TypeFinder$Writer", "putBracketed", "(LTypeFinder$Type;ZI)V"⟩, 2), (⟨"TypeFinder$Writer", "putWord", "(J)V"⟩, 2), (⟨"TypeFinder$Writer", "putParameter", "(LTypeFinder$Type;I)V"⟩, 2), (⟨"TypeFinder$Writer", "putVariable", "(LTypeFinder$Type;)V"⟩, 2), (⟨"TypeFinder", "takeDraft", "()I"⟩, 9), (⟨"TypeFinder$Tokens", "readLetters", "([CII)I"⟩, 5), (⟨"TypeFinder$Tokens", "wordKind", "(J)I"⟩, 5), (⟨"TypeFinder$Tokens", "put", "(IJ)V"⟩, 5), (⟨"TypeFinder$Tokens", "readDigits", "([CII)I"⟩, 5), (⟨"TypeFinder$Tokens", "readSign", "(C)V"⟩, 5), (⟨"TypeFinder$DataParser", "alternative", "()LTypeFinder$Node;"⟩, 1)]
theorem lw_r1 : ∀ q ∈ lw_privs_1, lw_okq q := List.forall_mem_cons.mpr ⟨lw_p0, List.forall_mem_cons.mpr ⟨lw_p1, List.forall_mem_cons.mpr ⟨lw_p2, List.forall_mem_cons.mpr ⟨lw_p3, List.forall_mem_cons.mpr ⟨lw_p4, List.forall_mem_cons.mpr ⟨lw_p5, List.forall_mem_cons.mpr ⟨lw_p6, List.forall_mem_cons.mpr ⟨lw_p7, List.forall_mem_cons.mpr ⟨lw_p8, List.forall_mem_cons.mpr ⟨lw_p9, List.forall_mem_cons.mpr ⟨lw_p10, List.forall_mem_cons.mpr ⟨lw_p11, List.forall_mem_cons.mpr ⟨lw_p12, List.forall_mem_cons.mpr ⟨lw_p13, List.forall_mem_cons.mpr ⟨lw_p14, List.forall_mem_cons.mpr ⟨lw_p15, fun _ h => absurd h List.not_mem_nil⟩⟩⟩⟩⟩⟩⟩⟩⟩⟩⟩⟩⟩⟩⟩⟩
theorem lw_p16 : lw_okq (⟨"TypeFinder$DataParser", "typeAtom", "(I)LTypeFinder$Node;"⟩, 1) := ⟨⟨by decide +kernel, by decide +kernel⟩, List.mem_of_getElem? (i := 440) (by decide +kernel), List.mem_of_getElem? (i := 1173) (by decide +kernel), List.mem_of_getElem? (i := 1174) (by decide +kernel)⟩
theorem lw_p17 : lw_okq (⟨"TypeFinder$DataParser", "wholeType", "(I)LTypeFinder$Node;"⟩, 1) := ⟨⟨by decide +kernel, by decide +kernel⟩, List.mem_of_getElem? (i := 440) (by decide +kernel), List.mem_of_getElem? (i := 1178) (by decide +kernel), List.mem_of_getElem? (i := 1179) (by decide +kernel)⟩
theorem lw_p18 : lw_okq (⟨"TypeFinder$Parser", "operatorDefinition", "()LTypeFinder$Node;"⟩, 4) := ⟨⟨by decide +kernel, by decide +kernel⟩, List.mem_of_getElem? (i := 48) (by decide +kernel), List.mem_of_getElem? (i := 1191) (by decide +kernel), List.mem_of_getElem? (i := 1192) (by decide +kernel)⟩
theorem lw_p19 : lw_okq (⟨"TypeFinder$Parser", "expression", "(I)LTypeFinder$Node;"⟩, 4) := ⟨⟨by decide +kernel, by decide +kernel⟩, List.mem_of_getElem? (i := 48) (by decide +kernel), List.mem_of_getElem? (i := 1199) (by decide +kernel), List.mem_of_getElem? (i := 1200) (by decide +kernel)⟩
theorem lw_p20 : lw_okq (⟨"TypeFinder$Parser", "function", "(I)LTypeFinder$Node;"⟩, 4) := ⟨⟨by decide +kernel, by decide +kernel⟩, List.mem_of_getElem? (i := 48) (by decide +kernel), List.mem_of_getElem? (i := 1205) (by decide +kernel), List.mem_of_getElem? (i := 1206) (by decide +kernel)⟩
theorem lw_p21 : lw_okq (⟨"TypeFinder$Parser", "let", "(I)LTypeFinder$Node;"⟩, 4) := ⟨⟨by decide +kernel, by decide +kernel⟩, List.mem_of_getElem? (i := 48) (by decide +kernel), List.mem_of_getElem? (i := 1210) (by decide +kernel), List.mem_of_getElem? (i := 1211) (by decide +kernel)⟩
theorem lw_p22 : lw_okq (⟨"TypeFinder$Parser", "definition", "(I)LTypeFinder$Node;"⟩, 4) := ⟨⟨by decide +kernel, by decide +kernel⟩, List.mem_of_getElem? (i := 48) (by decide +kernel), List.mem_of_getElem? (i := 1214) (by decide +kernel), List.mem_of_getElem? (i := 1215) (by decide +kernel)⟩
theorem lw_p23 : lw_okq (⟨"TypeFinder$Parser", "choice", "(I)LTypeFinder$Node;"⟩, 4) := ⟨⟨by decide +kernel, by decide +kernel⟩, List.mem_of_getElem? (i := 48) (by decide +kernel), List.mem_of_getElem? (i := 1219) (by decide +kernel), List.mem_of_getElem? (i := 1220) (by decide +kernel)⟩
theorem lw_p24 : lw_okq (⟨"TypeFinder$Parser", "cases", "(I)LTypeFinder$Node;"⟩, 4) := ⟨⟨by decide +kernel, by decide +kernel⟩, List.mem_of_getElem? (i := 48) (by decide +kernel), List.mem_of_getElem? (i := 1223) (by decide +kernel), List.mem_of_getElem? (i := 1224) (by decide +kernel)⟩
theorem lw_p25 : lw_okq (⟨"TypeFinder$Parser", "pattern", "()LTypeFinder$Node;"⟩, 4) := ⟨⟨by decide +kernel, by decide +kernel⟩, List.mem_of_getElem? (i := 48) (by decide +kernel), List.mem_of_getElem? (i := 1227) (by decide +kernel), List.mem_of_getElem? (i := 1228) (by decide +kernel)⟩
theorem lw_p26 : lw_okq (⟨"TypeFinder$Parser", "name", "()J"⟩, 4) := ⟨⟨by decide +kernel, by decide +kernel⟩, List.mem_of_getElem? (i := 48) (by decide +kernel), List.mem_of_getElem? (i := 1231) (by decide +kernel), List.mem_of_getElem? (i := 1232) (by decide +kernel)⟩
theorem lw_p27 : lw_okq (⟨"TypeFinder$Parser", "startsName", "()Z"⟩, 4) := ⟨⟨by decide +kernel, by decide +kernel⟩, List.mem_of_getElem? (i := 48) (by decide +kernel), List.mem_of_getElem? (i := 1235) (by decide +kernel), List.mem_of_getElem? (i := 1236) (by decide +kernel)⟩
theorem lw_p28 : lw_okq (⟨"TypeFinder$Parser", "chain", "(I)LTypeFinder$Node;"⟩, 4) := ⟨⟨by decide +kernel, by decide +kernel⟩, List.mem_of_getElem? (i := 48) (by decide +kernel), List.mem_of_getElem? (i := 1244) (by decide +kernel), List.mem_of_getElem? (i := 1245) (by decide +kernel)⟩
theorem lw_p29 : lw_okq (⟨"TypeFinder$Parser", "application", "(I)LTypeFinder$Node;"⟩, 4) := ⟨⟨by decide +kernel, by decide +kernel⟩, List.mem_of_getElem? (i := 48) (by decide +kernel), List.mem_of_getElem? (i := 1248) (by decide +kernel), List.mem_of_getElem? (i := 1249) (by decide +kernel)⟩
theorem lw_p30 : lw_okq (⟨"TypeFinder$Parser", "atom", "(I)LTypeFinder$Node;"⟩, 4) := ⟨⟨by decide +kernel, by decide +kernel⟩, List.mem_of_getElem? (i := 48) (by decide +kernel), List.mem_of_getElem? (i := 1252) (by decide +kernel), List.mem_of_getElem? (i := 1253) (by decide +kernel)⟩
theorem lw_p31 : lw_okq (⟨"TypeFinder$Parser", "startsAtom", "()Z"⟩, 4) := ⟨⟨by decide +kernel, by decide +kernel⟩, List.mem_of_getElem? (i := 48) (by decide +kernel), List.mem_of_getElem? (i := 1256) (by decide +kernel), List.mem_of_getElem? (i := 1257) (by decide +kernel)⟩
def lw_privs_2 : List (MethodName × Nat) := [(⟨"TypeFinder$DataParser", "typeAtom", "(I)LTypeFinder$Node;"⟩, 1), (⟨"TypeFinder$DataParser", "wholeType", "(I)LTypeFinder$Node;"⟩, 1), (⟨"TypeFinder$Parser", "operatorDefinition", "()LTypeFinder$Node;"⟩, 4), (⟨"TypeFinder$Parser", "expression", "(I)LTypeFinder$Node;"⟩, 4), (⟨"TypeFinder$Parser", "function", "(I)LTypeFinder$Node;"⟩, 4), (⟨"TypeFinder$Parser", "let", "(I)LTypeFinder$Node;"⟩, 4), (⟨"TypeFinder$Parser", "definition", "(I)LTypeFinder$Node;"⟩, 4), (⟨"TypeFinder$Parser", "choice", "(I)LTypeFinder$Node;"⟩, 4), (⟨"TypeFinder$Parser", "cases", "(I)LTypeFinder$Node;"⟩, 4), (⟨"TypeFinder$Parser", "pattern", "()LTypeFinder$Node;"⟩, 4), (⟨"TypeFinder$Parser", "name", "()J"⟩, 4), (⟨"TypeFinder$Parser", "startsName", "()Z"⟩, 4), (⟨"TypeFinder$Parser", "chain", "(I)LTypeFinder$Node;"⟩, 4), (⟨"TypeFinder$Parser", "application", "(I)LTypeFinder$Node;"⟩, 4), (⟨"TypeFinder$Parser", "atom", "(I)LTypeFinder$Node;"⟩, 4), (⟨"TypeFinder$Parser", "startsAtom", "()Z"⟩, 4)]
theorem lw_r2 : ∀ q ∈ lw_privs_2, lw_okq q := List.forall_mem_cons.mpr ⟨lw_p16, List.forall_mem_cons.mpr ⟨lw_p17, List.forall_mem_cons.mpr ⟨lw_p18, List.forall_mem_cons.mpr ⟨lw_p19, List.forall_mem_cons.mpr ⟨lw_p20, List.forall_mem_cons.mpr ⟨lw_p21, List.forall_mem_cons.mpr ⟨lw_p22, List.forall_mem_cons.mpr ⟨lw_p23, List.forall_mem_cons.mpr ⟨lw_p24, List.forall_mem_cons.mpr ⟨lw_p25, List.forall_mem_cons.mpr ⟨lw_p26, List.forall_mem_cons.mpr ⟨lw_p27, List.forall_mem_cons.mpr ⟨lw_p28, List.forall_mem_cons.mpr ⟨lw_p29, List.forall_mem_cons.mpr ⟨lw_p30, List.forall_mem_cons.mpr ⟨lw_p31, fun _ h => absurd h List.not_mem_nil⟩⟩⟩⟩⟩⟩⟩⟩⟩⟩⟩⟩⟩⟩⟩⟩
theorem lw_p32 : lw_okq (⟨"TypeFinder$Parser", "refuseWithoutLevel", "(J)V"⟩, 4) := ⟨⟨by decide +kernel, by decide +kernel⟩, List.mem_of_getElem? (i := 48) (by decide +kernel), List.mem_of_getElem? (i := 1260) (by decide +kernel), List.mem_of_getElem? (i := 1261) (by decide +kernel)⟩
theorem lw_p33 : lw_okq (⟨"TypeFinder$Parser", "placeAhead", "(LTypeFinder$Node;LTypeFinder$Node;LTypeFinder$Node;)LTypeFinder$Node;"⟩, 4) := ⟨⟨by decide +kernel, by decide +kernel⟩, List.mem_of_getElem? (i := 48) (by decide +kernel), List.mem_of_getElem? (i := 1267) (by decide +kernel), List.mem_of_getElem? (i := 1268) (by decide +kernel)⟩
theorem lw_p34 : lw_okq (⟨"TypeFinder$Parser", "bindsAhead", "(JJ)Z"⟩, 4) := ⟨⟨by decide +kernel, by decide +kernel⟩, List.mem_of_getElem? (i := 48) (by decide +kernel), List.mem_of_getElem? (i := 1271) (by decide +kernel), List.mem_of_getElem? (i := 1272) (by decide +kernel)⟩
theorem lw_p35 : lw_okq (⟨"TypeFinder$Known", "dataType", "(J)LTypeFinder$DataType;"⟩, 5) := ⟨⟨by decide +kernel, by decide +kernel⟩, List.mem_of_getElem? (i := 464) (by decide +kernel), List.mem_of_getElem? (i := 1284) (by decide +kernel), List.mem_of_getElem? (i := 1285) (by decide +kernel)⟩
theorem lw_p36 : lw_okq (⟨"TypeFinder$Known", "addConstructor", "(LTypeFinder$DataType;LTypeFinder$Node;LTypeFinder$Node;)V"⟩, 5) := ⟨⟨by decide +kernel, by decide +kernel⟩, List.mem_of_getElem? (i := 464) (by decide +kernel), List.mem_of_getElem? (i := 1303) (by decide +kernel), List.mem_of_getElem? (i := 1304) (by decide +kernel)⟩
theorem lw_p37 : lw_okq (⟨"TypeFinder$Known", "typeOf", "(LTypeFinder$Node;LTypeFinder$DataType;LTypeFinder$Node;I)LTypeFinder$Type;"⟩, 5) := ⟨⟨by decide +kernel, by decide +kernel⟩, List.mem_of_getElem? (i := 464) (by decide +kernel), List.mem_of_getElem? (i := 1314) (by decide +kernel), List.mem_of_getElem? (i := 1315) (by decide +kernel)⟩
theorem lw_p38 : lw_okq (⟨"TypeFinder$Known", "dataTypeOf", "(LTypeFinder$Node;LTypeFinder$DataType;LTypeFinder$Node;I)LTypeFinder$Type;"⟩, 5) := ⟨⟨by decide +kernel, by decide +kernel⟩, List.mem_of_getElem? (i := 464) (by decide +kernel), List.mem_of_getElem? (i := 1336) (by decide +kernel), List.mem_of_getElem? (i := 1337) (by decide +kernel)⟩
theorem lw_p39 : lw_okq (⟨"TypeFinder$Checker", "defined", "(LTypeFinder$Node;I)LTypeFinder$Name;"⟩, 6) := ⟨⟨by decide +kernel, by decide +kernel⟩, List.mem_of_getElem? (i := 698) (by decide +kernel), List.mem_of_getElem? (i := 1362) (by decide +kernel), List.mem_of_getElem? (i := 1363) (by decide +kernel)⟩
theorem lw_p40 : lw_okq (⟨"TypeFinder$Checker", "functionType", "(LTypeFinder$Node;I)LTypeFinder$Type;"⟩, 6) := ⟨⟨by decide +kernel, by decide +kernel⟩, List.mem_of_getElem? (i := 698) (by decide +kernel), List.mem_of_getElem? (i := 1366) (by decide +kernel), List.mem_of_getElem? (i := 1367) (by decide +kernel)⟩
theorem lw_p41 : lw_okq (⟨"TypeFinder$Checker", "addWord", "(J)LTypeFinder$Type;"⟩, 6) := ⟨⟨by decide +kernel, by decide +kernel⟩, List.mem_of_getElem? (i := 698) (by decide +kernel), List.mem_of_getElem? (i := 1371) (by decide +kernel), List.mem_of_getElem? (i := 1372) (by decide +kernel)⟩
theorem lw_p42 : lw_okq (⟨"TypeFinder$Checker", "found", "(LTypeFinder$Node;I)LTypeFinder$Type;"⟩, 6) := ⟨⟨by decide +kernel, by decide +kernel⟩, List.mem_of_getElem? (i := 698) (by decide +kernel), List.mem_of_getElem? (i := 1382) (by decide +kernel), List.mem_of_getElem? (i := 1383) (by decide +kernel)⟩
theorem lw_p43 : lw_okq (⟨"TypeFinder$Checker", "nameOf", "(J)LTypeFinder$Name;"⟩, 6) := ⟨⟨by decide +kernel, by decide +kernel⟩, List.mem_of_getElem? (i := 698) (by decide +kernel), List.mem_of_getElem? (i := 1388) (by decide +kernel), List.mem_of_getElem? (i := 1389) (by decide +kernel)⟩
theorem lw_p44 : lw_okq (⟨"TypeFinder$Checker", "use", "(LTypeFinder$Name;)LTypeFinder$Type;"⟩, 6) := ⟨⟨by decide +kernel, by decide +kernel⟩, List.mem_of_getElem? (i := 698) (by decide +kernel), List.mem_of_getElem? (i := 1397) (by decide +kernel), List.mem_of_getElem? (i := 1398) (by decide +kernel)⟩
theorem lw_p45 : lw_okq (⟨"TypeFinder$Checker", "checked", "(LTypeFinder$Type;)LTypeFinder$Type;"⟩, 6) := ⟨⟨by decide +kernel, by decide +kernel⟩, List.mem_of_getElem? (i := 698) (by decide +kernel), List.mem_of_getElem? (i := 1401) (by decide +kernel), List.mem_of_getElem? (i := 1402) (by decide +kernel)⟩
theorem lw_p46 : lw_okq (⟨"java/util/ArrayList", "fastRemove", "([Ljava/lang/Object;I)V"⟩, 3) := ⟨⟨by decide +kernel, by decide +kernel⟩, List.mem_of_getElem? (i := 518) (by decide +kernel), List.mem_of_getElem? (i := 1420) (by decide +kernel), List.mem_of_getElem? (i := 1421) (by decide +kernel)⟩
theorem lw_p47 : lw_okq (⟨"TypeFinder$Unifier", "copied", "(LTypeFinder$Type;I)LTypeFinder$Type;"⟩, 4) := ⟨⟨by decide +kernel, by decide +kernel⟩, List.mem_of_getElem? (i := 704) (by decide +kernel), List.mem_of_getElem? (i := 1430) (by decide +kernel), List.mem_of_getElem? (i := 1431) (by decide +kernel)⟩
def lw_privs_3 : List (MethodName × Nat) := [(⟨"TypeFinder$Parser", "refuseWithoutLevel", "(J)V"⟩, 4), (⟨"TypeFinder$Parser", "placeAhead", "(LTypeFinder$Node;LTypeFinder$Node;LTypeFinder$Node;)LTypeFinder$Node;"⟩, 4), (⟨"TypeFinder$Parser", "bindsAhead", "(JJ)Z"⟩, 4), (⟨"TypeFinder$Known", "dataType", "(J)LTypeFinder$DataType;"⟩, 5), (⟨"TypeFinder$Known", "addConstructor", "(LTypeFinder$DataType;LTypeFinder$Node;LTypeFinder$Node;)V"⟩, 5), (⟨"TypeFinder$Known", "typeOf", "(LTypeFinder$Node;LTypeFinder$DataType;LTypeFinder$Node;I)LTypeFinder$Type;"⟩, 5), (⟨"TypeFinder$Known", "dataTypeOf", "(LTypeFinder$Node;LTypeFinder$DataType;LTypeFinder$Node;I)LTypeFinder$Type;"⟩, 5), (⟨"TypeFinder$Checker", "defined", "(LTypeFinder$Node;I)LTypeFinder$Name;"⟩, 6), (⟨"TypeFinder$Checker", "functionType", "(LTypeFinder$Node;I)LTypeFinder$Type;"⟩, 6), (⟨"TypeFinder$Checker", "addWord", "(J)LTypeFinder$Type;"⟩, 6), (⟨"TypeFinder$Checker", "found", "(LTypeFinder$Node;I)LTypeFinder$Type;"⟩, 6), (⟨"TypeFinder$Checker", "nameOf", "(J)LTypeFinder$Name;"⟩, 6), (⟨"TypeFinder$Checker", "use", "(LTypeFinder$Name;)LTypeFinder$Type;"⟩, 6), (⟨"TypeFinder$Checker", "checked", "(LTypeFinder$Type;)LTypeFinder$Type;"⟩, 6), (⟨"java/util/ArrayList", "fastRemove", "([Ljava/lang/Object;I)V"⟩, 3), (⟨"TypeFinder$Unifier", "copied", "(LTypeFinder$Type;I)LTypeFinder$Type;"⟩, 4)]
theorem lw_r3 : ∀ q ∈ lw_privs_3, lw_okq q := List.forall_mem_cons.mpr ⟨lw_p32, List.forall_mem_cons.mpr ⟨lw_p33, List.forall_mem_cons.mpr ⟨lw_p34, List.forall_mem_cons.mpr ⟨lw_p35, List.forall_mem_cons.mpr ⟨lw_p36, List.forall_mem_cons.mpr ⟨lw_p37, List.forall_mem_cons.mpr ⟨lw_p38, List.forall_mem_cons.mpr ⟨lw_p39, List.forall_mem_cons.mpr ⟨lw_p40, List.forall_mem_cons.mpr ⟨lw_p41, List.forall_mem_cons.mpr ⟨lw_p42, List.forall_mem_cons.mpr ⟨lw_p43, List.forall_mem_cons.mpr ⟨lw_p44, List.forall_mem_cons.mpr ⟨lw_p45, List.forall_mem_cons.mpr ⟨lw_p46, List.forall_mem_cons.mpr ⟨lw_p47, fun _ h => absurd h List.not_mem_nil⟩⟩⟩⟩⟩⟩⟩⟩⟩⟩⟩⟩⟩⟩⟩⟩
theorem lw_p48 : lw_okq (⟨"TypeFinder$Checker", "application", "(LTypeFinder$Node;I)LTypeFinder$Type;"⟩, 6) := ⟨⟨by decide +kernel, by decide +kernel⟩, List.mem_of_getElem? (i := 698) (by decide +kernel), List.mem_of_getElem? (i := 1438) (by decide +kernel), List.mem_of_getElem? (i := 1439) (by decide +kernel)⟩
theorem lw_p49 : lw_okq (⟨"TypeFinder$Unifier", "pushPair", "(LTypeFinder$Type;LTypeFinder$Type;)V"⟩, 4) := ⟨⟨by decide +kernel, by decide +kernel⟩, List.mem_of_getElem? (i := 704) (by decide +kernel), List.mem_of_getElem? (i := 1447) (by decide +kernel), List.mem_of_getElem? (i := 1448) (by decide +kernel)⟩
theorem lw_p50 : lw_okq (⟨"TypeFinder$Unifier", "linkOpen", "()V"⟩, 4) := ⟨⟨by decide +kernel, by decide +kernel⟩, List.mem_of_getElem? (i := 704) (by decide +kernel), List.mem_of_getElem? (i := 1455) (by decide +kernel), List.mem_of_getElem? (i := 1456) (by decide +kernel)⟩
theorem lw_p51 : lw_okq (⟨"TypeFinder$Unifier", "bind", "(LTypeFinder$Type;LTypeFinder$Type;)V"⟩, 4) := ⟨⟨by decide +kernel, by decide +kernel⟩, List.mem_of_getElem? (i := 704) (by decide +kernel), List.mem_of_getElem? (i := 1459) (by decide +kernel), List.mem_of_getElem? (i := 1460) (by decide +kernel)⟩
theorem lw_p52 : lw_okq (⟨"TypeFinder$Unifier", "startWalk", "(LTypeFinder$Type;)V"⟩, 4) := ⟨⟨by decide +kernel, by decide +kernel⟩, List.mem_of_getElem? (i := 704) (by decide +kernel), List.mem_of_getElem? (i := 1463) (by decide +kernel), List.mem_of_getElem? (i := 1464) (by decide +kernel)⟩
theorem lw_p53 : lw_okq (⟨"TypeFinder$Unifier", "nextPart", "()LTypeFinder$Type;"⟩, 4) := ⟨⟨by decide +kernel, by decide +kernel⟩, List.mem_of_getElem? (i := 704) (by decide +kernel), List.mem_of_getElem? (i := 1467) (by decide +kernel), List.mem_of_getElem? (i := 1468) (by decide +kernel)⟩
theorem lw_p54 : lw_okq (⟨"TypeFinder$Unifier", "openParts", "(LTypeFinder$Type;LTypeFinder$Type;)V"⟩, 4) := ⟨⟨by decide +kernel, by decide +kernel⟩, List.mem_of_getElem? (i := 704) (by decide +kernel), List.mem_of_getElem? (i := 1474) (by decide +kernel), List.mem_of_getElem? (i := 1475) (by decide +kernel)⟩
theorem lw_p55 : lw_okq (⟨"TypeFinder$Checker", "chain", "(LTypeFinder$Node;I)LTypeFinder$Type;"⟩, 6) := ⟨⟨by decide +kernel, by decide +kernel⟩, List.mem_of_getElem? (i := 698) (by decide +kernel), List.mem_of_getElem? (i := 1478) (by decide +kernel), List.mem_of_getElem? (i := 1479) (by decide +kernel)⟩
theorem lw_p56 : lw_okq (⟨"TypeFinder$Checker", "takeOperand", "()LTypeFinder$Type;"⟩, 6) := ⟨⟨by decide +kernel, by decide +kernel⟩, List.mem_of_getElem? (i := 698) (by decide +kernel), List.mem_of_getElem? (i := 1482) (by decide +kernel), List.mem_of_getElem? (i := 1483) (by decide +kernel)⟩
theorem lw_p57 : lw_okq (⟨"TypeFinder$Checker", "operatorUse", "(J)LTypeFinder$Type;"⟩, 6) := ⟨⟨by decide +kernel, by decide +kernel⟩, List.mem_of_getElem? (i := 698) (by decide +kernel), List.mem_of_getElem? (i := 1488) (by decide +kernel), List.mem_of_getElem? (i := 1489) (by decide +kernel)⟩
theorem lw_p58 : lw_okq (⟨"TypeFinder$Checker", "pair", "(LTypeFinder$Node;I)LTypeFinder$Type;"⟩, 6) := ⟨⟨by decide +kernel, by decide +kernel⟩, List.mem_of_getElem? (i := 698) (by decide +kernel), List.mem_of_getElem? (i := 1492) (by decide +kernel), List.mem_of_getElem? (i := 1493) (by decide +kernel)⟩
theorem lw_p59 : lw_okq (⟨"TypeFinder$Checker", "function", "(LTypeFinder$Node;I)LTypeFinder$Type;"⟩, 6) := ⟨⟨by decide +kernel, by decide +kernel⟩, List.mem_of_getElem? (i := 698) (by decide +kernel), List.mem_of_getElem? (i := 1497) (by decide +kernel), List.mem_of_getElem? (i := 1498) (by decide +kernel)⟩
theorem lw_p60 : lw_okq (⟨"TypeFinder$Checker", "leave", "(I)V"⟩, 6) := ⟨⟨by decide +kernel, by decide +kernel⟩, List.mem_of_getElem? (i := 698) (by decide +kernel), List.mem_of_getElem? (i := 1501) (by decide +kernel), List.mem_of_getElem? (i := 1502) (by decide +kernel)⟩
theorem lw_p61 : lw_okq (⟨"TypeFinder$Checker", "let", "(LTypeFinder$Node;I)LTypeFinder$Type;"⟩, 6) := ⟨⟨by decide +kernel, by decide +kernel⟩, List.mem_of_getElem? (i := 698) (by decide +kernel), List.mem_of_getElem? (i := 1505) (by decide +kernel), List.mem_of_getElem? (i := 1506) (by decide +kernel)⟩
theorem lw_p62 : lw_okq (⟨"TypeFinder$Checker", "choice", "(LTypeFinder$Node;I)LTypeFinder$Type;"⟩, 6) := ⟨⟨by decide +kernel, by decide +kernel⟩, List.mem_of_getElem? (i := 698) (by decide +kernel), List.mem_of_getElem? (i := 1509) (by decide +kernel), List.mem_of_getElem? (i := 1510) (by decide +kernel)⟩
theorem lw_p63 : lw_okq (⟨"TypeFinder$Checker", "cases", "(LTypeFinder$Node;I)LTypeFinder$Type;"⟩, 6) := ⟨⟨by decide +kernel, by decide +kernel⟩, List.mem_of_getElem? (i := 698) (by decide +kernel), List.mem_of_getElem? (i := 1513) (by decide +kernel), List.mem_of_getElem? (i := 1514) (by decide +kernel)⟩
def lw_privs_4 : List (MethodName × Nat) := [(⟨"TypeFinder$Checker", "application", "(LTypeFinder$Node;I)LTypeFinder$Type;"⟩, 6), (⟨"TypeFinder$Unifier", "pushPair", "(LTypeFinder$Type;LTypeFinder$Type;)V"⟩, 4), (⟨"TypeFinder$Unifier", "linkOpen", "()V"⟩, 4), (⟨"TypeFinder$Unifier", "bind", "(LTypeFinder$Type;LTypeFinder$Type;)V"⟩, 4), (⟨"TypeFinder$Unifier", "startWalk", "(LTypeFinder$Type;)V"⟩, 4), (⟨"TypeFinder$Unifier", "nextPart", "()LTypeFinder$Type;"⟩, 4), (⟨"TypeFinder$Unifier", "openParts", "(LTypeFinder$Type;LTypeFinder$Type;)V"⟩, 4), (⟨"TypeFinder$Checker", "chain", "(LTypeFinder$Node;I)LTypeFinder$Type;"⟩, 6), (⟨"TypeFinder$Checker", "takeOperand", "()LTypeFinder$Type;"⟩, 6), (⟨"TypeFinder$Checker", "operatorUse", "(J)LTypeFinder$Type;"⟩, 6), (⟨"TypeFinder$Checker", "pair", "(LTypeFinder$Node;I)LTypeFinder$Type;"⟩, 6), (⟨"TypeFinder$Checker", "function", "(LTypeFinder$Node;I)LTypeFinder$Type;"⟩, 6), (⟨"TypeFinder$Checker", "leave", "(I)V"⟩, 6), (⟨"TypeFinder$Checker", "let", "(LTypeFinder$Node;I)LTypeFinder$Type;"⟩, 6), (⟨"TypeFinder$Checker", "choice", "(LTypeFinder$Node;I)LTypeFinder$Type;"⟩, 6), (⟨"TypeFinder$Checker", "cases", "(LTypeFinder$Node;I)LTypeFinder$Type;"⟩, 6)]
theorem lw_r4 : ∀ q ∈ lw_privs_4, lw_okq q := List.forall_mem_cons.mpr ⟨lw_p48, List.forall_mem_cons.mpr ⟨lw_p49, List.forall_mem_cons.mpr ⟨lw_p50, List.forall_mem_cons.mpr ⟨lw_p51, List.forall_mem_cons.mpr ⟨lw_p52, List.forall_mem_cons.mpr ⟨lw_p53, List.forall_mem_cons.mpr ⟨lw_p54, List.forall_mem_cons.mpr ⟨lw_p55, List.forall_mem_cons.mpr ⟨lw_p56, List.forall_mem_cons.mpr ⟨lw_p57, List.forall_mem_cons.mpr ⟨lw_p58, List.forall_mem_cons.mpr ⟨lw_p59, List.forall_mem_cons.mpr ⟨lw_p60, List.forall_mem_cons.mpr ⟨lw_p61, List.forall_mem_cons.mpr ⟨lw_p62, List.forall_mem_cons.mpr ⟨lw_p63, fun _ h => absurd h List.not_mem_nil⟩⟩⟩⟩⟩⟩⟩⟩⟩⟩⟩⟩⟩⟩⟩⟩
theorem lw_p64 : lw_okq (⟨"TypeFinder$Checker", "constructorPattern", "(LTypeFinder$Node;)LTypeFinder$Type;"⟩, 6) := ⟨⟨by decide +kernel, by decide +kernel⟩, List.mem_of_getElem? (i := 698) (by decide +kernel), List.mem_of_getElem? (i := 1517) (by decide +kernel), List.mem_of_getElem? (i := 1518) (by decide +kernel)⟩
theorem lw_p65 : lw_okq (⟨"TypeFinder$Checker", "plainPattern", "(LTypeFinder$Node;)LTypeFinder$Type;"⟩, 6) := ⟨⟨by decide +kernel, by decide +kernel⟩, List.mem_of_getElem? (i := 698) (by decide +kernel), List.mem_of_getElem? (i := 1521) (by decide +kernel), List.mem_of_getElem? (i := 1522) (by decide +kernel)⟩
theorem lw_p66 : lw_okq (⟨"TypeFinder$Checker", "judge", "(LTypeFinder$Node;)V"⟩, 6) := ⟨⟨by decide +kernel, by decide +kernel⟩, List.mem_of_getElem? (i := 698) (by decide +kernel), List.mem_of_getElem? (i := 1525) (by decide +kernel), List.mem_of_getElem? (i := 1526) (by decide +kernel)⟩
theorem lw_p67 : lw_okq (⟨"TypeFinder$Checker", "constructorsBeside", "(J)I"⟩, 6) := ⟨⟨by decide +kernel, by decide +kernel⟩, List.mem_of_getElem? (i := 698) (by decide +kernel), List.mem_of_getElem? (i := 1532) (by decide +kernel), List.mem_of_getElem? (i := 1533) (by decide +kernel)⟩
theorem lw_p68 : lw_okq (⟨"TypeFinder", "keepMatches", "()V"⟩, 9) := ⟨⟨by decide +kernel, by decide +kernel⟩, List.mem_of_getElem? (i := 40) (by decide +kernel), List.mem_of_getElem? (i := 1560) (by decide +kernel), List.mem_of_getElem? (i := 1561) (by decide +kernel)⟩
theorem lw_p69 : lw_okq (⟨"TypeFinderModel", "setName", "(IIIIII)V"⟩, 80) := ⟨⟨by decide +kernel, by decide +kernel⟩, List.mem_of_getElem? (i := 1579) (by decide +kernel), List.mem_of_getElem? (i := 1585) (by decide +kernel), List.mem_of_getElem? (i := 1586) (by decide +kernel)⟩
theorem lw_p70 : lw_okq (⟨"TypeFinderModel", "begin", "()Z"⟩, 80) := ⟨⟨by decide +kernel, by decide +kernel⟩, List.mem_of_getElem? (i := 1579) (by decide +kernel), List.mem_of_getElem? (i := 1854) (by decide +kernel), List.mem_of_getElem? (i := 1855) (by decide +kernel)⟩
theorem lw_p71 : lw_okq (⟨"TypeFinderModel", "split", "()V"⟩, 80) := ⟨⟨by decide +kernel, by decide +kernel⟩, List.mem_of_getElem? (i := 1579) (by decide +kernel), List.mem_of_getElem? (i := 1858) (by decide +kernel), List.mem_of_getElem? (i := 1859) (by decide +kernel)⟩
theorem lw_p72 : lw_okq (⟨"TypeFinderModel", "letters", "(I)I"⟩, 80) := ⟨⟨by decide +kernel, by decide +kernel⟩, List.mem_of_getElem? (i := 1579) (by decide +kernel), List.mem_of_getElem? (i := 1868) (by decide +kernel), List.mem_of_getElem? (i := 1869) (by decide +kernel)⟩
theorem lw_p73 : lw_okq (⟨"TypeFinderModel", "charAt", "(I)I"⟩, 80) := ⟨⟨by decide +kernel, by decide +kernel⟩, List.mem_of_getElem? (i := 1579) (by decide +kernel), List.mem_of_getElem? (i := 1872) (by decide +kernel), List.mem_of_getElem? (i := 1873) (by decide +kernel)⟩
theorem lw_p74 : lw_okq (⟨"TypeFinderModel", "put", "(II)V"⟩, 80) := ⟨⟨by decide +kernel, by decide +kernel⟩, List.mem_of_getElem? (i := 1579) (by decide +kernel), List.mem_of_getElem? (i := 1889) (by decide +kernel), List.mem_of_getElem? (i := 1890) (by decide +kernel)⟩
theorem lw_p75 : lw_okq (⟨"TypeFinderModel", "digits", "(I)I"⟩, 80) := ⟨⟨by decide +kernel, by decide +kernel⟩, List.mem_of_getElem? (i := 1579) (by decide +kernel), List.mem_of_getElem? (i := 1896) (by decide +kernel), List.mem_of_getElem? (i := 1897) (by decide +kernel)⟩
theorem lw_p76 : lw_okq (⟨"TypeFinderModel", "expression", "()V"⟩, 80) := ⟨⟨by decide +kernel, by decide +kernel⟩, List.mem_of_getElem? (i := 1579) (by decide +kernel), List.mem_of_getElem? (i := 1906) (by decide +kernel), List.mem_of_getElem? (i := 1907) (by decide +kernel)⟩
theorem lw_p77 : lw_okq (⟨"TypeFinderModel", "beginExpression", "()V"⟩, 80) := ⟨⟨by decide +kernel, by decide +kernel⟩, List.mem_of_getElem? (i := 1579) (by decide +kernel), List.mem_of_getElem? (i := 1910) (by decide +kernel), List.mem_of_getElem? (i := 1911) (by decide +kernel)⟩
theorem lw_p78 : lw_okq (⟨"TypeFinderModel", "peek", "()I"⟩, 80) := ⟨⟨by decide +kernel, by decide +kernel⟩, List.mem_of_getElem? (i := 1579) (by decide +kernel), List.mem_of_getElem? (i := 1914) (by decide +kernel), List.mem_of_getElem? (i := 1915) (by decide +kernel)⟩
theorem lw_p79 : lw_okq (⟨"TypeFinderModel", "word", "()I"⟩, 80) := ⟨⟨by decide +kernel, by decide +kernel⟩, List.mem_of_getElem? (i := 1579) (by decide +kernel), List.mem_of_getElem? (i := 1918) (by decide +kernel), List.mem_of_getElem? (i := 1919) (by decide +kernel)⟩
def lw_privs_5 : List (MethodName × Nat) := [(⟨"TypeFinder$Checker", "constructorPattern", "(LTypeFinder$Node;)LTypeFinder$Type;"⟩, 6), (⟨"TypeFinder$Checker", "plainPattern", "(LTypeFinder$Node;)LTypeFinder$Type;"⟩, 6), (⟨"TypeFinder$Checker", "judge", "(LTypeFinder$Node;)V"⟩, 6), (⟨"TypeFinder$Checker", "constructorsBeside", "(J)I"⟩, 6), (⟨"TypeFinder", "keepMatches", "()V"⟩, 9), (⟨"TypeFinderModel", "setName", "(IIIIII)V"⟩, 80), (⟨"TypeFinderModel", "begin", "()Z"⟩, 80), (⟨"TypeFinderModel", "split", "()V"⟩, 80), (⟨"TypeFinderModel", "letters", "(I)I"⟩, 80), (⟨"TypeFinderModel", "charAt", "(I)I"⟩, 80), (⟨"TypeFinderModel", "put", "(II)V"⟩, 80), (⟨"TypeFinderModel", "digits", "(I)I"⟩, 80), (⟨"TypeFinderModel", "expression", "()V"⟩, 80), (⟨"TypeFinderModel", "beginExpression", "()V"⟩, 80), (⟨"TypeFinderModel", "peek", "()I"⟩, 80), (⟨"TypeFinderModel", "word", "()I"⟩, 80)]
theorem lw_r5 : ∀ q ∈ lw_privs_5, lw_okq q := List.forall_mem_cons.mpr ⟨lw_p64, List.forall_mem_cons.mpr ⟨lw_p65, List.forall_mem_cons.mpr ⟨lw_p66, List.forall_mem_cons.mpr ⟨lw_p67, List.forall_mem_cons.mpr ⟨lw_p68, List.forall_mem_cons.mpr ⟨lw_p69, List.forall_mem_cons.mpr ⟨lw_p70, List.forall_mem_cons.mpr ⟨lw_p71, List.forall_mem_cons.mpr ⟨lw_p72, List.forall_mem_cons.mpr ⟨lw_p73, List.forall_mem_cons.mpr ⟨lw_p74, List.forall_mem_cons.mpr ⟨lw_p75, List.forall_mem_cons.mpr ⟨lw_p76, List.forall_mem_cons.mpr ⟨lw_p77, List.forall_mem_cons.mpr ⟨lw_p78, List.forall_mem_cons.mpr ⟨lw_p79, fun _ h => absurd h List.not_mem_nil⟩⟩⟩⟩⟩⟩⟩⟩⟩⟩⟩⟩⟩⟩⟩⟩
theorem lw_p80 : lw_okq (⟨"TypeFinderModel", "expect", "(I)V"⟩, 80) := ⟨⟨by decide +kernel, by decide +kernel⟩, List.mem_of_getElem? (i := 1579) (by decide +kernel), List.mem_of_getElem? (i := 1922) (by decide +kernel), List.mem_of_getElem? (i := 1923) (by decide +kernel)⟩
theorem lw_p81 : lw_okq (⟨"TypeFinderModel", "emit", "(III)V"⟩, 80) := ⟨⟨by decide +kernel, by decide +kernel⟩, List.mem_of_getElem? (i := 1579) (by decide +kernel), List.mem_of_getElem? (i := 1926) (by decide +kernel), List.mem_of_getElem? (i := 1927) (by decide +kernel)⟩
theorem lw_p82 : lw_okq (⟨"TypeFinderModel", "enter", "(III)V"⟩, 80) := ⟨⟨by decide +kernel, by decide +kernel⟩, List.mem_of_getElem? (i := 1579) (by decide +kernel), List.mem_of_getElem? (i := 1930) (by decide +kernel), List.mem_of_getElem? (i := 1931) (by decide +kernel)⟩
theorem lw_p83 : lw_okq (⟨"TypeFinderModel", "within", "(I)V"⟩, 80) := ⟨⟨by decide +kernel, by decide +kernel⟩, List.mem_of_getElem? (i := 1579) (by decide +kernel), List.mem_of_getElem? (i := 1934) (by decide +kernel), List.mem_of_getElem? (i := 1935) (by decide +kernel)⟩
theorem lw_p84 : lw_okq (⟨"TypeFinderModel", "head", "()V"⟩, 80) := ⟨⟨by decide +kernel, by decide +kernel⟩, List.mem_of_getElem? (i := 1579) (by decide +kernel), List.mem_of_getElem? (i := 1938) (by decide +kernel), List.mem_of_getElem? (i := 1939) (by decide +kernel)⟩
theorem lw_p85 : lw_okq (⟨"TypeFinderModel", "chain", "()V"⟩, 80) := ⟨⟨by decide +kernel, by decide +kernel⟩, List.mem_of_getElem? (i := 1579) (by decide +kernel), List.mem_of_getElem? (i := 1942) (by decide +kernel), List.mem_of_getElem? (i := 1943) (by decide +kernel)⟩
theorem lw_p86 : lw_okq (⟨"TypeFinderModel", "atom", "(I)Z"⟩, 80) := ⟨⟨by decide +kernel, by decide +kernel⟩, List.mem_of_getElem? (i := 1579) (by decide +kernel), List.mem_of_getElem? (i := 1946) (by decide +kernel), List.mem_of_getElem? (i := 1947) (by decide +kernel)⟩
theorem lw_p87 : lw_okq (⟨"TypeFinderModel", "atomEnds", "(I)V"⟩, 80) := ⟨⟨by decide +kernel, by decide +kernel⟩, List.mem_of_getElem? (i := 1579) (by decide +kernel), List.mem_of_getElem? (i := 1950) (by decide +kernel), List.mem_of_getElem? (i := 1951) (by decide +kernel)⟩
theorem lw_p88 : lw_okq (⟨"TypeFinderModel", "operator", "(II)V"⟩, 80) := ⟨⟨by decide +kernel, by decide +kernel⟩, List.mem_of_getElem? (i := 1579) (by decide +kernel), List.mem_of_getElem? (i := 1954) (by decide +kernel), List.mem_of_getElem? (i := 1955) (by decide +kernel)⟩
theorem lw_p89 : lw_okq (⟨"TypeFinderModel", "operates", "()V"⟩, 80) := ⟨⟨by decide +kernel, by decide +kernel⟩, List.mem_of_getElem? (i := 1579) (by decide +kernel), List.mem_of_getElem? (i := 1958) (by decide +kernel), List.mem_of_getElem? (i := 1959) (by decide +kernel)⟩
theorem lw_p90 : lw_okq (⟨"TypeFinderModel", "leave", "(I)V"⟩, 80) := ⟨⟨by decide +kernel, by decide +kernel⟩, List.mem_of_getElem? (i := 1579) (by decide +kernel), List.mem_of_getElem? (i := 1962) (by decide +kernel), List.mem_of_getElem? (i := 1963) (by decide +kernel)⟩
theorem lw_p91 : lw_okq (⟨"TypeFinderModel", "goOn", "()V"⟩, 80) := ⟨⟨by decide +kernel, by decide +kernel⟩, List.mem_of_getElem? (i := 1579) (by decide +kernel), List.mem_of_getElem? (i := 1966) (by decide +kernel), List.mem_of_getElem? (i := 1967) (by decide +kernel)⟩
theorem lw_p92 : lw_okq (⟨"TypeFinderModel", "becomes", "(I)V"⟩, 80) := ⟨⟨by decide +kernel, by decide +kernel⟩, List.mem_of_getElem? (i := 1579) (by decide +kernel), List.mem_of_getElem? (i := 1970) (by decide +kernel), List.mem_of_getElem? (i := 1971) (by decide +kernel)⟩
theorem lw_p93 : lw_okq (⟨"TypeFinderModel", "pattern", "(I)V"⟩, 80) := ⟨⟨by decide +kernel, by decide +kernel⟩, List.mem_of_getElem? (i := 1579) (by decide +kernel), List.mem_of_getElem? (i := 1974) (by decide +kernel), List.mem_of_getElem? (i := 1975) (by decide +kernel)⟩
theorem lw_p94 : lw_okq (⟨"TypeFinderModel", "name", "()I"⟩, 80) := ⟨⟨by decide +kernel, by decide +kernel⟩, List.mem_of_getElem? (i := 1579) (by decide +kernel), List.mem_of_getElem? (i := 1978) (by decide +kernel), List.mem_of_getElem? (i := 1979) (by decide +kernel)⟩
theorem lw_p95 : lw_okq (⟨"TypeFinderModel", "countWords", "(II)V"⟩, 80) := ⟨⟨by decide +kernel, by decide +kernel⟩, List.mem_of_getElem? (i := 1579) (by decide +kernel), List.mem_of_getElem? (i := 1982) (by decide +kernel), List.mem_of_getElem? (i := 1983) (by decide +kernel)⟩
def lw_privs_6 : List (MethodName × Nat) := [(⟨"TypeFinderModel", "expect", "(I)V"⟩, 80), (⟨"TypeFinderModel", "emit", "(III)V"⟩, 80), (⟨"TypeFinderModel", "enter", "(III)V"⟩, 80), (⟨"TypeFinderModel", "within", "(I)V"⟩, 80), (⟨"TypeFinderModel", "head", "()V"⟩, 80), (⟨"TypeFinderModel", "chain", "()V"⟩, 80), (⟨"TypeFinderModel", "atom", "(I)Z"⟩, 80), (⟨"TypeFinderModel", "atomEnds", "(I)V"⟩, 80), (⟨"TypeFinderModel", "operator", "(II)V"⟩, 80), (⟨"TypeFinderModel", "operates", "()V"⟩, 80), (⟨"TypeFinderModel", "leave", "(I)V"⟩, 80), (⟨"TypeFinderModel", "goOn", "()V"⟩, 80), (⟨"TypeFinderModel", "becomes", "(I)V"⟩, 80), (⟨"TypeFinderModel", "pattern", "(I)V"⟩, 80), (⟨"TypeFinderModel", "name", "()I"⟩, 80), (⟨"TypeFinderModel", "countWords", "(II)V"⟩, 80)]
theorem lw_r6 : ∀ q ∈ lw_privs_6, lw_okq q := List.forall_mem_cons.mpr ⟨lw_p80, List.forall_mem_cons.mpr ⟨lw_p81, List.forall_mem_cons.mpr ⟨lw_p82, List.forall_mem_cons.mpr ⟨lw_p83, List.forall_mem_cons.mpr ⟨lw_p84, List.forall_mem_cons.mpr ⟨lw_p85, List.forall_mem_cons.mpr ⟨lw_p86, List.forall_mem_cons.mpr ⟨lw_p87, List.forall_mem_cons.mpr ⟨lw_p88, List.forall_mem_cons.mpr ⟨lw_p89, List.forall_mem_cons.mpr ⟨lw_p90, List.forall_mem_cons.mpr ⟨lw_p91, List.forall_mem_cons.mpr ⟨lw_p92, List.forall_mem_cons.mpr ⟨lw_p93, List.forall_mem_cons.mpr ⟨lw_p94, List.forall_mem_cons.mpr ⟨lw_p95, fun _ h => absurd h List.not_mem_nil⟩⟩⟩⟩⟩⟩⟩⟩⟩⟩⟩⟩⟩⟩⟩⟩
theorem lw_p96 : lw_okq (⟨"TypeFinderModel", "matchEnds", "(I)V"⟩, 80) := ⟨⟨by decide +kernel, by decide +kernel⟩, List.mem_of_getElem? (i := 1579) (by decide +kernel), List.mem_of_getElem? (i := 1986) (by decide +kernel), List.mem_of_getElem? (i := 1987) (by decide +kernel)⟩
theorem lw_p97 : lw_okq (⟨"TypeFinderModel", "bracketEnds", "(I)V"⟩, 80) := ⟨⟨by decide +kernel, by decide +kernel⟩, List.mem_of_getElem? (i := 1579) (by decide +kernel), List.mem_of_getElem? (i := 1990) (by decide +kernel), List.mem_of_getElem? (i := 1991) (by decide +kernel)⟩
theorem lw_p98 : lw_okq (⟨"TypeFinderModel", "refuse", "(I)I"⟩, 80) := ⟨⟨by decide +kernel, by decide +kernel⟩, List.mem_of_getElem? (i := 1579) (by decide +kernel), List.mem_of_getElem? (i := 1994) (by decide +kernel), List.mem_of_getElem? (i := 1995) (by decide +kernel)⟩
theorem lw_p99 : lw_okq (⟨"TypeFinderModel", "run", "()V"⟩, 80) := ⟨⟨by decide +kernel, by decide +kernel⟩, List.mem_of_getElem? (i := 1579) (by decide +kernel), List.mem_of_getElem? (i := 1998) (by decide +kernel), List.mem_of_getElem? (i := 1999) (by decide +kernel)⟩
theorem lw_p100 : lw_okq (⟨"TypeFinderModel", "perform", "(I)V"⟩, 80) := ⟨⟨by decide +kernel, by decide +kernel⟩, List.mem_of_getElem? (i := 1579) (by decide +kernel), List.mem_of_getElem? (i := 2002) (by decide +kernel), List.mem_of_getElem? (i := 2003) (by decide +kernel)⟩
theorem lw_p101 : lw_okq (⟨"TypeFinderModel", "node", "(III)I"⟩, 80) := ⟨⟨by decide +kernel, by decide +kernel⟩, List.mem_of_getElem? (i := 1579) (by decide +kernel), List.mem_of_getElem? (i := 2006) (by decide +kernel), List.mem_of_getElem? (i := 2007) (by decide +kernel)⟩
theorem lw_p102 : lw_okq (⟨"TypeFinderModel", "part", "(I)V"⟩, 80) := ⟨⟨by decide +kernel, by decide +kernel⟩, List.mem_of_getElem? (i := 1579) (by decide +kernel), List.mem_of_getElem? (i := 2010) (by decide +kernel), List.mem_of_getElem? (i := 2011) (by decide +kernel)⟩
theorem lw_p103 : lw_okq (⟨"TypeFinderModel", "push", "(I)V"⟩, 80) := ⟨⟨by decide +kernel, by decide +kernel⟩, List.mem_of_getElem? (i := 1579) (by decide +kernel), List.mem_of_getElem? (i := 2014) (by decide +kernel), List.mem_of_getElem? (i := 2015) (by decide +kernel)⟩
theorem lw_p104 : lw_okq (⟨"TypeFinderModel", "sized", "(I)V"⟩, 80) := ⟨⟨by decide +kernel, by decide +kernel⟩, List.mem_of_getElem? (i := 1579) (by decide +kernel), List.mem_of_getElem? (i := 2018) (by decide +kernel), List.mem_of_getElem? (i := 2019) (by decide +kernel)⟩
theorem lw_p105 : lw_okq (⟨"TypeFinderModel", "sizeOf", "(I)I"⟩, 80) := ⟨⟨by decide +kernel, by decide +kernel⟩, List.mem_of_getElem? (i := 1579) (by decide +kernel), List.mem_of_getElem? (i := 2022) (by decide +kernel), List.mem_of_getElem? (i := 2023) (by decide +kernel)⟩
theorem lw_p106 : lw_okq (⟨"TypeFinderModel", "pileUp", "(I)V"⟩, 80) := ⟨⟨by decide +kernel, by decide +kernel⟩, List.mem_of_getElem? (i := 1579) (by decide +kernel), List.mem_of_getElem? (i := 2026) (by decide +kernel), List.mem_of_getElem? (i := 2027) (by decide +kernel)⟩
theorem lw_p107 : lw_okq (⟨"TypeFinderModel", "whole", "(I)I"⟩, 80) := ⟨⟨by decide +kernel, by decide +kernel⟩, List.mem_of_getElem? (i := 1579) (by decide +kernel), List.mem_of_getElem? (i := 2030) (by decide +kernel), List.mem_of_getElem? (i := 2031) (by decide +kernel)⟩
theorem lw_p108 : lw_okq (⟨"TypeFinderModel", "pileParts", "(I)V"⟩, 80) := ⟨⟨by decide +kernel, by decide +kernel⟩, List.mem_of_getElem? (i := 1579) (by decide +kernel), List.mem_of_getElem? (i := 2034) (by decide +kernel), List.mem_of_getElem? (i := 2035) (by decide +kernel)⟩
theorem lw_p109 : lw_okq (⟨"TypeFinderModel", "fail", "(I)V"⟩, 80) := ⟨⟨by decide +kernel, by decide +kernel⟩, List.mem_of_getElem? (i := 1579) (by decide +kernel), List.mem_of_getElem? (i := 2038) (by decide +kernel), List.mem_of_getElem? (i := 2039) (by decide +kernel)⟩
theorem lw_p110 : lw_okq (⟨"TypeFinderModel", "useOf", "(I)I"⟩, 80) := ⟨⟨by decide +kernel, by decide +kernel⟩, List.mem_of_getElem? (i := 1579) (by decide +kernel), List.mem_of_getElem? (i := 2042) (by decide +kernel), List.mem_of_getElem? (i := 2043) (by decide +kernel)⟩
theorem lw_p111 : lw_okq (⟨"TypeFinderModel", "use", "(I)I"⟩, 80) := ⟨⟨by decide +kernel, by decide +kernel⟩, List.mem_of_getElem? (i := 1579) (by decide +kernel), List.mem_of_getElem? (i := 2046) (by decide +kernel), List.mem_of_getElem? (i := 2047) (by decide +kernel)⟩
def lw_privs_7 : List (MethodName × Nat) := [(⟨"TypeFinderModel", "matchEnds", "(I)V"⟩, 80), (⟨"TypeFinderModel", "bracketEnds", "(I)V"⟩, 80), (⟨"TypeFinderModel", "refuse", "(I)I"⟩, 80), (⟨"TypeFinderModel", "run", "()V"⟩, 80), (⟨"TypeFinderModel", "perform", "(I)V"⟩, 80), (⟨"TypeFinderModel", "node", "(III)I"⟩, 80), (⟨"TypeFinderModel", "part", "(I)V"⟩, 80), (⟨"TypeFinderModel", "push", "(I)V"⟩, 80), (⟨"TypeFinderModel", "sized", "(I)V"⟩, 80), (⟨"TypeFinderModel", "sizeOf", "(I)I"⟩, 80), (⟨"TypeFinderModel", "pileUp", "(I)V"⟩, 80), (⟨"TypeFinderModel", "whole", "(I)I"⟩, 80), (⟨"TypeFinderModel", "pileParts", "(I)V"⟩, 80), (⟨"TypeFinderModel", "fail", "(I)V"⟩, 80), (⟨"TypeFinderModel", "useOf", "(I)I"⟩, 80), (⟨"TypeFinderModel", "use", "(I)I"⟩, 80)]
theorem lw_r7 : ∀ q ∈ lw_privs_7, lw_okq q := List.forall_mem_cons.mpr ⟨lw_p96, List.forall_mem_cons.mpr ⟨lw_p97, List.forall_mem_cons.mpr ⟨lw_p98, List.forall_mem_cons.mpr ⟨lw_p99, List.forall_mem_cons.mpr ⟨lw_p100, List.forall_mem_cons.mpr ⟨lw_p101, List.forall_mem_cons.mpr ⟨lw_p102, List.forall_mem_cons.mpr ⟨lw_p103, List.forall_mem_cons.mpr ⟨lw_p104, List.forall_mem_cons.mpr ⟨lw_p105, List.forall_mem_cons.mpr ⟨lw_p106, List.forall_mem_cons.mpr ⟨lw_p107, List.forall_mem_cons.mpr ⟨lw_p108, List.forall_mem_cons.mpr ⟨lw_p109, List.forall_mem_cons.mpr ⟨lw_p110, List.forall_mem_cons.mpr ⟨lw_p111, fun _ h => absurd h List.not_mem_nil⟩⟩⟩⟩⟩⟩⟩⟩⟩⟩⟩⟩⟩⟩⟩⟩
theorem lw_p112 : lw_okq (⟨"TypeFinderModel", "loose", "(I)Z"⟩, 80) := ⟨⟨by decide +kernel, by decide +kernel⟩, List.mem_of_getElem? (i := 1579) (by decide +kernel), List.mem_of_getElem? (i := 2050) (by decide +kernel), List.mem_of_getElem? (i := 2051) (by decide +kernel)⟩
theorem lw_p113 : lw_okq (⟨"TypeFinderModel", "fresh", "(Z)I"⟩, 80) := ⟨⟨by decide +kernel, by decide +kernel⟩, List.mem_of_getElem? (i := 1579) (by decide +kernel), List.mem_of_getElem? (i := 2054) (by decide +kernel), List.mem_of_getElem? (i := 2055) (by decide +kernel)⟩
theorem lw_p114 : lw_okq (⟨"TypeFinderModel", "pileNeeded", "(I)V"⟩, 80) := ⟨⟨by decide +kernel, by decide +kernel⟩, List.mem_of_getElem? (i := 1579) (by decide +kernel), List.mem_of_getElem? (i := 2058) (by decide +kernel), List.mem_of_getElem? (i := 2059) (by decide +kernel)⟩
theorem lw_p115 : lw_okq (⟨"TypeFinderModel", "copy", "(I)I"⟩, 80) := ⟨⟨by decide +kernel, by decide +kernel⟩, List.mem_of_getElem? (i := 1579) (by decide +kernel), List.mem_of_getElem? (i := 2062) (by decide +kernel), List.mem_of_getElem? (i := 2063) (by decide +kernel)⟩
theorem lw_p116 : lw_okq (⟨"TypeFinderModel", "build", "(ZII)I"⟩, 80) := ⟨⟨by decide +kernel, by decide +kernel⟩, List.mem_of_getElem? (i := 1579) (by decide +kernel), List.mem_of_getElem? (i := 2066) (by decide +kernel), List.mem_of_getElem? (i := 2067) (by decide +kernel)⟩
theorem lw_p117 : lw_okq (⟨"TypeFinderModel", "constructorOf", "(I)I"⟩, 80) := ⟨⟨by decide +kernel, by decide +kernel⟩, List.mem_of_getElem? (i := 1579) (by decide +kernel), List.mem_of_getElem? (i := 2070) (by decide +kernel), List.mem_of_getElem? (i := 2071) (by decide +kernel)⟩
theorem lw_p118 : lw_okq (⟨"TypeFinderModel", "useOfConstructor", "(I)I"⟩, 80) := ⟨⟨by decide +kernel, by decide +kernel⟩, List.mem_of_getElem? (i := 1579) (by decide +kernel), List.mem_of_getElem? (i := 2074) (by decide +kernel), List.mem_of_getElem? (i := 2075) (by decide +kernel)⟩
theorem lw_p119 : lw_okq (⟨"TypeFinderModel", "pop", "()I"⟩, 80) := ⟨⟨by decide +kernel, by decide +kernel⟩, List.mem_of_getElem? (i := 1579) (by decide +kernel), List.mem_of_getElem? (i := 2078) (by decide +kernel), List.mem_of_getElem? (i := 2079) (by decide +kernel)⟩
theorem lw_p120 : lw_okq (⟨"TypeFinderModel", "apply", "(II)V"⟩, 80) := ⟨⟨by decide +kernel, by decide +kernel⟩, List.mem_of_getElem? (i := 1579) (by decide +kernel), List.mem_of_getElem? (i := 2082) (by decide +kernel), List.mem_of_getElem? (i := 2083) (by decide +kernel)⟩
theorem lw_p121 : lw_okq (⟨"TypeFinderModel", "unify", "(II)V"⟩, 80) := ⟨⟨by decide +kernel, by decide +kernel⟩, List.mem_of_getElem? (i := 1579) (by decide +kernel), List.mem_of_getElem? (i := 2086) (by decide +kernel), List.mem_of_getElem? (i := 2087) (by decide +kernel)⟩
theorem lw_p122 : lw_okq (⟨"TypeFinderModel", "point", "(II)V"⟩, 80) := ⟨⟨by decide +kernel, by decide +kernel⟩, List.mem_of_getElem? (i := 1579) (by decide +kernel), List.mem_of_getElem? (i := 2090) (by decide +kernel), List.mem_of_getElem? (i := 2091) (by decide +kernel)⟩
theorem lw_p123 : lw_okq (⟨"TypeFinderModel", "stands", "(II)Z"⟩, 80) := ⟨⟨by decide +kernel, by decide +kernel⟩, List.mem_of_getElem? (i := 1579) (by decide +kernel), List.mem_of_getElem? (i := 2094) (by decide +kernel), List.mem_of_getElem? (i := 2095) (by decide +kernel)⟩
theorem lw_p124 : lw_okq (⟨"TypeFinderModel", "look", "(I)V"⟩, 80) := ⟨⟨by decide +kernel, by decide +kernel⟩, List.mem_of_getElem? (i := 1579) (by decide +kernel), List.mem_of_getElem? (i := 2098) (by decide +kernel), List.mem_of_getElem? (i := 2099) (by decide +kernel)⟩
theorem lw_p125 : lw_okq (⟨"TypeFinderModel", "unseen", "()I"⟩, 80) := ⟨⟨by decide +kernel, by decide +kernel⟩, List.mem_of_getElem? (i := 1579) (by decide +kernel), List.mem_of_getElem? (i := 2102) (by decide +kernel), List.mem_of_getElem? (i := 2103) (by decide +kernel)⟩
theorem lw_p126 : lw_okq (⟨"TypeFinderModel", "compare", "(I)Z"⟩, 80) := ⟨⟨by decide +kernel, by decide +kernel⟩, List.mem_of_getElem? (i := 1579) (by decide +kernel), List.mem_of_getElem? (i := 2106) (by decide +kernel), List.mem_of_getElem? (i := 2107) (by decide +kernel)⟩
theorem lw_p127 : lw_okq (⟨"TypeFinderModel", "operate", "(I)V"⟩, 80) := ⟨⟨by decide +kernel, by decide +kernel⟩, List.mem_of_getElem? (i := 1579) (by decide +kernel), List.mem_of_getElem? (i := 2110) (by decide +kernel), List.mem_of_getElem? (i := 2111) (by decide +kernel)⟩
def lw_privs_8 : List (MethodName × Nat) := [(⟨"TypeFinderModel", "loose", "(I)Z"⟩, 80), (⟨"TypeFinderModel", "fresh", "(Z)I"⟩, 80), (⟨"TypeFinderModel", "pileNeeded", "(I)V"⟩, 80), (⟨"TypeFinderModel", "copy", "(I)I"⟩, 80), (⟨"TypeFinderModel", "build", "(ZII)I"⟩, 80), (⟨"TypeFinderModel", "constructorOf", "(I)I"⟩, 80), (⟨"TypeFinderModel", "useOfConstructor", "(I)I"⟩, 80), (⟨"TypeFinderModel", "pop", "()I"⟩, 80), (⟨"TypeFinderModel", "apply", "(II)V"⟩, 80), (⟨"TypeFinderModel", "unify", "(II)V"⟩, 80), (⟨"TypeFinderModel", "point", "(II)V"⟩, 80), (⟨"TypeFinderModel", "stands", "(II)Z"⟩, 80), (⟨"TypeFinderModel", "look", "(I)V"⟩, 80), (⟨"TypeFinderModel", "unseen", "()I"⟩, 80), (⟨"TypeFinderModel", "compare", "(I)Z"⟩, 80), (⟨"TypeFinderModel", "operate", "(I)V"⟩, 80)]
theorem lw_r8 : ∀ q ∈ lw_privs_8, lw_okq q := List.forall_mem_cons.mpr ⟨lw_p112, List.forall_mem_cons.mpr ⟨lw_p113, List.forall_mem_cons.mpr ⟨lw_p114, List.forall_mem_cons.mpr ⟨lw_p115, List.forall_mem_cons.mpr ⟨lw_p116, List.forall_mem_cons.mpr ⟨lw_p117, List.forall_mem_cons.mpr ⟨lw_p118, List.forall_mem_cons.mpr ⟨lw_p119, List.forall_mem_cons.mpr ⟨lw_p120, List.forall_mem_cons.mpr ⟨lw_p121, List.forall_mem_cons.mpr ⟨lw_p122, List.forall_mem_cons.mpr ⟨lw_p123, List.forall_mem_cons.mpr ⟨lw_p124, List.forall_mem_cons.mpr ⟨lw_p125, List.forall_mem_cons.mpr ⟨lw_p126, List.forall_mem_cons.mpr ⟨lw_p127, fun _ h => absurd h List.not_mem_nil⟩⟩⟩⟩⟩⟩⟩⟩⟩⟩⟩⟩⟩⟩⟩⟩
theorem lw_p128 : lw_okq (⟨"TypeFinderModel", "bind", "(II)V"⟩, 80) := ⟨⟨by decide +kernel, by decide +kernel⟩, List.mem_of_getElem? (i := 1579) (by decide +kernel), List.mem_of_getElem? (i := 2114) (by decide +kernel), List.mem_of_getElem? (i := 2115) (by decide +kernel)⟩
theorem lw_p129 : lw_okq (⟨"TypeFinderModel", "generalise", "(II)V"⟩, 80) := ⟨⟨by decide +kernel, by decide +kernel⟩, List.mem_of_getElem? (i := 1579) (by decide +kernel), List.mem_of_getElem? (i := 2118) (by decide +kernel), List.mem_of_getElem? (i := 2119) (by decide +kernel)⟩
theorem lw_p130 : lw_okq (⟨"TypeFinderModel", "define", "(I)V"⟩, 80) := ⟨⟨by decide +kernel, by decide +kernel⟩, List.mem_of_getElem? (i := 1579) (by decide +kernel), List.mem_of_getElem? (i := 2122) (by decide +kernel), List.mem_of_getElem? (i := 2123) (by decide +kernel)⟩
theorem lw_p131 : lw_okq (⟨"TypeFinderModel", "choose", "(II)V"⟩, 80) := ⟨⟨by decide +kernel, by decide +kernel⟩, List.mem_of_getElem? (i := 1579) (by decide +kernel), List.mem_of_getElem? (i := 2126) (by decide +kernel), List.mem_of_getElem? (i := 2127) (by decide +kernel)⟩
theorem lw_p132 : lw_okq (⟨"TypeFinderModel", "endCase", "()V"⟩, 80) := ⟨⟨by decide +kernel, by decide +kernel⟩, List.mem_of_getElem? (i := 1579) (by decide +kernel), List.mem_of_getElem? (i := 2130) (by decide +kernel), List.mem_of_getElem? (i := 2131) (by decide +kernel)⟩
theorem lw_p133 : lw_okq (⟨"TypeFinderModel", "allConstructors", "()Z"⟩, 80) := ⟨⟨by decide +kernel, by decide +kernel⟩, List.mem_of_getElem? (i := 1579) (by decide +kernel), List.mem_of_getElem? (i := 2134) (by decide +kernel), List.mem_of_getElem? (i := 2135) (by decide +kernel)⟩
theorem lw_p134 : lw_okq (⟨"TypeFinderModel", "all", "(I)Z"⟩, 80) := ⟨⟨by decide +kernel, by decide +kernel⟩, List.mem_of_getElem? (i := 1579) (by decide +kernel), List.mem_of_getElem? (i := 2138) (by decide +kernel), List.mem_of_getElem? (i := 2139) (by decide +kernel)⟩
theorem lw_p135 : lw_okq (⟨"TypeFinderModel", "pattern", "(II)V"⟩, 80) := ⟨⟨by decide +kernel, by decide +kernel⟩, List.mem_of_getElem? (i := 1579) (by decide +kernel), List.mem_of_getElem? (i := 2142) (by decide +kernel), List.mem_of_getElem? (i := 2143) (by decide +kernel)⟩
theorem lw_p136 : lw_okq (⟨"TypeFinderModel", "variableFor", "(I)I"⟩, 80) := ⟨⟨by decide +kernel, by decide +kernel⟩, List.mem_of_getElem? (i := 1579) (by decide +kernel), List.mem_of_getElem? (i := 2146) (by decide +kernel), List.mem_of_getElem? (i := 2147) (by decide +kernel)⟩
theorem lw_p137 : lw_okq (⟨"TypeFinderModel", "needless", "()Z"⟩, 80) := ⟨⟨by decide +kernel, by decide +kernel⟩, List.mem_of_getElem? (i := 1579) (by decide +kernel), List.mem_of_getElem? (i := 2150) (by decide +kernel), List.mem_of_getElem? (i := 2151) (by decide +kernel)⟩
theorem lw_p138 : lw_okq (⟨"TypeFinderModel", "write", "(I)V"⟩, 80) := ⟨⟨by decide +kernel, by decide +kernel⟩, List.mem_of_getElem? (i := 1579) (by decide +kernel), List.mem_of_getElem? (i := 2154) (by decide +kernel), List.mem_of_getElem? (i := 2155) (by decide +kernel)⟩
theorem lw_p139 : lw_okq (⟨"TypeFinderModel", "later", "(I)V"⟩, 80) := ⟨⟨by decide +kernel, by decide +kernel⟩, List.mem_of_getElem? (i := 1579) (by decide +kernel), List.mem_of_getElem? (i := 2158) (by decide +kernel), List.mem_of_getElem? (i := 2159) (by decide +kernel)⟩
theorem lw_p140 : lw_okq (⟨"TypeFinderModel", "show", "(I)V"⟩, 80) := ⟨⟨by decide +kernel, by decide +kernel⟩, List.mem_of_getElem? (i := 1579) (by decide +kernel), List.mem_of_getElem? (i := 2162) (by decide +kernel), List.mem_of_getElem? (i := 2163) (by decide +kernel)⟩
theorem lw_p141 : lw_okq (⟨"TypeFinderModel", "writeParts", "(II)V"⟩, 80) := ⟨⟨by decide +kernel, by decide +kernel⟩, List.mem_of_getElem? (i := 1579) (by decide +kernel), List.mem_of_getElem? (i := 2166) (by decide +kernel), List.mem_of_getElem? (i := 2167) (by decide +kernel)⟩
theorem lw_p142 : lw_okq (⟨"TypeFinderModel", "showWord", "(I)V"⟩, 80) := ⟨⟨by decide +kernel, by decide +kernel⟩, List.mem_of_getElem? (i := 1579) (by decide +kernel), List.mem_of_getElem? (i := 2170) (by decide +kernel), List.mem_of_getElem? (i := 2171) (by decide +kernel)⟩
theorem lw_p143 : lw_okq (⟨"TypeFinderModel", "declareData", "()I"⟩, 80) := ⟨⟨by decide +kernel, by decide +kernel⟩, List.mem_of_getElem? (i := 1579) (by decide +kernel), List.mem_of_getElem? (i := 2178) (by decide +kernel), List.mem_of_getElem? (i := 2179) (by decide +kernel)⟩
def lw_privs_9 : List (MethodName × Nat) := [(⟨"TypeFinderModel", "bind", "(II)V"⟩, 80), (⟨"TypeFinderModel", "generalise", "(II)V"⟩, 80), (⟨"TypeFinderModel", "define", "(I)V"⟩, 80), (⟨"TypeFinderModel", "choose", "(II)V"⟩, 80), (⟨"TypeFinderModel", "endCase", "()V"⟩, 80), (⟨"TypeFinderModel", "allConstructors", "()Z"⟩, 80), (⟨"TypeFinderModel", "all", "(I)Z"⟩, 80), (⟨"TypeFinderModel", "pattern", "(II)V"⟩, 80), (⟨"TypeFinderModel", "variableFor", "(I)I"⟩, 80), (⟨"TypeFinderModel", "needless", "()Z"⟩, 80), (⟨"TypeFinderModel", "write", "(I)V"⟩, 80), (⟨"TypeFinderModel", "later", "(I)V"⟩, 80), (⟨"TypeFinderModel", "show", "(I)V"⟩, 80), (⟨"TypeFinderModel", "writeParts", "(II)V"⟩, 80), (⟨"TypeFinderModel", "showWord", "(I)V"⟩, 80), (⟨"TypeFinderModel", "declareData", "()I"⟩, 80)]
theorem lw_r9 : ∀ q ∈ lw_privs_9, lw_okq q := List.forall_mem_cons.mpr ⟨lw_p128, List.forall_mem_cons.mpr ⟨lw_p129, List.forall_mem_cons.mpr ⟨lw_p130, List.forall_mem_cons.mpr ⟨lw_p131, List.forall_mem_cons.mpr ⟨lw_p132, List.forall_mem_cons.mpr ⟨lw_p133, List.forall_mem_cons.mpr ⟨lw_p134, List.forall_mem_cons.mpr ⟨lw_p135, List.forall_mem_cons.mpr ⟨lw_p136, List.forall_mem_cons.mpr ⟨lw_p137, List.forall_mem_cons.mpr ⟨lw_p138, List.forall_mem_cons.mpr ⟨lw_p139, List.forall_mem_cons.mpr ⟨lw_p140, List.forall_mem_cons.mpr ⟨lw_p141, List.forall_mem_cons.mpr ⟨lw_p142, List.forall_mem_cons.mpr ⟨lw_p143, fun _ h => absurd h List.not_mem_nil⟩⟩⟩⟩⟩⟩⟩⟩⟩⟩⟩⟩⟩⟩⟩⟩
theorem lw_p144 : lw_okq (⟨"TypeFinderModel", "readData", "()V"⟩, 80) := ⟨⟨by decide +kernel, by decide +kernel⟩, List.mem_of_getElem? (i := 1579) (by decide +kernel), List.mem_of_getElem? (i := 2182) (by decide +kernel), List.mem_of_getElem? (i := 2183) (by decide +kernel)⟩
theorem lw_p145 : lw_okq (⟨"TypeFinderModel", "typeAtom", "(I)Z"⟩, 80) := ⟨⟨by decide +kernel, by decide +kernel⟩, List.mem_of_getElem? (i := 1579) (by decide +kernel), List.mem_of_getElem? (i := 2186) (by decide +kernel), List.mem_of_getElem? (i := 2187) (by decide +kernel)⟩
theorem lw_p146 : lw_okq (⟨"TypeFinderModel", "readAtom", "()V"⟩, 80) := ⟨⟨by decide +kernel, by decide +kernel⟩, List.mem_of_getElem? (i := 1579) (by decide +kernel), List.mem_of_getElem? (i := 2190) (by decide +kernel), List.mem_of_getElem? (i := 2191) (by decide +kernel)⟩
theorem lw_p147 : lw_okq (⟨"TypeFinderModel", "beginAtom", "()V"⟩, 80) := ⟨⟨by decide +kernel, by decide +kernel⟩, List.mem_of_getElem? (i := 1579) (by decide +kernel), List.mem_of_getElem? (i := 2194) (by decide +kernel), List.mem_of_getElem? (i := 2195) (by decide +kernel)⟩
theorem lw_p148 : lw_okq (⟨"TypeFinderModel", "openType", "(II)V"⟩, 80) := ⟨⟨by decide +kernel, by decide +kernel⟩, List.mem_of_getElem? (i := 1579) (by decide +kernel), List.mem_of_getElem? (i := 2198) (by decide +kernel), List.mem_of_getElem? (i := 2199) (by decide +kernel)⟩
theorem lw_p149 : lw_okq (⟨"TypeFinderModel", "addPiece", "(III)V"⟩, 80) := ⟨⟨by decide +kernel, by decide +kernel⟩, List.mem_of_getElem? (i := 1579) (by decide +kernel), List.mem_of_getElem? (i := 2202) (by decide +kernel), List.mem_of_getElem? (i := 2203) (by decide +kernel)⟩
theorem lw_p150 : lw_okq (⟨"TypeFinderModel", "beginType", "()V"⟩, 80) := ⟨⟨by decide +kernel, by decide +kernel⟩, List.mem_of_getElem? (i := 1579) (by decide +kernel), List.mem_of_getElem? (i := 2206) (by decide +kernel), List.mem_of_getElem? (i := 2207) (by decide +kernel)⟩
theorem lw_p151 : lw_okq (⟨"TypeFinderModel", "typeGoesOn", "()V"⟩, 80) := ⟨⟨by decide +kernel, by decide +kernel⟩, List.mem_of_getElem? (i := 1579) (by decide +kernel), List.mem_of_getElem? (i := 2210) (by decide +kernel), List.mem_of_getElem? (i := 2211) (by decide +kernel)⟩
theorem lw_p152 : lw_okq (⟨"TypeFinderModel", "settle", "(I)V"⟩, 80) := ⟨⟨by decide +kernel, by decide +kernel⟩, List.mem_of_getElem? (i := 1579) (by decide +kernel), List.mem_of_getElem? (i := 2214) (by decide +kernel), List.mem_of_getElem? (i := 2215) (by decide +kernel)⟩
theorem lw_p153 : lw_okq (⟨"TypeFinderModel", "dataOf", "(II)I"⟩, 80) := ⟨⟨by decide +kernel, by decide +kernel⟩, List.mem_of_getElem? (i := 1579) (by decide +kernel), List.mem_of_getElem? (i := 2218) (by decide +kernel), List.mem_of_getElem? (i := 2219) (by decide +kernel)⟩
theorem lw_p154 : lw_okq (⟨"TypeFinderModel", "comparable", "(I)Z"⟩, 80) := ⟨⟨by decide +kernel, by decide +kernel⟩, List.mem_of_getElem? (i := 1579) (by decide +kernel), List.mem_of_getElem? (i := 2222) (by decide +kernel), List.mem_of_getElem? (i := 2223) (by decide +kernel)⟩
theorem lw_p155 : lw_okq (⟨"TypeFinderModel", "addConstructor", "(I)V"⟩, 80) := ⟨⟨by decide +kernel, by decide +kernel⟩, List.mem_of_getElem? (i := 1579) (by decide +kernel), List.mem_of_getElem? (i := 2226) (by decide +kernel), List.mem_of_getElem? (i := 2227) (by decide +kernel)⟩
theorem lw_p156 : lw_okq (⟨"TypeFinderModel", "keep", "(IZI)I"⟩, 80) := ⟨⟨by decide +kernel, by decide +kernel⟩, List.mem_of_getElem? (i := 1579) (by decide +kernel), List.mem_of_getElem? (i := 2230) (by decide +kernel), List.mem_of_getElem? (i := 2231) (by decide +kernel)⟩
theorem lw_p157 : lw_okq (⟨"TypeFinderModel", "heading", "()I"⟩, 80) := ⟨⟨by decide +kernel, by decide +kernel⟩, List.mem_of_getElem? (i := 1579) (by decide +kernel), List.mem_of_getElem? (i := 2234) (by decide +kernel), List.mem_of_getElem? (i := 2235) (by decide +kernel)⟩
theorem lw_p158 : lw_okq (⟨"TypeFinderModel", "unsettled", "(I)Z"⟩, 80) := ⟨⟨by decide +kernel, by decide +kernel⟩, List.mem_of_getElem? (i := 1579) (by decide +kernel), List.mem_of_getElem? (i := 2238) (by decide +kernel), List.mem_of_getElem? (i := 2239) (by decide +kernel)⟩
def lw_privs_10 : List (MethodName × Nat) := [(⟨"TypeFinderModel", "readData", "()V"⟩, 80), (⟨"TypeFinderModel", "typeAtom", "(I)Z"⟩, 80), (⟨"TypeFinderModel", "readAtom", "()V"⟩, 80), (⟨"TypeFinderModel", "beginAtom", "()V"⟩, 80), (⟨"TypeFinderModel", "openType", "(II)V"⟩, 80), (⟨"TypeFinderModel", "addPiece", "(III)V"⟩, 80), (⟨"TypeFinderModel", "beginType", "()V"⟩, 80), (⟨"TypeFinderModel", "typeGoesOn", "()V"⟩, 80), (⟨"TypeFinderModel", "settle", "(I)V"⟩, 80), (⟨"TypeFinderModel", "dataOf", "(II)I"⟩, 80), (⟨"TypeFinderModel", "comparable", "(I)Z"⟩, 80), (⟨"TypeFinderModel", "addConstructor", "(I)V"⟩, 80), (⟨"TypeFinderModel", "keep", "(IZI)I"⟩, 80), (⟨"TypeFinderModel", "heading", "()I"⟩, 80), (⟨"TypeFinderModel", "unsettled", "(I)Z"⟩, 80)]
theorem lw_r10 : ∀ q ∈ lw_privs_10, lw_okq q := List.forall_mem_cons.mpr ⟨lw_p144, List.forall_mem_cons.mpr ⟨lw_p145, List.forall_mem_cons.mpr ⟨lw_p146, List.forall_mem_cons.mpr ⟨lw_p147, List.forall_mem_cons.mpr ⟨lw_p148, List.forall_mem_cons.mpr ⟨lw_p149, List.forall_mem_cons.mpr ⟨lw_p150, List.forall_mem_cons.mpr ⟨lw_p151, List.forall_mem_cons.mpr ⟨lw_p152, List.forall_mem_cons.mpr ⟨lw_p153, List.forall_mem_cons.mpr ⟨lw_p154, List.forall_mem_cons.mpr ⟨lw_p155, List.forall_mem_cons.mpr ⟨lw_p156, List.forall_mem_cons.mpr ⟨lw_p157, List.forall_mem_cons.mpr ⟨lw_p158, fun _ h => absurd h List.not_mem_nil⟩⟩⟩⟩⟩⟩⟩⟩⟩⟩⟩⟩⟩⟩⟩
def lw_privs : List (MethodName × Nat) := lw_privs_1 ++ (lw_privs_2 ++ (lw_privs_3 ++ (lw_privs_4 ++ (lw_privs_5 ++ (lw_privs_6 ++ (lw_privs_7 ++ (lw_privs_8 ++ (lw_privs_9 ++ (lw_privs_10)))))))))
def lw_tbl : List Cond := k2_sels lw_privs ++ tables_1
theorem lw_privs_ok : ∀ q ∈ lw_privs, lw_okq q := by
  show ∀ q ∈ lw_privs_1 ++ (lw_privs_2 ++ (lw_privs_3 ++ (lw_privs_4 ++ (lw_privs_5 ++ (lw_privs_6 ++ (lw_privs_7 ++ (lw_privs_8 ++ (lw_privs_9 ++ (lw_privs_10))))))))), lw_okq q
  exact List.forall_mem_append.mpr ⟨lw_r1, List.forall_mem_append.mpr ⟨lw_r2, List.forall_mem_append.mpr ⟨lw_r3, List.forall_mem_append.mpr ⟨lw_r4, List.forall_mem_append.mpr ⟨lw_r5, List.forall_mem_append.mpr ⟨lw_r6, List.forall_mem_append.mpr ⟨lw_r7, List.forall_mem_append.mpr ⟨lw_r8, List.forall_mem_append.mpr ⟨lw_r9, lw_r10⟩⟩⟩⟩⟩⟩⟩⟩⟩
end
section
def R_0 : String := "TypeFinder"
def F_0 : u_T := fun k => match k with
  | 0 => ("TypeFinder", "draft", "[C", true)
  | 1 => ("TypeFinder", "parser", "LTypeFinder$Parser;", true)
  | 2 => ("TypeFinder", "known", "LTypeFinder$Known;", true)
  | 3 => ("TypeFinder", "checker", "LTypeFinder$Checker;", true)
  | 4 => ("TypeFinder", "writer", "LTypeFinder$Writer;", true)
  | 5 => ("TypeFinder", "length", "I", false)
  | 6 => ("TypeFinder", "refusals", "I", false)
  | 7 => ("TypeFinder", "openCases", "I", false)
  | _ => ("TypeFinder", "idleAlternatives", "I", false)
def t_0 : Nat → FieldType := fun k => match k with
  | 0 => .array .char
  | 1 => .object "TypeFinder$Parser"
  | 2 => .object "TypeFinder$Known"
  | 3 => .object "TypeFinder$Checker"
  | 4 => .object "TypeFinder$Writer"
  | 5 => .int
  | 6 => .int
  | 7 => .int
  | _ => .int
def R_1 : String := "TypeFinder$Parser"
def F_1 : u_T := fun k => match k with
  | 0 => ("TypeFinder$Parser", "tokens", "LTypeFinder$Tokens;", true)
  | 1 => ("TypeFinder$Parser", "dataParser", "LTypeFinder$DataParser;", true)
  | 2 => ("TypeFinder$Parser", "levels", "[I", true)
  | _ => ("TypeFinder$Parser", "rights", "[Z", true)
def t_1 : Nat → FieldType := fun k => match k with
  | 0 => .object "TypeFinder$Tokens"
  | 1 => .object "TypeFinder$DataParser"
  | 2 => .array .int
  | _ => .array .boolean
def R_2 : String := "TypeFinder$Tokens"
def F_2 : u_T := fun k => match k with
  | 0 => ("TypeFinder$Tokens", "kinds", "[I", true)
  | 1 => ("TypeFinder$Tokens", "values", "[J", true)
  | 2 => ("TypeFinder$Tokens", "keywords", "[J", true)
  | 3 => ("TypeFinder$Tokens", "size", "I", false)
  | _ => ("TypeFinder$Tokens", "at", "I", false)
def t_2 : Nat → FieldType := fun k => match k with
  | 0 => .array .int
  | 1 => .array .long
  | 2 => .array .long
  | 3 => .int
  | _ => .int
def R_3 : String := "TypeFinder$DataParser"
def F_3 : u_T := fun k => match k with
  | _ => ("TypeFinder$DataParser", "tokens", "LTypeFinder$Tokens;", true)
def t_3 : Nat → FieldType := fun k => match k with
  | _ => .object "TypeFinder$Tokens"
def R_4 : String := "TypeFinder$Known"
def F_4 : u_T := fun k => match k with
  | 0 => ("TypeFinder$Known", "integer", "LTypeFinder$Type;", true)
  | 1 => ("TypeFinder$Known", "truth", "LTypeFinder$Type;", true)
  | 2 => ("TypeFinder$Known", "dataTypes", "Ljava/util/ArrayList;", true)
  | 3 => ("TypeFinder$Known", "names", "Ljava/util/ArrayList;", true)
  | _ => ("TypeFinder$Known", "firstNames", "I", true)
def t_4 : Nat → FieldType := fun k => match k with
  | 0 => .object "TypeFinder$Type"
  | 1 => .object "TypeFinder$Type"
  | 2 => .object "java/util/ArrayList"
  | 3 => .object "java/util/ArrayList"
  | _ => .int
def R_5 : String := "TypeFinder$Type"
def F_5 : u_T := fun k => match k with
  | 0 => ("TypeFinder$Type", "kind", "I", false)
  | 1 => ("TypeFinder$Type", "comparable", "Z", false)
  | 2 => ("TypeFinder$Type", "data", "LTypeFinder$DataType;", true)
  | 3 => ("TypeFinder$Type", "left", "LTypeFinder$Type;", true)
  | 4 => ("TypeFinder$Type", "right", "LTypeFinder$Type;", true)
  | 5 => ("TypeFinder$Type", "link", "LTypeFinder$Type;", false)
  | 6 => ("TypeFinder$Type", "twin", "LTypeFinder$Type;", false)
  | _ => ("TypeFinder$Type", "mark", "I", false)
def t_5 : Nat → FieldType := fun k => match k with
  | 0 => .int
  | 1 => .boolean
  | 2 => .object "TypeFinder$DataType"
  | 3 => .object "TypeFinder$Type"
  | 4 => .object "TypeFinder$Type"
  | 5 => .object "TypeFinder$Type"
  | 6 => .object "TypeFinder$Type"
  | _ => .int
def R_6 : String := "TypeFinder$DataType"
def F_6 : u_T := fun k => match k with
  | 0 => ("TypeFinder$DataType", "word", "J", true)
  | 1 => ("TypeFinder$DataType", "parameters", "I", true)
  | 2 => ("TypeFinder$DataType", "constructors", "Ljava/util/ArrayList;", true)
  | 3 => ("TypeFinder$DataType", "whole", "LTypeFinder$Type;", false)
  | _ => ("TypeFinder$DataType", "allows", "Z", false)
def t_6 : Nat → FieldType := fun k => match k with
  | 0 => .long
  | 1 => .int
  | 2 => .object "java/util/ArrayList"
  | 3 => .object "TypeFinder$Type"
  | _ => .boolean
def R_7 : String := "TypeFinder$Name"
def F_7 : u_T := fun k => match k with
  | 0 => ("TypeFinder$Name", "word", "J", true)
  | 1 => ("TypeFinder$Name", "type", "LTypeFinder$Type;", true)
  | _ => ("TypeFinder$Name", "general", "Z", true)
def t_7 : Nat → FieldType := fun k => match k with
  | 0 => .long
  | 1 => .object "TypeFinder$Type"
  | _ => .boolean
def R_8 : String := "TypeFinder$Checker"
def F_8 : u_T := fun k => match k with
  | 0 => ("TypeFinder$Checker", "known", "LTypeFinder$Known;", true)
  | 1 => ("TypeFinder$Checker", "unifier", "LTypeFinder$Unifier;", true)
  | 2 => ("TypeFinder$Checker", "scope", "Ljava/util/ArrayList;", true)
  | 3 => ("TypeFinder$Checker", "operands", "Ljava/util/ArrayList;", true)
  | 4 => ("TypeFinder$Checker", "openCases", "I", false)
  | _ => ("TypeFinder$Checker", "idleAlternatives", "I", false)
def t_8 : Nat → FieldType := fun k => match k with
  | 0 => .object "TypeFinder$Known"
  | 1 => .object "TypeFinder$Unifier"
  | 2 => .object "java/util/ArrayList"
  | 3 => .object "java/util/ArrayList"
  | 4 => .int
  | _ => .int
def R_9 : String := "TypeFinder$Unifier"
def F_9 : u_T := fun k => match k with
  | 0 => ("TypeFinder$Unifier", "todo", "Ljava/util/ArrayList;", true)
  | 1 => ("TypeFinder$Unifier", "open", "Ljava/util/ArrayList;", true)
  | 2 => ("TypeFinder$Unifier", "walk", "Ljava/util/ArrayList;", true)
  | _ => ("TypeFinder$Unifier", "walks", "I", false)
def t_9 : Nat → FieldType := fun k => match k with
  | 0 => .object "java/util/ArrayList"
  | 1 => .object "java/util/ArrayList"
  | 2 => .object "java/util/ArrayList"
  | _ => .int
def R_10 : String := "TypeFinder$Writer"
def F_10 : u_T := fun k => match k with
  | 0 => ("TypeFinder$Writer", "text", "Ljava/lang/StringBuilder;", true)
  | _ => ("TypeFinder$Writer", "variables", "Ljava/util/ArrayList;", true)
def t_10 : Nat → FieldType := fun k => match k with
  | 0 => .object "java/lang/StringBuilder"
  | _ => .object "java/util/ArrayList"
def R_11 : String := "java/util/ArrayList"
def F_11 : u_T := fun k => match k with
  | 0 => ("java/util/AbstractList", "modCount", "I", false)
  | 1 => ("java/util/ArrayList", "elementData", "[Ljava/lang/Object;", false)
  | _ => ("java/util/ArrayList", "size", "I", false)
def t_11 : Nat → FieldType := fun k => match k with
  | 0 => .int
  | 1 => .array (.object "java/lang/Object")
  | _ => .int
def R_12 : String := "java/lang/StringBuilder"
def F_12 : u_T := fun k => match k with
  | 0 => ("java/lang/AbstractStringBuilder", "value", "[B", false)
  | 1 => ("java/lang/AbstractStringBuilder", "coder", "B", false)
  | 2 => ("java/lang/AbstractStringBuilder", "maybeLatin1", "Z", false)
  | _ => ("java/lang/AbstractStringBuilder", "count", "I", false)
def t_12 : Nat → FieldType := fun k => match k with
  | 0 => .array .byte
  | 1 => .byte
  | 2 => .boolean
  | _ => .int
def R_13 : String := "java/lang/String"
def F_13 : u_T := fun k => match k with
  | 0 => ("java/lang/String", "value", "[B", true)
  | 1 => ("java/lang/String", "coder", "B", true)
  | 2 => ("java/lang/String", "hash", "I", false)
  | _ => ("java/lang/String", "hashIsZero", "Z", false)
def t_13 : Nat → FieldType := fun k => match k with
  | 0 => .array .byte
  | 1 => .byte
  | 2 => .int
  | _ => .boolean
def R_14 : String := "TypeFinderModel"
def F_14 : u_T := fun k => match k with
  | 0 => ("TypeFinderModel", "code", "I", false)
  | 1 => ("TypeFinderModel", "failures", "I", false)
  | 2 => ("TypeFinderModel", "drafted", "I", false)
  | 3 => ("TypeFinderModel", "draft", "[I", true)
  | 4 => ("TypeFinderModel", "signs", "I", false)
  | 5 => ("TypeFinderModel", "sign", "[I", true)
  | 6 => ("TypeFinderModel", "worth", "[I", true)
  | 7 => ("TypeFinderModel", "level", "[I", true)
  | 8 => ("TypeFinderModel", "rightly", "[Z", true)
  | 9 => ("TypeFinderModel", "names", "I", false)
  | 10 => ("TypeFinderModel", "nameOf", "[I", true)
  | 11 => ("TypeFinderModel", "rowSize", "[I", true)
  | 12 => ("TypeFinderModel", "rows", "[I", true)
  | 13 => ("TypeFinderModel", "datas", "I", false)
  | 14 => ("TypeFinderModel", "dataWord", "[I", true)
  | 15 => ("TypeFinderModel", "parameters", "[I", true)
  | 16 => ("TypeFinderModel", "alternatives", "[I", true)
  | 17 => ("TypeFinderModel", "allows", "[Z", true)
  | 18 => ("TypeFinderModel", "constructors", "I", false)
  | 19 => ("TypeFinderModel", "constructorWord", "[I", true)
  | 20 => ("TypeFinderModel", "constructorData", "[I", true)
  | 21 => ("TypeFinderModel", "constructorParts", "[I", true)
  | 22 => ("TypeFinderModel", "constructorSize", "[I", true)
  | 23 => ("TypeFinderModel", "constructorRow", "[I", true)
  | 24 => ("TypeFinderModel", "at", "I", false)
  | 25 => ("TypeFinderModel", "bad", "Z", false)
  | 26 => ("TypeFinderModel", "steps", "I", false)
  | 27 => ("TypeFinderModel", "step", "[I", true)
  | 28 => ("TypeFinderModel", "one", "[I", true)
  | 29 => ("TypeFinderModel", "two", "[I", true)
  | 30 => ("TypeFinderModel", "opened", "I", false)
  | 31 => ("TypeFinderModel", "open", "[I", true)
  | 32 => ("TypeFinderModel", "deep", "[I", true)
  | 33 => ("TypeFinderModel", "first", "[I", true)
  | 34 => ("TypeFinderModel", "second", "[I", true)
  | 35 => ("TypeFinderModel", "third", "[I", true)
  | 36 => ("TypeFinderModel", "flags", "[I", true)
  | 37 => ("TypeFinderModel", "depth", "I", false)
  | 38 => ("TypeFinderModel", "flag", "I", false)
  | 39 => ("TypeFinderModel", "state", "I", false)
  | 40 => ("TypeFinderModel", "waiting", "I", false)
  | 41 => ("TypeFinderModel", "waits", "[I", true)
  | 42 => ("TypeFinderModel", "types", "I", false)
  | 43 => ("TypeFinderModel", "kind", "[I", true)
  | 44 => ("TypeFinderModel", "left", "[I", true)
  | 45 => ("TypeFinderModel", "right", "[I", true)
  | 46 => ("TypeFinderModel", "seen", "[I", true)
  | 47 => ("TypeFinderModel", "copied", "[I", true)
  | 48 => ("TypeFinderModel", "stamp", "I", false)
  | 49 => ("TypeFinderModel", "pile", "I", false)
  | 50 => ("TypeFinderModel", "piled", "[I", true)
  | 51 => ("TypeFinderModel", "also", "[I", true)
  | 52 => ("TypeFinderModel", "held", "I", false)
  | 53 => ("TypeFinderModel", "hold", "[I", true)
  | 54 => ("TypeFinderModel", "bound", "I", false)
  | 55 => ("TypeFinderModel", "boundWord", "[I", true)
  | 56 => ("TypeFinderModel", "boundType", "[I", true)
  | 57 => ("TypeFinderModel", "cases", "I", false)
  | 58 => ("TypeFinderModel", "found", "[I", true)
  | 59 => ("TypeFinderModel", "firstPattern", "[I", true)
  | 60 => ("TypeFinderModel", "patterns", "I", false)
  | 61 => ("TypeFinderModel", "patternKind", "[I", true)
  | 62 => ("TypeFinderModel", "patternOf", "[I", true)
  | 63 => ("TypeFinderModel", "failed", "I", false)
  | 64 => ("TypeFinderModel", "idle", "I", false)
  | 65 => ("TypeFinderModel", "holes", "I", false)
  | 66 => ("TypeFinderModel", "matched", "[I", true)
  | 67 => ("TypeFinderModel", "shown", "I", false)
  | 68 => ("TypeFinderModel", "text", "[I", true)
  | 69 => ("TypeFinderModel", "defined", "I", false)
  | 70 => ("TypeFinderModel", "self", "I", false)
  | 71 => ("TypeFinderModel", "selfParameters", "I", false)
  | 72 => ("TypeFinderModel", "pieces", "I", false)
  | 73 => ("TypeFinderModel", "piece", "[I", true)
  | 74 => ("TypeFinderModel", "pieceWord", "[I", true)
  | 75 => ("TypeFinderModel", "pieceParts", "[I", true)
  | 76 => ("TypeFinderModel", "parameterWord", "[I", true)
  | 77 => ("TypeFinderModel", "choices", "I", false)
  | 78 => ("TypeFinderModel", "choiceWord", "[I", true)
  | _ => ("TypeFinderModel", "choiceParts", "[I", true)
def t_14 : Nat → FieldType := fun k => match k with
  | 0 => .int
  | 1 => .int
  | 2 => .int
  | 3 => .array .int
  | 4 => .int
  | 5 => .array .int
  | 6 => .array .int
  | 7 => .array .int
  | 8 => .array .boolean
  | 9 => .int
  | 10 => .array .int
  | 11 => .array .int
  | 12 => .array .int
  | 13 => .int
  | 14 => .array .int
  | 15 => .array .int
  | 16 => .array .int
  | 17 => .array .boolean
  | 18 => .int
  | 19 => .array .int
  | 20 => .array .int
  | 21 => .array .int
  | 22 => .array .int
  | 23 => .array .int
  | 24 => .int
  | 25 => .boolean
  | 26 => .int
  | 27 => .array .int
  | 28 => .array .int
  | 29 => .array .int
  | 30 => .int
  | 31 => .array .int
  | 32 => .array .int
  | 33 => .array .int
  | 34 => .array .int
  | 35 => .array .int
  | 36 => .array .int
  | 37 => .int
  | 38 => .int
  | 39 => .int
  | 40 => .int
  | 41 => .array .int
  | 42 => .int
  | 43 => .array .int
  | 44 => .array .int
  | 45 => .array .int
  | 46 => .array .int
  | 47 => .array .int
  | 48 => .int
  | 49 => .int
  | 50 => .array .int
  | 51 => .array .int
  | 52 => .int
  | 53 => .array .int
  | 54 => .int
  | 55 => .array .int
  | 56 => .array .int
  | 57 => .int
  | 58 => .array .int
  | 59 => .array .int
  | 60 => .int
  | 61 => .array .int
  | 62 => .array .int
  | 63 => .int
  | 64 => .int
  | 65 => .int
  | 66 => .array .int
  | 67 => .int
  | 68 => .array .int
  | 69 => .int
  | 70 => .int
  | 71 => .int
  | 72 => .int
  | 73 => .array .int
  | 74 => .array .int
  | 75 => .array .int
  | 76 => .array .int
  | 77 => .int
  | 78 => .array .int
  | _ => .array .int
abbrev xb_cl : List vw_C := [(R_0, F_0, 9), (R_1, F_1, 4), (R_2, F_2, 5), (R_3, F_3, 1), (R_4, F_4, 5), (R_5, F_5, 8), (R_6, F_6, 5), (R_7, F_7, 3), (R_8, F_8, 6), (R_9, F_9, 4), (R_10, F_10, 2), (R_11, F_11, 3), (R_12, F_12, 4), (R_13, F_13, 4), (R_14, F_14, 80)]
abbrev xb_iS : Nat := 13
def xb_sN : Nat := 6
def xb_sL : List Nat := [40, 4, 4, 5, 4, 3]
def xb_sB : List (List Int32) := [[102, 110, 32, 108, 101, 116, 32, 105, 110, 32, 105, 102, 32, 116, 104, 101, 110, 32, 101, 108, 115, 101, 32, 99, 97, 115, 101, 32, 111, 102, 32, 100, 97, 116, 97, 32, 105, 110, 116, 32], [98, 111, 111, 108], [84, 114, 117, 101], [70, 97, 108, 115, 101], [108, 105, 115, 116], [78, 105, 108]]
def xb_sR : List (String × Nat × String × Nat) := [("TypeFinder$Known", 30, "bool", 1), ("TypeFinder$Known", 55, "True", 2), ("TypeFinder$Known", 64, "False", 3), ("TypeFinder$Known", 66, "list", 4), ("TypeFinder$Known", 77, "Nil", 5), ("TypeFinder$Tokens", 22, "fn let in if then else case of data int ", 0)]
def xb_cs : List (String × String) := [("TypeFinder$Name", "java/lang/Object"), ("TypeFinder$DataType", "java/lang/Object")]
abbrev b_String_coder : ByteArray := prog_28_method_152_code
def y_String_coder : MethodName := ⟨"java/lang/String", "coder", "()B"⟩
abbrev b_String_isLatin1 : ByteArray := prog_28_method_154_code
def y_String_isLatin1 : MethodName := ⟨"java/lang/String", "isLatin1", "()Z"⟩
abbrev b_String_length : ByteArray := prog_28_method_54_code
def y_String_length : MethodName := ⟨"java/lang/String", "length", "()I"⟩
abbrev b_Preconditions_checkIndex : ByteArray := prog_46_method_11_code
def y_Preconditions_checkIndex : MethodName := ⟨"jdk/internal/util/Preconditions", "checkIndex", "(IILjava/util/function/BiFunction;)I"⟩
abbrev b_String_checkIndex : ByteArray := prog_28_method_155_code
def y_String_checkIndex : MethodName := ⟨"java/lang/String", "checkIndex", "(II)V"⟩
abbrev b_StringLatin1_charAt : ByteArray := prog_31_method_2_code
def y_StringLatin1_charAt : MethodName := ⟨"java/lang/StringLatin1", "charAt", "([BI)C"⟩
abbrev b_String_charAt : ByteArray := prog_28_method_56_code
def y_String_charAt : MethodName := ⟨"java/lang/String", "charAt", "(I)C"⟩
abbrev b_AbstractCollection_init : ByteArray := prog_36_method_1_code
def y_AbstractCollection_init : MethodName := ⟨"java/util/AbstractCollection", "<init>", "()V"⟩
abbrev b_AbstractList_init : ByteArray := prog_37_method_1_code
def y_AbstractList_init : MethodName := ⟨"java/util/AbstractList", "<init>", "()V"⟩
abbrev b_ArrayList_init : ByteArray := prog_38_method_2_code
def y_ArrayList_init : MethodName := ⟨"java/util/ArrayList", "<init>", "()V"⟩
abbrev b_ArrayList_grow : ByteArray := prog_38_method_6_code
def y_ArrayList_grow : MethodName := ⟨"java/util/ArrayList", "grow", "(I)[Ljava/lang/Object;"⟩
abbrev b_ArrayList_grow2 : ByteArray := prog_38_method_7_code
def y_ArrayList_grow2 : MethodName := ⟨"java/util/ArrayList", "grow", "()[Ljava/lang/Object;"⟩
abbrev b_ArrayList_add : ByteArray := prog_38_method_24_code
def y_ArrayList_add : MethodName := ⟨"java/util/ArrayList", "add", "(Ljava/lang/Object;[Ljava/lang/Object;I)V"⟩
abbrev b_ArrayList_add2 : ByteArray := prog_38_method_25_code
def y_ArrayList_add2 : MethodName := ⟨"java/util/ArrayList", "add", "(Ljava/lang/Object;)Z"⟩
abbrev b_AbstractStringBuilder_init : ByteArray := prog_16_method_2_code
def y_AbstractStringBuilder_init : MethodName := ⟨"java/lang/AbstractStringBuilder", "<init>", "(I)V"⟩
abbrev b_StringBuilder_init : ByteArray := prog_29_method_1_code
def y_StringBuilder_init : MethodName := ⟨"java/lang/StringBuilder", "<init>", "()V"⟩
abbrev b_TypeFinder_Type_init : ByteArray := prog_10_method_2_code
def y_TypeFinder_Type_init : MethodName := ⟨"TypeFinder$Type", "<init>", "(ILTypeFinder$DataType;LTypeFinder$Type;LTypeFinder$Type;)V"⟩
abbrev b_TypeFinder_Name_init : ByteArray := prog_6_method_1_code
def y_TypeFinder_Name_init : MethodName := ⟨"TypeFinder$Name", "<init>", "(JLTypeFinder$Type;Z)V"⟩
abbrev b_TypeFinder_Unifier_function : ByteArray := prog_11_method_2_code
def y_TypeFinder_Unifier_function : MethodName := ⟨"TypeFinder$Unifier", "function", "(LTypeFinder$Type;LTypeFinder$Type;)LTypeFinder$Type;"⟩
abbrev b_TypeFinder_DataType_init : ByteArray := prog_4_method_1_code
def y_TypeFinder_DataType_init : MethodName := ⟨"TypeFinder$DataType", "<init>", "(JI)V"⟩
abbrev b_TypeFinder_DataType_made : ByteArray := prog_4_method_2_code
def y_TypeFinder_DataType_made : MethodName := ⟨"TypeFinder$DataType", "made", "(JI)LTypeFinder$DataType;"⟩
abbrev b_TypeFinder_Unifier_init : ByteArray := prog_11_method_1_code
def y_TypeFinder_Unifier_init : MethodName := ⟨"TypeFinder$Unifier", "<init>", "()V"⟩
abbrev b_TypeFinder_Checker_init : ByteArray := prog_2_method_1_code
def y_TypeFinder_Checker_init : MethodName := ⟨"TypeFinder$Checker", "<init>", "(LTypeFinder$Known;)V"⟩
abbrev b_TypeFinder_Writer_init : ByteArray := prog_12_method_1_code
def y_TypeFinder_Writer_init : MethodName := ⟨"TypeFinder$Writer", "<init>", "()V"⟩
abbrev b_TypeFinder_DataParser_init : ByteArray := prog_3_method_1_code
def y_TypeFinder_DataParser_init : MethodName := ⟨"TypeFinder$DataParser", "<init>", "(LTypeFinder$Tokens;)V"⟩
abbrev b_TypeFinder_Tokens_packed : ByteArray := prog_9_method_2_code
def y_TypeFinder_Tokens_packed : MethodName := ⟨"TypeFinder$Tokens", "packed", "(Ljava/lang/String;)J"⟩
abbrev b_ArrayList_size : ByteArray := prog_38_method_8_code
def y_ArrayList_size : MethodName := ⟨"java/util/ArrayList", "size", "()I"⟩
abbrev b_TypeFinder_Known_init : ByteArray := prog_5_method_1_code
def y_TypeFinder_Known_init : MethodName := ⟨"TypeFinder$Known", "<init>", "()V"⟩
abbrev b_TypeFinder_Tokens_init : ByteArray := prog_9_method_1_code
def y_TypeFinder_Tokens_init : MethodName := ⟨"TypeFinder$Tokens", "<init>", "()V"⟩
abbrev b_TypeFinder_Parser_init : ByteArray := prog_8_method_1_code
def y_TypeFinder_Parser_init : MethodName := ⟨"TypeFinder$Parser", "<init>", "()V"⟩
abbrev b_TypeFinder_init : ByteArray := prog_1_method_1_code
def y_TypeFinder_init : MethodName := ⟨"TypeFinder", "<init>", "()V"⟩
abbrev b_TypeFinderModel_wordOf : ByteArray := prog_14_method_3_code
def y_TypeFinderModel_wordOf : MethodName := ⟨"TypeFinderModel", "wordOf", "(J)I"⟩
abbrev b_TypeFinderModel_setName : ByteArray := prog_14_method_2_code
def y_TypeFinderModel_setName : MethodName := ⟨"TypeFinderModel", "setName", "(IIIIII)V"⟩
abbrev b_TypeFinderModel_init : ByteArray := prog_14_method_1_code
def y_TypeFinderModel_init : MethodName := ⟨"TypeFinderModel", "<init>", "()V"⟩
abbrev b_TypeFinder_takeDraft : ByteArray := prog_1_method_11_code
def y_TypeFinder_takeDraft : MethodName := ⟨"TypeFinder", "takeDraft", "()I"⟩
abbrev b_TypeFinder_Tokens_put : ByteArray := prog_9_method_11_code
def y_TypeFinder_Tokens_put : MethodName := ⟨"TypeFinder$Tokens", "put", "(IJ)V"⟩
abbrev b_TypeFinder_Tokens_read : ByteArray := prog_9_method_3_code
def y_TypeFinder_Tokens_read : MethodName := ⟨"TypeFinder$Tokens", "read", "([CI)V"⟩
abbrev b_TypeFinder_Tokens_accept : ByteArray := prog_9_method_16_code
def y_TypeFinder_Tokens_accept : MethodName := ⟨"TypeFinder$Tokens", "accept", "(I)Z"⟩
abbrev b_TypeFinder_Tokens_is : ByteArray := prog_9_method_13_code
def y_TypeFinder_Tokens_is : MethodName := ⟨"TypeFinder$Tokens", "is", "(I)Z"⟩
abbrev b_TypeFinder_Tokens_kindBehind : ByteArray := prog_9_method_14_code
def y_TypeFinder_Tokens_kindBehind : MethodName := ⟨"TypeFinder$Tokens", "kindBehind", "()I"⟩
abbrev b_TypeFinder_Tokens_take : ByteArray := prog_9_method_17_code
def y_TypeFinder_Tokens_take : MethodName := ⟨"TypeFinder$Tokens", "take", "(I)J"⟩
abbrev b_TypeFinder_Parser_definition : ByteArray := prog_8_method_6_code
def y_TypeFinder_Parser_definition : MethodName := ⟨"TypeFinder$Parser", "definition", "(I)LTypeFinder$Node;"⟩
abbrev b_TypeFinder_Parser_declaration : ByteArray := prog_8_method_3_code
def y_TypeFinder_Parser_declaration : MethodName := ⟨"TypeFinder$Parser", "declaration", "([CI)LTypeFinder$Node;"⟩
abbrev b_TypeFinder_Parser_atom : ByteArray := prog_8_method_22_code
def y_TypeFinder_Parser_atom : MethodName := ⟨"TypeFinder$Parser", "atom", "(I)LTypeFinder$Node;"⟩
abbrev b_TypeFinder_Parser_application : ByteArray := prog_8_method_20_code
def y_TypeFinder_Parser_application : MethodName := ⟨"TypeFinder$Parser", "application", "(I)LTypeFinder$Node;"⟩
abbrev b_TypeFinder_Parser_chain : ByteArray := prog_8_method_15_code
def y_TypeFinder_Parser_chain : MethodName := ⟨"TypeFinder$Parser", "chain", "(I)LTypeFinder$Node;"⟩
abbrev b_TypeFinder_Parser_expression : ByteArray := prog_8_method_7_code
def y_TypeFinder_Parser_expression : MethodName := ⟨"TypeFinder$Parser", "expression", "(I)LTypeFinder$Node;"⟩
abbrev b_TypeFinder_Parser_question : ByteArray := prog_8_method_4_code
def y_TypeFinder_Parser_question : MethodName := ⟨"TypeFinder$Parser", "question", "([CI)LTypeFinder$Node;"⟩
abbrev b_TypeFinder_declare : ByteArray := prog_1_method_3_code
def y_TypeFinder_declare : MethodName := ⟨"TypeFinder", "declare", "()I"⟩
abbrev b_TypeFinder_ask : ByteArray := prog_1_method_4_code
def y_TypeFinder_ask : MethodName := ⟨"TypeFinder", "ask", "()I"⟩
abbrev b_Preconditions_checkFromToIndex : ByteArray := prog_46_method_12_code
def y_Preconditions_checkFromToIndex : MethodName := ⟨"jdk/internal/util/Preconditions", "checkFromToIndex", "(IIILjava/util/function/BiFunction;)I"⟩
abbrev b_String_checkBoundsBeginEnd : ByteArray := prog_28_method_158_code
def y_String_checkBoundsBeginEnd : MethodName := ⟨"java/lang/String", "checkBoundsBeginEnd", "(III)V"⟩
abbrev b_Arrays_checkLength : ByteArray := prog_39_method_131_code
def y_Arrays_checkLength : MethodName := ⟨"java/util/Arrays", "checkLength", "(II)V"⟩
abbrev b_Arrays_copyOfRangeByte : ByteArray := prog_39_method_133_code
def y_Arrays_copyOfRangeByte : MethodName := ⟨"java/util/Arrays", "copyOfRangeByte", "([BII)[B"⟩
abbrev b_Arrays_copyOfRange : ByteArray := prog_39_method_132_code
def y_Arrays_copyOfRange : MethodName := ⟨"java/util/Arrays", "copyOfRange", "([BII)[B"⟩
abbrev b_String_init : ByteArray := prog_28_method_151_code
def y_String_init : MethodName := ⟨"java/lang/String", "<init>", "([BB)V"⟩
abbrev b_StringLatin1_newString : ByteArray := prog_31_method_47_code
def y_StringLatin1_newString : MethodName := ⟨"java/lang/StringLatin1", "newString", "([BII)Ljava/lang/String;"⟩
abbrev b_String_substring : ByteArray := prog_28_method_92_code
def y_String_substring : MethodName := ⟨"java/lang/String", "substring", "(II)Ljava/lang/String;"⟩
abbrev b_TypeFinderModel_declare : ByteArray := prog_14_method_82_code
def y_TypeFinderModel_declare : MethodName := ⟨"TypeFinderModel", "declare", "()I"⟩
abbrev b_TypeFinderModel_begin : ByteArray := prog_14_method_79_code
def y_TypeFinderModel_begin : MethodName := ⟨"TypeFinderModel", "begin", "()Z"⟩
abbrev b_TypeFinderModel_split : ByteArray := prog_14_method_15_code
def y_TypeFinderModel_split : MethodName := ⟨"TypeFinderModel", "split", "()V"⟩
abbrev b_TypeFinderModel_put : ByteArray := prog_14_method_10_code
def y_TypeFinderModel_put : MethodName := ⟨"TypeFinderModel", "put", "(II)V"⟩
abbrev b_TypeFinderModel_peek : ByteArray := prog_14_method_17_code
def y_TypeFinderModel_peek : MethodName := ⟨"TypeFinderModel", "peek", "()I"⟩
abbrev b_TypeFinderModel_heading : ByteArray := prog_14_method_81_code
def y_TypeFinderModel_heading : MethodName := ⟨"TypeFinderModel", "heading", "()I"⟩
abbrev b_TypeFinderModel_expect : ByteArray := prog_14_method_18_code
def y_TypeFinderModel_expect : MethodName := ⟨"TypeFinderModel", "expect", "(I)V"⟩
abbrev b_TypeFinderModel_refuse : ByteArray := prog_14_method_78_code
def y_TypeFinderModel_refuse : MethodName := ⟨"TypeFinderModel", "refuse", "(I)I"⟩
abbrev b_TypeFinderModel_ask : ByteArray := prog_14_method_80_code
def y_TypeFinderModel_ask : MethodName := ⟨"TypeFinderModel", "ask", "()I"⟩
abbrev b_TypeFinderModel_expression : ByteArray := prog_14_method_24_code
def y_TypeFinderModel_expression : MethodName := ⟨"TypeFinderModel", "expression", "()V"⟩
abbrev b_TypeFinderModel_beginExpression : ByteArray := prog_14_method_25_code
def y_TypeFinderModel_beginExpression : MethodName := ⟨"TypeFinderModel", "beginExpression", "()V"⟩
abbrev b_TypeFinderModel_enter : ByteArray := prog_14_method_21_code
def y_TypeFinderModel_enter : MethodName := ⟨"TypeFinderModel", "enter", "(III)V"⟩
abbrev b_TypeFinderModel_within : ByteArray := prog_14_method_22_code
def y_TypeFinderModel_within : MethodName := ⟨"TypeFinderModel", "within", "(I)V"⟩
abbrev b_TypeFinderModel_chain : ByteArray := prog_14_method_28_code
def y_TypeFinderModel_chain : MethodName := ⟨"TypeFinderModel", "chain", "()V"⟩
abbrev b_TypeFinderModel_atom : ByteArray := prog_14_method_27_code
def y_TypeFinderModel_atom : MethodName := ⟨"TypeFinderModel", "atom", "(I)Z"⟩
end
section
/-! The base: one list of words for all contracts (xb_g), one environment (xb_EV), one form of contract (xb_CT), calls and reads and writes in this form. -/
def xb_g : List Cond := lw_tbl.filter goodWord
theorem xb_gin : GoodIn xb_g xb_g := fun _ h => ⟨h, good_of_word (List.mem_filter.mp h).2⟩
theorem xb_gof {args : Array Value} {s : State} (h : ∀ w ∈ lw_tbl, w.before args s = true) : ∀ w ∈ xb_g, w.before args s = true := fun w hw => h w (List.mem_filter.mp hw).1
theorem xb_gcode {y : MethodName} {b : ByteArray} {n : Nat} {r : Option FieldType} (h : Cond.code y b n r ∈ xb_g) : GoodIn xb_g (Cond.code y b n r :: xb_g) := fun w hw => by
  rcases List.mem_cons.mp hw with rfl | hw
  · exact xb_gin _ h
  · exact xb_gin _ hw
theorem xb_m (i : Nat) {w : Cond} (h : tables_1[i]? = some w) (hg : goodWord w = true) : w ∈ xb_g := List.mem_filter.mpr ⟨List.mem_append_right _ (List.mem_of_getElem? h), hg⟩
theorem xb_ms {q : MethodName × Nat} (h : q ∈ lw_privs) (hg : goodWord (Cond.selects q.1.cls q.1 q.1) = true) : Cond.selects q.1.cls q.1 q.1 ∈ xb_g := List.mem_filter.mpr ⟨List.mem_append_left _ (List.mem_map.mpr ⟨q, h, rfl⟩), hg⟩
/-- the environment: the tables' numbers; the numbers of the array classes; the empty row of ArrayList; the literals (texts, rows of bytes) -/
abbrev xb_EV : Type := va_G × (Nat → ClassId) × Nat × (Nat → Nat) × (Nat → Nat)
abbrev xb_ty (ca : Nat → ClassId) : List (ClassId × FieldType) := [(ca 0, .int), (ca 1, .long), (ca 2, .boolean), (ca 3, .char), (ca 4, .byte), (ca 5, .object "java/lang/Object")]
abbrev xb_K (G : xb_EV) (U : State) : Prop := va_K G.1 xb_cl (xb_ty G.2.1) U
abbrev xb_P (G : xb_EV) (ws : va_W) (H : Heap) : Prop := va_P G.1 xb_cl ws H
/-- a text at a, its bytes at d: n of them -/
def xb_SB (q : Nat × Nat × Nat × (Nat → Int32)) (A : Nat → Prop) (U : State) (H : Heap) : Prop := va_O "java/lang/String" q.1 A U H ∧ va_OF "java/lang/String" "coder" "B" (.int 0) q.1 A U H ∧ va_OF "java/lang/String" "value" "[B" (.ref q.2.1) q.1 A U H ∧ va_T .byte q.2.1 q.2.2.1 (fun j => .int (q.2.2.2 j)) A U H
def xb_SS (ss : List (Nat × Nat × Nat × (Nat → Int32))) (A : Nat → Prop) (U : State) (H : Heap) : Prop := ∀ q ∈ ss, xb_SB q A U H
/-- what is never written: the two statics, the literals -/
def xb_E (G : xb_EV) (A : Nat → Prop) (U : State) (H : Heap) : Prop := va_Z "java/util/ArrayList" "DEFAULTCAPACITY_EMPTY_ELEMENTDATA" "[Ljava/lang/Object;" (.ref G.2.2.1) A U H ∧ va_T (.object "java/lang/Object") G.2.2.1 0 (fun _ => .null) A U H ∧ va_Z "java/lang/String" "COMPACT_STRINGS" "Z" (.int 1) A U H ∧ vk_S xb_sN xb_sL xb_sB G.2.2.2.1 G.2.2.2.2 A U H ∧ (∀ q ∈ xb_sR, vk_R q.1 q.2.1 q.2.2.1 (G.2.2.2.1 q.2.2.2) U) ∧ (∃ z : Nat, va_Z "jdk/internal/util/Preconditions" "SIOOBE_FORMATTER" "Ljava/util/function/BiFunction;" (.ref z) A U H) ∧ (∀ q ∈ xb_cs, va_Nw (.castable q.1 q.2) U) ∧ va_AO "java/lang/Object" U
theorem xb_E.go {G : xb_EV} {A B : Nat → Prop} {s U : State} {H : Heap} {locs : List Loc} (h : xb_E G A s s.heap) (hS : va_S A s.heap H locs) (hAB : ∀ q, B q → A q) (hU : U.heap = H) (hW : s.WarmedH U.vm) : xb_E G B U U.heap := by
  obtain ⟨h1, h2, h3, h4, h5, ⟨z, h6⟩, h7, h8⟩ := h
  rw [hU]
  exact ⟨((h1.kept (fun a x y => hS.2.1 a x y)).narrow hAB).moved hW.alike, ((h2.kept (fun a x y => hS.2.1 a x y)).narrow hAB).moved hW.alike, ((h3.kept (fun a x y => hS.2.1 a x y)).narrow hAB).moved hW.alike, ((h4.kept (fun a x y => hS.2.1 a x y)).narrow hAB).moved hW.alike, fun q hq => (h5 q hq).warm hW, ⟨z, ((h6.kept (fun a x y => hS.2.1 a x y)).narrow hAB).moved hW.alike⟩, fun q hq => va_Nw.warmC hW (h7 q hq), h8.moved hW.alike⟩
theorem xb_SB.go {q : Nat × Nat × Nat × (Nat → Int32)} {A B : Nat → Prop} {s U : State} {H : Heap} {locs : List Loc} (h : xb_SB q A s s.heap) (hS : va_S A s.heap H locs) (hAB : ∀ q, B q → A q) (hU : U.heap = H) (hW : s.WarmedH U.vm) : xb_SB q B U U.heap := by
  obtain ⟨h1, h2, h3, h4⟩ := h
  rw [hU]
  exact ⟨((h1.kept (fun a x y => hS.2.1 a x y)).narrow hAB).moved hW.alike, ((h2.kept (fun a x y => hS.2.1 a x y)).narrow hAB).moved hW.alike, ((h3.kept (fun a x y => hS.2.1 a x y)).narrow hAB).moved hW.alike, ((h4.kept (fun a x y => hS.2.1 a x y)).narrow hAB).moved hW.alike⟩
theorem xb_SS.go {ss ss' : List (Nat × Nat × Nat × (Nat → Int32))} {A B : Nat → Prop} {s U : State} {H : Heap} {locs : List Loc} (h : xb_SS ss A s s.heap) (hin : ∀ q ∈ ss', q ∈ ss) (hS : va_S A s.heap H locs) (hAB : ∀ q, B q → A q) (hU : U.heap = H) (hW : s.WarmedH U.vm) : xb_SS ss' B U U.heap := fun q hq => (h q (hin q hq)).go hS hAB hU hW
/-- what a contract asks at its start -/
def xb_pre (G : xb_EV) (ss : List (Nat × Nat × Nat × (Nat → Int32))) (wc : va_W) (sz : Nat) (U : State) : Prop := U.heap.size = sz ∧ xb_P G wc U.heap ∧ xb_K G U ∧ va_D (fun _ => True) wc ∧ xb_E G (va_A wc sz) U U.heap ∧ xb_SS ss (va_A wc sz) U U.heap
theorem xb_blind {G : xb_EV} {ss : List (Nat × Nat × Nat × (Nat → Int32))} {wc : va_W} {sz : Nat} {av : List Value} : FrameBlind (va_Pc av (xb_pre G ss wc sz)) := by
  intro a U g mk h
  obtain ⟨h0, h1, h2, h3, h4, h5, h6⟩ := h
  exact ⟨h0, h1, h2, va_K.moved (u := U) (U := U.calling g mk a) (Vm.Alike.refl U.vm) h3, h4, ⟨h5.1.moved (U := U.calling g mk a) (Vm.Alike.refl U.vm), h5.2.1.moved (U := U.calling g mk a) (Vm.Alike.refl U.vm), h5.2.2.1.moved (U := U.calling g mk a) (Vm.Alike.refl U.vm), h5.2.2.2.1.moved (U := U.calling g mk a) (Vm.Alike.refl U.vm), fun q hq => (h5.2.2.2.2.1 q hq).same (u := U) rfl, h5.2.2.2.2.2.1.imp (fun _ hz => hz.moved (U := U.calling g mk a) (Vm.Alike.refl U.vm)), fun q hq => va_Nw.same rfl (u := U) rfl (h5.2.2.2.2.2.2.1 q hq), h5.2.2.2.2.2.2.2.moved (U := U.calling g mk a) (Vm.Alike.refl U.vm)⟩,
    fun q hq => ⟨(h6 q hq).1.moved (U := U.calling g mk a) (Vm.Alike.refl U.vm), (h6 q hq).2.1.moved (U := U.calling g mk a) (Vm.Alike.refl U.vm), (h6 q hq).2.2.1.moved (U := U.calling g mk a) (Vm.Alike.refl U.vm), (h6 q hq).2.2.2.moved (U := U.calling g mk a) (Vm.Alike.refl U.vm)⟩⟩
/-- a contract's end: some u with 'post u'; the answer is 'val u', the cells wc have become w1 u -/
def xb_Q (G : xb_EV) (wc : va_W) (sz : Nat) {S : Type} (val : S → Option Value) (post : S → Prop) (w1 : S → va_W) : Array Value → State → Outcome → State → Prop := fun _ st oc t => (∃ u : S, oc = .returned (val u) ∧ post u ∧ xb_P G (w1 u) t.heap ∧ va_D (va_A wc sz) (w1 u)) ∧ va_F (va_A wc sz) st t
def xb_CT (l : Launch) (y : MethodName) (bytes : ByteArray) (maxL : Nat) (ret : Option FieldType) (rm : Room) (G : xb_EV) (ss : List (Nat × Nat × Nat × (Nat → Int32))) (av : List Value) (wc : va_W) {S : Type} (val : S → Option Value) (post : S → Prop) (w1 : S → va_W) : Prop :=
  ∀ sz : Nat, Met l y (Cond.code y bytes maxL ret :: xb_g) rm (va_Pc av (xb_pre G ss wc sz)) (xb_Q G wc sz val post w1) rm.cells rm.slots (va_A wc sz)
/-- what stands fast in a method's walk -/
def xb_F (p : Program) (s : State) (m : MethodId) (args : Array Value) (c : Code) (cc : ByteArray) (nL : Nat) (own : String) (G : xb_EV) (ss : List (Nat × Nat × Nat × (Nat → Int32))) (A : Nat → Prop) : Prop :=
  (p.tables.exec = Jvm.exec ∧ c.code = cc ∧ c.maxLocals = nL ∧ s.vm.findClass own = some m.cls ∧ ∀ w ∈ xb_g, w.before args s = true) ∧ xb_K G s ∧ (∀ q : Nat, s.heap.size ≤ q → A q) ∧ xb_E G A s s.heap ∧ xb_SS ss A s s.heap
/-- a point of the walk: the cells, apart and in A; outside A nothing has changed -/
def xb_W (G : xb_EV) (A : Nat → Prop) (s : State) (ws : va_W) (H : Heap) (locs : List Loc) : Prop := xb_P G ws H ∧ va_D A ws ∧ va_S A s.heap H locs
section XBW
variable {p : Program} {l : Launch} {e : Env} {R : Room} {s : State} {m : MethodId} {args : Array Value} {below : List Frame} {meth : Method} {c : Code} {H : Heap} {locs : List Loc} {cells slots : Nat} {Q : State → Prop}
variable {cc : ByteArray} {nL pc : Nat} {own : String} {G : xb_EV} {ss : List (Nat × Nat × Nat × (Nat → Int32))} {A : Nat → Prop} {ls : Array Slot} {rest st0 : List Value} {ws wc wr : va_W}
/-- a walk of a method's body gives its contract -/
theorem xb_CT.of {y : MethodName} {bytes : ByteArray} {maxL : Nat} {ret : Option FieldType} {rm : Room} {av : List Value} {S : Type} {val : S → Option Value} {post : S → Prop} {w1 : S → va_W} (hy : plainFor y = true) (own : String) (hown : y.cls = own)
    (body : ∀ (p : Program) (e : Env) (s : State) (m : MethodId) (args : Array Value) (below : List Frame) (meth : Method) (c : Code) (A : Nat → Prop) (ls : Array Slot) (Q : State → Prop), xb_F p s m args c bytes maxL own G ss A → meth.sig.returnType = ret → meth.locks = false → meth.name = y.name → xb_W G A s wc s.heap [] → lv_has ls maxL (lv_args 0 av) → (∀ q, A q ↔ va_A wc s.heap.size q) →
      Q = MQ below (xb_Q G wc s.heap.size val post w1) args s rm.cells rm.slots (va_A wc s.heap.size) → W p l e rm s m args below meth c s.heap [] 0 0 Q (F0 m 0 ls [])) (hlen : (lg_sl av).length ≤ maxL) :
    xb_CT l y bytes maxL ret rm G ss av wc val post w1 := by
  intro sz
  refine va_MetF (cc := bytes) (maxL := maxL) (ret := ret) hy rfl ?_
  intro p e s m args below meth c s₁ B hml hv
  obtain ⟨rfl, hsz, hP, hK, hD0, hE, hSS⟩ := hv
  subst hsz
  have hts := atoms_spec (ws := Cond.code y bytes maxL ret :: xb_g) B.pre
  have hl := lv_entry av (n := maxL) hlen
  rw [lg_entry_eq]
  exact body p e s m av.toArray below meth c (va_A wc s.heap.size) _ _ ⟨⟨B.exec, B.bytes, hml, by rw [← hown]; exact findClass_of_methodNamed B.named, fun w hw => hts w (List.mem_cons_of_mem _ hw)⟩, hK, fun q h => Or.inr h, hE, hSS⟩ B.returns B.notSynchronized (name_of_methodNamed B.named B.method).1 ⟨hP, hD0.self (sz := s.heap.size), va_S.rf⟩ hl (fun _ => Iff.rfl) rfl
/-- the walk goes on behind a call -/
theorem xb_go {rm : Room} {av : List Value} {S : Type} {val : S → Option Value} {post : S → Prop} {w1 : S → va_W} (F : xb_F p s m args c cc nL own G ss A) (h : xb_W G A s ws H locs)
    (isC isR : List Nat) (hC : isC.map (fun i => ws[i]?) = wc.map some) (hR : isR.map (fun i => ws[i]?) = wr.map some) (hn : va_nd isR = true) (hdis : ∀ i ∈ isR, i ∉ isC)
    (hr : va_Run p l e R s m args below meth c H locs cells slots rm.cells rm.slots (F0 m pc ls st0) rest (xb_Q G wc H.size val post w1 av.toArray) (va_A wc H.size))
    (kk : ∀ (u : S) (H1 : Heap) (locs1 : List Loc), post u → xb_W G A s (wr ++ w1 u) H1 locs1 → W p l e R s m args below meth c H1 locs1 (cells + rm.cells) (slots + rm.slots) Q (F0 m (pc + 3) ls ((val u).toList ++ rest))) :
    W p l e R s m args below meth c H locs cells slots Q (F0 m pc ls st0) := by
  obtain ⟨hP, hD, hS⟩ := h
  have hF := va_free (wc := wc) hD hS F.2.2.1 isC hC
  intro T hT X
  obtain ⟨v, st₀, t, T', L, h0, X', hL, e1, e2, ⟨⟨u, hv, hp, hP1, hD1⟩, hz, hk⟩, st⟩ := hr T hT X
  cases hv
  rw [h0] at hz hk
  obtain ⟨hP2, hD2⟩ := va_join hP hD isC isR hC hR hn hdis hk hF hP1 hD1
  obtain ⟨t2, a1, b1⟩ := kk u T'.heap (locs ++ L) hp ⟨by rw [e1]; exact hP2, hD2,
    Nat.le_trans hS.1 (by rw [e1]; exact hz), fun q h1 h2 => by rw [e1, hk q (Nat.lt_of_lt_of_le h1 hS.1) (fun z => h2 (hF q z))]; exact hS.2.1 q h1 h2, fun q hq => by
      rcases List.mem_append.mp hq with h | h
      · exact hS.2.2 q h
      · exact hF _ (hL q h)⟩ T' rfl X'
  exact ⟨t2, st t2 a1, b1⟩
/-- the callee's start out of the caller's point -/
theorem xb_pre.at {ss' : List (Nat × Nat × Nat × (Nat → Int32))} (F : xb_F p s m args c cc nL own G ss A) (h : xb_W G A s ws H locs) (isC : List Nat) (hC : isC.map (fun i => ws[i]?) = wc.map some) (hc : va_nd isC = true) (hss : ∀ U : State, U.heap = H → s.WarmedH U.vm → xb_SS ss' (va_A wc H.size) U U.heap)
    {U : State} (hU : U.heap = H) (hW : s.WarmedH U.vm) : xb_pre G ss' wc H.size U := by
  obtain ⟨hP, hD, hS⟩ := h
  have hF := va_free (wc := wc) hD hS F.2.2.1 isC hC
  refine ⟨by rw [hU], ?_, va_K.moved hW.alike F.2.1, (hD.sub isC hc hC).weaken (fun _ _ _ _ => trivial), F.2.2.2.1.go hS hF hU hW, hss U hU hW⟩
  rw [hU]
  intro k q hk
  obtain ⟨i, hi⟩ : ∃ i : Nat, ws[i]? = some q := by
    have h1 : (wc.map some)[k]? = some (some q) := by rw [List.getElem?_map, hk]; rfl
    rw [← hC, List.getElem?_map] at h1
    cases h2 : isC[k]? with
    | none => rw [h2] at h1; cases h1
    | some i => rw [h2] at h1; exact ⟨i, Option.some.inj h1⟩
  exact hP i q hi
/-- words of a call: what must stand in the list -/
theorem xb_cI {y : MethodName} {bytes : ByteArray} {maxL index : Nat} {rm : Room} (n : Nat) (hts : ∀ w ∈ xb_g, w.before args s = true) (k1 : Cond.code y bytes maxL none ∈ xb_g) (k2 : Cond.initialized y.cls ∈ xb_g) (k3 : Cond.methodLink own index y ∈ xb_g) (k4 : Cond.instanceMethod y ∈ xb_g) (hy1 : y.name = "<init>")
    (hd : y.cls ≠ "java/lang/invoke/MethodHandle" ∧ y.cls ≠ "java/lang/invoke/VarHandle" ∧ (parseMethodDescriptor y.desc).map (fun d => d.parameters.length) = some n) (hR : rm.frames + 1 ≤ R.frames ∧ 8 + (maxL + 11) + rm.locals ≤ R.locals) :
    CallB R s args own index y bytes maxL none (Cond.code y bytes maxL none :: xb_g) rm rm.cells rm.slots n ∧ y.name = "<init>" ∧ (Cond.instanceMethod y).before args s = true :=
  ⟨callB_of n hts (xb_gcode k1) rfl rfl rfl (hts _ k2) (hts _ k3) hd hR, hy1, hts _ k4⟩
theorem xb_cV {y : MethodName} {bytes : ByteArray} {maxL index : Nat} {ret : Option FieldType} {rm : Room} {C : String} (n : Nat) (hts : ∀ w ∈ xb_g, w.before args s = true) (k1 : Cond.code y bytes maxL ret ∈ xb_g) (k2 : Cond.initialized y.cls ∈ xb_g) (k3 : Cond.methodLink own index y ∈ xb_g) (k4 : Cond.instanceMethod y ∈ xb_g) (k5 : Cond.selects C y y ∈ xb_g)
    (hd : y.cls ≠ "java/lang/invoke/MethodHandle" ∧ y.cls ≠ "java/lang/invoke/VarHandle" ∧ (parseMethodDescriptor y.desc).map (fun d => d.parameters.length) = some n) (hR : rm.frames + 1 ≤ R.frames ∧ 8 + (maxL + 11) + rm.locals ≤ R.locals) :
    CallW R s args own C index y bytes maxL ret (Cond.code y bytes maxL ret :: xb_g) rm rm.cells rm.slots n :=
  ⟨callB_of n hts (xb_gcode k1) rfl rfl rfl (hts _ k2) (hts _ k3) hd hR, hts _ k4, hts _ k5⟩
theorem xb_cS {y : MethodName} {bytes : ByteArray} {maxL index : Nat} {ret : Option FieldType} {rm : Room} (n : Nat) (hts : ∀ w ∈ xb_g, w.before args s = true) (k1 : Cond.code y bytes maxL ret ∈ xb_g) (k2 : Cond.initialized y.cls ∈ xb_g) (k3 : Cond.methodLink own index y ∈ xb_g) (k4 : Cond.static y ∈ xb_g)
    (hd : y.cls ≠ "java/lang/invoke/MethodHandle" ∧ y.cls ≠ "java/lang/invoke/VarHandle" ∧ (parseMethodDescriptor y.desc).map (fun d => d.parameters.length) = some n) (hR : rm.frames + 1 ≤ R.frames ∧ 8 + (maxL + 11) + rm.locals ≤ R.locals) :
    CallB R s args own index y bytes maxL ret (Cond.code y bytes maxL ret :: xb_g) rm rm.cells rm.slots n ∧ (Cond.static y).before args s = true :=
  ⟨callB_of n hts (xb_gcode k1) rfl rfl rfl (hts _ k2) (hts _ k3) hd hR, hts _ k4⟩
/-- invokespecial of a constructor -/
theorem xb_callI {y : MethodName} {bytes : ByteArray} {maxL index : Nat} {rm : Room} {ss' : List (Nat × Nat × Nat × (Nat → Int32))} {b : Nat} {As : List Value} {S : Type} {val : S → Option Value} {post : S → Prop} {w1 : S → va_W} (F : xb_F p s m args c cc nL own G ss A) (h : xb_W G A s ws H locs)
    (hM : xb_CT l y bytes maxL none rm G ss' (.ref b :: As) wc val post w1) (n : Nat) (k1 : Cond.code y bytes maxL none ∈ xb_g) (k2 : Cond.initialized y.cls ∈ xb_g) (k3 : Cond.methodLink own index y ∈ xb_g) (k4 : Cond.instanceMethod y ∈ xb_g) (hy1 : y.name = "<init>")
    (hd : y.cls ≠ "java/lang/invoke/MethodHandle" ∧ y.cls ≠ "java/lang/invoke/VarHandle" ∧ (parseMethodDescriptor y.desc).map (fun d => d.parameters.length) = some n) (hRm : rm.frames + 1 ≤ R.frames ∧ 8 + (maxL + 11) + rm.locals ≤ R.locals)
    (isC isR : List Nat) (hC : isC.map (fun i => ws[i]?) = wc.map some) (hR : isR.map (fun i => ws[i]?) = wr.map some) (hc : va_nd isC = true) (hn : va_nd isR = true) (hdis : ∀ i ∈ isR, i ∉ isC)
    (hss : ∀ U : State, U.heap = H → s.WarmedH U.vm → xb_SS ss' (va_A wc H.size) U U.heap)
    (hl : ls.size = nL) (hAs : As.length = n) (hst : st0 = As.reverse ++ .ref b :: rest) (hro : (rest.map fun v => v.category).sum ≤ 8) (hf : cells + rm.cells ≤ R.cells ∧ slots + rm.slots ≤ R.slots) (hdg : decode cc pc = .ok (.invokespecial index, 3))
    (kk : ∀ (u : S) (H1 : Heap) (locs1 : List Loc), post u → xb_W G A s (wr ++ w1 u) H1 locs1 → W p l e R s m args below meth c H1 locs1 (cells + rm.cells) (slots + rm.slots) Q (F0 m (pc + 3) ls ((val u).toList ++ rest))) :
    W p l e R s m args below meth c H locs cells slots Q (F0 m pc ls st0) :=
  xb_go (rm := rm) (av := .ref b :: As) F h isC isR hC hR hn hdis (va_runI F.1 (hM H.size) (xb_cI n F.1.2.2.2.2 k1 k2 k3 k4 hy1 hd hRm) ⟨xb_blind, fun _ hU hW => ⟨rfl, xb_pre.at F h isC hC hc hss hU hW⟩⟩ rfl hAs hl hst (lv_room hro) hdg hf) kk
/-- invokevirtual; hb: the receiver's cell -/
theorem xb_callV {y : MethodName} {bytes : ByteArray} {maxL index : Nat} {ret : Option FieldType} {rm : Room} {ss' : List (Nat × Nat × Nat × (Nat → Int32))} {C : String} {b : Nat} {As : List Value} {S : Type} {val : S → Option Value} {post : S → Prop} {w1 : S → va_W} (F : xb_F p s m args c cc nL own G ss A) (h : xb_W G A s ws H locs)
    (hM : xb_CT l y bytes maxL ret rm G ss' (.ref b :: As) wc val post w1) (n : Nat) (hb : ∃ cell : Cell, H[b]? = some cell ∧ cell.vm.isStatics = false ∧ s.vm.findClass C = some cell.cls) (k1 : Cond.code y bytes maxL ret ∈ xb_g) (k2 : Cond.initialized y.cls ∈ xb_g) (k3 : Cond.methodLink own index y ∈ xb_g) (k4 : Cond.instanceMethod y ∈ xb_g) (k5 : Cond.selects C y y ∈ xb_g)
    (hd : y.cls ≠ "java/lang/invoke/MethodHandle" ∧ y.cls ≠ "java/lang/invoke/VarHandle" ∧ (parseMethodDescriptor y.desc).map (fun d => d.parameters.length) = some n) (hRm : rm.frames + 1 ≤ R.frames ∧ 8 + (maxL + 11) + rm.locals ≤ R.locals)
    (isC isR : List Nat) (hC : isC.map (fun i => ws[i]?) = wc.map some) (hR : isR.map (fun i => ws[i]?) = wr.map some) (hc : va_nd isC = true) (hn : va_nd isR = true) (hdis : ∀ i ∈ isR, i ∉ isC)
    (hss : ∀ U : State, U.heap = H → s.WarmedH U.vm → xb_SS ss' (va_A wc H.size) U U.heap)
    (hl : ls.size = nL) (hAs : As.length = n) (hst : st0 = As.reverse ++ .ref b :: rest) (hro : (rest.map fun v => v.category).sum ≤ 8) (hf : cells + rm.cells ≤ R.cells ∧ slots + rm.slots ≤ R.slots) (hdg : decode cc pc = .ok (.invokevirtual index, 3))
    (kk : ∀ (u : S) (H1 : Heap) (locs1 : List Loc), post u → xb_W G A s (wr ++ w1 u) H1 locs1 → W p l e R s m args below meth c H1 locs1 (cells + rm.cells) (slots + rm.slots) Q (F0 m (pc + 3) ls ((val u).toList ++ rest))) :
    W p l e R s m args below meth c H locs cells slots Q (F0 m pc ls st0) :=
  xb_go (rm := rm) (av := .ref b :: As) F h isC isR hC hR hn hdis (va_runV F.1 (hM H.size) (xb_cV n F.1.2.2.2.2 k1 k2 k3 k4 k5 hd hRm) ⟨xb_blind, hb, fun _ hU hW => ⟨rfl, xb_pre.at F h isC hC hc hss hU hW⟩⟩ rfl hAs hl hst (lv_room hro) hdg hf) kk
/-- invokestatic -/
theorem xb_callS {y : MethodName} {bytes : ByteArray} {maxL index : Nat} {ret : Option FieldType} {rm : Room} {ss' : List (Nat × Nat × Nat × (Nat → Int32))} {As : List Value} {S : Type} {val : S → Option Value} {post : S → Prop} {w1 : S → va_W} (F : xb_F p s m args c cc nL own G ss A) (h : xb_W G A s ws H locs)
    (hM : xb_CT l y bytes maxL ret rm G ss' As wc val post w1) (n : Nat) (k1 : Cond.code y bytes maxL ret ∈ xb_g) (k2 : Cond.initialized y.cls ∈ xb_g) (k3 : Cond.methodLink own index y ∈ xb_g) (k4 : Cond.static y ∈ xb_g)
    (hd : y.cls ≠ "java/lang/invoke/MethodHandle" ∧ y.cls ≠ "java/lang/invoke/VarHandle" ∧ (parseMethodDescriptor y.desc).map (fun d => d.parameters.length) = some n) (hRm : rm.frames + 1 ≤ R.frames ∧ 8 + (maxL + 11) + rm.locals ≤ R.locals)
    (isC isR : List Nat) (hC : isC.map (fun i => ws[i]?) = wc.map some) (hR : isR.map (fun i => ws[i]?) = wr.map some) (hc : va_nd isC = true) (hn : va_nd isR = true) (hdis : ∀ i ∈ isR, i ∉ isC)
    (hss : ∀ U : State, U.heap = H → s.WarmedH U.vm → xb_SS ss' (va_A wc H.size) U U.heap)
    (hl : ls.size = nL) (hAs : As.length = n) (hst : st0 = As.reverse ++ rest) (hro : (rest.map fun v => v.category).sum ≤ 8) (hf : cells + rm.cells ≤ R.cells ∧ slots + rm.slots ≤ R.slots) (hdg : decode cc pc = .ok (.invokestatic index, 3))
    (kk : ∀ (u : S) (H1 : Heap) (locs1 : List Loc), post u → xb_W G A s (wr ++ w1 u) H1 locs1 → W p l e R s m args below meth c H1 locs1 (cells + rm.cells) (slots + rm.slots) Q (F0 m (pc + 3) ls ((val u).toList ++ rest))) :
    W p l e R s m args below meth c H locs cells slots Q (F0 m pc ls st0) :=
  xb_go (rm := rm) (av := As) F h isC isR hC hR hn hdis (va_runS F.1 (hM H.size) (xb_cS n F.1.2.2.2.2 k1 k2 k3 k4 hd hRm) ⟨xb_blind, fun _ hU hW => ⟨rfl, xb_pre.at F h isC hC hc hss hU hW⟩⟩ rfl hAs hl hst (lv_room hro) hdg hf) kk
/-- a class as the worlds know it -/
def xb_cf (ci : Nat) (C : String) (T : u_T) (N : Nat) (ty : Nat → FieldType) : Prop := xb_cl[ci]? = some (C, T, N) ∧ (∀ w ∈ u_ws C T N, w ∈ xb_g) ∧ (∀ k, k < N → parseFieldDescriptor (T k).2.2.1 = some (ty k)) ∧ ∀ a, a < N → ∀ b, b < N → a ≠ b → (T a).2.1 ≠ (T b).2.1
theorem xb_get {ci N index a : Nat} {C ow ref nm ds : String} {T : u_T} {ty : Nat → FieldType} {fin : Bool} {fs : List Value} {v : Value} (F : xb_F p s m args c cc nL own G ss A) (h : xb_W G A s ws H locs) (cf : xb_cf ci C T N ty) (q0 : Nat) (he : ws[q0]? = some (a, .inr (ci, fs))) (k : Nat) (hk : k < N) (hT : T k = (ow, nm, ds, fin)) (kl : Cond.fieldLink own index ref nm ds ∈ xb_g) (hsm : ref = ow ∨ Cond.sameField ref ow nm ds ∈ xb_g) (hv : fs[k]? = some v) (hdg : decode cc pc = .ok (.getfield index, 3))
    (kk : W p l e R s m args below meth c H locs cells slots Q (F0 m (pc + 3) ls (v :: rest))) : W p l e R s m args below meth c H locs cells slots Q (F0 m pc ls (.ref a :: rest)) :=
  va_get (ref := ref) F.1.1 F.1.2.1 F.1.2.2.2.2 cf.2.1 F.1.2.2.2.1 F.2.1 h.1 q0 he cf.1 k hk (by rw [hT]; exact F.1.2.2.2.2 _ kl) (fun x hx => by
    rw [hT] at hx ⊢
    rcases hsm with h9 | h9
    · rw [h9]; exact hx
    · exact u_same (F.1.2.2.2.2 _ h9) x hx) hv hdg kk
theorem xb_put {ci N index a : Nat} {C ow ref nm ds : String} {T : u_T} {ty : Nat → FieldType} {fs : List Value} {v : Value} {t0 : FieldType} {ws' : va_W} (F : xb_F p s m args c cc nL own G ss A) (h : xb_W G A s ws H locs) (cf : xb_cf ci C T N ty) (q0 : Nat) (he : ws[q0]? = some (a, .inr (ci, fs))) (k : Nat) (hk : k < N) (hT : T k = (ow, nm, ds, false)) (kl : Cond.fieldLink own index ref nm ds ∈ xb_g) (hsm : ref = ow ∨ Cond.sameField ref ow nm ds ∈ xb_g)
    (hd : parseFieldDescriptor ds = some t0) (hn : narrow t0 v = v) (hfit : fits t0 v = true) (hl : k < fs.length) (hw : ws.set q0 (a, .inr (ci, fs.set k v)) = ws') (hdg : decode cc pc = .ok (.putfield index, 3))
    (kk : ∀ (H1 : Heap) (locs1 : List Loc), xb_W G A s ws' H1 locs1 → W p l e R s m args below meth c H1 locs1 cells slots Q (F0 m (pc + 3) ls rest)) : W p l e R s m args below meth c H locs cells slots Q (F0 m pc ls (v :: .ref a :: rest)) := by
  subst hw
  exact va_put (ref := ref) F.1.1 F.1.2.1 F.1.2.2.2.2 cf.2.1 ty cf.2.2.1 cf.2.2.2 F.1.2.2.2.1 F.2.1 h.1 h.2.1 h.2.2 q0 he cf.1 k hk (by rw [hT]; exact F.1.2.2.2.2 _ kl) (fun x hx => by
    rw [hT] at hx ⊢
    rcases hsm with h9 | h9
    · rw [h9]; exact hx
    · exact u_same (F.1.2.2.2.2 _ h9) x hx) (by rw [hT]) (by rw [hT]; exact hd) hn hfit hl hdg (fun H1 locs1 a b c => kk H1 locs1 ⟨a, b, c⟩)
theorem xb_putF {ci N index a : Nat} {C nm ds : String} {T : u_T} {ty : Nat → FieldType} {fs : List Value} {v : Value} {t0 : FieldType} {ws' : va_W} (F : xb_F p s m args c cc nL own G ss A) (h : xb_W G A s ws H locs) (hin : meth.name = "<init>") (cf : xb_cf ci C T N ty) (q0 : Nat) (he : ws[q0]? = some (a, .inr (ci, fs))) (k : Nat) (hk : k < N) (hT : T k = (own, nm, ds, true)) (kl : Cond.fieldLink own index own nm ds ∈ xb_g)
    (hd : parseFieldDescriptor ds = some t0) (hn : narrow t0 v = v) (hfit : fits t0 v = true) (hl : k < fs.length) (hw : ws.set q0 (a, .inr (ci, fs.set k v)) = ws') (hdg : decode cc pc = .ok (.putfield index, 3))
    (kk : ∀ (H1 : Heap) (locs1 : List Loc), xb_W G A s ws' H1 locs1 → W p l e R s m args below meth c H1 locs1 cells slots Q (F0 m (pc + 3) ls rest)) : W p l e R s m args below meth c H locs cells slots Q (F0 m pc ls (v :: .ref a :: rest)) := by
  subst hw
  exact va_putF (ref := own) F.1.1 F.1.2.1 F.1.2.2.2.2 cf.2.1 ty cf.2.2.1 cf.2.2.2 F.1.2.2.2.1 F.2.1 h.1 h.2.1 h.2.2 q0 he cf.1 k hk (by rw [hT]; exact F.1.2.2.2.2 _ kl) (fun x hx => by rw [hT] at hx ⊢; exact hx) (by rw [hT]) hin (by rw [hT]) (by rw [hT]; exact hd) hn hfit hl hdg (fun H1 locs1 a b c => kk H1 locs1 ⟨a, b, c⟩)
theorem xb_new {ci N index : Nat} {C : String} {T : u_T} {ty : Nat → FieldType} {fs : List Value} {ws' : Nat → va_W} (F : xb_F p s m args c cc nL own G ss A) (h : xb_W G A s ws H locs) (cf : xb_cf ci C T N ty) (k1 : Cond.classLink own index C ∈ xb_g) (k2 : Cond.instantiable C N ∈ xb_g) (k3 : Cond.initialized C ∈ xb_g) (hfs : ∀ j, j < N → defaultValue (ty j) = vp_V fs j) (hw : ∀ q, ws ++ [(q, .inr (ci, fs))] = ws' q) (hc : cells + 1 ≤ R.cells) (hs : slots + N ≤ R.slots) (hdg : decode cc pc = .ok (.new index, 3))
    (kk : ∀ (q : Nat) (H1 : Heap), xb_W G A s (ws' q) H1 locs → W p l e R s m args below meth c H1 locs (cells + 1) (slots + N) Q (F0 m (pc + 3) ls (.ref q :: rest))) : W p l e R s m args below meth c H locs cells slots Q (F0 m pc ls rest) :=
  va_new F.1.1 F.1.2.1 F.1.2.2.2.2 cf.2.1 ty cf.2.2.1 F.1.2.2.2.1 (F.1.2.2.2.2 _ k1) (F.1.2.2.2.2 _ k2) (F.1.2.2.2.2 _ k3) F.2.1 h.1 h.2.1 h.2.2 F.2.2.1 cf.1 hfs hc hs hdg (fun q H1 a b c => kk q H1 (by rw [← hw q]; exact ⟨a, b, c⟩))
theorem xb_RA {U : State} {a b : ClassId} {ty : FieldType} (h1 : va_RA U a ty) (h2 : va_RA U b ty) : a = b := by
  cases ty with
  | object C =>
    obtain ⟨_, _, _, _, _, h1⟩ := h1
    obtain ⟨_, _, _, _, _, h2⟩ := h2
    exact Option.some.inj (h1.symm.trans h2)
  | array t => exact Option.some.inj ((show U.vm.findClass _ = some a from h1).symm.trans (show U.vm.findClass _ = some b from h2))
  | int => exact Option.some.inj ((show U.vm.findClass _ = some a from h1).symm.trans (show U.vm.findClass _ = some b from h2))
  | long => exact Option.some.inj ((show U.vm.findClass _ = some a from h1).symm.trans (show U.vm.findClass _ = some b from h2))
  | float => exact Option.some.inj ((show U.vm.findClass _ = some a from h1).symm.trans (show U.vm.findClass _ = some b from h2))
  | double => exact Option.some.inj ((show U.vm.findClass _ = some a from h1).symm.trans (show U.vm.findClass _ = some b from h2))
  | boolean => exact Option.some.inj ((show U.vm.findClass _ = some a from h1).symm.trans (show U.vm.findClass _ = some b from h2))
  | byte => exact Option.some.inj ((show U.vm.findClass _ = some a from h1).symm.trans (show U.vm.findClass _ = some b from h2))
  | char => exact Option.some.inj ((show U.vm.findClass _ = some a from h1).symm.trans (show U.vm.findClass _ = some b from h2))
  | short => exact Option.some.inj ((show U.vm.findClass _ = some a from h1).symm.trans (show U.vm.findClass _ = some b from h2))
theorem xb_newa {atype : ArrayType} {ty : FieldType} {n : Int32} {N' : Nat} {a0 : vp_A} {cA0 : ClassId} {ws' : Nat → va_W} (F : xb_F p s m args c cc nL own G ss A) (h : xb_W G A s ws H locs) (hty : newarray.typeOf atype = ty) (t0 : Nat) (ht : (xb_ty G.2.1)[t0]? = some (cA0, ty)) (k1 : Cond.arrayClass ty ∈ xb_g) (ha : ∀ cA : ClassId, vp_cell cA a0 = arrV cA N' (fun _ => defaultValue ty)) (hn : ¬ n < 0) (hN : n.toNatClampNeg = N') (hby : N' * componentBytes ty ≤ 536870912) (hw : ∀ q, ws ++ [(q, .inl (cA0, a0))] = ws' q) (hc : cells + 1 ≤ R.cells) (hs : slots + N' ≤ R.slots) (hdg : decode cc pc = .ok (.newarray atype, 2))
    (kk : ∀ (q : Nat) (H1 : Heap), xb_W G A s (ws' q) H1 locs → W p l e R s m args below meth c H1 locs (cells + 1) (slots + N') Q (F0 m (pc + 2) ls (.ref q :: rest))) : W p l e R s m args below meth c H locs cells slots Q (F0 m pc ls (.int n :: rest)) := by
  refine va_newa F.1.1 F.1.2.1 (by rw [hty]; exact F.1.2.2.2.2 _ k1) hty F.2.1 h.1 h.2.1 h.2.2 F.2.2.1 ha hn hN hby hc hs hdg (fun q cA H1 hK1 hP1 hD1 hS1 => ?_)
  have e1 : va_RA s cA ty := (hK1.2 (xb_ty G.2.1).length (cA, ty) (by simp)).2
  have e2 : va_RA s cA0 ty := (F.2.1.2 t0 (cA0, ty) ht).2
  obtain rfl := xb_RA e1 e2
  exact kk q H1 (by rw [← hw q]; exact ⟨hP1, hD1, hS1⟩)
theorem xb_newq {index : Nat} {n : Int32} {N' : Nat} {ws' : Nat → va_W} (F : xb_F p s m args c cc nL own G ss A) (h : xb_W G A s ws H locs) (k1 : Cond.classLink own index "java/lang/Object" ∈ xb_g) (hn : ¬ n < 0) (hN : n.toNatClampNeg = N') (hby : N' * 4 ≤ 536870912) (hw : ∀ q, ws ++ [(q, .inl (G.2.1 5, N', .inr (.inr (.inr (.inr (fun _ => none))))))] = ws' q) (hc : cells + 1 ≤ R.cells) (hs : slots + N' ≤ R.slots) (hdg : decode cc pc = .ok (.anewarray index, 3))
    (kk : ∀ (q : Nat) (H1 : Heap), xb_W G A s (ws' q) H1 locs → W p l e R s m args below meth c H1 locs (cells + 1) (slots + N') Q (F0 m (pc + 3) ls (.ref q :: rest))) : W p l e R s m args below meth c H locs cells slots Q (F0 m pc ls (.int n :: rest)) := by
  refine va_newq F.1.1 F.1.2.1 F.1.2.2.2.1 (F.1.2.2.2.2 _ k1) F.2.2.2.1.2.2.2.2.2.2.2 F.2.1 h.1 h.2.1 h.2.2 F.2.2.1 hn hN hby hc hs hdg (fun q cA H1 hK1 hP1 hD1 hS1 => ?_)
  have e1 : va_RA s cA (.object "java/lang/Object") := (hK1.2 (xb_ty G.2.1).length (cA, .object "java/lang/Object") (by simp)).2
  have e2 : va_RA s (G.2.1 5) (.object "java/lang/Object") := (F.2.1.2 5 (G.2.1 5, .object "java/lang/Object") rfl).2
  have e3 : cA = G.2.1 5 := xb_RA e1 e2
  rw [e3] at hP1 hD1
  exact kk q H1 (by rw [← hw q]; exact ⟨hP1, hD1, hS1⟩)
/-- stores into arrays of numbers: exactly, or with contents that nobody asks (F) -/
theorem xb_iast {a n : Nat} {cA : ClassId} {f : Nat → Int32} {i x : Int32} {ws' : va_W} (F : xb_F p s m args c cc nL own G ss A) (h : xb_W G A s ws H locs) (q0 t0 : Nat) (ha : ws[q0]? = some (a, .inl (cA, n, .inl f))) (ht : (xb_ty G.2.1)[t0]? = some (cA, .int)) (hin : vp_in i n) (hw : ws.set q0 (a, .inl (cA, n, .inl (upd f i.toNatClampNeg x))) = ws') (hdg : decode cc pc = .ok (.iastore, 1))
    (kk : ∀ (H1 : Heap) (locs1 : List Loc), xb_W G A s ws' H1 locs1 → W p l e R s m args below meth c H1 locs1 cells slots Q (F0 m (pc + 1) ls rest)) : W p l e R s m args below meth c H locs cells slots Q (F0 m pc ls (.int x :: .int i :: .ref a :: rest)) := by
  subst hw
  exact va_iast F.1.1 F.1.2.1 F.2.1 h.1 h.2.1 h.2.2 q0 t0 ha ht hin hdg (fun H1 locs1 a b c => kk H1 locs1 ⟨a, b, c⟩)
theorem xb_zast {a n : Nat} {cA : ClassId} {f : Nat → Int32} {i x : Int32} {ws' : va_W} (F : xb_F p s m args c cc nL own G ss A) (h : xb_W G A s ws H locs) (q0 t0 : Nat) (ha : ws[q0]? = some (a, .inl (cA, n, .inl f))) (ht : (xb_ty G.2.1)[t0]? = some (cA, .boolean)) (hin : vp_in i n) (hw : ws.set q0 (a, .inl (cA, n, .inl (upd f i.toNatClampNeg (vp_nar .boolean x)))) = ws') (hdg : decode cc pc = .ok (.bastore, 1))
    (kk : ∀ (H1 : Heap) (locs1 : List Loc), xb_W G A s ws' H1 locs1 → W p l e R s m args below meth c H1 locs1 cells slots Q (F0 m (pc + 1) ls rest)) : W p l e R s m args below meth c H locs cells slots Q (F0 m pc ls (.int x :: .int i :: .ref a :: rest)) := by
  subst hw
  exact va_zast F.1.1 F.1.2.1 F.2.1 h.1 h.2.1 h.2.2 q0 t0 ha ht hin hdg (fun H1 locs1 a b c => kk H1 locs1 ⟨a, b, c⟩)
theorem xb_last {a n : Nat} {cA : ClassId} {f : Nat → Int64} {i : Int32} {x : Int64} {ws' : va_W} (F : xb_F p s m args c cc nL own G ss A) (h : xb_W G A s ws H locs) (q0 t0 : Nat) (ha : ws[q0]? = some (a, .inl (cA, n, .inr (.inl f)))) (ht : (xb_ty G.2.1)[t0]? = some (cA, .long)) (hin : vp_in i n) (hw : ws.set q0 (a, .inl (cA, n, .inr (.inl (vp_updL f i.toNatClampNeg x)))) = ws') (hdg : decode cc pc = .ok (.lastore, 1))
    (kk : ∀ (H1 : Heap) (locs1 : List Loc), xb_W G A s ws' H1 locs1 → W p l e R s m args below meth c H1 locs1 cells slots Q (F0 m (pc + 1) ls rest)) : W p l e R s m args below meth c H locs cells slots Q (F0 m pc ls (.long x :: .int i :: .ref a :: rest)) := by
  subst hw
  exact va_last F.1.1 F.1.2.1 F.2.1 h.1 h.2.1 h.2.2 q0 t0 ha ht hin hdg (fun H1 locs1 a b c => kk H1 locs1 ⟨a, b, c⟩)
theorem xb_cast {a n : Nat} {cA : ClassId} {f : Nat → Int32} {i x : Int32} {ws' : va_W} (F : xb_F p s m args c cc nL own G ss A) (h : xb_W G A s ws H locs) (q0 t0 : Nat) (ha : ws[q0]? = some (a, .inl (cA, n, .inl f))) (ht : (xb_ty G.2.1)[t0]? = some (cA, .char)) (hin : vp_in i n) (hw : ws.set q0 (a, .inl (cA, n, .inl (upd f i.toNatClampNeg (vp_nar .char x)))) = ws') (hdg : decode cc pc = .ok (.castore, 1))
    (kk : ∀ (H1 : Heap) (locs1 : List Loc), xb_W G A s ws' H1 locs1 → W p l e R s m args below meth c H1 locs1 cells slots Q (F0 m (pc + 1) ls rest)) : W p l e R s m args below meth c H locs cells slots Q (F0 m pc ls (.int x :: .int i :: .ref a :: rest)) := by
  subst hw
  exact va_cast F.1.1 F.1.2.1 F.2.1 h.1 h.2.1 h.2.2 q0 t0 ha ht hin hdg (fun H1 locs1 a b c => kk H1 locs1 ⟨a, b, c⟩)
theorem xb_iastF {a n : Nat} {cA : ClassId} {f : Nat → Int32} {i x : Int32} {ws' : (Nat → Int32) → va_W} (F : xb_F p s m args c cc nL own G ss A) (h : xb_W G A s ws H locs) (q0 t0 : Nat) (ha : ws[q0]? = some (a, .inl (cA, n, .inl f))) (ht : (xb_ty G.2.1)[t0]? = some (cA, .int)) (hin : vp_in i n) (hw : ∀ g, ws.set q0 (a, .inl (cA, n, .inl g)) = ws' g) (hdg : decode cc pc = .ok (.iastore, 1))
    (kk : ∀ (g : Nat → Int32) (H1 : Heap) (locs1 : List Loc), xb_W G A s (ws' g) H1 locs1 → W p l e R s m args below meth c H1 locs1 cells slots Q (F0 m (pc + 1) ls rest)) : W p l e R s m args below meth c H locs cells slots Q (F0 m pc ls (.int x :: .int i :: .ref a :: rest)) :=
  xb_iast F h q0 t0 ha ht hin (hw _) hdg (kk _)
theorem xb_zastF {a n : Nat} {cA : ClassId} {f : Nat → Int32} {i x : Int32} {ws' : (Nat → Int32) → va_W} (F : xb_F p s m args c cc nL own G ss A) (h : xb_W G A s ws H locs) (q0 t0 : Nat) (ha : ws[q0]? = some (a, .inl (cA, n, .inl f))) (ht : (xb_ty G.2.1)[t0]? = some (cA, .boolean)) (hin : vp_in i n) (hw : ∀ g, ws.set q0 (a, .inl (cA, n, .inl g)) = ws' g) (hdg : decode cc pc = .ok (.bastore, 1))
    (kk : ∀ (g : Nat → Int32) (H1 : Heap) (locs1 : List Loc), xb_W G A s (ws' g) H1 locs1 → W p l e R s m args below meth c H1 locs1 cells slots Q (F0 m (pc + 1) ls rest)) : W p l e R s m args below meth c H locs cells slots Q (F0 m pc ls (.int x :: .int i :: .ref a :: rest)) :=
  xb_zast F h q0 t0 ha ht hin (hw _) hdg (kk _)
theorem xb_lastF {a n : Nat} {cA : ClassId} {f : Nat → Int64} {i : Int32} {x : Int64} {ws' : (Nat → Int64) → va_W} (F : xb_F p s m args c cc nL own G ss A) (h : xb_W G A s ws H locs) (q0 t0 : Nat) (ha : ws[q0]? = some (a, .inl (cA, n, .inr (.inl f)))) (ht : (xb_ty G.2.1)[t0]? = some (cA, .long)) (hin : vp_in i n) (hw : ∀ g, ws.set q0 (a, .inl (cA, n, .inr (.inl g))) = ws' g) (hdg : decode cc pc = .ok (.lastore, 1))
    (kk : ∀ (g : Nat → Int64) (H1 : Heap) (locs1 : List Loc), xb_W G A s (ws' g) H1 locs1 → W p l e R s m args below meth c H1 locs1 cells slots Q (F0 m (pc + 1) ls rest)) : W p l e R s m args below meth c H locs cells slots Q (F0 m pc ls (.long x :: .int i :: .ref a :: rest)) :=
  xb_last F h q0 t0 ha ht hin (hw _) hdg (kk _)
theorem xb_castF {a n : Nat} {cA : ClassId} {f : Nat → Int32} {i x : Int32} {ws' : (Nat → Int32) → va_W} (F : xb_F p s m args c cc nL own G ss A) (h : xb_W G A s ws H locs) (q0 t0 : Nat) (ha : ws[q0]? = some (a, .inl (cA, n, .inl f))) (ht : (xb_ty G.2.1)[t0]? = some (cA, .char)) (hin : vp_in i n) (hw : ∀ g, ws.set q0 (a, .inl (cA, n, .inl g)) = ws' g) (hdg : decode cc pc = .ok (.castore, 1))
    (kk : ∀ (g : Nat → Int32) (H1 : Heap) (locs1 : List Loc), xb_W G A s (ws' g) H1 locs1 → W p l e R s m args below meth c H1 locs1 cells slots Q (F0 m (pc + 1) ls rest)) : W p l e R s m args below meth c H locs cells slots Q (F0 m pc ls (.int x :: .int i :: .ref a :: rest)) :=
  xb_cast F h q0 t0 ha ht hin (hw _) hdg (kk _)
/-- an object into a row of objects -/
theorem xb_aast {a n v ci : Nat} {f : Nat → Option Nat} {vs : List Value} {r : vw_C} {i : Int32} {ws' : va_W} (F : xb_F p s m args c cc nL own G ss A) (h : xb_W G A s ws H locs) (q0 qk : Nat) (ha : ws[q0]? = some (a, .inl (G.2.1 5, n, .inr (.inr (.inr (.inr f)))))) (hca : (r.1, "java/lang/Object") ∈ xb_cs) (hv : ws[qk]? = some (v, .inr (ci, vs))) (hc : xb_cl[ci]? = some r) (hin : vp_in i n) (hw : ws.set q0 (a, .inl (G.2.1 5, n, .inr (.inr (.inr (.inr (va_up f i.toNatClampNeg (some v))))))) = ws') (hdg : decode cc pc = .ok (.aastore, 1))
    (kk : ∀ (H1 : Heap) (locs1 : List Loc), xb_W G A s ws' H1 locs1 → W p l e R s m args below meth c H1 locs1 cells slots Q (F0 m (pc + 1) ls rest)) : W p l e R s m args below meth c H locs cells slots Q (F0 m pc ls (.ref v :: .int i :: .ref a :: rest)) := by
  subst hw
  exact va_astqO F.1.1 F.1.2.1 F.2.1 h.1 h.2.1 h.2.2 q0 5 qk ci ha rfl (F.2.2.2.1.2.2.2.2.2.2.1 _ hca) hv hc hin hdg (fun H1 locs1 a b c => kk H1 locs1 ⟨a, b, c⟩)
/-- fewer cells, by their places -/
theorem xb_subP {ws' : va_W} (hP : xb_P G ws H) (is : List Nat) (hw : is.map (fun i => ws[i]?) = ws'.map some) : xb_P G ws' H := by
  intro k q hk
  obtain ⟨i, hi⟩ : ∃ i : Nat, ws[i]? = some q := by
    have h1 : (ws'.map some)[k]? = some (some q) := by rw [List.getElem?_map, hk]; rfl
    rw [← hw, List.getElem?_map] at h1
    cases h2 : is[k]? with
    | none => rw [h2] at h1; cases h1
    | some i => rw [h2] at h1; exact ⟨i, Option.some.inj h1⟩
  exact hP i q hi
theorem xb_sub {ws' : va_W} (h : xb_W G A s ws H locs) (is : List Nat) (hn : va_nd is = true) (hw : is.map (fun i => ws[i]?) = ws'.map some) : xb_W G A s ws' H locs := ⟨xb_subP h.1 is hw, h.2.1.sub is hn hw, h.2.2⟩
theorem xb_fr {st t : State} (hS : va_S A st.heap H locs) (hA : ∀ q, A q ↔ va_A wc st.heap.size q) (ht : t.heap = H) : va_F (va_A wc st.heap.size) st t := ⟨by rw [ht]; exact hS.1, fun q h1 h2 => by rw [ht]; exact hS.2.1 q h1 (fun z => h2 ((hA q).1 z))⟩
theorem xb_vret {rm : Room} {S : Type} {val : S → Option Value} {post : S → Prop} {w1 : S → va_W} (F : xb_F p s m args c cc nL own G ss A) (hr : meth.sig.returnType = none) (hlk : meth.locks = false) (hA : ∀ q, A q ↔ va_A wc s.heap.size q) (hQ : Q = MQ below (xb_Q G wc s.heap.size val post w1) args s rm.cells rm.slots (va_A wc s.heap.size)) (h : xb_W G A s ws H locs) (u : S) (hu : post u) (hval : val u = none) (is : List Nat) (hn : va_nd is = true) (hw : is.map (fun i => ws[i]?) = (w1 u).map some) (hc : cells ≤ rm.cells) (hs : slots ≤ rm.slots) (hdg : decode cc pc = .ok (.return_, 1)) :
    W p l e R s m args below meth c H locs cells slots Q (F0 m pc ls []) := by
  subst hQ
  exact W.widen hc hs (W.vret F.1.1 F.1.2.1 hr (fun t ht _ => ⟨⟨u, by rw [hval], hu, by rw [ht]; exact xb_subP h.1 is hw, (h.2.1.sub is hn hw).weaken (fun _ _ _ z => (hA _).1 z)⟩, xb_fr h.2.2 hA ht⟩) (fun q hq => (hA _).1 (h.2.2.2.2 q hq)) hdg (hlocks := hlk))
theorem xb_iret {v : Int32} {rm : Room} {S : Type} {val : S → Option Value} {post : S → Prop} {w1 : S → va_W} (F : xb_F p s m args c cc nL own G ss A) (hr : meth.sig.returnType = some .int) (hlk : meth.locks = false) (hA : ∀ q, A q ↔ va_A wc s.heap.size q) (hQ : Q = MQ below (xb_Q G wc s.heap.size val post w1) args s rm.cells rm.slots (va_A wc s.heap.size)) (h : xb_W G A s ws H locs) (u : S) (hu : post u) (hval : val u = some (.int v)) (is : List Nat) (hn : va_nd is = true) (hw : is.map (fun i => ws[i]?) = (w1 u).map some) (hc : cells ≤ rm.cells) (hs : slots ≤ rm.slots) (hdg : decode cc pc = .ok (.ireturn, 1)) :
    W p l e R s m args below meth c H locs cells slots Q (F0 m pc ls [.int v]) := by
  subst hQ
  exact W.widen hc hs (W.iret F.1.1 F.1.2.1 hr (fun t ht _ => ⟨⟨u, by rw [hval], hu, by rw [ht]; exact xb_subP h.1 is hw, (h.2.1.sub is hn hw).weaken (fun _ _ _ z => (hA _).1 z)⟩, xb_fr h.2.2 hA ht⟩) (fun q hq => (hA _).1 (h.2.2.2.2 q hq)) hdg (hlocks := hlk))
theorem xb_zret {v : Int32} {ty : FieldType} {rm : Room} {S : Type} {val : S → Option Value} {post : S → Prop} {w1 : S → va_W} (F : xb_F p s m args c cc nL own G ss A) (hr : meth.sig.returnType = some ty) (hlk : meth.locks = false) (hnar : narrow ty (.int v) = .int v) (hA : ∀ q, A q ↔ va_A wc s.heap.size q) (hQ : Q = MQ below (xb_Q G wc s.heap.size val post w1) args s rm.cells rm.slots (va_A wc s.heap.size)) (h : xb_W G A s ws H locs) (u : S) (hu : post u) (hval : val u = some (.int v)) (is : List Nat) (hn : va_nd is = true) (hw : is.map (fun i => ws[i]?) = (w1 u).map some) (hc : cells ≤ rm.cells) (hs : slots ≤ rm.slots) (hdg : decode cc pc = .ok (.ireturn, 1)) :
    W p l e R s m args below meth c H locs cells slots Q (F0 m pc ls [.int v]) := by
  subst hQ
  exact W.widen hc hs (W.zret F.1.1 F.1.2.1 hr hnar (fun t ht _ => ⟨⟨u, by rw [hval], hu, by rw [ht]; exact xb_subP h.1 is hw, (h.2.1.sub is hn hw).weaken (fun _ _ _ z => (hA _).1 z)⟩, xb_fr h.2.2 hA ht⟩) (fun q hq => (hA _).1 (h.2.2.2.2 q hq)) hdg (hlocks := hlk))
theorem xb_lret {v : Int64} {rm : Room} {S : Type} {val : S → Option Value} {post : S → Prop} {w1 : S → va_W} (F : xb_F p s m args c cc nL own G ss A) (hr : meth.sig.returnType = some .long) (hlk : meth.locks = false) (hA : ∀ q, A q ↔ va_A wc s.heap.size q) (hQ : Q = MQ below (xb_Q G wc s.heap.size val post w1) args s rm.cells rm.slots (va_A wc s.heap.size)) (h : xb_W G A s ws H locs) (u : S) (hu : post u) (hval : val u = some (.long v)) (is : List Nat) (hn : va_nd is = true) (hw : is.map (fun i => ws[i]?) = (w1 u).map some) (hc : cells ≤ rm.cells) (hs : slots ≤ rm.slots) (hdg : decode cc pc = .ok (.lreturn, 1)) :
    W p l e R s m args below meth c H locs cells slots Q (F0 m pc ls [.long v]) := by
  subst hQ
  exact W.widen hc hs (W.lret F.1.1 F.1.2.1 hr (fun t ht _ => ⟨⟨u, by rw [hval], hu, by rw [ht]; exact xb_subP h.1 is hw, (h.2.1.sub is hn hw).weaken (fun _ _ _ z => (hA _).1 z)⟩, xb_fr h.2.2 hA ht⟩) (fun q hq => (hA _).1 (h.2.2.2.2 q hq)) hdg (hlocks := hlk))
theorem xb_aret {v : Value} {rt : FieldType} {rm : Room} {S : Type} {val : S → Option Value} {post : S → Prop} {w1 : S → va_W} (F : xb_F p s m args c cc nL own G ss A) (hr : meth.sig.returnType = some rt) (hrt : (∃ n, rt = .object n) ∨ ∃ t, rt = .array t) (hv : v = .null ∨ ∃ a, v = .ref a) (hlk : meth.locks = false) (hA : ∀ q, A q ↔ va_A wc s.heap.size q) (hQ : Q = MQ below (xb_Q G wc s.heap.size val post w1) args s rm.cells rm.slots (va_A wc s.heap.size)) (h : xb_W G A s ws H locs) (u : S) (hu : post u) (hval : val u = some v) (is : List Nat) (hn : va_nd is = true) (hw : is.map (fun i => ws[i]?) = (w1 u).map some) (hc : cells ≤ rm.cells) (hs : slots ≤ rm.slots) (hdg : decode cc pc = .ok (.areturn, 1)) :
    W p l e R s m args below meth c H locs cells slots Q (F0 m pc ls [v]) := by
  subst hQ
  exact W.widen hc hs (W.aret F.1.1 F.1.2.1 hr hrt hv (fun t ht _ => ⟨⟨u, by rw [hval], hu, by rw [ht]; exact xb_subP h.1 is hw, (h.2.1.sub is hn hw).weaken (fun _ _ _ z => (hA _).1 z)⟩, xb_fr h.2.2 hA ht⟩) (fun q hq => (hA _).1 (h.2.2.2.2 q hq)) hdg (hlocks := hlk))
end XBW
end
section
theorem k_0 : Cond.fieldLink "java/lang/String" 38 "java/lang/String" "COMPACT_STRINGS" "Z" ∈ xb_g := xb_m 68 (by decide +kernel) (by decide)
theorem k_1 : Cond.fieldLink "java/lang/String" 15 "java/lang/String" "coder" "B" ∈ xb_g := xb_m 373 (by decide +kernel) (by decide)
theorem k_2 : Cond.fieldLink "java/lang/String" 9 "java/lang/String" "value" "[B" ∈ xb_g := xb_m 372 (by decide +kernel) (by decide)
set_option maxRecDepth 100000 in
theorem k_3 : Cond.code y_String_coder b_String_coder 1 (some .byte) ∈ xb_g := xb_m 67 (by rfl) (by decide)
theorem k_4 : Cond.initialized "java/lang/String" ∈ xb_g := xb_m 4 (by decide +kernel) (by decide)
theorem k_5 : Cond.methodLink "java/lang/String" 335 y_String_coder ∈ xb_g := xb_m 64 (by decide +kernel) (by decide)
theorem k_6 : Cond.instanceMethod y_String_coder ∈ xb_g := xb_m 65 (by decide +kernel) (by decide)
theorem k_7 : Cond.selects "java/lang/String" y_String_coder y_String_coder ∈ xb_g := xb_m 66 (by decide +kernel) (by decide)
theorem k_8 : Cond.fieldLink "java/lang/String" 1053 "jdk/internal/util/Preconditions" "SIOOBE_FORMATTER" "Ljava/util/function/BiFunction;" ∈ xb_g := xb_m 84 (by decide +kernel) (by decide)
set_option maxRecDepth 100000 in
theorem k_9 : Cond.code y_Preconditions_checkIndex b_Preconditions_checkIndex 3 (some .int) ∈ xb_g := xb_m 88 (by rfl) (by decide)
theorem k_10 : Cond.initialized "jdk/internal/util/Preconditions" ∈ xb_g := xb_m 6 (by decide +kernel) (by decide)
theorem k_11 : Cond.methodLink "java/lang/String" 1059 y_Preconditions_checkIndex ∈ xb_g := xb_m 86 (by decide +kernel) (by decide)
theorem k_12 : Cond.static y_Preconditions_checkIndex ∈ xb_g := xb_m 87 (by decide +kernel) (by decide)
set_option maxRecDepth 100000 in
theorem k_13 : Cond.code y_String_checkIndex b_String_checkIndex 2 none ∈ xb_g := xb_m 83 (by rfl) (by decide)
theorem k_14 : Cond.methodLink "java/lang/StringLatin1" 9 y_String_checkIndex ∈ xb_g := xb_m 81 (by decide +kernel) (by decide)
theorem k_15 : Cond.static y_String_checkIndex ∈ xb_g := xb_m 82 (by decide +kernel) (by decide)
set_option maxRecDepth 100000 in
theorem k_16 : Cond.code y_String_isLatin1 b_String_isLatin1 1 (some .boolean) ∈ xb_g := xb_m 77 (by rfl) (by decide)
theorem k_17 : Cond.methodLink "java/lang/String" 492 y_String_isLatin1 ∈ xb_g := xb_m 74 (by decide +kernel) (by decide)
theorem k_18 : Cond.instanceMethod y_String_isLatin1 ∈ xb_g := xb_m 75 (by decide +kernel) (by decide)
theorem k_19 : Cond.selects "java/lang/String" y_String_isLatin1 y_String_isLatin1 ∈ xb_g := xb_m 76 (by decide +kernel) (by decide)
set_option maxRecDepth 100000 in
theorem k_20 : Cond.code y_StringLatin1_charAt b_StringLatin1_charAt 2 (some .char) ∈ xb_g := xb_m 80 (by rfl) (by decide)
theorem k_21 : Cond.initialized "java/lang/StringLatin1" ∈ xb_g := xb_m 5 (by decide +kernel) (by decide)
theorem k_22 : Cond.methodLink "java/lang/String" 495 y_StringLatin1_charAt ∈ xb_g := xb_m 78 (by decide +kernel) (by decide)
theorem k_23 : Cond.static y_StringLatin1_charAt ∈ xb_g := xb_m 79 (by decide +kernel) (by decide)
theorem k_24 : Cond.methodLink "java/util/AbstractCollection" 1 objectInit ∈ xb_g := xb_m 528 (by decide +kernel) (by decide)
theorem k_25 : Cond.instanceMethod objectInit ∈ xb_g := xb_m 45 (by decide +kernel) (by decide)
set_option maxRecDepth 100000 in
theorem k_26 : Cond.code objectInit ⟨#[0xb1]⟩ 1 none ∈ xb_g := xb_m 46 (by rfl) (by decide)
set_option maxRecDepth 100000 in
theorem k_27 : Cond.code y_AbstractCollection_init b_AbstractCollection_init 1 none ∈ xb_g := xb_m 527 (by rfl) (by decide)
theorem k_28 : Cond.initialized "java/util/AbstractCollection" ∈ xb_g := xb_m 22 (by decide +kernel) (by decide)
theorem k_29 : Cond.methodLink "java/util/AbstractList" 1 y_AbstractCollection_init ∈ xb_g := xb_m 525 (by decide +kernel) (by decide)
theorem k_30 : Cond.instanceMethod y_AbstractCollection_init ∈ xb_g := xb_m 526 (by decide +kernel) (by decide)
theorem k_31 : Cond.fieldLink "java/util/AbstractList" 7 "java/util/AbstractList" "modCount" "I" ∈ xb_g := xb_m 533 (by decide +kernel) (by decide)
set_option maxRecDepth 100000 in
theorem k_32 : Cond.code y_AbstractList_init b_AbstractList_init 1 none ∈ xb_g := xb_m 524 (by rfl) (by decide)
theorem k_33 : Cond.initialized "java/util/AbstractList" ∈ xb_g := xb_m 23 (by decide +kernel) (by decide)
theorem k_34 : Cond.methodLink "java/util/ArrayList" 1 y_AbstractList_init ∈ xb_g := xb_m 522 (by decide +kernel) (by decide)
theorem k_35 : Cond.instanceMethod y_AbstractList_init ∈ xb_g := xb_m 523 (by decide +kernel) (by decide)
theorem k_36 : Cond.fieldLink "java/util/ArrayList" 39 "java/util/ArrayList" "DEFAULTCAPACITY_EMPTY_ELEMENTDATA" "[Ljava/lang/Object;" ∈ xb_g := xb_m 529 (by decide +kernel) (by decide)
theorem k_37 : Cond.fieldLink "java/util/ArrayList" 9 "java/util/ArrayList" "elementData" "[Ljava/lang/Object;" ∈ xb_g := xb_m 531 (by decide +kernel) (by decide)
theorem k_38 : Cond.methodLink "java/util/ArrayList" 79 Lib.Math.max.name ∈ xb_g := xb_m 657 (by decide +kernel) (by decide)
theorem k_39 : Cond.static Lib.Math.max.name ∈ xb_g := xb_m 235 (by decide +kernel) (by decide)
theorem k_40 : Cond.initialized "java/lang/Math" ∈ xb_g := xb_m 17 (by decide +kernel) (by decide)
set_option maxRecDepth 100000 in
theorem k_41 : Cond.code Lib.Math.max.name Lib.Math.max.code 2 (some .int) ∈ xb_g := xb_m 236 (by rfl) (by decide)
theorem k_42 : Cond.classLink "java/util/ArrayList" 7 "java/lang/Object" ∈ xb_g := xb_m 658 (by decide +kernel) (by decide)
theorem k_43 : Cond.fieldLink "java/util/ArrayList" 48 "java/util/ArrayList" "size" "I" ∈ xb_g := xb_m 532 (by decide +kernel) (by decide)
set_option maxRecDepth 100000 in
theorem k_44 : Cond.code y_ArrayList_grow b_ArrayList_grow 4 (some (.array (.object "java/lang/Object"))) ∈ xb_g := xb_m 620 (by rfl) (by decide)
theorem k_45 : Cond.initialized "java/util/ArrayList" ∈ xb_g := xb_m 24 (by decide +kernel) (by decide)
theorem k_46 : Cond.methodLink "java/util/ArrayList" 69 y_ArrayList_grow ∈ xb_g := xb_m 617 (by decide +kernel) (by decide)
theorem k_47 : Cond.instanceMethod y_ArrayList_grow ∈ xb_g := xb_m 619 (by decide +kernel) (by decide)
theorem k_48 : Cond.selects "java/util/ArrayList" y_ArrayList_grow y_ArrayList_grow ∈ xb_g := xb_ms (q := (y_ArrayList_grow, 3)) (by decide +kernel) (by decide)
set_option maxRecDepth 100000 in
theorem k_49 : Cond.code y_ArrayList_grow2 b_ArrayList_grow2 1 (some (.array (.object "java/lang/Object"))) ∈ xb_g := xb_m 616 (by rfl) (by decide)
theorem k_50 : Cond.methodLink "java/util/ArrayList" 129 y_ArrayList_grow2 ∈ xb_g := xb_m 613 (by decide +kernel) (by decide)
theorem k_51 : Cond.instanceMethod y_ArrayList_grow2 ∈ xb_g := xb_m 615 (by decide +kernel) (by decide)
theorem k_52 : Cond.selects "java/util/ArrayList" y_ArrayList_grow2 y_ArrayList_grow2 ∈ xb_g := xb_ms (q := (y_ArrayList_grow2, 3)) (by decide +kernel) (by decide)
theorem k_53 : Cond.sameField "java/util/ArrayList" "java/util/AbstractList" "modCount" "I" ∈ xb_g := xb_m 535 (by decide +kernel) (by decide)
theorem k_54 : Cond.fieldLink "java/util/ArrayList" 63 "java/util/ArrayList" "modCount" "I" ∈ xb_g := xb_m 534 (by decide +kernel) (by decide)
set_option maxRecDepth 100000 in
theorem k_55 : Cond.code y_ArrayList_add b_ArrayList_add 4 none ∈ xb_g := xb_m 612 (by rfl) (by decide)
theorem k_56 : Cond.methodLink "java/util/ArrayList" 131 y_ArrayList_add ∈ xb_g := xb_m 609 (by decide +kernel) (by decide)
theorem k_57 : Cond.instanceMethod y_ArrayList_add ∈ xb_g := xb_m 611 (by decide +kernel) (by decide)
theorem k_58 : Cond.selects "java/util/ArrayList" y_ArrayList_add y_ArrayList_add ∈ xb_g := xb_ms (q := (y_ArrayList_add, 3)) (by decide +kernel) (by decide)
theorem k_59 : Cond.methodLink "java/lang/AbstractStringBuilder" 3 objectInit ∈ xb_g := xb_m 186 (by decide +kernel) (by decide)
theorem k_60 : Cond.fieldLink "java/lang/AbstractStringBuilder" 18 "java/lang/String" "COMPACT_STRINGS" "Z" ∈ xb_g := xb_m 187 (by decide +kernel) (by decide)
theorem k_61 : Cond.arrayClass (.byte) ∈ xb_g := xb_m 212 (by decide +kernel) (by decide)
theorem k_62 : Cond.fieldLink "java/lang/AbstractStringBuilder" 15 "java/lang/AbstractStringBuilder" "value" "[B" ∈ xb_g := xb_m 195 (by decide +kernel) (by decide)
theorem k_63 : Cond.fieldLink "java/lang/AbstractStringBuilder" 22 "java/lang/AbstractStringBuilder" "coder" "B" ∈ xb_g := xb_m 196 (by decide +kernel) (by decide)
set_option maxRecDepth 100000 in
theorem k_64 : Cond.code y_AbstractStringBuilder_init b_AbstractStringBuilder_init 2 none ∈ xb_g := xb_m 185 (by rfl) (by decide)
theorem k_65 : Cond.initialized "java/lang/AbstractStringBuilder" ∈ xb_g := xb_m 13 (by decide +kernel) (by decide)
theorem k_66 : Cond.methodLink "java/lang/StringBuilder" 1 y_AbstractStringBuilder_init ∈ xb_g := xb_m 183 (by decide +kernel) (by decide)
theorem k_67 : Cond.instanceMethod y_AbstractStringBuilder_init ∈ xb_g := xb_m 184 (by decide +kernel) (by decide)
theorem k_68 : Cond.methodLink "TypeFinder$Type" 1 objectInit ∈ xb_g := xb_m 474 (by decide +kernel) (by decide)
theorem k_69 : Cond.fieldLink "TypeFinder$Type" 9 "TypeFinder$Type" "kind" "I" ∈ xb_g := xb_m 475 (by decide +kernel) (by decide)
theorem k_70 : Cond.fieldLink "TypeFinder$Type" 13 "TypeFinder$Type" "data" "LTypeFinder$DataType;" ∈ xb_g := xb_m 482 (by decide +kernel) (by decide)
theorem k_71 : Cond.fieldLink "TypeFinder$Type" 17 "TypeFinder$Type" "left" "LTypeFinder$Type;" ∈ xb_g := xb_m 486 (by decide +kernel) (by decide)
theorem k_72 : Cond.fieldLink "TypeFinder$Type" 21 "TypeFinder$Type" "right" "LTypeFinder$Type;" ∈ xb_g := xb_m 491 (by decide +kernel) (by decide)
theorem k_73 : Cond.methodLink "TypeFinder$Name" 1 objectInit ∈ xb_g := xb_m 588 (by decide +kernel) (by decide)
theorem k_74 : Cond.fieldLink "TypeFinder$Name" 7 "TypeFinder$Name" "word" "J" ∈ xb_g := xb_m 589 (by decide +kernel) (by decide)
theorem k_75 : Cond.fieldLink "TypeFinder$Name" 13 "TypeFinder$Name" "type" "LTypeFinder$Type;" ∈ xb_g := xb_m 592 (by decide +kernel) (by decide)
theorem k_76 : Cond.fieldLink "TypeFinder$Name" 17 "TypeFinder$Name" "general" "Z" ∈ xb_g := xb_m 596 (by decide +kernel) (by decide)
theorem k_77 : Cond.classLink "TypeFinder$Unifier" 22 "TypeFinder$Type" ∈ xb_g := xb_m 664 (by decide +kernel) (by decide)
theorem k_78 : Cond.instantiable "TypeFinder$Type" 8 ∈ xb_g := xb_m 470 (by decide +kernel) (by decide)
theorem k_79 : Cond.initialized "TypeFinder$Type" ∈ xb_g := xb_m 21 (by decide +kernel) (by decide)
set_option maxRecDepth 100000 in
theorem k_80 : Cond.code y_TypeFinder_Type_init b_TypeFinder_Type_init 5 none ∈ xb_g := xb_m 473 (by rfl) (by decide)
theorem k_81 : Cond.methodLink "TypeFinder$Unifier" 24 y_TypeFinder_Type_init ∈ xb_g := xb_m 665 (by decide +kernel) (by decide)
theorem k_82 : Cond.instanceMethod y_TypeFinder_Type_init ∈ xb_g := xb_m 472 (by decide +kernel) (by decide)
theorem k_83 : Cond.methodLink "TypeFinder$DataType" 1 objectInit ∈ xb_g := xb_m 553 (by decide +kernel) (by decide)
theorem k_84 : Cond.classLink "TypeFinder$DataType" 7 "java/util/ArrayList" ∈ xb_g := xb_m 554 (by decide +kernel) (by decide)
theorem k_85 : Cond.instantiable "java/util/ArrayList" 3 ∈ xb_g := xb_m 518 (by decide +kernel) (by decide)
set_option maxRecDepth 100000 in
theorem k_86 : Cond.code y_ArrayList_init b_ArrayList_init 1 none ∈ xb_g := xb_m 521 (by rfl) (by decide)
theorem k_87 : Cond.methodLink "TypeFinder$DataType" 9 y_ArrayList_init ∈ xb_g := xb_m 555 (by decide +kernel) (by decide)
theorem k_88 : Cond.instanceMethod y_ArrayList_init ∈ xb_g := xb_m 520 (by decide +kernel) (by decide)
theorem k_89 : Cond.fieldLink "TypeFinder$DataType" 10 "TypeFinder$DataType" "constructors" "Ljava/util/ArrayList;" ∈ xb_g := xb_m 561 (by decide +kernel) (by decide)
theorem k_90 : Cond.fieldLink "TypeFinder$DataType" 16 "TypeFinder$DataType" "allows" "Z" ∈ xb_g := xb_m 566 (by decide +kernel) (by decide)
theorem k_91 : Cond.fieldLink "TypeFinder$DataType" 20 "TypeFinder$DataType" "word" "J" ∈ xb_g := xb_m 556 (by decide +kernel) (by decide)
theorem k_92 : Cond.fieldLink "TypeFinder$DataType" 24 "TypeFinder$DataType" "parameters" "I" ∈ xb_g := xb_m 559 (by decide +kernel) (by decide)
theorem k_93 : Cond.classLink "TypeFinder$DataType" 11 "TypeFinder$DataType" ∈ xb_g := xb_m 548 (by decide +kernel) (by decide)
theorem k_94 : Cond.instantiable "TypeFinder$DataType" 5 ∈ xb_g := xb_m 549 (by decide +kernel) (by decide)
theorem k_95 : Cond.initialized "TypeFinder$DataType" ∈ xb_g := xb_m 25 (by decide +kernel) (by decide)
set_option maxRecDepth 100000 in
theorem k_96 : Cond.code y_TypeFinder_DataType_init b_TypeFinder_DataType_init 4 none ∈ xb_g := xb_m 552 (by rfl) (by decide)
theorem k_97 : Cond.methodLink "TypeFinder$DataType" 28 y_TypeFinder_DataType_init ∈ xb_g := xb_m 550 (by decide +kernel) (by decide)
theorem k_98 : Cond.instanceMethod y_TypeFinder_DataType_init ∈ xb_g := xb_m 551 (by decide +kernel) (by decide)
theorem k_99 : Cond.classLink "TypeFinder$DataType" 31 "TypeFinder$Type" ∈ xb_g := xb_m 580 (by decide +kernel) (by decide)
theorem k_100 : Cond.methodLink "TypeFinder$DataType" 33 y_TypeFinder_Type_init ∈ xb_g := xb_m 581 (by decide +kernel) (by decide)
theorem k_101 : Cond.fieldLink "TypeFinder$DataType" 36 "TypeFinder$DataType" "whole" "LTypeFinder$Type;" ∈ xb_g := xb_m 565 (by decide +kernel) (by decide)
theorem k_102 : Cond.methodLink "TypeFinder$Unifier" 1 objectInit ∈ xb_g := xb_m 708 (by decide +kernel) (by decide)
theorem k_103 : Cond.classLink "TypeFinder$Unifier" 7 "java/util/ArrayList" ∈ xb_g := xb_m 709 (by decide +kernel) (by decide)
theorem k_104 : Cond.methodLink "TypeFinder$Unifier" 9 y_ArrayList_init ∈ xb_g := xb_m 710 (by decide +kernel) (by decide)
theorem k_105 : Cond.fieldLink "TypeFinder$Unifier" 10 "TypeFinder$Unifier" "todo" "Ljava/util/ArrayList;" ∈ xb_g := xb_m 711 (by decide +kernel) (by decide)
theorem k_106 : Cond.fieldLink "TypeFinder$Unifier" 16 "TypeFinder$Unifier" "open" "Ljava/util/ArrayList;" ∈ xb_g := xb_m 712 (by decide +kernel) (by decide)
theorem k_107 : Cond.fieldLink "TypeFinder$Unifier" 19 "TypeFinder$Unifier" "walk" "Ljava/util/ArrayList;" ∈ xb_g := xb_m 713 (by decide +kernel) (by decide)
theorem k_108 : Cond.methodLink "TypeFinder$Checker" 3 objectInit ∈ xb_g := xb_m 702 (by decide +kernel) (by decide)
theorem k_109 : Cond.classLink "TypeFinder$Checker" 9 "TypeFinder$Unifier" ∈ xb_g := xb_m 703 (by decide +kernel) (by decide)
theorem k_110 : Cond.instantiable "TypeFinder$Unifier" 4 ∈ xb_g := xb_m 704 (by decide +kernel) (by decide)
theorem k_111 : Cond.initialized "TypeFinder$Unifier" ∈ xb_g := xb_m 27 (by decide +kernel) (by decide)
set_option maxRecDepth 100000 in
theorem k_112 : Cond.code y_TypeFinder_Unifier_init b_TypeFinder_Unifier_init 1 none ∈ xb_g := xb_m 707 (by rfl) (by decide)
theorem k_113 : Cond.methodLink "TypeFinder$Checker" 11 y_TypeFinder_Unifier_init ∈ xb_g := xb_m 705 (by decide +kernel) (by decide)
theorem k_114 : Cond.instanceMethod y_TypeFinder_Unifier_init ∈ xb_g := xb_m 706 (by decide +kernel) (by decide)
theorem k_115 : Cond.fieldLink "TypeFinder$Checker" 12 "TypeFinder$Checker" "unifier" "LTypeFinder$Unifier;" ∈ xb_g := xb_m 727 (by decide +kernel) (by decide)
theorem k_116 : Cond.classLink "TypeFinder$Checker" 18 "java/util/ArrayList" ∈ xb_g := xb_m 724 (by decide +kernel) (by decide)
theorem k_117 : Cond.methodLink "TypeFinder$Checker" 20 y_ArrayList_init ∈ xb_g := xb_m 725 (by decide +kernel) (by decide)
theorem k_118 : Cond.fieldLink "TypeFinder$Checker" 21 "TypeFinder$Checker" "scope" "Ljava/util/ArrayList;" ∈ xb_g := xb_m 728 (by decide +kernel) (by decide)
theorem k_119 : Cond.fieldLink "TypeFinder$Checker" 25 "TypeFinder$Checker" "operands" "Ljava/util/ArrayList;" ∈ xb_g := xb_m 729 (by decide +kernel) (by decide)
end
section
theorem k_120 : Cond.fieldLink "TypeFinder$Checker" 28 "TypeFinder$Checker" "known" "LTypeFinder$Known;" ∈ xb_g := xb_m 726 (by decide +kernel) (by decide)
theorem k_121 : Cond.methodLink "TypeFinder$Writer" 3 objectInit ∈ xb_g := xb_m 752 (by decide +kernel) (by decide)
theorem k_122 : Cond.classLink "TypeFinder$Writer" 9 "java/lang/StringBuilder" ∈ xb_g := xb_m 753 (by decide +kernel) (by decide)
theorem k_123 : Cond.instantiable "java/lang/StringBuilder" 4 ∈ xb_g := xb_m 179 (by decide +kernel) (by decide)
theorem k_124 : Cond.initialized "java/lang/StringBuilder" ∈ xb_g := xb_m 14 (by decide +kernel) (by decide)
set_option maxRecDepth 100000 in
theorem k_125 : Cond.code y_StringBuilder_init b_StringBuilder_init 1 none ∈ xb_g := xb_m 182 (by rfl) (by decide)
theorem k_126 : Cond.methodLink "TypeFinder$Writer" 11 y_StringBuilder_init ∈ xb_g := xb_m 754 (by decide +kernel) (by decide)
theorem k_127 : Cond.instanceMethod y_StringBuilder_init ∈ xb_g := xb_m 181 (by decide +kernel) (by decide)
theorem k_128 : Cond.fieldLink "TypeFinder$Writer" 12 "TypeFinder$Writer" "text" "Ljava/lang/StringBuilder;" ∈ xb_g := xb_m 757 (by decide +kernel) (by decide)
theorem k_129 : Cond.classLink "TypeFinder$Writer" 18 "java/util/ArrayList" ∈ xb_g := xb_m 755 (by decide +kernel) (by decide)
theorem k_130 : Cond.methodLink "TypeFinder$Writer" 20 y_ArrayList_init ∈ xb_g := xb_m 756 (by decide +kernel) (by decide)
theorem k_131 : Cond.fieldLink "TypeFinder$Writer" 21 "TypeFinder$Writer" "variables" "Ljava/util/ArrayList;" ∈ xb_g := xb_m 758 (by decide +kernel) (by decide)
theorem k_132 : Cond.methodLink "TypeFinder$DataParser" 3 objectInit ∈ xb_g := xb_m 444 (by decide +kernel) (by decide)
theorem k_133 : Cond.fieldLink "TypeFinder$DataParser" 9 "TypeFinder$DataParser" "tokens" "LTypeFinder$Tokens;" ∈ xb_g := xb_m 445 (by decide +kernel) (by decide)
theorem k_134 : Cond.methodLink "TypeFinder$Known" 3 objectInit ∈ xb_g := xb_m 468 (by decide +kernel) (by decide)
theorem k_135 : Cond.classLink "TypeFinder$Known" 9 "TypeFinder$Type" ∈ xb_g := xb_m 469 (by decide +kernel) (by decide)
theorem k_136 : Cond.methodLink "TypeFinder$Known" 11 y_TypeFinder_Type_init ∈ xb_g := xb_m 471 (by decide +kernel) (by decide)
theorem k_137 : Cond.fieldLink "TypeFinder$Known" 14 "TypeFinder$Known" "integer" "LTypeFinder$Type;" ∈ xb_g := xb_m 678 (by decide +kernel) (by decide)
theorem k_138 : Cond.classLink "TypeFinder$Known" 20 "java/util/ArrayList" ∈ xb_g := xb_m 517 (by decide +kernel) (by decide)
theorem k_139 : Cond.methodLink "TypeFinder$Known" 22 y_ArrayList_init ∈ xb_g := xb_m 519 (by decide +kernel) (by decide)
theorem k_140 : Cond.fieldLink "TypeFinder$Known" 23 "TypeFinder$Known" "dataTypes" "Ljava/util/ArrayList;" ∈ xb_g := xb_m 682 (by decide +kernel) (by decide)
theorem k_141 : Cond.fieldLink "TypeFinder$Known" 27 "TypeFinder$Known" "names" "Ljava/util/ArrayList;" ∈ xb_g := xb_m 684 (by decide +kernel) (by decide)
set_option maxRecDepth 100000 in
theorem k_142 : Cond.code y_TypeFinder_Tokens_packed b_TypeFinder_Tokens_packed 4 (some .long) ∈ xb_g := xb_m 422 (by rfl) (by decide)
theorem k_143 : Cond.initialized "TypeFinder$Tokens" ∈ xb_g := xb_m 3 (by decide +kernel) (by decide)
theorem k_144 : Cond.methodLink "TypeFinder$Known" 32 y_TypeFinder_Tokens_packed ∈ xb_g := xb_m 544 (by decide +kernel) (by decide)
theorem k_145 : Cond.static y_TypeFinder_Tokens_packed ∈ xb_g := xb_m 421 (by decide +kernel) (by decide)
set_option maxRecDepth 100000 in
theorem k_146 : Cond.code y_TypeFinder_DataType_made b_TypeFinder_DataType_made 6 (some (.object "TypeFinder$DataType")) ∈ xb_g := xb_m 547 (by rfl) (by decide)
theorem k_147 : Cond.methodLink "TypeFinder$Known" 38 y_TypeFinder_DataType_made ∈ xb_g := xb_m 545 (by decide +kernel) (by decide)
theorem k_148 : Cond.static y_TypeFinder_DataType_made ∈ xb_g := xb_m 546 (by decide +kernel) (by decide)
theorem k_149 : Cond.fieldLink "TypeFinder$Known" 44 "TypeFinder$DataType" "whole" "LTypeFinder$Type;" ∈ xb_g := xb_m 564 (by decide +kernel) (by decide)
theorem k_150 : Cond.fieldLink "TypeFinder$Known" 47 "TypeFinder$Known" "truth" "LTypeFinder$Type;" ∈ xb_g := xb_m 680 (by decide +kernel) (by decide)
theorem k_151 : Cond.fieldLink "TypeFinder$Known" 50 "TypeFinder$DataType" "constructors" "Ljava/util/ArrayList;" ∈ xb_g := xb_m 562 (by decide +kernel) (by decide)
theorem k_152 : Cond.classLink "TypeFinder$Known" 53 "TypeFinder$Name" ∈ xb_g := xb_m 582 (by decide +kernel) (by decide)
theorem k_153 : Cond.instantiable "TypeFinder$Name" 3 ∈ xb_g := xb_m 583 (by decide +kernel) (by decide)
theorem k_154 : Cond.initialized "TypeFinder$Name" ∈ xb_g := xb_m 26 (by decide +kernel) (by decide)
set_option maxRecDepth 100000 in
theorem k_155 : Cond.code y_TypeFinder_Name_init b_TypeFinder_Name_init 5 none ∈ xb_g := xb_m 587 (by rfl) (by decide)
theorem k_156 : Cond.methodLink "TypeFinder$Known" 57 y_TypeFinder_Name_init ∈ xb_g := xb_m 585 (by decide +kernel) (by decide)
theorem k_157 : Cond.instanceMethod y_TypeFinder_Name_init ∈ xb_g := xb_m 586 (by decide +kernel) (by decide)
set_option maxRecDepth 100000 in
theorem k_158 : Cond.code y_ArrayList_add2 b_ArrayList_add2 2 (some .boolean) ∈ xb_g := xb_m 608 (by rfl) (by decide)
theorem k_159 : Cond.methodLink "TypeFinder$Known" 60 y_ArrayList_add2 ∈ xb_g := xb_m 605 (by decide +kernel) (by decide)
theorem k_160 : Cond.instanceMethod y_ArrayList_add2 ∈ xb_g := xb_m 606 (by decide +kernel) (by decide)
theorem k_161 : Cond.selects "java/util/ArrayList" y_ArrayList_add2 y_ArrayList_add2 ∈ xb_g := xb_m 607 (by decide +kernel) (by decide)
theorem k_162 : Cond.fieldLink "TypeFinder$Known" 68 "TypeFinder$Type" "left" "LTypeFinder$Type;" ∈ xb_g := xb_m 487 (by decide +kernel) (by decide)
set_option maxRecDepth 100000 in
theorem k_163 : Cond.code y_TypeFinder_Unifier_function b_TypeFinder_Unifier_function 2 (some (.object "TypeFinder$Type")) ∈ xb_g := xb_m 663 (by rfl) (by decide)
theorem k_164 : Cond.methodLink "TypeFinder$Known" 71 y_TypeFinder_Unifier_function ∈ xb_g := xb_m 661 (by decide +kernel) (by decide)
theorem k_165 : Cond.static y_TypeFinder_Unifier_function ∈ xb_g := xb_m 662 (by decide +kernel) (by decide)
theorem k_166 : Cond.constantLong "TypeFinder$Known" 79 (58) ∈ xb_g := xb_m 667 (by decide +kernel) (by decide)
theorem k_167 : Cond.constantLong "TypeFinder$Known" 81 (43) ∈ xb_g := xb_m 668 (by decide +kernel) (by decide)
theorem k_168 : Cond.constantLong "TypeFinder$Known" 83 (45) ∈ xb_g := xb_m 669 (by decide +kernel) (by decide)
theorem k_169 : Cond.constantLong "TypeFinder$Known" 85 (42) ∈ xb_g := xb_m 670 (by decide +kernel) (by decide)
theorem k_170 : Cond.constantLong "TypeFinder$Known" 87 (47) ∈ xb_g := xb_m 671 (by decide +kernel) (by decide)
theorem k_171 : Cond.constantLong "TypeFinder$Known" 89 (60) ∈ xb_g := xb_m 672 (by decide +kernel) (by decide)
theorem k_172 : Cond.fieldLink "TypeFinder$Known" 91 "TypeFinder$Type" "comparable" "Z" ∈ xb_g := xb_m 479 (by decide +kernel) (by decide)
theorem k_173 : Cond.constantLong "TypeFinder$Known" 95 (63) ∈ xb_g := xb_m 673 (by decide +kernel) (by decide)
set_option maxRecDepth 100000 in
theorem k_174 : Cond.code y_ArrayList_size b_ArrayList_size 1 (some .int) ∈ xb_g := xb_m 677 (by rfl) (by decide)
theorem k_175 : Cond.methodLink "TypeFinder$Known" 97 y_ArrayList_size ∈ xb_g := xb_m 674 (by decide +kernel) (by decide)
theorem k_176 : Cond.instanceMethod y_ArrayList_size ∈ xb_g := xb_m 675 (by decide +kernel) (by decide)
theorem k_177 : Cond.selects "java/util/ArrayList" y_ArrayList_size y_ArrayList_size ∈ xb_g := xb_m 676 (by decide +kernel) (by decide)
theorem k_178 : Cond.fieldLink "TypeFinder$Known" 101 "TypeFinder$Known" "firstNames" "I" ∈ xb_g := xb_m 685 (by decide +kernel) (by decide)
theorem k_179 : Cond.methodLink "TypeFinder$Parser" 3 objectInit ∈ xb_g := xb_m 52 (by decide +kernel) (by decide)
theorem k_180 : Cond.classLink "TypeFinder$Parser" 9 "TypeFinder$Tokens" ∈ xb_g := xb_m 53 (by decide +kernel) (by decide)
theorem k_181 : Cond.instantiable "TypeFinder$Tokens" 5 ∈ xb_g := xb_m 54 (by decide +kernel) (by decide)
set_option maxRecDepth 100000 in
theorem k_182 : Cond.code y_TypeFinder_Tokens_init b_TypeFinder_Tokens_init 4 none ∈ xb_g := xb_m 57 (by rfl) (by decide)
theorem k_183 : Cond.methodLink "TypeFinder$Parser" 11 y_TypeFinder_Tokens_init ∈ xb_g := xb_m 55 (by decide +kernel) (by decide)
theorem k_184 : Cond.instanceMethod y_TypeFinder_Tokens_init ∈ xb_g := xb_m 56 (by decide +kernel) (by decide)
theorem k_185 : Cond.fieldLink "TypeFinder$Parser" 12 "TypeFinder$Parser" "tokens" "LTypeFinder$Tokens;" ∈ xb_g := xb_m 449 (by decide +kernel) (by decide)
theorem k_186 : Cond.classLink "TypeFinder$Parser" 18 "TypeFinder$DataParser" ∈ xb_g := xb_m 439 (by decide +kernel) (by decide)
theorem k_187 : Cond.instantiable "TypeFinder$DataParser" 1 ∈ xb_g := xb_m 440 (by decide +kernel) (by decide)
theorem k_188 : Cond.initialized "TypeFinder$DataParser" ∈ xb_g := xb_m 19 (by decide +kernel) (by decide)
set_option maxRecDepth 100000 in
theorem k_189 : Cond.code y_TypeFinder_DataParser_init b_TypeFinder_DataParser_init 2 none ∈ xb_g := xb_m 443 (by rfl) (by decide)
theorem k_190 : Cond.methodLink "TypeFinder$Parser" 20 y_TypeFinder_DataParser_init ∈ xb_g := xb_m 441 (by decide +kernel) (by decide)
theorem k_191 : Cond.instanceMethod y_TypeFinder_DataParser_init ∈ xb_g := xb_m 442 (by decide +kernel) (by decide)
theorem k_192 : Cond.fieldLink "TypeFinder$Parser" 23 "TypeFinder$Parser" "dataParser" "LTypeFinder$DataParser;" ∈ xb_g := xb_m 450 (by decide +kernel) (by decide)
theorem k_193 : Cond.arrayClass (.int) ∈ xb_g := xb_m 210 (by decide +kernel) (by decide)
theorem k_194 : Cond.fieldLink "TypeFinder$Parser" 27 "TypeFinder$Parser" "levels" "[I" ∈ xb_g := xb_m 451 (by decide +kernel) (by decide)
theorem k_195 : Cond.arrayClass (.boolean) ∈ xb_g := xb_m 462 (by decide +kernel) (by decide)
theorem k_196 : Cond.fieldLink "TypeFinder$Parser" 31 "TypeFinder$Parser" "rights" "[Z" ∈ xb_g := xb_m 452 (by decide +kernel) (by decide)
theorem k_197 : Cond.methodLink "TypeFinder" 1 objectInit ∈ xb_g := xb_m 44 (by decide +kernel) (by decide)
theorem k_198 : Cond.arrayClass (.char) ∈ xb_g := xb_m 209 (by decide +kernel) (by decide)
theorem k_199 : Cond.fieldLink "TypeFinder" 9 "TypeFinder" "draft" "[C" ∈ xb_g := xb_m 764 (by decide +kernel) (by decide)
theorem k_200 : Cond.classLink "TypeFinder" 13 "TypeFinder$Parser" ∈ xb_g := xb_m 47 (by decide +kernel) (by decide)
theorem k_201 : Cond.instantiable "TypeFinder$Parser" 4 ∈ xb_g := xb_m 48 (by decide +kernel) (by decide)
theorem k_202 : Cond.initialized "TypeFinder$Parser" ∈ xb_g := xb_m 2 (by decide +kernel) (by decide)
set_option maxRecDepth 100000 in
theorem k_203 : Cond.code y_TypeFinder_Parser_init b_TypeFinder_Parser_init 1 none ∈ xb_g := xb_m 51 (by rfl) (by decide)
theorem k_204 : Cond.methodLink "TypeFinder" 15 y_TypeFinder_Parser_init ∈ xb_g := xb_m 49 (by decide +kernel) (by decide)
theorem k_205 : Cond.instanceMethod y_TypeFinder_Parser_init ∈ xb_g := xb_m 50 (by decide +kernel) (by decide)
theorem k_206 : Cond.fieldLink "TypeFinder" 16 "TypeFinder" "parser" "LTypeFinder$Parser;" ∈ xb_g := xb_m 765 (by decide +kernel) (by decide)
theorem k_207 : Cond.classLink "TypeFinder" 20 "TypeFinder$Known" ∈ xb_g := xb_m 463 (by decide +kernel) (by decide)
theorem k_208 : Cond.instantiable "TypeFinder$Known" 5 ∈ xb_g := xb_m 464 (by decide +kernel) (by decide)
theorem k_209 : Cond.initialized "TypeFinder$Known" ∈ xb_g := xb_m 20 (by decide +kernel) (by decide)
set_option maxRecDepth 100000 in
theorem k_210 : Cond.code y_TypeFinder_Known_init b_TypeFinder_Known_init 6 none ∈ xb_g := xb_m 467 (by rfl) (by decide)
theorem k_211 : Cond.methodLink "TypeFinder" 22 y_TypeFinder_Known_init ∈ xb_g := xb_m 465 (by decide +kernel) (by decide)
theorem k_212 : Cond.instanceMethod y_TypeFinder_Known_init ∈ xb_g := xb_m 466 (by decide +kernel) (by decide)
theorem k_213 : Cond.fieldLink "TypeFinder" 23 "TypeFinder" "known" "LTypeFinder$Known;" ∈ xb_g := xb_m 766 (by decide +kernel) (by decide)
theorem k_214 : Cond.classLink "TypeFinder" 27 "TypeFinder$Checker" ∈ xb_g := xb_m 697 (by decide +kernel) (by decide)
theorem k_215 : Cond.instantiable "TypeFinder$Checker" 6 ∈ xb_g := xb_m 698 (by decide +kernel) (by decide)
theorem k_216 : Cond.initialized "TypeFinder$Checker" ∈ xb_g := xb_m 28 (by decide +kernel) (by decide)
set_option maxRecDepth 100000 in
theorem k_217 : Cond.code y_TypeFinder_Checker_init b_TypeFinder_Checker_init 2 none ∈ xb_g := xb_m 701 (by rfl) (by decide)
theorem k_218 : Cond.methodLink "TypeFinder" 29 y_TypeFinder_Checker_init ∈ xb_g := xb_m 699 (by decide +kernel) (by decide)
theorem k_219 : Cond.instanceMethod y_TypeFinder_Checker_init ∈ xb_g := xb_m 700 (by decide +kernel) (by decide)
theorem k_220 : Cond.fieldLink "TypeFinder" 32 "TypeFinder" "checker" "LTypeFinder$Checker;" ∈ xb_g := xb_m 767 (by decide +kernel) (by decide)
theorem k_221 : Cond.classLink "TypeFinder" 36 "TypeFinder$Writer" ∈ xb_g := xb_m 747 (by decide +kernel) (by decide)
theorem k_222 : Cond.instantiable "TypeFinder$Writer" 2 ∈ xb_g := xb_m 748 (by decide +kernel) (by decide)
theorem k_223 : Cond.initialized "TypeFinder$Writer" ∈ xb_g := xb_m 29 (by decide +kernel) (by decide)
set_option maxRecDepth 100000 in
theorem k_224 : Cond.code y_TypeFinder_Writer_init b_TypeFinder_Writer_init 1 none ∈ xb_g := xb_m 751 (by rfl) (by decide)
theorem k_225 : Cond.methodLink "TypeFinder" 38 y_TypeFinder_Writer_init ∈ xb_g := xb_m 749 (by decide +kernel) (by decide)
theorem k_226 : Cond.instanceMethod y_TypeFinder_Writer_init ∈ xb_g := xb_m 750 (by decide +kernel) (by decide)
theorem k_227 : Cond.fieldLink "TypeFinder" 39 "TypeFinder" "writer" "LTypeFinder$Writer;" ∈ xb_g := xb_m 768 (by decide +kernel) (by decide)
theorem k_228 : Cond.fieldLink "TypeFinderModel" 30 "TypeFinderModel" "nameOf" "[I" ∈ xb_g := xb_m 1608 (by decide +kernel) (by decide)
theorem k_229 : Cond.fieldLink "TypeFinderModel" 33 "TypeFinderModel" "rowSize" "[I" ∈ xb_g := xb_m 1609 (by decide +kernel) (by decide)
theorem k_230 : Cond.fieldLink "TypeFinderModel" 36 "TypeFinderModel" "rows" "[I" ∈ xb_g := xb_m 1610 (by decide +kernel) (by decide)
theorem k_231 : Cond.methodLink "TypeFinderModel" 1 objectInit ∈ xb_g := xb_m 1583 (by decide +kernel) (by decide)
theorem k_232 : Cond.fieldLink "TypeFinderModel" 7 "TypeFinderModel" "draft" "[I" ∈ xb_g := xb_m 1601 (by decide +kernel) (by decide)
theorem k_233 : Cond.fieldLink "TypeFinderModel" 13 "TypeFinderModel" "sign" "[I" ∈ xb_g := xb_m 1603 (by decide +kernel) (by decide)
theorem k_234 : Cond.fieldLink "TypeFinderModel" 16 "TypeFinderModel" "worth" "[I" ∈ xb_g := xb_m 1604 (by decide +kernel) (by decide)
theorem k_235 : Cond.fieldLink "TypeFinderModel" 19 "TypeFinderModel" "level" "[I" ∈ xb_g := xb_m 1605 (by decide +kernel) (by decide)
theorem k_236 : Cond.fieldLink "TypeFinderModel" 22 "TypeFinderModel" "rightly" "[Z" ∈ xb_g := xb_m 1606 (by decide +kernel) (by decide)
theorem k_237 : Cond.fieldLink "TypeFinderModel" 26 "TypeFinderModel" "names" "I" ∈ xb_g := xb_m 1607 (by decide +kernel) (by decide)
theorem k_238 : Cond.fieldLink "TypeFinderModel" 39 "TypeFinderModel" "datas" "I" ∈ xb_g := xb_m 1611 (by decide +kernel) (by decide)
theorem k_239 : Cond.fieldLink "TypeFinderModel" 42 "TypeFinderModel" "dataWord" "[I" ∈ xb_g := xb_m 1612 (by decide +kernel) (by decide)
end
section
theorem k_240 : Cond.fieldLink "TypeFinderModel" 45 "TypeFinderModel" "parameters" "[I" ∈ xb_g := xb_m 1613 (by decide +kernel) (by decide)
theorem k_241 : Cond.fieldLink "TypeFinderModel" 48 "TypeFinderModel" "alternatives" "[I" ∈ xb_g := xb_m 1614 (by decide +kernel) (by decide)
theorem k_242 : Cond.fieldLink "TypeFinderModel" 51 "TypeFinderModel" "allows" "[Z" ∈ xb_g := xb_m 1615 (by decide +kernel) (by decide)
theorem k_243 : Cond.fieldLink "TypeFinderModel" 54 "TypeFinderModel" "constructors" "I" ∈ xb_g := xb_m 1616 (by decide +kernel) (by decide)
theorem k_244 : Cond.fieldLink "TypeFinderModel" 57 "TypeFinderModel" "constructorWord" "[I" ∈ xb_g := xb_m 1617 (by decide +kernel) (by decide)
theorem k_245 : Cond.fieldLink "TypeFinderModel" 60 "TypeFinderModel" "constructorData" "[I" ∈ xb_g := xb_m 1618 (by decide +kernel) (by decide)
theorem k_246 : Cond.fieldLink "TypeFinderModel" 63 "TypeFinderModel" "constructorParts" "[I" ∈ xb_g := xb_m 1619 (by decide +kernel) (by decide)
theorem k_247 : Cond.fieldLink "TypeFinderModel" 66 "TypeFinderModel" "constructorSize" "[I" ∈ xb_g := xb_m 1620 (by decide +kernel) (by decide)
theorem k_248 : Cond.fieldLink "TypeFinderModel" 69 "TypeFinderModel" "constructorRow" "[I" ∈ xb_g := xb_m 1621 (by decide +kernel) (by decide)
theorem k_249 : Cond.fieldLink "TypeFinderModel" 72 "TypeFinderModel" "step" "[I" ∈ xb_g := xb_m 1625 (by decide +kernel) (by decide)
theorem k_250 : Cond.fieldLink "TypeFinderModel" 75 "TypeFinderModel" "one" "[I" ∈ xb_g := xb_m 1626 (by decide +kernel) (by decide)
theorem k_251 : Cond.fieldLink "TypeFinderModel" 78 "TypeFinderModel" "two" "[I" ∈ xb_g := xb_m 1627 (by decide +kernel) (by decide)
theorem k_252 : Cond.fieldLink "TypeFinderModel" 81 "TypeFinderModel" "open" "[I" ∈ xb_g := xb_m 1629 (by decide +kernel) (by decide)
theorem k_253 : Cond.fieldLink "TypeFinderModel" 84 "TypeFinderModel" "deep" "[I" ∈ xb_g := xb_m 1630 (by decide +kernel) (by decide)
theorem k_254 : Cond.fieldLink "TypeFinderModel" 87 "TypeFinderModel" "first" "[I" ∈ xb_g := xb_m 1631 (by decide +kernel) (by decide)
theorem k_255 : Cond.fieldLink "TypeFinderModel" 90 "TypeFinderModel" "second" "[I" ∈ xb_g := xb_m 1632 (by decide +kernel) (by decide)
theorem k_256 : Cond.fieldLink "TypeFinderModel" 93 "TypeFinderModel" "third" "[I" ∈ xb_g := xb_m 1633 (by decide +kernel) (by decide)
theorem k_257 : Cond.fieldLink "TypeFinderModel" 96 "TypeFinderModel" "flags" "[I" ∈ xb_g := xb_m 1634 (by decide +kernel) (by decide)
theorem k_258 : Cond.fieldLink "TypeFinderModel" 99 "TypeFinderModel" "waits" "[I" ∈ xb_g := xb_m 1639 (by decide +kernel) (by decide)
theorem k_259 : Cond.fieldLink "TypeFinderModel" 102 "TypeFinderModel" "kind" "[I" ∈ xb_g := xb_m 1641 (by decide +kernel) (by decide)
theorem k_260 : Cond.fieldLink "TypeFinderModel" 105 "TypeFinderModel" "left" "[I" ∈ xb_g := xb_m 1642 (by decide +kernel) (by decide)
theorem k_261 : Cond.fieldLink "TypeFinderModel" 108 "TypeFinderModel" "right" "[I" ∈ xb_g := xb_m 1643 (by decide +kernel) (by decide)
theorem k_262 : Cond.fieldLink "TypeFinderModel" 111 "TypeFinderModel" "seen" "[I" ∈ xb_g := xb_m 1644 (by decide +kernel) (by decide)
theorem k_263 : Cond.fieldLink "TypeFinderModel" 114 "TypeFinderModel" "copied" "[I" ∈ xb_g := xb_m 1645 (by decide +kernel) (by decide)
theorem k_264 : Cond.fieldLink "TypeFinderModel" 117 "TypeFinderModel" "piled" "[I" ∈ xb_g := xb_m 1648 (by decide +kernel) (by decide)
theorem k_265 : Cond.fieldLink "TypeFinderModel" 120 "TypeFinderModel" "also" "[I" ∈ xb_g := xb_m 1649 (by decide +kernel) (by decide)
theorem k_266 : Cond.fieldLink "TypeFinderModel" 123 "TypeFinderModel" "hold" "[I" ∈ xb_g := xb_m 1651 (by decide +kernel) (by decide)
theorem k_267 : Cond.fieldLink "TypeFinderModel" 126 "TypeFinderModel" "boundWord" "[I" ∈ xb_g := xb_m 1653 (by decide +kernel) (by decide)
theorem k_268 : Cond.fieldLink "TypeFinderModel" 129 "TypeFinderModel" "boundType" "[I" ∈ xb_g := xb_m 1654 (by decide +kernel) (by decide)
theorem k_269 : Cond.fieldLink "TypeFinderModel" 132 "TypeFinderModel" "found" "[I" ∈ xb_g := xb_m 1656 (by decide +kernel) (by decide)
theorem k_270 : Cond.fieldLink "TypeFinderModel" 135 "TypeFinderModel" "firstPattern" "[I" ∈ xb_g := xb_m 1657 (by decide +kernel) (by decide)
theorem k_271 : Cond.fieldLink "TypeFinderModel" 138 "TypeFinderModel" "patternKind" "[I" ∈ xb_g := xb_m 1659 (by decide +kernel) (by decide)
theorem k_272 : Cond.fieldLink "TypeFinderModel" 141 "TypeFinderModel" "patternOf" "[I" ∈ xb_g := xb_m 1660 (by decide +kernel) (by decide)
theorem k_273 : Cond.fieldLink "TypeFinderModel" 144 "TypeFinderModel" "matched" "[I" ∈ xb_g := xb_m 1664 (by decide +kernel) (by decide)
theorem k_274 : Cond.fieldLink "TypeFinderModel" 147 "TypeFinderModel" "text" "[I" ∈ xb_g := xb_m 1666 (by decide +kernel) (by decide)
theorem k_275 : Cond.fieldLink "TypeFinderModel" 150 "TypeFinderModel" "piece" "[I" ∈ xb_g := xb_m 1671 (by decide +kernel) (by decide)
theorem k_276 : Cond.fieldLink "TypeFinderModel" 153 "TypeFinderModel" "pieceWord" "[I" ∈ xb_g := xb_m 1672 (by decide +kernel) (by decide)
theorem k_277 : Cond.fieldLink "TypeFinderModel" 156 "TypeFinderModel" "pieceParts" "[I" ∈ xb_g := xb_m 1673 (by decide +kernel) (by decide)
theorem k_278 : Cond.fieldLink "TypeFinderModel" 159 "TypeFinderModel" "parameterWord" "[I" ∈ xb_g := xb_m 1674 (by decide +kernel) (by decide)
theorem k_279 : Cond.fieldLink "TypeFinderModel" 162 "TypeFinderModel" "choiceWord" "[I" ∈ xb_g := xb_m 1676 (by decide +kernel) (by decide)
theorem k_280 : Cond.fieldLink "TypeFinderModel" 165 "TypeFinderModel" "choiceParts" "[I" ∈ xb_g := xb_m 1677 (by decide +kernel) (by decide)
set_option maxRecDepth 100000 in
theorem k_281 : Cond.code y_TypeFinderModel_setName b_TypeFinderModel_setName 7 none ∈ xb_g := xb_m 1587 (by rfl) (by decide)
theorem k_282 : Cond.initialized "TypeFinderModel" ∈ xb_g := xb_m 30 (by decide +kernel) (by decide)
theorem k_283 : Cond.methodLink "TypeFinderModel" 168 y_TypeFinderModel_setName ∈ xb_g := xb_m 1584 (by decide +kernel) (by decide)
theorem k_284 : Cond.instanceMethod y_TypeFinderModel_setName ∈ xb_g := xb_m 1586 (by decide +kernel) (by decide)
theorem k_285 : Cond.selects "TypeFinderModel" y_TypeFinderModel_setName y_TypeFinderModel_setName ∈ xb_g := xb_ms (q := (y_TypeFinderModel_setName, 80)) (by decide +kernel) (by decide)
theorem k_286 : Cond.constantLong "TypeFinderModel" 172 (1819242338) ∈ xb_g := xb_m 1588 (by decide +kernel) (by decide)
set_option maxRecDepth 100000 in
theorem k_287 : Cond.code y_TypeFinderModel_wordOf b_TypeFinderModel_wordOf 4 (some .int) ∈ xb_g := xb_m 1591 (by rfl) (by decide)
theorem k_288 : Cond.methodLink "TypeFinderModel" 174 y_TypeFinderModel_wordOf ∈ xb_g := xb_m 1589 (by decide +kernel) (by decide)
theorem k_289 : Cond.static y_TypeFinderModel_wordOf ∈ xb_g := xb_m 1590 (by decide +kernel) (by decide)
theorem k_290 : Cond.constantLong "TypeFinderModel" 178 (1953720684) ∈ xb_g := xb_m 1594 (by decide +kernel) (by decide)
theorem k_291 : Cond.constantLong "TypeFinderModel" 180 (1702195796) ∈ xb_g := xb_m 1595 (by decide +kernel) (by decide)
theorem k_292 : Cond.constantLong "TypeFinderModel" 182 (435728179526) ∈ xb_g := xb_m 1596 (by decide +kernel) (by decide)
theorem k_293 : Cond.constantLong "TypeFinderModel" 184 (7104846) ∈ xb_g := xb_m 1597 (by decide +kernel) (by decide)
theorem k_294 : Cond.fieldLink "TypeFinder" 47 "TypeFinder" "length" "I" ∈ xb_g := xb_m 769 (by decide +kernel) (by decide)
theorem k_295 : Cond.fieldLink "TypeFinder" 51 "TypeFinder" "refusals" "I" ∈ xb_g := xb_m 770 (by decide +kernel) (by decide)
theorem k_296 : Cond.fieldLink "TypeFinder$Tokens" 42 "TypeFinder$Tokens" "size" "I" ∈ xb_g := xb_m 426 (by decide +kernel) (by decide)
theorem k_297 : Cond.fieldLink "TypeFinder$Tokens" 9 "TypeFinder$Tokens" "kinds" "[I" ∈ xb_g := xb_m 423 (by decide +kernel) (by decide)
theorem k_298 : Cond.fieldLink "TypeFinder$Tokens" 15 "TypeFinder$Tokens" "values" "[J" ∈ xb_g := xb_m 424 (by decide +kernel) (by decide)
theorem k_299 : Cond.fieldLink "TypeFinder$Tokens" 46 "TypeFinder$Tokens" "at" "I" ∈ xb_g := xb_m 427 (by decide +kernel) (by decide)
set_option maxRecDepth 100000 in
theorem k_300 : Cond.code y_TypeFinder_Tokens_put b_TypeFinder_Tokens_put 4 none ∈ xb_g := xb_m 1080 (by rfl) (by decide)
theorem k_301 : Cond.methodLink "TypeFinder$Tokens" 63 y_TypeFinder_Tokens_put ∈ xb_g := xb_m 1077 (by decide +kernel) (by decide)
theorem k_302 : Cond.instanceMethod y_TypeFinder_Tokens_put ∈ xb_g := xb_m 1079 (by decide +kernel) (by decide)
theorem k_303 : Cond.selects "TypeFinder$Tokens" y_TypeFinder_Tokens_put y_TypeFinder_Tokens_put ∈ xb_g := xb_ms (q := (y_TypeFinder_Tokens_put, 5)) (by decide +kernel) (by decide)
theorem k_304 : Cond.classLink "TypeFinder$Tokens" 74 "java/lang/IllegalArgumentException" ∈ xb_g := xb_m 1062 (by decide +kernel) (by decide)
theorem k_305 : Cond.instantiable "java/lang/IllegalArgumentException" 6 ∈ xb_g := xb_m 135 (by decide +kernel) (by decide)
theorem k_306 : Cond.initialized "java/lang/IllegalArgumentException" ∈ xb_g := xb_m 12 (by decide +kernel) (by decide)
set_option maxRecDepth 100000 in
theorem k_307 : Cond.code y_TypeFinder_Tokens_take b_TypeFinder_Tokens_take 4 (some .long) ∈ xb_g := xb_m 1109 (by rfl) (by decide)
theorem k_308 : Cond.methodLink "TypeFinder$Parser" 66 y_TypeFinder_Tokens_take ∈ xb_g := xb_m 1194 (by decide +kernel) (by decide)
theorem k_309 : Cond.instanceMethod y_TypeFinder_Tokens_take ∈ xb_g := xb_m 1107 (by decide +kernel) (by decide)
theorem k_310 : Cond.selects "TypeFinder$Tokens" y_TypeFinder_Tokens_take y_TypeFinder_Tokens_take ∈ xb_g := xb_m 1108 (by decide +kernel) (by decide)
set_option maxRecDepth 100000 in
theorem k_311 : Cond.code y_TypeFinder_Tokens_read b_TypeFinder_Tokens_read 7 none ∈ xb_g := xb_m 1051 (by rfl) (by decide)
theorem k_312 : Cond.methodLink "TypeFinder$Parser" 43 y_TypeFinder_Tokens_read ∈ xb_g := xb_m 1048 (by decide +kernel) (by decide)
theorem k_313 : Cond.instanceMethod y_TypeFinder_Tokens_read ∈ xb_g := xb_m 1049 (by decide +kernel) (by decide)
theorem k_314 : Cond.selects "TypeFinder$Tokens" y_TypeFinder_Tokens_read y_TypeFinder_Tokens_read ∈ xb_g := xb_m 1050 (by decide +kernel) (by decide)
set_option maxRecDepth 100000 in
theorem k_315 : Cond.code y_TypeFinder_Tokens_accept b_TypeFinder_Tokens_accept 2 (some .boolean) ∈ xb_g := xb_m 1099 (by rfl) (by decide)
theorem k_316 : Cond.methodLink "TypeFinder$Parser" 47 y_TypeFinder_Tokens_accept ∈ xb_g := xb_m 1096 (by decide +kernel) (by decide)
theorem k_317 : Cond.instanceMethod y_TypeFinder_Tokens_accept ∈ xb_g := xb_m 1097 (by decide +kernel) (by decide)
theorem k_318 : Cond.selects "TypeFinder$Tokens" y_TypeFinder_Tokens_accept y_TypeFinder_Tokens_accept ∈ xb_g := xb_m 1098 (by decide +kernel) (by decide)
set_option maxRecDepth 100000 in
theorem k_319 : Cond.code y_TypeFinder_Tokens_kindBehind b_TypeFinder_Tokens_kindBehind 1 (some .int) ∈ xb_g := xb_m 1184 (by rfl) (by decide)
theorem k_320 : Cond.methodLink "TypeFinder$Parser" 55 y_TypeFinder_Tokens_kindBehind ∈ xb_g := xb_m 1189 (by decide +kernel) (by decide)
theorem k_321 : Cond.instanceMethod y_TypeFinder_Tokens_kindBehind ∈ xb_g := xb_m 1182 (by decide +kernel) (by decide)
theorem k_322 : Cond.selects "TypeFinder$Tokens" y_TypeFinder_Tokens_kindBehind y_TypeFinder_Tokens_kindBehind ∈ xb_g := xb_m 1183 (by decide +kernel) (by decide)
set_option maxRecDepth 100000 in
theorem k_323 : Cond.code y_TypeFinder_Parser_definition b_TypeFinder_Parser_definition 8 (some (.object "TypeFinder$Node")) ∈ xb_g := xb_m 1216 (by rfl) (by decide)
theorem k_324 : Cond.methodLink "TypeFinder$Parser" 62 y_TypeFinder_Parser_definition ∈ xb_g := xb_m 1213 (by decide +kernel) (by decide)
theorem k_325 : Cond.instanceMethod y_TypeFinder_Parser_definition ∈ xb_g := xb_m 1215 (by decide +kernel) (by decide)
theorem k_326 : Cond.selects "TypeFinder$Parser" y_TypeFinder_Parser_definition y_TypeFinder_Parser_definition ∈ xb_g := xb_ms (q := (y_TypeFinder_Parser_definition, 4)) (by decide +kernel) (by decide)
set_option maxRecDepth 100000 in
theorem k_327 : Cond.code y_TypeFinder_Tokens_is b_TypeFinder_Tokens_is 2 (some .boolean) ∈ xb_g := xb_m 1146 (by rfl) (by decide)
theorem k_328 : Cond.methodLink "TypeFinder$Parser" 86 y_TypeFinder_Tokens_is ∈ xb_g := xb_m 1217 (by decide +kernel) (by decide)
theorem k_329 : Cond.instanceMethod y_TypeFinder_Tokens_is ∈ xb_g := xb_m 1144 (by decide +kernel) (by decide)
theorem k_330 : Cond.selects "TypeFinder$Tokens" y_TypeFinder_Tokens_is y_TypeFinder_Tokens_is ∈ xb_g := xb_m 1145 (by decide +kernel) (by decide)
set_option maxRecDepth 100000 in
theorem k_331 : Cond.code y_TypeFinder_Parser_atom b_TypeFinder_Parser_atom 4 (some (.object "TypeFinder$Node")) ∈ xb_g := xb_m 1254 (by rfl) (by decide)
theorem k_332 : Cond.methodLink "TypeFinder$Parser" 148 y_TypeFinder_Parser_atom ∈ xb_g := xb_m 1251 (by decide +kernel) (by decide)
theorem k_333 : Cond.instanceMethod y_TypeFinder_Parser_atom ∈ xb_g := xb_m 1253 (by decide +kernel) (by decide)
theorem k_334 : Cond.selects "TypeFinder$Parser" y_TypeFinder_Parser_atom y_TypeFinder_Parser_atom ∈ xb_g := xb_ms (q := (y_TypeFinder_Parser_atom, 4)) (by decide +kernel) (by decide)
set_option maxRecDepth 100000 in
theorem k_335 : Cond.code y_TypeFinder_Parser_application b_TypeFinder_Parser_application 5 (some (.object "TypeFinder$Node")) ∈ xb_g := xb_m 1250 (by rfl) (by decide)
theorem k_336 : Cond.methodLink "TypeFinder$Parser" 123 y_TypeFinder_Parser_application ∈ xb_g := xb_m 1247 (by decide +kernel) (by decide)
theorem k_337 : Cond.instanceMethod y_TypeFinder_Parser_application ∈ xb_g := xb_m 1249 (by decide +kernel) (by decide)
theorem k_338 : Cond.selects "TypeFinder$Parser" y_TypeFinder_Parser_application y_TypeFinder_Parser_application ∈ xb_g := xb_ms (q := (y_TypeFinder_Parser_application, 4)) (by decide +kernel) (by decide)
set_option maxRecDepth 100000 in
theorem k_339 : Cond.code y_TypeFinder_Parser_chain b_TypeFinder_Parser_chain 7 (some (.object "TypeFinder$Node")) ∈ xb_g := xb_m 1246 (by rfl) (by decide)
theorem k_340 : Cond.methodLink "TypeFinder$Parser" 104 y_TypeFinder_Parser_chain ∈ xb_g := xb_m 1243 (by decide +kernel) (by decide)
theorem k_341 : Cond.instanceMethod y_TypeFinder_Parser_chain ∈ xb_g := xb_m 1245 (by decide +kernel) (by decide)
theorem k_342 : Cond.selects "TypeFinder$Parser" y_TypeFinder_Parser_chain y_TypeFinder_Parser_chain ∈ xb_g := xb_ms (q := (y_TypeFinder_Parser_chain, 4)) (by decide +kernel) (by decide)
set_option maxRecDepth 100000 in
theorem k_343 : Cond.code y_TypeFinder_Parser_expression b_TypeFinder_Parser_expression 2 (some (.object "TypeFinder$Node")) ∈ xb_g := xb_m 1201 (by rfl) (by decide)
theorem k_344 : Cond.methodLink "TypeFinder$Parser" 70 y_TypeFinder_Parser_expression ∈ xb_g := xb_m 1198 (by decide +kernel) (by decide)
theorem k_345 : Cond.instanceMethod y_TypeFinder_Parser_expression ∈ xb_g := xb_m 1200 (by decide +kernel) (by decide)
theorem k_346 : Cond.selects "TypeFinder$Parser" y_TypeFinder_Parser_expression y_TypeFinder_Parser_expression ∈ xb_g := xb_ms (q := (y_TypeFinder_Parser_expression, 4)) (by decide +kernel) (by decide)
set_option maxRecDepth 100000 in
theorem k_347 : Cond.code y_TypeFinder_takeDraft b_TypeFinder_takeDraft 2 (some .int) ∈ xb_g := xb_m 1043 (by rfl) (by decide)
theorem k_348 : Cond.initialized "TypeFinder" ∈ xb_g := xb_m 1 (by decide +kernel) (by decide)
theorem k_349 : Cond.methodLink "TypeFinder" 54 y_TypeFinder_takeDraft ∈ xb_g := xb_m 1040 (by decide +kernel) (by decide)
theorem k_350 : Cond.instanceMethod y_TypeFinder_takeDraft ∈ xb_g := xb_m 1042 (by decide +kernel) (by decide)
theorem k_351 : Cond.selects "TypeFinder" y_TypeFinder_takeDraft y_TypeFinder_takeDraft ∈ xb_g := xb_ms (q := (y_TypeFinder_takeDraft, 9)) (by decide +kernel) (by decide)
set_option maxRecDepth 100000 in
theorem k_352 : Cond.code y_TypeFinder_Parser_declaration b_TypeFinder_Parser_declaration 4 (some (.object "TypeFinder$Node")) ∈ xb_g := xb_m 1047 (by rfl) (by decide)
theorem k_353 : Cond.methodLink "TypeFinder" 58 y_TypeFinder_Parser_declaration ∈ xb_g := xb_m 1044 (by decide +kernel) (by decide)
theorem k_354 : Cond.instanceMethod y_TypeFinder_Parser_declaration ∈ xb_g := xb_m 1045 (by decide +kernel) (by decide)
theorem k_355 : Cond.selects "TypeFinder$Parser" y_TypeFinder_Parser_declaration y_TypeFinder_Parser_declaration ∈ xb_g := xb_m 1046 (by decide +kernel) (by decide)
set_option maxRecDepth 100000 in
theorem k_356 : Cond.code y_TypeFinder_Parser_question b_TypeFinder_Parser_question 4 (some (.object "TypeFinder$Node")) ∈ xb_g := xb_m 1573 (by rfl) (by decide)
theorem k_357 : Cond.methodLink "TypeFinder" 85 y_TypeFinder_Parser_question ∈ xb_g := xb_m 1570 (by decide +kernel) (by decide)
theorem k_358 : Cond.instanceMethod y_TypeFinder_Parser_question ∈ xb_g := xb_m 1571 (by decide +kernel) (by decide)
theorem k_359 : Cond.selects "TypeFinder$Parser" y_TypeFinder_Parser_question y_TypeFinder_Parser_question ∈ xb_g := xb_m 1572 (by decide +kernel) (by decide)
end
section
set_option maxRecDepth 100000 in
theorem k_360 : Cond.code y_Preconditions_checkFromToIndex b_Preconditions_checkFromToIndex 4 (some .int) ∈ xb_g := xb_m 118 (by rfl) (by decide)
theorem k_361 : Cond.methodLink "java/lang/String" 1062 y_Preconditions_checkFromToIndex ∈ xb_g := xb_m 116 (by decide +kernel) (by decide)
theorem k_362 : Cond.static y_Preconditions_checkFromToIndex ∈ xb_g := xb_m 117 (by decide +kernel) (by decide)
set_option maxRecDepth 100000 in
theorem k_363 : Cond.code y_Arrays_checkLength b_Arrays_checkLength 2 none ∈ xb_g := xb_m 133 (by rfl) (by decide)
theorem k_364 : Cond.initialized "java/util/Arrays" ∈ xb_g := xb_m 8 (by decide +kernel) (by decide)
theorem k_365 : Cond.methodLink "java/util/Arrays" 343 y_Arrays_checkLength ∈ xb_g := xb_m 131 (by decide +kernel) (by decide)
theorem k_366 : Cond.static y_Arrays_checkLength ∈ xb_g := xb_m 132 (by decide +kernel) (by decide)
theorem k_367 : Cond.methodLink "java/util/Arrays" 304 Lib.Math.min.name ∈ xb_g := xb_m 252 (by decide +kernel) (by decide)
theorem k_368 : Cond.static Lib.Math.min.name ∈ xb_g := xb_m 253 (by decide +kernel) (by decide)
set_option maxRecDepth 100000 in
theorem k_369 : Cond.code Lib.Math.min.name Lib.Math.min.code 2 (some .int) ∈ xb_g := xb_m 254 (by rfl) (by decide)
theorem k_370 : Cond.methodLink "java/util/Arrays" 150 arraycopyName ∈ xb_g := xb_m 255 (by decide +kernel) (by decide)
theorem k_371 : Cond.native arraycopyName ∈ xb_g := xb_m 257 (by decide +kernel) (by decide)
theorem k_372 : Cond.static arraycopyName ∈ xb_g := xb_m 256 (by decide +kernel) (by decide)
theorem k_373 : Cond.initialized "java/lang/System" ∈ xb_g := xb_m 18 (by decide +kernel) (by decide)
set_option maxRecDepth 100000 in
theorem k_374 : Cond.code y_Arrays_copyOfRangeByte b_Arrays_copyOfRangeByte 5 (some (.array .byte)) ∈ xb_g := xb_m 130 (by rfl) (by decide)
theorem k_375 : Cond.methodLink "java/util/Arrays" 339 y_Arrays_copyOfRangeByte ∈ xb_g := xb_m 128 (by decide +kernel) (by decide)
theorem k_376 : Cond.static y_Arrays_copyOfRangeByte ∈ xb_g := xb_m 129 (by decide +kernel) (by decide)
theorem k_377 : Cond.methodLink "java/lang/String" 1 objectInit ∈ xb_g := xb_m 346 (by decide +kernel) (by decide)
theorem k_378 : Cond.classLink "java/lang/StringLatin1" 1 "java/lang/String" ∈ xb_g := xb_m 123 (by decide +kernel) (by decide)
theorem k_379 : Cond.instantiable "java/lang/String" 4 ∈ xb_g := xb_m 124 (by decide +kernel) (by decide)
set_option maxRecDepth 100000 in
theorem k_380 : Cond.code y_Arrays_copyOfRange b_Arrays_copyOfRange 3 (some (.array .byte)) ∈ xb_g := xb_m 127 (by rfl) (by decide)
theorem k_381 : Cond.methodLink "java/lang/StringLatin1" 232 y_Arrays_copyOfRange ∈ xb_g := xb_m 125 (by decide +kernel) (by decide)
theorem k_382 : Cond.static y_Arrays_copyOfRange ∈ xb_g := xb_m 126 (by decide +kernel) (by decide)
set_option maxRecDepth 100000 in
theorem k_383 : Cond.code y_String_init b_String_init 3 none ∈ xb_g := xb_m 410 (by rfl) (by decide)
theorem k_384 : Cond.methodLink "java/lang/StringLatin1" 112 y_String_init ∈ xb_g := xb_m 408 (by decide +kernel) (by decide)
theorem k_385 : Cond.instanceMethod y_String_init ∈ xb_g := xb_m 409 (by decide +kernel) (by decide)
set_option maxRecDepth 100000 in
theorem k_386 : Cond.code y_StringLatin1_newString b_StringLatin1_newString 3 (some (.object "java/lang/String")) ∈ xb_g := xb_m 121 (by rfl) (by decide)
theorem k_387 : Cond.methodLink "java/lang/String" 685 y_StringLatin1_newString ∈ xb_g := xb_m 119 (by decide +kernel) (by decide)
theorem k_388 : Cond.static y_StringLatin1_newString ∈ xb_g := xb_m 120 (by decide +kernel) (by decide)
set_option maxRecDepth 100000 in
theorem k_389 : Cond.code y_String_length b_String_length 1 (some .int) ∈ xb_g := xb_m 63 (by rfl) (by decide)
theorem k_390 : Cond.methodLink "java/lang/String" 505 y_String_length ∈ xb_g := xb_m 112 (by decide +kernel) (by decide)
theorem k_391 : Cond.instanceMethod y_String_length ∈ xb_g := xb_m 61 (by decide +kernel) (by decide)
theorem k_392 : Cond.selects "java/lang/String" y_String_length y_String_length ∈ xb_g := xb_m 62 (by decide +kernel) (by decide)
set_option maxRecDepth 100000 in
theorem k_393 : Cond.code y_String_checkBoundsBeginEnd b_String_checkBoundsBeginEnd 3 none ∈ xb_g := xb_m 115 (by rfl) (by decide)
theorem k_394 : Cond.methodLink "java/lang/String" 521 y_String_checkBoundsBeginEnd ∈ xb_g := xb_m 113 (by decide +kernel) (by decide)
theorem k_395 : Cond.static y_String_checkBoundsBeginEnd ∈ xb_g := xb_m 114 (by decide +kernel) (by decide)
theorem k_396 : Cond.methodLink "TypeFinder$Tokens" 24 y_String_length ∈ xb_g := xb_m 60 (by decide +kernel) (by decide)
set_option maxRecDepth 100000 in
theorem k_397 : Cond.code y_String_charAt b_String_charAt 2 (some .char) ∈ xb_g := xb_m 73 (by rfl) (by decide)
theorem k_398 : Cond.methodLink "TypeFinder$Tokens" 30 y_String_charAt ∈ xb_g := xb_m 70 (by decide +kernel) (by decide)
theorem k_399 : Cond.instanceMethod y_String_charAt ∈ xb_g := xb_m 71 (by decide +kernel) (by decide)
theorem k_400 : Cond.selects "java/lang/String" y_String_charAt y_String_charAt ∈ xb_g := xb_m 72 (by decide +kernel) (by decide)
theorem k_401 : Cond.constantLong "TypeFinderModel" 186 (255) ∈ xb_g := xb_m 1592 (by decide +kernel) (by decide)
theorem k_402 : Cond.constantLong "TypeFinderModel" 188 (31) ∈ xb_g := xb_m 1593 (by decide +kernel) (by decide)
theorem k_403 : Cond.methodLink "TypeFinder$Tokens" 3 objectInit ∈ xb_g := xb_m 58 (by decide +kernel) (by decide)
theorem k_404 : Cond.arrayClass (.long) ∈ xb_g := xb_m 211 (by decide +kernel) (by decide)
theorem k_405 : Cond.fieldLink "TypeFinder$Tokens" 19 "TypeFinder$Tokens" "keywords" "[J" ∈ xb_g := xb_m 425 (by decide +kernel) (by decide)
set_option maxRecDepth 100000 in
theorem k_406 : Cond.code y_String_substring b_String_substring 5 (some (.object "java/lang/String")) ∈ xb_g := xb_m 111 (by rfl) (by decide)
theorem k_407 : Cond.methodLink "TypeFinder$Tokens" 34 y_String_substring ∈ xb_g := xb_m 108 (by decide +kernel) (by decide)
theorem k_408 : Cond.instanceMethod y_String_substring ∈ xb_g := xb_m 109 (by decide +kernel) (by decide)
theorem k_409 : Cond.selects "java/lang/String" y_String_substring y_String_substring ∈ xb_g := xb_m 110 (by decide +kernel) (by decide)
theorem k_410 : Cond.methodLink "TypeFinder$Tokens" 38 y_TypeFinder_Tokens_packed ∈ xb_g := xb_m 420 (by decide +kernel) (by decide)
theorem k_411 : Cond.fieldLink "TypeFinderModel" 190 "TypeFinderModel" "code" "I" ∈ xb_g := xb_m 1598 (by decide +kernel) (by decide)
theorem k_412 : Cond.fieldLink "TypeFinderModel" 495 "TypeFinderModel" "failures" "I" ∈ xb_g := xb_m 1599 (by decide +kernel) (by decide)
theorem k_413 : Cond.fieldLink "TypeFinderModel" 196 "TypeFinderModel" "signs" "I" ∈ xb_g := xb_m 1602 (by decide +kernel) (by decide)
theorem k_414 : Cond.fieldLink "TypeFinderModel" 230 "TypeFinderModel" "bad" "Z" ∈ xb_g := xb_m 1623 (by decide +kernel) (by decide)
theorem k_415 : Cond.fieldLink "TypeFinderModel" 193 "TypeFinderModel" "drafted" "I" ∈ xb_g := xb_m 1600 (by decide +kernel) (by decide)
set_option maxRecDepth 100000 in
theorem k_416 : Cond.code y_TypeFinderModel_put b_TypeFinderModel_put 3 none ∈ xb_g := xb_m 1891 (by rfl) (by decide)
theorem k_417 : Cond.methodLink "TypeFinderModel" 237 y_TypeFinderModel_put ∈ xb_g := xb_m 1888 (by decide +kernel) (by decide)
theorem k_418 : Cond.instanceMethod y_TypeFinderModel_put ∈ xb_g := xb_m 1890 (by decide +kernel) (by decide)
theorem k_419 : Cond.selects "TypeFinderModel" y_TypeFinderModel_put y_TypeFinderModel_put ∈ xb_g := xb_ms (q := (y_TypeFinderModel_put, 80)) (by decide +kernel) (by decide)
theorem k_420 : Cond.fieldLink "TypeFinderModel" 256 "TypeFinderModel" "at" "I" ∈ xb_g := xb_m 1622 (by decide +kernel) (by decide)
set_option maxRecDepth 100000 in
theorem k_421 : Cond.code y_TypeFinderModel_split b_TypeFinderModel_split 4 none ∈ xb_g := xb_m 1860 (by rfl) (by decide)
theorem k_422 : Cond.methodLink "TypeFinderModel" 498 y_TypeFinderModel_split ∈ xb_g := xb_m 1857 (by decide +kernel) (by decide)
theorem k_423 : Cond.instanceMethod y_TypeFinderModel_split ∈ xb_g := xb_m 1859 (by decide +kernel) (by decide)
theorem k_424 : Cond.selects "TypeFinderModel" y_TypeFinderModel_split y_TypeFinderModel_split ∈ xb_g := xb_ms (q := (y_TypeFinderModel_split, 80)) (by decide +kernel) (by decide)
theorem k_425 : Cond.fieldLink "TypeFinderModel" 271 "TypeFinderModel" "steps" "I" ∈ xb_g := xb_m 1624 (by decide +kernel) (by decide)
set_option maxRecDepth 100000 in
theorem k_426 : Cond.code y_TypeFinderModel_begin b_TypeFinderModel_begin 1 (some .boolean) ∈ xb_g := xb_m 1856 (by rfl) (by decide)
theorem k_427 : Cond.methodLink "TypeFinderModel" 501 y_TypeFinderModel_begin ∈ xb_g := xb_m 1853 (by decide +kernel) (by decide)
theorem k_428 : Cond.instanceMethod y_TypeFinderModel_begin ∈ xb_g := xb_m 1855 (by decide +kernel) (by decide)
theorem k_429 : Cond.selects "TypeFinderModel" y_TypeFinderModel_begin y_TypeFinderModel_begin ∈ xb_g := xb_ms (q := (y_TypeFinderModel_begin, 80)) (by decide +kernel) (by decide)
set_option maxRecDepth 100000 in
theorem k_430 : Cond.code y_TypeFinderModel_peek b_TypeFinderModel_peek 1 (some .int) ∈ xb_g := xb_m 1916 (by rfl) (by decide)
theorem k_431 : Cond.methodLink "TypeFinderModel" 263 y_TypeFinderModel_peek ∈ xb_g := xb_m 1913 (by decide +kernel) (by decide)
theorem k_432 : Cond.instanceMethod y_TypeFinderModel_peek ∈ xb_g := xb_m 1915 (by decide +kernel) (by decide)
theorem k_433 : Cond.selects "TypeFinderModel" y_TypeFinderModel_peek y_TypeFinderModel_peek ∈ xb_g := xb_ms (q := (y_TypeFinderModel_peek, 80)) (by decide +kernel) (by decide)
theorem k_434 : Cond.fieldLink "TypeFinderModel" 519 "TypeFinderModel" "defined" "I" ∈ xb_g := xb_m 1667 (by decide +kernel) (by decide)
set_option maxRecDepth 100000 in
theorem k_435 : Cond.code y_TypeFinderModel_expect b_TypeFinderModel_expect 2 none ∈ xb_g := xb_m 1924 (by rfl) (by decide)
theorem k_436 : Cond.methodLink "TypeFinderModel" 267 y_TypeFinderModel_expect ∈ xb_g := xb_m 1921 (by decide +kernel) (by decide)
theorem k_437 : Cond.instanceMethod y_TypeFinderModel_expect ∈ xb_g := xb_m 1923 (by decide +kernel) (by decide)
theorem k_438 : Cond.selects "TypeFinderModel" y_TypeFinderModel_expect y_TypeFinderModel_expect ∈ xb_g := xb_ms (q := (y_TypeFinderModel_expect, 80)) (by decide +kernel) (by decide)
set_option maxRecDepth 100000 in
theorem k_439 : Cond.code y_TypeFinderModel_heading b_TypeFinderModel_heading 4 (some .int) ∈ xb_g := xb_m 2236 (by rfl) (by decide)
theorem k_440 : Cond.methodLink "TypeFinderModel" 525 y_TypeFinderModel_heading ∈ xb_g := xb_m 2233 (by decide +kernel) (by decide)
theorem k_441 : Cond.instanceMethod y_TypeFinderModel_heading ∈ xb_g := xb_m 2235 (by decide +kernel) (by decide)
theorem k_442 : Cond.selects "TypeFinderModel" y_TypeFinderModel_heading y_TypeFinderModel_heading ∈ xb_g := xb_ms (q := (y_TypeFinderModel_heading, 80)) (by decide +kernel) (by decide)
set_option maxRecDepth 100000 in
theorem k_443 : Cond.code y_TypeFinderModel_refuse b_TypeFinderModel_refuse 2 (some .int) ∈ xb_g := xb_m 1996 (by rfl) (by decide)
theorem k_444 : Cond.methodLink "TypeFinderModel" 507 y_TypeFinderModel_refuse ∈ xb_g := xb_m 1993 (by decide +kernel) (by decide)
theorem k_445 : Cond.instanceMethod y_TypeFinderModel_refuse ∈ xb_g := xb_m 1995 (by decide +kernel) (by decide)
theorem k_446 : Cond.selects "TypeFinderModel" y_TypeFinderModel_refuse y_TypeFinderModel_refuse ∈ xb_g := xb_ms (q := (y_TypeFinderModel_refuse, 80)) (by decide +kernel) (by decide)
theorem k_447 : Cond.fieldLink "TypeFinderModel" 274 "TypeFinderModel" "opened" "I" ∈ xb_g := xb_m 1628 (by decide +kernel) (by decide)
theorem k_448 : Cond.fieldLink "TypeFinderModel" 277 "TypeFinderModel" "depth" "I" ∈ xb_g := xb_m 1635 (by decide +kernel) (by decide)
theorem k_449 : Cond.fieldLink "TypeFinderModel" 283 "TypeFinderModel" "state" "I" ∈ xb_g := xb_m 1637 (by decide +kernel) (by decide)
theorem k_450 : Cond.fieldLink "TypeFinderModel" 289 "TypeFinderModel" "waiting" "I" ∈ xb_g := xb_m 1638 (by decide +kernel) (by decide)
set_option maxRecDepth 100000 in
theorem k_451 : Cond.code y_TypeFinderModel_within b_TypeFinderModel_within 2 none ∈ xb_g := xb_m 1936 (by rfl) (by decide)
theorem k_452 : Cond.methodLink "TypeFinderModel" 280 y_TypeFinderModel_within ∈ xb_g := xb_m 1933 (by decide +kernel) (by decide)
theorem k_453 : Cond.instanceMethod y_TypeFinderModel_within ∈ xb_g := xb_m 1935 (by decide +kernel) (by decide)
theorem k_454 : Cond.selects "TypeFinderModel" y_TypeFinderModel_within y_TypeFinderModel_within ∈ xb_g := xb_ms (q := (y_TypeFinderModel_within, 80)) (by decide +kernel) (by decide)
set_option maxRecDepth 100000 in
theorem k_455 : Cond.code y_TypeFinderModel_enter b_TypeFinderModel_enter 4 none ∈ xb_g := xb_m 1932 (by rfl) (by decide)
theorem k_456 : Cond.methodLink "TypeFinderModel" 308 y_TypeFinderModel_enter ∈ xb_g := xb_m 1929 (by decide +kernel) (by decide)
theorem k_457 : Cond.instanceMethod y_TypeFinderModel_enter ∈ xb_g := xb_m 1931 (by decide +kernel) (by decide)
theorem k_458 : Cond.selects "TypeFinderModel" y_TypeFinderModel_enter y_TypeFinderModel_enter ∈ xb_g := xb_ms (q := (y_TypeFinderModel_enter, 80)) (by decide +kernel) (by decide)
set_option maxRecDepth 100000 in
theorem k_459 : Cond.code y_TypeFinderModel_beginExpression b_TypeFinderModel_beginExpression 3 none ∈ xb_g := xb_m 1912 (by rfl) (by decide)
theorem k_460 : Cond.methodLink "TypeFinderModel" 292 y_TypeFinderModel_beginExpression ∈ xb_g := xb_m 1909 (by decide +kernel) (by decide)
theorem k_461 : Cond.instanceMethod y_TypeFinderModel_beginExpression ∈ xb_g := xb_m 1911 (by decide +kernel) (by decide)
theorem k_462 : Cond.selects "TypeFinderModel" y_TypeFinderModel_beginExpression y_TypeFinderModel_beginExpression ∈ xb_g := xb_ms (q := (y_TypeFinderModel_beginExpression, 80)) (by decide +kernel) (by decide)
set_option maxRecDepth 100000 in
theorem k_463 : Cond.code y_TypeFinderModel_atom b_TypeFinderModel_atom 2 (some .boolean) ∈ xb_g := xb_m 1948 (by rfl) (by decide)
theorem k_464 : Cond.methodLink "TypeFinderModel" 314 y_TypeFinderModel_atom ∈ xb_g := xb_m 1945 (by decide +kernel) (by decide)
theorem k_465 : Cond.instanceMethod y_TypeFinderModel_atom ∈ xb_g := xb_m 1947 (by decide +kernel) (by decide)
theorem k_466 : Cond.selects "TypeFinderModel" y_TypeFinderModel_atom y_TypeFinderModel_atom ∈ xb_g := xb_ms (q := (y_TypeFinderModel_atom, 80)) (by decide +kernel) (by decide)
set_option maxRecDepth 100000 in
theorem k_467 : Cond.code y_TypeFinderModel_chain b_TypeFinderModel_chain 3 none ∈ xb_g := xb_m 1944 (by rfl) (by decide)
theorem k_468 : Cond.methodLink "TypeFinderModel" 295 y_TypeFinderModel_chain ∈ xb_g := xb_m 1941 (by decide +kernel) (by decide)
theorem k_469 : Cond.instanceMethod y_TypeFinderModel_chain ∈ xb_g := xb_m 1943 (by decide +kernel) (by decide)
theorem k_470 : Cond.selects "TypeFinderModel" y_TypeFinderModel_chain y_TypeFinderModel_chain ∈ xb_g := xb_ms (q := (y_TypeFinderModel_chain, 80)) (by decide +kernel) (by decide)
set_option maxRecDepth 100000 in
theorem k_471 : Cond.code y_TypeFinderModel_expression b_TypeFinderModel_expression 1 none ∈ xb_g := xb_m 1908 (by rfl) (by decide)
theorem k_472 : Cond.methodLink "TypeFinderModel" 504 y_TypeFinderModel_expression ∈ xb_g := xb_m 1905 (by decide +kernel) (by decide)
theorem k_473 : Cond.instanceMethod y_TypeFinderModel_expression ∈ xb_g := xb_m 1907 (by decide +kernel) (by decide)
theorem k_474 : Cond.selects "TypeFinderModel" y_TypeFinderModel_expression y_TypeFinderModel_expression ∈ xb_g := xb_ms (q := (y_TypeFinderModel_expression, 80)) (by decide +kernel) (by decide)
theorem k_475 : Cond.laysFinal "TypeFinder" "TypeFinder" "draft" "[C" ∈ xb_g := xb_m 773 (by decide +kernel) (by decide)
theorem k_476 : Cond.laysFinal "TypeFinder" "TypeFinder" "parser" "LTypeFinder$Parser;" ∈ xb_g := xb_m 775 (by decide +kernel) (by decide)
theorem k_477 : Cond.laysFinal "TypeFinder" "TypeFinder" "known" "LTypeFinder$Known;" ∈ xb_g := xb_m 777 (by decide +kernel) (by decide)
theorem k_478 : Cond.laysFinal "TypeFinder" "TypeFinder" "checker" "LTypeFinder$Checker;" ∈ xb_g := xb_m 779 (by decide +kernel) (by decide)
theorem k_479 : Cond.laysFinal "TypeFinder" "TypeFinder" "writer" "LTypeFinder$Writer;" ∈ xb_g := xb_m 781 (by decide +kernel) (by decide)
end
section
theorem k_480 : Cond.lays "TypeFinder" "TypeFinder" "length" "I" ∈ xb_g := xb_m 783 (by decide +kernel) (by decide)
theorem k_481 : Cond.lays "TypeFinder" "TypeFinder" "refusals" "I" ∈ xb_g := xb_m 785 (by decide +kernel) (by decide)
theorem k_482 : Cond.lays "TypeFinder" "TypeFinder" "openCases" "I" ∈ xb_g := xb_m 787 (by decide +kernel) (by decide)
theorem k_483 : Cond.lays "TypeFinder" "TypeFinder" "idleAlternatives" "I" ∈ xb_g := xb_m 789 (by decide +kernel) (by decide)
theorem k_484 : Cond.laysFinal "TypeFinder$Parser" "TypeFinder$Parser" "tokens" "LTypeFinder$Tokens;" ∈ xb_g := xb_m 453 (by decide +kernel) (by decide)
theorem k_485 : Cond.laysFinal "TypeFinder$Parser" "TypeFinder$Parser" "dataParser" "LTypeFinder$DataParser;" ∈ xb_g := xb_m 455 (by decide +kernel) (by decide)
theorem k_486 : Cond.laysFinal "TypeFinder$Parser" "TypeFinder$Parser" "levels" "[I" ∈ xb_g := xb_m 457 (by decide +kernel) (by decide)
theorem k_487 : Cond.laysFinal "TypeFinder$Parser" "TypeFinder$Parser" "rights" "[Z" ∈ xb_g := xb_m 459 (by decide +kernel) (by decide)
theorem k_488 : Cond.laysFinal "TypeFinder$Tokens" "TypeFinder$Tokens" "kinds" "[I" ∈ xb_g := xb_m 428 (by decide +kernel) (by decide)
theorem k_489 : Cond.laysFinal "TypeFinder$Tokens" "TypeFinder$Tokens" "values" "[J" ∈ xb_g := xb_m 430 (by decide +kernel) (by decide)
theorem k_490 : Cond.laysFinal "TypeFinder$Tokens" "TypeFinder$Tokens" "keywords" "[J" ∈ xb_g := xb_m 432 (by decide +kernel) (by decide)
theorem k_491 : Cond.lays "TypeFinder$Tokens" "TypeFinder$Tokens" "size" "I" ∈ xb_g := xb_m 434 (by decide +kernel) (by decide)
theorem k_492 : Cond.lays "TypeFinder$Tokens" "TypeFinder$Tokens" "at" "I" ∈ xb_g := xb_m 436 (by decide +kernel) (by decide)
theorem k_493 : Cond.laysFinal "TypeFinder$DataParser" "TypeFinder$DataParser" "tokens" "LTypeFinder$Tokens;" ∈ xb_g := xb_m 446 (by decide +kernel) (by decide)
theorem k_494 : Cond.laysFinal "TypeFinder$Known" "TypeFinder$Known" "integer" "LTypeFinder$Type;" ∈ xb_g := xb_m 686 (by decide +kernel) (by decide)
theorem k_495 : Cond.laysFinal "TypeFinder$Known" "TypeFinder$Known" "truth" "LTypeFinder$Type;" ∈ xb_g := xb_m 688 (by decide +kernel) (by decide)
theorem k_496 : Cond.laysFinal "TypeFinder$Known" "TypeFinder$Known" "dataTypes" "Ljava/util/ArrayList;" ∈ xb_g := xb_m 690 (by decide +kernel) (by decide)
theorem k_497 : Cond.laysFinal "TypeFinder$Known" "TypeFinder$Known" "names" "Ljava/util/ArrayList;" ∈ xb_g := xb_m 692 (by decide +kernel) (by decide)
theorem k_498 : Cond.laysFinal "TypeFinder$Known" "TypeFinder$Known" "firstNames" "I" ∈ xb_g := xb_m 694 (by decide +kernel) (by decide)
theorem k_499 : Cond.lays "TypeFinder$Type" "TypeFinder$Type" "kind" "I" ∈ xb_g := xb_m 500 (by decide +kernel) (by decide)
theorem k_500 : Cond.lays "TypeFinder$Type" "TypeFinder$Type" "comparable" "Z" ∈ xb_g := xb_m 502 (by decide +kernel) (by decide)
theorem k_501 : Cond.laysFinal "TypeFinder$Type" "TypeFinder$Type" "data" "LTypeFinder$DataType;" ∈ xb_g := xb_m 504 (by decide +kernel) (by decide)
theorem k_502 : Cond.laysFinal "TypeFinder$Type" "TypeFinder$Type" "left" "LTypeFinder$Type;" ∈ xb_g := xb_m 506 (by decide +kernel) (by decide)
theorem k_503 : Cond.laysFinal "TypeFinder$Type" "TypeFinder$Type" "right" "LTypeFinder$Type;" ∈ xb_g := xb_m 508 (by decide +kernel) (by decide)
theorem k_504 : Cond.lays "TypeFinder$Type" "TypeFinder$Type" "link" "LTypeFinder$Type;" ∈ xb_g := xb_m 510 (by decide +kernel) (by decide)
theorem k_505 : Cond.lays "TypeFinder$Type" "TypeFinder$Type" "twin" "LTypeFinder$Type;" ∈ xb_g := xb_m 512 (by decide +kernel) (by decide)
theorem k_506 : Cond.lays "TypeFinder$Type" "TypeFinder$Type" "mark" "I" ∈ xb_g := xb_m 514 (by decide +kernel) (by decide)
theorem k_507 : Cond.laysFinal "TypeFinder$DataType" "TypeFinder$DataType" "word" "J" ∈ xb_g := xb_m 569 (by decide +kernel) (by decide)
theorem k_508 : Cond.laysFinal "TypeFinder$DataType" "TypeFinder$DataType" "parameters" "I" ∈ xb_g := xb_m 571 (by decide +kernel) (by decide)
theorem k_509 : Cond.laysFinal "TypeFinder$DataType" "TypeFinder$DataType" "constructors" "Ljava/util/ArrayList;" ∈ xb_g := xb_m 573 (by decide +kernel) (by decide)
theorem k_510 : Cond.lays "TypeFinder$DataType" "TypeFinder$DataType" "whole" "LTypeFinder$Type;" ∈ xb_g := xb_m 575 (by decide +kernel) (by decide)
theorem k_511 : Cond.lays "TypeFinder$DataType" "TypeFinder$DataType" "allows" "Z" ∈ xb_g := xb_m 577 (by decide +kernel) (by decide)
theorem k_512 : Cond.laysFinal "TypeFinder$Name" "TypeFinder$Name" "word" "J" ∈ xb_g := xb_m 598 (by decide +kernel) (by decide)
theorem k_513 : Cond.laysFinal "TypeFinder$Name" "TypeFinder$Name" "type" "LTypeFinder$Type;" ∈ xb_g := xb_m 600 (by decide +kernel) (by decide)
theorem k_514 : Cond.laysFinal "TypeFinder$Name" "TypeFinder$Name" "general" "Z" ∈ xb_g := xb_m 602 (by decide +kernel) (by decide)
theorem k_515 : Cond.laysFinal "TypeFinder$Checker" "TypeFinder$Checker" "known" "LTypeFinder$Known;" ∈ xb_g := xb_m 734 (by decide +kernel) (by decide)
theorem k_516 : Cond.laysFinal "TypeFinder$Checker" "TypeFinder$Checker" "unifier" "LTypeFinder$Unifier;" ∈ xb_g := xb_m 736 (by decide +kernel) (by decide)
theorem k_517 : Cond.laysFinal "TypeFinder$Checker" "TypeFinder$Checker" "scope" "Ljava/util/ArrayList;" ∈ xb_g := xb_m 738 (by decide +kernel) (by decide)
theorem k_518 : Cond.laysFinal "TypeFinder$Checker" "TypeFinder$Checker" "operands" "Ljava/util/ArrayList;" ∈ xb_g := xb_m 740 (by decide +kernel) (by decide)
theorem k_519 : Cond.lays "TypeFinder$Checker" "TypeFinder$Checker" "openCases" "I" ∈ xb_g := xb_m 742 (by decide +kernel) (by decide)
theorem k_520 : Cond.lays "TypeFinder$Checker" "TypeFinder$Checker" "idleAlternatives" "I" ∈ xb_g := xb_m 744 (by decide +kernel) (by decide)
theorem k_521 : Cond.laysFinal "TypeFinder$Unifier" "TypeFinder$Unifier" "todo" "Ljava/util/ArrayList;" ∈ xb_g := xb_m 715 (by decide +kernel) (by decide)
theorem k_522 : Cond.laysFinal "TypeFinder$Unifier" "TypeFinder$Unifier" "open" "Ljava/util/ArrayList;" ∈ xb_g := xb_m 717 (by decide +kernel) (by decide)
theorem k_523 : Cond.laysFinal "TypeFinder$Unifier" "TypeFinder$Unifier" "walk" "Ljava/util/ArrayList;" ∈ xb_g := xb_m 719 (by decide +kernel) (by decide)
theorem k_524 : Cond.lays "TypeFinder$Unifier" "TypeFinder$Unifier" "walks" "I" ∈ xb_g := xb_m 721 (by decide +kernel) (by decide)
theorem k_525 : Cond.laysFinal "TypeFinder$Writer" "TypeFinder$Writer" "text" "Ljava/lang/StringBuilder;" ∈ xb_g := xb_m 759 (by decide +kernel) (by decide)
theorem k_526 : Cond.laysFinal "TypeFinder$Writer" "TypeFinder$Writer" "variables" "Ljava/util/ArrayList;" ∈ xb_g := xb_m 761 (by decide +kernel) (by decide)
theorem k_527 : Cond.lays "java/util/ArrayList" "java/util/AbstractList" "modCount" "I" ∈ xb_g := xb_m 540 (by decide +kernel) (by decide)
theorem k_528 : Cond.lays "java/util/ArrayList" "java/util/ArrayList" "elementData" "[Ljava/lang/Object;" ∈ xb_g := xb_m 536 (by decide +kernel) (by decide)
theorem k_529 : Cond.lays "java/util/ArrayList" "java/util/ArrayList" "size" "I" ∈ xb_g := xb_m 538 (by decide +kernel) (by decide)
theorem k_530 : Cond.lays "java/lang/StringBuilder" "java/lang/AbstractStringBuilder" "value" "[B" ∈ xb_g := xb_m 200 (by decide +kernel) (by decide)
theorem k_531 : Cond.lays "java/lang/StringBuilder" "java/lang/AbstractStringBuilder" "coder" "B" ∈ xb_g := xb_m 202 (by decide +kernel) (by decide)
theorem k_532 : Cond.lays "java/lang/StringBuilder" "java/lang/AbstractStringBuilder" "maybeLatin1" "Z" ∈ xb_g := xb_m 204 (by decide +kernel) (by decide)
theorem k_533 : Cond.lays "java/lang/StringBuilder" "java/lang/AbstractStringBuilder" "count" "I" ∈ xb_g := xb_m 206 (by decide +kernel) (by decide)
theorem k_534 : Cond.laysFinal "java/lang/String" "java/lang/String" "value" "[B" ∈ xb_g := xb_m 374 (by decide +kernel) (by decide)
theorem k_535 : Cond.laysFinal "java/lang/String" "java/lang/String" "coder" "B" ∈ xb_g := xb_m 376 (by decide +kernel) (by decide)
theorem k_536 : Cond.lays "java/lang/String" "java/lang/String" "hash" "I" ∈ xb_g := xb_m 378 (by decide +kernel) (by decide)
theorem k_537 : Cond.lays "java/lang/String" "java/lang/String" "hashIsZero" "Z" ∈ xb_g := xb_m 380 (by decide +kernel) (by decide)
theorem k_538 : Cond.lays "TypeFinderModel" "TypeFinderModel" "code" "I" ∈ xb_g := xb_m 1678 (by decide +kernel) (by decide)
theorem k_539 : Cond.lays "TypeFinderModel" "TypeFinderModel" "failures" "I" ∈ xb_g := xb_m 1680 (by decide +kernel) (by decide)
theorem k_540 : Cond.lays "TypeFinderModel" "TypeFinderModel" "drafted" "I" ∈ xb_g := xb_m 1682 (by decide +kernel) (by decide)
theorem k_541 : Cond.laysFinal "TypeFinderModel" "TypeFinderModel" "draft" "[I" ∈ xb_g := xb_m 1684 (by decide +kernel) (by decide)
theorem k_542 : Cond.lays "TypeFinderModel" "TypeFinderModel" "signs" "I" ∈ xb_g := xb_m 1686 (by decide +kernel) (by decide)
theorem k_543 : Cond.laysFinal "TypeFinderModel" "TypeFinderModel" "sign" "[I" ∈ xb_g := xb_m 1688 (by decide +kernel) (by decide)
theorem k_544 : Cond.laysFinal "TypeFinderModel" "TypeFinderModel" "worth" "[I" ∈ xb_g := xb_m 1690 (by decide +kernel) (by decide)
theorem k_545 : Cond.laysFinal "TypeFinderModel" "TypeFinderModel" "level" "[I" ∈ xb_g := xb_m 1692 (by decide +kernel) (by decide)
theorem k_546 : Cond.laysFinal "TypeFinderModel" "TypeFinderModel" "rightly" "[Z" ∈ xb_g := xb_m 1694 (by decide +kernel) (by decide)
theorem k_547 : Cond.lays "TypeFinderModel" "TypeFinderModel" "names" "I" ∈ xb_g := xb_m 1696 (by decide +kernel) (by decide)
theorem k_548 : Cond.laysFinal "TypeFinderModel" "TypeFinderModel" "nameOf" "[I" ∈ xb_g := xb_m 1698 (by decide +kernel) (by decide)
theorem k_549 : Cond.laysFinal "TypeFinderModel" "TypeFinderModel" "rowSize" "[I" ∈ xb_g := xb_m 1700 (by decide +kernel) (by decide)
theorem k_550 : Cond.laysFinal "TypeFinderModel" "TypeFinderModel" "rows" "[I" ∈ xb_g := xb_m 1702 (by decide +kernel) (by decide)
theorem k_551 : Cond.lays "TypeFinderModel" "TypeFinderModel" "datas" "I" ∈ xb_g := xb_m 1704 (by decide +kernel) (by decide)
theorem k_552 : Cond.laysFinal "TypeFinderModel" "TypeFinderModel" "dataWord" "[I" ∈ xb_g := xb_m 1706 (by decide +kernel) (by decide)
theorem k_553 : Cond.laysFinal "TypeFinderModel" "TypeFinderModel" "parameters" "[I" ∈ xb_g := xb_m 1708 (by decide +kernel) (by decide)
theorem k_554 : Cond.laysFinal "TypeFinderModel" "TypeFinderModel" "alternatives" "[I" ∈ xb_g := xb_m 1710 (by decide +kernel) (by decide)
theorem k_555 : Cond.laysFinal "TypeFinderModel" "TypeFinderModel" "allows" "[Z" ∈ xb_g := xb_m 1712 (by decide +kernel) (by decide)
theorem k_556 : Cond.lays "TypeFinderModel" "TypeFinderModel" "constructors" "I" ∈ xb_g := xb_m 1714 (by decide +kernel) (by decide)
theorem k_557 : Cond.laysFinal "TypeFinderModel" "TypeFinderModel" "constructorWord" "[I" ∈ xb_g := xb_m 1716 (by decide +kernel) (by decide)
theorem k_558 : Cond.laysFinal "TypeFinderModel" "TypeFinderModel" "constructorData" "[I" ∈ xb_g := xb_m 1718 (by decide +kernel) (by decide)
theorem k_559 : Cond.laysFinal "TypeFinderModel" "TypeFinderModel" "constructorParts" "[I" ∈ xb_g := xb_m 1720 (by decide +kernel) (by decide)
theorem k_560 : Cond.laysFinal "TypeFinderModel" "TypeFinderModel" "constructorSize" "[I" ∈ xb_g := xb_m 1722 (by decide +kernel) (by decide)
theorem k_561 : Cond.laysFinal "TypeFinderModel" "TypeFinderModel" "constructorRow" "[I" ∈ xb_g := xb_m 1724 (by decide +kernel) (by decide)
theorem k_562 : Cond.lays "TypeFinderModel" "TypeFinderModel" "at" "I" ∈ xb_g := xb_m 1726 (by decide +kernel) (by decide)
theorem k_563 : Cond.lays "TypeFinderModel" "TypeFinderModel" "bad" "Z" ∈ xb_g := xb_m 1728 (by decide +kernel) (by decide)
theorem k_564 : Cond.lays "TypeFinderModel" "TypeFinderModel" "steps" "I" ∈ xb_g := xb_m 1730 (by decide +kernel) (by decide)
theorem k_565 : Cond.laysFinal "TypeFinderModel" "TypeFinderModel" "step" "[I" ∈ xb_g := xb_m 1732 (by decide +kernel) (by decide)
theorem k_566 : Cond.laysFinal "TypeFinderModel" "TypeFinderModel" "one" "[I" ∈ xb_g := xb_m 1734 (by decide +kernel) (by decide)
theorem k_567 : Cond.laysFinal "TypeFinderModel" "TypeFinderModel" "two" "[I" ∈ xb_g := xb_m 1736 (by decide +kernel) (by decide)
theorem k_568 : Cond.lays "TypeFinderModel" "TypeFinderModel" "opened" "I" ∈ xb_g := xb_m 1738 (by decide +kernel) (by decide)
theorem k_569 : Cond.laysFinal "TypeFinderModel" "TypeFinderModel" "open" "[I" ∈ xb_g := xb_m 1740 (by decide +kernel) (by decide)
theorem k_570 : Cond.laysFinal "TypeFinderModel" "TypeFinderModel" "deep" "[I" ∈ xb_g := xb_m 1742 (by decide +kernel) (by decide)
theorem k_571 : Cond.laysFinal "TypeFinderModel" "TypeFinderModel" "first" "[I" ∈ xb_g := xb_m 1744 (by decide +kernel) (by decide)
theorem k_572 : Cond.laysFinal "TypeFinderModel" "TypeFinderModel" "second" "[I" ∈ xb_g := xb_m 1746 (by decide +kernel) (by decide)
theorem k_573 : Cond.laysFinal "TypeFinderModel" "TypeFinderModel" "third" "[I" ∈ xb_g := xb_m 1748 (by decide +kernel) (by decide)
theorem k_574 : Cond.laysFinal "TypeFinderModel" "TypeFinderModel" "flags" "[I" ∈ xb_g := xb_m 1750 (by decide +kernel) (by decide)
theorem k_575 : Cond.lays "TypeFinderModel" "TypeFinderModel" "depth" "I" ∈ xb_g := xb_m 1752 (by decide +kernel) (by decide)
theorem k_576 : Cond.lays "TypeFinderModel" "TypeFinderModel" "flag" "I" ∈ xb_g := xb_m 1754 (by decide +kernel) (by decide)
theorem k_577 : Cond.lays "TypeFinderModel" "TypeFinderModel" "state" "I" ∈ xb_g := xb_m 1756 (by decide +kernel) (by decide)
theorem k_578 : Cond.lays "TypeFinderModel" "TypeFinderModel" "waiting" "I" ∈ xb_g := xb_m 1758 (by decide +kernel) (by decide)
theorem k_579 : Cond.laysFinal "TypeFinderModel" "TypeFinderModel" "waits" "[I" ∈ xb_g := xb_m 1760 (by decide +kernel) (by decide)
theorem k_580 : Cond.lays "TypeFinderModel" "TypeFinderModel" "types" "I" ∈ xb_g := xb_m 1762 (by decide +kernel) (by decide)
theorem k_581 : Cond.laysFinal "TypeFinderModel" "TypeFinderModel" "kind" "[I" ∈ xb_g := xb_m 1764 (by decide +kernel) (by decide)
theorem k_582 : Cond.laysFinal "TypeFinderModel" "TypeFinderModel" "left" "[I" ∈ xb_g := xb_m 1766 (by decide +kernel) (by decide)
theorem k_583 : Cond.laysFinal "TypeFinderModel" "TypeFinderModel" "right" "[I" ∈ xb_g := xb_m 1768 (by decide +kernel) (by decide)
theorem k_584 : Cond.laysFinal "TypeFinderModel" "TypeFinderModel" "seen" "[I" ∈ xb_g := xb_m 1770 (by decide +kernel) (by decide)
theorem k_585 : Cond.laysFinal "TypeFinderModel" "TypeFinderModel" "copied" "[I" ∈ xb_g := xb_m 1772 (by decide +kernel) (by decide)
theorem k_586 : Cond.lays "TypeFinderModel" "TypeFinderModel" "stamp" "I" ∈ xb_g := xb_m 1774 (by decide +kernel) (by decide)
theorem k_587 : Cond.lays "TypeFinderModel" "TypeFinderModel" "pile" "I" ∈ xb_g := xb_m 1776 (by decide +kernel) (by decide)
theorem k_588 : Cond.laysFinal "TypeFinderModel" "TypeFinderModel" "piled" "[I" ∈ xb_g := xb_m 1778 (by decide +kernel) (by decide)
theorem k_589 : Cond.laysFinal "TypeFinderModel" "TypeFinderModel" "also" "[I" ∈ xb_g := xb_m 1780 (by decide +kernel) (by decide)
theorem k_590 : Cond.lays "TypeFinderModel" "TypeFinderModel" "held" "I" ∈ xb_g := xb_m 1782 (by decide +kernel) (by decide)
theorem k_591 : Cond.laysFinal "TypeFinderModel" "TypeFinderModel" "hold" "[I" ∈ xb_g := xb_m 1784 (by decide +kernel) (by decide)
theorem k_592 : Cond.lays "TypeFinderModel" "TypeFinderModel" "bound" "I" ∈ xb_g := xb_m 1786 (by decide +kernel) (by decide)
theorem k_593 : Cond.laysFinal "TypeFinderModel" "TypeFinderModel" "boundWord" "[I" ∈ xb_g := xb_m 1788 (by decide +kernel) (by decide)
theorem k_594 : Cond.laysFinal "TypeFinderModel" "TypeFinderModel" "boundType" "[I" ∈ xb_g := xb_m 1790 (by decide +kernel) (by decide)
theorem k_595 : Cond.lays "TypeFinderModel" "TypeFinderModel" "cases" "I" ∈ xb_g := xb_m 1792 (by decide +kernel) (by decide)
theorem k_596 : Cond.laysFinal "TypeFinderModel" "TypeFinderModel" "found" "[I" ∈ xb_g := xb_m 1794 (by decide +kernel) (by decide)
theorem k_597 : Cond.laysFinal "TypeFinderModel" "TypeFinderModel" "firstPattern" "[I" ∈ xb_g := xb_m 1796 (by decide +kernel) (by decide)
theorem k_598 : Cond.lays "TypeFinderModel" "TypeFinderModel" "patterns" "I" ∈ xb_g := xb_m 1798 (by decide +kernel) (by decide)
theorem k_599 : Cond.laysFinal "TypeFinderModel" "TypeFinderModel" "patternKind" "[I" ∈ xb_g := xb_m 1800 (by decide +kernel) (by decide)
end
section
theorem k_600 : Cond.laysFinal "TypeFinderModel" "TypeFinderModel" "patternOf" "[I" ∈ xb_g := xb_m 1802 (by decide +kernel) (by decide)
theorem k_601 : Cond.lays "TypeFinderModel" "TypeFinderModel" "failed" "I" ∈ xb_g := xb_m 1804 (by decide +kernel) (by decide)
theorem k_602 : Cond.lays "TypeFinderModel" "TypeFinderModel" "idle" "I" ∈ xb_g := xb_m 1806 (by decide +kernel) (by decide)
theorem k_603 : Cond.lays "TypeFinderModel" "TypeFinderModel" "holes" "I" ∈ xb_g := xb_m 1808 (by decide +kernel) (by decide)
theorem k_604 : Cond.laysFinal "TypeFinderModel" "TypeFinderModel" "matched" "[I" ∈ xb_g := xb_m 1810 (by decide +kernel) (by decide)
theorem k_605 : Cond.lays "TypeFinderModel" "TypeFinderModel" "shown" "I" ∈ xb_g := xb_m 1812 (by decide +kernel) (by decide)
theorem k_606 : Cond.laysFinal "TypeFinderModel" "TypeFinderModel" "text" "[I" ∈ xb_g := xb_m 1814 (by decide +kernel) (by decide)
theorem k_607 : Cond.lays "TypeFinderModel" "TypeFinderModel" "defined" "I" ∈ xb_g := xb_m 1816 (by decide +kernel) (by decide)
theorem k_608 : Cond.lays "TypeFinderModel" "TypeFinderModel" "self" "I" ∈ xb_g := xb_m 1818 (by decide +kernel) (by decide)
theorem k_609 : Cond.lays "TypeFinderModel" "TypeFinderModel" "selfParameters" "I" ∈ xb_g := xb_m 1820 (by decide +kernel) (by decide)
theorem k_610 : Cond.lays "TypeFinderModel" "TypeFinderModel" "pieces" "I" ∈ xb_g := xb_m 1822 (by decide +kernel) (by decide)
theorem k_611 : Cond.laysFinal "TypeFinderModel" "TypeFinderModel" "piece" "[I" ∈ xb_g := xb_m 1824 (by decide +kernel) (by decide)
theorem k_612 : Cond.laysFinal "TypeFinderModel" "TypeFinderModel" "pieceWord" "[I" ∈ xb_g := xb_m 1826 (by decide +kernel) (by decide)
theorem k_613 : Cond.laysFinal "TypeFinderModel" "TypeFinderModel" "pieceParts" "[I" ∈ xb_g := xb_m 1828 (by decide +kernel) (by decide)
theorem k_614 : Cond.laysFinal "TypeFinderModel" "TypeFinderModel" "parameterWord" "[I" ∈ xb_g := xb_m 1830 (by decide +kernel) (by decide)
theorem k_615 : Cond.lays "TypeFinderModel" "TypeFinderModel" "choices" "I" ∈ xb_g := xb_m 1832 (by decide +kernel) (by decide)
theorem k_616 : Cond.laysFinal "TypeFinderModel" "TypeFinderModel" "choiceWord" "[I" ∈ xb_g := xb_m 1834 (by decide +kernel) (by decide)
theorem k_617 : Cond.laysFinal "TypeFinderModel" "TypeFinderModel" "choiceParts" "[I" ∈ xb_g := xb_m 1836 (by decide +kernel) (by decide)
end
section
set_option maxRecDepth 100000 in
theorem uw_0 : u_ws R_0 F_0 9 = [Cond.laysFinal "TypeFinder" "TypeFinder" "draft" "[C", Cond.laysFinal "TypeFinder" "TypeFinder" "parser" "LTypeFinder$Parser;", Cond.laysFinal "TypeFinder" "TypeFinder" "known" "LTypeFinder$Known;", Cond.laysFinal "TypeFinder" "TypeFinder" "checker" "LTypeFinder$Checker;", Cond.laysFinal "TypeFinder" "TypeFinder" "writer" "LTypeFinder$Writer;", Cond.lays "TypeFinder" "TypeFinder" "length" "I", Cond.lays "TypeFinder" "TypeFinder" "refusals" "I", Cond.lays "TypeFinder" "TypeFinder" "openCases" "I", Cond.lays "TypeFinder" "TypeFinder" "idleAlternatives" "I"] := by rfl
set_option maxRecDepth 100000 in
theorem cf_0 : xb_cf 0 R_0 F_0 9 t_0 := ⟨rfl, fun w hw => by rw [uw_0] at hw; exact (List.forall_mem_cons.mpr ⟨k_475, List.forall_mem_cons.mpr ⟨k_476, List.forall_mem_cons.mpr ⟨k_477, List.forall_mem_cons.mpr ⟨k_478, List.forall_mem_cons.mpr ⟨k_479, List.forall_mem_cons.mpr ⟨k_480, List.forall_mem_cons.mpr ⟨k_481, List.forall_mem_cons.mpr ⟨k_482, List.forall_mem_cons.mpr ⟨k_483, fun _ h => absurd h List.not_mem_nil⟩⟩⟩⟩⟩⟩⟩⟩⟩) w hw, by decide +kernel, by decide +kernel⟩
theorem df_0 : ∀ j, j < 9 → defaultValue (t_0 j) = vp_V [.null, .null, .null, .null, .null, .int 0, .int 0, .int 0, .int 0] j := by decide +kernel
set_option maxRecDepth 100000 in
theorem uw_1 : u_ws R_1 F_1 4 = [Cond.laysFinal "TypeFinder$Parser" "TypeFinder$Parser" "tokens" "LTypeFinder$Tokens;", Cond.laysFinal "TypeFinder$Parser" "TypeFinder$Parser" "dataParser" "LTypeFinder$DataParser;", Cond.laysFinal "TypeFinder$Parser" "TypeFinder$Parser" "levels" "[I", Cond.laysFinal "TypeFinder$Parser" "TypeFinder$Parser" "rights" "[Z"] := by rfl
set_option maxRecDepth 100000 in
theorem cf_1 : xb_cf 1 R_1 F_1 4 t_1 := ⟨rfl, fun w hw => by rw [uw_1] at hw; exact (List.forall_mem_cons.mpr ⟨k_484, List.forall_mem_cons.mpr ⟨k_485, List.forall_mem_cons.mpr ⟨k_486, List.forall_mem_cons.mpr ⟨k_487, fun _ h => absurd h List.not_mem_nil⟩⟩⟩⟩) w hw, by decide +kernel, by decide +kernel⟩
theorem df_1 : ∀ j, j < 4 → defaultValue (t_1 j) = vp_V [.null, .null, .null, .null] j := by decide +kernel
set_option maxRecDepth 100000 in
theorem uw_2 : u_ws R_2 F_2 5 = [Cond.laysFinal "TypeFinder$Tokens" "TypeFinder$Tokens" "kinds" "[I", Cond.laysFinal "TypeFinder$Tokens" "TypeFinder$Tokens" "values" "[J", Cond.laysFinal "TypeFinder$Tokens" "TypeFinder$Tokens" "keywords" "[J", Cond.lays "TypeFinder$Tokens" "TypeFinder$Tokens" "size" "I", Cond.lays "TypeFinder$Tokens" "TypeFinder$Tokens" "at" "I"] := by rfl
set_option maxRecDepth 100000 in
theorem cf_2 : xb_cf 2 R_2 F_2 5 t_2 := ⟨rfl, fun w hw => by rw [uw_2] at hw; exact (List.forall_mem_cons.mpr ⟨k_488, List.forall_mem_cons.mpr ⟨k_489, List.forall_mem_cons.mpr ⟨k_490, List.forall_mem_cons.mpr ⟨k_491, List.forall_mem_cons.mpr ⟨k_492, fun _ h => absurd h List.not_mem_nil⟩⟩⟩⟩⟩) w hw, by decide +kernel, by decide +kernel⟩
theorem df_2 : ∀ j, j < 5 → defaultValue (t_2 j) = vp_V [.null, .null, .null, .int 0, .int 0] j := by decide +kernel
set_option maxRecDepth 100000 in
theorem uw_3 : u_ws R_3 F_3 1 = [Cond.laysFinal "TypeFinder$DataParser" "TypeFinder$DataParser" "tokens" "LTypeFinder$Tokens;"] := by rfl
set_option maxRecDepth 100000 in
theorem cf_3 : xb_cf 3 R_3 F_3 1 t_3 := ⟨rfl, fun w hw => by rw [uw_3] at hw; exact (List.forall_mem_cons.mpr ⟨k_493, fun _ h => absurd h List.not_mem_nil⟩) w hw, by decide +kernel, by decide +kernel⟩
theorem df_3 : ∀ j, j < 1 → defaultValue (t_3 j) = vp_V [.null] j := by decide +kernel
set_option maxRecDepth 100000 in
theorem uw_4 : u_ws R_4 F_4 5 = [Cond.laysFinal "TypeFinder$Known" "TypeFinder$Known" "integer" "LTypeFinder$Type;", Cond.laysFinal "TypeFinder$Known" "TypeFinder$Known" "truth" "LTypeFinder$Type;", Cond.laysFinal "TypeFinder$Known" "TypeFinder$Known" "dataTypes" "Ljava/util/ArrayList;", Cond.laysFinal "TypeFinder$Known" "TypeFinder$Known" "names" "Ljava/util/ArrayList;", Cond.laysFinal "TypeFinder$Known" "TypeFinder$Known" "firstNames" "I"] := by rfl
set_option maxRecDepth 100000 in
theorem cf_4 : xb_cf 4 R_4 F_4 5 t_4 := ⟨rfl, fun w hw => by rw [uw_4] at hw; exact (List.forall_mem_cons.mpr ⟨k_494, List.forall_mem_cons.mpr ⟨k_495, List.forall_mem_cons.mpr ⟨k_496, List.forall_mem_cons.mpr ⟨k_497, List.forall_mem_cons.mpr ⟨k_498, fun _ h => absurd h List.not_mem_nil⟩⟩⟩⟩⟩) w hw, by decide +kernel, by decide +kernel⟩
theorem df_4 : ∀ j, j < 5 → defaultValue (t_4 j) = vp_V [.null, .null, .null, .null, .int 0] j := by decide +kernel
set_option maxRecDepth 100000 in
theorem uw_5 : u_ws R_5 F_5 8 = [Cond.lays "TypeFinder$Type" "TypeFinder$Type" "kind" "I", Cond.lays "TypeFinder$Type" "TypeFinder$Type" "comparable" "Z", Cond.laysFinal "TypeFinder$Type" "TypeFinder$Type" "data" "LTypeFinder$DataType;", Cond.laysFinal "TypeFinder$Type" "TypeFinder$Type" "left" "LTypeFinder$Type;", Cond.laysFinal "TypeFinder$Type" "TypeFinder$Type" "right" "LTypeFinder$Type;", Cond.lays "TypeFinder$Type" "TypeFinder$Type" "link" "LTypeFinder$Type;", Cond.lays "TypeFinder$Type" "TypeFinder$Type" "twin" "LTypeFinder$Type;", Cond.lays "TypeFinder$Type" "TypeFinder$Type" "mark" "I"] := by rfl
set_option maxRecDepth 100000 in
theorem cf_5 : xb_cf 5 R_5 F_5 8 t_5 := ⟨rfl, fun w hw => by rw [uw_5] at hw; exact (List.forall_mem_cons.mpr ⟨k_499, List.forall_mem_cons.mpr ⟨k_500, List.forall_mem_cons.mpr ⟨k_501, List.forall_mem_cons.mpr ⟨k_502, List.forall_mem_cons.mpr ⟨k_503, List.forall_mem_cons.mpr ⟨k_504, List.forall_mem_cons.mpr ⟨k_505, List.forall_mem_cons.mpr ⟨k_506, fun _ h => absurd h List.not_mem_nil⟩⟩⟩⟩⟩⟩⟩⟩) w hw, by decide +kernel, by decide +kernel⟩
theorem df_5 : ∀ j, j < 8 → defaultValue (t_5 j) = vp_V [.int 0, .int 0, .null, .null, .null, .null, .null, .int 0] j := by decide +kernel
set_option maxRecDepth 100000 in
theorem uw_6 : u_ws R_6 F_6 5 = [Cond.laysFinal "TypeFinder$DataType" "TypeFinder$DataType" "word" "J", Cond.laysFinal "TypeFinder$DataType" "TypeFinder$DataType" "parameters" "I", Cond.laysFinal "TypeFinder$DataType" "TypeFinder$DataType" "constructors" "Ljava/util/ArrayList;", Cond.lays "TypeFinder$DataType" "TypeFinder$DataType" "whole" "LTypeFinder$Type;", Cond.lays "TypeFinder$DataType" "TypeFinder$DataType" "allows" "Z"] := by rfl
set_option maxRecDepth 100000 in
theorem cf_6 : xb_cf 6 R_6 F_6 5 t_6 := ⟨rfl, fun w hw => by rw [uw_6] at hw; exact (List.forall_mem_cons.mpr ⟨k_507, List.forall_mem_cons.mpr ⟨k_508, List.forall_mem_cons.mpr ⟨k_509, List.forall_mem_cons.mpr ⟨k_510, List.forall_mem_cons.mpr ⟨k_511, fun _ h => absurd h List.not_mem_nil⟩⟩⟩⟩⟩) w hw, by decide +kernel, by decide +kernel⟩
theorem df_6 : ∀ j, j < 5 → defaultValue (t_6 j) = vp_V [.long 0, .int 0, .null, .null, .int 0] j := by decide +kernel
set_option maxRecDepth 100000 in
theorem uw_7 : u_ws R_7 F_7 3 = [Cond.laysFinal "TypeFinder$Name" "TypeFinder$Name" "word" "J", Cond.laysFinal "TypeFinder$Name" "TypeFinder$Name" "type" "LTypeFinder$Type;", Cond.laysFinal "TypeFinder$Name" "TypeFinder$Name" "general" "Z"] := by rfl
set_option maxRecDepth 100000 in
theorem cf_7 : xb_cf 7 R_7 F_7 3 t_7 := ⟨rfl, fun w hw => by rw [uw_7] at hw; exact (List.forall_mem_cons.mpr ⟨k_512, List.forall_mem_cons.mpr ⟨k_513, List.forall_mem_cons.mpr ⟨k_514, fun _ h => absurd h List.not_mem_nil⟩⟩⟩) w hw, by decide +kernel, by decide +kernel⟩
theorem df_7 : ∀ j, j < 3 → defaultValue (t_7 j) = vp_V [.long 0, .null, .int 0] j := by decide +kernel
set_option maxRecDepth 100000 in
theorem uw_8 : u_ws R_8 F_8 6 = [Cond.laysFinal "TypeFinder$Checker" "TypeFinder$Checker" "known" "LTypeFinder$Known;", Cond.laysFinal "TypeFinder$Checker" "TypeFinder$Checker" "unifier" "LTypeFinder$Unifier;", Cond.laysFinal "TypeFinder$Checker" "TypeFinder$Checker" "scope" "Ljava/util/ArrayList;", Cond.laysFinal "TypeFinder$Checker" "TypeFinder$Checker" "operands" "Ljava/util/ArrayList;", Cond.lays "TypeFinder$Checker" "TypeFinder$Checker" "openCases" "I", Cond.lays "TypeFinder$Checker" "TypeFinder$Checker" "idleAlternatives" "I"] := by rfl
set_option maxRecDepth 100000 in
theorem cf_8 : xb_cf 8 R_8 F_8 6 t_8 := ⟨rfl, fun w hw => by rw [uw_8] at hw; exact (List.forall_mem_cons.mpr ⟨k_515, List.forall_mem_cons.mpr ⟨k_516, List.forall_mem_cons.mpr ⟨k_517, List.forall_mem_cons.mpr ⟨k_518, List.forall_mem_cons.mpr ⟨k_519, List.forall_mem_cons.mpr ⟨k_520, fun _ h => absurd h List.not_mem_nil⟩⟩⟩⟩⟩⟩) w hw, by decide +kernel, by decide +kernel⟩
theorem df_8 : ∀ j, j < 6 → defaultValue (t_8 j) = vp_V [.null, .null, .null, .null, .int 0, .int 0] j := by decide +kernel
set_option maxRecDepth 100000 in
theorem uw_9 : u_ws R_9 F_9 4 = [Cond.laysFinal "TypeFinder$Unifier" "TypeFinder$Unifier" "todo" "Ljava/util/ArrayList;", Cond.laysFinal "TypeFinder$Unifier" "TypeFinder$Unifier" "open" "Ljava/util/ArrayList;", Cond.laysFinal "TypeFinder$Unifier" "TypeFinder$Unifier" "walk" "Ljava/util/ArrayList;", Cond.lays "TypeFinder$Unifier" "TypeFinder$Unifier" "walks" "I"] := by rfl
set_option maxRecDepth 100000 in
theorem cf_9 : xb_cf 9 R_9 F_9 4 t_9 := ⟨rfl, fun w hw => by rw [uw_9] at hw; exact (List.forall_mem_cons.mpr ⟨k_521, List.forall_mem_cons.mpr ⟨k_522, List.forall_mem_cons.mpr ⟨k_523, List.forall_mem_cons.mpr ⟨k_524, fun _ h => absurd h List.not_mem_nil⟩⟩⟩⟩) w hw, by decide +kernel, by decide +kernel⟩
theorem df_9 : ∀ j, j < 4 → defaultValue (t_9 j) = vp_V [.null, .null, .null, .int 0] j := by decide +kernel
set_option maxRecDepth 100000 in
theorem uw_10 : u_ws R_10 F_10 2 = [Cond.laysFinal "TypeFinder$Writer" "TypeFinder$Writer" "text" "Ljava/lang/StringBuilder;", Cond.laysFinal "TypeFinder$Writer" "TypeFinder$Writer" "variables" "Ljava/util/ArrayList;"] := by rfl
set_option maxRecDepth 100000 in
theorem cf_10 : xb_cf 10 R_10 F_10 2 t_10 := ⟨rfl, fun w hw => by rw [uw_10] at hw; exact (List.forall_mem_cons.mpr ⟨k_525, List.forall_mem_cons.mpr ⟨k_526, fun _ h => absurd h List.not_mem_nil⟩⟩) w hw, by decide +kernel, by decide +kernel⟩
theorem df_10 : ∀ j, j < 2 → defaultValue (t_10 j) = vp_V [.null, .null] j := by decide +kernel
set_option maxRecDepth 100000 in
theorem uw_11 : u_ws R_11 F_11 3 = [Cond.lays "java/util/ArrayList" "java/util/AbstractList" "modCount" "I", Cond.lays "java/util/ArrayList" "java/util/ArrayList" "elementData" "[Ljava/lang/Object;", Cond.lays "java/util/ArrayList" "java/util/ArrayList" "size" "I"] := by rfl
set_option maxRecDepth 100000 in
theorem cf_11 : xb_cf 11 R_11 F_11 3 t_11 := ⟨rfl, fun w hw => by rw [uw_11] at hw; exact (List.forall_mem_cons.mpr ⟨k_527, List.forall_mem_cons.mpr ⟨k_528, List.forall_mem_cons.mpr ⟨k_529, fun _ h => absurd h List.not_mem_nil⟩⟩⟩) w hw, by decide +kernel, by decide +kernel⟩
theorem df_11 : ∀ j, j < 3 → defaultValue (t_11 j) = vp_V [.int 0, .null, .int 0] j := by decide +kernel
set_option maxRecDepth 100000 in
theorem uw_12 : u_ws R_12 F_12 4 = [Cond.lays "java/lang/StringBuilder" "java/lang/AbstractStringBuilder" "value" "[B", Cond.lays "java/lang/StringBuilder" "java/lang/AbstractStringBuilder" "coder" "B", Cond.lays "java/lang/StringBuilder" "java/lang/AbstractStringBuilder" "maybeLatin1" "Z", Cond.lays "java/lang/StringBuilder" "java/lang/AbstractStringBuilder" "count" "I"] := by rfl
set_option maxRecDepth 100000 in
theorem cf_12 : xb_cf 12 R_12 F_12 4 t_12 := ⟨rfl, fun w hw => by rw [uw_12] at hw; exact (List.forall_mem_cons.mpr ⟨k_530, List.forall_mem_cons.mpr ⟨k_531, List.forall_mem_cons.mpr ⟨k_532, List.forall_mem_cons.mpr ⟨k_533, fun _ h => absurd h List.not_mem_nil⟩⟩⟩⟩) w hw, by decide +kernel, by decide +kernel⟩
theorem df_12 : ∀ j, j < 4 → defaultValue (t_12 j) = vp_V [.null, .int 0, .int 0, .int 0] j := by decide +kernel
set_option maxRecDepth 100000 in
theorem uw_13 : u_ws R_13 F_13 4 = [Cond.laysFinal "java/lang/String" "java/lang/String" "value" "[B", Cond.laysFinal "java/lang/String" "java/lang/String" "coder" "B", Cond.lays "java/lang/String" "java/lang/String" "hash" "I", Cond.lays "java/lang/String" "java/lang/String" "hashIsZero" "Z"] := by rfl
set_option maxRecDepth 100000 in
theorem cf_13 : xb_cf 13 R_13 F_13 4 t_13 := ⟨rfl, fun w hw => by rw [uw_13] at hw; exact (List.forall_mem_cons.mpr ⟨k_534, List.forall_mem_cons.mpr ⟨k_535, List.forall_mem_cons.mpr ⟨k_536, List.forall_mem_cons.mpr ⟨k_537, fun _ h => absurd h List.not_mem_nil⟩⟩⟩⟩) w hw, by decide +kernel, by decide +kernel⟩
theorem df_13 : ∀ j, j < 4 → defaultValue (t_13 j) = vp_V [.null, .int 0, .int 0, .int 0] j := by decide +kernel
set_option maxRecDepth 100000 in
theorem uw_14 : u_ws R_14 F_14 80 = [Cond.lays "TypeFinderModel" "TypeFinderModel" "code" "I", Cond.lays "TypeFinderModel" "TypeFinderModel" "failures" "I", Cond.lays "TypeFinderModel" "TypeFinderModel" "drafted" "I", Cond.laysFinal "TypeFinderModel" "TypeFinderModel" "draft" "[I", Cond.lays "TypeFinderModel" "TypeFinderModel" "signs" "I", Cond.laysFinal "TypeFinderModel" "TypeFinderModel" "sign" "[I", Cond.laysFinal "TypeFinderModel" "TypeFinderModel" "worth" "[I", Cond.laysFinal "TypeFinderModel" "TypeFinderModel" "level" "[I", Cond.laysFinal "TypeFinderModel" "TypeFinderModel" "rightly" "[Z", Cond.lays "TypeFinderModel" "TypeFinderModel" "names" "I", Cond.laysFinal "TypeFinderModel" "TypeFinderModel" "nameOf" "[I", Cond.laysFinal "TypeFinderModel" "TypeFinderModel" "rowSize" "[I", Cond.laysFinal "TypeFinderModel" "TypeFinderModel" "rows" "[I", Cond.lays "TypeFinderModel" "TypeFinderModel" "datas" "I", Cond.laysFinal "TypeFinderModel" "TypeFinderModel" "dataWord" "[I", Cond.laysFinal "TypeFinderModel" "TypeFinderModel" "parameters" "[I", Cond.laysFinal "TypeFinderModel" "TypeFinderModel" "alternatives" "[I", Cond.laysFinal "TypeFinderModel" "TypeFinderModel" "allows" "[Z", Cond.lays "TypeFinderModel" "TypeFinderModel" "constructors" "I", Cond.laysFinal "TypeFinderModel" "TypeFinderModel" "constructorWord" "[I", Cond.laysFinal "TypeFinderModel" "TypeFinderModel" "constructorData" "[I", Cond.laysFinal "TypeFinderModel" "TypeFinderModel" "constructorParts" "[I", Cond.laysFinal "TypeFinderModel" "TypeFinderModel" "constructorSize" "[I", Cond.laysFinal "TypeFinderModel" "TypeFinderModel" "constructorRow" "[I", Cond.lays "TypeFinderModel" "TypeFinderModel" "at" "I", Cond.lays "TypeFinderModel" "TypeFinderModel" "bad" "Z", Cond.lays "TypeFinderModel" "TypeFinderModel" "steps" "I", Cond.laysFinal "TypeFinderModel" "TypeFinderModel" "step" "[I", Cond.laysFinal "TypeFinderModel" "TypeFinderModel" "one" "[I", Cond.laysFinal "TypeFinderModel" "TypeFinderModel" "two" "[I", Cond.lays "TypeFinderModel" "TypeFinderModel" "opened" "I", Cond.laysFinal "TypeFinderModel" "TypeFinderModel" "open" "[I", Cond.laysFinal "TypeFinderModel" "TypeFinderModel" "deep" "[I", Cond.laysFinal "TypeFinderModel" "TypeFinderModel" "first" "[I", Cond.laysFinal "TypeFinderModel" "TypeFinderModel" "second" "[I", Cond.laysFinal "TypeFinderModel" "TypeFinderModel" "third" "[I", Cond.laysFinal "TypeFinderModel" "TypeFinderModel" "flags" "[I", Cond.lays "TypeFinderModel" "TypeFinderModel" "depth" "I", Cond.lays "TypeFinderModel" "TypeFinderModel" "flag" "I", Cond.lays "TypeFinderModel" "TypeFinderModel" "state" "I", Cond.lays "TypeFinderModel" "TypeFinderModel" "waiting" "I", Cond.laysFinal "TypeFinderModel" "TypeFinderModel" "waits" "[I", Cond.lays "TypeFinderModel" "TypeFinderModel" "types" "I", Cond.laysFinal "TypeFinderModel" "TypeFinderModel" "kind" "[I", Cond.laysFinal "TypeFinderModel" "TypeFinderModel" "left" "[I", Cond.laysFinal "TypeFinderModel" "TypeFinderModel" "right" "[I", Cond.laysFinal "TypeFinderModel" "TypeFinderModel" "seen" "[I", Cond.laysFinal "TypeFinderModel" "TypeFinderModel" "copied" "[I", Cond.lays "TypeFinderModel" "TypeFinderModel" "stamp" "I", Cond.lays "TypeFinderModel" "TypeFinderModel" "pile" "I", Cond.laysFinal "TypeFinderModel" "TypeFinderModel" "piled" "[I", Cond.laysFinal "TypeFinderModel" "TypeFinderModel" "also" "[I", Cond.lays "TypeFinderModel" "TypeFinderModel" "held" "I", Cond.laysFinal "TypeFinderModel" "TypeFinderModel" "hold" "[I", Cond.lays "TypeFinderModel" "TypeFinderModel" "bound" "I", Cond.laysFinal "TypeFinderModel" "TypeFinderModel" "boundWord" "[I", Cond.laysFinal "TypeFinderModel" "TypeFinderModel" "boundType" "[I", Cond.lays "TypeFinderModel" "TypeFinderModel" "cases" "I", Cond.laysFinal "TypeFinderModel" "TypeFinderModel" "found" "[I", Cond.laysFinal "TypeFinderModel" "TypeFinderModel" "firstPattern" "[I", Cond.lays "TypeFinderModel" "TypeFinderModel" "patterns" "I", Cond.laysFinal "TypeFinderModel" "TypeFinderModel" "patternKind" "[I", Cond.laysFinal "TypeFinderModel" "TypeFinderModel" "patternOf" "[I", Cond.lays "TypeFinderModel" "TypeFinderModel" "failed" "I", Cond.lays "TypeFinderModel" "TypeFinderModel" "idle" "I", Cond.lays "TypeFinderModel" "TypeFinderModel" "holes" "I", Cond.laysFinal "TypeFinderModel" "TypeFinderModel" "matched" "[I", Cond.lays "TypeFinderModel" "TypeFinderModel" "shown" "I", Cond.laysFinal "TypeFinderModel" "TypeFinderModel" "text" "[I", Cond.lays "TypeFinderModel" "TypeFinderModel" "defined" "I", Cond.lays "TypeFinderModel" "TypeFinderModel" "self" "I", Cond.lays "TypeFinderModel" "TypeFinderModel" "selfParameters" "I", Cond.lays "TypeFinderModel" "TypeFinderModel" "pieces" "I", Cond.laysFinal "TypeFinderModel" "TypeFinderModel" "piece" "[I", Cond.laysFinal "TypeFinderModel" "TypeFinderModel" "pieceWord" "[I", Cond.laysFinal "TypeFinderModel" "TypeFinderModel" "pieceParts" "[I", Cond.laysFinal "TypeFinderModel" "TypeFinderModel" "parameterWord" "[I", Cond.lays "TypeFinderModel" "TypeFinderModel" "choices" "I", Cond.laysFinal "TypeFinderModel" "TypeFinderModel" "choiceWord" "[I", Cond.laysFinal "TypeFinderModel" "TypeFinderModel" "choiceParts" "[I"] := by rfl
set_option maxRecDepth 100000 in
theorem cf_14 : xb_cf 14 R_14 F_14 80 t_14 := ⟨rfl, fun w hw => by rw [uw_14] at hw; exact (List.forall_mem_cons.mpr ⟨k_538, List.forall_mem_cons.mpr ⟨k_539, List.forall_mem_cons.mpr ⟨k_540, List.forall_mem_cons.mpr ⟨k_541, List.forall_mem_cons.mpr ⟨k_542, List.forall_mem_cons.mpr ⟨k_543, List.forall_mem_cons.mpr ⟨k_544, List.forall_mem_cons.mpr ⟨k_545, List.forall_mem_cons.mpr ⟨k_546, List.forall_mem_cons.mpr ⟨k_547, List.forall_mem_cons.mpr ⟨k_548, List.forall_mem_cons.mpr ⟨k_549, List.forall_mem_cons.mpr ⟨k_550, List.forall_mem_cons.mpr ⟨k_551, List.forall_mem_cons.mpr ⟨k_552, List.forall_mem_cons.mpr ⟨k_553, List.forall_mem_cons.mpr ⟨k_554, List.forall_mem_cons.mpr ⟨k_555, List.forall_mem_cons.mpr ⟨k_556, List.forall_mem_cons.mpr ⟨k_557, List.forall_mem_cons.mpr ⟨k_558, List.forall_mem_cons.mpr ⟨k_559, List.forall_mem_cons.mpr ⟨k_560, List.forall_mem_cons.mpr ⟨k_561, List.forall_mem_cons.mpr ⟨k_562, List.forall_mem_cons.mpr ⟨k_563, List.forall_mem_cons.mpr ⟨k_564, List.forall_mem_cons.mpr ⟨k_565, List.forall_mem_cons.mpr ⟨k_566, List.forall_mem_cons.mpr ⟨k_567, List.forall_mem_cons.mpr ⟨k_568, List.forall_mem_cons.mpr ⟨k_569, List.forall_mem_cons.mpr ⟨k_570, List.forall_mem_cons.mpr ⟨k_571, List.forall_mem_cons.mpr ⟨k_572, List.forall_mem_cons.mpr ⟨k_573, List.forall_mem_cons.mpr ⟨k_574, List.forall_mem_cons.mpr ⟨k_575, List.forall_mem_cons.mpr ⟨k_576, List.forall_mem_cons.mpr ⟨k_577, List.forall_mem_cons.mpr ⟨k_578, List.forall_mem_cons.mpr ⟨k_579, List.forall_mem_cons.mpr ⟨k_580, List.forall_mem_cons.mpr ⟨k_581, List.forall_mem_cons.mpr ⟨k_582, List.forall_mem_cons.mpr ⟨k_583, List.forall_mem_cons.mpr ⟨k_584, List.forall_mem_cons.mpr ⟨k_585, List.forall_mem_cons.mpr ⟨k_586, List.forall_mem_cons.mpr ⟨k_587, List.forall_mem_cons.mpr ⟨k_588, List.forall_mem_cons.mpr ⟨k_589, List.forall_mem_cons.mpr ⟨k_590, List.forall_mem_cons.mpr ⟨k_591, List.forall_mem_cons.mpr ⟨k_592, List.forall_mem_cons.mpr ⟨k_593, List.forall_mem_cons.mpr ⟨k_594, List.forall_mem_cons.mpr ⟨k_595, List.forall_mem_cons.mpr ⟨k_596, List.forall_mem_cons.mpr ⟨k_597, List.forall_mem_cons.mpr ⟨k_598, List.forall_mem_cons.mpr ⟨k_599, List.forall_mem_cons.mpr ⟨k_600, List.forall_mem_cons.mpr ⟨k_601, List.forall_mem_cons.mpr ⟨k_602, List.forall_mem_cons.mpr ⟨k_603, List.forall_mem_cons.mpr ⟨k_604, List.forall_mem_cons.mpr ⟨k_605, List.forall_mem_cons.mpr ⟨k_606, List.forall_mem_cons.mpr ⟨k_607, List.forall_mem_cons.mpr ⟨k_608, List.forall_mem_cons.mpr ⟨k_609, List.forall_mem_cons.mpr ⟨k_610, List.forall_mem_cons.mpr ⟨k_611, List.forall_mem_cons.mpr ⟨k_612, List.forall_mem_cons.mpr ⟨k_613, List.forall_mem_cons.mpr ⟨k_614, List.forall_mem_cons.mpr ⟨k_615, List.forall_mem_cons.mpr ⟨k_616, List.forall_mem_cons.mpr ⟨k_617, fun _ h => absurd h List.not_mem_nil⟩⟩⟩⟩⟩⟩⟩⟩⟩⟩⟩⟩⟩⟩⟩⟩⟩⟩⟩⟩⟩⟩⟩⟩⟩⟩⟩⟩⟩⟩⟩⟩⟩⟩⟩⟩⟩⟩⟩⟩⟩⟩⟩⟩⟩⟩⟩⟩⟩⟩⟩⟩⟩⟩⟩⟩⟩⟩⟩⟩⟩⟩⟩⟩⟩⟩⟩⟩⟩⟩⟩⟩⟩⟩⟩⟩⟩⟩⟩⟩) w hw, by decide +kernel, by decide +kernel⟩
theorem df_14 : ∀ j, j < 80 → defaultValue (t_14 j) = vp_V [.int 0, .int 0, .int 0, .null, .int 0, .null, .null, .null, .null, .int 0, .null, .null, .null, .int 0, .null, .null, .null, .null, .int 0, .null, .null, .null, .null, .null, .int 0, .int 0, .int 0, .null, .null, .null, .int 0, .null, .null, .null, .null, .null, .null, .int 0, .int 0, .int 0, .int 0, .null, .int 0, .null, .null, .null, .null, .null, .int 0, .int 0, .null, .null, .int 0, .null, .int 0, .null, .null, .int 0, .null, .null, .int 0, .null, .null, .int 0, .int 0, .int 0, .null, .int 0, .null, .int 0, .int 0, .int 0, .int 0, .null, .null, .null, .null, .int 0, .null, .null] j := by decide +kernel
theorem cf_S : xb_cf xb_iS R_13 F_13 4 t_13 := cf_13
theorem hd_String_coder : y_String_coder.cls ≠ "java/lang/invoke/MethodHandle" ∧ y_String_coder.cls ≠ "java/lang/invoke/VarHandle" ∧ (parseMethodDescriptor y_String_coder.desc).map (fun d => d.parameters.length) = some 0 := by decide +kernel
theorem hd_String_isLatin1 : y_String_isLatin1.cls ≠ "java/lang/invoke/MethodHandle" ∧ y_String_isLatin1.cls ≠ "java/lang/invoke/VarHandle" ∧ (parseMethodDescriptor y_String_isLatin1.desc).map (fun d => d.parameters.length) = some 0 := by decide +kernel
theorem hd_String_length : y_String_length.cls ≠ "java/lang/invoke/MethodHandle" ∧ y_String_length.cls ≠ "java/lang/invoke/VarHandle" ∧ (parseMethodDescriptor y_String_length.desc).map (fun d => d.parameters.length) = some 0 := by decide +kernel
theorem hd_Preconditions_checkIndex : y_Preconditions_checkIndex.cls ≠ "java/lang/invoke/MethodHandle" ∧ y_Preconditions_checkIndex.cls ≠ "java/lang/invoke/VarHandle" ∧ (parseMethodDescriptor y_Preconditions_checkIndex.desc).map (fun d => d.parameters.length) = some 3 := by decide +kernel
theorem hd_String_checkIndex : y_String_checkIndex.cls ≠ "java/lang/invoke/MethodHandle" ∧ y_String_checkIndex.cls ≠ "java/lang/invoke/VarHandle" ∧ (parseMethodDescriptor y_String_checkIndex.desc).map (fun d => d.parameters.length) = some 2 := by decide +kernel
theorem hd_StringLatin1_charAt : y_StringLatin1_charAt.cls ≠ "java/lang/invoke/MethodHandle" ∧ y_StringLatin1_charAt.cls ≠ "java/lang/invoke/VarHandle" ∧ (parseMethodDescriptor y_StringLatin1_charAt.desc).map (fun d => d.parameters.length) = some 2 := by decide +kernel
theorem hd_String_charAt : y_String_charAt.cls ≠ "java/lang/invoke/MethodHandle" ∧ y_String_charAt.cls ≠ "java/lang/invoke/VarHandle" ∧ (parseMethodDescriptor y_String_charAt.desc).map (fun d => d.parameters.length) = some 1 := by decide +kernel
theorem hd_AbstractCollection_init : y_AbstractCollection_init.cls ≠ "java/lang/invoke/MethodHandle" ∧ y_AbstractCollection_init.cls ≠ "java/lang/invoke/VarHandle" ∧ (parseMethodDescriptor y_AbstractCollection_init.desc).map (fun d => d.parameters.length) = some 0 := by decide +kernel
theorem hd_AbstractList_init : y_AbstractList_init.cls ≠ "java/lang/invoke/MethodHandle" ∧ y_AbstractList_init.cls ≠ "java/lang/invoke/VarHandle" ∧ (parseMethodDescriptor y_AbstractList_init.desc).map (fun d => d.parameters.length) = some 0 := by decide +kernel
theorem hd_ArrayList_init : y_ArrayList_init.cls ≠ "java/lang/invoke/MethodHandle" ∧ y_ArrayList_init.cls ≠ "java/lang/invoke/VarHandle" ∧ (parseMethodDescriptor y_ArrayList_init.desc).map (fun d => d.parameters.length) = some 0 := by decide +kernel
theorem hd_ArrayList_grow : y_ArrayList_grow.cls ≠ "java/lang/invoke/MethodHandle" ∧ y_ArrayList_grow.cls ≠ "java/lang/invoke/VarHandle" ∧ (parseMethodDescriptor y_ArrayList_grow.desc).map (fun d => d.parameters.length) = some 1 := by decide +kernel
theorem hd_ArrayList_grow2 : y_ArrayList_grow2.cls ≠ "java/lang/invoke/MethodHandle" ∧ y_ArrayList_grow2.cls ≠ "java/lang/invoke/VarHandle" ∧ (parseMethodDescriptor y_ArrayList_grow2.desc).map (fun d => d.parameters.length) = some 0 := by decide +kernel
theorem hd_ArrayList_add : y_ArrayList_add.cls ≠ "java/lang/invoke/MethodHandle" ∧ y_ArrayList_add.cls ≠ "java/lang/invoke/VarHandle" ∧ (parseMethodDescriptor y_ArrayList_add.desc).map (fun d => d.parameters.length) = some 3 := by decide +kernel
theorem hd_ArrayList_add2 : y_ArrayList_add2.cls ≠ "java/lang/invoke/MethodHandle" ∧ y_ArrayList_add2.cls ≠ "java/lang/invoke/VarHandle" ∧ (parseMethodDescriptor y_ArrayList_add2.desc).map (fun d => d.parameters.length) = some 1 := by decide +kernel
theorem hd_AbstractStringBuilder_init : y_AbstractStringBuilder_init.cls ≠ "java/lang/invoke/MethodHandle" ∧ y_AbstractStringBuilder_init.cls ≠ "java/lang/invoke/VarHandle" ∧ (parseMethodDescriptor y_AbstractStringBuilder_init.desc).map (fun d => d.parameters.length) = some 1 := by decide +kernel
theorem hd_StringBuilder_init : y_StringBuilder_init.cls ≠ "java/lang/invoke/MethodHandle" ∧ y_StringBuilder_init.cls ≠ "java/lang/invoke/VarHandle" ∧ (parseMethodDescriptor y_StringBuilder_init.desc).map (fun d => d.parameters.length) = some 0 := by decide +kernel
theorem hd_TypeFinder_Type_init : y_TypeFinder_Type_init.cls ≠ "java/lang/invoke/MethodHandle" ∧ y_TypeFinder_Type_init.cls ≠ "java/lang/invoke/VarHandle" ∧ (parseMethodDescriptor y_TypeFinder_Type_init.desc).map (fun d => d.parameters.length) = some 4 := by decide +kernel
theorem hd_TypeFinder_Name_init : y_TypeFinder_Name_init.cls ≠ "java/lang/invoke/MethodHandle" ∧ y_TypeFinder_Name_init.cls ≠ "java/lang/invoke/VarHandle" ∧ (parseMethodDescriptor y_TypeFinder_Name_init.desc).map (fun d => d.parameters.length) = some 3 := by decide +kernel
theorem hd_TypeFinder_Unifier_function : y_TypeFinder_Unifier_function.cls ≠ "java/lang/invoke/MethodHandle" ∧ y_TypeFinder_Unifier_function.cls ≠ "java/lang/invoke/VarHandle" ∧ (parseMethodDescriptor y_TypeFinder_Unifier_function.desc).map (fun d => d.parameters.length) = some 2 := by decide +kernel
theorem hd_TypeFinder_DataType_init : y_TypeFinder_DataType_init.cls ≠ "java/lang/invoke/MethodHandle" ∧ y_TypeFinder_DataType_init.cls ≠ "java/lang/invoke/VarHandle" ∧ (parseMethodDescriptor y_TypeFinder_DataType_init.desc).map (fun d => d.parameters.length) = some 2 := by decide +kernel
theorem hd_TypeFinder_DataType_made : y_TypeFinder_DataType_made.cls ≠ "java/lang/invoke/MethodHandle" ∧ y_TypeFinder_DataType_made.cls ≠ "java/lang/invoke/VarHandle" ∧ (parseMethodDescriptor y_TypeFinder_DataType_made.desc).map (fun d => d.parameters.length) = some 2 := by decide +kernel
theorem hd_TypeFinder_Unifier_init : y_TypeFinder_Unifier_init.cls ≠ "java/lang/invoke/MethodHandle" ∧ y_TypeFinder_Unifier_init.cls ≠ "java/lang/invoke/VarHandle" ∧ (parseMethodDescriptor y_TypeFinder_Unifier_init.desc).map (fun d => d.parameters.length) = some 0 := by decide +kernel
theorem hd_TypeFinder_Checker_init : y_TypeFinder_Checker_init.cls ≠ "java/lang/invoke/MethodHandle" ∧ y_TypeFinder_Checker_init.cls ≠ "java/lang/invoke/VarHandle" ∧ (parseMethodDescriptor y_TypeFinder_Checker_init.desc).map (fun d => d.parameters.length) = some 1 := by decide +kernel
theorem hd_TypeFinder_Writer_init : y_TypeFinder_Writer_init.cls ≠ "java/lang/invoke/MethodHandle" ∧ y_TypeFinder_Writer_init.cls ≠ "java/lang/invoke/VarHandle" ∧ (parseMethodDescriptor y_TypeFinder_Writer_init.desc).map (fun d => d.parameters.length) = some 0 := by decide +kernel
theorem hd_TypeFinder_DataParser_init : y_TypeFinder_DataParser_init.cls ≠ "java/lang/invoke/MethodHandle" ∧ y_TypeFinder_DataParser_init.cls ≠ "java/lang/invoke/VarHandle" ∧ (parseMethodDescriptor y_TypeFinder_DataParser_init.desc).map (fun d => d.parameters.length) = some 1 := by decide +kernel
theorem hd_TypeFinder_Tokens_packed : y_TypeFinder_Tokens_packed.cls ≠ "java/lang/invoke/MethodHandle" ∧ y_TypeFinder_Tokens_packed.cls ≠ "java/lang/invoke/VarHandle" ∧ (parseMethodDescriptor y_TypeFinder_Tokens_packed.desc).map (fun d => d.parameters.length) = some 1 := by decide +kernel
theorem hd_ArrayList_size : y_ArrayList_size.cls ≠ "java/lang/invoke/MethodHandle" ∧ y_ArrayList_size.cls ≠ "java/lang/invoke/VarHandle" ∧ (parseMethodDescriptor y_ArrayList_size.desc).map (fun d => d.parameters.length) = some 0 := by decide +kernel
theorem hd_TypeFinder_Known_init : y_TypeFinder_Known_init.cls ≠ "java/lang/invoke/MethodHandle" ∧ y_TypeFinder_Known_init.cls ≠ "java/lang/invoke/VarHandle" ∧ (parseMethodDescriptor y_TypeFinder_Known_init.desc).map (fun d => d.parameters.length) = some 0 := by decide +kernel
theorem hd_TypeFinder_Tokens_init : y_TypeFinder_Tokens_init.cls ≠ "java/lang/invoke/MethodHandle" ∧ y_TypeFinder_Tokens_init.cls ≠ "java/lang/invoke/VarHandle" ∧ (parseMethodDescriptor y_TypeFinder_Tokens_init.desc).map (fun d => d.parameters.length) = some 0 := by decide +kernel
theorem hd_TypeFinder_Parser_init : y_TypeFinder_Parser_init.cls ≠ "java/lang/invoke/MethodHandle" ∧ y_TypeFinder_Parser_init.cls ≠ "java/lang/invoke/VarHandle" ∧ (parseMethodDescriptor y_TypeFinder_Parser_init.desc).map (fun d => d.parameters.length) = some 0 := by decide +kernel
theorem hd_TypeFinder_init : y_TypeFinder_init.cls ≠ "java/lang/invoke/MethodHandle" ∧ y_TypeFinder_init.cls ≠ "java/lang/invoke/VarHandle" ∧ (parseMethodDescriptor y_TypeFinder_init.desc).map (fun d => d.parameters.length) = some 0 := by decide +kernel
theorem hd_TypeFinderModel_wordOf : y_TypeFinderModel_wordOf.cls ≠ "java/lang/invoke/MethodHandle" ∧ y_TypeFinderModel_wordOf.cls ≠ "java/lang/invoke/VarHandle" ∧ (parseMethodDescriptor y_TypeFinderModel_wordOf.desc).map (fun d => d.parameters.length) = some 1 := by decide +kernel
theorem hd_TypeFinderModel_setName : y_TypeFinderModel_setName.cls ≠ "java/lang/invoke/MethodHandle" ∧ y_TypeFinderModel_setName.cls ≠ "java/lang/invoke/VarHandle" ∧ (parseMethodDescriptor y_TypeFinderModel_setName.desc).map (fun d => d.parameters.length) = some 6 := by decide +kernel
theorem hd_TypeFinderModel_init : y_TypeFinderModel_init.cls ≠ "java/lang/invoke/MethodHandle" ∧ y_TypeFinderModel_init.cls ≠ "java/lang/invoke/VarHandle" ∧ (parseMethodDescriptor y_TypeFinderModel_init.desc).map (fun d => d.parameters.length) = some 0 := by decide +kernel
theorem hd_TypeFinder_takeDraft : y_TypeFinder_takeDraft.cls ≠ "java/lang/invoke/MethodHandle" ∧ y_TypeFinder_takeDraft.cls ≠ "java/lang/invoke/VarHandle" ∧ (parseMethodDescriptor y_TypeFinder_takeDraft.desc).map (fun d => d.parameters.length) = some 0 := by decide +kernel
theorem hd_TypeFinder_Tokens_put : y_TypeFinder_Tokens_put.cls ≠ "java/lang/invoke/MethodHandle" ∧ y_TypeFinder_Tokens_put.cls ≠ "java/lang/invoke/VarHandle" ∧ (parseMethodDescriptor y_TypeFinder_Tokens_put.desc).map (fun d => d.parameters.length) = some 2 := by decide +kernel
theorem hd_TypeFinder_Tokens_read : y_TypeFinder_Tokens_read.cls ≠ "java/lang/invoke/MethodHandle" ∧ y_TypeFinder_Tokens_read.cls ≠ "java/lang/invoke/VarHandle" ∧ (parseMethodDescriptor y_TypeFinder_Tokens_read.desc).map (fun d => d.parameters.length) = some 2 := by decide +kernel
theorem hd_TypeFinder_Tokens_accept : y_TypeFinder_Tokens_accept.cls ≠ "java/lang/invoke/MethodHandle" ∧ y_TypeFinder_Tokens_accept.cls ≠ "java/lang/invoke/VarHandle" ∧ (parseMethodDescriptor y_TypeFinder_Tokens_accept.desc).map (fun d => d.parameters.length) = some 1 := by decide +kernel
theorem hd_TypeFinder_Tokens_is : y_TypeFinder_Tokens_is.cls ≠ "java/lang/invoke/MethodHandle" ∧ y_TypeFinder_Tokens_is.cls ≠ "java/lang/invoke/VarHandle" ∧ (parseMethodDescriptor y_TypeFinder_Tokens_is.desc).map (fun d => d.parameters.length) = some 1 := by decide +kernel
theorem hd_TypeFinder_Tokens_kindBehind : y_TypeFinder_Tokens_kindBehind.cls ≠ "java/lang/invoke/MethodHandle" ∧ y_TypeFinder_Tokens_kindBehind.cls ≠ "java/lang/invoke/VarHandle" ∧ (parseMethodDescriptor y_TypeFinder_Tokens_kindBehind.desc).map (fun d => d.parameters.length) = some 0 := by decide +kernel
theorem hd_TypeFinder_Tokens_take : y_TypeFinder_Tokens_take.cls ≠ "java/lang/invoke/MethodHandle" ∧ y_TypeFinder_Tokens_take.cls ≠ "java/lang/invoke/VarHandle" ∧ (parseMethodDescriptor y_TypeFinder_Tokens_take.desc).map (fun d => d.parameters.length) = some 1 := by decide +kernel
theorem hd_TypeFinder_Parser_definition : y_TypeFinder_Parser_definition.cls ≠ "java/lang/invoke/MethodHandle" ∧ y_TypeFinder_Parser_definition.cls ≠ "java/lang/invoke/VarHandle" ∧ (parseMethodDescriptor y_TypeFinder_Parser_definition.desc).map (fun d => d.parameters.length) = some 1 := by decide +kernel
theorem hd_TypeFinder_Parser_declaration : y_TypeFinder_Parser_declaration.cls ≠ "java/lang/invoke/MethodHandle" ∧ y_TypeFinder_Parser_declaration.cls ≠ "java/lang/invoke/VarHandle" ∧ (parseMethodDescriptor y_TypeFinder_Parser_declaration.desc).map (fun d => d.parameters.length) = some 2 := by decide +kernel
theorem hd_TypeFinder_Parser_atom : y_TypeFinder_Parser_atom.cls ≠ "java/lang/invoke/MethodHandle" ∧ y_TypeFinder_Parser_atom.cls ≠ "java/lang/invoke/VarHandle" ∧ (parseMethodDescriptor y_TypeFinder_Parser_atom.desc).map (fun d => d.parameters.length) = some 1 := by decide +kernel
theorem hd_TypeFinder_Parser_application : y_TypeFinder_Parser_application.cls ≠ "java/lang/invoke/MethodHandle" ∧ y_TypeFinder_Parser_application.cls ≠ "java/lang/invoke/VarHandle" ∧ (parseMethodDescriptor y_TypeFinder_Parser_application.desc).map (fun d => d.parameters.length) = some 1 := by decide +kernel
theorem hd_TypeFinder_Parser_chain : y_TypeFinder_Parser_chain.cls ≠ "java/lang/invoke/MethodHandle" ∧ y_TypeFinder_Parser_chain.cls ≠ "java/lang/invoke/VarHandle" ∧ (parseMethodDescriptor y_TypeFinder_Parser_chain.desc).map (fun d => d.parameters.length) = some 1 := by decide +kernel
theorem hd_TypeFinder_Parser_expression : y_TypeFinder_Parser_expression.cls ≠ "java/lang/invoke/MethodHandle" ∧ y_TypeFinder_Parser_expression.cls ≠ "java/lang/invoke/VarHandle" ∧ (parseMethodDescriptor y_TypeFinder_Parser_expression.desc).map (fun d => d.parameters.length) = some 1 := by decide +kernel
theorem hd_TypeFinder_Parser_question : y_TypeFinder_Parser_question.cls ≠ "java/lang/invoke/MethodHandle" ∧ y_TypeFinder_Parser_question.cls ≠ "java/lang/invoke/VarHandle" ∧ (parseMethodDescriptor y_TypeFinder_Parser_question.desc).map (fun d => d.parameters.length) = some 2 := by decide +kernel
theorem hd_TypeFinder_declare : y_TypeFinder_declare.cls ≠ "java/lang/invoke/MethodHandle" ∧ y_TypeFinder_declare.cls ≠ "java/lang/invoke/VarHandle" ∧ (parseMethodDescriptor y_TypeFinder_declare.desc).map (fun d => d.parameters.length) = some 0 := by decide +kernel
theorem hd_TypeFinder_ask : y_TypeFinder_ask.cls ≠ "java/lang/invoke/MethodHandle" ∧ y_TypeFinder_ask.cls ≠ "java/lang/invoke/VarHandle" ∧ (parseMethodDescriptor y_TypeFinder_ask.desc).map (fun d => d.parameters.length) = some 0 := by decide +kernel
theorem hd_Preconditions_checkFromToIndex : y_Preconditions_checkFromToIndex.cls ≠ "java/lang/invoke/MethodHandle" ∧ y_Preconditions_checkFromToIndex.cls ≠ "java/lang/invoke/VarHandle" ∧ (parseMethodDescriptor y_Preconditions_checkFromToIndex.desc).map (fun d => d.parameters.length) = some 4 := by decide +kernel
theorem hd_String_checkBoundsBeginEnd : y_String_checkBoundsBeginEnd.cls ≠ "java/lang/invoke/MethodHandle" ∧ y_String_checkBoundsBeginEnd.cls ≠ "java/lang/invoke/VarHandle" ∧ (parseMethodDescriptor y_String_checkBoundsBeginEnd.desc).map (fun d => d.parameters.length) = some 3 := by decide +kernel
theorem hd_Arrays_checkLength : y_Arrays_checkLength.cls ≠ "java/lang/invoke/MethodHandle" ∧ y_Arrays_checkLength.cls ≠ "java/lang/invoke/VarHandle" ∧ (parseMethodDescriptor y_Arrays_checkLength.desc).map (fun d => d.parameters.length) = some 2 := by decide +kernel
theorem hd_Arrays_copyOfRangeByte : y_Arrays_copyOfRangeByte.cls ≠ "java/lang/invoke/MethodHandle" ∧ y_Arrays_copyOfRangeByte.cls ≠ "java/lang/invoke/VarHandle" ∧ (parseMethodDescriptor y_Arrays_copyOfRangeByte.desc).map (fun d => d.parameters.length) = some 3 := by decide +kernel
theorem hd_Arrays_copyOfRange : y_Arrays_copyOfRange.cls ≠ "java/lang/invoke/MethodHandle" ∧ y_Arrays_copyOfRange.cls ≠ "java/lang/invoke/VarHandle" ∧ (parseMethodDescriptor y_Arrays_copyOfRange.desc).map (fun d => d.parameters.length) = some 3 := by decide +kernel
theorem hd_String_init : y_String_init.cls ≠ "java/lang/invoke/MethodHandle" ∧ y_String_init.cls ≠ "java/lang/invoke/VarHandle" ∧ (parseMethodDescriptor y_String_init.desc).map (fun d => d.parameters.length) = some 2 := by decide +kernel
theorem hd_StringLatin1_newString : y_StringLatin1_newString.cls ≠ "java/lang/invoke/MethodHandle" ∧ y_StringLatin1_newString.cls ≠ "java/lang/invoke/VarHandle" ∧ (parseMethodDescriptor y_StringLatin1_newString.desc).map (fun d => d.parameters.length) = some 3 := by decide +kernel
theorem hd_String_substring : y_String_substring.cls ≠ "java/lang/invoke/MethodHandle" ∧ y_String_substring.cls ≠ "java/lang/invoke/VarHandle" ∧ (parseMethodDescriptor y_String_substring.desc).map (fun d => d.parameters.length) = some 2 := by decide +kernel
theorem hd_TypeFinderModel_declare : y_TypeFinderModel_declare.cls ≠ "java/lang/invoke/MethodHandle" ∧ y_TypeFinderModel_declare.cls ≠ "java/lang/invoke/VarHandle" ∧ (parseMethodDescriptor y_TypeFinderModel_declare.desc).map (fun d => d.parameters.length) = some 0 := by decide +kernel
theorem hd_TypeFinderModel_begin : y_TypeFinderModel_begin.cls ≠ "java/lang/invoke/MethodHandle" ∧ y_TypeFinderModel_begin.cls ≠ "java/lang/invoke/VarHandle" ∧ (parseMethodDescriptor y_TypeFinderModel_begin.desc).map (fun d => d.parameters.length) = some 0 := by decide +kernel
theorem hd_TypeFinderModel_split : y_TypeFinderModel_split.cls ≠ "java/lang/invoke/MethodHandle" ∧ y_TypeFinderModel_split.cls ≠ "java/lang/invoke/VarHandle" ∧ (parseMethodDescriptor y_TypeFinderModel_split.desc).map (fun d => d.parameters.length) = some 0 := by decide +kernel
theorem hd_TypeFinderModel_put : y_TypeFinderModel_put.cls ≠ "java/lang/invoke/MethodHandle" ∧ y_TypeFinderModel_put.cls ≠ "java/lang/invoke/VarHandle" ∧ (parseMethodDescriptor y_TypeFinderModel_put.desc).map (fun d => d.parameters.length) = some 2 := by decide +kernel
theorem hd_TypeFinderModel_peek : y_TypeFinderModel_peek.cls ≠ "java/lang/invoke/MethodHandle" ∧ y_TypeFinderModel_peek.cls ≠ "java/lang/invoke/VarHandle" ∧ (parseMethodDescriptor y_TypeFinderModel_peek.desc).map (fun d => d.parameters.length) = some 0 := by decide +kernel
theorem hd_TypeFinderModel_heading : y_TypeFinderModel_heading.cls ≠ "java/lang/invoke/MethodHandle" ∧ y_TypeFinderModel_heading.cls ≠ "java/lang/invoke/VarHandle" ∧ (parseMethodDescriptor y_TypeFinderModel_heading.desc).map (fun d => d.parameters.length) = some 0 := by decide +kernel
theorem hd_TypeFinderModel_expect : y_TypeFinderModel_expect.cls ≠ "java/lang/invoke/MethodHandle" ∧ y_TypeFinderModel_expect.cls ≠ "java/lang/invoke/VarHandle" ∧ (parseMethodDescriptor y_TypeFinderModel_expect.desc).map (fun d => d.parameters.length) = some 1 := by decide +kernel
theorem hd_TypeFinderModel_refuse : y_TypeFinderModel_refuse.cls ≠ "java/lang/invoke/MethodHandle" ∧ y_TypeFinderModel_refuse.cls ≠ "java/lang/invoke/VarHandle" ∧ (parseMethodDescriptor y_TypeFinderModel_refuse.desc).map (fun d => d.parameters.length) = some 1 := by decide +kernel
theorem hd_TypeFinderModel_ask : y_TypeFinderModel_ask.cls ≠ "java/lang/invoke/MethodHandle" ∧ y_TypeFinderModel_ask.cls ≠ "java/lang/invoke/VarHandle" ∧ (parseMethodDescriptor y_TypeFinderModel_ask.desc).map (fun d => d.parameters.length) = some 0 := by decide +kernel
theorem hd_TypeFinderModel_expression : y_TypeFinderModel_expression.cls ≠ "java/lang/invoke/MethodHandle" ∧ y_TypeFinderModel_expression.cls ≠ "java/lang/invoke/VarHandle" ∧ (parseMethodDescriptor y_TypeFinderModel_expression.desc).map (fun d => d.parameters.length) = some 0 := by decide +kernel
theorem hd_TypeFinderModel_beginExpression : y_TypeFinderModel_beginExpression.cls ≠ "java/lang/invoke/MethodHandle" ∧ y_TypeFinderModel_beginExpression.cls ≠ "java/lang/invoke/VarHandle" ∧ (parseMethodDescriptor y_TypeFinderModel_beginExpression.desc).map (fun d => d.parameters.length) = some 0 := by decide +kernel
theorem hd_TypeFinderModel_enter : y_TypeFinderModel_enter.cls ≠ "java/lang/invoke/MethodHandle" ∧ y_TypeFinderModel_enter.cls ≠ "java/lang/invoke/VarHandle" ∧ (parseMethodDescriptor y_TypeFinderModel_enter.desc).map (fun d => d.parameters.length) = some 3 := by decide +kernel
theorem hd_TypeFinderModel_within : y_TypeFinderModel_within.cls ≠ "java/lang/invoke/MethodHandle" ∧ y_TypeFinderModel_within.cls ≠ "java/lang/invoke/VarHandle" ∧ (parseMethodDescriptor y_TypeFinderModel_within.desc).map (fun d => d.parameters.length) = some 1 := by decide +kernel
theorem hd_TypeFinderModel_chain : y_TypeFinderModel_chain.cls ≠ "java/lang/invoke/MethodHandle" ∧ y_TypeFinderModel_chain.cls ≠ "java/lang/invoke/VarHandle" ∧ (parseMethodDescriptor y_TypeFinderModel_chain.desc).map (fun d => d.parameters.length) = some 0 := by decide +kernel
theorem hd_TypeFinderModel_atom : y_TypeFinderModel_atom.cls ≠ "java/lang/invoke/MethodHandle" ∧ y_TypeFinderModel_atom.cls ≠ "java/lang/invoke/VarHandle" ∧ (parseMethodDescriptor y_TypeFinderModel_atom.desc).map (fun d => d.parameters.length) = some 1 := by decide +kernel
end
section
/-! Methods that throw an IllegalArgumentException: their contracts, and a call of such a method in one that has no handler. -/
def xb_IAE (t : State) (x : Nat) : Prop := ∃ cell : Cell, t.heap[x]? = some cell ∧ cell.vm.isStatics = false ∧ t.vm.findClass "java/lang/IllegalArgumentException" = some cell.cls
def xb_TQ (wc : va_W) (sz : Nat) (rm : Room) : Array Value → State → Outcome → State → Prop := fun _ st oc t => ∃ x : Nat, oc = .threw x ∧ xb_IAE t x ∧ st.WarmedH t.vm ∧ (∃ L : List Loc, st.sameButNew ({ t with vm := st.vm } : State) L rm.cells rm.slots ∧ ∀ q ∈ L, va_A wc sz q.base) ∧ va_F (va_A wc sz) st t
def xb_CTT (l : Launch) (y : MethodName) (bytes : ByteArray) (maxL : Nat) (ret : Option FieldType) (rm : Room) (G : xb_EV) (ss : List (Nat × Nat × Nat × (Nat → Int32))) (av : List Value) (wc : va_W) : Prop :=
  ∀ sz : Nat, MetFree l y (headSpec (Cond.code y bytes maxL ret :: xb_g) rm) (va_Pc av (xb_pre G ss wc sz)) (fun _ _ _ _ _ => True) (xb_TQ wc sz rm)
def xb_MT (below : List Frame) (wc : va_W) (a : Array Value) (s : State) (rm : Room) : State → Prop := fun t => ∃ o, t.status = .running ∧ Ended t below o ∧ xb_TQ wc s.heap.size rm a s o t
section XBT
variable {p : Program} {l : Launch} {e : Env} {R : Room} {s : State} {m : MethodId} {args : Array Value} {below : List Frame} {meth : Method} {c : Code} {H : Heap} {locs : List Loc} {cells slots : Nat} {Q : State → Prop}
variable {cc : ByteArray} {nL pc : Nat} {own : String} {G : xb_EV} {ss : List (Nat × Nat × Nat × (Nat → Int32))} {A : Nat → Prop} {ls : Array Slot} {rest st0 : List Value} {ws wc wc0 wr : va_W}
theorem xb_CTT.of {y : MethodName} {bytes : ByteArray} {maxL : Nat} {ret : Option FieldType} {rm : Room} {av : List Value} (hy : plainFor y = true) (own : String) (hown : y.cls = own)
    (body : ∀ (p : Program) (e : Env) (s : State) (m : MethodId) (args : Array Value) (below : List Frame) (meth : Method) (c : Code) (A : Nat → Prop) (ls : Array Slot), l.admits e → xb_F p s m args c bytes maxL own G ss A → c.exceptionTable.isEmpty = true → meth.locks = false → xb_W G A s wc s.heap [] → lv_has ls maxL (lv_args 0 av) → (∀ q, A q ↔ va_A wc s.heap.size q) →
      W p l e rm s m args below meth c s.heap [] 0 0 (xb_MT below wc args s rm) (F0 m 0 ls [])) (hlen : (lg_sl av).length ≤ maxL) :
    xb_CTT l y bytes maxL ret rm G ss av wc := by
  intro sz
  refine MetFree.of_bodySF (code := bytes) (maxLocals := maxL) (ret := ret) hy ?_ ?_
  · intro args s m h hn
    obtain ⟨meth, c, h1, h2, h3, h4, h5, h6, -, -⟩ := Cond.code_spec hn (atoms_spec (ws := Cond.code y bytes maxL ret :: xb_g) h _ List.mem_cons_self)
    exact ⟨meth, c, h1, h2, h3, h4, h5, h6⟩
  · intro p e s m args below meth c s₁ B hml hv _
    obtain ⟨rfl, hsz, hP, hK, hD0, hE, hSS⟩ := hv
    subst hsz
    have hts := atoms_spec (ws := Cond.code y bytes maxL ret :: xb_g) B.pre
    have hl := lv_entry av (n := maxL) hlen
    have hh0 : s₁.heap = s.heap := by rw [B.state]; rfl
    obtain ⟨t, a1, o, b1, b2, b3⟩ := body p e s m av.toArray below meth c (va_A wc s.heap.size) _ B.admits ⟨⟨B.exec, B.bytes, hml, by rw [← hown]; exact findClass_of_methodNamed B.named, fun w hw => hts w (List.mem_cons_of_mem _ hw)⟩, hK, fun q h => Or.inr h, hE, hSS⟩ (B.noHandlers (hts _ List.mem_cons_self)) B.notSynchronized ⟨hP, hD0.self (sz := s.heap.size), va_S.rf⟩ hl (fun _ => Iff.rfl) s₁ hh0 (Stand.of_body B)
    rw [lg_entry_eq]
    exact ⟨t, o, a1, b1, b2, b3⟩
theorem xb_thr {y : MethodName} {bytes : ByteArray} {maxL : Nat} {ret : Option FieldType} {rm : Room} {ss' : List (Nat × Nat × Nat × (Nat → Int32))} {av : List Value} {U : State} (X : Stand p l e R s m args below meth c U locs cells slots) (hM : xb_CTT l y bytes maxL ret rm G ss' av wc) {g : JFrame} {ig : Instr} {len : Nat} (hg : g.method = m) (hsize : g.locals.size = c.maxLocals) (hdg : decode c.code g.pc = .ok (ig, len)) (hW : 2 * g.monitorRoom + (g.stack.map fun v => v.category).sum ≤ 8) {mk : MethodId} (hn : U.methodNamed? y = some mk)
    (h1 : ∀ w ∈ Cond.code y bytes maxL ret :: xb_g, w.before av.toArray U = true) (h3 : (Cond.initialized y.cls).before av.toArray U = true) (hpre : xb_pre G ss' wc U.heap.size U) (hRm : rm.frames + 1 ≤ R.frames ∧ 8 + (maxL + 11) + rm.locals ≤ R.locals) (h4 : cells + rm.cells ≤ R.cells) (h5 : slots + rm.slots ≤ R.slots) :
    ∃ (x : Nat) (T' : State) (L : List Loc), Stand p l e R s m args below meth c T' (locs ++ L) (cells + rm.cells) (slots + rm.slots) ∧ (∀ q ∈ L, va_A wc U.heap.size q.base) ∧ xb_IAE T' x ∧ va_F (va_A wc U.heap.size) U T' ∧ ∀ acts, Steps p.tables e below (doInvoke e (U.setTop g) acts mk av.toArray).1 ((T'.setTop g).pushFrame (.throwing x)) := by
  obtain ⟨methY, cY, hmY, hcY, -, hlY, -, -, -, -⟩ := Cond.code_spec hn (h1 _ List.mem_cons_self)
  obtain ⟨kY, hkY, -⟩ := className_of_methodNamed hn
  have hinitY : kY.init = .initialized := Cond.initialized_spec (findClass_of_methodNamed hn) hkY h3
  have h : At U g.method c below := by rw [hg]; exact X.here
  have happ : (headSpec (Cond.code y bytes maxL ret :: xb_g) rm).appliesLoose y e.platform (U.calling g mk av.toArray) = true :=
    Spec.appliesLoose_calling (g := g) h hdg hn hkY hinitY
      (X.room_calling (g := g) (R' := rm) hsize hmY hcY hRm.1 (by rw [hlY]; omega) h4 h5) (atoms_intro h1)
  obtain ⟨mid, hmid⟩ := h.above
  have hfr : (U.setTop g).frames = (.java g :: mid) ++ below := by rw [State.frames_setTop' g h.top, hmid]; rfl
  obtain ⟨o, s₂, hsteps, -, hend, hq⟩ := Steps.callFree (hM U.heap.size) p X.admits X.cas X.clock (acts := []) hfr happ (xb_blind av.toArray U g mk ⟨rfl, hpre⟩) trivial
  have hq' : xb_TQ wc U.heap.size rm av.toArray (U.calling g mk av.toArray) o s₂ := hq
  rw [State.frames_setTop' g h.top, X.tail] at hend
  obtain ⟨x, rfl, hI, hW2, ⟨L, hsame, hL⟩, hF⟩ := hq'
  obtain ⟨T', X', hWT, hsame', ht⟩ := X.outOfThrown hg hend hW2 hsame
  subst ht
  have hh : ((T'.setTop g).pushFrame (.throwing x)).heap = T'.heap := Stand.throwing_heap T' g x
  have hv : ((T'.setTop g).pushFrame (.throwing x)).vm = T'.vm := Stand.throwing_vm T' g x
  refine ⟨x, T', L, X', hL, ?_, ?_, fun acts => by rw [doInvoke_state]; exact hsteps⟩
  · obtain ⟨cell, i1, i2, i3⟩ := hI
    rw [hh] at i1
    rw [hv] at i3
    exact ⟨cell, i1, i2, i3⟩
  · obtain ⟨f1, f2⟩ := hF
    rw [hh] at f1
    exact ⟨f1, fun q a b => by have := f2 q a b; rw [hh] at this; exact this⟩
/-- the end of a method without handlers, into which an exception has come -/
theorem xb_out {rm rm0 : Room} (hlk : meth.locks = false) (hno : c.exceptionTable.isEmpty = true) (hS : va_S A s.heap H locs) (hF : ∀ q, va_A wc H.size q → A q) (hA : ∀ q, A q ↔ va_A wc0 s.heap.size q) {U T' T : State} {g0 : JFrame} {L : List Loc} {x : Nat} (hU : U.heap = H) (X' : Stand p l e R s m args below meth c T' (locs ++ L) (cells + rm.cells) (slots + rm.slots)) (hL : ∀ q ∈ L, va_A wc U.heap.size q.base) (hI : xb_IAE T' x) (hF' : va_F (va_A wc U.heap.size) U T')
    (hc : cells + rm.cells ≤ rm0.cells) (hs : slots + rm.slots ≤ rm0.slots) (st : Steps p.tables e below (T.setTop g0) ((T'.setTop (F0 m pc ls rest)).pushFrame (.throwing x))) : ∃ t, Steps p.tables e below (T.setTop g0) t ∧ xb_MT below wc0 args s rm0 t := by
  have hnil : c.exceptionTable.toList = [] := by
    have h0 : c.exceptionTable.size = 0 := by simpa [Array.isEmpty] using hno
    exact List.eq_nil_of_length_eq_zero (by simpa using h0)
  obtain ⟨w1, w2, w3, w4, w5⟩ := X'.leaveThrown x (g := F0 m pc ls rest) rfl rfl rfl (fun y hy => by rw [hnil] at hy; cases hy) hlk
  refine ⟨_, st.trans w1, .threw x, w2, w3, x, rfl, hI, w4, ⟨locs ++ L, w5.mono hc hs, fun q hq => ?_⟩, ?_⟩
  · rcases List.mem_append.mp hq with h | h
    · exact (hA _).1 (hS.2.2 q h)
    · exact (hA _).1 (hF _ (by rw [← hU]; exact hL q h))
  · obtain ⟨f1, f2⟩ := hF'
    rw [hU] at f1 f2
    exact ⟨Nat.le_trans hS.1 f1, fun q a b => (f2 q (Nat.lt_of_lt_of_le a hS.1) (fun z => b ((hA q).1 (hF q z)))).trans (hS.2.1 q a (fun z => b ((hA q).1 z)))⟩
theorem xb_throwV {y : MethodName} {bytes : ByteArray} {maxL index : Nat} {ret : Option FieldType} {rm rm0 : Room} {ss' : List (Nat × Nat × Nat × (Nat → Int32))} {C : String} {b : Nat} {As : List Value} (F : xb_F p s m args c cc nL own G ss A) (hlk : meth.locks = false) (hno : c.exceptionTable.isEmpty = true) (hA : ∀ q, A q ↔ va_A wc0 s.heap.size q) (h : xb_W G A s ws H locs)
    (hM : xb_CTT l y bytes maxL ret rm G ss' (.ref b :: As) wc) (n : Nat) (hb : ∃ cell : Cell, H[b]? = some cell ∧ cell.vm.isStatics = false ∧ s.vm.findClass C = some cell.cls) (k1 : Cond.code y bytes maxL ret ∈ xb_g) (k2 : Cond.initialized y.cls ∈ xb_g) (k3 : Cond.methodLink own index y ∈ xb_g) (k4 : Cond.instanceMethod y ∈ xb_g) (k5 : Cond.selects C y y ∈ xb_g)
    (hd : y.cls ≠ "java/lang/invoke/MethodHandle" ∧ y.cls ≠ "java/lang/invoke/VarHandle" ∧ (parseMethodDescriptor y.desc).map (fun d => d.parameters.length) = some n) (hRm : rm.frames + 1 ≤ R.frames ∧ 8 + (maxL + 11) + rm.locals ≤ R.locals)
    (isC : List Nat) (hC : isC.map (fun i => ws[i]?) = wc.map some) (hc : va_nd isC = true)
    (hss : ∀ U : State, U.heap = H → s.WarmedH U.vm → xb_SS ss' (va_A wc H.size) U U.heap)
    (hl : ls.size = nL) (hAs : As.length = n) (hst : st0 = As.reverse ++ .ref b :: rest) (hro : (rest.map fun v => v.category).sum ≤ 8) (hf : cells + rm.cells ≤ R.cells ∧ slots + rm.slots ≤ R.slots) (hw : cells + rm.cells ≤ rm0.cells ∧ slots + rm.slots ≤ rm0.slots) (hdg : decode cc pc = .ok (.invokevirtual index, 3)) :
    W p l e R s m args below meth c H locs cells slots (xb_MT below wc0 args s rm0) (F0 m pc ls st0) := by
  obtain ⟨hP, hD, hS⟩ := id h
  have hF := va_free (wc := wc) hD hS F.2.2.1 isC hC
  have hts := F.1.2.2.2.2
  have hpay : ∀ w ∈ Cond.code y bytes maxL ret :: xb_g, ∀ (a' : Array Value) (U : State), s.WarmedH U.vm → w.before a' U = true := pay_in hts (xb_gcode k1)
  obtain ⟨cellB, hcB, hoB, hclB⟩ := hb
  obtain ⟨⟨hx, hbb, hml, ho, -⟩, -⟩ := id F
  intro T hT X
  obtain ⟨mk, methM, hnamed, hmethM, hstM, habM⟩ := Cond.instanceMethod_spec (hts _ k4)
  obtain ⟨methM', cM, hmethM', -, -, -, -, -, -, hsigM⟩ := Cond.code_spec hnamed (hts _ k1)
  cases hmethM.symm.trans hmethM'
  obtain ⟨c2, r2, m2, q1, q2, q3, q4, kP, hkP, hkPi⟩ := Cond.selects_spec (hts _ k5)
  cases hclB.symm.trans q1
  cases (State.methodFound?_of_named hnamed ⟨hd.1, hd.2.1⟩).symm.trans q2
  cases hnamed.symm.trans q3
  have hselP : selectMethod e.platform s.vm cellB.cls mk = .method mk := by rw [Launch.admits_selectMethod X.admits]; exact q4
  have hlen : As.length = methM.sig.parameters.length := by
    have h2 := hd.2.2
    rw [hsigM] at h2
    exact hAs.trans (Option.some.inj h2).symm
  obtain ⟨vm₁, X₁, hstep₁⟩ := X.invokevirtual hx ho (hts _ k3) hnamed hmethM hstM hkP hkPi ⟨hd.1, hd.2.1⟩ (a := b) (cell := cellB) (by rw [hT]; exact hcB)
    (fun z h => by rw [h] at hoB; cases hoB) hselP hmethM habM hkP hkPi (g := F0 m pc ls st0) rfl (argsL := As) (rest := rest) hlen hst (by rw [hbb]; exact hdg)
  obtain ⟨x, T', L, X', hL, hI, hF', st⟩ := xb_thr X₁ hM (g := F0 m pc ls rest) (ig := .invokevirtual index) (len := 3) rfl (hl.trans hml.symm) (by rw [hbb]; exact hdg) (lv_room hro) (X₁.named hnamed) (fun w hw => hpay w hw _ _ X₁.warmed) (word_at X₁.warmed (xb_gin _ k2).2 (hts _ k2))
    (by have := xb_pre.at F h isC hC hc hss (U := T.setVm vm₁) hT X₁.warmed; rw [← hT] at this; exact this) hRm hf.1 hf.2
  exact xb_out (rm := rm) hlk hno hS hF hA (U := T.setVm vm₁) hT X' hL hI hF' hw.1 hw.2 (hstep₁ _ fun acts => st acts)
end XBT
end
section
/-! Helpers: texts of the outside and of the world; a new exception. -/
theorem xb_ss0 {s : State} {H : Heap} {A : Nat → Prop} : ∀ U : State, U.heap = H → s.WarmedH U.vm → xb_SS [] A U U.heap := fun _ _ _ _ hq => absurd hq List.not_mem_nil
theorem xb_min {a b : Nat} (h : b ≤ a) (ha : a < 2 ^ 31) : (if nI b < nI a then nI b else nI a) = nI b := by
  by_cases e : b = a
  · subst e
    split <;> rfl
  · rw [if_pos ((nI_ltI (by omega) ha).mpr (by omega))]
section XBH
variable {p : Program} {l : Launch} {e : Env} {R : Room} {s : State} {m : MethodId} {args : Array Value} {below : List Frame} {meth : Method} {c : Code} {H : Heap} {locs : List Loc} {cells slots : Nat} {Q : State → Prop}
variable {cc : ByteArray} {nL pc : Nat} {own : String} {G : xb_EV} {ss : List (Nat × Nat × Nat × (Nat → Int32))} {A : Nat → Prop} {ls : Array Slot} {rest st0 : List Value} {ws wc wc0 wr : va_W}
theorem xb_ssg {ss' : List (Nat × Nat × Nat × (Nat → Int32))} (F : xb_F p s m args c cc nL own G ss A) (h : xb_W G A s ws H locs) (isC : List Nat) (hC : isC.map (fun i => ws[i]?) = wc.map some) (hin : ∀ q ∈ ss', q ∈ ss) : ∀ U : State, U.heap = H → s.WarmedH U.vm → xb_SS ss' (va_A wc H.size) U U.heap :=
  fun _ hU hW => F.2.2.2.2.go hin h.2.2 (va_free h.2.1 h.2.2 F.2.2.1 isC hC) hU hW
theorem xb_litF (F : xb_F p s m args c cc nL own G ss A) (i : Nat) (hi : i < xb_sN) : xb_SB (G.2.2.2.1 i, G.2.2.2.2 i, xb_sL.getD i 0, fun j => (xb_sB.getD i []).getD j 0) A s s.heap :=
  F.2.2.2.1.2.2.2.1.1 i hi
theorem xb_lit (F : xb_F p s m args c cc nL own G ss A) (h : xb_W G A s ws H locs) (i : Nat) (hi : i < xb_sN) : ∀ U : State, U.heap = H → s.WarmedH U.vm → xb_SS [(G.2.2.2.1 i, G.2.2.2.2 i, xb_sL.getD i 0, fun j => (xb_sB.getD i []).getD j 0)] (va_A [] H.size) U U.heap := by
  intro U hU hW q hq
  obtain rfl : q = _ := List.mem_singleton.mp hq
  exact (xb_litF F i hi).go h.2.2 (va_free (wc := []) h.2.1 h.2.2 F.2.2.1 [] rfl) hU hW
theorem xb_str {q : String × Nat × String × Nat} (F : xb_F p s m args c cc nL own G ss A) (j : Nat) (hj : xb_sR[j]? = some q) : vk_R q.1 q.2.1 q.2.2.1 (G.2.2.2.1 q.2.2.2) s := F.2.2.2.1.2.2.2.2.1 q (List.mem_of_getElem? hj)
/-- a field of an object of the world, as one of the outside -/
theorem xb_wOF {ci N a : Nat} {C ow nm ds : String} {T : u_T} {ty : Nat → FieldType} {fin : Bool} {fs : List Value} {v : Value} {B : Nat → Prop} (F : xb_F p s m args c cc nL own G ss A) (h : xb_W G A s ws H locs) (cf : xb_cf ci C T N ty) (q0 : Nat) (he : ws[q0]? = some (a, .inr (ci, fs))) (k : Nat) (hk : k < N) (hT : T k = (ow, nm, ds, fin)) (hv : fs[k]? = some v) (hB : a < H.size → ¬ B a) : va_OF ow nm ds v a B s H := by
  obtain ⟨r, h1, cell, q1, q2, q3, q4⟩ := h.1 q0 _ he
  have hr : r = (C, T, N) := Option.some.inj (h1.symm.trans cf.1)
  subst hr
  obtain ⟨hS, hfc, kC, hkC, hkind⟩ := F.2.1.1 ci _ cf.1
  obtain ⟨c9, kf, fi, f, hi, hsl⟩ := hS k hk
  have hst := (u_facts hfc hkC (u_lays F.1.2.2.2.2 cf.2.1 hk) hi).1
  have hi : s.fieldFound? (T k).1 (T k).2.1 (T k).2.2.1 = some (c9, kf, fi, f) := hi
  rw [hT] at hi
  refine ⟨c9, kf, fi, f, cell, hi, hst, q1, by rw [q3]; exact nofun, ?_, hB (Array.getElem?_eq_some_iff.mp q1).1⟩
  rw [hsl, q4 k hk]
  simp [vp_V, hv]
/-- a text that the world holds, as one of the outside of a callee to whom nothing is given -/
theorem xb_wstr {a d n : Nat} {f : Nat → Int32} {v2 v3 : Value} (F : xb_F p s m args c cc nL own G ss A) (h : xb_W G A s ws H locs) (q0 q1 : Nat) (he : ws[q0]? = some (a, .inr (xb_iS, [.ref d, .int 0, v2, v3]))) (he1 : ws[q1]? = some (d, .inl (G.2.1 4, n, .inl f))) (hn : n < 2 ^ 31) : ∀ U : State, U.heap = H → s.WarmedH U.vm → xb_SS [(a, d, n, f)] (va_A [] H.size) U U.heap := by
  intro U hU hW q hq
  obtain rfl : q = _ := List.mem_singleton.mp hq
  have hB : ∀ x : Nat, x < H.size → ¬ va_A [] H.size x := by
    intro x hx z
    rcases z with ⟨k, e9, z⟩ | z
    · cases z
    · omega
  rw [hU]
  obtain ⟨cell, c1, c2, c3⟩ := va_recv F.2.1 h.1 cf_S.1 he
  have hd : H[d]? = some (arrV (G.2.1 4) n (fun j => .int (f j))) := h.1 q1 _ he1
  refine ⟨va_O.moved hW.alike ⟨cell, c1, c2, c3, hB _ (Array.getElem?_eq_some_iff.mp c1).1⟩, va_OF.moved hW.alike (xb_wOF F h cf_S q0 he 1 (by decide) rfl rfl (hB _)), va_OF.moved hW.alike (xb_wOF F h cf_S q0 he 0 (by decide) rfl rfl (hB _)), va_T.moved hW.alike ⟨_, hd, (F.2.1.2 4 (G.2.1 4, .byte) rfl).1 n _, nofun, Nat.le_of_eq (arrV_size _ _ _).symm, by first | (rw [arrV_size]; done) | (rw [arrV_size]; rfl), fun j hj => arrV_read _ _ hj, hB _ (Array.getElem?_eq_some_iff.mp hd).1⟩⟩
end XBH
/-- where no old slot was written, every old cell is as it was -/
theorem xb_same {s U : State} {k n : Nat} (h : s.sameButNew ({ U with vm := s.vm } : State) [] k n) : s.heap.size ≤ U.heap.size ∧ ∀ q : Nat, q < s.heap.size → U.heap[q]? = s.heap[q]? := by
  obtain ⟨-, h2, -, -, -, h6⟩ := h
  refine ⟨h2, fun q hq => ?_⟩
  have hc : s.heap[q]? = some s.heap[q] := Array.getElem?_eq_getElem hq
  obtain ⟨c', e1, e2, e3, e4⟩ := h6 q _ hc
  have e1 : U.heap[q]? = some c' := e1
  have hs : c'.slots = (s.heap[q]).slots := Array.ext_getElem? (fun i => e4 i List.not_mem_nil)
  rw [hs] at e2
  rw [e1, hc, e2]
section XBN
variable {p : Program} {l : Launch} {e : Env} {R : Room} {s : State} {m : MethodId} {args : Array Value} {below : List Frame} {meth : Method} {c : Code} {H : Heap} {locs : List Loc} {cells slots : Nat} {Q : State → Prop}
variable {cc : ByteArray} {nL pc : Nat} {own : String} {G : xb_EV} {ss : List (Nat × Nat × Nat × (Nat → Int32))} {A : Nat → Prop} {ls : Array Slot} {rest st0 : List Value} {ws wc wc0 wr : va_W}
/-- throw new IllegalArgumentException(), in a method that has written nothing -/
theorem xb_thrownew {rm0 : Room} {index ic : Nat} (F : xb_F p s m args c cc nL own G ss A) (hst : e.platform.stackTraces = false) (hlk : meth.locks = false) (hno : c.exceptionTable.isEmpty = true) (h : xb_W G A s ws s.heap []) (k1 : Cond.classLink own index "java/lang/IllegalArgumentException" ∈ xb_g) (k2 : Cond.instantiable "java/lang/IllegalArgumentException" 6 ∈ xb_g) (k3 : Cond.initialized "java/lang/IllegalArgumentException" ∈ xb_g)
    (hat : ∀ a ∈ Bundle.ownAtoms0 own ic "java/lang/IllegalArgumentException" ["java/lang/RuntimeException", "java/lang/Exception"], a.before args s = true) (hl : ls.size = nL) (hc : 1 ≤ R.cells ∧ 6 ≤ R.slots) (hc0 : 1 ≤ rm0.cells ∧ 6 ≤ rm0.slots) (hRf : 5 < R.frames) (hRl : 90 ≤ R.locals)
    (d0 : decode cc pc = .ok (.new index, 3)) (d3 : decode cc (pc + 3) = .ok (.dup, 1)) (d4 : decode cc (pc + 4) = .ok (.invokespecial ic, 3)) (d7 : decode cc (pc + 7) = .ok (.athrow, 1)) :
    W p l e R s m args below meth c s.heap [] 0 0 (xb_MT below wc0 args s rm0) (F0 m pc ls []) := by
  obtain ⟨⟨hx, hb, hml, hown, hts⟩, -⟩ := id F
  have hnil : c.exceptionTable.toList = [] := by
    have h0 : c.exceptionTable.size = 0 := by simpa [Array.isEmpty] using hno
    exact List.eq_nil_of_length_eq_zero (by simpa using h0)
  refine W.newc hx hb hown (hts _ k1) (hts _ k2) (hts _ k3) (g := F0 m pc ls []) rfl d0 (by omega) (by omega) (fun cC kC hf hk hkind hsz => ?_)
  refine W.eq (g2 := F0 m (pc + 3) ls [.ref s.heap.size]) rfl ?_
  refine lv_dup hx hb d3 rfl ?_
  intro T hT X
  have hcell : T.heap[s.heap.size]? = some (freshCell cC kC) := by
    rw [hT]
    exact Array.getElem?_push_size
  obtain ⟨U, st, hrun, hend, hW, hsame, ce, hce, hown2⟩ := X.ctorThrow0 hx hst hown (cls := "java/lang/IllegalArgumentException") (names := ["java/lang/RuntimeException", "java/lang/Exception"]) (ic := ic) (by decide) (by decide) hat (fun x hx => by cases hx) hf hk hcell (Nat.le_refl _)
    (g := F0 m (pc + 3 + 1) ls [.ref s.heap.size, .ref s.heap.size]) rfl (hl.trans hml.symm) rfl rfl (rest := []) rfl (by rw [hb]; exact d4) (by rw [hb]; exact d7) (fun x hx => by rw [hnil] at hx; cases hx) (by simpa using hRf) (by simp [Value.category]; omega) hlk
  obtain ⟨z1, z2⟩ := xb_same hsame
  exact ⟨U, st, .threw s.heap.size, hrun, hend, s.heap.size, rfl, ⟨ce, hce, by rw [hown2.vm]; rfl, by rw [hW.alike.findClass]; exact hown2.cls⟩, hW, ⟨[], hsame.mono (by simpa using hc0.1) (by simpa using hc0.2), fun q hq => by cases hq⟩, z1, fun q a _ => z2 q a⟩
end XBN
end
section
theorem d_AbstractCollection_init_0 : decode b_AbstractCollection_init 0 = .ok (.aload_n 0, 1) := by decide +kernel
theorem d_AbstractCollection_init_1 : decode b_AbstractCollection_init 1 = .ok (.invokespecial 1, 3) := by decide +kernel
theorem d_AbstractCollection_init_4 : decode b_AbstractCollection_init 4 = .ok (.return_, 1) := by decide +kernel
theorem d_AbstractList_init_0 : decode b_AbstractList_init 0 = .ok (.aload_n 0, 1) := by decide +kernel
theorem d_AbstractList_init_1 : decode b_AbstractList_init 1 = .ok (.invokespecial 1, 3) := by decide +kernel
theorem d_AbstractList_init_4 : decode b_AbstractList_init 4 = .ok (.aload_n 0, 1) := by decide +kernel
theorem d_AbstractList_init_5 : decode b_AbstractList_init 5 = .ok (.iconst 0, 1) := by decide +kernel
theorem d_AbstractList_init_6 : decode b_AbstractList_init 6 = .ok (.putfield 7, 3) := by decide +kernel
theorem d_AbstractList_init_9 : decode b_AbstractList_init 9 = .ok (.return_, 1) := by decide +kernel
theorem d_AbstractStringBuilder_init_0 : decode b_AbstractStringBuilder_init 0 = .ok (.aload_n 0, 1) := by decide +kernel
theorem d_AbstractStringBuilder_init_1 : decode b_AbstractStringBuilder_init 1 = .ok (.invokespecial 3, 3) := by decide +kernel
theorem d_AbstractStringBuilder_init_4 : decode b_AbstractStringBuilder_init 4 = .ok (.getstatic 18, 3) := by decide +kernel
theorem d_AbstractStringBuilder_init_7 : decode b_AbstractStringBuilder_init 7 = .ok (.ifCond .eq 18, 3) := by decide +kernel
theorem d_AbstractStringBuilder_init_10 : decode b_AbstractStringBuilder_init 10 = .ok (.aload_n 0, 1) := by decide +kernel
theorem d_AbstractStringBuilder_init_11 : decode b_AbstractStringBuilder_init 11 = .ok (.iload_n 1, 1) := by decide +kernel
theorem d_AbstractStringBuilder_init_12 : decode b_AbstractStringBuilder_init 12 = .ok (.newarray .byte, 2) := by decide +kernel
theorem d_AbstractStringBuilder_init_14 : decode b_AbstractStringBuilder_init 14 = .ok (.putfield 15, 3) := by decide +kernel
theorem d_AbstractStringBuilder_init_17 : decode b_AbstractStringBuilder_init 17 = .ok (.aload_n 0, 1) := by decide +kernel
theorem d_AbstractStringBuilder_init_18 : decode b_AbstractStringBuilder_init 18 = .ok (.iconst 0, 1) := by decide +kernel
theorem d_AbstractStringBuilder_init_19 : decode b_AbstractStringBuilder_init 19 = .ok (.putfield 22, 3) := by decide +kernel
theorem d_AbstractStringBuilder_init_22 : decode b_AbstractStringBuilder_init 22 = .ok (.goto 16, 3) := by decide +kernel
theorem d_AbstractStringBuilder_init_38 : decode b_AbstractStringBuilder_init 38 = .ok (.return_, 1) := by decide +kernel
theorem d_ArrayList_add_0 : decode b_ArrayList_add 0 = .ok (.iload_n 3, 1) := by decide +kernel
theorem d_ArrayList_add_1 : decode b_ArrayList_add 1 = .ok (.aload_n 2, 1) := by decide +kernel
theorem d_ArrayList_add_2 : decode b_ArrayList_add 2 = .ok (.arraylength, 1) := by decide +kernel
theorem d_ArrayList_add_3 : decode b_ArrayList_add 3 = .ok (.if_icmp .ne 8, 3) := by decide +kernel
theorem d_ArrayList_add_6 : decode b_ArrayList_add 6 = .ok (.aload_n 0, 1) := by decide +kernel
theorem d_ArrayList_add_7 : decode b_ArrayList_add 7 = .ok (.invokevirtual 129, 3) := by decide +kernel
theorem d_ArrayList_add_10 : decode b_ArrayList_add 10 = .ok (.astore_n 2, 1) := by decide +kernel
theorem d_ArrayList_add_11 : decode b_ArrayList_add 11 = .ok (.aload_n 2, 1) := by decide +kernel
theorem d_ArrayList_add_12 : decode b_ArrayList_add 12 = .ok (.iload_n 3, 1) := by decide +kernel
theorem d_ArrayList_add_13 : decode b_ArrayList_add 13 = .ok (.aload_n 1, 1) := by decide +kernel
theorem d_ArrayList_add_14 : decode b_ArrayList_add 14 = .ok (.aastore, 1) := by decide +kernel
theorem d_ArrayList_add_15 : decode b_ArrayList_add 15 = .ok (.aload_n 0, 1) := by decide +kernel
theorem d_ArrayList_add_16 : decode b_ArrayList_add 16 = .ok (.iload_n 3, 1) := by decide +kernel
theorem d_ArrayList_add_17 : decode b_ArrayList_add 17 = .ok (.iconst 1, 1) := by decide +kernel
theorem d_ArrayList_add_18 : decode b_ArrayList_add 18 = .ok (.iadd, 1) := by decide +kernel
theorem d_ArrayList_add_19 : decode b_ArrayList_add 19 = .ok (.putfield 48, 3) := by decide +kernel
theorem d_ArrayList_add_22 : decode b_ArrayList_add 22 = .ok (.return_, 1) := by decide +kernel
theorem d_ArrayList_add2_0 : decode b_ArrayList_add2 0 = .ok (.aload_n 0, 1) := by decide +kernel
theorem d_ArrayList_add2_1 : decode b_ArrayList_add2 1 = .ok (.dup, 1) := by decide +kernel
theorem d_ArrayList_add2_2 : decode b_ArrayList_add2 2 = .ok (.getfield 63, 3) := by decide +kernel
theorem d_ArrayList_add2_5 : decode b_ArrayList_add2 5 = .ok (.iconst 1, 1) := by decide +kernel
theorem d_ArrayList_add2_6 : decode b_ArrayList_add2 6 = .ok (.iadd, 1) := by decide +kernel
theorem d_ArrayList_add2_7 : decode b_ArrayList_add2 7 = .ok (.putfield 63, 3) := by decide +kernel
theorem d_ArrayList_add2_10 : decode b_ArrayList_add2 10 = .ok (.aload_n 0, 1) := by decide +kernel
theorem d_ArrayList_add2_11 : decode b_ArrayList_add2 11 = .ok (.aload_n 1, 1) := by decide +kernel
theorem d_ArrayList_add2_12 : decode b_ArrayList_add2 12 = .ok (.aload_n 0, 1) := by decide +kernel
theorem d_ArrayList_add2_13 : decode b_ArrayList_add2 13 = .ok (.getfield 9, 3) := by decide +kernel
theorem d_ArrayList_add2_16 : decode b_ArrayList_add2 16 = .ok (.aload_n 0, 1) := by decide +kernel
theorem d_ArrayList_add2_17 : decode b_ArrayList_add2 17 = .ok (.getfield 48, 3) := by decide +kernel
theorem d_ArrayList_add2_20 : decode b_ArrayList_add2 20 = .ok (.invokevirtual 131, 3) := by decide +kernel
theorem d_ArrayList_add2_23 : decode b_ArrayList_add2 23 = .ok (.iconst 1, 1) := by decide +kernel
theorem d_ArrayList_add2_24 : decode b_ArrayList_add2 24 = .ok (.ireturn, 1) := by decide +kernel
theorem d_ArrayList_grow_0 : decode b_ArrayList_grow 0 = .ok (.aload_n 0, 1) := by decide +kernel
theorem d_ArrayList_grow_1 : decode b_ArrayList_grow 1 = .ok (.getfield 9, 3) := by decide +kernel
theorem d_ArrayList_grow_4 : decode b_ArrayList_grow 4 = .ok (.arraylength, 1) := by decide +kernel
theorem d_ArrayList_grow_5 : decode b_ArrayList_grow 5 = .ok (.istore_n 2, 1) := by decide +kernel
theorem d_ArrayList_grow_6 : decode b_ArrayList_grow 6 = .ok (.iload_n 2, 1) := by decide +kernel
theorem d_ArrayList_grow_7 : decode b_ArrayList_grow 7 = .ok (.ifCond .gt 13, 3) := by decide +kernel
theorem d_ArrayList_grow_10 : decode b_ArrayList_grow 10 = .ok (.aload_n 0, 1) := by decide +kernel
theorem d_ArrayList_grow_11 : decode b_ArrayList_grow 11 = .ok (.getfield 9, 3) := by decide +kernel
theorem d_ArrayList_grow_14 : decode b_ArrayList_grow 14 = .ok (.getstatic 39, 3) := by decide +kernel
theorem d_ArrayList_grow_17 : decode b_ArrayList_grow 17 = .ok (.if_acmp .eq 28, 3) := by decide +kernel
theorem d_ArrayList_grow_45 : decode b_ArrayList_grow 45 = .ok (.aload_n 0, 1) := by decide +kernel
theorem d_ArrayList_grow_46 : decode b_ArrayList_grow 46 = .ok (.bipush 10, 2) := by decide +kernel
theorem d_ArrayList_grow_48 : decode b_ArrayList_grow 48 = .ok (.iload_n 1, 1) := by decide +kernel
theorem d_ArrayList_grow_49 : decode b_ArrayList_grow 49 = .ok (.invokestatic 79, 3) := by decide +kernel
theorem d_ArrayList_grow_52 : decode b_ArrayList_grow 52 = .ok (.anewarray 7, 3) := by decide +kernel
theorem d_ArrayList_grow_55 : decode b_ArrayList_grow 55 = .ok (.dup_x1, 1) := by decide +kernel
theorem d_ArrayList_grow_56 : decode b_ArrayList_grow 56 = .ok (.putfield 9, 3) := by decide +kernel
theorem d_ArrayList_grow_59 : decode b_ArrayList_grow 59 = .ok (.areturn, 1) := by decide +kernel
theorem d_ArrayList_grow2_0 : decode b_ArrayList_grow2 0 = .ok (.aload_n 0, 1) := by decide +kernel
theorem d_ArrayList_grow2_1 : decode b_ArrayList_grow2 1 = .ok (.aload_n 0, 1) := by decide +kernel
theorem d_ArrayList_grow2_2 : decode b_ArrayList_grow2 2 = .ok (.getfield 48, 3) := by decide +kernel
theorem d_ArrayList_grow2_5 : decode b_ArrayList_grow2 5 = .ok (.iconst 1, 1) := by decide +kernel
theorem d_ArrayList_grow2_6 : decode b_ArrayList_grow2 6 = .ok (.iadd, 1) := by decide +kernel
theorem d_ArrayList_grow2_7 : decode b_ArrayList_grow2 7 = .ok (.invokevirtual 69, 3) := by decide +kernel
theorem d_ArrayList_grow2_10 : decode b_ArrayList_grow2 10 = .ok (.areturn, 1) := by decide +kernel
theorem d_ArrayList_init_0 : decode b_ArrayList_init 0 = .ok (.aload_n 0, 1) := by decide +kernel
theorem d_ArrayList_init_1 : decode b_ArrayList_init 1 = .ok (.invokespecial 1, 3) := by decide +kernel
theorem d_ArrayList_init_4 : decode b_ArrayList_init 4 = .ok (.aload_n 0, 1) := by decide +kernel
theorem d_ArrayList_init_5 : decode b_ArrayList_init 5 = .ok (.getstatic 39, 3) := by decide +kernel
theorem d_ArrayList_init_8 : decode b_ArrayList_init 8 = .ok (.putfield 9, 3) := by decide +kernel
theorem d_ArrayList_init_11 : decode b_ArrayList_init 11 = .ok (.return_, 1) := by decide +kernel
theorem d_ArrayList_size_0 : decode b_ArrayList_size 0 = .ok (.aload_n 0, 1) := by decide +kernel
theorem d_ArrayList_size_1 : decode b_ArrayList_size 1 = .ok (.getfield 48, 3) := by decide +kernel
theorem d_ArrayList_size_4 : decode b_ArrayList_size 4 = .ok (.ireturn, 1) := by decide +kernel
theorem d_Arrays_checkLength_0 : decode b_Arrays_checkLength 0 = .ok (.iload_n 1, 1) := by decide +kernel
theorem d_Arrays_checkLength_1 : decode b_Arrays_checkLength 1 = .ok (.iload_n 0, 1) := by decide +kernel
theorem d_Arrays_checkLength_2 : decode b_Arrays_checkLength 2 = .ok (.if_icmp .ge 35, 3) := by decide +kernel
theorem d_Arrays_checkLength_37 : decode b_Arrays_checkLength 37 = .ok (.return_, 1) := by decide +kernel
theorem d_Arrays_copyOfRange_0 : decode b_Arrays_copyOfRange 0 = .ok (.iload_n 1, 1) := by decide +kernel
theorem d_Arrays_copyOfRange_1 : decode b_Arrays_copyOfRange 1 = .ok (.ifCond .ne 9, 3) := by decide +kernel
theorem d_Arrays_copyOfRange_4 : decode b_Arrays_copyOfRange 4 = .ok (.iload_n 2, 1) := by decide +kernel
theorem d_Arrays_copyOfRange_5 : decode b_Arrays_copyOfRange 5 = .ok (.aload_n 0, 1) := by decide +kernel
theorem d_Arrays_copyOfRange_6 : decode b_Arrays_copyOfRange 6 = .ok (.arraylength, 1) := by decide +kernel
theorem d_Arrays_copyOfRange_7 : decode b_Arrays_copyOfRange 7 = .ok (.if_icmp .eq 10, 3) := by decide +kernel
theorem d_Arrays_copyOfRange_10 : decode b_Arrays_copyOfRange 10 = .ok (.aload_n 0, 1) := by decide +kernel
theorem d_Arrays_copyOfRange_11 : decode b_Arrays_copyOfRange 11 = .ok (.iload_n 1, 1) := by decide +kernel
theorem d_Arrays_copyOfRange_12 : decode b_Arrays_copyOfRange 12 = .ok (.iload_n 2, 1) := by decide +kernel
theorem d_Arrays_copyOfRange_13 : decode b_Arrays_copyOfRange 13 = .ok (.invokestatic 339, 3) := by decide +kernel
theorem d_Arrays_copyOfRange_16 : decode b_Arrays_copyOfRange 16 = .ok (.areturn, 1) := by decide +kernel
theorem d_Arrays_copyOfRangeByte_0 : decode b_Arrays_copyOfRangeByte 0 = .ok (.iload_n 1, 1) := by decide +kernel
theorem d_Arrays_copyOfRangeByte_1 : decode b_Arrays_copyOfRangeByte 1 = .ok (.iload_n 2, 1) := by decide +kernel
theorem d_Arrays_copyOfRangeByte_2 : decode b_Arrays_copyOfRangeByte 2 = .ok (.invokestatic 343, 3) := by decide +kernel
theorem d_Arrays_copyOfRangeByte_5 : decode b_Arrays_copyOfRangeByte 5 = .ok (.iload_n 2, 1) := by decide +kernel
theorem d_Arrays_copyOfRangeByte_6 : decode b_Arrays_copyOfRangeByte 6 = .ok (.iload_n 1, 1) := by decide +kernel
theorem d_Arrays_copyOfRangeByte_7 : decode b_Arrays_copyOfRangeByte 7 = .ok (.isub, 1) := by decide +kernel
theorem d_Arrays_copyOfRangeByte_8 : decode b_Arrays_copyOfRangeByte 8 = .ok (.istore_n 3, 1) := by decide +kernel
theorem d_Arrays_copyOfRangeByte_9 : decode b_Arrays_copyOfRangeByte 9 = .ok (.iload_n 3, 1) := by decide +kernel
theorem d_Arrays_copyOfRangeByte_10 : decode b_Arrays_copyOfRangeByte 10 = .ok (.newarray .byte, 2) := by decide +kernel
theorem d_Arrays_copyOfRangeByte_12 : decode b_Arrays_copyOfRangeByte 12 = .ok (.astore 4, 2) := by decide +kernel
theorem d_Arrays_copyOfRangeByte_14 : decode b_Arrays_copyOfRangeByte 14 = .ok (.aload_n 0, 1) := by decide +kernel
theorem d_Arrays_copyOfRangeByte_15 : decode b_Arrays_copyOfRangeByte 15 = .ok (.iload_n 1, 1) := by decide +kernel
theorem d_Arrays_copyOfRangeByte_16 : decode b_Arrays_copyOfRangeByte 16 = .ok (.aload 4, 2) := by decide +kernel
theorem d_Arrays_copyOfRangeByte_18 : decode b_Arrays_copyOfRangeByte 18 = .ok (.iconst 0, 1) := by decide +kernel
theorem d_Arrays_copyOfRangeByte_19 : decode b_Arrays_copyOfRangeByte 19 = .ok (.aload_n 0, 1) := by decide +kernel
theorem d_Arrays_copyOfRangeByte_20 : decode b_Arrays_copyOfRangeByte 20 = .ok (.arraylength, 1) := by decide +kernel
theorem d_Arrays_copyOfRangeByte_21 : decode b_Arrays_copyOfRangeByte 21 = .ok (.iload_n 1, 1) := by decide +kernel
theorem d_Arrays_copyOfRangeByte_22 : decode b_Arrays_copyOfRangeByte 22 = .ok (.isub, 1) := by decide +kernel
theorem d_Arrays_copyOfRangeByte_23 : decode b_Arrays_copyOfRangeByte 23 = .ok (.iload_n 3, 1) := by decide +kernel
theorem d_Arrays_copyOfRangeByte_24 : decode b_Arrays_copyOfRangeByte 24 = .ok (.invokestatic 304, 3) := by decide +kernel
theorem d_Arrays_copyOfRangeByte_27 : decode b_Arrays_copyOfRangeByte 27 = .ok (.invokestatic 150, 3) := by decide +kernel
theorem d_Arrays_copyOfRangeByte_30 : decode b_Arrays_copyOfRangeByte 30 = .ok (.aload 4, 2) := by decide +kernel
theorem d_Arrays_copyOfRangeByte_32 : decode b_Arrays_copyOfRangeByte 32 = .ok (.areturn, 1) := by decide +kernel
theorem d_Preconditions_checkFromToIndex_0 : decode b_Preconditions_checkFromToIndex 0 = .ok (.iload_n 0, 1) := by decide +kernel
theorem d_Preconditions_checkFromToIndex_1 : decode b_Preconditions_checkFromToIndex 1 = .ok (.ifCond .lt 13, 3) := by decide +kernel
theorem d_Preconditions_checkFromToIndex_4 : decode b_Preconditions_checkFromToIndex 4 = .ok (.iload_n 0, 1) := by decide +kernel
theorem d_Preconditions_checkFromToIndex_5 : decode b_Preconditions_checkFromToIndex 5 = .ok (.iload_n 1, 1) := by decide +kernel
theorem d_Preconditions_checkFromToIndex_6 : decode b_Preconditions_checkFromToIndex 6 = .ok (.if_icmp .gt 8, 3) := by decide +kernel
theorem d_Preconditions_checkFromToIndex_9 : decode b_Preconditions_checkFromToIndex 9 = .ok (.iload_n 1, 1) := by decide +kernel
theorem d_Preconditions_checkFromToIndex_10 : decode b_Preconditions_checkFromToIndex 10 = .ok (.iload_n 2, 1) := by decide +kernel
theorem d_Preconditions_checkFromToIndex_11 : decode b_Preconditions_checkFromToIndex 11 = .ok (.if_icmp .le 11, 3) := by decide +kernel
theorem d_Preconditions_checkFromToIndex_22 : decode b_Preconditions_checkFromToIndex 22 = .ok (.iload_n 0, 1) := by decide +kernel
theorem d_Preconditions_checkFromToIndex_23 : decode b_Preconditions_checkFromToIndex 23 = .ok (.ireturn, 1) := by decide +kernel
theorem d_Preconditions_checkIndex_0 : decode b_Preconditions_checkIndex 0 = .ok (.iload_n 0, 1) := by decide +kernel
theorem d_Preconditions_checkIndex_1 : decode b_Preconditions_checkIndex 1 = .ok (.ifCond .lt 8, 3) := by decide +kernel
theorem d_Preconditions_checkIndex_4 : decode b_Preconditions_checkIndex 4 = .ok (.iload_n 0, 1) := by decide +kernel
theorem d_Preconditions_checkIndex_5 : decode b_Preconditions_checkIndex 5 = .ok (.iload_n 1, 1) := by decide +kernel
theorem d_Preconditions_checkIndex_6 : decode b_Preconditions_checkIndex 6 = .ok (.if_icmp .lt 10, 3) := by decide +kernel
theorem d_Preconditions_checkIndex_16 : decode b_Preconditions_checkIndex 16 = .ok (.iload_n 0, 1) := by decide +kernel
theorem d_Preconditions_checkIndex_17 : decode b_Preconditions_checkIndex 17 = .ok (.ireturn, 1) := by decide +kernel
theorem d_StringBuilder_init_0 : decode b_StringBuilder_init 0 = .ok (.aload_n 0, 1) := by decide +kernel
theorem d_StringBuilder_init_1 : decode b_StringBuilder_init 1 = .ok (.bipush 16, 2) := by decide +kernel
theorem d_StringBuilder_init_3 : decode b_StringBuilder_init 3 = .ok (.invokespecial 1, 3) := by decide +kernel
theorem d_StringBuilder_init_6 : decode b_StringBuilder_init 6 = .ok (.return_, 1) := by decide +kernel
theorem d_StringLatin1_charAt_0 : decode b_StringLatin1_charAt 0 = .ok (.iload_n 1, 1) := by decide +kernel
theorem d_StringLatin1_charAt_1 : decode b_StringLatin1_charAt 1 = .ok (.aload_n 0, 1) := by decide +kernel
theorem d_StringLatin1_charAt_2 : decode b_StringLatin1_charAt 2 = .ok (.arraylength, 1) := by decide +kernel
end
section
theorem d_StringLatin1_charAt_3 : decode b_StringLatin1_charAt 3 = .ok (.invokestatic 9, 3) := by decide +kernel
theorem d_StringLatin1_charAt_6 : decode b_StringLatin1_charAt 6 = .ok (.aload_n 0, 1) := by decide +kernel
theorem d_StringLatin1_charAt_7 : decode b_StringLatin1_charAt 7 = .ok (.iload_n 1, 1) := by decide +kernel
theorem d_StringLatin1_charAt_8 : decode b_StringLatin1_charAt 8 = .ok (.baload, 1) := by decide +kernel
theorem d_StringLatin1_charAt_9 : decode b_StringLatin1_charAt 9 = .ok (.sipush 255, 3) := by decide +kernel
theorem d_StringLatin1_charAt_12 : decode b_StringLatin1_charAt 12 = .ok (.iand, 1) := by decide +kernel
theorem d_StringLatin1_charAt_13 : decode b_StringLatin1_charAt 13 = .ok (.i2c, 1) := by decide +kernel
theorem d_StringLatin1_charAt_14 : decode b_StringLatin1_charAt 14 = .ok (.ireturn, 1) := by decide +kernel
theorem d_StringLatin1_newString_0 : decode b_StringLatin1_newString 0 = .ok (.iload_n 2, 1) := by decide +kernel
theorem d_StringLatin1_newString_1 : decode b_StringLatin1_newString 1 = .ok (.ifCond .ne 6, 3) := by decide +kernel
theorem d_StringLatin1_newString_7 : decode b_StringLatin1_newString 7 = .ok (.new 1, 3) := by decide +kernel
theorem d_StringLatin1_newString_10 : decode b_StringLatin1_newString 10 = .ok (.dup, 1) := by decide +kernel
theorem d_StringLatin1_newString_11 : decode b_StringLatin1_newString 11 = .ok (.aload_n 0, 1) := by decide +kernel
theorem d_StringLatin1_newString_12 : decode b_StringLatin1_newString 12 = .ok (.iload_n 1, 1) := by decide +kernel
theorem d_StringLatin1_newString_13 : decode b_StringLatin1_newString 13 = .ok (.iload_n 1, 1) := by decide +kernel
theorem d_StringLatin1_newString_14 : decode b_StringLatin1_newString 14 = .ok (.iload_n 2, 1) := by decide +kernel
theorem d_StringLatin1_newString_15 : decode b_StringLatin1_newString 15 = .ok (.iadd, 1) := by decide +kernel
theorem d_StringLatin1_newString_16 : decode b_StringLatin1_newString 16 = .ok (.invokestatic 232, 3) := by decide +kernel
theorem d_StringLatin1_newString_19 : decode b_StringLatin1_newString 19 = .ok (.iconst 0, 1) := by decide +kernel
theorem d_StringLatin1_newString_20 : decode b_StringLatin1_newString 20 = .ok (.invokespecial 112, 3) := by decide +kernel
theorem d_StringLatin1_newString_23 : decode b_StringLatin1_newString 23 = .ok (.areturn, 1) := by decide +kernel
theorem d_String_charAt_0 : decode b_String_charAt 0 = .ok (.aload_n 0, 1) := by decide +kernel
theorem d_String_charAt_1 : decode b_String_charAt 1 = .ok (.invokevirtual 492, 3) := by decide +kernel
theorem d_String_charAt_4 : decode b_String_charAt 4 = .ok (.ifCond .eq 12, 3) := by decide +kernel
theorem d_String_charAt_7 : decode b_String_charAt 7 = .ok (.aload_n 0, 1) := by decide +kernel
theorem d_String_charAt_8 : decode b_String_charAt 8 = .ok (.getfield 9, 3) := by decide +kernel
theorem d_String_charAt_11 : decode b_String_charAt 11 = .ok (.iload_n 1, 1) := by decide +kernel
theorem d_String_charAt_12 : decode b_String_charAt 12 = .ok (.invokestatic 495, 3) := by decide +kernel
theorem d_String_charAt_15 : decode b_String_charAt 15 = .ok (.ireturn, 1) := by decide +kernel
theorem d_String_checkBoundsBeginEnd_0 : decode b_String_checkBoundsBeginEnd 0 = .ok (.iload_n 0, 1) := by decide +kernel
theorem d_String_checkBoundsBeginEnd_1 : decode b_String_checkBoundsBeginEnd 1 = .ok (.iload_n 1, 1) := by decide +kernel
theorem d_String_checkBoundsBeginEnd_2 : decode b_String_checkBoundsBeginEnd 2 = .ok (.iload_n 2, 1) := by decide +kernel
theorem d_String_checkBoundsBeginEnd_3 : decode b_String_checkBoundsBeginEnd 3 = .ok (.getstatic 1053, 3) := by decide +kernel
theorem d_String_checkBoundsBeginEnd_6 : decode b_String_checkBoundsBeginEnd 6 = .ok (.invokestatic 1062, 3) := by decide +kernel
theorem d_String_checkBoundsBeginEnd_9 : decode b_String_checkBoundsBeginEnd 9 = .ok (.pop, 1) := by decide +kernel
theorem d_String_checkBoundsBeginEnd_10 : decode b_String_checkBoundsBeginEnd 10 = .ok (.return_, 1) := by decide +kernel
theorem d_String_checkIndex_0 : decode b_String_checkIndex 0 = .ok (.iload_n 0, 1) := by decide +kernel
theorem d_String_checkIndex_1 : decode b_String_checkIndex 1 = .ok (.iload_n 1, 1) := by decide +kernel
theorem d_String_checkIndex_2 : decode b_String_checkIndex 2 = .ok (.getstatic 1053, 3) := by decide +kernel
theorem d_String_checkIndex_5 : decode b_String_checkIndex 5 = .ok (.invokestatic 1059, 3) := by decide +kernel
theorem d_String_checkIndex_8 : decode b_String_checkIndex 8 = .ok (.pop, 1) := by decide +kernel
theorem d_String_checkIndex_9 : decode b_String_checkIndex 9 = .ok (.return_, 1) := by decide +kernel
theorem d_String_coder_0 : decode b_String_coder 0 = .ok (.getstatic 38, 3) := by decide +kernel
theorem d_String_coder_3 : decode b_String_coder 3 = .ok (.ifCond .eq 10, 3) := by decide +kernel
theorem d_String_coder_6 : decode b_String_coder 6 = .ok (.aload_n 0, 1) := by decide +kernel
theorem d_String_coder_7 : decode b_String_coder 7 = .ok (.getfield 15, 3) := by decide +kernel
theorem d_String_coder_10 : decode b_String_coder 10 = .ok (.goto 4, 3) := by decide +kernel
theorem d_String_coder_14 : decode b_String_coder 14 = .ok (.ireturn, 1) := by decide +kernel
theorem d_String_init_0 : decode b_String_init 0 = .ok (.aload_n 0, 1) := by decide +kernel
theorem d_String_init_1 : decode b_String_init 1 = .ok (.invokespecial 1, 3) := by decide +kernel
theorem d_String_init_4 : decode b_String_init 4 = .ok (.aload_n 0, 1) := by decide +kernel
theorem d_String_init_5 : decode b_String_init 5 = .ok (.aload_n 1, 1) := by decide +kernel
theorem d_String_init_6 : decode b_String_init 6 = .ok (.putfield 9, 3) := by decide +kernel
theorem d_String_init_9 : decode b_String_init 9 = .ok (.aload_n 0, 1) := by decide +kernel
theorem d_String_init_10 : decode b_String_init 10 = .ok (.iload_n 2, 1) := by decide +kernel
theorem d_String_init_11 : decode b_String_init 11 = .ok (.putfield 15, 3) := by decide +kernel
theorem d_String_init_14 : decode b_String_init 14 = .ok (.return_, 1) := by decide +kernel
theorem d_String_isLatin1_0 : decode b_String_isLatin1 0 = .ok (.getstatic 38, 3) := by decide +kernel
theorem d_String_isLatin1_3 : decode b_String_isLatin1 3 = .ok (.ifCond .eq 14, 3) := by decide +kernel
theorem d_String_isLatin1_6 : decode b_String_isLatin1 6 = .ok (.aload_n 0, 1) := by decide +kernel
theorem d_String_isLatin1_7 : decode b_String_isLatin1 7 = .ok (.getfield 15, 3) := by decide +kernel
theorem d_String_isLatin1_10 : decode b_String_isLatin1 10 = .ok (.ifCond .ne 7, 3) := by decide +kernel
theorem d_String_isLatin1_13 : decode b_String_isLatin1 13 = .ok (.iconst 1, 1) := by decide +kernel
theorem d_String_isLatin1_14 : decode b_String_isLatin1 14 = .ok (.goto 4, 3) := by decide +kernel
theorem d_String_isLatin1_18 : decode b_String_isLatin1 18 = .ok (.ireturn, 1) := by decide +kernel
theorem d_String_length_0 : decode b_String_length 0 = .ok (.aload_n 0, 1) := by decide +kernel
theorem d_String_length_1 : decode b_String_length 1 = .ok (.getfield 9, 3) := by decide +kernel
theorem d_String_length_4 : decode b_String_length 4 = .ok (.arraylength, 1) := by decide +kernel
theorem d_String_length_5 : decode b_String_length 5 = .ok (.aload_n 0, 1) := by decide +kernel
theorem d_String_length_6 : decode b_String_length 6 = .ok (.invokevirtual 335, 3) := by decide +kernel
theorem d_String_length_9 : decode b_String_length 9 = .ok (.ishr, 1) := by decide +kernel
theorem d_String_length_10 : decode b_String_length 10 = .ok (.ireturn, 1) := by decide +kernel
theorem d_String_substring_0 : decode b_String_substring 0 = .ok (.aload_n 0, 1) := by decide +kernel
theorem d_String_substring_1 : decode b_String_substring 1 = .ok (.invokevirtual 505, 3) := by decide +kernel
theorem d_String_substring_4 : decode b_String_substring 4 = .ok (.istore_n 3, 1) := by decide +kernel
theorem d_String_substring_5 : decode b_String_substring 5 = .ok (.iload_n 1, 1) := by decide +kernel
theorem d_String_substring_6 : decode b_String_substring 6 = .ok (.iload_n 2, 1) := by decide +kernel
theorem d_String_substring_7 : decode b_String_substring 7 = .ok (.iload_n 3, 1) := by decide +kernel
theorem d_String_substring_8 : decode b_String_substring 8 = .ok (.invokestatic 521, 3) := by decide +kernel
theorem d_String_substring_11 : decode b_String_substring 11 = .ok (.iload_n 1, 1) := by decide +kernel
theorem d_String_substring_12 : decode b_String_substring 12 = .ok (.ifCond .ne 10, 3) := by decide +kernel
theorem d_String_substring_15 : decode b_String_substring 15 = .ok (.iload_n 2, 1) := by decide +kernel
theorem d_String_substring_16 : decode b_String_substring 16 = .ok (.iload_n 3, 1) := by decide +kernel
theorem d_String_substring_17 : decode b_String_substring 17 = .ok (.if_icmp .ne 5, 3) := by decide +kernel
theorem d_String_substring_22 : decode b_String_substring 22 = .ok (.iload_n 2, 1) := by decide +kernel
theorem d_String_substring_23 : decode b_String_substring 23 = .ok (.iload_n 1, 1) := by decide +kernel
theorem d_String_substring_24 : decode b_String_substring 24 = .ok (.isub, 1) := by decide +kernel
theorem d_String_substring_25 : decode b_String_substring 25 = .ok (.istore 4, 2) := by decide +kernel
theorem d_String_substring_27 : decode b_String_substring 27 = .ok (.aload_n 0, 1) := by decide +kernel
theorem d_String_substring_28 : decode b_String_substring 28 = .ok (.invokevirtual 492, 3) := by decide +kernel
theorem d_String_substring_31 : decode b_String_substring 31 = .ok (.ifCond .eq 16, 3) := by decide +kernel
theorem d_String_substring_34 : decode b_String_substring 34 = .ok (.aload_n 0, 1) := by decide +kernel
theorem d_String_substring_35 : decode b_String_substring 35 = .ok (.getfield 9, 3) := by decide +kernel
theorem d_String_substring_38 : decode b_String_substring 38 = .ok (.iload_n 1, 1) := by decide +kernel
theorem d_String_substring_39 : decode b_String_substring 39 = .ok (.iload 4, 2) := by decide +kernel
theorem d_String_substring_41 : decode b_String_substring 41 = .ok (.invokestatic 685, 3) := by decide +kernel
theorem d_String_substring_44 : decode b_String_substring 44 = .ok (.goto 13, 3) := by decide +kernel
theorem d_String_substring_57 : decode b_String_substring 57 = .ok (.areturn, 1) := by decide +kernel
theorem d_TypeFinderModel_ask_0 : decode b_TypeFinderModel_ask 0 = .ok (.aload_n 0, 1) := by decide +kernel
theorem d_TypeFinderModel_ask_1 : decode b_TypeFinderModel_ask 1 = .ok (.invokevirtual 501, 3) := by decide +kernel
theorem d_TypeFinderModel_ask_4 : decode b_TypeFinderModel_ask 4 = .ok (.ifCond .eq 6, 3) := by decide +kernel
theorem d_TypeFinderModel_ask_10 : decode b_TypeFinderModel_ask 10 = .ok (.aload_n 0, 1) := by decide +kernel
theorem d_TypeFinderModel_ask_11 : decode b_TypeFinderModel_ask 11 = .ok (.getfield 230, 3) := by decide +kernel
theorem d_TypeFinderModel_ask_14 : decode b_TypeFinderModel_ask 14 = .ok (.ifCond .ne 7, 3) := by decide +kernel
theorem d_TypeFinderModel_ask_17 : decode b_TypeFinderModel_ask 17 = .ok (.aload_n 0, 1) := by decide +kernel
theorem d_TypeFinderModel_ask_18 : decode b_TypeFinderModel_ask 18 = .ok (.invokevirtual 504, 3) := by decide +kernel
theorem d_TypeFinderModel_ask_21 : decode b_TypeFinderModel_ask 21 = .ok (.aload_n 0, 1) := by decide +kernel
theorem d_TypeFinderModel_ask_22 : decode b_TypeFinderModel_ask 22 = .ok (.getfield 230, 3) := by decide +kernel
theorem d_TypeFinderModel_ask_25 : decode b_TypeFinderModel_ask 25 = .ok (.ifCond .ne 10, 3) := by decide +kernel
theorem d_TypeFinderModel_ask_35 : decode b_TypeFinderModel_ask 35 = .ok (.aload_n 0, 1) := by decide +kernel
theorem d_TypeFinderModel_ask_36 : decode b_TypeFinderModel_ask 36 = .ok (.iconst 1, 1) := by decide +kernel
theorem d_TypeFinderModel_ask_37 : decode b_TypeFinderModel_ask 37 = .ok (.invokevirtual 507, 3) := by decide +kernel
theorem d_TypeFinderModel_ask_40 : decode b_TypeFinderModel_ask 40 = .ok (.ireturn, 1) := by decide +kernel
theorem d_TypeFinderModel_atom_0 : decode b_TypeFinderModel_atom 0 = .ok (.iload_n 1, 1) := by decide +kernel
theorem d_TypeFinderModel_atom_1 : decode b_TypeFinderModel_atom 1 = .ok (.iconst 3, 1) := by decide +kernel
theorem d_TypeFinderModel_atom_2 : decode b_TypeFinderModel_atom 2 = .ok (.if_icmp .eq 19, 3) := by decide +kernel
theorem d_TypeFinderModel_atom_5 : decode b_TypeFinderModel_atom 5 = .ok (.iload_n 1, 1) := by decide +kernel
theorem d_TypeFinderModel_atom_6 : decode b_TypeFinderModel_atom 6 = .ok (.iconst 1, 1) := by decide +kernel
theorem d_TypeFinderModel_atom_7 : decode b_TypeFinderModel_atom 7 = .ok (.if_icmp .eq 14, 3) := by decide +kernel
theorem d_TypeFinderModel_atom_10 : decode b_TypeFinderModel_atom 10 = .ok (.iload_n 1, 1) := by decide +kernel
theorem d_TypeFinderModel_atom_11 : decode b_TypeFinderModel_atom 11 = .ok (.iconst 2, 1) := by decide +kernel
theorem d_TypeFinderModel_atom_12 : decode b_TypeFinderModel_atom 12 = .ok (.if_icmp .eq 9, 3) := by decide +kernel
theorem d_TypeFinderModel_atom_15 : decode b_TypeFinderModel_atom 15 = .ok (.iload_n 1, 1) := by decide +kernel
theorem d_TypeFinderModel_atom_16 : decode b_TypeFinderModel_atom 16 = .ok (.bipush 22, 2) := by decide +kernel
theorem d_TypeFinderModel_atom_18 : decode b_TypeFinderModel_atom 18 = .ok (.if_icmp .ne 7, 3) := by decide +kernel
theorem d_TypeFinderModel_atom_25 : decode b_TypeFinderModel_atom 25 = .ok (.iconst 0, 1) := by decide +kernel
theorem d_TypeFinderModel_atom_26 : decode b_TypeFinderModel_atom 26 = .ok (.ireturn, 1) := by decide +kernel
theorem d_TypeFinderModel_begin_0 : decode b_TypeFinderModel_begin 0 = .ok (.aload_n 0, 1) := by decide +kernel
theorem d_TypeFinderModel_begin_1 : decode b_TypeFinderModel_begin 1 = .ok (.iconst 0, 1) := by decide +kernel
theorem d_TypeFinderModel_begin_2 : decode b_TypeFinderModel_begin 2 = .ok (.putfield 190, 3) := by decide +kernel
theorem d_TypeFinderModel_begin_5 : decode b_TypeFinderModel_begin 5 = .ok (.aload_n 0, 1) := by decide +kernel
theorem d_TypeFinderModel_begin_6 : decode b_TypeFinderModel_begin 6 = .ok (.getfield 495, 3) := by decide +kernel
theorem d_TypeFinderModel_begin_9 : decode b_TypeFinderModel_begin 9 = .ok (.bipush 60, 2) := by decide +kernel
theorem d_TypeFinderModel_begin_11 : decode b_TypeFinderModel_begin 11 = .ok (.if_icmp .lt 5, 3) := by decide +kernel
theorem d_TypeFinderModel_begin_16 : decode b_TypeFinderModel_begin 16 = .ok (.aload_n 0, 1) := by decide +kernel
theorem d_TypeFinderModel_begin_17 : decode b_TypeFinderModel_begin 17 = .ok (.invokevirtual 498, 3) := by decide +kernel
theorem d_TypeFinderModel_begin_20 : decode b_TypeFinderModel_begin 20 = .ok (.aload_n 0, 1) := by decide +kernel
theorem d_TypeFinderModel_begin_21 : decode b_TypeFinderModel_begin 21 = .ok (.iconst 0, 1) := by decide +kernel
theorem d_TypeFinderModel_begin_22 : decode b_TypeFinderModel_begin 22 = .ok (.putfield 271, 3) := by decide +kernel
theorem d_TypeFinderModel_begin_25 : decode b_TypeFinderModel_begin 25 = .ok (.iconst 0, 1) := by decide +kernel
theorem d_TypeFinderModel_begin_26 : decode b_TypeFinderModel_begin 26 = .ok (.ireturn, 1) := by decide +kernel
theorem d_TypeFinderModel_beginExpression_0 : decode b_TypeFinderModel_beginExpression 0 = .ok (.aload_n 0, 1) := by decide +kernel
theorem d_TypeFinderModel_beginExpression_1 : decode b_TypeFinderModel_beginExpression 1 = .ok (.invokevirtual 263, 3) := by decide +kernel
theorem d_TypeFinderModel_beginExpression_4 : decode b_TypeFinderModel_beginExpression 4 = .ok (.istore_n 1, 1) := by decide +kernel
theorem d_TypeFinderModel_beginExpression_5 : decode b_TypeFinderModel_beginExpression 5 = .ok (.aload_n 0, 1) := by decide +kernel
theorem d_TypeFinderModel_beginExpression_6 : decode b_TypeFinderModel_beginExpression 6 = .ok (.aload_n 0, 1) := by decide +kernel
theorem d_TypeFinderModel_beginExpression_7 : decode b_TypeFinderModel_beginExpression 7 = .ok (.getfield 230, 3) := by decide +kernel
theorem d_TypeFinderModel_beginExpression_10 : decode b_TypeFinderModel_beginExpression 10 = .ok (.ifCond .ne 12, 3) := by decide +kernel
theorem d_TypeFinderModel_beginExpression_13 : decode b_TypeFinderModel_beginExpression 13 = .ok (.aload_n 0, 1) := by decide +kernel
theorem d_TypeFinderModel_beginExpression_14 : decode b_TypeFinderModel_beginExpression 14 = .ok (.getfield 277, 3) := by decide +kernel
end
section
theorem d_TypeFinderModel_beginExpression_17 : decode b_TypeFinderModel_beginExpression 17 = .ok (.bipush 12, 2) := by decide +kernel
theorem d_TypeFinderModel_beginExpression_19 : decode b_TypeFinderModel_beginExpression 19 = .ok (.if_icmp .le 7, 3) := by decide +kernel
theorem d_TypeFinderModel_beginExpression_26 : decode b_TypeFinderModel_beginExpression 26 = .ok (.iconst 0, 1) := by decide +kernel
theorem d_TypeFinderModel_beginExpression_27 : decode b_TypeFinderModel_beginExpression 27 = .ok (.putfield 230, 3) := by decide +kernel
theorem d_TypeFinderModel_beginExpression_30 : decode b_TypeFinderModel_beginExpression 30 = .ok (.iload_n 1, 1) := by decide +kernel
theorem d_TypeFinderModel_beginExpression_31 : decode b_TypeFinderModel_beginExpression 31 = .ok (.bipush 10, 2) := by decide +kernel
theorem d_TypeFinderModel_beginExpression_33 : decode b_TypeFinderModel_beginExpression 33 = .ok (.if_icmp .ne 42, 3) := by decide +kernel
theorem d_TypeFinderModel_beginExpression_75 : decode b_TypeFinderModel_beginExpression 75 = .ok (.iload_n 1, 1) := by decide +kernel
theorem d_TypeFinderModel_beginExpression_76 : decode b_TypeFinderModel_beginExpression 76 = .ok (.bipush 11, 2) := by decide +kernel
theorem d_TypeFinderModel_beginExpression_78 : decode b_TypeFinderModel_beginExpression 78 = .ok (.if_icmp .ne 20, 3) := by decide +kernel
theorem d_TypeFinderModel_beginExpression_98 : decode b_TypeFinderModel_beginExpression 98 = .ok (.iload_n 1, 1) := by decide +kernel
theorem d_TypeFinderModel_beginExpression_99 : decode b_TypeFinderModel_beginExpression 99 = .ok (.bipush 13, 2) := by decide +kernel
theorem d_TypeFinderModel_beginExpression_101 : decode b_TypeFinderModel_beginExpression 101 = .ok (.if_icmp .ne 23, 3) := by decide +kernel
theorem d_TypeFinderModel_beginExpression_124 : decode b_TypeFinderModel_beginExpression 124 = .ok (.iload_n 1, 1) := by decide +kernel
theorem d_TypeFinderModel_beginExpression_125 : decode b_TypeFinderModel_beginExpression 125 = .ok (.bipush 16, 2) := by decide +kernel
theorem d_TypeFinderModel_beginExpression_127 : decode b_TypeFinderModel_beginExpression 127 = .ok (.if_icmp .ne 24, 3) := by decide +kernel
theorem d_TypeFinderModel_beginExpression_151 : decode b_TypeFinderModel_beginExpression 151 = .ok (.aload_n 0, 1) := by decide +kernel
theorem d_TypeFinderModel_beginExpression_152 : decode b_TypeFinderModel_beginExpression 152 = .ok (.bipush 9, 2) := by decide +kernel
theorem d_TypeFinderModel_beginExpression_154 : decode b_TypeFinderModel_beginExpression 154 = .ok (.aload_n 0, 1) := by decide +kernel
theorem d_TypeFinderModel_beginExpression_155 : decode b_TypeFinderModel_beginExpression 155 = .ok (.getfield 289, 3) := by decide +kernel
theorem d_TypeFinderModel_beginExpression_158 : decode b_TypeFinderModel_beginExpression 158 = .ok (.iconst 0, 1) := by decide +kernel
theorem d_TypeFinderModel_beginExpression_159 : decode b_TypeFinderModel_beginExpression 159 = .ok (.invokevirtual 308, 3) := by decide +kernel
theorem d_TypeFinderModel_beginExpression_162 : decode b_TypeFinderModel_beginExpression 162 = .ok (.return_, 1) := by decide +kernel
theorem d_TypeFinderModel_chain_0 : decode b_TypeFinderModel_chain 0 = .ok (.aload_n 0, 1) := by decide +kernel
theorem d_TypeFinderModel_chain_1 : decode b_TypeFinderModel_chain 1 = .ok (.getfield 274, 3) := by decide +kernel
theorem d_TypeFinderModel_chain_4 : decode b_TypeFinderModel_chain 4 = .ok (.iconst 1, 1) := by decide +kernel
theorem d_TypeFinderModel_chain_5 : decode b_TypeFinderModel_chain 5 = .ok (.isub, 1) := by decide +kernel
theorem d_TypeFinderModel_chain_6 : decode b_TypeFinderModel_chain 6 = .ok (.istore_n 1, 1) := by decide +kernel
theorem d_TypeFinderModel_chain_7 : decode b_TypeFinderModel_chain 7 = .ok (.aload_n 0, 1) := by decide +kernel
theorem d_TypeFinderModel_chain_8 : decode b_TypeFinderModel_chain 8 = .ok (.invokevirtual 263, 3) := by decide +kernel
theorem d_TypeFinderModel_chain_11 : decode b_TypeFinderModel_chain 11 = .ok (.istore_n 2, 1) := by decide +kernel
theorem d_TypeFinderModel_chain_12 : decode b_TypeFinderModel_chain 12 = .ok (.iload_n 2, 1) := by decide +kernel
theorem d_TypeFinderModel_chain_13 : decode b_TypeFinderModel_chain 13 = .ok (.bipush 22, 2) := by decide +kernel
theorem d_TypeFinderModel_chain_15 : decode b_TypeFinderModel_chain 15 = .ok (.if_icmp .ne 24, 3) := by decide +kernel
theorem d_TypeFinderModel_chain_39 : decode b_TypeFinderModel_chain 39 = .ok (.aload_n 0, 1) := by decide +kernel
theorem d_TypeFinderModel_chain_40 : decode b_TypeFinderModel_chain 40 = .ok (.iload_n 2, 1) := by decide +kernel
theorem d_TypeFinderModel_chain_41 : decode b_TypeFinderModel_chain 41 = .ok (.invokevirtual 314, 3) := by decide +kernel
theorem d_TypeFinderModel_chain_44 : decode b_TypeFinderModel_chain 44 = .ok (.ifCond .eq 63, 3) := by decide +kernel
theorem d_TypeFinderModel_chain_107 : decode b_TypeFinderModel_chain 107 = .ok (.aload_n 0, 1) := by decide +kernel
theorem d_TypeFinderModel_chain_108 : decode b_TypeFinderModel_chain 108 = .ok (.getfield 90, 3) := by decide +kernel
theorem d_TypeFinderModel_chain_111 : decode b_TypeFinderModel_chain 111 = .ok (.iload_n 1, 1) := by decide +kernel
theorem d_TypeFinderModel_chain_112 : decode b_TypeFinderModel_chain 112 = .ok (.iaload, 1) := by decide +kernel
theorem d_TypeFinderModel_chain_113 : decode b_TypeFinderModel_chain 113 = .ok (.ifCond .ne 11, 3) := by decide +kernel
theorem d_TypeFinderModel_chain_116 : decode b_TypeFinderModel_chain 116 = .ok (.aload_n 0, 1) := by decide +kernel
theorem d_TypeFinderModel_chain_117 : decode b_TypeFinderModel_chain 117 = .ok (.iconst 1, 1) := by decide +kernel
theorem d_TypeFinderModel_chain_118 : decode b_TypeFinderModel_chain 118 = .ok (.putfield 230, 3) := by decide +kernel
theorem d_TypeFinderModel_chain_121 : decode b_TypeFinderModel_chain 121 = .ok (.goto 127, 3) := by decide +kernel
theorem d_TypeFinderModel_chain_248 : decode b_TypeFinderModel_chain 248 = .ok (.return_, 1) := by decide +kernel
theorem d_TypeFinderModel_declare_0 : decode b_TypeFinderModel_declare 0 = .ok (.aload_n 0, 1) := by decide +kernel
theorem d_TypeFinderModel_declare_1 : decode b_TypeFinderModel_declare 1 = .ok (.invokevirtual 501, 3) := by decide +kernel
theorem d_TypeFinderModel_declare_4 : decode b_TypeFinderModel_declare 4 = .ok (.ifCond .eq 6, 3) := by decide +kernel
theorem d_TypeFinderModel_declare_10 : decode b_TypeFinderModel_declare 10 = .ok (.aload_n 0, 1) := by decide +kernel
theorem d_TypeFinderModel_declare_11 : decode b_TypeFinderModel_declare 11 = .ok (.getfield 230, 3) := by decide +kernel
theorem d_TypeFinderModel_declare_14 : decode b_TypeFinderModel_declare 14 = .ok (.ifCond .ne 17, 3) := by decide +kernel
theorem d_TypeFinderModel_declare_17 : decode b_TypeFinderModel_declare 17 = .ok (.aload_n 0, 1) := by decide +kernel
theorem d_TypeFinderModel_declare_18 : decode b_TypeFinderModel_declare 18 = .ok (.invokevirtual 263, 3) := by decide +kernel
theorem d_TypeFinderModel_declare_21 : decode b_TypeFinderModel_declare 21 = .ok (.bipush 18, 2) := by decide +kernel
theorem d_TypeFinderModel_declare_23 : decode b_TypeFinderModel_declare 23 = .ok (.if_icmp .ne 8, 3) := by decide +kernel
theorem d_TypeFinderModel_declare_31 : decode b_TypeFinderModel_declare 31 = .ok (.aload_n 0, 1) := by decide +kernel
theorem d_TypeFinderModel_declare_32 : decode b_TypeFinderModel_declare 32 = .ok (.getfield 230, 3) := by decide +kernel
theorem d_TypeFinderModel_declare_35 : decode b_TypeFinderModel_declare 35 = .ok (.ifCond .eq 7, 3) := by decide +kernel
theorem d_TypeFinderModel_declare_42 : decode b_TypeFinderModel_declare 42 = .ok (.aload_n 0, 1) := by decide +kernel
theorem d_TypeFinderModel_declare_43 : decode b_TypeFinderModel_declare 43 = .ok (.invokevirtual 525, 3) := by decide +kernel
theorem d_TypeFinderModel_declare_46 : decode b_TypeFinderModel_declare 46 = .ok (.istore_n 1, 1) := by decide +kernel
theorem d_TypeFinderModel_declare_47 : decode b_TypeFinderModel_declare 47 = .ok (.aload_n 0, 1) := by decide +kernel
theorem d_TypeFinderModel_declare_48 : decode b_TypeFinderModel_declare 48 = .ok (.getfield 230, 3) := by decide +kernel
theorem d_TypeFinderModel_declare_51 : decode b_TypeFinderModel_declare 51 = .ok (.ifCond .ne 7, 3) := by decide +kernel
theorem d_TypeFinderModel_declare_58 : decode b_TypeFinderModel_declare 58 = .ok (.aload_n 0, 1) := by decide +kernel
theorem d_TypeFinderModel_declare_59 : decode b_TypeFinderModel_declare 59 = .ok (.getfield 230, 3) := by decide +kernel
theorem d_TypeFinderModel_declare_62 : decode b_TypeFinderModel_declare 62 = .ok (.ifCond .ne 10, 3) := by decide +kernel
theorem d_TypeFinderModel_declare_72 : decode b_TypeFinderModel_declare 72 = .ok (.aload_n 0, 1) := by decide +kernel
theorem d_TypeFinderModel_declare_73 : decode b_TypeFinderModel_declare 73 = .ok (.iconst 1, 1) := by decide +kernel
theorem d_TypeFinderModel_declare_74 : decode b_TypeFinderModel_declare 74 = .ok (.invokevirtual 507, 3) := by decide +kernel
theorem d_TypeFinderModel_declare_77 : decode b_TypeFinderModel_declare 77 = .ok (.ireturn, 1) := by decide +kernel
theorem d_TypeFinderModel_enter_0 : decode b_TypeFinderModel_enter 0 = .ok (.aload_n 0, 1) := by decide +kernel
theorem d_TypeFinderModel_enter_1 : decode b_TypeFinderModel_enter 1 = .ok (.getfield 81, 3) := by decide +kernel
theorem d_TypeFinderModel_enter_4 : decode b_TypeFinderModel_enter 4 = .ok (.aload_n 0, 1) := by decide +kernel
theorem d_TypeFinderModel_enter_5 : decode b_TypeFinderModel_enter 5 = .ok (.getfield 274, 3) := by decide +kernel
theorem d_TypeFinderModel_enter_8 : decode b_TypeFinderModel_enter 8 = .ok (.iload_n 1, 1) := by decide +kernel
theorem d_TypeFinderModel_enter_9 : decode b_TypeFinderModel_enter 9 = .ok (.iastore, 1) := by decide +kernel
theorem d_TypeFinderModel_enter_10 : decode b_TypeFinderModel_enter 10 = .ok (.aload_n 0, 1) := by decide +kernel
theorem d_TypeFinderModel_enter_11 : decode b_TypeFinderModel_enter 11 = .ok (.getfield 84, 3) := by decide +kernel
theorem d_TypeFinderModel_enter_14 : decode b_TypeFinderModel_enter 14 = .ok (.aload_n 0, 1) := by decide +kernel
theorem d_TypeFinderModel_enter_15 : decode b_TypeFinderModel_enter 15 = .ok (.getfield 274, 3) := by decide +kernel
theorem d_TypeFinderModel_enter_18 : decode b_TypeFinderModel_enter 18 = .ok (.aload_n 0, 1) := by decide +kernel
theorem d_TypeFinderModel_enter_19 : decode b_TypeFinderModel_enter 19 = .ok (.getfield 277, 3) := by decide +kernel
theorem d_TypeFinderModel_enter_22 : decode b_TypeFinderModel_enter 22 = .ok (.iastore, 1) := by decide +kernel
theorem d_TypeFinderModel_enter_23 : decode b_TypeFinderModel_enter 23 = .ok (.aload_n 0, 1) := by decide +kernel
theorem d_TypeFinderModel_enter_24 : decode b_TypeFinderModel_enter 24 = .ok (.getfield 87, 3) := by decide +kernel
theorem d_TypeFinderModel_enter_27 : decode b_TypeFinderModel_enter 27 = .ok (.aload_n 0, 1) := by decide +kernel
theorem d_TypeFinderModel_enter_28 : decode b_TypeFinderModel_enter 28 = .ok (.getfield 274, 3) := by decide +kernel
theorem d_TypeFinderModel_enter_31 : decode b_TypeFinderModel_enter 31 = .ok (.iload_n 2, 1) := by decide +kernel
theorem d_TypeFinderModel_enter_32 : decode b_TypeFinderModel_enter 32 = .ok (.iastore, 1) := by decide +kernel
theorem d_TypeFinderModel_enter_33 : decode b_TypeFinderModel_enter 33 = .ok (.aload_n 0, 1) := by decide +kernel
theorem d_TypeFinderModel_enter_34 : decode b_TypeFinderModel_enter 34 = .ok (.getfield 90, 3) := by decide +kernel
theorem d_TypeFinderModel_enter_37 : decode b_TypeFinderModel_enter 37 = .ok (.aload_n 0, 1) := by decide +kernel
theorem d_TypeFinderModel_enter_38 : decode b_TypeFinderModel_enter 38 = .ok (.getfield 274, 3) := by decide +kernel
theorem d_TypeFinderModel_enter_41 : decode b_TypeFinderModel_enter 41 = .ok (.iload_n 3, 1) := by decide +kernel
theorem d_TypeFinderModel_enter_42 : decode b_TypeFinderModel_enter 42 = .ok (.iastore, 1) := by decide +kernel
theorem d_TypeFinderModel_enter_43 : decode b_TypeFinderModel_enter 43 = .ok (.aload_n 0, 1) := by decide +kernel
theorem d_TypeFinderModel_enter_44 : decode b_TypeFinderModel_enter 44 = .ok (.getfield 93, 3) := by decide +kernel
theorem d_TypeFinderModel_enter_47 : decode b_TypeFinderModel_enter 47 = .ok (.aload_n 0, 1) := by decide +kernel
theorem d_TypeFinderModel_enter_48 : decode b_TypeFinderModel_enter 48 = .ok (.getfield 274, 3) := by decide +kernel
theorem d_TypeFinderModel_enter_51 : decode b_TypeFinderModel_enter 51 = .ok (.iconst 0, 1) := by decide +kernel
theorem d_TypeFinderModel_enter_52 : decode b_TypeFinderModel_enter 52 = .ok (.iastore, 1) := by decide +kernel
theorem d_TypeFinderModel_enter_53 : decode b_TypeFinderModel_enter 53 = .ok (.aload_n 0, 1) := by decide +kernel
theorem d_TypeFinderModel_enter_54 : decode b_TypeFinderModel_enter 54 = .ok (.getfield 96, 3) := by decide +kernel
theorem d_TypeFinderModel_enter_57 : decode b_TypeFinderModel_enter 57 = .ok (.aload_n 0, 1) := by decide +kernel
theorem d_TypeFinderModel_enter_58 : decode b_TypeFinderModel_enter 58 = .ok (.getfield 274, 3) := by decide +kernel
theorem d_TypeFinderModel_enter_61 : decode b_TypeFinderModel_enter 61 = .ok (.iconst 0, 1) := by decide +kernel
theorem d_TypeFinderModel_enter_62 : decode b_TypeFinderModel_enter 62 = .ok (.iastore, 1) := by decide +kernel
theorem d_TypeFinderModel_enter_63 : decode b_TypeFinderModel_enter 63 = .ok (.aload_n 0, 1) := by decide +kernel
theorem d_TypeFinderModel_enter_64 : decode b_TypeFinderModel_enter 64 = .ok (.dup, 1) := by decide +kernel
theorem d_TypeFinderModel_enter_65 : decode b_TypeFinderModel_enter 65 = .ok (.getfield 274, 3) := by decide +kernel
theorem d_TypeFinderModel_enter_68 : decode b_TypeFinderModel_enter 68 = .ok (.iconst 1, 1) := by decide +kernel
theorem d_TypeFinderModel_enter_69 : decode b_TypeFinderModel_enter 69 = .ok (.iadd, 1) := by decide +kernel
theorem d_TypeFinderModel_enter_70 : decode b_TypeFinderModel_enter 70 = .ok (.putfield 274, 3) := by decide +kernel
theorem d_TypeFinderModel_enter_73 : decode b_TypeFinderModel_enter 73 = .ok (.aload_n 0, 1) := by decide +kernel
theorem d_TypeFinderModel_enter_74 : decode b_TypeFinderModel_enter 74 = .ok (.iload_n 1, 1) := by decide +kernel
theorem d_TypeFinderModel_enter_75 : decode b_TypeFinderModel_enter 75 = .ok (.invokevirtual 280, 3) := by decide +kernel
theorem d_TypeFinderModel_enter_78 : decode b_TypeFinderModel_enter 78 = .ok (.return_, 1) := by decide +kernel
theorem d_TypeFinderModel_expect_0 : decode b_TypeFinderModel_expect 0 = .ok (.aload_n 0, 1) := by decide +kernel
theorem d_TypeFinderModel_expect_1 : decode b_TypeFinderModel_expect 1 = .ok (.aload_n 0, 1) := by decide +kernel
theorem d_TypeFinderModel_expect_2 : decode b_TypeFinderModel_expect 2 = .ok (.getfield 230, 3) := by decide +kernel
theorem d_TypeFinderModel_expect_5 : decode b_TypeFinderModel_expect 5 = .ok (.ifCond .ne 11, 3) := by decide +kernel
theorem d_TypeFinderModel_expect_8 : decode b_TypeFinderModel_expect 8 = .ok (.aload_n 0, 1) := by decide +kernel
theorem d_TypeFinderModel_expect_9 : decode b_TypeFinderModel_expect 9 = .ok (.invokevirtual 263, 3) := by decide +kernel
theorem d_TypeFinderModel_expect_12 : decode b_TypeFinderModel_expect 12 = .ok (.iload_n 1, 1) := by decide +kernel
theorem d_TypeFinderModel_expect_13 : decode b_TypeFinderModel_expect 13 = .ok (.if_icmp .eq 7, 3) := by decide +kernel
theorem d_TypeFinderModel_expect_16 : decode b_TypeFinderModel_expect 16 = .ok (.iconst 1, 1) := by decide +kernel
theorem d_TypeFinderModel_expect_17 : decode b_TypeFinderModel_expect 17 = .ok (.goto 4, 3) := by decide +kernel
theorem d_TypeFinderModel_expect_21 : decode b_TypeFinderModel_expect 21 = .ok (.putfield 230, 3) := by decide +kernel
theorem d_TypeFinderModel_expect_24 : decode b_TypeFinderModel_expect 24 = .ok (.aload_n 0, 1) := by decide +kernel
theorem d_TypeFinderModel_expect_25 : decode b_TypeFinderModel_expect 25 = .ok (.dup, 1) := by decide +kernel
theorem d_TypeFinderModel_expect_26 : decode b_TypeFinderModel_expect 26 = .ok (.getfield 256, 3) := by decide +kernel
theorem d_TypeFinderModel_expect_29 : decode b_TypeFinderModel_expect 29 = .ok (.aload_n 0, 1) := by decide +kernel
theorem d_TypeFinderModel_expect_30 : decode b_TypeFinderModel_expect 30 = .ok (.getfield 230, 3) := by decide +kernel
theorem d_TypeFinderModel_expect_33 : decode b_TypeFinderModel_expect 33 = .ok (.ifCond .eq 7, 3) := by decide +kernel
theorem d_TypeFinderModel_expect_36 : decode b_TypeFinderModel_expect 36 = .ok (.iconst 0, 1) := by decide +kernel
theorem d_TypeFinderModel_expect_37 : decode b_TypeFinderModel_expect 37 = .ok (.goto 4, 3) := by decide +kernel
theorem d_TypeFinderModel_expect_41 : decode b_TypeFinderModel_expect 41 = .ok (.iadd, 1) := by decide +kernel
theorem d_TypeFinderModel_expect_42 : decode b_TypeFinderModel_expect 42 = .ok (.putfield 256, 3) := by decide +kernel
theorem d_TypeFinderModel_expect_45 : decode b_TypeFinderModel_expect 45 = .ok (.return_, 1) := by decide +kernel
theorem d_TypeFinderModel_expression_0 : decode b_TypeFinderModel_expression 0 = .ok (.aload_n 0, 1) := by decide +kernel
theorem d_TypeFinderModel_expression_1 : decode b_TypeFinderModel_expression 1 = .ok (.iconst 0, 1) := by decide +kernel
theorem d_TypeFinderModel_expression_2 : decode b_TypeFinderModel_expression 2 = .ok (.putfield 274, 3) := by decide +kernel
theorem d_TypeFinderModel_expression_5 : decode b_TypeFinderModel_expression 5 = .ok (.aload_n 0, 1) := by decide +kernel
theorem d_TypeFinderModel_expression_6 : decode b_TypeFinderModel_expression 6 = .ok (.iconst 0, 1) := by decide +kernel
theorem d_TypeFinderModel_expression_7 : decode b_TypeFinderModel_expression 7 = .ok (.putfield 277, 3) := by decide +kernel
theorem d_TypeFinderModel_expression_10 : decode b_TypeFinderModel_expression 10 = .ok (.aload_n 0, 1) := by decide +kernel
end
section
theorem d_TypeFinderModel_expression_11 : decode b_TypeFinderModel_expression 11 = .ok (.iconst 0, 1) := by decide +kernel
theorem d_TypeFinderModel_expression_12 : decode b_TypeFinderModel_expression 12 = .ok (.putfield 283, 3) := by decide +kernel
theorem d_TypeFinderModel_expression_15 : decode b_TypeFinderModel_expression 15 = .ok (.aload_n 0, 1) := by decide +kernel
theorem d_TypeFinderModel_expression_16 : decode b_TypeFinderModel_expression 16 = .ok (.iconst 0, 1) := by decide +kernel
theorem d_TypeFinderModel_expression_17 : decode b_TypeFinderModel_expression 17 = .ok (.putfield 289, 3) := by decide +kernel
theorem d_TypeFinderModel_expression_20 : decode b_TypeFinderModel_expression 20 = .ok (.aload_n 0, 1) := by decide +kernel
theorem d_TypeFinderModel_expression_21 : decode b_TypeFinderModel_expression 21 = .ok (.getfield 230, 3) := by decide +kernel
theorem d_TypeFinderModel_expression_24 : decode b_TypeFinderModel_expression 24 = .ok (.ifCond .ne 54, 3) := by decide +kernel
theorem d_TypeFinderModel_expression_27 : decode b_TypeFinderModel_expression 27 = .ok (.aload_n 0, 1) := by decide +kernel
theorem d_TypeFinderModel_expression_28 : decode b_TypeFinderModel_expression 28 = .ok (.getfield 283, 3) := by decide +kernel
theorem d_TypeFinderModel_expression_31 : decode b_TypeFinderModel_expression 31 = .ok (.iconst 2, 1) := by decide +kernel
theorem d_TypeFinderModel_expression_32 : decode b_TypeFinderModel_expression 32 = .ok (.if_icmp .ne 10, 3) := by decide +kernel
theorem d_TypeFinderModel_expression_42 : decode b_TypeFinderModel_expression 42 = .ok (.aload_n 0, 1) := by decide +kernel
theorem d_TypeFinderModel_expression_43 : decode b_TypeFinderModel_expression 43 = .ok (.getfield 283, 3) := by decide +kernel
theorem d_TypeFinderModel_expression_46 : decode b_TypeFinderModel_expression 46 = .ok (.ifCond .ne 10, 3) := by decide +kernel
theorem d_TypeFinderModel_expression_49 : decode b_TypeFinderModel_expression 49 = .ok (.aload_n 0, 1) := by decide +kernel
theorem d_TypeFinderModel_expression_50 : decode b_TypeFinderModel_expression 50 = .ok (.invokevirtual 292, 3) := by decide +kernel
theorem d_TypeFinderModel_expression_53 : decode b_TypeFinderModel_expression 53 = .ok (.goto (-33), 3) := by decide +kernel
theorem d_TypeFinderModel_expression_56 : decode b_TypeFinderModel_expression 56 = .ok (.aload_n 0, 1) := by decide +kernel
theorem d_TypeFinderModel_expression_57 : decode b_TypeFinderModel_expression 57 = .ok (.getfield 283, 3) := by decide +kernel
theorem d_TypeFinderModel_expression_60 : decode b_TypeFinderModel_expression 60 = .ok (.iconst 1, 1) := by decide +kernel
theorem d_TypeFinderModel_expression_61 : decode b_TypeFinderModel_expression 61 = .ok (.if_icmp .ne 10, 3) := by decide +kernel
theorem d_TypeFinderModel_expression_64 : decode b_TypeFinderModel_expression 64 = .ok (.aload_n 0, 1) := by decide +kernel
theorem d_TypeFinderModel_expression_65 : decode b_TypeFinderModel_expression 65 = .ok (.invokevirtual 295, 3) := by decide +kernel
theorem d_TypeFinderModel_expression_68 : decode b_TypeFinderModel_expression 68 = .ok (.goto (-48), 3) := by decide +kernel
theorem d_TypeFinderModel_expression_78 : decode b_TypeFinderModel_expression 78 = .ok (.return_, 1) := by decide +kernel
theorem d_TypeFinderModel_heading_0 : decode b_TypeFinderModel_heading 0 = .ok (.iconst 0, 1) := by decide +kernel
theorem d_TypeFinderModel_heading_1 : decode b_TypeFinderModel_heading 1 = .ok (.istore_n 1, 1) := by decide +kernel
theorem d_TypeFinderModel_heading_2 : decode b_TypeFinderModel_heading 2 = .ok (.aload_n 0, 1) := by decide +kernel
theorem d_TypeFinderModel_heading_3 : decode b_TypeFinderModel_heading 3 = .ok (.getfield 13, 3) := by decide +kernel
theorem d_TypeFinderModel_heading_6 : decode b_TypeFinderModel_heading 6 = .ok (.iconst 1, 1) := by decide +kernel
theorem d_TypeFinderModel_heading_7 : decode b_TypeFinderModel_heading 7 = .ok (.iaload, 1) := by decide +kernel
theorem d_TypeFinderModel_heading_8 : decode b_TypeFinderModel_heading 8 = .ok (.iconst 4, 1) := by decide +kernel
theorem d_TypeFinderModel_heading_9 : decode b_TypeFinderModel_heading 9 = .ok (.if_icmp .ne 129, 3) := by decide +kernel
theorem d_TypeFinderModel_heading_138 : decode b_TypeFinderModel_heading 138 = .ok (.aload_n 0, 1) := by decide +kernel
theorem d_TypeFinderModel_heading_139 : decode b_TypeFinderModel_heading 139 = .ok (.aload_n 0, 1) := by decide +kernel
theorem d_TypeFinderModel_heading_140 : decode b_TypeFinderModel_heading 140 = .ok (.getfield 16, 3) := by decide +kernel
theorem d_TypeFinderModel_heading_143 : decode b_TypeFinderModel_heading 143 = .ok (.iconst 0, 1) := by decide +kernel
theorem d_TypeFinderModel_heading_144 : decode b_TypeFinderModel_heading 144 = .ok (.iaload, 1) := by decide +kernel
theorem d_TypeFinderModel_heading_145 : decode b_TypeFinderModel_heading 145 = .ok (.putfield 519, 3) := by decide +kernel
theorem d_TypeFinderModel_heading_148 : decode b_TypeFinderModel_heading 148 = .ok (.aload_n 0, 1) := by decide +kernel
theorem d_TypeFinderModel_heading_149 : decode b_TypeFinderModel_heading 149 = .ok (.iconst 1, 1) := by decide +kernel
theorem d_TypeFinderModel_heading_150 : decode b_TypeFinderModel_heading 150 = .ok (.invokevirtual 267, 3) := by decide +kernel
theorem d_TypeFinderModel_heading_153 : decode b_TypeFinderModel_heading 153 = .ok (.aload_n 0, 1) := by decide +kernel
theorem d_TypeFinderModel_heading_154 : decode b_TypeFinderModel_heading 154 = .ok (.invokevirtual 263, 3) := by decide +kernel
theorem d_TypeFinderModel_heading_157 : decode b_TypeFinderModel_heading 157 = .ok (.iconst 1, 1) := by decide +kernel
theorem d_TypeFinderModel_heading_158 : decode b_TypeFinderModel_heading 158 = .ok (.if_icmp .ne 16, 3) := by decide +kernel
theorem d_TypeFinderModel_heading_174 : decode b_TypeFinderModel_heading 174 = .ok (.aload_n 0, 1) := by decide +kernel
theorem d_TypeFinderModel_heading_175 : decode b_TypeFinderModel_heading 175 = .ok (.getfield 256, 3) := by decide +kernel
theorem d_TypeFinderModel_heading_178 : decode b_TypeFinderModel_heading 178 = .ok (.iconst 1, 1) := by decide +kernel
theorem d_TypeFinderModel_heading_179 : decode b_TypeFinderModel_heading 179 = .ok (.isub, 1) := by decide +kernel
theorem d_TypeFinderModel_heading_180 : decode b_TypeFinderModel_heading 180 = .ok (.istore_n 1, 1) := by decide +kernel
theorem d_TypeFinderModel_heading_181 : decode b_TypeFinderModel_heading 181 = .ok (.iconst 0, 1) := by decide +kernel
theorem d_TypeFinderModel_heading_182 : decode b_TypeFinderModel_heading 182 = .ok (.istore_n 2, 1) := by decide +kernel
theorem d_TypeFinderModel_heading_183 : decode b_TypeFinderModel_heading 183 = .ok (.iload_n 2, 1) := by decide +kernel
theorem d_TypeFinderModel_heading_184 : decode b_TypeFinderModel_heading 184 = .ok (.aload_n 0, 1) := by decide +kernel
theorem d_TypeFinderModel_heading_185 : decode b_TypeFinderModel_heading 185 = .ok (.getfield 256, 3) := by decide +kernel
theorem d_TypeFinderModel_heading_188 : decode b_TypeFinderModel_heading 188 = .ok (.if_icmp .ge 53, 3) := by decide +kernel
theorem d_TypeFinderModel_heading_241 : decode b_TypeFinderModel_heading 241 = .ok (.aload_n 0, 1) := by decide +kernel
theorem d_TypeFinderModel_heading_242 : decode b_TypeFinderModel_heading 242 = .ok (.bipush 20, 2) := by decide +kernel
theorem d_TypeFinderModel_heading_244 : decode b_TypeFinderModel_heading 244 = .ok (.invokevirtual 267, 3) := by decide +kernel
theorem d_TypeFinderModel_heading_247 : decode b_TypeFinderModel_heading 247 = .ok (.iconst 0, 1) := by decide +kernel
theorem d_TypeFinderModel_heading_248 : decode b_TypeFinderModel_heading 248 = .ok (.istore_n 2, 1) := by decide +kernel
theorem d_TypeFinderModel_heading_249 : decode b_TypeFinderModel_heading 249 = .ok (.iload_n 2, 1) := by decide +kernel
theorem d_TypeFinderModel_heading_250 : decode b_TypeFinderModel_heading 250 = .ok (.iload_n 1, 1) := by decide +kernel
theorem d_TypeFinderModel_heading_251 : decode b_TypeFinderModel_heading 251 = .ok (.if_icmp .gt 33, 3) := by decide +kernel
theorem d_TypeFinderModel_heading_284 : decode b_TypeFinderModel_heading 284 = .ok (.iload_n 1, 1) := by decide +kernel
theorem d_TypeFinderModel_heading_285 : decode b_TypeFinderModel_heading 285 = .ok (.ireturn, 1) := by decide +kernel
theorem d_TypeFinderModel_init_0 : decode b_TypeFinderModel_init 0 = .ok (.aload_n 0, 1) := by decide +kernel
theorem d_TypeFinderModel_init_1 : decode b_TypeFinderModel_init 1 = .ok (.invokespecial 1, 3) := by decide +kernel
theorem d_TypeFinderModel_init_4 : decode b_TypeFinderModel_init 4 = .ok (.aload_n 0, 1) := by decide +kernel
theorem d_TypeFinderModel_init_5 : decode b_TypeFinderModel_init 5 = .ok (.bipush 80, 2) := by decide +kernel
theorem d_TypeFinderModel_init_7 : decode b_TypeFinderModel_init 7 = .ok (.newarray .int, 2) := by decide +kernel
theorem d_TypeFinderModel_init_9 : decode b_TypeFinderModel_init 9 = .ok (.putfield 7, 3) := by decide +kernel
theorem d_TypeFinderModel_init_12 : decode b_TypeFinderModel_init 12 = .ok (.aload_n 0, 1) := by decide +kernel
theorem d_TypeFinderModel_init_13 : decode b_TypeFinderModel_init 13 = .ok (.bipush 82, 2) := by decide +kernel
theorem d_TypeFinderModel_init_15 : decode b_TypeFinderModel_init 15 = .ok (.newarray .int, 2) := by decide +kernel
theorem d_TypeFinderModel_init_17 : decode b_TypeFinderModel_init 17 = .ok (.putfield 13, 3) := by decide +kernel
theorem d_TypeFinderModel_init_20 : decode b_TypeFinderModel_init 20 = .ok (.aload_n 0, 1) := by decide +kernel
theorem d_TypeFinderModel_init_21 : decode b_TypeFinderModel_init 21 = .ok (.bipush 82, 2) := by decide +kernel
theorem d_TypeFinderModel_init_23 : decode b_TypeFinderModel_init 23 = .ok (.newarray .int, 2) := by decide +kernel
theorem d_TypeFinderModel_init_25 : decode b_TypeFinderModel_init 25 = .ok (.putfield 16, 3) := by decide +kernel
theorem d_TypeFinderModel_init_28 : decode b_TypeFinderModel_init 28 = .ok (.aload_n 0, 1) := by decide +kernel
theorem d_TypeFinderModel_init_29 : decode b_TypeFinderModel_init 29 = .ok (.bipush 10, 2) := by decide +kernel
theorem d_TypeFinderModel_init_31 : decode b_TypeFinderModel_init 31 = .ok (.newarray .int, 2) := by decide +kernel
theorem d_TypeFinderModel_init_33 : decode b_TypeFinderModel_init 33 = .ok (.dup, 1) := by decide +kernel
theorem d_TypeFinderModel_init_34 : decode b_TypeFinderModel_init 34 = .ok (.iconst 0, 1) := by decide +kernel
theorem d_TypeFinderModel_init_35 : decode b_TypeFinderModel_init 35 = .ok (.bipush 6, 2) := by decide +kernel
theorem d_TypeFinderModel_init_37 : decode b_TypeFinderModel_init 37 = .ok (.iastore, 1) := by decide +kernel
theorem d_TypeFinderModel_init_38 : decode b_TypeFinderModel_init 38 = .ok (.dup, 1) := by decide +kernel
theorem d_TypeFinderModel_init_39 : decode b_TypeFinderModel_init 39 = .ok (.iconst 1, 1) := by decide +kernel
theorem d_TypeFinderModel_init_40 : decode b_TypeFinderModel_init 40 = .ok (.bipush 6, 2) := by decide +kernel
theorem d_TypeFinderModel_init_42 : decode b_TypeFinderModel_init 42 = .ok (.iastore, 1) := by decide +kernel
theorem d_TypeFinderModel_init_43 : decode b_TypeFinderModel_init 43 = .ok (.dup, 1) := by decide +kernel
theorem d_TypeFinderModel_init_44 : decode b_TypeFinderModel_init 44 = .ok (.iconst 2, 1) := by decide +kernel
theorem d_TypeFinderModel_init_45 : decode b_TypeFinderModel_init 45 = .ok (.bipush 7, 2) := by decide +kernel
theorem d_TypeFinderModel_init_47 : decode b_TypeFinderModel_init 47 = .ok (.iastore, 1) := by decide +kernel
theorem d_TypeFinderModel_init_48 : decode b_TypeFinderModel_init 48 = .ok (.dup, 1) := by decide +kernel
theorem d_TypeFinderModel_init_49 : decode b_TypeFinderModel_init 49 = .ok (.iconst 3, 1) := by decide +kernel
theorem d_TypeFinderModel_init_50 : decode b_TypeFinderModel_init 50 = .ok (.bipush 7, 2) := by decide +kernel
theorem d_TypeFinderModel_init_52 : decode b_TypeFinderModel_init 52 = .ok (.iastore, 1) := by decide +kernel
theorem d_TypeFinderModel_init_53 : decode b_TypeFinderModel_init 53 = .ok (.dup, 1) := by decide +kernel
theorem d_TypeFinderModel_init_54 : decode b_TypeFinderModel_init 54 = .ok (.iconst 4, 1) := by decide +kernel
theorem d_TypeFinderModel_init_55 : decode b_TypeFinderModel_init 55 = .ok (.iconst 4, 1) := by decide +kernel
theorem d_TypeFinderModel_init_56 : decode b_TypeFinderModel_init 56 = .ok (.iastore, 1) := by decide +kernel
theorem d_TypeFinderModel_init_57 : decode b_TypeFinderModel_init 57 = .ok (.dup, 1) := by decide +kernel
theorem d_TypeFinderModel_init_58 : decode b_TypeFinderModel_init 58 = .ok (.iconst 5, 1) := by decide +kernel
theorem d_TypeFinderModel_init_59 : decode b_TypeFinderModel_init 59 = .ok (.iconst 4, 1) := by decide +kernel
theorem d_TypeFinderModel_init_60 : decode b_TypeFinderModel_init 60 = .ok (.iastore, 1) := by decide +kernel
theorem d_TypeFinderModel_init_61 : decode b_TypeFinderModel_init 61 = .ok (.dup, 1) := by decide +kernel
theorem d_TypeFinderModel_init_62 : decode b_TypeFinderModel_init 62 = .ok (.bipush 6, 2) := by decide +kernel
theorem d_TypeFinderModel_init_64 : decode b_TypeFinderModel_init 64 = .ok (.iconst 5, 1) := by decide +kernel
theorem d_TypeFinderModel_init_65 : decode b_TypeFinderModel_init 65 = .ok (.iastore, 1) := by decide +kernel
theorem d_TypeFinderModel_init_66 : decode b_TypeFinderModel_init 66 = .ok (.dup, 1) := by decide +kernel
theorem d_TypeFinderModel_init_67 : decode b_TypeFinderModel_init 67 = .ok (.bipush 7, 2) := by decide +kernel
theorem d_TypeFinderModel_init_69 : decode b_TypeFinderModel_init 69 = .ok (.iconst (-1), 1) := by decide +kernel
theorem d_TypeFinderModel_init_70 : decode b_TypeFinderModel_init 70 = .ok (.iastore, 1) := by decide +kernel
theorem d_TypeFinderModel_init_71 : decode b_TypeFinderModel_init 71 = .ok (.dup, 1) := by decide +kernel
theorem d_TypeFinderModel_init_72 : decode b_TypeFinderModel_init 72 = .ok (.bipush 8, 2) := by decide +kernel
theorem d_TypeFinderModel_init_74 : decode b_TypeFinderModel_init 74 = .ok (.iconst (-1), 1) := by decide +kernel
theorem d_TypeFinderModel_init_75 : decode b_TypeFinderModel_init 75 = .ok (.iastore, 1) := by decide +kernel
theorem d_TypeFinderModel_init_76 : decode b_TypeFinderModel_init 76 = .ok (.dup, 1) := by decide +kernel
theorem d_TypeFinderModel_init_77 : decode b_TypeFinderModel_init 77 = .ok (.bipush 9, 2) := by decide +kernel
theorem d_TypeFinderModel_init_79 : decode b_TypeFinderModel_init 79 = .ok (.iconst (-1), 1) := by decide +kernel
theorem d_TypeFinderModel_init_80 : decode b_TypeFinderModel_init 80 = .ok (.iastore, 1) := by decide +kernel
theorem d_TypeFinderModel_init_81 : decode b_TypeFinderModel_init 81 = .ok (.putfield 19, 3) := by decide +kernel
theorem d_TypeFinderModel_init_84 : decode b_TypeFinderModel_init 84 = .ok (.aload_n 0, 1) := by decide +kernel
theorem d_TypeFinderModel_init_85 : decode b_TypeFinderModel_init 85 = .ok (.bipush 10, 2) := by decide +kernel
theorem d_TypeFinderModel_init_87 : decode b_TypeFinderModel_init 87 = .ok (.newarray .boolean, 2) := by decide +kernel
theorem d_TypeFinderModel_init_89 : decode b_TypeFinderModel_init 89 = .ok (.dup, 1) := by decide +kernel
theorem d_TypeFinderModel_init_90 : decode b_TypeFinderModel_init 90 = .ok (.iconst 0, 1) := by decide +kernel
theorem d_TypeFinderModel_init_91 : decode b_TypeFinderModel_init 91 = .ok (.iconst 0, 1) := by decide +kernel
theorem d_TypeFinderModel_init_92 : decode b_TypeFinderModel_init 92 = .ok (.bastore, 1) := by decide +kernel
theorem d_TypeFinderModel_init_93 : decode b_TypeFinderModel_init 93 = .ok (.dup, 1) := by decide +kernel
theorem d_TypeFinderModel_init_94 : decode b_TypeFinderModel_init 94 = .ok (.iconst 1, 1) := by decide +kernel
theorem d_TypeFinderModel_init_95 : decode b_TypeFinderModel_init 95 = .ok (.iconst 0, 1) := by decide +kernel
theorem d_TypeFinderModel_init_96 : decode b_TypeFinderModel_init 96 = .ok (.bastore, 1) := by decide +kernel
theorem d_TypeFinderModel_init_97 : decode b_TypeFinderModel_init 97 = .ok (.dup, 1) := by decide +kernel
theorem d_TypeFinderModel_init_98 : decode b_TypeFinderModel_init 98 = .ok (.iconst 2, 1) := by decide +kernel
theorem d_TypeFinderModel_init_99 : decode b_TypeFinderModel_init 99 = .ok (.iconst 0, 1) := by decide +kernel
theorem d_TypeFinderModel_init_100 : decode b_TypeFinderModel_init 100 = .ok (.bastore, 1) := by decide +kernel
theorem d_TypeFinderModel_init_101 : decode b_TypeFinderModel_init 101 = .ok (.dup, 1) := by decide +kernel
theorem d_TypeFinderModel_init_102 : decode b_TypeFinderModel_init 102 = .ok (.iconst 3, 1) := by decide +kernel
theorem d_TypeFinderModel_init_103 : decode b_TypeFinderModel_init 103 = .ok (.iconst 0, 1) := by decide +kernel
theorem d_TypeFinderModel_init_104 : decode b_TypeFinderModel_init 104 = .ok (.bastore, 1) := by decide +kernel
theorem d_TypeFinderModel_init_105 : decode b_TypeFinderModel_init 105 = .ok (.dup, 1) := by decide +kernel
theorem d_TypeFinderModel_init_106 : decode b_TypeFinderModel_init 106 = .ok (.iconst 4, 1) := by decide +kernel
theorem d_TypeFinderModel_init_107 : decode b_TypeFinderModel_init 107 = .ok (.iconst 0, 1) := by decide +kernel
theorem d_TypeFinderModel_init_108 : decode b_TypeFinderModel_init 108 = .ok (.bastore, 1) := by decide +kernel
theorem d_TypeFinderModel_init_109 : decode b_TypeFinderModel_init 109 = .ok (.dup, 1) := by decide +kernel
end
section
theorem d_TypeFinderModel_init_110 : decode b_TypeFinderModel_init 110 = .ok (.iconst 5, 1) := by decide +kernel
theorem d_TypeFinderModel_init_111 : decode b_TypeFinderModel_init 111 = .ok (.iconst 0, 1) := by decide +kernel
theorem d_TypeFinderModel_init_112 : decode b_TypeFinderModel_init 112 = .ok (.bastore, 1) := by decide +kernel
theorem d_TypeFinderModel_init_113 : decode b_TypeFinderModel_init 113 = .ok (.dup, 1) := by decide +kernel
theorem d_TypeFinderModel_init_114 : decode b_TypeFinderModel_init 114 = .ok (.bipush 6, 2) := by decide +kernel
theorem d_TypeFinderModel_init_116 : decode b_TypeFinderModel_init 116 = .ok (.iconst 1, 1) := by decide +kernel
theorem d_TypeFinderModel_init_117 : decode b_TypeFinderModel_init 117 = .ok (.bastore, 1) := by decide +kernel
theorem d_TypeFinderModel_init_118 : decode b_TypeFinderModel_init 118 = .ok (.dup, 1) := by decide +kernel
theorem d_TypeFinderModel_init_119 : decode b_TypeFinderModel_init 119 = .ok (.bipush 7, 2) := by decide +kernel
theorem d_TypeFinderModel_init_121 : decode b_TypeFinderModel_init 121 = .ok (.iconst 0, 1) := by decide +kernel
theorem d_TypeFinderModel_init_122 : decode b_TypeFinderModel_init 122 = .ok (.bastore, 1) := by decide +kernel
theorem d_TypeFinderModel_init_123 : decode b_TypeFinderModel_init 123 = .ok (.dup, 1) := by decide +kernel
theorem d_TypeFinderModel_init_124 : decode b_TypeFinderModel_init 124 = .ok (.bipush 8, 2) := by decide +kernel
theorem d_TypeFinderModel_init_126 : decode b_TypeFinderModel_init 126 = .ok (.iconst 0, 1) := by decide +kernel
theorem d_TypeFinderModel_init_127 : decode b_TypeFinderModel_init 127 = .ok (.bastore, 1) := by decide +kernel
theorem d_TypeFinderModel_init_128 : decode b_TypeFinderModel_init 128 = .ok (.dup, 1) := by decide +kernel
theorem d_TypeFinderModel_init_129 : decode b_TypeFinderModel_init 129 = .ok (.bipush 9, 2) := by decide +kernel
theorem d_TypeFinderModel_init_131 : decode b_TypeFinderModel_init 131 = .ok (.iconst 0, 1) := by decide +kernel
theorem d_TypeFinderModel_init_132 : decode b_TypeFinderModel_init 132 = .ok (.bastore, 1) := by decide +kernel
theorem d_TypeFinderModel_init_133 : decode b_TypeFinderModel_init 133 = .ok (.putfield 22, 3) := by decide +kernel
theorem d_TypeFinderModel_init_136 : decode b_TypeFinderModel_init 136 = .ok (.aload_n 0, 1) := by decide +kernel
theorem d_TypeFinderModel_init_137 : decode b_TypeFinderModel_init 137 = .ok (.bipush 6, 2) := by decide +kernel
theorem d_TypeFinderModel_init_139 : decode b_TypeFinderModel_init 139 = .ok (.putfield 26, 3) := by decide +kernel
theorem d_TypeFinderModel_init_142 : decode b_TypeFinderModel_init 142 = .ok (.aload_n 0, 1) := by decide +kernel
theorem d_TypeFinderModel_init_143 : decode b_TypeFinderModel_init 143 = .ok (.bipush 30, 2) := by decide +kernel
theorem d_TypeFinderModel_init_145 : decode b_TypeFinderModel_init 145 = .ok (.newarray .int, 2) := by decide +kernel
theorem d_TypeFinderModel_init_147 : decode b_TypeFinderModel_init 147 = .ok (.putfield 30, 3) := by decide +kernel
theorem d_TypeFinderModel_init_150 : decode b_TypeFinderModel_init 150 = .ok (.aload_n 0, 1) := by decide +kernel
theorem d_TypeFinderModel_init_151 : decode b_TypeFinderModel_init 151 = .ok (.bipush 30, 2) := by decide +kernel
theorem d_TypeFinderModel_init_153 : decode b_TypeFinderModel_init 153 = .ok (.newarray .int, 2) := by decide +kernel
theorem d_TypeFinderModel_init_155 : decode b_TypeFinderModel_init 155 = .ok (.putfield 33, 3) := by decide +kernel
theorem d_TypeFinderModel_init_158 : decode b_TypeFinderModel_init 158 = .ok (.aload_n 0, 1) := by decide +kernel
theorem d_TypeFinderModel_init_159 : decode b_TypeFinderModel_init 159 = .ok (.sipush 720, 3) := by decide +kernel
theorem d_TypeFinderModel_init_162 : decode b_TypeFinderModel_init 162 = .ok (.newarray .int, 2) := by decide +kernel
theorem d_TypeFinderModel_init_164 : decode b_TypeFinderModel_init 164 = .ok (.putfield 36, 3) := by decide +kernel
theorem d_TypeFinderModel_init_167 : decode b_TypeFinderModel_init 167 = .ok (.aload_n 0, 1) := by decide +kernel
theorem d_TypeFinderModel_init_168 : decode b_TypeFinderModel_init 168 = .ok (.iconst 2, 1) := by decide +kernel
theorem d_TypeFinderModel_init_169 : decode b_TypeFinderModel_init 169 = .ok (.putfield 39, 3) := by decide +kernel
theorem d_TypeFinderModel_init_172 : decode b_TypeFinderModel_init 172 = .ok (.aload_n 0, 1) := by decide +kernel
theorem d_TypeFinderModel_init_173 : decode b_TypeFinderModel_init 173 = .ok (.bipush 7, 2) := by decide +kernel
theorem d_TypeFinderModel_init_175 : decode b_TypeFinderModel_init 175 = .ok (.newarray .int, 2) := by decide +kernel
theorem d_TypeFinderModel_init_177 : decode b_TypeFinderModel_init 177 = .ok (.putfield 42, 3) := by decide +kernel
theorem d_TypeFinderModel_init_180 : decode b_TypeFinderModel_init 180 = .ok (.aload_n 0, 1) := by decide +kernel
theorem d_TypeFinderModel_init_181 : decode b_TypeFinderModel_init 181 = .ok (.bipush 7, 2) := by decide +kernel
theorem d_TypeFinderModel_init_183 : decode b_TypeFinderModel_init 183 = .ok (.newarray .int, 2) := by decide +kernel
theorem d_TypeFinderModel_init_185 : decode b_TypeFinderModel_init 185 = .ok (.putfield 45, 3) := by decide +kernel
theorem d_TypeFinderModel_init_188 : decode b_TypeFinderModel_init 188 = .ok (.aload_n 0, 1) := by decide +kernel
theorem d_TypeFinderModel_init_189 : decode b_TypeFinderModel_init 189 = .ok (.bipush 7, 2) := by decide +kernel
theorem d_TypeFinderModel_init_191 : decode b_TypeFinderModel_init 191 = .ok (.newarray .int, 2) := by decide +kernel
theorem d_TypeFinderModel_init_193 : decode b_TypeFinderModel_init 193 = .ok (.putfield 48, 3) := by decide +kernel
theorem d_TypeFinderModel_init_196 : decode b_TypeFinderModel_init 196 = .ok (.aload_n 0, 1) := by decide +kernel
theorem d_TypeFinderModel_init_197 : decode b_TypeFinderModel_init 197 = .ok (.bipush 7, 2) := by decide +kernel
theorem d_TypeFinderModel_init_199 : decode b_TypeFinderModel_init 199 = .ok (.newarray .boolean, 2) := by decide +kernel
theorem d_TypeFinderModel_init_201 : decode b_TypeFinderModel_init 201 = .ok (.putfield 51, 3) := by decide +kernel
theorem d_TypeFinderModel_init_204 : decode b_TypeFinderModel_init 204 = .ok (.aload_n 0, 1) := by decide +kernel
theorem d_TypeFinderModel_init_205 : decode b_TypeFinderModel_init 205 = .ok (.iconst 4, 1) := by decide +kernel
theorem d_TypeFinderModel_init_206 : decode b_TypeFinderModel_init 206 = .ok (.putfield 54, 3) := by decide +kernel
theorem d_TypeFinderModel_init_209 : decode b_TypeFinderModel_init 209 = .ok (.aload_n 0, 1) := by decide +kernel
theorem d_TypeFinderModel_init_210 : decode b_TypeFinderModel_init 210 = .ok (.bipush 24, 2) := by decide +kernel
theorem d_TypeFinderModel_init_212 : decode b_TypeFinderModel_init 212 = .ok (.newarray .int, 2) := by decide +kernel
theorem d_TypeFinderModel_init_214 : decode b_TypeFinderModel_init 214 = .ok (.putfield 57, 3) := by decide +kernel
theorem d_TypeFinderModel_init_217 : decode b_TypeFinderModel_init 217 = .ok (.aload_n 0, 1) := by decide +kernel
theorem d_TypeFinderModel_init_218 : decode b_TypeFinderModel_init 218 = .ok (.bipush 24, 2) := by decide +kernel
theorem d_TypeFinderModel_init_220 : decode b_TypeFinderModel_init 220 = .ok (.newarray .int, 2) := by decide +kernel
theorem d_TypeFinderModel_init_222 : decode b_TypeFinderModel_init 222 = .ok (.putfield 60, 3) := by decide +kernel
theorem d_TypeFinderModel_init_225 : decode b_TypeFinderModel_init 225 = .ok (.aload_n 0, 1) := by decide +kernel
theorem d_TypeFinderModel_init_226 : decode b_TypeFinderModel_init 226 = .ok (.bipush 24, 2) := by decide +kernel
theorem d_TypeFinderModel_init_228 : decode b_TypeFinderModel_init 228 = .ok (.newarray .int, 2) := by decide +kernel
theorem d_TypeFinderModel_init_230 : decode b_TypeFinderModel_init 230 = .ok (.putfield 63, 3) := by decide +kernel
theorem d_TypeFinderModel_init_233 : decode b_TypeFinderModel_init 233 = .ok (.aload_n 0, 1) := by decide +kernel
theorem d_TypeFinderModel_init_234 : decode b_TypeFinderModel_init 234 = .ok (.bipush 24, 2) := by decide +kernel
theorem d_TypeFinderModel_init_236 : decode b_TypeFinderModel_init 236 = .ok (.newarray .int, 2) := by decide +kernel
theorem d_TypeFinderModel_init_238 : decode b_TypeFinderModel_init 238 = .ok (.putfield 66, 3) := by decide +kernel
theorem d_TypeFinderModel_init_241 : decode b_TypeFinderModel_init 241 = .ok (.aload_n 0, 1) := by decide +kernel
theorem d_TypeFinderModel_init_242 : decode b_TypeFinderModel_init 242 = .ok (.sipush 1920, 3) := by decide +kernel
theorem d_TypeFinderModel_init_245 : decode b_TypeFinderModel_init 245 = .ok (.newarray .int, 2) := by decide +kernel
theorem d_TypeFinderModel_init_247 : decode b_TypeFinderModel_init 247 = .ok (.putfield 69, 3) := by decide +kernel
theorem d_TypeFinderModel_init_250 : decode b_TypeFinderModel_init 250 = .ok (.aload_n 0, 1) := by decide +kernel
theorem d_TypeFinderModel_init_251 : decode b_TypeFinderModel_init 251 = .ok (.sipush 260, 3) := by decide +kernel
theorem d_TypeFinderModel_init_254 : decode b_TypeFinderModel_init 254 = .ok (.newarray .int, 2) := by decide +kernel
theorem d_TypeFinderModel_init_256 : decode b_TypeFinderModel_init 256 = .ok (.putfield 72, 3) := by decide +kernel
theorem d_TypeFinderModel_init_259 : decode b_TypeFinderModel_init 259 = .ok (.aload_n 0, 1) := by decide +kernel
theorem d_TypeFinderModel_init_260 : decode b_TypeFinderModel_init 260 = .ok (.sipush 260, 3) := by decide +kernel
theorem d_TypeFinderModel_init_263 : decode b_TypeFinderModel_init 263 = .ok (.newarray .int, 2) := by decide +kernel
theorem d_TypeFinderModel_init_265 : decode b_TypeFinderModel_init 265 = .ok (.putfield 75, 3) := by decide +kernel
theorem d_TypeFinderModel_init_268 : decode b_TypeFinderModel_init 268 = .ok (.aload_n 0, 1) := by decide +kernel
theorem d_TypeFinderModel_init_269 : decode b_TypeFinderModel_init 269 = .ok (.sipush 260, 3) := by decide +kernel
theorem d_TypeFinderModel_init_272 : decode b_TypeFinderModel_init 272 = .ok (.newarray .int, 2) := by decide +kernel
theorem d_TypeFinderModel_init_274 : decode b_TypeFinderModel_init 274 = .ok (.putfield 78, 3) := by decide +kernel
theorem d_TypeFinderModel_init_277 : decode b_TypeFinderModel_init 277 = .ok (.aload_n 0, 1) := by decide +kernel
theorem d_TypeFinderModel_init_278 : decode b_TypeFinderModel_init 278 = .ok (.bipush 64, 2) := by decide +kernel
theorem d_TypeFinderModel_init_280 : decode b_TypeFinderModel_init 280 = .ok (.newarray .int, 2) := by decide +kernel
theorem d_TypeFinderModel_init_282 : decode b_TypeFinderModel_init 282 = .ok (.putfield 81, 3) := by decide +kernel
theorem d_TypeFinderModel_init_285 : decode b_TypeFinderModel_init 285 = .ok (.aload_n 0, 1) := by decide +kernel
theorem d_TypeFinderModel_init_286 : decode b_TypeFinderModel_init 286 = .ok (.bipush 64, 2) := by decide +kernel
theorem d_TypeFinderModel_init_288 : decode b_TypeFinderModel_init 288 = .ok (.newarray .int, 2) := by decide +kernel
theorem d_TypeFinderModel_init_290 : decode b_TypeFinderModel_init 290 = .ok (.putfield 84, 3) := by decide +kernel
theorem d_TypeFinderModel_init_293 : decode b_TypeFinderModel_init 293 = .ok (.aload_n 0, 1) := by decide +kernel
theorem d_TypeFinderModel_init_294 : decode b_TypeFinderModel_init 294 = .ok (.bipush 64, 2) := by decide +kernel
theorem d_TypeFinderModel_init_296 : decode b_TypeFinderModel_init 296 = .ok (.newarray .int, 2) := by decide +kernel
theorem d_TypeFinderModel_init_298 : decode b_TypeFinderModel_init 298 = .ok (.putfield 87, 3) := by decide +kernel
theorem d_TypeFinderModel_init_301 : decode b_TypeFinderModel_init 301 = .ok (.aload_n 0, 1) := by decide +kernel
theorem d_TypeFinderModel_init_302 : decode b_TypeFinderModel_init 302 = .ok (.bipush 64, 2) := by decide +kernel
theorem d_TypeFinderModel_init_304 : decode b_TypeFinderModel_init 304 = .ok (.newarray .int, 2) := by decide +kernel
theorem d_TypeFinderModel_init_306 : decode b_TypeFinderModel_init 306 = .ok (.putfield 90, 3) := by decide +kernel
theorem d_TypeFinderModel_init_309 : decode b_TypeFinderModel_init 309 = .ok (.aload_n 0, 1) := by decide +kernel
theorem d_TypeFinderModel_init_310 : decode b_TypeFinderModel_init 310 = .ok (.bipush 64, 2) := by decide +kernel
theorem d_TypeFinderModel_init_312 : decode b_TypeFinderModel_init 312 = .ok (.newarray .int, 2) := by decide +kernel
theorem d_TypeFinderModel_init_314 : decode b_TypeFinderModel_init 314 = .ok (.putfield 93, 3) := by decide +kernel
theorem d_TypeFinderModel_init_317 : decode b_TypeFinderModel_init 317 = .ok (.aload_n 0, 1) := by decide +kernel
theorem d_TypeFinderModel_init_318 : decode b_TypeFinderModel_init 318 = .ok (.bipush 64, 2) := by decide +kernel
theorem d_TypeFinderModel_init_320 : decode b_TypeFinderModel_init 320 = .ok (.newarray .int, 2) := by decide +kernel
theorem d_TypeFinderModel_init_322 : decode b_TypeFinderModel_init 322 = .ok (.putfield 96, 3) := by decide +kernel
theorem d_TypeFinderModel_init_325 : decode b_TypeFinderModel_init 325 = .ok (.aload_n 0, 1) := by decide +kernel
theorem d_TypeFinderModel_init_326 : decode b_TypeFinderModel_init 326 = .ok (.bipush 90, 2) := by decide +kernel
theorem d_TypeFinderModel_init_328 : decode b_TypeFinderModel_init 328 = .ok (.newarray .int, 2) := by decide +kernel
theorem d_TypeFinderModel_init_330 : decode b_TypeFinderModel_init 330 = .ok (.putfield 99, 3) := by decide +kernel
theorem d_TypeFinderModel_init_333 : decode b_TypeFinderModel_init 333 = .ok (.aload_n 0, 1) := by decide +kernel
theorem d_TypeFinderModel_init_334 : decode b_TypeFinderModel_init 334 = .ok (.sipush 2000, 3) := by decide +kernel
theorem d_TypeFinderModel_init_337 : decode b_TypeFinderModel_init 337 = .ok (.newarray .int, 2) := by decide +kernel
theorem d_TypeFinderModel_init_339 : decode b_TypeFinderModel_init 339 = .ok (.putfield 102, 3) := by decide +kernel
theorem d_TypeFinderModel_init_342 : decode b_TypeFinderModel_init 342 = .ok (.aload_n 0, 1) := by decide +kernel
theorem d_TypeFinderModel_init_343 : decode b_TypeFinderModel_init 343 = .ok (.sipush 2000, 3) := by decide +kernel
theorem d_TypeFinderModel_init_346 : decode b_TypeFinderModel_init 346 = .ok (.newarray .int, 2) := by decide +kernel
theorem d_TypeFinderModel_init_348 : decode b_TypeFinderModel_init 348 = .ok (.putfield 105, 3) := by decide +kernel
theorem d_TypeFinderModel_init_351 : decode b_TypeFinderModel_init 351 = .ok (.aload_n 0, 1) := by decide +kernel
theorem d_TypeFinderModel_init_352 : decode b_TypeFinderModel_init 352 = .ok (.sipush 2000, 3) := by decide +kernel
theorem d_TypeFinderModel_init_355 : decode b_TypeFinderModel_init 355 = .ok (.newarray .int, 2) := by decide +kernel
theorem d_TypeFinderModel_init_357 : decode b_TypeFinderModel_init 357 = .ok (.putfield 108, 3) := by decide +kernel
theorem d_TypeFinderModel_init_360 : decode b_TypeFinderModel_init 360 = .ok (.aload_n 0, 1) := by decide +kernel
theorem d_TypeFinderModel_init_361 : decode b_TypeFinderModel_init 361 = .ok (.sipush 2000, 3) := by decide +kernel
theorem d_TypeFinderModel_init_364 : decode b_TypeFinderModel_init 364 = .ok (.newarray .int, 2) := by decide +kernel
theorem d_TypeFinderModel_init_366 : decode b_TypeFinderModel_init 366 = .ok (.putfield 111, 3) := by decide +kernel
theorem d_TypeFinderModel_init_369 : decode b_TypeFinderModel_init 369 = .ok (.aload_n 0, 1) := by decide +kernel
theorem d_TypeFinderModel_init_370 : decode b_TypeFinderModel_init 370 = .ok (.sipush 2000, 3) := by decide +kernel
theorem d_TypeFinderModel_init_373 : decode b_TypeFinderModel_init 373 = .ok (.newarray .int, 2) := by decide +kernel
theorem d_TypeFinderModel_init_375 : decode b_TypeFinderModel_init 375 = .ok (.putfield 114, 3) := by decide +kernel
theorem d_TypeFinderModel_init_378 : decode b_TypeFinderModel_init 378 = .ok (.aload_n 0, 1) := by decide +kernel
theorem d_TypeFinderModel_init_379 : decode b_TypeFinderModel_init 379 = .ok (.sipush 600, 3) := by decide +kernel
theorem d_TypeFinderModel_init_382 : decode b_TypeFinderModel_init 382 = .ok (.newarray .int, 2) := by decide +kernel
theorem d_TypeFinderModel_init_384 : decode b_TypeFinderModel_init 384 = .ok (.putfield 117, 3) := by decide +kernel
theorem d_TypeFinderModel_init_387 : decode b_TypeFinderModel_init 387 = .ok (.aload_n 0, 1) := by decide +kernel
theorem d_TypeFinderModel_init_388 : decode b_TypeFinderModel_init 388 = .ok (.sipush 600, 3) := by decide +kernel
theorem d_TypeFinderModel_init_391 : decode b_TypeFinderModel_init 391 = .ok (.newarray .int, 2) := by decide +kernel
theorem d_TypeFinderModel_init_393 : decode b_TypeFinderModel_init 393 = .ok (.putfield 120, 3) := by decide +kernel
theorem d_TypeFinderModel_init_396 : decode b_TypeFinderModel_init 396 = .ok (.aload_n 0, 1) := by decide +kernel
theorem d_TypeFinderModel_init_397 : decode b_TypeFinderModel_init 397 = .ok (.bipush 100, 2) := by decide +kernel
theorem d_TypeFinderModel_init_399 : decode b_TypeFinderModel_init 399 = .ok (.newarray .int, 2) := by decide +kernel
theorem d_TypeFinderModel_init_401 : decode b_TypeFinderModel_init 401 = .ok (.putfield 123, 3) := by decide +kernel
theorem d_TypeFinderModel_init_404 : decode b_TypeFinderModel_init 404 = .ok (.aload_n 0, 1) := by decide +kernel
end
section
theorem d_TypeFinderModel_init_405 : decode b_TypeFinderModel_init 405 = .ok (.bipush 80, 2) := by decide +kernel
theorem d_TypeFinderModel_init_407 : decode b_TypeFinderModel_init 407 = .ok (.newarray .int, 2) := by decide +kernel
theorem d_TypeFinderModel_init_409 : decode b_TypeFinderModel_init 409 = .ok (.putfield 126, 3) := by decide +kernel
theorem d_TypeFinderModel_init_412 : decode b_TypeFinderModel_init 412 = .ok (.aload_n 0, 1) := by decide +kernel
theorem d_TypeFinderModel_init_413 : decode b_TypeFinderModel_init 413 = .ok (.bipush 80, 2) := by decide +kernel
theorem d_TypeFinderModel_init_415 : decode b_TypeFinderModel_init 415 = .ok (.newarray .int, 2) := by decide +kernel
theorem d_TypeFinderModel_init_417 : decode b_TypeFinderModel_init 417 = .ok (.putfield 129, 3) := by decide +kernel
theorem d_TypeFinderModel_init_420 : decode b_TypeFinderModel_init 420 = .ok (.aload_n 0, 1) := by decide +kernel
theorem d_TypeFinderModel_init_421 : decode b_TypeFinderModel_init 421 = .ok (.bipush 16, 2) := by decide +kernel
theorem d_TypeFinderModel_init_423 : decode b_TypeFinderModel_init 423 = .ok (.newarray .int, 2) := by decide +kernel
theorem d_TypeFinderModel_init_425 : decode b_TypeFinderModel_init 425 = .ok (.putfield 132, 3) := by decide +kernel
theorem d_TypeFinderModel_init_428 : decode b_TypeFinderModel_init 428 = .ok (.aload_n 0, 1) := by decide +kernel
theorem d_TypeFinderModel_init_429 : decode b_TypeFinderModel_init 429 = .ok (.bipush 16, 2) := by decide +kernel
theorem d_TypeFinderModel_init_431 : decode b_TypeFinderModel_init 431 = .ok (.newarray .int, 2) := by decide +kernel
theorem d_TypeFinderModel_init_433 : decode b_TypeFinderModel_init 433 = .ok (.putfield 135, 3) := by decide +kernel
theorem d_TypeFinderModel_init_436 : decode b_TypeFinderModel_init 436 = .ok (.aload_n 0, 1) := by decide +kernel
theorem d_TypeFinderModel_init_437 : decode b_TypeFinderModel_init 437 = .ok (.bipush 60, 2) := by decide +kernel
theorem d_TypeFinderModel_init_439 : decode b_TypeFinderModel_init 439 = .ok (.newarray .int, 2) := by decide +kernel
theorem d_TypeFinderModel_init_441 : decode b_TypeFinderModel_init 441 = .ok (.putfield 138, 3) := by decide +kernel
theorem d_TypeFinderModel_init_444 : decode b_TypeFinderModel_init 444 = .ok (.aload_n 0, 1) := by decide +kernel
theorem d_TypeFinderModel_init_445 : decode b_TypeFinderModel_init 445 = .ok (.bipush 60, 2) := by decide +kernel
theorem d_TypeFinderModel_init_447 : decode b_TypeFinderModel_init 447 = .ok (.newarray .int, 2) := by decide +kernel
theorem d_TypeFinderModel_init_449 : decode b_TypeFinderModel_init 449 = .ok (.putfield 141, 3) := by decide +kernel
theorem d_TypeFinderModel_init_452 : decode b_TypeFinderModel_init 452 = .ok (.aload_n 0, 1) := by decide +kernel
theorem d_TypeFinderModel_init_453 : decode b_TypeFinderModel_init 453 = .ok (.iconst 2, 1) := by decide +kernel
theorem d_TypeFinderModel_init_454 : decode b_TypeFinderModel_init 454 = .ok (.newarray .int, 2) := by decide +kernel
theorem d_TypeFinderModel_init_456 : decode b_TypeFinderModel_init 456 = .ok (.putfield 144, 3) := by decide +kernel
theorem d_TypeFinderModel_init_459 : decode b_TypeFinderModel_init 459 = .ok (.aload_n 0, 1) := by decide +kernel
theorem d_TypeFinderModel_init_460 : decode b_TypeFinderModel_init 460 = .ok (.sipush 600, 3) := by decide +kernel
theorem d_TypeFinderModel_init_463 : decode b_TypeFinderModel_init 463 = .ok (.newarray .int, 2) := by decide +kernel
theorem d_TypeFinderModel_init_465 : decode b_TypeFinderModel_init 465 = .ok (.putfield 147, 3) := by decide +kernel
theorem d_TypeFinderModel_init_468 : decode b_TypeFinderModel_init 468 = .ok (.aload_n 0, 1) := by decide +kernel
theorem d_TypeFinderModel_init_469 : decode b_TypeFinderModel_init 469 = .ok (.bipush 90, 2) := by decide +kernel
theorem d_TypeFinderModel_init_471 : decode b_TypeFinderModel_init 471 = .ok (.newarray .int, 2) := by decide +kernel
theorem d_TypeFinderModel_init_473 : decode b_TypeFinderModel_init 473 = .ok (.putfield 150, 3) := by decide +kernel
theorem d_TypeFinderModel_init_476 : decode b_TypeFinderModel_init 476 = .ok (.aload_n 0, 1) := by decide +kernel
theorem d_TypeFinderModel_init_477 : decode b_TypeFinderModel_init 477 = .ok (.bipush 90, 2) := by decide +kernel
theorem d_TypeFinderModel_init_479 : decode b_TypeFinderModel_init 479 = .ok (.newarray .int, 2) := by decide +kernel
theorem d_TypeFinderModel_init_481 : decode b_TypeFinderModel_init 481 = .ok (.putfield 153, 3) := by decide +kernel
theorem d_TypeFinderModel_init_484 : decode b_TypeFinderModel_init 484 = .ok (.aload_n 0, 1) := by decide +kernel
theorem d_TypeFinderModel_init_485 : decode b_TypeFinderModel_init 485 = .ok (.bipush 90, 2) := by decide +kernel
theorem d_TypeFinderModel_init_487 : decode b_TypeFinderModel_init 487 = .ok (.newarray .int, 2) := by decide +kernel
theorem d_TypeFinderModel_init_489 : decode b_TypeFinderModel_init 489 = .ok (.putfield 156, 3) := by decide +kernel
theorem d_TypeFinderModel_init_492 : decode b_TypeFinderModel_init 492 = .ok (.aload_n 0, 1) := by decide +kernel
theorem d_TypeFinderModel_init_493 : decode b_TypeFinderModel_init 493 = .ok (.iconst 2, 1) := by decide +kernel
theorem d_TypeFinderModel_init_494 : decode b_TypeFinderModel_init 494 = .ok (.newarray .int, 2) := by decide +kernel
theorem d_TypeFinderModel_init_496 : decode b_TypeFinderModel_init 496 = .ok (.putfield 159, 3) := by decide +kernel
theorem d_TypeFinderModel_init_499 : decode b_TypeFinderModel_init 499 = .ok (.aload_n 0, 1) := by decide +kernel
theorem d_TypeFinderModel_init_500 : decode b_TypeFinderModel_init 500 = .ok (.iconst 4, 1) := by decide +kernel
theorem d_TypeFinderModel_init_501 : decode b_TypeFinderModel_init 501 = .ok (.newarray .int, 2) := by decide +kernel
theorem d_TypeFinderModel_init_503 : decode b_TypeFinderModel_init 503 = .ok (.putfield 162, 3) := by decide +kernel
theorem d_TypeFinderModel_init_506 : decode b_TypeFinderModel_init 506 = .ok (.aload_n 0, 1) := by decide +kernel
theorem d_TypeFinderModel_init_507 : decode b_TypeFinderModel_init 507 = .ok (.iconst 4, 1) := by decide +kernel
theorem d_TypeFinderModel_init_508 : decode b_TypeFinderModel_init 508 = .ok (.newarray .int, 2) := by decide +kernel
theorem d_TypeFinderModel_init_510 : decode b_TypeFinderModel_init 510 = .ok (.putfield 165, 3) := by decide +kernel
theorem d_TypeFinderModel_init_513 : decode b_TypeFinderModel_init 513 = .ok (.iconst 0, 1) := by decide +kernel
theorem d_TypeFinderModel_init_514 : decode b_TypeFinderModel_init 514 = .ok (.istore_n 1, 1) := by decide +kernel
theorem d_TypeFinderModel_init_515 : decode b_TypeFinderModel_init 515 = .ok (.iload_n 1, 1) := by decide +kernel
theorem d_TypeFinderModel_init_516 : decode b_TypeFinderModel_init 516 = .ok (.iconst 4, 1) := by decide +kernel
theorem d_TypeFinderModel_init_517 : decode b_TypeFinderModel_init 517 = .ok (.if_icmp .ge 19, 3) := by decide +kernel
theorem d_TypeFinderModel_init_520 : decode b_TypeFinderModel_init 520 = .ok (.aload_n 0, 1) := by decide +kernel
theorem d_TypeFinderModel_init_521 : decode b_TypeFinderModel_init 521 = .ok (.iload_n 1, 1) := by decide +kernel
theorem d_TypeFinderModel_init_522 : decode b_TypeFinderModel_init 522 = .ok (.iconst 2, 1) := by decide +kernel
theorem d_TypeFinderModel_init_523 : decode b_TypeFinderModel_init 523 = .ok (.iconst 1, 1) := by decide +kernel
theorem d_TypeFinderModel_init_524 : decode b_TypeFinderModel_init 524 = .ok (.iconst 2, 1) := by decide +kernel
theorem d_TypeFinderModel_init_525 : decode b_TypeFinderModel_init 525 = .ok (.iconst 1, 1) := by decide +kernel
theorem d_TypeFinderModel_init_526 : decode b_TypeFinderModel_init 526 = .ok (.iconst 1, 1) := by decide +kernel
theorem d_TypeFinderModel_init_527 : decode b_TypeFinderModel_init 527 = .ok (.invokevirtual 168, 3) := by decide +kernel
theorem d_TypeFinderModel_init_530 : decode b_TypeFinderModel_init 530 = .ok (.iinc 1 1, 3) := by decide +kernel
theorem d_TypeFinderModel_init_533 : decode b_TypeFinderModel_init 533 = .ok (.goto (-18), 3) := by decide +kernel
theorem d_TypeFinderModel_init_536 : decode b_TypeFinderModel_init 536 = .ok (.aload_n 0, 1) := by decide +kernel
theorem d_TypeFinderModel_init_537 : decode b_TypeFinderModel_init 537 = .ok (.iconst 4, 1) := by decide +kernel
theorem d_TypeFinderModel_init_538 : decode b_TypeFinderModel_init 538 = .ok (.iconst 2, 1) := by decide +kernel
theorem d_TypeFinderModel_init_539 : decode b_TypeFinderModel_init 539 = .ok (.iconst 1, 1) := by decide +kernel
theorem d_TypeFinderModel_init_540 : decode b_TypeFinderModel_init 540 = .ok (.iconst 2, 1) := by decide +kernel
theorem d_TypeFinderModel_init_541 : decode b_TypeFinderModel_init 541 = .ok (.iconst 1, 1) := by decide +kernel
theorem d_TypeFinderModel_init_542 : decode b_TypeFinderModel_init 542 = .ok (.bipush 10, 2) := by decide +kernel
theorem d_TypeFinderModel_init_544 : decode b_TypeFinderModel_init 544 = .ok (.invokevirtual 168, 3) := by decide +kernel
theorem d_TypeFinderModel_init_547 : decode b_TypeFinderModel_init 547 = .ok (.aload_n 0, 1) := by decide +kernel
theorem d_TypeFinderModel_init_548 : decode b_TypeFinderModel_init 548 = .ok (.iconst 5, 1) := by decide +kernel
theorem d_TypeFinderModel_init_549 : decode b_TypeFinderModel_init 549 = .ok (.iconst 2, 1) := by decide +kernel
theorem d_TypeFinderModel_init_550 : decode b_TypeFinderModel_init 550 = .ok (.sipush 200, 3) := by decide +kernel
theorem d_TypeFinderModel_init_553 : decode b_TypeFinderModel_init 553 = .ok (.iconst 2, 1) := by decide +kernel
theorem d_TypeFinderModel_init_554 : decode b_TypeFinderModel_init 554 = .ok (.sipush 200, 3) := by decide +kernel
theorem d_TypeFinderModel_init_557 : decode b_TypeFinderModel_init 557 = .ok (.bipush 10, 2) := by decide +kernel
theorem d_TypeFinderModel_init_559 : decode b_TypeFinderModel_init 559 = .ok (.invokevirtual 168, 3) := by decide +kernel
theorem d_TypeFinderModel_init_562 : decode b_TypeFinderModel_init 562 = .ok (.aload_n 0, 1) := by decide +kernel
theorem d_TypeFinderModel_init_563 : decode b_TypeFinderModel_init 563 = .ok (.getfield 42, 3) := by decide +kernel
theorem d_TypeFinderModel_init_566 : decode b_TypeFinderModel_init 566 = .ok (.iconst 0, 1) := by decide +kernel
theorem d_TypeFinderModel_init_567 : decode b_TypeFinderModel_init 567 = .ok (.ldc2_w 172, 3) := by decide +kernel
theorem d_TypeFinderModel_init_570 : decode b_TypeFinderModel_init 570 = .ok (.invokestatic 174, 3) := by decide +kernel
theorem d_TypeFinderModel_init_573 : decode b_TypeFinderModel_init 573 = .ok (.iastore, 1) := by decide +kernel
theorem d_TypeFinderModel_init_574 : decode b_TypeFinderModel_init 574 = .ok (.aload_n 0, 1) := by decide +kernel
theorem d_TypeFinderModel_init_575 : decode b_TypeFinderModel_init 575 = .ok (.getfield 42, 3) := by decide +kernel
theorem d_TypeFinderModel_init_578 : decode b_TypeFinderModel_init 578 = .ok (.iconst 1, 1) := by decide +kernel
theorem d_TypeFinderModel_init_579 : decode b_TypeFinderModel_init 579 = .ok (.ldc2_w 178, 3) := by decide +kernel
theorem d_TypeFinderModel_init_582 : decode b_TypeFinderModel_init 582 = .ok (.invokestatic 174, 3) := by decide +kernel
theorem d_TypeFinderModel_init_585 : decode b_TypeFinderModel_init 585 = .ok (.iastore, 1) := by decide +kernel
theorem d_TypeFinderModel_init_586 : decode b_TypeFinderModel_init 586 = .ok (.aload_n 0, 1) := by decide +kernel
theorem d_TypeFinderModel_init_587 : decode b_TypeFinderModel_init 587 = .ok (.getfield 45, 3) := by decide +kernel
theorem d_TypeFinderModel_init_590 : decode b_TypeFinderModel_init 590 = .ok (.iconst 1, 1) := by decide +kernel
theorem d_TypeFinderModel_init_591 : decode b_TypeFinderModel_init 591 = .ok (.iconst 1, 1) := by decide +kernel
theorem d_TypeFinderModel_init_592 : decode b_TypeFinderModel_init 592 = .ok (.iastore, 1) := by decide +kernel
theorem d_TypeFinderModel_init_593 : decode b_TypeFinderModel_init 593 = .ok (.aload_n 0, 1) := by decide +kernel
theorem d_TypeFinderModel_init_594 : decode b_TypeFinderModel_init 594 = .ok (.getfield 48, 3) := by decide +kernel
theorem d_TypeFinderModel_init_597 : decode b_TypeFinderModel_init 597 = .ok (.iconst 0, 1) := by decide +kernel
theorem d_TypeFinderModel_init_598 : decode b_TypeFinderModel_init 598 = .ok (.iconst 2, 1) := by decide +kernel
theorem d_TypeFinderModel_init_599 : decode b_TypeFinderModel_init 599 = .ok (.iastore, 1) := by decide +kernel
theorem d_TypeFinderModel_init_600 : decode b_TypeFinderModel_init 600 = .ok (.aload_n 0, 1) := by decide +kernel
theorem d_TypeFinderModel_init_601 : decode b_TypeFinderModel_init 601 = .ok (.getfield 48, 3) := by decide +kernel
theorem d_TypeFinderModel_init_604 : decode b_TypeFinderModel_init 604 = .ok (.iconst 1, 1) := by decide +kernel
theorem d_TypeFinderModel_init_605 : decode b_TypeFinderModel_init 605 = .ok (.iconst 2, 1) := by decide +kernel
theorem d_TypeFinderModel_init_606 : decode b_TypeFinderModel_init 606 = .ok (.iastore, 1) := by decide +kernel
theorem d_TypeFinderModel_init_607 : decode b_TypeFinderModel_init 607 = .ok (.aload_n 0, 1) := by decide +kernel
theorem d_TypeFinderModel_init_608 : decode b_TypeFinderModel_init 608 = .ok (.getfield 51, 3) := by decide +kernel
theorem d_TypeFinderModel_init_611 : decode b_TypeFinderModel_init 611 = .ok (.iconst 0, 1) := by decide +kernel
theorem d_TypeFinderModel_init_612 : decode b_TypeFinderModel_init 612 = .ok (.iconst 1, 1) := by decide +kernel
theorem d_TypeFinderModel_init_613 : decode b_TypeFinderModel_init 613 = .ok (.bastore, 1) := by decide +kernel
theorem d_TypeFinderModel_init_614 : decode b_TypeFinderModel_init 614 = .ok (.aload_n 0, 1) := by decide +kernel
theorem d_TypeFinderModel_init_615 : decode b_TypeFinderModel_init 615 = .ok (.getfield 51, 3) := by decide +kernel
theorem d_TypeFinderModel_init_618 : decode b_TypeFinderModel_init 618 = .ok (.iconst 1, 1) := by decide +kernel
theorem d_TypeFinderModel_init_619 : decode b_TypeFinderModel_init 619 = .ok (.iconst 1, 1) := by decide +kernel
theorem d_TypeFinderModel_init_620 : decode b_TypeFinderModel_init 620 = .ok (.bastore, 1) := by decide +kernel
theorem d_TypeFinderModel_init_621 : decode b_TypeFinderModel_init 621 = .ok (.aload_n 0, 1) := by decide +kernel
theorem d_TypeFinderModel_init_622 : decode b_TypeFinderModel_init 622 = .ok (.getfield 57, 3) := by decide +kernel
theorem d_TypeFinderModel_init_625 : decode b_TypeFinderModel_init 625 = .ok (.iconst 0, 1) := by decide +kernel
theorem d_TypeFinderModel_init_626 : decode b_TypeFinderModel_init 626 = .ok (.ldc2_w 180, 3) := by decide +kernel
theorem d_TypeFinderModel_init_629 : decode b_TypeFinderModel_init 629 = .ok (.invokestatic 174, 3) := by decide +kernel
theorem d_TypeFinderModel_init_632 : decode b_TypeFinderModel_init 632 = .ok (.iastore, 1) := by decide +kernel
theorem d_TypeFinderModel_init_633 : decode b_TypeFinderModel_init 633 = .ok (.aload_n 0, 1) := by decide +kernel
theorem d_TypeFinderModel_init_634 : decode b_TypeFinderModel_init 634 = .ok (.getfield 57, 3) := by decide +kernel
theorem d_TypeFinderModel_init_637 : decode b_TypeFinderModel_init 637 = .ok (.iconst 1, 1) := by decide +kernel
theorem d_TypeFinderModel_init_638 : decode b_TypeFinderModel_init 638 = .ok (.ldc2_w 182, 3) := by decide +kernel
theorem d_TypeFinderModel_init_641 : decode b_TypeFinderModel_init 641 = .ok (.invokestatic 174, 3) := by decide +kernel
theorem d_TypeFinderModel_init_644 : decode b_TypeFinderModel_init 644 = .ok (.iastore, 1) := by decide +kernel
theorem d_TypeFinderModel_init_645 : decode b_TypeFinderModel_init 645 = .ok (.aload_n 0, 1) := by decide +kernel
theorem d_TypeFinderModel_init_646 : decode b_TypeFinderModel_init 646 = .ok (.getfield 57, 3) := by decide +kernel
theorem d_TypeFinderModel_init_649 : decode b_TypeFinderModel_init 649 = .ok (.iconst 2, 1) := by decide +kernel
theorem d_TypeFinderModel_init_650 : decode b_TypeFinderModel_init 650 = .ok (.ldc2_w 184, 3) := by decide +kernel
theorem d_TypeFinderModel_init_653 : decode b_TypeFinderModel_init 653 = .ok (.invokestatic 174, 3) := by decide +kernel
theorem d_TypeFinderModel_init_656 : decode b_TypeFinderModel_init 656 = .ok (.iastore, 1) := by decide +kernel
theorem d_TypeFinderModel_init_657 : decode b_TypeFinderModel_init 657 = .ok (.iconst 0, 1) := by decide +kernel
theorem d_TypeFinderModel_init_658 : decode b_TypeFinderModel_init 658 = .ok (.istore_n 1, 1) := by decide +kernel
theorem d_TypeFinderModel_init_659 : decode b_TypeFinderModel_init 659 = .ok (.iload_n 1, 1) := by decide +kernel
theorem d_TypeFinderModel_init_660 : decode b_TypeFinderModel_init 660 = .ok (.iconst 2, 1) := by decide +kernel
theorem d_TypeFinderModel_init_661 : decode b_TypeFinderModel_init 661 = .ok (.if_icmp .ge 27, 3) := by decide +kernel
theorem d_TypeFinderModel_init_664 : decode b_TypeFinderModel_init 664 = .ok (.aload_n 0, 1) := by decide +kernel
theorem d_TypeFinderModel_init_665 : decode b_TypeFinderModel_init 665 = .ok (.getfield 66, 3) := by decide +kernel
theorem d_TypeFinderModel_init_668 : decode b_TypeFinderModel_init 668 = .ok (.iload_n 1, 1) := by decide +kernel
theorem d_TypeFinderModel_init_669 : decode b_TypeFinderModel_init 669 = .ok (.iconst 1, 1) := by decide +kernel
end
section
theorem d_TypeFinderModel_init_670 : decode b_TypeFinderModel_init 670 = .ok (.iastore, 1) := by decide +kernel
theorem d_TypeFinderModel_init_671 : decode b_TypeFinderModel_init 671 = .ok (.aload_n 0, 1) := by decide +kernel
theorem d_TypeFinderModel_init_672 : decode b_TypeFinderModel_init 672 = .ok (.getfield 69, 3) := by decide +kernel
theorem d_TypeFinderModel_init_675 : decode b_TypeFinderModel_init 675 = .ok (.bipush 80, 2) := by decide +kernel
theorem d_TypeFinderModel_init_677 : decode b_TypeFinderModel_init 677 = .ok (.iload_n 1, 1) := by decide +kernel
theorem d_TypeFinderModel_init_678 : decode b_TypeFinderModel_init 678 = .ok (.imul, 1) := by decide +kernel
theorem d_TypeFinderModel_init_679 : decode b_TypeFinderModel_init 679 = .ok (.bipush 10, 2) := by decide +kernel
theorem d_TypeFinderModel_init_681 : decode b_TypeFinderModel_init 681 = .ok (.iastore, 1) := by decide +kernel
theorem d_TypeFinderModel_init_682 : decode b_TypeFinderModel_init 682 = .ok (.iinc 1 1, 3) := by decide +kernel
theorem d_TypeFinderModel_init_685 : decode b_TypeFinderModel_init 685 = .ok (.goto (-26), 3) := by decide +kernel
theorem d_TypeFinderModel_init_688 : decode b_TypeFinderModel_init 688 = .ok (.iconst 2, 1) := by decide +kernel
theorem d_TypeFinderModel_init_689 : decode b_TypeFinderModel_init 689 = .ok (.istore_n 1, 1) := by decide +kernel
theorem d_TypeFinderModel_init_690 : decode b_TypeFinderModel_init 690 = .ok (.iload_n 1, 1) := by decide +kernel
theorem d_TypeFinderModel_init_691 : decode b_TypeFinderModel_init 691 = .ok (.iconst 4, 1) := by decide +kernel
theorem d_TypeFinderModel_init_692 : decode b_TypeFinderModel_init 692 = .ok (.if_icmp .ge 16, 3) := by decide +kernel
theorem d_TypeFinderModel_init_695 : decode b_TypeFinderModel_init 695 = .ok (.aload_n 0, 1) := by decide +kernel
theorem d_TypeFinderModel_init_696 : decode b_TypeFinderModel_init 696 = .ok (.getfield 60, 3) := by decide +kernel
theorem d_TypeFinderModel_init_699 : decode b_TypeFinderModel_init 699 = .ok (.iload_n 1, 1) := by decide +kernel
theorem d_TypeFinderModel_init_700 : decode b_TypeFinderModel_init 700 = .ok (.iconst 1, 1) := by decide +kernel
theorem d_TypeFinderModel_init_701 : decode b_TypeFinderModel_init 701 = .ok (.iastore, 1) := by decide +kernel
theorem d_TypeFinderModel_init_702 : decode b_TypeFinderModel_init 702 = .ok (.iinc 1 1, 3) := by decide +kernel
theorem d_TypeFinderModel_init_705 : decode b_TypeFinderModel_init 705 = .ok (.goto (-15), 3) := by decide +kernel
theorem d_TypeFinderModel_init_708 : decode b_TypeFinderModel_init 708 = .ok (.aload_n 0, 1) := by decide +kernel
theorem d_TypeFinderModel_init_709 : decode b_TypeFinderModel_init 709 = .ok (.getfield 66, 3) := by decide +kernel
theorem d_TypeFinderModel_init_712 : decode b_TypeFinderModel_init 712 = .ok (.iconst 2, 1) := by decide +kernel
theorem d_TypeFinderModel_init_713 : decode b_TypeFinderModel_init 713 = .ok (.iconst 2, 1) := by decide +kernel
theorem d_TypeFinderModel_init_714 : decode b_TypeFinderModel_init 714 = .ok (.iastore, 1) := by decide +kernel
theorem d_TypeFinderModel_init_715 : decode b_TypeFinderModel_init 715 = .ok (.aload_n 0, 1) := by decide +kernel
theorem d_TypeFinderModel_init_716 : decode b_TypeFinderModel_init 716 = .ok (.getfield 69, 3) := by decide +kernel
theorem d_TypeFinderModel_init_719 : decode b_TypeFinderModel_init 719 = .ok (.sipush 160, 3) := by decide +kernel
theorem d_TypeFinderModel_init_722 : decode b_TypeFinderModel_init 722 = .ok (.bipush 11, 2) := by decide +kernel
theorem d_TypeFinderModel_init_724 : decode b_TypeFinderModel_init 724 = .ok (.iastore, 1) := by decide +kernel
theorem d_TypeFinderModel_init_725 : decode b_TypeFinderModel_init 725 = .ok (.aload_n 0, 1) := by decide +kernel
theorem d_TypeFinderModel_init_726 : decode b_TypeFinderModel_init 726 = .ok (.getfield 69, 3) := by decide +kernel
theorem d_TypeFinderModel_init_729 : decode b_TypeFinderModel_init 729 = .ok (.sipush 161, 3) := by decide +kernel
theorem d_TypeFinderModel_init_732 : decode b_TypeFinderModel_init 732 = .ok (.bipush 100, 2) := by decide +kernel
theorem d_TypeFinderModel_init_734 : decode b_TypeFinderModel_init 734 = .ok (.iastore, 1) := by decide +kernel
theorem d_TypeFinderModel_init_735 : decode b_TypeFinderModel_init 735 = .ok (.aload_n 0, 1) := by decide +kernel
theorem d_TypeFinderModel_init_736 : decode b_TypeFinderModel_init 736 = .ok (.getfield 63, 3) := by decide +kernel
theorem d_TypeFinderModel_init_739 : decode b_TypeFinderModel_init 739 = .ok (.iconst 3, 1) := by decide +kernel
theorem d_TypeFinderModel_init_740 : decode b_TypeFinderModel_init 740 = .ok (.iconst 2, 1) := by decide +kernel
theorem d_TypeFinderModel_init_741 : decode b_TypeFinderModel_init 741 = .ok (.iastore, 1) := by decide +kernel
theorem d_TypeFinderModel_init_742 : decode b_TypeFinderModel_init 742 = .ok (.aload_n 0, 1) := by decide +kernel
theorem d_TypeFinderModel_init_743 : decode b_TypeFinderModel_init 743 = .ok (.getfield 66, 3) := by decide +kernel
theorem d_TypeFinderModel_init_746 : decode b_TypeFinderModel_init 746 = .ok (.iconst 3, 1) := by decide +kernel
theorem d_TypeFinderModel_init_747 : decode b_TypeFinderModel_init 747 = .ok (.bipush 7, 2) := by decide +kernel
theorem d_TypeFinderModel_init_749 : decode b_TypeFinderModel_init 749 = .ok (.iastore, 1) := by decide +kernel
theorem d_TypeFinderModel_init_750 : decode b_TypeFinderModel_init 750 = .ok (.iconst 0, 1) := by decide +kernel
theorem d_TypeFinderModel_init_751 : decode b_TypeFinderModel_init 751 = .ok (.istore_n 1, 1) := by decide +kernel
theorem d_TypeFinderModel_init_752 : decode b_TypeFinderModel_init 752 = .ok (.iload_n 1, 1) := by decide +kernel
theorem d_TypeFinderModel_init_753 : decode b_TypeFinderModel_init 753 = .ok (.bipush 7, 2) := by decide +kernel
theorem d_TypeFinderModel_init_755 : decode b_TypeFinderModel_init 755 = .ok (.if_icmp .ge 49, 3) := by decide +kernel
theorem d_TypeFinderModel_init_758 : decode b_TypeFinderModel_init 758 = .ok (.aload_n 0, 1) := by decide +kernel
theorem d_TypeFinderModel_init_759 : decode b_TypeFinderModel_init 759 = .ok (.getfield 69, 3) := by decide +kernel
theorem d_TypeFinderModel_init_762 : decode b_TypeFinderModel_init 762 = .ok (.sipush 240, 3) := by decide +kernel
theorem d_TypeFinderModel_init_765 : decode b_TypeFinderModel_init 765 = .ok (.iload_n 1, 1) := by decide +kernel
theorem d_TypeFinderModel_init_766 : decode b_TypeFinderModel_init 766 = .ok (.iadd, 1) := by decide +kernel
theorem d_TypeFinderModel_init_767 : decode b_TypeFinderModel_init 767 = .ok (.iload_n 1, 1) := by decide +kernel
theorem d_TypeFinderModel_init_768 : decode b_TypeFinderModel_init 768 = .ok (.ifCond .eq 8, 3) := by decide +kernel
theorem d_TypeFinderModel_init_771 : decode b_TypeFinderModel_init 771 = .ok (.iload_n 1, 1) := by decide +kernel
theorem d_TypeFinderModel_init_772 : decode b_TypeFinderModel_init 772 = .ok (.iconst 2, 1) := by decide +kernel
theorem d_TypeFinderModel_init_773 : decode b_TypeFinderModel_init 773 = .ok (.if_icmp .ne 7, 3) := by decide +kernel
theorem d_TypeFinderModel_init_776 : decode b_TypeFinderModel_init 776 = .ok (.iconst 2, 1) := by decide +kernel
theorem d_TypeFinderModel_init_777 : decode b_TypeFinderModel_init 777 = .ok (.goto 20, 3) := by decide +kernel
theorem d_TypeFinderModel_init_780 : decode b_TypeFinderModel_init 780 = .ok (.iload_n 1, 1) := by decide +kernel
theorem d_TypeFinderModel_init_781 : decode b_TypeFinderModel_init 781 = .ok (.iconst 3, 1) := by decide +kernel
theorem d_TypeFinderModel_init_782 : decode b_TypeFinderModel_init 782 = .ok (.if_icmp .eq 8, 3) := by decide +kernel
theorem d_TypeFinderModel_init_785 : decode b_TypeFinderModel_init 785 = .ok (.iload_n 1, 1) := by decide +kernel
theorem d_TypeFinderModel_init_786 : decode b_TypeFinderModel_init 786 = .ok (.iconst 5, 1) := by decide +kernel
theorem d_TypeFinderModel_init_787 : decode b_TypeFinderModel_init 787 = .ok (.if_icmp .ne 8, 3) := by decide +kernel
theorem d_TypeFinderModel_init_790 : decode b_TypeFinderModel_init 790 = .ok (.bipush 11, 2) := by decide +kernel
theorem d_TypeFinderModel_init_792 : decode b_TypeFinderModel_init 792 = .ok (.goto 5, 3) := by decide +kernel
theorem d_TypeFinderModel_init_795 : decode b_TypeFinderModel_init 795 = .ok (.bipush 100, 2) := by decide +kernel
theorem d_TypeFinderModel_init_797 : decode b_TypeFinderModel_init 797 = .ok (.iastore, 1) := by decide +kernel
theorem d_TypeFinderModel_init_798 : decode b_TypeFinderModel_init 798 = .ok (.iinc 1 1, 3) := by decide +kernel
theorem d_TypeFinderModel_init_801 : decode b_TypeFinderModel_init 801 = .ok (.goto (-49), 3) := by decide +kernel
theorem d_TypeFinderModel_init_804 : decode b_TypeFinderModel_init 804 = .ok (.return_, 1) := by decide +kernel
theorem d_TypeFinderModel_peek_0 : decode b_TypeFinderModel_peek 0 = .ok (.aload_n 0, 1) := by decide +kernel
theorem d_TypeFinderModel_peek_1 : decode b_TypeFinderModel_peek 1 = .ok (.getfield 13, 3) := by decide +kernel
theorem d_TypeFinderModel_peek_4 : decode b_TypeFinderModel_peek 4 = .ok (.aload_n 0, 1) := by decide +kernel
theorem d_TypeFinderModel_peek_5 : decode b_TypeFinderModel_peek 5 = .ok (.getfield 256, 3) := by decide +kernel
theorem d_TypeFinderModel_peek_8 : decode b_TypeFinderModel_peek 8 = .ok (.iaload, 1) := by decide +kernel
theorem d_TypeFinderModel_peek_9 : decode b_TypeFinderModel_peek 9 = .ok (.ireturn, 1) := by decide +kernel
theorem d_TypeFinderModel_put_0 : decode b_TypeFinderModel_put 0 = .ok (.aload_n 0, 1) := by decide +kernel
theorem d_TypeFinderModel_put_1 : decode b_TypeFinderModel_put 1 = .ok (.getfield 13, 3) := by decide +kernel
theorem d_TypeFinderModel_put_4 : decode b_TypeFinderModel_put 4 = .ok (.aload_n 0, 1) := by decide +kernel
theorem d_TypeFinderModel_put_5 : decode b_TypeFinderModel_put 5 = .ok (.getfield 196, 3) := by decide +kernel
theorem d_TypeFinderModel_put_8 : decode b_TypeFinderModel_put 8 = .ok (.iload_n 1, 1) := by decide +kernel
theorem d_TypeFinderModel_put_9 : decode b_TypeFinderModel_put 9 = .ok (.iastore, 1) := by decide +kernel
theorem d_TypeFinderModel_put_10 : decode b_TypeFinderModel_put 10 = .ok (.aload_n 0, 1) := by decide +kernel
theorem d_TypeFinderModel_put_11 : decode b_TypeFinderModel_put 11 = .ok (.getfield 16, 3) := by decide +kernel
theorem d_TypeFinderModel_put_14 : decode b_TypeFinderModel_put 14 = .ok (.aload_n 0, 1) := by decide +kernel
theorem d_TypeFinderModel_put_15 : decode b_TypeFinderModel_put 15 = .ok (.getfield 196, 3) := by decide +kernel
theorem d_TypeFinderModel_put_18 : decode b_TypeFinderModel_put 18 = .ok (.iload_n 2, 1) := by decide +kernel
theorem d_TypeFinderModel_put_19 : decode b_TypeFinderModel_put 19 = .ok (.iastore, 1) := by decide +kernel
theorem d_TypeFinderModel_put_20 : decode b_TypeFinderModel_put 20 = .ok (.aload_n 0, 1) := by decide +kernel
theorem d_TypeFinderModel_put_21 : decode b_TypeFinderModel_put 21 = .ok (.dup, 1) := by decide +kernel
theorem d_TypeFinderModel_put_22 : decode b_TypeFinderModel_put 22 = .ok (.getfield 196, 3) := by decide +kernel
theorem d_TypeFinderModel_put_25 : decode b_TypeFinderModel_put 25 = .ok (.iconst 1, 1) := by decide +kernel
theorem d_TypeFinderModel_put_26 : decode b_TypeFinderModel_put 26 = .ok (.iadd, 1) := by decide +kernel
theorem d_TypeFinderModel_put_27 : decode b_TypeFinderModel_put 27 = .ok (.putfield 196, 3) := by decide +kernel
theorem d_TypeFinderModel_put_30 : decode b_TypeFinderModel_put 30 = .ok (.return_, 1) := by decide +kernel
theorem d_TypeFinderModel_refuse_0 : decode b_TypeFinderModel_refuse 0 = .ok (.aload_n 0, 1) := by decide +kernel
theorem d_TypeFinderModel_refuse_1 : decode b_TypeFinderModel_refuse 1 = .ok (.dup, 1) := by decide +kernel
theorem d_TypeFinderModel_refuse_2 : decode b_TypeFinderModel_refuse 2 = .ok (.getfield 495, 3) := by decide +kernel
theorem d_TypeFinderModel_refuse_5 : decode b_TypeFinderModel_refuse 5 = .ok (.iconst 1, 1) := by decide +kernel
theorem d_TypeFinderModel_refuse_6 : decode b_TypeFinderModel_refuse 6 = .ok (.iadd, 1) := by decide +kernel
theorem d_TypeFinderModel_refuse_7 : decode b_TypeFinderModel_refuse 7 = .ok (.putfield 495, 3) := by decide +kernel
theorem d_TypeFinderModel_refuse_10 : decode b_TypeFinderModel_refuse 10 = .ok (.aload_n 0, 1) := by decide +kernel
theorem d_TypeFinderModel_refuse_11 : decode b_TypeFinderModel_refuse 11 = .ok (.iload_n 1, 1) := by decide +kernel
theorem d_TypeFinderModel_refuse_12 : decode b_TypeFinderModel_refuse 12 = .ok (.putfield 190, 3) := by decide +kernel
theorem d_TypeFinderModel_refuse_15 : decode b_TypeFinderModel_refuse 15 = .ok (.iconst 0, 1) := by decide +kernel
theorem d_TypeFinderModel_refuse_16 : decode b_TypeFinderModel_refuse 16 = .ok (.ireturn, 1) := by decide +kernel
theorem d_TypeFinderModel_setName_0 : decode b_TypeFinderModel_setName 0 = .ok (.aload_n 0, 1) := by decide +kernel
theorem d_TypeFinderModel_setName_1 : decode b_TypeFinderModel_setName 1 = .ok (.getfield 30, 3) := by decide +kernel
theorem d_TypeFinderModel_setName_4 : decode b_TypeFinderModel_setName 4 = .ok (.iload_n 1, 1) := by decide +kernel
theorem d_TypeFinderModel_setName_5 : decode b_TypeFinderModel_setName 5 = .ok (.iconst (-1), 1) := by decide +kernel
theorem d_TypeFinderModel_setName_6 : decode b_TypeFinderModel_setName 6 = .ok (.iload_n 1, 1) := by decide +kernel
theorem d_TypeFinderModel_setName_7 : decode b_TypeFinderModel_setName 7 = .ok (.isub, 1) := by decide +kernel
theorem d_TypeFinderModel_setName_8 : decode b_TypeFinderModel_setName 8 = .ok (.iastore, 1) := by decide +kernel
theorem d_TypeFinderModel_setName_9 : decode b_TypeFinderModel_setName 9 = .ok (.aload_n 0, 1) := by decide +kernel
theorem d_TypeFinderModel_setName_10 : decode b_TypeFinderModel_setName 10 = .ok (.getfield 33, 3) := by decide +kernel
theorem d_TypeFinderModel_setName_13 : decode b_TypeFinderModel_setName 13 = .ok (.iload_n 1, 1) := by decide +kernel
theorem d_TypeFinderModel_setName_14 : decode b_TypeFinderModel_setName 14 = .ok (.iconst 5, 1) := by decide +kernel
theorem d_TypeFinderModel_setName_15 : decode b_TypeFinderModel_setName 15 = .ok (.iastore, 1) := by decide +kernel
theorem d_TypeFinderModel_setName_16 : decode b_TypeFinderModel_setName 16 = .ok (.aload_n 0, 1) := by decide +kernel
theorem d_TypeFinderModel_setName_17 : decode b_TypeFinderModel_setName 17 = .ok (.getfield 36, 3) := by decide +kernel
theorem d_TypeFinderModel_setName_20 : decode b_TypeFinderModel_setName 20 = .ok (.bipush 24, 2) := by decide +kernel
theorem d_TypeFinderModel_setName_22 : decode b_TypeFinderModel_setName 22 = .ok (.iload_n 1, 1) := by decide +kernel
theorem d_TypeFinderModel_setName_23 : decode b_TypeFinderModel_setName 23 = .ok (.imul, 1) := by decide +kernel
theorem d_TypeFinderModel_setName_24 : decode b_TypeFinderModel_setName 24 = .ok (.iload_n 2, 1) := by decide +kernel
theorem d_TypeFinderModel_setName_25 : decode b_TypeFinderModel_setName 25 = .ok (.iastore, 1) := by decide +kernel
theorem d_TypeFinderModel_setName_26 : decode b_TypeFinderModel_setName 26 = .ok (.aload_n 0, 1) := by decide +kernel
theorem d_TypeFinderModel_setName_27 : decode b_TypeFinderModel_setName 27 = .ok (.getfield 36, 3) := by decide +kernel
theorem d_TypeFinderModel_setName_30 : decode b_TypeFinderModel_setName 30 = .ok (.bipush 24, 2) := by decide +kernel
theorem d_TypeFinderModel_setName_32 : decode b_TypeFinderModel_setName 32 = .ok (.iload_n 1, 1) := by decide +kernel
theorem d_TypeFinderModel_setName_33 : decode b_TypeFinderModel_setName 33 = .ok (.imul, 1) := by decide +kernel
theorem d_TypeFinderModel_setName_34 : decode b_TypeFinderModel_setName 34 = .ok (.iconst 1, 1) := by decide +kernel
theorem d_TypeFinderModel_setName_35 : decode b_TypeFinderModel_setName 35 = .ok (.iadd, 1) := by decide +kernel
theorem d_TypeFinderModel_setName_36 : decode b_TypeFinderModel_setName 36 = .ok (.iload_n 3, 1) := by decide +kernel
theorem d_TypeFinderModel_setName_37 : decode b_TypeFinderModel_setName 37 = .ok (.iastore, 1) := by decide +kernel
theorem d_TypeFinderModel_setName_38 : decode b_TypeFinderModel_setName 38 = .ok (.aload_n 0, 1) := by decide +kernel
theorem d_TypeFinderModel_setName_39 : decode b_TypeFinderModel_setName 39 = .ok (.getfield 36, 3) := by decide +kernel
theorem d_TypeFinderModel_setName_42 : decode b_TypeFinderModel_setName 42 = .ok (.bipush 24, 2) := by decide +kernel
theorem d_TypeFinderModel_setName_44 : decode b_TypeFinderModel_setName 44 = .ok (.iload_n 1, 1) := by decide +kernel
theorem d_TypeFinderModel_setName_45 : decode b_TypeFinderModel_setName 45 = .ok (.imul, 1) := by decide +kernel
theorem d_TypeFinderModel_setName_46 : decode b_TypeFinderModel_setName 46 = .ok (.iconst 2, 1) := by decide +kernel
theorem d_TypeFinderModel_setName_47 : decode b_TypeFinderModel_setName 47 = .ok (.iadd, 1) := by decide +kernel
theorem d_TypeFinderModel_setName_48 : decode b_TypeFinderModel_setName 48 = .ok (.iload 4, 2) := by decide +kernel
theorem d_TypeFinderModel_setName_50 : decode b_TypeFinderModel_setName 50 = .ok (.iastore, 1) := by decide +kernel
end
section
theorem d_TypeFinderModel_setName_51 : decode b_TypeFinderModel_setName 51 = .ok (.aload_n 0, 1) := by decide +kernel
theorem d_TypeFinderModel_setName_52 : decode b_TypeFinderModel_setName 52 = .ok (.getfield 36, 3) := by decide +kernel
theorem d_TypeFinderModel_setName_55 : decode b_TypeFinderModel_setName 55 = .ok (.bipush 24, 2) := by decide +kernel
theorem d_TypeFinderModel_setName_57 : decode b_TypeFinderModel_setName 57 = .ok (.iload_n 1, 1) := by decide +kernel
theorem d_TypeFinderModel_setName_58 : decode b_TypeFinderModel_setName 58 = .ok (.imul, 1) := by decide +kernel
theorem d_TypeFinderModel_setName_59 : decode b_TypeFinderModel_setName 59 = .ok (.iconst 3, 1) := by decide +kernel
theorem d_TypeFinderModel_setName_60 : decode b_TypeFinderModel_setName 60 = .ok (.iadd, 1) := by decide +kernel
theorem d_TypeFinderModel_setName_61 : decode b_TypeFinderModel_setName 61 = .ok (.iload 5, 2) := by decide +kernel
theorem d_TypeFinderModel_setName_63 : decode b_TypeFinderModel_setName 63 = .ok (.iastore, 1) := by decide +kernel
theorem d_TypeFinderModel_setName_64 : decode b_TypeFinderModel_setName 64 = .ok (.aload_n 0, 1) := by decide +kernel
theorem d_TypeFinderModel_setName_65 : decode b_TypeFinderModel_setName 65 = .ok (.getfield 36, 3) := by decide +kernel
theorem d_TypeFinderModel_setName_68 : decode b_TypeFinderModel_setName 68 = .ok (.bipush 24, 2) := by decide +kernel
theorem d_TypeFinderModel_setName_70 : decode b_TypeFinderModel_setName 70 = .ok (.iload_n 1, 1) := by decide +kernel
theorem d_TypeFinderModel_setName_71 : decode b_TypeFinderModel_setName 71 = .ok (.imul, 1) := by decide +kernel
theorem d_TypeFinderModel_setName_72 : decode b_TypeFinderModel_setName 72 = .ok (.iconst 4, 1) := by decide +kernel
theorem d_TypeFinderModel_setName_73 : decode b_TypeFinderModel_setName 73 = .ok (.iadd, 1) := by decide +kernel
theorem d_TypeFinderModel_setName_74 : decode b_TypeFinderModel_setName 74 = .ok (.iload 6, 2) := by decide +kernel
theorem d_TypeFinderModel_setName_76 : decode b_TypeFinderModel_setName 76 = .ok (.iastore, 1) := by decide +kernel
theorem d_TypeFinderModel_setName_77 : decode b_TypeFinderModel_setName 77 = .ok (.return_, 1) := by decide +kernel
theorem d_TypeFinderModel_split_0 : decode b_TypeFinderModel_split 0 = .ok (.aload_n 0, 1) := by decide +kernel
theorem d_TypeFinderModel_split_1 : decode b_TypeFinderModel_split 1 = .ok (.iconst 0, 1) := by decide +kernel
theorem d_TypeFinderModel_split_2 : decode b_TypeFinderModel_split 2 = .ok (.putfield 196, 3) := by decide +kernel
theorem d_TypeFinderModel_split_5 : decode b_TypeFinderModel_split 5 = .ok (.aload_n 0, 1) := by decide +kernel
theorem d_TypeFinderModel_split_6 : decode b_TypeFinderModel_split 6 = .ok (.iconst 0, 1) := by decide +kernel
theorem d_TypeFinderModel_split_7 : decode b_TypeFinderModel_split 7 = .ok (.putfield 230, 3) := by decide +kernel
theorem d_TypeFinderModel_split_10 : decode b_TypeFinderModel_split 10 = .ok (.iconst 0, 1) := by decide +kernel
theorem d_TypeFinderModel_split_11 : decode b_TypeFinderModel_split 11 = .ok (.istore_n 1, 1) := by decide +kernel
theorem d_TypeFinderModel_split_12 : decode b_TypeFinderModel_split 12 = .ok (.iload_n 1, 1) := by decide +kernel
theorem d_TypeFinderModel_split_13 : decode b_TypeFinderModel_split 13 = .ok (.aload_n 0, 1) := by decide +kernel
theorem d_TypeFinderModel_split_14 : decode b_TypeFinderModel_split 14 = .ok (.getfield 193, 3) := by decide +kernel
theorem d_TypeFinderModel_split_17 : decode b_TypeFinderModel_split 17 = .ok (.if_icmp .ge 145, 3) := by decide +kernel
theorem d_TypeFinderModel_split_162 : decode b_TypeFinderModel_split 162 = .ok (.aload_n 0, 1) := by decide +kernel
theorem d_TypeFinderModel_split_163 : decode b_TypeFinderModel_split 163 = .ok (.iconst 0, 1) := by decide +kernel
theorem d_TypeFinderModel_split_164 : decode b_TypeFinderModel_split 164 = .ok (.iconst 0, 1) := by decide +kernel
theorem d_TypeFinderModel_split_165 : decode b_TypeFinderModel_split 165 = .ok (.invokevirtual 237, 3) := by decide +kernel
theorem d_TypeFinderModel_split_168 : decode b_TypeFinderModel_split 168 = .ok (.aload_n 0, 1) := by decide +kernel
theorem d_TypeFinderModel_split_169 : decode b_TypeFinderModel_split 169 = .ok (.iconst 0, 1) := by decide +kernel
theorem d_TypeFinderModel_split_170 : decode b_TypeFinderModel_split 170 = .ok (.putfield 193, 3) := by decide +kernel
theorem d_TypeFinderModel_split_173 : decode b_TypeFinderModel_split 173 = .ok (.aload_n 0, 1) := by decide +kernel
theorem d_TypeFinderModel_split_174 : decode b_TypeFinderModel_split 174 = .ok (.iconst 0, 1) := by decide +kernel
theorem d_TypeFinderModel_split_175 : decode b_TypeFinderModel_split 175 = .ok (.putfield 256, 3) := by decide +kernel
theorem d_TypeFinderModel_split_178 : decode b_TypeFinderModel_split 178 = .ok (.return_, 1) := by decide +kernel
theorem d_TypeFinderModel_within_0 : decode b_TypeFinderModel_within 0 = .ok (.aload_n 0, 1) := by decide +kernel
theorem d_TypeFinderModel_within_1 : decode b_TypeFinderModel_within 1 = .ok (.iload_n 1, 1) := by decide +kernel
theorem d_TypeFinderModel_within_2 : decode b_TypeFinderModel_within 2 = .ok (.bipush 9, 2) := by decide +kernel
theorem d_TypeFinderModel_within_4 : decode b_TypeFinderModel_within 4 = .ok (.if_icmp .ne 7, 3) := by decide +kernel
theorem d_TypeFinderModel_within_7 : decode b_TypeFinderModel_within 7 = .ok (.iconst 1, 1) := by decide +kernel
theorem d_TypeFinderModel_within_8 : decode b_TypeFinderModel_within 8 = .ok (.goto 4, 3) := by decide +kernel
theorem d_TypeFinderModel_within_12 : decode b_TypeFinderModel_within 12 = .ok (.putfield 283, 3) := by decide +kernel
theorem d_TypeFinderModel_within_15 : decode b_TypeFinderModel_within 15 = .ok (.aload_n 0, 1) := by decide +kernel
theorem d_TypeFinderModel_within_16 : decode b_TypeFinderModel_within 16 = .ok (.aload_n 0, 1) := by decide +kernel
theorem d_TypeFinderModel_within_17 : decode b_TypeFinderModel_within 17 = .ok (.getfield 84, 3) := by decide +kernel
theorem d_TypeFinderModel_within_20 : decode b_TypeFinderModel_within 20 = .ok (.aload_n 0, 1) := by decide +kernel
theorem d_TypeFinderModel_within_21 : decode b_TypeFinderModel_within 21 = .ok (.getfield 274, 3) := by decide +kernel
theorem d_TypeFinderModel_within_24 : decode b_TypeFinderModel_within 24 = .ok (.iconst 1, 1) := by decide +kernel
theorem d_TypeFinderModel_within_25 : decode b_TypeFinderModel_within 25 = .ok (.isub, 1) := by decide +kernel
theorem d_TypeFinderModel_within_26 : decode b_TypeFinderModel_within 26 = .ok (.iaload, 1) := by decide +kernel
theorem d_TypeFinderModel_within_27 : decode b_TypeFinderModel_within 27 = .ok (.iload_n 1, 1) := by decide +kernel
theorem d_TypeFinderModel_within_28 : decode b_TypeFinderModel_within 28 = .ok (.bipush 9, 2) := by decide +kernel
theorem d_TypeFinderModel_within_30 : decode b_TypeFinderModel_within 30 = .ok (.if_icmp .ne 7, 3) := by decide +kernel
theorem d_TypeFinderModel_within_33 : decode b_TypeFinderModel_within 33 = .ok (.iconst 0, 1) := by decide +kernel
theorem d_TypeFinderModel_within_34 : decode b_TypeFinderModel_within 34 = .ok (.goto 4, 3) := by decide +kernel
theorem d_TypeFinderModel_within_38 : decode b_TypeFinderModel_within 38 = .ok (.iadd, 1) := by decide +kernel
theorem d_TypeFinderModel_within_39 : decode b_TypeFinderModel_within 39 = .ok (.putfield 277, 3) := by decide +kernel
theorem d_TypeFinderModel_within_42 : decode b_TypeFinderModel_within 42 = .ok (.return_, 1) := by decide +kernel
theorem d_TypeFinderModel_wordOf_0 : decode b_TypeFinderModel_wordOf 0 = .ok (.iconst 0, 1) := by decide +kernel
theorem d_TypeFinderModel_wordOf_1 : decode b_TypeFinderModel_wordOf 1 = .ok (.istore_n 2, 1) := by decide +kernel
theorem d_TypeFinderModel_wordOf_2 : decode b_TypeFinderModel_wordOf 2 = .ok (.iconst 0, 1) := by decide +kernel
theorem d_TypeFinderModel_wordOf_3 : decode b_TypeFinderModel_wordOf 3 = .ok (.istore_n 3, 1) := by decide +kernel
theorem d_TypeFinderModel_wordOf_4 : decode b_TypeFinderModel_wordOf 4 = .ok (.iload_n 3, 1) := by decide +kernel
theorem d_TypeFinderModel_wordOf_5 : decode b_TypeFinderModel_wordOf 5 = .ok (.bipush 6, 2) := by decide +kernel
theorem d_TypeFinderModel_wordOf_7 : decode b_TypeFinderModel_wordOf 7 = .ok (.if_icmp .ge 41, 3) := by decide +kernel
theorem d_TypeFinderModel_wordOf_10 : decode b_TypeFinderModel_wordOf 10 = .ok (.lload_n 0, 1) := by decide +kernel
theorem d_TypeFinderModel_wordOf_11 : decode b_TypeFinderModel_wordOf 11 = .ok (.bipush 8, 2) := by decide +kernel
theorem d_TypeFinderModel_wordOf_13 : decode b_TypeFinderModel_wordOf 13 = .ok (.iload_n 3, 1) := by decide +kernel
theorem d_TypeFinderModel_wordOf_14 : decode b_TypeFinderModel_wordOf 14 = .ok (.imul, 1) := by decide +kernel
theorem d_TypeFinderModel_wordOf_15 : decode b_TypeFinderModel_wordOf 15 = .ok (.lushr, 1) := by decide +kernel
theorem d_TypeFinderModel_wordOf_16 : decode b_TypeFinderModel_wordOf 16 = .ok (.ldc2_w 186, 3) := by decide +kernel
theorem d_TypeFinderModel_wordOf_19 : decode b_TypeFinderModel_wordOf 19 = .ok (.land, 1) := by decide +kernel
theorem d_TypeFinderModel_wordOf_20 : decode b_TypeFinderModel_wordOf 20 = .ok (.lconst 0, 1) := by decide +kernel
theorem d_TypeFinderModel_wordOf_21 : decode b_TypeFinderModel_wordOf 21 = .ok (.lcmp, 1) := by decide +kernel
theorem d_TypeFinderModel_wordOf_22 : decode b_TypeFinderModel_wordOf 22 = .ok (.ifCond .eq 26, 3) := by decide +kernel
theorem d_TypeFinderModel_wordOf_25 : decode b_TypeFinderModel_wordOf 25 = .ok (.bipush 27, 2) := by decide +kernel
theorem d_TypeFinderModel_wordOf_27 : decode b_TypeFinderModel_wordOf 27 = .ok (.iload_n 2, 1) := by decide +kernel
theorem d_TypeFinderModel_wordOf_28 : decode b_TypeFinderModel_wordOf 28 = .ok (.imul, 1) := by decide +kernel
theorem d_TypeFinderModel_wordOf_29 : decode b_TypeFinderModel_wordOf 29 = .ok (.lload_n 0, 1) := by decide +kernel
theorem d_TypeFinderModel_wordOf_30 : decode b_TypeFinderModel_wordOf 30 = .ok (.bipush 8, 2) := by decide +kernel
theorem d_TypeFinderModel_wordOf_32 : decode b_TypeFinderModel_wordOf 32 = .ok (.iload_n 3, 1) := by decide +kernel
theorem d_TypeFinderModel_wordOf_33 : decode b_TypeFinderModel_wordOf 33 = .ok (.imul, 1) := by decide +kernel
theorem d_TypeFinderModel_wordOf_34 : decode b_TypeFinderModel_wordOf 34 = .ok (.lushr, 1) := by decide +kernel
theorem d_TypeFinderModel_wordOf_35 : decode b_TypeFinderModel_wordOf 35 = .ok (.ldc2_w 188, 3) := by decide +kernel
theorem d_TypeFinderModel_wordOf_38 : decode b_TypeFinderModel_wordOf 38 = .ok (.land, 1) := by decide +kernel
theorem d_TypeFinderModel_wordOf_39 : decode b_TypeFinderModel_wordOf 39 = .ok (.l2i, 1) := by decide +kernel
theorem d_TypeFinderModel_wordOf_40 : decode b_TypeFinderModel_wordOf 40 = .ok (.iadd, 1) := by decide +kernel
theorem d_TypeFinderModel_wordOf_41 : decode b_TypeFinderModel_wordOf 41 = .ok (.istore_n 2, 1) := by decide +kernel
theorem d_TypeFinderModel_wordOf_42 : decode b_TypeFinderModel_wordOf 42 = .ok (.iinc 3 1, 3) := by decide +kernel
theorem d_TypeFinderModel_wordOf_45 : decode b_TypeFinderModel_wordOf 45 = .ok (.goto (-41), 3) := by decide +kernel
theorem d_TypeFinderModel_wordOf_48 : decode b_TypeFinderModel_wordOf 48 = .ok (.iload_n 2, 1) := by decide +kernel
theorem d_TypeFinderModel_wordOf_49 : decode b_TypeFinderModel_wordOf 49 = .ok (.ireturn, 1) := by decide +kernel
theorem d_TypeFinder_Checker_init_0 : decode b_TypeFinder_Checker_init 0 = .ok (.aload_n 0, 1) := by decide +kernel
theorem d_TypeFinder_Checker_init_1 : decode b_TypeFinder_Checker_init 1 = .ok (.invokespecial 3, 3) := by decide +kernel
theorem d_TypeFinder_Checker_init_4 : decode b_TypeFinder_Checker_init 4 = .ok (.aload_n 0, 1) := by decide +kernel
theorem d_TypeFinder_Checker_init_5 : decode b_TypeFinder_Checker_init 5 = .ok (.new 9, 3) := by decide +kernel
theorem d_TypeFinder_Checker_init_8 : decode b_TypeFinder_Checker_init 8 = .ok (.dup, 1) := by decide +kernel
theorem d_TypeFinder_Checker_init_9 : decode b_TypeFinder_Checker_init 9 = .ok (.invokespecial 11, 3) := by decide +kernel
theorem d_TypeFinder_Checker_init_12 : decode b_TypeFinder_Checker_init 12 = .ok (.putfield 12, 3) := by decide +kernel
theorem d_TypeFinder_Checker_init_15 : decode b_TypeFinder_Checker_init 15 = .ok (.aload_n 0, 1) := by decide +kernel
theorem d_TypeFinder_Checker_init_16 : decode b_TypeFinder_Checker_init 16 = .ok (.new 18, 3) := by decide +kernel
theorem d_TypeFinder_Checker_init_19 : decode b_TypeFinder_Checker_init 19 = .ok (.dup, 1) := by decide +kernel
theorem d_TypeFinder_Checker_init_20 : decode b_TypeFinder_Checker_init 20 = .ok (.invokespecial 20, 3) := by decide +kernel
theorem d_TypeFinder_Checker_init_23 : decode b_TypeFinder_Checker_init 23 = .ok (.putfield 21, 3) := by decide +kernel
theorem d_TypeFinder_Checker_init_26 : decode b_TypeFinder_Checker_init 26 = .ok (.aload_n 0, 1) := by decide +kernel
theorem d_TypeFinder_Checker_init_27 : decode b_TypeFinder_Checker_init 27 = .ok (.new 18, 3) := by decide +kernel
theorem d_TypeFinder_Checker_init_30 : decode b_TypeFinder_Checker_init 30 = .ok (.dup, 1) := by decide +kernel
theorem d_TypeFinder_Checker_init_31 : decode b_TypeFinder_Checker_init 31 = .ok (.invokespecial 20, 3) := by decide +kernel
theorem d_TypeFinder_Checker_init_34 : decode b_TypeFinder_Checker_init 34 = .ok (.putfield 25, 3) := by decide +kernel
theorem d_TypeFinder_Checker_init_37 : decode b_TypeFinder_Checker_init 37 = .ok (.aload_n 0, 1) := by decide +kernel
theorem d_TypeFinder_Checker_init_38 : decode b_TypeFinder_Checker_init 38 = .ok (.aload_n 1, 1) := by decide +kernel
theorem d_TypeFinder_Checker_init_39 : decode b_TypeFinder_Checker_init 39 = .ok (.putfield 28, 3) := by decide +kernel
theorem d_TypeFinder_Checker_init_42 : decode b_TypeFinder_Checker_init 42 = .ok (.return_, 1) := by decide +kernel
theorem d_TypeFinder_DataParser_init_0 : decode b_TypeFinder_DataParser_init 0 = .ok (.aload_n 0, 1) := by decide +kernel
theorem d_TypeFinder_DataParser_init_1 : decode b_TypeFinder_DataParser_init 1 = .ok (.invokespecial 3, 3) := by decide +kernel
theorem d_TypeFinder_DataParser_init_4 : decode b_TypeFinder_DataParser_init 4 = .ok (.aload_n 0, 1) := by decide +kernel
theorem d_TypeFinder_DataParser_init_5 : decode b_TypeFinder_DataParser_init 5 = .ok (.aload_n 1, 1) := by decide +kernel
theorem d_TypeFinder_DataParser_init_6 : decode b_TypeFinder_DataParser_init 6 = .ok (.putfield 9, 3) := by decide +kernel
theorem d_TypeFinder_DataParser_init_9 : decode b_TypeFinder_DataParser_init 9 = .ok (.return_, 1) := by decide +kernel
theorem d_TypeFinder_DataType_init_0 : decode b_TypeFinder_DataType_init 0 = .ok (.aload_n 0, 1) := by decide +kernel
theorem d_TypeFinder_DataType_init_1 : decode b_TypeFinder_DataType_init 1 = .ok (.invokespecial 1, 3) := by decide +kernel
theorem d_TypeFinder_DataType_init_4 : decode b_TypeFinder_DataType_init 4 = .ok (.aload_n 0, 1) := by decide +kernel
theorem d_TypeFinder_DataType_init_5 : decode b_TypeFinder_DataType_init 5 = .ok (.new 7, 3) := by decide +kernel
theorem d_TypeFinder_DataType_init_8 : decode b_TypeFinder_DataType_init 8 = .ok (.dup, 1) := by decide +kernel
theorem d_TypeFinder_DataType_init_9 : decode b_TypeFinder_DataType_init 9 = .ok (.invokespecial 9, 3) := by decide +kernel
theorem d_TypeFinder_DataType_init_12 : decode b_TypeFinder_DataType_init 12 = .ok (.putfield 10, 3) := by decide +kernel
theorem d_TypeFinder_DataType_init_15 : decode b_TypeFinder_DataType_init 15 = .ok (.aload_n 0, 1) := by decide +kernel
theorem d_TypeFinder_DataType_init_16 : decode b_TypeFinder_DataType_init 16 = .ok (.iconst 1, 1) := by decide +kernel
theorem d_TypeFinder_DataType_init_17 : decode b_TypeFinder_DataType_init 17 = .ok (.putfield 16, 3) := by decide +kernel
theorem d_TypeFinder_DataType_init_20 : decode b_TypeFinder_DataType_init 20 = .ok (.aload_n 0, 1) := by decide +kernel
theorem d_TypeFinder_DataType_init_21 : decode b_TypeFinder_DataType_init 21 = .ok (.lload_n 1, 1) := by decide +kernel
theorem d_TypeFinder_DataType_init_22 : decode b_TypeFinder_DataType_init 22 = .ok (.putfield 20, 3) := by decide +kernel
theorem d_TypeFinder_DataType_init_25 : decode b_TypeFinder_DataType_init 25 = .ok (.aload_n 0, 1) := by decide +kernel
theorem d_TypeFinder_DataType_init_26 : decode b_TypeFinder_DataType_init 26 = .ok (.iload_n 3, 1) := by decide +kernel
theorem d_TypeFinder_DataType_init_27 : decode b_TypeFinder_DataType_init 27 = .ok (.putfield 24, 3) := by decide +kernel
theorem d_TypeFinder_DataType_init_30 : decode b_TypeFinder_DataType_init 30 = .ok (.return_, 1) := by decide +kernel
theorem d_TypeFinder_DataType_made_0 : decode b_TypeFinder_DataType_made 0 = .ok (.new 11, 3) := by decide +kernel
theorem d_TypeFinder_DataType_made_3 : decode b_TypeFinder_DataType_made 3 = .ok (.dup, 1) := by decide +kernel
theorem d_TypeFinder_DataType_made_4 : decode b_TypeFinder_DataType_made 4 = .ok (.lload_n 0, 1) := by decide +kernel
theorem d_TypeFinder_DataType_made_5 : decode b_TypeFinder_DataType_made 5 = .ok (.iload_n 2, 1) := by decide +kernel
theorem d_TypeFinder_DataType_made_6 : decode b_TypeFinder_DataType_made 6 = .ok (.invokespecial 28, 3) := by decide +kernel
theorem d_TypeFinder_DataType_made_9 : decode b_TypeFinder_DataType_made 9 = .ok (.astore_n 3, 1) := by decide +kernel
theorem d_TypeFinder_DataType_made_10 : decode b_TypeFinder_DataType_made 10 = .ok (.iload_n 2, 1) := by decide +kernel
end
section
theorem d_TypeFinder_DataType_made_11 : decode b_TypeFinder_DataType_made 11 = .ok (.ifCond .le 17, 3) := by decide +kernel
theorem d_TypeFinder_DataType_made_14 : decode b_TypeFinder_DataType_made 14 = .ok (.new 31, 3) := by decide +kernel
theorem d_TypeFinder_DataType_made_17 : decode b_TypeFinder_DataType_made 17 = .ok (.dup, 1) := by decide +kernel
theorem d_TypeFinder_DataType_made_18 : decode b_TypeFinder_DataType_made 18 = .ok (.iconst 5, 1) := by decide +kernel
theorem d_TypeFinder_DataType_made_19 : decode b_TypeFinder_DataType_made 19 = .ok (.aconst_null, 1) := by decide +kernel
theorem d_TypeFinder_DataType_made_20 : decode b_TypeFinder_DataType_made 20 = .ok (.aconst_null, 1) := by decide +kernel
theorem d_TypeFinder_DataType_made_21 : decode b_TypeFinder_DataType_made 21 = .ok (.aconst_null, 1) := by decide +kernel
theorem d_TypeFinder_DataType_made_22 : decode b_TypeFinder_DataType_made 22 = .ok (.invokespecial 33, 3) := by decide +kernel
theorem d_TypeFinder_DataType_made_25 : decode b_TypeFinder_DataType_made 25 = .ok (.goto 4, 3) := by decide +kernel
theorem d_TypeFinder_DataType_made_28 : decode b_TypeFinder_DataType_made 28 = .ok (.aconst_null, 1) := by decide +kernel
theorem d_TypeFinder_DataType_made_29 : decode b_TypeFinder_DataType_made 29 = .ok (.astore 4, 2) := by decide +kernel
theorem d_TypeFinder_DataType_made_31 : decode b_TypeFinder_DataType_made 31 = .ok (.iload_n 2, 1) := by decide +kernel
theorem d_TypeFinder_DataType_made_32 : decode b_TypeFinder_DataType_made 32 = .ok (.iconst 1, 1) := by decide +kernel
theorem d_TypeFinder_DataType_made_33 : decode b_TypeFinder_DataType_made 33 = .ok (.if_icmp .le 17, 3) := by decide +kernel
theorem d_TypeFinder_DataType_made_50 : decode b_TypeFinder_DataType_made 50 = .ok (.aconst_null, 1) := by decide +kernel
theorem d_TypeFinder_DataType_made_51 : decode b_TypeFinder_DataType_made 51 = .ok (.astore 5, 2) := by decide +kernel
theorem d_TypeFinder_DataType_made_53 : decode b_TypeFinder_DataType_made 53 = .ok (.aload_n 3, 1) := by decide +kernel
theorem d_TypeFinder_DataType_made_54 : decode b_TypeFinder_DataType_made 54 = .ok (.new 31, 3) := by decide +kernel
theorem d_TypeFinder_DataType_made_57 : decode b_TypeFinder_DataType_made 57 = .ok (.dup, 1) := by decide +kernel
theorem d_TypeFinder_DataType_made_58 : decode b_TypeFinder_DataType_made 58 = .ok (.iconst 3, 1) := by decide +kernel
theorem d_TypeFinder_DataType_made_59 : decode b_TypeFinder_DataType_made 59 = .ok (.aload_n 3, 1) := by decide +kernel
theorem d_TypeFinder_DataType_made_60 : decode b_TypeFinder_DataType_made 60 = .ok (.aload 4, 2) := by decide +kernel
theorem d_TypeFinder_DataType_made_62 : decode b_TypeFinder_DataType_made 62 = .ok (.aload 5, 2) := by decide +kernel
theorem d_TypeFinder_DataType_made_64 : decode b_TypeFinder_DataType_made 64 = .ok (.invokespecial 33, 3) := by decide +kernel
theorem d_TypeFinder_DataType_made_67 : decode b_TypeFinder_DataType_made 67 = .ok (.putfield 36, 3) := by decide +kernel
theorem d_TypeFinder_DataType_made_70 : decode b_TypeFinder_DataType_made 70 = .ok (.aload_n 3, 1) := by decide +kernel
theorem d_TypeFinder_DataType_made_71 : decode b_TypeFinder_DataType_made 71 = .ok (.areturn, 1) := by decide +kernel
theorem d_TypeFinder_Known_init_0 : decode b_TypeFinder_Known_init 0 = .ok (.aload_n 0, 1) := by decide +kernel
theorem d_TypeFinder_Known_init_1 : decode b_TypeFinder_Known_init 1 = .ok (.invokespecial 3, 3) := by decide +kernel
theorem d_TypeFinder_Known_init_4 : decode b_TypeFinder_Known_init 4 = .ok (.aload_n 0, 1) := by decide +kernel
theorem d_TypeFinder_Known_init_5 : decode b_TypeFinder_Known_init 5 = .ok (.new 9, 3) := by decide +kernel
theorem d_TypeFinder_Known_init_8 : decode b_TypeFinder_Known_init 8 = .ok (.dup, 1) := by decide +kernel
theorem d_TypeFinder_Known_init_9 : decode b_TypeFinder_Known_init 9 = .ok (.iconst 0, 1) := by decide +kernel
theorem d_TypeFinder_Known_init_10 : decode b_TypeFinder_Known_init 10 = .ok (.aconst_null, 1) := by decide +kernel
theorem d_TypeFinder_Known_init_11 : decode b_TypeFinder_Known_init 11 = .ok (.aconst_null, 1) := by decide +kernel
theorem d_TypeFinder_Known_init_12 : decode b_TypeFinder_Known_init 12 = .ok (.aconst_null, 1) := by decide +kernel
theorem d_TypeFinder_Known_init_13 : decode b_TypeFinder_Known_init 13 = .ok (.invokespecial 11, 3) := by decide +kernel
theorem d_TypeFinder_Known_init_16 : decode b_TypeFinder_Known_init 16 = .ok (.putfield 14, 3) := by decide +kernel
theorem d_TypeFinder_Known_init_19 : decode b_TypeFinder_Known_init 19 = .ok (.aload_n 0, 1) := by decide +kernel
theorem d_TypeFinder_Known_init_20 : decode b_TypeFinder_Known_init 20 = .ok (.new 20, 3) := by decide +kernel
theorem d_TypeFinder_Known_init_23 : decode b_TypeFinder_Known_init 23 = .ok (.dup, 1) := by decide +kernel
theorem d_TypeFinder_Known_init_24 : decode b_TypeFinder_Known_init 24 = .ok (.invokespecial 22, 3) := by decide +kernel
theorem d_TypeFinder_Known_init_27 : decode b_TypeFinder_Known_init 27 = .ok (.putfield 23, 3) := by decide +kernel
theorem d_TypeFinder_Known_init_30 : decode b_TypeFinder_Known_init 30 = .ok (.aload_n 0, 1) := by decide +kernel
theorem d_TypeFinder_Known_init_31 : decode b_TypeFinder_Known_init 31 = .ok (.new 20, 3) := by decide +kernel
theorem d_TypeFinder_Known_init_34 : decode b_TypeFinder_Known_init 34 = .ok (.dup, 1) := by decide +kernel
theorem d_TypeFinder_Known_init_35 : decode b_TypeFinder_Known_init 35 = .ok (.invokespecial 22, 3) := by decide +kernel
theorem d_TypeFinder_Known_init_38 : decode b_TypeFinder_Known_init 38 = .ok (.putfield 27, 3) := by decide +kernel
theorem d_TypeFinder_Known_init_41 : decode b_TypeFinder_Known_init 41 = .ok (.ldc 30, 2) := by decide +kernel
theorem d_TypeFinder_Known_init_43 : decode b_TypeFinder_Known_init 43 = .ok (.invokestatic 32, 3) := by decide +kernel
theorem d_TypeFinder_Known_init_46 : decode b_TypeFinder_Known_init 46 = .ok (.iconst 0, 1) := by decide +kernel
theorem d_TypeFinder_Known_init_47 : decode b_TypeFinder_Known_init 47 = .ok (.invokestatic 38, 3) := by decide +kernel
theorem d_TypeFinder_Known_init_50 : decode b_TypeFinder_Known_init 50 = .ok (.astore_n 1, 1) := by decide +kernel
theorem d_TypeFinder_Known_init_51 : decode b_TypeFinder_Known_init 51 = .ok (.aload_n 0, 1) := by decide +kernel
theorem d_TypeFinder_Known_init_52 : decode b_TypeFinder_Known_init 52 = .ok (.aload_n 1, 1) := by decide +kernel
theorem d_TypeFinder_Known_init_53 : decode b_TypeFinder_Known_init 53 = .ok (.getfield 44, 3) := by decide +kernel
theorem d_TypeFinder_Known_init_56 : decode b_TypeFinder_Known_init 56 = .ok (.putfield 47, 3) := by decide +kernel
theorem d_TypeFinder_Known_init_59 : decode b_TypeFinder_Known_init 59 = .ok (.aload_n 1, 1) := by decide +kernel
theorem d_TypeFinder_Known_init_60 : decode b_TypeFinder_Known_init 60 = .ok (.getfield 50, 3) := by decide +kernel
theorem d_TypeFinder_Known_init_63 : decode b_TypeFinder_Known_init 63 = .ok (.new 53, 3) := by decide +kernel
theorem d_TypeFinder_Known_init_66 : decode b_TypeFinder_Known_init 66 = .ok (.dup, 1) := by decide +kernel
theorem d_TypeFinder_Known_init_67 : decode b_TypeFinder_Known_init 67 = .ok (.ldc 55, 2) := by decide +kernel
theorem d_TypeFinder_Known_init_69 : decode b_TypeFinder_Known_init 69 = .ok (.invokestatic 32, 3) := by decide +kernel
theorem d_TypeFinder_Known_init_72 : decode b_TypeFinder_Known_init 72 = .ok (.aload_n 0, 1) := by decide +kernel
theorem d_TypeFinder_Known_init_73 : decode b_TypeFinder_Known_init 73 = .ok (.getfield 47, 3) := by decide +kernel
theorem d_TypeFinder_Known_init_76 : decode b_TypeFinder_Known_init 76 = .ok (.iconst 1, 1) := by decide +kernel
theorem d_TypeFinder_Known_init_77 : decode b_TypeFinder_Known_init 77 = .ok (.invokespecial 57, 3) := by decide +kernel
theorem d_TypeFinder_Known_init_80 : decode b_TypeFinder_Known_init 80 = .ok (.invokevirtual 60, 3) := by decide +kernel
theorem d_TypeFinder_Known_init_83 : decode b_TypeFinder_Known_init 83 = .ok (.pop, 1) := by decide +kernel
theorem d_TypeFinder_Known_init_84 : decode b_TypeFinder_Known_init 84 = .ok (.aload_n 1, 1) := by decide +kernel
theorem d_TypeFinder_Known_init_85 : decode b_TypeFinder_Known_init 85 = .ok (.getfield 50, 3) := by decide +kernel
theorem d_TypeFinder_Known_init_88 : decode b_TypeFinder_Known_init 88 = .ok (.new 53, 3) := by decide +kernel
theorem d_TypeFinder_Known_init_91 : decode b_TypeFinder_Known_init 91 = .ok (.dup, 1) := by decide +kernel
theorem d_TypeFinder_Known_init_92 : decode b_TypeFinder_Known_init 92 = .ok (.ldc 64, 2) := by decide +kernel
theorem d_TypeFinder_Known_init_94 : decode b_TypeFinder_Known_init 94 = .ok (.invokestatic 32, 3) := by decide +kernel
theorem d_TypeFinder_Known_init_97 : decode b_TypeFinder_Known_init 97 = .ok (.aload_n 0, 1) := by decide +kernel
theorem d_TypeFinder_Known_init_98 : decode b_TypeFinder_Known_init 98 = .ok (.getfield 47, 3) := by decide +kernel
theorem d_TypeFinder_Known_init_101 : decode b_TypeFinder_Known_init 101 = .ok (.iconst 1, 1) := by decide +kernel
theorem d_TypeFinder_Known_init_102 : decode b_TypeFinder_Known_init 102 = .ok (.invokespecial 57, 3) := by decide +kernel
theorem d_TypeFinder_Known_init_105 : decode b_TypeFinder_Known_init 105 = .ok (.invokevirtual 60, 3) := by decide +kernel
theorem d_TypeFinder_Known_init_108 : decode b_TypeFinder_Known_init 108 = .ok (.pop, 1) := by decide +kernel
theorem d_TypeFinder_Known_init_109 : decode b_TypeFinder_Known_init 109 = .ok (.aload_n 0, 1) := by decide +kernel
theorem d_TypeFinder_Known_init_110 : decode b_TypeFinder_Known_init 110 = .ok (.getfield 23, 3) := by decide +kernel
theorem d_TypeFinder_Known_init_113 : decode b_TypeFinder_Known_init 113 = .ok (.aload_n 1, 1) := by decide +kernel
theorem d_TypeFinder_Known_init_114 : decode b_TypeFinder_Known_init 114 = .ok (.invokevirtual 60, 3) := by decide +kernel
theorem d_TypeFinder_Known_init_117 : decode b_TypeFinder_Known_init 117 = .ok (.pop, 1) := by decide +kernel
theorem d_TypeFinder_Known_init_118 : decode b_TypeFinder_Known_init 118 = .ok (.ldc 66, 2) := by decide +kernel
theorem d_TypeFinder_Known_init_120 : decode b_TypeFinder_Known_init 120 = .ok (.invokestatic 32, 3) := by decide +kernel
theorem d_TypeFinder_Known_init_123 : decode b_TypeFinder_Known_init 123 = .ok (.iconst 1, 1) := by decide +kernel
theorem d_TypeFinder_Known_init_124 : decode b_TypeFinder_Known_init 124 = .ok (.invokestatic 38, 3) := by decide +kernel
theorem d_TypeFinder_Known_init_127 : decode b_TypeFinder_Known_init 127 = .ok (.astore_n 2, 1) := by decide +kernel
theorem d_TypeFinder_Known_init_128 : decode b_TypeFinder_Known_init 128 = .ok (.aload_n 2, 1) := by decide +kernel
theorem d_TypeFinder_Known_init_129 : decode b_TypeFinder_Known_init 129 = .ok (.getfield 44, 3) := by decide +kernel
theorem d_TypeFinder_Known_init_132 : decode b_TypeFinder_Known_init 132 = .ok (.getfield 68, 3) := by decide +kernel
theorem d_TypeFinder_Known_init_135 : decode b_TypeFinder_Known_init 135 = .ok (.aload_n 2, 1) := by decide +kernel
theorem d_TypeFinder_Known_init_136 : decode b_TypeFinder_Known_init 136 = .ok (.getfield 44, 3) := by decide +kernel
theorem d_TypeFinder_Known_init_139 : decode b_TypeFinder_Known_init 139 = .ok (.aload_n 2, 1) := by decide +kernel
theorem d_TypeFinder_Known_init_140 : decode b_TypeFinder_Known_init 140 = .ok (.getfield 44, 3) := by decide +kernel
theorem d_TypeFinder_Known_init_143 : decode b_TypeFinder_Known_init 143 = .ok (.invokestatic 71, 3) := by decide +kernel
theorem d_TypeFinder_Known_init_146 : decode b_TypeFinder_Known_init 146 = .ok (.invokestatic 71, 3) := by decide +kernel
theorem d_TypeFinder_Known_init_149 : decode b_TypeFinder_Known_init 149 = .ok (.astore_n 3, 1) := by decide +kernel
theorem d_TypeFinder_Known_init_150 : decode b_TypeFinder_Known_init 150 = .ok (.aload_n 2, 1) := by decide +kernel
theorem d_TypeFinder_Known_init_151 : decode b_TypeFinder_Known_init 151 = .ok (.getfield 50, 3) := by decide +kernel
theorem d_TypeFinder_Known_init_154 : decode b_TypeFinder_Known_init 154 = .ok (.new 53, 3) := by decide +kernel
theorem d_TypeFinder_Known_init_157 : decode b_TypeFinder_Known_init 157 = .ok (.dup, 1) := by decide +kernel
theorem d_TypeFinder_Known_init_158 : decode b_TypeFinder_Known_init 158 = .ok (.ldc 77, 2) := by decide +kernel
theorem d_TypeFinder_Known_init_160 : decode b_TypeFinder_Known_init 160 = .ok (.invokestatic 32, 3) := by decide +kernel
theorem d_TypeFinder_Known_init_163 : decode b_TypeFinder_Known_init 163 = .ok (.aload_n 2, 1) := by decide +kernel
theorem d_TypeFinder_Known_init_164 : decode b_TypeFinder_Known_init 164 = .ok (.getfield 44, 3) := by decide +kernel
theorem d_TypeFinder_Known_init_167 : decode b_TypeFinder_Known_init 167 = .ok (.iconst 1, 1) := by decide +kernel
theorem d_TypeFinder_Known_init_168 : decode b_TypeFinder_Known_init 168 = .ok (.invokespecial 57, 3) := by decide +kernel
theorem d_TypeFinder_Known_init_171 : decode b_TypeFinder_Known_init 171 = .ok (.invokevirtual 60, 3) := by decide +kernel
theorem d_TypeFinder_Known_init_174 : decode b_TypeFinder_Known_init 174 = .ok (.pop, 1) := by decide +kernel
theorem d_TypeFinder_Known_init_175 : decode b_TypeFinder_Known_init 175 = .ok (.aload_n 2, 1) := by decide +kernel
theorem d_TypeFinder_Known_init_176 : decode b_TypeFinder_Known_init 176 = .ok (.getfield 50, 3) := by decide +kernel
theorem d_TypeFinder_Known_init_179 : decode b_TypeFinder_Known_init 179 = .ok (.new 53, 3) := by decide +kernel
theorem d_TypeFinder_Known_init_182 : decode b_TypeFinder_Known_init 182 = .ok (.dup, 1) := by decide +kernel
theorem d_TypeFinder_Known_init_183 : decode b_TypeFinder_Known_init 183 = .ok (.ldc2_w 79, 3) := by decide +kernel
theorem d_TypeFinder_Known_init_186 : decode b_TypeFinder_Known_init 186 = .ok (.aload_n 3, 1) := by decide +kernel
theorem d_TypeFinder_Known_init_187 : decode b_TypeFinder_Known_init 187 = .ok (.iconst 1, 1) := by decide +kernel
theorem d_TypeFinder_Known_init_188 : decode b_TypeFinder_Known_init 188 = .ok (.invokespecial 57, 3) := by decide +kernel
theorem d_TypeFinder_Known_init_191 : decode b_TypeFinder_Known_init 191 = .ok (.invokevirtual 60, 3) := by decide +kernel
theorem d_TypeFinder_Known_init_194 : decode b_TypeFinder_Known_init 194 = .ok (.pop, 1) := by decide +kernel
theorem d_TypeFinder_Known_init_195 : decode b_TypeFinder_Known_init 195 = .ok (.aload_n 0, 1) := by decide +kernel
theorem d_TypeFinder_Known_init_196 : decode b_TypeFinder_Known_init 196 = .ok (.getfield 23, 3) := by decide +kernel
theorem d_TypeFinder_Known_init_199 : decode b_TypeFinder_Known_init 199 = .ok (.aload_n 2, 1) := by decide +kernel
theorem d_TypeFinder_Known_init_200 : decode b_TypeFinder_Known_init 200 = .ok (.invokevirtual 60, 3) := by decide +kernel
theorem d_TypeFinder_Known_init_203 : decode b_TypeFinder_Known_init 203 = .ok (.pop, 1) := by decide +kernel
theorem d_TypeFinder_Known_init_204 : decode b_TypeFinder_Known_init 204 = .ok (.aload_n 0, 1) := by decide +kernel
theorem d_TypeFinder_Known_init_205 : decode b_TypeFinder_Known_init 205 = .ok (.getfield 14, 3) := by decide +kernel
theorem d_TypeFinder_Known_init_208 : decode b_TypeFinder_Known_init 208 = .ok (.aload_n 0, 1) := by decide +kernel
theorem d_TypeFinder_Known_init_209 : decode b_TypeFinder_Known_init 209 = .ok (.getfield 14, 3) := by decide +kernel
theorem d_TypeFinder_Known_init_212 : decode b_TypeFinder_Known_init 212 = .ok (.aload_n 0, 1) := by decide +kernel
theorem d_TypeFinder_Known_init_213 : decode b_TypeFinder_Known_init 213 = .ok (.getfield 14, 3) := by decide +kernel
theorem d_TypeFinder_Known_init_216 : decode b_TypeFinder_Known_init 216 = .ok (.invokestatic 71, 3) := by decide +kernel
theorem d_TypeFinder_Known_init_219 : decode b_TypeFinder_Known_init 219 = .ok (.invokestatic 71, 3) := by decide +kernel
theorem d_TypeFinder_Known_init_222 : decode b_TypeFinder_Known_init 222 = .ok (.astore 4, 2) := by decide +kernel
theorem d_TypeFinder_Known_init_224 : decode b_TypeFinder_Known_init 224 = .ok (.aload_n 0, 1) := by decide +kernel
theorem d_TypeFinder_Known_init_225 : decode b_TypeFinder_Known_init 225 = .ok (.getfield 27, 3) := by decide +kernel
theorem d_TypeFinder_Known_init_228 : decode b_TypeFinder_Known_init 228 = .ok (.new 53, 3) := by decide +kernel
theorem d_TypeFinder_Known_init_231 : decode b_TypeFinder_Known_init 231 = .ok (.dup, 1) := by decide +kernel
theorem d_TypeFinder_Known_init_232 : decode b_TypeFinder_Known_init 232 = .ok (.ldc2_w 81, 3) := by decide +kernel
theorem d_TypeFinder_Known_init_235 : decode b_TypeFinder_Known_init 235 = .ok (.aload 4, 2) := by decide +kernel
theorem d_TypeFinder_Known_init_237 : decode b_TypeFinder_Known_init 237 = .ok (.iconst 1, 1) := by decide +kernel
theorem d_TypeFinder_Known_init_238 : decode b_TypeFinder_Known_init 238 = .ok (.invokespecial 57, 3) := by decide +kernel
theorem d_TypeFinder_Known_init_241 : decode b_TypeFinder_Known_init 241 = .ok (.invokevirtual 60, 3) := by decide +kernel
theorem d_TypeFinder_Known_init_244 : decode b_TypeFinder_Known_init 244 = .ok (.pop, 1) := by decide +kernel
theorem d_TypeFinder_Known_init_245 : decode b_TypeFinder_Known_init 245 = .ok (.aload_n 0, 1) := by decide +kernel
theorem d_TypeFinder_Known_init_246 : decode b_TypeFinder_Known_init 246 = .ok (.getfield 27, 3) := by decide +kernel
theorem d_TypeFinder_Known_init_249 : decode b_TypeFinder_Known_init 249 = .ok (.new 53, 3) := by decide +kernel
end
section
theorem d_TypeFinder_Known_init_252 : decode b_TypeFinder_Known_init 252 = .ok (.dup, 1) := by decide +kernel
theorem d_TypeFinder_Known_init_253 : decode b_TypeFinder_Known_init 253 = .ok (.ldc2_w 83, 3) := by decide +kernel
theorem d_TypeFinder_Known_init_256 : decode b_TypeFinder_Known_init 256 = .ok (.aload 4, 2) := by decide +kernel
theorem d_TypeFinder_Known_init_258 : decode b_TypeFinder_Known_init 258 = .ok (.iconst 1, 1) := by decide +kernel
theorem d_TypeFinder_Known_init_259 : decode b_TypeFinder_Known_init 259 = .ok (.invokespecial 57, 3) := by decide +kernel
theorem d_TypeFinder_Known_init_262 : decode b_TypeFinder_Known_init 262 = .ok (.invokevirtual 60, 3) := by decide +kernel
theorem d_TypeFinder_Known_init_265 : decode b_TypeFinder_Known_init 265 = .ok (.pop, 1) := by decide +kernel
theorem d_TypeFinder_Known_init_266 : decode b_TypeFinder_Known_init 266 = .ok (.aload_n 0, 1) := by decide +kernel
theorem d_TypeFinder_Known_init_267 : decode b_TypeFinder_Known_init 267 = .ok (.getfield 27, 3) := by decide +kernel
theorem d_TypeFinder_Known_init_270 : decode b_TypeFinder_Known_init 270 = .ok (.new 53, 3) := by decide +kernel
theorem d_TypeFinder_Known_init_273 : decode b_TypeFinder_Known_init 273 = .ok (.dup, 1) := by decide +kernel
theorem d_TypeFinder_Known_init_274 : decode b_TypeFinder_Known_init 274 = .ok (.ldc2_w 85, 3) := by decide +kernel
theorem d_TypeFinder_Known_init_277 : decode b_TypeFinder_Known_init 277 = .ok (.aload 4, 2) := by decide +kernel
theorem d_TypeFinder_Known_init_279 : decode b_TypeFinder_Known_init 279 = .ok (.iconst 1, 1) := by decide +kernel
theorem d_TypeFinder_Known_init_280 : decode b_TypeFinder_Known_init 280 = .ok (.invokespecial 57, 3) := by decide +kernel
theorem d_TypeFinder_Known_init_283 : decode b_TypeFinder_Known_init 283 = .ok (.invokevirtual 60, 3) := by decide +kernel
theorem d_TypeFinder_Known_init_286 : decode b_TypeFinder_Known_init 286 = .ok (.pop, 1) := by decide +kernel
theorem d_TypeFinder_Known_init_287 : decode b_TypeFinder_Known_init 287 = .ok (.aload_n 0, 1) := by decide +kernel
theorem d_TypeFinder_Known_init_288 : decode b_TypeFinder_Known_init 288 = .ok (.getfield 27, 3) := by decide +kernel
theorem d_TypeFinder_Known_init_291 : decode b_TypeFinder_Known_init 291 = .ok (.new 53, 3) := by decide +kernel
theorem d_TypeFinder_Known_init_294 : decode b_TypeFinder_Known_init 294 = .ok (.dup, 1) := by decide +kernel
theorem d_TypeFinder_Known_init_295 : decode b_TypeFinder_Known_init 295 = .ok (.ldc2_w 87, 3) := by decide +kernel
theorem d_TypeFinder_Known_init_298 : decode b_TypeFinder_Known_init 298 = .ok (.aload 4, 2) := by decide +kernel
theorem d_TypeFinder_Known_init_300 : decode b_TypeFinder_Known_init 300 = .ok (.iconst 1, 1) := by decide +kernel
theorem d_TypeFinder_Known_init_301 : decode b_TypeFinder_Known_init 301 = .ok (.invokespecial 57, 3) := by decide +kernel
theorem d_TypeFinder_Known_init_304 : decode b_TypeFinder_Known_init 304 = .ok (.invokevirtual 60, 3) := by decide +kernel
theorem d_TypeFinder_Known_init_307 : decode b_TypeFinder_Known_init 307 = .ok (.pop, 1) := by decide +kernel
theorem d_TypeFinder_Known_init_308 : decode b_TypeFinder_Known_init 308 = .ok (.aload_n 0, 1) := by decide +kernel
theorem d_TypeFinder_Known_init_309 : decode b_TypeFinder_Known_init 309 = .ok (.getfield 27, 3) := by decide +kernel
theorem d_TypeFinder_Known_init_312 : decode b_TypeFinder_Known_init 312 = .ok (.new 53, 3) := by decide +kernel
theorem d_TypeFinder_Known_init_315 : decode b_TypeFinder_Known_init 315 = .ok (.dup, 1) := by decide +kernel
theorem d_TypeFinder_Known_init_316 : decode b_TypeFinder_Known_init 316 = .ok (.ldc2_w 89, 3) := by decide +kernel
theorem d_TypeFinder_Known_init_319 : decode b_TypeFinder_Known_init 319 = .ok (.aload_n 0, 1) := by decide +kernel
theorem d_TypeFinder_Known_init_320 : decode b_TypeFinder_Known_init 320 = .ok (.getfield 14, 3) := by decide +kernel
theorem d_TypeFinder_Known_init_323 : decode b_TypeFinder_Known_init 323 = .ok (.aload_n 0, 1) := by decide +kernel
theorem d_TypeFinder_Known_init_324 : decode b_TypeFinder_Known_init 324 = .ok (.getfield 14, 3) := by decide +kernel
theorem d_TypeFinder_Known_init_327 : decode b_TypeFinder_Known_init 327 = .ok (.aload_n 0, 1) := by decide +kernel
theorem d_TypeFinder_Known_init_328 : decode b_TypeFinder_Known_init 328 = .ok (.getfield 47, 3) := by decide +kernel
theorem d_TypeFinder_Known_init_331 : decode b_TypeFinder_Known_init 331 = .ok (.invokestatic 71, 3) := by decide +kernel
theorem d_TypeFinder_Known_init_334 : decode b_TypeFinder_Known_init 334 = .ok (.invokestatic 71, 3) := by decide +kernel
theorem d_TypeFinder_Known_init_337 : decode b_TypeFinder_Known_init 337 = .ok (.iconst 1, 1) := by decide +kernel
theorem d_TypeFinder_Known_init_338 : decode b_TypeFinder_Known_init 338 = .ok (.invokespecial 57, 3) := by decide +kernel
theorem d_TypeFinder_Known_init_341 : decode b_TypeFinder_Known_init 341 = .ok (.invokevirtual 60, 3) := by decide +kernel
theorem d_TypeFinder_Known_init_344 : decode b_TypeFinder_Known_init 344 = .ok (.pop, 1) := by decide +kernel
theorem d_TypeFinder_Known_init_345 : decode b_TypeFinder_Known_init 345 = .ok (.new 9, 3) := by decide +kernel
theorem d_TypeFinder_Known_init_348 : decode b_TypeFinder_Known_init 348 = .ok (.dup, 1) := by decide +kernel
theorem d_TypeFinder_Known_init_349 : decode b_TypeFinder_Known_init 349 = .ok (.iconst 5, 1) := by decide +kernel
theorem d_TypeFinder_Known_init_350 : decode b_TypeFinder_Known_init 350 = .ok (.aconst_null, 1) := by decide +kernel
theorem d_TypeFinder_Known_init_351 : decode b_TypeFinder_Known_init 351 = .ok (.aconst_null, 1) := by decide +kernel
theorem d_TypeFinder_Known_init_352 : decode b_TypeFinder_Known_init 352 = .ok (.aconst_null, 1) := by decide +kernel
theorem d_TypeFinder_Known_init_353 : decode b_TypeFinder_Known_init 353 = .ok (.invokespecial 11, 3) := by decide +kernel
theorem d_TypeFinder_Known_init_356 : decode b_TypeFinder_Known_init 356 = .ok (.astore 5, 2) := by decide +kernel
theorem d_TypeFinder_Known_init_358 : decode b_TypeFinder_Known_init 358 = .ok (.aload 5, 2) := by decide +kernel
theorem d_TypeFinder_Known_init_360 : decode b_TypeFinder_Known_init 360 = .ok (.iconst 1, 1) := by decide +kernel
theorem d_TypeFinder_Known_init_361 : decode b_TypeFinder_Known_init 361 = .ok (.putfield 91, 3) := by decide +kernel
theorem d_TypeFinder_Known_init_364 : decode b_TypeFinder_Known_init 364 = .ok (.aload_n 0, 1) := by decide +kernel
theorem d_TypeFinder_Known_init_365 : decode b_TypeFinder_Known_init 365 = .ok (.getfield 27, 3) := by decide +kernel
theorem d_TypeFinder_Known_init_368 : decode b_TypeFinder_Known_init 368 = .ok (.new 53, 3) := by decide +kernel
theorem d_TypeFinder_Known_init_371 : decode b_TypeFinder_Known_init 371 = .ok (.dup, 1) := by decide +kernel
theorem d_TypeFinder_Known_init_372 : decode b_TypeFinder_Known_init 372 = .ok (.ldc2_w 95, 3) := by decide +kernel
theorem d_TypeFinder_Known_init_375 : decode b_TypeFinder_Known_init 375 = .ok (.aload 5, 2) := by decide +kernel
theorem d_TypeFinder_Known_init_377 : decode b_TypeFinder_Known_init 377 = .ok (.aload 5, 2) := by decide +kernel
theorem d_TypeFinder_Known_init_379 : decode b_TypeFinder_Known_init 379 = .ok (.aload_n 0, 1) := by decide +kernel
theorem d_TypeFinder_Known_init_380 : decode b_TypeFinder_Known_init 380 = .ok (.getfield 47, 3) := by decide +kernel
theorem d_TypeFinder_Known_init_383 : decode b_TypeFinder_Known_init 383 = .ok (.invokestatic 71, 3) := by decide +kernel
theorem d_TypeFinder_Known_init_386 : decode b_TypeFinder_Known_init 386 = .ok (.invokestatic 71, 3) := by decide +kernel
theorem d_TypeFinder_Known_init_389 : decode b_TypeFinder_Known_init 389 = .ok (.iconst 1, 1) := by decide +kernel
theorem d_TypeFinder_Known_init_390 : decode b_TypeFinder_Known_init 390 = .ok (.invokespecial 57, 3) := by decide +kernel
theorem d_TypeFinder_Known_init_393 : decode b_TypeFinder_Known_init 393 = .ok (.invokevirtual 60, 3) := by decide +kernel
theorem d_TypeFinder_Known_init_396 : decode b_TypeFinder_Known_init 396 = .ok (.pop, 1) := by decide +kernel
theorem d_TypeFinder_Known_init_397 : decode b_TypeFinder_Known_init 397 = .ok (.aload_n 0, 1) := by decide +kernel
theorem d_TypeFinder_Known_init_398 : decode b_TypeFinder_Known_init 398 = .ok (.aload_n 0, 1) := by decide +kernel
theorem d_TypeFinder_Known_init_399 : decode b_TypeFinder_Known_init 399 = .ok (.getfield 27, 3) := by decide +kernel
theorem d_TypeFinder_Known_init_402 : decode b_TypeFinder_Known_init 402 = .ok (.invokevirtual 97, 3) := by decide +kernel
theorem d_TypeFinder_Known_init_405 : decode b_TypeFinder_Known_init 405 = .ok (.putfield 101, 3) := by decide +kernel
theorem d_TypeFinder_Known_init_408 : decode b_TypeFinder_Known_init 408 = .ok (.return_, 1) := by decide +kernel
theorem d_TypeFinder_Name_init_0 : decode b_TypeFinder_Name_init 0 = .ok (.aload_n 0, 1) := by decide +kernel
theorem d_TypeFinder_Name_init_1 : decode b_TypeFinder_Name_init 1 = .ok (.invokespecial 1, 3) := by decide +kernel
theorem d_TypeFinder_Name_init_4 : decode b_TypeFinder_Name_init 4 = .ok (.aload_n 0, 1) := by decide +kernel
theorem d_TypeFinder_Name_init_5 : decode b_TypeFinder_Name_init 5 = .ok (.lload_n 1, 1) := by decide +kernel
theorem d_TypeFinder_Name_init_6 : decode b_TypeFinder_Name_init 6 = .ok (.putfield 7, 3) := by decide +kernel
theorem d_TypeFinder_Name_init_9 : decode b_TypeFinder_Name_init 9 = .ok (.aload_n 0, 1) := by decide +kernel
theorem d_TypeFinder_Name_init_10 : decode b_TypeFinder_Name_init 10 = .ok (.aload_n 3, 1) := by decide +kernel
theorem d_TypeFinder_Name_init_11 : decode b_TypeFinder_Name_init 11 = .ok (.putfield 13, 3) := by decide +kernel
theorem d_TypeFinder_Name_init_14 : decode b_TypeFinder_Name_init 14 = .ok (.aload_n 0, 1) := by decide +kernel
theorem d_TypeFinder_Name_init_15 : decode b_TypeFinder_Name_init 15 = .ok (.iload 4, 2) := by decide +kernel
theorem d_TypeFinder_Name_init_17 : decode b_TypeFinder_Name_init 17 = .ok (.putfield 17, 3) := by decide +kernel
theorem d_TypeFinder_Name_init_20 : decode b_TypeFinder_Name_init 20 = .ok (.return_, 1) := by decide +kernel
theorem d_TypeFinder_Parser_application_0 : decode b_TypeFinder_Parser_application 0 = .ok (.aload_n 0, 1) := by decide +kernel
theorem d_TypeFinder_Parser_application_1 : decode b_TypeFinder_Parser_application 1 = .ok (.iload_n 1, 1) := by decide +kernel
theorem d_TypeFinder_Parser_application_2 : decode b_TypeFinder_Parser_application 2 = .ok (.invokevirtual 148, 3) := by decide +kernel
theorem d_TypeFinder_Parser_atom_0 : decode b_TypeFinder_Parser_atom 0 = .ok (.aload_n 0, 1) := by decide +kernel
theorem d_TypeFinder_Parser_atom_1 : decode b_TypeFinder_Parser_atom 1 = .ok (.getfield 12, 3) := by decide +kernel
theorem d_TypeFinder_Parser_atom_4 : decode b_TypeFinder_Parser_atom 4 = .ok (.iconst 3, 1) := by decide +kernel
theorem d_TypeFinder_Parser_atom_5 : decode b_TypeFinder_Parser_atom 5 = .ok (.invokevirtual 86, 3) := by decide +kernel
theorem d_TypeFinder_Parser_atom_8 : decode b_TypeFinder_Parser_atom 8 = .ok (.ifCond .eq 20, 3) := by decide +kernel
theorem d_TypeFinder_Parser_atom_28 : decode b_TypeFinder_Parser_atom 28 = .ok (.aload_n 0, 1) := by decide +kernel
theorem d_TypeFinder_Parser_atom_29 : decode b_TypeFinder_Parser_atom 29 = .ok (.getfield 12, 3) := by decide +kernel
theorem d_TypeFinder_Parser_atom_32 : decode b_TypeFinder_Parser_atom 32 = .ok (.iconst 1, 1) := by decide +kernel
theorem d_TypeFinder_Parser_atom_33 : decode b_TypeFinder_Parser_atom 33 = .ok (.invokevirtual 86, 3) := by decide +kernel
theorem d_TypeFinder_Parser_atom_36 : decode b_TypeFinder_Parser_atom 36 = .ok (.ifCond .eq 20, 3) := by decide +kernel
theorem d_TypeFinder_Parser_atom_56 : decode b_TypeFinder_Parser_atom 56 = .ok (.aload_n 0, 1) := by decide +kernel
theorem d_TypeFinder_Parser_atom_57 : decode b_TypeFinder_Parser_atom 57 = .ok (.getfield 12, 3) := by decide +kernel
theorem d_TypeFinder_Parser_atom_60 : decode b_TypeFinder_Parser_atom 60 = .ok (.iconst 2, 1) := by decide +kernel
theorem d_TypeFinder_Parser_atom_61 : decode b_TypeFinder_Parser_atom 61 = .ok (.invokevirtual 86, 3) := by decide +kernel
theorem d_TypeFinder_Parser_atom_64 : decode b_TypeFinder_Parser_atom 64 = .ok (.ifCond .eq 20, 3) := by decide +kernel
theorem d_TypeFinder_Parser_atom_84 : decode b_TypeFinder_Parser_atom 84 = .ok (.aload_n 0, 1) := by decide +kernel
theorem d_TypeFinder_Parser_atom_85 : decode b_TypeFinder_Parser_atom 85 = .ok (.getfield 12, 3) := by decide +kernel
theorem d_TypeFinder_Parser_atom_88 : decode b_TypeFinder_Parser_atom 88 = .ok (.bipush 7, 2) := by decide +kernel
theorem d_TypeFinder_Parser_atom_90 : decode b_TypeFinder_Parser_atom 90 = .ok (.invokevirtual 66, 3) := by decide +kernel
theorem d_TypeFinder_Parser_chain_0 : decode b_TypeFinder_Parser_chain 0 = .ok (.aload_n 0, 1) := by decide +kernel
theorem d_TypeFinder_Parser_chain_1 : decode b_TypeFinder_Parser_chain 1 = .ok (.iload_n 1, 1) := by decide +kernel
theorem d_TypeFinder_Parser_chain_2 : decode b_TypeFinder_Parser_chain 2 = .ok (.invokevirtual 123, 3) := by decide +kernel
theorem d_TypeFinder_Parser_declaration_0 : decode b_TypeFinder_Parser_declaration 0 = .ok (.aload_n 0, 1) := by decide +kernel
theorem d_TypeFinder_Parser_declaration_1 : decode b_TypeFinder_Parser_declaration 1 = .ok (.getfield 12, 3) := by decide +kernel
theorem d_TypeFinder_Parser_declaration_4 : decode b_TypeFinder_Parser_declaration 4 = .ok (.aload_n 1, 1) := by decide +kernel
theorem d_TypeFinder_Parser_declaration_5 : decode b_TypeFinder_Parser_declaration 5 = .ok (.iload_n 2, 1) := by decide +kernel
theorem d_TypeFinder_Parser_declaration_6 : decode b_TypeFinder_Parser_declaration 6 = .ok (.invokevirtual 43, 3) := by decide +kernel
theorem d_TypeFinder_Parser_declaration_9 : decode b_TypeFinder_Parser_declaration 9 = .ok (.aload_n 0, 1) := by decide +kernel
theorem d_TypeFinder_Parser_declaration_10 : decode b_TypeFinder_Parser_declaration 10 = .ok (.getfield 12, 3) := by decide +kernel
theorem d_TypeFinder_Parser_declaration_13 : decode b_TypeFinder_Parser_declaration 13 = .ok (.bipush 20, 2) := by decide +kernel
theorem d_TypeFinder_Parser_declaration_15 : decode b_TypeFinder_Parser_declaration 15 = .ok (.invokevirtual 47, 3) := by decide +kernel
theorem d_TypeFinder_Parser_declaration_18 : decode b_TypeFinder_Parser_declaration 18 = .ok (.ifCond .eq 14, 3) := by decide +kernel
theorem d_TypeFinder_Parser_declaration_32 : decode b_TypeFinder_Parser_declaration 32 = .ok (.aload_n 0, 1) := by decide +kernel
theorem d_TypeFinder_Parser_declaration_33 : decode b_TypeFinder_Parser_declaration 33 = .ok (.getfield 12, 3) := by decide +kernel
theorem d_TypeFinder_Parser_declaration_36 : decode b_TypeFinder_Parser_declaration 36 = .ok (.invokevirtual 55, 3) := by decide +kernel
theorem d_TypeFinder_Parser_declaration_39 : decode b_TypeFinder_Parser_declaration 39 = .ok (.iconst 4, 1) := by decide +kernel
theorem d_TypeFinder_Parser_declaration_40 : decode b_TypeFinder_Parser_declaration 40 = .ok (.if_icmp .ne 11, 3) := by decide +kernel
theorem d_TypeFinder_Parser_declaration_51 : decode b_TypeFinder_Parser_declaration 51 = .ok (.aload_n 0, 1) := by decide +kernel
theorem d_TypeFinder_Parser_declaration_52 : decode b_TypeFinder_Parser_declaration 52 = .ok (.iconst 0, 1) := by decide +kernel
theorem d_TypeFinder_Parser_declaration_53 : decode b_TypeFinder_Parser_declaration 53 = .ok (.invokevirtual 62, 3) := by decide +kernel
theorem d_TypeFinder_Parser_definition_0 : decode b_TypeFinder_Parser_definition 0 = .ok (.aload_n 0, 1) := by decide +kernel
theorem d_TypeFinder_Parser_definition_1 : decode b_TypeFinder_Parser_definition 1 = .ok (.getfield 12, 3) := by decide +kernel
theorem d_TypeFinder_Parser_definition_4 : decode b_TypeFinder_Parser_definition 4 = .ok (.iconst 1, 1) := by decide +kernel
theorem d_TypeFinder_Parser_definition_5 : decode b_TypeFinder_Parser_definition 5 = .ok (.invokevirtual 66, 3) := by decide +kernel
theorem d_TypeFinder_Parser_expression_0 : decode b_TypeFinder_Parser_expression 0 = .ok (.iload_n 1, 1) := by decide +kernel
theorem d_TypeFinder_Parser_expression_1 : decode b_TypeFinder_Parser_expression 1 = .ok (.bipush 12, 2) := by decide +kernel
theorem d_TypeFinder_Parser_expression_3 : decode b_TypeFinder_Parser_expression 3 = .ok (.if_icmp .le 11, 3) := by decide +kernel
theorem d_TypeFinder_Parser_expression_14 : decode b_TypeFinder_Parser_expression 14 = .ok (.aload_n 0, 1) := by decide +kernel
theorem d_TypeFinder_Parser_expression_15 : decode b_TypeFinder_Parser_expression 15 = .ok (.getfield 12, 3) := by decide +kernel
theorem d_TypeFinder_Parser_expression_18 : decode b_TypeFinder_Parser_expression 18 = .ok (.bipush 12, 2) := by decide +kernel
theorem d_TypeFinder_Parser_expression_20 : decode b_TypeFinder_Parser_expression 20 = .ok (.invokevirtual 47, 3) := by decide +kernel
theorem d_TypeFinder_Parser_expression_23 : decode b_TypeFinder_Parser_expression 23 = .ok (.ifCond .eq 9, 3) := by decide +kernel
theorem d_TypeFinder_Parser_expression_32 : decode b_TypeFinder_Parser_expression 32 = .ok (.aload_n 0, 1) := by decide +kernel
theorem d_TypeFinder_Parser_expression_33 : decode b_TypeFinder_Parser_expression 33 = .ok (.getfield 12, 3) := by decide +kernel
theorem d_TypeFinder_Parser_expression_36 : decode b_TypeFinder_Parser_expression 36 = .ok (.bipush 13, 2) := by decide +kernel
theorem d_TypeFinder_Parser_expression_38 : decode b_TypeFinder_Parser_expression 38 = .ok (.invokevirtual 47, 3) := by decide +kernel
theorem d_TypeFinder_Parser_expression_41 : decode b_TypeFinder_Parser_expression 41 = .ok (.ifCond .eq 9, 3) := by decide +kernel
theorem d_TypeFinder_Parser_expression_50 : decode b_TypeFinder_Parser_expression 50 = .ok (.aload_n 0, 1) := by decide +kernel
theorem d_TypeFinder_Parser_expression_51 : decode b_TypeFinder_Parser_expression 51 = .ok (.getfield 12, 3) := by decide +kernel
end
section
theorem d_TypeFinder_Parser_expression_54 : decode b_TypeFinder_Parser_expression 54 = .ok (.bipush 15, 2) := by decide +kernel
theorem d_TypeFinder_Parser_expression_56 : decode b_TypeFinder_Parser_expression 56 = .ok (.invokevirtual 47, 3) := by decide +kernel
theorem d_TypeFinder_Parser_expression_59 : decode b_TypeFinder_Parser_expression 59 = .ok (.ifCond .eq 9, 3) := by decide +kernel
theorem d_TypeFinder_Parser_expression_68 : decode b_TypeFinder_Parser_expression 68 = .ok (.aload_n 0, 1) := by decide +kernel
theorem d_TypeFinder_Parser_expression_69 : decode b_TypeFinder_Parser_expression 69 = .ok (.getfield 12, 3) := by decide +kernel
theorem d_TypeFinder_Parser_expression_72 : decode b_TypeFinder_Parser_expression 72 = .ok (.bipush 18, 2) := by decide +kernel
theorem d_TypeFinder_Parser_expression_74 : decode b_TypeFinder_Parser_expression 74 = .ok (.invokevirtual 47, 3) := by decide +kernel
theorem d_TypeFinder_Parser_expression_77 : decode b_TypeFinder_Parser_expression 77 = .ok (.ifCond .eq 9, 3) := by decide +kernel
theorem d_TypeFinder_Parser_expression_86 : decode b_TypeFinder_Parser_expression 86 = .ok (.aload_n 0, 1) := by decide +kernel
theorem d_TypeFinder_Parser_expression_87 : decode b_TypeFinder_Parser_expression 87 = .ok (.iload_n 1, 1) := by decide +kernel
theorem d_TypeFinder_Parser_expression_88 : decode b_TypeFinder_Parser_expression 88 = .ok (.invokevirtual 104, 3) := by decide +kernel
theorem d_TypeFinder_Parser_init_0 : decode b_TypeFinder_Parser_init 0 = .ok (.aload_n 0, 1) := by decide +kernel
theorem d_TypeFinder_Parser_init_1 : decode b_TypeFinder_Parser_init 1 = .ok (.invokespecial 3, 3) := by decide +kernel
theorem d_TypeFinder_Parser_init_4 : decode b_TypeFinder_Parser_init 4 = .ok (.aload_n 0, 1) := by decide +kernel
theorem d_TypeFinder_Parser_init_5 : decode b_TypeFinder_Parser_init 5 = .ok (.new 9, 3) := by decide +kernel
theorem d_TypeFinder_Parser_init_8 : decode b_TypeFinder_Parser_init 8 = .ok (.dup, 1) := by decide +kernel
theorem d_TypeFinder_Parser_init_9 : decode b_TypeFinder_Parser_init 9 = .ok (.invokespecial 11, 3) := by decide +kernel
theorem d_TypeFinder_Parser_init_12 : decode b_TypeFinder_Parser_init 12 = .ok (.putfield 12, 3) := by decide +kernel
theorem d_TypeFinder_Parser_init_15 : decode b_TypeFinder_Parser_init 15 = .ok (.aload_n 0, 1) := by decide +kernel
theorem d_TypeFinder_Parser_init_16 : decode b_TypeFinder_Parser_init 16 = .ok (.new 18, 3) := by decide +kernel
theorem d_TypeFinder_Parser_init_19 : decode b_TypeFinder_Parser_init 19 = .ok (.dup, 1) := by decide +kernel
theorem d_TypeFinder_Parser_init_20 : decode b_TypeFinder_Parser_init 20 = .ok (.aload_n 0, 1) := by decide +kernel
theorem d_TypeFinder_Parser_init_21 : decode b_TypeFinder_Parser_init 21 = .ok (.getfield 12, 3) := by decide +kernel
theorem d_TypeFinder_Parser_init_24 : decode b_TypeFinder_Parser_init 24 = .ok (.invokespecial 20, 3) := by decide +kernel
theorem d_TypeFinder_Parser_init_27 : decode b_TypeFinder_Parser_init 27 = .ok (.putfield 23, 3) := by decide +kernel
theorem d_TypeFinder_Parser_init_30 : decode b_TypeFinder_Parser_init 30 = .ok (.aload_n 0, 1) := by decide +kernel
theorem d_TypeFinder_Parser_init_31 : decode b_TypeFinder_Parser_init 31 = .ok (.bipush 10, 2) := by decide +kernel
theorem d_TypeFinder_Parser_init_33 : decode b_TypeFinder_Parser_init 33 = .ok (.newarray .int, 2) := by decide +kernel
theorem d_TypeFinder_Parser_init_35 : decode b_TypeFinder_Parser_init 35 = .ok (.dup, 1) := by decide +kernel
theorem d_TypeFinder_Parser_init_36 : decode b_TypeFinder_Parser_init 36 = .ok (.iconst 0, 1) := by decide +kernel
theorem d_TypeFinder_Parser_init_37 : decode b_TypeFinder_Parser_init 37 = .ok (.bipush 6, 2) := by decide +kernel
theorem d_TypeFinder_Parser_init_39 : decode b_TypeFinder_Parser_init 39 = .ok (.iastore, 1) := by decide +kernel
theorem d_TypeFinder_Parser_init_40 : decode b_TypeFinder_Parser_init 40 = .ok (.dup, 1) := by decide +kernel
theorem d_TypeFinder_Parser_init_41 : decode b_TypeFinder_Parser_init 41 = .ok (.iconst 1, 1) := by decide +kernel
theorem d_TypeFinder_Parser_init_42 : decode b_TypeFinder_Parser_init 42 = .ok (.bipush 6, 2) := by decide +kernel
theorem d_TypeFinder_Parser_init_44 : decode b_TypeFinder_Parser_init 44 = .ok (.iastore, 1) := by decide +kernel
theorem d_TypeFinder_Parser_init_45 : decode b_TypeFinder_Parser_init 45 = .ok (.dup, 1) := by decide +kernel
theorem d_TypeFinder_Parser_init_46 : decode b_TypeFinder_Parser_init 46 = .ok (.iconst 2, 1) := by decide +kernel
theorem d_TypeFinder_Parser_init_47 : decode b_TypeFinder_Parser_init 47 = .ok (.bipush 7, 2) := by decide +kernel
theorem d_TypeFinder_Parser_init_49 : decode b_TypeFinder_Parser_init 49 = .ok (.iastore, 1) := by decide +kernel
theorem d_TypeFinder_Parser_init_50 : decode b_TypeFinder_Parser_init 50 = .ok (.dup, 1) := by decide +kernel
theorem d_TypeFinder_Parser_init_51 : decode b_TypeFinder_Parser_init 51 = .ok (.iconst 3, 1) := by decide +kernel
theorem d_TypeFinder_Parser_init_52 : decode b_TypeFinder_Parser_init 52 = .ok (.bipush 7, 2) := by decide +kernel
theorem d_TypeFinder_Parser_init_54 : decode b_TypeFinder_Parser_init 54 = .ok (.iastore, 1) := by decide +kernel
theorem d_TypeFinder_Parser_init_55 : decode b_TypeFinder_Parser_init 55 = .ok (.dup, 1) := by decide +kernel
theorem d_TypeFinder_Parser_init_56 : decode b_TypeFinder_Parser_init 56 = .ok (.iconst 4, 1) := by decide +kernel
theorem d_TypeFinder_Parser_init_57 : decode b_TypeFinder_Parser_init 57 = .ok (.iconst 4, 1) := by decide +kernel
theorem d_TypeFinder_Parser_init_58 : decode b_TypeFinder_Parser_init 58 = .ok (.iastore, 1) := by decide +kernel
theorem d_TypeFinder_Parser_init_59 : decode b_TypeFinder_Parser_init 59 = .ok (.dup, 1) := by decide +kernel
theorem d_TypeFinder_Parser_init_60 : decode b_TypeFinder_Parser_init 60 = .ok (.iconst 5, 1) := by decide +kernel
theorem d_TypeFinder_Parser_init_61 : decode b_TypeFinder_Parser_init 61 = .ok (.iconst 4, 1) := by decide +kernel
theorem d_TypeFinder_Parser_init_62 : decode b_TypeFinder_Parser_init 62 = .ok (.iastore, 1) := by decide +kernel
theorem d_TypeFinder_Parser_init_63 : decode b_TypeFinder_Parser_init 63 = .ok (.dup, 1) := by decide +kernel
theorem d_TypeFinder_Parser_init_64 : decode b_TypeFinder_Parser_init 64 = .ok (.bipush 6, 2) := by decide +kernel
theorem d_TypeFinder_Parser_init_66 : decode b_TypeFinder_Parser_init 66 = .ok (.iconst 5, 1) := by decide +kernel
theorem d_TypeFinder_Parser_init_67 : decode b_TypeFinder_Parser_init 67 = .ok (.iastore, 1) := by decide +kernel
theorem d_TypeFinder_Parser_init_68 : decode b_TypeFinder_Parser_init 68 = .ok (.dup, 1) := by decide +kernel
theorem d_TypeFinder_Parser_init_69 : decode b_TypeFinder_Parser_init 69 = .ok (.bipush 7, 2) := by decide +kernel
theorem d_TypeFinder_Parser_init_71 : decode b_TypeFinder_Parser_init 71 = .ok (.iconst (-1), 1) := by decide +kernel
theorem d_TypeFinder_Parser_init_72 : decode b_TypeFinder_Parser_init 72 = .ok (.iastore, 1) := by decide +kernel
theorem d_TypeFinder_Parser_init_73 : decode b_TypeFinder_Parser_init 73 = .ok (.dup, 1) := by decide +kernel
theorem d_TypeFinder_Parser_init_74 : decode b_TypeFinder_Parser_init 74 = .ok (.bipush 8, 2) := by decide +kernel
theorem d_TypeFinder_Parser_init_76 : decode b_TypeFinder_Parser_init 76 = .ok (.iconst (-1), 1) := by decide +kernel
theorem d_TypeFinder_Parser_init_77 : decode b_TypeFinder_Parser_init 77 = .ok (.iastore, 1) := by decide +kernel
theorem d_TypeFinder_Parser_init_78 : decode b_TypeFinder_Parser_init 78 = .ok (.dup, 1) := by decide +kernel
theorem d_TypeFinder_Parser_init_79 : decode b_TypeFinder_Parser_init 79 = .ok (.bipush 9, 2) := by decide +kernel
theorem d_TypeFinder_Parser_init_81 : decode b_TypeFinder_Parser_init 81 = .ok (.iconst (-1), 1) := by decide +kernel
theorem d_TypeFinder_Parser_init_82 : decode b_TypeFinder_Parser_init 82 = .ok (.iastore, 1) := by decide +kernel
theorem d_TypeFinder_Parser_init_83 : decode b_TypeFinder_Parser_init 83 = .ok (.putfield 27, 3) := by decide +kernel
theorem d_TypeFinder_Parser_init_86 : decode b_TypeFinder_Parser_init 86 = .ok (.aload_n 0, 1) := by decide +kernel
theorem d_TypeFinder_Parser_init_87 : decode b_TypeFinder_Parser_init 87 = .ok (.bipush 10, 2) := by decide +kernel
theorem d_TypeFinder_Parser_init_89 : decode b_TypeFinder_Parser_init 89 = .ok (.newarray .boolean, 2) := by decide +kernel
theorem d_TypeFinder_Parser_init_91 : decode b_TypeFinder_Parser_init 91 = .ok (.dup, 1) := by decide +kernel
theorem d_TypeFinder_Parser_init_92 : decode b_TypeFinder_Parser_init 92 = .ok (.iconst 0, 1) := by decide +kernel
theorem d_TypeFinder_Parser_init_93 : decode b_TypeFinder_Parser_init 93 = .ok (.iconst 0, 1) := by decide +kernel
theorem d_TypeFinder_Parser_init_94 : decode b_TypeFinder_Parser_init 94 = .ok (.bastore, 1) := by decide +kernel
theorem d_TypeFinder_Parser_init_95 : decode b_TypeFinder_Parser_init 95 = .ok (.dup, 1) := by decide +kernel
theorem d_TypeFinder_Parser_init_96 : decode b_TypeFinder_Parser_init 96 = .ok (.iconst 1, 1) := by decide +kernel
theorem d_TypeFinder_Parser_init_97 : decode b_TypeFinder_Parser_init 97 = .ok (.iconst 0, 1) := by decide +kernel
theorem d_TypeFinder_Parser_init_98 : decode b_TypeFinder_Parser_init 98 = .ok (.bastore, 1) := by decide +kernel
theorem d_TypeFinder_Parser_init_99 : decode b_TypeFinder_Parser_init 99 = .ok (.dup, 1) := by decide +kernel
theorem d_TypeFinder_Parser_init_100 : decode b_TypeFinder_Parser_init 100 = .ok (.iconst 2, 1) := by decide +kernel
theorem d_TypeFinder_Parser_init_101 : decode b_TypeFinder_Parser_init 101 = .ok (.iconst 0, 1) := by decide +kernel
theorem d_TypeFinder_Parser_init_102 : decode b_TypeFinder_Parser_init 102 = .ok (.bastore, 1) := by decide +kernel
theorem d_TypeFinder_Parser_init_103 : decode b_TypeFinder_Parser_init 103 = .ok (.dup, 1) := by decide +kernel
theorem d_TypeFinder_Parser_init_104 : decode b_TypeFinder_Parser_init 104 = .ok (.iconst 3, 1) := by decide +kernel
theorem d_TypeFinder_Parser_init_105 : decode b_TypeFinder_Parser_init 105 = .ok (.iconst 0, 1) := by decide +kernel
theorem d_TypeFinder_Parser_init_106 : decode b_TypeFinder_Parser_init 106 = .ok (.bastore, 1) := by decide +kernel
theorem d_TypeFinder_Parser_init_107 : decode b_TypeFinder_Parser_init 107 = .ok (.dup, 1) := by decide +kernel
theorem d_TypeFinder_Parser_init_108 : decode b_TypeFinder_Parser_init 108 = .ok (.iconst 4, 1) := by decide +kernel
theorem d_TypeFinder_Parser_init_109 : decode b_TypeFinder_Parser_init 109 = .ok (.iconst 0, 1) := by decide +kernel
theorem d_TypeFinder_Parser_init_110 : decode b_TypeFinder_Parser_init 110 = .ok (.bastore, 1) := by decide +kernel
theorem d_TypeFinder_Parser_init_111 : decode b_TypeFinder_Parser_init 111 = .ok (.dup, 1) := by decide +kernel
theorem d_TypeFinder_Parser_init_112 : decode b_TypeFinder_Parser_init 112 = .ok (.iconst 5, 1) := by decide +kernel
theorem d_TypeFinder_Parser_init_113 : decode b_TypeFinder_Parser_init 113 = .ok (.iconst 0, 1) := by decide +kernel
theorem d_TypeFinder_Parser_init_114 : decode b_TypeFinder_Parser_init 114 = .ok (.bastore, 1) := by decide +kernel
theorem d_TypeFinder_Parser_init_115 : decode b_TypeFinder_Parser_init 115 = .ok (.dup, 1) := by decide +kernel
theorem d_TypeFinder_Parser_init_116 : decode b_TypeFinder_Parser_init 116 = .ok (.bipush 6, 2) := by decide +kernel
theorem d_TypeFinder_Parser_init_118 : decode b_TypeFinder_Parser_init 118 = .ok (.iconst 1, 1) := by decide +kernel
theorem d_TypeFinder_Parser_init_119 : decode b_TypeFinder_Parser_init 119 = .ok (.bastore, 1) := by decide +kernel
theorem d_TypeFinder_Parser_init_120 : decode b_TypeFinder_Parser_init 120 = .ok (.dup, 1) := by decide +kernel
theorem d_TypeFinder_Parser_init_121 : decode b_TypeFinder_Parser_init 121 = .ok (.bipush 7, 2) := by decide +kernel
theorem d_TypeFinder_Parser_init_123 : decode b_TypeFinder_Parser_init 123 = .ok (.iconst 0, 1) := by decide +kernel
theorem d_TypeFinder_Parser_init_124 : decode b_TypeFinder_Parser_init 124 = .ok (.bastore, 1) := by decide +kernel
theorem d_TypeFinder_Parser_init_125 : decode b_TypeFinder_Parser_init 125 = .ok (.dup, 1) := by decide +kernel
theorem d_TypeFinder_Parser_init_126 : decode b_TypeFinder_Parser_init 126 = .ok (.bipush 8, 2) := by decide +kernel
theorem d_TypeFinder_Parser_init_128 : decode b_TypeFinder_Parser_init 128 = .ok (.iconst 0, 1) := by decide +kernel
theorem d_TypeFinder_Parser_init_129 : decode b_TypeFinder_Parser_init 129 = .ok (.bastore, 1) := by decide +kernel
theorem d_TypeFinder_Parser_init_130 : decode b_TypeFinder_Parser_init 130 = .ok (.dup, 1) := by decide +kernel
theorem d_TypeFinder_Parser_init_131 : decode b_TypeFinder_Parser_init 131 = .ok (.bipush 9, 2) := by decide +kernel
theorem d_TypeFinder_Parser_init_133 : decode b_TypeFinder_Parser_init 133 = .ok (.iconst 0, 1) := by decide +kernel
theorem d_TypeFinder_Parser_init_134 : decode b_TypeFinder_Parser_init 134 = .ok (.bastore, 1) := by decide +kernel
theorem d_TypeFinder_Parser_init_135 : decode b_TypeFinder_Parser_init 135 = .ok (.putfield 31, 3) := by decide +kernel
theorem d_TypeFinder_Parser_init_138 : decode b_TypeFinder_Parser_init 138 = .ok (.return_, 1) := by decide +kernel
theorem d_TypeFinder_Parser_question_0 : decode b_TypeFinder_Parser_question 0 = .ok (.aload_n 0, 1) := by decide +kernel
theorem d_TypeFinder_Parser_question_1 : decode b_TypeFinder_Parser_question 1 = .ok (.getfield 12, 3) := by decide +kernel
theorem d_TypeFinder_Parser_question_4 : decode b_TypeFinder_Parser_question 4 = .ok (.aload_n 1, 1) := by decide +kernel
theorem d_TypeFinder_Parser_question_5 : decode b_TypeFinder_Parser_question 5 = .ok (.iload_n 2, 1) := by decide +kernel
theorem d_TypeFinder_Parser_question_6 : decode b_TypeFinder_Parser_question 6 = .ok (.invokevirtual 43, 3) := by decide +kernel
theorem d_TypeFinder_Parser_question_9 : decode b_TypeFinder_Parser_question 9 = .ok (.aload_n 0, 1) := by decide +kernel
theorem d_TypeFinder_Parser_question_10 : decode b_TypeFinder_Parser_question 10 = .ok (.iconst 0, 1) := by decide +kernel
theorem d_TypeFinder_Parser_question_11 : decode b_TypeFinder_Parser_question 11 = .ok (.invokevirtual 70, 3) := by decide +kernel
theorem d_TypeFinder_Tokens_accept_0 : decode b_TypeFinder_Tokens_accept 0 = .ok (.aload_n 0, 1) := by decide +kernel
theorem d_TypeFinder_Tokens_accept_1 : decode b_TypeFinder_Tokens_accept 1 = .ok (.getfield 9, 3) := by decide +kernel
theorem d_TypeFinder_Tokens_accept_4 : decode b_TypeFinder_Tokens_accept 4 = .ok (.aload_n 0, 1) := by decide +kernel
theorem d_TypeFinder_Tokens_accept_5 : decode b_TypeFinder_Tokens_accept 5 = .ok (.getfield 46, 3) := by decide +kernel
theorem d_TypeFinder_Tokens_accept_8 : decode b_TypeFinder_Tokens_accept 8 = .ok (.iaload, 1) := by decide +kernel
theorem d_TypeFinder_Tokens_accept_9 : decode b_TypeFinder_Tokens_accept 9 = .ok (.iload_n 1, 1) := by decide +kernel
theorem d_TypeFinder_Tokens_accept_10 : decode b_TypeFinder_Tokens_accept 10 = .ok (.if_icmp .eq 5, 3) := by decide +kernel
theorem d_TypeFinder_Tokens_accept_13 : decode b_TypeFinder_Tokens_accept 13 = .ok (.iconst 0, 1) := by decide +kernel
theorem d_TypeFinder_Tokens_accept_14 : decode b_TypeFinder_Tokens_accept 14 = .ok (.ireturn, 1) := by decide +kernel
theorem d_TypeFinder_Tokens_init_0 : decode b_TypeFinder_Tokens_init 0 = .ok (.aload_n 0, 1) := by decide +kernel
theorem d_TypeFinder_Tokens_init_1 : decode b_TypeFinder_Tokens_init 1 = .ok (.invokespecial 3, 3) := by decide +kernel
theorem d_TypeFinder_Tokens_init_4 : decode b_TypeFinder_Tokens_init 4 = .ok (.aload_n 0, 1) := by decide +kernel
theorem d_TypeFinder_Tokens_init_5 : decode b_TypeFinder_Tokens_init 5 = .ok (.bipush 81, 2) := by decide +kernel
theorem d_TypeFinder_Tokens_init_7 : decode b_TypeFinder_Tokens_init 7 = .ok (.newarray .int, 2) := by decide +kernel
theorem d_TypeFinder_Tokens_init_9 : decode b_TypeFinder_Tokens_init 9 = .ok (.putfield 9, 3) := by decide +kernel
theorem d_TypeFinder_Tokens_init_12 : decode b_TypeFinder_Tokens_init 12 = .ok (.aload_n 0, 1) := by decide +kernel
theorem d_TypeFinder_Tokens_init_13 : decode b_TypeFinder_Tokens_init 13 = .ok (.bipush 81, 2) := by decide +kernel
theorem d_TypeFinder_Tokens_init_15 : decode b_TypeFinder_Tokens_init 15 = .ok (.newarray .long, 2) := by decide +kernel
theorem d_TypeFinder_Tokens_init_17 : decode b_TypeFinder_Tokens_init 17 = .ok (.putfield 15, 3) := by decide +kernel
theorem d_TypeFinder_Tokens_init_20 : decode b_TypeFinder_Tokens_init 20 = .ok (.aload_n 0, 1) := by decide +kernel
theorem d_TypeFinder_Tokens_init_21 : decode b_TypeFinder_Tokens_init 21 = .ok (.bipush 10, 2) := by decide +kernel
theorem d_TypeFinder_Tokens_init_23 : decode b_TypeFinder_Tokens_init 23 = .ok (.newarray .long, 2) := by decide +kernel
theorem d_TypeFinder_Tokens_init_25 : decode b_TypeFinder_Tokens_init 25 = .ok (.putfield 19, 3) := by decide +kernel
theorem d_TypeFinder_Tokens_init_28 : decode b_TypeFinder_Tokens_init 28 = .ok (.iconst 0, 1) := by decide +kernel
theorem d_TypeFinder_Tokens_init_29 : decode b_TypeFinder_Tokens_init 29 = .ok (.istore_n 1, 1) := by decide +kernel
theorem d_TypeFinder_Tokens_init_30 : decode b_TypeFinder_Tokens_init 30 = .ok (.iconst 0, 1) := by decide +kernel
theorem d_TypeFinder_Tokens_init_31 : decode b_TypeFinder_Tokens_init 31 = .ok (.istore_n 2, 1) := by decide +kernel
theorem d_TypeFinder_Tokens_init_32 : decode b_TypeFinder_Tokens_init 32 = .ok (.iconst 0, 1) := by decide +kernel
end
section
theorem d_TypeFinder_Tokens_init_33 : decode b_TypeFinder_Tokens_init 33 = .ok (.istore_n 3, 1) := by decide +kernel
theorem d_TypeFinder_Tokens_init_34 : decode b_TypeFinder_Tokens_init 34 = .ok (.iload_n 3, 1) := by decide +kernel
theorem d_TypeFinder_Tokens_init_35 : decode b_TypeFinder_Tokens_init 35 = .ok (.ldc 22, 2) := by decide +kernel
theorem d_TypeFinder_Tokens_init_37 : decode b_TypeFinder_Tokens_init 37 = .ok (.invokevirtual 24, 3) := by decide +kernel
theorem d_TypeFinder_Tokens_init_40 : decode b_TypeFinder_Tokens_init 40 = .ok (.if_icmp .ge 52, 3) := by decide +kernel
theorem d_TypeFinder_Tokens_init_43 : decode b_TypeFinder_Tokens_init 43 = .ok (.iload_n 1, 1) := by decide +kernel
theorem d_TypeFinder_Tokens_init_44 : decode b_TypeFinder_Tokens_init 44 = .ok (.aload_n 0, 1) := by decide +kernel
theorem d_TypeFinder_Tokens_init_45 : decode b_TypeFinder_Tokens_init 45 = .ok (.getfield 19, 3) := by decide +kernel
theorem d_TypeFinder_Tokens_init_48 : decode b_TypeFinder_Tokens_init 48 = .ok (.arraylength, 1) := by decide +kernel
theorem d_TypeFinder_Tokens_init_49 : decode b_TypeFinder_Tokens_init 49 = .ok (.if_icmp .ge 43, 3) := by decide +kernel
theorem d_TypeFinder_Tokens_init_52 : decode b_TypeFinder_Tokens_init 52 = .ok (.ldc 22, 2) := by decide +kernel
theorem d_TypeFinder_Tokens_init_54 : decode b_TypeFinder_Tokens_init 54 = .ok (.iload_n 3, 1) := by decide +kernel
theorem d_TypeFinder_Tokens_init_55 : decode b_TypeFinder_Tokens_init 55 = .ok (.invokevirtual 30, 3) := by decide +kernel
theorem d_TypeFinder_Tokens_init_58 : decode b_TypeFinder_Tokens_init 58 = .ok (.bipush 32, 2) := by decide +kernel
theorem d_TypeFinder_Tokens_init_60 : decode b_TypeFinder_Tokens_init 60 = .ok (.if_icmp .ne 26, 3) := by decide +kernel
theorem d_TypeFinder_Tokens_init_63 : decode b_TypeFinder_Tokens_init 63 = .ok (.aload_n 0, 1) := by decide +kernel
theorem d_TypeFinder_Tokens_init_64 : decode b_TypeFinder_Tokens_init 64 = .ok (.getfield 19, 3) := by decide +kernel
theorem d_TypeFinder_Tokens_init_67 : decode b_TypeFinder_Tokens_init 67 = .ok (.iload_n 1, 1) := by decide +kernel
theorem d_TypeFinder_Tokens_init_68 : decode b_TypeFinder_Tokens_init 68 = .ok (.ldc 22, 2) := by decide +kernel
theorem d_TypeFinder_Tokens_init_70 : decode b_TypeFinder_Tokens_init 70 = .ok (.iload_n 2, 1) := by decide +kernel
theorem d_TypeFinder_Tokens_init_71 : decode b_TypeFinder_Tokens_init 71 = .ok (.iload_n 3, 1) := by decide +kernel
theorem d_TypeFinder_Tokens_init_72 : decode b_TypeFinder_Tokens_init 72 = .ok (.invokevirtual 34, 3) := by decide +kernel
theorem d_TypeFinder_Tokens_init_75 : decode b_TypeFinder_Tokens_init 75 = .ok (.invokestatic 38, 3) := by decide +kernel
theorem d_TypeFinder_Tokens_init_78 : decode b_TypeFinder_Tokens_init 78 = .ok (.lastore, 1) := by decide +kernel
theorem d_TypeFinder_Tokens_init_79 : decode b_TypeFinder_Tokens_init 79 = .ok (.iinc 1 1, 3) := by decide +kernel
theorem d_TypeFinder_Tokens_init_82 : decode b_TypeFinder_Tokens_init 82 = .ok (.iload_n 3, 1) := by decide +kernel
theorem d_TypeFinder_Tokens_init_83 : decode b_TypeFinder_Tokens_init 83 = .ok (.iconst 1, 1) := by decide +kernel
theorem d_TypeFinder_Tokens_init_84 : decode b_TypeFinder_Tokens_init 84 = .ok (.iadd, 1) := by decide +kernel
theorem d_TypeFinder_Tokens_init_85 : decode b_TypeFinder_Tokens_init 85 = .ok (.istore_n 2, 1) := by decide +kernel
theorem d_TypeFinder_Tokens_init_86 : decode b_TypeFinder_Tokens_init 86 = .ok (.iinc 3 1, 3) := by decide +kernel
theorem d_TypeFinder_Tokens_init_89 : decode b_TypeFinder_Tokens_init 89 = .ok (.goto (-55), 3) := by decide +kernel
theorem d_TypeFinder_Tokens_init_92 : decode b_TypeFinder_Tokens_init 92 = .ok (.return_, 1) := by decide +kernel
theorem d_TypeFinder_Tokens_is_0 : decode b_TypeFinder_Tokens_is 0 = .ok (.aload_n 0, 1) := by decide +kernel
theorem d_TypeFinder_Tokens_is_1 : decode b_TypeFinder_Tokens_is 1 = .ok (.getfield 9, 3) := by decide +kernel
theorem d_TypeFinder_Tokens_is_4 : decode b_TypeFinder_Tokens_is 4 = .ok (.aload_n 0, 1) := by decide +kernel
theorem d_TypeFinder_Tokens_is_5 : decode b_TypeFinder_Tokens_is 5 = .ok (.getfield 46, 3) := by decide +kernel
theorem d_TypeFinder_Tokens_is_8 : decode b_TypeFinder_Tokens_is 8 = .ok (.iaload, 1) := by decide +kernel
theorem d_TypeFinder_Tokens_is_9 : decode b_TypeFinder_Tokens_is 9 = .ok (.iload_n 1, 1) := by decide +kernel
theorem d_TypeFinder_Tokens_is_10 : decode b_TypeFinder_Tokens_is 10 = .ok (.if_icmp .ne 7, 3) := by decide +kernel
theorem d_TypeFinder_Tokens_is_17 : decode b_TypeFinder_Tokens_is 17 = .ok (.iconst 0, 1) := by decide +kernel
theorem d_TypeFinder_Tokens_is_18 : decode b_TypeFinder_Tokens_is 18 = .ok (.ireturn, 1) := by decide +kernel
theorem d_TypeFinder_Tokens_kindBehind_0 : decode b_TypeFinder_Tokens_kindBehind 0 = .ok (.aload_n 0, 1) := by decide +kernel
theorem d_TypeFinder_Tokens_kindBehind_1 : decode b_TypeFinder_Tokens_kindBehind 1 = .ok (.getfield 46, 3) := by decide +kernel
theorem d_TypeFinder_Tokens_kindBehind_4 : decode b_TypeFinder_Tokens_kindBehind 4 = .ok (.iconst 1, 1) := by decide +kernel
theorem d_TypeFinder_Tokens_kindBehind_5 : decode b_TypeFinder_Tokens_kindBehind 5 = .ok (.iadd, 1) := by decide +kernel
theorem d_TypeFinder_Tokens_kindBehind_6 : decode b_TypeFinder_Tokens_kindBehind 6 = .ok (.aload_n 0, 1) := by decide +kernel
theorem d_TypeFinder_Tokens_kindBehind_7 : decode b_TypeFinder_Tokens_kindBehind 7 = .ok (.getfield 42, 3) := by decide +kernel
theorem d_TypeFinder_Tokens_kindBehind_10 : decode b_TypeFinder_Tokens_kindBehind 10 = .ok (.if_icmp .ge 17, 3) := by decide +kernel
theorem d_TypeFinder_Tokens_kindBehind_27 : decode b_TypeFinder_Tokens_kindBehind 27 = .ok (.iconst 0, 1) := by decide +kernel
theorem d_TypeFinder_Tokens_kindBehind_28 : decode b_TypeFinder_Tokens_kindBehind 28 = .ok (.ireturn, 1) := by decide +kernel
theorem d_TypeFinder_Tokens_packed_0 : decode b_TypeFinder_Tokens_packed 0 = .ok (.lconst 0, 1) := by decide +kernel
theorem d_TypeFinder_Tokens_packed_1 : decode b_TypeFinder_Tokens_packed 1 = .ok (.lstore_n 1, 1) := by decide +kernel
theorem d_TypeFinder_Tokens_packed_2 : decode b_TypeFinder_Tokens_packed 2 = .ok (.iconst 0, 1) := by decide +kernel
theorem d_TypeFinder_Tokens_packed_3 : decode b_TypeFinder_Tokens_packed 3 = .ok (.istore_n 3, 1) := by decide +kernel
theorem d_TypeFinder_Tokens_packed_4 : decode b_TypeFinder_Tokens_packed 4 = .ok (.iload_n 3, 1) := by decide +kernel
theorem d_TypeFinder_Tokens_packed_5 : decode b_TypeFinder_Tokens_packed 5 = .ok (.aload_n 0, 1) := by decide +kernel
theorem d_TypeFinder_Tokens_packed_6 : decode b_TypeFinder_Tokens_packed 6 = .ok (.invokevirtual 24, 3) := by decide +kernel
theorem d_TypeFinder_Tokens_packed_9 : decode b_TypeFinder_Tokens_packed 9 = .ok (.if_icmp .ge 21, 3) := by decide +kernel
theorem d_TypeFinder_Tokens_packed_12 : decode b_TypeFinder_Tokens_packed 12 = .ok (.lload_n 1, 1) := by decide +kernel
theorem d_TypeFinder_Tokens_packed_13 : decode b_TypeFinder_Tokens_packed 13 = .ok (.bipush 8, 2) := by decide +kernel
theorem d_TypeFinder_Tokens_packed_15 : decode b_TypeFinder_Tokens_packed 15 = .ok (.lshl, 1) := by decide +kernel
theorem d_TypeFinder_Tokens_packed_16 : decode b_TypeFinder_Tokens_packed 16 = .ok (.aload_n 0, 1) := by decide +kernel
theorem d_TypeFinder_Tokens_packed_17 : decode b_TypeFinder_Tokens_packed 17 = .ok (.iload_n 3, 1) := by decide +kernel
theorem d_TypeFinder_Tokens_packed_18 : decode b_TypeFinder_Tokens_packed 18 = .ok (.invokevirtual 30, 3) := by decide +kernel
theorem d_TypeFinder_Tokens_packed_21 : decode b_TypeFinder_Tokens_packed 21 = .ok (.i2l, 1) := by decide +kernel
theorem d_TypeFinder_Tokens_packed_22 : decode b_TypeFinder_Tokens_packed 22 = .ok (.lor, 1) := by decide +kernel
theorem d_TypeFinder_Tokens_packed_23 : decode b_TypeFinder_Tokens_packed 23 = .ok (.lstore_n 1, 1) := by decide +kernel
theorem d_TypeFinder_Tokens_packed_24 : decode b_TypeFinder_Tokens_packed 24 = .ok (.iinc 3 1, 3) := by decide +kernel
theorem d_TypeFinder_Tokens_packed_27 : decode b_TypeFinder_Tokens_packed 27 = .ok (.goto (-23), 3) := by decide +kernel
theorem d_TypeFinder_Tokens_packed_30 : decode b_TypeFinder_Tokens_packed 30 = .ok (.lload_n 1, 1) := by decide +kernel
theorem d_TypeFinder_Tokens_packed_31 : decode b_TypeFinder_Tokens_packed 31 = .ok (.lreturn, 1) := by decide +kernel
theorem d_TypeFinder_Tokens_put_0 : decode b_TypeFinder_Tokens_put 0 = .ok (.aload_n 0, 1) := by decide +kernel
theorem d_TypeFinder_Tokens_put_1 : decode b_TypeFinder_Tokens_put 1 = .ok (.getfield 42, 3) := by decide +kernel
theorem d_TypeFinder_Tokens_put_4 : decode b_TypeFinder_Tokens_put 4 = .ok (.aload_n 0, 1) := by decide +kernel
theorem d_TypeFinder_Tokens_put_5 : decode b_TypeFinder_Tokens_put 5 = .ok (.getfield 9, 3) := by decide +kernel
theorem d_TypeFinder_Tokens_put_8 : decode b_TypeFinder_Tokens_put 8 = .ok (.arraylength, 1) := by decide +kernel
theorem d_TypeFinder_Tokens_put_9 : decode b_TypeFinder_Tokens_put 9 = .ok (.if_icmp .lt 11, 3) := by decide +kernel
theorem d_TypeFinder_Tokens_put_20 : decode b_TypeFinder_Tokens_put 20 = .ok (.aload_n 0, 1) := by decide +kernel
theorem d_TypeFinder_Tokens_put_21 : decode b_TypeFinder_Tokens_put 21 = .ok (.getfield 9, 3) := by decide +kernel
theorem d_TypeFinder_Tokens_put_24 : decode b_TypeFinder_Tokens_put 24 = .ok (.aload_n 0, 1) := by decide +kernel
theorem d_TypeFinder_Tokens_put_25 : decode b_TypeFinder_Tokens_put 25 = .ok (.getfield 42, 3) := by decide +kernel
theorem d_TypeFinder_Tokens_put_28 : decode b_TypeFinder_Tokens_put 28 = .ok (.iload_n 1, 1) := by decide +kernel
theorem d_TypeFinder_Tokens_put_29 : decode b_TypeFinder_Tokens_put 29 = .ok (.iastore, 1) := by decide +kernel
theorem d_TypeFinder_Tokens_put_30 : decode b_TypeFinder_Tokens_put 30 = .ok (.aload_n 0, 1) := by decide +kernel
theorem d_TypeFinder_Tokens_put_31 : decode b_TypeFinder_Tokens_put 31 = .ok (.getfield 15, 3) := by decide +kernel
theorem d_TypeFinder_Tokens_put_34 : decode b_TypeFinder_Tokens_put 34 = .ok (.aload_n 0, 1) := by decide +kernel
theorem d_TypeFinder_Tokens_put_35 : decode b_TypeFinder_Tokens_put 35 = .ok (.getfield 42, 3) := by decide +kernel
theorem d_TypeFinder_Tokens_put_38 : decode b_TypeFinder_Tokens_put 38 = .ok (.lload_n 2, 1) := by decide +kernel
theorem d_TypeFinder_Tokens_put_39 : decode b_TypeFinder_Tokens_put 39 = .ok (.lastore, 1) := by decide +kernel
theorem d_TypeFinder_Tokens_put_40 : decode b_TypeFinder_Tokens_put 40 = .ok (.aload_n 0, 1) := by decide +kernel
theorem d_TypeFinder_Tokens_put_41 : decode b_TypeFinder_Tokens_put 41 = .ok (.dup, 1) := by decide +kernel
theorem d_TypeFinder_Tokens_put_42 : decode b_TypeFinder_Tokens_put 42 = .ok (.getfield 42, 3) := by decide +kernel
theorem d_TypeFinder_Tokens_put_45 : decode b_TypeFinder_Tokens_put 45 = .ok (.iconst 1, 1) := by decide +kernel
theorem d_TypeFinder_Tokens_put_46 : decode b_TypeFinder_Tokens_put 46 = .ok (.iadd, 1) := by decide +kernel
theorem d_TypeFinder_Tokens_put_47 : decode b_TypeFinder_Tokens_put 47 = .ok (.putfield 42, 3) := by decide +kernel
theorem d_TypeFinder_Tokens_put_50 : decode b_TypeFinder_Tokens_put 50 = .ok (.return_, 1) := by decide +kernel
theorem d_TypeFinder_Tokens_read_0 : decode b_TypeFinder_Tokens_read 0 = .ok (.aload_n 0, 1) := by decide +kernel
theorem d_TypeFinder_Tokens_read_1 : decode b_TypeFinder_Tokens_read 1 = .ok (.iconst 0, 1) := by decide +kernel
theorem d_TypeFinder_Tokens_read_2 : decode b_TypeFinder_Tokens_read 2 = .ok (.putfield 42, 3) := by decide +kernel
theorem d_TypeFinder_Tokens_read_5 : decode b_TypeFinder_Tokens_read 5 = .ok (.aload_n 0, 1) := by decide +kernel
theorem d_TypeFinder_Tokens_read_6 : decode b_TypeFinder_Tokens_read 6 = .ok (.iconst 0, 1) := by decide +kernel
theorem d_TypeFinder_Tokens_read_7 : decode b_TypeFinder_Tokens_read 7 = .ok (.putfield 46, 3) := by decide +kernel
theorem d_TypeFinder_Tokens_read_10 : decode b_TypeFinder_Tokens_read 10 = .ok (.iconst 0, 1) := by decide +kernel
theorem d_TypeFinder_Tokens_read_11 : decode b_TypeFinder_Tokens_read 11 = .ok (.istore_n 3, 1) := by decide +kernel
theorem d_TypeFinder_Tokens_read_12 : decode b_TypeFinder_Tokens_read 12 = .ok (.iconst 0, 1) := by decide +kernel
theorem d_TypeFinder_Tokens_read_13 : decode b_TypeFinder_Tokens_read 13 = .ok (.istore 4, 2) := by decide +kernel
theorem d_TypeFinder_Tokens_read_15 : decode b_TypeFinder_Tokens_read 15 = .ok (.iload 4, 2) := by decide +kernel
theorem d_TypeFinder_Tokens_read_17 : decode b_TypeFinder_Tokens_read 17 = .ok (.iload_n 2, 1) := by decide +kernel
theorem d_TypeFinder_Tokens_read_18 : decode b_TypeFinder_Tokens_read 18 = .ok (.if_icmp .ge 115, 3) := by decide +kernel
theorem d_TypeFinder_Tokens_read_133 : decode b_TypeFinder_Tokens_read 133 = .ok (.aload_n 0, 1) := by decide +kernel
theorem d_TypeFinder_Tokens_read_134 : decode b_TypeFinder_Tokens_read 134 = .ok (.iconst 0, 1) := by decide +kernel
theorem d_TypeFinder_Tokens_read_135 : decode b_TypeFinder_Tokens_read 135 = .ok (.lconst 0, 1) := by decide +kernel
theorem d_TypeFinder_Tokens_read_136 : decode b_TypeFinder_Tokens_read 136 = .ok (.invokevirtual 63, 3) := by decide +kernel
theorem d_TypeFinder_Tokens_read_139 : decode b_TypeFinder_Tokens_read 139 = .ok (.return_, 1) := by decide +kernel
theorem d_TypeFinder_Tokens_take_0 : decode b_TypeFinder_Tokens_take 0 = .ok (.aload_n 0, 1) := by decide +kernel
theorem d_TypeFinder_Tokens_take_1 : decode b_TypeFinder_Tokens_take 1 = .ok (.getfield 9, 3) := by decide +kernel
theorem d_TypeFinder_Tokens_take_4 : decode b_TypeFinder_Tokens_take 4 = .ok (.aload_n 0, 1) := by decide +kernel
theorem d_TypeFinder_Tokens_take_5 : decode b_TypeFinder_Tokens_take 5 = .ok (.getfield 46, 3) := by decide +kernel
theorem d_TypeFinder_Tokens_take_8 : decode b_TypeFinder_Tokens_take 8 = .ok (.iaload, 1) := by decide +kernel
theorem d_TypeFinder_Tokens_take_9 : decode b_TypeFinder_Tokens_take 9 = .ok (.iload_n 1, 1) := by decide +kernel
theorem d_TypeFinder_Tokens_take_10 : decode b_TypeFinder_Tokens_take 10 = .ok (.if_icmp .eq 11, 3) := by decide +kernel
theorem d_TypeFinder_Tokens_take_13 : decode b_TypeFinder_Tokens_take 13 = .ok (.new 74, 3) := by decide +kernel
theorem d_TypeFinder_Tokens_take_16 : decode b_TypeFinder_Tokens_take 16 = .ok (.dup, 1) := by decide +kernel
theorem d_TypeFinder_Tokens_take_17 : decode b_TypeFinder_Tokens_take 17 = .ok (.invokespecial 76, 3) := by decide +kernel
theorem d_TypeFinder_Tokens_take_20 : decode b_TypeFinder_Tokens_take 20 = .ok (.athrow, 1) := by decide +kernel
theorem d_TypeFinder_Type_init_0 : decode b_TypeFinder_Type_init 0 = .ok (.aload_n 0, 1) := by decide +kernel
theorem d_TypeFinder_Type_init_1 : decode b_TypeFinder_Type_init 1 = .ok (.invokespecial 1, 3) := by decide +kernel
theorem d_TypeFinder_Type_init_4 : decode b_TypeFinder_Type_init 4 = .ok (.aload_n 0, 1) := by decide +kernel
theorem d_TypeFinder_Type_init_5 : decode b_TypeFinder_Type_init 5 = .ok (.iload_n 1, 1) := by decide +kernel
theorem d_TypeFinder_Type_init_6 : decode b_TypeFinder_Type_init 6 = .ok (.putfield 9, 3) := by decide +kernel
theorem d_TypeFinder_Type_init_9 : decode b_TypeFinder_Type_init 9 = .ok (.aload_n 0, 1) := by decide +kernel
theorem d_TypeFinder_Type_init_10 : decode b_TypeFinder_Type_init 10 = .ok (.aload_n 2, 1) := by decide +kernel
theorem d_TypeFinder_Type_init_11 : decode b_TypeFinder_Type_init 11 = .ok (.putfield 13, 3) := by decide +kernel
theorem d_TypeFinder_Type_init_14 : decode b_TypeFinder_Type_init 14 = .ok (.aload_n 0, 1) := by decide +kernel
theorem d_TypeFinder_Type_init_15 : decode b_TypeFinder_Type_init 15 = .ok (.aload_n 3, 1) := by decide +kernel
theorem d_TypeFinder_Type_init_16 : decode b_TypeFinder_Type_init 16 = .ok (.putfield 17, 3) := by decide +kernel
theorem d_TypeFinder_Type_init_19 : decode b_TypeFinder_Type_init 19 = .ok (.aload_n 0, 1) := by decide +kernel
theorem d_TypeFinder_Type_init_20 : decode b_TypeFinder_Type_init 20 = .ok (.aload 4, 2) := by decide +kernel
theorem d_TypeFinder_Type_init_22 : decode b_TypeFinder_Type_init 22 = .ok (.putfield 21, 3) := by decide +kernel
theorem d_TypeFinder_Type_init_25 : decode b_TypeFinder_Type_init 25 = .ok (.return_, 1) := by decide +kernel
theorem d_TypeFinder_Unifier_function_0 : decode b_TypeFinder_Unifier_function 0 = .ok (.new 22, 3) := by decide +kernel
theorem d_TypeFinder_Unifier_function_3 : decode b_TypeFinder_Unifier_function 3 = .ok (.dup, 1) := by decide +kernel
theorem d_TypeFinder_Unifier_function_4 : decode b_TypeFinder_Unifier_function 4 = .ok (.iconst 1, 1) := by decide +kernel
theorem d_TypeFinder_Unifier_function_5 : decode b_TypeFinder_Unifier_function 5 = .ok (.aconst_null, 1) := by decide +kernel
theorem d_TypeFinder_Unifier_function_6 : decode b_TypeFinder_Unifier_function 6 = .ok (.aload_n 0, 1) := by decide +kernel
theorem d_TypeFinder_Unifier_function_7 : decode b_TypeFinder_Unifier_function 7 = .ok (.aload_n 1, 1) := by decide +kernel
theorem d_TypeFinder_Unifier_function_8 : decode b_TypeFinder_Unifier_function 8 = .ok (.invokespecial 24, 3) := by decide +kernel
theorem d_TypeFinder_Unifier_function_11 : decode b_TypeFinder_Unifier_function 11 = .ok (.areturn, 1) := by decide +kernel
theorem d_TypeFinder_Unifier_init_0 : decode b_TypeFinder_Unifier_init 0 = .ok (.aload_n 0, 1) := by decide +kernel
theorem d_TypeFinder_Unifier_init_1 : decode b_TypeFinder_Unifier_init 1 = .ok (.invokespecial 1, 3) := by decide +kernel
end
section
theorem d_TypeFinder_Unifier_init_4 : decode b_TypeFinder_Unifier_init 4 = .ok (.aload_n 0, 1) := by decide +kernel
theorem d_TypeFinder_Unifier_init_5 : decode b_TypeFinder_Unifier_init 5 = .ok (.new 7, 3) := by decide +kernel
theorem d_TypeFinder_Unifier_init_8 : decode b_TypeFinder_Unifier_init 8 = .ok (.dup, 1) := by decide +kernel
theorem d_TypeFinder_Unifier_init_9 : decode b_TypeFinder_Unifier_init 9 = .ok (.invokespecial 9, 3) := by decide +kernel
theorem d_TypeFinder_Unifier_init_12 : decode b_TypeFinder_Unifier_init 12 = .ok (.putfield 10, 3) := by decide +kernel
theorem d_TypeFinder_Unifier_init_15 : decode b_TypeFinder_Unifier_init 15 = .ok (.aload_n 0, 1) := by decide +kernel
theorem d_TypeFinder_Unifier_init_16 : decode b_TypeFinder_Unifier_init 16 = .ok (.new 7, 3) := by decide +kernel
theorem d_TypeFinder_Unifier_init_19 : decode b_TypeFinder_Unifier_init 19 = .ok (.dup, 1) := by decide +kernel
theorem d_TypeFinder_Unifier_init_20 : decode b_TypeFinder_Unifier_init 20 = .ok (.invokespecial 9, 3) := by decide +kernel
theorem d_TypeFinder_Unifier_init_23 : decode b_TypeFinder_Unifier_init 23 = .ok (.putfield 16, 3) := by decide +kernel
theorem d_TypeFinder_Unifier_init_26 : decode b_TypeFinder_Unifier_init 26 = .ok (.aload_n 0, 1) := by decide +kernel
theorem d_TypeFinder_Unifier_init_27 : decode b_TypeFinder_Unifier_init 27 = .ok (.new 7, 3) := by decide +kernel
theorem d_TypeFinder_Unifier_init_30 : decode b_TypeFinder_Unifier_init 30 = .ok (.dup, 1) := by decide +kernel
theorem d_TypeFinder_Unifier_init_31 : decode b_TypeFinder_Unifier_init 31 = .ok (.invokespecial 9, 3) := by decide +kernel
theorem d_TypeFinder_Unifier_init_34 : decode b_TypeFinder_Unifier_init 34 = .ok (.putfield 19, 3) := by decide +kernel
theorem d_TypeFinder_Unifier_init_37 : decode b_TypeFinder_Unifier_init 37 = .ok (.return_, 1) := by decide +kernel
theorem d_TypeFinder_Writer_init_0 : decode b_TypeFinder_Writer_init 0 = .ok (.aload_n 0, 1) := by decide +kernel
theorem d_TypeFinder_Writer_init_1 : decode b_TypeFinder_Writer_init 1 = .ok (.invokespecial 3, 3) := by decide +kernel
theorem d_TypeFinder_Writer_init_4 : decode b_TypeFinder_Writer_init 4 = .ok (.aload_n 0, 1) := by decide +kernel
theorem d_TypeFinder_Writer_init_5 : decode b_TypeFinder_Writer_init 5 = .ok (.new 9, 3) := by decide +kernel
theorem d_TypeFinder_Writer_init_8 : decode b_TypeFinder_Writer_init 8 = .ok (.dup, 1) := by decide +kernel
theorem d_TypeFinder_Writer_init_9 : decode b_TypeFinder_Writer_init 9 = .ok (.invokespecial 11, 3) := by decide +kernel
theorem d_TypeFinder_Writer_init_12 : decode b_TypeFinder_Writer_init 12 = .ok (.putfield 12, 3) := by decide +kernel
theorem d_TypeFinder_Writer_init_15 : decode b_TypeFinder_Writer_init 15 = .ok (.aload_n 0, 1) := by decide +kernel
theorem d_TypeFinder_Writer_init_16 : decode b_TypeFinder_Writer_init 16 = .ok (.new 18, 3) := by decide +kernel
theorem d_TypeFinder_Writer_init_19 : decode b_TypeFinder_Writer_init 19 = .ok (.dup, 1) := by decide +kernel
theorem d_TypeFinder_Writer_init_20 : decode b_TypeFinder_Writer_init 20 = .ok (.invokespecial 20, 3) := by decide +kernel
theorem d_TypeFinder_Writer_init_23 : decode b_TypeFinder_Writer_init 23 = .ok (.putfield 21, 3) := by decide +kernel
theorem d_TypeFinder_Writer_init_26 : decode b_TypeFinder_Writer_init 26 = .ok (.return_, 1) := by decide +kernel
theorem d_TypeFinder_ask_0 : decode b_TypeFinder_ask 0 = .ok (.aload_n 0, 1) := by decide +kernel
theorem d_TypeFinder_ask_1 : decode b_TypeFinder_ask 1 = .ok (.getfield 51, 3) := by decide +kernel
theorem d_TypeFinder_ask_4 : decode b_TypeFinder_ask 4 = .ok (.bipush 60, 2) := by decide +kernel
theorem d_TypeFinder_ask_6 : decode b_TypeFinder_ask 6 = .ok (.if_icmp .lt 6, 3) := by decide +kernel
theorem d_TypeFinder_ask_12 : decode b_TypeFinder_ask 12 = .ok (.aload_n 0, 1) := by decide +kernel
theorem d_TypeFinder_ask_13 : decode b_TypeFinder_ask 13 = .ok (.getfield 16, 3) := by decide +kernel
theorem d_TypeFinder_ask_16 : decode b_TypeFinder_ask 16 = .ok (.aload_n 0, 1) := by decide +kernel
theorem d_TypeFinder_ask_17 : decode b_TypeFinder_ask 17 = .ok (.getfield 9, 3) := by decide +kernel
theorem d_TypeFinder_ask_20 : decode b_TypeFinder_ask 20 = .ok (.aload_n 0, 1) := by decide +kernel
theorem d_TypeFinder_ask_21 : decode b_TypeFinder_ask 21 = .ok (.invokevirtual 54, 3) := by decide +kernel
theorem d_TypeFinder_ask_24 : decode b_TypeFinder_ask 24 = .ok (.invokevirtual 85, 3) := by decide +kernel
theorem d_TypeFinder_declare_0 : decode b_TypeFinder_declare 0 = .ok (.aload_n 0, 1) := by decide +kernel
theorem d_TypeFinder_declare_1 : decode b_TypeFinder_declare 1 = .ok (.getfield 51, 3) := by decide +kernel
theorem d_TypeFinder_declare_4 : decode b_TypeFinder_declare 4 = .ok (.bipush 60, 2) := by decide +kernel
theorem d_TypeFinder_declare_6 : decode b_TypeFinder_declare 6 = .ok (.if_icmp .lt 6, 3) := by decide +kernel
theorem d_TypeFinder_declare_12 : decode b_TypeFinder_declare 12 = .ok (.aload_n 0, 1) := by decide +kernel
theorem d_TypeFinder_declare_13 : decode b_TypeFinder_declare 13 = .ok (.getfield 16, 3) := by decide +kernel
theorem d_TypeFinder_declare_16 : decode b_TypeFinder_declare 16 = .ok (.aload_n 0, 1) := by decide +kernel
theorem d_TypeFinder_declare_17 : decode b_TypeFinder_declare 17 = .ok (.getfield 9, 3) := by decide +kernel
theorem d_TypeFinder_declare_20 : decode b_TypeFinder_declare 20 = .ok (.aload_n 0, 1) := by decide +kernel
theorem d_TypeFinder_declare_21 : decode b_TypeFinder_declare 21 = .ok (.invokevirtual 54, 3) := by decide +kernel
theorem d_TypeFinder_declare_24 : decode b_TypeFinder_declare 24 = .ok (.invokevirtual 58, 3) := by decide +kernel
theorem d_TypeFinder_init_0 : decode b_TypeFinder_init 0 = .ok (.aload_n 0, 1) := by decide +kernel
theorem d_TypeFinder_init_1 : decode b_TypeFinder_init 1 = .ok (.invokespecial 1, 3) := by decide +kernel
theorem d_TypeFinder_init_4 : decode b_TypeFinder_init 4 = .ok (.aload_n 0, 1) := by decide +kernel
theorem d_TypeFinder_init_5 : decode b_TypeFinder_init 5 = .ok (.bipush 80, 2) := by decide +kernel
theorem d_TypeFinder_init_7 : decode b_TypeFinder_init 7 = .ok (.newarray .char, 2) := by decide +kernel
theorem d_TypeFinder_init_9 : decode b_TypeFinder_init 9 = .ok (.putfield 9, 3) := by decide +kernel
theorem d_TypeFinder_init_12 : decode b_TypeFinder_init 12 = .ok (.aload_n 0, 1) := by decide +kernel
theorem d_TypeFinder_init_13 : decode b_TypeFinder_init 13 = .ok (.new 13, 3) := by decide +kernel
theorem d_TypeFinder_init_16 : decode b_TypeFinder_init 16 = .ok (.dup, 1) := by decide +kernel
theorem d_TypeFinder_init_17 : decode b_TypeFinder_init 17 = .ok (.invokespecial 15, 3) := by decide +kernel
theorem d_TypeFinder_init_20 : decode b_TypeFinder_init 20 = .ok (.putfield 16, 3) := by decide +kernel
theorem d_TypeFinder_init_23 : decode b_TypeFinder_init 23 = .ok (.aload_n 0, 1) := by decide +kernel
theorem d_TypeFinder_init_24 : decode b_TypeFinder_init 24 = .ok (.new 20, 3) := by decide +kernel
theorem d_TypeFinder_init_27 : decode b_TypeFinder_init 27 = .ok (.dup, 1) := by decide +kernel
theorem d_TypeFinder_init_28 : decode b_TypeFinder_init 28 = .ok (.invokespecial 22, 3) := by decide +kernel
theorem d_TypeFinder_init_31 : decode b_TypeFinder_init 31 = .ok (.putfield 23, 3) := by decide +kernel
theorem d_TypeFinder_init_34 : decode b_TypeFinder_init 34 = .ok (.aload_n 0, 1) := by decide +kernel
theorem d_TypeFinder_init_35 : decode b_TypeFinder_init 35 = .ok (.new 27, 3) := by decide +kernel
theorem d_TypeFinder_init_38 : decode b_TypeFinder_init 38 = .ok (.dup, 1) := by decide +kernel
theorem d_TypeFinder_init_39 : decode b_TypeFinder_init 39 = .ok (.aload_n 0, 1) := by decide +kernel
theorem d_TypeFinder_init_40 : decode b_TypeFinder_init 40 = .ok (.getfield 23, 3) := by decide +kernel
theorem d_TypeFinder_init_43 : decode b_TypeFinder_init 43 = .ok (.invokespecial 29, 3) := by decide +kernel
theorem d_TypeFinder_init_46 : decode b_TypeFinder_init 46 = .ok (.putfield 32, 3) := by decide +kernel
theorem d_TypeFinder_init_49 : decode b_TypeFinder_init 49 = .ok (.aload_n 0, 1) := by decide +kernel
theorem d_TypeFinder_init_50 : decode b_TypeFinder_init 50 = .ok (.new 36, 3) := by decide +kernel
theorem d_TypeFinder_init_53 : decode b_TypeFinder_init 53 = .ok (.dup, 1) := by decide +kernel
theorem d_TypeFinder_init_54 : decode b_TypeFinder_init 54 = .ok (.invokespecial 38, 3) := by decide +kernel
theorem d_TypeFinder_init_57 : decode b_TypeFinder_init 57 = .ok (.putfield 39, 3) := by decide +kernel
theorem d_TypeFinder_init_60 : decode b_TypeFinder_init 60 = .ok (.return_, 1) := by decide +kernel
theorem d_TypeFinder_takeDraft_0 : decode b_TypeFinder_takeDraft 0 = .ok (.aload_n 0, 1) := by decide +kernel
theorem d_TypeFinder_takeDraft_1 : decode b_TypeFinder_takeDraft 1 = .ok (.getfield 47, 3) := by decide +kernel
theorem d_TypeFinder_takeDraft_4 : decode b_TypeFinder_takeDraft 4 = .ok (.istore_n 1, 1) := by decide +kernel
theorem d_TypeFinder_takeDraft_5 : decode b_TypeFinder_takeDraft 5 = .ok (.aload_n 0, 1) := by decide +kernel
theorem d_TypeFinder_takeDraft_6 : decode b_TypeFinder_takeDraft 6 = .ok (.iconst 0, 1) := by decide +kernel
theorem d_TypeFinder_takeDraft_7 : decode b_TypeFinder_takeDraft 7 = .ok (.putfield 47, 3) := by decide +kernel
theorem d_TypeFinder_takeDraft_10 : decode b_TypeFinder_takeDraft 10 = .ok (.aload_n 0, 1) := by decide +kernel
theorem d_TypeFinder_takeDraft_11 : decode b_TypeFinder_takeDraft 11 = .ok (.dup, 1) := by decide +kernel
theorem d_TypeFinder_takeDraft_12 : decode b_TypeFinder_takeDraft 12 = .ok (.getfield 51, 3) := by decide +kernel
theorem d_TypeFinder_takeDraft_15 : decode b_TypeFinder_takeDraft 15 = .ok (.iconst 1, 1) := by decide +kernel
theorem d_TypeFinder_takeDraft_16 : decode b_TypeFinder_takeDraft 16 = .ok (.iadd, 1) := by decide +kernel
theorem d_TypeFinder_takeDraft_17 : decode b_TypeFinder_takeDraft 17 = .ok (.putfield 51, 3) := by decide +kernel
theorem d_TypeFinder_takeDraft_20 : decode b_TypeFinder_takeDraft 20 = .ok (.iload_n 1, 1) := by decide +kernel
theorem d_TypeFinder_takeDraft_21 : decode b_TypeFinder_takeDraft 21 = .ok (.ireturn, 1) := by decide +kernel
end
section
abbrev rm_AbstractCollection_init : Room := { frames := 1, cells := 0, slots := 0, locals := 30 }
set_option maxHeartbeats 4000000 in
set_option maxRecDepth 100000 in
theorem ct_AbstractCollection_init (l : Launch) (G : xb_EV) (h0 : Nat) : xb_CT l y_AbstractCollection_init b_AbstractCollection_init 1 none rm_AbstractCollection_init G [] [.ref h0] [(h0, .inr (11, [.int 0, .null, .int 0]))] (S := Unit) (fun _ => none) (fun _ => True) (fun _ => [(h0, .inr (11, [.int 0, .null, .int 0]))]) := by
  refine xb_CT.of (by decide) "java/util/AbstractCollection" rfl ?_ (Nat.le_of_ble_eq_true rfl)
  intro p e s m args below meth c A ls Q F hr hlk hnm h hl hA hQ
  have hx := F.1.1
  have hb := F.1.2.1
  have hml := F.1.2.2.1
  have hown := F.1.2.2.2.1
  have hts := F.1.2.2.2.2
  have hK := F.2.1
  refine lv_aload_n (pc := 0) hx hb d_AbstractCollection_init_0 rfl (lv_at hl 0 rfl) ?_
  refine W.objInit hx hb hown (hts _ k_24) (hts _ k_25) (hts _ k_26) rfl (by rw [hml]; exact hl.1) rfl d_AbstractCollection_init_1 (Nat.le_of_ble_eq_true rfl) (Nat.le_of_ble_eq_true rfl) ?_
  refine W.eq (g2 := F0 m 4 ls []) rfl ?_
  exact xb_vret (pc := 4) (rm := rm_AbstractCollection_init) F hr hlk hA hQ h () trivial rfl [0] (by decide) rfl (by decide) (by decide) d_AbstractCollection_init_4
abbrev rm_AbstractList_init : Room := { frames := 2, cells := 0, slots := 0, locals := 50 }
set_option maxHeartbeats 4000000 in
set_option maxRecDepth 100000 in
theorem ct_AbstractList_init (l : Launch) (G : xb_EV) (h0 : Nat) : xb_CT l y_AbstractList_init b_AbstractList_init 1 none rm_AbstractList_init G [] [.ref h0] [(h0, .inr (11, [.int 0, .null, .int 0]))] (S := Unit) (fun _ => none) (fun _ => True) (fun _ => [(h0, .inr (11, [.int 0, .null, .int 0]))]) := by
  refine xb_CT.of (by decide) "java/util/AbstractList" rfl ?_ (Nat.le_of_ble_eq_true rfl)
  intro p e s m args below meth c A ls Q F hr hlk hnm h hl hA hQ
  have hx := F.1.1
  have hb := F.1.2.1
  have hml := F.1.2.2.1
  have hown := F.1.2.2.2.1
  have hts := F.1.2.2.2.2
  have hK := F.2.1
  refine lv_aload_n (pc := 0) hx hb d_AbstractList_init_0 rfl (lv_at hl 0 rfl) ?_
  refine xb_callI (pc := 1) (rm := rm_AbstractCollection_init) (wr := []) F h (ct_AbstractCollection_init l G h0) 0 k_27 k_28 k_29 k_30 rfl hd_AbstractCollection_init (by decide) [0] [] rfl rfl (by decide) (by decide) (by decide) xb_ss0 hl.1 rfl rfl (Nat.le_of_ble_eq_true rfl) (by decide) d_AbstractList_init_1 (fun u H locs hu h => ?_)
  have h : xb_W G A s [(h0, .inr (11, [.int 0, .null, .int 0]))] _ _ := h
  refine W.widen (k := 0) (n := 0) (by decide) (by decide) ?_
  refine W.eq (g2 := F0 m 4 ls []) rfl ?_
  refine lv_aload_n (pc := 4) hx hb d_AbstractList_init_4 rfl (lv_at hl 0 rfl) ?_
  refine lv_iconst (pc := 5) (v := 0) hx hb d_AbstractList_init_5 (by decide) ?_
  refine xb_put (pc := 6) (t0 := .int) (ws' := [(h0, .inr (11, [.int 0, .null, .int 0]))]) F h cf_11 0 rfl 0 (by decide) rfl k_31 (Or.inl rfl) (by decide +kernel) rfl rfl (Nat.le_of_ble_eq_true rfl) rfl d_AbstractList_init_6 (fun H locs h => ?_)
  exact xb_vret (pc := 9) (rm := rm_AbstractList_init) F hr hlk hA hQ h () trivial rfl [0] (by decide) rfl (by decide) (by decide) d_AbstractList_init_9
abbrev rm_ArrayList_init : Room := { frames := 3, cells := 0, slots := 0, locals := 70 }
set_option maxHeartbeats 4000000 in
set_option maxRecDepth 100000 in
theorem ct_ArrayList_init (l : Launch) (G : xb_EV) (h0 : Nat) : xb_CT l y_ArrayList_init b_ArrayList_init 1 none rm_ArrayList_init G [] [.ref h0] [(h0, .inr (11, [.int 0, .null, .int 0]))] (S := Unit) (fun _ => none) (fun _ => True) (fun _ => [(h0, .inr (11, [.int 0, .ref (G.2.2.1), .int 0]))]) := by
  refine xb_CT.of (by decide) "java/util/ArrayList" rfl ?_ (Nat.le_of_ble_eq_true rfl)
  intro p e s m args below meth c A ls Q F hr hlk hnm h hl hA hQ
  have hx := F.1.1
  have hb := F.1.2.1
  have hml := F.1.2.2.1
  have hown := F.1.2.2.2.1
  have hts := F.1.2.2.2.2
  have hK := F.2.1
  refine lv_aload_n (pc := 0) hx hb d_ArrayList_init_0 rfl (lv_at hl 0 rfl) ?_
  refine xb_callI (pc := 1) (rm := rm_AbstractList_init) (wr := []) F h (ct_AbstractList_init l G h0) 0 k_32 k_33 k_34 k_35 rfl hd_AbstractList_init (by decide) [0] [] rfl rfl (by decide) (by decide) (by decide) xb_ss0 hl.1 rfl rfl (Nat.le_of_ble_eq_true rfl) (by decide) d_ArrayList_init_1 (fun u H locs hu h => ?_)
  have h : xb_W G A s [(h0, .inr (11, [.int 0, .null, .int 0]))] _ _ := h
  refine W.widen (k := 0) (n := 0) (by decide) (by decide) ?_
  refine W.eq (g2 := F0 m 4 ls []) rfl ?_
  refine lv_aload_n (pc := 4) hx hb d_ArrayList_init_4 rfl (lv_at hl 0 rfl) ?_
  refine va_gets (pc := 5) hx hb (F.2.2.2.1.1) h.2.2 hown (hts _ k_36) (fun _ h => h) d_ArrayList_init_5 ?_
  refine xb_put (pc := 8) (t0 := (.array (.object "java/lang/Object"))) (ws' := [(h0, .inr (11, [.int 0, .ref (G.2.2.1), .int 0]))]) F h cf_11 0 rfl 1 (by decide) rfl k_37 (Or.inl rfl) (by decide +kernel) rfl rfl (Nat.le_of_ble_eq_true rfl) rfl d_ArrayList_init_8 (fun H locs h => ?_)
  exact xb_vret (pc := 11) (rm := rm_ArrayList_init) F hr hlk hA hQ h () trivial rfl [0] (by decide) rfl (by decide) (by decide) d_ArrayList_init_11
abbrev rm_AL_grow1 : Room := { frames := 1, cells := 1, slots := 10, locals := 30 }
set_option maxHeartbeats 4000000 in
set_option maxRecDepth 100000 in
theorem ct_AL_grow1 (l : Launch) (G : xb_EV) (h0 : Nat) (mc : Int32) : xb_CT l y_ArrayList_grow b_ArrayList_grow 4 (some (.array (.object "java/lang/Object"))) rm_AL_grow1 G [] [.ref h0, .int 1] [(h0, .inr (11, [.int mc, .ref (G.2.2.1), .int 0]))] (S := Nat) (fun u => some (.ref u)) (fun _ => True) (fun u => [(h0, .inr (11, [.int mc, .ref u, .int 0])), (u, .inl (G.2.1 5, 10, .inr (.inr (.inr (.inr (fun _ => none))))))]) := by
  refine xb_CT.of (by decide) "java/util/ArrayList" rfl ?_ (Nat.le_of_ble_eq_true rfl)
  intro p e s m args below meth c A ls Q F hr hlk hnm h hl hA hQ
  have hx := F.1.1
  have hb := F.1.2.1
  have hml := F.1.2.2.1
  have hown := F.1.2.2.2.1
  have hts := F.1.2.2.2.2
  have hK := F.2.1
  refine lv_aload_n (pc := 0) hx hb d_ArrayList_grow_0 rfl (lv_at hl 0 rfl) ?_
  refine xb_get (pc := 1) F h cf_11 0 rfl 1 (by decide) rfl k_37 (Or.inl rfl) rfl d_ArrayList_grow_1 ?_
  refine va_tlen (pc := 4) (v := 0) hx hb F.2.2.2.1.2.1 h.2.2 (by first | rfl | decide) d_ArrayList_grow_4 ?_
  refine lv_istore_n (pc := 5) (lv' := [(2, .int 0), (0, .ref h0), (1, .int 1)]) hx hb d_ArrayList_grow_5 rfl hl (by decide) rfl (fun ls hl => ?_)
  refine lv_iload_n (pc := 6) hx hb d_ArrayList_grow_6 rfl (lv_at hl 0 rfl) ?_
  refine lv_if_gt (pc := 7) (tgt := 20) hx hb d_ArrayList_grow_7 (by decide) (fun h => absurd h (by decide)) (fun _ => ?_)
  refine lv_aload_n (pc := 10) hx hb d_ArrayList_grow_10 rfl (lv_at hl 1 rfl) ?_
  refine xb_get (pc := 11) F h cf_11 0 rfl 1 (by decide) rfl k_37 (Or.inl rfl) rfl d_ArrayList_grow_11 ?_
  refine va_gets (pc := 14) hx hb (F.2.2.2.1.1) h.2.2 hown (hts _ k_36) (fun _ h => h) d_ArrayList_grow_14 ?_
  refine lv_acmp_eq (pc := 17) (rx := (some (G.2.2.1))) (ry := (some (G.2.2.1))) (tgt := 45) hx hb d_ArrayList_grow_17 (by decide) (fun _ => ?_) (fun h => absurd (rfl) h)
  refine lv_aload_n (pc := 45) hx hb d_ArrayList_grow_45 rfl (lv_at hl 1 rfl) ?_
  refine lv_bipush (pc := 46) (v := 10) hx hb d_ArrayList_grow_46 (by decide) ?_
  refine lv_iload_n (pc := 48) hx hb d_ArrayList_grow_48 rfl (lv_at hl 2 rfl) ?_
  refine va_mmax (pc := 49) hx hb (by rw [hml]; exact hl.1.symm) hown (hts _ k_38) (hts _ k_39) (hts _ k_40) (hts _ k_41) (Nat.le_of_ble_eq_true rfl) (Nat.le_of_ble_eq_true rfl) (by decide) (by decide) d_ArrayList_grow_49 ?_
  refine lv_topi (fun y ey => ?_)
  obtain rfl : y = 10 := ey.trans (by decide)
  refine xb_newq (pc := 52) (N' := 10) (ws' := fun q52_1 => [(h0, .inr (11, [.int mc, .ref (G.2.2.1), .int 0])), (q52_1, .inl (G.2.1 5, 10, .inr (.inr (.inr (.inr (fun _ => none))))))]) F h k_42 (by decide) (by decide) (by decide) (fun _ => rfl) (by decide) (by decide) d_ArrayList_grow_52 (fun q52_1 H h => ?_)
  refine lv_dup_x1 (pc := 55) hx hb d_ArrayList_grow_55 rfl rfl ?_
  refine xb_put (pc := 56) (t0 := (.array (.object "java/lang/Object"))) (ws' := [(h0, .inr (11, [.int mc, .ref q52_1, .int 0])), (q52_1, .inl (G.2.1 5, 10, .inr (.inr (.inr (.inr (fun _ => none))))))]) F h cf_11 0 rfl 1 (by decide) rfl k_37 (Or.inl rfl) (by decide +kernel) rfl rfl (Nat.le_of_ble_eq_true rfl) rfl d_ArrayList_grow_56 (fun H locs h => ?_)
  exact xb_aret (pc := 59) (rm := rm_AL_grow1) F hr (by first | exact Or.inl ⟨_, rfl⟩ | exact Or.inr ⟨_, rfl⟩) (by first | exact Or.inl rfl | exact Or.inr ⟨_, rfl⟩) hlk hA hQ h q52_1 trivial rfl [0, 1] (by decide) rfl (by decide) (by decide) d_ArrayList_grow_59
abbrev rm_AL_grow0 : Room := { frames := 2, cells := 1, slots := 10, locals := 53 }
set_option maxHeartbeats 4000000 in
set_option maxRecDepth 100000 in
theorem ct_AL_grow0 (l : Launch) (G : xb_EV) (h0 : Nat) (mc : Int32) : xb_CT l y_ArrayList_grow2 b_ArrayList_grow2 1 (some (.array (.object "java/lang/Object"))) rm_AL_grow0 G [] [.ref h0] [(h0, .inr (11, [.int mc, .ref (G.2.2.1), .int 0]))] (S := Nat) (fun u => some (.ref u)) (fun _ => True) (fun u => [(h0, .inr (11, [.int mc, .ref u, .int 0])), (u, .inl (G.2.1 5, 10, .inr (.inr (.inr (.inr (fun _ => none))))))]) := by
  refine xb_CT.of (by decide) "java/util/ArrayList" rfl ?_ (Nat.le_of_ble_eq_true rfl)
  intro p e s m args below meth c A ls Q F hr hlk hnm h hl hA hQ
  have hx := F.1.1
  have hb := F.1.2.1
  have hml := F.1.2.2.1
  have hown := F.1.2.2.2.1
  have hts := F.1.2.2.2.2
  have hK := F.2.1
  refine lv_aload_n (pc := 0) hx hb d_ArrayList_grow2_0 rfl (lv_at hl 0 rfl) ?_
  refine lv_aload_n (pc := 1) hx hb d_ArrayList_grow2_1 rfl (lv_at hl 0 rfl) ?_
  refine xb_get (pc := 2) F h cf_11 0 rfl 2 (by decide) rfl k_43 (Or.inl rfl) rfl d_ArrayList_grow2_2 ?_
  refine lv_iconst (pc := 5) (v := 1) hx hb d_ArrayList_grow2_5 (by decide) ?_
  refine lv_iadd (pc := 6) hx hb d_ArrayList_grow2_6 ?_
  refine lv_topi (fun y ey => ?_)
  obtain rfl : y = 1 := ey.trans (by decide)
  refine xb_callV (pc := 7) (rm := rm_AL_grow1) (wr := []) F h (ct_AL_grow1 l G h0 mc) 1 (va_recv hK h.1 (q0 := 0) (ci := 11) rfl rfl) k_44 k_45 k_46 k_47 k_48 hd_ArrayList_grow (by decide) [0] [] rfl rfl (by decide) (by decide) (by decide) xb_ss0 hl.1 rfl rfl (Nat.le_of_ble_eq_true rfl) (by decide) d_ArrayList_grow2_7 (fun u H locs hu h => ?_)
  obtain ⟨q7_1, rfl⟩ : ∃ z, z = u := ⟨_, rfl⟩
  have h : xb_W G A s [(h0, .inr (11, [.int mc, .ref q7_1, .int 0])), (q7_1, .inl (G.2.1 5, 10, .inr (.inr (.inr (.inr (fun _ => none))))))] _ _ := h
  refine W.widen (k := 1) (n := 10) (by decide) (by decide) ?_
  refine W.eq (g2 := F0 m 10 ls [.ref q7_1]) rfl ?_
  exact xb_aret (pc := 10) (rm := rm_AL_grow0) F hr (by first | exact Or.inl ⟨_, rfl⟩ | exact Or.inr ⟨_, rfl⟩) (by first | exact Or.inl rfl | exact Or.inr ⟨_, rfl⟩) hlk hA hQ h q7_1 trivial rfl [0, 1] (by decide) rfl (by decide) (by decide) d_ArrayList_grow2_10
abbrev rm_AL_addp_Name_0 : Room := { frames := 3, cells := 1, slots := 10, locals := 73 }
set_option maxHeartbeats 4000000 in
set_option maxRecDepth 100000 in
theorem ct_AL_addp_Name_0 (l : Launch) (G : xb_EV) (h0 : Nat) (v0 : Nat) (mc : Int32) (f0 : Value) (f1 : Value) (f2 : Value) : xb_CT l y_ArrayList_add b_ArrayList_add 4 none rm_AL_addp_Name_0 G [] [.ref h0, .ref v0, .ref (G.2.2.1), .int 0] [(h0, .inr (11, [.int mc, .ref (G.2.2.1), .int 0])), (v0, .inr (7, [f0, f1, f2]))] (S := Nat) (fun _ => none) (fun _ => True) (fun u => [(v0, .inr (7, [f0, f1, f2])), (h0, .inr (11, [.int mc, .ref u, .int 1])), (u, .inl (G.2.1 5, 10, .inr (.inr (.inr (.inr (va_up (fun _ => none) (Int32.toNatClampNeg 0) (some v0)))))))]) := by
  refine xb_CT.of (by decide) "java/util/ArrayList" rfl ?_ (Nat.le_of_ble_eq_true rfl)
  intro p e s m args below meth c A ls Q F hr hlk hnm h hl hA hQ
  have hx := F.1.1
  have hb := F.1.2.1
  have hml := F.1.2.2.1
  have hown := F.1.2.2.2.1
  have hts := F.1.2.2.2.2
  have hK := F.2.1
  refine lv_iload_n (pc := 0) hx hb d_ArrayList_add_0 rfl (lv_at hl 3 rfl) ?_
  refine lv_aload_n (pc := 1) hx hb d_ArrayList_add_1 rfl (lv_at hl 2 rfl) ?_
  refine va_tlen (pc := 2) (v := 0) hx hb F.2.2.2.1.2.1 h.2.2 (by first | rfl | decide) d_ArrayList_add_2 ?_
  refine lv_icmp_ne (pc := 3) (tgt := 11) hx hb d_ArrayList_add_3 (by decide) (fun h => absurd (by decide) h) (fun _ => ?_)
  refine lv_aload_n (pc := 6) hx hb d_ArrayList_add_6 rfl (lv_at hl 0 rfl) ?_
  refine xb_callV (pc := 7) (rm := rm_AL_grow0) (wr := [(v0, .inr (7, [f0, f1, f2]))]) F h (ct_AL_grow0 l G h0 mc) 0 (va_recv hK h.1 (q0 := 0) (ci := 11) rfl rfl) k_49 k_45 k_50 k_51 k_52 hd_ArrayList_grow2 (by decide) [0] [1] rfl rfl (by decide) (by decide) (by decide) xb_ss0 hl.1 rfl rfl (Nat.le_of_ble_eq_true rfl) (by decide) d_ArrayList_add_7 (fun u H locs hu h => ?_)
  obtain ⟨q7_1, rfl⟩ : ∃ z, z = u := ⟨_, rfl⟩
  have h : xb_W G A s [(v0, .inr (7, [f0, f1, f2])), (h0, .inr (11, [.int mc, .ref q7_1, .int 0])), (q7_1, .inl (G.2.1 5, 10, .inr (.inr (.inr (.inr (fun _ => none))))))] _ _ := h
  refine W.widen (k := 1) (n := 10) (by decide) (by decide) ?_
  refine W.eq (g2 := F0 m 10 ls [.ref q7_1]) rfl ?_
  refine lv_astore_n (pc := 10) (lv' := [(2, .ref q7_1), (0, .ref h0), (1, .ref v0), (3, .int 0)]) hx hb d_ArrayList_add_10 rfl hl (by decide) rfl (fun ls hl => ?_)
  refine lv_aload_n (pc := 11) hx hb d_ArrayList_add_11 rfl (lv_at hl 0 rfl) ?_
  refine lv_iload_n (pc := 12) hx hb d_ArrayList_add_12 rfl (lv_at hl 3 rfl) ?_
  refine lv_aload_n (pc := 13) hx hb d_ArrayList_add_13 rfl (lv_at hl 2 rfl) ?_
  refine xb_aast (pc := 14) (ws' := [(v0, .inr (7, [f0, f1, f2])), (h0, .inr (11, [.int mc, .ref q7_1, .int 0])), (q7_1, .inl (G.2.1 5, 10, .inr (.inr (.inr (.inr (va_up (fun _ => none) (Int32.toNatClampNeg 0) (some v0)))))))]) F h 2 0 rfl (by decide) rfl rfl (by unfold vp_in; decide) rfl d_ArrayList_add_14 (fun H locs h => ?_)
  refine lv_aload_n (pc := 15) hx hb d_ArrayList_add_15 rfl (lv_at hl 1 rfl) ?_
  refine lv_iload_n (pc := 16) hx hb d_ArrayList_add_16 rfl (lv_at hl 3 rfl) ?_
  refine lv_iconst (pc := 17) (v := 1) hx hb d_ArrayList_add_17 (by decide) ?_
  refine lv_iadd (pc := 18) hx hb d_ArrayList_add_18 ?_
  refine lv_topi (fun y ey => ?_)
  obtain rfl : y = 1 := ey.trans (by decide)
  refine xb_put (pc := 19) (t0 := .int) (ws' := [(v0, .inr (7, [f0, f1, f2])), (h0, .inr (11, [.int mc, .ref q7_1, .int 1])), (q7_1, .inl (G.2.1 5, 10, .inr (.inr (.inr (.inr (va_up (fun _ => none) (Int32.toNatClampNeg 0) (some v0)))))))]) F h cf_11 1 rfl 2 (by decide) rfl k_43 (Or.inl rfl) (by decide +kernel) rfl rfl (Nat.le_of_ble_eq_true rfl) rfl d_ArrayList_add_19 (fun H locs h => ?_)
  exact xb_vret (pc := 22) (rm := rm_AL_addp_Name_0) F hr hlk hA hQ h q7_1 trivial rfl [0, 1, 2] (by decide) rfl (by decide) (by decide) d_ArrayList_add_22
abbrev rm_AL_add_Name_0 : Room := { frames := 4, cells := 1, slots := 10, locals := 96 }
set_option maxHeartbeats 4000000 in
set_option maxRecDepth 100000 in
theorem ct_AL_add_Name_0 (l : Launch) (G : xb_EV) (h0 : Nat) (v0 : Nat) (mc : Int32) (f0 : Value) (f1 : Value) (f2 : Value) : xb_CT l y_ArrayList_add2 b_ArrayList_add2 2 (some .boolean) rm_AL_add_Name_0 G [] [.ref h0, .ref v0] [(h0, .inr (11, [.int mc, .ref (G.2.2.1), .int 0])), (v0, .inr (7, [f0, f1, f2]))] (S := Nat) (fun _ => some (.int 1)) (fun _ => True) (fun u => [(v0, .inr (7, [f0, f1, f2])), (h0, .inr (11, [.int (mc + 1), .ref u, .int 1])), (u, .inl (G.2.1 5, 10, .inr (.inr (.inr (.inr (va_up (fun _ => none) (Int32.toNatClampNeg 0) (some v0)))))))]) := by
  refine xb_CT.of (by decide) "java/util/ArrayList" rfl ?_ (Nat.le_of_ble_eq_true rfl)
  intro p e s m args below meth c A ls Q F hr hlk hnm h hl hA hQ
  have hx := F.1.1
  have hb := F.1.2.1
  have hml := F.1.2.2.1
  have hown := F.1.2.2.2.1
  have hts := F.1.2.2.2.2
  have hK := F.2.1
  refine lv_aload_n (pc := 0) hx hb d_ArrayList_add2_0 rfl (lv_at hl 0 rfl) ?_
  refine lv_dup (pc := 1) hx hb d_ArrayList_add2_1 rfl ?_
  refine xb_get (pc := 2) F h cf_11 0 rfl 0 (by decide) rfl k_54 (Or.inr k_53) rfl d_ArrayList_add2_2 ?_
  refine lv_iconst (pc := 5) (v := 1) hx hb d_ArrayList_add2_5 (by decide) ?_
  refine lv_iadd (pc := 6) hx hb d_ArrayList_add2_6 ?_
  refine xb_put (pc := 7) (t0 := .int) (ws' := [(h0, .inr (11, [.int (mc + 1), .ref (G.2.2.1), .int 0])), (v0, .inr (7, [f0, f1, f2]))]) F h cf_11 0 rfl 0 (by decide) rfl k_54 (Or.inr k_53) (by decide +kernel) rfl rfl (Nat.le_of_ble_eq_true rfl) rfl d_ArrayList_add2_7 (fun H locs h => ?_)
  refine lv_aload_n (pc := 10) hx hb d_ArrayList_add2_10 rfl (lv_at hl 0 rfl) ?_
  refine lv_aload_n (pc := 11) hx hb d_ArrayList_add2_11 rfl (lv_at hl 1 rfl) ?_
  refine lv_aload_n (pc := 12) hx hb d_ArrayList_add2_12 rfl (lv_at hl 0 rfl) ?_
  refine xb_get (pc := 13) F h cf_11 0 rfl 1 (by decide) rfl k_37 (Or.inl rfl) rfl d_ArrayList_add2_13 ?_
  refine lv_aload_n (pc := 16) hx hb d_ArrayList_add2_16 rfl (lv_at hl 0 rfl) ?_
  refine xb_get (pc := 17) F h cf_11 0 rfl 2 (by decide) rfl k_43 (Or.inl rfl) rfl d_ArrayList_add2_17 ?_
  refine xb_callV (pc := 20) (rm := rm_AL_addp_Name_0) (wr := []) F h (ct_AL_addp_Name_0 l G h0 v0 (mc + 1) f0 f1 f2) 3 (va_recv hK h.1 (q0 := 0) (ci := 11) rfl rfl) k_55 k_45 k_56 k_57 k_58 hd_ArrayList_add (by decide) [0, 1] [] rfl rfl (by decide) (by decide) (by decide) xb_ss0 hl.1 rfl rfl (Nat.le_of_ble_eq_true rfl) (by decide) d_ArrayList_add2_20 (fun u H locs hu h => ?_)
  obtain ⟨q20_1, rfl⟩ : ∃ z, z = u := ⟨_, rfl⟩
  have h : xb_W G A s [(v0, .inr (7, [f0, f1, f2])), (h0, .inr (11, [.int (mc + 1), .ref q20_1, .int 1])), (q20_1, .inl (G.2.1 5, 10, .inr (.inr (.inr (.inr (va_up (fun _ => none) (Int32.toNatClampNeg 0) (some v0)))))))] _ _ := h
  refine W.widen (k := 1) (n := 10) (by decide) (by decide) ?_
  refine W.eq (g2 := F0 m 23 ls []) rfl ?_
  refine lv_iconst (pc := 23) (v := 1) hx hb d_ArrayList_add2_23 (by decide) ?_
  exact xb_zret (pc := 24) (rm := rm_AL_add_Name_0) F hr hlk (by decide) hA hQ h q20_1 trivial rfl [0, 1, 2] (by decide) rfl (by decide) (by decide) d_ArrayList_add2_24
abbrev rm_AL_addp_Name_1 : Room := { frames := 0, cells := 0, slots := 0, locals := 30 }
set_option maxHeartbeats 4000000 in
set_option maxRecDepth 100000 in
theorem ct_AL_addp_Name_1 (l : Launch) (G : xb_EV) (h0 : Nat) (r0 : Nat) (v0 : Nat) (mc : Int32) (fr : Nat → Option Nat) (f0 : Value) (f1 : Value) (f2 : Value) : xb_CT l y_ArrayList_add b_ArrayList_add 4 none rm_AL_addp_Name_1 G [] [.ref h0, .ref v0, .ref r0, .int 1] [(h0, .inr (11, [.int mc, .ref r0, .int 1])), (r0, .inl (G.2.1 5, 10, .inr (.inr (.inr (.inr (fr)))))), (v0, .inr (7, [f0, f1, f2]))] (S := Unit) (fun _ => none) (fun _ => True) (fun _ => [(h0, .inr (11, [.int mc, .ref r0, .int 2])), (r0, .inl (G.2.1 5, 10, .inr (.inr (.inr (.inr (va_up (fr) (Int32.toNatClampNeg 1) (some v0))))))), (v0, .inr (7, [f0, f1, f2]))]) := by
  refine xb_CT.of (by decide) "java/util/ArrayList" rfl ?_ (Nat.le_of_ble_eq_true rfl)
  intro p e s m args below meth c A ls Q F hr hlk hnm h hl hA hQ
  have hx := F.1.1
  have hb := F.1.2.1
  have hml := F.1.2.2.1
  have hown := F.1.2.2.2.1
  have hts := F.1.2.2.2.2
  have hK := F.2.1
  refine lv_iload_n (pc := 0) hx hb d_ArrayList_add_0 rfl (lv_at hl 3 rfl) ?_
  refine lv_aload_n (pc := 1) hx hb d_ArrayList_add_1 rfl (lv_at hl 2 rfl) ?_
  refine va_alen (pc := 2) (v := 10) hx hb hK h.1 1 5 rfl rfl (by first | rfl | decide) d_ArrayList_add_2 ?_
  refine lv_icmp_ne (pc := 3) (tgt := 11) hx hb d_ArrayList_add_3 (by decide) (fun _ => ?_) (fun h => absurd h (by decide))
  refine lv_aload_n (pc := 11) hx hb d_ArrayList_add_11 rfl (lv_at hl 2 rfl) ?_
  refine lv_iload_n (pc := 12) hx hb d_ArrayList_add_12 rfl (lv_at hl 3 rfl) ?_
  refine lv_aload_n (pc := 13) hx hb d_ArrayList_add_13 rfl (lv_at hl 1 rfl) ?_
  refine xb_aast (pc := 14) (ws' := [(h0, .inr (11, [.int mc, .ref r0, .int 1])), (r0, .inl (G.2.1 5, 10, .inr (.inr (.inr (.inr (va_up (fr) (Int32.toNatClampNeg 1) (some v0))))))), (v0, .inr (7, [f0, f1, f2]))]) F h 1 2 rfl (by decide) rfl rfl (by unfold vp_in; decide) rfl d_ArrayList_add_14 (fun H locs h => ?_)
  refine lv_aload_n (pc := 15) hx hb d_ArrayList_add_15 rfl (lv_at hl 0 rfl) ?_
  refine lv_iload_n (pc := 16) hx hb d_ArrayList_add_16 rfl (lv_at hl 3 rfl) ?_
  refine lv_iconst (pc := 17) (v := 1) hx hb d_ArrayList_add_17 (by decide) ?_
  refine lv_iadd (pc := 18) hx hb d_ArrayList_add_18 ?_
  refine lv_topi (fun y ey => ?_)
  obtain rfl : y = 2 := ey.trans (by decide)
  refine xb_put (pc := 19) (t0 := .int) (ws' := [(h0, .inr (11, [.int mc, .ref r0, .int 2])), (r0, .inl (G.2.1 5, 10, .inr (.inr (.inr (.inr (va_up (fr) (Int32.toNatClampNeg 1) (some v0))))))), (v0, .inr (7, [f0, f1, f2]))]) F h cf_11 0 rfl 2 (by decide) rfl k_43 (Or.inl rfl) (by decide +kernel) rfl rfl (Nat.le_of_ble_eq_true rfl) rfl d_ArrayList_add_19 (fun H locs h => ?_)
  exact xb_vret (pc := 22) (rm := rm_AL_addp_Name_1) F hr hlk hA hQ h () trivial rfl [0, 1, 2] (by decide) rfl (by decide) (by decide) d_ArrayList_add_22
abbrev rm_AL_add_Name_1 : Room := { frames := 1, cells := 0, slots := 0, locals := 53 }
set_option maxHeartbeats 4000000 in
set_option maxRecDepth 100000 in
theorem ct_AL_add_Name_1 (l : Launch) (G : xb_EV) (h0 : Nat) (r0 : Nat) (v0 : Nat) (mc : Int32) (fr : Nat → Option Nat) (f0 : Value) (f1 : Value) (f2 : Value) : xb_CT l y_ArrayList_add2 b_ArrayList_add2 2 (some .boolean) rm_AL_add_Name_1 G [] [.ref h0, .ref v0] [(h0, .inr (11, [.int mc, .ref r0, .int 1])), (r0, .inl (G.2.1 5, 10, .inr (.inr (.inr (.inr (fr)))))), (v0, .inr (7, [f0, f1, f2]))] (S := Unit) (fun _ => some (.int 1)) (fun _ => True) (fun _ => [(h0, .inr (11, [.int (mc + 1), .ref r0, .int 2])), (r0, .inl (G.2.1 5, 10, .inr (.inr (.inr (.inr (va_up (fr) (Int32.toNatClampNeg 1) (some v0))))))), (v0, .inr (7, [f0, f1, f2]))]) := by
  refine xb_CT.of (by decide) "java/util/ArrayList" rfl ?_ (Nat.le_of_ble_eq_true rfl)
  intro p e s m args below meth c A ls Q F hr hlk hnm h hl hA hQ
  have hx := F.1.1
  have hb := F.1.2.1
  have hml := F.1.2.2.1
  have hown := F.1.2.2.2.1
  have hts := F.1.2.2.2.2
  have hK := F.2.1
  refine lv_aload_n (pc := 0) hx hb d_ArrayList_add2_0 rfl (lv_at hl 0 rfl) ?_
  refine lv_dup (pc := 1) hx hb d_ArrayList_add2_1 rfl ?_
  refine xb_get (pc := 2) F h cf_11 0 rfl 0 (by decide) rfl k_54 (Or.inr k_53) rfl d_ArrayList_add2_2 ?_
  refine lv_iconst (pc := 5) (v := 1) hx hb d_ArrayList_add2_5 (by decide) ?_
  refine lv_iadd (pc := 6) hx hb d_ArrayList_add2_6 ?_
  refine xb_put (pc := 7) (t0 := .int) (ws' := [(h0, .inr (11, [.int (mc + 1), .ref r0, .int 1])), (r0, .inl (G.2.1 5, 10, .inr (.inr (.inr (.inr (fr)))))), (v0, .inr (7, [f0, f1, f2]))]) F h cf_11 0 rfl 0 (by decide) rfl k_54 (Or.inr k_53) (by decide +kernel) rfl rfl (Nat.le_of_ble_eq_true rfl) rfl d_ArrayList_add2_7 (fun H locs h => ?_)
  refine lv_aload_n (pc := 10) hx hb d_ArrayList_add2_10 rfl (lv_at hl 0 rfl) ?_
  refine lv_aload_n (pc := 11) hx hb d_ArrayList_add2_11 rfl (lv_at hl 1 rfl) ?_
  refine lv_aload_n (pc := 12) hx hb d_ArrayList_add2_12 rfl (lv_at hl 0 rfl) ?_
  refine xb_get (pc := 13) F h cf_11 0 rfl 1 (by decide) rfl k_37 (Or.inl rfl) rfl d_ArrayList_add2_13 ?_
  refine lv_aload_n (pc := 16) hx hb d_ArrayList_add2_16 rfl (lv_at hl 0 rfl) ?_
  refine xb_get (pc := 17) F h cf_11 0 rfl 2 (by decide) rfl k_43 (Or.inl rfl) rfl d_ArrayList_add2_17 ?_
  refine xb_callV (pc := 20) (rm := rm_AL_addp_Name_1) (wr := []) F h (ct_AL_addp_Name_1 l G h0 r0 v0 (mc + 1) fr f0 f1 f2) 3 (va_recv hK h.1 (q0 := 0) (ci := 11) rfl rfl) k_55 k_45 k_56 k_57 k_58 hd_ArrayList_add (by decide) [0, 1, 2] [] rfl rfl (by decide) (by decide) (by decide) xb_ss0 hl.1 rfl rfl (Nat.le_of_ble_eq_true rfl) (by decide) d_ArrayList_add2_20 (fun u H locs hu h => ?_)
  have h : xb_W G A s [(h0, .inr (11, [.int (mc + 1), .ref r0, .int 2])), (r0, .inl (G.2.1 5, 10, .inr (.inr (.inr (.inr (va_up (fr) (Int32.toNatClampNeg 1) (some v0))))))), (v0, .inr (7, [f0, f1, f2]))] _ _ := h
  refine W.widen (k := 0) (n := 0) (by decide) (by decide) ?_
  refine W.eq (g2 := F0 m 23 ls []) rfl ?_
  refine lv_iconst (pc := 23) (v := 1) hx hb d_ArrayList_add2_23 (by decide) ?_
  exact xb_zret (pc := 24) (rm := rm_AL_add_Name_1) F hr hlk (by decide) hA hQ h () trivial rfl [0, 1, 2] (by decide) rfl (by decide) (by decide) d_ArrayList_add2_24
abbrev rm_AL_addp_Name_2 : Room := { frames := 0, cells := 0, slots := 0, locals := 30 }
set_option maxHeartbeats 4000000 in
set_option maxRecDepth 100000 in
theorem ct_AL_addp_Name_2 (l : Launch) (G : xb_EV) (h0 : Nat) (r0 : Nat) (v0 : Nat) (mc : Int32) (fr : Nat → Option Nat) (f0 : Value) (f1 : Value) (f2 : Value) : xb_CT l y_ArrayList_add b_ArrayList_add 4 none rm_AL_addp_Name_2 G [] [.ref h0, .ref v0, .ref r0, .int 2] [(h0, .inr (11, [.int mc, .ref r0, .int 2])), (r0, .inl (G.2.1 5, 10, .inr (.inr (.inr (.inr (fr)))))), (v0, .inr (7, [f0, f1, f2]))] (S := Unit) (fun _ => none) (fun _ => True) (fun _ => [(h0, .inr (11, [.int mc, .ref r0, .int 3])), (r0, .inl (G.2.1 5, 10, .inr (.inr (.inr (.inr (va_up (fr) (Int32.toNatClampNeg 2) (some v0))))))), (v0, .inr (7, [f0, f1, f2]))]) := by
  refine xb_CT.of (by decide) "java/util/ArrayList" rfl ?_ (Nat.le_of_ble_eq_true rfl)
  intro p e s m args below meth c A ls Q F hr hlk hnm h hl hA hQ
  have hx := F.1.1
  have hb := F.1.2.1
  have hml := F.1.2.2.1
  have hown := F.1.2.2.2.1
  have hts := F.1.2.2.2.2
  have hK := F.2.1
  refine lv_iload_n (pc := 0) hx hb d_ArrayList_add_0 rfl (lv_at hl 3 rfl) ?_
  refine lv_aload_n (pc := 1) hx hb d_ArrayList_add_1 rfl (lv_at hl 2 rfl) ?_
  refine va_alen (pc := 2) (v := 10) hx hb hK h.1 1 5 rfl rfl (by first | rfl | decide) d_ArrayList_add_2 ?_
  refine lv_icmp_ne (pc := 3) (tgt := 11) hx hb d_ArrayList_add_3 (by decide) (fun _ => ?_) (fun h => absurd h (by decide))
  refine lv_aload_n (pc := 11) hx hb d_ArrayList_add_11 rfl (lv_at hl 2 rfl) ?_
  refine lv_iload_n (pc := 12) hx hb d_ArrayList_add_12 rfl (lv_at hl 3 rfl) ?_
  refine lv_aload_n (pc := 13) hx hb d_ArrayList_add_13 rfl (lv_at hl 1 rfl) ?_
  refine xb_aast (pc := 14) (ws' := [(h0, .inr (11, [.int mc, .ref r0, .int 2])), (r0, .inl (G.2.1 5, 10, .inr (.inr (.inr (.inr (va_up (fr) (Int32.toNatClampNeg 2) (some v0))))))), (v0, .inr (7, [f0, f1, f2]))]) F h 1 2 rfl (by decide) rfl rfl (by unfold vp_in; decide) rfl d_ArrayList_add_14 (fun H locs h => ?_)
  refine lv_aload_n (pc := 15) hx hb d_ArrayList_add_15 rfl (lv_at hl 0 rfl) ?_
  refine lv_iload_n (pc := 16) hx hb d_ArrayList_add_16 rfl (lv_at hl 3 rfl) ?_
  refine lv_iconst (pc := 17) (v := 1) hx hb d_ArrayList_add_17 (by decide) ?_
  refine lv_iadd (pc := 18) hx hb d_ArrayList_add_18 ?_
  refine lv_topi (fun y ey => ?_)
  obtain rfl : y = 3 := ey.trans (by decide)
  refine xb_put (pc := 19) (t0 := .int) (ws' := [(h0, .inr (11, [.int mc, .ref r0, .int 3])), (r0, .inl (G.2.1 5, 10, .inr (.inr (.inr (.inr (va_up (fr) (Int32.toNatClampNeg 2) (some v0))))))), (v0, .inr (7, [f0, f1, f2]))]) F h cf_11 0 rfl 2 (by decide) rfl k_43 (Or.inl rfl) (by decide +kernel) rfl rfl (Nat.le_of_ble_eq_true rfl) rfl d_ArrayList_add_19 (fun H locs h => ?_)
  exact xb_vret (pc := 22) (rm := rm_AL_addp_Name_2) F hr hlk hA hQ h () trivial rfl [0, 1, 2] (by decide) rfl (by decide) (by decide) d_ArrayList_add_22
abbrev rm_AL_add_Name_2 : Room := { frames := 1, cells := 0, slots := 0, locals := 53 }
set_option maxHeartbeats 4000000 in
set_option maxRecDepth 100000 in
theorem ct_AL_add_Name_2 (l : Launch) (G : xb_EV) (h0 : Nat) (r0 : Nat) (v0 : Nat) (mc : Int32) (fr : Nat → Option Nat) (f0 : Value) (f1 : Value) (f2 : Value) : xb_CT l y_ArrayList_add2 b_ArrayList_add2 2 (some .boolean) rm_AL_add_Name_2 G [] [.ref h0, .ref v0] [(h0, .inr (11, [.int mc, .ref r0, .int 2])), (r0, .inl (G.2.1 5, 10, .inr (.inr (.inr (.inr (fr)))))), (v0, .inr (7, [f0, f1, f2]))] (S := Unit) (fun _ => some (.int 1)) (fun _ => True) (fun _ => [(h0, .inr (11, [.int (mc + 1), .ref r0, .int 3])), (r0, .inl (G.2.1 5, 10, .inr (.inr (.inr (.inr (va_up (fr) (Int32.toNatClampNeg 2) (some v0))))))), (v0, .inr (7, [f0, f1, f2]))]) := by
  refine xb_CT.of (by decide) "java/util/ArrayList" rfl ?_ (Nat.le_of_ble_eq_true rfl)
  intro p e s m args below meth c A ls Q F hr hlk hnm h hl hA hQ
  have hx := F.1.1
  have hb := F.1.2.1
  have hml := F.1.2.2.1
  have hown := F.1.2.2.2.1
  have hts := F.1.2.2.2.2
  have hK := F.2.1
  refine lv_aload_n (pc := 0) hx hb d_ArrayList_add2_0 rfl (lv_at hl 0 rfl) ?_
  refine lv_dup (pc := 1) hx hb d_ArrayList_add2_1 rfl ?_
  refine xb_get (pc := 2) F h cf_11 0 rfl 0 (by decide) rfl k_54 (Or.inr k_53) rfl d_ArrayList_add2_2 ?_
  refine lv_iconst (pc := 5) (v := 1) hx hb d_ArrayList_add2_5 (by decide) ?_
  refine lv_iadd (pc := 6) hx hb d_ArrayList_add2_6 ?_
  refine xb_put (pc := 7) (t0 := .int) (ws' := [(h0, .inr (11, [.int (mc + 1), .ref r0, .int 2])), (r0, .inl (G.2.1 5, 10, .inr (.inr (.inr (.inr (fr)))))), (v0, .inr (7, [f0, f1, f2]))]) F h cf_11 0 rfl 0 (by decide) rfl k_54 (Or.inr k_53) (by decide +kernel) rfl rfl (Nat.le_of_ble_eq_true rfl) rfl d_ArrayList_add2_7 (fun H locs h => ?_)
  refine lv_aload_n (pc := 10) hx hb d_ArrayList_add2_10 rfl (lv_at hl 0 rfl) ?_
  refine lv_aload_n (pc := 11) hx hb d_ArrayList_add2_11 rfl (lv_at hl 1 rfl) ?_
  refine lv_aload_n (pc := 12) hx hb d_ArrayList_add2_12 rfl (lv_at hl 0 rfl) ?_
  refine xb_get (pc := 13) F h cf_11 0 rfl 1 (by decide) rfl k_37 (Or.inl rfl) rfl d_ArrayList_add2_13 ?_
  refine lv_aload_n (pc := 16) hx hb d_ArrayList_add2_16 rfl (lv_at hl 0 rfl) ?_
  refine xb_get (pc := 17) F h cf_11 0 rfl 2 (by decide) rfl k_43 (Or.inl rfl) rfl d_ArrayList_add2_17 ?_
  refine xb_callV (pc := 20) (rm := rm_AL_addp_Name_2) (wr := []) F h (ct_AL_addp_Name_2 l G h0 r0 v0 (mc + 1) fr f0 f1 f2) 3 (va_recv hK h.1 (q0 := 0) (ci := 11) rfl rfl) k_55 k_45 k_56 k_57 k_58 hd_ArrayList_add (by decide) [0, 1, 2] [] rfl rfl (by decide) (by decide) (by decide) xb_ss0 hl.1 rfl rfl (Nat.le_of_ble_eq_true rfl) (by decide) d_ArrayList_add2_20 (fun u H locs hu h => ?_)
  have h : xb_W G A s [(h0, .inr (11, [.int (mc + 1), .ref r0, .int 3])), (r0, .inl (G.2.1 5, 10, .inr (.inr (.inr (.inr (va_up (fr) (Int32.toNatClampNeg 2) (some v0))))))), (v0, .inr (7, [f0, f1, f2]))] _ _ := h
  refine W.widen (k := 0) (n := 0) (by decide) (by decide) ?_
  refine W.eq (g2 := F0 m 23 ls []) rfl ?_
  refine lv_iconst (pc := 23) (v := 1) hx hb d_ArrayList_add2_23 (by decide) ?_
  exact xb_zret (pc := 24) (rm := rm_AL_add_Name_2) F hr hlk (by decide) hA hQ h () trivial rfl [0, 1, 2] (by decide) rfl (by decide) (by decide) d_ArrayList_add2_24
abbrev rm_AL_addp_Name_3 : Room := { frames := 0, cells := 0, slots := 0, locals := 30 }
set_option maxHeartbeats 4000000 in
set_option maxRecDepth 100000 in
theorem ct_AL_addp_Name_3 (l : Launch) (G : xb_EV) (h0 : Nat) (r0 : Nat) (v0 : Nat) (mc : Int32) (fr : Nat → Option Nat) (f0 : Value) (f1 : Value) (f2 : Value) : xb_CT l y_ArrayList_add b_ArrayList_add 4 none rm_AL_addp_Name_3 G [] [.ref h0, .ref v0, .ref r0, .int 3] [(h0, .inr (11, [.int mc, .ref r0, .int 3])), (r0, .inl (G.2.1 5, 10, .inr (.inr (.inr (.inr (fr)))))), (v0, .inr (7, [f0, f1, f2]))] (S := Unit) (fun _ => none) (fun _ => True) (fun _ => [(h0, .inr (11, [.int mc, .ref r0, .int 4])), (r0, .inl (G.2.1 5, 10, .inr (.inr (.inr (.inr (va_up (fr) (Int32.toNatClampNeg 3) (some v0))))))), (v0, .inr (7, [f0, f1, f2]))]) := by
  refine xb_CT.of (by decide) "java/util/ArrayList" rfl ?_ (Nat.le_of_ble_eq_true rfl)
  intro p e s m args below meth c A ls Q F hr hlk hnm h hl hA hQ
  have hx := F.1.1
  have hb := F.1.2.1
  have hml := F.1.2.2.1
  have hown := F.1.2.2.2.1
  have hts := F.1.2.2.2.2
  have hK := F.2.1
  refine lv_iload_n (pc := 0) hx hb d_ArrayList_add_0 rfl (lv_at hl 3 rfl) ?_
  refine lv_aload_n (pc := 1) hx hb d_ArrayList_add_1 rfl (lv_at hl 2 rfl) ?_
  refine va_alen (pc := 2) (v := 10) hx hb hK h.1 1 5 rfl rfl (by first | rfl | decide) d_ArrayList_add_2 ?_
  refine lv_icmp_ne (pc := 3) (tgt := 11) hx hb d_ArrayList_add_3 (by decide) (fun _ => ?_) (fun h => absurd h (by decide))
  refine lv_aload_n (pc := 11) hx hb d_ArrayList_add_11 rfl (lv_at hl 2 rfl) ?_
  refine lv_iload_n (pc := 12) hx hb d_ArrayList_add_12 rfl (lv_at hl 3 rfl) ?_
  refine lv_aload_n (pc := 13) hx hb d_ArrayList_add_13 rfl (lv_at hl 1 rfl) ?_
  refine xb_aast (pc := 14) (ws' := [(h0, .inr (11, [.int mc, .ref r0, .int 3])), (r0, .inl (G.2.1 5, 10, .inr (.inr (.inr (.inr (va_up (fr) (Int32.toNatClampNeg 3) (some v0))))))), (v0, .inr (7, [f0, f1, f2]))]) F h 1 2 rfl (by decide) rfl rfl (by unfold vp_in; decide) rfl d_ArrayList_add_14 (fun H locs h => ?_)
  refine lv_aload_n (pc := 15) hx hb d_ArrayList_add_15 rfl (lv_at hl 0 rfl) ?_
  refine lv_iload_n (pc := 16) hx hb d_ArrayList_add_16 rfl (lv_at hl 3 rfl) ?_
  refine lv_iconst (pc := 17) (v := 1) hx hb d_ArrayList_add_17 (by decide) ?_
  refine lv_iadd (pc := 18) hx hb d_ArrayList_add_18 ?_
  refine lv_topi (fun y ey => ?_)
  obtain rfl : y = 4 := ey.trans (by decide)
  refine xb_put (pc := 19) (t0 := .int) (ws' := [(h0, .inr (11, [.int mc, .ref r0, .int 4])), (r0, .inl (G.2.1 5, 10, .inr (.inr (.inr (.inr (va_up (fr) (Int32.toNatClampNeg 3) (some v0))))))), (v0, .inr (7, [f0, f1, f2]))]) F h cf_11 0 rfl 2 (by decide) rfl k_43 (Or.inl rfl) (by decide +kernel) rfl rfl (Nat.le_of_ble_eq_true rfl) rfl d_ArrayList_add_19 (fun H locs h => ?_)
  exact xb_vret (pc := 22) (rm := rm_AL_addp_Name_3) F hr hlk hA hQ h () trivial rfl [0, 1, 2] (by decide) rfl (by decide) (by decide) d_ArrayList_add_22
abbrev rm_AL_add_Name_3 : Room := { frames := 1, cells := 0, slots := 0, locals := 53 }
set_option maxHeartbeats 4000000 in
set_option maxRecDepth 100000 in
theorem ct_AL_add_Name_3 (l : Launch) (G : xb_EV) (h0 : Nat) (r0 : Nat) (v0 : Nat) (mc : Int32) (fr : Nat → Option Nat) (f0 : Value) (f1 : Value) (f2 : Value) : xb_CT l y_ArrayList_add2 b_ArrayList_add2 2 (some .boolean) rm_AL_add_Name_3 G [] [.ref h0, .ref v0] [(h0, .inr (11, [.int mc, .ref r0, .int 3])), (r0, .inl (G.2.1 5, 10, .inr (.inr (.inr (.inr (fr)))))), (v0, .inr (7, [f0, f1, f2]))] (S := Unit) (fun _ => some (.int 1)) (fun _ => True) (fun _ => [(h0, .inr (11, [.int (mc + 1), .ref r0, .int 4])), (r0, .inl (G.2.1 5, 10, .inr (.inr (.inr (.inr (va_up (fr) (Int32.toNatClampNeg 3) (some v0))))))), (v0, .inr (7, [f0, f1, f2]))]) := by
  refine xb_CT.of (by decide) "java/util/ArrayList" rfl ?_ (Nat.le_of_ble_eq_true rfl)
  intro p e s m args below meth c A ls Q F hr hlk hnm h hl hA hQ
  have hx := F.1.1
  have hb := F.1.2.1
  have hml := F.1.2.2.1
  have hown := F.1.2.2.2.1
  have hts := F.1.2.2.2.2
  have hK := F.2.1
  refine lv_aload_n (pc := 0) hx hb d_ArrayList_add2_0 rfl (lv_at hl 0 rfl) ?_
  refine lv_dup (pc := 1) hx hb d_ArrayList_add2_1 rfl ?_
  refine xb_get (pc := 2) F h cf_11 0 rfl 0 (by decide) rfl k_54 (Or.inr k_53) rfl d_ArrayList_add2_2 ?_
  refine lv_iconst (pc := 5) (v := 1) hx hb d_ArrayList_add2_5 (by decide) ?_
  refine lv_iadd (pc := 6) hx hb d_ArrayList_add2_6 ?_
  refine xb_put (pc := 7) (t0 := .int) (ws' := [(h0, .inr (11, [.int (mc + 1), .ref r0, .int 3])), (r0, .inl (G.2.1 5, 10, .inr (.inr (.inr (.inr (fr)))))), (v0, .inr (7, [f0, f1, f2]))]) F h cf_11 0 rfl 0 (by decide) rfl k_54 (Or.inr k_53) (by decide +kernel) rfl rfl (Nat.le_of_ble_eq_true rfl) rfl d_ArrayList_add2_7 (fun H locs h => ?_)
  refine lv_aload_n (pc := 10) hx hb d_ArrayList_add2_10 rfl (lv_at hl 0 rfl) ?_
  refine lv_aload_n (pc := 11) hx hb d_ArrayList_add2_11 rfl (lv_at hl 1 rfl) ?_
  refine lv_aload_n (pc := 12) hx hb d_ArrayList_add2_12 rfl (lv_at hl 0 rfl) ?_
  refine xb_get (pc := 13) F h cf_11 0 rfl 1 (by decide) rfl k_37 (Or.inl rfl) rfl d_ArrayList_add2_13 ?_
  refine lv_aload_n (pc := 16) hx hb d_ArrayList_add2_16 rfl (lv_at hl 0 rfl) ?_
  refine xb_get (pc := 17) F h cf_11 0 rfl 2 (by decide) rfl k_43 (Or.inl rfl) rfl d_ArrayList_add2_17 ?_
  refine xb_callV (pc := 20) (rm := rm_AL_addp_Name_3) (wr := []) F h (ct_AL_addp_Name_3 l G h0 r0 v0 (mc + 1) fr f0 f1 f2) 3 (va_recv hK h.1 (q0 := 0) (ci := 11) rfl rfl) k_55 k_45 k_56 k_57 k_58 hd_ArrayList_add (by decide) [0, 1, 2] [] rfl rfl (by decide) (by decide) (by decide) xb_ss0 hl.1 rfl rfl (Nat.le_of_ble_eq_true rfl) (by decide) d_ArrayList_add2_20 (fun u H locs hu h => ?_)
  have h : xb_W G A s [(h0, .inr (11, [.int (mc + 1), .ref r0, .int 4])), (r0, .inl (G.2.1 5, 10, .inr (.inr (.inr (.inr (va_up (fr) (Int32.toNatClampNeg 3) (some v0))))))), (v0, .inr (7, [f0, f1, f2]))] _ _ := h
  refine W.widen (k := 0) (n := 0) (by decide) (by decide) ?_
  refine W.eq (g2 := F0 m 23 ls []) rfl ?_
  refine lv_iconst (pc := 23) (v := 1) hx hb d_ArrayList_add2_23 (by decide) ?_
  exact xb_zret (pc := 24) (rm := rm_AL_add_Name_3) F hr hlk (by decide) hA hQ h () trivial rfl [0, 1, 2] (by decide) rfl (by decide) (by decide) d_ArrayList_add2_24
abbrev rm_AL_addp_Name_4 : Room := { frames := 0, cells := 0, slots := 0, locals := 30 }
set_option maxHeartbeats 4000000 in
set_option maxRecDepth 100000 in
theorem ct_AL_addp_Name_4 (l : Launch) (G : xb_EV) (h0 : Nat) (r0 : Nat) (v0 : Nat) (mc : Int32) (fr : Nat → Option Nat) (f0 : Value) (f1 : Value) (f2 : Value) : xb_CT l y_ArrayList_add b_ArrayList_add 4 none rm_AL_addp_Name_4 G [] [.ref h0, .ref v0, .ref r0, .int 4] [(h0, .inr (11, [.int mc, .ref r0, .int 4])), (r0, .inl (G.2.1 5, 10, .inr (.inr (.inr (.inr (fr)))))), (v0, .inr (7, [f0, f1, f2]))] (S := Unit) (fun _ => none) (fun _ => True) (fun _ => [(h0, .inr (11, [.int mc, .ref r0, .int 5])), (r0, .inl (G.2.1 5, 10, .inr (.inr (.inr (.inr (va_up (fr) (Int32.toNatClampNeg 4) (some v0))))))), (v0, .inr (7, [f0, f1, f2]))]) := by
  refine xb_CT.of (by decide) "java/util/ArrayList" rfl ?_ (Nat.le_of_ble_eq_true rfl)
  intro p e s m args below meth c A ls Q F hr hlk hnm h hl hA hQ
  have hx := F.1.1
  have hb := F.1.2.1
  have hml := F.1.2.2.1
  have hown := F.1.2.2.2.1
  have hts := F.1.2.2.2.2
  have hK := F.2.1
  refine lv_iload_n (pc := 0) hx hb d_ArrayList_add_0 rfl (lv_at hl 3 rfl) ?_
  refine lv_aload_n (pc := 1) hx hb d_ArrayList_add_1 rfl (lv_at hl 2 rfl) ?_
  refine va_alen (pc := 2) (v := 10) hx hb hK h.1 1 5 rfl rfl (by first | rfl | decide) d_ArrayList_add_2 ?_
  refine lv_icmp_ne (pc := 3) (tgt := 11) hx hb d_ArrayList_add_3 (by decide) (fun _ => ?_) (fun h => absurd h (by decide))
  refine lv_aload_n (pc := 11) hx hb d_ArrayList_add_11 rfl (lv_at hl 2 rfl) ?_
  refine lv_iload_n (pc := 12) hx hb d_ArrayList_add_12 rfl (lv_at hl 3 rfl) ?_
  refine lv_aload_n (pc := 13) hx hb d_ArrayList_add_13 rfl (lv_at hl 1 rfl) ?_
  refine xb_aast (pc := 14) (ws' := [(h0, .inr (11, [.int mc, .ref r0, .int 4])), (r0, .inl (G.2.1 5, 10, .inr (.inr (.inr (.inr (va_up (fr) (Int32.toNatClampNeg 4) (some v0))))))), (v0, .inr (7, [f0, f1, f2]))]) F h 1 2 rfl (by decide) rfl rfl (by unfold vp_in; decide) rfl d_ArrayList_add_14 (fun H locs h => ?_)
  refine lv_aload_n (pc := 15) hx hb d_ArrayList_add_15 rfl (lv_at hl 0 rfl) ?_
  refine lv_iload_n (pc := 16) hx hb d_ArrayList_add_16 rfl (lv_at hl 3 rfl) ?_
  refine lv_iconst (pc := 17) (v := 1) hx hb d_ArrayList_add_17 (by decide) ?_
  refine lv_iadd (pc := 18) hx hb d_ArrayList_add_18 ?_
  refine lv_topi (fun y ey => ?_)
  obtain rfl : y = 5 := ey.trans (by decide)
  refine xb_put (pc := 19) (t0 := .int) (ws' := [(h0, .inr (11, [.int mc, .ref r0, .int 5])), (r0, .inl (G.2.1 5, 10, .inr (.inr (.inr (.inr (va_up (fr) (Int32.toNatClampNeg 4) (some v0))))))), (v0, .inr (7, [f0, f1, f2]))]) F h cf_11 0 rfl 2 (by decide) rfl k_43 (Or.inl rfl) (by decide +kernel) rfl rfl (Nat.le_of_ble_eq_true rfl) rfl d_ArrayList_add_19 (fun H locs h => ?_)
  exact xb_vret (pc := 22) (rm := rm_AL_addp_Name_4) F hr hlk hA hQ h () trivial rfl [0, 1, 2] (by decide) rfl (by decide) (by decide) d_ArrayList_add_22
abbrev rm_AL_add_Name_4 : Room := { frames := 1, cells := 0, slots := 0, locals := 53 }
set_option maxHeartbeats 4000000 in
set_option maxRecDepth 100000 in
theorem ct_AL_add_Name_4 (l : Launch) (G : xb_EV) (h0 : Nat) (r0 : Nat) (v0 : Nat) (mc : Int32) (fr : Nat → Option Nat) (f0 : Value) (f1 : Value) (f2 : Value) : xb_CT l y_ArrayList_add2 b_ArrayList_add2 2 (some .boolean) rm_AL_add_Name_4 G [] [.ref h0, .ref v0] [(h0, .inr (11, [.int mc, .ref r0, .int 4])), (r0, .inl (G.2.1 5, 10, .inr (.inr (.inr (.inr (fr)))))), (v0, .inr (7, [f0, f1, f2]))] (S := Unit) (fun _ => some (.int 1)) (fun _ => True) (fun _ => [(h0, .inr (11, [.int (mc + 1), .ref r0, .int 5])), (r0, .inl (G.2.1 5, 10, .inr (.inr (.inr (.inr (va_up (fr) (Int32.toNatClampNeg 4) (some v0))))))), (v0, .inr (7, [f0, f1, f2]))]) := by
  refine xb_CT.of (by decide) "java/util/ArrayList" rfl ?_ (Nat.le_of_ble_eq_true rfl)
  intro p e s m args below meth c A ls Q F hr hlk hnm h hl hA hQ
  have hx := F.1.1
  have hb := F.1.2.1
  have hml := F.1.2.2.1
  have hown := F.1.2.2.2.1
  have hts := F.1.2.2.2.2
  have hK := F.2.1
  refine lv_aload_n (pc := 0) hx hb d_ArrayList_add2_0 rfl (lv_at hl 0 rfl) ?_
  refine lv_dup (pc := 1) hx hb d_ArrayList_add2_1 rfl ?_
  refine xb_get (pc := 2) F h cf_11 0 rfl 0 (by decide) rfl k_54 (Or.inr k_53) rfl d_ArrayList_add2_2 ?_
  refine lv_iconst (pc := 5) (v := 1) hx hb d_ArrayList_add2_5 (by decide) ?_
  refine lv_iadd (pc := 6) hx hb d_ArrayList_add2_6 ?_
  refine xb_put (pc := 7) (t0 := .int) (ws' := [(h0, .inr (11, [.int (mc + 1), .ref r0, .int 4])), (r0, .inl (G.2.1 5, 10, .inr (.inr (.inr (.inr (fr)))))), (v0, .inr (7, [f0, f1, f2]))]) F h cf_11 0 rfl 0 (by decide) rfl k_54 (Or.inr k_53) (by decide +kernel) rfl rfl (Nat.le_of_ble_eq_true rfl) rfl d_ArrayList_add2_7 (fun H locs h => ?_)
  refine lv_aload_n (pc := 10) hx hb d_ArrayList_add2_10 rfl (lv_at hl 0 rfl) ?_
  refine lv_aload_n (pc := 11) hx hb d_ArrayList_add2_11 rfl (lv_at hl 1 rfl) ?_
  refine lv_aload_n (pc := 12) hx hb d_ArrayList_add2_12 rfl (lv_at hl 0 rfl) ?_
  refine xb_get (pc := 13) F h cf_11 0 rfl 1 (by decide) rfl k_37 (Or.inl rfl) rfl d_ArrayList_add2_13 ?_
  refine lv_aload_n (pc := 16) hx hb d_ArrayList_add2_16 rfl (lv_at hl 0 rfl) ?_
  refine xb_get (pc := 17) F h cf_11 0 rfl 2 (by decide) rfl k_43 (Or.inl rfl) rfl d_ArrayList_add2_17 ?_
  refine xb_callV (pc := 20) (rm := rm_AL_addp_Name_4) (wr := []) F h (ct_AL_addp_Name_4 l G h0 r0 v0 (mc + 1) fr f0 f1 f2) 3 (va_recv hK h.1 (q0 := 0) (ci := 11) rfl rfl) k_55 k_45 k_56 k_57 k_58 hd_ArrayList_add (by decide) [0, 1, 2] [] rfl rfl (by decide) (by decide) (by decide) xb_ss0 hl.1 rfl rfl (Nat.le_of_ble_eq_true rfl) (by decide) d_ArrayList_add2_20 (fun u H locs hu h => ?_)
  have h : xb_W G A s [(h0, .inr (11, [.int (mc + 1), .ref r0, .int 5])), (r0, .inl (G.2.1 5, 10, .inr (.inr (.inr (.inr (va_up (fr) (Int32.toNatClampNeg 4) (some v0))))))), (v0, .inr (7, [f0, f1, f2]))] _ _ := h
  refine W.widen (k := 0) (n := 0) (by decide) (by decide) ?_
  refine W.eq (g2 := F0 m 23 ls []) rfl ?_
  refine lv_iconst (pc := 23) (v := 1) hx hb d_ArrayList_add2_23 (by decide) ?_
  exact xb_zret (pc := 24) (rm := rm_AL_add_Name_4) F hr hlk (by decide) hA hQ h () trivial rfl [0, 1, 2] (by decide) rfl (by decide) (by decide) d_ArrayList_add2_24
abbrev rm_AL_addp_Name_5 : Room := { frames := 0, cells := 0, slots := 0, locals := 30 }
set_option maxHeartbeats 4000000 in
set_option maxRecDepth 100000 in
theorem ct_AL_addp_Name_5 (l : Launch) (G : xb_EV) (h0 : Nat) (r0 : Nat) (v0 : Nat) (mc : Int32) (fr : Nat → Option Nat) (f0 : Value) (f1 : Value) (f2 : Value) : xb_CT l y_ArrayList_add b_ArrayList_add 4 none rm_AL_addp_Name_5 G [] [.ref h0, .ref v0, .ref r0, .int 5] [(h0, .inr (11, [.int mc, .ref r0, .int 5])), (r0, .inl (G.2.1 5, 10, .inr (.inr (.inr (.inr (fr)))))), (v0, .inr (7, [f0, f1, f2]))] (S := Unit) (fun _ => none) (fun _ => True) (fun _ => [(h0, .inr (11, [.int mc, .ref r0, .int 6])), (r0, .inl (G.2.1 5, 10, .inr (.inr (.inr (.inr (va_up (fr) (Int32.toNatClampNeg 5) (some v0))))))), (v0, .inr (7, [f0, f1, f2]))]) := by
  refine xb_CT.of (by decide) "java/util/ArrayList" rfl ?_ (Nat.le_of_ble_eq_true rfl)
  intro p e s m args below meth c A ls Q F hr hlk hnm h hl hA hQ
  have hx := F.1.1
  have hb := F.1.2.1
  have hml := F.1.2.2.1
  have hown := F.1.2.2.2.1
  have hts := F.1.2.2.2.2
  have hK := F.2.1
  refine lv_iload_n (pc := 0) hx hb d_ArrayList_add_0 rfl (lv_at hl 3 rfl) ?_
  refine lv_aload_n (pc := 1) hx hb d_ArrayList_add_1 rfl (lv_at hl 2 rfl) ?_
  refine va_alen (pc := 2) (v := 10) hx hb hK h.1 1 5 rfl rfl (by first | rfl | decide) d_ArrayList_add_2 ?_
  refine lv_icmp_ne (pc := 3) (tgt := 11) hx hb d_ArrayList_add_3 (by decide) (fun _ => ?_) (fun h => absurd h (by decide))
  refine lv_aload_n (pc := 11) hx hb d_ArrayList_add_11 rfl (lv_at hl 2 rfl) ?_
  refine lv_iload_n (pc := 12) hx hb d_ArrayList_add_12 rfl (lv_at hl 3 rfl) ?_
  refine lv_aload_n (pc := 13) hx hb d_ArrayList_add_13 rfl (lv_at hl 1 rfl) ?_
  refine xb_aast (pc := 14) (ws' := [(h0, .inr (11, [.int mc, .ref r0, .int 5])), (r0, .inl (G.2.1 5, 10, .inr (.inr (.inr (.inr (va_up (fr) (Int32.toNatClampNeg 5) (some v0))))))), (v0, .inr (7, [f0, f1, f2]))]) F h 1 2 rfl (by decide) rfl rfl (by unfold vp_in; decide) rfl d_ArrayList_add_14 (fun H locs h => ?_)
  refine lv_aload_n (pc := 15) hx hb d_ArrayList_add_15 rfl (lv_at hl 0 rfl) ?_
  refine lv_iload_n (pc := 16) hx hb d_ArrayList_add_16 rfl (lv_at hl 3 rfl) ?_
  refine lv_iconst (pc := 17) (v := 1) hx hb d_ArrayList_add_17 (by decide) ?_
  refine lv_iadd (pc := 18) hx hb d_ArrayList_add_18 ?_
  refine lv_topi (fun y ey => ?_)
  obtain rfl : y = 6 := ey.trans (by decide)
  refine xb_put (pc := 19) (t0 := .int) (ws' := [(h0, .inr (11, [.int mc, .ref r0, .int 6])), (r0, .inl (G.2.1 5, 10, .inr (.inr (.inr (.inr (va_up (fr) (Int32.toNatClampNeg 5) (some v0))))))), (v0, .inr (7, [f0, f1, f2]))]) F h cf_11 0 rfl 2 (by decide) rfl k_43 (Or.inl rfl) (by decide +kernel) rfl rfl (Nat.le_of_ble_eq_true rfl) rfl d_ArrayList_add_19 (fun H locs h => ?_)
  exact xb_vret (pc := 22) (rm := rm_AL_addp_Name_5) F hr hlk hA hQ h () trivial rfl [0, 1, 2] (by decide) rfl (by decide) (by decide) d_ArrayList_add_22
abbrev rm_AL_add_Name_5 : Room := { frames := 1, cells := 0, slots := 0, locals := 53 }
set_option maxHeartbeats 4000000 in
set_option maxRecDepth 100000 in
theorem ct_AL_add_Name_5 (l : Launch) (G : xb_EV) (h0 : Nat) (r0 : Nat) (v0 : Nat) (mc : Int32) (fr : Nat → Option Nat) (f0 : Value) (f1 : Value) (f2 : Value) : xb_CT l y_ArrayList_add2 b_ArrayList_add2 2 (some .boolean) rm_AL_add_Name_5 G [] [.ref h0, .ref v0] [(h0, .inr (11, [.int mc, .ref r0, .int 5])), (r0, .inl (G.2.1 5, 10, .inr (.inr (.inr (.inr (fr)))))), (v0, .inr (7, [f0, f1, f2]))] (S := Unit) (fun _ => some (.int 1)) (fun _ => True) (fun _ => [(h0, .inr (11, [.int (mc + 1), .ref r0, .int 6])), (r0, .inl (G.2.1 5, 10, .inr (.inr (.inr (.inr (va_up (fr) (Int32.toNatClampNeg 5) (some v0))))))), (v0, .inr (7, [f0, f1, f2]))]) := by
  refine xb_CT.of (by decide) "java/util/ArrayList" rfl ?_ (Nat.le_of_ble_eq_true rfl)
  intro p e s m args below meth c A ls Q F hr hlk hnm h hl hA hQ
  have hx := F.1.1
  have hb := F.1.2.1
  have hml := F.1.2.2.1
  have hown := F.1.2.2.2.1
  have hts := F.1.2.2.2.2
  have hK := F.2.1
  refine lv_aload_n (pc := 0) hx hb d_ArrayList_add2_0 rfl (lv_at hl 0 rfl) ?_
  refine lv_dup (pc := 1) hx hb d_ArrayList_add2_1 rfl ?_
  refine xb_get (pc := 2) F h cf_11 0 rfl 0 (by decide) rfl k_54 (Or.inr k_53) rfl d_ArrayList_add2_2 ?_
  refine lv_iconst (pc := 5) (v := 1) hx hb d_ArrayList_add2_5 (by decide) ?_
  refine lv_iadd (pc := 6) hx hb d_ArrayList_add2_6 ?_
  refine xb_put (pc := 7) (t0 := .int) (ws' := [(h0, .inr (11, [.int (mc + 1), .ref r0, .int 5])), (r0, .inl (G.2.1 5, 10, .inr (.inr (.inr (.inr (fr)))))), (v0, .inr (7, [f0, f1, f2]))]) F h cf_11 0 rfl 0 (by decide) rfl k_54 (Or.inr k_53) (by decide +kernel) rfl rfl (Nat.le_of_ble_eq_true rfl) rfl d_ArrayList_add2_7 (fun H locs h => ?_)
  refine lv_aload_n (pc := 10) hx hb d_ArrayList_add2_10 rfl (lv_at hl 0 rfl) ?_
  refine lv_aload_n (pc := 11) hx hb d_ArrayList_add2_11 rfl (lv_at hl 1 rfl) ?_
  refine lv_aload_n (pc := 12) hx hb d_ArrayList_add2_12 rfl (lv_at hl 0 rfl) ?_
  refine xb_get (pc := 13) F h cf_11 0 rfl 1 (by decide) rfl k_37 (Or.inl rfl) rfl d_ArrayList_add2_13 ?_
  refine lv_aload_n (pc := 16) hx hb d_ArrayList_add2_16 rfl (lv_at hl 0 rfl) ?_
  refine xb_get (pc := 17) F h cf_11 0 rfl 2 (by decide) rfl k_43 (Or.inl rfl) rfl d_ArrayList_add2_17 ?_
  refine xb_callV (pc := 20) (rm := rm_AL_addp_Name_5) (wr := []) F h (ct_AL_addp_Name_5 l G h0 r0 v0 (mc + 1) fr f0 f1 f2) 3 (va_recv hK h.1 (q0 := 0) (ci := 11) rfl rfl) k_55 k_45 k_56 k_57 k_58 hd_ArrayList_add (by decide) [0, 1, 2] [] rfl rfl (by decide) (by decide) (by decide) xb_ss0 hl.1 rfl rfl (Nat.le_of_ble_eq_true rfl) (by decide) d_ArrayList_add2_20 (fun u H locs hu h => ?_)
  have h : xb_W G A s [(h0, .inr (11, [.int (mc + 1), .ref r0, .int 6])), (r0, .inl (G.2.1 5, 10, .inr (.inr (.inr (.inr (va_up (fr) (Int32.toNatClampNeg 5) (some v0))))))), (v0, .inr (7, [f0, f1, f2]))] _ _ := h
  refine W.widen (k := 0) (n := 0) (by decide) (by decide) ?_
  refine W.eq (g2 := F0 m 23 ls []) rfl ?_
  refine lv_iconst (pc := 23) (v := 1) hx hb d_ArrayList_add2_23 (by decide) ?_
  exact xb_zret (pc := 24) (rm := rm_AL_add_Name_5) F hr hlk (by decide) hA hQ h () trivial rfl [0, 1, 2] (by decide) rfl (by decide) (by decide) d_ArrayList_add2_24
abbrev rm_AL_addp_Data_0 : Room := { frames := 3, cells := 1, slots := 10, locals := 73 }
set_option maxHeartbeats 4000000 in
set_option maxRecDepth 100000 in
theorem ct_AL_addp_Data_0 (l : Launch) (G : xb_EV) (h0 : Nat) (v0 : Nat) (mc : Int32) (f0 : Value) (f1 : Value) (f2 : Value) (f3 : Value) (f4 : Value) : xb_CT l y_ArrayList_add b_ArrayList_add 4 none rm_AL_addp_Data_0 G [] [.ref h0, .ref v0, .ref (G.2.2.1), .int 0] [(h0, .inr (11, [.int mc, .ref (G.2.2.1), .int 0])), (v0, .inr (6, [f0, f1, f2, f3, f4]))] (S := Nat) (fun _ => none) (fun _ => True) (fun u => [(v0, .inr (6, [f0, f1, f2, f3, f4])), (h0, .inr (11, [.int mc, .ref u, .int 1])), (u, .inl (G.2.1 5, 10, .inr (.inr (.inr (.inr (va_up (fun _ => none) (Int32.toNatClampNeg 0) (some v0)))))))]) := by
  refine xb_CT.of (by decide) "java/util/ArrayList" rfl ?_ (Nat.le_of_ble_eq_true rfl)
  intro p e s m args below meth c A ls Q F hr hlk hnm h hl hA hQ
  have hx := F.1.1
  have hb := F.1.2.1
  have hml := F.1.2.2.1
  have hown := F.1.2.2.2.1
  have hts := F.1.2.2.2.2
  have hK := F.2.1
  refine lv_iload_n (pc := 0) hx hb d_ArrayList_add_0 rfl (lv_at hl 3 rfl) ?_
  refine lv_aload_n (pc := 1) hx hb d_ArrayList_add_1 rfl (lv_at hl 2 rfl) ?_
  refine va_tlen (pc := 2) (v := 0) hx hb F.2.2.2.1.2.1 h.2.2 (by first | rfl | decide) d_ArrayList_add_2 ?_
  refine lv_icmp_ne (pc := 3) (tgt := 11) hx hb d_ArrayList_add_3 (by decide) (fun h => absurd (by decide) h) (fun _ => ?_)
  refine lv_aload_n (pc := 6) hx hb d_ArrayList_add_6 rfl (lv_at hl 0 rfl) ?_
  refine xb_callV (pc := 7) (rm := rm_AL_grow0) (wr := [(v0, .inr (6, [f0, f1, f2, f3, f4]))]) F h (ct_AL_grow0 l G h0 mc) 0 (va_recv hK h.1 (q0 := 0) (ci := 11) rfl rfl) k_49 k_45 k_50 k_51 k_52 hd_ArrayList_grow2 (by decide) [0] [1] rfl rfl (by decide) (by decide) (by decide) xb_ss0 hl.1 rfl rfl (Nat.le_of_ble_eq_true rfl) (by decide) d_ArrayList_add_7 (fun u H locs hu h => ?_)
  obtain ⟨q7_1, rfl⟩ : ∃ z, z = u := ⟨_, rfl⟩
  have h : xb_W G A s [(v0, .inr (6, [f0, f1, f2, f3, f4])), (h0, .inr (11, [.int mc, .ref q7_1, .int 0])), (q7_1, .inl (G.2.1 5, 10, .inr (.inr (.inr (.inr (fun _ => none))))))] _ _ := h
  refine W.widen (k := 1) (n := 10) (by decide) (by decide) ?_
  refine W.eq (g2 := F0 m 10 ls [.ref q7_1]) rfl ?_
  refine lv_astore_n (pc := 10) (lv' := [(2, .ref q7_1), (0, .ref h0), (1, .ref v0), (3, .int 0)]) hx hb d_ArrayList_add_10 rfl hl (by decide) rfl (fun ls hl => ?_)
  refine lv_aload_n (pc := 11) hx hb d_ArrayList_add_11 rfl (lv_at hl 0 rfl) ?_
  refine lv_iload_n (pc := 12) hx hb d_ArrayList_add_12 rfl (lv_at hl 3 rfl) ?_
  refine lv_aload_n (pc := 13) hx hb d_ArrayList_add_13 rfl (lv_at hl 2 rfl) ?_
  refine xb_aast (pc := 14) (ws' := [(v0, .inr (6, [f0, f1, f2, f3, f4])), (h0, .inr (11, [.int mc, .ref q7_1, .int 0])), (q7_1, .inl (G.2.1 5, 10, .inr (.inr (.inr (.inr (va_up (fun _ => none) (Int32.toNatClampNeg 0) (some v0)))))))]) F h 2 0 rfl (by decide) rfl rfl (by unfold vp_in; decide) rfl d_ArrayList_add_14 (fun H locs h => ?_)
  refine lv_aload_n (pc := 15) hx hb d_ArrayList_add_15 rfl (lv_at hl 1 rfl) ?_
  refine lv_iload_n (pc := 16) hx hb d_ArrayList_add_16 rfl (lv_at hl 3 rfl) ?_
  refine lv_iconst (pc := 17) (v := 1) hx hb d_ArrayList_add_17 (by decide) ?_
  refine lv_iadd (pc := 18) hx hb d_ArrayList_add_18 ?_
  refine lv_topi (fun y ey => ?_)
  obtain rfl : y = 1 := ey.trans (by decide)
  refine xb_put (pc := 19) (t0 := .int) (ws' := [(v0, .inr (6, [f0, f1, f2, f3, f4])), (h0, .inr (11, [.int mc, .ref q7_1, .int 1])), (q7_1, .inl (G.2.1 5, 10, .inr (.inr (.inr (.inr (va_up (fun _ => none) (Int32.toNatClampNeg 0) (some v0)))))))]) F h cf_11 1 rfl 2 (by decide) rfl k_43 (Or.inl rfl) (by decide +kernel) rfl rfl (Nat.le_of_ble_eq_true rfl) rfl d_ArrayList_add_19 (fun H locs h => ?_)
  exact xb_vret (pc := 22) (rm := rm_AL_addp_Data_0) F hr hlk hA hQ h q7_1 trivial rfl [0, 1, 2] (by decide) rfl (by decide) (by decide) d_ArrayList_add_22
abbrev rm_AL_add_Data_0 : Room := { frames := 4, cells := 1, slots := 10, locals := 96 }
set_option maxHeartbeats 4000000 in
set_option maxRecDepth 100000 in
theorem ct_AL_add_Data_0 (l : Launch) (G : xb_EV) (h0 : Nat) (v0 : Nat) (mc : Int32) (f0 : Value) (f1 : Value) (f2 : Value) (f3 : Value) (f4 : Value) : xb_CT l y_ArrayList_add2 b_ArrayList_add2 2 (some .boolean) rm_AL_add_Data_0 G [] [.ref h0, .ref v0] [(h0, .inr (11, [.int mc, .ref (G.2.2.1), .int 0])), (v0, .inr (6, [f0, f1, f2, f3, f4]))] (S := Nat) (fun _ => some (.int 1)) (fun _ => True) (fun u => [(v0, .inr (6, [f0, f1, f2, f3, f4])), (h0, .inr (11, [.int (mc + 1), .ref u, .int 1])), (u, .inl (G.2.1 5, 10, .inr (.inr (.inr (.inr (va_up (fun _ => none) (Int32.toNatClampNeg 0) (some v0)))))))]) := by
  refine xb_CT.of (by decide) "java/util/ArrayList" rfl ?_ (Nat.le_of_ble_eq_true rfl)
  intro p e s m args below meth c A ls Q F hr hlk hnm h hl hA hQ
  have hx := F.1.1
  have hb := F.1.2.1
  have hml := F.1.2.2.1
  have hown := F.1.2.2.2.1
  have hts := F.1.2.2.2.2
  have hK := F.2.1
  refine lv_aload_n (pc := 0) hx hb d_ArrayList_add2_0 rfl (lv_at hl 0 rfl) ?_
  refine lv_dup (pc := 1) hx hb d_ArrayList_add2_1 rfl ?_
  refine xb_get (pc := 2) F h cf_11 0 rfl 0 (by decide) rfl k_54 (Or.inr k_53) rfl d_ArrayList_add2_2 ?_
  refine lv_iconst (pc := 5) (v := 1) hx hb d_ArrayList_add2_5 (by decide) ?_
  refine lv_iadd (pc := 6) hx hb d_ArrayList_add2_6 ?_
  refine xb_put (pc := 7) (t0 := .int) (ws' := [(h0, .inr (11, [.int (mc + 1), .ref (G.2.2.1), .int 0])), (v0, .inr (6, [f0, f1, f2, f3, f4]))]) F h cf_11 0 rfl 0 (by decide) rfl k_54 (Or.inr k_53) (by decide +kernel) rfl rfl (Nat.le_of_ble_eq_true rfl) rfl d_ArrayList_add2_7 (fun H locs h => ?_)
  refine lv_aload_n (pc := 10) hx hb d_ArrayList_add2_10 rfl (lv_at hl 0 rfl) ?_
  refine lv_aload_n (pc := 11) hx hb d_ArrayList_add2_11 rfl (lv_at hl 1 rfl) ?_
  refine lv_aload_n (pc := 12) hx hb d_ArrayList_add2_12 rfl (lv_at hl 0 rfl) ?_
  refine xb_get (pc := 13) F h cf_11 0 rfl 1 (by decide) rfl k_37 (Or.inl rfl) rfl d_ArrayList_add2_13 ?_
  refine lv_aload_n (pc := 16) hx hb d_ArrayList_add2_16 rfl (lv_at hl 0 rfl) ?_
  refine xb_get (pc := 17) F h cf_11 0 rfl 2 (by decide) rfl k_43 (Or.inl rfl) rfl d_ArrayList_add2_17 ?_
  refine xb_callV (pc := 20) (rm := rm_AL_addp_Data_0) (wr := []) F h (ct_AL_addp_Data_0 l G h0 v0 (mc + 1) f0 f1 f2 f3 f4) 3 (va_recv hK h.1 (q0 := 0) (ci := 11) rfl rfl) k_55 k_45 k_56 k_57 k_58 hd_ArrayList_add (by decide) [0, 1] [] rfl rfl (by decide) (by decide) (by decide) xb_ss0 hl.1 rfl rfl (Nat.le_of_ble_eq_true rfl) (by decide) d_ArrayList_add2_20 (fun u H locs hu h => ?_)
  obtain ⟨q20_1, rfl⟩ : ∃ z, z = u := ⟨_, rfl⟩
  have h : xb_W G A s [(v0, .inr (6, [f0, f1, f2, f3, f4])), (h0, .inr (11, [.int (mc + 1), .ref q20_1, .int 1])), (q20_1, .inl (G.2.1 5, 10, .inr (.inr (.inr (.inr (va_up (fun _ => none) (Int32.toNatClampNeg 0) (some v0)))))))] _ _ := h
  refine W.widen (k := 1) (n := 10) (by decide) (by decide) ?_
  refine W.eq (g2 := F0 m 23 ls []) rfl ?_
  refine lv_iconst (pc := 23) (v := 1) hx hb d_ArrayList_add2_23 (by decide) ?_
  exact xb_zret (pc := 24) (rm := rm_AL_add_Data_0) F hr hlk (by decide) hA hQ h q20_1 trivial rfl [0, 1, 2] (by decide) rfl (by decide) (by decide) d_ArrayList_add2_24
abbrev rm_AL_addp_Data_1 : Room := { frames := 0, cells := 0, slots := 0, locals := 30 }
set_option maxHeartbeats 4000000 in
set_option maxRecDepth 100000 in
theorem ct_AL_addp_Data_1 (l : Launch) (G : xb_EV) (h0 : Nat) (r0 : Nat) (v0 : Nat) (mc : Int32) (fr : Nat → Option Nat) (f0 : Value) (f1 : Value) (f2 : Value) (f3 : Value) (f4 : Value) : xb_CT l y_ArrayList_add b_ArrayList_add 4 none rm_AL_addp_Data_1 G [] [.ref h0, .ref v0, .ref r0, .int 1] [(h0, .inr (11, [.int mc, .ref r0, .int 1])), (r0, .inl (G.2.1 5, 10, .inr (.inr (.inr (.inr (fr)))))), (v0, .inr (6, [f0, f1, f2, f3, f4]))] (S := Unit) (fun _ => none) (fun _ => True) (fun _ => [(h0, .inr (11, [.int mc, .ref r0, .int 2])), (r0, .inl (G.2.1 5, 10, .inr (.inr (.inr (.inr (va_up (fr) (Int32.toNatClampNeg 1) (some v0))))))), (v0, .inr (6, [f0, f1, f2, f3, f4]))]) := by
  refine xb_CT.of (by decide) "java/util/ArrayList" rfl ?_ (Nat.le_of_ble_eq_true rfl)
  intro p e s m args below meth c A ls Q F hr hlk hnm h hl hA hQ
  have hx := F.1.1
  have hb := F.1.2.1
  have hml := F.1.2.2.1
  have hown := F.1.2.2.2.1
  have hts := F.1.2.2.2.2
  have hK := F.2.1
  refine lv_iload_n (pc := 0) hx hb d_ArrayList_add_0 rfl (lv_at hl 3 rfl) ?_
  refine lv_aload_n (pc := 1) hx hb d_ArrayList_add_1 rfl (lv_at hl 2 rfl) ?_
  refine va_alen (pc := 2) (v := 10) hx hb hK h.1 1 5 rfl rfl (by first | rfl | decide) d_ArrayList_add_2 ?_
  refine lv_icmp_ne (pc := 3) (tgt := 11) hx hb d_ArrayList_add_3 (by decide) (fun _ => ?_) (fun h => absurd h (by decide))
  refine lv_aload_n (pc := 11) hx hb d_ArrayList_add_11 rfl (lv_at hl 2 rfl) ?_
  refine lv_iload_n (pc := 12) hx hb d_ArrayList_add_12 rfl (lv_at hl 3 rfl) ?_
  refine lv_aload_n (pc := 13) hx hb d_ArrayList_add_13 rfl (lv_at hl 1 rfl) ?_
  refine xb_aast (pc := 14) (ws' := [(h0, .inr (11, [.int mc, .ref r0, .int 1])), (r0, .inl (G.2.1 5, 10, .inr (.inr (.inr (.inr (va_up (fr) (Int32.toNatClampNeg 1) (some v0))))))), (v0, .inr (6, [f0, f1, f2, f3, f4]))]) F h 1 2 rfl (by decide) rfl rfl (by unfold vp_in; decide) rfl d_ArrayList_add_14 (fun H locs h => ?_)
  refine lv_aload_n (pc := 15) hx hb d_ArrayList_add_15 rfl (lv_at hl 0 rfl) ?_
  refine lv_iload_n (pc := 16) hx hb d_ArrayList_add_16 rfl (lv_at hl 3 rfl) ?_
  refine lv_iconst (pc := 17) (v := 1) hx hb d_ArrayList_add_17 (by decide) ?_
  refine lv_iadd (pc := 18) hx hb d_ArrayList_add_18 ?_
  refine lv_topi (fun y ey => ?_)
  obtain rfl : y = 2 := ey.trans (by decide)
  refine xb_put (pc := 19) (t0 := .int) (ws' := [(h0, .inr (11, [.int mc, .ref r0, .int 2])), (r0, .inl (G.2.1 5, 10, .inr (.inr (.inr (.inr (va_up (fr) (Int32.toNatClampNeg 1) (some v0))))))), (v0, .inr (6, [f0, f1, f2, f3, f4]))]) F h cf_11 0 rfl 2 (by decide) rfl k_43 (Or.inl rfl) (by decide +kernel) rfl rfl (Nat.le_of_ble_eq_true rfl) rfl d_ArrayList_add_19 (fun H locs h => ?_)
  exact xb_vret (pc := 22) (rm := rm_AL_addp_Data_1) F hr hlk hA hQ h () trivial rfl [0, 1, 2] (by decide) rfl (by decide) (by decide) d_ArrayList_add_22
abbrev rm_AL_add_Data_1 : Room := { frames := 1, cells := 0, slots := 0, locals := 53 }
set_option maxHeartbeats 4000000 in
set_option maxRecDepth 100000 in
theorem ct_AL_add_Data_1 (l : Launch) (G : xb_EV) (h0 : Nat) (r0 : Nat) (v0 : Nat) (mc : Int32) (fr : Nat → Option Nat) (f0 : Value) (f1 : Value) (f2 : Value) (f3 : Value) (f4 : Value) : xb_CT l y_ArrayList_add2 b_ArrayList_add2 2 (some .boolean) rm_AL_add_Data_1 G [] [.ref h0, .ref v0] [(h0, .inr (11, [.int mc, .ref r0, .int 1])), (r0, .inl (G.2.1 5, 10, .inr (.inr (.inr (.inr (fr)))))), (v0, .inr (6, [f0, f1, f2, f3, f4]))] (S := Unit) (fun _ => some (.int 1)) (fun _ => True) (fun _ => [(h0, .inr (11, [.int (mc + 1), .ref r0, .int 2])), (r0, .inl (G.2.1 5, 10, .inr (.inr (.inr (.inr (va_up (fr) (Int32.toNatClampNeg 1) (some v0))))))), (v0, .inr (6, [f0, f1, f2, f3, f4]))]) := by
  refine xb_CT.of (by decide) "java/util/ArrayList" rfl ?_ (Nat.le_of_ble_eq_true rfl)
  intro p e s m args below meth c A ls Q F hr hlk hnm h hl hA hQ
  have hx := F.1.1
  have hb := F.1.2.1
  have hml := F.1.2.2.1
  have hown := F.1.2.2.2.1
  have hts := F.1.2.2.2.2
  have hK := F.2.1
  refine lv_aload_n (pc := 0) hx hb d_ArrayList_add2_0 rfl (lv_at hl 0 rfl) ?_
  refine lv_dup (pc := 1) hx hb d_ArrayList_add2_1 rfl ?_
  refine xb_get (pc := 2) F h cf_11 0 rfl 0 (by decide) rfl k_54 (Or.inr k_53) rfl d_ArrayList_add2_2 ?_
  refine lv_iconst (pc := 5) (v := 1) hx hb d_ArrayList_add2_5 (by decide) ?_
  refine lv_iadd (pc := 6) hx hb d_ArrayList_add2_6 ?_
  refine xb_put (pc := 7) (t0 := .int) (ws' := [(h0, .inr (11, [.int (mc + 1), .ref r0, .int 1])), (r0, .inl (G.2.1 5, 10, .inr (.inr (.inr (.inr (fr)))))), (v0, .inr (6, [f0, f1, f2, f3, f4]))]) F h cf_11 0 rfl 0 (by decide) rfl k_54 (Or.inr k_53) (by decide +kernel) rfl rfl (Nat.le_of_ble_eq_true rfl) rfl d_ArrayList_add2_7 (fun H locs h => ?_)
  refine lv_aload_n (pc := 10) hx hb d_ArrayList_add2_10 rfl (lv_at hl 0 rfl) ?_
  refine lv_aload_n (pc := 11) hx hb d_ArrayList_add2_11 rfl (lv_at hl 1 rfl) ?_
  refine lv_aload_n (pc := 12) hx hb d_ArrayList_add2_12 rfl (lv_at hl 0 rfl) ?_
  refine xb_get (pc := 13) F h cf_11 0 rfl 1 (by decide) rfl k_37 (Or.inl rfl) rfl d_ArrayList_add2_13 ?_
  refine lv_aload_n (pc := 16) hx hb d_ArrayList_add2_16 rfl (lv_at hl 0 rfl) ?_
  refine xb_get (pc := 17) F h cf_11 0 rfl 2 (by decide) rfl k_43 (Or.inl rfl) rfl d_ArrayList_add2_17 ?_
  refine xb_callV (pc := 20) (rm := rm_AL_addp_Data_1) (wr := []) F h (ct_AL_addp_Data_1 l G h0 r0 v0 (mc + 1) fr f0 f1 f2 f3 f4) 3 (va_recv hK h.1 (q0 := 0) (ci := 11) rfl rfl) k_55 k_45 k_56 k_57 k_58 hd_ArrayList_add (by decide) [0, 1, 2] [] rfl rfl (by decide) (by decide) (by decide) xb_ss0 hl.1 rfl rfl (Nat.le_of_ble_eq_true rfl) (by decide) d_ArrayList_add2_20 (fun u H locs hu h => ?_)
  have h : xb_W G A s [(h0, .inr (11, [.int (mc + 1), .ref r0, .int 2])), (r0, .inl (G.2.1 5, 10, .inr (.inr (.inr (.inr (va_up (fr) (Int32.toNatClampNeg 1) (some v0))))))), (v0, .inr (6, [f0, f1, f2, f3, f4]))] _ _ := h
  refine W.widen (k := 0) (n := 0) (by decide) (by decide) ?_
  refine W.eq (g2 := F0 m 23 ls []) rfl ?_
  refine lv_iconst (pc := 23) (v := 1) hx hb d_ArrayList_add2_23 (by decide) ?_
  exact xb_zret (pc := 24) (rm := rm_AL_add_Data_1) F hr hlk (by decide) hA hQ h () trivial rfl [0, 1, 2] (by decide) rfl (by decide) (by decide) d_ArrayList_add2_24
abbrev rm_ASB_init : Room := { frames := 1, cells := 1, slots := 16, locals := 30 }
set_option maxHeartbeats 4000000 in
set_option maxRecDepth 100000 in
theorem ct_ASB_init (l : Launch) (G : xb_EV) (h0 : Nat) : xb_CT l y_AbstractStringBuilder_init b_AbstractStringBuilder_init 2 none rm_ASB_init G [] [.ref h0, .int 16] [(h0, .inr (12, [.null, .int 0, .int 0, .int 0]))] (S := Nat) (fun _ => none) (fun _ => True) (fun u => [(h0, .inr (12, [.ref u, .int 0, .int 0, .int 0]))]) := by
  refine xb_CT.of (by decide) "java/lang/AbstractStringBuilder" rfl ?_ (Nat.le_of_ble_eq_true rfl)
  intro p e s m args below meth c A ls Q F hr hlk hnm h hl hA hQ
  have hx := F.1.1
  have hb := F.1.2.1
  have hml := F.1.2.2.1
  have hown := F.1.2.2.2.1
  have hts := F.1.2.2.2.2
  have hK := F.2.1
  refine lv_aload_n (pc := 0) hx hb d_AbstractStringBuilder_init_0 rfl (lv_at hl 0 rfl) ?_
  refine W.objInit hx hb hown (hts _ k_59) (hts _ k_25) (hts _ k_26) rfl (by rw [hml]; exact hl.1) rfl d_AbstractStringBuilder_init_1 (Nat.le_of_ble_eq_true rfl) (Nat.le_of_ble_eq_true rfl) ?_
  refine W.eq (g2 := F0 m 4 ls []) rfl ?_
  refine va_gets (pc := 4) hx hb (F.2.2.2.1.2.2.1) h.2.2 hown (hts _ k_60) (fun _ h => h) d_AbstractStringBuilder_init_4 ?_
  refine lv_if_eq (pc := 7) (tgt := 25) hx hb d_AbstractStringBuilder_init_7 (by decide) (fun h => absurd h (by decide)) (fun _ => ?_)
  refine lv_aload_n (pc := 10) hx hb d_AbstractStringBuilder_init_10 rfl (lv_at hl 0 rfl) ?_
  refine lv_iload_n (pc := 11) hx hb d_AbstractStringBuilder_init_11 rfl (lv_at hl 1 rfl) ?_
  refine xb_newa (pc := 12) (a0 := (16, .inl (fun _ => 0))) (ty := .byte) (N' := 16) (ws' := fun q12_1 => [(h0, .inr (12, [.null, .int 0, .int 0, .int 0])), (q12_1, .inl (G.2.1 4, 16, .inl (fun _ => 0)))]) F h rfl 4 rfl k_61 (fun _ => rfl) (by decide) (by decide) (by decide) (fun _ => rfl) (by decide) (by decide) d_AbstractStringBuilder_init_12 (fun q12_1 H h => ?_)
  refine xb_put (pc := 14) (t0 := (.array .byte)) (ws' := [(h0, .inr (12, [.ref q12_1, .int 0, .int 0, .int 0])), (q12_1, .inl (G.2.1 4, 16, .inl (fun _ => 0)))]) F h cf_12 0 rfl 0 (by decide) rfl k_62 (Or.inl rfl) (by decide +kernel) rfl rfl (Nat.le_of_ble_eq_true rfl) rfl d_AbstractStringBuilder_init_14 (fun H locs h => ?_)
  refine lv_aload_n (pc := 17) hx hb d_AbstractStringBuilder_init_17 rfl (lv_at hl 0 rfl) ?_
  refine lv_iconst (pc := 18) (v := 0) hx hb d_AbstractStringBuilder_init_18 (by decide) ?_
  refine xb_put (pc := 19) (t0 := .byte) (ws' := [(h0, .inr (12, [.ref q12_1, .int 0, .int 0, .int 0])), (q12_1, .inl (G.2.1 4, 16, .inl (fun _ => 0)))]) F h cf_12 0 rfl 1 (by decide) rfl k_63 (Or.inl rfl) (by decide +kernel) (by decide) (by decide) (Nat.le_of_ble_eq_true rfl) rfl d_AbstractStringBuilder_init_19 (fun H locs h => ?_)
  refine lv_goto (pc := 22) (tgt := 38) hx hb d_AbstractStringBuilder_init_22 (by decide) ?_
  exact xb_vret (pc := 38) (rm := rm_ASB_init) F hr hlk hA hQ h q12_1 trivial rfl [0] (by decide) rfl (by decide) (by decide) d_AbstractStringBuilder_init_38
abbrev rm_SB_init : Room := { frames := 2, cells := 1, slots := 16, locals := 51 }
set_option maxHeartbeats 4000000 in
set_option maxRecDepth 100000 in
theorem ct_SB_init (l : Launch) (G : xb_EV) (h0 : Nat) : xb_CT l y_StringBuilder_init b_StringBuilder_init 1 none rm_SB_init G [] [.ref h0] [(h0, .inr (12, [.null, .int 0, .int 0, .int 0]))] (S := Nat) (fun _ => none) (fun _ => True) (fun u => [(h0, .inr (12, [.ref u, .int 0, .int 0, .int 0]))]) := by
  refine xb_CT.of (by decide) "java/lang/StringBuilder" rfl ?_ (Nat.le_of_ble_eq_true rfl)
  intro p e s m args below meth c A ls Q F hr hlk hnm h hl hA hQ
  have hx := F.1.1
  have hb := F.1.2.1
  have hml := F.1.2.2.1
  have hown := F.1.2.2.2.1
  have hts := F.1.2.2.2.2
  have hK := F.2.1
  refine lv_aload_n (pc := 0) hx hb d_StringBuilder_init_0 rfl (lv_at hl 0 rfl) ?_
  refine lv_bipush (pc := 1) (v := 16) hx hb d_StringBuilder_init_1 (by decide) ?_
  refine xb_callI (pc := 3) (rm := rm_ASB_init) (wr := []) F h (ct_ASB_init l G h0) 1 k_64 k_65 k_66 k_67 rfl hd_AbstractStringBuilder_init (by decide) [0] [] rfl rfl (by decide) (by decide) (by decide) xb_ss0 hl.1 rfl rfl (Nat.le_of_ble_eq_true rfl) (by decide) d_StringBuilder_init_3 (fun u H locs hu h => ?_)
  obtain ⟨q3_1, rfl⟩ : ∃ z, z = u := ⟨_, rfl⟩
  have h : xb_W G A s [(h0, .inr (12, [.ref q3_1, .int 0, .int 0, .int 0]))] _ _ := h
  refine W.widen (k := 1) (n := 16) (by decide) (by decide) ?_
  refine W.eq (g2 := F0 m 6 ls []) rfl ?_
  exact xb_vret (pc := 6) (rm := rm_SB_init) F hr hlk hA hQ h q3_1 trivial rfl [0] (by decide) rfl (by decide) (by decide) d_StringBuilder_init_6
abbrev rm_Type_init_nnn : Room := { frames := 1, cells := 0, slots := 0, locals := 30 }
set_option maxHeartbeats 4000000 in
set_option maxRecDepth 100000 in
theorem ct_Type_init_nnn (l : Launch) (G : xb_EV) (h0 : Nat) (k : Int32) : xb_CT l y_TypeFinder_Type_init b_TypeFinder_Type_init 5 none rm_Type_init_nnn G [] [.ref h0, .int k, .null, .null, .null] [(h0, .inr (5, [.int 0, .int 0, .null, .null, .null, .null, .null, .int 0]))] (S := Unit) (fun _ => none) (fun _ => True) (fun _ => [(h0, .inr (5, [.int k, .int 0, .null, .null, .null, .null, .null, .int 0]))]) := by
  refine xb_CT.of (by decide) "TypeFinder$Type" rfl ?_ (Nat.le_of_ble_eq_true rfl)
  intro p e s m args below meth c A ls Q F hr hlk hnm h hl hA hQ
  have hx := F.1.1
  have hb := F.1.2.1
  have hml := F.1.2.2.1
  have hown := F.1.2.2.2.1
  have hts := F.1.2.2.2.2
  have hK := F.2.1
  refine lv_aload_n (pc := 0) hx hb d_TypeFinder_Type_init_0 rfl (lv_at hl 0 rfl) ?_
  refine W.objInit hx hb hown (hts _ k_68) (hts _ k_25) (hts _ k_26) rfl (by rw [hml]; exact hl.1) rfl d_TypeFinder_Type_init_1 (Nat.le_of_ble_eq_true rfl) (Nat.le_of_ble_eq_true rfl) ?_
  refine W.eq (g2 := F0 m 4 ls []) rfl ?_
  refine lv_aload_n (pc := 4) hx hb d_TypeFinder_Type_init_4 rfl (lv_at hl 0 rfl) ?_
  refine lv_iload_n (pc := 5) hx hb d_TypeFinder_Type_init_5 rfl (lv_at hl 1 rfl) ?_
  refine xb_put (pc := 6) (t0 := .int) (ws' := [(h0, .inr (5, [.int k, .int 0, .null, .null, .null, .null, .null, .int 0]))]) F h cf_5 0 rfl 0 (by decide) rfl k_69 (Or.inl rfl) (by decide +kernel) rfl rfl (Nat.le_of_ble_eq_true rfl) rfl d_TypeFinder_Type_init_6 (fun H locs h => ?_)
  refine lv_aload_n (pc := 9) hx hb d_TypeFinder_Type_init_9 rfl (lv_at hl 0 rfl) ?_
  refine lv_aload_nN (pc := 10) hx hb d_TypeFinder_Type_init_10 rfl (lv_at hl 2 rfl) ?_
  refine xb_putF (pc := 11) (t0 := (.object "TypeFinder$DataType")) (ws' := [(h0, .inr (5, [.int k, .int 0, .null, .null, .null, .null, .null, .int 0]))]) F h hnm cf_5 0 rfl 2 (by decide) rfl k_70 (by decide +kernel) rfl rfl (Nat.le_of_ble_eq_true rfl) rfl d_TypeFinder_Type_init_11 (fun H locs h => ?_)
  refine lv_aload_n (pc := 14) hx hb d_TypeFinder_Type_init_14 rfl (lv_at hl 0 rfl) ?_
  refine lv_aload_nN (pc := 15) hx hb d_TypeFinder_Type_init_15 rfl (lv_at hl 3 rfl) ?_
  refine xb_putF (pc := 16) (t0 := (.object "TypeFinder$Type")) (ws' := [(h0, .inr (5, [.int k, .int 0, .null, .null, .null, .null, .null, .int 0]))]) F h hnm cf_5 0 rfl 3 (by decide) rfl k_71 (by decide +kernel) rfl rfl (Nat.le_of_ble_eq_true rfl) rfl d_TypeFinder_Type_init_16 (fun H locs h => ?_)
  refine lv_aload_n (pc := 19) hx hb d_TypeFinder_Type_init_19 rfl (lv_at hl 0 rfl) ?_
  refine lv_aloadN (pc := 20) hx hb d_TypeFinder_Type_init_20 (lv_at hl 4 rfl) ?_
  refine xb_putF (pc := 22) (t0 := (.object "TypeFinder$Type")) (ws' := [(h0, .inr (5, [.int k, .int 0, .null, .null, .null, .null, .null, .int 0]))]) F h hnm cf_5 0 rfl 4 (by decide) rfl k_72 (by decide +kernel) rfl rfl (Nat.le_of_ble_eq_true rfl) rfl d_TypeFinder_Type_init_22 (fun H locs h => ?_)
  exact xb_vret (pc := 25) (rm := rm_Type_init_nnn) F hr hlk hA hQ h () trivial rfl [0] (by decide) rfl (by decide) (by decide) d_TypeFinder_Type_init_25
abbrev rm_Type_init_rnn : Room := { frames := 1, cells := 0, slots := 0, locals := 30 }
set_option maxHeartbeats 4000000 in
set_option maxRecDepth 100000 in
theorem ct_Type_init_rnn (l : Launch) (G : xb_EV) (h0 : Nat) (k : Int32) (d0 : Nat) : xb_CT l y_TypeFinder_Type_init b_TypeFinder_Type_init 5 none rm_Type_init_rnn G [] [.ref h0, .int k, .ref d0, .null, .null] [(h0, .inr (5, [.int 0, .int 0, .null, .null, .null, .null, .null, .int 0]))] (S := Unit) (fun _ => none) (fun _ => True) (fun _ => [(h0, .inr (5, [.int k, .int 0, .ref d0, .null, .null, .null, .null, .int 0]))]) := by
  refine xb_CT.of (by decide) "TypeFinder$Type" rfl ?_ (Nat.le_of_ble_eq_true rfl)
  intro p e s m args below meth c A ls Q F hr hlk hnm h hl hA hQ
  have hx := F.1.1
  have hb := F.1.2.1
  have hml := F.1.2.2.1
  have hown := F.1.2.2.2.1
  have hts := F.1.2.2.2.2
  have hK := F.2.1
  refine lv_aload_n (pc := 0) hx hb d_TypeFinder_Type_init_0 rfl (lv_at hl 0 rfl) ?_
  refine W.objInit hx hb hown (hts _ k_68) (hts _ k_25) (hts _ k_26) rfl (by rw [hml]; exact hl.1) rfl d_TypeFinder_Type_init_1 (Nat.le_of_ble_eq_true rfl) (Nat.le_of_ble_eq_true rfl) ?_
  refine W.eq (g2 := F0 m 4 ls []) rfl ?_
  refine lv_aload_n (pc := 4) hx hb d_TypeFinder_Type_init_4 rfl (lv_at hl 0 rfl) ?_
  refine lv_iload_n (pc := 5) hx hb d_TypeFinder_Type_init_5 rfl (lv_at hl 1 rfl) ?_
  refine xb_put (pc := 6) (t0 := .int) (ws' := [(h0, .inr (5, [.int k, .int 0, .null, .null, .null, .null, .null, .int 0]))]) F h cf_5 0 rfl 0 (by decide) rfl k_69 (Or.inl rfl) (by decide +kernel) rfl rfl (Nat.le_of_ble_eq_true rfl) rfl d_TypeFinder_Type_init_6 (fun H locs h => ?_)
  refine lv_aload_n (pc := 9) hx hb d_TypeFinder_Type_init_9 rfl (lv_at hl 0 rfl) ?_
  refine lv_aload_n (pc := 10) hx hb d_TypeFinder_Type_init_10 rfl (lv_at hl 2 rfl) ?_
  refine xb_putF (pc := 11) (t0 := (.object "TypeFinder$DataType")) (ws' := [(h0, .inr (5, [.int k, .int 0, .ref d0, .null, .null, .null, .null, .int 0]))]) F h hnm cf_5 0 rfl 2 (by decide) rfl k_70 (by decide +kernel) rfl rfl (Nat.le_of_ble_eq_true rfl) rfl d_TypeFinder_Type_init_11 (fun H locs h => ?_)
  refine lv_aload_n (pc := 14) hx hb d_TypeFinder_Type_init_14 rfl (lv_at hl 0 rfl) ?_
  refine lv_aload_nN (pc := 15) hx hb d_TypeFinder_Type_init_15 rfl (lv_at hl 3 rfl) ?_
  refine xb_putF (pc := 16) (t0 := (.object "TypeFinder$Type")) (ws' := [(h0, .inr (5, [.int k, .int 0, .ref d0, .null, .null, .null, .null, .int 0]))]) F h hnm cf_5 0 rfl 3 (by decide) rfl k_71 (by decide +kernel) rfl rfl (Nat.le_of_ble_eq_true rfl) rfl d_TypeFinder_Type_init_16 (fun H locs h => ?_)
  refine lv_aload_n (pc := 19) hx hb d_TypeFinder_Type_init_19 rfl (lv_at hl 0 rfl) ?_
  refine lv_aloadN (pc := 20) hx hb d_TypeFinder_Type_init_20 (lv_at hl 4 rfl) ?_
  refine xb_putF (pc := 22) (t0 := (.object "TypeFinder$Type")) (ws' := [(h0, .inr (5, [.int k, .int 0, .ref d0, .null, .null, .null, .null, .int 0]))]) F h hnm cf_5 0 rfl 4 (by decide) rfl k_72 (by decide +kernel) rfl rfl (Nat.le_of_ble_eq_true rfl) rfl d_TypeFinder_Type_init_22 (fun H locs h => ?_)
  exact xb_vret (pc := 25) (rm := rm_Type_init_rnn) F hr hlk hA hQ h () trivial rfl [0] (by decide) rfl (by decide) (by decide) d_TypeFinder_Type_init_25
abbrev rm_Type_init_rrn : Room := { frames := 1, cells := 0, slots := 0, locals := 30 }
set_option maxHeartbeats 4000000 in
set_option maxRecDepth 100000 in
theorem ct_Type_init_rrn (l : Launch) (G : xb_EV) (h0 : Nat) (k : Int32) (d0 : Nat) (l0 : Nat) : xb_CT l y_TypeFinder_Type_init b_TypeFinder_Type_init 5 none rm_Type_init_rrn G [] [.ref h0, .int k, .ref d0, .ref l0, .null] [(h0, .inr (5, [.int 0, .int 0, .null, .null, .null, .null, .null, .int 0]))] (S := Unit) (fun _ => none) (fun _ => True) (fun _ => [(h0, .inr (5, [.int k, .int 0, .ref d0, .ref l0, .null, .null, .null, .int 0]))]) := by
  refine xb_CT.of (by decide) "TypeFinder$Type" rfl ?_ (Nat.le_of_ble_eq_true rfl)
  intro p e s m args below meth c A ls Q F hr hlk hnm h hl hA hQ
  have hx := F.1.1
  have hb := F.1.2.1
  have hml := F.1.2.2.1
  have hown := F.1.2.2.2.1
  have hts := F.1.2.2.2.2
  have hK := F.2.1
  refine lv_aload_n (pc := 0) hx hb d_TypeFinder_Type_init_0 rfl (lv_at hl 0 rfl) ?_
  refine W.objInit hx hb hown (hts _ k_68) (hts _ k_25) (hts _ k_26) rfl (by rw [hml]; exact hl.1) rfl d_TypeFinder_Type_init_1 (Nat.le_of_ble_eq_true rfl) (Nat.le_of_ble_eq_true rfl) ?_
  refine W.eq (g2 := F0 m 4 ls []) rfl ?_
  refine lv_aload_n (pc := 4) hx hb d_TypeFinder_Type_init_4 rfl (lv_at hl 0 rfl) ?_
  refine lv_iload_n (pc := 5) hx hb d_TypeFinder_Type_init_5 rfl (lv_at hl 1 rfl) ?_
  refine xb_put (pc := 6) (t0 := .int) (ws' := [(h0, .inr (5, [.int k, .int 0, .null, .null, .null, .null, .null, .int 0]))]) F h cf_5 0 rfl 0 (by decide) rfl k_69 (Or.inl rfl) (by decide +kernel) rfl rfl (Nat.le_of_ble_eq_true rfl) rfl d_TypeFinder_Type_init_6 (fun H locs h => ?_)
  refine lv_aload_n (pc := 9) hx hb d_TypeFinder_Type_init_9 rfl (lv_at hl 0 rfl) ?_
  refine lv_aload_n (pc := 10) hx hb d_TypeFinder_Type_init_10 rfl (lv_at hl 2 rfl) ?_
  refine xb_putF (pc := 11) (t0 := (.object "TypeFinder$DataType")) (ws' := [(h0, .inr (5, [.int k, .int 0, .ref d0, .null, .null, .null, .null, .int 0]))]) F h hnm cf_5 0 rfl 2 (by decide) rfl k_70 (by decide +kernel) rfl rfl (Nat.le_of_ble_eq_true rfl) rfl d_TypeFinder_Type_init_11 (fun H locs h => ?_)
  refine lv_aload_n (pc := 14) hx hb d_TypeFinder_Type_init_14 rfl (lv_at hl 0 rfl) ?_
  refine lv_aload_n (pc := 15) hx hb d_TypeFinder_Type_init_15 rfl (lv_at hl 3 rfl) ?_
  refine xb_putF (pc := 16) (t0 := (.object "TypeFinder$Type")) (ws' := [(h0, .inr (5, [.int k, .int 0, .ref d0, .ref l0, .null, .null, .null, .int 0]))]) F h hnm cf_5 0 rfl 3 (by decide) rfl k_71 (by decide +kernel) rfl rfl (Nat.le_of_ble_eq_true rfl) rfl d_TypeFinder_Type_init_16 (fun H locs h => ?_)
  refine lv_aload_n (pc := 19) hx hb d_TypeFinder_Type_init_19 rfl (lv_at hl 0 rfl) ?_
  refine lv_aloadN (pc := 20) hx hb d_TypeFinder_Type_init_20 (lv_at hl 4 rfl) ?_
  refine xb_putF (pc := 22) (t0 := (.object "TypeFinder$Type")) (ws' := [(h0, .inr (5, [.int k, .int 0, .ref d0, .ref l0, .null, .null, .null, .int 0]))]) F h hnm cf_5 0 rfl 4 (by decide) rfl k_72 (by decide +kernel) rfl rfl (Nat.le_of_ble_eq_true rfl) rfl d_TypeFinder_Type_init_22 (fun H locs h => ?_)
  exact xb_vret (pc := 25) (rm := rm_Type_init_rrn) F hr hlk hA hQ h () trivial rfl [0] (by decide) rfl (by decide) (by decide) d_TypeFinder_Type_init_25
abbrev rm_Type_init_nrr : Room := { frames := 1, cells := 0, slots := 0, locals := 30 }
set_option maxHeartbeats 4000000 in
set_option maxRecDepth 100000 in
theorem ct_Type_init_nrr (l : Launch) (G : xb_EV) (h0 : Nat) (k : Int32) (l0 : Nat) (r0 : Nat) : xb_CT l y_TypeFinder_Type_init b_TypeFinder_Type_init 5 none rm_Type_init_nrr G [] [.ref h0, .int k, .null, .ref l0, .ref r0] [(h0, .inr (5, [.int 0, .int 0, .null, .null, .null, .null, .null, .int 0]))] (S := Unit) (fun _ => none) (fun _ => True) (fun _ => [(h0, .inr (5, [.int k, .int 0, .null, .ref l0, .ref r0, .null, .null, .int 0]))]) := by
  refine xb_CT.of (by decide) "TypeFinder$Type" rfl ?_ (Nat.le_of_ble_eq_true rfl)
  intro p e s m args below meth c A ls Q F hr hlk hnm h hl hA hQ
  have hx := F.1.1
  have hb := F.1.2.1
  have hml := F.1.2.2.1
  have hown := F.1.2.2.2.1
  have hts := F.1.2.2.2.2
  have hK := F.2.1
  refine lv_aload_n (pc := 0) hx hb d_TypeFinder_Type_init_0 rfl (lv_at hl 0 rfl) ?_
  refine W.objInit hx hb hown (hts _ k_68) (hts _ k_25) (hts _ k_26) rfl (by rw [hml]; exact hl.1) rfl d_TypeFinder_Type_init_1 (Nat.le_of_ble_eq_true rfl) (Nat.le_of_ble_eq_true rfl) ?_
  refine W.eq (g2 := F0 m 4 ls []) rfl ?_
  refine lv_aload_n (pc := 4) hx hb d_TypeFinder_Type_init_4 rfl (lv_at hl 0 rfl) ?_
  refine lv_iload_n (pc := 5) hx hb d_TypeFinder_Type_init_5 rfl (lv_at hl 1 rfl) ?_
  refine xb_put (pc := 6) (t0 := .int) (ws' := [(h0, .inr (5, [.int k, .int 0, .null, .null, .null, .null, .null, .int 0]))]) F h cf_5 0 rfl 0 (by decide) rfl k_69 (Or.inl rfl) (by decide +kernel) rfl rfl (Nat.le_of_ble_eq_true rfl) rfl d_TypeFinder_Type_init_6 (fun H locs h => ?_)
  refine lv_aload_n (pc := 9) hx hb d_TypeFinder_Type_init_9 rfl (lv_at hl 0 rfl) ?_
  refine lv_aload_nN (pc := 10) hx hb d_TypeFinder_Type_init_10 rfl (lv_at hl 2 rfl) ?_
  refine xb_putF (pc := 11) (t0 := (.object "TypeFinder$DataType")) (ws' := [(h0, .inr (5, [.int k, .int 0, .null, .null, .null, .null, .null, .int 0]))]) F h hnm cf_5 0 rfl 2 (by decide) rfl k_70 (by decide +kernel) rfl rfl (Nat.le_of_ble_eq_true rfl) rfl d_TypeFinder_Type_init_11 (fun H locs h => ?_)
  refine lv_aload_n (pc := 14) hx hb d_TypeFinder_Type_init_14 rfl (lv_at hl 0 rfl) ?_
  refine lv_aload_n (pc := 15) hx hb d_TypeFinder_Type_init_15 rfl (lv_at hl 3 rfl) ?_
  refine xb_putF (pc := 16) (t0 := (.object "TypeFinder$Type")) (ws' := [(h0, .inr (5, [.int k, .int 0, .null, .ref l0, .null, .null, .null, .int 0]))]) F h hnm cf_5 0 rfl 3 (by decide) rfl k_71 (by decide +kernel) rfl rfl (Nat.le_of_ble_eq_true rfl) rfl d_TypeFinder_Type_init_16 (fun H locs h => ?_)
  refine lv_aload_n (pc := 19) hx hb d_TypeFinder_Type_init_19 rfl (lv_at hl 0 rfl) ?_
  refine lv_aload (pc := 20) hx hb d_TypeFinder_Type_init_20 (lv_at hl 4 rfl) ?_
  refine xb_putF (pc := 22) (t0 := (.object "TypeFinder$Type")) (ws' := [(h0, .inr (5, [.int k, .int 0, .null, .ref l0, .ref r0, .null, .null, .int 0]))]) F h hnm cf_5 0 rfl 4 (by decide) rfl k_72 (by decide +kernel) rfl rfl (Nat.le_of_ble_eq_true rfl) rfl d_TypeFinder_Type_init_22 (fun H locs h => ?_)
  exact xb_vret (pc := 25) (rm := rm_Type_init_nrr) F hr hlk hA hQ h () trivial rfl [0] (by decide) rfl (by decide) (by decide) d_TypeFinder_Type_init_25
abbrev rm_Name_init : Room := { frames := 1, cells := 0, slots := 0, locals := 30 }
set_option maxHeartbeats 4000000 in
set_option maxRecDepth 100000 in
theorem ct_Name_init (l : Launch) (G : xb_EV) (h0 : Nat) (k : Int64) (t0 : Nat) : xb_CT l y_TypeFinder_Name_init b_TypeFinder_Name_init 5 none rm_Name_init G [] [.ref h0, .long k, .ref t0, .int 1] [(h0, .inr (7, [.long 0, .null, .int 0]))] (S := Unit) (fun _ => none) (fun _ => True) (fun _ => [(h0, .inr (7, [.long k, .ref t0, .int 1]))]) := by
  refine xb_CT.of (by decide) "TypeFinder$Name" rfl ?_ (Nat.le_of_ble_eq_true rfl)
  intro p e s m args below meth c A ls Q F hr hlk hnm h hl hA hQ
  have hx := F.1.1
  have hb := F.1.2.1
  have hml := F.1.2.2.1
  have hown := F.1.2.2.2.1
  have hts := F.1.2.2.2.2
  have hK := F.2.1
  refine lv_aload_n (pc := 0) hx hb d_TypeFinder_Name_init_0 rfl (lv_at hl 0 rfl) ?_
  refine W.objInit hx hb hown (hts _ k_73) (hts _ k_25) (hts _ k_26) rfl (by rw [hml]; exact hl.1) rfl d_TypeFinder_Name_init_1 (Nat.le_of_ble_eq_true rfl) (Nat.le_of_ble_eq_true rfl) ?_
  refine W.eq (g2 := F0 m 4 ls []) rfl ?_
  refine lv_aload_n (pc := 4) hx hb d_TypeFinder_Name_init_4 rfl (lv_at hl 0 rfl) ?_
  refine lv_lload_n (pc := 5) hx hb d_TypeFinder_Name_init_5 rfl (lv_at hl 1 rfl) ?_
  refine xb_putF (pc := 6) (t0 := .long) (ws' := [(h0, .inr (7, [.long k, .null, .int 0]))]) F h hnm cf_7 0 rfl 0 (by decide) rfl k_74 (by decide +kernel) rfl rfl (Nat.le_of_ble_eq_true rfl) rfl d_TypeFinder_Name_init_6 (fun H locs h => ?_)
  refine lv_aload_n (pc := 9) hx hb d_TypeFinder_Name_init_9 rfl (lv_at hl 0 rfl) ?_
  refine lv_aload_n (pc := 10) hx hb d_TypeFinder_Name_init_10 rfl (lv_at hl 2 rfl) ?_
  refine xb_putF (pc := 11) (t0 := (.object "TypeFinder$Type")) (ws' := [(h0, .inr (7, [.long k, .ref t0, .int 0]))]) F h hnm cf_7 0 rfl 1 (by decide) rfl k_75 (by decide +kernel) rfl rfl (Nat.le_of_ble_eq_true rfl) rfl d_TypeFinder_Name_init_11 (fun H locs h => ?_)
  refine lv_aload_n (pc := 14) hx hb d_TypeFinder_Name_init_14 rfl (lv_at hl 0 rfl) ?_
  refine lv_iload (pc := 15) hx hb d_TypeFinder_Name_init_15 (lv_at hl 3 rfl) ?_
  refine xb_putF (pc := 17) (t0 := .boolean) (ws' := [(h0, .inr (7, [.long k, .ref t0, .int 1]))]) F h hnm cf_7 0 rfl 2 (by decide) rfl k_76 (by decide +kernel) (by decide) (by decide) (Nat.le_of_ble_eq_true rfl) rfl d_TypeFinder_Name_init_17 (fun H locs h => ?_)
  exact xb_vret (pc := 20) (rm := rm_Name_init) F hr hlk hA hQ h () trivial rfl [0] (by decide) rfl (by decide) (by decide) d_TypeFinder_Name_init_20
abbrev rm_function : Room := { frames := 2, cells := 1, slots := 8, locals := 54 }
set_option maxHeartbeats 4000000 in
set_option maxRecDepth 100000 in
theorem ct_function (l : Launch) (G : xb_EV) (a0 : Nat) (b0 : Nat) : xb_CT l y_TypeFinder_Unifier_function b_TypeFinder_Unifier_function 2 (some (.object "TypeFinder$Type")) rm_function G [] [.ref a0, .ref b0] [] (S := Nat) (fun u => some (.ref u)) (fun _ => True) (fun _ => []) := by
  refine xb_CT.of (by decide) "TypeFinder$Unifier" rfl ?_ (Nat.le_of_ble_eq_true rfl)
  intro p e s m args below meth c A ls Q F hr hlk hnm h hl hA hQ
  have hx := F.1.1
  have hb := F.1.2.1
  have hml := F.1.2.2.1
  have hown := F.1.2.2.2.1
  have hts := F.1.2.2.2.2
  have hK := F.2.1
  refine xb_new (pc := 0) (ws' := fun q0_1 => [(q0_1, .inr (5, [.int 0, .int 0, .null, .null, .null, .null, .null, .int 0]))]) F h cf_5 k_77 k_78 k_79 df_5 (fun _ => rfl) (by decide) (by decide) d_TypeFinder_Unifier_function_0 (fun q0_1 H h => ?_)
  refine lv_dup (pc := 3) hx hb d_TypeFinder_Unifier_function_3 rfl ?_
  refine lv_iconst (pc := 4) (v := 1) hx hb d_TypeFinder_Unifier_function_4 (by decide) ?_
  refine lv_null (pc := 5) hx hb d_TypeFinder_Unifier_function_5 ?_
  refine lv_aload_n (pc := 6) hx hb d_TypeFinder_Unifier_function_6 rfl (lv_at hl 0 rfl) ?_
  refine lv_aload_n (pc := 7) hx hb d_TypeFinder_Unifier_function_7 rfl (lv_at hl 1 rfl) ?_
  refine xb_callI (pc := 8) (rm := rm_Type_init_nrr) (wr := []) F h (ct_Type_init_nrr l G q0_1 1 a0 b0) 4 k_80 k_79 k_81 k_82 rfl hd_TypeFinder_Type_init (by decide) [0] [] rfl rfl (by decide) (by decide) (by decide) xb_ss0 hl.1 rfl rfl (Nat.le_of_ble_eq_true rfl) (by decide) d_TypeFinder_Unifier_function_8 (fun u H locs hu h => ?_)
  have h : xb_W G A s [(q0_1, .inr (5, [.int 1, .int 0, .null, .ref a0, .ref b0, .null, .null, .int 0]))] _ _ := h
  refine W.widen (k := 1) (n := 8) (by decide) (by decide) ?_
  refine W.eq (g2 := F0 m 11 ls [.ref q0_1]) rfl ?_
  exact xb_aret (pc := 11) (rm := rm_function) F hr (by first | exact Or.inl ⟨_, rfl⟩ | exact Or.inr ⟨_, rfl⟩) (by first | exact Or.inl rfl | exact Or.inr ⟨_, rfl⟩) hlk hA hQ h q0_1 trivial rfl [] (by decide) rfl (by decide) (by decide) d_TypeFinder_Unifier_function_11
abbrev rm_DataType_init : Room := { frames := 4, cells := 1, slots := 3, locals := 90 }
set_option maxHeartbeats 4000000 in
set_option maxRecDepth 100000 in
theorem ct_DataType_init (l : Launch) (G : xb_EV) (h0 : Nat) (k : Int64) (n0 : Int32) : xb_CT l y_TypeFinder_DataType_init b_TypeFinder_DataType_init 4 none rm_DataType_init G [] [.ref h0, .long k, .int n0] [(h0, .inr (6, [.long 0, .int 0, .null, .null, .int 0]))] (S := Nat) (fun _ => none) (fun _ => True) (fun u => [(h0, .inr (6, [.long k, .int n0, .ref u, .null, .int 1])), (u, .inr (11, [.int 0, .ref (G.2.2.1), .int 0]))]) := by
  refine xb_CT.of (by decide) "TypeFinder$DataType" rfl ?_ (Nat.le_of_ble_eq_true rfl)
  intro p e s m args below meth c A ls Q F hr hlk hnm h hl hA hQ
  have hx := F.1.1
  have hb := F.1.2.1
  have hml := F.1.2.2.1
  have hown := F.1.2.2.2.1
  have hts := F.1.2.2.2.2
  have hK := F.2.1
  refine lv_aload_n (pc := 0) hx hb d_TypeFinder_DataType_init_0 rfl (lv_at hl 0 rfl) ?_
  refine W.objInit hx hb hown (hts _ k_83) (hts _ k_25) (hts _ k_26) rfl (by rw [hml]; exact hl.1) rfl d_TypeFinder_DataType_init_1 (Nat.le_of_ble_eq_true rfl) (Nat.le_of_ble_eq_true rfl) ?_
  refine W.eq (g2 := F0 m 4 ls []) rfl ?_
  refine lv_aload_n (pc := 4) hx hb d_TypeFinder_DataType_init_4 rfl (lv_at hl 0 rfl) ?_
  refine xb_new (pc := 5) (ws' := fun q5_1 => [(h0, .inr (6, [.long 0, .int 0, .null, .null, .int 0])), (q5_1, .inr (11, [.int 0, .null, .int 0]))]) F h cf_11 k_84 k_85 k_45 df_11 (fun _ => rfl) (by decide) (by decide) d_TypeFinder_DataType_init_5 (fun q5_1 H h => ?_)
  refine lv_dup (pc := 8) hx hb d_TypeFinder_DataType_init_8 rfl ?_
  refine xb_callI (pc := 9) (rm := rm_ArrayList_init) (wr := [(h0, .inr (6, [.long 0, .int 0, .null, .null, .int 0]))]) F h (ct_ArrayList_init l G q5_1) 0 k_86 k_45 k_87 k_88 rfl hd_ArrayList_init (by decide) [1] [0] rfl rfl (by decide) (by decide) (by decide) xb_ss0 hl.1 rfl rfl (Nat.le_of_ble_eq_true rfl) (by decide) d_TypeFinder_DataType_init_9 (fun u H locs hu h => ?_)
  have h : xb_W G A s [(h0, .inr (6, [.long 0, .int 0, .null, .null, .int 0])), (q5_1, .inr (11, [.int 0, .ref (G.2.2.1), .int 0]))] _ _ := h
  refine W.widen (k := 1) (n := 3) (by decide) (by decide) ?_
  refine W.eq (g2 := F0 m 12 ls [.ref q5_1, .ref h0]) rfl ?_
  refine xb_putF (pc := 12) (t0 := (.object "java/util/ArrayList")) (ws' := [(h0, .inr (6, [.long 0, .int 0, .ref q5_1, .null, .int 0])), (q5_1, .inr (11, [.int 0, .ref (G.2.2.1), .int 0]))]) F h hnm cf_6 0 rfl 2 (by decide) rfl k_89 (by decide +kernel) rfl rfl (Nat.le_of_ble_eq_true rfl) rfl d_TypeFinder_DataType_init_12 (fun H locs h => ?_)
  refine lv_aload_n (pc := 15) hx hb d_TypeFinder_DataType_init_15 rfl (lv_at hl 0 rfl) ?_
  refine lv_iconst (pc := 16) (v := 1) hx hb d_TypeFinder_DataType_init_16 (by decide) ?_
  refine xb_put (pc := 17) (t0 := .boolean) (ws' := [(h0, .inr (6, [.long 0, .int 0, .ref q5_1, .null, .int 1])), (q5_1, .inr (11, [.int 0, .ref (G.2.2.1), .int 0]))]) F h cf_6 0 rfl 4 (by decide) rfl k_90 (Or.inl rfl) (by decide +kernel) (by decide) (by decide) (Nat.le_of_ble_eq_true rfl) rfl d_TypeFinder_DataType_init_17 (fun H locs h => ?_)
  refine lv_aload_n (pc := 20) hx hb d_TypeFinder_DataType_init_20 rfl (lv_at hl 0 rfl) ?_
  refine lv_lload_n (pc := 21) hx hb d_TypeFinder_DataType_init_21 rfl (lv_at hl 1 rfl) ?_
  refine xb_putF (pc := 22) (t0 := .long) (ws' := [(h0, .inr (6, [.long k, .int 0, .ref q5_1, .null, .int 1])), (q5_1, .inr (11, [.int 0, .ref (G.2.2.1), .int 0]))]) F h hnm cf_6 0 rfl 0 (by decide) rfl k_91 (by decide +kernel) rfl rfl (Nat.le_of_ble_eq_true rfl) rfl d_TypeFinder_DataType_init_22 (fun H locs h => ?_)
  refine lv_aload_n (pc := 25) hx hb d_TypeFinder_DataType_init_25 rfl (lv_at hl 0 rfl) ?_
  refine lv_iload_n (pc := 26) hx hb d_TypeFinder_DataType_init_26 rfl (lv_at hl 2 rfl) ?_
  refine xb_putF (pc := 27) (t0 := .int) (ws' := [(h0, .inr (6, [.long k, .int n0, .ref q5_1, .null, .int 1])), (q5_1, .inr (11, [.int 0, .ref (G.2.2.1), .int 0]))]) F h hnm cf_6 0 rfl 1 (by decide) rfl k_92 (by decide +kernel) rfl rfl (Nat.le_of_ble_eq_true rfl) rfl d_TypeFinder_DataType_init_27 (fun H locs h => ?_)
  exact xb_vret (pc := 30) (rm := rm_DataType_init) F hr hlk hA hQ h q5_1 trivial rfl [0, 1] (by decide) rfl (by decide) (by decide) d_TypeFinder_DataType_init_30
abbrev rm_made_0 : Room := { frames := 5, cells := 3, slots := 16, locals := 113 }
set_option maxHeartbeats 4000000 in
set_option maxRecDepth 100000 in
theorem ct_made_0 (l : Launch) (G : xb_EV) (k : Int64) : xb_CT l y_TypeFinder_DataType_made b_TypeFinder_DataType_made 6 (some (.object "TypeFinder$DataType")) rm_made_0 G [] [.long k, .int 0] [] (S := Nat × Nat × Nat) (fun u => some (.ref u.1)) (fun _ => True) (fun u => [(u.1, .inr (6, [.long k, .int 0, .ref u.2.1, .ref u.2.2, .int 1])), (u.2.1, .inr (11, [.int 0, .ref (G.2.2.1), .int 0])), (u.2.2, .inr (5, [.int 3, .int 0, .ref u.1, .null, .null, .null, .null, .int 0]))]) := by
  refine xb_CT.of (by decide) "TypeFinder$DataType" rfl ?_ (Nat.le_of_ble_eq_true rfl)
  intro p e s m args below meth c A ls Q F hr hlk hnm h hl hA hQ
  have hx := F.1.1
  have hb := F.1.2.1
  have hml := F.1.2.2.1
  have hown := F.1.2.2.2.1
  have hts := F.1.2.2.2.2
  have hK := F.2.1
  refine xb_new (pc := 0) (ws' := fun q0_1 => [(q0_1, .inr (6, [.long 0, .int 0, .null, .null, .int 0]))]) F h cf_6 k_93 k_94 k_95 df_6 (fun _ => rfl) (by decide) (by decide) d_TypeFinder_DataType_made_0 (fun q0_1 H h => ?_)
  refine lv_dup (pc := 3) hx hb d_TypeFinder_DataType_made_3 rfl ?_
  refine lv_lload_n (pc := 4) hx hb d_TypeFinder_DataType_made_4 rfl (lv_at hl 0 rfl) ?_
  refine lv_iload_n (pc := 5) hx hb d_TypeFinder_DataType_made_5 rfl (lv_at hl 1 rfl) ?_
  refine xb_callI (pc := 6) (rm := rm_DataType_init) (wr := []) F h (ct_DataType_init l G q0_1 k 0) 2 k_96 k_95 k_97 k_98 rfl hd_TypeFinder_DataType_init (by decide) [0] [] rfl rfl (by decide) (by decide) (by decide) xb_ss0 hl.1 rfl rfl (Nat.le_of_ble_eq_true rfl) (by decide) d_TypeFinder_DataType_made_6 (fun u H locs hu h => ?_)
  obtain ⟨q6_2, rfl⟩ : ∃ z, z = u := ⟨_, rfl⟩
  have h : xb_W G A s [(q0_1, .inr (6, [.long k, .int 0, .ref q6_2, .null, .int 1])), (q6_2, .inr (11, [.int 0, .ref (G.2.2.1), .int 0]))] _ _ := h
  refine W.widen (k := 2) (n := 8) (by decide) (by decide) ?_
  refine W.eq (g2 := F0 m 9 ls [.ref q0_1]) rfl ?_
  refine lv_astore_n (pc := 9) (lv' := [(3, .ref q0_1), (0, .long k), (2, .int 0)]) hx hb d_TypeFinder_DataType_made_9 rfl hl (by decide) rfl (fun ls hl => ?_)
  refine lv_iload_n (pc := 10) hx hb d_TypeFinder_DataType_made_10 rfl (lv_at hl 2 rfl) ?_
  refine lv_if_le (pc := 11) (tgt := 28) hx hb d_TypeFinder_DataType_made_11 (by decide) (fun _ => ?_) (fun h => absurd (by decide) h)
  refine lv_null (pc := 28) hx hb d_TypeFinder_DataType_made_28 ?_
  refine lv_astoreN (pc := 29) (lv' := [(4, .null), (3, .ref q0_1), (0, .long k), (2, .int 0)]) hx hb d_TypeFinder_DataType_made_29 hl (by decide) rfl (fun ls hl => ?_)
  refine lv_iload_n (pc := 31) hx hb d_TypeFinder_DataType_made_31 rfl (lv_at hl 3 rfl) ?_
  refine lv_iconst (pc := 32) (v := 1) hx hb d_TypeFinder_DataType_made_32 (by decide) ?_
  refine lv_icmp_le (pc := 33) (tgt := 50) hx hb d_TypeFinder_DataType_made_33 (by decide) (fun _ => ?_) (fun h => absurd (by decide) h)
  refine lv_null (pc := 50) hx hb d_TypeFinder_DataType_made_50 ?_
  refine lv_astoreN (pc := 51) (lv' := [(5, .null), (4, .null), (3, .ref q0_1), (0, .long k), (2, .int 0)]) hx hb d_TypeFinder_DataType_made_51 hl (by decide) rfl (fun ls hl => ?_)
  refine lv_aload_n (pc := 53) hx hb d_TypeFinder_DataType_made_53 rfl (lv_at hl 2 rfl) ?_
  refine xb_new (pc := 54) (ws' := fun q54_3 => [(q0_1, .inr (6, [.long k, .int 0, .ref q6_2, .null, .int 1])), (q6_2, .inr (11, [.int 0, .ref (G.2.2.1), .int 0])), (q54_3, .inr (5, [.int 0, .int 0, .null, .null, .null, .null, .null, .int 0]))]) F h cf_5 k_99 k_78 k_79 df_5 (fun _ => rfl) (by decide) (by decide) d_TypeFinder_DataType_made_54 (fun q54_3 H h => ?_)
  refine lv_dup (pc := 57) hx hb d_TypeFinder_DataType_made_57 rfl ?_
  refine lv_iconst (pc := 58) (v := 3) hx hb d_TypeFinder_DataType_made_58 (by decide) ?_
  refine lv_aload_n (pc := 59) hx hb d_TypeFinder_DataType_made_59 rfl (lv_at hl 2 rfl) ?_
  refine lv_aloadN (pc := 60) hx hb d_TypeFinder_DataType_made_60 (lv_at hl 1 rfl) ?_
  refine lv_aloadN (pc := 62) hx hb d_TypeFinder_DataType_made_62 (lv_at hl 0 rfl) ?_
  refine xb_callI (pc := 64) (rm := rm_Type_init_rnn) (wr := [(q0_1, .inr (6, [.long k, .int 0, .ref q6_2, .null, .int 1])), (q6_2, .inr (11, [.int 0, .ref (G.2.2.1), .int 0]))]) F h (ct_Type_init_rnn l G q54_3 3 q0_1) 4 k_80 k_79 k_100 k_82 rfl hd_TypeFinder_Type_init (by decide) [2] [0, 1] rfl rfl (by decide) (by decide) (by decide) xb_ss0 hl.1 rfl rfl (Nat.le_of_ble_eq_true rfl) (by decide) d_TypeFinder_DataType_made_64 (fun u H locs hu h => ?_)
  have h : xb_W G A s [(q0_1, .inr (6, [.long k, .int 0, .ref q6_2, .null, .int 1])), (q6_2, .inr (11, [.int 0, .ref (G.2.2.1), .int 0])), (q54_3, .inr (5, [.int 3, .int 0, .ref q0_1, .null, .null, .null, .null, .int 0]))] _ _ := h
  refine W.widen (k := 3) (n := 16) (by decide) (by decide) ?_
  refine W.eq (g2 := F0 m 67 ls [.ref q54_3, .ref q0_1]) rfl ?_
  refine xb_put (pc := 67) (t0 := (.object "TypeFinder$Type")) (ws' := [(q0_1, .inr (6, [.long k, .int 0, .ref q6_2, .ref q54_3, .int 1])), (q6_2, .inr (11, [.int 0, .ref (G.2.2.1), .int 0])), (q54_3, .inr (5, [.int 3, .int 0, .ref q0_1, .null, .null, .null, .null, .int 0]))]) F h cf_6 0 rfl 3 (by decide) rfl k_101 (Or.inl rfl) (by decide +kernel) rfl rfl (Nat.le_of_ble_eq_true rfl) rfl d_TypeFinder_DataType_made_67 (fun H locs h => ?_)
  refine lv_aload_n (pc := 70) hx hb d_TypeFinder_DataType_made_70 rfl (lv_at hl 2 rfl) ?_
  exact xb_aret (pc := 71) (rm := rm_made_0) F hr (by first | exact Or.inl ⟨_, rfl⟩ | exact Or.inr ⟨_, rfl⟩) (by first | exact Or.inl rfl | exact Or.inr ⟨_, rfl⟩) hlk hA hQ h (q0_1, q6_2, q54_3) trivial rfl [0, 1, 2] (by decide) rfl (by decide) (by decide) d_TypeFinder_DataType_made_71
abbrev rm_made_1 : Room := { frames := 5, cells := 4, slots := 24, locals := 113 }
set_option maxHeartbeats 4000000 in
set_option maxRecDepth 100000 in
theorem ct_made_1 (l : Launch) (G : xb_EV) (k : Int64) : xb_CT l y_TypeFinder_DataType_made b_TypeFinder_DataType_made 6 (some (.object "TypeFinder$DataType")) rm_made_1 G [] [.long k, .int 1] [] (S := Nat × Nat × Nat × Nat) (fun u => some (.ref u.1)) (fun _ => True) (fun u => [(u.1, .inr (6, [.long k, .int 1, .ref u.2.1, .ref u.2.2.2, .int 1])), (u.2.1, .inr (11, [.int 0, .ref (G.2.2.1), .int 0])), (u.2.2.1, .inr (5, [.int 5, .int 0, .null, .null, .null, .null, .null, .int 0])), (u.2.2.2, .inr (5, [.int 3, .int 0, .ref u.1, .ref u.2.2.1, .null, .null, .null, .int 0]))]) := by
  refine xb_CT.of (by decide) "TypeFinder$DataType" rfl ?_ (Nat.le_of_ble_eq_true rfl)
  intro p e s m args below meth c A ls Q F hr hlk hnm h hl hA hQ
  have hx := F.1.1
  have hb := F.1.2.1
  have hml := F.1.2.2.1
  have hown := F.1.2.2.2.1
  have hts := F.1.2.2.2.2
  have hK := F.2.1
  refine xb_new (pc := 0) (ws' := fun q0_1 => [(q0_1, .inr (6, [.long 0, .int 0, .null, .null, .int 0]))]) F h cf_6 k_93 k_94 k_95 df_6 (fun _ => rfl) (by decide) (by decide) d_TypeFinder_DataType_made_0 (fun q0_1 H h => ?_)
  refine lv_dup (pc := 3) hx hb d_TypeFinder_DataType_made_3 rfl ?_
  refine lv_lload_n (pc := 4) hx hb d_TypeFinder_DataType_made_4 rfl (lv_at hl 0 rfl) ?_
  refine lv_iload_n (pc := 5) hx hb d_TypeFinder_DataType_made_5 rfl (lv_at hl 1 rfl) ?_
  refine xb_callI (pc := 6) (rm := rm_DataType_init) (wr := []) F h (ct_DataType_init l G q0_1 k 1) 2 k_96 k_95 k_97 k_98 rfl hd_TypeFinder_DataType_init (by decide) [0] [] rfl rfl (by decide) (by decide) (by decide) xb_ss0 hl.1 rfl rfl (Nat.le_of_ble_eq_true rfl) (by decide) d_TypeFinder_DataType_made_6 (fun u H locs hu h => ?_)
  obtain ⟨q6_2, rfl⟩ : ∃ z, z = u := ⟨_, rfl⟩
  have h : xb_W G A s [(q0_1, .inr (6, [.long k, .int 1, .ref q6_2, .null, .int 1])), (q6_2, .inr (11, [.int 0, .ref (G.2.2.1), .int 0]))] _ _ := h
  refine W.widen (k := 2) (n := 8) (by decide) (by decide) ?_
  refine W.eq (g2 := F0 m 9 ls [.ref q0_1]) rfl ?_
  refine lv_astore_n (pc := 9) (lv' := [(3, .ref q0_1), (0, .long k), (2, .int 1)]) hx hb d_TypeFinder_DataType_made_9 rfl hl (by decide) rfl (fun ls hl => ?_)
  refine lv_iload_n (pc := 10) hx hb d_TypeFinder_DataType_made_10 rfl (lv_at hl 2 rfl) ?_
  refine lv_if_le (pc := 11) (tgt := 28) hx hb d_TypeFinder_DataType_made_11 (by decide) (fun h => absurd h (by decide)) (fun _ => ?_)
  refine xb_new (pc := 14) (ws' := fun q14_3 => [(q0_1, .inr (6, [.long k, .int 1, .ref q6_2, .null, .int 1])), (q6_2, .inr (11, [.int 0, .ref (G.2.2.1), .int 0])), (q14_3, .inr (5, [.int 0, .int 0, .null, .null, .null, .null, .null, .int 0]))]) F h cf_5 k_99 k_78 k_79 df_5 (fun _ => rfl) (by decide) (by decide) d_TypeFinder_DataType_made_14 (fun q14_3 H h => ?_)
  refine lv_dup (pc := 17) hx hb d_TypeFinder_DataType_made_17 rfl ?_
  refine lv_iconst (pc := 18) (v := 5) hx hb d_TypeFinder_DataType_made_18 (by decide) ?_
  refine lv_null (pc := 19) hx hb d_TypeFinder_DataType_made_19 ?_
  refine lv_null (pc := 20) hx hb d_TypeFinder_DataType_made_20 ?_
  refine lv_null (pc := 21) hx hb d_TypeFinder_DataType_made_21 ?_
  refine xb_callI (pc := 22) (rm := rm_Type_init_nnn) (wr := [(q0_1, .inr (6, [.long k, .int 1, .ref q6_2, .null, .int 1])), (q6_2, .inr (11, [.int 0, .ref (G.2.2.1), .int 0]))]) F h (ct_Type_init_nnn l G q14_3 5) 4 k_80 k_79 k_100 k_82 rfl hd_TypeFinder_Type_init (by decide) [2] [0, 1] rfl rfl (by decide) (by decide) (by decide) xb_ss0 hl.1 rfl rfl (Nat.le_of_ble_eq_true rfl) (by decide) d_TypeFinder_DataType_made_22 (fun u H locs hu h => ?_)
  have h : xb_W G A s [(q0_1, .inr (6, [.long k, .int 1, .ref q6_2, .null, .int 1])), (q6_2, .inr (11, [.int 0, .ref (G.2.2.1), .int 0])), (q14_3, .inr (5, [.int 5, .int 0, .null, .null, .null, .null, .null, .int 0]))] _ _ := h
  refine W.widen (k := 3) (n := 16) (by decide) (by decide) ?_
  refine W.eq (g2 := F0 m 25 ls [.ref q14_3]) rfl ?_
  refine lv_goto (pc := 25) (tgt := 29) hx hb d_TypeFinder_DataType_made_25 (by decide) ?_
  refine lv_astore (pc := 29) (lv' := [(4, .ref q14_3), (3, .ref q0_1), (0, .long k), (2, .int 1)]) hx hb d_TypeFinder_DataType_made_29 hl (by decide) rfl (fun ls hl => ?_)
  refine lv_iload_n (pc := 31) hx hb d_TypeFinder_DataType_made_31 rfl (lv_at hl 3 rfl) ?_
  refine lv_iconst (pc := 32) (v := 1) hx hb d_TypeFinder_DataType_made_32 (by decide) ?_
  refine lv_icmp_le (pc := 33) (tgt := 50) hx hb d_TypeFinder_DataType_made_33 (by decide) (fun _ => ?_) (fun h => absurd (by decide) h)
  refine lv_null (pc := 50) hx hb d_TypeFinder_DataType_made_50 ?_
  refine lv_astoreN (pc := 51) (lv' := [(5, .null), (4, .ref q14_3), (3, .ref q0_1), (0, .long k), (2, .int 1)]) hx hb d_TypeFinder_DataType_made_51 hl (by decide) rfl (fun ls hl => ?_)
  refine lv_aload_n (pc := 53) hx hb d_TypeFinder_DataType_made_53 rfl (lv_at hl 2 rfl) ?_
  refine xb_new (pc := 54) (ws' := fun q54_4 => [(q0_1, .inr (6, [.long k, .int 1, .ref q6_2, .null, .int 1])), (q6_2, .inr (11, [.int 0, .ref (G.2.2.1), .int 0])), (q14_3, .inr (5, [.int 5, .int 0, .null, .null, .null, .null, .null, .int 0])), (q54_4, .inr (5, [.int 0, .int 0, .null, .null, .null, .null, .null, .int 0]))]) F h cf_5 k_99 k_78 k_79 df_5 (fun _ => rfl) (by decide) (by decide) d_TypeFinder_DataType_made_54 (fun q54_4 H h => ?_)
  refine lv_dup (pc := 57) hx hb d_TypeFinder_DataType_made_57 rfl ?_
  refine lv_iconst (pc := 58) (v := 3) hx hb d_TypeFinder_DataType_made_58 (by decide) ?_
  refine lv_aload_n (pc := 59) hx hb d_TypeFinder_DataType_made_59 rfl (lv_at hl 2 rfl) ?_
  refine lv_aload (pc := 60) hx hb d_TypeFinder_DataType_made_60 (lv_at hl 1 rfl) ?_
  refine lv_aloadN (pc := 62) hx hb d_TypeFinder_DataType_made_62 (lv_at hl 0 rfl) ?_
  refine xb_callI (pc := 64) (rm := rm_Type_init_rrn) (wr := [(q0_1, .inr (6, [.long k, .int 1, .ref q6_2, .null, .int 1])), (q6_2, .inr (11, [.int 0, .ref (G.2.2.1), .int 0])), (q14_3, .inr (5, [.int 5, .int 0, .null, .null, .null, .null, .null, .int 0]))]) F h (ct_Type_init_rrn l G q54_4 3 q0_1 q14_3) 4 k_80 k_79 k_100 k_82 rfl hd_TypeFinder_Type_init (by decide) [3] [0, 1, 2] rfl rfl (by decide) (by decide) (by decide) xb_ss0 hl.1 rfl rfl (Nat.le_of_ble_eq_true rfl) (by decide) d_TypeFinder_DataType_made_64 (fun u H locs hu h => ?_)
  have h : xb_W G A s [(q0_1, .inr (6, [.long k, .int 1, .ref q6_2, .null, .int 1])), (q6_2, .inr (11, [.int 0, .ref (G.2.2.1), .int 0])), (q14_3, .inr (5, [.int 5, .int 0, .null, .null, .null, .null, .null, .int 0])), (q54_4, .inr (5, [.int 3, .int 0, .ref q0_1, .ref q14_3, .null, .null, .null, .int 0]))] _ _ := h
  refine W.widen (k := 4) (n := 24) (by decide) (by decide) ?_
  refine W.eq (g2 := F0 m 67 ls [.ref q54_4, .ref q0_1]) rfl ?_
  refine xb_put (pc := 67) (t0 := (.object "TypeFinder$Type")) (ws' := [(q0_1, .inr (6, [.long k, .int 1, .ref q6_2, .ref q54_4, .int 1])), (q6_2, .inr (11, [.int 0, .ref (G.2.2.1), .int 0])), (q14_3, .inr (5, [.int 5, .int 0, .null, .null, .null, .null, .null, .int 0])), (q54_4, .inr (5, [.int 3, .int 0, .ref q0_1, .ref q14_3, .null, .null, .null, .int 0]))]) F h cf_6 0 rfl 3 (by decide) rfl k_101 (Or.inl rfl) (by decide +kernel) rfl rfl (Nat.le_of_ble_eq_true rfl) rfl d_TypeFinder_DataType_made_67 (fun H locs h => ?_)
  refine lv_aload_n (pc := 70) hx hb d_TypeFinder_DataType_made_70 rfl (lv_at hl 2 rfl) ?_
  exact xb_aret (pc := 71) (rm := rm_made_1) F hr (by first | exact Or.inl ⟨_, rfl⟩ | exact Or.inr ⟨_, rfl⟩) (by first | exact Or.inl rfl | exact Or.inr ⟨_, rfl⟩) hlk hA hQ h (q0_1, q6_2, q14_3, q54_4) trivial rfl [0, 1, 2, 3] (by decide) rfl (by decide) (by decide) d_TypeFinder_DataType_made_71
abbrev rm_Unifier_init : Room := { frames := 4, cells := 3, slots := 9, locals := 90 }
set_option maxHeartbeats 4000000 in
set_option maxRecDepth 100000 in
theorem ct_Unifier_init (l : Launch) (G : xb_EV) (h0 : Nat) : xb_CT l y_TypeFinder_Unifier_init b_TypeFinder_Unifier_init 1 none rm_Unifier_init G [] [.ref h0] [(h0, .inr (9, [.null, .null, .null, .int 0]))] (S := Unit) (fun _ => none) (fun _ => True) (fun _ => []) := by
  refine xb_CT.of (by decide) "TypeFinder$Unifier" rfl ?_ (Nat.le_of_ble_eq_true rfl)
  intro p e s m args below meth c A ls Q F hr hlk hnm h hl hA hQ
  have hx := F.1.1
  have hb := F.1.2.1
  have hml := F.1.2.2.1
  have hown := F.1.2.2.2.1
  have hts := F.1.2.2.2.2
  have hK := F.2.1
  refine lv_aload_n (pc := 0) hx hb d_TypeFinder_Unifier_init_0 rfl (lv_at hl 0 rfl) ?_
  refine W.objInit hx hb hown (hts _ k_102) (hts _ k_25) (hts _ k_26) rfl (by rw [hml]; exact hl.1) rfl d_TypeFinder_Unifier_init_1 (Nat.le_of_ble_eq_true rfl) (Nat.le_of_ble_eq_true rfl) ?_
  refine W.eq (g2 := F0 m 4 ls []) rfl ?_
  refine lv_aload_n (pc := 4) hx hb d_TypeFinder_Unifier_init_4 rfl (lv_at hl 0 rfl) ?_
  refine xb_new (pc := 5) (ws' := fun q5_1 => [(h0, .inr (9, [.null, .null, .null, .int 0])), (q5_1, .inr (11, [.int 0, .null, .int 0]))]) F h cf_11 k_103 k_85 k_45 df_11 (fun _ => rfl) (by decide) (by decide) d_TypeFinder_Unifier_init_5 (fun q5_1 H h => ?_)
  refine lv_dup (pc := 8) hx hb d_TypeFinder_Unifier_init_8 rfl ?_
  refine xb_callI (pc := 9) (rm := rm_ArrayList_init) (wr := [(h0, .inr (9, [.null, .null, .null, .int 0]))]) F h (ct_ArrayList_init l G q5_1) 0 k_86 k_45 k_104 k_88 rfl hd_ArrayList_init (by decide) [1] [0] rfl rfl (by decide) (by decide) (by decide) xb_ss0 hl.1 rfl rfl (Nat.le_of_ble_eq_true rfl) (by decide) d_TypeFinder_Unifier_init_9 (fun u H locs hu h => ?_)
  have h : xb_W G A s [(h0, .inr (9, [.null, .null, .null, .int 0])), (q5_1, .inr (11, [.int 0, .ref (G.2.2.1), .int 0]))] _ _ := h
  refine W.widen (k := 1) (n := 3) (by decide) (by decide) ?_
  refine W.eq (g2 := F0 m 12 ls [.ref q5_1, .ref h0]) rfl ?_
  refine xb_putF (pc := 12) (t0 := (.object "java/util/ArrayList")) (ws' := [(h0, .inr (9, [.ref q5_1, .null, .null, .int 0])), (q5_1, .inr (11, [.int 0, .ref (G.2.2.1), .int 0]))]) F h hnm cf_9 0 rfl 0 (by decide) rfl k_105 (by decide +kernel) rfl rfl (Nat.le_of_ble_eq_true rfl) rfl d_TypeFinder_Unifier_init_12 (fun H locs h => ?_)
  refine lv_aload_n (pc := 15) hx hb d_TypeFinder_Unifier_init_15 rfl (lv_at hl 0 rfl) ?_
  refine xb_new (pc := 16) (ws' := fun q16_2 => [(h0, .inr (9, [.ref q5_1, .null, .null, .int 0])), (q5_1, .inr (11, [.int 0, .ref (G.2.2.1), .int 0])), (q16_2, .inr (11, [.int 0, .null, .int 0]))]) F h cf_11 k_103 k_85 k_45 df_11 (fun _ => rfl) (by decide) (by decide) d_TypeFinder_Unifier_init_16 (fun q16_2 H h => ?_)
  refine lv_dup (pc := 19) hx hb d_TypeFinder_Unifier_init_19 rfl ?_
  refine xb_callI (pc := 20) (rm := rm_ArrayList_init) (wr := [(h0, .inr (9, [.ref q5_1, .null, .null, .int 0])), (q5_1, .inr (11, [.int 0, .ref (G.2.2.1), .int 0]))]) F h (ct_ArrayList_init l G q16_2) 0 k_86 k_45 k_104 k_88 rfl hd_ArrayList_init (by decide) [2] [0, 1] rfl rfl (by decide) (by decide) (by decide) xb_ss0 hl.1 rfl rfl (Nat.le_of_ble_eq_true rfl) (by decide) d_TypeFinder_Unifier_init_20 (fun u H locs hu h => ?_)
  have h : xb_W G A s [(h0, .inr (9, [.ref q5_1, .null, .null, .int 0])), (q5_1, .inr (11, [.int 0, .ref (G.2.2.1), .int 0])), (q16_2, .inr (11, [.int 0, .ref (G.2.2.1), .int 0]))] _ _ := h
  refine W.widen (k := 2) (n := 6) (by decide) (by decide) ?_
  refine W.eq (g2 := F0 m 23 ls [.ref q16_2, .ref h0]) rfl ?_
  refine xb_putF (pc := 23) (t0 := (.object "java/util/ArrayList")) (ws' := [(h0, .inr (9, [.ref q5_1, .ref q16_2, .null, .int 0])), (q5_1, .inr (11, [.int 0, .ref (G.2.2.1), .int 0])), (q16_2, .inr (11, [.int 0, .ref (G.2.2.1), .int 0]))]) F h hnm cf_9 0 rfl 1 (by decide) rfl k_106 (by decide +kernel) rfl rfl (Nat.le_of_ble_eq_true rfl) rfl d_TypeFinder_Unifier_init_23 (fun H locs h => ?_)
  refine lv_aload_n (pc := 26) hx hb d_TypeFinder_Unifier_init_26 rfl (lv_at hl 0 rfl) ?_
  refine xb_new (pc := 27) (ws' := fun q27_3 => [(h0, .inr (9, [.ref q5_1, .ref q16_2, .null, .int 0])), (q5_1, .inr (11, [.int 0, .ref (G.2.2.1), .int 0])), (q16_2, .inr (11, [.int 0, .ref (G.2.2.1), .int 0])), (q27_3, .inr (11, [.int 0, .null, .int 0]))]) F h cf_11 k_103 k_85 k_45 df_11 (fun _ => rfl) (by decide) (by decide) d_TypeFinder_Unifier_init_27 (fun q27_3 H h => ?_)
  refine lv_dup (pc := 30) hx hb d_TypeFinder_Unifier_init_30 rfl ?_
  refine xb_callI (pc := 31) (rm := rm_ArrayList_init) (wr := [(h0, .inr (9, [.ref q5_1, .ref q16_2, .null, .int 0])), (q5_1, .inr (11, [.int 0, .ref (G.2.2.1), .int 0])), (q16_2, .inr (11, [.int 0, .ref (G.2.2.1), .int 0]))]) F h (ct_ArrayList_init l G q27_3) 0 k_86 k_45 k_104 k_88 rfl hd_ArrayList_init (by decide) [3] [0, 1, 2] rfl rfl (by decide) (by decide) (by decide) xb_ss0 hl.1 rfl rfl (Nat.le_of_ble_eq_true rfl) (by decide) d_TypeFinder_Unifier_init_31 (fun u H locs hu h => ?_)
  have h : xb_W G A s [(h0, .inr (9, [.ref q5_1, .ref q16_2, .null, .int 0])), (q5_1, .inr (11, [.int 0, .ref (G.2.2.1), .int 0])), (q16_2, .inr (11, [.int 0, .ref (G.2.2.1), .int 0])), (q27_3, .inr (11, [.int 0, .ref (G.2.2.1), .int 0]))] _ _ := h
  refine W.widen (k := 3) (n := 9) (by decide) (by decide) ?_
  refine W.eq (g2 := F0 m 34 ls [.ref q27_3, .ref h0]) rfl ?_
  refine xb_putF (pc := 34) (t0 := (.object "java/util/ArrayList")) (ws' := [(h0, .inr (9, [.ref q5_1, .ref q16_2, .ref q27_3, .int 0])), (q5_1, .inr (11, [.int 0, .ref (G.2.2.1), .int 0])), (q16_2, .inr (11, [.int 0, .ref (G.2.2.1), .int 0])), (q27_3, .inr (11, [.int 0, .ref (G.2.2.1), .int 0]))]) F h hnm cf_9 0 rfl 2 (by decide) rfl k_107 (by decide +kernel) rfl rfl (Nat.le_of_ble_eq_true rfl) rfl d_TypeFinder_Unifier_init_34 (fun H locs h => ?_)
  exact xb_vret (pc := 37) (rm := rm_Unifier_init) F hr hlk hA hQ h () trivial rfl [] (by decide) rfl (by decide) (by decide) d_TypeFinder_Unifier_init_37
abbrev rm_Checker_init : Room := { frames := 5, cells := 6, slots := 19, locals := 110 }
set_option maxHeartbeats 4000000 in
set_option maxRecDepth 100000 in
theorem ct_Checker_init (l : Launch) (G : xb_EV) (h0 : Nat) (k0 : Nat) : xb_CT l y_TypeFinder_Checker_init b_TypeFinder_Checker_init 2 none rm_Checker_init G [] [.ref h0, .ref k0] [(h0, .inr (8, [.null, .null, .null, .null, .int 0, .int 0]))] (S := Unit) (fun _ => none) (fun _ => True) (fun _ => []) := by
  refine xb_CT.of (by decide) "TypeFinder$Checker" rfl ?_ (Nat.le_of_ble_eq_true rfl)
  intro p e s m args below meth c A ls Q F hr hlk hnm h hl hA hQ
  have hx := F.1.1
  have hb := F.1.2.1
  have hml := F.1.2.2.1
  have hown := F.1.2.2.2.1
  have hts := F.1.2.2.2.2
  have hK := F.2.1
  refine lv_aload_n (pc := 0) hx hb d_TypeFinder_Checker_init_0 rfl (lv_at hl 0 rfl) ?_
  refine W.objInit hx hb hown (hts _ k_108) (hts _ k_25) (hts _ k_26) rfl (by rw [hml]; exact hl.1) rfl d_TypeFinder_Checker_init_1 (Nat.le_of_ble_eq_true rfl) (Nat.le_of_ble_eq_true rfl) ?_
  refine W.eq (g2 := F0 m 4 ls []) rfl ?_
  refine lv_aload_n (pc := 4) hx hb d_TypeFinder_Checker_init_4 rfl (lv_at hl 0 rfl) ?_
  refine xb_new (pc := 5) (ws' := fun q5_1 => [(h0, .inr (8, [.null, .null, .null, .null, .int 0, .int 0])), (q5_1, .inr (9, [.null, .null, .null, .int 0]))]) F h cf_9 k_109 k_110 k_111 df_9 (fun _ => rfl) (by decide) (by decide) d_TypeFinder_Checker_init_5 (fun q5_1 H h => ?_)
  refine lv_dup (pc := 8) hx hb d_TypeFinder_Checker_init_8 rfl ?_
  refine xb_callI (pc := 9) (rm := rm_Unifier_init) (wr := [(h0, .inr (8, [.null, .null, .null, .null, .int 0, .int 0]))]) F h (ct_Unifier_init l G q5_1) 0 k_112 k_111 k_113 k_114 rfl hd_TypeFinder_Unifier_init (by decide) [1] [0] rfl rfl (by decide) (by decide) (by decide) xb_ss0 hl.1 rfl rfl (Nat.le_of_ble_eq_true rfl) (by decide) d_TypeFinder_Checker_init_9 (fun u H locs hu h => ?_)
  have h : xb_W G A s [(h0, .inr (8, [.null, .null, .null, .null, .int 0, .int 0]))] _ _ := h
  refine W.widen (k := 4) (n := 13) (by decide) (by decide) ?_
  refine W.eq (g2 := F0 m 12 ls [.ref q5_1, .ref h0]) rfl ?_
  refine xb_putF (pc := 12) (t0 := (.object "TypeFinder$Unifier")) (ws' := [(h0, .inr (8, [.null, .ref q5_1, .null, .null, .int 0, .int 0]))]) F h hnm cf_8 0 rfl 1 (by decide) rfl k_115 (by decide +kernel) rfl rfl (Nat.le_of_ble_eq_true rfl) rfl d_TypeFinder_Checker_init_12 (fun H locs h => ?_)
  refine lv_aload_n (pc := 15) hx hb d_TypeFinder_Checker_init_15 rfl (lv_at hl 0 rfl) ?_
  refine xb_new (pc := 16) (ws' := fun q16_2 => [(h0, .inr (8, [.null, .ref q5_1, .null, .null, .int 0, .int 0])), (q16_2, .inr (11, [.int 0, .null, .int 0]))]) F h cf_11 k_116 k_85 k_45 df_11 (fun _ => rfl) (by decide) (by decide) d_TypeFinder_Checker_init_16 (fun q16_2 H h => ?_)
  refine lv_dup (pc := 19) hx hb d_TypeFinder_Checker_init_19 rfl ?_
  refine xb_callI (pc := 20) (rm := rm_ArrayList_init) (wr := [(h0, .inr (8, [.null, .ref q5_1, .null, .null, .int 0, .int 0]))]) F h (ct_ArrayList_init l G q16_2) 0 k_86 k_45 k_117 k_88 rfl hd_ArrayList_init (by decide) [1] [0] rfl rfl (by decide) (by decide) (by decide) xb_ss0 hl.1 rfl rfl (Nat.le_of_ble_eq_true rfl) (by decide) d_TypeFinder_Checker_init_20 (fun u H locs hu h => ?_)
  have h : xb_W G A s [(h0, .inr (8, [.null, .ref q5_1, .null, .null, .int 0, .int 0])), (q16_2, .inr (11, [.int 0, .ref (G.2.2.1), .int 0]))] _ _ := h
  refine W.widen (k := 5) (n := 16) (by decide) (by decide) ?_
  refine W.eq (g2 := F0 m 23 ls [.ref q16_2, .ref h0]) rfl ?_
  refine xb_putF (pc := 23) (t0 := (.object "java/util/ArrayList")) (ws' := [(h0, .inr (8, [.null, .ref q5_1, .ref q16_2, .null, .int 0, .int 0])), (q16_2, .inr (11, [.int 0, .ref (G.2.2.1), .int 0]))]) F h hnm cf_8 0 rfl 2 (by decide) rfl k_118 (by decide +kernel) rfl rfl (Nat.le_of_ble_eq_true rfl) rfl d_TypeFinder_Checker_init_23 (fun H locs h => ?_)
  refine lv_aload_n (pc := 26) hx hb d_TypeFinder_Checker_init_26 rfl (lv_at hl 0 rfl) ?_
  refine xb_new (pc := 27) (ws' := fun q27_3 => [(h0, .inr (8, [.null, .ref q5_1, .ref q16_2, .null, .int 0, .int 0])), (q16_2, .inr (11, [.int 0, .ref (G.2.2.1), .int 0])), (q27_3, .inr (11, [.int 0, .null, .int 0]))]) F h cf_11 k_116 k_85 k_45 df_11 (fun _ => rfl) (by decide) (by decide) d_TypeFinder_Checker_init_27 (fun q27_3 H h => ?_)
  refine lv_dup (pc := 30) hx hb d_TypeFinder_Checker_init_30 rfl ?_
  refine xb_callI (pc := 31) (rm := rm_ArrayList_init) (wr := [(h0, .inr (8, [.null, .ref q5_1, .ref q16_2, .null, .int 0, .int 0])), (q16_2, .inr (11, [.int 0, .ref (G.2.2.1), .int 0]))]) F h (ct_ArrayList_init l G q27_3) 0 k_86 k_45 k_117 k_88 rfl hd_ArrayList_init (by decide) [2] [0, 1] rfl rfl (by decide) (by decide) (by decide) xb_ss0 hl.1 rfl rfl (Nat.le_of_ble_eq_true rfl) (by decide) d_TypeFinder_Checker_init_31 (fun u H locs hu h => ?_)
  have h : xb_W G A s [(h0, .inr (8, [.null, .ref q5_1, .ref q16_2, .null, .int 0, .int 0])), (q16_2, .inr (11, [.int 0, .ref (G.2.2.1), .int 0])), (q27_3, .inr (11, [.int 0, .ref (G.2.2.1), .int 0]))] _ _ := h
  refine W.widen (k := 6) (n := 19) (by decide) (by decide) ?_
  refine W.eq (g2 := F0 m 34 ls [.ref q27_3, .ref h0]) rfl ?_
  refine xb_putF (pc := 34) (t0 := (.object "java/util/ArrayList")) (ws' := [(h0, .inr (8, [.null, .ref q5_1, .ref q16_2, .ref q27_3, .int 0, .int 0])), (q16_2, .inr (11, [.int 0, .ref (G.2.2.1), .int 0])), (q27_3, .inr (11, [.int 0, .ref (G.2.2.1), .int 0]))]) F h hnm cf_8 0 rfl 3 (by decide) rfl k_119 (by decide +kernel) rfl rfl (Nat.le_of_ble_eq_true rfl) rfl d_TypeFinder_Checker_init_34 (fun H locs h => ?_)
  refine lv_aload_n (pc := 37) hx hb d_TypeFinder_Checker_init_37 rfl (lv_at hl 0 rfl) ?_
  refine lv_aload_n (pc := 38) hx hb d_TypeFinder_Checker_init_38 rfl (lv_at hl 1 rfl) ?_
  refine xb_putF (pc := 39) (t0 := (.object "TypeFinder$Known")) (ws' := [(h0, .inr (8, [.ref k0, .ref q5_1, .ref q16_2, .ref q27_3, .int 0, .int 0])), (q16_2, .inr (11, [.int 0, .ref (G.2.2.1), .int 0])), (q27_3, .inr (11, [.int 0, .ref (G.2.2.1), .int 0]))]) F h hnm cf_8 0 rfl 0 (by decide) rfl k_120 (by decide +kernel) rfl rfl (Nat.le_of_ble_eq_true rfl) rfl d_TypeFinder_Checker_init_39 (fun H locs h => ?_)
  exact xb_vret (pc := 42) (rm := rm_Checker_init) F hr hlk hA hQ h () trivial rfl [] (by decide) rfl (by decide) (by decide) d_TypeFinder_Checker_init_42
abbrev rm_Writer_init : Room := { frames := 4, cells := 3, slots := 23, locals := 90 }
set_option maxHeartbeats 4000000 in
set_option maxRecDepth 100000 in
theorem ct_Writer_init (l : Launch) (G : xb_EV) (h0 : Nat) : xb_CT l y_TypeFinder_Writer_init b_TypeFinder_Writer_init 1 none rm_Writer_init G [] [.ref h0] [(h0, .inr (10, [.null, .null]))] (S := Nat × Nat × Nat) (fun _ => none) (fun _ => True) (fun u => [(h0, .inr (10, [.ref u.1, .ref u.2.2])), (u.1, .inr (12, [.ref u.2.1, .int 0, .int 0, .int 0])), (u.2.2, .inr (11, [.int 0, .ref (G.2.2.1), .int 0]))]) := by
  refine xb_CT.of (by decide) "TypeFinder$Writer" rfl ?_ (Nat.le_of_ble_eq_true rfl)
  intro p e s m args below meth c A ls Q F hr hlk hnm h hl hA hQ
  have hx := F.1.1
  have hb := F.1.2.1
  have hml := F.1.2.2.1
  have hown := F.1.2.2.2.1
  have hts := F.1.2.2.2.2
  have hK := F.2.1
  refine lv_aload_n (pc := 0) hx hb d_TypeFinder_Writer_init_0 rfl (lv_at hl 0 rfl) ?_
  refine W.objInit hx hb hown (hts _ k_121) (hts _ k_25) (hts _ k_26) rfl (by rw [hml]; exact hl.1) rfl d_TypeFinder_Writer_init_1 (Nat.le_of_ble_eq_true rfl) (Nat.le_of_ble_eq_true rfl) ?_
  refine W.eq (g2 := F0 m 4 ls []) rfl ?_
  refine lv_aload_n (pc := 4) hx hb d_TypeFinder_Writer_init_4 rfl (lv_at hl 0 rfl) ?_
  refine xb_new (pc := 5) (ws' := fun q5_1 => [(h0, .inr (10, [.null, .null])), (q5_1, .inr (12, [.null, .int 0, .int 0, .int 0]))]) F h cf_12 k_122 k_123 k_124 df_12 (fun _ => rfl) (by decide) (by decide) d_TypeFinder_Writer_init_5 (fun q5_1 H h => ?_)
  refine lv_dup (pc := 8) hx hb d_TypeFinder_Writer_init_8 rfl ?_
  refine xb_callI (pc := 9) (rm := rm_SB_init) (wr := [(h0, .inr (10, [.null, .null]))]) F h (ct_SB_init l G q5_1) 0 k_125 k_124 k_126 k_127 rfl hd_StringBuilder_init (by decide) [1] [0] rfl rfl (by decide) (by decide) (by decide) xb_ss0 hl.1 rfl rfl (Nat.le_of_ble_eq_true rfl) (by decide) d_TypeFinder_Writer_init_9 (fun u H locs hu h => ?_)
  obtain ⟨q9_2, rfl⟩ : ∃ z, z = u := ⟨_, rfl⟩
  have h : xb_W G A s [(h0, .inr (10, [.null, .null])), (q5_1, .inr (12, [.ref q9_2, .int 0, .int 0, .int 0]))] _ _ := h
  refine W.widen (k := 2) (n := 20) (by decide) (by decide) ?_
  refine W.eq (g2 := F0 m 12 ls [.ref q5_1, .ref h0]) rfl ?_
  refine xb_putF (pc := 12) (t0 := (.object "java/lang/StringBuilder")) (ws' := [(h0, .inr (10, [.ref q5_1, .null])), (q5_1, .inr (12, [.ref q9_2, .int 0, .int 0, .int 0]))]) F h hnm cf_10 0 rfl 0 (by decide) rfl k_128 (by decide +kernel) rfl rfl (Nat.le_of_ble_eq_true rfl) rfl d_TypeFinder_Writer_init_12 (fun H locs h => ?_)
  refine lv_aload_n (pc := 15) hx hb d_TypeFinder_Writer_init_15 rfl (lv_at hl 0 rfl) ?_
  refine xb_new (pc := 16) (ws' := fun q16_3 => [(h0, .inr (10, [.ref q5_1, .null])), (q5_1, .inr (12, [.ref q9_2, .int 0, .int 0, .int 0])), (q16_3, .inr (11, [.int 0, .null, .int 0]))]) F h cf_11 k_129 k_85 k_45 df_11 (fun _ => rfl) (by decide) (by decide) d_TypeFinder_Writer_init_16 (fun q16_3 H h => ?_)
  refine lv_dup (pc := 19) hx hb d_TypeFinder_Writer_init_19 rfl ?_
  refine xb_callI (pc := 20) (rm := rm_ArrayList_init) (wr := [(h0, .inr (10, [.ref q5_1, .null])), (q5_1, .inr (12, [.ref q9_2, .int 0, .int 0, .int 0]))]) F h (ct_ArrayList_init l G q16_3) 0 k_86 k_45 k_130 k_88 rfl hd_ArrayList_init (by decide) [2] [0, 1] rfl rfl (by decide) (by decide) (by decide) xb_ss0 hl.1 rfl rfl (Nat.le_of_ble_eq_true rfl) (by decide) d_TypeFinder_Writer_init_20 (fun u H locs hu h => ?_)
  have h : xb_W G A s [(h0, .inr (10, [.ref q5_1, .null])), (q5_1, .inr (12, [.ref q9_2, .int 0, .int 0, .int 0])), (q16_3, .inr (11, [.int 0, .ref (G.2.2.1), .int 0]))] _ _ := h
  refine W.widen (k := 3) (n := 23) (by decide) (by decide) ?_
  refine W.eq (g2 := F0 m 23 ls [.ref q16_3, .ref h0]) rfl ?_
  refine xb_putF (pc := 23) (t0 := (.object "java/util/ArrayList")) (ws' := [(h0, .inr (10, [.ref q5_1, .ref q16_3])), (q5_1, .inr (12, [.ref q9_2, .int 0, .int 0, .int 0])), (q16_3, .inr (11, [.int 0, .ref (G.2.2.1), .int 0]))]) F h hnm cf_10 0 rfl 1 (by decide) rfl k_131 (by decide +kernel) rfl rfl (Nat.le_of_ble_eq_true rfl) rfl d_TypeFinder_Writer_init_23 (fun H locs h => ?_)
  exact xb_vret (pc := 26) (rm := rm_Writer_init) F hr hlk hA hQ h (q5_1, q9_2, q16_3) trivial rfl [0, 1, 2] (by decide) rfl (by decide) (by decide) d_TypeFinder_Writer_init_26
abbrev rm_DataParser_init : Room := { frames := 1, cells := 0, slots := 0, locals := 30 }
set_option maxHeartbeats 4000000 in
set_option maxRecDepth 100000 in
theorem ct_DataParser_init (l : Launch) (G : xb_EV) (h0 : Nat) (k0 : Nat) : xb_CT l y_TypeFinder_DataParser_init b_TypeFinder_DataParser_init 2 none rm_DataParser_init G [] [.ref h0, .ref k0] [(h0, .inr (3, [.null]))] (S := Unit) (fun _ => none) (fun _ => True) (fun _ => []) := by
  refine xb_CT.of (by decide) "TypeFinder$DataParser" rfl ?_ (Nat.le_of_ble_eq_true rfl)
  intro p e s m args below meth c A ls Q F hr hlk hnm h hl hA hQ
  have hx := F.1.1
  have hb := F.1.2.1
  have hml := F.1.2.2.1
  have hown := F.1.2.2.2.1
  have hts := F.1.2.2.2.2
  have hK := F.2.1
  refine lv_aload_n (pc := 0) hx hb d_TypeFinder_DataParser_init_0 rfl (lv_at hl 0 rfl) ?_
  refine W.objInit hx hb hown (hts _ k_132) (hts _ k_25) (hts _ k_26) rfl (by rw [hml]; exact hl.1) rfl d_TypeFinder_DataParser_init_1 (Nat.le_of_ble_eq_true rfl) (Nat.le_of_ble_eq_true rfl) ?_
  refine W.eq (g2 := F0 m 4 ls []) rfl ?_
  refine lv_aload_n (pc := 4) hx hb d_TypeFinder_DataParser_init_4 rfl (lv_at hl 0 rfl) ?_
  refine lv_aload_n (pc := 5) hx hb d_TypeFinder_DataParser_init_5 rfl (lv_at hl 1 rfl) ?_
  refine xb_putF (pc := 6) (t0 := (.object "TypeFinder$Tokens")) (ws' := [(h0, .inr (3, [.ref k0]))]) F h hnm cf_3 0 rfl 0 (by decide) rfl k_133 (by decide +kernel) rfl rfl (Nat.le_of_ble_eq_true rfl) rfl d_TypeFinder_DataParser_init_6 (fun H locs h => ?_)
  exact xb_vret (pc := 9) (rm := rm_DataParser_init) F hr hlk hA hQ h () trivial rfl [] (by decide) rfl (by decide) (by decide) d_TypeFinder_DataParser_init_9
end
section
abbrev rm_String_coder : Room := { frames := 0, cells := 0, slots := 0, locals := 30 }
set_option maxHeartbeats 4000000 in
set_option maxRecDepth 100000 in
theorem ct_String_coder (l : Launch) (G : xb_EV) (a0 : Nat) (d0 : Nat) (n0 : Nat) (fb : Nat → Int32) (hn : n0 < 65536) : xb_CT l y_String_coder b_String_coder 1 (some .byte) rm_String_coder G [(a0, d0, n0, fb)] [.ref a0] [] (S := Unit) (fun u => some (.int 0)) (fun u => True) (fun u => []) := by
  refine xb_CT.of (by decide) "java/lang/String" rfl ?_ (Nat.le_of_ble_eq_true rfl)
  intro p e s m args below meth c A ls Q F hr hlk hnm h hl hA hQ
  have hx := F.1.1
  have hb := F.1.2.1
  have hml := F.1.2.2.1
  have hown := F.1.2.2.2.1
  have hts := F.1.2.2.2.2
  have hK := F.2.1
  have hsb := F.2.2.2.2 _ List.mem_cons_self
  have hsT : va_T .byte d0 n0 (fun j => .int (fb j)) A s s.heap := hsb.2.2.2
  refine va_gets (pc := 0) hx hb (F.2.2.2.1.2.2.1) h.2.2 hown (hts _ k_0) (fun _ h => h) d_String_coder_0 ?_
  refine lv_if_eq (pc := 3) (tgt := 13) hx hb d_String_coder_3 (by decide) (fun h => absurd h (by decide)) (fun _ => ?_)
  refine lv_aload_n (pc := 6) hx hb d_String_coder_6 rfl (lv_at hl 0 rfl) ?_
  refine vk_getf (pc := 7) hx hb hsb.2.1 h.2.2 hown (hts _ k_1) (fun _ h => h) d_String_coder_7 ?_
  refine lv_goto (pc := 10) (tgt := 14) hx hb d_String_coder_10 (by decide) ?_
  exact xb_zret (pc := 14) (rm := rm_String_coder) F hr hlk (by decide) hA hQ h () trivial rfl [] (by decide) rfl (by decide) (by decide) d_String_coder_14
abbrev rm_String_isLatin1 : Room := { frames := 0, cells := 0, slots := 0, locals := 30 }
set_option maxHeartbeats 4000000 in
set_option maxRecDepth 100000 in
theorem ct_String_isLatin1 (l : Launch) (G : xb_EV) (a0 : Nat) (d0 : Nat) (n0 : Nat) (fb : Nat → Int32) (hn : n0 < 65536) : xb_CT l y_String_isLatin1 b_String_isLatin1 1 (some .boolean) rm_String_isLatin1 G [(a0, d0, n0, fb)] [.ref a0] [] (S := Unit) (fun u => some (.int 1)) (fun u => True) (fun u => []) := by
  refine xb_CT.of (by decide) "java/lang/String" rfl ?_ (Nat.le_of_ble_eq_true rfl)
  intro p e s m args below meth c A ls Q F hr hlk hnm h hl hA hQ
  have hx := F.1.1
  have hb := F.1.2.1
  have hml := F.1.2.2.1
  have hown := F.1.2.2.2.1
  have hts := F.1.2.2.2.2
  have hK := F.2.1
  have hsb := F.2.2.2.2 _ List.mem_cons_self
  have hsT : va_T .byte d0 n0 (fun j => .int (fb j)) A s s.heap := hsb.2.2.2
  refine va_gets (pc := 0) hx hb (F.2.2.2.1.2.2.1) h.2.2 hown (hts _ k_0) (fun _ h => h) d_String_isLatin1_0 ?_
  refine lv_if_eq (pc := 3) (tgt := 17) hx hb d_String_isLatin1_3 (by decide) (fun h => absurd h (by decide)) (fun _ => ?_)
  refine lv_aload_n (pc := 6) hx hb d_String_isLatin1_6 rfl (lv_at hl 0 rfl) ?_
  refine vk_getf (pc := 7) hx hb hsb.2.1 h.2.2 hown (hts _ k_1) (fun _ h => h) d_String_isLatin1_7 ?_
  refine lv_if_ne (pc := 10) (tgt := 17) hx hb d_String_isLatin1_10 (by decide) (fun h => absurd (by decide) h) (fun _ => ?_)
  refine lv_iconst (pc := 13) (v := 1) hx hb d_String_isLatin1_13 (by decide) ?_
  refine lv_goto (pc := 14) (tgt := 18) hx hb d_String_isLatin1_14 (by decide) ?_
  exact xb_zret (pc := 18) (rm := rm_String_isLatin1) F hr hlk (by decide) hA hQ h () trivial rfl [] (by decide) rfl (by decide) (by decide) d_String_isLatin1_18
abbrev rm_String_length : Room := { frames := 1, cells := 0, slots := 0, locals := 60 }
set_option maxHeartbeats 4000000 in
set_option maxRecDepth 100000 in
theorem ct_String_length (l : Launch) (G : xb_EV) (a0 : Nat) (d0 : Nat) (n0 : Nat) (fb : Nat → Int32) (hn : n0 < 65536) : xb_CT l y_String_length b_String_length 1 (some .int) rm_String_length G [(a0, d0, n0, fb)] [.ref a0] [] (S := Unit) (fun u => some (.int (nI n0))) (fun u => True) (fun u => []) := by
  refine xb_CT.of (by decide) "java/lang/String" rfl ?_ (Nat.le_of_ble_eq_true rfl)
  intro p e s m args below meth c A ls Q F hr hlk hnm h hl hA hQ
  have hx := F.1.1
  have hb := F.1.2.1
  have hml := F.1.2.2.1
  have hown := F.1.2.2.2.1
  have hts := F.1.2.2.2.2
  have hK := F.2.1
  have hsb := F.2.2.2.2 _ List.mem_cons_self
  have hsT : va_T .byte d0 n0 (fun j => .int (fb j)) A s s.heap := hsb.2.2.2
  refine lv_aload_n (pc := 0) hx hb d_String_length_0 rfl (lv_at hl 0 rfl) ?_
  refine vk_getf (pc := 1) hx hb hsb.2.2.1 h.2.2 hown (hts _ k_2) (fun _ h => h) d_String_length_1 ?_
  refine va_tlen (pc := 4) (v := (Int32.ofNat n0)) hx hb hsT h.2.2 (by first | rfl | decide) d_String_length_4 ?_
  refine lv_aload_n (pc := 5) hx hb d_String_length_5 rfl (lv_at hl 0 rfl) ?_
  refine xb_callV (pc := 6) (rm := rm_String_coder) (wr := []) F h (ct_String_coder l G a0 d0 n0 fb hn) 0 (va_Orecv hsb.1 h.2.2) k_3 k_4 k_5 k_6 k_7 hd_String_coder (by decide) [] [] rfl rfl (by decide) (by decide) (by decide) (xb_ssg F h [] rfl (fun _ z => z)) hl.1 rfl rfl (Nat.le_of_ble_eq_true rfl) (by decide) d_String_length_6 (fun u H locs hu h => ?_)
  have h : xb_W G A s [] _ _ := h
  refine W.widen (k := 0) (n := 0) (by decide) (by decide) ?_
  refine W.eq (g2 := F0 m 9 ls [.int 0, .int (Int32.ofNat n0)]) rfl ?_
  refine lv_ishr (pc := 9) hx hb d_String_length_9 ?_
  refine W.eq (g2 := F0 m 10 ls [.int (nI n0)]) (by rw [sb_shr0]; rfl) ?_
  exact xb_iret (pc := 10) (rm := rm_String_length) F hr hlk hA hQ h () trivial rfl [] (by decide) rfl (by decide) (by decide) d_String_length_10
abbrev rm_checkIndex : Room := { frames := 0, cells := 0, slots := 0, locals := 30 }
set_option maxHeartbeats 4000000 in
set_option maxRecDepth 100000 in
theorem ct_checkIndex (l : Launch) (G : xb_EV) (k : Nat) (n0 : Nat) (z : Nat) (hk : k < n0) (hn : n0 < 65536) : xb_CT l y_Preconditions_checkIndex b_Preconditions_checkIndex 3 (some .int) rm_checkIndex G [] [.int (nI k), .int (nI n0), .ref z] [] (S := Unit) (fun u => some (.int (nI k))) (fun u => True) (fun u => []) := by
  refine xb_CT.of (by decide) "jdk/internal/util/Preconditions" rfl ?_ (Nat.le_of_ble_eq_true rfl)
  intro p e s m args below meth c A ls Q F hr hlk hnm h hl hA hQ
  have hx := F.1.1
  have hb := F.1.2.1
  have hml := F.1.2.2.1
  have hown := F.1.2.2.2.1
  have hts := F.1.2.2.2.2
  have hK := F.2.1
  refine lv_iload_n (pc := 0) hx hb d_Preconditions_checkIndex_0 rfl (lv_at hl 0 rfl) ?_
  refine lv_if_lt (pc := 1) (tgt := 9) hx hb d_Preconditions_checkIndex_1 (by decide) (fun h => absurd h (nI_pos (by omega))) (fun _ => ?_)
  refine lv_iload_n (pc := 4) hx hb d_Preconditions_checkIndex_4 rfl (lv_at hl 0 rfl) ?_
  refine lv_iload_n (pc := 5) hx hb d_Preconditions_checkIndex_5 rfl (lv_at hl 1 rfl) ?_
  refine lv_icmp_lt (pc := 6) (tgt := 16) hx hb d_Preconditions_checkIndex_6 (by decide) (fun _ => ?_) (fun h => absurd (nI_lt hk (by omega)) h)
  refine lv_iload_n (pc := 16) hx hb d_Preconditions_checkIndex_16 rfl (lv_at hl 0 rfl) ?_
  exact xb_iret (pc := 17) (rm := rm_checkIndex) F hr hlk hA hQ h () trivial rfl [] (by decide) rfl (by decide) (by decide) d_Preconditions_checkIndex_17
abbrev rm_String_checkIndex : Room := { frames := 1, cells := 0, slots := 0, locals := 60 }
set_option maxHeartbeats 4000000 in
set_option maxRecDepth 100000 in
theorem ct_String_checkIndex (l : Launch) (G : xb_EV) (k : Nat) (n0 : Nat) (hk : k < n0) (hn : n0 < 65536) : xb_CT l y_String_checkIndex b_String_checkIndex 2 none rm_String_checkIndex G [] [.int (nI k), .int (nI n0)] [] (S := Unit) (fun u => none) (fun u => True) (fun u => []) := by
  refine xb_CT.of (by decide) "java/lang/String" rfl ?_ (Nat.le_of_ble_eq_true rfl)
  intro p e s m args below meth c A ls Q F hr hlk hnm h hl hA hQ
  have hx := F.1.1
  have hb := F.1.2.1
  have hml := F.1.2.2.1
  have hown := F.1.2.2.2.1
  have hts := F.1.2.2.2.2
  have hK := F.2.1
  obtain ⟨z, hz⟩ := F.2.2.2.1.2.2.2.2.2.1
  refine lv_iload_n (pc := 0) hx hb d_String_checkIndex_0 rfl (lv_at hl 0 rfl) ?_
  refine lv_iload_n (pc := 1) hx hb d_String_checkIndex_1 rfl (lv_at hl 1 rfl) ?_
  refine va_gets (pc := 2) hx hb (hz) h.2.2 hown (hts _ k_8) (fun _ h => h) d_String_checkIndex_2 ?_
  refine xb_callS (pc := 5) (rm := rm_checkIndex) (wr := []) F h (ct_checkIndex l G k n0 z hk hn) 3 k_9 k_10 k_11 k_12 hd_Preconditions_checkIndex (by decide) [] [] rfl rfl (by decide) (by decide) (by decide) xb_ss0 hl.1 rfl rfl (Nat.le_of_ble_eq_true rfl) (by decide) d_String_checkIndex_5 (fun u H locs hu h => ?_)
  have h : xb_W G A s [] _ _ := h
  refine W.widen (k := 0) (n := 0) (by decide) (by decide) ?_
  refine W.eq (g2 := F0 m 8 ls [.int (nI k)]) rfl ?_
  refine lv_pop (pc := 8) hx hb d_String_checkIndex_8 rfl ?_
  exact xb_vret (pc := 9) (rm := rm_String_checkIndex) F hr hlk hA hQ h () trivial rfl [] (by decide) rfl (by decide) (by decide) d_String_checkIndex_9
abbrev rm_SL1_charAt : Room := { frames := 2, cells := 0, slots := 0, locals := 90 }
set_option maxHeartbeats 4000000 in
set_option maxRecDepth 100000 in
theorem ct_SL1_charAt (l : Launch) (G : xb_EV) (a0 : Nat) (d0 : Nat) (n0 : Nat) (fb : Nat → Int32) (hn : n0 < 65536) (k : Nat) (hk : k < n0) : xb_CT l y_StringLatin1_charAt b_StringLatin1_charAt 2 (some .char) rm_SL1_charAt G [(a0, d0, n0, fb)] [.ref d0, .int (nI k)] [] (S := Int32) (fun u => some (.int u)) (fun u => narrow .char (.int u) = .int u ∧ u = fb k &&& 255) (fun u => []) := by
  refine xb_CT.of (by decide) "java/lang/StringLatin1" rfl ?_ (Nat.le_of_ble_eq_true rfl)
  intro p e s m args below meth c A ls Q F hr hlk hnm h hl hA hQ
  have hx := F.1.1
  have hb := F.1.2.1
  have hml := F.1.2.2.1
  have hown := F.1.2.2.2.1
  have hts := F.1.2.2.2.2
  have hK := F.2.1
  have hsb := F.2.2.2.2 _ List.mem_cons_self
  have hsT : va_T .byte d0 n0 (fun j => .int (fb j)) A s s.heap := hsb.2.2.2
  refine lv_iload_n (pc := 0) hx hb d_StringLatin1_charAt_0 rfl (lv_at hl 1 rfl) ?_
  refine lv_aload_n (pc := 1) hx hb d_StringLatin1_charAt_1 rfl (lv_at hl 0 rfl) ?_
  refine va_tlen (pc := 2) (v := (Int32.ofNat n0)) hx hb hsT h.2.2 (by first | rfl | decide) d_StringLatin1_charAt_2 ?_
  refine xb_callS (pc := 3) (rm := rm_String_checkIndex) (wr := []) F h (ct_String_checkIndex l G k n0 hk hn) 2 k_13 k_4 k_14 k_15 hd_String_checkIndex (by decide) [] [] rfl rfl (by decide) (by decide) (by decide) xb_ss0 hl.1 rfl rfl (Nat.le_of_ble_eq_true rfl) (by decide) d_StringLatin1_charAt_3 (fun u H locs hu h => ?_)
  have h : xb_W G A s [] _ _ := h
  refine W.widen (k := 0) (n := 0) (by decide) (by decide) ?_
  refine W.eq (g2 := F0 m 6 ls []) rfl ?_
  refine lv_aload_n (pc := 6) hx hb d_StringLatin1_charAt_6 rfl (lv_at hl 0 rfl) ?_
  refine lv_iload_n (pc := 7) hx hb d_StringLatin1_charAt_7 rfl (lv_at hl 1 rfl) ?_
  refine va_tb (pc := 8) hx hb hsT h.2.2 (vp_in_nI hk (by omega)) rfl d_StringLatin1_charAt_8 ?_
  refine lv_topi (fun x8_1 ex8_1 => ?_)
  refine lv_sipush (pc := 9) (v := 255) hx hb d_StringLatin1_charAt_9 (by decide) ?_
  refine lv_iand (pc := 12) hx hb d_StringLatin1_charAt_12 ?_
  refine lv_i2c (pc := 13) hx hb d_StringLatin1_charAt_13 rfl ?_
  refine lv_topi (fun x13_2 ex13_2 => ?_)
  exact xb_zret (pc := 14) (rm := rm_SL1_charAt) F hr hlk (by rw [ex13_2]; exact pk_nc _) hA hQ h x13_2 ⟨by rw [ex13_2]; exact pk_nc _, by rw [ex13_2, sc_c2, ex8_1, nI_clamp (by omega)]⟩ rfl [] (by decide) rfl (by decide) (by decide) d_StringLatin1_charAt_14
abbrev rm_String_charAt : Room := { frames := 3, cells := 0, slots := 0, locals := 130 }
set_option maxHeartbeats 4000000 in
set_option maxRecDepth 100000 in
theorem ct_String_charAt (l : Launch) (G : xb_EV) (a0 : Nat) (d0 : Nat) (n0 : Nat) (fb : Nat → Int32) (hn : n0 < 65536) (k : Nat) (hk : k < n0) : xb_CT l y_String_charAt b_String_charAt 2 (some .char) rm_String_charAt G [(a0, d0, n0, fb)] [.ref a0, .int (nI k)] [] (S := Int32) (fun u => some (.int u)) (fun u => narrow .char (.int u) = .int u ∧ u = fb k &&& 255) (fun u => []) := by
  refine xb_CT.of (by decide) "java/lang/String" rfl ?_ (Nat.le_of_ble_eq_true rfl)
  intro p e s m args below meth c A ls Q F hr hlk hnm h hl hA hQ
  have hx := F.1.1
  have hb := F.1.2.1
  have hml := F.1.2.2.1
  have hown := F.1.2.2.2.1
  have hts := F.1.2.2.2.2
  have hK := F.2.1
  have hsb := F.2.2.2.2 _ List.mem_cons_self
  have hsT : va_T .byte d0 n0 (fun j => .int (fb j)) A s s.heap := hsb.2.2.2
  refine lv_aload_n (pc := 0) hx hb d_String_charAt_0 rfl (lv_at hl 0 rfl) ?_
  refine xb_callV (pc := 1) (rm := rm_String_isLatin1) (wr := []) F h (ct_String_isLatin1 l G a0 d0 n0 fb hn) 0 (va_Orecv hsb.1 h.2.2) k_16 k_4 k_17 k_18 k_19 hd_String_isLatin1 (by decide) [] [] rfl rfl (by decide) (by decide) (by decide) (xb_ssg F h [] rfl (fun _ z => z)) hl.1 rfl rfl (Nat.le_of_ble_eq_true rfl) (by decide) d_String_charAt_1 (fun u H locs hu h => ?_)
  have h : xb_W G A s [] _ _ := h
  refine W.widen (k := 0) (n := 0) (by decide) (by decide) ?_
  refine W.eq (g2 := F0 m 4 ls [.int 1]) rfl ?_
  refine lv_if_eq (pc := 4) (tgt := 16) hx hb d_String_charAt_4 (by decide) (fun h => absurd h (by decide)) (fun _ => ?_)
  refine lv_aload_n (pc := 7) hx hb d_String_charAt_7 rfl (lv_at hl 0 rfl) ?_
  refine vk_getf (pc := 8) hx hb hsb.2.2.1 h.2.2 hown (hts _ k_2) (fun _ h => h) d_String_charAt_8 ?_
  refine lv_iload_n (pc := 11) hx hb d_String_charAt_11 rfl (lv_at hl 1 rfl) ?_
  refine xb_callS (pc := 12) (rm := rm_SL1_charAt) (wr := []) F h (ct_SL1_charAt l G a0 d0 n0 fb hn k hk) 2 k_20 k_21 k_22 k_23 hd_StringLatin1_charAt (by decide) [] [] rfl rfl (by decide) (by decide) (by decide) (xb_ssg F h [] rfl (fun _ z => z)) hl.1 rfl rfl (Nat.le_of_ble_eq_true rfl) (by decide) d_String_charAt_12 (fun u H locs hu h => ?_)
  have h : xb_W G A s [] _ _ := h
  refine W.widen (k := 0) (n := 0) (by decide) (by decide) ?_
  refine W.eq (g2 := F0 m 15 ls [.int u]) rfl ?_
  exact xb_zret (pc := 15) (rm := rm_String_charAt) F hr hlk hu.1 hA hQ h u hu rfl [] (by decide) rfl (by decide) (by decide) d_String_charAt_15
abbrev rm_String_init : Room := { frames := 1, cells := 0, slots := 0, locals := 30 }
set_option maxHeartbeats 4000000 in
set_option maxRecDepth 100000 in
theorem ct_String_init (l : Launch) (G : xb_EV) (h0 : Nat) (v0 : Nat) : xb_CT l y_String_init b_String_init 3 none rm_String_init G [] [.ref h0, .ref v0, .int 0] [(h0, .inr (13, [.null, .int 0, .int 0, .int 0]))] (S := Unit) (fun _ => none) (fun _ => True) (fun _ => [(h0, .inr (13, [.ref v0, .int 0, .int 0, .int 0]))]) := by
  refine xb_CT.of (by decide) "java/lang/String" rfl ?_ (Nat.le_of_ble_eq_true rfl)
  intro p e s m args below meth c A ls Q F hr hlk hnm h hl hA hQ
  have hx := F.1.1
  have hb := F.1.2.1
  have hml := F.1.2.2.1
  have hown := F.1.2.2.2.1
  have hts := F.1.2.2.2.2
  have hK := F.2.1
  refine lv_aload_n (pc := 0) hx hb d_String_init_0 rfl (lv_at hl 0 rfl) ?_
  refine W.objInit hx hb hown (hts _ k_377) (hts _ k_25) (hts _ k_26) rfl (by rw [hml]; exact hl.1) rfl d_String_init_1 (Nat.le_of_ble_eq_true rfl) (Nat.le_of_ble_eq_true rfl) ?_
  refine W.eq (g2 := F0 m 4 ls []) rfl ?_
  refine lv_aload_n (pc := 4) hx hb d_String_init_4 rfl (lv_at hl 0 rfl) ?_
  refine lv_aload_n (pc := 5) hx hb d_String_init_5 rfl (lv_at hl 1 rfl) ?_
  refine xb_putF (pc := 6) (t0 := (.array .byte)) (ws' := [(h0, .inr (13, [.ref v0, .int 0, .int 0, .int 0]))]) F h hnm cf_13 0 rfl 0 (by decide) rfl k_2 (by decide +kernel) rfl rfl (Nat.le_of_ble_eq_true rfl) rfl d_String_init_6 (fun H locs h => ?_)
  refine lv_aload_n (pc := 9) hx hb d_String_init_9 rfl (lv_at hl 0 rfl) ?_
  refine lv_iload_n (pc := 10) hx hb d_String_init_10 rfl (lv_at hl 2 rfl) ?_
  refine xb_putF (pc := 11) (t0 := .byte) (ws' := [(h0, .inr (13, [.ref v0, .int 0, .int 0, .int 0]))]) F h hnm cf_13 0 rfl 1 (by decide) rfl k_1 (by decide +kernel) (by decide) (by decide) (Nat.le_of_ble_eq_true rfl) rfl d_String_init_11 (fun H locs h => ?_)
  exact xb_vret (pc := 14) (rm := rm_String_init) F hr hlk hA hQ h () trivial rfl [0] (by decide) rfl (by decide) (by decide) d_String_init_14
abbrev rm_checkFromTo : Room := { frames := 0, cells := 0, slots := 0, locals := 30 }
set_option maxHeartbeats 4000000 in
set_option maxRecDepth 100000 in
theorem ct_checkFromTo (l : Launch) (G : xb_EV) (b : Nat) (e2 : Nat) (n0 : Nat) (hbe : b ≤ e2) (hen : e2 ≤ n0) (hn : n0 < 65536) (z : Nat) : xb_CT l y_Preconditions_checkFromToIndex b_Preconditions_checkFromToIndex 4 (some .int) rm_checkFromTo G [] [.int (nI b), .int (nI e2), .int (nI n0), .ref z] [] (S := Unit) (fun u => some (.int (nI b))) (fun u => True) (fun u => []) := by
  refine xb_CT.of (by decide) "jdk/internal/util/Preconditions" rfl ?_ (Nat.le_of_ble_eq_true rfl)
  intro p e s m args below meth c A ls Q F hr hlk hnm h hl hA hQ
  have hx := F.1.1
  have hb := F.1.2.1
  have hml := F.1.2.2.1
  have hown := F.1.2.2.2.1
  have hts := F.1.2.2.2.2
  have hK := F.2.1
  refine lv_iload_n (pc := 0) hx hb d_Preconditions_checkFromToIndex_0 rfl (lv_at hl 0 rfl) ?_
  refine lv_if_lt (pc := 1) (tgt := 14) hx hb d_Preconditions_checkFromToIndex_1 (by decide) (fun h => absurd h (nI_pos (by omega))) (fun _ => ?_)
  refine lv_iload_n (pc := 4) hx hb d_Preconditions_checkFromToIndex_4 rfl (lv_at hl 0 rfl) ?_
  refine lv_iload_n (pc := 5) hx hb d_Preconditions_checkFromToIndex_5 rfl (lv_at hl 1 rfl) ?_
  refine lv_icmp_gt (pc := 6) (tgt := 14) hx hb d_Preconditions_checkFromToIndex_6 (by decide) (fun h => absurd h (nI_nlt hbe (by omega))) (fun _ => ?_)
  refine lv_iload_n (pc := 9) hx hb d_Preconditions_checkFromToIndex_9 rfl (lv_at hl 1 rfl) ?_
  refine lv_iload_n (pc := 10) hx hb d_Preconditions_checkFromToIndex_10 rfl (lv_at hl 2 rfl) ?_
  refine lv_icmp_le (pc := 11) (tgt := 22) hx hb d_Preconditions_checkFromToIndex_11 (by decide) (fun _ => ?_) (fun h => absurd (nI_le hen (by omega)) h)
  refine lv_iload_n (pc := 22) hx hb d_Preconditions_checkFromToIndex_22 rfl (lv_at hl 0 rfl) ?_
  exact xb_iret (pc := 23) (rm := rm_checkFromTo) F hr hlk hA hQ h () trivial rfl [] (by decide) rfl (by decide) (by decide) d_Preconditions_checkFromToIndex_23
abbrev rm_checkBounds : Room := { frames := 1, cells := 0, slots := 0, locals := 60 }
set_option maxHeartbeats 4000000 in
set_option maxRecDepth 100000 in
theorem ct_checkBounds (l : Launch) (G : xb_EV) (b : Nat) (e2 : Nat) (n0 : Nat) (hbe : b ≤ e2) (hen : e2 ≤ n0) (hn : n0 < 65536) : xb_CT l y_String_checkBoundsBeginEnd b_String_checkBoundsBeginEnd 3 none rm_checkBounds G [] [.int (nI b), .int (nI e2), .int (nI n0)] [] (S := Unit) (fun u => none) (fun u => True) (fun u => []) := by
  refine xb_CT.of (by decide) "java/lang/String" rfl ?_ (Nat.le_of_ble_eq_true rfl)
  intro p e s m args below meth c A ls Q F hr hlk hnm h hl hA hQ
  have hx := F.1.1
  have hb := F.1.2.1
  have hml := F.1.2.2.1
  have hown := F.1.2.2.2.1
  have hts := F.1.2.2.2.2
  have hK := F.2.1
  obtain ⟨z, hz⟩ := F.2.2.2.1.2.2.2.2.2.1
  refine lv_iload_n (pc := 0) hx hb d_String_checkBoundsBeginEnd_0 rfl (lv_at hl 0 rfl) ?_
  refine lv_iload_n (pc := 1) hx hb d_String_checkBoundsBeginEnd_1 rfl (lv_at hl 1 rfl) ?_
  refine lv_iload_n (pc := 2) hx hb d_String_checkBoundsBeginEnd_2 rfl (lv_at hl 2 rfl) ?_
  refine va_gets (pc := 3) hx hb (hz) h.2.2 hown (hts _ k_8) (fun _ h => h) d_String_checkBoundsBeginEnd_3 ?_
  refine xb_callS (pc := 6) (rm := rm_checkFromTo) (wr := []) F h (ct_checkFromTo l G b e2 n0 hbe hen hn z) 4 k_360 k_10 k_361 k_362 hd_Preconditions_checkFromToIndex (by decide) [] [] rfl rfl (by decide) (by decide) (by decide) xb_ss0 hl.1 rfl rfl (Nat.le_of_ble_eq_true rfl) (by decide) d_String_checkBoundsBeginEnd_6 (fun u H locs hu h => ?_)
  have h : xb_W G A s [] _ _ := h
  refine W.widen (k := 0) (n := 0) (by decide) (by decide) ?_
  refine W.eq (g2 := F0 m 9 ls [.int (nI b)]) rfl ?_
  refine lv_pop (pc := 9) hx hb d_String_checkBoundsBeginEnd_9 rfl ?_
  exact xb_vret (pc := 10) (rm := rm_checkBounds) F hr hlk hA hQ h () trivial rfl [] (by decide) rfl (by decide) (by decide) d_String_checkBoundsBeginEnd_10
abbrev rm_checkLength : Room := { frames := 0, cells := 0, slots := 0, locals := 30 }
set_option maxHeartbeats 4000000 in
set_option maxRecDepth 100000 in
theorem ct_checkLength (l : Launch) (G : xb_EV) (b : Nat) (e2 : Nat) (hbe : b ≤ e2) (hen : e2 < 65536) : xb_CT l y_Arrays_checkLength b_Arrays_checkLength 2 none rm_checkLength G [] [.int (nI b), .int (nI e2)] [] (S := Unit) (fun u => none) (fun u => True) (fun u => []) := by
  refine xb_CT.of (by decide) "java/util/Arrays" rfl ?_ (Nat.le_of_ble_eq_true rfl)
  intro p e s m args below meth c A ls Q F hr hlk hnm h hl hA hQ
  have hx := F.1.1
  have hb := F.1.2.1
  have hml := F.1.2.2.1
  have hown := F.1.2.2.2.1
  have hts := F.1.2.2.2.2
  have hK := F.2.1
  refine lv_iload_n (pc := 0) hx hb d_Arrays_checkLength_0 rfl (lv_at hl 1 rfl) ?_
  refine lv_iload_n (pc := 1) hx hb d_Arrays_checkLength_1 rfl (lv_at hl 0 rfl) ?_
  refine lv_icmp_ge (pc := 2) (tgt := 37) hx hb d_Arrays_checkLength_2 (by decide) (fun _ => ?_) (fun h => absurd (nI_le hbe (by omega)) h)
  exact xb_vret (pc := 37) (rm := rm_checkLength) F hr hlk hA hQ h () trivial rfl [] (by decide) rfl (by decide) (by decide) d_Arrays_checkLength_37
abbrev rm_copyOfRangeByte : Room := { frames := 3, cells := 1, slots := 5, locals := 120 }
set_option maxHeartbeats 4000000 in
set_option maxRecDepth 100000 in
theorem ct_copyOfRangeByte (l : Launch) (G : xb_EV) (a0 : Nat) (d0 : Nat) (n0 : Nat) (fb : Nat → Int32) (hn : n0 < 65536) (b : Nat) (e2 : Nat) (hbe : b < e2) (hen : e2 ≤ n0) (hne : ¬ (b = 0 ∧ e2 = n0)) (h5 : e2 - b ≤ 5) (hfb : ∀ i, i < n0 → fits .byte (.int (fb i)) = true) : xb_CT l y_Arrays_copyOfRangeByte b_Arrays_copyOfRangeByte 5 (some (.array .byte)) rm_copyOfRangeByte G [(a0, d0, n0, fb)] [.ref d0, .int (nI b), .int (nI e2)] [] (S := Nat × (Nat → Int32)) (fun u => some (.ref u.1)) (fun u => True) (fun u => [(u.1, .inl (G.2.1 4, e2 - b, .inl u.2))]) := by
  refine xb_CT.of (by decide) "java/util/Arrays" rfl ?_ (Nat.le_of_ble_eq_true rfl)
  intro p e s m args below meth c A ls Q F hr hlk hnm h hl hA hQ
  have hx := F.1.1
  have hb := F.1.2.1
  have hml := F.1.2.2.1
  have hown := F.1.2.2.2.1
  have hts := F.1.2.2.2.2
  have hK := F.2.1
  have hsb := F.2.2.2.2 _ List.mem_cons_self
  have hsT : va_T .byte d0 n0 (fun j => .int (fb j)) A s s.heap := hsb.2.2.2
  refine lv_iload_n (pc := 0) hx hb d_Arrays_copyOfRangeByte_0 rfl (lv_at hl 1 rfl) ?_
  refine lv_iload_n (pc := 1) hx hb d_Arrays_copyOfRangeByte_1 rfl (lv_at hl 2 rfl) ?_
  refine xb_callS (pc := 2) (rm := rm_checkLength) (wr := []) F h (ct_checkLength l G b e2 (by omega) (by omega)) 2 k_363 k_364 k_365 k_366 hd_Arrays_checkLength (by decide) [] [] rfl rfl (by decide) (by decide) (by decide) xb_ss0 hl.1 rfl rfl (Nat.le_of_ble_eq_true rfl) (by decide) d_Arrays_copyOfRangeByte_2 (fun u H locs hu h => ?_)
  have h : xb_W G A s [] _ _ := h
  refine W.widen (k := 0) (n := 0) (by decide) (by decide) ?_
  refine W.eq (g2 := F0 m 5 ls []) rfl ?_
  refine lv_iload_n (pc := 5) hx hb d_Arrays_copyOfRangeByte_5 rfl (lv_at hl 2 rfl) ?_
  refine lv_iload_n (pc := 6) hx hb d_Arrays_copyOfRangeByte_6 rfl (lv_at hl 1 rfl) ?_
  refine lv_isub (pc := 7) hx hb d_Arrays_copyOfRangeByte_7 ?_
  refine W.eq (g2 := F0 m 8 ls [.int (nI (e2 - b))]) (by rw [pk_sub (by omega)]) ?_
  refine lv_istore_n (pc := 8) (lv' := [(3, .int (nI (e2 - b))), (0, .ref d0), (1, .int (nI b)), (2, .int (nI e2))]) hx hb d_Arrays_copyOfRangeByte_8 rfl hl (by decide) rfl (fun ls hl => ?_)
  refine lv_iload_n (pc := 9) hx hb d_Arrays_copyOfRangeByte_9 rfl (lv_at hl 0 rfl) ?_
  refine xb_newa (pc := 10) (a0 := (e2 - b, .inl (fun _ => 0))) (ty := .byte) (N' := e2 - b) (ws' := fun q1 => [(q1, .inl (G.2.1 4, e2 - b, .inl (fun _ => 0)))]) F h rfl 4 rfl k_61 (fun _ => rfl) (nI_pos (by omega)) (nI_clamp (by omega)) (by simp only [componentBytes]; omega) (fun _ => rfl) (by decide) (by show 0 + (e2 - b) ≤ 5; omega) d_Arrays_copyOfRangeByte_10 (fun q1 H h => ?_)
  refine W.widen (k := 1) (n := 5) (by decide) (by omega) ?_
  refine lv_astore (pc := 12) (lv' := [(4, .ref q1), (3, .int (nI (e2 - b))), (0, .ref d0), (1, .int (nI b)), (2, .int (nI e2))]) hx hb d_Arrays_copyOfRangeByte_12 hl (by decide) rfl (fun ls hl => ?_)
  refine lv_aload_n (pc := 14) hx hb d_Arrays_copyOfRangeByte_14 rfl (lv_at hl 2 rfl) ?_
  refine lv_iload_n (pc := 15) hx hb d_Arrays_copyOfRangeByte_15 rfl (lv_at hl 3 rfl) ?_
  refine lv_aload (pc := 16) hx hb d_Arrays_copyOfRangeByte_16 (lv_at hl 0 rfl) ?_
  refine lv_iconst (pc := 18) (v := 0) hx hb d_Arrays_copyOfRangeByte_18 (by decide) ?_
  refine lv_aload_n (pc := 19) hx hb d_Arrays_copyOfRangeByte_19 rfl (lv_at hl 2 rfl) ?_
  refine va_tlen (pc := 20) (v := (Int32.ofNat n0)) hx hb hsT h.2.2 (by first | rfl | decide) d_Arrays_copyOfRangeByte_20 ?_
  refine lv_iload_n (pc := 21) hx hb d_Arrays_copyOfRangeByte_21 rfl (lv_at hl 3 rfl) ?_
  refine lv_isub (pc := 22) hx hb d_Arrays_copyOfRangeByte_22 ?_
  refine W.eq (g2 := F0 m 23 ls [.int (nI (n0 - b)), .int 0, .ref q1, .int (nI b), .ref d0]) (by rw [show Int32.ofNat n0 = nI n0 from rfl, pk_sub (by omega)]) ?_
  refine lv_iload_n (pc := 23) hx hb d_Arrays_copyOfRangeByte_23 rfl (lv_at hl 1 rfl) ?_
  refine va_mmin (pc := 24) hx hb (by rw [hml]; exact hl.1.symm) hown (hts _ k_367) (hts _ k_368) (hts _ k_40) (hts _ k_369) (Nat.le_of_ble_eq_true rfl) (Nat.le_of_ble_eq_true rfl) (by decide) (by decide) d_Arrays_copyOfRangeByte_24 ?_
  refine W.eq (g2 := F0 m 27 ls [.int (nI (e2 - b)), .int 0, .ref q1, .int (nI b), .ref d0]) (by rw [xb_min (by omega) (by omega)]) ?_
  refine vk_copyt (pc := 27) hx hb (by rw [hml]; exact hl.1.symm) hown (hts _ k_370) (hts _ k_371) (hts _ k_372) (hts _ k_373) hK h.1 h.2.1 h.2.2 hsT 0 4 rfl rfl (nI_pos (by omega)) (by decide) (nI_pos (by omega)) (by rw [nI_clamp (by omega), nI_clamp (by omega)]; omega) (by rw [nI_clamp (by omega)]; show 0 + _ ≤ _; omega) (fun i hi => by rw [nI_clamp (by omega)] at hi; rw [nI_clamp (by omega)]; exact hfb _ (by omega)) (Nat.le_of_ble_eq_true rfl) (Nat.le_of_ble_eq_true rfl) d_Arrays_copyOfRangeByte_27 (fun H locs a1 a2 a3 => ?_)
  obtain ⟨f1, hf1⟩ : ∃ f : Nat → Int32, f = va_cpy fb (fun _ => 0) (nI b).toNatClampNeg (0 : Int32).toNatClampNeg (nI (e2 - b)).toNatClampNeg := ⟨_, rfl⟩
  have h : xb_W G A s [(q1, .inl (G.2.1 4, e2 - b, .inl f1))] H locs := by rw [hf1]; exact ⟨a1, a2, a3⟩
  refine lv_aload (pc := 30) hx hb d_Arrays_copyOfRangeByte_30 (lv_at hl 0 rfl) ?_
  exact xb_aret (pc := 32) (rm := rm_copyOfRangeByte) F hr (Or.inr ⟨_, rfl⟩) (Or.inr ⟨_, rfl⟩) hlk hA hQ h (q1, f1) trivial rfl [0] (by decide) rfl (by decide) (by decide) d_Arrays_copyOfRangeByte_32
abbrev rm_copyOfRange : Room := { frames := 4, cells := 1, slots := 5, locals := 150 }
set_option maxHeartbeats 4000000 in
set_option maxRecDepth 100000 in
theorem ct_copyOfRange (l : Launch) (G : xb_EV) (a0 : Nat) (d0 : Nat) (n0 : Nat) (fb : Nat → Int32) (hn : n0 < 65536) (b : Nat) (e2 : Nat) (hbe : b < e2) (hen : e2 ≤ n0) (hne : ¬ (b = 0 ∧ e2 = n0)) (h5 : e2 - b ≤ 5) (hfb : ∀ i, i < n0 → fits .byte (.int (fb i)) = true) : xb_CT l y_Arrays_copyOfRange b_Arrays_copyOfRange 3 (some (.array .byte)) rm_copyOfRange G [(a0, d0, n0, fb)] [.ref d0, .int (nI b), .int (nI e2)] [] (S := Nat × (Nat → Int32)) (fun u => some (.ref u.1)) (fun u => True) (fun u => [(u.1, .inl (G.2.1 4, e2 - b, .inl u.2))]) := by
  refine xb_CT.of (by decide) "java/util/Arrays" rfl ?_ (Nat.le_of_ble_eq_true rfl)
  intro p e s m args below meth c A ls Q F hr hlk hnm h hl hA hQ
  have hx := F.1.1
  have hb := F.1.2.1
  have hml := F.1.2.2.1
  have hown := F.1.2.2.2.1
  have hts := F.1.2.2.2.2
  have hK := F.2.1
  have hsb := F.2.2.2.2 _ List.mem_cons_self
  have hsT : va_T .byte d0 n0 (fun j => .int (fb j)) A s s.heap := hsb.2.2.2
  have go10 : ∀ (ls : Array Slot), lv_has ls 3 [(0, .ref d0), (1, .int (nI b)), (2, .int (nI e2))] → W p l e rm_copyOfRange s m args below meth c s.heap [] 0 0 Q (F0 m 10 ls []) := by
    intro ls hl
    refine lv_aload_n (pc := 10) hx hb d_Arrays_copyOfRange_10 rfl (lv_at hl 0 rfl) ?_
    refine lv_iload_n (pc := 11) hx hb d_Arrays_copyOfRange_11 rfl (lv_at hl 1 rfl) ?_
    refine lv_iload_n (pc := 12) hx hb d_Arrays_copyOfRange_12 rfl (lv_at hl 2 rfl) ?_
    refine xb_callS (pc := 13) (rm := rm_copyOfRangeByte) (wr := []) F h (ct_copyOfRangeByte l G a0 d0 n0 fb hn b e2 hbe hen hne h5 hfb) 3 k_374 k_364 k_375 k_376 hd_Arrays_copyOfRangeByte (by decide) [] [] rfl rfl (by decide) (by decide) (by decide) (xb_ssg F h [] rfl (fun _ z => z)) hl.1 rfl rfl (Nat.le_of_ble_eq_true rfl) (by decide) d_Arrays_copyOfRange_13 (fun u H locs hu h => ?_)
    obtain ⟨q1, f1⟩ := u
    have h : xb_W G A s [(q1, .inl (G.2.1 4, (e2 - b), .inl (f1)))] _ _ := h
    refine W.widen (k := 1) (n := 5) (by decide) (by decide) ?_
    refine W.eq (g2 := F0 m 16 ls [.ref q1]) rfl ?_
    exact xb_aret (pc := 16) (rm := rm_copyOfRange) F hr (Or.inr ⟨_, rfl⟩) (Or.inr ⟨_, rfl⟩) hlk hA hQ h (q1, f1) trivial rfl [0] (by decide) rfl (by decide) (by decide) d_Arrays_copyOfRange_16
  refine lv_iload_n (pc := 0) hx hb d_Arrays_copyOfRange_0 rfl (lv_at hl 1 rfl) ?_
  refine lv_if_ne (pc := 1) (tgt := 10) hx hb d_Arrays_copyOfRange_1 (by decide) (fun _ => go10 ls hl) (fun hb0 => ?_)
  refine lv_iload_n (pc := 4) hx hb d_Arrays_copyOfRange_4 rfl (lv_at hl 2 rfl) ?_
  refine lv_aload_n (pc := 5) hx hb d_Arrays_copyOfRange_5 rfl (lv_at hl 0 rfl) ?_
  refine va_tlen (pc := 6) (v := (Int32.ofNat n0)) hx hb hsT h.2.2 (by first | rfl | decide) d_Arrays_copyOfRange_6 ?_
  refine lv_icmp_eq (pc := 7) (tgt := 17) hx hb d_Arrays_copyOfRange_7 (by decide) (fun h9 => absurd ⟨(nI_eq (by omega) (by decide)).mp hb0, (nI_eq (by omega) (by omega)).mp h9⟩ hne) (fun _ => go10 ls hl)
abbrev rm_newString : Room := { frames := 5, cells := 2, slots := 9, locals := 180 }
set_option maxHeartbeats 4000000 in
set_option maxRecDepth 100000 in
theorem ct_newString (l : Launch) (G : xb_EV) (a0 : Nat) (d0 : Nat) (n0 : Nat) (fb : Nat → Int32) (hn : n0 < 65536) (b : Nat) (e2 : Nat) (hbe : b < e2) (hen : e2 ≤ n0) (hne : ¬ (b = 0 ∧ e2 = n0)) (h5 : e2 - b ≤ 5) (hfb : ∀ i, i < n0 → fits .byte (.int (fb i)) = true) : xb_CT l y_StringLatin1_newString b_StringLatin1_newString 3 (some (.object "java/lang/String")) rm_newString G [(a0, d0, n0, fb)] [.ref d0, .int (nI b), .int (nI (e2 - b))] [] (S := Nat × Nat × (Nat → Int32)) (fun u => some (.ref u.1)) (fun u => True) (fun u => [(u.2.1, .inl (G.2.1 4, e2 - b, .inl u.2.2)), (u.1, .inr (13, [.ref u.2.1, .int 0, .int 0, .int 0]))]) := by
  refine xb_CT.of (by decide) "java/lang/StringLatin1" rfl ?_ (Nat.le_of_ble_eq_true rfl)
  intro p e s m args below meth c A ls Q F hr hlk hnm h hl hA hQ
  have hx := F.1.1
  have hb := F.1.2.1
  have hml := F.1.2.2.1
  have hown := F.1.2.2.2.1
  have hts := F.1.2.2.2.2
  have hK := F.2.1
  have hsb := F.2.2.2.2 _ List.mem_cons_self
  have hsT : va_T .byte d0 n0 (fun j => .int (fb j)) A s s.heap := hsb.2.2.2
  refine lv_iload_n (pc := 0) hx hb d_StringLatin1_newString_0 rfl (lv_at hl 2 rfl) ?_
  refine lv_if_ne (pc := 1) (tgt := 7) hx hb d_StringLatin1_newString_1 (by decide) (fun _ => ?_) (fun h => absurd h (nI_ne0 (by omega) (by omega)))
  refine xb_new (pc := 7) (ws' := fun q7_1 => [(q7_1, .inr (13, [.null, .int 0, .int 0, .int 0]))]) F h cf_13 k_378 k_379 k_4 df_13 (fun _ => rfl) (by decide) (by decide) d_StringLatin1_newString_7 (fun q7_1 H h => ?_)
  refine lv_dup (pc := 10) hx hb d_StringLatin1_newString_10 rfl ?_
  refine lv_aload_n (pc := 11) hx hb d_StringLatin1_newString_11 rfl (lv_at hl 0 rfl) ?_
  refine lv_iload_n (pc := 12) hx hb d_StringLatin1_newString_12 rfl (lv_at hl 1 rfl) ?_
  refine lv_iload_n (pc := 13) hx hb d_StringLatin1_newString_13 rfl (lv_at hl 1 rfl) ?_
  refine lv_iload_n (pc := 14) hx hb d_StringLatin1_newString_14 rfl (lv_at hl 2 rfl) ?_
  refine lv_iadd (pc := 15) hx hb d_StringLatin1_newString_15 ?_
  refine W.eq (g2 := F0 m 16 ls [.int (nI e2), .int (nI b), .ref d0, .ref q7_1, .ref q7_1]) (by rw [nI_add, show b + (e2 - b) = e2 by omega]) ?_
  refine xb_callS (pc := 16) (rm := rm_copyOfRange) (wr := [(q7_1, .inr (13, [.null, .int 0, .int 0, .int 0]))]) F h (ct_copyOfRange l G a0 d0 n0 fb hn b e2 hbe hen hne h5 hfb) 3 k_380 k_364 k_381 k_382 hd_Arrays_copyOfRange (by decide) [] [0] rfl rfl (by decide) (by decide) (by decide) (xb_ssg F h [] rfl (fun _ z => z)) hl.1 rfl rfl (Nat.le_of_ble_eq_true rfl) (by decide) d_StringLatin1_newString_16 (fun u H locs hu h => ?_)
  obtain ⟨q1, f1⟩ := u
  have h : xb_W G A s [(q7_1, .inr (13, [.null, .int 0, .int 0, .int 0])), (q1, .inl (G.2.1 4, (e2 - b), .inl (f1)))] _ _ := h
  refine W.widen (k := 2) (n := 9) (by decide) (by decide) ?_
  refine W.eq (g2 := F0 m 19 ls [.ref q1, .ref q7_1, .ref q7_1]) rfl ?_
  refine lv_iconst (pc := 19) (v := 0) hx hb d_StringLatin1_newString_19 (by decide) ?_
  refine xb_callI (pc := 20) (rm := rm_String_init) (wr := [(q1, .inl (G.2.1 4, (e2 - b), .inl (f1)))]) F h (ct_String_init l G q7_1 q1) 2 k_383 k_4 k_384 k_385 rfl hd_String_init (by decide) [0] [1] rfl rfl (by decide) (by decide) (by decide) xb_ss0 hl.1 rfl rfl (Nat.le_of_ble_eq_true rfl) (by decide) d_StringLatin1_newString_20 (fun u H locs hu h => ?_)
  have h : xb_W G A s [(q1, .inl (G.2.1 4, (e2 - b), .inl (f1))), (q7_1, .inr (13, [.ref q1, .int 0, .int 0, .int 0]))] _ _ := h
  refine W.widen (k := 2) (n := 9) (by decide) (by decide) ?_
  refine W.eq (g2 := F0 m 23 ls [.ref q7_1]) rfl ?_
  exact xb_aret (pc := 23) (rm := rm_newString) F hr (Or.inl ⟨_, rfl⟩) (Or.inr ⟨_, rfl⟩) hlk hA hQ h (q7_1, q1, f1) trivial rfl [0, 1] (by decide) rfl (by decide) (by decide) d_StringLatin1_newString_23
abbrev rm_substring : Room := { frames := 6, cells := 2, slots := 9, locals := 220 }
set_option maxHeartbeats 4000000 in
set_option maxRecDepth 100000 in
theorem ct_substring (l : Launch) (G : xb_EV) (a0 : Nat) (d0 : Nat) (n0 : Nat) (fb : Nat → Int32) (hn : n0 < 65536) (b : Nat) (e2 : Nat) (hbe : b < e2) (hen : e2 ≤ n0) (hne : ¬ (b = 0 ∧ e2 = n0)) (h5 : e2 - b ≤ 5) (hfb : ∀ i, i < n0 → fits .byte (.int (fb i)) = true) : xb_CT l y_String_substring b_String_substring 5 (some (.object "java/lang/String")) rm_substring G [(a0, d0, n0, fb)] [.ref a0, .int (nI b), .int (nI e2)] [] (S := Nat × Nat × (Nat → Int32)) (fun u => some (.ref u.1)) (fun u => True) (fun u => [(u.2.1, .inl (G.2.1 4, e2 - b, .inl u.2.2)), (u.1, .inr (13, [.ref u.2.1, .int 0, .int 0, .int 0]))]) := by
  refine xb_CT.of (by decide) "java/lang/String" rfl ?_ (Nat.le_of_ble_eq_true rfl)
  intro p e s m args below meth c A ls Q F hr hlk hnm h hl hA hQ
  have hx := F.1.1
  have hb := F.1.2.1
  have hml := F.1.2.2.1
  have hown := F.1.2.2.2.1
  have hts := F.1.2.2.2.2
  have hK := F.2.1
  have hsb := F.2.2.2.2 _ List.mem_cons_self
  have hsT : va_T .byte d0 n0 (fun j => .int (fb j)) A s s.heap := hsb.2.2.2
  have go22 : ∀ (ls : Array Slot) (H : Heap) (locs : List Loc), xb_W G A s [] H locs → lv_has ls 5 [(3, .int (nI n0)), (0, .ref a0), (1, .int (nI b)), (2, .int (nI e2))] → W p l e rm_substring s m args below meth c H locs 0 0 Q (F0 m 22 ls []) := by
    intro ls H locs h hl
    refine lv_iload_n (pc := 22) hx hb d_String_substring_22 rfl (lv_at hl 3 rfl) ?_
    refine lv_iload_n (pc := 23) hx hb d_String_substring_23 rfl (lv_at hl 2 rfl) ?_
    refine lv_isub (pc := 24) hx hb d_String_substring_24 ?_
    refine W.eq (g2 := F0 m 25 ls [.int (nI (e2 - b))]) (by rw [pk_sub (by omega)]) ?_
    refine lv_istore (pc := 25) (lv' := [(4, .int (nI (e2 - b))), (3, .int (nI n0)), (0, .ref a0), (1, .int (nI b)), (2, .int (nI e2))]) hx hb d_String_substring_25 hl (by decide) rfl (fun ls hl => ?_)
    refine lv_aload_n (pc := 27) hx hb d_String_substring_27 rfl (lv_at hl 2 rfl) ?_
    refine xb_callV (pc := 28) (rm := rm_String_isLatin1) (wr := []) F h (ct_String_isLatin1 l G a0 d0 n0 fb hn) 0 (va_Orecv hsb.1 h.2.2) k_16 k_4 k_17 k_18 k_19 hd_String_isLatin1 (by decide) [] [] rfl rfl (by decide) (by decide) (by decide) (xb_ssg F h [] rfl (fun _ z => z)) hl.1 rfl rfl (Nat.le_of_ble_eq_true rfl) (by decide) d_String_substring_28 (fun u H locs hu h => ?_)
    have h : xb_W G A s [] _ _ := h
    refine W.widen (k := 0) (n := 0) (by decide) (by decide) ?_
    refine W.eq (g2 := F0 m 31 ls [.int 1]) rfl ?_
    refine lv_if_eq (pc := 31) (tgt := 47) hx hb d_String_substring_31 (by decide) (fun h => absurd h (by decide)) (fun _ => ?_)
    refine lv_aload_n (pc := 34) hx hb d_String_substring_34 rfl (lv_at hl 2 rfl) ?_
    refine vk_getf (pc := 35) hx hb hsb.2.2.1 h.2.2 hown (hts _ k_2) (fun _ h => h) d_String_substring_35 ?_
    refine lv_iload_n (pc := 38) hx hb d_String_substring_38 rfl (lv_at hl 3 rfl) ?_
    refine lv_iload (pc := 39) hx hb d_String_substring_39 (lv_at hl 0 rfl) ?_
    refine xb_callS (pc := 41) (rm := rm_newString) (wr := []) F h (ct_newString l G a0 d0 n0 fb hn b e2 hbe hen hne h5 hfb) 3 k_386 k_21 k_387 k_388 hd_StringLatin1_newString (by decide) [] [] rfl rfl (by decide) (by decide) (by decide) (xb_ssg F h [] rfl (fun _ z => z)) hl.1 rfl rfl (Nat.le_of_ble_eq_true rfl) (by decide) d_String_substring_41 (fun u H locs hu h => ?_)
    obtain ⟨q0, q1, f1⟩ := u
    have h : xb_W G A s [(q1, .inl (G.2.1 4, (e2 - b), .inl (f1))), (q0, .inr (13, [.ref q1, .int 0, .int 0, .int 0]))] _ _ := h
    refine W.widen (k := 2) (n := 9) (by decide) (by decide) ?_
    refine W.eq (g2 := F0 m 44 ls [.ref q0]) rfl ?_
    refine lv_goto (pc := 44) (tgt := 57) hx hb d_String_substring_44 (by decide) ?_
    exact xb_aret (pc := 57) (rm := rm_substring) F hr (Or.inl ⟨_, rfl⟩) (Or.inr ⟨_, rfl⟩) hlk hA hQ h (q0, q1, f1) trivial rfl [0, 1] (by decide) rfl (by decide) (by decide) d_String_substring_57
  refine lv_aload_n (pc := 0) hx hb d_String_substring_0 rfl (lv_at hl 0 rfl) ?_
  refine xb_callV (pc := 1) (rm := rm_String_length) (wr := []) F h (ct_String_length l G a0 d0 n0 fb hn) 0 (va_Orecv hsb.1 h.2.2) k_389 k_4 k_390 k_391 k_392 hd_String_length (by decide) [] [] rfl rfl (by decide) (by decide) (by decide) (xb_ssg F h [] rfl (fun _ z => z)) hl.1 rfl rfl (Nat.le_of_ble_eq_true rfl) (by decide) d_String_substring_1 (fun u H locs hu h => ?_)
  have h : xb_W G A s [] _ _ := h
  refine W.widen (k := 0) (n := 0) (by decide) (by decide) ?_
  refine W.eq (g2 := F0 m 4 ls [.int (nI n0)]) rfl ?_
  refine lv_istore_n (pc := 4) (lv' := [(3, .int (nI n0)), (0, .ref a0), (1, .int (nI b)), (2, .int (nI e2))]) hx hb d_String_substring_4 rfl hl (by decide) rfl (fun ls hl => ?_)
  refine lv_iload_n (pc := 5) hx hb d_String_substring_5 rfl (lv_at hl 2 rfl) ?_
  refine lv_iload_n (pc := 6) hx hb d_String_substring_6 rfl (lv_at hl 3 rfl) ?_
  refine lv_iload_n (pc := 7) hx hb d_String_substring_7 rfl (lv_at hl 0 rfl) ?_
  refine xb_callS (pc := 8) (rm := rm_checkBounds) (wr := []) F h (ct_checkBounds l G b e2 n0 (by omega) hen hn) 3 k_393 k_4 k_394 k_395 hd_String_checkBoundsBeginEnd (by decide) [] [] rfl rfl (by decide) (by decide) (by decide) xb_ss0 hl.1 rfl rfl (Nat.le_of_ble_eq_true rfl) (by decide) d_String_substring_8 (fun u H locs hu h => ?_)
  have h : xb_W G A s [] _ _ := h
  refine W.widen (k := 0) (n := 0) (by decide) (by decide) ?_
  refine W.eq (g2 := F0 m 11 ls []) rfl ?_
  refine lv_iload_n (pc := 11) hx hb d_String_substring_11 rfl (lv_at hl 2 rfl) ?_
  refine lv_if_ne (pc := 12) (tgt := 22) hx hb d_String_substring_12 (by decide) (fun _ => go22 _ _ _ h hl) (fun hb0 => ?_)
  refine lv_iload_n (pc := 15) hx hb d_String_substring_15 rfl (lv_at hl 3 rfl) ?_
  refine lv_iload_n (pc := 16) hx hb d_String_substring_16 rfl (lv_at hl 0 rfl) ?_
  refine lv_icmp_ne (pc := 17) (tgt := 22) hx hb d_String_substring_17 (by decide) (fun _ => go22 _ _ _ h hl) (fun h9 => absurd ⟨(nI_eq (by omega) (by decide)).mp hb0, (nI_eq (by omega) (by omega)).mp h9⟩ hne)
end
section
abbrev rm_packed : Room := { frames := 6, cells := 0, slots := 0, locals := 220 }
set_option maxHeartbeats 4000000 in
set_option maxRecDepth 100000 in
theorem ct_packed (l : Launch) (G : xb_EV) (a0 d0 n0 : Nat) (fb : Nat → Int32) (hn : n0 < 65536) : xb_CT l y_TypeFinder_Tokens_packed b_TypeFinder_Tokens_packed 4 (some .long) rm_packed G [(a0, d0, n0, fb)] [.ref a0] [] (S := Int64) (fun u => some (.long u)) (fun _ => True) (fun _ => []) := by
  refine xb_CT.of (by decide) "TypeFinder$Tokens" rfl ?_ (Nat.le_of_ble_eq_true rfl)
  intro p e s m args below meth c A ls Q F hr hlk hnm h hl hA hQ
  have hx := F.1.1
  have hb := F.1.2.1
  have hml := F.1.2.2.1
  have hown := F.1.2.2.2.1
  have hts := F.1.2.2.2.2
  have hK := F.2.1
  have hsb := F.2.2.2.2 _ List.mem_cons_self
  have loop : ∀ (n k : Nat) (w : Int64) (ls : Array Slot) (H : Heap) (locs : List Loc), k + n = n0 → xb_W G A s [] H locs → lv_has ls 4 [(3, .int (nI k)), (1, .long w), (0, .ref a0)] → W p l e rm_packed s m args below meth c H locs 0 0 Q (F0 m 4 ls []) := by
    intro n
    induction n with
    | zero =>
      intro k w ls H locs hk h hl
      refine lv_iload_n (pc := 4) hx hb d_TypeFinder_Tokens_packed_4 rfl (lv_at hl 0 rfl) ?_
      refine lv_aload_n (pc := 5) hx hb d_TypeFinder_Tokens_packed_5 rfl (lv_at hl 2 rfl) ?_
      refine xb_callV (pc := 6) (rm := rm_String_length) (wr := []) F h (ct_String_length l G a0 d0 n0 fb hn) 0 (va_Orecv hsb.1 h.2.2) k_389 k_4 k_396 k_391 k_392 hd_String_length (by decide) [] [] rfl rfl (by decide) (by decide) (by decide) (xb_ssg F h [] rfl (fun _ z => z)) hl.1 rfl rfl (Nat.le_of_ble_eq_true rfl) (by decide) d_TypeFinder_Tokens_packed_6 (fun u H locs hu h => ?_)
      have h : xb_W G A s [] _ _ := h
      refine W.widen (k := 0) (n := 0) (by decide) (by decide) ?_
      refine W.eq (g2 := F0 m 9 ls [.int (nI n0), .int (nI k)]) rfl ?_
      refine lv_icmp_ge (pc := 9) (tgt := 30) hx hb d_TypeFinder_Tokens_packed_9 (by decide) (fun _ => ?_) (fun h => absurd (nI_le (a := n0) (b := k) (by omega) (by omega)) h)
      refine lv_lload_n (pc := 30) hx hb d_TypeFinder_Tokens_packed_30 rfl (lv_at hl 1 rfl) ?_
      exact xb_lret (pc := 31) (rm := rm_packed) F hr hlk hA hQ h w trivial rfl [] (by decide) rfl (by decide) (by decide) d_TypeFinder_Tokens_packed_31
    | succ n ih =>
      intro k w ls H locs hk h hl
      refine lv_iload_n (pc := 4) hx hb d_TypeFinder_Tokens_packed_4 rfl (lv_at hl 0 rfl) ?_
      refine lv_aload_n (pc := 5) hx hb d_TypeFinder_Tokens_packed_5 rfl (lv_at hl 2 rfl) ?_
      refine xb_callV (pc := 6) (rm := rm_String_length) (wr := []) F h (ct_String_length l G a0 d0 n0 fb hn) 0 (va_Orecv hsb.1 h.2.2) k_389 k_4 k_396 k_391 k_392 hd_String_length (by decide) [] [] rfl rfl (by decide) (by decide) (by decide) (xb_ssg F h [] rfl (fun _ z => z)) hl.1 rfl rfl (Nat.le_of_ble_eq_true rfl) (by decide) d_TypeFinder_Tokens_packed_6 (fun u H locs hu h => ?_)
      have h : xb_W G A s [] _ _ := h
      refine W.widen (k := 0) (n := 0) (by decide) (by decide) ?_
      refine W.eq (g2 := F0 m 9 ls [.int (nI n0), .int (nI k)]) rfl ?_
      refine lv_icmp_ge (pc := 9) (tgt := 30) hx hb d_TypeFinder_Tokens_packed_9 (by decide) (fun h => absurd h (nI_ge (a := k) (b := n0) (by omega) (by omega))) (fun _ => ?_)
      refine lv_lload_n (pc := 12) hx hb d_TypeFinder_Tokens_packed_12 rfl (lv_at hl 1 rfl) ?_
      refine lv_bipush (pc := 13) (v := 8) hx hb d_TypeFinder_Tokens_packed_13 (by decide) ?_
      refine lv_lshl (pc := 15) hx hb d_TypeFinder_Tokens_packed_15 rfl ?_
      refine lv_topl (fun x15_1 ex15_1 => ?_)
      refine lv_aload_n (pc := 16) hx hb d_TypeFinder_Tokens_packed_16 rfl (lv_at hl 2 rfl) ?_
      refine lv_iload_n (pc := 17) hx hb d_TypeFinder_Tokens_packed_17 rfl (lv_at hl 0 rfl) ?_
      refine xb_callV (pc := 18) (rm := rm_String_charAt) (wr := []) F h (ct_String_charAt l G a0 d0 n0 fb hn k (by omega)) 1 (va_Orecv hsb.1 h.2.2) k_397 k_4 k_398 k_399 k_400 hd_String_charAt (by decide) [] [] rfl rfl (by decide) (by decide) (by decide) (xb_ssg F h [] rfl (fun _ z => z)) hl.1 rfl rfl (Nat.le_of_ble_eq_true rfl) (by decide) d_TypeFinder_Tokens_packed_18 (fun u H locs hu h => ?_)
      obtain ⟨x18_2, rfl⟩ : ∃ z, z = u := ⟨_, rfl⟩
      have h : xb_W G A s [] _ _ := h
      refine W.widen (k := 0) (n := 0) (by decide) (by decide) ?_
      refine W.eq (g2 := F0 m 21 ls [.int x18_2, .long x15_1]) rfl ?_
      refine lv_i2l (pc := 21) hx hb d_TypeFinder_Tokens_packed_21 rfl ?_
      refine lv_topl (fun x21_3 ex21_3 => ?_)
      refine lv_lor (pc := 22) hx hb d_TypeFinder_Tokens_packed_22 ?_
      refine lv_topl (fun x22_4 ex22_4 => ?_)
      refine lv_lstore_n (pc := 23) (lv' := [(1, .long x22_4), (3, .int (nI k)), (0, .ref a0)]) hx hb d_TypeFinder_Tokens_packed_23 rfl hl (by decide) rfl (fun ls hl => ?_)
      refine lv_iinc (pc := 24) (k := 1) (v := ((nI k) + 1)) (lv' := [(3, .int ((nI k) + 1)), (1, .long x22_4), (0, .ref a0)]) hx hb d_TypeFinder_Tokens_packed_24 hl rfl (rfl) (by decide) rfl (fun ls hl => ?_)
      refine lv_goto (pc := 27) (tgt := 4) hx hb d_TypeFinder_Tokens_packed_27 (by decide) ?_
      exact ih (k + 1) _ _ _ _ (by omega) h (by rw [← nI_succ] at hl; exact hl)
  refine lv_lconst (pc := 0) (v := 0) hx hb d_TypeFinder_Tokens_packed_0 (by decide) ?_
  refine lv_lstore_n (pc := 1) (lv' := [(1, .long 0), (0, .ref a0)]) hx hb d_TypeFinder_Tokens_packed_1 rfl hl (by decide) rfl (fun ls hl => ?_)
  refine lv_iconst (pc := 2) (v := 0) hx hb d_TypeFinder_Tokens_packed_2 (by decide) ?_
  refine lv_istore_n (pc := 3) (lv' := [(3, .int 0), (1, .long 0), (0, .ref a0)]) hx hb d_TypeFinder_Tokens_packed_3 rfl hl (by decide) rfl (fun ls hl => ?_)
  exact loop n0 0 0 _ _ _ (by omega) h hl
end
section
def xt_st : List Nat := [0, 0, 0, 3, 3, 3, 3, 7, 7, 7, 10, 10, 10, 13, 13, 13, 13, 13, 18, 18, 18, 18, 18, 23, 23, 23, 23, 23, 28, 28, 28, 31, 31, 31, 31, 31, 36, 36, 36, 36, 40]
def xt_kw : List Nat := [0, 0, 0, 1, 1, 1, 1, 2, 2, 2, 3, 3, 3, 4, 4, 4, 4, 4, 5, 5, 5, 5, 5, 6, 6, 6, 6, 6, 7, 7, 7, 8, 8, 8, 8, 8, 9, 9, 9, 9, 10]
def xt_b : List Nat := [102, 110, 32, 108, 101, 116, 32, 105, 110, 32, 105, 102, 32, 116, 104, 101, 110, 32, 101, 108, 115, 101, 32, 99, 97, 115, 101, 32, 111, 102, 32, 100, 97, 116, 97, 32, 105, 110, 116, 32]
theorem xt_1 : ∀ i, i < 40 → xt_st.getD i 0 ≤ i ∧ xt_kw.getD i 0 ≤ 9 ∧ (xt_b.getD i 0 = 32 → xt_st.getD i 0 < i ∧ i - xt_st.getD i 0 ≤ 5 ∧ xt_st.getD (i + 1) 0 = i + 1 ∧ xt_kw.getD (i + 1) 0 = xt_kw.getD i 0 + 1) ∧ (xt_b.getD i 0 ≠ 32 → xt_st.getD (i + 1) 0 = xt_st.getD i 0 ∧ xt_kw.getD (i + 1) 0 = xt_kw.getD i 0) := by decide
theorem xt_2 : ∀ i, i < 40 → (xb_sB.getD 0 []).getD i 0 &&& 255 = nI (xt_b.getD i 0) ∧ fits .byte (.int ((xb_sB.getD 0 []).getD i 0)) = true ∧ xt_b.getD i 0 < 256 := by decide +kernel
abbrev rm_Tokens_init : Room := { frames := 8, cells := 23, slots := 262, locals := 280 }
set_option maxHeartbeats 4000000 in
set_option maxRecDepth 100000 in
theorem ct_Tokens_init (l : Launch) (G : xb_EV) (h0 : Nat) : xb_CT l y_TypeFinder_Tokens_init b_TypeFinder_Tokens_init 4 none rm_Tokens_init G [] [.ref h0] [(h0, .inr (2, [.null, .null, .null, .int 0, .int 0]))] (S := Nat × Nat × Nat) (fun _ => none) (fun _ => True) (fun u => [(h0, .inr (2, [.ref u.1, .ref u.2.1, .ref u.2.2, .int 0, .int 0])), (u.1, .inl (G.2.1 0, 81, .inl (fun _ => 0))), (u.2.1, .inl (G.2.1 1, 81, .inr (.inl (fun _ => 0))))]) := by
  refine xb_CT.of (by decide) "TypeFinder$Tokens" rfl ?_ (Nat.le_of_ble_eq_true rfl)
  intro p e s m args below meth c A ls Q F hr hlk hnm h hl hA hQ
  have hx := F.1.1
  have hb := F.1.2.1
  have hml := F.1.2.2.1
  have hown := F.1.2.2.2.1
  have hts := F.1.2.2.2.2
  have hK := F.2.1
  refine lv_aload_n (pc := 0) hx hb d_TypeFinder_Tokens_init_0 rfl (lv_at hl 0 rfl) ?_
  refine W.objInit hx hb hown (hts _ k_403) (hts _ k_25) (hts _ k_26) rfl (by rw [hml]; exact hl.1) rfl d_TypeFinder_Tokens_init_1 (Nat.le_of_ble_eq_true rfl) (Nat.le_of_ble_eq_true rfl) ?_
  refine W.eq (g2 := F0 m 4 ls []) rfl ?_
  refine lv_aload_n (pc := 4) hx hb d_TypeFinder_Tokens_init_4 rfl (lv_at hl 0 rfl) ?_
  refine lv_bipush (pc := 5) (v := 81) hx hb d_TypeFinder_Tokens_init_5 (by decide) ?_
  refine xb_newa (pc := 7) (a0 := (81, .inl (fun _ => 0))) (ty := .int) (N' := 81) (ws' := fun q7_1 => [(h0, .inr (2, [.null, .null, .null, .int 0, .int 0])), (q7_1, .inl (G.2.1 0, 81, .inl (fun _ => 0)))]) F h rfl 0 rfl k_193 (fun _ => rfl) (by decide) (by decide) (by decide) (fun _ => rfl) (by decide) (by decide) d_TypeFinder_Tokens_init_7 (fun q7_1 H h => ?_)
  refine xb_putF (pc := 9) (t0 := (.array .int)) (ws' := [(h0, .inr (2, [.ref q7_1, .null, .null, .int 0, .int 0])), (q7_1, .inl (G.2.1 0, 81, .inl (fun _ => 0)))]) F h hnm cf_2 0 rfl 0 (by decide) rfl k_297 (by decide +kernel) rfl rfl (Nat.le_of_ble_eq_true rfl) rfl d_TypeFinder_Tokens_init_9 (fun H locs h => ?_)
  refine lv_aload_n (pc := 12) hx hb d_TypeFinder_Tokens_init_12 rfl (lv_at hl 0 rfl) ?_
  refine lv_bipush (pc := 13) (v := 81) hx hb d_TypeFinder_Tokens_init_13 (by decide) ?_
  refine xb_newa (pc := 15) (a0 := (81, .inr (.inl (fun _ => 0)))) (ty := .long) (N' := 81) (ws' := fun q15_2 => [(h0, .inr (2, [.ref q7_1, .null, .null, .int 0, .int 0])), (q7_1, .inl (G.2.1 0, 81, .inl (fun _ => 0))), (q15_2, .inl (G.2.1 1, 81, .inr (.inl (fun _ => 0))))]) F h rfl 1 rfl k_404 (fun _ => rfl) (by decide) (by decide) (by decide) (fun _ => rfl) (by decide) (by decide) d_TypeFinder_Tokens_init_15 (fun q15_2 H h => ?_)
  refine xb_putF (pc := 17) (t0 := (.array .long)) (ws' := [(h0, .inr (2, [.ref q7_1, .ref q15_2, .null, .int 0, .int 0])), (q7_1, .inl (G.2.1 0, 81, .inl (fun _ => 0))), (q15_2, .inl (G.2.1 1, 81, .inr (.inl (fun _ => 0))))]) F h hnm cf_2 0 rfl 1 (by decide) rfl k_298 (by decide +kernel) rfl rfl (Nat.le_of_ble_eq_true rfl) rfl d_TypeFinder_Tokens_init_17 (fun H locs h => ?_)
  refine lv_aload_n (pc := 20) hx hb d_TypeFinder_Tokens_init_20 rfl (lv_at hl 0 rfl) ?_
  refine lv_bipush (pc := 21) (v := 10) hx hb d_TypeFinder_Tokens_init_21 (by decide) ?_
  refine xb_newa (pc := 23) (a0 := (10, .inr (.inl (fun _ => 0)))) (ty := .long) (N' := 10) (ws' := fun q23_3 => [(h0, .inr (2, [.ref q7_1, .ref q15_2, .null, .int 0, .int 0])), (q7_1, .inl (G.2.1 0, 81, .inl (fun _ => 0))), (q15_2, .inl (G.2.1 1, 81, .inr (.inl (fun _ => 0)))), (q23_3, .inl (G.2.1 1, 10, .inr (.inl (fun _ => 0))))]) F h rfl 1 rfl k_404 (fun _ => rfl) (by decide) (by decide) (by decide) (fun _ => rfl) (by decide) (by decide) d_TypeFinder_Tokens_init_23 (fun q23_3 H h => ?_)
  refine xb_putF (pc := 25) (t0 := (.array .long)) (ws' := [(h0, .inr (2, [.ref q7_1, .ref q15_2, .ref q23_3, .int 0, .int 0])), (q7_1, .inl (G.2.1 0, 81, .inl (fun _ => 0))), (q15_2, .inl (G.2.1 1, 81, .inr (.inl (fun _ => 0)))), (q23_3, .inl (G.2.1 1, 10, .inr (.inl (fun _ => 0))))]) F h hnm cf_2 0 rfl 2 (by decide) rfl k_405 (by decide +kernel) rfl rfl (Nat.le_of_ble_eq_true rfl) rfl d_TypeFinder_Tokens_init_25 (fun H locs h => ?_)
  refine lv_iconst (pc := 28) (v := 0) hx hb d_TypeFinder_Tokens_init_28 (by decide) ?_
  refine lv_istore_n (pc := 29) (lv' := [(1, .int 0), (0, .ref h0)]) hx hb d_TypeFinder_Tokens_init_29 rfl hl (by decide) rfl (fun ls hl => ?_)
  refine lv_iconst (pc := 30) (v := 0) hx hb d_TypeFinder_Tokens_init_30 (by decide) ?_
  refine lv_istore_n (pc := 31) (lv' := [(2, .int 0), (1, .int 0), (0, .ref h0)]) hx hb d_TypeFinder_Tokens_init_31 rfl hl (by decide) rfl (fun ls hl => ?_)
  refine lv_iconst (pc := 32) (v := 0) hx hb d_TypeFinder_Tokens_init_32 (by decide) ?_
  refine lv_istore_n (pc := 33) (lv' := [(3, .int 0), (2, .int 0), (1, .int 0), (0, .ref h0)]) hx hb d_TypeFinder_Tokens_init_33 rfl hl (by decide) rfl (fun ls hl => ?_)
  have hsb := xb_litF F 0 (by decide)
  have loop : ∀ (n i : Nat) (fk : Nat → Int64) (ls : Array Slot) (H : Heap) (locs : List Loc), i + n = 40 → xb_W G A s [(h0, .inr (2, [.ref q7_1, .ref q15_2, .ref q23_3, .int 0, .int 0])), (q7_1, .inl (G.2.1 0, 81, .inl (fun _ => 0))), (q15_2, .inl (G.2.1 1, 81, .inr (.inl (fun _ => 0)))), (q23_3, .inl (G.2.1 1, 10, .inr (.inl (fk))))] H locs → lv_has ls 4 [(3, .int (nI i)), (2, .int (nI (xt_st.getD i 0))), (1, .int (nI (xt_kw.getD i 0))), (0, .ref h0)] → W p l e rm_Tokens_init s m args below meth c H locs (3 + 2 * xt_kw.getD i 0) (172 + 9 * xt_kw.getD i 0) Q (F0 m 34 ls []) := by
    intro n
    induction n with
    | zero =>
      intro i fk ls H locs hi h hl
      obtain rfl : i = 40 := by omega
      have k40 : xt_kw.getD 40 0 = 10 := by decide
      refine lv_iload_n (pc := 34) hx hb d_TypeFinder_Tokens_init_34 rfl (lv_at hl 0 rfl) ?_
      refine va_ldcS (pc := 35) hx hb hown (xb_str (q := ("TypeFinder$Tokens", 22, "fn let in if then else case of data int ", 0)) F 5 rfl) d_TypeFinder_Tokens_init_35 ?_
      refine xb_callV (pc := 37) (rm := rm_String_length) (wr := [(h0, .inr (2, [.ref q7_1, .ref q15_2, .ref q23_3, .int 0, .int 0])), (q7_1, .inl (G.2.1 0, 81, .inl (fun _ => 0))), (q15_2, .inl (G.2.1 1, 81, .inr (.inl (fun _ => 0)))), (q23_3, .inl (G.2.1 1, 10, .inr (.inl (fk))))]) F h (ct_String_length l G (G.2.2.2.1 0) (G.2.2.2.2 0) 40 (fun j => (xb_sB.getD 0 []).getD j 0) (by decide)) 0 (va_Orecv hsb.1 h.2.2) k_389 k_4 k_396 k_391 k_392 hd_String_length (by decide) [] [0, 1, 2, 3] rfl rfl (by decide) (by decide) (by decide) (xb_lit F h 0 (by decide)) hl.1 rfl rfl (Nat.le_of_ble_eq_true rfl) (by refine ⟨?_, ?_⟩ <;> simp only [] <;> omega) d_TypeFinder_Tokens_init_37 (fun u H locs hu h => ?_)
      have h : xb_W G A s [(h0, .inr (2, [.ref q7_1, .ref q15_2, .ref q23_3, .int 0, .int 0])), (q7_1, .inl (G.2.1 0, 81, .inl (fun _ => 0))), (q15_2, .inl (G.2.1 1, 81, .inr (.inl (fun _ => 0)))), (q23_3, .inl (G.2.1 1, 10, .inr (.inl (fk))))] _ _ := h
      refine W.eq (g2 := F0 m 40 ls [.int (nI 40), .int (nI 40)]) rfl ?_
      refine lv_icmp_ge (pc := 40) (tgt := 92) hx hb d_TypeFinder_Tokens_init_40 (by decide) (fun _ => ?_) (fun h => absurd (nI_le (Nat.le_refl _) (by decide)) h)
      exact xb_vret (pc := 92) (rm := rm_Tokens_init) F hr hlk hA hQ h (q7_1, q15_2, q23_3) trivial rfl [0, 1, 2] (by decide) rfl (by decide) (by decide) d_TypeFinder_Tokens_init_92
    | succ n ih =>
      intro i fk ls H locs hi h hl
      have hi2 : i < 40 := by omega
      obtain ⟨t1, t2, t3, t4⟩ := xt_1 i hi2
      obtain ⟨t5, -, t6⟩ := xt_2 i hi2
      refine lv_iload_n (pc := 34) hx hb d_TypeFinder_Tokens_init_34 rfl (lv_at hl 0 rfl) ?_
      refine va_ldcS (pc := 35) hx hb hown (xb_str (q := ("TypeFinder$Tokens", 22, "fn let in if then else case of data int ", 0)) F 5 rfl) d_TypeFinder_Tokens_init_35 ?_
      refine xb_callV (pc := 37) (rm := rm_String_length) (wr := [(h0, .inr (2, [.ref q7_1, .ref q15_2, .ref q23_3, .int 0, .int 0])), (q7_1, .inl (G.2.1 0, 81, .inl (fun _ => 0))), (q15_2, .inl (G.2.1 1, 81, .inr (.inl (fun _ => 0)))), (q23_3, .inl (G.2.1 1, 10, .inr (.inl (fk))))]) F h (ct_String_length l G (G.2.2.2.1 0) (G.2.2.2.2 0) 40 (fun j => (xb_sB.getD 0 []).getD j 0) (by decide)) 0 (va_Orecv hsb.1 h.2.2) k_389 k_4 k_396 k_391 k_392 hd_String_length (by decide) [] [0, 1, 2, 3] rfl rfl (by decide) (by decide) (by decide) (xb_lit F h 0 (by decide)) hl.1 rfl rfl (Nat.le_of_ble_eq_true rfl) (by refine ⟨?_, ?_⟩ <;> simp only [] <;> omega) d_TypeFinder_Tokens_init_37 (fun u H locs hu h => ?_)
      have h : xb_W G A s [(h0, .inr (2, [.ref q7_1, .ref q15_2, .ref q23_3, .int 0, .int 0])), (q7_1, .inl (G.2.1 0, 81, .inl (fun _ => 0))), (q15_2, .inl (G.2.1 1, 81, .inr (.inl (fun _ => 0)))), (q23_3, .inl (G.2.1 1, 10, .inr (.inl (fk))))] _ _ := h
      refine W.eq (g2 := F0 m 40 ls [.int (nI 40), .int (nI i)]) rfl ?_
      refine lv_icmp_ge (pc := 40) (tgt := 92) hx hb d_TypeFinder_Tokens_init_40 (by decide) (fun h => absurd h (nI_ge (a := i) (b := 40) hi2 (by decide))) (fun _ => ?_)
      refine lv_iload_n (pc := 43) hx hb d_TypeFinder_Tokens_init_43 rfl (lv_at hl 2 rfl) ?_
      refine lv_aload_n (pc := 44) hx hb d_TypeFinder_Tokens_init_44 rfl (lv_at hl 3 rfl) ?_
      refine xb_get (pc := 45) F h cf_2 0 rfl 2 (by decide) rfl k_405 (Or.inl rfl) rfl d_TypeFinder_Tokens_init_45 ?_
      refine va_alen (pc := 48) (v := 10) hx hb hK h.1 3 1 rfl rfl (by first | rfl | decide) d_TypeFinder_Tokens_init_48 ?_
      refine lv_icmp_ge (pc := 49) (tgt := 92) hx hb d_TypeFinder_Tokens_init_49 (by decide) (fun h => absurd h (nI_ge (a := xt_kw.getD i 0) (b := 10) (by omega) (by decide))) (fun _ => ?_)
      refine va_ldcS (pc := 52) hx hb hown (xb_str (q := ("TypeFinder$Tokens", 22, "fn let in if then else case of data int ", 0)) F 5 rfl) d_TypeFinder_Tokens_init_52 ?_
      refine lv_iload_n (pc := 54) hx hb d_TypeFinder_Tokens_init_54 rfl (lv_at hl 0 rfl) ?_
      refine xb_callV (pc := 55) (rm := rm_String_charAt) (wr := [(h0, .inr (2, [.ref q7_1, .ref q15_2, .ref q23_3, .int 0, .int 0])), (q7_1, .inl (G.2.1 0, 81, .inl (fun _ => 0))), (q15_2, .inl (G.2.1 1, 81, .inr (.inl (fun _ => 0)))), (q23_3, .inl (G.2.1 1, 10, .inr (.inl (fk))))]) F h (ct_String_charAt l G (G.2.2.2.1 0) (G.2.2.2.2 0) 40 (fun j => (xb_sB.getD 0 []).getD j 0) (by decide) i hi2) 1 (va_Orecv hsb.1 h.2.2) k_397 k_4 k_398 k_399 k_400 hd_String_charAt (by decide) [] [0, 1, 2, 3] rfl rfl (by decide) (by decide) (by decide) (xb_lit F h 0 (by decide)) hl.1 rfl rfl (Nat.le_of_ble_eq_true rfl) (by refine ⟨?_, ?_⟩ <;> simp only [] <;> omega) d_TypeFinder_Tokens_init_55 (fun u H locs hu h => ?_)
      obtain rfl : u = nI (xt_b.getD i 0) := hu.2.trans t5
      have h : xb_W G A s [(h0, .inr (2, [.ref q7_1, .ref q15_2, .ref q23_3, .int 0, .int 0])), (q7_1, .inl (G.2.1 0, 81, .inl (fun _ => 0))), (q15_2, .inl (G.2.1 1, 81, .inr (.inl (fun _ => 0)))), (q23_3, .inl (G.2.1 1, 10, .inr (.inl (fk))))] _ _ := h
      refine W.eq (g2 := F0 m 58 ls [.int (nI (xt_b.getD i 0))]) rfl ?_
      refine lv_bipush (pc := 58) (v := 32) hx hb d_TypeFinder_Tokens_init_58 (by decide) ?_
      refine lv_icmp_ne (pc := 60) (tgt := 86) hx hb d_TypeFinder_Tokens_init_60 (by decide) (fun hne => ?_) (fun heq => ?_)
      · have t7 := t4 (fun z => hne (by rw [z]; rfl))
        refine lv_iinc (pc := 86) (k := 0) (v := ((nI i) + 1)) (lv' := [(3, .int ((nI i) + 1)), (2, .int (nI (xt_st.getD i 0))), (1, .int (nI (xt_kw.getD i 0))), (0, .ref h0)]) hx hb d_TypeFinder_Tokens_init_86 hl rfl (rfl) (by decide) rfl (fun ls hl => ?_)
        refine lv_goto (pc := 89) (tgt := 34) hx hb d_TypeFinder_Tokens_init_89 (by decide) ?_
        exact W.widen (Nat.le_of_eq (by simp only []; rw [t7.2]; omega)) (Nat.le_of_eq (by simp only []; rw [t7.2]; omega)) (ih (i + 1) fk _ _ _ (by omega) h (by rw [t7.1, t7.2, nI_succ]; exact hl))
      · have t7 := t3 ((nI_eq (by omega) (by decide)).mp heq)
        refine lv_aload_n (pc := 63) hx hb d_TypeFinder_Tokens_init_63 rfl (lv_at hl 3 rfl) ?_
        refine xb_get (pc := 64) F h cf_2 0 rfl 2 (by decide) rfl k_405 (Or.inl rfl) rfl d_TypeFinder_Tokens_init_64 ?_
        refine lv_iload_n (pc := 67) hx hb d_TypeFinder_Tokens_init_67 rfl (lv_at hl 2 rfl) ?_
        refine va_ldcS (pc := 68) hx hb hown (xb_str (q := ("TypeFinder$Tokens", 22, "fn let in if then else case of data int ", 0)) F 5 rfl) d_TypeFinder_Tokens_init_68 ?_
        refine lv_iload_n (pc := 70) hx hb d_TypeFinder_Tokens_init_70 rfl (lv_at hl 1 rfl) ?_
        refine lv_iload_n (pc := 71) hx hb d_TypeFinder_Tokens_init_71 rfl (lv_at hl 0 rfl) ?_
        refine xb_callV (pc := 72) (rm := rm_substring) (wr := [(h0, .inr (2, [.ref q7_1, .ref q15_2, .ref q23_3, .int 0, .int 0])), (q7_1, .inl (G.2.1 0, 81, .inl (fun _ => 0))), (q15_2, .inl (G.2.1 1, 81, .inr (.inl (fun _ => 0)))), (q23_3, .inl (G.2.1 1, 10, .inr (.inl (fk))))]) F h (ct_substring l G (G.2.2.2.1 0) (G.2.2.2.2 0) 40 (fun j => (xb_sB.getD 0 []).getD j 0) (by decide) (xt_st.getD i 0) i t7.1 (by omega) (by omega) t7.2.1 (fun j hj => (xt_2 j hj).2.1)) 2 (va_Orecv hsb.1 h.2.2) k_406 k_4 k_407 k_408 k_409 hd_String_substring (by decide) [] [0, 1, 2, 3] rfl rfl (by decide) (by decide) (by decide) (xb_lit F h 0 (by decide)) hl.1 rfl rfl (Nat.le_of_ble_eq_true rfl) (by refine ⟨?_, ?_⟩ <;> simp only [] <;> omega) d_TypeFinder_Tokens_init_72 (fun u H locs hu h => ?_)
        obtain ⟨q4, q5, f5⟩ := u
        have h : xb_W G A s [(h0, .inr (2, [.ref q7_1, .ref q15_2, .ref q23_3, .int 0, .int 0])), (q7_1, .inl (G.2.1 0, 81, .inl (fun _ => 0))), (q15_2, .inl (G.2.1 1, 81, .inr (.inl (fun _ => 0)))), (q23_3, .inl (G.2.1 1, 10, .inr (.inl (fk)))), (q5, .inl (G.2.1 4, (i - xt_st.getD i 0), .inl (f5))), (q4, .inr (13, [.ref q5, .int 0, .int 0, .int 0]))] _ _ := h
        refine W.eq (g2 := F0 m 75 ls [.ref q4, .int (nI (xt_kw.getD i 0)), .ref q23_3]) rfl ?_
        refine xb_callS (pc := 75) (rm := rm_packed) (wr := [(h0, .inr (2, [.ref q7_1, .ref q15_2, .ref q23_3, .int 0, .int 0])), (q7_1, .inl (G.2.1 0, 81, .inl (fun _ => 0))), (q15_2, .inl (G.2.1 1, 81, .inr (.inl (fun _ => 0)))), (q23_3, .inl (G.2.1 1, 10, .inr (.inl (fk)))), (q5, .inl (G.2.1 4, (i - xt_st.getD i 0), .inl (f5))), (q4, .inr (13, [.ref q5, .int 0, .int 0, .int 0]))]) F h (ct_packed l G q4 q5 (i - xt_st.getD i 0) f5 (by omega)) 1 k_142 k_143 k_410 k_145 hd_TypeFinder_Tokens_packed (by decide) [] [0, 1, 2, 3, 4, 5] rfl rfl (by decide) (by decide) (by decide) (xb_wstr F h 5 4 rfl rfl (by omega)) hl.1 rfl rfl (Nat.le_of_ble_eq_true rfl) (by refine ⟨?_, ?_⟩ <;> simp only [] <;> omega) d_TypeFinder_Tokens_init_75 (fun u H locs hu h => ?_)
        obtain ⟨wv, rfl⟩ : ∃ z, z = u := ⟨_, rfl⟩
        have h : xb_W G A s [(h0, .inr (2, [.ref q7_1, .ref q15_2, .ref q23_3, .int 0, .int 0])), (q7_1, .inl (G.2.1 0, 81, .inl (fun _ => 0))), (q15_2, .inl (G.2.1 1, 81, .inr (.inl (fun _ => 0)))), (q23_3, .inl (G.2.1 1, 10, .inr (.inl (fk)))), (q5, .inl (G.2.1 4, (i - xt_st.getD i 0), .inl (f5))), (q4, .inr (13, [.ref q5, .int 0, .int 0, .int 0]))] _ _ := h
        refine W.eq (g2 := F0 m 78 ls [.long wv, .int (nI (xt_kw.getD i 0)), .ref q23_3]) rfl ?_
        have h := xb_sub (ws' := [(h0, .inr (2, [.ref q7_1, .ref q15_2, .ref q23_3, .int 0, .int 0])), (q7_1, .inl (G.2.1 0, 81, .inl (fun _ => 0))), (q15_2, .inl (G.2.1 1, 81, .inr (.inl (fun _ => 0)))), (q23_3, .inl (G.2.1 1, 10, .inr (.inl (fk))))]) h [0, 1, 2, 3] (by decide) rfl
        refine xb_lastF (pc := 78) (ws' := fun f78_1 => [(h0, .inr (2, [.ref q7_1, .ref q15_2, .ref q23_3, .int 0, .int 0])), (q7_1, .inl (G.2.1 0, 81, .inl (fun _ => 0))), (q15_2, .inl (G.2.1 1, 81, .inr (.inl (fun _ => 0)))), (q23_3, .inl (G.2.1 1, 10, .inr (.inl (f78_1))))]) F h 3 1 rfl rfl (vp_in_nI (by omega) (by decide)) (fun _ => rfl) d_TypeFinder_Tokens_init_78 (fun f78_1 H locs h => ?_)
        refine lv_iinc (pc := 79) (k := 2) (v := ((nI (xt_kw.getD i 0)) + 1)) (lv' := [(1, .int ((nI (xt_kw.getD i 0)) + 1)), (3, .int (nI i)), (2, .int (nI (xt_st.getD i 0))), (0, .ref h0)]) hx hb d_TypeFinder_Tokens_init_79 hl rfl (rfl) (by decide) rfl (fun ls hl => ?_)
        refine lv_iload_n (pc := 82) hx hb d_TypeFinder_Tokens_init_82 rfl (lv_at hl 1 rfl) ?_
        refine lv_iconst (pc := 83) (v := 1) hx hb d_TypeFinder_Tokens_init_83 (by decide) ?_
        refine lv_iadd (pc := 84) hx hb d_TypeFinder_Tokens_init_84 ?_
        refine lv_istore_n (pc := 85) (lv' := [(2, .int ((nI i) + 1)), (1, .int ((nI (xt_kw.getD i 0)) + 1)), (3, .int (nI i)), (0, .ref h0)]) hx hb d_TypeFinder_Tokens_init_85 rfl hl (by decide) rfl (fun ls hl => ?_)
        refine lv_iinc (pc := 86) (k := 2) (v := ((nI i) + 1)) (lv' := [(3, .int ((nI i) + 1)), (2, .int ((nI i) + 1)), (1, .int ((nI (xt_kw.getD i 0)) + 1)), (0, .ref h0)]) hx hb d_TypeFinder_Tokens_init_86 hl rfl (rfl) (by decide) rfl (fun ls hl => ?_)
        refine lv_goto (pc := 89) (tgt := 34) hx hb d_TypeFinder_Tokens_init_89 (by decide) ?_
        exact W.widen (by simp only []; rw [t7.2.2.2]; omega) (by simp only []; rw [t7.2.2.2]; omega) (ih (i + 1) _ _ _ _ (by omega) h (by rw [t7.2.2.1, t7.2.2.2, nI_succ, nI_succ]; exact lv_sub hl [0, 1, 2, 3] rfl))
  exact loop 40 0 _ _ _ _ rfl h hl
end
section
abbrev rm_AL_size : Room := { frames := 0, cells := 0, slots := 0, locals := 30 }
set_option maxHeartbeats 4000000 in
set_option maxRecDepth 100000 in
theorem ct_AL_size (l : Launch) (G : xb_EV) (h0 : Nat) (mc : Int32) (r0 : Nat) (z0 : Int32) : xb_CT l y_ArrayList_size b_ArrayList_size 1 (some .int) rm_AL_size G [] [.ref h0] [(h0, .inr (11, [.int mc, .ref r0, .int z0]))] (S := Unit) (fun _ => some (.int z0)) (fun _ => True) (fun _ => [(h0, .inr (11, [.int mc, .ref r0, .int z0]))]) := by
  refine xb_CT.of (by decide) "java/util/ArrayList" rfl ?_ (Nat.le_of_ble_eq_true rfl)
  intro p e s m args below meth c A ls Q F hr hlk hnm h hl hA hQ
  have hx := F.1.1
  have hb := F.1.2.1
  have hml := F.1.2.2.1
  have hown := F.1.2.2.2.1
  have hts := F.1.2.2.2.2
  have hK := F.2.1
  refine lv_aload_n (pc := 0) hx hb d_ArrayList_size_0 rfl (lv_at hl 0 rfl) ?_
  refine xb_get (pc := 1) F h cf_11 0 rfl 2 (by decide) rfl k_43 (Or.inl rfl) rfl d_ArrayList_size_1 ?_
  exact xb_iret (pc := 4) (rm := rm_AL_size) F hr hlk hA hQ h () trivial rfl [0] (by decide) rfl (by decide) (by decide) d_ArrayList_size_4
abbrev rm_Known_init : Room := { frames := 7, cells := 33, slots := 196, locals := 243 }
set_option maxHeartbeats 4000000 in
set_option maxRecDepth 100000 in
theorem ct_Known_init (l : Launch) (G : xb_EV) (h0 : Nat) : xb_CT l y_TypeFinder_Known_init b_TypeFinder_Known_init 6 none rm_Known_init G [] [.ref h0] [(h0, .inr (4, [.null, .null, .null, .null, .int 0]))] (S := (Nat → Nat) × Int64 × Int64) (fun _ => none) (fun _ => True) (fun u => [(h0, .inr (4, [.ref (u.1 0), .ref (u.1 5), .ref (u.1 1), .ref (u.1 2), .int 6])), ((u.1 3), .inr (6, [.long u.2.1, .int 0, .ref (u.1 4), .ref (u.1 5), .int 1])), ((u.1 1), .inr (11, [.int 2, .ref (u.1 6), .int 2])), ((u.1 6), .inl (G.2.1 5, 10, .inr (.inr (.inr (.inr (va_up (va_up (fun _ => none) (Int32.toNatClampNeg 0) (some (u.1 3))) (Int32.toNatClampNeg 1) (some (u.1 7)))))))), ((u.1 7), .inr (6, [.long u.2.2, .int 1, .ref (u.1 8), .ref (u.1 9), .int 1])), ((u.1 2), .inr (11, [.int 6, .ref (u.1 10), .int 6]))]) := by
  refine xb_CT.of (by decide) "TypeFinder$Known" rfl ?_ (Nat.le_of_ble_eq_true rfl)
  intro p e s m args below meth c A ls Q F hr hlk hnm h hl hA hQ
  have hx := F.1.1
  have hb := F.1.2.1
  have hml := F.1.2.2.1
  have hown := F.1.2.2.2.1
  have hts := F.1.2.2.2.2
  have hK := F.2.1
  refine lv_aload_n (pc := 0) hx hb d_TypeFinder_Known_init_0 rfl (lv_at hl 0 rfl) ?_
  refine W.objInit hx hb hown (hts _ k_134) (hts _ k_25) (hts _ k_26) rfl (by rw [hml]; exact hl.1) rfl d_TypeFinder_Known_init_1 (Nat.le_of_ble_eq_true rfl) (Nat.le_of_ble_eq_true rfl) ?_
  refine W.eq (g2 := F0 m 4 ls []) rfl ?_
  refine lv_aload_n (pc := 4) hx hb d_TypeFinder_Known_init_4 rfl (lv_at hl 0 rfl) ?_
  refine xb_new (pc := 5) (ws' := fun q5_1 => [(h0, .inr (4, [.null, .null, .null, .null, .int 0])), (q5_1, .inr (5, [.int 0, .int 0, .null, .null, .null, .null, .null, .int 0]))]) F h cf_5 k_135 k_78 k_79 df_5 (fun _ => rfl) (by decide) (by decide) d_TypeFinder_Known_init_5 (fun q5_1 H h => ?_)
  refine lv_dup (pc := 8) hx hb d_TypeFinder_Known_init_8 rfl ?_
  refine lv_iconst (pc := 9) (v := 0) hx hb d_TypeFinder_Known_init_9 (by decide) ?_
  refine lv_null (pc := 10) hx hb d_TypeFinder_Known_init_10 ?_
  refine lv_null (pc := 11) hx hb d_TypeFinder_Known_init_11 ?_
  refine lv_null (pc := 12) hx hb d_TypeFinder_Known_init_12 ?_
  refine xb_callI (pc := 13) (rm := rm_Type_init_nnn) (wr := [(h0, .inr (4, [.null, .null, .null, .null, .int 0]))]) F h (ct_Type_init_nnn l G q5_1 0) 4 k_80 k_79 k_136 k_82 rfl hd_TypeFinder_Type_init (by decide) [1] [0] rfl rfl (by decide) (by decide) (by decide) xb_ss0 hl.1 rfl rfl (Nat.le_of_ble_eq_true rfl) (by decide) d_TypeFinder_Known_init_13 (fun u H locs hu h => ?_)
  have h : xb_W G A s [(h0, .inr (4, [.null, .null, .null, .null, .int 0])), (q5_1, .inr (5, [.int 0, .int 0, .null, .null, .null, .null, .null, .int 0]))] _ _ := h
  refine W.widen (k := 1) (n := 8) (by decide) (by decide) ?_
  refine W.eq (g2 := F0 m 16 ls [.ref q5_1, .ref h0]) rfl ?_
  refine xb_putF (pc := 16) (t0 := (.object "TypeFinder$Type")) (ws' := [(h0, .inr (4, [.ref q5_1, .null, .null, .null, .int 0])), (q5_1, .inr (5, [.int 0, .int 0, .null, .null, .null, .null, .null, .int 0]))]) F h hnm cf_4 0 rfl 0 (by decide) rfl k_137 (by decide +kernel) rfl rfl (Nat.le_of_ble_eq_true rfl) rfl d_TypeFinder_Known_init_16 (fun H locs h => ?_)
  refine lv_aload_n (pc := 19) hx hb d_TypeFinder_Known_init_19 rfl (lv_at hl 0 rfl) ?_
  refine xb_new (pc := 20) (ws' := fun q20_2 => [(h0, .inr (4, [.ref q5_1, .null, .null, .null, .int 0])), (q5_1, .inr (5, [.int 0, .int 0, .null, .null, .null, .null, .null, .int 0])), (q20_2, .inr (11, [.int 0, .null, .int 0]))]) F h cf_11 k_138 k_85 k_45 df_11 (fun _ => rfl) (by decide) (by decide) d_TypeFinder_Known_init_20 (fun q20_2 H h => ?_)
  refine lv_dup (pc := 23) hx hb d_TypeFinder_Known_init_23 rfl ?_
  refine xb_callI (pc := 24) (rm := rm_ArrayList_init) (wr := [(h0, .inr (4, [.ref q5_1, .null, .null, .null, .int 0])), (q5_1, .inr (5, [.int 0, .int 0, .null, .null, .null, .null, .null, .int 0]))]) F h (ct_ArrayList_init l G q20_2) 0 k_86 k_45 k_139 k_88 rfl hd_ArrayList_init (by decide) [2] [0, 1] rfl rfl (by decide) (by decide) (by decide) xb_ss0 hl.1 rfl rfl (Nat.le_of_ble_eq_true rfl) (by decide) d_TypeFinder_Known_init_24 (fun u H locs hu h => ?_)
  have h : xb_W G A s [(h0, .inr (4, [.ref q5_1, .null, .null, .null, .int 0])), (q5_1, .inr (5, [.int 0, .int 0, .null, .null, .null, .null, .null, .int 0])), (q20_2, .inr (11, [.int 0, .ref (G.2.2.1), .int 0]))] _ _ := h
  refine W.widen (k := 2) (n := 11) (by decide) (by decide) ?_
  refine W.eq (g2 := F0 m 27 ls [.ref q20_2, .ref h0]) rfl ?_
  refine xb_putF (pc := 27) (t0 := (.object "java/util/ArrayList")) (ws' := [(h0, .inr (4, [.ref q5_1, .null, .ref q20_2, .null, .int 0])), (q5_1, .inr (5, [.int 0, .int 0, .null, .null, .null, .null, .null, .int 0])), (q20_2, .inr (11, [.int 0, .ref (G.2.2.1), .int 0]))]) F h hnm cf_4 0 rfl 2 (by decide) rfl k_140 (by decide +kernel) rfl rfl (Nat.le_of_ble_eq_true rfl) rfl d_TypeFinder_Known_init_27 (fun H locs h => ?_)
  refine lv_aload_n (pc := 30) hx hb d_TypeFinder_Known_init_30 rfl (lv_at hl 0 rfl) ?_
  refine xb_new (pc := 31) (ws' := fun q31_3 => [(h0, .inr (4, [.ref q5_1, .null, .ref q20_2, .null, .int 0])), (q5_1, .inr (5, [.int 0, .int 0, .null, .null, .null, .null, .null, .int 0])), (q20_2, .inr (11, [.int 0, .ref (G.2.2.1), .int 0])), (q31_3, .inr (11, [.int 0, .null, .int 0]))]) F h cf_11 k_138 k_85 k_45 df_11 (fun _ => rfl) (by decide) (by decide) d_TypeFinder_Known_init_31 (fun q31_3 H h => ?_)
  refine lv_dup (pc := 34) hx hb d_TypeFinder_Known_init_34 rfl ?_
  refine xb_callI (pc := 35) (rm := rm_ArrayList_init) (wr := [(h0, .inr (4, [.ref q5_1, .null, .ref q20_2, .null, .int 0])), (q5_1, .inr (5, [.int 0, .int 0, .null, .null, .null, .null, .null, .int 0])), (q20_2, .inr (11, [.int 0, .ref (G.2.2.1), .int 0]))]) F h (ct_ArrayList_init l G q31_3) 0 k_86 k_45 k_139 k_88 rfl hd_ArrayList_init (by decide) [3] [0, 1, 2] rfl rfl (by decide) (by decide) (by decide) xb_ss0 hl.1 rfl rfl (Nat.le_of_ble_eq_true rfl) (by decide) d_TypeFinder_Known_init_35 (fun u H locs hu h => ?_)
  have h : xb_W G A s [(h0, .inr (4, [.ref q5_1, .null, .ref q20_2, .null, .int 0])), (q5_1, .inr (5, [.int 0, .int 0, .null, .null, .null, .null, .null, .int 0])), (q20_2, .inr (11, [.int 0, .ref (G.2.2.1), .int 0])), (q31_3, .inr (11, [.int 0, .ref (G.2.2.1), .int 0]))] _ _ := h
  refine W.widen (k := 3) (n := 14) (by decide) (by decide) ?_
  refine W.eq (g2 := F0 m 38 ls [.ref q31_3, .ref h0]) rfl ?_
  refine xb_putF (pc := 38) (t0 := (.object "java/util/ArrayList")) (ws' := [(h0, .inr (4, [.ref q5_1, .null, .ref q20_2, .ref q31_3, .int 0])), (q5_1, .inr (5, [.int 0, .int 0, .null, .null, .null, .null, .null, .int 0])), (q20_2, .inr (11, [.int 0, .ref (G.2.2.1), .int 0])), (q31_3, .inr (11, [.int 0, .ref (G.2.2.1), .int 0]))]) F h hnm cf_4 0 rfl 3 (by decide) rfl k_141 (by decide +kernel) rfl rfl (Nat.le_of_ble_eq_true rfl) rfl d_TypeFinder_Known_init_38 (fun H locs h => ?_)
  refine va_ldcS (pc := 41) hx hb hown (xb_str (q := ("TypeFinder$Known", 30, "bool", 1)) F 0 rfl) d_TypeFinder_Known_init_41 ?_
  refine xb_callS (pc := 43) (rm := rm_packed) (wr := [(h0, .inr (4, [.ref q5_1, .null, .ref q20_2, .ref q31_3, .int 0])), (q5_1, .inr (5, [.int 0, .int 0, .null, .null, .null, .null, .null, .int 0])), (q20_2, .inr (11, [.int 0, .ref (G.2.2.1), .int 0])), (q31_3, .inr (11, [.int 0, .ref (G.2.2.1), .int 0]))]) F h (ct_packed l G (G.2.2.2.1 1) (G.2.2.2.2 1) (xb_sL.getD 1 0) (fun j => (xb_sB.getD 1 []).getD j 0) (by decide)) 1 k_142 k_143 k_144 k_145 hd_TypeFinder_Tokens_packed (by decide) [] [0, 1, 2, 3] rfl rfl (by decide) (by decide) (by decide) (xb_lit F h 1 (by decide)) hl.1 rfl rfl (Nat.le_of_ble_eq_true rfl) (by decide) d_TypeFinder_Known_init_43 (fun u H locs hu h => ?_)
  obtain ⟨x43_4, rfl⟩ : ∃ z, z = u := ⟨_, rfl⟩
  have h : xb_W G A s [(h0, .inr (4, [.ref q5_1, .null, .ref q20_2, .ref q31_3, .int 0])), (q5_1, .inr (5, [.int 0, .int 0, .null, .null, .null, .null, .null, .int 0])), (q20_2, .inr (11, [.int 0, .ref (G.2.2.1), .int 0])), (q31_3, .inr (11, [.int 0, .ref (G.2.2.1), .int 0]))] _ _ := h
  refine W.widen (k := 3) (n := 14) (by decide) (by decide) ?_
  refine W.eq (g2 := F0 m 46 ls [.long x43_4]) rfl ?_
  refine lv_iconst (pc := 46) (v := 0) hx hb d_TypeFinder_Known_init_46 (by decide) ?_
  refine xb_callS (pc := 47) (rm := rm_made_0) (wr := [(h0, .inr (4, [.ref q5_1, .null, .ref q20_2, .ref q31_3, .int 0])), (q5_1, .inr (5, [.int 0, .int 0, .null, .null, .null, .null, .null, .int 0])), (q20_2, .inr (11, [.int 0, .ref (G.2.2.1), .int 0])), (q31_3, .inr (11, [.int 0, .ref (G.2.2.1), .int 0]))]) F h (ct_made_0 l G x43_4) 2 k_146 k_95 k_147 k_148 hd_TypeFinder_DataType_made (by decide) [] [0, 1, 2, 3] rfl rfl (by decide) (by decide) (by decide) xb_ss0 hl.1 rfl rfl (Nat.le_of_ble_eq_true rfl) (by decide) d_TypeFinder_Known_init_47 (fun u H locs hu h => ?_)
  obtain ⟨q47_5, q47_6, q47_7⟩ := u
  have h : xb_W G A s [(h0, .inr (4, [.ref q5_1, .null, .ref q20_2, .ref q31_3, .int 0])), (q5_1, .inr (5, [.int 0, .int 0, .null, .null, .null, .null, .null, .int 0])), (q20_2, .inr (11, [.int 0, .ref (G.2.2.1), .int 0])), (q31_3, .inr (11, [.int 0, .ref (G.2.2.1), .int 0])), (q47_5, .inr (6, [.long x43_4, .int 0, .ref q47_6, .ref q47_7, .int 1])), (q47_6, .inr (11, [.int 0, .ref (G.2.2.1), .int 0])), (q47_7, .inr (5, [.int 3, .int 0, .ref q47_5, .null, .null, .null, .null, .int 0]))] _ _ := h
  refine W.widen (k := 6) (n := 30) (by decide) (by decide) ?_
  refine W.eq (g2 := F0 m 50 ls [.ref q47_5]) rfl ?_
  refine lv_astore_n (pc := 50) (lv' := [(1, .ref q47_5), (0, .ref h0)]) hx hb d_TypeFinder_Known_init_50 rfl hl (by decide) rfl (fun ls hl => ?_)
  refine lv_aload_n (pc := 51) hx hb d_TypeFinder_Known_init_51 rfl (lv_at hl 1 rfl) ?_
  refine lv_aload_n (pc := 52) hx hb d_TypeFinder_Known_init_52 rfl (lv_at hl 0 rfl) ?_
  refine xb_get (pc := 53) F h cf_6 4 rfl 3 (by decide) rfl k_149 (Or.inl rfl) rfl d_TypeFinder_Known_init_53 ?_
  refine xb_putF (pc := 56) (t0 := (.object "TypeFinder$Type")) (ws' := [(h0, .inr (4, [.ref q5_1, .ref q47_7, .ref q20_2, .ref q31_3, .int 0])), (q5_1, .inr (5, [.int 0, .int 0, .null, .null, .null, .null, .null, .int 0])), (q20_2, .inr (11, [.int 0, .ref (G.2.2.1), .int 0])), (q31_3, .inr (11, [.int 0, .ref (G.2.2.1), .int 0])), (q47_5, .inr (6, [.long x43_4, .int 0, .ref q47_6, .ref q47_7, .int 1])), (q47_6, .inr (11, [.int 0, .ref (G.2.2.1), .int 0])), (q47_7, .inr (5, [.int 3, .int 0, .ref q47_5, .null, .null, .null, .null, .int 0]))]) F h hnm cf_4 0 rfl 1 (by decide) rfl k_150 (by decide +kernel) rfl rfl (Nat.le_of_ble_eq_true rfl) rfl d_TypeFinder_Known_init_56 (fun H locs h => ?_)
  refine lv_aload_n (pc := 59) hx hb d_TypeFinder_Known_init_59 rfl (lv_at hl 0 rfl) ?_
  refine xb_get (pc := 60) F h cf_6 4 rfl 2 (by decide) rfl k_151 (Or.inl rfl) rfl d_TypeFinder_Known_init_60 ?_
  refine xb_new (pc := 63) (ws' := fun q63_8 => [(h0, .inr (4, [.ref q5_1, .ref q47_7, .ref q20_2, .ref q31_3, .int 0])), (q5_1, .inr (5, [.int 0, .int 0, .null, .null, .null, .null, .null, .int 0])), (q20_2, .inr (11, [.int 0, .ref (G.2.2.1), .int 0])), (q31_3, .inr (11, [.int 0, .ref (G.2.2.1), .int 0])), (q47_5, .inr (6, [.long x43_4, .int 0, .ref q47_6, .ref q47_7, .int 1])), (q47_6, .inr (11, [.int 0, .ref (G.2.2.1), .int 0])), (q47_7, .inr (5, [.int 3, .int 0, .ref q47_5, .null, .null, .null, .null, .int 0])), (q63_8, .inr (7, [.long 0, .null, .int 0]))]) F h cf_7 k_152 k_153 k_154 df_7 (fun _ => rfl) (by decide) (by decide) d_TypeFinder_Known_init_63 (fun q63_8 H h => ?_)
  refine lv_dup (pc := 66) hx hb d_TypeFinder_Known_init_66 rfl ?_
  refine va_ldcS (pc := 67) hx hb hown (xb_str (q := ("TypeFinder$Known", 55, "True", 2)) F 1 rfl) d_TypeFinder_Known_init_67 ?_
  refine xb_callS (pc := 69) (rm := rm_packed) (wr := [(h0, .inr (4, [.ref q5_1, .ref q47_7, .ref q20_2, .ref q31_3, .int 0])), (q5_1, .inr (5, [.int 0, .int 0, .null, .null, .null, .null, .null, .int 0])), (q20_2, .inr (11, [.int 0, .ref (G.2.2.1), .int 0])), (q31_3, .inr (11, [.int 0, .ref (G.2.2.1), .int 0])), (q47_5, .inr (6, [.long x43_4, .int 0, .ref q47_6, .ref q47_7, .int 1])), (q47_6, .inr (11, [.int 0, .ref (G.2.2.1), .int 0])), (q47_7, .inr (5, [.int 3, .int 0, .ref q47_5, .null, .null, .null, .null, .int 0])), (q63_8, .inr (7, [.long 0, .null, .int 0]))]) F h (ct_packed l G (G.2.2.2.1 2) (G.2.2.2.2 2) (xb_sL.getD 2 0) (fun j => (xb_sB.getD 2 []).getD j 0) (by decide)) 1 k_142 k_143 k_144 k_145 hd_TypeFinder_Tokens_packed (by decide) [] [0, 1, 2, 3, 4, 5, 6, 7] rfl rfl (by decide) (by decide) (by decide) (xb_lit F h 2 (by decide)) hl.1 rfl rfl (Nat.le_of_ble_eq_true rfl) (by decide) d_TypeFinder_Known_init_69 (fun u H locs hu h => ?_)
  obtain ⟨x69_9, rfl⟩ : ∃ z, z = u := ⟨_, rfl⟩
  have h : xb_W G A s [(h0, .inr (4, [.ref q5_1, .ref q47_7, .ref q20_2, .ref q31_3, .int 0])), (q5_1, .inr (5, [.int 0, .int 0, .null, .null, .null, .null, .null, .int 0])), (q20_2, .inr (11, [.int 0, .ref (G.2.2.1), .int 0])), (q31_3, .inr (11, [.int 0, .ref (G.2.2.1), .int 0])), (q47_5, .inr (6, [.long x43_4, .int 0, .ref q47_6, .ref q47_7, .int 1])), (q47_6, .inr (11, [.int 0, .ref (G.2.2.1), .int 0])), (q47_7, .inr (5, [.int 3, .int 0, .ref q47_5, .null, .null, .null, .null, .int 0])), (q63_8, .inr (7, [.long 0, .null, .int 0]))] _ _ := h
  refine W.widen (k := 7) (n := 33) (by decide) (by decide) ?_
  refine W.eq (g2 := F0 m 72 ls [.long x69_9, .ref q63_8, .ref q63_8, .ref q47_6]) rfl ?_
  refine lv_aload_n (pc := 72) hx hb d_TypeFinder_Known_init_72 rfl (lv_at hl 1 rfl) ?_
  refine xb_get (pc := 73) F h cf_4 0 rfl 1 (by decide) rfl k_150 (Or.inl rfl) rfl d_TypeFinder_Known_init_73 ?_
  refine lv_iconst (pc := 76) (v := 1) hx hb d_TypeFinder_Known_init_76 (by decide) ?_
  refine xb_callI (pc := 77) (rm := rm_Name_init) (wr := [(h0, .inr (4, [.ref q5_1, .ref q47_7, .ref q20_2, .ref q31_3, .int 0])), (q5_1, .inr (5, [.int 0, .int 0, .null, .null, .null, .null, .null, .int 0])), (q20_2, .inr (11, [.int 0, .ref (G.2.2.1), .int 0])), (q31_3, .inr (11, [.int 0, .ref (G.2.2.1), .int 0])), (q47_5, .inr (6, [.long x43_4, .int 0, .ref q47_6, .ref q47_7, .int 1])), (q47_6, .inr (11, [.int 0, .ref (G.2.2.1), .int 0])), (q47_7, .inr (5, [.int 3, .int 0, .ref q47_5, .null, .null, .null, .null, .int 0]))]) F h (ct_Name_init l G q63_8 x69_9 q47_7) 3 k_155 k_154 k_156 k_157 rfl hd_TypeFinder_Name_init (by decide) [7] [0, 1, 2, 3, 4, 5, 6] rfl rfl (by decide) (by decide) (by decide) xb_ss0 hl.1 rfl rfl (Nat.le_of_ble_eq_true rfl) (by decide) d_TypeFinder_Known_init_77 (fun u H locs hu h => ?_)
  have h : xb_W G A s [(h0, .inr (4, [.ref q5_1, .ref q47_7, .ref q20_2, .ref q31_3, .int 0])), (q5_1, .inr (5, [.int 0, .int 0, .null, .null, .null, .null, .null, .int 0])), (q20_2, .inr (11, [.int 0, .ref (G.2.2.1), .int 0])), (q31_3, .inr (11, [.int 0, .ref (G.2.2.1), .int 0])), (q47_5, .inr (6, [.long x43_4, .int 0, .ref q47_6, .ref q47_7, .int 1])), (q47_6, .inr (11, [.int 0, .ref (G.2.2.1), .int 0])), (q47_7, .inr (5, [.int 3, .int 0, .ref q47_5, .null, .null, .null, .null, .int 0])), (q63_8, .inr (7, [.long x69_9, .ref q47_7, .int 1]))] _ _ := h
  refine W.widen (k := 7) (n := 33) (by decide) (by decide) ?_
  refine W.eq (g2 := F0 m 80 ls [.ref q63_8, .ref q47_6]) rfl ?_
  refine xb_callV (pc := 80) (rm := rm_AL_add_Name_0) (wr := [(h0, .inr (4, [.ref q5_1, .ref q47_7, .ref q20_2, .ref q31_3, .int 0])), (q5_1, .inr (5, [.int 0, .int 0, .null, .null, .null, .null, .null, .int 0])), (q20_2, .inr (11, [.int 0, .ref (G.2.2.1), .int 0])), (q31_3, .inr (11, [.int 0, .ref (G.2.2.1), .int 0])), (q47_5, .inr (6, [.long x43_4, .int 0, .ref q47_6, .ref q47_7, .int 1])), (q47_7, .inr (5, [.int 3, .int 0, .ref q47_5, .null, .null, .null, .null, .int 0]))]) F h (ct_AL_add_Name_0 l G q47_6 q63_8 0 (.long x69_9) (.ref q47_7) (.int 1)) 1 (va_recv hK h.1 (q0 := 5) (ci := 11) rfl rfl) k_158 k_45 k_159 k_160 k_161 hd_ArrayList_add2 (by decide) [5, 7] [0, 1, 2, 3, 4, 6] rfl rfl (by decide) (by decide) (by decide) xb_ss0 hl.1 rfl rfl (Nat.le_of_ble_eq_true rfl) (by decide) d_TypeFinder_Known_init_80 (fun u H locs hu h => ?_)
  obtain ⟨q80_10, rfl⟩ : ∃ z, z = u := ⟨_, rfl⟩
  have h : xb_W G A s [(h0, .inr (4, [.ref q5_1, .ref q47_7, .ref q20_2, .ref q31_3, .int 0])), (q5_1, .inr (5, [.int 0, .int 0, .null, .null, .null, .null, .null, .int 0])), (q20_2, .inr (11, [.int 0, .ref (G.2.2.1), .int 0])), (q31_3, .inr (11, [.int 0, .ref (G.2.2.1), .int 0])), (q47_5, .inr (6, [.long x43_4, .int 0, .ref q47_6, .ref q47_7, .int 1])), (q47_7, .inr (5, [.int 3, .int 0, .ref q47_5, .null, .null, .null, .null, .int 0])), (q63_8, .inr (7, [.long x69_9, .ref q47_7, .int 1])), (q47_6, .inr (11, [.int 1, .ref q80_10, .int 1])), (q80_10, .inl (G.2.1 5, 10, .inr (.inr (.inr (.inr (va_up (fun _ => none) (Int32.toNatClampNeg 0) (some q63_8)))))))] _ _ := h
  refine W.widen (k := 8) (n := 43) (by decide) (by decide) ?_
  refine W.eq (g2 := F0 m 83 ls [.int 1]) rfl ?_
  refine lv_pop (pc := 83) hx hb d_TypeFinder_Known_init_83 rfl ?_
  have h := xb_sub (ws' := [(h0, .inr (4, [.ref q5_1, .ref q47_7, .ref q20_2, .ref q31_3, .int 0])), (q5_1, .inr (5, [.int 0, .int 0, .null, .null, .null, .null, .null, .int 0])), (q20_2, .inr (11, [.int 0, .ref (G.2.2.1), .int 0])), (q31_3, .inr (11, [.int 0, .ref (G.2.2.1), .int 0])), (q47_5, .inr (6, [.long x43_4, .int 0, .ref q47_6, .ref q47_7, .int 1])), (q47_7, .inr (5, [.int 3, .int 0, .ref q47_5, .null, .null, .null, .null, .int 0])), (q47_6, .inr (11, [.int 1, .ref q80_10, .int 1])), (q80_10, .inl (G.2.1 5, 10, .inr (.inr (.inr (.inr (va_up (fun _ => none) (Int32.toNatClampNeg 0) (some q63_8)))))))]) h [0, 1, 2, 3, 4, 5, 7, 8] (by decide) rfl
  refine lv_aload_n (pc := 84) hx hb d_TypeFinder_Known_init_84 rfl (lv_at hl 0 rfl) ?_
  refine xb_get (pc := 85) F h cf_6 4 rfl 2 (by decide) rfl k_151 (Or.inl rfl) rfl d_TypeFinder_Known_init_85 ?_
  refine xb_new (pc := 88) (ws' := fun q88_11 => [(h0, .inr (4, [.ref q5_1, .ref q47_7, .ref q20_2, .ref q31_3, .int 0])), (q5_1, .inr (5, [.int 0, .int 0, .null, .null, .null, .null, .null, .int 0])), (q20_2, .inr (11, [.int 0, .ref (G.2.2.1), .int 0])), (q31_3, .inr (11, [.int 0, .ref (G.2.2.1), .int 0])), (q47_5, .inr (6, [.long x43_4, .int 0, .ref q47_6, .ref q47_7, .int 1])), (q47_7, .inr (5, [.int 3, .int 0, .ref q47_5, .null, .null, .null, .null, .int 0])), (q47_6, .inr (11, [.int 1, .ref q80_10, .int 1])), (q80_10, .inl (G.2.1 5, 10, .inr (.inr (.inr (.inr (va_up (fun _ => none) (Int32.toNatClampNeg 0) (some q63_8))))))), (q88_11, .inr (7, [.long 0, .null, .int 0]))]) F h cf_7 k_152 k_153 k_154 df_7 (fun _ => rfl) (by decide) (by decide) d_TypeFinder_Known_init_88 (fun q88_11 H h => ?_)
  refine lv_dup (pc := 91) hx hb d_TypeFinder_Known_init_91 rfl ?_
  refine va_ldcS (pc := 92) hx hb hown (xb_str (q := ("TypeFinder$Known", 64, "False", 3)) F 2 rfl) d_TypeFinder_Known_init_92 ?_
  refine xb_callS (pc := 94) (rm := rm_packed) (wr := [(h0, .inr (4, [.ref q5_1, .ref q47_7, .ref q20_2, .ref q31_3, .int 0])), (q5_1, .inr (5, [.int 0, .int 0, .null, .null, .null, .null, .null, .int 0])), (q20_2, .inr (11, [.int 0, .ref (G.2.2.1), .int 0])), (q31_3, .inr (11, [.int 0, .ref (G.2.2.1), .int 0])), (q47_5, .inr (6, [.long x43_4, .int 0, .ref q47_6, .ref q47_7, .int 1])), (q47_7, .inr (5, [.int 3, .int 0, .ref q47_5, .null, .null, .null, .null, .int 0])), (q47_6, .inr (11, [.int 1, .ref q80_10, .int 1])), (q80_10, .inl (G.2.1 5, 10, .inr (.inr (.inr (.inr (va_up (fun _ => none) (Int32.toNatClampNeg 0) (some q63_8))))))), (q88_11, .inr (7, [.long 0, .null, .int 0]))]) F h (ct_packed l G (G.2.2.2.1 3) (G.2.2.2.2 3) (xb_sL.getD 3 0) (fun j => (xb_sB.getD 3 []).getD j 0) (by decide)) 1 k_142 k_143 k_144 k_145 hd_TypeFinder_Tokens_packed (by decide) [] [0, 1, 2, 3, 4, 5, 6, 7, 8] rfl rfl (by decide) (by decide) (by decide) (xb_lit F h 3 (by decide)) hl.1 rfl rfl (Nat.le_of_ble_eq_true rfl) (by decide) d_TypeFinder_Known_init_94 (fun u H locs hu h => ?_)
  obtain ⟨x94_12, rfl⟩ : ∃ z, z = u := ⟨_, rfl⟩
  have h : xb_W G A s [(h0, .inr (4, [.ref q5_1, .ref q47_7, .ref q20_2, .ref q31_3, .int 0])), (q5_1, .inr (5, [.int 0, .int 0, .null, .null, .null, .null, .null, .int 0])), (q20_2, .inr (11, [.int 0, .ref (G.2.2.1), .int 0])), (q31_3, .inr (11, [.int 0, .ref (G.2.2.1), .int 0])), (q47_5, .inr (6, [.long x43_4, .int 0, .ref q47_6, .ref q47_7, .int 1])), (q47_7, .inr (5, [.int 3, .int 0, .ref q47_5, .null, .null, .null, .null, .int 0])), (q47_6, .inr (11, [.int 1, .ref q80_10, .int 1])), (q80_10, .inl (G.2.1 5, 10, .inr (.inr (.inr (.inr (va_up (fun _ => none) (Int32.toNatClampNeg 0) (some q63_8))))))), (q88_11, .inr (7, [.long 0, .null, .int 0]))] _ _ := h
  refine W.widen (k := 9) (n := 46) (by decide) (by decide) ?_
  refine W.eq (g2 := F0 m 97 ls [.long x94_12, .ref q88_11, .ref q88_11, .ref q47_6]) rfl ?_
  refine lv_aload_n (pc := 97) hx hb d_TypeFinder_Known_init_97 rfl (lv_at hl 1 rfl) ?_
  refine xb_get (pc := 98) F h cf_4 0 rfl 1 (by decide) rfl k_150 (Or.inl rfl) rfl d_TypeFinder_Known_init_98 ?_
  refine lv_iconst (pc := 101) (v := 1) hx hb d_TypeFinder_Known_init_101 (by decide) ?_
  refine xb_callI (pc := 102) (rm := rm_Name_init) (wr := [(h0, .inr (4, [.ref q5_1, .ref q47_7, .ref q20_2, .ref q31_3, .int 0])), (q5_1, .inr (5, [.int 0, .int 0, .null, .null, .null, .null, .null, .int 0])), (q20_2, .inr (11, [.int 0, .ref (G.2.2.1), .int 0])), (q31_3, .inr (11, [.int 0, .ref (G.2.2.1), .int 0])), (q47_5, .inr (6, [.long x43_4, .int 0, .ref q47_6, .ref q47_7, .int 1])), (q47_7, .inr (5, [.int 3, .int 0, .ref q47_5, .null, .null, .null, .null, .int 0])), (q47_6, .inr (11, [.int 1, .ref q80_10, .int 1])), (q80_10, .inl (G.2.1 5, 10, .inr (.inr (.inr (.inr (va_up (fun _ => none) (Int32.toNatClampNeg 0) (some q63_8)))))))]) F h (ct_Name_init l G q88_11 x94_12 q47_7) 3 k_155 k_154 k_156 k_157 rfl hd_TypeFinder_Name_init (by decide) [8] [0, 1, 2, 3, 4, 5, 6, 7] rfl rfl (by decide) (by decide) (by decide) xb_ss0 hl.1 rfl rfl (Nat.le_of_ble_eq_true rfl) (by decide) d_TypeFinder_Known_init_102 (fun u H locs hu h => ?_)
  have h : xb_W G A s [(h0, .inr (4, [.ref q5_1, .ref q47_7, .ref q20_2, .ref q31_3, .int 0])), (q5_1, .inr (5, [.int 0, .int 0, .null, .null, .null, .null, .null, .int 0])), (q20_2, .inr (11, [.int 0, .ref (G.2.2.1), .int 0])), (q31_3, .inr (11, [.int 0, .ref (G.2.2.1), .int 0])), (q47_5, .inr (6, [.long x43_4, .int 0, .ref q47_6, .ref q47_7, .int 1])), (q47_7, .inr (5, [.int 3, .int 0, .ref q47_5, .null, .null, .null, .null, .int 0])), (q47_6, .inr (11, [.int 1, .ref q80_10, .int 1])), (q80_10, .inl (G.2.1 5, 10, .inr (.inr (.inr (.inr (va_up (fun _ => none) (Int32.toNatClampNeg 0) (some q63_8))))))), (q88_11, .inr (7, [.long x94_12, .ref q47_7, .int 1]))] _ _ := h
  refine W.widen (k := 9) (n := 46) (by decide) (by decide) ?_
  refine W.eq (g2 := F0 m 105 ls [.ref q88_11, .ref q47_6]) rfl ?_
  refine xb_callV (pc := 105) (rm := rm_AL_add_Name_1) (wr := [(h0, .inr (4, [.ref q5_1, .ref q47_7, .ref q20_2, .ref q31_3, .int 0])), (q5_1, .inr (5, [.int 0, .int 0, .null, .null, .null, .null, .null, .int 0])), (q20_2, .inr (11, [.int 0, .ref (G.2.2.1), .int 0])), (q31_3, .inr (11, [.int 0, .ref (G.2.2.1), .int 0])), (q47_5, .inr (6, [.long x43_4, .int 0, .ref q47_6, .ref q47_7, .int 1])), (q47_7, .inr (5, [.int 3, .int 0, .ref q47_5, .null, .null, .null, .null, .int 0]))]) F h (ct_AL_add_Name_1 l G q47_6 q80_10 q88_11 1 (va_up (fun _ => none) (Int32.toNatClampNeg 0) (some q63_8)) (.long x94_12) (.ref q47_7) (.int 1)) 1 (va_recv hK h.1 (q0 := 6) (ci := 11) rfl rfl) k_158 k_45 k_159 k_160 k_161 hd_ArrayList_add2 (by decide) [6, 7, 8] [0, 1, 2, 3, 4, 5] rfl rfl (by decide) (by decide) (by decide) xb_ss0 hl.1 rfl rfl (Nat.le_of_ble_eq_true rfl) (by decide) d_TypeFinder_Known_init_105 (fun u H locs hu h => ?_)
  have h : xb_W G A s [(h0, .inr (4, [.ref q5_1, .ref q47_7, .ref q20_2, .ref q31_3, .int 0])), (q5_1, .inr (5, [.int 0, .int 0, .null, .null, .null, .null, .null, .int 0])), (q20_2, .inr (11, [.int 0, .ref (G.2.2.1), .int 0])), (q31_3, .inr (11, [.int 0, .ref (G.2.2.1), .int 0])), (q47_5, .inr (6, [.long x43_4, .int 0, .ref q47_6, .ref q47_7, .int 1])), (q47_7, .inr (5, [.int 3, .int 0, .ref q47_5, .null, .null, .null, .null, .int 0])), (q47_6, .inr (11, [.int 2, .ref q80_10, .int 2])), (q80_10, .inl (G.2.1 5, 10, .inr (.inr (.inr (.inr (va_up (va_up (fun _ => none) (Int32.toNatClampNeg 0) (some q63_8)) (Int32.toNatClampNeg 1) (some q88_11))))))), (q88_11, .inr (7, [.long x94_12, .ref q47_7, .int 1]))] _ _ := h
  refine W.widen (k := 9) (n := 46) (by decide) (by decide) ?_
  refine W.eq (g2 := F0 m 108 ls [.int 1]) rfl ?_
  refine lv_pop (pc := 108) hx hb d_TypeFinder_Known_init_108 rfl ?_
  have h := xb_sub (ws' := [(h0, .inr (4, [.ref q5_1, .ref q47_7, .ref q20_2, .ref q31_3, .int 0])), (q5_1, .inr (5, [.int 0, .int 0, .null, .null, .null, .null, .null, .int 0])), (q20_2, .inr (11, [.int 0, .ref (G.2.2.1), .int 0])), (q31_3, .inr (11, [.int 0, .ref (G.2.2.1), .int 0])), (q47_5, .inr (6, [.long x43_4, .int 0, .ref q47_6, .ref q47_7, .int 1])), (q47_7, .inr (5, [.int 3, .int 0, .ref q47_5, .null, .null, .null, .null, .int 0])), (q47_6, .inr (11, [.int 2, .ref q80_10, .int 2])), (q80_10, .inl (G.2.1 5, 10, .inr (.inr (.inr (.inr (va_up (va_up (fun _ => none) (Int32.toNatClampNeg 0) (some q63_8)) (Int32.toNatClampNeg 1) (some q88_11)))))))]) h [0, 1, 2, 3, 4, 5, 6, 7] (by decide) rfl
  refine lv_aload_n (pc := 109) hx hb d_TypeFinder_Known_init_109 rfl (lv_at hl 1 rfl) ?_
  refine xb_get (pc := 110) F h cf_4 0 rfl 2 (by decide) rfl k_140 (Or.inl rfl) rfl d_TypeFinder_Known_init_110 ?_
  refine lv_aload_n (pc := 113) hx hb d_TypeFinder_Known_init_113 rfl (lv_at hl 0 rfl) ?_
  refine xb_callV (pc := 114) (rm := rm_AL_add_Data_0) (wr := [(h0, .inr (4, [.ref q5_1, .ref q47_7, .ref q20_2, .ref q31_3, .int 0])), (q5_1, .inr (5, [.int 0, .int 0, .null, .null, .null, .null, .null, .int 0])), (q31_3, .inr (11, [.int 0, .ref (G.2.2.1), .int 0])), (q47_7, .inr (5, [.int 3, .int 0, .ref q47_5, .null, .null, .null, .null, .int 0])), (q47_6, .inr (11, [.int 2, .ref q80_10, .int 2])), (q80_10, .inl (G.2.1 5, 10, .inr (.inr (.inr (.inr (va_up (va_up (fun _ => none) (Int32.toNatClampNeg 0) (some q63_8)) (Int32.toNatClampNeg 1) (some q88_11)))))))]) F h (ct_AL_add_Data_0 l G q20_2 q47_5 0 (.long x43_4) (.int 0) (.ref q47_6) (.ref q47_7) (.int 1)) 1 (va_recv hK h.1 (q0 := 2) (ci := 11) rfl rfl) k_158 k_45 k_159 k_160 k_161 hd_ArrayList_add2 (by decide) [2, 4] [0, 1, 3, 5, 6, 7] rfl rfl (by decide) (by decide) (by decide) xb_ss0 hl.1 rfl rfl (Nat.le_of_ble_eq_true rfl) (by decide) d_TypeFinder_Known_init_114 (fun u H locs hu h => ?_)
  obtain ⟨q114_13, rfl⟩ : ∃ z, z = u := ⟨_, rfl⟩
  have h : xb_W G A s [(h0, .inr (4, [.ref q5_1, .ref q47_7, .ref q20_2, .ref q31_3, .int 0])), (q5_1, .inr (5, [.int 0, .int 0, .null, .null, .null, .null, .null, .int 0])), (q31_3, .inr (11, [.int 0, .ref (G.2.2.1), .int 0])), (q47_7, .inr (5, [.int 3, .int 0, .ref q47_5, .null, .null, .null, .null, .int 0])), (q47_6, .inr (11, [.int 2, .ref q80_10, .int 2])), (q80_10, .inl (G.2.1 5, 10, .inr (.inr (.inr (.inr (va_up (va_up (fun _ => none) (Int32.toNatClampNeg 0) (some q63_8)) (Int32.toNatClampNeg 1) (some q88_11))))))), (q47_5, .inr (6, [.long x43_4, .int 0, .ref q47_6, .ref q47_7, .int 1])), (q20_2, .inr (11, [.int 1, .ref q114_13, .int 1])), (q114_13, .inl (G.2.1 5, 10, .inr (.inr (.inr (.inr (va_up (fun _ => none) (Int32.toNatClampNeg 0) (some q47_5)))))))] _ _ := h
  refine W.widen (k := 10) (n := 56) (by decide) (by decide) ?_
  refine W.eq (g2 := F0 m 117 ls [.int 1]) rfl ?_
  refine lv_pop (pc := 117) hx hb d_TypeFinder_Known_init_117 rfl ?_
  refine va_ldcS (pc := 118) hx hb hown (xb_str (q := ("TypeFinder$Known", 66, "list", 4)) F 3 rfl) d_TypeFinder_Known_init_118 ?_
  refine xb_callS (pc := 120) (rm := rm_packed) (wr := [(h0, .inr (4, [.ref q5_1, .ref q47_7, .ref q20_2, .ref q31_3, .int 0])), (q5_1, .inr (5, [.int 0, .int 0, .null, .null, .null, .null, .null, .int 0])), (q31_3, .inr (11, [.int 0, .ref (G.2.2.1), .int 0])), (q47_7, .inr (5, [.int 3, .int 0, .ref q47_5, .null, .null, .null, .null, .int 0])), (q47_6, .inr (11, [.int 2, .ref q80_10, .int 2])), (q80_10, .inl (G.2.1 5, 10, .inr (.inr (.inr (.inr (va_up (va_up (fun _ => none) (Int32.toNatClampNeg 0) (some q63_8)) (Int32.toNatClampNeg 1) (some q88_11))))))), (q47_5, .inr (6, [.long x43_4, .int 0, .ref q47_6, .ref q47_7, .int 1])), (q20_2, .inr (11, [.int 1, .ref q114_13, .int 1])), (q114_13, .inl (G.2.1 5, 10, .inr (.inr (.inr (.inr (va_up (fun _ => none) (Int32.toNatClampNeg 0) (some q47_5)))))))]) F h (ct_packed l G (G.2.2.2.1 4) (G.2.2.2.2 4) (xb_sL.getD 4 0) (fun j => (xb_sB.getD 4 []).getD j 0) (by decide)) 1 k_142 k_143 k_144 k_145 hd_TypeFinder_Tokens_packed (by decide) [] [0, 1, 2, 3, 4, 5, 6, 7, 8] rfl rfl (by decide) (by decide) (by decide) (xb_lit F h 4 (by decide)) hl.1 rfl rfl (Nat.le_of_ble_eq_true rfl) (by decide) d_TypeFinder_Known_init_120 (fun u H locs hu h => ?_)
  obtain ⟨x120_14, rfl⟩ : ∃ z, z = u := ⟨_, rfl⟩
  have h : xb_W G A s [(h0, .inr (4, [.ref q5_1, .ref q47_7, .ref q20_2, .ref q31_3, .int 0])), (q5_1, .inr (5, [.int 0, .int 0, .null, .null, .null, .null, .null, .int 0])), (q31_3, .inr (11, [.int 0, .ref (G.2.2.1), .int 0])), (q47_7, .inr (5, [.int 3, .int 0, .ref q47_5, .null, .null, .null, .null, .int 0])), (q47_6, .inr (11, [.int 2, .ref q80_10, .int 2])), (q80_10, .inl (G.2.1 5, 10, .inr (.inr (.inr (.inr (va_up (va_up (fun _ => none) (Int32.toNatClampNeg 0) (some q63_8)) (Int32.toNatClampNeg 1) (some q88_11))))))), (q47_5, .inr (6, [.long x43_4, .int 0, .ref q47_6, .ref q47_7, .int 1])), (q20_2, .inr (11, [.int 1, .ref q114_13, .int 1])), (q114_13, .inl (G.2.1 5, 10, .inr (.inr (.inr (.inr (va_up (fun _ => none) (Int32.toNatClampNeg 0) (some q47_5)))))))] _ _ := h
  refine W.widen (k := 10) (n := 56) (by decide) (by decide) ?_
  refine W.eq (g2 := F0 m 123 ls [.long x120_14]) rfl ?_
  refine lv_iconst (pc := 123) (v := 1) hx hb d_TypeFinder_Known_init_123 (by decide) ?_
  refine xb_callS (pc := 124) (rm := rm_made_1) (wr := [(h0, .inr (4, [.ref q5_1, .ref q47_7, .ref q20_2, .ref q31_3, .int 0])), (q5_1, .inr (5, [.int 0, .int 0, .null, .null, .null, .null, .null, .int 0])), (q31_3, .inr (11, [.int 0, .ref (G.2.2.1), .int 0])), (q47_7, .inr (5, [.int 3, .int 0, .ref q47_5, .null, .null, .null, .null, .int 0])), (q47_6, .inr (11, [.int 2, .ref q80_10, .int 2])), (q80_10, .inl (G.2.1 5, 10, .inr (.inr (.inr (.inr (va_up (va_up (fun _ => none) (Int32.toNatClampNeg 0) (some q63_8)) (Int32.toNatClampNeg 1) (some q88_11))))))), (q47_5, .inr (6, [.long x43_4, .int 0, .ref q47_6, .ref q47_7, .int 1])), (q20_2, .inr (11, [.int 1, .ref q114_13, .int 1])), (q114_13, .inl (G.2.1 5, 10, .inr (.inr (.inr (.inr (va_up (fun _ => none) (Int32.toNatClampNeg 0) (some q47_5)))))))]) F h (ct_made_1 l G x120_14) 2 k_146 k_95 k_147 k_148 hd_TypeFinder_DataType_made (by decide) [] [0, 1, 2, 3, 4, 5, 6, 7, 8] rfl rfl (by decide) (by decide) (by decide) xb_ss0 hl.1 rfl rfl (Nat.le_of_ble_eq_true rfl) (by decide) d_TypeFinder_Known_init_124 (fun u H locs hu h => ?_)
  obtain ⟨q124_15, q124_16, q124_17, q124_18⟩ := u
  have h : xb_W G A s [(h0, .inr (4, [.ref q5_1, .ref q47_7, .ref q20_2, .ref q31_3, .int 0])), (q5_1, .inr (5, [.int 0, .int 0, .null, .null, .null, .null, .null, .int 0])), (q31_3, .inr (11, [.int 0, .ref (G.2.2.1), .int 0])), (q47_7, .inr (5, [.int 3, .int 0, .ref q47_5, .null, .null, .null, .null, .int 0])), (q47_6, .inr (11, [.int 2, .ref q80_10, .int 2])), (q80_10, .inl (G.2.1 5, 10, .inr (.inr (.inr (.inr (va_up (va_up (fun _ => none) (Int32.toNatClampNeg 0) (some q63_8)) (Int32.toNatClampNeg 1) (some q88_11))))))), (q47_5, .inr (6, [.long x43_4, .int 0, .ref q47_6, .ref q47_7, .int 1])), (q20_2, .inr (11, [.int 1, .ref q114_13, .int 1])), (q114_13, .inl (G.2.1 5, 10, .inr (.inr (.inr (.inr (va_up (fun _ => none) (Int32.toNatClampNeg 0) (some q47_5))))))), (q124_15, .inr (6, [.long x120_14, .int 1, .ref q124_16, .ref q124_18, .int 1])), (q124_16, .inr (11, [.int 0, .ref (G.2.2.1), .int 0])), (q124_17, .inr (5, [.int 5, .int 0, .null, .null, .null, .null, .null, .int 0])), (q124_18, .inr (5, [.int 3, .int 0, .ref q124_15, .ref q124_17, .null, .null, .null, .int 0]))] _ _ := h
  refine W.widen (k := 14) (n := 80) (by decide) (by decide) ?_
  refine W.eq (g2 := F0 m 127 ls [.ref q124_15]) rfl ?_
  refine lv_astore_n (pc := 127) (lv' := [(2, .ref q124_15), (1, .ref q47_5), (0, .ref h0)]) hx hb d_TypeFinder_Known_init_127 rfl hl (by decide) rfl (fun ls hl => ?_)
  refine lv_aload_n (pc := 128) hx hb d_TypeFinder_Known_init_128 rfl (lv_at hl 0 rfl) ?_
  refine xb_get (pc := 129) F h cf_6 9 rfl 3 (by decide) rfl k_149 (Or.inl rfl) rfl d_TypeFinder_Known_init_129 ?_
  refine xb_get (pc := 132) F h cf_5 12 rfl 3 (by decide) rfl k_162 (Or.inl rfl) rfl d_TypeFinder_Known_init_132 ?_
  refine lv_aload_n (pc := 135) hx hb d_TypeFinder_Known_init_135 rfl (lv_at hl 0 rfl) ?_
  refine xb_get (pc := 136) F h cf_6 9 rfl 3 (by decide) rfl k_149 (Or.inl rfl) rfl d_TypeFinder_Known_init_136 ?_
  refine lv_aload_n (pc := 139) hx hb d_TypeFinder_Known_init_139 rfl (lv_at hl 0 rfl) ?_
  refine xb_get (pc := 140) F h cf_6 9 rfl 3 (by decide) rfl k_149 (Or.inl rfl) rfl d_TypeFinder_Known_init_140 ?_
  refine xb_callS (pc := 143) (rm := rm_function) (wr := [(h0, .inr (4, [.ref q5_1, .ref q47_7, .ref q20_2, .ref q31_3, .int 0])), (q5_1, .inr (5, [.int 0, .int 0, .null, .null, .null, .null, .null, .int 0])), (q31_3, .inr (11, [.int 0, .ref (G.2.2.1), .int 0])), (q47_7, .inr (5, [.int 3, .int 0, .ref q47_5, .null, .null, .null, .null, .int 0])), (q47_6, .inr (11, [.int 2, .ref q80_10, .int 2])), (q80_10, .inl (G.2.1 5, 10, .inr (.inr (.inr (.inr (va_up (va_up (fun _ => none) (Int32.toNatClampNeg 0) (some q63_8)) (Int32.toNatClampNeg 1) (some q88_11))))))), (q47_5, .inr (6, [.long x43_4, .int 0, .ref q47_6, .ref q47_7, .int 1])), (q20_2, .inr (11, [.int 1, .ref q114_13, .int 1])), (q114_13, .inl (G.2.1 5, 10, .inr (.inr (.inr (.inr (va_up (fun _ => none) (Int32.toNatClampNeg 0) (some q47_5))))))), (q124_15, .inr (6, [.long x120_14, .int 1, .ref q124_16, .ref q124_18, .int 1])), (q124_16, .inr (11, [.int 0, .ref (G.2.2.1), .int 0])), (q124_17, .inr (5, [.int 5, .int 0, .null, .null, .null, .null, .null, .int 0])), (q124_18, .inr (5, [.int 3, .int 0, .ref q124_15, .ref q124_17, .null, .null, .null, .int 0]))]) F h (ct_function l G q124_18 q124_18) 2 k_163 k_111 k_164 k_165 hd_TypeFinder_Unifier_function (by decide) [] [0, 1, 2, 3, 4, 5, 6, 7, 8, 9, 10, 11, 12] rfl rfl (by decide) (by decide) (by decide) xb_ss0 hl.1 rfl rfl (Nat.le_of_ble_eq_true rfl) (by decide) d_TypeFinder_Known_init_143 (fun u H locs hu h => ?_)
  obtain ⟨q143_19, rfl⟩ : ∃ z, z = u := ⟨_, rfl⟩
  have h : xb_W G A s [(h0, .inr (4, [.ref q5_1, .ref q47_7, .ref q20_2, .ref q31_3, .int 0])), (q5_1, .inr (5, [.int 0, .int 0, .null, .null, .null, .null, .null, .int 0])), (q31_3, .inr (11, [.int 0, .ref (G.2.2.1), .int 0])), (q47_7, .inr (5, [.int 3, .int 0, .ref q47_5, .null, .null, .null, .null, .int 0])), (q47_6, .inr (11, [.int 2, .ref q80_10, .int 2])), (q80_10, .inl (G.2.1 5, 10, .inr (.inr (.inr (.inr (va_up (va_up (fun _ => none) (Int32.toNatClampNeg 0) (some q63_8)) (Int32.toNatClampNeg 1) (some q88_11))))))), (q47_5, .inr (6, [.long x43_4, .int 0, .ref q47_6, .ref q47_7, .int 1])), (q20_2, .inr (11, [.int 1, .ref q114_13, .int 1])), (q114_13, .inl (G.2.1 5, 10, .inr (.inr (.inr (.inr (va_up (fun _ => none) (Int32.toNatClampNeg 0) (some q47_5))))))), (q124_15, .inr (6, [.long x120_14, .int 1, .ref q124_16, .ref q124_18, .int 1])), (q124_16, .inr (11, [.int 0, .ref (G.2.2.1), .int 0])), (q124_17, .inr (5, [.int 5, .int 0, .null, .null, .null, .null, .null, .int 0])), (q124_18, .inr (5, [.int 3, .int 0, .ref q124_15, .ref q124_17, .null, .null, .null, .int 0]))] _ _ := h
  refine W.widen (k := 15) (n := 88) (by decide) (by decide) ?_
  refine W.eq (g2 := F0 m 146 ls [.ref q143_19, .ref q124_17]) rfl ?_
  refine xb_callS (pc := 146) (rm := rm_function) (wr := [(h0, .inr (4, [.ref q5_1, .ref q47_7, .ref q20_2, .ref q31_3, .int 0])), (q5_1, .inr (5, [.int 0, .int 0, .null, .null, .null, .null, .null, .int 0])), (q31_3, .inr (11, [.int 0, .ref (G.2.2.1), .int 0])), (q47_7, .inr (5, [.int 3, .int 0, .ref q47_5, .null, .null, .null, .null, .int 0])), (q47_6, .inr (11, [.int 2, .ref q80_10, .int 2])), (q80_10, .inl (G.2.1 5, 10, .inr (.inr (.inr (.inr (va_up (va_up (fun _ => none) (Int32.toNatClampNeg 0) (some q63_8)) (Int32.toNatClampNeg 1) (some q88_11))))))), (q47_5, .inr (6, [.long x43_4, .int 0, .ref q47_6, .ref q47_7, .int 1])), (q20_2, .inr (11, [.int 1, .ref q114_13, .int 1])), (q114_13, .inl (G.2.1 5, 10, .inr (.inr (.inr (.inr (va_up (fun _ => none) (Int32.toNatClampNeg 0) (some q47_5))))))), (q124_15, .inr (6, [.long x120_14, .int 1, .ref q124_16, .ref q124_18, .int 1])), (q124_16, .inr (11, [.int 0, .ref (G.2.2.1), .int 0])), (q124_17, .inr (5, [.int 5, .int 0, .null, .null, .null, .null, .null, .int 0])), (q124_18, .inr (5, [.int 3, .int 0, .ref q124_15, .ref q124_17, .null, .null, .null, .int 0]))]) F h (ct_function l G q124_17 q143_19) 2 k_163 k_111 k_164 k_165 hd_TypeFinder_Unifier_function (by decide) [] [0, 1, 2, 3, 4, 5, 6, 7, 8, 9, 10, 11, 12] rfl rfl (by decide) (by decide) (by decide) xb_ss0 hl.1 rfl rfl (Nat.le_of_ble_eq_true rfl) (by decide) d_TypeFinder_Known_init_146 (fun u H locs hu h => ?_)
  obtain ⟨q146_20, rfl⟩ : ∃ z, z = u := ⟨_, rfl⟩
  have h : xb_W G A s [(h0, .inr (4, [.ref q5_1, .ref q47_7, .ref q20_2, .ref q31_3, .int 0])), (q5_1, .inr (5, [.int 0, .int 0, .null, .null, .null, .null, .null, .int 0])), (q31_3, .inr (11, [.int 0, .ref (G.2.2.1), .int 0])), (q47_7, .inr (5, [.int 3, .int 0, .ref q47_5, .null, .null, .null, .null, .int 0])), (q47_6, .inr (11, [.int 2, .ref q80_10, .int 2])), (q80_10, .inl (G.2.1 5, 10, .inr (.inr (.inr (.inr (va_up (va_up (fun _ => none) (Int32.toNatClampNeg 0) (some q63_8)) (Int32.toNatClampNeg 1) (some q88_11))))))), (q47_5, .inr (6, [.long x43_4, .int 0, .ref q47_6, .ref q47_7, .int 1])), (q20_2, .inr (11, [.int 1, .ref q114_13, .int 1])), (q114_13, .inl (G.2.1 5, 10, .inr (.inr (.inr (.inr (va_up (fun _ => none) (Int32.toNatClampNeg 0) (some q47_5))))))), (q124_15, .inr (6, [.long x120_14, .int 1, .ref q124_16, .ref q124_18, .int 1])), (q124_16, .inr (11, [.int 0, .ref (G.2.2.1), .int 0])), (q124_17, .inr (5, [.int 5, .int 0, .null, .null, .null, .null, .null, .int 0])), (q124_18, .inr (5, [.int 3, .int 0, .ref q124_15, .ref q124_17, .null, .null, .null, .int 0]))] _ _ := h
  refine W.widen (k := 16) (n := 96) (by decide) (by decide) ?_
  refine W.eq (g2 := F0 m 149 ls [.ref q146_20]) rfl ?_
  refine lv_astore_n (pc := 149) (lv' := [(3, .ref q146_20), (2, .ref q124_15), (1, .ref q47_5), (0, .ref h0)]) hx hb d_TypeFinder_Known_init_149 rfl hl (by decide) rfl (fun ls hl => ?_)
  refine lv_aload_n (pc := 150) hx hb d_TypeFinder_Known_init_150 rfl (lv_at hl 1 rfl) ?_
  refine xb_get (pc := 151) F h cf_6 9 rfl 2 (by decide) rfl k_151 (Or.inl rfl) rfl d_TypeFinder_Known_init_151 ?_
  refine xb_new (pc := 154) (ws' := fun q154_21 => [(h0, .inr (4, [.ref q5_1, .ref q47_7, .ref q20_2, .ref q31_3, .int 0])), (q5_1, .inr (5, [.int 0, .int 0, .null, .null, .null, .null, .null, .int 0])), (q31_3, .inr (11, [.int 0, .ref (G.2.2.1), .int 0])), (q47_7, .inr (5, [.int 3, .int 0, .ref q47_5, .null, .null, .null, .null, .int 0])), (q47_6, .inr (11, [.int 2, .ref q80_10, .int 2])), (q80_10, .inl (G.2.1 5, 10, .inr (.inr (.inr (.inr (va_up (va_up (fun _ => none) (Int32.toNatClampNeg 0) (some q63_8)) (Int32.toNatClampNeg 1) (some q88_11))))))), (q47_5, .inr (6, [.long x43_4, .int 0, .ref q47_6, .ref q47_7, .int 1])), (q20_2, .inr (11, [.int 1, .ref q114_13, .int 1])), (q114_13, .inl (G.2.1 5, 10, .inr (.inr (.inr (.inr (va_up (fun _ => none) (Int32.toNatClampNeg 0) (some q47_5))))))), (q124_15, .inr (6, [.long x120_14, .int 1, .ref q124_16, .ref q124_18, .int 1])), (q124_16, .inr (11, [.int 0, .ref (G.2.2.1), .int 0])), (q124_17, .inr (5, [.int 5, .int 0, .null, .null, .null, .null, .null, .int 0])), (q124_18, .inr (5, [.int 3, .int 0, .ref q124_15, .ref q124_17, .null, .null, .null, .int 0])), (q154_21, .inr (7, [.long 0, .null, .int 0]))]) F h cf_7 k_152 k_153 k_154 df_7 (fun _ => rfl) (by decide) (by decide) d_TypeFinder_Known_init_154 (fun q154_21 H h => ?_)
  refine lv_dup (pc := 157) hx hb d_TypeFinder_Known_init_157 rfl ?_
  refine va_ldcS (pc := 158) hx hb hown (xb_str (q := ("TypeFinder$Known", 77, "Nil", 5)) F 4 rfl) d_TypeFinder_Known_init_158 ?_
  refine xb_callS (pc := 160) (rm := rm_packed) (wr := [(h0, .inr (4, [.ref q5_1, .ref q47_7, .ref q20_2, .ref q31_3, .int 0])), (q5_1, .inr (5, [.int 0, .int 0, .null, .null, .null, .null, .null, .int 0])), (q31_3, .inr (11, [.int 0, .ref (G.2.2.1), .int 0])), (q47_7, .inr (5, [.int 3, .int 0, .ref q47_5, .null, .null, .null, .null, .int 0])), (q47_6, .inr (11, [.int 2, .ref q80_10, .int 2])), (q80_10, .inl (G.2.1 5, 10, .inr (.inr (.inr (.inr (va_up (va_up (fun _ => none) (Int32.toNatClampNeg 0) (some q63_8)) (Int32.toNatClampNeg 1) (some q88_11))))))), (q47_5, .inr (6, [.long x43_4, .int 0, .ref q47_6, .ref q47_7, .int 1])), (q20_2, .inr (11, [.int 1, .ref q114_13, .int 1])), (q114_13, .inl (G.2.1 5, 10, .inr (.inr (.inr (.inr (va_up (fun _ => none) (Int32.toNatClampNeg 0) (some q47_5))))))), (q124_15, .inr (6, [.long x120_14, .int 1, .ref q124_16, .ref q124_18, .int 1])), (q124_16, .inr (11, [.int 0, .ref (G.2.2.1), .int 0])), (q124_17, .inr (5, [.int 5, .int 0, .null, .null, .null, .null, .null, .int 0])), (q124_18, .inr (5, [.int 3, .int 0, .ref q124_15, .ref q124_17, .null, .null, .null, .int 0])), (q154_21, .inr (7, [.long 0, .null, .int 0]))]) F h (ct_packed l G (G.2.2.2.1 5) (G.2.2.2.2 5) (xb_sL.getD 5 0) (fun j => (xb_sB.getD 5 []).getD j 0) (by decide)) 1 k_142 k_143 k_144 k_145 hd_TypeFinder_Tokens_packed (by decide) [] [0, 1, 2, 3, 4, 5, 6, 7, 8, 9, 10, 11, 12, 13] rfl rfl (by decide) (by decide) (by decide) (xb_lit F h 5 (by decide)) hl.1 rfl rfl (Nat.le_of_ble_eq_true rfl) (by decide) d_TypeFinder_Known_init_160 (fun u H locs hu h => ?_)
  obtain ⟨x160_22, rfl⟩ : ∃ z, z = u := ⟨_, rfl⟩
  have h : xb_W G A s [(h0, .inr (4, [.ref q5_1, .ref q47_7, .ref q20_2, .ref q31_3, .int 0])), (q5_1, .inr (5, [.int 0, .int 0, .null, .null, .null, .null, .null, .int 0])), (q31_3, .inr (11, [.int 0, .ref (G.2.2.1), .int 0])), (q47_7, .inr (5, [.int 3, .int 0, .ref q47_5, .null, .null, .null, .null, .int 0])), (q47_6, .inr (11, [.int 2, .ref q80_10, .int 2])), (q80_10, .inl (G.2.1 5, 10, .inr (.inr (.inr (.inr (va_up (va_up (fun _ => none) (Int32.toNatClampNeg 0) (some q63_8)) (Int32.toNatClampNeg 1) (some q88_11))))))), (q47_5, .inr (6, [.long x43_4, .int 0, .ref q47_6, .ref q47_7, .int 1])), (q20_2, .inr (11, [.int 1, .ref q114_13, .int 1])), (q114_13, .inl (G.2.1 5, 10, .inr (.inr (.inr (.inr (va_up (fun _ => none) (Int32.toNatClampNeg 0) (some q47_5))))))), (q124_15, .inr (6, [.long x120_14, .int 1, .ref q124_16, .ref q124_18, .int 1])), (q124_16, .inr (11, [.int 0, .ref (G.2.2.1), .int 0])), (q124_17, .inr (5, [.int 5, .int 0, .null, .null, .null, .null, .null, .int 0])), (q124_18, .inr (5, [.int 3, .int 0, .ref q124_15, .ref q124_17, .null, .null, .null, .int 0])), (q154_21, .inr (7, [.long 0, .null, .int 0]))] _ _ := h
  refine W.widen (k := 17) (n := 99) (by decide) (by decide) ?_
  refine W.eq (g2 := F0 m 163 ls [.long x160_22, .ref q154_21, .ref q154_21, .ref q124_16]) rfl ?_
  refine lv_aload_n (pc := 163) hx hb d_TypeFinder_Known_init_163 rfl (lv_at hl 1 rfl) ?_
  refine xb_get (pc := 164) F h cf_6 9 rfl 3 (by decide) rfl k_149 (Or.inl rfl) rfl d_TypeFinder_Known_init_164 ?_
  refine lv_iconst (pc := 167) (v := 1) hx hb d_TypeFinder_Known_init_167 (by decide) ?_
  refine xb_callI (pc := 168) (rm := rm_Name_init) (wr := [(h0, .inr (4, [.ref q5_1, .ref q47_7, .ref q20_2, .ref q31_3, .int 0])), (q5_1, .inr (5, [.int 0, .int 0, .null, .null, .null, .null, .null, .int 0])), (q31_3, .inr (11, [.int 0, .ref (G.2.2.1), .int 0])), (q47_7, .inr (5, [.int 3, .int 0, .ref q47_5, .null, .null, .null, .null, .int 0])), (q47_6, .inr (11, [.int 2, .ref q80_10, .int 2])), (q80_10, .inl (G.2.1 5, 10, .inr (.inr (.inr (.inr (va_up (va_up (fun _ => none) (Int32.toNatClampNeg 0) (some q63_8)) (Int32.toNatClampNeg 1) (some q88_11))))))), (q47_5, .inr (6, [.long x43_4, .int 0, .ref q47_6, .ref q47_7, .int 1])), (q20_2, .inr (11, [.int 1, .ref q114_13, .int 1])), (q114_13, .inl (G.2.1 5, 10, .inr (.inr (.inr (.inr (va_up (fun _ => none) (Int32.toNatClampNeg 0) (some q47_5))))))), (q124_15, .inr (6, [.long x120_14, .int 1, .ref q124_16, .ref q124_18, .int 1])), (q124_16, .inr (11, [.int 0, .ref (G.2.2.1), .int 0])), (q124_17, .inr (5, [.int 5, .int 0, .null, .null, .null, .null, .null, .int 0])), (q124_18, .inr (5, [.int 3, .int 0, .ref q124_15, .ref q124_17, .null, .null, .null, .int 0]))]) F h (ct_Name_init l G q154_21 x160_22 q124_18) 3 k_155 k_154 k_156 k_157 rfl hd_TypeFinder_Name_init (by decide) [13] [0, 1, 2, 3, 4, 5, 6, 7, 8, 9, 10, 11, 12] rfl rfl (by decide) (by decide) (by decide) xb_ss0 hl.1 rfl rfl (Nat.le_of_ble_eq_true rfl) (by decide) d_TypeFinder_Known_init_168 (fun u H locs hu h => ?_)
  have h : xb_W G A s [(h0, .inr (4, [.ref q5_1, .ref q47_7, .ref q20_2, .ref q31_3, .int 0])), (q5_1, .inr (5, [.int 0, .int 0, .null, .null, .null, .null, .null, .int 0])), (q31_3, .inr (11, [.int 0, .ref (G.2.2.1), .int 0])), (q47_7, .inr (5, [.int 3, .int 0, .ref q47_5, .null, .null, .null, .null, .int 0])), (q47_6, .inr (11, [.int 2, .ref q80_10, .int 2])), (q80_10, .inl (G.2.1 5, 10, .inr (.inr (.inr (.inr (va_up (va_up (fun _ => none) (Int32.toNatClampNeg 0) (some q63_8)) (Int32.toNatClampNeg 1) (some q88_11))))))), (q47_5, .inr (6, [.long x43_4, .int 0, .ref q47_6, .ref q47_7, .int 1])), (q20_2, .inr (11, [.int 1, .ref q114_13, .int 1])), (q114_13, .inl (G.2.1 5, 10, .inr (.inr (.inr (.inr (va_up (fun _ => none) (Int32.toNatClampNeg 0) (some q47_5))))))), (q124_15, .inr (6, [.long x120_14, .int 1, .ref q124_16, .ref q124_18, .int 1])), (q124_16, .inr (11, [.int 0, .ref (G.2.2.1), .int 0])), (q124_17, .inr (5, [.int 5, .int 0, .null, .null, .null, .null, .null, .int 0])), (q124_18, .inr (5, [.int 3, .int 0, .ref q124_15, .ref q124_17, .null, .null, .null, .int 0])), (q154_21, .inr (7, [.long x160_22, .ref q124_18, .int 1]))] _ _ := h
  refine W.widen (k := 17) (n := 99) (by decide) (by decide) ?_
  refine W.eq (g2 := F0 m 171 ls [.ref q154_21, .ref q124_16]) rfl ?_
  refine xb_callV (pc := 171) (rm := rm_AL_add_Name_0) (wr := [(h0, .inr (4, [.ref q5_1, .ref q47_7, .ref q20_2, .ref q31_3, .int 0])), (q5_1, .inr (5, [.int 0, .int 0, .null, .null, .null, .null, .null, .int 0])), (q31_3, .inr (11, [.int 0, .ref (G.2.2.1), .int 0])), (q47_7, .inr (5, [.int 3, .int 0, .ref q47_5, .null, .null, .null, .null, .int 0])), (q47_6, .inr (11, [.int 2, .ref q80_10, .int 2])), (q80_10, .inl (G.2.1 5, 10, .inr (.inr (.inr (.inr (va_up (va_up (fun _ => none) (Int32.toNatClampNeg 0) (some q63_8)) (Int32.toNatClampNeg 1) (some q88_11))))))), (q47_5, .inr (6, [.long x43_4, .int 0, .ref q47_6, .ref q47_7, .int 1])), (q20_2, .inr (11, [.int 1, .ref q114_13, .int 1])), (q114_13, .inl (G.2.1 5, 10, .inr (.inr (.inr (.inr (va_up (fun _ => none) (Int32.toNatClampNeg 0) (some q47_5))))))), (q124_15, .inr (6, [.long x120_14, .int 1, .ref q124_16, .ref q124_18, .int 1])), (q124_17, .inr (5, [.int 5, .int 0, .null, .null, .null, .null, .null, .int 0])), (q124_18, .inr (5, [.int 3, .int 0, .ref q124_15, .ref q124_17, .null, .null, .null, .int 0]))]) F h (ct_AL_add_Name_0 l G q124_16 q154_21 0 (.long x160_22) (.ref q124_18) (.int 1)) 1 (va_recv hK h.1 (q0 := 10) (ci := 11) rfl rfl) k_158 k_45 k_159 k_160 k_161 hd_ArrayList_add2 (by decide) [10, 13] [0, 1, 2, 3, 4, 5, 6, 7, 8, 9, 11, 12] rfl rfl (by decide) (by decide) (by decide) xb_ss0 hl.1 rfl rfl (Nat.le_of_ble_eq_true rfl) (by decide) d_TypeFinder_Known_init_171 (fun u H locs hu h => ?_)
  obtain ⟨q171_23, rfl⟩ : ∃ z, z = u := ⟨_, rfl⟩
  have h : xb_W G A s [(h0, .inr (4, [.ref q5_1, .ref q47_7, .ref q20_2, .ref q31_3, .int 0])), (q5_1, .inr (5, [.int 0, .int 0, .null, .null, .null, .null, .null, .int 0])), (q31_3, .inr (11, [.int 0, .ref (G.2.2.1), .int 0])), (q47_7, .inr (5, [.int 3, .int 0, .ref q47_5, .null, .null, .null, .null, .int 0])), (q47_6, .inr (11, [.int 2, .ref q80_10, .int 2])), (q80_10, .inl (G.2.1 5, 10, .inr (.inr (.inr (.inr (va_up (va_up (fun _ => none) (Int32.toNatClampNeg 0) (some q63_8)) (Int32.toNatClampNeg 1) (some q88_11))))))), (q47_5, .inr (6, [.long x43_4, .int 0, .ref q47_6, .ref q47_7, .int 1])), (q20_2, .inr (11, [.int 1, .ref q114_13, .int 1])), (q114_13, .inl (G.2.1 5, 10, .inr (.inr (.inr (.inr (va_up (fun _ => none) (Int32.toNatClampNeg 0) (some q47_5))))))), (q124_15, .inr (6, [.long x120_14, .int 1, .ref q124_16, .ref q124_18, .int 1])), (q124_17, .inr (5, [.int 5, .int 0, .null, .null, .null, .null, .null, .int 0])), (q124_18, .inr (5, [.int 3, .int 0, .ref q124_15, .ref q124_17, .null, .null, .null, .int 0])), (q154_21, .inr (7, [.long x160_22, .ref q124_18, .int 1])), (q124_16, .inr (11, [.int 1, .ref q171_23, .int 1])), (q171_23, .inl (G.2.1 5, 10, .inr (.inr (.inr (.inr (va_up (fun _ => none) (Int32.toNatClampNeg 0) (some q154_21)))))))] _ _ := h
  refine W.widen (k := 18) (n := 109) (by decide) (by decide) ?_
  refine W.eq (g2 := F0 m 174 ls [.int 1]) rfl ?_
  refine lv_pop (pc := 174) hx hb d_TypeFinder_Known_init_174 rfl ?_
  have h := xb_sub (ws' := [(h0, .inr (4, [.ref q5_1, .ref q47_7, .ref q20_2, .ref q31_3, .int 0])), (q5_1, .inr (5, [.int 0, .int 0, .null, .null, .null, .null, .null, .int 0])), (q31_3, .inr (11, [.int 0, .ref (G.2.2.1), .int 0])), (q47_7, .inr (5, [.int 3, .int 0, .ref q47_5, .null, .null, .null, .null, .int 0])), (q47_6, .inr (11, [.int 2, .ref q80_10, .int 2])), (q80_10, .inl (G.2.1 5, 10, .inr (.inr (.inr (.inr (va_up (va_up (fun _ => none) (Int32.toNatClampNeg 0) (some q63_8)) (Int32.toNatClampNeg 1) (some q88_11))))))), (q47_5, .inr (6, [.long x43_4, .int 0, .ref q47_6, .ref q47_7, .int 1])), (q20_2, .inr (11, [.int 1, .ref q114_13, .int 1])), (q114_13, .inl (G.2.1 5, 10, .inr (.inr (.inr (.inr (va_up (fun _ => none) (Int32.toNatClampNeg 0) (some q47_5))))))), (q124_15, .inr (6, [.long x120_14, .int 1, .ref q124_16, .ref q124_18, .int 1])), (q124_17, .inr (5, [.int 5, .int 0, .null, .null, .null, .null, .null, .int 0])), (q124_18, .inr (5, [.int 3, .int 0, .ref q124_15, .ref q124_17, .null, .null, .null, .int 0])), (q124_16, .inr (11, [.int 1, .ref q171_23, .int 1])), (q171_23, .inl (G.2.1 5, 10, .inr (.inr (.inr (.inr (va_up (fun _ => none) (Int32.toNatClampNeg 0) (some q154_21)))))))]) h [0, 1, 2, 3, 4, 5, 6, 7, 8, 9, 10, 11, 13, 14] (by decide) rfl
  refine lv_aload_n (pc := 175) hx hb d_TypeFinder_Known_init_175 rfl (lv_at hl 1 rfl) ?_
  refine xb_get (pc := 176) F h cf_6 9 rfl 2 (by decide) rfl k_151 (Or.inl rfl) rfl d_TypeFinder_Known_init_176 ?_
  refine xb_new (pc := 179) (ws' := fun q179_24 => [(h0, .inr (4, [.ref q5_1, .ref q47_7, .ref q20_2, .ref q31_3, .int 0])), (q5_1, .inr (5, [.int 0, .int 0, .null, .null, .null, .null, .null, .int 0])), (q31_3, .inr (11, [.int 0, .ref (G.2.2.1), .int 0])), (q47_7, .inr (5, [.int 3, .int 0, .ref q47_5, .null, .null, .null, .null, .int 0])), (q47_6, .inr (11, [.int 2, .ref q80_10, .int 2])), (q80_10, .inl (G.2.1 5, 10, .inr (.inr (.inr (.inr (va_up (va_up (fun _ => none) (Int32.toNatClampNeg 0) (some q63_8)) (Int32.toNatClampNeg 1) (some q88_11))))))), (q47_5, .inr (6, [.long x43_4, .int 0, .ref q47_6, .ref q47_7, .int 1])), (q20_2, .inr (11, [.int 1, .ref q114_13, .int 1])), (q114_13, .inl (G.2.1 5, 10, .inr (.inr (.inr (.inr (va_up (fun _ => none) (Int32.toNatClampNeg 0) (some q47_5))))))), (q124_15, .inr (6, [.long x120_14, .int 1, .ref q124_16, .ref q124_18, .int 1])), (q124_17, .inr (5, [.int 5, .int 0, .null, .null, .null, .null, .null, .int 0])), (q124_18, .inr (5, [.int 3, .int 0, .ref q124_15, .ref q124_17, .null, .null, .null, .int 0])), (q124_16, .inr (11, [.int 1, .ref q171_23, .int 1])), (q171_23, .inl (G.2.1 5, 10, .inr (.inr (.inr (.inr (va_up (fun _ => none) (Int32.toNatClampNeg 0) (some q154_21))))))), (q179_24, .inr (7, [.long 0, .null, .int 0]))]) F h cf_7 k_152 k_153 k_154 df_7 (fun _ => rfl) (by decide) (by decide) d_TypeFinder_Known_init_179 (fun q179_24 H h => ?_)
  refine lv_dup (pc := 182) hx hb d_TypeFinder_Known_init_182 rfl ?_
  refine lv_ldc2 (pc := 183) (v := 58) hx hb hown (hts _ k_166) d_TypeFinder_Known_init_183 ?_
  refine lv_aload_n (pc := 186) hx hb d_TypeFinder_Known_init_186 rfl (lv_at hl 0 rfl) ?_
  refine lv_iconst (pc := 187) (v := 1) hx hb d_TypeFinder_Known_init_187 (by decide) ?_
  refine xb_callI (pc := 188) (rm := rm_Name_init) (wr := [(h0, .inr (4, [.ref q5_1, .ref q47_7, .ref q20_2, .ref q31_3, .int 0])), (q5_1, .inr (5, [.int 0, .int 0, .null, .null, .null, .null, .null, .int 0])), (q31_3, .inr (11, [.int 0, .ref (G.2.2.1), .int 0])), (q47_7, .inr (5, [.int 3, .int 0, .ref q47_5, .null, .null, .null, .null, .int 0])), (q47_6, .inr (11, [.int 2, .ref q80_10, .int 2])), (q80_10, .inl (G.2.1 5, 10, .inr (.inr (.inr (.inr (va_up (va_up (fun _ => none) (Int32.toNatClampNeg 0) (some q63_8)) (Int32.toNatClampNeg 1) (some q88_11))))))), (q47_5, .inr (6, [.long x43_4, .int 0, .ref q47_6, .ref q47_7, .int 1])), (q20_2, .inr (11, [.int 1, .ref q114_13, .int 1])), (q114_13, .inl (G.2.1 5, 10, .inr (.inr (.inr (.inr (va_up (fun _ => none) (Int32.toNatClampNeg 0) (some q47_5))))))), (q124_15, .inr (6, [.long x120_14, .int 1, .ref q124_16, .ref q124_18, .int 1])), (q124_17, .inr (5, [.int 5, .int 0, .null, .null, .null, .null, .null, .int 0])), (q124_18, .inr (5, [.int 3, .int 0, .ref q124_15, .ref q124_17, .null, .null, .null, .int 0])), (q124_16, .inr (11, [.int 1, .ref q171_23, .int 1])), (q171_23, .inl (G.2.1 5, 10, .inr (.inr (.inr (.inr (va_up (fun _ => none) (Int32.toNatClampNeg 0) (some q154_21)))))))]) F h (ct_Name_init l G q179_24 58 q146_20) 3 k_155 k_154 k_156 k_157 rfl hd_TypeFinder_Name_init (by decide) [14] [0, 1, 2, 3, 4, 5, 6, 7, 8, 9, 10, 11, 12, 13] rfl rfl (by decide) (by decide) (by decide) xb_ss0 hl.1 rfl rfl (Nat.le_of_ble_eq_true rfl) (by decide) d_TypeFinder_Known_init_188 (fun u H locs hu h => ?_)
  have h : xb_W G A s [(h0, .inr (4, [.ref q5_1, .ref q47_7, .ref q20_2, .ref q31_3, .int 0])), (q5_1, .inr (5, [.int 0, .int 0, .null, .null, .null, .null, .null, .int 0])), (q31_3, .inr (11, [.int 0, .ref (G.2.2.1), .int 0])), (q47_7, .inr (5, [.int 3, .int 0, .ref q47_5, .null, .null, .null, .null, .int 0])), (q47_6, .inr (11, [.int 2, .ref q80_10, .int 2])), (q80_10, .inl (G.2.1 5, 10, .inr (.inr (.inr (.inr (va_up (va_up (fun _ => none) (Int32.toNatClampNeg 0) (some q63_8)) (Int32.toNatClampNeg 1) (some q88_11))))))), (q47_5, .inr (6, [.long x43_4, .int 0, .ref q47_6, .ref q47_7, .int 1])), (q20_2, .inr (11, [.int 1, .ref q114_13, .int 1])), (q114_13, .inl (G.2.1 5, 10, .inr (.inr (.inr (.inr (va_up (fun _ => none) (Int32.toNatClampNeg 0) (some q47_5))))))), (q124_15, .inr (6, [.long x120_14, .int 1, .ref q124_16, .ref q124_18, .int 1])), (q124_17, .inr (5, [.int 5, .int 0, .null, .null, .null, .null, .null, .int 0])), (q124_18, .inr (5, [.int 3, .int 0, .ref q124_15, .ref q124_17, .null, .null, .null, .int 0])), (q124_16, .inr (11, [.int 1, .ref q171_23, .int 1])), (q171_23, .inl (G.2.1 5, 10, .inr (.inr (.inr (.inr (va_up (fun _ => none) (Int32.toNatClampNeg 0) (some q154_21))))))), (q179_24, .inr (7, [.long 58, .ref q146_20, .int 1]))] _ _ := h
  refine W.widen (k := 19) (n := 112) (by decide) (by decide) ?_
  refine W.eq (g2 := F0 m 191 ls [.ref q179_24, .ref q124_16]) rfl ?_
  refine xb_callV (pc := 191) (rm := rm_AL_add_Name_1) (wr := [(h0, .inr (4, [.ref q5_1, .ref q47_7, .ref q20_2, .ref q31_3, .int 0])), (q5_1, .inr (5, [.int 0, .int 0, .null, .null, .null, .null, .null, .int 0])), (q31_3, .inr (11, [.int 0, .ref (G.2.2.1), .int 0])), (q47_7, .inr (5, [.int 3, .int 0, .ref q47_5, .null, .null, .null, .null, .int 0])), (q47_6, .inr (11, [.int 2, .ref q80_10, .int 2])), (q80_10, .inl (G.2.1 5, 10, .inr (.inr (.inr (.inr (va_up (va_up (fun _ => none) (Int32.toNatClampNeg 0) (some q63_8)) (Int32.toNatClampNeg 1) (some q88_11))))))), (q47_5, .inr (6, [.long x43_4, .int 0, .ref q47_6, .ref q47_7, .int 1])), (q20_2, .inr (11, [.int 1, .ref q114_13, .int 1])), (q114_13, .inl (G.2.1 5, 10, .inr (.inr (.inr (.inr (va_up (fun _ => none) (Int32.toNatClampNeg 0) (some q47_5))))))), (q124_15, .inr (6, [.long x120_14, .int 1, .ref q124_16, .ref q124_18, .int 1])), (q124_17, .inr (5, [.int 5, .int 0, .null, .null, .null, .null, .null, .int 0])), (q124_18, .inr (5, [.int 3, .int 0, .ref q124_15, .ref q124_17, .null, .null, .null, .int 0]))]) F h (ct_AL_add_Name_1 l G q124_16 q171_23 q179_24 1 (va_up (fun _ => none) (Int32.toNatClampNeg 0) (some q154_21)) (.long 58) (.ref q146_20) (.int 1)) 1 (va_recv hK h.1 (q0 := 12) (ci := 11) rfl rfl) k_158 k_45 k_159 k_160 k_161 hd_ArrayList_add2 (by decide) [12, 13, 14] [0, 1, 2, 3, 4, 5, 6, 7, 8, 9, 10, 11] rfl rfl (by decide) (by decide) (by decide) xb_ss0 hl.1 rfl rfl (Nat.le_of_ble_eq_true rfl) (by decide) d_TypeFinder_Known_init_191 (fun u H locs hu h => ?_)
  have h : xb_W G A s [(h0, .inr (4, [.ref q5_1, .ref q47_7, .ref q20_2, .ref q31_3, .int 0])), (q5_1, .inr (5, [.int 0, .int 0, .null, .null, .null, .null, .null, .int 0])), (q31_3, .inr (11, [.int 0, .ref (G.2.2.1), .int 0])), (q47_7, .inr (5, [.int 3, .int 0, .ref q47_5, .null, .null, .null, .null, .int 0])), (q47_6, .inr (11, [.int 2, .ref q80_10, .int 2])), (q80_10, .inl (G.2.1 5, 10, .inr (.inr (.inr (.inr (va_up (va_up (fun _ => none) (Int32.toNatClampNeg 0) (some q63_8)) (Int32.toNatClampNeg 1) (some q88_11))))))), (q47_5, .inr (6, [.long x43_4, .int 0, .ref q47_6, .ref q47_7, .int 1])), (q20_2, .inr (11, [.int 1, .ref q114_13, .int 1])), (q114_13, .inl (G.2.1 5, 10, .inr (.inr (.inr (.inr (va_up (fun _ => none) (Int32.toNatClampNeg 0) (some q47_5))))))), (q124_15, .inr (6, [.long x120_14, .int 1, .ref q124_16, .ref q124_18, .int 1])), (q124_17, .inr (5, [.int 5, .int 0, .null, .null, .null, .null, .null, .int 0])), (q124_18, .inr (5, [.int 3, .int 0, .ref q124_15, .ref q124_17, .null, .null, .null, .int 0])), (q124_16, .inr (11, [.int 2, .ref q171_23, .int 2])), (q171_23, .inl (G.2.1 5, 10, .inr (.inr (.inr (.inr (va_up (va_up (fun _ => none) (Int32.toNatClampNeg 0) (some q154_21)) (Int32.toNatClampNeg 1) (some q179_24))))))), (q179_24, .inr (7, [.long 58, .ref q146_20, .int 1]))] _ _ := h
  refine W.widen (k := 19) (n := 112) (by decide) (by decide) ?_
  refine W.eq (g2 := F0 m 194 ls [.int 1]) rfl ?_
  refine lv_pop (pc := 194) hx hb d_TypeFinder_Known_init_194 rfl ?_
  have h := xb_sub (ws' := [(h0, .inr (4, [.ref q5_1, .ref q47_7, .ref q20_2, .ref q31_3, .int 0])), (q5_1, .inr (5, [.int 0, .int 0, .null, .null, .null, .null, .null, .int 0])), (q31_3, .inr (11, [.int 0, .ref (G.2.2.1), .int 0])), (q47_7, .inr (5, [.int 3, .int 0, .ref q47_5, .null, .null, .null, .null, .int 0])), (q47_6, .inr (11, [.int 2, .ref q80_10, .int 2])), (q80_10, .inl (G.2.1 5, 10, .inr (.inr (.inr (.inr (va_up (va_up (fun _ => none) (Int32.toNatClampNeg 0) (some q63_8)) (Int32.toNatClampNeg 1) (some q88_11))))))), (q47_5, .inr (6, [.long x43_4, .int 0, .ref q47_6, .ref q47_7, .int 1])), (q20_2, .inr (11, [.int 1, .ref q114_13, .int 1])), (q114_13, .inl (G.2.1 5, 10, .inr (.inr (.inr (.inr (va_up (fun _ => none) (Int32.toNatClampNeg 0) (some q47_5))))))), (q124_15, .inr (6, [.long x120_14, .int 1, .ref q124_16, .ref q124_18, .int 1])), (q124_17, .inr (5, [.int 5, .int 0, .null, .null, .null, .null, .null, .int 0])), (q124_18, .inr (5, [.int 3, .int 0, .ref q124_15, .ref q124_17, .null, .null, .null, .int 0])), (q124_16, .inr (11, [.int 2, .ref q171_23, .int 2])), (q171_23, .inl (G.2.1 5, 10, .inr (.inr (.inr (.inr (va_up (va_up (fun _ => none) (Int32.toNatClampNeg 0) (some q154_21)) (Int32.toNatClampNeg 1) (some q179_24)))))))]) h [0, 1, 2, 3, 4, 5, 6, 7, 8, 9, 10, 11, 12, 13] (by decide) rfl
  refine lv_aload_n (pc := 195) hx hb d_TypeFinder_Known_init_195 rfl (lv_at hl 3 rfl) ?_
  refine xb_get (pc := 196) F h cf_4 0 rfl 2 (by decide) rfl k_140 (Or.inl rfl) rfl d_TypeFinder_Known_init_196 ?_
  refine lv_aload_n (pc := 199) hx hb d_TypeFinder_Known_init_199 rfl (lv_at hl 1 rfl) ?_
  refine xb_callV (pc := 200) (rm := rm_AL_add_Data_1) (wr := [(h0, .inr (4, [.ref q5_1, .ref q47_7, .ref q20_2, .ref q31_3, .int 0])), (q5_1, .inr (5, [.int 0, .int 0, .null, .null, .null, .null, .null, .int 0])), (q31_3, .inr (11, [.int 0, .ref (G.2.2.1), .int 0])), (q47_7, .inr (5, [.int 3, .int 0, .ref q47_5, .null, .null, .null, .null, .int 0])), (q47_6, .inr (11, [.int 2, .ref q80_10, .int 2])), (q80_10, .inl (G.2.1 5, 10, .inr (.inr (.inr (.inr (va_up (va_up (fun _ => none) (Int32.toNatClampNeg 0) (some q63_8)) (Int32.toNatClampNeg 1) (some q88_11))))))), (q47_5, .inr (6, [.long x43_4, .int 0, .ref q47_6, .ref q47_7, .int 1])), (q124_17, .inr (5, [.int 5, .int 0, .null, .null, .null, .null, .null, .int 0])), (q124_18, .inr (5, [.int 3, .int 0, .ref q124_15, .ref q124_17, .null, .null, .null, .int 0])), (q124_16, .inr (11, [.int 2, .ref q171_23, .int 2])), (q171_23, .inl (G.2.1 5, 10, .inr (.inr (.inr (.inr (va_up (va_up (fun _ => none) (Int32.toNatClampNeg 0) (some q154_21)) (Int32.toNatClampNeg 1) (some q179_24)))))))]) F h (ct_AL_add_Data_1 l G q20_2 q114_13 q124_15 1 (va_up (fun _ => none) (Int32.toNatClampNeg 0) (some q47_5)) (.long x120_14) (.int 1) (.ref q124_16) (.ref q124_18) (.int 1)) 1 (va_recv hK h.1 (q0 := 7) (ci := 11) rfl rfl) k_158 k_45 k_159 k_160 k_161 hd_ArrayList_add2 (by decide) [7, 8, 9] [0, 1, 2, 3, 4, 5, 6, 10, 11, 12, 13] rfl rfl (by decide) (by decide) (by decide) xb_ss0 hl.1 rfl rfl (Nat.le_of_ble_eq_true rfl) (by decide) d_TypeFinder_Known_init_200 (fun u H locs hu h => ?_)
  have h : xb_W G A s [(h0, .inr (4, [.ref q5_1, .ref q47_7, .ref q20_2, .ref q31_3, .int 0])), (q5_1, .inr (5, [.int 0, .int 0, .null, .null, .null, .null, .null, .int 0])), (q31_3, .inr (11, [.int 0, .ref (G.2.2.1), .int 0])), (q47_7, .inr (5, [.int 3, .int 0, .ref q47_5, .null, .null, .null, .null, .int 0])), (q47_6, .inr (11, [.int 2, .ref q80_10, .int 2])), (q80_10, .inl (G.2.1 5, 10, .inr (.inr (.inr (.inr (va_up (va_up (fun _ => none) (Int32.toNatClampNeg 0) (some q63_8)) (Int32.toNatClampNeg 1) (some q88_11))))))), (q47_5, .inr (6, [.long x43_4, .int 0, .ref q47_6, .ref q47_7, .int 1])), (q124_17, .inr (5, [.int 5, .int 0, .null, .null, .null, .null, .null, .int 0])), (q124_18, .inr (5, [.int 3, .int 0, .ref q124_15, .ref q124_17, .null, .null, .null, .int 0])), (q124_16, .inr (11, [.int 2, .ref q171_23, .int 2])), (q171_23, .inl (G.2.1 5, 10, .inr (.inr (.inr (.inr (va_up (va_up (fun _ => none) (Int32.toNatClampNeg 0) (some q154_21)) (Int32.toNatClampNeg 1) (some q179_24))))))), (q20_2, .inr (11, [.int 2, .ref q114_13, .int 2])), (q114_13, .inl (G.2.1 5, 10, .inr (.inr (.inr (.inr (va_up (va_up (fun _ => none) (Int32.toNatClampNeg 0) (some q47_5)) (Int32.toNatClampNeg 1) (some q124_15))))))), (q124_15, .inr (6, [.long x120_14, .int 1, .ref q124_16, .ref q124_18, .int 1]))] _ _ := h
  refine W.widen (k := 19) (n := 112) (by decide) (by decide) ?_
  refine W.eq (g2 := F0 m 203 ls [.int 1]) rfl ?_
  refine lv_pop (pc := 203) hx hb d_TypeFinder_Known_init_203 rfl ?_
  refine lv_aload_n (pc := 204) hx hb d_TypeFinder_Known_init_204 rfl (lv_at hl 3 rfl) ?_
  refine xb_get (pc := 205) F h cf_4 0 rfl 0 (by decide) rfl k_137 (Or.inl rfl) rfl d_TypeFinder_Known_init_205 ?_
  refine lv_aload_n (pc := 208) hx hb d_TypeFinder_Known_init_208 rfl (lv_at hl 3 rfl) ?_
  refine xb_get (pc := 209) F h cf_4 0 rfl 0 (by decide) rfl k_137 (Or.inl rfl) rfl d_TypeFinder_Known_init_209 ?_
  refine lv_aload_n (pc := 212) hx hb d_TypeFinder_Known_init_212 rfl (lv_at hl 3 rfl) ?_
  refine xb_get (pc := 213) F h cf_4 0 rfl 0 (by decide) rfl k_137 (Or.inl rfl) rfl d_TypeFinder_Known_init_213 ?_
  refine xb_callS (pc := 216) (rm := rm_function) (wr := [(h0, .inr (4, [.ref q5_1, .ref q47_7, .ref q20_2, .ref q31_3, .int 0])), (q5_1, .inr (5, [.int 0, .int 0, .null, .null, .null, .null, .null, .int 0])), (q31_3, .inr (11, [.int 0, .ref (G.2.2.1), .int 0])), (q47_7, .inr (5, [.int 3, .int 0, .ref q47_5, .null, .null, .null, .null, .int 0])), (q47_6, .inr (11, [.int 2, .ref q80_10, .int 2])), (q80_10, .inl (G.2.1 5, 10, .inr (.inr (.inr (.inr (va_up (va_up (fun _ => none) (Int32.toNatClampNeg 0) (some q63_8)) (Int32.toNatClampNeg 1) (some q88_11))))))), (q47_5, .inr (6, [.long x43_4, .int 0, .ref q47_6, .ref q47_7, .int 1])), (q124_17, .inr (5, [.int 5, .int 0, .null, .null, .null, .null, .null, .int 0])), (q124_18, .inr (5, [.int 3, .int 0, .ref q124_15, .ref q124_17, .null, .null, .null, .int 0])), (q124_16, .inr (11, [.int 2, .ref q171_23, .int 2])), (q171_23, .inl (G.2.1 5, 10, .inr (.inr (.inr (.inr (va_up (va_up (fun _ => none) (Int32.toNatClampNeg 0) (some q154_21)) (Int32.toNatClampNeg 1) (some q179_24))))))), (q20_2, .inr (11, [.int 2, .ref q114_13, .int 2])), (q114_13, .inl (G.2.1 5, 10, .inr (.inr (.inr (.inr (va_up (va_up (fun _ => none) (Int32.toNatClampNeg 0) (some q47_5)) (Int32.toNatClampNeg 1) (some q124_15))))))), (q124_15, .inr (6, [.long x120_14, .int 1, .ref q124_16, .ref q124_18, .int 1]))]) F h (ct_function l G q5_1 q5_1) 2 k_163 k_111 k_164 k_165 hd_TypeFinder_Unifier_function (by decide) [] [0, 1, 2, 3, 4, 5, 6, 7, 8, 9, 10, 11, 12, 13] rfl rfl (by decide) (by decide) (by decide) xb_ss0 hl.1 rfl rfl (Nat.le_of_ble_eq_true rfl) (by decide) d_TypeFinder_Known_init_216 (fun u H locs hu h => ?_)
  obtain ⟨q216_25, rfl⟩ : ∃ z, z = u := ⟨_, rfl⟩
  have h : xb_W G A s [(h0, .inr (4, [.ref q5_1, .ref q47_7, .ref q20_2, .ref q31_3, .int 0])), (q5_1, .inr (5, [.int 0, .int 0, .null, .null, .null, .null, .null, .int 0])), (q31_3, .inr (11, [.int 0, .ref (G.2.2.1), .int 0])), (q47_7, .inr (5, [.int 3, .int 0, .ref q47_5, .null, .null, .null, .null, .int 0])), (q47_6, .inr (11, [.int 2, .ref q80_10, .int 2])), (q80_10, .inl (G.2.1 5, 10, .inr (.inr (.inr (.inr (va_up (va_up (fun _ => none) (Int32.toNatClampNeg 0) (some q63_8)) (Int32.toNatClampNeg 1) (some q88_11))))))), (q47_5, .inr (6, [.long x43_4, .int 0, .ref q47_6, .ref q47_7, .int 1])), (q124_17, .inr (5, [.int 5, .int 0, .null, .null, .null, .null, .null, .int 0])), (q124_18, .inr (5, [.int 3, .int 0, .ref q124_15, .ref q124_17, .null, .null, .null, .int 0])), (q124_16, .inr (11, [.int 2, .ref q171_23, .int 2])), (q171_23, .inl (G.2.1 5, 10, .inr (.inr (.inr (.inr (va_up (va_up (fun _ => none) (Int32.toNatClampNeg 0) (some q154_21)) (Int32.toNatClampNeg 1) (some q179_24))))))), (q20_2, .inr (11, [.int 2, .ref q114_13, .int 2])), (q114_13, .inl (G.2.1 5, 10, .inr (.inr (.inr (.inr (va_up (va_up (fun _ => none) (Int32.toNatClampNeg 0) (some q47_5)) (Int32.toNatClampNeg 1) (some q124_15))))))), (q124_15, .inr (6, [.long x120_14, .int 1, .ref q124_16, .ref q124_18, .int 1]))] _ _ := h
  refine W.widen (k := 20) (n := 120) (by decide) (by decide) ?_
  refine W.eq (g2 := F0 m 219 ls [.ref q216_25, .ref q5_1]) rfl ?_
  refine xb_callS (pc := 219) (rm := rm_function) (wr := [(h0, .inr (4, [.ref q5_1, .ref q47_7, .ref q20_2, .ref q31_3, .int 0])), (q5_1, .inr (5, [.int 0, .int 0, .null, .null, .null, .null, .null, .int 0])), (q31_3, .inr (11, [.int 0, .ref (G.2.2.1), .int 0])), (q47_7, .inr (5, [.int 3, .int 0, .ref q47_5, .null, .null, .null, .null, .int 0])), (q47_6, .inr (11, [.int 2, .ref q80_10, .int 2])), (q80_10, .inl (G.2.1 5, 10, .inr (.inr (.inr (.inr (va_up (va_up (fun _ => none) (Int32.toNatClampNeg 0) (some q63_8)) (Int32.toNatClampNeg 1) (some q88_11))))))), (q47_5, .inr (6, [.long x43_4, .int 0, .ref q47_6, .ref q47_7, .int 1])), (q124_17, .inr (5, [.int 5, .int 0, .null, .null, .null, .null, .null, .int 0])), (q124_18, .inr (5, [.int 3, .int 0, .ref q124_15, .ref q124_17, .null, .null, .null, .int 0])), (q124_16, .inr (11, [.int 2, .ref q171_23, .int 2])), (q171_23, .inl (G.2.1 5, 10, .inr (.inr (.inr (.inr (va_up (va_up (fun _ => none) (Int32.toNatClampNeg 0) (some q154_21)) (Int32.toNatClampNeg 1) (some q179_24))))))), (q20_2, .inr (11, [.int 2, .ref q114_13, .int 2])), (q114_13, .inl (G.2.1 5, 10, .inr (.inr (.inr (.inr (va_up (va_up (fun _ => none) (Int32.toNatClampNeg 0) (some q47_5)) (Int32.toNatClampNeg 1) (some q124_15))))))), (q124_15, .inr (6, [.long x120_14, .int 1, .ref q124_16, .ref q124_18, .int 1]))]) F h (ct_function l G q5_1 q216_25) 2 k_163 k_111 k_164 k_165 hd_TypeFinder_Unifier_function (by decide) [] [0, 1, 2, 3, 4, 5, 6, 7, 8, 9, 10, 11, 12, 13] rfl rfl (by decide) (by decide) (by decide) xb_ss0 hl.1 rfl rfl (Nat.le_of_ble_eq_true rfl) (by decide) d_TypeFinder_Known_init_219 (fun u H locs hu h => ?_)
  obtain ⟨q219_26, rfl⟩ : ∃ z, z = u := ⟨_, rfl⟩
  have h : xb_W G A s [(h0, .inr (4, [.ref q5_1, .ref q47_7, .ref q20_2, .ref q31_3, .int 0])), (q5_1, .inr (5, [.int 0, .int 0, .null, .null, .null, .null, .null, .int 0])), (q31_3, .inr (11, [.int 0, .ref (G.2.2.1), .int 0])), (q47_7, .inr (5, [.int 3, .int 0, .ref q47_5, .null, .null, .null, .null, .int 0])), (q47_6, .inr (11, [.int 2, .ref q80_10, .int 2])), (q80_10, .inl (G.2.1 5, 10, .inr (.inr (.inr (.inr (va_up (va_up (fun _ => none) (Int32.toNatClampNeg 0) (some q63_8)) (Int32.toNatClampNeg 1) (some q88_11))))))), (q47_5, .inr (6, [.long x43_4, .int 0, .ref q47_6, .ref q47_7, .int 1])), (q124_17, .inr (5, [.int 5, .int 0, .null, .null, .null, .null, .null, .int 0])), (q124_18, .inr (5, [.int 3, .int 0, .ref q124_15, .ref q124_17, .null, .null, .null, .int 0])), (q124_16, .inr (11, [.int 2, .ref q171_23, .int 2])), (q171_23, .inl (G.2.1 5, 10, .inr (.inr (.inr (.inr (va_up (va_up (fun _ => none) (Int32.toNatClampNeg 0) (some q154_21)) (Int32.toNatClampNeg 1) (some q179_24))))))), (q20_2, .inr (11, [.int 2, .ref q114_13, .int 2])), (q114_13, .inl (G.2.1 5, 10, .inr (.inr (.inr (.inr (va_up (va_up (fun _ => none) (Int32.toNatClampNeg 0) (some q47_5)) (Int32.toNatClampNeg 1) (some q124_15))))))), (q124_15, .inr (6, [.long x120_14, .int 1, .ref q124_16, .ref q124_18, .int 1]))] _ _ := h
  refine W.widen (k := 21) (n := 128) (by decide) (by decide) ?_
  refine W.eq (g2 := F0 m 222 ls [.ref q219_26]) rfl ?_
  refine lv_astore (pc := 222) (lv' := [(4, .ref q219_26), (3, .ref q146_20), (2, .ref q124_15), (1, .ref q47_5), (0, .ref h0)]) hx hb d_TypeFinder_Known_init_222 hl (by decide) rfl (fun ls hl => ?_)
  refine lv_aload_n (pc := 224) hx hb d_TypeFinder_Known_init_224 rfl (lv_at hl 4 rfl) ?_
  refine xb_get (pc := 225) F h cf_4 0 rfl 3 (by decide) rfl k_141 (Or.inl rfl) rfl d_TypeFinder_Known_init_225 ?_
  refine xb_new (pc := 228) (ws' := fun q228_27 => [(h0, .inr (4, [.ref q5_1, .ref q47_7, .ref q20_2, .ref q31_3, .int 0])), (q5_1, .inr (5, [.int 0, .int 0, .null, .null, .null, .null, .null, .int 0])), (q31_3, .inr (11, [.int 0, .ref (G.2.2.1), .int 0])), (q47_7, .inr (5, [.int 3, .int 0, .ref q47_5, .null, .null, .null, .null, .int 0])), (q47_6, .inr (11, [.int 2, .ref q80_10, .int 2])), (q80_10, .inl (G.2.1 5, 10, .inr (.inr (.inr (.inr (va_up (va_up (fun _ => none) (Int32.toNatClampNeg 0) (some q63_8)) (Int32.toNatClampNeg 1) (some q88_11))))))), (q47_5, .inr (6, [.long x43_4, .int 0, .ref q47_6, .ref q47_7, .int 1])), (q124_17, .inr (5, [.int 5, .int 0, .null, .null, .null, .null, .null, .int 0])), (q124_18, .inr (5, [.int 3, .int 0, .ref q124_15, .ref q124_17, .null, .null, .null, .int 0])), (q124_16, .inr (11, [.int 2, .ref q171_23, .int 2])), (q171_23, .inl (G.2.1 5, 10, .inr (.inr (.inr (.inr (va_up (va_up (fun _ => none) (Int32.toNatClampNeg 0) (some q154_21)) (Int32.toNatClampNeg 1) (some q179_24))))))), (q20_2, .inr (11, [.int 2, .ref q114_13, .int 2])), (q114_13, .inl (G.2.1 5, 10, .inr (.inr (.inr (.inr (va_up (va_up (fun _ => none) (Int32.toNatClampNeg 0) (some q47_5)) (Int32.toNatClampNeg 1) (some q124_15))))))), (q124_15, .inr (6, [.long x120_14, .int 1, .ref q124_16, .ref q124_18, .int 1])), (q228_27, .inr (7, [.long 0, .null, .int 0]))]) F h cf_7 k_152 k_153 k_154 df_7 (fun _ => rfl) (by decide) (by decide) d_TypeFinder_Known_init_228 (fun q228_27 H h => ?_)
  refine lv_dup (pc := 231) hx hb d_TypeFinder_Known_init_231 rfl ?_
  refine lv_ldc2 (pc := 232) (v := 43) hx hb hown (hts _ k_167) d_TypeFinder_Known_init_232 ?_
  refine lv_aload (pc := 235) hx hb d_TypeFinder_Known_init_235 (lv_at hl 0 rfl) ?_
  refine lv_iconst (pc := 237) (v := 1) hx hb d_TypeFinder_Known_init_237 (by decide) ?_
  refine xb_callI (pc := 238) (rm := rm_Name_init) (wr := [(h0, .inr (4, [.ref q5_1, .ref q47_7, .ref q20_2, .ref q31_3, .int 0])), (q5_1, .inr (5, [.int 0, .int 0, .null, .null, .null, .null, .null, .int 0])), (q31_3, .inr (11, [.int 0, .ref (G.2.2.1), .int 0])), (q47_7, .inr (5, [.int 3, .int 0, .ref q47_5, .null, .null, .null, .null, .int 0])), (q47_6, .inr (11, [.int 2, .ref q80_10, .int 2])), (q80_10, .inl (G.2.1 5, 10, .inr (.inr (.inr (.inr (va_up (va_up (fun _ => none) (Int32.toNatClampNeg 0) (some q63_8)) (Int32.toNatClampNeg 1) (some q88_11))))))), (q47_5, .inr (6, [.long x43_4, .int 0, .ref q47_6, .ref q47_7, .int 1])), (q124_17, .inr (5, [.int 5, .int 0, .null, .null, .null, .null, .null, .int 0])), (q124_18, .inr (5, [.int 3, .int 0, .ref q124_15, .ref q124_17, .null, .null, .null, .int 0])), (q124_16, .inr (11, [.int 2, .ref q171_23, .int 2])), (q171_23, .inl (G.2.1 5, 10, .inr (.inr (.inr (.inr (va_up (va_up (fun _ => none) (Int32.toNatClampNeg 0) (some q154_21)) (Int32.toNatClampNeg 1) (some q179_24))))))), (q20_2, .inr (11, [.int 2, .ref q114_13, .int 2])), (q114_13, .inl (G.2.1 5, 10, .inr (.inr (.inr (.inr (va_up (va_up (fun _ => none) (Int32.toNatClampNeg 0) (some q47_5)) (Int32.toNatClampNeg 1) (some q124_15))))))), (q124_15, .inr (6, [.long x120_14, .int 1, .ref q124_16, .ref q124_18, .int 1]))]) F h (ct_Name_init l G q228_27 43 q219_26) 3 k_155 k_154 k_156 k_157 rfl hd_TypeFinder_Name_init (by decide) [14] [0, 1, 2, 3, 4, 5, 6, 7, 8, 9, 10, 11, 12, 13] rfl rfl (by decide) (by decide) (by decide) xb_ss0 hl.1 rfl rfl (Nat.le_of_ble_eq_true rfl) (by decide) d_TypeFinder_Known_init_238 (fun u H locs hu h => ?_)
  have h : xb_W G A s [(h0, .inr (4, [.ref q5_1, .ref q47_7, .ref q20_2, .ref q31_3, .int 0])), (q5_1, .inr (5, [.int 0, .int 0, .null, .null, .null, .null, .null, .int 0])), (q31_3, .inr (11, [.int 0, .ref (G.2.2.1), .int 0])), (q47_7, .inr (5, [.int 3, .int 0, .ref q47_5, .null, .null, .null, .null, .int 0])), (q47_6, .inr (11, [.int 2, .ref q80_10, .int 2])), (q80_10, .inl (G.2.1 5, 10, .inr (.inr (.inr (.inr (va_up (va_up (fun _ => none) (Int32.toNatClampNeg 0) (some q63_8)) (Int32.toNatClampNeg 1) (some q88_11))))))), (q47_5, .inr (6, [.long x43_4, .int 0, .ref q47_6, .ref q47_7, .int 1])), (q124_17, .inr (5, [.int 5, .int 0, .null, .null, .null, .null, .null, .int 0])), (q124_18, .inr (5, [.int 3, .int 0, .ref q124_15, .ref q124_17, .null, .null, .null, .int 0])), (q124_16, .inr (11, [.int 2, .ref q171_23, .int 2])), (q171_23, .inl (G.2.1 5, 10, .inr (.inr (.inr (.inr (va_up (va_up (fun _ => none) (Int32.toNatClampNeg 0) (some q154_21)) (Int32.toNatClampNeg 1) (some q179_24))))))), (q20_2, .inr (11, [.int 2, .ref q114_13, .int 2])), (q114_13, .inl (G.2.1 5, 10, .inr (.inr (.inr (.inr (va_up (va_up (fun _ => none) (Int32.toNatClampNeg 0) (some q47_5)) (Int32.toNatClampNeg 1) (some q124_15))))))), (q124_15, .inr (6, [.long x120_14, .int 1, .ref q124_16, .ref q124_18, .int 1])), (q228_27, .inr (7, [.long 43, .ref q219_26, .int 1]))] _ _ := h
  refine W.widen (k := 22) (n := 131) (by decide) (by decide) ?_
  refine W.eq (g2 := F0 m 241 ls [.ref q228_27, .ref q31_3]) rfl ?_
  refine xb_callV (pc := 241) (rm := rm_AL_add_Name_0) (wr := [(h0, .inr (4, [.ref q5_1, .ref q47_7, .ref q20_2, .ref q31_3, .int 0])), (q5_1, .inr (5, [.int 0, .int 0, .null, .null, .null, .null, .null, .int 0])), (q47_7, .inr (5, [.int 3, .int 0, .ref q47_5, .null, .null, .null, .null, .int 0])), (q47_6, .inr (11, [.int 2, .ref q80_10, .int 2])), (q80_10, .inl (G.2.1 5, 10, .inr (.inr (.inr (.inr (va_up (va_up (fun _ => none) (Int32.toNatClampNeg 0) (some q63_8)) (Int32.toNatClampNeg 1) (some q88_11))))))), (q47_5, .inr (6, [.long x43_4, .int 0, .ref q47_6, .ref q47_7, .int 1])), (q124_17, .inr (5, [.int 5, .int 0, .null, .null, .null, .null, .null, .int 0])), (q124_18, .inr (5, [.int 3, .int 0, .ref q124_15, .ref q124_17, .null, .null, .null, .int 0])), (q124_16, .inr (11, [.int 2, .ref q171_23, .int 2])), (q171_23, .inl (G.2.1 5, 10, .inr (.inr (.inr (.inr (va_up (va_up (fun _ => none) (Int32.toNatClampNeg 0) (some q154_21)) (Int32.toNatClampNeg 1) (some q179_24))))))), (q20_2, .inr (11, [.int 2, .ref q114_13, .int 2])), (q114_13, .inl (G.2.1 5, 10, .inr (.inr (.inr (.inr (va_up (va_up (fun _ => none) (Int32.toNatClampNeg 0) (some q47_5)) (Int32.toNatClampNeg 1) (some q124_15))))))), (q124_15, .inr (6, [.long x120_14, .int 1, .ref q124_16, .ref q124_18, .int 1]))]) F h (ct_AL_add_Name_0 l G q31_3 q228_27 0 (.long 43) (.ref q219_26) (.int 1)) 1 (va_recv hK h.1 (q0 := 2) (ci := 11) rfl rfl) k_158 k_45 k_159 k_160 k_161 hd_ArrayList_add2 (by decide) [2, 14] [0, 1, 3, 4, 5, 6, 7, 8, 9, 10, 11, 12, 13] rfl rfl (by decide) (by decide) (by decide) xb_ss0 hl.1 rfl rfl (Nat.le_of_ble_eq_true rfl) (by decide) d_TypeFinder_Known_init_241 (fun u H locs hu h => ?_)
  obtain ⟨q241_28, rfl⟩ : ∃ z, z = u := ⟨_, rfl⟩
  have h : xb_W G A s [(h0, .inr (4, [.ref q5_1, .ref q47_7, .ref q20_2, .ref q31_3, .int 0])), (q5_1, .inr (5, [.int 0, .int 0, .null, .null, .null, .null, .null, .int 0])), (q47_7, .inr (5, [.int 3, .int 0, .ref q47_5, .null, .null, .null, .null, .int 0])), (q47_6, .inr (11, [.int 2, .ref q80_10, .int 2])), (q80_10, .inl (G.2.1 5, 10, .inr (.inr (.inr (.inr (va_up (va_up (fun _ => none) (Int32.toNatClampNeg 0) (some q63_8)) (Int32.toNatClampNeg 1) (some q88_11))))))), (q47_5, .inr (6, [.long x43_4, .int 0, .ref q47_6, .ref q47_7, .int 1])), (q124_17, .inr (5, [.int 5, .int 0, .null, .null, .null, .null, .null, .int 0])), (q124_18, .inr (5, [.int 3, .int 0, .ref q124_15, .ref q124_17, .null, .null, .null, .int 0])), (q124_16, .inr (11, [.int 2, .ref q171_23, .int 2])), (q171_23, .inl (G.2.1 5, 10, .inr (.inr (.inr (.inr (va_up (va_up (fun _ => none) (Int32.toNatClampNeg 0) (some q154_21)) (Int32.toNatClampNeg 1) (some q179_24))))))), (q20_2, .inr (11, [.int 2, .ref q114_13, .int 2])), (q114_13, .inl (G.2.1 5, 10, .inr (.inr (.inr (.inr (va_up (va_up (fun _ => none) (Int32.toNatClampNeg 0) (some q47_5)) (Int32.toNatClampNeg 1) (some q124_15))))))), (q124_15, .inr (6, [.long x120_14, .int 1, .ref q124_16, .ref q124_18, .int 1])), (q228_27, .inr (7, [.long 43, .ref q219_26, .int 1])), (q31_3, .inr (11, [.int 1, .ref q241_28, .int 1])), (q241_28, .inl (G.2.1 5, 10, .inr (.inr (.inr (.inr (va_up (fun _ => none) (Int32.toNatClampNeg 0) (some q228_27)))))))] _ _ := h
  refine W.widen (k := 23) (n := 141) (by decide) (by decide) ?_
  refine W.eq (g2 := F0 m 244 ls [.int 1]) rfl ?_
  refine lv_pop (pc := 244) hx hb d_TypeFinder_Known_init_244 rfl ?_
  have h := xb_sub (ws' := [(h0, .inr (4, [.ref q5_1, .ref q47_7, .ref q20_2, .ref q31_3, .int 0])), (q5_1, .inr (5, [.int 0, .int 0, .null, .null, .null, .null, .null, .int 0])), (q47_7, .inr (5, [.int 3, .int 0, .ref q47_5, .null, .null, .null, .null, .int 0])), (q47_6, .inr (11, [.int 2, .ref q80_10, .int 2])), (q80_10, .inl (G.2.1 5, 10, .inr (.inr (.inr (.inr (va_up (va_up (fun _ => none) (Int32.toNatClampNeg 0) (some q63_8)) (Int32.toNatClampNeg 1) (some q88_11))))))), (q47_5, .inr (6, [.long x43_4, .int 0, .ref q47_6, .ref q47_7, .int 1])), (q124_17, .inr (5, [.int 5, .int 0, .null, .null, .null, .null, .null, .int 0])), (q124_18, .inr (5, [.int 3, .int 0, .ref q124_15, .ref q124_17, .null, .null, .null, .int 0])), (q124_16, .inr (11, [.int 2, .ref q171_23, .int 2])), (q171_23, .inl (G.2.1 5, 10, .inr (.inr (.inr (.inr (va_up (va_up (fun _ => none) (Int32.toNatClampNeg 0) (some q154_21)) (Int32.toNatClampNeg 1) (some q179_24))))))), (q20_2, .inr (11, [.int 2, .ref q114_13, .int 2])), (q114_13, .inl (G.2.1 5, 10, .inr (.inr (.inr (.inr (va_up (va_up (fun _ => none) (Int32.toNatClampNeg 0) (some q47_5)) (Int32.toNatClampNeg 1) (some q124_15))))))), (q124_15, .inr (6, [.long x120_14, .int 1, .ref q124_16, .ref q124_18, .int 1])), (q31_3, .inr (11, [.int 1, .ref q241_28, .int 1])), (q241_28, .inl (G.2.1 5, 10, .inr (.inr (.inr (.inr (va_up (fun _ => none) (Int32.toNatClampNeg 0) (some q228_27)))))))]) h [0, 1, 2, 3, 4, 5, 6, 7, 8, 9, 10, 11, 12, 14, 15] (by decide) rfl
  refine lv_aload_n (pc := 245) hx hb d_TypeFinder_Known_init_245 rfl (lv_at hl 4 rfl) ?_
  refine xb_get (pc := 246) F h cf_4 0 rfl 3 (by decide) rfl k_141 (Or.inl rfl) rfl d_TypeFinder_Known_init_246 ?_
  refine xb_new (pc := 249) (ws' := fun q249_29 => [(h0, .inr (4, [.ref q5_1, .ref q47_7, .ref q20_2, .ref q31_3, .int 0])), (q5_1, .inr (5, [.int 0, .int 0, .null, .null, .null, .null, .null, .int 0])), (q47_7, .inr (5, [.int 3, .int 0, .ref q47_5, .null, .null, .null, .null, .int 0])), (q47_6, .inr (11, [.int 2, .ref q80_10, .int 2])), (q80_10, .inl (G.2.1 5, 10, .inr (.inr (.inr (.inr (va_up (va_up (fun _ => none) (Int32.toNatClampNeg 0) (some q63_8)) (Int32.toNatClampNeg 1) (some q88_11))))))), (q47_5, .inr (6, [.long x43_4, .int 0, .ref q47_6, .ref q47_7, .int 1])), (q124_17, .inr (5, [.int 5, .int 0, .null, .null, .null, .null, .null, .int 0])), (q124_18, .inr (5, [.int 3, .int 0, .ref q124_15, .ref q124_17, .null, .null, .null, .int 0])), (q124_16, .inr (11, [.int 2, .ref q171_23, .int 2])), (q171_23, .inl (G.2.1 5, 10, .inr (.inr (.inr (.inr (va_up (va_up (fun _ => none) (Int32.toNatClampNeg 0) (some q154_21)) (Int32.toNatClampNeg 1) (some q179_24))))))), (q20_2, .inr (11, [.int 2, .ref q114_13, .int 2])), (q114_13, .inl (G.2.1 5, 10, .inr (.inr (.inr (.inr (va_up (va_up (fun _ => none) (Int32.toNatClampNeg 0) (some q47_5)) (Int32.toNatClampNeg 1) (some q124_15))))))), (q124_15, .inr (6, [.long x120_14, .int 1, .ref q124_16, .ref q124_18, .int 1])), (q31_3, .inr (11, [.int 1, .ref q241_28, .int 1])), (q241_28, .inl (G.2.1 5, 10, .inr (.inr (.inr (.inr (va_up (fun _ => none) (Int32.toNatClampNeg 0) (some q228_27))))))), (q249_29, .inr (7, [.long 0, .null, .int 0]))]) F h cf_7 k_152 k_153 k_154 df_7 (fun _ => rfl) (by decide) (by decide) d_TypeFinder_Known_init_249 (fun q249_29 H h => ?_)
  refine lv_dup (pc := 252) hx hb d_TypeFinder_Known_init_252 rfl ?_
  refine lv_ldc2 (pc := 253) (v := 45) hx hb hown (hts _ k_168) d_TypeFinder_Known_init_253 ?_
  refine lv_aload (pc := 256) hx hb d_TypeFinder_Known_init_256 (lv_at hl 0 rfl) ?_
  refine lv_iconst (pc := 258) (v := 1) hx hb d_TypeFinder_Known_init_258 (by decide) ?_
  refine xb_callI (pc := 259) (rm := rm_Name_init) (wr := [(h0, .inr (4, [.ref q5_1, .ref q47_7, .ref q20_2, .ref q31_3, .int 0])), (q5_1, .inr (5, [.int 0, .int 0, .null, .null, .null, .null, .null, .int 0])), (q47_7, .inr (5, [.int 3, .int 0, .ref q47_5, .null, .null, .null, .null, .int 0])), (q47_6, .inr (11, [.int 2, .ref q80_10, .int 2])), (q80_10, .inl (G.2.1 5, 10, .inr (.inr (.inr (.inr (va_up (va_up (fun _ => none) (Int32.toNatClampNeg 0) (some q63_8)) (Int32.toNatClampNeg 1) (some q88_11))))))), (q47_5, .inr (6, [.long x43_4, .int 0, .ref q47_6, .ref q47_7, .int 1])), (q124_17, .inr (5, [.int 5, .int 0, .null, .null, .null, .null, .null, .int 0])), (q124_18, .inr (5, [.int 3, .int 0, .ref q124_15, .ref q124_17, .null, .null, .null, .int 0])), (q124_16, .inr (11, [.int 2, .ref q171_23, .int 2])), (q171_23, .inl (G.2.1 5, 10, .inr (.inr (.inr (.inr (va_up (va_up (fun _ => none) (Int32.toNatClampNeg 0) (some q154_21)) (Int32.toNatClampNeg 1) (some q179_24))))))), (q20_2, .inr (11, [.int 2, .ref q114_13, .int 2])), (q114_13, .inl (G.2.1 5, 10, .inr (.inr (.inr (.inr (va_up (va_up (fun _ => none) (Int32.toNatClampNeg 0) (some q47_5)) (Int32.toNatClampNeg 1) (some q124_15))))))), (q124_15, .inr (6, [.long x120_14, .int 1, .ref q124_16, .ref q124_18, .int 1])), (q31_3, .inr (11, [.int 1, .ref q241_28, .int 1])), (q241_28, .inl (G.2.1 5, 10, .inr (.inr (.inr (.inr (va_up (fun _ => none) (Int32.toNatClampNeg 0) (some q228_27)))))))]) F h (ct_Name_init l G q249_29 45 q219_26) 3 k_155 k_154 k_156 k_157 rfl hd_TypeFinder_Name_init (by decide) [15] [0, 1, 2, 3, 4, 5, 6, 7, 8, 9, 10, 11, 12, 13, 14] rfl rfl (by decide) (by decide) (by decide) xb_ss0 hl.1 rfl rfl (Nat.le_of_ble_eq_true rfl) (by decide) d_TypeFinder_Known_init_259 (fun u H locs hu h => ?_)
  have h : xb_W G A s [(h0, .inr (4, [.ref q5_1, .ref q47_7, .ref q20_2, .ref q31_3, .int 0])), (q5_1, .inr (5, [.int 0, .int 0, .null, .null, .null, .null, .null, .int 0])), (q47_7, .inr (5, [.int 3, .int 0, .ref q47_5, .null, .null, .null, .null, .int 0])), (q47_6, .inr (11, [.int 2, .ref q80_10, .int 2])), (q80_10, .inl (G.2.1 5, 10, .inr (.inr (.inr (.inr (va_up (va_up (fun _ => none) (Int32.toNatClampNeg 0) (some q63_8)) (Int32.toNatClampNeg 1) (some q88_11))))))), (q47_5, .inr (6, [.long x43_4, .int 0, .ref q47_6, .ref q47_7, .int 1])), (q124_17, .inr (5, [.int 5, .int 0, .null, .null, .null, .null, .null, .int 0])), (q124_18, .inr (5, [.int 3, .int 0, .ref q124_15, .ref q124_17, .null, .null, .null, .int 0])), (q124_16, .inr (11, [.int 2, .ref q171_23, .int 2])), (q171_23, .inl (G.2.1 5, 10, .inr (.inr (.inr (.inr (va_up (va_up (fun _ => none) (Int32.toNatClampNeg 0) (some q154_21)) (Int32.toNatClampNeg 1) (some q179_24))))))), (q20_2, .inr (11, [.int 2, .ref q114_13, .int 2])), (q114_13, .inl (G.2.1 5, 10, .inr (.inr (.inr (.inr (va_up (va_up (fun _ => none) (Int32.toNatClampNeg 0) (some q47_5)) (Int32.toNatClampNeg 1) (some q124_15))))))), (q124_15, .inr (6, [.long x120_14, .int 1, .ref q124_16, .ref q124_18, .int 1])), (q31_3, .inr (11, [.int 1, .ref q241_28, .int 1])), (q241_28, .inl (G.2.1 5, 10, .inr (.inr (.inr (.inr (va_up (fun _ => none) (Int32.toNatClampNeg 0) (some q228_27))))))), (q249_29, .inr (7, [.long 45, .ref q219_26, .int 1]))] _ _ := h
  refine W.widen (k := 24) (n := 144) (by decide) (by decide) ?_
  refine W.eq (g2 := F0 m 262 ls [.ref q249_29, .ref q31_3]) rfl ?_
  refine xb_callV (pc := 262) (rm := rm_AL_add_Name_1) (wr := [(h0, .inr (4, [.ref q5_1, .ref q47_7, .ref q20_2, .ref q31_3, .int 0])), (q5_1, .inr (5, [.int 0, .int 0, .null, .null, .null, .null, .null, .int 0])), (q47_7, .inr (5, [.int 3, .int 0, .ref q47_5, .null, .null, .null, .null, .int 0])), (q47_6, .inr (11, [.int 2, .ref q80_10, .int 2])), (q80_10, .inl (G.2.1 5, 10, .inr (.inr (.inr (.inr (va_up (va_up (fun _ => none) (Int32.toNatClampNeg 0) (some q63_8)) (Int32.toNatClampNeg 1) (some q88_11))))))), (q47_5, .inr (6, [.long x43_4, .int 0, .ref q47_6, .ref q47_7, .int 1])), (q124_17, .inr (5, [.int 5, .int 0, .null, .null, .null, .null, .null, .int 0])), (q124_18, .inr (5, [.int 3, .int 0, .ref q124_15, .ref q124_17, .null, .null, .null, .int 0])), (q124_16, .inr (11, [.int 2, .ref q171_23, .int 2])), (q171_23, .inl (G.2.1 5, 10, .inr (.inr (.inr (.inr (va_up (va_up (fun _ => none) (Int32.toNatClampNeg 0) (some q154_21)) (Int32.toNatClampNeg 1) (some q179_24))))))), (q20_2, .inr (11, [.int 2, .ref q114_13, .int 2])), (q114_13, .inl (G.2.1 5, 10, .inr (.inr (.inr (.inr (va_up (va_up (fun _ => none) (Int32.toNatClampNeg 0) (some q47_5)) (Int32.toNatClampNeg 1) (some q124_15))))))), (q124_15, .inr (6, [.long x120_14, .int 1, .ref q124_16, .ref q124_18, .int 1]))]) F h (ct_AL_add_Name_1 l G q31_3 q241_28 q249_29 1 (va_up (fun _ => none) (Int32.toNatClampNeg 0) (some q228_27)) (.long 45) (.ref q219_26) (.int 1)) 1 (va_recv hK h.1 (q0 := 13) (ci := 11) rfl rfl) k_158 k_45 k_159 k_160 k_161 hd_ArrayList_add2 (by decide) [13, 14, 15] [0, 1, 2, 3, 4, 5, 6, 7, 8, 9, 10, 11, 12] rfl rfl (by decide) (by decide) (by decide) xb_ss0 hl.1 rfl rfl (Nat.le_of_ble_eq_true rfl) (by decide) d_TypeFinder_Known_init_262 (fun u H locs hu h => ?_)
  have h : xb_W G A s [(h0, .inr (4, [.ref q5_1, .ref q47_7, .ref q20_2, .ref q31_3, .int 0])), (q5_1, .inr (5, [.int 0, .int 0, .null, .null, .null, .null, .null, .int 0])), (q47_7, .inr (5, [.int 3, .int 0, .ref q47_5, .null, .null, .null, .null, .int 0])), (q47_6, .inr (11, [.int 2, .ref q80_10, .int 2])), (q80_10, .inl (G.2.1 5, 10, .inr (.inr (.inr (.inr (va_up (va_up (fun _ => none) (Int32.toNatClampNeg 0) (some q63_8)) (Int32.toNatClampNeg 1) (some q88_11))))))), (q47_5, .inr (6, [.long x43_4, .int 0, .ref q47_6, .ref q47_7, .int 1])), (q124_17, .inr (5, [.int 5, .int 0, .null, .null, .null, .null, .null, .int 0])), (q124_18, .inr (5, [.int 3, .int 0, .ref q124_15, .ref q124_17, .null, .null, .null, .int 0])), (q124_16, .inr (11, [.int 2, .ref q171_23, .int 2])), (q171_23, .inl (G.2.1 5, 10, .inr (.inr (.inr (.inr (va_up (va_up (fun _ => none) (Int32.toNatClampNeg 0) (some q154_21)) (Int32.toNatClampNeg 1) (some q179_24))))))), (q20_2, .inr (11, [.int 2, .ref q114_13, .int 2])), (q114_13, .inl (G.2.1 5, 10, .inr (.inr (.inr (.inr (va_up (va_up (fun _ => none) (Int32.toNatClampNeg 0) (some q47_5)) (Int32.toNatClampNeg 1) (some q124_15))))))), (q124_15, .inr (6, [.long x120_14, .int 1, .ref q124_16, .ref q124_18, .int 1])), (q31_3, .inr (11, [.int 2, .ref q241_28, .int 2])), (q241_28, .inl (G.2.1 5, 10, .inr (.inr (.inr (.inr (va_up (va_up (fun _ => none) (Int32.toNatClampNeg 0) (some q228_27)) (Int32.toNatClampNeg 1) (some q249_29))))))), (q249_29, .inr (7, [.long 45, .ref q219_26, .int 1]))] _ _ := h
  refine W.widen (k := 24) (n := 144) (by decide) (by decide) ?_
  refine W.eq (g2 := F0 m 265 ls [.int 1]) rfl ?_
  refine lv_pop (pc := 265) hx hb d_TypeFinder_Known_init_265 rfl ?_
  have h := xb_sub (ws' := [(h0, .inr (4, [.ref q5_1, .ref q47_7, .ref q20_2, .ref q31_3, .int 0])), (q5_1, .inr (5, [.int 0, .int 0, .null, .null, .null, .null, .null, .int 0])), (q47_7, .inr (5, [.int 3, .int 0, .ref q47_5, .null, .null, .null, .null, .int 0])), (q47_6, .inr (11, [.int 2, .ref q80_10, .int 2])), (q80_10, .inl (G.2.1 5, 10, .inr (.inr (.inr (.inr (va_up (va_up (fun _ => none) (Int32.toNatClampNeg 0) (some q63_8)) (Int32.toNatClampNeg 1) (some q88_11))))))), (q47_5, .inr (6, [.long x43_4, .int 0, .ref q47_6, .ref q47_7, .int 1])), (q124_17, .inr (5, [.int 5, .int 0, .null, .null, .null, .null, .null, .int 0])), (q124_18, .inr (5, [.int 3, .int 0, .ref q124_15, .ref q124_17, .null, .null, .null, .int 0])), (q124_16, .inr (11, [.int 2, .ref q171_23, .int 2])), (q171_23, .inl (G.2.1 5, 10, .inr (.inr (.inr (.inr (va_up (va_up (fun _ => none) (Int32.toNatClampNeg 0) (some q154_21)) (Int32.toNatClampNeg 1) (some q179_24))))))), (q20_2, .inr (11, [.int 2, .ref q114_13, .int 2])), (q114_13, .inl (G.2.1 5, 10, .inr (.inr (.inr (.inr (va_up (va_up (fun _ => none) (Int32.toNatClampNeg 0) (some q47_5)) (Int32.toNatClampNeg 1) (some q124_15))))))), (q124_15, .inr (6, [.long x120_14, .int 1, .ref q124_16, .ref q124_18, .int 1])), (q31_3, .inr (11, [.int 2, .ref q241_28, .int 2])), (q241_28, .inl (G.2.1 5, 10, .inr (.inr (.inr (.inr (va_up (va_up (fun _ => none) (Int32.toNatClampNeg 0) (some q228_27)) (Int32.toNatClampNeg 1) (some q249_29)))))))]) h [0, 1, 2, 3, 4, 5, 6, 7, 8, 9, 10, 11, 12, 13, 14] (by decide) rfl
  refine lv_aload_n (pc := 266) hx hb d_TypeFinder_Known_init_266 rfl (lv_at hl 4 rfl) ?_
  refine xb_get (pc := 267) F h cf_4 0 rfl 3 (by decide) rfl k_141 (Or.inl rfl) rfl d_TypeFinder_Known_init_267 ?_
  refine xb_new (pc := 270) (ws' := fun q270_30 => [(h0, .inr (4, [.ref q5_1, .ref q47_7, .ref q20_2, .ref q31_3, .int 0])), (q5_1, .inr (5, [.int 0, .int 0, .null, .null, .null, .null, .null, .int 0])), (q47_7, .inr (5, [.int 3, .int 0, .ref q47_5, .null, .null, .null, .null, .int 0])), (q47_6, .inr (11, [.int 2, .ref q80_10, .int 2])), (q80_10, .inl (G.2.1 5, 10, .inr (.inr (.inr (.inr (va_up (va_up (fun _ => none) (Int32.toNatClampNeg 0) (some q63_8)) (Int32.toNatClampNeg 1) (some q88_11))))))), (q47_5, .inr (6, [.long x43_4, .int 0, .ref q47_6, .ref q47_7, .int 1])), (q124_17, .inr (5, [.int 5, .int 0, .null, .null, .null, .null, .null, .int 0])), (q124_18, .inr (5, [.int 3, .int 0, .ref q124_15, .ref q124_17, .null, .null, .null, .int 0])), (q124_16, .inr (11, [.int 2, .ref q171_23, .int 2])), (q171_23, .inl (G.2.1 5, 10, .inr (.inr (.inr (.inr (va_up (va_up (fun _ => none) (Int32.toNatClampNeg 0) (some q154_21)) (Int32.toNatClampNeg 1) (some q179_24))))))), (q20_2, .inr (11, [.int 2, .ref q114_13, .int 2])), (q114_13, .inl (G.2.1 5, 10, .inr (.inr (.inr (.inr (va_up (va_up (fun _ => none) (Int32.toNatClampNeg 0) (some q47_5)) (Int32.toNatClampNeg 1) (some q124_15))))))), (q124_15, .inr (6, [.long x120_14, .int 1, .ref q124_16, .ref q124_18, .int 1])), (q31_3, .inr (11, [.int 2, .ref q241_28, .int 2])), (q241_28, .inl (G.2.1 5, 10, .inr (.inr (.inr (.inr (va_up (va_up (fun _ => none) (Int32.toNatClampNeg 0) (some q228_27)) (Int32.toNatClampNeg 1) (some q249_29))))))), (q270_30, .inr (7, [.long 0, .null, .int 0]))]) F h cf_7 k_152 k_153 k_154 df_7 (fun _ => rfl) (by decide) (by decide) d_TypeFinder_Known_init_270 (fun q270_30 H h => ?_)
  refine lv_dup (pc := 273) hx hb d_TypeFinder_Known_init_273 rfl ?_
  refine lv_ldc2 (pc := 274) (v := 42) hx hb hown (hts _ k_169) d_TypeFinder_Known_init_274 ?_
  refine lv_aload (pc := 277) hx hb d_TypeFinder_Known_init_277 (lv_at hl 0 rfl) ?_
  refine lv_iconst (pc := 279) (v := 1) hx hb d_TypeFinder_Known_init_279 (by decide) ?_
  refine xb_callI (pc := 280) (rm := rm_Name_init) (wr := [(h0, .inr (4, [.ref q5_1, .ref q47_7, .ref q20_2, .ref q31_3, .int 0])), (q5_1, .inr (5, [.int 0, .int 0, .null, .null, .null, .null, .null, .int 0])), (q47_7, .inr (5, [.int 3, .int 0, .ref q47_5, .null, .null, .null, .null, .int 0])), (q47_6, .inr (11, [.int 2, .ref q80_10, .int 2])), (q80_10, .inl (G.2.1 5, 10, .inr (.inr (.inr (.inr (va_up (va_up (fun _ => none) (Int32.toNatClampNeg 0) (some q63_8)) (Int32.toNatClampNeg 1) (some q88_11))))))), (q47_5, .inr (6, [.long x43_4, .int 0, .ref q47_6, .ref q47_7, .int 1])), (q124_17, .inr (5, [.int 5, .int 0, .null, .null, .null, .null, .null, .int 0])), (q124_18, .inr (5, [.int 3, .int 0, .ref q124_15, .ref q124_17, .null, .null, .null, .int 0])), (q124_16, .inr (11, [.int 2, .ref q171_23, .int 2])), (q171_23, .inl (G.2.1 5, 10, .inr (.inr (.inr (.inr (va_up (va_up (fun _ => none) (Int32.toNatClampNeg 0) (some q154_21)) (Int32.toNatClampNeg 1) (some q179_24))))))), (q20_2, .inr (11, [.int 2, .ref q114_13, .int 2])), (q114_13, .inl (G.2.1 5, 10, .inr (.inr (.inr (.inr (va_up (va_up (fun _ => none) (Int32.toNatClampNeg 0) (some q47_5)) (Int32.toNatClampNeg 1) (some q124_15))))))), (q124_15, .inr (6, [.long x120_14, .int 1, .ref q124_16, .ref q124_18, .int 1])), (q31_3, .inr (11, [.int 2, .ref q241_28, .int 2])), (q241_28, .inl (G.2.1 5, 10, .inr (.inr (.inr (.inr (va_up (va_up (fun _ => none) (Int32.toNatClampNeg 0) (some q228_27)) (Int32.toNatClampNeg 1) (some q249_29)))))))]) F h (ct_Name_init l G q270_30 42 q219_26) 3 k_155 k_154 k_156 k_157 rfl hd_TypeFinder_Name_init (by decide) [15] [0, 1, 2, 3, 4, 5, 6, 7, 8, 9, 10, 11, 12, 13, 14] rfl rfl (by decide) (by decide) (by decide) xb_ss0 hl.1 rfl rfl (Nat.le_of_ble_eq_true rfl) (by decide) d_TypeFinder_Known_init_280 (fun u H locs hu h => ?_)
  have h : xb_W G A s [(h0, .inr (4, [.ref q5_1, .ref q47_7, .ref q20_2, .ref q31_3, .int 0])), (q5_1, .inr (5, [.int 0, .int 0, .null, .null, .null, .null, .null, .int 0])), (q47_7, .inr (5, [.int 3, .int 0, .ref q47_5, .null, .null, .null, .null, .int 0])), (q47_6, .inr (11, [.int 2, .ref q80_10, .int 2])), (q80_10, .inl (G.2.1 5, 10, .inr (.inr (.inr (.inr (va_up (va_up (fun _ => none) (Int32.toNatClampNeg 0) (some q63_8)) (Int32.toNatClampNeg 1) (some q88_11))))))), (q47_5, .inr (6, [.long x43_4, .int 0, .ref q47_6, .ref q47_7, .int 1])), (q124_17, .inr (5, [.int 5, .int 0, .null, .null, .null, .null, .null, .int 0])), (q124_18, .inr (5, [.int 3, .int 0, .ref q124_15, .ref q124_17, .null, .null, .null, .int 0])), (q124_16, .inr (11, [.int 2, .ref q171_23, .int 2])), (q171_23, .inl (G.2.1 5, 10, .inr (.inr (.inr (.inr (va_up (va_up (fun _ => none) (Int32.toNatClampNeg 0) (some q154_21)) (Int32.toNatClampNeg 1) (some q179_24))))))), (q20_2, .inr (11, [.int 2, .ref q114_13, .int 2])), (q114_13, .inl (G.2.1 5, 10, .inr (.inr (.inr (.inr (va_up (va_up (fun _ => none) (Int32.toNatClampNeg 0) (some q47_5)) (Int32.toNatClampNeg 1) (some q124_15))))))), (q124_15, .inr (6, [.long x120_14, .int 1, .ref q124_16, .ref q124_18, .int 1])), (q31_3, .inr (11, [.int 2, .ref q241_28, .int 2])), (q241_28, .inl (G.2.1 5, 10, .inr (.inr (.inr (.inr (va_up (va_up (fun _ => none) (Int32.toNatClampNeg 0) (some q228_27)) (Int32.toNatClampNeg 1) (some q249_29))))))), (q270_30, .inr (7, [.long 42, .ref q219_26, .int 1]))] _ _ := h
  refine W.widen (k := 25) (n := 147) (by decide) (by decide) ?_
  refine W.eq (g2 := F0 m 283 ls [.ref q270_30, .ref q31_3]) rfl ?_
  refine xb_callV (pc := 283) (rm := rm_AL_add_Name_2) (wr := [(h0, .inr (4, [.ref q5_1, .ref q47_7, .ref q20_2, .ref q31_3, .int 0])), (q5_1, .inr (5, [.int 0, .int 0, .null, .null, .null, .null, .null, .int 0])), (q47_7, .inr (5, [.int 3, .int 0, .ref q47_5, .null, .null, .null, .null, .int 0])), (q47_6, .inr (11, [.int 2, .ref q80_10, .int 2])), (q80_10, .inl (G.2.1 5, 10, .inr (.inr (.inr (.inr (va_up (va_up (fun _ => none) (Int32.toNatClampNeg 0) (some q63_8)) (Int32.toNatClampNeg 1) (some q88_11))))))), (q47_5, .inr (6, [.long x43_4, .int 0, .ref q47_6, .ref q47_7, .int 1])), (q124_17, .inr (5, [.int 5, .int 0, .null, .null, .null, .null, .null, .int 0])), (q124_18, .inr (5, [.int 3, .int 0, .ref q124_15, .ref q124_17, .null, .null, .null, .int 0])), (q124_16, .inr (11, [.int 2, .ref q171_23, .int 2])), (q171_23, .inl (G.2.1 5, 10, .inr (.inr (.inr (.inr (va_up (va_up (fun _ => none) (Int32.toNatClampNeg 0) (some q154_21)) (Int32.toNatClampNeg 1) (some q179_24))))))), (q20_2, .inr (11, [.int 2, .ref q114_13, .int 2])), (q114_13, .inl (G.2.1 5, 10, .inr (.inr (.inr (.inr (va_up (va_up (fun _ => none) (Int32.toNatClampNeg 0) (some q47_5)) (Int32.toNatClampNeg 1) (some q124_15))))))), (q124_15, .inr (6, [.long x120_14, .int 1, .ref q124_16, .ref q124_18, .int 1]))]) F h (ct_AL_add_Name_2 l G q31_3 q241_28 q270_30 2 (va_up (va_up (fun _ => none) (Int32.toNatClampNeg 0) (some q228_27)) (Int32.toNatClampNeg 1) (some q249_29)) (.long 42) (.ref q219_26) (.int 1)) 1 (va_recv hK h.1 (q0 := 13) (ci := 11) rfl rfl) k_158 k_45 k_159 k_160 k_161 hd_ArrayList_add2 (by decide) [13, 14, 15] [0, 1, 2, 3, 4, 5, 6, 7, 8, 9, 10, 11, 12] rfl rfl (by decide) (by decide) (by decide) xb_ss0 hl.1 rfl rfl (Nat.le_of_ble_eq_true rfl) (by decide) d_TypeFinder_Known_init_283 (fun u H locs hu h => ?_)
  have h : xb_W G A s [(h0, .inr (4, [.ref q5_1, .ref q47_7, .ref q20_2, .ref q31_3, .int 0])), (q5_1, .inr (5, [.int 0, .int 0, .null, .null, .null, .null, .null, .int 0])), (q47_7, .inr (5, [.int 3, .int 0, .ref q47_5, .null, .null, .null, .null, .int 0])), (q47_6, .inr (11, [.int 2, .ref q80_10, .int 2])), (q80_10, .inl (G.2.1 5, 10, .inr (.inr (.inr (.inr (va_up (va_up (fun _ => none) (Int32.toNatClampNeg 0) (some q63_8)) (Int32.toNatClampNeg 1) (some q88_11))))))), (q47_5, .inr (6, [.long x43_4, .int 0, .ref q47_6, .ref q47_7, .int 1])), (q124_17, .inr (5, [.int 5, .int 0, .null, .null, .null, .null, .null, .int 0])), (q124_18, .inr (5, [.int 3, .int 0, .ref q124_15, .ref q124_17, .null, .null, .null, .int 0])), (q124_16, .inr (11, [.int 2, .ref q171_23, .int 2])), (q171_23, .inl (G.2.1 5, 10, .inr (.inr (.inr (.inr (va_up (va_up (fun _ => none) (Int32.toNatClampNeg 0) (some q154_21)) (Int32.toNatClampNeg 1) (some q179_24))))))), (q20_2, .inr (11, [.int 2, .ref q114_13, .int 2])), (q114_13, .inl (G.2.1 5, 10, .inr (.inr (.inr (.inr (va_up (va_up (fun _ => none) (Int32.toNatClampNeg 0) (some q47_5)) (Int32.toNatClampNeg 1) (some q124_15))))))), (q124_15, .inr (6, [.long x120_14, .int 1, .ref q124_16, .ref q124_18, .int 1])), (q31_3, .inr (11, [.int 3, .ref q241_28, .int 3])), (q241_28, .inl (G.2.1 5, 10, .inr (.inr (.inr (.inr (va_up (va_up (va_up (fun _ => none) (Int32.toNatClampNeg 0) (some q228_27)) (Int32.toNatClampNeg 1) (some q249_29)) (Int32.toNatClampNeg 2) (some q270_30))))))), (q270_30, .inr (7, [.long 42, .ref q219_26, .int 1]))] _ _ := h
  refine W.widen (k := 25) (n := 147) (by decide) (by decide) ?_
  refine W.eq (g2 := F0 m 286 ls [.int 1]) rfl ?_
  refine lv_pop (pc := 286) hx hb d_TypeFinder_Known_init_286 rfl ?_
  have h := xb_sub (ws' := [(h0, .inr (4, [.ref q5_1, .ref q47_7, .ref q20_2, .ref q31_3, .int 0])), (q5_1, .inr (5, [.int 0, .int 0, .null, .null, .null, .null, .null, .int 0])), (q47_7, .inr (5, [.int 3, .int 0, .ref q47_5, .null, .null, .null, .null, .int 0])), (q47_6, .inr (11, [.int 2, .ref q80_10, .int 2])), (q80_10, .inl (G.2.1 5, 10, .inr (.inr (.inr (.inr (va_up (va_up (fun _ => none) (Int32.toNatClampNeg 0) (some q63_8)) (Int32.toNatClampNeg 1) (some q88_11))))))), (q47_5, .inr (6, [.long x43_4, .int 0, .ref q47_6, .ref q47_7, .int 1])), (q124_17, .inr (5, [.int 5, .int 0, .null, .null, .null, .null, .null, .int 0])), (q124_18, .inr (5, [.int 3, .int 0, .ref q124_15, .ref q124_17, .null, .null, .null, .int 0])), (q124_16, .inr (11, [.int 2, .ref q171_23, .int 2])), (q171_23, .inl (G.2.1 5, 10, .inr (.inr (.inr (.inr (va_up (va_up (fun _ => none) (Int32.toNatClampNeg 0) (some q154_21)) (Int32.toNatClampNeg 1) (some q179_24))))))), (q20_2, .inr (11, [.int 2, .ref q114_13, .int 2])), (q114_13, .inl (G.2.1 5, 10, .inr (.inr (.inr (.inr (va_up (va_up (fun _ => none) (Int32.toNatClampNeg 0) (some q47_5)) (Int32.toNatClampNeg 1) (some q124_15))))))), (q124_15, .inr (6, [.long x120_14, .int 1, .ref q124_16, .ref q124_18, .int 1])), (q31_3, .inr (11, [.int 3, .ref q241_28, .int 3])), (q241_28, .inl (G.2.1 5, 10, .inr (.inr (.inr (.inr (va_up (va_up (va_up (fun _ => none) (Int32.toNatClampNeg 0) (some q228_27)) (Int32.toNatClampNeg 1) (some q249_29)) (Int32.toNatClampNeg 2) (some q270_30)))))))]) h [0, 1, 2, 3, 4, 5, 6, 7, 8, 9, 10, 11, 12, 13, 14] (by decide) rfl
  refine lv_aload_n (pc := 287) hx hb d_TypeFinder_Known_init_287 rfl (lv_at hl 4 rfl) ?_
  refine xb_get (pc := 288) F h cf_4 0 rfl 3 (by decide) rfl k_141 (Or.inl rfl) rfl d_TypeFinder_Known_init_288 ?_
  refine xb_new (pc := 291) (ws' := fun q291_31 => [(h0, .inr (4, [.ref q5_1, .ref q47_7, .ref q20_2, .ref q31_3, .int 0])), (q5_1, .inr (5, [.int 0, .int 0, .null, .null, .null, .null, .null, .int 0])), (q47_7, .inr (5, [.int 3, .int 0, .ref q47_5, .null, .null, .null, .null, .int 0])), (q47_6, .inr (11, [.int 2, .ref q80_10, .int 2])), (q80_10, .inl (G.2.1 5, 10, .inr (.inr (.inr (.inr (va_up (va_up (fun _ => none) (Int32.toNatClampNeg 0) (some q63_8)) (Int32.toNatClampNeg 1) (some q88_11))))))), (q47_5, .inr (6, [.long x43_4, .int 0, .ref q47_6, .ref q47_7, .int 1])), (q124_17, .inr (5, [.int 5, .int 0, .null, .null, .null, .null, .null, .int 0])), (q124_18, .inr (5, [.int 3, .int 0, .ref q124_15, .ref q124_17, .null, .null, .null, .int 0])), (q124_16, .inr (11, [.int 2, .ref q171_23, .int 2])), (q171_23, .inl (G.2.1 5, 10, .inr (.inr (.inr (.inr (va_up (va_up (fun _ => none) (Int32.toNatClampNeg 0) (some q154_21)) (Int32.toNatClampNeg 1) (some q179_24))))))), (q20_2, .inr (11, [.int 2, .ref q114_13, .int 2])), (q114_13, .inl (G.2.1 5, 10, .inr (.inr (.inr (.inr (va_up (va_up (fun _ => none) (Int32.toNatClampNeg 0) (some q47_5)) (Int32.toNatClampNeg 1) (some q124_15))))))), (q124_15, .inr (6, [.long x120_14, .int 1, .ref q124_16, .ref q124_18, .int 1])), (q31_3, .inr (11, [.int 3, .ref q241_28, .int 3])), (q241_28, .inl (G.2.1 5, 10, .inr (.inr (.inr (.inr (va_up (va_up (va_up (fun _ => none) (Int32.toNatClampNeg 0) (some q228_27)) (Int32.toNatClampNeg 1) (some q249_29)) (Int32.toNatClampNeg 2) (some q270_30))))))), (q291_31, .inr (7, [.long 0, .null, .int 0]))]) F h cf_7 k_152 k_153 k_154 df_7 (fun _ => rfl) (by decide) (by decide) d_TypeFinder_Known_init_291 (fun q291_31 H h => ?_)
  refine lv_dup (pc := 294) hx hb d_TypeFinder_Known_init_294 rfl ?_
  refine lv_ldc2 (pc := 295) (v := 47) hx hb hown (hts _ k_170) d_TypeFinder_Known_init_295 ?_
  refine lv_aload (pc := 298) hx hb d_TypeFinder_Known_init_298 (lv_at hl 0 rfl) ?_
  refine lv_iconst (pc := 300) (v := 1) hx hb d_TypeFinder_Known_init_300 (by decide) ?_
  refine xb_callI (pc := 301) (rm := rm_Name_init) (wr := [(h0, .inr (4, [.ref q5_1, .ref q47_7, .ref q20_2, .ref q31_3, .int 0])), (q5_1, .inr (5, [.int 0, .int 0, .null, .null, .null, .null, .null, .int 0])), (q47_7, .inr (5, [.int 3, .int 0, .ref q47_5, .null, .null, .null, .null, .int 0])), (q47_6, .inr (11, [.int 2, .ref q80_10, .int 2])), (q80_10, .inl (G.2.1 5, 10, .inr (.inr (.inr (.inr (va_up (va_up (fun _ => none) (Int32.toNatClampNeg 0) (some q63_8)) (Int32.toNatClampNeg 1) (some q88_11))))))), (q47_5, .inr (6, [.long x43_4, .int 0, .ref q47_6, .ref q47_7, .int 1])), (q124_17, .inr (5, [.int 5, .int 0, .null, .null, .null, .null, .null, .int 0])), (q124_18, .inr (5, [.int 3, .int 0, .ref q124_15, .ref q124_17, .null, .null, .null, .int 0])), (q124_16, .inr (11, [.int 2, .ref q171_23, .int 2])), (q171_23, .inl (G.2.1 5, 10, .inr (.inr (.inr (.inr (va_up (va_up (fun _ => none) (Int32.toNatClampNeg 0) (some q154_21)) (Int32.toNatClampNeg 1) (some q179_24))))))), (q20_2, .inr (11, [.int 2, .ref q114_13, .int 2])), (q114_13, .inl (G.2.1 5, 10, .inr (.inr (.inr (.inr (va_up (va_up (fun _ => none) (Int32.toNatClampNeg 0) (some q47_5)) (Int32.toNatClampNeg 1) (some q124_15))))))), (q124_15, .inr (6, [.long x120_14, .int 1, .ref q124_16, .ref q124_18, .int 1])), (q31_3, .inr (11, [.int 3, .ref q241_28, .int 3])), (q241_28, .inl (G.2.1 5, 10, .inr (.inr (.inr (.inr (va_up (va_up (va_up (fun _ => none) (Int32.toNatClampNeg 0) (some q228_27)) (Int32.toNatClampNeg 1) (some q249_29)) (Int32.toNatClampNeg 2) (some q270_30)))))))]) F h (ct_Name_init l G q291_31 47 q219_26) 3 k_155 k_154 k_156 k_157 rfl hd_TypeFinder_Name_init (by decide) [15] [0, 1, 2, 3, 4, 5, 6, 7, 8, 9, 10, 11, 12, 13, 14] rfl rfl (by decide) (by decide) (by decide) xb_ss0 hl.1 rfl rfl (Nat.le_of_ble_eq_true rfl) (by decide) d_TypeFinder_Known_init_301 (fun u H locs hu h => ?_)
  have h : xb_W G A s [(h0, .inr (4, [.ref q5_1, .ref q47_7, .ref q20_2, .ref q31_3, .int 0])), (q5_1, .inr (5, [.int 0, .int 0, .null, .null, .null, .null, .null, .int 0])), (q47_7, .inr (5, [.int 3, .int 0, .ref q47_5, .null, .null, .null, .null, .int 0])), (q47_6, .inr (11, [.int 2, .ref q80_10, .int 2])), (q80_10, .inl (G.2.1 5, 10, .inr (.inr (.inr (.inr (va_up (va_up (fun _ => none) (Int32.toNatClampNeg 0) (some q63_8)) (Int32.toNatClampNeg 1) (some q88_11))))))), (q47_5, .inr (6, [.long x43_4, .int 0, .ref q47_6, .ref q47_7, .int 1])), (q124_17, .inr (5, [.int 5, .int 0, .null, .null, .null, .null, .null, .int 0])), (q124_18, .inr (5, [.int 3, .int 0, .ref q124_15, .ref q124_17, .null, .null, .null, .int 0])), (q124_16, .inr (11, [.int 2, .ref q171_23, .int 2])), (q171_23, .inl (G.2.1 5, 10, .inr (.inr (.inr (.inr (va_up (va_up (fun _ => none) (Int32.toNatClampNeg 0) (some q154_21)) (Int32.toNatClampNeg 1) (some q179_24))))))), (q20_2, .inr (11, [.int 2, .ref q114_13, .int 2])), (q114_13, .inl (G.2.1 5, 10, .inr (.inr (.inr (.inr (va_up (va_up (fun _ => none) (Int32.toNatClampNeg 0) (some q47_5)) (Int32.toNatClampNeg 1) (some q124_15))))))), (q124_15, .inr (6, [.long x120_14, .int 1, .ref q124_16, .ref q124_18, .int 1])), (q31_3, .inr (11, [.int 3, .ref q241_28, .int 3])), (q241_28, .inl (G.2.1 5, 10, .inr (.inr (.inr (.inr (va_up (va_up (va_up (fun _ => none) (Int32.toNatClampNeg 0) (some q228_27)) (Int32.toNatClampNeg 1) (some q249_29)) (Int32.toNatClampNeg 2) (some q270_30))))))), (q291_31, .inr (7, [.long 47, .ref q219_26, .int 1]))] _ _ := h
  refine W.widen (k := 26) (n := 150) (by decide) (by decide) ?_
  refine W.eq (g2 := F0 m 304 ls [.ref q291_31, .ref q31_3]) rfl ?_
  refine xb_callV (pc := 304) (rm := rm_AL_add_Name_3) (wr := [(h0, .inr (4, [.ref q5_1, .ref q47_7, .ref q20_2, .ref q31_3, .int 0])), (q5_1, .inr (5, [.int 0, .int 0, .null, .null, .null, .null, .null, .int 0])), (q47_7, .inr (5, [.int 3, .int 0, .ref q47_5, .null, .null, .null, .null, .int 0])), (q47_6, .inr (11, [.int 2, .ref q80_10, .int 2])), (q80_10, .inl (G.2.1 5, 10, .inr (.inr (.inr (.inr (va_up (va_up (fun _ => none) (Int32.toNatClampNeg 0) (some q63_8)) (Int32.toNatClampNeg 1) (some q88_11))))))), (q47_5, .inr (6, [.long x43_4, .int 0, .ref q47_6, .ref q47_7, .int 1])), (q124_17, .inr (5, [.int 5, .int 0, .null, .null, .null, .null, .null, .int 0])), (q124_18, .inr (5, [.int 3, .int 0, .ref q124_15, .ref q124_17, .null, .null, .null, .int 0])), (q124_16, .inr (11, [.int 2, .ref q171_23, .int 2])), (q171_23, .inl (G.2.1 5, 10, .inr (.inr (.inr (.inr (va_up (va_up (fun _ => none) (Int32.toNatClampNeg 0) (some q154_21)) (Int32.toNatClampNeg 1) (some q179_24))))))), (q20_2, .inr (11, [.int 2, .ref q114_13, .int 2])), (q114_13, .inl (G.2.1 5, 10, .inr (.inr (.inr (.inr (va_up (va_up (fun _ => none) (Int32.toNatClampNeg 0) (some q47_5)) (Int32.toNatClampNeg 1) (some q124_15))))))), (q124_15, .inr (6, [.long x120_14, .int 1, .ref q124_16, .ref q124_18, .int 1]))]) F h (ct_AL_add_Name_3 l G q31_3 q241_28 q291_31 3 (va_up (va_up (va_up (fun _ => none) (Int32.toNatClampNeg 0) (some q228_27)) (Int32.toNatClampNeg 1) (some q249_29)) (Int32.toNatClampNeg 2) (some q270_30)) (.long 47) (.ref q219_26) (.int 1)) 1 (va_recv hK h.1 (q0 := 13) (ci := 11) rfl rfl) k_158 k_45 k_159 k_160 k_161 hd_ArrayList_add2 (by decide) [13, 14, 15] [0, 1, 2, 3, 4, 5, 6, 7, 8, 9, 10, 11, 12] rfl rfl (by decide) (by decide) (by decide) xb_ss0 hl.1 rfl rfl (Nat.le_of_ble_eq_true rfl) (by decide) d_TypeFinder_Known_init_304 (fun u H locs hu h => ?_)
  have h : xb_W G A s [(h0, .inr (4, [.ref q5_1, .ref q47_7, .ref q20_2, .ref q31_3, .int 0])), (q5_1, .inr (5, [.int 0, .int 0, .null, .null, .null, .null, .null, .int 0])), (q47_7, .inr (5, [.int 3, .int 0, .ref q47_5, .null, .null, .null, .null, .int 0])), (q47_6, .inr (11, [.int 2, .ref q80_10, .int 2])), (q80_10, .inl (G.2.1 5, 10, .inr (.inr (.inr (.inr (va_up (va_up (fun _ => none) (Int32.toNatClampNeg 0) (some q63_8)) (Int32.toNatClampNeg 1) (some q88_11))))))), (q47_5, .inr (6, [.long x43_4, .int 0, .ref q47_6, .ref q47_7, .int 1])), (q124_17, .inr (5, [.int 5, .int 0, .null, .null, .null, .null, .null, .int 0])), (q124_18, .inr (5, [.int 3, .int 0, .ref q124_15, .ref q124_17, .null, .null, .null, .int 0])), (q124_16, .inr (11, [.int 2, .ref q171_23, .int 2])), (q171_23, .inl (G.2.1 5, 10, .inr (.inr (.inr (.inr (va_up (va_up (fun _ => none) (Int32.toNatClampNeg 0) (some q154_21)) (Int32.toNatClampNeg 1) (some q179_24))))))), (q20_2, .inr (11, [.int 2, .ref q114_13, .int 2])), (q114_13, .inl (G.2.1 5, 10, .inr (.inr (.inr (.inr (va_up (va_up (fun _ => none) (Int32.toNatClampNeg 0) (some q47_5)) (Int32.toNatClampNeg 1) (some q124_15))))))), (q124_15, .inr (6, [.long x120_14, .int 1, .ref q124_16, .ref q124_18, .int 1])), (q31_3, .inr (11, [.int 4, .ref q241_28, .int 4])), (q241_28, .inl (G.2.1 5, 10, .inr (.inr (.inr (.inr (va_up (va_up (va_up (va_up (fun _ => none) (Int32.toNatClampNeg 0) (some q228_27)) (Int32.toNatClampNeg 1) (some q249_29)) (Int32.toNatClampNeg 2) (some q270_30)) (Int32.toNatClampNeg 3) (some q291_31))))))), (q291_31, .inr (7, [.long 47, .ref q219_26, .int 1]))] _ _ := h
  refine W.widen (k := 26) (n := 150) (by decide) (by decide) ?_
  refine W.eq (g2 := F0 m 307 ls [.int 1]) rfl ?_
  refine lv_pop (pc := 307) hx hb d_TypeFinder_Known_init_307 rfl ?_
  have h := xb_sub (ws' := [(h0, .inr (4, [.ref q5_1, .ref q47_7, .ref q20_2, .ref q31_3, .int 0])), (q5_1, .inr (5, [.int 0, .int 0, .null, .null, .null, .null, .null, .int 0])), (q47_7, .inr (5, [.int 3, .int 0, .ref q47_5, .null, .null, .null, .null, .int 0])), (q47_6, .inr (11, [.int 2, .ref q80_10, .int 2])), (q80_10, .inl (G.2.1 5, 10, .inr (.inr (.inr (.inr (va_up (va_up (fun _ => none) (Int32.toNatClampNeg 0) (some q63_8)) (Int32.toNatClampNeg 1) (some q88_11))))))), (q47_5, .inr (6, [.long x43_4, .int 0, .ref q47_6, .ref q47_7, .int 1])), (q124_17, .inr (5, [.int 5, .int 0, .null, .null, .null, .null, .null, .int 0])), (q124_18, .inr (5, [.int 3, .int 0, .ref q124_15, .ref q124_17, .null, .null, .null, .int 0])), (q124_16, .inr (11, [.int 2, .ref q171_23, .int 2])), (q171_23, .inl (G.2.1 5, 10, .inr (.inr (.inr (.inr (va_up (va_up (fun _ => none) (Int32.toNatClampNeg 0) (some q154_21)) (Int32.toNatClampNeg 1) (some q179_24))))))), (q20_2, .inr (11, [.int 2, .ref q114_13, .int 2])), (q114_13, .inl (G.2.1 5, 10, .inr (.inr (.inr (.inr (va_up (va_up (fun _ => none) (Int32.toNatClampNeg 0) (some q47_5)) (Int32.toNatClampNeg 1) (some q124_15))))))), (q124_15, .inr (6, [.long x120_14, .int 1, .ref q124_16, .ref q124_18, .int 1])), (q31_3, .inr (11, [.int 4, .ref q241_28, .int 4])), (q241_28, .inl (G.2.1 5, 10, .inr (.inr (.inr (.inr (va_up (va_up (va_up (va_up (fun _ => none) (Int32.toNatClampNeg 0) (some q228_27)) (Int32.toNatClampNeg 1) (some q249_29)) (Int32.toNatClampNeg 2) (some q270_30)) (Int32.toNatClampNeg 3) (some q291_31)))))))]) h [0, 1, 2, 3, 4, 5, 6, 7, 8, 9, 10, 11, 12, 13, 14] (by decide) rfl
  refine lv_aload_n (pc := 308) hx hb d_TypeFinder_Known_init_308 rfl (lv_at hl 4 rfl) ?_
  refine xb_get (pc := 309) F h cf_4 0 rfl 3 (by decide) rfl k_141 (Or.inl rfl) rfl d_TypeFinder_Known_init_309 ?_
  refine xb_new (pc := 312) (ws' := fun q312_32 => [(h0, .inr (4, [.ref q5_1, .ref q47_7, .ref q20_2, .ref q31_3, .int 0])), (q5_1, .inr (5, [.int 0, .int 0, .null, .null, .null, .null, .null, .int 0])), (q47_7, .inr (5, [.int 3, .int 0, .ref q47_5, .null, .null, .null, .null, .int 0])), (q47_6, .inr (11, [.int 2, .ref q80_10, .int 2])), (q80_10, .inl (G.2.1 5, 10, .inr (.inr (.inr (.inr (va_up (va_up (fun _ => none) (Int32.toNatClampNeg 0) (some q63_8)) (Int32.toNatClampNeg 1) (some q88_11))))))), (q47_5, .inr (6, [.long x43_4, .int 0, .ref q47_6, .ref q47_7, .int 1])), (q124_17, .inr (5, [.int 5, .int 0, .null, .null, .null, .null, .null, .int 0])), (q124_18, .inr (5, [.int 3, .int 0, .ref q124_15, .ref q124_17, .null, .null, .null, .int 0])), (q124_16, .inr (11, [.int 2, .ref q171_23, .int 2])), (q171_23, .inl (G.2.1 5, 10, .inr (.inr (.inr (.inr (va_up (va_up (fun _ => none) (Int32.toNatClampNeg 0) (some q154_21)) (Int32.toNatClampNeg 1) (some q179_24))))))), (q20_2, .inr (11, [.int 2, .ref q114_13, .int 2])), (q114_13, .inl (G.2.1 5, 10, .inr (.inr (.inr (.inr (va_up (va_up (fun _ => none) (Int32.toNatClampNeg 0) (some q47_5)) (Int32.toNatClampNeg 1) (some q124_15))))))), (q124_15, .inr (6, [.long x120_14, .int 1, .ref q124_16, .ref q124_18, .int 1])), (q31_3, .inr (11, [.int 4, .ref q241_28, .int 4])), (q241_28, .inl (G.2.1 5, 10, .inr (.inr (.inr (.inr (va_up (va_up (va_up (va_up (fun _ => none) (Int32.toNatClampNeg 0) (some q228_27)) (Int32.toNatClampNeg 1) (some q249_29)) (Int32.toNatClampNeg 2) (some q270_30)) (Int32.toNatClampNeg 3) (some q291_31))))))), (q312_32, .inr (7, [.long 0, .null, .int 0]))]) F h cf_7 k_152 k_153 k_154 df_7 (fun _ => rfl) (by decide) (by decide) d_TypeFinder_Known_init_312 (fun q312_32 H h => ?_)
  refine lv_dup (pc := 315) hx hb d_TypeFinder_Known_init_315 rfl ?_
  refine lv_ldc2 (pc := 316) (v := 60) hx hb hown (hts _ k_171) d_TypeFinder_Known_init_316 ?_
  refine lv_aload_n (pc := 319) hx hb d_TypeFinder_Known_init_319 rfl (lv_at hl 4 rfl) ?_
  refine xb_get (pc := 320) F h cf_4 0 rfl 0 (by decide) rfl k_137 (Or.inl rfl) rfl d_TypeFinder_Known_init_320 ?_
  refine lv_aload_n (pc := 323) hx hb d_TypeFinder_Known_init_323 rfl (lv_at hl 4 rfl) ?_
  refine xb_get (pc := 324) F h cf_4 0 rfl 0 (by decide) rfl k_137 (Or.inl rfl) rfl d_TypeFinder_Known_init_324 ?_
  refine lv_aload_n (pc := 327) hx hb d_TypeFinder_Known_init_327 rfl (lv_at hl 4 rfl) ?_
  refine xb_get (pc := 328) F h cf_4 0 rfl 1 (by decide) rfl k_150 (Or.inl rfl) rfl d_TypeFinder_Known_init_328 ?_
  refine xb_callS (pc := 331) (rm := rm_function) (wr := [(h0, .inr (4, [.ref q5_1, .ref q47_7, .ref q20_2, .ref q31_3, .int 0])), (q5_1, .inr (5, [.int 0, .int 0, .null, .null, .null, .null, .null, .int 0])), (q47_7, .inr (5, [.int 3, .int 0, .ref q47_5, .null, .null, .null, .null, .int 0])), (q47_6, .inr (11, [.int 2, .ref q80_10, .int 2])), (q80_10, .inl (G.2.1 5, 10, .inr (.inr (.inr (.inr (va_up (va_up (fun _ => none) (Int32.toNatClampNeg 0) (some q63_8)) (Int32.toNatClampNeg 1) (some q88_11))))))), (q47_5, .inr (6, [.long x43_4, .int 0, .ref q47_6, .ref q47_7, .int 1])), (q124_17, .inr (5, [.int 5, .int 0, .null, .null, .null, .null, .null, .int 0])), (q124_18, .inr (5, [.int 3, .int 0, .ref q124_15, .ref q124_17, .null, .null, .null, .int 0])), (q124_16, .inr (11, [.int 2, .ref q171_23, .int 2])), (q171_23, .inl (G.2.1 5, 10, .inr (.inr (.inr (.inr (va_up (va_up (fun _ => none) (Int32.toNatClampNeg 0) (some q154_21)) (Int32.toNatClampNeg 1) (some q179_24))))))), (q20_2, .inr (11, [.int 2, .ref q114_13, .int 2])), (q114_13, .inl (G.2.1 5, 10, .inr (.inr (.inr (.inr (va_up (va_up (fun _ => none) (Int32.toNatClampNeg 0) (some q47_5)) (Int32.toNatClampNeg 1) (some q124_15))))))), (q124_15, .inr (6, [.long x120_14, .int 1, .ref q124_16, .ref q124_18, .int 1])), (q31_3, .inr (11, [.int 4, .ref q241_28, .int 4])), (q241_28, .inl (G.2.1 5, 10, .inr (.inr (.inr (.inr (va_up (va_up (va_up (va_up (fun _ => none) (Int32.toNatClampNeg 0) (some q228_27)) (Int32.toNatClampNeg 1) (some q249_29)) (Int32.toNatClampNeg 2) (some q270_30)) (Int32.toNatClampNeg 3) (some q291_31))))))), (q312_32, .inr (7, [.long 0, .null, .int 0]))]) F h (ct_function l G q5_1 q47_7) 2 k_163 k_111 k_164 k_165 hd_TypeFinder_Unifier_function (by decide) [] [0, 1, 2, 3, 4, 5, 6, 7, 8, 9, 10, 11, 12, 13, 14, 15] rfl rfl (by decide) (by decide) (by decide) xb_ss0 hl.1 rfl rfl (Nat.le_of_ble_eq_true rfl) (by decide) d_TypeFinder_Known_init_331 (fun u H locs hu h => ?_)
  obtain ⟨q331_33, rfl⟩ : ∃ z, z = u := ⟨_, rfl⟩
  have h : xb_W G A s [(h0, .inr (4, [.ref q5_1, .ref q47_7, .ref q20_2, .ref q31_3, .int 0])), (q5_1, .inr (5, [.int 0, .int 0, .null, .null, .null, .null, .null, .int 0])), (q47_7, .inr (5, [.int 3, .int 0, .ref q47_5, .null, .null, .null, .null, .int 0])), (q47_6, .inr (11, [.int 2, .ref q80_10, .int 2])), (q80_10, .inl (G.2.1 5, 10, .inr (.inr (.inr (.inr (va_up (va_up (fun _ => none) (Int32.toNatClampNeg 0) (some q63_8)) (Int32.toNatClampNeg 1) (some q88_11))))))), (q47_5, .inr (6, [.long x43_4, .int 0, .ref q47_6, .ref q47_7, .int 1])), (q124_17, .inr (5, [.int 5, .int 0, .null, .null, .null, .null, .null, .int 0])), (q124_18, .inr (5, [.int 3, .int 0, .ref q124_15, .ref q124_17, .null, .null, .null, .int 0])), (q124_16, .inr (11, [.int 2, .ref q171_23, .int 2])), (q171_23, .inl (G.2.1 5, 10, .inr (.inr (.inr (.inr (va_up (va_up (fun _ => none) (Int32.toNatClampNeg 0) (some q154_21)) (Int32.toNatClampNeg 1) (some q179_24))))))), (q20_2, .inr (11, [.int 2, .ref q114_13, .int 2])), (q114_13, .inl (G.2.1 5, 10, .inr (.inr (.inr (.inr (va_up (va_up (fun _ => none) (Int32.toNatClampNeg 0) (some q47_5)) (Int32.toNatClampNeg 1) (some q124_15))))))), (q124_15, .inr (6, [.long x120_14, .int 1, .ref q124_16, .ref q124_18, .int 1])), (q31_3, .inr (11, [.int 4, .ref q241_28, .int 4])), (q241_28, .inl (G.2.1 5, 10, .inr (.inr (.inr (.inr (va_up (va_up (va_up (va_up (fun _ => none) (Int32.toNatClampNeg 0) (some q228_27)) (Int32.toNatClampNeg 1) (some q249_29)) (Int32.toNatClampNeg 2) (some q270_30)) (Int32.toNatClampNeg 3) (some q291_31))))))), (q312_32, .inr (7, [.long 0, .null, .int 0]))] _ _ := h
  refine W.widen (k := 28) (n := 161) (by decide) (by decide) ?_
  refine W.eq (g2 := F0 m 334 ls [.ref q331_33, .ref q5_1, .long 60, .ref q312_32, .ref q312_32, .ref q31_3]) rfl ?_
  refine xb_callS (pc := 334) (rm := rm_function) (wr := [(h0, .inr (4, [.ref q5_1, .ref q47_7, .ref q20_2, .ref q31_3, .int 0])), (q5_1, .inr (5, [.int 0, .int 0, .null, .null, .null, .null, .null, .int 0])), (q47_7, .inr (5, [.int 3, .int 0, .ref q47_5, .null, .null, .null, .null, .int 0])), (q47_6, .inr (11, [.int 2, .ref q80_10, .int 2])), (q80_10, .inl (G.2.1 5, 10, .inr (.inr (.inr (.inr (va_up (va_up (fun _ => none) (Int32.toNatClampNeg 0) (some q63_8)) (Int32.toNatClampNeg 1) (some q88_11))))))), (q47_5, .inr (6, [.long x43_4, .int 0, .ref q47_6, .ref q47_7, .int 1])), (q124_17, .inr (5, [.int 5, .int 0, .null, .null, .null, .null, .null, .int 0])), (q124_18, .inr (5, [.int 3, .int 0, .ref q124_15, .ref q124_17, .null, .null, .null, .int 0])), (q124_16, .inr (11, [.int 2, .ref q171_23, .int 2])), (q171_23, .inl (G.2.1 5, 10, .inr (.inr (.inr (.inr (va_up (va_up (fun _ => none) (Int32.toNatClampNeg 0) (some q154_21)) (Int32.toNatClampNeg 1) (some q179_24))))))), (q20_2, .inr (11, [.int 2, .ref q114_13, .int 2])), (q114_13, .inl (G.2.1 5, 10, .inr (.inr (.inr (.inr (va_up (va_up (fun _ => none) (Int32.toNatClampNeg 0) (some q47_5)) (Int32.toNatClampNeg 1) (some q124_15))))))), (q124_15, .inr (6, [.long x120_14, .int 1, .ref q124_16, .ref q124_18, .int 1])), (q31_3, .inr (11, [.int 4, .ref q241_28, .int 4])), (q241_28, .inl (G.2.1 5, 10, .inr (.inr (.inr (.inr (va_up (va_up (va_up (va_up (fun _ => none) (Int32.toNatClampNeg 0) (some q228_27)) (Int32.toNatClampNeg 1) (some q249_29)) (Int32.toNatClampNeg 2) (some q270_30)) (Int32.toNatClampNeg 3) (some q291_31))))))), (q312_32, .inr (7, [.long 0, .null, .int 0]))]) F h (ct_function l G q5_1 q331_33) 2 k_163 k_111 k_164 k_165 hd_TypeFinder_Unifier_function (by decide) [] [0, 1, 2, 3, 4, 5, 6, 7, 8, 9, 10, 11, 12, 13, 14, 15] rfl rfl (by decide) (by decide) (by decide) xb_ss0 hl.1 rfl rfl (Nat.le_of_ble_eq_true rfl) (by decide) d_TypeFinder_Known_init_334 (fun u H locs hu h => ?_)
  obtain ⟨q334_34, rfl⟩ : ∃ z, z = u := ⟨_, rfl⟩
  have h : xb_W G A s [(h0, .inr (4, [.ref q5_1, .ref q47_7, .ref q20_2, .ref q31_3, .int 0])), (q5_1, .inr (5, [.int 0, .int 0, .null, .null, .null, .null, .null, .int 0])), (q47_7, .inr (5, [.int 3, .int 0, .ref q47_5, .null, .null, .null, .null, .int 0])), (q47_6, .inr (11, [.int 2, .ref q80_10, .int 2])), (q80_10, .inl (G.2.1 5, 10, .inr (.inr (.inr (.inr (va_up (va_up (fun _ => none) (Int32.toNatClampNeg 0) (some q63_8)) (Int32.toNatClampNeg 1) (some q88_11))))))), (q47_5, .inr (6, [.long x43_4, .int 0, .ref q47_6, .ref q47_7, .int 1])), (q124_17, .inr (5, [.int 5, .int 0, .null, .null, .null, .null, .null, .int 0])), (q124_18, .inr (5, [.int 3, .int 0, .ref q124_15, .ref q124_17, .null, .null, .null, .int 0])), (q124_16, .inr (11, [.int 2, .ref q171_23, .int 2])), (q171_23, .inl (G.2.1 5, 10, .inr (.inr (.inr (.inr (va_up (va_up (fun _ => none) (Int32.toNatClampNeg 0) (some q154_21)) (Int32.toNatClampNeg 1) (some q179_24))))))), (q20_2, .inr (11, [.int 2, .ref q114_13, .int 2])), (q114_13, .inl (G.2.1 5, 10, .inr (.inr (.inr (.inr (va_up (va_up (fun _ => none) (Int32.toNatClampNeg 0) (some q47_5)) (Int32.toNatClampNeg 1) (some q124_15))))))), (q124_15, .inr (6, [.long x120_14, .int 1, .ref q124_16, .ref q124_18, .int 1])), (q31_3, .inr (11, [.int 4, .ref q241_28, .int 4])), (q241_28, .inl (G.2.1 5, 10, .inr (.inr (.inr (.inr (va_up (va_up (va_up (va_up (fun _ => none) (Int32.toNatClampNeg 0) (some q228_27)) (Int32.toNatClampNeg 1) (some q249_29)) (Int32.toNatClampNeg 2) (some q270_30)) (Int32.toNatClampNeg 3) (some q291_31))))))), (q312_32, .inr (7, [.long 0, .null, .int 0]))] _ _ := h
  refine W.widen (k := 29) (n := 169) (by decide) (by decide) ?_
  refine W.eq (g2 := F0 m 337 ls [.ref q334_34, .long 60, .ref q312_32, .ref q312_32, .ref q31_3]) rfl ?_
  refine lv_iconst (pc := 337) (v := 1) hx hb d_TypeFinder_Known_init_337 (by decide) ?_
  refine xb_callI (pc := 338) (rm := rm_Name_init) (wr := [(h0, .inr (4, [.ref q5_1, .ref q47_7, .ref q20_2, .ref q31_3, .int 0])), (q5_1, .inr (5, [.int 0, .int 0, .null, .null, .null, .null, .null, .int 0])), (q47_7, .inr (5, [.int 3, .int 0, .ref q47_5, .null, .null, .null, .null, .int 0])), (q47_6, .inr (11, [.int 2, .ref q80_10, .int 2])), (q80_10, .inl (G.2.1 5, 10, .inr (.inr (.inr (.inr (va_up (va_up (fun _ => none) (Int32.toNatClampNeg 0) (some q63_8)) (Int32.toNatClampNeg 1) (some q88_11))))))), (q47_5, .inr (6, [.long x43_4, .int 0, .ref q47_6, .ref q47_7, .int 1])), (q124_17, .inr (5, [.int 5, .int 0, .null, .null, .null, .null, .null, .int 0])), (q124_18, .inr (5, [.int 3, .int 0, .ref q124_15, .ref q124_17, .null, .null, .null, .int 0])), (q124_16, .inr (11, [.int 2, .ref q171_23, .int 2])), (q171_23, .inl (G.2.1 5, 10, .inr (.inr (.inr (.inr (va_up (va_up (fun _ => none) (Int32.toNatClampNeg 0) (some q154_21)) (Int32.toNatClampNeg 1) (some q179_24))))))), (q20_2, .inr (11, [.int 2, .ref q114_13, .int 2])), (q114_13, .inl (G.2.1 5, 10, .inr (.inr (.inr (.inr (va_up (va_up (fun _ => none) (Int32.toNatClampNeg 0) (some q47_5)) (Int32.toNatClampNeg 1) (some q124_15))))))), (q124_15, .inr (6, [.long x120_14, .int 1, .ref q124_16, .ref q124_18, .int 1])), (q31_3, .inr (11, [.int 4, .ref q241_28, .int 4])), (q241_28, .inl (G.2.1 5, 10, .inr (.inr (.inr (.inr (va_up (va_up (va_up (va_up (fun _ => none) (Int32.toNatClampNeg 0) (some q228_27)) (Int32.toNatClampNeg 1) (some q249_29)) (Int32.toNatClampNeg 2) (some q270_30)) (Int32.toNatClampNeg 3) (some q291_31)))))))]) F h (ct_Name_init l G q312_32 60 q334_34) 3 k_155 k_154 k_156 k_157 rfl hd_TypeFinder_Name_init (by decide) [15] [0, 1, 2, 3, 4, 5, 6, 7, 8, 9, 10, 11, 12, 13, 14] rfl rfl (by decide) (by decide) (by decide) xb_ss0 hl.1 rfl rfl (Nat.le_of_ble_eq_true rfl) (by decide) d_TypeFinder_Known_init_338 (fun u H locs hu h => ?_)
  have h : xb_W G A s [(h0, .inr (4, [.ref q5_1, .ref q47_7, .ref q20_2, .ref q31_3, .int 0])), (q5_1, .inr (5, [.int 0, .int 0, .null, .null, .null, .null, .null, .int 0])), (q47_7, .inr (5, [.int 3, .int 0, .ref q47_5, .null, .null, .null, .null, .int 0])), (q47_6, .inr (11, [.int 2, .ref q80_10, .int 2])), (q80_10, .inl (G.2.1 5, 10, .inr (.inr (.inr (.inr (va_up (va_up (fun _ => none) (Int32.toNatClampNeg 0) (some q63_8)) (Int32.toNatClampNeg 1) (some q88_11))))))), (q47_5, .inr (6, [.long x43_4, .int 0, .ref q47_6, .ref q47_7, .int 1])), (q124_17, .inr (5, [.int 5, .int 0, .null, .null, .null, .null, .null, .int 0])), (q124_18, .inr (5, [.int 3, .int 0, .ref q124_15, .ref q124_17, .null, .null, .null, .int 0])), (q124_16, .inr (11, [.int 2, .ref q171_23, .int 2])), (q171_23, .inl (G.2.1 5, 10, .inr (.inr (.inr (.inr (va_up (va_up (fun _ => none) (Int32.toNatClampNeg 0) (some q154_21)) (Int32.toNatClampNeg 1) (some q179_24))))))), (q20_2, .inr (11, [.int 2, .ref q114_13, .int 2])), (q114_13, .inl (G.2.1 5, 10, .inr (.inr (.inr (.inr (va_up (va_up (fun _ => none) (Int32.toNatClampNeg 0) (some q47_5)) (Int32.toNatClampNeg 1) (some q124_15))))))), (q124_15, .inr (6, [.long x120_14, .int 1, .ref q124_16, .ref q124_18, .int 1])), (q31_3, .inr (11, [.int 4, .ref q241_28, .int 4])), (q241_28, .inl (G.2.1 5, 10, .inr (.inr (.inr (.inr (va_up (va_up (va_up (va_up (fun _ => none) (Int32.toNatClampNeg 0) (some q228_27)) (Int32.toNatClampNeg 1) (some q249_29)) (Int32.toNatClampNeg 2) (some q270_30)) (Int32.toNatClampNeg 3) (some q291_31))))))), (q312_32, .inr (7, [.long 60, .ref q334_34, .int 1]))] _ _ := h
  refine W.widen (k := 29) (n := 169) (by decide) (by decide) ?_
  refine W.eq (g2 := F0 m 341 ls [.ref q312_32, .ref q31_3]) rfl ?_
  refine xb_callV (pc := 341) (rm := rm_AL_add_Name_4) (wr := [(h0, .inr (4, [.ref q5_1, .ref q47_7, .ref q20_2, .ref q31_3, .int 0])), (q5_1, .inr (5, [.int 0, .int 0, .null, .null, .null, .null, .null, .int 0])), (q47_7, .inr (5, [.int 3, .int 0, .ref q47_5, .null, .null, .null, .null, .int 0])), (q47_6, .inr (11, [.int 2, .ref q80_10, .int 2])), (q80_10, .inl (G.2.1 5, 10, .inr (.inr (.inr (.inr (va_up (va_up (fun _ => none) (Int32.toNatClampNeg 0) (some q63_8)) (Int32.toNatClampNeg 1) (some q88_11))))))), (q47_5, .inr (6, [.long x43_4, .int 0, .ref q47_6, .ref q47_7, .int 1])), (q124_17, .inr (5, [.int 5, .int 0, .null, .null, .null, .null, .null, .int 0])), (q124_18, .inr (5, [.int 3, .int 0, .ref q124_15, .ref q124_17, .null, .null, .null, .int 0])), (q124_16, .inr (11, [.int 2, .ref q171_23, .int 2])), (q171_23, .inl (G.2.1 5, 10, .inr (.inr (.inr (.inr (va_up (va_up (fun _ => none) (Int32.toNatClampNeg 0) (some q154_21)) (Int32.toNatClampNeg 1) (some q179_24))))))), (q20_2, .inr (11, [.int 2, .ref q114_13, .int 2])), (q114_13, .inl (G.2.1 5, 10, .inr (.inr (.inr (.inr (va_up (va_up (fun _ => none) (Int32.toNatClampNeg 0) (some q47_5)) (Int32.toNatClampNeg 1) (some q124_15))))))), (q124_15, .inr (6, [.long x120_14, .int 1, .ref q124_16, .ref q124_18, .int 1]))]) F h (ct_AL_add_Name_4 l G q31_3 q241_28 q312_32 4 (va_up (va_up (va_up (va_up (fun _ => none) (Int32.toNatClampNeg 0) (some q228_27)) (Int32.toNatClampNeg 1) (some q249_29)) (Int32.toNatClampNeg 2) (some q270_30)) (Int32.toNatClampNeg 3) (some q291_31)) (.long 60) (.ref q334_34) (.int 1)) 1 (va_recv hK h.1 (q0 := 13) (ci := 11) rfl rfl) k_158 k_45 k_159 k_160 k_161 hd_ArrayList_add2 (by decide) [13, 14, 15] [0, 1, 2, 3, 4, 5, 6, 7, 8, 9, 10, 11, 12] rfl rfl (by decide) (by decide) (by decide) xb_ss0 hl.1 rfl rfl (Nat.le_of_ble_eq_true rfl) (by decide) d_TypeFinder_Known_init_341 (fun u H locs hu h => ?_)
  have h : xb_W G A s [(h0, .inr (4, [.ref q5_1, .ref q47_7, .ref q20_2, .ref q31_3, .int 0])), (q5_1, .inr (5, [.int 0, .int 0, .null, .null, .null, .null, .null, .int 0])), (q47_7, .inr (5, [.int 3, .int 0, .ref q47_5, .null, .null, .null, .null, .int 0])), (q47_6, .inr (11, [.int 2, .ref q80_10, .int 2])), (q80_10, .inl (G.2.1 5, 10, .inr (.inr (.inr (.inr (va_up (va_up (fun _ => none) (Int32.toNatClampNeg 0) (some q63_8)) (Int32.toNatClampNeg 1) (some q88_11))))))), (q47_5, .inr (6, [.long x43_4, .int 0, .ref q47_6, .ref q47_7, .int 1])), (q124_17, .inr (5, [.int 5, .int 0, .null, .null, .null, .null, .null, .int 0])), (q124_18, .inr (5, [.int 3, .int 0, .ref q124_15, .ref q124_17, .null, .null, .null, .int 0])), (q124_16, .inr (11, [.int 2, .ref q171_23, .int 2])), (q171_23, .inl (G.2.1 5, 10, .inr (.inr (.inr (.inr (va_up (va_up (fun _ => none) (Int32.toNatClampNeg 0) (some q154_21)) (Int32.toNatClampNeg 1) (some q179_24))))))), (q20_2, .inr (11, [.int 2, .ref q114_13, .int 2])), (q114_13, .inl (G.2.1 5, 10, .inr (.inr (.inr (.inr (va_up (va_up (fun _ => none) (Int32.toNatClampNeg 0) (some q47_5)) (Int32.toNatClampNeg 1) (some q124_15))))))), (q124_15, .inr (6, [.long x120_14, .int 1, .ref q124_16, .ref q124_18, .int 1])), (q31_3, .inr (11, [.int 5, .ref q241_28, .int 5])), (q241_28, .inl (G.2.1 5, 10, .inr (.inr (.inr (.inr (va_up (va_up (va_up (va_up (va_up (fun _ => none) (Int32.toNatClampNeg 0) (some q228_27)) (Int32.toNatClampNeg 1) (some q249_29)) (Int32.toNatClampNeg 2) (some q270_30)) (Int32.toNatClampNeg 3) (some q291_31)) (Int32.toNatClampNeg 4) (some q312_32))))))), (q312_32, .inr (7, [.long 60, .ref q334_34, .int 1]))] _ _ := h
  refine W.widen (k := 29) (n := 169) (by decide) (by decide) ?_
  refine W.eq (g2 := F0 m 344 ls [.int 1]) rfl ?_
  refine lv_pop (pc := 344) hx hb d_TypeFinder_Known_init_344 rfl ?_
  have h := xb_sub (ws' := [(h0, .inr (4, [.ref q5_1, .ref q47_7, .ref q20_2, .ref q31_3, .int 0])), (q5_1, .inr (5, [.int 0, .int 0, .null, .null, .null, .null, .null, .int 0])), (q47_7, .inr (5, [.int 3, .int 0, .ref q47_5, .null, .null, .null, .null, .int 0])), (q47_6, .inr (11, [.int 2, .ref q80_10, .int 2])), (q80_10, .inl (G.2.1 5, 10, .inr (.inr (.inr (.inr (va_up (va_up (fun _ => none) (Int32.toNatClampNeg 0) (some q63_8)) (Int32.toNatClampNeg 1) (some q88_11))))))), (q47_5, .inr (6, [.long x43_4, .int 0, .ref q47_6, .ref q47_7, .int 1])), (q124_17, .inr (5, [.int 5, .int 0, .null, .null, .null, .null, .null, .int 0])), (q124_18, .inr (5, [.int 3, .int 0, .ref q124_15, .ref q124_17, .null, .null, .null, .int 0])), (q124_16, .inr (11, [.int 2, .ref q171_23, .int 2])), (q171_23, .inl (G.2.1 5, 10, .inr (.inr (.inr (.inr (va_up (va_up (fun _ => none) (Int32.toNatClampNeg 0) (some q154_21)) (Int32.toNatClampNeg 1) (some q179_24))))))), (q20_2, .inr (11, [.int 2, .ref q114_13, .int 2])), (q114_13, .inl (G.2.1 5, 10, .inr (.inr (.inr (.inr (va_up (va_up (fun _ => none) (Int32.toNatClampNeg 0) (some q47_5)) (Int32.toNatClampNeg 1) (some q124_15))))))), (q124_15, .inr (6, [.long x120_14, .int 1, .ref q124_16, .ref q124_18, .int 1])), (q31_3, .inr (11, [.int 5, .ref q241_28, .int 5])), (q241_28, .inl (G.2.1 5, 10, .inr (.inr (.inr (.inr (va_up (va_up (va_up (va_up (va_up (fun _ => none) (Int32.toNatClampNeg 0) (some q228_27)) (Int32.toNatClampNeg 1) (some q249_29)) (Int32.toNatClampNeg 2) (some q270_30)) (Int32.toNatClampNeg 3) (some q291_31)) (Int32.toNatClampNeg 4) (some q312_32)))))))]) h [0, 1, 2, 3, 4, 5, 6, 7, 8, 9, 10, 11, 12, 13, 14] (by decide) rfl
  refine xb_new (pc := 345) (ws' := fun q345_35 => [(h0, .inr (4, [.ref q5_1, .ref q47_7, .ref q20_2, .ref q31_3, .int 0])), (q5_1, .inr (5, [.int 0, .int 0, .null, .null, .null, .null, .null, .int 0])), (q47_7, .inr (5, [.int 3, .int 0, .ref q47_5, .null, .null, .null, .null, .int 0])), (q47_6, .inr (11, [.int 2, .ref q80_10, .int 2])), (q80_10, .inl (G.2.1 5, 10, .inr (.inr (.inr (.inr (va_up (va_up (fun _ => none) (Int32.toNatClampNeg 0) (some q63_8)) (Int32.toNatClampNeg 1) (some q88_11))))))), (q47_5, .inr (6, [.long x43_4, .int 0, .ref q47_6, .ref q47_7, .int 1])), (q124_17, .inr (5, [.int 5, .int 0, .null, .null, .null, .null, .null, .int 0])), (q124_18, .inr (5, [.int 3, .int 0, .ref q124_15, .ref q124_17, .null, .null, .null, .int 0])), (q124_16, .inr (11, [.int 2, .ref q171_23, .int 2])), (q171_23, .inl (G.2.1 5, 10, .inr (.inr (.inr (.inr (va_up (va_up (fun _ => none) (Int32.toNatClampNeg 0) (some q154_21)) (Int32.toNatClampNeg 1) (some q179_24))))))), (q20_2, .inr (11, [.int 2, .ref q114_13, .int 2])), (q114_13, .inl (G.2.1 5, 10, .inr (.inr (.inr (.inr (va_up (va_up (fun _ => none) (Int32.toNatClampNeg 0) (some q47_5)) (Int32.toNatClampNeg 1) (some q124_15))))))), (q124_15, .inr (6, [.long x120_14, .int 1, .ref q124_16, .ref q124_18, .int 1])), (q31_3, .inr (11, [.int 5, .ref q241_28, .int 5])), (q241_28, .inl (G.2.1 5, 10, .inr (.inr (.inr (.inr (va_up (va_up (va_up (va_up (va_up (fun _ => none) (Int32.toNatClampNeg 0) (some q228_27)) (Int32.toNatClampNeg 1) (some q249_29)) (Int32.toNatClampNeg 2) (some q270_30)) (Int32.toNatClampNeg 3) (some q291_31)) (Int32.toNatClampNeg 4) (some q312_32))))))), (q345_35, .inr (5, [.int 0, .int 0, .null, .null, .null, .null, .null, .int 0]))]) F h cf_5 k_135 k_78 k_79 df_5 (fun _ => rfl) (by decide) (by decide) d_TypeFinder_Known_init_345 (fun q345_35 H h => ?_)
  refine lv_dup (pc := 348) hx hb d_TypeFinder_Known_init_348 rfl ?_
  refine lv_iconst (pc := 349) (v := 5) hx hb d_TypeFinder_Known_init_349 (by decide) ?_
  refine lv_null (pc := 350) hx hb d_TypeFinder_Known_init_350 ?_
  refine lv_null (pc := 351) hx hb d_TypeFinder_Known_init_351 ?_
  refine lv_null (pc := 352) hx hb d_TypeFinder_Known_init_352 ?_
  refine xb_callI (pc := 353) (rm := rm_Type_init_nnn) (wr := [(h0, .inr (4, [.ref q5_1, .ref q47_7, .ref q20_2, .ref q31_3, .int 0])), (q5_1, .inr (5, [.int 0, .int 0, .null, .null, .null, .null, .null, .int 0])), (q47_7, .inr (5, [.int 3, .int 0, .ref q47_5, .null, .null, .null, .null, .int 0])), (q47_6, .inr (11, [.int 2, .ref q80_10, .int 2])), (q80_10, .inl (G.2.1 5, 10, .inr (.inr (.inr (.inr (va_up (va_up (fun _ => none) (Int32.toNatClampNeg 0) (some q63_8)) (Int32.toNatClampNeg 1) (some q88_11))))))), (q47_5, .inr (6, [.long x43_4, .int 0, .ref q47_6, .ref q47_7, .int 1])), (q124_17, .inr (5, [.int 5, .int 0, .null, .null, .null, .null, .null, .int 0])), (q124_18, .inr (5, [.int 3, .int 0, .ref q124_15, .ref q124_17, .null, .null, .null, .int 0])), (q124_16, .inr (11, [.int 2, .ref q171_23, .int 2])), (q171_23, .inl (G.2.1 5, 10, .inr (.inr (.inr (.inr (va_up (va_up (fun _ => none) (Int32.toNatClampNeg 0) (some q154_21)) (Int32.toNatClampNeg 1) (some q179_24))))))), (q20_2, .inr (11, [.int 2, .ref q114_13, .int 2])), (q114_13, .inl (G.2.1 5, 10, .inr (.inr (.inr (.inr (va_up (va_up (fun _ => none) (Int32.toNatClampNeg 0) (some q47_5)) (Int32.toNatClampNeg 1) (some q124_15))))))), (q124_15, .inr (6, [.long x120_14, .int 1, .ref q124_16, .ref q124_18, .int 1])), (q31_3, .inr (11, [.int 5, .ref q241_28, .int 5])), (q241_28, .inl (G.2.1 5, 10, .inr (.inr (.inr (.inr (va_up (va_up (va_up (va_up (va_up (fun _ => none) (Int32.toNatClampNeg 0) (some q228_27)) (Int32.toNatClampNeg 1) (some q249_29)) (Int32.toNatClampNeg 2) (some q270_30)) (Int32.toNatClampNeg 3) (some q291_31)) (Int32.toNatClampNeg 4) (some q312_32)))))))]) F h (ct_Type_init_nnn l G q345_35 5) 4 k_80 k_79 k_136 k_82 rfl hd_TypeFinder_Type_init (by decide) [15] [0, 1, 2, 3, 4, 5, 6, 7, 8, 9, 10, 11, 12, 13, 14] rfl rfl (by decide) (by decide) (by decide) xb_ss0 hl.1 rfl rfl (Nat.le_of_ble_eq_true rfl) (by decide) d_TypeFinder_Known_init_353 (fun u H locs hu h => ?_)
  have h : xb_W G A s [(h0, .inr (4, [.ref q5_1, .ref q47_7, .ref q20_2, .ref q31_3, .int 0])), (q5_1, .inr (5, [.int 0, .int 0, .null, .null, .null, .null, .null, .int 0])), (q47_7, .inr (5, [.int 3, .int 0, .ref q47_5, .null, .null, .null, .null, .int 0])), (q47_6, .inr (11, [.int 2, .ref q80_10, .int 2])), (q80_10, .inl (G.2.1 5, 10, .inr (.inr (.inr (.inr (va_up (va_up (fun _ => none) (Int32.toNatClampNeg 0) (some q63_8)) (Int32.toNatClampNeg 1) (some q88_11))))))), (q47_5, .inr (6, [.long x43_4, .int 0, .ref q47_6, .ref q47_7, .int 1])), (q124_17, .inr (5, [.int 5, .int 0, .null, .null, .null, .null, .null, .int 0])), (q124_18, .inr (5, [.int 3, .int 0, .ref q124_15, .ref q124_17, .null, .null, .null, .int 0])), (q124_16, .inr (11, [.int 2, .ref q171_23, .int 2])), (q171_23, .inl (G.2.1 5, 10, .inr (.inr (.inr (.inr (va_up (va_up (fun _ => none) (Int32.toNatClampNeg 0) (some q154_21)) (Int32.toNatClampNeg 1) (some q179_24))))))), (q20_2, .inr (11, [.int 2, .ref q114_13, .int 2])), (q114_13, .inl (G.2.1 5, 10, .inr (.inr (.inr (.inr (va_up (va_up (fun _ => none) (Int32.toNatClampNeg 0) (some q47_5)) (Int32.toNatClampNeg 1) (some q124_15))))))), (q124_15, .inr (6, [.long x120_14, .int 1, .ref q124_16, .ref q124_18, .int 1])), (q31_3, .inr (11, [.int 5, .ref q241_28, .int 5])), (q241_28, .inl (G.2.1 5, 10, .inr (.inr (.inr (.inr (va_up (va_up (va_up (va_up (va_up (fun _ => none) (Int32.toNatClampNeg 0) (some q228_27)) (Int32.toNatClampNeg 1) (some q249_29)) (Int32.toNatClampNeg 2) (some q270_30)) (Int32.toNatClampNeg 3) (some q291_31)) (Int32.toNatClampNeg 4) (some q312_32))))))), (q345_35, .inr (5, [.int 5, .int 0, .null, .null, .null, .null, .null, .int 0]))] _ _ := h
  refine W.widen (k := 30) (n := 177) (by decide) (by decide) ?_
  refine W.eq (g2 := F0 m 356 ls [.ref q345_35]) rfl ?_
  refine lv_astore (pc := 356) (lv' := [(5, .ref q345_35), (4, .ref q219_26), (3, .ref q146_20), (2, .ref q124_15), (1, .ref q47_5), (0, .ref h0)]) hx hb d_TypeFinder_Known_init_356 hl (by decide) rfl (fun ls hl => ?_)
  refine lv_aload (pc := 358) hx hb d_TypeFinder_Known_init_358 (lv_at hl 0 rfl) ?_
  refine lv_iconst (pc := 360) (v := 1) hx hb d_TypeFinder_Known_init_360 (by decide) ?_
  refine xb_put (pc := 361) (t0 := .boolean) (ws' := [(h0, .inr (4, [.ref q5_1, .ref q47_7, .ref q20_2, .ref q31_3, .int 0])), (q5_1, .inr (5, [.int 0, .int 0, .null, .null, .null, .null, .null, .int 0])), (q47_7, .inr (5, [.int 3, .int 0, .ref q47_5, .null, .null, .null, .null, .int 0])), (q47_6, .inr (11, [.int 2, .ref q80_10, .int 2])), (q80_10, .inl (G.2.1 5, 10, .inr (.inr (.inr (.inr (va_up (va_up (fun _ => none) (Int32.toNatClampNeg 0) (some q63_8)) (Int32.toNatClampNeg 1) (some q88_11))))))), (q47_5, .inr (6, [.long x43_4, .int 0, .ref q47_6, .ref q47_7, .int 1])), (q124_17, .inr (5, [.int 5, .int 0, .null, .null, .null, .null, .null, .int 0])), (q124_18, .inr (5, [.int 3, .int 0, .ref q124_15, .ref q124_17, .null, .null, .null, .int 0])), (q124_16, .inr (11, [.int 2, .ref q171_23, .int 2])), (q171_23, .inl (G.2.1 5, 10, .inr (.inr (.inr (.inr (va_up (va_up (fun _ => none) (Int32.toNatClampNeg 0) (some q154_21)) (Int32.toNatClampNeg 1) (some q179_24))))))), (q20_2, .inr (11, [.int 2, .ref q114_13, .int 2])), (q114_13, .inl (G.2.1 5, 10, .inr (.inr (.inr (.inr (va_up (va_up (fun _ => none) (Int32.toNatClampNeg 0) (some q47_5)) (Int32.toNatClampNeg 1) (some q124_15))))))), (q124_15, .inr (6, [.long x120_14, .int 1, .ref q124_16, .ref q124_18, .int 1])), (q31_3, .inr (11, [.int 5, .ref q241_28, .int 5])), (q241_28, .inl (G.2.1 5, 10, .inr (.inr (.inr (.inr (va_up (va_up (va_up (va_up (va_up (fun _ => none) (Int32.toNatClampNeg 0) (some q228_27)) (Int32.toNatClampNeg 1) (some q249_29)) (Int32.toNatClampNeg 2) (some q270_30)) (Int32.toNatClampNeg 3) (some q291_31)) (Int32.toNatClampNeg 4) (some q312_32))))))), (q345_35, .inr (5, [.int 5, .int 1, .null, .null, .null, .null, .null, .int 0]))]) F h cf_5 15 rfl 1 (by decide) rfl k_172 (Or.inl rfl) (by decide +kernel) (by decide) (by decide) (Nat.le_of_ble_eq_true rfl) rfl d_TypeFinder_Known_init_361 (fun H locs h => ?_)
  refine lv_aload_n (pc := 364) hx hb d_TypeFinder_Known_init_364 rfl (lv_at hl 5 rfl) ?_
  refine xb_get (pc := 365) F h cf_4 0 rfl 3 (by decide) rfl k_141 (Or.inl rfl) rfl d_TypeFinder_Known_init_365 ?_
  refine xb_new (pc := 368) (ws' := fun q368_36 => [(h0, .inr (4, [.ref q5_1, .ref q47_7, .ref q20_2, .ref q31_3, .int 0])), (q5_1, .inr (5, [.int 0, .int 0, .null, .null, .null, .null, .null, .int 0])), (q47_7, .inr (5, [.int 3, .int 0, .ref q47_5, .null, .null, .null, .null, .int 0])), (q47_6, .inr (11, [.int 2, .ref q80_10, .int 2])), (q80_10, .inl (G.2.1 5, 10, .inr (.inr (.inr (.inr (va_up (va_up (fun _ => none) (Int32.toNatClampNeg 0) (some q63_8)) (Int32.toNatClampNeg 1) (some q88_11))))))), (q47_5, .inr (6, [.long x43_4, .int 0, .ref q47_6, .ref q47_7, .int 1])), (q124_17, .inr (5, [.int 5, .int 0, .null, .null, .null, .null, .null, .int 0])), (q124_18, .inr (5, [.int 3, .int 0, .ref q124_15, .ref q124_17, .null, .null, .null, .int 0])), (q124_16, .inr (11, [.int 2, .ref q171_23, .int 2])), (q171_23, .inl (G.2.1 5, 10, .inr (.inr (.inr (.inr (va_up (va_up (fun _ => none) (Int32.toNatClampNeg 0) (some q154_21)) (Int32.toNatClampNeg 1) (some q179_24))))))), (q20_2, .inr (11, [.int 2, .ref q114_13, .int 2])), (q114_13, .inl (G.2.1 5, 10, .inr (.inr (.inr (.inr (va_up (va_up (fun _ => none) (Int32.toNatClampNeg 0) (some q47_5)) (Int32.toNatClampNeg 1) (some q124_15))))))), (q124_15, .inr (6, [.long x120_14, .int 1, .ref q124_16, .ref q124_18, .int 1])), (q31_3, .inr (11, [.int 5, .ref q241_28, .int 5])), (q241_28, .inl (G.2.1 5, 10, .inr (.inr (.inr (.inr (va_up (va_up (va_up (va_up (va_up (fun _ => none) (Int32.toNatClampNeg 0) (some q228_27)) (Int32.toNatClampNeg 1) (some q249_29)) (Int32.toNatClampNeg 2) (some q270_30)) (Int32.toNatClampNeg 3) (some q291_31)) (Int32.toNatClampNeg 4) (some q312_32))))))), (q345_35, .inr (5, [.int 5, .int 1, .null, .null, .null, .null, .null, .int 0])), (q368_36, .inr (7, [.long 0, .null, .int 0]))]) F h cf_7 k_152 k_153 k_154 df_7 (fun _ => rfl) (by decide) (by decide) d_TypeFinder_Known_init_368 (fun q368_36 H h => ?_)
  refine lv_dup (pc := 371) hx hb d_TypeFinder_Known_init_371 rfl ?_
  refine lv_ldc2 (pc := 372) (v := 63) hx hb hown (hts _ k_173) d_TypeFinder_Known_init_372 ?_
  refine lv_aload (pc := 375) hx hb d_TypeFinder_Known_init_375 (lv_at hl 0 rfl) ?_
  refine lv_aload (pc := 377) hx hb d_TypeFinder_Known_init_377 (lv_at hl 0 rfl) ?_
  refine lv_aload_n (pc := 379) hx hb d_TypeFinder_Known_init_379 rfl (lv_at hl 5 rfl) ?_
  refine xb_get (pc := 380) F h cf_4 0 rfl 1 (by decide) rfl k_150 (Or.inl rfl) rfl d_TypeFinder_Known_init_380 ?_
  refine xb_callS (pc := 383) (rm := rm_function) (wr := [(h0, .inr (4, [.ref q5_1, .ref q47_7, .ref q20_2, .ref q31_3, .int 0])), (q5_1, .inr (5, [.int 0, .int 0, .null, .null, .null, .null, .null, .int 0])), (q47_7, .inr (5, [.int 3, .int 0, .ref q47_5, .null, .null, .null, .null, .int 0])), (q47_6, .inr (11, [.int 2, .ref q80_10, .int 2])), (q80_10, .inl (G.2.1 5, 10, .inr (.inr (.inr (.inr (va_up (va_up (fun _ => none) (Int32.toNatClampNeg 0) (some q63_8)) (Int32.toNatClampNeg 1) (some q88_11))))))), (q47_5, .inr (6, [.long x43_4, .int 0, .ref q47_6, .ref q47_7, .int 1])), (q124_17, .inr (5, [.int 5, .int 0, .null, .null, .null, .null, .null, .int 0])), (q124_18, .inr (5, [.int 3, .int 0, .ref q124_15, .ref q124_17, .null, .null, .null, .int 0])), (q124_16, .inr (11, [.int 2, .ref q171_23, .int 2])), (q171_23, .inl (G.2.1 5, 10, .inr (.inr (.inr (.inr (va_up (va_up (fun _ => none) (Int32.toNatClampNeg 0) (some q154_21)) (Int32.toNatClampNeg 1) (some q179_24))))))), (q20_2, .inr (11, [.int 2, .ref q114_13, .int 2])), (q114_13, .inl (G.2.1 5, 10, .inr (.inr (.inr (.inr (va_up (va_up (fun _ => none) (Int32.toNatClampNeg 0) (some q47_5)) (Int32.toNatClampNeg 1) (some q124_15))))))), (q124_15, .inr (6, [.long x120_14, .int 1, .ref q124_16, .ref q124_18, .int 1])), (q31_3, .inr (11, [.int 5, .ref q241_28, .int 5])), (q241_28, .inl (G.2.1 5, 10, .inr (.inr (.inr (.inr (va_up (va_up (va_up (va_up (va_up (fun _ => none) (Int32.toNatClampNeg 0) (some q228_27)) (Int32.toNatClampNeg 1) (some q249_29)) (Int32.toNatClampNeg 2) (some q270_30)) (Int32.toNatClampNeg 3) (some q291_31)) (Int32.toNatClampNeg 4) (some q312_32))))))), (q345_35, .inr (5, [.int 5, .int 1, .null, .null, .null, .null, .null, .int 0])), (q368_36, .inr (7, [.long 0, .null, .int 0]))]) F h (ct_function l G q345_35 q47_7) 2 k_163 k_111 k_164 k_165 hd_TypeFinder_Unifier_function (by decide) [] [0, 1, 2, 3, 4, 5, 6, 7, 8, 9, 10, 11, 12, 13, 14, 15, 16] rfl rfl (by decide) (by decide) (by decide) xb_ss0 hl.1 rfl rfl (Nat.le_of_ble_eq_true rfl) (by decide) d_TypeFinder_Known_init_383 (fun u H locs hu h => ?_)
  obtain ⟨q383_37, rfl⟩ : ∃ z, z = u := ⟨_, rfl⟩
  have h : xb_W G A s [(h0, .inr (4, [.ref q5_1, .ref q47_7, .ref q20_2, .ref q31_3, .int 0])), (q5_1, .inr (5, [.int 0, .int 0, .null, .null, .null, .null, .null, .int 0])), (q47_7, .inr (5, [.int 3, .int 0, .ref q47_5, .null, .null, .null, .null, .int 0])), (q47_6, .inr (11, [.int 2, .ref q80_10, .int 2])), (q80_10, .inl (G.2.1 5, 10, .inr (.inr (.inr (.inr (va_up (va_up (fun _ => none) (Int32.toNatClampNeg 0) (some q63_8)) (Int32.toNatClampNeg 1) (some q88_11))))))), (q47_5, .inr (6, [.long x43_4, .int 0, .ref q47_6, .ref q47_7, .int 1])), (q124_17, .inr (5, [.int 5, .int 0, .null, .null, .null, .null, .null, .int 0])), (q124_18, .inr (5, [.int 3, .int 0, .ref q124_15, .ref q124_17, .null, .null, .null, .int 0])), (q124_16, .inr (11, [.int 2, .ref q171_23, .int 2])), (q171_23, .inl (G.2.1 5, 10, .inr (.inr (.inr (.inr (va_up (va_up (fun _ => none) (Int32.toNatClampNeg 0) (some q154_21)) (Int32.toNatClampNeg 1) (some q179_24))))))), (q20_2, .inr (11, [.int 2, .ref q114_13, .int 2])), (q114_13, .inl (G.2.1 5, 10, .inr (.inr (.inr (.inr (va_up (va_up (fun _ => none) (Int32.toNatClampNeg 0) (some q47_5)) (Int32.toNatClampNeg 1) (some q124_15))))))), (q124_15, .inr (6, [.long x120_14, .int 1, .ref q124_16, .ref q124_18, .int 1])), (q31_3, .inr (11, [.int 5, .ref q241_28, .int 5])), (q241_28, .inl (G.2.1 5, 10, .inr (.inr (.inr (.inr (va_up (va_up (va_up (va_up (va_up (fun _ => none) (Int32.toNatClampNeg 0) (some q228_27)) (Int32.toNatClampNeg 1) (some q249_29)) (Int32.toNatClampNeg 2) (some q270_30)) (Int32.toNatClampNeg 3) (some q291_31)) (Int32.toNatClampNeg 4) (some q312_32))))))), (q345_35, .inr (5, [.int 5, .int 1, .null, .null, .null, .null, .null, .int 0])), (q368_36, .inr (7, [.long 0, .null, .int 0]))] _ _ := h
  refine W.widen (k := 32) (n := 188) (by decide) (by decide) ?_
  refine W.eq (g2 := F0 m 386 ls [.ref q383_37, .ref q345_35, .long 63, .ref q368_36, .ref q368_36, .ref q31_3]) rfl ?_
  refine xb_callS (pc := 386) (rm := rm_function) (wr := [(h0, .inr (4, [.ref q5_1, .ref q47_7, .ref q20_2, .ref q31_3, .int 0])), (q5_1, .inr (5, [.int 0, .int 0, .null, .null, .null, .null, .null, .int 0])), (q47_7, .inr (5, [.int 3, .int 0, .ref q47_5, .null, .null, .null, .null, .int 0])), (q47_6, .inr (11, [.int 2, .ref q80_10, .int 2])), (q80_10, .inl (G.2.1 5, 10, .inr (.inr (.inr (.inr (va_up (va_up (fun _ => none) (Int32.toNatClampNeg 0) (some q63_8)) (Int32.toNatClampNeg 1) (some q88_11))))))), (q47_5, .inr (6, [.long x43_4, .int 0, .ref q47_6, .ref q47_7, .int 1])), (q124_17, .inr (5, [.int 5, .int 0, .null, .null, .null, .null, .null, .int 0])), (q124_18, .inr (5, [.int 3, .int 0, .ref q124_15, .ref q124_17, .null, .null, .null, .int 0])), (q124_16, .inr (11, [.int 2, .ref q171_23, .int 2])), (q171_23, .inl (G.2.1 5, 10, .inr (.inr (.inr (.inr (va_up (va_up (fun _ => none) (Int32.toNatClampNeg 0) (some q154_21)) (Int32.toNatClampNeg 1) (some q179_24))))))), (q20_2, .inr (11, [.int 2, .ref q114_13, .int 2])), (q114_13, .inl (G.2.1 5, 10, .inr (.inr (.inr (.inr (va_up (va_up (fun _ => none) (Int32.toNatClampNeg 0) (some q47_5)) (Int32.toNatClampNeg 1) (some q124_15))))))), (q124_15, .inr (6, [.long x120_14, .int 1, .ref q124_16, .ref q124_18, .int 1])), (q31_3, .inr (11, [.int 5, .ref q241_28, .int 5])), (q241_28, .inl (G.2.1 5, 10, .inr (.inr (.inr (.inr (va_up (va_up (va_up (va_up (va_up (fun _ => none) (Int32.toNatClampNeg 0) (some q228_27)) (Int32.toNatClampNeg 1) (some q249_29)) (Int32.toNatClampNeg 2) (some q270_30)) (Int32.toNatClampNeg 3) (some q291_31)) (Int32.toNatClampNeg 4) (some q312_32))))))), (q345_35, .inr (5, [.int 5, .int 1, .null, .null, .null, .null, .null, .int 0])), (q368_36, .inr (7, [.long 0, .null, .int 0]))]) F h (ct_function l G q345_35 q383_37) 2 k_163 k_111 k_164 k_165 hd_TypeFinder_Unifier_function (by decide) [] [0, 1, 2, 3, 4, 5, 6, 7, 8, 9, 10, 11, 12, 13, 14, 15, 16] rfl rfl (by decide) (by decide) (by decide) xb_ss0 hl.1 rfl rfl (Nat.le_of_ble_eq_true rfl) (by decide) d_TypeFinder_Known_init_386 (fun u H locs hu h => ?_)
  obtain ⟨q386_38, rfl⟩ : ∃ z, z = u := ⟨_, rfl⟩
  have h : xb_W G A s [(h0, .inr (4, [.ref q5_1, .ref q47_7, .ref q20_2, .ref q31_3, .int 0])), (q5_1, .inr (5, [.int 0, .int 0, .null, .null, .null, .null, .null, .int 0])), (q47_7, .inr (5, [.int 3, .int 0, .ref q47_5, .null, .null, .null, .null, .int 0])), (q47_6, .inr (11, [.int 2, .ref q80_10, .int 2])), (q80_10, .inl (G.2.1 5, 10, .inr (.inr (.inr (.inr (va_up (va_up (fun _ => none) (Int32.toNatClampNeg 0) (some q63_8)) (Int32.toNatClampNeg 1) (some q88_11))))))), (q47_5, .inr (6, [.long x43_4, .int 0, .ref q47_6, .ref q47_7, .int 1])), (q124_17, .inr (5, [.int 5, .int 0, .null, .null, .null, .null, .null, .int 0])), (q124_18, .inr (5, [.int 3, .int 0, .ref q124_15, .ref q124_17, .null, .null, .null, .int 0])), (q124_16, .inr (11, [.int 2, .ref q171_23, .int 2])), (q171_23, .inl (G.2.1 5, 10, .inr (.inr (.inr (.inr (va_up (va_up (fun _ => none) (Int32.toNatClampNeg 0) (some q154_21)) (Int32.toNatClampNeg 1) (some q179_24))))))), (q20_2, .inr (11, [.int 2, .ref q114_13, .int 2])), (q114_13, .inl (G.2.1 5, 10, .inr (.inr (.inr (.inr (va_up (va_up (fun _ => none) (Int32.toNatClampNeg 0) (some q47_5)) (Int32.toNatClampNeg 1) (some q124_15))))))), (q124_15, .inr (6, [.long x120_14, .int 1, .ref q124_16, .ref q124_18, .int 1])), (q31_3, .inr (11, [.int 5, .ref q241_28, .int 5])), (q241_28, .inl (G.2.1 5, 10, .inr (.inr (.inr (.inr (va_up (va_up (va_up (va_up (va_up (fun _ => none) (Int32.toNatClampNeg 0) (some q228_27)) (Int32.toNatClampNeg 1) (some q249_29)) (Int32.toNatClampNeg 2) (some q270_30)) (Int32.toNatClampNeg 3) (some q291_31)) (Int32.toNatClampNeg 4) (some q312_32))))))), (q345_35, .inr (5, [.int 5, .int 1, .null, .null, .null, .null, .null, .int 0])), (q368_36, .inr (7, [.long 0, .null, .int 0]))] _ _ := h
  refine W.widen (k := 33) (n := 196) (by decide) (by decide) ?_
  refine W.eq (g2 := F0 m 389 ls [.ref q386_38, .long 63, .ref q368_36, .ref q368_36, .ref q31_3]) rfl ?_
  refine lv_iconst (pc := 389) (v := 1) hx hb d_TypeFinder_Known_init_389 (by decide) ?_
  refine xb_callI (pc := 390) (rm := rm_Name_init) (wr := [(h0, .inr (4, [.ref q5_1, .ref q47_7, .ref q20_2, .ref q31_3, .int 0])), (q5_1, .inr (5, [.int 0, .int 0, .null, .null, .null, .null, .null, .int 0])), (q47_7, .inr (5, [.int 3, .int 0, .ref q47_5, .null, .null, .null, .null, .int 0])), (q47_6, .inr (11, [.int 2, .ref q80_10, .int 2])), (q80_10, .inl (G.2.1 5, 10, .inr (.inr (.inr (.inr (va_up (va_up (fun _ => none) (Int32.toNatClampNeg 0) (some q63_8)) (Int32.toNatClampNeg 1) (some q88_11))))))), (q47_5, .inr (6, [.long x43_4, .int 0, .ref q47_6, .ref q47_7, .int 1])), (q124_17, .inr (5, [.int 5, .int 0, .null, .null, .null, .null, .null, .int 0])), (q124_18, .inr (5, [.int 3, .int 0, .ref q124_15, .ref q124_17, .null, .null, .null, .int 0])), (q124_16, .inr (11, [.int 2, .ref q171_23, .int 2])), (q171_23, .inl (G.2.1 5, 10, .inr (.inr (.inr (.inr (va_up (va_up (fun _ => none) (Int32.toNatClampNeg 0) (some q154_21)) (Int32.toNatClampNeg 1) (some q179_24))))))), (q20_2, .inr (11, [.int 2, .ref q114_13, .int 2])), (q114_13, .inl (G.2.1 5, 10, .inr (.inr (.inr (.inr (va_up (va_up (fun _ => none) (Int32.toNatClampNeg 0) (some q47_5)) (Int32.toNatClampNeg 1) (some q124_15))))))), (q124_15, .inr (6, [.long x120_14, .int 1, .ref q124_16, .ref q124_18, .int 1])), (q31_3, .inr (11, [.int 5, .ref q241_28, .int 5])), (q241_28, .inl (G.2.1 5, 10, .inr (.inr (.inr (.inr (va_up (va_up (va_up (va_up (va_up (fun _ => none) (Int32.toNatClampNeg 0) (some q228_27)) (Int32.toNatClampNeg 1) (some q249_29)) (Int32.toNatClampNeg 2) (some q270_30)) (Int32.toNatClampNeg 3) (some q291_31)) (Int32.toNatClampNeg 4) (some q312_32))))))), (q345_35, .inr (5, [.int 5, .int 1, .null, .null, .null, .null, .null, .int 0]))]) F h (ct_Name_init l G q368_36 63 q386_38) 3 k_155 k_154 k_156 k_157 rfl hd_TypeFinder_Name_init (by decide) [16] [0, 1, 2, 3, 4, 5, 6, 7, 8, 9, 10, 11, 12, 13, 14, 15] rfl rfl (by decide) (by decide) (by decide) xb_ss0 hl.1 rfl rfl (Nat.le_of_ble_eq_true rfl) (by decide) d_TypeFinder_Known_init_390 (fun u H locs hu h => ?_)
  have h : xb_W G A s [(h0, .inr (4, [.ref q5_1, .ref q47_7, .ref q20_2, .ref q31_3, .int 0])), (q5_1, .inr (5, [.int 0, .int 0, .null, .null, .null, .null, .null, .int 0])), (q47_7, .inr (5, [.int 3, .int 0, .ref q47_5, .null, .null, .null, .null, .int 0])), (q47_6, .inr (11, [.int 2, .ref q80_10, .int 2])), (q80_10, .inl (G.2.1 5, 10, .inr (.inr (.inr (.inr (va_up (va_up (fun _ => none) (Int32.toNatClampNeg 0) (some q63_8)) (Int32.toNatClampNeg 1) (some q88_11))))))), (q47_5, .inr (6, [.long x43_4, .int 0, .ref q47_6, .ref q47_7, .int 1])), (q124_17, .inr (5, [.int 5, .int 0, .null, .null, .null, .null, .null, .int 0])), (q124_18, .inr (5, [.int 3, .int 0, .ref q124_15, .ref q124_17, .null, .null, .null, .int 0])), (q124_16, .inr (11, [.int 2, .ref q171_23, .int 2])), (q171_23, .inl (G.2.1 5, 10, .inr (.inr (.inr (.inr (va_up (va_up (fun _ => none) (Int32.toNatClampNeg 0) (some q154_21)) (Int32.toNatClampNeg 1) (some q179_24))))))), (q20_2, .inr (11, [.int 2, .ref q114_13, .int 2])), (q114_13, .inl (G.2.1 5, 10, .inr (.inr (.inr (.inr (va_up (va_up (fun _ => none) (Int32.toNatClampNeg 0) (some q47_5)) (Int32.toNatClampNeg 1) (some q124_15))))))), (q124_15, .inr (6, [.long x120_14, .int 1, .ref q124_16, .ref q124_18, .int 1])), (q31_3, .inr (11, [.int 5, .ref q241_28, .int 5])), (q241_28, .inl (G.2.1 5, 10, .inr (.inr (.inr (.inr (va_up (va_up (va_up (va_up (va_up (fun _ => none) (Int32.toNatClampNeg 0) (some q228_27)) (Int32.toNatClampNeg 1) (some q249_29)) (Int32.toNatClampNeg 2) (some q270_30)) (Int32.toNatClampNeg 3) (some q291_31)) (Int32.toNatClampNeg 4) (some q312_32))))))), (q345_35, .inr (5, [.int 5, .int 1, .null, .null, .null, .null, .null, .int 0])), (q368_36, .inr (7, [.long 63, .ref q386_38, .int 1]))] _ _ := h
  refine W.widen (k := 33) (n := 196) (by decide) (by decide) ?_
  refine W.eq (g2 := F0 m 393 ls [.ref q368_36, .ref q31_3]) rfl ?_
  refine xb_callV (pc := 393) (rm := rm_AL_add_Name_5) (wr := [(h0, .inr (4, [.ref q5_1, .ref q47_7, .ref q20_2, .ref q31_3, .int 0])), (q5_1, .inr (5, [.int 0, .int 0, .null, .null, .null, .null, .null, .int 0])), (q47_7, .inr (5, [.int 3, .int 0, .ref q47_5, .null, .null, .null, .null, .int 0])), (q47_6, .inr (11, [.int 2, .ref q80_10, .int 2])), (q80_10, .inl (G.2.1 5, 10, .inr (.inr (.inr (.inr (va_up (va_up (fun _ => none) (Int32.toNatClampNeg 0) (some q63_8)) (Int32.toNatClampNeg 1) (some q88_11))))))), (q47_5, .inr (6, [.long x43_4, .int 0, .ref q47_6, .ref q47_7, .int 1])), (q124_17, .inr (5, [.int 5, .int 0, .null, .null, .null, .null, .null, .int 0])), (q124_18, .inr (5, [.int 3, .int 0, .ref q124_15, .ref q124_17, .null, .null, .null, .int 0])), (q124_16, .inr (11, [.int 2, .ref q171_23, .int 2])), (q171_23, .inl (G.2.1 5, 10, .inr (.inr (.inr (.inr (va_up (va_up (fun _ => none) (Int32.toNatClampNeg 0) (some q154_21)) (Int32.toNatClampNeg 1) (some q179_24))))))), (q20_2, .inr (11, [.int 2, .ref q114_13, .int 2])), (q114_13, .inl (G.2.1 5, 10, .inr (.inr (.inr (.inr (va_up (va_up (fun _ => none) (Int32.toNatClampNeg 0) (some q47_5)) (Int32.toNatClampNeg 1) (some q124_15))))))), (q124_15, .inr (6, [.long x120_14, .int 1, .ref q124_16, .ref q124_18, .int 1])), (q345_35, .inr (5, [.int 5, .int 1, .null, .null, .null, .null, .null, .int 0]))]) F h (ct_AL_add_Name_5 l G q31_3 q241_28 q368_36 5 (va_up (va_up (va_up (va_up (va_up (fun _ => none) (Int32.toNatClampNeg 0) (some q228_27)) (Int32.toNatClampNeg 1) (some q249_29)) (Int32.toNatClampNeg 2) (some q270_30)) (Int32.toNatClampNeg 3) (some q291_31)) (Int32.toNatClampNeg 4) (some q312_32)) (.long 63) (.ref q386_38) (.int 1)) 1 (va_recv hK h.1 (q0 := 13) (ci := 11) rfl rfl) k_158 k_45 k_159 k_160 k_161 hd_ArrayList_add2 (by decide) [13, 14, 16] [0, 1, 2, 3, 4, 5, 6, 7, 8, 9, 10, 11, 12, 15] rfl rfl (by decide) (by decide) (by decide) xb_ss0 hl.1 rfl rfl (Nat.le_of_ble_eq_true rfl) (by decide) d_TypeFinder_Known_init_393 (fun u H locs hu h => ?_)
  have h : xb_W G A s [(h0, .inr (4, [.ref q5_1, .ref q47_7, .ref q20_2, .ref q31_3, .int 0])), (q5_1, .inr (5, [.int 0, .int 0, .null, .null, .null, .null, .null, .int 0])), (q47_7, .inr (5, [.int 3, .int 0, .ref q47_5, .null, .null, .null, .null, .int 0])), (q47_6, .inr (11, [.int 2, .ref q80_10, .int 2])), (q80_10, .inl (G.2.1 5, 10, .inr (.inr (.inr (.inr (va_up (va_up (fun _ => none) (Int32.toNatClampNeg 0) (some q63_8)) (Int32.toNatClampNeg 1) (some q88_11))))))), (q47_5, .inr (6, [.long x43_4, .int 0, .ref q47_6, .ref q47_7, .int 1])), (q124_17, .inr (5, [.int 5, .int 0, .null, .null, .null, .null, .null, .int 0])), (q124_18, .inr (5, [.int 3, .int 0, .ref q124_15, .ref q124_17, .null, .null, .null, .int 0])), (q124_16, .inr (11, [.int 2, .ref q171_23, .int 2])), (q171_23, .inl (G.2.1 5, 10, .inr (.inr (.inr (.inr (va_up (va_up (fun _ => none) (Int32.toNatClampNeg 0) (some q154_21)) (Int32.toNatClampNeg 1) (some q179_24))))))), (q20_2, .inr (11, [.int 2, .ref q114_13, .int 2])), (q114_13, .inl (G.2.1 5, 10, .inr (.inr (.inr (.inr (va_up (va_up (fun _ => none) (Int32.toNatClampNeg 0) (some q47_5)) (Int32.toNatClampNeg 1) (some q124_15))))))), (q124_15, .inr (6, [.long x120_14, .int 1, .ref q124_16, .ref q124_18, .int 1])), (q345_35, .inr (5, [.int 5, .int 1, .null, .null, .null, .null, .null, .int 0])), (q31_3, .inr (11, [.int 6, .ref q241_28, .int 6])), (q241_28, .inl (G.2.1 5, 10, .inr (.inr (.inr (.inr (va_up (va_up (va_up (va_up (va_up (va_up (fun _ => none) (Int32.toNatClampNeg 0) (some q228_27)) (Int32.toNatClampNeg 1) (some q249_29)) (Int32.toNatClampNeg 2) (some q270_30)) (Int32.toNatClampNeg 3) (some q291_31)) (Int32.toNatClampNeg 4) (some q312_32)) (Int32.toNatClampNeg 5) (some q368_36))))))), (q368_36, .inr (7, [.long 63, .ref q386_38, .int 1]))] _ _ := h
  refine W.widen (k := 33) (n := 196) (by decide) (by decide) ?_
  refine W.eq (g2 := F0 m 396 ls [.int 1]) rfl ?_
  refine lv_pop (pc := 396) hx hb d_TypeFinder_Known_init_396 rfl ?_
  have h := xb_sub (ws' := [(h0, .inr (4, [.ref q5_1, .ref q47_7, .ref q20_2, .ref q31_3, .int 0])), (q5_1, .inr (5, [.int 0, .int 0, .null, .null, .null, .null, .null, .int 0])), (q47_7, .inr (5, [.int 3, .int 0, .ref q47_5, .null, .null, .null, .null, .int 0])), (q47_6, .inr (11, [.int 2, .ref q80_10, .int 2])), (q80_10, .inl (G.2.1 5, 10, .inr (.inr (.inr (.inr (va_up (va_up (fun _ => none) (Int32.toNatClampNeg 0) (some q63_8)) (Int32.toNatClampNeg 1) (some q88_11))))))), (q47_5, .inr (6, [.long x43_4, .int 0, .ref q47_6, .ref q47_7, .int 1])), (q124_17, .inr (5, [.int 5, .int 0, .null, .null, .null, .null, .null, .int 0])), (q124_18, .inr (5, [.int 3, .int 0, .ref q124_15, .ref q124_17, .null, .null, .null, .int 0])), (q124_16, .inr (11, [.int 2, .ref q171_23, .int 2])), (q171_23, .inl (G.2.1 5, 10, .inr (.inr (.inr (.inr (va_up (va_up (fun _ => none) (Int32.toNatClampNeg 0) (some q154_21)) (Int32.toNatClampNeg 1) (some q179_24))))))), (q20_2, .inr (11, [.int 2, .ref q114_13, .int 2])), (q114_13, .inl (G.2.1 5, 10, .inr (.inr (.inr (.inr (va_up (va_up (fun _ => none) (Int32.toNatClampNeg 0) (some q47_5)) (Int32.toNatClampNeg 1) (some q124_15))))))), (q124_15, .inr (6, [.long x120_14, .int 1, .ref q124_16, .ref q124_18, .int 1])), (q345_35, .inr (5, [.int 5, .int 1, .null, .null, .null, .null, .null, .int 0])), (q31_3, .inr (11, [.int 6, .ref q241_28, .int 6])), (q241_28, .inl (G.2.1 5, 10, .inr (.inr (.inr (.inr (va_up (va_up (va_up (va_up (va_up (va_up (fun _ => none) (Int32.toNatClampNeg 0) (some q228_27)) (Int32.toNatClampNeg 1) (some q249_29)) (Int32.toNatClampNeg 2) (some q270_30)) (Int32.toNatClampNeg 3) (some q291_31)) (Int32.toNatClampNeg 4) (some q312_32)) (Int32.toNatClampNeg 5) (some q368_36)))))))]) h [0, 1, 2, 3, 4, 5, 6, 7, 8, 9, 10, 11, 12, 13, 14, 15] (by decide) rfl
  refine lv_aload_n (pc := 397) hx hb d_TypeFinder_Known_init_397 rfl (lv_at hl 5 rfl) ?_
  refine lv_aload_n (pc := 398) hx hb d_TypeFinder_Known_init_398 rfl (lv_at hl 5 rfl) ?_
  refine xb_get (pc := 399) F h cf_4 0 rfl 3 (by decide) rfl k_141 (Or.inl rfl) rfl d_TypeFinder_Known_init_399 ?_
  refine xb_callV (pc := 402) (rm := rm_AL_size) (wr := [(h0, .inr (4, [.ref q5_1, .ref q47_7, .ref q20_2, .ref q31_3, .int 0])), (q5_1, .inr (5, [.int 0, .int 0, .null, .null, .null, .null, .null, .int 0])), (q47_7, .inr (5, [.int 3, .int 0, .ref q47_5, .null, .null, .null, .null, .int 0])), (q47_6, .inr (11, [.int 2, .ref q80_10, .int 2])), (q80_10, .inl (G.2.1 5, 10, .inr (.inr (.inr (.inr (va_up (va_up (fun _ => none) (Int32.toNatClampNeg 0) (some q63_8)) (Int32.toNatClampNeg 1) (some q88_11))))))), (q47_5, .inr (6, [.long x43_4, .int 0, .ref q47_6, .ref q47_7, .int 1])), (q124_17, .inr (5, [.int 5, .int 0, .null, .null, .null, .null, .null, .int 0])), (q124_18, .inr (5, [.int 3, .int 0, .ref q124_15, .ref q124_17, .null, .null, .null, .int 0])), (q124_16, .inr (11, [.int 2, .ref q171_23, .int 2])), (q171_23, .inl (G.2.1 5, 10, .inr (.inr (.inr (.inr (va_up (va_up (fun _ => none) (Int32.toNatClampNeg 0) (some q154_21)) (Int32.toNatClampNeg 1) (some q179_24))))))), (q20_2, .inr (11, [.int 2, .ref q114_13, .int 2])), (q114_13, .inl (G.2.1 5, 10, .inr (.inr (.inr (.inr (va_up (va_up (fun _ => none) (Int32.toNatClampNeg 0) (some q47_5)) (Int32.toNatClampNeg 1) (some q124_15))))))), (q124_15, .inr (6, [.long x120_14, .int 1, .ref q124_16, .ref q124_18, .int 1])), (q345_35, .inr (5, [.int 5, .int 1, .null, .null, .null, .null, .null, .int 0])), (q241_28, .inl (G.2.1 5, 10, .inr (.inr (.inr (.inr (va_up (va_up (va_up (va_up (va_up (va_up (fun _ => none) (Int32.toNatClampNeg 0) (some q228_27)) (Int32.toNatClampNeg 1) (some q249_29)) (Int32.toNatClampNeg 2) (some q270_30)) (Int32.toNatClampNeg 3) (some q291_31)) (Int32.toNatClampNeg 4) (some q312_32)) (Int32.toNatClampNeg 5) (some q368_36)))))))]) F h (ct_AL_size l G q31_3 6 q241_28 6) 0 (va_recv hK h.1 (q0 := 14) (ci := 11) rfl rfl) k_174 k_45 k_175 k_176 k_177 hd_ArrayList_size (by decide) [14] [0, 1, 2, 3, 4, 5, 6, 7, 8, 9, 10, 11, 12, 13, 15] rfl rfl (by decide) (by decide) (by decide) xb_ss0 hl.1 rfl rfl (Nat.le_of_ble_eq_true rfl) (by decide) d_TypeFinder_Known_init_402 (fun u H locs hu h => ?_)
  have h : xb_W G A s [(h0, .inr (4, [.ref q5_1, .ref q47_7, .ref q20_2, .ref q31_3, .int 0])), (q5_1, .inr (5, [.int 0, .int 0, .null, .null, .null, .null, .null, .int 0])), (q47_7, .inr (5, [.int 3, .int 0, .ref q47_5, .null, .null, .null, .null, .int 0])), (q47_6, .inr (11, [.int 2, .ref q80_10, .int 2])), (q80_10, .inl (G.2.1 5, 10, .inr (.inr (.inr (.inr (va_up (va_up (fun _ => none) (Int32.toNatClampNeg 0) (some q63_8)) (Int32.toNatClampNeg 1) (some q88_11))))))), (q47_5, .inr (6, [.long x43_4, .int 0, .ref q47_6, .ref q47_7, .int 1])), (q124_17, .inr (5, [.int 5, .int 0, .null, .null, .null, .null, .null, .int 0])), (q124_18, .inr (5, [.int 3, .int 0, .ref q124_15, .ref q124_17, .null, .null, .null, .int 0])), (q124_16, .inr (11, [.int 2, .ref q171_23, .int 2])), (q171_23, .inl (G.2.1 5, 10, .inr (.inr (.inr (.inr (va_up (va_up (fun _ => none) (Int32.toNatClampNeg 0) (some q154_21)) (Int32.toNatClampNeg 1) (some q179_24))))))), (q20_2, .inr (11, [.int 2, .ref q114_13, .int 2])), (q114_13, .inl (G.2.1 5, 10, .inr (.inr (.inr (.inr (va_up (va_up (fun _ => none) (Int32.toNatClampNeg 0) (some q47_5)) (Int32.toNatClampNeg 1) (some q124_15))))))), (q124_15, .inr (6, [.long x120_14, .int 1, .ref q124_16, .ref q124_18, .int 1])), (q345_35, .inr (5, [.int 5, .int 1, .null, .null, .null, .null, .null, .int 0])), (q241_28, .inl (G.2.1 5, 10, .inr (.inr (.inr (.inr (va_up (va_up (va_up (va_up (va_up (va_up (fun _ => none) (Int32.toNatClampNeg 0) (some q228_27)) (Int32.toNatClampNeg 1) (some q249_29)) (Int32.toNatClampNeg 2) (some q270_30)) (Int32.toNatClampNeg 3) (some q291_31)) (Int32.toNatClampNeg 4) (some q312_32)) (Int32.toNatClampNeg 5) (some q368_36))))))), (q31_3, .inr (11, [.int 6, .ref q241_28, .int 6]))] _ _ := h
  refine W.widen (k := 33) (n := 196) (by decide) (by decide) ?_
  refine W.eq (g2 := F0 m 405 ls [.int 6, .ref h0]) rfl ?_
  refine xb_putF (pc := 405) (t0 := .int) (ws' := [(h0, .inr (4, [.ref q5_1, .ref q47_7, .ref q20_2, .ref q31_3, .int 6])), (q5_1, .inr (5, [.int 0, .int 0, .null, .null, .null, .null, .null, .int 0])), (q47_7, .inr (5, [.int 3, .int 0, .ref q47_5, .null, .null, .null, .null, .int 0])), (q47_6, .inr (11, [.int 2, .ref q80_10, .int 2])), (q80_10, .inl (G.2.1 5, 10, .inr (.inr (.inr (.inr (va_up (va_up (fun _ => none) (Int32.toNatClampNeg 0) (some q63_8)) (Int32.toNatClampNeg 1) (some q88_11))))))), (q47_5, .inr (6, [.long x43_4, .int 0, .ref q47_6, .ref q47_7, .int 1])), (q124_17, .inr (5, [.int 5, .int 0, .null, .null, .null, .null, .null, .int 0])), (q124_18, .inr (5, [.int 3, .int 0, .ref q124_15, .ref q124_17, .null, .null, .null, .int 0])), (q124_16, .inr (11, [.int 2, .ref q171_23, .int 2])), (q171_23, .inl (G.2.1 5, 10, .inr (.inr (.inr (.inr (va_up (va_up (fun _ => none) (Int32.toNatClampNeg 0) (some q154_21)) (Int32.toNatClampNeg 1) (some q179_24))))))), (q20_2, .inr (11, [.int 2, .ref q114_13, .int 2])), (q114_13, .inl (G.2.1 5, 10, .inr (.inr (.inr (.inr (va_up (va_up (fun _ => none) (Int32.toNatClampNeg 0) (some q47_5)) (Int32.toNatClampNeg 1) (some q124_15))))))), (q124_15, .inr (6, [.long x120_14, .int 1, .ref q124_16, .ref q124_18, .int 1])), (q345_35, .inr (5, [.int 5, .int 1, .null, .null, .null, .null, .null, .int 0])), (q241_28, .inl (G.2.1 5, 10, .inr (.inr (.inr (.inr (va_up (va_up (va_up (va_up (va_up (va_up (fun _ => none) (Int32.toNatClampNeg 0) (some q228_27)) (Int32.toNatClampNeg 1) (some q249_29)) (Int32.toNatClampNeg 2) (some q270_30)) (Int32.toNatClampNeg 3) (some q291_31)) (Int32.toNatClampNeg 4) (some q312_32)) (Int32.toNatClampNeg 5) (some q368_36))))))), (q31_3, .inr (11, [.int 6, .ref q241_28, .int 6]))]) F h hnm cf_4 0 rfl 4 (by decide) rfl k_178 (by decide +kernel) rfl rfl (Nat.le_of_ble_eq_true rfl) rfl d_TypeFinder_Known_init_405 (fun H locs h => ?_)
  exact xb_vret (pc := 408) (rm := rm_Known_init) F hr hlk hA hQ h ((fun i => [q5_1, q20_2, q31_3, q47_5, q47_6, q47_7, q114_13, q124_15, q124_16, q124_18, q241_28].getD i 0), x43_4, x120_14) trivial rfl [0, 5, 10, 11, 12, 15] (by decide) rfl (by decide) (by decide) d_TypeFinder_Known_init_408
end
section
abbrev rm_Parser_init : Room := { frames := 9, cells := 27, slots := 288, locals := 303 }
set_option maxHeartbeats 4000000 in
set_option maxRecDepth 100000 in
theorem ct_Parser_init (l : Launch) (G : xb_EV) (h0 : Nat) : xb_CT l y_TypeFinder_Parser_init b_TypeFinder_Parser_init 1 none rm_Parser_init G [] [.ref h0] [(h0, .inr (1, [.null, .null, .null, .null]))] (S := (Nat → Nat) × (Nat → Int32) × (Nat → Int32)) (fun _ => none) (fun _ => True) (fun u => [(h0, .inr (1, [.ref (u.1 0), .ref (u.1 4), .ref (u.1 5), .ref (u.1 6)])), ((u.1 0), .inr (2, [.ref (u.1 1), .ref (u.1 2), .ref (u.1 3), .int 0, .int 0])), ((u.1 1), .inl (G.2.1 0, 81, .inl (fun _ => 0))), ((u.1 2), .inl (G.2.1 1, 81, .inr (.inl (fun _ => 0)))), ((u.1 5), .inl (G.2.1 0, 10, .inl (u.2.1))), ((u.1 6), .inl (G.2.1 2, 10, .inl (u.2.2)))]) := by
  refine xb_CT.of (by decide) "TypeFinder$Parser" rfl ?_ (Nat.le_of_ble_eq_true rfl)
  intro p e s m args below meth c A ls Q F hr hlk hnm h hl hA hQ
  have hx := F.1.1
  have hb := F.1.2.1
  have hml := F.1.2.2.1
  have hown := F.1.2.2.2.1
  have hts := F.1.2.2.2.2
  have hK := F.2.1
  refine lv_aload_n (pc := 0) hx hb d_TypeFinder_Parser_init_0 rfl (lv_at hl 0 rfl) ?_
  refine W.objInit hx hb hown (hts _ k_179) (hts _ k_25) (hts _ k_26) rfl (by rw [hml]; exact hl.1) rfl d_TypeFinder_Parser_init_1 (Nat.le_of_ble_eq_true rfl) (Nat.le_of_ble_eq_true rfl) ?_
  refine W.eq (g2 := F0 m 4 ls []) rfl ?_
  refine lv_aload_n (pc := 4) hx hb d_TypeFinder_Parser_init_4 rfl (lv_at hl 0 rfl) ?_
  refine xb_new (pc := 5) (ws' := fun q5_1 => [(h0, .inr (1, [.null, .null, .null, .null])), (q5_1, .inr (2, [.null, .null, .null, .int 0, .int 0]))]) F h cf_2 k_180 k_181 k_143 df_2 (fun _ => rfl) (by decide) (by decide) d_TypeFinder_Parser_init_5 (fun q5_1 H h => ?_)
  refine lv_dup (pc := 8) hx hb d_TypeFinder_Parser_init_8 rfl ?_
  refine xb_callI (pc := 9) (rm := rm_Tokens_init) (wr := [(h0, .inr (1, [.null, .null, .null, .null]))]) F h (ct_Tokens_init l G q5_1) 0 k_182 k_143 k_183 k_184 rfl hd_TypeFinder_Tokens_init (by decide) [1] [0] rfl rfl (by decide) (by decide) (by decide) xb_ss0 hl.1 rfl rfl (Nat.le_of_ble_eq_true rfl) (by decide) d_TypeFinder_Parser_init_9 (fun u H locs hu h => ?_)
  obtain ⟨q9_2, q9_3, q9_4⟩ := u
  have h : xb_W G A s [(h0, .inr (1, [.null, .null, .null, .null])), (q5_1, .inr (2, [.ref q9_2, .ref q9_3, .ref q9_4, .int 0, .int 0])), (q9_2, .inl (G.2.1 0, 81, .inl (fun _ => 0))), (q9_3, .inl (G.2.1 1, 81, .inr (.inl (fun _ => 0))))] _ _ := h
  refine W.widen (k := 24) (n := 267) (by decide) (by decide) ?_
  refine W.eq (g2 := F0 m 12 ls [.ref q5_1, .ref h0]) rfl ?_
  refine xb_putF (pc := 12) (t0 := (.object "TypeFinder$Tokens")) (ws' := [(h0, .inr (1, [.ref q5_1, .null, .null, .null])), (q5_1, .inr (2, [.ref q9_2, .ref q9_3, .ref q9_4, .int 0, .int 0])), (q9_2, .inl (G.2.1 0, 81, .inl (fun _ => 0))), (q9_3, .inl (G.2.1 1, 81, .inr (.inl (fun _ => 0))))]) F h hnm cf_1 0 rfl 0 (by decide) rfl k_185 (by decide +kernel) rfl rfl (Nat.le_of_ble_eq_true rfl) rfl d_TypeFinder_Parser_init_12 (fun H locs h => ?_)
  refine lv_aload_n (pc := 15) hx hb d_TypeFinder_Parser_init_15 rfl (lv_at hl 0 rfl) ?_
  refine xb_new (pc := 16) (ws' := fun q16_5 => [(h0, .inr (1, [.ref q5_1, .null, .null, .null])), (q5_1, .inr (2, [.ref q9_2, .ref q9_3, .ref q9_4, .int 0, .int 0])), (q9_2, .inl (G.2.1 0, 81, .inl (fun _ => 0))), (q9_3, .inl (G.2.1 1, 81, .inr (.inl (fun _ => 0)))), (q16_5, .inr (3, [.null]))]) F h cf_3 k_186 k_187 k_188 df_3 (fun _ => rfl) (by decide) (by decide) d_TypeFinder_Parser_init_16 (fun q16_5 H h => ?_)
  refine lv_dup (pc := 19) hx hb d_TypeFinder_Parser_init_19 rfl ?_
  refine lv_aload_n (pc := 20) hx hb d_TypeFinder_Parser_init_20 rfl (lv_at hl 0 rfl) ?_
  refine xb_get (pc := 21) F h cf_1 0 rfl 0 (by decide) rfl k_185 (Or.inl rfl) rfl d_TypeFinder_Parser_init_21 ?_
  refine xb_callI (pc := 24) (rm := rm_DataParser_init) (wr := [(h0, .inr (1, [.ref q5_1, .null, .null, .null])), (q5_1, .inr (2, [.ref q9_2, .ref q9_3, .ref q9_4, .int 0, .int 0])), (q9_2, .inl (G.2.1 0, 81, .inl (fun _ => 0))), (q9_3, .inl (G.2.1 1, 81, .inr (.inl (fun _ => 0))))]) F h (ct_DataParser_init l G q16_5 q5_1) 1 k_189 k_188 k_190 k_191 rfl hd_TypeFinder_DataParser_init (by decide) [4] [0, 1, 2, 3] rfl rfl (by decide) (by decide) (by decide) xb_ss0 hl.1 rfl rfl (Nat.le_of_ble_eq_true rfl) (by decide) d_TypeFinder_Parser_init_24 (fun u H locs hu h => ?_)
  have h : xb_W G A s [(h0, .inr (1, [.ref q5_1, .null, .null, .null])), (q5_1, .inr (2, [.ref q9_2, .ref q9_3, .ref q9_4, .int 0, .int 0])), (q9_2, .inl (G.2.1 0, 81, .inl (fun _ => 0))), (q9_3, .inl (G.2.1 1, 81, .inr (.inl (fun _ => 0))))] _ _ := h
  refine W.widen (k := 25) (n := 268) (by decide) (by decide) ?_
  refine W.eq (g2 := F0 m 27 ls [.ref q16_5, .ref h0]) rfl ?_
  refine xb_putF (pc := 27) (t0 := (.object "TypeFinder$DataParser")) (ws' := [(h0, .inr (1, [.ref q5_1, .ref q16_5, .null, .null])), (q5_1, .inr (2, [.ref q9_2, .ref q9_3, .ref q9_4, .int 0, .int 0])), (q9_2, .inl (G.2.1 0, 81, .inl (fun _ => 0))), (q9_3, .inl (G.2.1 1, 81, .inr (.inl (fun _ => 0))))]) F h hnm cf_1 0 rfl 1 (by decide) rfl k_192 (by decide +kernel) rfl rfl (Nat.le_of_ble_eq_true rfl) rfl d_TypeFinder_Parser_init_27 (fun H locs h => ?_)
  refine lv_aload_n (pc := 30) hx hb d_TypeFinder_Parser_init_30 rfl (lv_at hl 0 rfl) ?_
  refine lv_bipush (pc := 31) (v := 10) hx hb d_TypeFinder_Parser_init_31 (by decide) ?_
  refine xb_newa (pc := 33) (a0 := (10, .inl (fun _ => 0))) (ty := .int) (N' := 10) (ws' := fun q33_6 => [(h0, .inr (1, [.ref q5_1, .ref q16_5, .null, .null])), (q5_1, .inr (2, [.ref q9_2, .ref q9_3, .ref q9_4, .int 0, .int 0])), (q9_2, .inl (G.2.1 0, 81, .inl (fun _ => 0))), (q9_3, .inl (G.2.1 1, 81, .inr (.inl (fun _ => 0)))), (q33_6, .inl (G.2.1 0, 10, .inl (fun _ => 0)))]) F h rfl 0 rfl k_193 (fun _ => rfl) (by decide) (by decide) (by decide) (fun _ => rfl) (by decide) (by decide) d_TypeFinder_Parser_init_33 (fun q33_6 H h => ?_)
  refine lv_dup (pc := 35) hx hb d_TypeFinder_Parser_init_35 rfl ?_
  refine lv_iconst (pc := 36) (v := 0) hx hb d_TypeFinder_Parser_init_36 (by decide) ?_
  refine lv_bipush (pc := 37) (v := 6) hx hb d_TypeFinder_Parser_init_37 (by decide) ?_
  refine xb_iastF (pc := 39) (ws' := fun f39_7 => [(h0, .inr (1, [.ref q5_1, .ref q16_5, .null, .null])), (q5_1, .inr (2, [.ref q9_2, .ref q9_3, .ref q9_4, .int 0, .int 0])), (q9_2, .inl (G.2.1 0, 81, .inl (fun _ => 0))), (q9_3, .inl (G.2.1 1, 81, .inr (.inl (fun _ => 0)))), (q33_6, .inl (G.2.1 0, 10, .inl (f39_7)))]) F h 4 0 rfl rfl (by unfold vp_in; decide) (fun _ => rfl) d_TypeFinder_Parser_init_39 (fun f39_7 H locs h => ?_)
  refine lv_dup (pc := 40) hx hb d_TypeFinder_Parser_init_40 rfl ?_
  refine lv_iconst (pc := 41) (v := 1) hx hb d_TypeFinder_Parser_init_41 (by decide) ?_
  refine lv_bipush (pc := 42) (v := 6) hx hb d_TypeFinder_Parser_init_42 (by decide) ?_
  refine xb_iastF (pc := 44) (ws' := fun f44_8 => [(h0, .inr (1, [.ref q5_1, .ref q16_5, .null, .null])), (q5_1, .inr (2, [.ref q9_2, .ref q9_3, .ref q9_4, .int 0, .int 0])), (q9_2, .inl (G.2.1 0, 81, .inl (fun _ => 0))), (q9_3, .inl (G.2.1 1, 81, .inr (.inl (fun _ => 0)))), (q33_6, .inl (G.2.1 0, 10, .inl (f44_8)))]) F h 4 0 rfl rfl (by unfold vp_in; decide) (fun _ => rfl) d_TypeFinder_Parser_init_44 (fun f44_8 H locs h => ?_)
  refine lv_dup (pc := 45) hx hb d_TypeFinder_Parser_init_45 rfl ?_
  refine lv_iconst (pc := 46) (v := 2) hx hb d_TypeFinder_Parser_init_46 (by decide) ?_
  refine lv_bipush (pc := 47) (v := 7) hx hb d_TypeFinder_Parser_init_47 (by decide) ?_
  refine xb_iastF (pc := 49) (ws' := fun f49_9 => [(h0, .inr (1, [.ref q5_1, .ref q16_5, .null, .null])), (q5_1, .inr (2, [.ref q9_2, .ref q9_3, .ref q9_4, .int 0, .int 0])), (q9_2, .inl (G.2.1 0, 81, .inl (fun _ => 0))), (q9_3, .inl (G.2.1 1, 81, .inr (.inl (fun _ => 0)))), (q33_6, .inl (G.2.1 0, 10, .inl (f49_9)))]) F h 4 0 rfl rfl (by unfold vp_in; decide) (fun _ => rfl) d_TypeFinder_Parser_init_49 (fun f49_9 H locs h => ?_)
  refine lv_dup (pc := 50) hx hb d_TypeFinder_Parser_init_50 rfl ?_
  refine lv_iconst (pc := 51) (v := 3) hx hb d_TypeFinder_Parser_init_51 (by decide) ?_
  refine lv_bipush (pc := 52) (v := 7) hx hb d_TypeFinder_Parser_init_52 (by decide) ?_
  refine xb_iastF (pc := 54) (ws' := fun f54_10 => [(h0, .inr (1, [.ref q5_1, .ref q16_5, .null, .null])), (q5_1, .inr (2, [.ref q9_2, .ref q9_3, .ref q9_4, .int 0, .int 0])), (q9_2, .inl (G.2.1 0, 81, .inl (fun _ => 0))), (q9_3, .inl (G.2.1 1, 81, .inr (.inl (fun _ => 0)))), (q33_6, .inl (G.2.1 0, 10, .inl (f54_10)))]) F h 4 0 rfl rfl (by unfold vp_in; decide) (fun _ => rfl) d_TypeFinder_Parser_init_54 (fun f54_10 H locs h => ?_)
  refine lv_dup (pc := 55) hx hb d_TypeFinder_Parser_init_55 rfl ?_
  refine lv_iconst (pc := 56) (v := 4) hx hb d_TypeFinder_Parser_init_56 (by decide) ?_
  refine lv_iconst (pc := 57) (v := 4) hx hb d_TypeFinder_Parser_init_57 (by decide) ?_
  refine xb_iastF (pc := 58) (ws' := fun f58_11 => [(h0, .inr (1, [.ref q5_1, .ref q16_5, .null, .null])), (q5_1, .inr (2, [.ref q9_2, .ref q9_3, .ref q9_4, .int 0, .int 0])), (q9_2, .inl (G.2.1 0, 81, .inl (fun _ => 0))), (q9_3, .inl (G.2.1 1, 81, .inr (.inl (fun _ => 0)))), (q33_6, .inl (G.2.1 0, 10, .inl (f58_11)))]) F h 4 0 rfl rfl (by unfold vp_in; decide) (fun _ => rfl) d_TypeFinder_Parser_init_58 (fun f58_11 H locs h => ?_)
  refine lv_dup (pc := 59) hx hb d_TypeFinder_Parser_init_59 rfl ?_
  refine lv_iconst (pc := 60) (v := 5) hx hb d_TypeFinder_Parser_init_60 (by decide) ?_
  refine lv_iconst (pc := 61) (v := 4) hx hb d_TypeFinder_Parser_init_61 (by decide) ?_
  refine xb_iastF (pc := 62) (ws' := fun f62_12 => [(h0, .inr (1, [.ref q5_1, .ref q16_5, .null, .null])), (q5_1, .inr (2, [.ref q9_2, .ref q9_3, .ref q9_4, .int 0, .int 0])), (q9_2, .inl (G.2.1 0, 81, .inl (fun _ => 0))), (q9_3, .inl (G.2.1 1, 81, .inr (.inl (fun _ => 0)))), (q33_6, .inl (G.2.1 0, 10, .inl (f62_12)))]) F h 4 0 rfl rfl (by unfold vp_in; decide) (fun _ => rfl) d_TypeFinder_Parser_init_62 (fun f62_12 H locs h => ?_)
  refine lv_dup (pc := 63) hx hb d_TypeFinder_Parser_init_63 rfl ?_
  refine lv_bipush (pc := 64) (v := 6) hx hb d_TypeFinder_Parser_init_64 (by decide) ?_
  refine lv_iconst (pc := 66) (v := 5) hx hb d_TypeFinder_Parser_init_66 (by decide) ?_
  refine xb_iastF (pc := 67) (ws' := fun f67_13 => [(h0, .inr (1, [.ref q5_1, .ref q16_5, .null, .null])), (q5_1, .inr (2, [.ref q9_2, .ref q9_3, .ref q9_4, .int 0, .int 0])), (q9_2, .inl (G.2.1 0, 81, .inl (fun _ => 0))), (q9_3, .inl (G.2.1 1, 81, .inr (.inl (fun _ => 0)))), (q33_6, .inl (G.2.1 0, 10, .inl (f67_13)))]) F h 4 0 rfl rfl (by unfold vp_in; decide) (fun _ => rfl) d_TypeFinder_Parser_init_67 (fun f67_13 H locs h => ?_)
  refine lv_dup (pc := 68) hx hb d_TypeFinder_Parser_init_68 rfl ?_
  refine lv_bipush (pc := 69) (v := 7) hx hb d_TypeFinder_Parser_init_69 (by decide) ?_
  refine lv_iconst (pc := 71) (v := (-1)) hx hb d_TypeFinder_Parser_init_71 (by decide) ?_
  refine xb_iastF (pc := 72) (ws' := fun f72_14 => [(h0, .inr (1, [.ref q5_1, .ref q16_5, .null, .null])), (q5_1, .inr (2, [.ref q9_2, .ref q9_3, .ref q9_4, .int 0, .int 0])), (q9_2, .inl (G.2.1 0, 81, .inl (fun _ => 0))), (q9_3, .inl (G.2.1 1, 81, .inr (.inl (fun _ => 0)))), (q33_6, .inl (G.2.1 0, 10, .inl (f72_14)))]) F h 4 0 rfl rfl (by unfold vp_in; decide) (fun _ => rfl) d_TypeFinder_Parser_init_72 (fun f72_14 H locs h => ?_)
  refine lv_dup (pc := 73) hx hb d_TypeFinder_Parser_init_73 rfl ?_
  refine lv_bipush (pc := 74) (v := 8) hx hb d_TypeFinder_Parser_init_74 (by decide) ?_
  refine lv_iconst (pc := 76) (v := (-1)) hx hb d_TypeFinder_Parser_init_76 (by decide) ?_
  refine xb_iastF (pc := 77) (ws' := fun f77_15 => [(h0, .inr (1, [.ref q5_1, .ref q16_5, .null, .null])), (q5_1, .inr (2, [.ref q9_2, .ref q9_3, .ref q9_4, .int 0, .int 0])), (q9_2, .inl (G.2.1 0, 81, .inl (fun _ => 0))), (q9_3, .inl (G.2.1 1, 81, .inr (.inl (fun _ => 0)))), (q33_6, .inl (G.2.1 0, 10, .inl (f77_15)))]) F h 4 0 rfl rfl (by unfold vp_in; decide) (fun _ => rfl) d_TypeFinder_Parser_init_77 (fun f77_15 H locs h => ?_)
  refine lv_dup (pc := 78) hx hb d_TypeFinder_Parser_init_78 rfl ?_
  refine lv_bipush (pc := 79) (v := 9) hx hb d_TypeFinder_Parser_init_79 (by decide) ?_
  refine lv_iconst (pc := 81) (v := (-1)) hx hb d_TypeFinder_Parser_init_81 (by decide) ?_
  refine xb_iastF (pc := 82) (ws' := fun f82_16 => [(h0, .inr (1, [.ref q5_1, .ref q16_5, .null, .null])), (q5_1, .inr (2, [.ref q9_2, .ref q9_3, .ref q9_4, .int 0, .int 0])), (q9_2, .inl (G.2.1 0, 81, .inl (fun _ => 0))), (q9_3, .inl (G.2.1 1, 81, .inr (.inl (fun _ => 0)))), (q33_6, .inl (G.2.1 0, 10, .inl (f82_16)))]) F h 4 0 rfl rfl (by unfold vp_in; decide) (fun _ => rfl) d_TypeFinder_Parser_init_82 (fun f82_16 H locs h => ?_)
  refine xb_putF (pc := 83) (t0 := (.array .int)) (ws' := [(h0, .inr (1, [.ref q5_1, .ref q16_5, .ref q33_6, .null])), (q5_1, .inr (2, [.ref q9_2, .ref q9_3, .ref q9_4, .int 0, .int 0])), (q9_2, .inl (G.2.1 0, 81, .inl (fun _ => 0))), (q9_3, .inl (G.2.1 1, 81, .inr (.inl (fun _ => 0)))), (q33_6, .inl (G.2.1 0, 10, .inl (f82_16)))]) F h hnm cf_1 0 rfl 2 (by decide) rfl k_194 (by decide +kernel) rfl rfl (Nat.le_of_ble_eq_true rfl) rfl d_TypeFinder_Parser_init_83 (fun H locs h => ?_)
  refine lv_aload_n (pc := 86) hx hb d_TypeFinder_Parser_init_86 rfl (lv_at hl 0 rfl) ?_
  refine lv_bipush (pc := 87) (v := 10) hx hb d_TypeFinder_Parser_init_87 (by decide) ?_
  refine xb_newa (pc := 89) (a0 := (10, .inl (fun _ => 0))) (ty := .boolean) (N' := 10) (ws' := fun q89_17 => [(h0, .inr (1, [.ref q5_1, .ref q16_5, .ref q33_6, .null])), (q5_1, .inr (2, [.ref q9_2, .ref q9_3, .ref q9_4, .int 0, .int 0])), (q9_2, .inl (G.2.1 0, 81, .inl (fun _ => 0))), (q9_3, .inl (G.2.1 1, 81, .inr (.inl (fun _ => 0)))), (q33_6, .inl (G.2.1 0, 10, .inl (f82_16))), (q89_17, .inl (G.2.1 2, 10, .inl (fun _ => 0)))]) F h rfl 2 rfl k_195 (fun _ => rfl) (by decide) (by decide) (by decide) (fun _ => rfl) (by decide) (by decide) d_TypeFinder_Parser_init_89 (fun q89_17 H h => ?_)
  refine lv_dup (pc := 91) hx hb d_TypeFinder_Parser_init_91 rfl ?_
  refine lv_iconst (pc := 92) (v := 0) hx hb d_TypeFinder_Parser_init_92 (by decide) ?_
  refine lv_iconst (pc := 93) (v := 0) hx hb d_TypeFinder_Parser_init_93 (by decide) ?_
  refine xb_zastF (pc := 94) (ws' := fun f94_18 => [(h0, .inr (1, [.ref q5_1, .ref q16_5, .ref q33_6, .null])), (q5_1, .inr (2, [.ref q9_2, .ref q9_3, .ref q9_4, .int 0, .int 0])), (q9_2, .inl (G.2.1 0, 81, .inl (fun _ => 0))), (q9_3, .inl (G.2.1 1, 81, .inr (.inl (fun _ => 0)))), (q33_6, .inl (G.2.1 0, 10, .inl (f82_16))), (q89_17, .inl (G.2.1 2, 10, .inl (f94_18)))]) F h 5 2 rfl rfl (by unfold vp_in; decide) (fun _ => rfl) d_TypeFinder_Parser_init_94 (fun f94_18 H locs h => ?_)
  refine lv_dup (pc := 95) hx hb d_TypeFinder_Parser_init_95 rfl ?_
  refine lv_iconst (pc := 96) (v := 1) hx hb d_TypeFinder_Parser_init_96 (by decide) ?_
  refine lv_iconst (pc := 97) (v := 0) hx hb d_TypeFinder_Parser_init_97 (by decide) ?_
  refine xb_zastF (pc := 98) (ws' := fun f98_19 => [(h0, .inr (1, [.ref q5_1, .ref q16_5, .ref q33_6, .null])), (q5_1, .inr (2, [.ref q9_2, .ref q9_3, .ref q9_4, .int 0, .int 0])), (q9_2, .inl (G.2.1 0, 81, .inl (fun _ => 0))), (q9_3, .inl (G.2.1 1, 81, .inr (.inl (fun _ => 0)))), (q33_6, .inl (G.2.1 0, 10, .inl (f82_16))), (q89_17, .inl (G.2.1 2, 10, .inl (f98_19)))]) F h 5 2 rfl rfl (by unfold vp_in; decide) (fun _ => rfl) d_TypeFinder_Parser_init_98 (fun f98_19 H locs h => ?_)
  refine lv_dup (pc := 99) hx hb d_TypeFinder_Parser_init_99 rfl ?_
  refine lv_iconst (pc := 100) (v := 2) hx hb d_TypeFinder_Parser_init_100 (by decide) ?_
  refine lv_iconst (pc := 101) (v := 0) hx hb d_TypeFinder_Parser_init_101 (by decide) ?_
  refine xb_zastF (pc := 102) (ws' := fun f102_20 => [(h0, .inr (1, [.ref q5_1, .ref q16_5, .ref q33_6, .null])), (q5_1, .inr (2, [.ref q9_2, .ref q9_3, .ref q9_4, .int 0, .int 0])), (q9_2, .inl (G.2.1 0, 81, .inl (fun _ => 0))), (q9_3, .inl (G.2.1 1, 81, .inr (.inl (fun _ => 0)))), (q33_6, .inl (G.2.1 0, 10, .inl (f82_16))), (q89_17, .inl (G.2.1 2, 10, .inl (f102_20)))]) F h 5 2 rfl rfl (by unfold vp_in; decide) (fun _ => rfl) d_TypeFinder_Parser_init_102 (fun f102_20 H locs h => ?_)
  refine lv_dup (pc := 103) hx hb d_TypeFinder_Parser_init_103 rfl ?_
  refine lv_iconst (pc := 104) (v := 3) hx hb d_TypeFinder_Parser_init_104 (by decide) ?_
  refine lv_iconst (pc := 105) (v := 0) hx hb d_TypeFinder_Parser_init_105 (by decide) ?_
  refine xb_zastF (pc := 106) (ws' := fun f106_21 => [(h0, .inr (1, [.ref q5_1, .ref q16_5, .ref q33_6, .null])), (q5_1, .inr (2, [.ref q9_2, .ref q9_3, .ref q9_4, .int 0, .int 0])), (q9_2, .inl (G.2.1 0, 81, .inl (fun _ => 0))), (q9_3, .inl (G.2.1 1, 81, .inr (.inl (fun _ => 0)))), (q33_6, .inl (G.2.1 0, 10, .inl (f82_16))), (q89_17, .inl (G.2.1 2, 10, .inl (f106_21)))]) F h 5 2 rfl rfl (by unfold vp_in; decide) (fun _ => rfl) d_TypeFinder_Parser_init_106 (fun f106_21 H locs h => ?_)
  refine lv_dup (pc := 107) hx hb d_TypeFinder_Parser_init_107 rfl ?_
  refine lv_iconst (pc := 108) (v := 4) hx hb d_TypeFinder_Parser_init_108 (by decide) ?_
  refine lv_iconst (pc := 109) (v := 0) hx hb d_TypeFinder_Parser_init_109 (by decide) ?_
  refine xb_zastF (pc := 110) (ws' := fun f110_22 => [(h0, .inr (1, [.ref q5_1, .ref q16_5, .ref q33_6, .null])), (q5_1, .inr (2, [.ref q9_2, .ref q9_3, .ref q9_4, .int 0, .int 0])), (q9_2, .inl (G.2.1 0, 81, .inl (fun _ => 0))), (q9_3, .inl (G.2.1 1, 81, .inr (.inl (fun _ => 0)))), (q33_6, .inl (G.2.1 0, 10, .inl (f82_16))), (q89_17, .inl (G.2.1 2, 10, .inl (f110_22)))]) F h 5 2 rfl rfl (by unfold vp_in; decide) (fun _ => rfl) d_TypeFinder_Parser_init_110 (fun f110_22 H locs h => ?_)
  refine lv_dup (pc := 111) hx hb d_TypeFinder_Parser_init_111 rfl ?_
  refine lv_iconst (pc := 112) (v := 5) hx hb d_TypeFinder_Parser_init_112 (by decide) ?_
  refine lv_iconst (pc := 113) (v := 0) hx hb d_TypeFinder_Parser_init_113 (by decide) ?_
  refine xb_zastF (pc := 114) (ws' := fun f114_23 => [(h0, .inr (1, [.ref q5_1, .ref q16_5, .ref q33_6, .null])), (q5_1, .inr (2, [.ref q9_2, .ref q9_3, .ref q9_4, .int 0, .int 0])), (q9_2, .inl (G.2.1 0, 81, .inl (fun _ => 0))), (q9_3, .inl (G.2.1 1, 81, .inr (.inl (fun _ => 0)))), (q33_6, .inl (G.2.1 0, 10, .inl (f82_16))), (q89_17, .inl (G.2.1 2, 10, .inl (f114_23)))]) F h 5 2 rfl rfl (by unfold vp_in; decide) (fun _ => rfl) d_TypeFinder_Parser_init_114 (fun f114_23 H locs h => ?_)
  refine lv_dup (pc := 115) hx hb d_TypeFinder_Parser_init_115 rfl ?_
  refine lv_bipush (pc := 116) (v := 6) hx hb d_TypeFinder_Parser_init_116 (by decide) ?_
  refine lv_iconst (pc := 118) (v := 1) hx hb d_TypeFinder_Parser_init_118 (by decide) ?_
  refine xb_zastF (pc := 119) (ws' := fun f119_24 => [(h0, .inr (1, [.ref q5_1, .ref q16_5, .ref q33_6, .null])), (q5_1, .inr (2, [.ref q9_2, .ref q9_3, .ref q9_4, .int 0, .int 0])), (q9_2, .inl (G.2.1 0, 81, .inl (fun _ => 0))), (q9_3, .inl (G.2.1 1, 81, .inr (.inl (fun _ => 0)))), (q33_6, .inl (G.2.1 0, 10, .inl (f82_16))), (q89_17, .inl (G.2.1 2, 10, .inl (f119_24)))]) F h 5 2 rfl rfl (by unfold vp_in; decide) (fun _ => rfl) d_TypeFinder_Parser_init_119 (fun f119_24 H locs h => ?_)
  refine lv_dup (pc := 120) hx hb d_TypeFinder_Parser_init_120 rfl ?_
  refine lv_bipush (pc := 121) (v := 7) hx hb d_TypeFinder_Parser_init_121 (by decide) ?_
  refine lv_iconst (pc := 123) (v := 0) hx hb d_TypeFinder_Parser_init_123 (by decide) ?_
  refine xb_zastF (pc := 124) (ws' := fun f124_25 => [(h0, .inr (1, [.ref q5_1, .ref q16_5, .ref q33_6, .null])), (q5_1, .inr (2, [.ref q9_2, .ref q9_3, .ref q9_4, .int 0, .int 0])), (q9_2, .inl (G.2.1 0, 81, .inl (fun _ => 0))), (q9_3, .inl (G.2.1 1, 81, .inr (.inl (fun _ => 0)))), (q33_6, .inl (G.2.1 0, 10, .inl (f82_16))), (q89_17, .inl (G.2.1 2, 10, .inl (f124_25)))]) F h 5 2 rfl rfl (by unfold vp_in; decide) (fun _ => rfl) d_TypeFinder_Parser_init_124 (fun f124_25 H locs h => ?_)
  refine lv_dup (pc := 125) hx hb d_TypeFinder_Parser_init_125 rfl ?_
  refine lv_bipush (pc := 126) (v := 8) hx hb d_TypeFinder_Parser_init_126 (by decide) ?_
  refine lv_iconst (pc := 128) (v := 0) hx hb d_TypeFinder_Parser_init_128 (by decide) ?_
  refine xb_zastF (pc := 129) (ws' := fun f129_26 => [(h0, .inr (1, [.ref q5_1, .ref q16_5, .ref q33_6, .null])), (q5_1, .inr (2, [.ref q9_2, .ref q9_3, .ref q9_4, .int 0, .int 0])), (q9_2, .inl (G.2.1 0, 81, .inl (fun _ => 0))), (q9_3, .inl (G.2.1 1, 81, .inr (.inl (fun _ => 0)))), (q33_6, .inl (G.2.1 0, 10, .inl (f82_16))), (q89_17, .inl (G.2.1 2, 10, .inl (f129_26)))]) F h 5 2 rfl rfl (by unfold vp_in; decide) (fun _ => rfl) d_TypeFinder_Parser_init_129 (fun f129_26 H locs h => ?_)
  refine lv_dup (pc := 130) hx hb d_TypeFinder_Parser_init_130 rfl ?_
  refine lv_bipush (pc := 131) (v := 9) hx hb d_TypeFinder_Parser_init_131 (by decide) ?_
  refine lv_iconst (pc := 133) (v := 0) hx hb d_TypeFinder_Parser_init_133 (by decide) ?_
  refine xb_zastF (pc := 134) (ws' := fun f134_27 => [(h0, .inr (1, [.ref q5_1, .ref q16_5, .ref q33_6, .null])), (q5_1, .inr (2, [.ref q9_2, .ref q9_3, .ref q9_4, .int 0, .int 0])), (q9_2, .inl (G.2.1 0, 81, .inl (fun _ => 0))), (q9_3, .inl (G.2.1 1, 81, .inr (.inl (fun _ => 0)))), (q33_6, .inl (G.2.1 0, 10, .inl (f82_16))), (q89_17, .inl (G.2.1 2, 10, .inl (f134_27)))]) F h 5 2 rfl rfl (by unfold vp_in; decide) (fun _ => rfl) d_TypeFinder_Parser_init_134 (fun f134_27 H locs h => ?_)
  refine xb_putF (pc := 135) (t0 := (.array .boolean)) (ws' := [(h0, .inr (1, [.ref q5_1, .ref q16_5, .ref q33_6, .ref q89_17])), (q5_1, .inr (2, [.ref q9_2, .ref q9_3, .ref q9_4, .int 0, .int 0])), (q9_2, .inl (G.2.1 0, 81, .inl (fun _ => 0))), (q9_3, .inl (G.2.1 1, 81, .inr (.inl (fun _ => 0)))), (q33_6, .inl (G.2.1 0, 10, .inl (f82_16))), (q89_17, .inl (G.2.1 2, 10, .inl (f134_27)))]) F h hnm cf_1 0 rfl 3 (by decide) rfl k_196 (by decide +kernel) rfl rfl (Nat.le_of_ble_eq_true rfl) rfl d_TypeFinder_Parser_init_135 (fun H locs h => ?_)
  exact xb_vret (pc := 138) (rm := rm_Parser_init) F hr hlk hA hQ h ((fun i => [q5_1, q9_2, q9_3, q9_4, q16_5, q33_6, q89_17].getD i 0), f82_16, f134_27) trivial rfl [0, 1, 2, 3, 4, 5] (by decide) rfl (by decide) (by decide) d_TypeFinder_Parser_init_138
abbrev rm_TypeFinder_init : Room := { frames := 10, cells := 74, slots := 623, locals := 323 }
set_option maxHeartbeats 4000000 in
set_option maxRecDepth 100000 in
theorem ct_TypeFinder_init (l : Launch) (G : xb_EV) (h0 : Nat) : xb_CT l y_TypeFinder_init b_TypeFinder_init 1 none rm_TypeFinder_init G [] [.ref h0] [(h0, .inr (0, [.null, .null, .null, .null, .null, .int 0, .int 0, .int 0, .int 0]))] (S := (Nat → Nat) × (Nat → Int32) × (Nat → Int32) × Int64 × Int64) (fun _ => none) (fun _ => True) (fun u => [(h0, .inr (0, [.ref (u.1 0), .ref (u.1 1), .ref (u.1 9), .ref (u.1 21), .ref (u.1 22), .int 0, .int 0, .int 0, .int 0])), ((u.1 0), .inl (G.2.1 3, 80, .inl (fun _ => 0))), ((u.1 1), .inr (1, [.ref (u.1 2), .ref (u.1 6), .ref (u.1 7), .ref (u.1 8)])), ((u.1 2), .inr (2, [.ref (u.1 3), .ref (u.1 4), .ref (u.1 5), .int 0, .int 0])), ((u.1 3), .inl (G.2.1 0, 81, .inl (fun _ => 0))), ((u.1 4), .inl (G.2.1 1, 81, .inr (.inl (fun _ => 0)))), ((u.1 7), .inl (G.2.1 0, 10, .inl (u.2.1))), ((u.1 8), .inl (G.2.1 2, 10, .inl (u.2.2.1))), ((u.1 9), .inr (4, [.ref (u.1 10), .ref (u.1 15), .ref (u.1 11), .ref (u.1 12), .int 6])), ((u.1 13), .inr (6, [.long u.2.2.2.1, .int 0, .ref (u.1 14), .ref (u.1 15), .int 1])), ((u.1 11), .inr (11, [.int 2, .ref (u.1 16), .int 2])), ((u.1 16), .inl (G.2.1 5, 10, .inr (.inr (.inr (.inr (va_up (va_up (fun _ => none) (Int32.toNatClampNeg 0) (some (u.1 13))) (Int32.toNatClampNeg 1) (some (u.1 17)))))))), ((u.1 17), .inr (6, [.long u.2.2.2.2, .int 1, .ref (u.1 18), .ref (u.1 19), .int 1])), ((u.1 12), .inr (11, [.int 6, .ref (u.1 20), .int 6])), ((u.1 22), .inr (10, [.ref (u.1 23), .ref (u.1 25)])), ((u.1 23), .inr (12, [.ref (u.1 24), .int 0, .int 0, .int 0])), ((u.1 25), .inr (11, [.int 0, .ref (G.2.2.1), .int 0]))]) := by
  refine xb_CT.of (by decide) "TypeFinder" rfl ?_ (Nat.le_of_ble_eq_true rfl)
  intro p e s m args below meth c A ls Q F hr hlk hnm h hl hA hQ
  have hx := F.1.1
  have hb := F.1.2.1
  have hml := F.1.2.2.1
  have hown := F.1.2.2.2.1
  have hts := F.1.2.2.2.2
  have hK := F.2.1
  refine lv_aload_n (pc := 0) hx hb d_TypeFinder_init_0 rfl (lv_at hl 0 rfl) ?_
  refine W.objInit hx hb hown (hts _ k_197) (hts _ k_25) (hts _ k_26) rfl (by rw [hml]; exact hl.1) rfl d_TypeFinder_init_1 (Nat.le_of_ble_eq_true rfl) (Nat.le_of_ble_eq_true rfl) ?_
  refine W.eq (g2 := F0 m 4 ls []) rfl ?_
  refine lv_aload_n (pc := 4) hx hb d_TypeFinder_init_4 rfl (lv_at hl 0 rfl) ?_
  refine lv_bipush (pc := 5) (v := 80) hx hb d_TypeFinder_init_5 (by decide) ?_
  refine xb_newa (pc := 7) (a0 := (80, .inl (fun _ => 0))) (ty := .char) (N' := 80) (ws' := fun q7_1 => [(h0, .inr (0, [.null, .null, .null, .null, .null, .int 0, .int 0, .int 0, .int 0])), (q7_1, .inl (G.2.1 3, 80, .inl (fun _ => 0)))]) F h rfl 3 rfl k_198 (fun _ => rfl) (by decide) (by decide) (by decide) (fun _ => rfl) (by decide) (by decide) d_TypeFinder_init_7 (fun q7_1 H h => ?_)
  refine xb_putF (pc := 9) (t0 := (.array .char)) (ws' := [(h0, .inr (0, [.ref q7_1, .null, .null, .null, .null, .int 0, .int 0, .int 0, .int 0])), (q7_1, .inl (G.2.1 3, 80, .inl (fun _ => 0)))]) F h hnm cf_0 0 rfl 0 (by decide) rfl k_199 (by decide +kernel) rfl rfl (Nat.le_of_ble_eq_true rfl) rfl d_TypeFinder_init_9 (fun H locs h => ?_)
  refine lv_aload_n (pc := 12) hx hb d_TypeFinder_init_12 rfl (lv_at hl 0 rfl) ?_
  refine xb_new (pc := 13) (ws' := fun q13_2 => [(h0, .inr (0, [.ref q7_1, .null, .null, .null, .null, .int 0, .int 0, .int 0, .int 0])), (q7_1, .inl (G.2.1 3, 80, .inl (fun _ => 0))), (q13_2, .inr (1, [.null, .null, .null, .null]))]) F h cf_1 k_200 k_201 k_202 df_1 (fun _ => rfl) (by decide) (by decide) d_TypeFinder_init_13 (fun q13_2 H h => ?_)
  refine lv_dup (pc := 16) hx hb d_TypeFinder_init_16 rfl ?_
  refine xb_callI (pc := 17) (rm := rm_Parser_init) (wr := [(h0, .inr (0, [.ref q7_1, .null, .null, .null, .null, .int 0, .int 0, .int 0, .int 0])), (q7_1, .inl (G.2.1 3, 80, .inl (fun _ => 0)))]) F h (ct_Parser_init l G q13_2) 0 k_203 k_202 k_204 k_205 rfl hd_TypeFinder_Parser_init (by decide) [2] [0, 1] rfl rfl (by decide) (by decide) (by decide) xb_ss0 hl.1 rfl rfl (Nat.le_of_ble_eq_true rfl) (by decide) d_TypeFinder_init_17 (fun u H locs hu h => ?_)
  obtain ⟨u17_3, f17_4, f17_5⟩ := u
  have h : xb_W G A s [(h0, .inr (0, [.ref q7_1, .null, .null, .null, .null, .int 0, .int 0, .int 0, .int 0])), (q7_1, .inl (G.2.1 3, 80, .inl (fun _ => 0))), (q13_2, .inr (1, [.ref (u17_3 0), .ref (u17_3 4), .ref (u17_3 5), .ref (u17_3 6)])), ((u17_3 0), .inr (2, [.ref (u17_3 1), .ref (u17_3 2), .ref (u17_3 3), .int 0, .int 0])), ((u17_3 1), .inl (G.2.1 0, 81, .inl (fun _ => 0))), ((u17_3 2), .inl (G.2.1 1, 81, .inr (.inl (fun _ => 0)))), ((u17_3 5), .inl (G.2.1 0, 10, .inl (f17_4))), ((u17_3 6), .inl (G.2.1 2, 10, .inl (f17_5)))] _ _ := h
  refine W.widen (k := 29) (n := 372) (by decide) (by decide) ?_
  refine W.eq (g2 := F0 m 20 ls [.ref q13_2, .ref h0]) rfl ?_
  refine xb_putF (pc := 20) (t0 := (.object "TypeFinder$Parser")) (ws' := [(h0, .inr (0, [.ref q7_1, .ref q13_2, .null, .null, .null, .int 0, .int 0, .int 0, .int 0])), (q7_1, .inl (G.2.1 3, 80, .inl (fun _ => 0))), (q13_2, .inr (1, [.ref (u17_3 0), .ref (u17_3 4), .ref (u17_3 5), .ref (u17_3 6)])), ((u17_3 0), .inr (2, [.ref (u17_3 1), .ref (u17_3 2), .ref (u17_3 3), .int 0, .int 0])), ((u17_3 1), .inl (G.2.1 0, 81, .inl (fun _ => 0))), ((u17_3 2), .inl (G.2.1 1, 81, .inr (.inl (fun _ => 0)))), ((u17_3 5), .inl (G.2.1 0, 10, .inl (f17_4))), ((u17_3 6), .inl (G.2.1 2, 10, .inl (f17_5)))]) F h hnm cf_0 0 rfl 1 (by decide) rfl k_206 (by decide +kernel) rfl rfl (Nat.le_of_ble_eq_true rfl) rfl d_TypeFinder_init_20 (fun H locs h => ?_)
  refine lv_aload_n (pc := 23) hx hb d_TypeFinder_init_23 rfl (lv_at hl 0 rfl) ?_
  refine xb_new (pc := 24) (ws' := fun q24_6 => [(h0, .inr (0, [.ref q7_1, .ref q13_2, .null, .null, .null, .int 0, .int 0, .int 0, .int 0])), (q7_1, .inl (G.2.1 3, 80, .inl (fun _ => 0))), (q13_2, .inr (1, [.ref (u17_3 0), .ref (u17_3 4), .ref (u17_3 5), .ref (u17_3 6)])), ((u17_3 0), .inr (2, [.ref (u17_3 1), .ref (u17_3 2), .ref (u17_3 3), .int 0, .int 0])), ((u17_3 1), .inl (G.2.1 0, 81, .inl (fun _ => 0))), ((u17_3 2), .inl (G.2.1 1, 81, .inr (.inl (fun _ => 0)))), ((u17_3 5), .inl (G.2.1 0, 10, .inl (f17_4))), ((u17_3 6), .inl (G.2.1 2, 10, .inl (f17_5))), (q24_6, .inr (4, [.null, .null, .null, .null, .int 0]))]) F h cf_4 k_207 k_208 k_209 df_4 (fun _ => rfl) (by decide) (by decide) d_TypeFinder_init_24 (fun q24_6 H h => ?_)
  refine lv_dup (pc := 27) hx hb d_TypeFinder_init_27 rfl ?_
  refine xb_callI (pc := 28) (rm := rm_Known_init) (wr := [(h0, .inr (0, [.ref q7_1, .ref q13_2, .null, .null, .null, .int 0, .int 0, .int 0, .int 0])), (q7_1, .inl (G.2.1 3, 80, .inl (fun _ => 0))), (q13_2, .inr (1, [.ref (u17_3 0), .ref (u17_3 4), .ref (u17_3 5), .ref (u17_3 6)])), ((u17_3 0), .inr (2, [.ref (u17_3 1), .ref (u17_3 2), .ref (u17_3 3), .int 0, .int 0])), ((u17_3 1), .inl (G.2.1 0, 81, .inl (fun _ => 0))), ((u17_3 2), .inl (G.2.1 1, 81, .inr (.inl (fun _ => 0)))), ((u17_3 5), .inl (G.2.1 0, 10, .inl (f17_4))), ((u17_3 6), .inl (G.2.1 2, 10, .inl (f17_5)))]) F h (ct_Known_init l G q24_6) 0 k_210 k_209 k_211 k_212 rfl hd_TypeFinder_Known_init (by decide) [8] [0, 1, 2, 3, 4, 5, 6, 7] rfl rfl (by decide) (by decide) (by decide) xb_ss0 hl.1 rfl rfl (Nat.le_of_ble_eq_true rfl) (by decide) d_TypeFinder_init_28 (fun u H locs hu h => ?_)
  obtain ⟨u28_7, x28_8, x28_9⟩ := u
  have h : xb_W G A s [(h0, .inr (0, [.ref q7_1, .ref q13_2, .null, .null, .null, .int 0, .int 0, .int 0, .int 0])), (q7_1, .inl (G.2.1 3, 80, .inl (fun _ => 0))), (q13_2, .inr (1, [.ref (u17_3 0), .ref (u17_3 4), .ref (u17_3 5), .ref (u17_3 6)])), ((u17_3 0), .inr (2, [.ref (u17_3 1), .ref (u17_3 2), .ref (u17_3 3), .int 0, .int 0])), ((u17_3 1), .inl (G.2.1 0, 81, .inl (fun _ => 0))), ((u17_3 2), .inl (G.2.1 1, 81, .inr (.inl (fun _ => 0)))), ((u17_3 5), .inl (G.2.1 0, 10, .inl (f17_4))), ((u17_3 6), .inl (G.2.1 2, 10, .inl (f17_5))), (q24_6, .inr (4, [.ref (u28_7 0), .ref (u28_7 5), .ref (u28_7 1), .ref (u28_7 2), .int 6])), ((u28_7 3), .inr (6, [.long x28_8, .int 0, .ref (u28_7 4), .ref (u28_7 5), .int 1])), ((u28_7 1), .inr (11, [.int 2, .ref (u28_7 6), .int 2])), ((u28_7 6), .inl (G.2.1 5, 10, .inr (.inr (.inr (.inr (va_up (va_up (fun _ => none) (Int32.toNatClampNeg 0) (some (u28_7 3))) (Int32.toNatClampNeg 1) (some (u28_7 7)))))))), ((u28_7 7), .inr (6, [.long x28_9, .int 1, .ref (u28_7 8), .ref (u28_7 9), .int 1])), ((u28_7 2), .inr (11, [.int 6, .ref (u28_7 10), .int 6]))] _ _ := h
  refine W.widen (k := 63) (n := 573) (by decide) (by decide) ?_
  refine W.eq (g2 := F0 m 31 ls [.ref q24_6, .ref h0]) rfl ?_
  refine xb_putF (pc := 31) (t0 := (.object "TypeFinder$Known")) (ws' := [(h0, .inr (0, [.ref q7_1, .ref q13_2, .ref q24_6, .null, .null, .int 0, .int 0, .int 0, .int 0])), (q7_1, .inl (G.2.1 3, 80, .inl (fun _ => 0))), (q13_2, .inr (1, [.ref (u17_3 0), .ref (u17_3 4), .ref (u17_3 5), .ref (u17_3 6)])), ((u17_3 0), .inr (2, [.ref (u17_3 1), .ref (u17_3 2), .ref (u17_3 3), .int 0, .int 0])), ((u17_3 1), .inl (G.2.1 0, 81, .inl (fun _ => 0))), ((u17_3 2), .inl (G.2.1 1, 81, .inr (.inl (fun _ => 0)))), ((u17_3 5), .inl (G.2.1 0, 10, .inl (f17_4))), ((u17_3 6), .inl (G.2.1 2, 10, .inl (f17_5))), (q24_6, .inr (4, [.ref (u28_7 0), .ref (u28_7 5), .ref (u28_7 1), .ref (u28_7 2), .int 6])), ((u28_7 3), .inr (6, [.long x28_8, .int 0, .ref (u28_7 4), .ref (u28_7 5), .int 1])), ((u28_7 1), .inr (11, [.int 2, .ref (u28_7 6), .int 2])), ((u28_7 6), .inl (G.2.1 5, 10, .inr (.inr (.inr (.inr (va_up (va_up (fun _ => none) (Int32.toNatClampNeg 0) (some (u28_7 3))) (Int32.toNatClampNeg 1) (some (u28_7 7)))))))), ((u28_7 7), .inr (6, [.long x28_9, .int 1, .ref (u28_7 8), .ref (u28_7 9), .int 1])), ((u28_7 2), .inr (11, [.int 6, .ref (u28_7 10), .int 6]))]) F h hnm cf_0 0 rfl 2 (by decide) rfl k_213 (by decide +kernel) rfl rfl (Nat.le_of_ble_eq_true rfl) rfl d_TypeFinder_init_31 (fun H locs h => ?_)
  refine lv_aload_n (pc := 34) hx hb d_TypeFinder_init_34 rfl (lv_at hl 0 rfl) ?_
  refine xb_new (pc := 35) (ws' := fun q35_10 => [(h0, .inr (0, [.ref q7_1, .ref q13_2, .ref q24_6, .null, .null, .int 0, .int 0, .int 0, .int 0])), (q7_1, .inl (G.2.1 3, 80, .inl (fun _ => 0))), (q13_2, .inr (1, [.ref (u17_3 0), .ref (u17_3 4), .ref (u17_3 5), .ref (u17_3 6)])), ((u17_3 0), .inr (2, [.ref (u17_3 1), .ref (u17_3 2), .ref (u17_3 3), .int 0, .int 0])), ((u17_3 1), .inl (G.2.1 0, 81, .inl (fun _ => 0))), ((u17_3 2), .inl (G.2.1 1, 81, .inr (.inl (fun _ => 0)))), ((u17_3 5), .inl (G.2.1 0, 10, .inl (f17_4))), ((u17_3 6), .inl (G.2.1 2, 10, .inl (f17_5))), (q24_6, .inr (4, [.ref (u28_7 0), .ref (u28_7 5), .ref (u28_7 1), .ref (u28_7 2), .int 6])), ((u28_7 3), .inr (6, [.long x28_8, .int 0, .ref (u28_7 4), .ref (u28_7 5), .int 1])), ((u28_7 1), .inr (11, [.int 2, .ref (u28_7 6), .int 2])), ((u28_7 6), .inl (G.2.1 5, 10, .inr (.inr (.inr (.inr (va_up (va_up (fun _ => none) (Int32.toNatClampNeg 0) (some (u28_7 3))) (Int32.toNatClampNeg 1) (some (u28_7 7)))))))), ((u28_7 7), .inr (6, [.long x28_9, .int 1, .ref (u28_7 8), .ref (u28_7 9), .int 1])), ((u28_7 2), .inr (11, [.int 6, .ref (u28_7 10), .int 6])), (q35_10, .inr (8, [.null, .null, .null, .null, .int 0, .int 0]))]) F h cf_8 k_214 k_215 k_216 df_8 (fun _ => rfl) (by decide) (by decide) d_TypeFinder_init_35 (fun q35_10 H h => ?_)
  refine lv_dup (pc := 38) hx hb d_TypeFinder_init_38 rfl ?_
  refine lv_aload_n (pc := 39) hx hb d_TypeFinder_init_39 rfl (lv_at hl 0 rfl) ?_
  refine xb_get (pc := 40) F h cf_0 0 rfl 2 (by decide) rfl k_213 (Or.inl rfl) rfl d_TypeFinder_init_40 ?_
  refine xb_callI (pc := 43) (rm := rm_Checker_init) (wr := [(h0, .inr (0, [.ref q7_1, .ref q13_2, .ref q24_6, .null, .null, .int 0, .int 0, .int 0, .int 0])), (q7_1, .inl (G.2.1 3, 80, .inl (fun _ => 0))), (q13_2, .inr (1, [.ref (u17_3 0), .ref (u17_3 4), .ref (u17_3 5), .ref (u17_3 6)])), ((u17_3 0), .inr (2, [.ref (u17_3 1), .ref (u17_3 2), .ref (u17_3 3), .int 0, .int 0])), ((u17_3 1), .inl (G.2.1 0, 81, .inl (fun _ => 0))), ((u17_3 2), .inl (G.2.1 1, 81, .inr (.inl (fun _ => 0)))), ((u17_3 5), .inl (G.2.1 0, 10, .inl (f17_4))), ((u17_3 6), .inl (G.2.1 2, 10, .inl (f17_5))), (q24_6, .inr (4, [.ref (u28_7 0), .ref (u28_7 5), .ref (u28_7 1), .ref (u28_7 2), .int 6])), ((u28_7 3), .inr (6, [.long x28_8, .int 0, .ref (u28_7 4), .ref (u28_7 5), .int 1])), ((u28_7 1), .inr (11, [.int 2, .ref (u28_7 6), .int 2])), ((u28_7 6), .inl (G.2.1 5, 10, .inr (.inr (.inr (.inr (va_up (va_up (fun _ => none) (Int32.toNatClampNeg 0) (some (u28_7 3))) (Int32.toNatClampNeg 1) (some (u28_7 7)))))))), ((u28_7 7), .inr (6, [.long x28_9, .int 1, .ref (u28_7 8), .ref (u28_7 9), .int 1])), ((u28_7 2), .inr (11, [.int 6, .ref (u28_7 10), .int 6]))]) F h (ct_Checker_init l G q35_10 q24_6) 1 k_217 k_216 k_218 k_219 rfl hd_TypeFinder_Checker_init (by decide) [14] [0, 1, 2, 3, 4, 5, 6, 7, 8, 9, 10, 11, 12, 13] rfl rfl (by decide) (by decide) (by decide) xb_ss0 hl.1 rfl rfl (Nat.le_of_ble_eq_true rfl) (by decide) d_TypeFinder_init_43 (fun u H locs hu h => ?_)
  have h : xb_W G A s [(h0, .inr (0, [.ref q7_1, .ref q13_2, .ref q24_6, .null, .null, .int 0, .int 0, .int 0, .int 0])), (q7_1, .inl (G.2.1 3, 80, .inl (fun _ => 0))), (q13_2, .inr (1, [.ref (u17_3 0), .ref (u17_3 4), .ref (u17_3 5), .ref (u17_3 6)])), ((u17_3 0), .inr (2, [.ref (u17_3 1), .ref (u17_3 2), .ref (u17_3 3), .int 0, .int 0])), ((u17_3 1), .inl (G.2.1 0, 81, .inl (fun _ => 0))), ((u17_3 2), .inl (G.2.1 1, 81, .inr (.inl (fun _ => 0)))), ((u17_3 5), .inl (G.2.1 0, 10, .inl (f17_4))), ((u17_3 6), .inl (G.2.1 2, 10, .inl (f17_5))), (q24_6, .inr (4, [.ref (u28_7 0), .ref (u28_7 5), .ref (u28_7 1), .ref (u28_7 2), .int 6])), ((u28_7 3), .inr (6, [.long x28_8, .int 0, .ref (u28_7 4), .ref (u28_7 5), .int 1])), ((u28_7 1), .inr (11, [.int 2, .ref (u28_7 6), .int 2])), ((u28_7 6), .inl (G.2.1 5, 10, .inr (.inr (.inr (.inr (va_up (va_up (fun _ => none) (Int32.toNatClampNeg 0) (some (u28_7 3))) (Int32.toNatClampNeg 1) (some (u28_7 7)))))))), ((u28_7 7), .inr (6, [.long x28_9, .int 1, .ref (u28_7 8), .ref (u28_7 9), .int 1])), ((u28_7 2), .inr (11, [.int 6, .ref (u28_7 10), .int 6]))] _ _ := h
  refine W.widen (k := 70) (n := 598) (by decide) (by decide) ?_
  refine W.eq (g2 := F0 m 46 ls [.ref q35_10, .ref h0]) rfl ?_
  refine xb_putF (pc := 46) (t0 := (.object "TypeFinder$Checker")) (ws' := [(h0, .inr (0, [.ref q7_1, .ref q13_2, .ref q24_6, .ref q35_10, .null, .int 0, .int 0, .int 0, .int 0])), (q7_1, .inl (G.2.1 3, 80, .inl (fun _ => 0))), (q13_2, .inr (1, [.ref (u17_3 0), .ref (u17_3 4), .ref (u17_3 5), .ref (u17_3 6)])), ((u17_3 0), .inr (2, [.ref (u17_3 1), .ref (u17_3 2), .ref (u17_3 3), .int 0, .int 0])), ((u17_3 1), .inl (G.2.1 0, 81, .inl (fun _ => 0))), ((u17_3 2), .inl (G.2.1 1, 81, .inr (.inl (fun _ => 0)))), ((u17_3 5), .inl (G.2.1 0, 10, .inl (f17_4))), ((u17_3 6), .inl (G.2.1 2, 10, .inl (f17_5))), (q24_6, .inr (4, [.ref (u28_7 0), .ref (u28_7 5), .ref (u28_7 1), .ref (u28_7 2), .int 6])), ((u28_7 3), .inr (6, [.long x28_8, .int 0, .ref (u28_7 4), .ref (u28_7 5), .int 1])), ((u28_7 1), .inr (11, [.int 2, .ref (u28_7 6), .int 2])), ((u28_7 6), .inl (G.2.1 5, 10, .inr (.inr (.inr (.inr (va_up (va_up (fun _ => none) (Int32.toNatClampNeg 0) (some (u28_7 3))) (Int32.toNatClampNeg 1) (some (u28_7 7)))))))), ((u28_7 7), .inr (6, [.long x28_9, .int 1, .ref (u28_7 8), .ref (u28_7 9), .int 1])), ((u28_7 2), .inr (11, [.int 6, .ref (u28_7 10), .int 6]))]) F h hnm cf_0 0 rfl 3 (by decide) rfl k_220 (by decide +kernel) rfl rfl (Nat.le_of_ble_eq_true rfl) rfl d_TypeFinder_init_46 (fun H locs h => ?_)
  refine lv_aload_n (pc := 49) hx hb d_TypeFinder_init_49 rfl (lv_at hl 0 rfl) ?_
  refine xb_new (pc := 50) (ws' := fun q50_11 => [(h0, .inr (0, [.ref q7_1, .ref q13_2, .ref q24_6, .ref q35_10, .null, .int 0, .int 0, .int 0, .int 0])), (q7_1, .inl (G.2.1 3, 80, .inl (fun _ => 0))), (q13_2, .inr (1, [.ref (u17_3 0), .ref (u17_3 4), .ref (u17_3 5), .ref (u17_3 6)])), ((u17_3 0), .inr (2, [.ref (u17_3 1), .ref (u17_3 2), .ref (u17_3 3), .int 0, .int 0])), ((u17_3 1), .inl (G.2.1 0, 81, .inl (fun _ => 0))), ((u17_3 2), .inl (G.2.1 1, 81, .inr (.inl (fun _ => 0)))), ((u17_3 5), .inl (G.2.1 0, 10, .inl (f17_4))), ((u17_3 6), .inl (G.2.1 2, 10, .inl (f17_5))), (q24_6, .inr (4, [.ref (u28_7 0), .ref (u28_7 5), .ref (u28_7 1), .ref (u28_7 2), .int 6])), ((u28_7 3), .inr (6, [.long x28_8, .int 0, .ref (u28_7 4), .ref (u28_7 5), .int 1])), ((u28_7 1), .inr (11, [.int 2, .ref (u28_7 6), .int 2])), ((u28_7 6), .inl (G.2.1 5, 10, .inr (.inr (.inr (.inr (va_up (va_up (fun _ => none) (Int32.toNatClampNeg 0) (some (u28_7 3))) (Int32.toNatClampNeg 1) (some (u28_7 7)))))))), ((u28_7 7), .inr (6, [.long x28_9, .int 1, .ref (u28_7 8), .ref (u28_7 9), .int 1])), ((u28_7 2), .inr (11, [.int 6, .ref (u28_7 10), .int 6])), (q50_11, .inr (10, [.null, .null]))]) F h cf_10 k_221 k_222 k_223 df_10 (fun _ => rfl) (by decide) (by decide) d_TypeFinder_init_50 (fun q50_11 H h => ?_)
  refine lv_dup (pc := 53) hx hb d_TypeFinder_init_53 rfl ?_
  refine xb_callI (pc := 54) (rm := rm_Writer_init) (wr := [(h0, .inr (0, [.ref q7_1, .ref q13_2, .ref q24_6, .ref q35_10, .null, .int 0, .int 0, .int 0, .int 0])), (q7_1, .inl (G.2.1 3, 80, .inl (fun _ => 0))), (q13_2, .inr (1, [.ref (u17_3 0), .ref (u17_3 4), .ref (u17_3 5), .ref (u17_3 6)])), ((u17_3 0), .inr (2, [.ref (u17_3 1), .ref (u17_3 2), .ref (u17_3 3), .int 0, .int 0])), ((u17_3 1), .inl (G.2.1 0, 81, .inl (fun _ => 0))), ((u17_3 2), .inl (G.2.1 1, 81, .inr (.inl (fun _ => 0)))), ((u17_3 5), .inl (G.2.1 0, 10, .inl (f17_4))), ((u17_3 6), .inl (G.2.1 2, 10, .inl (f17_5))), (q24_6, .inr (4, [.ref (u28_7 0), .ref (u28_7 5), .ref (u28_7 1), .ref (u28_7 2), .int 6])), ((u28_7 3), .inr (6, [.long x28_8, .int 0, .ref (u28_7 4), .ref (u28_7 5), .int 1])), ((u28_7 1), .inr (11, [.int 2, .ref (u28_7 6), .int 2])), ((u28_7 6), .inl (G.2.1 5, 10, .inr (.inr (.inr (.inr (va_up (va_up (fun _ => none) (Int32.toNatClampNeg 0) (some (u28_7 3))) (Int32.toNatClampNeg 1) (some (u28_7 7)))))))), ((u28_7 7), .inr (6, [.long x28_9, .int 1, .ref (u28_7 8), .ref (u28_7 9), .int 1])), ((u28_7 2), .inr (11, [.int 6, .ref (u28_7 10), .int 6]))]) F h (ct_Writer_init l G q50_11) 0 k_224 k_223 k_225 k_226 rfl hd_TypeFinder_Writer_init (by decide) [14] [0, 1, 2, 3, 4, 5, 6, 7, 8, 9, 10, 11, 12, 13] rfl rfl (by decide) (by decide) (by decide) xb_ss0 hl.1 rfl rfl (Nat.le_of_ble_eq_true rfl) (by decide) d_TypeFinder_init_54 (fun u H locs hu h => ?_)
  obtain ⟨q54_12, q54_13, q54_14⟩ := u
  have h : xb_W G A s [(h0, .inr (0, [.ref q7_1, .ref q13_2, .ref q24_6, .ref q35_10, .null, .int 0, .int 0, .int 0, .int 0])), (q7_1, .inl (G.2.1 3, 80, .inl (fun _ => 0))), (q13_2, .inr (1, [.ref (u17_3 0), .ref (u17_3 4), .ref (u17_3 5), .ref (u17_3 6)])), ((u17_3 0), .inr (2, [.ref (u17_3 1), .ref (u17_3 2), .ref (u17_3 3), .int 0, .int 0])), ((u17_3 1), .inl (G.2.1 0, 81, .inl (fun _ => 0))), ((u17_3 2), .inl (G.2.1 1, 81, .inr (.inl (fun _ => 0)))), ((u17_3 5), .inl (G.2.1 0, 10, .inl (f17_4))), ((u17_3 6), .inl (G.2.1 2, 10, .inl (f17_5))), (q24_6, .inr (4, [.ref (u28_7 0), .ref (u28_7 5), .ref (u28_7 1), .ref (u28_7 2), .int 6])), ((u28_7 3), .inr (6, [.long x28_8, .int 0, .ref (u28_7 4), .ref (u28_7 5), .int 1])), ((u28_7 1), .inr (11, [.int 2, .ref (u28_7 6), .int 2])), ((u28_7 6), .inl (G.2.1 5, 10, .inr (.inr (.inr (.inr (va_up (va_up (fun _ => none) (Int32.toNatClampNeg 0) (some (u28_7 3))) (Int32.toNatClampNeg 1) (some (u28_7 7)))))))), ((u28_7 7), .inr (6, [.long x28_9, .int 1, .ref (u28_7 8), .ref (u28_7 9), .int 1])), ((u28_7 2), .inr (11, [.int 6, .ref (u28_7 10), .int 6])), (q50_11, .inr (10, [.ref q54_12, .ref q54_14])), (q54_12, .inr (12, [.ref q54_13, .int 0, .int 0, .int 0])), (q54_14, .inr (11, [.int 0, .ref (G.2.2.1), .int 0]))] _ _ := h
  refine W.widen (k := 74) (n := 623) (by decide) (by decide) ?_
  refine W.eq (g2 := F0 m 57 ls [.ref q50_11, .ref h0]) rfl ?_
  refine xb_putF (pc := 57) (t0 := (.object "TypeFinder$Writer")) (ws' := [(h0, .inr (0, [.ref q7_1, .ref q13_2, .ref q24_6, .ref q35_10, .ref q50_11, .int 0, .int 0, .int 0, .int 0])), (q7_1, .inl (G.2.1 3, 80, .inl (fun _ => 0))), (q13_2, .inr (1, [.ref (u17_3 0), .ref (u17_3 4), .ref (u17_3 5), .ref (u17_3 6)])), ((u17_3 0), .inr (2, [.ref (u17_3 1), .ref (u17_3 2), .ref (u17_3 3), .int 0, .int 0])), ((u17_3 1), .inl (G.2.1 0, 81, .inl (fun _ => 0))), ((u17_3 2), .inl (G.2.1 1, 81, .inr (.inl (fun _ => 0)))), ((u17_3 5), .inl (G.2.1 0, 10, .inl (f17_4))), ((u17_3 6), .inl (G.2.1 2, 10, .inl (f17_5))), (q24_6, .inr (4, [.ref (u28_7 0), .ref (u28_7 5), .ref (u28_7 1), .ref (u28_7 2), .int 6])), ((u28_7 3), .inr (6, [.long x28_8, .int 0, .ref (u28_7 4), .ref (u28_7 5), .int 1])), ((u28_7 1), .inr (11, [.int 2, .ref (u28_7 6), .int 2])), ((u28_7 6), .inl (G.2.1 5, 10, .inr (.inr (.inr (.inr (va_up (va_up (fun _ => none) (Int32.toNatClampNeg 0) (some (u28_7 3))) (Int32.toNatClampNeg 1) (some (u28_7 7)))))))), ((u28_7 7), .inr (6, [.long x28_9, .int 1, .ref (u28_7 8), .ref (u28_7 9), .int 1])), ((u28_7 2), .inr (11, [.int 6, .ref (u28_7 10), .int 6])), (q50_11, .inr (10, [.ref q54_12, .ref q54_14])), (q54_12, .inr (12, [.ref q54_13, .int 0, .int 0, .int 0])), (q54_14, .inr (11, [.int 0, .ref (G.2.2.1), .int 0]))]) F h hnm cf_0 0 rfl 4 (by decide) rfl k_227 (by decide +kernel) rfl rfl (Nat.le_of_ble_eq_true rfl) rfl d_TypeFinder_init_57 (fun H locs h => ?_)
  exact xb_vret (pc := 60) (rm := rm_TypeFinder_init) F hr hlk hA hQ h ((fun i => [q7_1, q13_2, (u17_3 0), (u17_3 1), (u17_3 2), (u17_3 3), (u17_3 4), (u17_3 5), (u17_3 6), q24_6, (u28_7 0), (u28_7 1), (u28_7 2), (u28_7 3), (u28_7 4), (u28_7 5), (u28_7 6), (u28_7 7), (u28_7 8), (u28_7 9), (u28_7 10), q35_10, q50_11, q54_12, q54_13, q54_14].getD i 0), f17_4, f17_5, x28_8, x28_9) trivial rfl [0, 1, 2, 3, 4, 5, 6, 7, 8, 9, 10, 11, 12, 13, 14, 15, 16] (by decide) rfl (by decide) (by decide) d_TypeFinder_init_60
end
